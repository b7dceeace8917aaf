section
-- ===== PART A: goes FIRST, ahead of the names: the tables' words, and 'selects' of the private methods out of them =====
/-- a private method of a class that the tables say can be made, by its rows of tables_1 -/
def lw_okq (q : MethodName × Nat) : Prop := (q.1.cls ≠ "java/lang/invoke/MethodHandle" ∧ q.1.cls ≠ "java/lang/invoke/VarHandle") ∧ Cond.instantiable q.1.cls q.2 ∈ tables_1 ∧ Cond.privateMethod q.1 ∈ tables_1 ∧ Cond.instanceMethod q.1 ∈ tables_1
theorem lw_p0 : lw_okq (⟨"GliderDay", "countOf", "(I)I"⟩, 13) := ⟨⟨by decide +kernel, by decide +kernel⟩, List.mem_of_getElem? (i := 22) (by decide +kernel), List.mem_of_getElem? (i := 145) (by decide +kernel), List.mem_of_getElem? (i := 146) (by decide +kernel)⟩
theorem lw_p1 : lw_okq (⟨"GliderDay", "glidersInTheAir", "()I"⟩, 13) := ⟨⟨by decide +kernel, by decide +kernel⟩, List.mem_of_getElem? (i := 22) (by decide +kernel), List.mem_of_getElem? (i := 149) (by decide +kernel), List.mem_of_getElem? (i := 150) (by decide +kernel)⟩
theorem lw_p2 : lw_okq (⟨"GliderDay", "freeTugs", "()I"⟩, 13) := ⟨⟨by decide +kernel, by decide +kernel⟩, List.mem_of_getElem? (i := 22) (by decide +kernel), List.mem_of_getElem? (i := 154) (by decide +kernel), List.mem_of_getElem? (i := 155) (by decide +kernel)⟩
theorem lw_p3 : lw_okq (⟨"GliderDay", "tugsTaken", "()I"⟩, 13) := ⟨⟨by decide +kernel, by decide +kernel⟩, List.mem_of_getElem? (i := 22) (by decide +kernel), List.mem_of_getElem? (i := 158) (by decide +kernel), List.mem_of_getElem? (i := 159) (by decide +kernel)⟩
theorem lw_p4 : lw_okq (⟨"GliderDay", "mixedMembers", "(J)J"⟩, 13) := ⟨⟨by decide +kernel, by decide +kernel⟩, List.mem_of_getElem? (i := 22) (by decide +kernel), List.mem_of_getElem? (i := 162) (by decide +kernel), List.mem_of_getElem? (i := 163) (by decide +kernel)⟩
theorem lw_p5 : lw_okq (⟨"GliderDay", "mixedGliders", "(J)J"⟩, 13) := ⟨⟨by decide +kernel, by decide +kernel⟩, List.mem_of_getElem? (i := 22) (by decide +kernel), List.mem_of_getElem? (i := 170) (by decide +kernel), List.mem_of_getElem? (i := 171) (by decide +kernel)⟩
theorem lw_p6 : lw_okq (⟨"GliderDay", "mixedFlights", "(J)J"⟩, 13) := ⟨⟨by decide +kernel, by decide +kernel⟩, List.mem_of_getElem? (i := 22) (by decide +kernel), List.mem_of_getElem? (i := 177) (by decide +kernel), List.mem_of_getElem? (i := 178) (by decide +kernel)⟩
theorem lw_p7 : lw_okq (⟨"java/lang/Throwable", "fillInStackTrace", "(I)Ljava/lang/Throwable;"⟩, 6) := ⟨⟨by decide +kernel, by decide +kernel⟩, List.mem_of_getElem? (i := 234) (by decide +kernel), List.mem_of_getElem? (i := 232) (by decide +kernel), List.mem_of_getElem? (i := 233) (by decide +kernel)⟩
theorem lw_p8 : lw_okq (⟨"java/util/ArrayList", "add", "(Ljava/lang/Object;[Ljava/lang/Object;I)V"⟩, 3) := ⟨⟨by decide +kernel, by decide +kernel⟩, List.mem_of_getElem? (i := 30) (by decide +kernel), List.mem_of_getElem? (i := 316) (by decide +kernel), List.mem_of_getElem? (i := 317) (by decide +kernel)⟩
theorem lw_p9 : lw_okq (⟨"java/util/ArrayList", "grow", "()[Ljava/lang/Object;"⟩, 3) := ⟨⟨by decide +kernel, by decide +kernel⟩, List.mem_of_getElem? (i := 30) (by decide +kernel), List.mem_of_getElem? (i := 320) (by decide +kernel), List.mem_of_getElem? (i := 321) (by decide +kernel)⟩
theorem lw_p10 : lw_okq (⟨"java/util/ArrayList", "grow", "(I)[Ljava/lang/Object;"⟩, 3) := ⟨⟨by decide +kernel, by decide +kernel⟩, List.mem_of_getElem? (i := 30) (by decide +kernel), List.mem_of_getElem? (i := 324) (by decide +kernel), List.mem_of_getElem? (i := 325) (by decide +kernel)⟩
theorem lw_p11 : lw_okq (⟨"GliderDay", "gliderAt", "(I)LGliderDay$Glider;"⟩, 13) := ⟨⟨by decide +kernel, by decide +kernel⟩, List.mem_of_getElem? (i := 22) (by decide +kernel), List.mem_of_getElem? (i := 451) (by decide +kernel), List.mem_of_getElem? (i := 452) (by decide +kernel)⟩
theorem lw_p12 : lw_okq (⟨"GliderDay", "memberAt", "(I)LGliderDay$Member;"⟩, 13) := ⟨⟨by decide +kernel, by decide +kernel⟩, List.mem_of_getElem? (i := 22) (by decide +kernel), List.mem_of_getElem? (i := 479) (by decide +kernel), List.mem_of_getElem? (i := 480) (by decide +kernel)⟩
theorem lw_p13 : lw_okq (⟨"GliderDay", "listedFlightAt", "(I)LGliderDay$Flight;"⟩, 13) := ⟨⟨by decide +kernel, by decide +kernel⟩, List.mem_of_getElem? (i := 22) (by decide +kernel), List.mem_of_getElem? (i := 568) (by decide +kernel), List.mem_of_getElem? (i := 569) (by decide +kernel)⟩
theorem lw_p14 : lw_okq (⟨"GliderDay", "flightAt", "(I)LGliderDay$Flight;"⟩, 13) := ⟨⟨by decide +kernel, by decide +kernel⟩, List.mem_of_getElem? (i := 22) (by decide +kernel), List.mem_of_getElem? (i := 572) (by decide +kernel), List.mem_of_getElem? (i := 573) (by decide +kernel)⟩
theorem lw_p15 : lw_okq (⟨"GliderDay", "placeOf", "(LGliderDay$Flight;)I"⟩, 13) := ⟨⟨by decide +kernel, by decide +kernel⟩, List.mem_of_getElem? (i := 22) (by decide +kernel), List.mem_of_getElem? (i := 578) (by decide +kernel), List.mem_of_getElem? (i := 579) (by decide +kernel)⟩
def lw_privs_1 : List (MethodName × Nat) := [(⟨"GliderDay", "countOf", "(I)I"⟩, 13), (⟨"GliderDay", "glidersInTheAir", "()I"⟩, 13), (⟨"GliderDay", "freeTugs", "()I"⟩, 13), (⟨"GliderDay", "tugsTaken", "()I"⟩, 13), (⟨"GliderDay", "mixedMembers", "(J)J"⟩, 13), (⟨"GliderDay", "mixedGliders", "(J)J"⟩, 13), (⟨"GliderDay", "mixedFlights", "(J)J"⟩, 13), (⟨"java/lang/Throwable", "fillInStackTrace", "(I)Ljava/lang/Throwable;"⟩, 6), (⟨"java/util/ArrayList", "add", "(Ljava/lang/Object;[Ljava/lang/Object;I)V"⟩, 3), (⟨"java/util/ArrayList", "grow", "()[Ljava/lang/Object;"⟩, 3), (⟨"java/util/ArrayList", "grow", "(I)[Ljava/lang/Object;"⟩, 3), (⟨"GliderDay", "gliderAt", "(I)LGliderDay$Glider;"⟩, 13), (⟨"GliderDay", "memberAt", "(I)LGliderDay$Member;"⟩, 13), (⟨"GliderDay", "listedFlightAt", "(I)LGliderDay$Flight;"⟩, 13), (⟨"GliderDay", "flightAt", "(I)LGliderDay$Flight;"⟩, 13), (⟨"GliderDay", "placeOf", "(LGliderDay$Flight;)I"⟩, 13)]
theorem lw_r1 : ∀ q ∈ lw_privs_1, lw_okq q := List.forall_mem_cons.mpr ⟨lw_p0, List.forall_mem_cons.mpr ⟨lw_p1, List.forall_mem_cons.mpr ⟨lw_p2, List.forall_mem_cons.mpr ⟨lw_p3, List.forall_mem_cons.mpr ⟨lw_p4, List.forall_mem_cons.mpr ⟨lw_p5, List.forall_mem_cons.mpr ⟨lw_p6, List.forall_mem_cons.mpr ⟨lw_p7, List.forall_mem_cons.mpr ⟨lw_p8, List.forall_mem_cons.mpr ⟨lw_p9, List.forall_mem_cons.mpr ⟨lw_p10, List.forall_mem_cons.mpr ⟨lw_p11, List.forall_mem_cons.mpr ⟨lw_p12, List.forall_mem_cons.mpr ⟨lw_p13, List.forall_mem_cons.mpr ⟨lw_p14, List.forall_mem_cons.mpr ⟨lw_p15, fun _ h => absurd h List.not_mem_nil⟩⟩⟩⟩⟩⟩⟩⟩⟩⟩⟩⟩⟩⟩⟩⟩
theorem lw_p16 : lw_okq (⟨"GliderDay", "takeOffList", "(I)V"⟩, 13) := ⟨⟨by decide +kernel, by decide +kernel⟩, List.mem_of_getElem? (i := 22) (by decide +kernel), List.mem_of_getElem? (i := 582) (by decide +kernel), List.mem_of_getElem? (i := 583) (by decide +kernel)⟩
theorem lw_p17 : lw_okq (⟨"java/util/ArrayList", "fastRemove", "([Ljava/lang/Object;I)V"⟩, 3) := ⟨⟨by decide +kernel, by decide +kernel⟩, List.mem_of_getElem? (i := 30) (by decide +kernel), List.mem_of_getElem? (i := 590) (by decide +kernel), List.mem_of_getElem? (i := 591) (by decide +kernel)⟩
theorem lw_p18 : lw_okq (⟨"GliderDay", "reasonAgainst", "(LGliderDay$Flight;)I"⟩, 13) := ⟨⟨by decide +kernel, by decide +kernel⟩, List.mem_of_getElem? (i := 22) (by decide +kernel), List.mem_of_getElem? (i := 610) (by decide +kernel), List.mem_of_getElem? (i := 611) (by decide +kernel)⟩
theorem lw_p19 : lw_okq (⟨"GliderDay", "isTooWindyFor", "(LGliderDay$Flight;)Z"⟩, 13) := ⟨⟨by decide +kernel, by decide +kernel⟩, List.mem_of_getElem? (i := 22) (by decide +kernel), List.mem_of_getElem? (i := 623) (by decide +kernel), List.mem_of_getElem? (i := 624) (by decide +kernel)⟩
theorem lw_p20 : lw_okq (⟨"GliderDay", "hasNothingToLaunch", "(LGliderDay$Flight;)Z"⟩, 13) := ⟨⟨by decide +kernel, by decide +kernel⟩, List.mem_of_getElem? (i := 22) (by decide +kernel), List.mem_of_getElem? (i := 630) (by decide +kernel), List.mem_of_getElem? (i := 631) (by decide +kernel)⟩
theorem lw_p21 : lw_okq (⟨"GliderDay", "passMinute", "()Z"⟩, 13) := ⟨⟨by decide +kernel, by decide +kernel⟩, List.mem_of_getElem? (i := 22) (by decide +kernel), List.mem_of_getElem? (i := 651) (by decide +kernel), List.mem_of_getElem? (i := 652) (by decide +kernel)⟩
theorem lw_p22 : lw_okq (⟨"GliderDay", "freeCables", "()V"⟩, 13) := ⟨⟨by decide +kernel, by decide +kernel⟩, List.mem_of_getElem? (i := 22) (by decide +kernel), List.mem_of_getElem? (i := 655) (by decide +kernel), List.mem_of_getElem? (i := 656) (by decide +kernel)⟩
theorem lw_p23 : lw_okq (⟨"GliderDay", "freeDueTugs", "()V"⟩, 13) := ⟨⟨by decide +kernel, by decide +kernel⟩, List.mem_of_getElem? (i := 22) (by decide +kernel), List.mem_of_getElem? (i := 659) (by decide +kernel), List.mem_of_getElem? (i := 660) (by decide +kernel)⟩
theorem lw_p24 : lw_okq (⟨"GliderDay", "beginToWait", "()V"⟩, 13) := ⟨⟨by decide +kernel, by decide +kernel⟩, List.mem_of_getElem? (i := 22) (by decide +kernel), List.mem_of_getElem? (i := 663) (by decide +kernel), List.mem_of_getElem? (i := 664) (by decide +kernel)⟩
theorem lw_p25 : lw_okq (⟨"GliderDay", "mustLand", "(LGliderDay$Glider;)Z"⟩, 13) := ⟨⟨by decide +kernel, by decide +kernel⟩, List.mem_of_getElem? (i := 22) (by decide +kernel), List.mem_of_getElem? (i := 667) (by decide +kernel), List.mem_of_getElem? (i := 668) (by decide +kernel)⟩
theorem lw_p26 : lw_okq (⟨"GliderDay", "landFirstWaiting", "()V"⟩, 13) := ⟨⟨by decide +kernel, by decide +kernel⟩, List.mem_of_getElem? (i := 22) (by decide +kernel), List.mem_of_getElem? (i := 671) (by decide +kernel), List.mem_of_getElem? (i := 672) (by decide +kernel)⟩
theorem lw_p27 : lw_okq (⟨"GliderDay", "land", "(LGliderDay$Glider;LGliderDay$Flight;)V"⟩, 13) := ⟨⟨by decide +kernel, by decide +kernel⟩, List.mem_of_getElem? (i := 22) (by decide +kernel), List.mem_of_getElem? (i := 679) (by decide +kernel), List.mem_of_getElem? (i := 680) (by decide +kernel)⟩
theorem lw_p28 : lw_okq (⟨"GliderDay", "startFirstThatCan", "()Z"⟩, 13) := ⟨⟨by decide +kernel, by decide +kernel⟩, List.mem_of_getElem? (i := 22) (by decide +kernel), List.mem_of_getElem? (i := 693) (by decide +kernel), List.mem_of_getElem? (i := 694) (by decide +kernel)⟩
theorem lw_p29 : lw_okq (⟨"GliderDay", "start", "(LGliderDay$Flight;)V"⟩, 13) := ⟨⟨by decide +kernel, by decide +kernel⟩, List.mem_of_getElem? (i := 22) (by decide +kernel), List.mem_of_getElem? (i := 697) (by decide +kernel), List.mem_of_getElem? (i := 698) (by decide +kernel)⟩
theorem lw_p30 : lw_okq (⟨"GliderDay", "takeCable", "()V"⟩, 13) := ⟨⟨by decide +kernel, by decide +kernel⟩, List.mem_of_getElem? (i := 22) (by decide +kernel), List.mem_of_getElem? (i := 701) (by decide +kernel), List.mem_of_getElem? (i := 702) (by decide +kernel)⟩
theorem lw_p31 : lw_okq (⟨"GliderDay", "takeTug", "(I)V"⟩, 13) := ⟨⟨by decide +kernel, by decide +kernel⟩, List.mem_of_getElem? (i := 22) (by decide +kernel), List.mem_of_getElem? (i := 705) (by decide +kernel), List.mem_of_getElem? (i := 706) (by decide +kernel)⟩
def lw_privs_2 : List (MethodName × Nat) := [(⟨"GliderDay", "takeOffList", "(I)V"⟩, 13), (⟨"java/util/ArrayList", "fastRemove", "([Ljava/lang/Object;I)V"⟩, 3), (⟨"GliderDay", "reasonAgainst", "(LGliderDay$Flight;)I"⟩, 13), (⟨"GliderDay", "isTooWindyFor", "(LGliderDay$Flight;)Z"⟩, 13), (⟨"GliderDay", "hasNothingToLaunch", "(LGliderDay$Flight;)Z"⟩, 13), (⟨"GliderDay", "passMinute", "()Z"⟩, 13), (⟨"GliderDay", "freeCables", "()V"⟩, 13), (⟨"GliderDay", "freeDueTugs", "()V"⟩, 13), (⟨"GliderDay", "beginToWait", "()V"⟩, 13), (⟨"GliderDay", "mustLand", "(LGliderDay$Glider;)Z"⟩, 13), (⟨"GliderDay", "landFirstWaiting", "()V"⟩, 13), (⟨"GliderDay", "land", "(LGliderDay$Glider;LGliderDay$Flight;)V"⟩, 13), (⟨"GliderDay", "startFirstThatCan", "()Z"⟩, 13), (⟨"GliderDay", "start", "(LGliderDay$Flight;)V"⟩, 13), (⟨"GliderDay", "takeCable", "()V"⟩, 13), (⟨"GliderDay", "takeTug", "(I)V"⟩, 13)]
theorem lw_r2 : ∀ q ∈ lw_privs_2, lw_okq q := List.forall_mem_cons.mpr ⟨lw_p16, List.forall_mem_cons.mpr ⟨lw_p17, List.forall_mem_cons.mpr ⟨lw_p18, List.forall_mem_cons.mpr ⟨lw_p19, List.forall_mem_cons.mpr ⟨lw_p20, List.forall_mem_cons.mpr ⟨lw_p21, List.forall_mem_cons.mpr ⟨lw_p22, List.forall_mem_cons.mpr ⟨lw_p23, List.forall_mem_cons.mpr ⟨lw_p24, List.forall_mem_cons.mpr ⟨lw_p25, List.forall_mem_cons.mpr ⟨lw_p26, List.forall_mem_cons.mpr ⟨lw_p27, List.forall_mem_cons.mpr ⟨lw_p28, List.forall_mem_cons.mpr ⟨lw_p29, List.forall_mem_cons.mpr ⟨lw_p30, List.forall_mem_cons.mpr ⟨lw_p31, fun _ h => absurd h List.not_mem_nil⟩⟩⟩⟩⟩⟩⟩⟩⟩⟩⟩⟩⟩⟩⟩⟩
theorem lw_p32 : lw_okq (⟨"GliderDayModel", "no", "(I)I"⟩, 30) := ⟨⟨by decide +kernel, by decide +kernel⟩, List.mem_of_getElem? (i := 740) (by decide +kernel), List.mem_of_getElem? (i := 849) (by decide +kernel), List.mem_of_getElem? (i := 850) (by decide +kernel)⟩
theorem lw_p33 : lw_okq (⟨"GliderDayModel", "takenTugs", "()I"⟩, 30) := ⟨⟨by decide +kernel, by decide +kernel⟩, List.mem_of_getElem? (i := 740) (by decide +kernel), List.mem_of_getElem? (i := 869) (by decide +kernel), List.mem_of_getElem? (i := 870) (by decide +kernel)⟩
theorem lw_p34 : lw_okq (⟨"GliderDayModel", "isGlider", "(I)Z"⟩, 30) := ⟨⟨by decide +kernel, by decide +kernel⟩, List.mem_of_getElem? (i := 740) (by decide +kernel), List.mem_of_getElem? (i := 877) (by decide +kernel), List.mem_of_getElem? (i := 878) (by decide +kernel)⟩
theorem lw_p35 : lw_okq (⟨"GliderDayModel", "flightOf", "(I)I"⟩, 30) := ⟨⟨by decide +kernel, by decide +kernel⟩, List.mem_of_getElem? (i := 740) (by decide +kernel), List.mem_of_getElem? (i := 881) (by decide +kernel), List.mem_of_getElem? (i := 882) (by decide +kernel)⟩
theorem lw_p36 : lw_okq (⟨"GliderDayModel", "isMember", "(I)Z"⟩, 30) := ⟨⟨by decide +kernel, by decide +kernel⟩, List.mem_of_getElem? (i := 740) (by decide +kernel), List.mem_of_getElem? (i := 889) (by decide +kernel), List.mem_of_getElem? (i := 890) (by decide +kernel)⟩
theorem lw_p37 : lw_okq (⟨"GliderDayModel", "landed", "(II)I"⟩, 30) := ⟨⟨by decide +kernel, by decide +kernel⟩, List.mem_of_getElem? (i := 740) (by decide +kernel), List.mem_of_getElem? (i := 893) (by decide +kernel), List.mem_of_getElem? (i := 894) (by decide +kernel)⟩
theorem lw_p38 : lw_okq (⟨"GliderDayModel", "withTeacher", "(I)Z"⟩, 30) := ⟨⟨by decide +kernel, by decide +kernel⟩, List.mem_of_getElem? (i := 740) (by decide +kernel), List.mem_of_getElem? (i := 897) (by decide +kernel), List.mem_of_getElem? (i := 898) (by decide +kernel)⟩
theorem lw_p39 : lw_okq (⟨"GliderDayModel", "flies", "(I)Z"⟩, 30) := ⟨⟨by decide +kernel, by decide +kernel⟩, List.mem_of_getElem? (i := 740) (by decide +kernel), List.mem_of_getElem? (i := 901) (by decide +kernel), List.mem_of_getElem? (i := 902) (by decide +kernel)⟩
theorem lw_p40 : lw_okq (⟨"GliderDayModel", "toldOfMember", "(II)I"⟩, 30) := ⟨⟨by decide +kernel, by decide +kernel⟩, List.mem_of_getElem? (i := 740) (by decide +kernel), List.mem_of_getElem? (i := 909) (by decide +kernel), List.mem_of_getElem? (i := 910) (by decide +kernel)⟩
theorem lw_p41 : lw_okq (⟨"GliderDayModel", "toldOfGlider", "(II)I"⟩, 30) := ⟨⟨by decide +kernel, by decide +kernel⟩, List.mem_of_getElem? (i := 740) (by decide +kernel), List.mem_of_getElem? (i := 917) (by decide +kernel), List.mem_of_getElem? (i := 918) (by decide +kernel)⟩
theorem lw_p42 : lw_okq (⟨"GliderDayModel", "with", "(I)I"⟩, 30) := ⟨⟨by decide +kernel, by decide +kernel⟩, List.mem_of_getElem? (i := 740) (by decide +kernel), List.mem_of_getElem? (i := 925) (by decide +kernel), List.mem_of_getElem? (i := 926) (by decide +kernel)⟩
theorem lw_p43 : lw_okq (⟨"GliderDayModel", "isFlight", "(I)Z"⟩, 30) := ⟨⟨by decide +kernel, by decide +kernel⟩, List.mem_of_getElem? (i := 740) (by decide +kernel), List.mem_of_getElem? (i := 933) (by decide +kernel), List.mem_of_getElem? (i := 934) (by decide +kernel)⟩
theorem lw_p44 : lw_okq (⟨"GliderDayModel", "place", "(I)I"⟩, 30) := ⟨⟨by decide +kernel, by decide +kernel⟩, List.mem_of_getElem? (i := 740) (by decide +kernel), List.mem_of_getElem? (i := 937) (by decide +kernel), List.mem_of_getElem? (i := 938) (by decide +kernel)⟩
theorem lw_p45 : lw_okq (⟨"GliderDayModel", "reasonOf", "(I)I"⟩, 30) := ⟨⟨by decide +kernel, by decide +kernel⟩, List.mem_of_getElem? (i := 740) (by decide +kernel), List.mem_of_getElem? (i := 949) (by decide +kernel), List.mem_of_getElem? (i := 950) (by decide +kernel)⟩
theorem lw_p46 : lw_okq (⟨"GliderDayModel", "isBusyNow", "()Z"⟩, 30) := ⟨⟨by decide +kernel, by decide +kernel⟩, List.mem_of_getElem? (i := 740) (by decide +kernel), List.mem_of_getElem? (i := 956) (by decide +kernel), List.mem_of_getElem? (i := 957) (by decide +kernel)⟩
theorem lw_p47 : lw_okq (⟨"GliderDayModel", "minute", "()Z"⟩, 30) := ⟨⟨by decide +kernel, by decide +kernel⟩, List.mem_of_getElem? (i := 740) (by decide +kernel), List.mem_of_getElem? (i := 968) (by decide +kernel), List.mem_of_getElem? (i := 969) (by decide +kernel)⟩
def lw_privs_3 : List (MethodName × Nat) := [(⟨"GliderDayModel", "no", "(I)I"⟩, 30), (⟨"GliderDayModel", "takenTugs", "()I"⟩, 30), (⟨"GliderDayModel", "isGlider", "(I)Z"⟩, 30), (⟨"GliderDayModel", "flightOf", "(I)I"⟩, 30), (⟨"GliderDayModel", "isMember", "(I)Z"⟩, 30), (⟨"GliderDayModel", "landed", "(II)I"⟩, 30), (⟨"GliderDayModel", "withTeacher", "(I)Z"⟩, 30), (⟨"GliderDayModel", "flies", "(I)Z"⟩, 30), (⟨"GliderDayModel", "toldOfMember", "(II)I"⟩, 30), (⟨"GliderDayModel", "toldOfGlider", "(II)I"⟩, 30), (⟨"GliderDayModel", "with", "(I)I"⟩, 30), (⟨"GliderDayModel", "isFlight", "(I)Z"⟩, 30), (⟨"GliderDayModel", "place", "(I)I"⟩, 30), (⟨"GliderDayModel", "reasonOf", "(I)I"⟩, 30), (⟨"GliderDayModel", "isBusyNow", "()Z"⟩, 30), (⟨"GliderDayModel", "minute", "()Z"⟩, 30)]
theorem lw_r3 : ∀ q ∈ lw_privs_3, lw_okq q := List.forall_mem_cons.mpr ⟨lw_p32, List.forall_mem_cons.mpr ⟨lw_p33, List.forall_mem_cons.mpr ⟨lw_p34, List.forall_mem_cons.mpr ⟨lw_p35, List.forall_mem_cons.mpr ⟨lw_p36, List.forall_mem_cons.mpr ⟨lw_p37, List.forall_mem_cons.mpr ⟨lw_p38, List.forall_mem_cons.mpr ⟨lw_p39, List.forall_mem_cons.mpr ⟨lw_p40, List.forall_mem_cons.mpr ⟨lw_p41, List.forall_mem_cons.mpr ⟨lw_p42, List.forall_mem_cons.mpr ⟨lw_p43, List.forall_mem_cons.mpr ⟨lw_p44, List.forall_mem_cons.mpr ⟨lw_p45, List.forall_mem_cons.mpr ⟨lw_p46, List.forall_mem_cons.mpr ⟨lw_p47, fun _ h => absurd h List.not_mem_nil⟩⟩⟩⟩⟩⟩⟩⟩⟩⟩⟩⟩⟩⟩⟩⟩
theorem lw_p48 : lw_okq (⟨"GliderDayModel", "land", "(I)V"⟩, 30) := ⟨⟨by decide +kernel, by decide +kernel⟩, List.mem_of_getElem? (i := 740) (by decide +kernel), List.mem_of_getElem? (i := 972) (by decide +kernel), List.mem_of_getElem? (i := 973) (by decide +kernel)⟩
theorem lw_p49 : lw_okq (⟨"GliderDayModel", "begin", "(I)V"⟩, 30) := ⟨⟨by decide +kernel, by decide +kernel⟩, List.mem_of_getElem? (i := 740) (by decide +kernel), List.mem_of_getElem? (i := 976) (by decide +kernel), List.mem_of_getElem? (i := 977) (by decide +kernel)⟩
theorem lw_p50 : lw_okq (⟨"GliderDayModel", "toldOf", "(II)I"⟩, 30) := ⟨⟨by decide +kernel, by decide +kernel⟩, List.mem_of_getElem? (i := 740) (by decide +kernel), List.mem_of_getElem? (i := 988) (by decide +kernel), List.mem_of_getElem? (i := 989) (by decide +kernel)⟩
theorem lw_p51 : lw_okq (⟨"GliderDayModel", "costOf", "(I)I"⟩, 30) := ⟨⟨by decide +kernel, by decide +kernel⟩, List.mem_of_getElem? (i := 740) (by decide +kernel), List.mem_of_getElem? (i := 992) (by decide +kernel), List.mem_of_getElem? (i := 993) (by decide +kernel)⟩
theorem lw_p52 : lw_okq (⟨"GliderDayModel", "counted", "(I)I"⟩, 30) := ⟨⟨by decide +kernel, by decide +kernel⟩, List.mem_of_getElem? (i := 740) (by decide +kernel), List.mem_of_getElem? (i := 1001) (by decide +kernel), List.mem_of_getElem? (i := 1002) (by decide +kernel)⟩
theorem lw_p53 : lw_okq (⟨"GliderDayModel", "billOf", "(I)I"⟩, 30) := ⟨⟨by decide +kernel, by decide +kernel⟩, List.mem_of_getElem? (i := 740) (by decide +kernel), List.mem_of_getElem? (i := 1013) (by decide +kernel), List.mem_of_getElem? (i := 1014) (by decide +kernel)⟩
def lw_privs_4 : List (MethodName × Nat) := [(⟨"GliderDayModel", "land", "(I)V"⟩, 30), (⟨"GliderDayModel", "begin", "(I)V"⟩, 30), (⟨"GliderDayModel", "toldOf", "(II)I"⟩, 30), (⟨"GliderDayModel", "costOf", "(I)I"⟩, 30), (⟨"GliderDayModel", "counted", "(I)I"⟩, 30), (⟨"GliderDayModel", "billOf", "(I)I"⟩, 30)]
theorem lw_r4 : ∀ q ∈ lw_privs_4, lw_okq q := List.forall_mem_cons.mpr ⟨lw_p48, List.forall_mem_cons.mpr ⟨lw_p49, List.forall_mem_cons.mpr ⟨lw_p50, List.forall_mem_cons.mpr ⟨lw_p51, List.forall_mem_cons.mpr ⟨lw_p52, List.forall_mem_cons.mpr ⟨lw_p53, fun _ h => absurd h List.not_mem_nil⟩⟩⟩⟩⟩⟩
def lw_privs : List (MethodName × Nat) := lw_privs_1 ++ (lw_privs_2 ++ (lw_privs_3 ++ (lw_privs_4)))
def lw_tbl : List Cond := k2_sels lw_privs ++ tables_1
theorem lw_privs_ok : ∀ q ∈ lw_privs, lw_okq q := by
  show ∀ q ∈ lw_privs_1 ++ (lw_privs_2 ++ (lw_privs_3 ++ (lw_privs_4))), lw_okq q
  exact List.forall_mem_append.mpr ⟨lw_r1, List.forall_mem_append.mpr ⟨lw_r2, List.forall_mem_append.mpr ⟨lw_r3, lw_r4⟩⟩⟩
/-- the streams that the claim lets the run draw from -/
abbrev lw_cs : List Choice := [Jvm.Choice.named "NaN.bits"]
theorem lw_bits : nanBits ∈ lw_cs := by first | decide | exact List.mem_cons_self | simp [lw_cs, nanBits]
-- ===== end of PART A; then your names; then what follows =====
end
section
/-! ===== BEGIN words of one list among another's, by their places ===== -/
theorem goodIn_r {big : List Cond} (ws : List Cond) (ps : List Nat) (hp : ws = ps.filterMap (fun i => big[i]?)) (h : ws.all goodWord = true) : GoodIn big ws := by
  intro w hw
  have h1 := List.all_eq_true.mp h w hw
  rw [hp] at hw
  obtain ⟨i, -, hi⟩ := List.mem_filterMap.mp hw
  have hm : w ∈ big := by first | exact List.mem_of_getElem? hi | exact List.getElem?_mem hi
  exact ⟨hm, good_of_word h1⟩
theorem goodIn_app {big a b : List Cond} (ha : GoodIn big a) (hb : GoodIn big b) : GoodIn big (a ++ b) := fun w h => (List.mem_append.mp h).elim (ha w) (hb w)
theorem goodIn_ca {big a b : List Cond} {c : Cond} (ha : GoodIn big (c :: a)) (hb : GoodIn big b) : GoodIn big (c :: (a ++ b)) := fun w h => (List.mem_cons.mp h).elim (fun e => ha w (List.mem_cons.mpr (Or.inl e))) (fun h => (List.mem_append.mp h).elim (fun h => ha w (List.mem_cons.mpr (Or.inr h))) (hb w))
theorem goodIn_sub {big ws : List Cond} (hm : ∀ w ∈ ws, w ∈ big) (h : ws.all goodWord = true) : GoodIn big ws := fun w hw => ⟨hm w hw, good_of_word (List.all_eq_true.mp h w hw)⟩
/-! ===== END ===== -/

/-! ===== BEGIN exceptions that leave a method, and their catching by the caller (launches without stack traces) ===== -/
section VXA
/-! The laws vx_back, vx_callV, vx_callS, vx_callSW, vx_throw0, vx_throwS follow proofs of the library, with one case more: JvmDerived/Free/Laws.lean (Back.of_free), Shelf42/LK1.lean (callV, callS), Shelf/KitTraced.lean (throwNew0V, throwNewS). -/
/-- where a method has thrown q: the class by its name, the cell, what was written, the world -/
def vx_T (XC : String → State → State → Prop) (st : State) (q : Addr) (t : State) (mc ms : Nat) (free : Addr → Prop) : Prop :=
  ∃ (E : String) (ce : Cell) (L : List Loc), XC E st t ∧ t.heap[q]? = some ce ∧ ce.vm = .none ∧ st.vm.findClass E = some ce.cls ∧ st.WarmedH t.vm ∧ st.sameButNew ({ t with vm := st.vm } : State) L mc ms ∧ ∀ z ∈ L, free z.base
def vx_Q (Qc : Array Value → State → Outcome → State → Prop) (XC : String → State → State → Prop) (mc ms : Nat) (free : Addr → Prop) : Array Value → State → Outcome → State → Prop := fun a st o t =>
  (Qc a st o t ∧ ∃ L, FrameEnd st o t L mc ms ∧ ∀ q ∈ L, free q.base) ∨ ∃ q, o = .threw q ∧ vx_T XC st q t mc ms free
/-- a callee that returns or throws -/
def vx_Met (l : Launch) (y : MethodName) (ws : List Cond) (rm : Room) (Pc : Array Value → State → Prop) (Qc : Array Value → State → Outcome → State → Prop) (XC : String → State → State → Prop) (mc ms : Nat) (free : Addr → Prop) : Prop :=
  MetFree l y (headSpec ws rm) Pc (fun _ _ _ _ _ => True) (vx_Q Qc XC mc ms free)
def vx_Post (XC : String → State → State → Prop) (mc ms : Nat) (free : Addr → Prop) : Pt → Array Value → Addr → Pt → Prop := fun A a q B =>
  ∃ (g : JFrame) (mk : MethodId) (t : State) (L : List Loc) (E : String) (ce : Cell), B.U.heap = t.heap ∧ B.U.vm = t.vm ∧ XC E (A.U.calling g mk a) t ∧ t.heap[q]? = some ce ∧ ce.vm = .none ∧ A.U.vm.findClass E = some ce.cls ∧ B.locs = A.locs ++ L ∧ (∀ z ∈ L, free z.base) ∧ B.cells = A.cells + mc ∧ B.slots = A.slots + ms
def vx_Back (l : Launch) (R : Room) (p : Program) (e : Env) (below : List Frame) (s : State) (sargs : Array Value) (y : MethodName) (len W9 : Nat)
    (Pre : Pt → Array Value → Prop) (Post : Pt → Array Value → Option Value → Pt → Prop) (PostX : Pt → Array Value → Addr → Pt → Prop) : Prop :=
  ∀ (m : MethodId) (meth : Method) (c : Code) (A : Pt) (g : JFrame) (ig : Instr) (mk : MethodId) (a : Array Value),
    Stand p l e R s m sargs below meth c A.U A.locs A.cells A.slots → g.method = m → g.locals.size = c.maxLocals → decode c.code g.pc = .ok (ig, len) →
    2 * g.monitorRoom + (g.stack.map fun v => v.category).sum ≤ W9 → A.U.methodNamed? y = some mk → Pre A a →
    (∃ (v : Option Value) (B : Pt), Stand p l e R s m sargs below meth c B.U B.locs B.cells B.slots ∧ Post A a v B ∧
      Steps p.tables e below (doInvoke e (A.U.setTop g) [] mk a).1 (B.U.setTop { g with pc := g.pc + len, stack := v.toList ++ g.stack })) ∨
    (∃ (q : Addr) (B : Pt), Stand p l e R s m sargs below meth c B.U B.locs B.cells B.slots ∧ PostX A a q B ∧
      Steps p.tables e below (doInvoke e (A.U.setTop g) [] mk a).1 ((B.U.setTop g).pushFrame (.throwing q)))
section Payer
variable {l : Launch} {R : Room} {p : Program} {e : Env} {below : List Frame} {s : State} {sargs : Array Value} {y : MethodName} {len W9 : Nat}
theorem vx_back {ws : List Cond} {rm : Room} {Pc : Array Value → State → Prop} {Qc : Array Value → State → Outcome → State → Prop} {XC : String → State → State → Prop} {mc ms : Nat} {free : Addr → Prop} {bytes : ByteArray} {maxL : Nat} {ret : Option FieldType}
    (hM : vx_Met l y ws rm Pc Qc XC mc ms free) (hblind : FrameBlind Pc) (hrc : rm.cells = mc) (hrs : rm.slots = ms)
    (hframes : rm.frames + 1 ≤ R.frames) (hlocals : W9 + (maxL + 11) + rm.locals ≤ R.locals)
    (hws : ∀ w ∈ ws, ∀ a' U, s.WarmedH U.vm → w.before a' U = true) (hcode : Cond.code y bytes maxL ret ∈ ws) (hinit : ∀ a' U, s.WarmedH U.vm → (Cond.initialized y.cls).before a' U = true) :
    vx_Back l R p e below s sargs y len W9 (PreOf R mc ms Pc) (PostOf Qc mc ms free) (vx_Post XC mc ms free) := by
  intro m meth c A g ig mk a X hg hsize hdg hW hn hp
  have h1 : (headSpec ws rm).pre.before a A.U = true := atoms_intro fun w hw => hws w hw _ _ X.warmed
  have h2 : (Cond.code y bytes maxL ret).before a A.U = true := hws _ hcode _ _ X.warmed
  have h3 : (Cond.initialized y.cls).before a A.U = true := hinit _ _ X.warmed
  have h4 : A.cells + (headSpec ws rm).room.cells ≤ R.cells := by rw [show (headSpec ws rm).room.cells = mc from hrc]; exact hp.1
  have h5 : A.slots + (headSpec ws rm).room.slots ≤ R.slots := by rw [show (headSpec ws rm).room.slots = ms from hrs]; exact hp.2.1
  have hPc : Pc a (A.U.calling g mk a) := hblind _ _ _ _ hp.2.2
  obtain ⟨U, Ls, c0, s0⟩ := A
  dsimp only [Pt.U, Pt.locs, Pt.cells, Pt.slots] at h1 h2 h3 h4 h5 X hn hPc ⊢
  obtain ⟨methY, cY, hmY, hcY, -, hlY, -, -, -, -⟩ := Cond.code_spec hn h2
  obtain ⟨kY, hkY, -⟩ := className_of_methodNamed hn
  have hinitY : kY.init = .initialized := Cond.initialized_spec (findClass_of_methodNamed hn) hkY h3
  have h : At U g.method c below := by rw [hg]; exact X.here
  have hlocals9 : W9 + (maxL + 11) + (headSpec ws rm).room.locals ≤ R.locals := hlocals
  have happ : (headSpec ws rm).appliesLoose y e.platform (U.calling g mk a) = true :=
    Spec.appliesLoose_calling (g := g) h hdg hn hkY hinitY
      (X.room_calling (g := g) (R' := (headSpec ws rm).room) hsize hmY hcY hframes (by rw [hlY]; omega) h4 h5) h1
  obtain ⟨mid, hmid⟩ := h.above
  have hfr : (U.setTop g).frames = (.java g :: mid) ++ below := by rw [State.frames_setTop' g h.top, hmid]; rfl
  obtain ⟨o, s₂, hsteps, -, hend, hq⟩ := Steps.callFree hM p X.admits X.cas X.clock (acts := []) hfr happ hPc trivial
  have hq' : vx_Q Qc XC mc ms free a (U.calling g mk a) o s₂ := hq
  rw [State.frames_setTop' g h.top] at hend
  obtain ⟨g₀, hg0⟩ := Option.isSome_iff_exists.mp h.top
  obtain ⟨r, hr⟩ := State.topJava?_eq_some.mp hg0
  have hr' : (({ U with heap := s₂.heap, slotsUsed := s₂.slotsUsed } : State).setVm s₂.vm).frames = .java g₀ :: r := hr
  rcases hq' with ⟨hqc, L, hfe, hL⟩ | ⟨q, rfl, E, ce, L, hx, hce, hcv, hcl, hW₂, hsm, hL⟩
  · obtain ⟨⟨v, rfl⟩, hW₂, e2, q2, q3, q4, q5, q6⟩ := id hfe
    have e3 : s₂ = ({ (U.calling g mk a).setFrames s₂.frames with heap := s₂.heap, slotsUsed := s₂.slotsUsed } : State).setVm s₂.vm := by
      have : s₂ = ({ s₂ with vm := (U.calling g mk a).vm } : State).setVm s₂.vm := rfl
      rw [e2] at this
      exact this
    obtain ⟨c₂, i₂, len₂, hc₂, hd₂, hf₂⟩ := hend
    have hW' : U.WarmedH s₂.vm := hW₂
    have hcc : c₂ = c := by
      have h1 : s₂.code? g.method = U.code? g.method := by
        rw [State.code?_eq, State.code?_eq, hW'.alike.method?]
      exact Option.some.inj (hc₂.symm.trans (h1.trans h.code))
    subst hcc
    have hlen : len₂ = len := by rw [hdg] at hd₂; cases hd₂; rfl
    subst hlen
    have hs₂ : s₂ = (({ U with heap := s₂.heap, slotsUsed := s₂.slotsUsed } : State).setVm s₂.vm).setTop { g with pc := g.pc + len₂, stack := v.toList ++ g.stack } := by
      refine e3.trans ?_
      rw [hf₂, State.calling_eq h.top, State.setFrames_setFrames, State.setTop_of_frames _ hr', hr]
      rfl
    have hsame : U.sameButNew ({ U with heap := s₂.heap, slotsUsed := s₂.slotsUsed } : State) L mc ms := by
      refine ⟨?_, q2, q3, q4, q5, q6⟩
      obtain ⟨t, ht, -⟩ := State.frames_cons hr
      show ({ U with heap := s₂.heap, slotsUsed := s₂.slotsUsed } : State) = { U.setFrames U.frames with heap := s₂.heap, slotsUsed := s₂.slotsUsed }
      rw [State.setFrames_self ht]
    subst hg
    refine Or.inl ⟨v, ⟨(({ U with heap := s₂.heap, slotsUsed := s₂.slotsUsed } : State).setVm s₂.vm), Ls ++ L, c0 + mc, s0 + ms⟩,
      ⟨X.admits, X.cas, X.clock, X.frames, X.room, X.hears, X.method, X.code, (X.here.setHeapUsed s₂.heap s₂.slotsUsed).setVm hW'.alike, X.tail, State.WarmedH.trans X.warmed hW', X.limits, X.bytes, X.same.trans (hsame.setVm s.vm)⟩,
      ⟨g, mk, s₂, L, rfl, rfl, hqc, rfl, hL, rfl, rfl⟩, ?_⟩
    show Steps p.tables e below _ ((({ U with heap := s₂.heap, slotsUsed := s₂.slotsUsed } : State).setVm s₂.vm).setTop { g with pc := g.pc + len₂, stack := v.toList ++ g.stack })
    rw [← hs₂]
    exact hsteps
  · obtain ⟨e2, q2, q3, q4, q5, q6⟩ := id hsm
    have e3 : s₂ = ({ (U.calling g mk a).setFrames s₂.frames with heap := s₂.heap, slotsUsed := s₂.slotsUsed } : State).setVm s₂.vm := by
      have : s₂ = ({ s₂ with vm := (U.calling g mk a).vm } : State).setVm s₂.vm := rfl
      rw [e2] at this
      exact this
    have hf₂ : s₂.frames = .throwing q :: .java g :: U.frames.tail := hend
    have hW' : U.WarmedH s₂.vm := hW₂
    have hs₂ : s₂ = ((({ U with heap := s₂.heap, slotsUsed := s₂.slotsUsed } : State).setVm s₂.vm).setTop g).pushFrame (.throwing q) := by
      refine e3.trans ?_
      rw [hf₂, State.calling_eq h.top, State.setFrames_setFrames, State.pushFrame, State.frames_setTop _ hr', State.setTop_of_frames _ hr', State.setFrames_setFrames, hr]
      rfl
    have hsame : U.sameButNew ({ U with heap := s₂.heap, slotsUsed := s₂.slotsUsed } : State) L mc ms := by
      refine ⟨?_, q2, q3, q4, q5, q6⟩
      obtain ⟨t, ht, -⟩ := State.frames_cons hr
      show ({ U with heap := s₂.heap, slotsUsed := s₂.slotsUsed } : State) = { U.setFrames U.frames with heap := s₂.heap, slotsUsed := s₂.slotsUsed }
      rw [State.setFrames_self ht]
    subst hg
    refine Or.inr ⟨q, ⟨(({ U with heap := s₂.heap, slotsUsed := s₂.slotsUsed } : State).setVm s₂.vm), Ls ++ L, c0 + mc, s0 + ms⟩,
      ⟨X.admits, X.cas, X.clock, X.frames, X.room, X.hears, X.method, X.code, (X.here.setHeapUsed s₂.heap s₂.slotsUsed).setVm hW'.alike, X.tail, State.WarmedH.trans X.warmed hW', X.limits, X.bytes, X.same.trans (hsame.setVm s.vm)⟩,
      ⟨g, mk, s₂, L, E, ce, rfl, rfl, hx, hce, hcv, hcl, rfl, hL, rfl, rfl⟩, ?_⟩
    show Steps p.tables e below _ (((({ U with heap := s₂.heap, slotsUsed := s₂.slotsUsed } : State).setVm s₂.vm).setTop g).pushFrame (.throwing q))
    rw [← hs₂]
    exact hsteps
end Payer
section Calls
variable {p : Program} {l : Launch} {e : Env} {R : Room} {s : State} {m : MethodId} {args : Array Value} {below : List Frame} {meth : Method} {c : Code} {T : State} {locs : List Loc} {cells slots : Nat}
theorem vx_callV (X : Stand p l e R s m args below meth c T locs cells slots) (hexec : p.tables.exec = Jvm.exec) {own C : String} {index : Nat} {y : MethodName} {bytes : ByteArray} {maxL : Nat} {ret : Option FieldType}
    (hown : s.vm.findClass own = some m.cls) (hlink : (Cond.methodLink own index y).before args s = true) (hinst : (Cond.instanceMethod y).before args s = true) (hsel : (Cond.selects C y y).before args s = true)
    (hcode : (Cond.code y bytes maxL ret).before args s = true) (hy : y.cls ≠ "java/lang/invoke/MethodHandle" ∧ y.cls ≠ "java/lang/invoke/VarHandle")
    {W9 : Nat} {Pre : Pt → Array Value → Prop} {Post : Pt → Array Value → Option Value → Pt → Prop} {PostX : Pt → Array Value → Addr → Pt → Prop} (hK : vx_Back l R p e below s args y 3 W9 Pre Post PostX)
    {b : Addr} {cellB : Cell} (hcell : T.heap[b]? = some cellB) (hobj : cellB.vm.isStatics = false) (hcls : s.vm.findClass C = some cellB.cls)
    {g : JFrame} (hg : g.method = m) (hsize : g.locals.size = c.maxLocals) {argsL rest : List Value} (hlen : ∀ sig, parseMethodDescriptor y.desc = some sig → argsL.length = sig.parameters.length)
    (hstack : g.stack = argsL.reverse ++ .ref b :: rest) (hW : 2 * g.monitorRoom + (rest.map fun v => v.category).sum ≤ W9) (hdg : decode c.code g.pc = .ok (.invokevirtual index, 3))
    (hpre : ∀ vm₁, s.WarmedH vm₁ → Pre ⟨T.setVm vm₁, locs, cells, slots⟩ (Value.ref b :: argsL).toArray) :
    (∃ (v : Option Value) (vm₁ : Vm) (B : Pt), s.WarmedH vm₁ ∧ Stand p l e R s m args below meth c B.U B.locs B.cells B.slots ∧ Post ⟨T.setVm vm₁, locs, cells, slots⟩ (Value.ref b :: argsL).toArray v B ∧
      ∀ target, Steps p.tables e below (B.U.setTop { g with pc := g.pc + 3, stack := v.toList ++ rest }) target → Steps p.tables e below (T.setTop g) target) ∨
    (∃ (q : Addr) (vm₁ : Vm) (B : Pt), s.WarmedH vm₁ ∧ Stand p l e R s m args below meth c B.U B.locs B.cells B.slots ∧ PostX ⟨T.setVm vm₁, locs, cells, slots⟩ (Value.ref b :: argsL).toArray q B ∧
      Steps p.tables e below (T.setTop g) ((B.U.setTop { g with stack := rest }).pushFrame (.throwing q))) := by
  obtain ⟨mk, methM, hnamed, hmethM, hstM, habM⟩ := Cond.instanceMethod_spec hinst
  obtain ⟨methM', cM, hmethM', -, -, -, -, -, -, hsigM⟩ := Cond.code_spec hnamed hcode
  cases hmethM.symm.trans hmethM'
  obtain ⟨c2, r2, m2, q1, q2, q3, q4, kP, hkP, hkPi⟩ := Cond.selects_spec hsel
  cases hcls.symm.trans q1
  cases (State.methodFound?_of_named hnamed hy).symm.trans q2
  cases hnamed.symm.trans q3
  have hselP : selectMethod e.platform s.vm cellB.cls mk = .method mk := by rw [Launch.admits_selectMethod X.admits]; exact q4
  obtain ⟨vm₁, X₁, hstep₁⟩ := X.invokevirtual hexec hown hlink hnamed hmethM hstM hkP hkPi hy (a := b) (cell := cellB) hcell
    (fun z h => by rw [h] at hobj; cases hobj) hselP hmethM habM hkP hkPi (g := g) hg (argsL := argsL) (rest := rest) (hlen _ hsigM) hstack hdg
  rcases hK m meth c ⟨T.setVm vm₁, locs, cells, slots⟩ { g with stack := rest } (.invokevirtual index) mk (Value.ref b :: argsL).toArray X₁ hg hsize hdg hW (X₁.named hnamed) (hpre vm₁ X₁.warmed) with ⟨v, B, X', hpost, hsteps⟩ | ⟨q, B, X', hpost, hsteps⟩
  · exact Or.inl ⟨v, vm₁, B, X₁.warmed, X', hpost, fun target h => hstep₁ _ fun acts => by rw [doInvoke_state]; exact hsteps.trans h⟩
  · exact Or.inr ⟨q, vm₁, B, X₁.warmed, X', hpost, hstep₁ _ fun acts => by rw [doInvoke_state]; exact hsteps⟩
theorem vx_callS (X : Stand p l e R s m args below meth c T locs cells slots) (hexec : p.tables.exec = Jvm.exec) {own : String} {index : Nat} {y : MethodName} {bytes : ByteArray} {maxL : Nat} {ret : Option FieldType}
    (hown : s.vm.findClass own = some m.cls) (hlink : (Cond.methodLink own index y).before args s = true) (hstat : (Cond.static y).before args s = true) (hinit : (Cond.initialized y.cls).before args s = true)
    (hcode : (Cond.code y bytes maxL ret).before args s = true) (hy : y.cls ≠ "java/lang/invoke/MethodHandle" ∧ y.cls ≠ "java/lang/invoke/VarHandle")
    {W9 : Nat} {Pre : Pt → Array Value → Prop} {Post : Pt → Array Value → Option Value → Pt → Prop} {PostX : Pt → Array Value → Addr → Pt → Prop} (hK : vx_Back l R p e below s args y 3 W9 Pre Post PostX)
    {g : JFrame} (hg : g.method = m) (hsize : g.locals.size = c.maxLocals) {argsL rest : List Value} (hlen : ∀ sig, parseMethodDescriptor y.desc = some sig → argsL.length = sig.parameters.length)
    (hstack : g.stack = argsL.reverse ++ rest) (hW : 2 * g.monitorRoom + (rest.map fun v => v.category).sum ≤ W9) (hdg : decode c.code g.pc = .ok (.invokestatic index, 3))
    (hpre : ∀ vm₁, s.WarmedH vm₁ → Pre ⟨T.setVm vm₁, locs, cells, slots⟩ argsL.toArray) :
    (∃ (v : Option Value) (vm₁ : Vm) (B : Pt), s.WarmedH vm₁ ∧ Stand p l e R s m args below meth c B.U B.locs B.cells B.slots ∧ Post ⟨T.setVm vm₁, locs, cells, slots⟩ argsL.toArray v B ∧
      ∀ target, Steps p.tables e below (B.U.setTop { g with pc := g.pc + 3, stack := v.toList ++ rest }) target → Steps p.tables e below (T.setTop g) target) ∨
    (∃ (q : Addr) (vm₁ : Vm) (B : Pt), s.WarmedH vm₁ ∧ Stand p l e R s m args below meth c B.U B.locs B.cells B.slots ∧ PostX ⟨T.setVm vm₁, locs, cells, slots⟩ argsL.toArray q B ∧
      Steps p.tables e below (T.setTop g) ((B.U.setTop { g with stack := rest }).pushFrame (.throwing q))) := by
  obtain ⟨mk, hnamed⟩ := Cond.code_named hcode
  obtain ⟨methM, cM, hmethM, -, -, -, -, -, -, hsigM⟩ := Cond.code_spec hnamed hcode
  have hstatic : methM.isStatic = true := Cond.static_spec hnamed hmethM hstat
  obtain ⟨kP, hkP, -⟩ := className_of_methodNamed hnamed
  have hinitP : kP.init = .initialized := Cond.initialized_spec (findClass_of_methodNamed hnamed) hkP hinit
  obtain ⟨vm₁, X₁, hstep₁⟩ := X.invokestatic hexec hown hlink hnamed hmethM hstatic hkP hinitP hy (g := g) hg (argsL := argsL) (rest := rest) (hlen _ hsigM) hstack hdg
  rcases hK m meth c ⟨T.setVm vm₁, locs, cells, slots⟩ { g with stack := rest } (.invokestatic index) mk argsL.toArray X₁ hg hsize hdg hW (X₁.named hnamed) (hpre vm₁ X₁.warmed) with ⟨v, B, X', hpost, hsteps⟩ | ⟨q, B, X', hpost, hsteps⟩
  · exact Or.inl ⟨v, vm₁, B, X₁.warmed, X', hpost, fun target h => hstep₁ _ fun acts => by rw [doInvoke_state]; exact hsteps.trans h⟩
  · exact Or.inr ⟨q, vm₁, B, X₁.warmed, X', hpost, hstep₁ _ fun acts => by rw [doInvoke_state]; exact hsteps⟩
end Calls
theorem vx_cls {s : State} {T : State} {vm₁ : Vm} {E : String} {k : ClassId} (hW : s.WarmedH vm₁) (h : (T.setVm vm₁).vm.findClass E = some k) : s.vm.findClass E = some k := by
  have h1 : vm₁.findClass E = some k := h
  rw [hW.alike.findClass] at h1
  exact h1
/-- the method's frame g, with q thrown over it -/
def vx_W (p : Program) (l : Launch) (e : Env) (R : Room) (s : State) (m : MethodId) (args : Array Value) (below : List Frame) (meth : Method) (c : Code) (H : Heap) (locs : List Loc) (cells slots : Nat) (Q : State → Prop) (g : JFrame) (q : Addr) : Prop :=
  ∀ T : State, T.heap = H → Stand p l e R s m args below meth c T locs cells slots → ∃ t, Steps p.tables e below ((T.setTop g).pushFrame (.throwing q)) t ∧ Q t
def vx_Run (p : Program) (l : Launch) (e : Env) (R : Room) (s : State) (m : MethodId) (args : Array Value) (below : List Frame) (meth : Method) (c : Code) (H : Heap) (locs : List Loc) (cells slots mc ms : Nat) (g : JFrame) (rest : List Value) (Qa : State → Outcome → State → Prop) (XC : String → State → State → Prop) (free : Addr → Prop) : Prop :=
  ∀ T : State, T.heap = H → Stand p l e R s m args below meth c T locs cells slots →
    (∃ (v : Option Value) (st₀ t T' : State) (L : List Loc), st₀.heap = H ∧ Stand p l e R s m args below meth c T' (locs ++ L) (cells + mc) (slots + ms) ∧ (∀ q ∈ L, free q.base) ∧ T'.heap = t.heap ∧ T'.vm = t.vm ∧ Qa st₀ (.returned v) t ∧
      Goes p e below T g T' { g with pc := g.pc + 3, stack := v.toList ++ rest }) ∨
    (∃ (q : Addr) (st₀ t T' : State) (L : List Loc) (E : String) (ce : Cell), st₀.heap = H ∧ Stand p l e R s m args below meth c T' (locs ++ L) (cells + mc) (slots + ms) ∧ (∀ z ∈ L, free z.base) ∧ T'.heap = t.heap ∧ T'.vm = t.vm ∧ XC E st₀ t ∧ t.heap[q]? = some ce ∧ ce.vm = .none ∧ s.vm.findClass E = some ce.cls ∧
      Steps p.tables e below (T.setTop g) ((T'.setTop { g with stack := rest }).pushFrame (.throwing q)))
def vx_X {S : Type} (px : S → Prop) (B : String → S → State → Prop) (A : Nat → Prop) : String → State → State → Prop := fun E st t => ∃ u : S, px u ∧ B E u t ∧ va_F A st t
section Runs
variable {p : Program} {l : Launch} {e : Env} {R : Room} {s : State} {m : MethodId} {args : Array Value} {below : List Frame} {meth : Method} {c : Code} {H : Heap} {locs : List Loc} {cells slots : Nat}
variable {y : MethodName} {bytes cc : ByteArray} {maxL nL mc ms n index : Nat} {ret : Option FieldType} {ws : List Cond} {rm : Room} {Pc : Array Value → State → Prop} {Qc : Array Value → State → Outcome → State → Prop} {XC : String → State → State → Prop} {free : Addr → Prop} {Ts : List Cond} {own C : String} {b : Addr} {As rest : List Value} {g : JFrame}
theorem vx_callBack (cb : CallB R s args own index y bytes maxL ret ws rm mc ms n) (hM : vx_Met l y ws rm Pc Qc XC mc ms free) (hbl : FrameBlind Pc) : vx_Back l R p e below s args y 3 8 (PreOf R mc ms Pc) (PostOf Qc mc ms free) (vx_Post XC mc ms free) := by
  obtain ⟨hrc, hrs, hfr, hlo, hws, hcw, -, hini, -⟩ := cb
  exact vx_back (bytes := bytes) (maxL := maxL) (ret := ret) hM hbl hrc hrs hfr hlo hws hcw (fun a' U hW => word_at hW (Or.inl (by first | rfl | simp [Cond.onTables, Cond.keeps, Cond.steady])) hini)
theorem vx_runV (S : CallFix p m c cc nL s args Ts own) (hM : vx_Met l y ws rm Pc Qc XC mc ms free) (cw : CallW R s args own C index y bytes maxL ret ws rm mc ms n) (hp : PreV s H C b Pc As)
    (hg : g.method = m) (hn : As.length = n) (hsize : g.locals.size = nL) (hstack : g.stack = As.reverse ++ .ref b :: rest) (hW : 2 * g.monitorRoom + (rest.map fun v => v.category).sum ≤ 8) (hdg : decode cc g.pc = .ok (.invokevirtual index, 3)) (hf : cells + mc ≤ R.cells ∧ slots + ms ≤ R.slots) :
    vx_Run p l e R s m args below meth c H locs cells slots mc ms g rest (Qc (Value.ref b :: As).toArray) XC free := by
  have hK : vx_Back l R p e below s args y 3 8 (PreOf R mc ms Pc) (PostOf Qc mc ms free) (vx_Post XC mc ms free) := vx_callBack cw.1 hM hp.1
  obtain ⟨⟨-, -, -, -, -, -, hcode, -, hy, hlen, hl⟩, hin, hse⟩ := cw
  obtain ⟨hx, hb, hml, ho, -⟩ := S
  obtain ⟨-, ⟨cellB, hcB, hoB, hclB⟩, hPc⟩ := hp
  intro T hT X
  rcases vx_callV X hx (C := C) (bytes := bytes) (maxL := maxL) (ret := ret) ho hl hin hse hcode hy hK (by rw [hT]; exact hcB) hoB hclB hg (hsize.trans hml.symm) (argsL := As) (rest := rest) (fun sig h => hn.trans (hlen sig h)) hstack hW (by rw [hb]; exact hdg)
    (fun vm₁ hW₁ => ⟨hf.1, hf.2, hPc (T.setVm vm₁) hT hW₁⟩) with ⟨v, vm₁, ⟨U', l2, c2, s2⟩, hW₁, X', ⟨g', mk, t, L, e1, e2, hq, h1, hL, h2, h3⟩, st⟩ | ⟨q, vm₁, ⟨U', l2, c2, s2⟩, hW₁, X', ⟨g', mk, t, L, E, ce, e1, e2, hq, hce, hcv, hcl, h1, hL, h2, h3⟩, st⟩
  · dsimp only [Pt.U, Pt.locs, Pt.cells, Pt.slots] at X' e1 e2 h1 h2 h3 st
    subst h1; subst h2; subst h3
    exact Or.inl ⟨v, (T.setVm vm₁).calling g' mk (Value.ref b :: As).toArray, t, U', L, hT, X', hL, e1, e2, hq, st⟩
  · dsimp only [Pt.U, Pt.locs, Pt.cells, Pt.slots] at X' e1 e2 h1 h2 h3 st hcl
    subst h1; subst h2; subst h3
    exact Or.inr ⟨q, (T.setVm vm₁).calling g' mk (Value.ref b :: As).toArray, t, U', L, E, ce, hT, X', hL, e1, e2, hq, hce, hcv, vx_cls hW₁ hcl, st⟩
theorem vx_runS (S : CallFix p m c cc nL s args Ts own) (hM : vx_Met l y ws rm Pc Qc XC mc ms free) (cw : CallB R s args own index y bytes maxL ret ws rm mc ms n ∧ (Cond.static y).before args s = true) (hp : PreS s H Pc As)
    (hg : g.method = m) (hn : As.length = n) (hsize : g.locals.size = nL) (hstack : g.stack = As.reverse ++ rest) (hW : 2 * g.monitorRoom + (rest.map fun v => v.category).sum ≤ 8) (hdg : decode cc g.pc = .ok (.invokestatic index, 3)) (hf : cells + mc ≤ R.cells ∧ slots + ms ≤ R.slots) :
    vx_Run p l e R s m args below meth c H locs cells slots mc ms g rest (Qc As.toArray) XC free := by
  have hK : vx_Back l R p e below s args y 3 8 (PreOf R mc ms Pc) (PostOf Qc mc ms free) (vx_Post XC mc ms free) := vx_callBack cw.1 hM hp.1
  obtain ⟨⟨-, -, -, -, -, -, hcode, hini, hy, hlen, hl⟩, hstt⟩ := cw
  obtain ⟨hx, hb, hml, ho, -⟩ := S
  intro T hT X
  rcases vx_callS X hx (bytes := bytes) (maxL := maxL) (ret := ret) ho hl hstt hini hcode hy hK hg (hsize.trans hml.symm) (argsL := As) (rest := rest) (fun sig h => hn.trans (hlen sig h)) hstack hW (by rw [hb]; exact hdg)
    (fun vm₁ hW₁ => ⟨hf.1, hf.2, hp.2 (T.setVm vm₁) hT hW₁⟩) with ⟨v, vm₁, ⟨U', l2, c2, s2⟩, hW₁, X', ⟨g', mk, t, L, e1, e2, hq, h1, hL, h2, h3⟩, st⟩ | ⟨q, vm₁, ⟨U', l2, c2, s2⟩, hW₁, X', ⟨g', mk, t, L, E, ce, e1, e2, hq, hce, hcv, hcl, h1, hL, h2, h3⟩, st⟩
  · dsimp only [Pt.U, Pt.locs, Pt.cells, Pt.slots] at X' e1 e2 h1 h2 h3 st
    subst h1; subst h2; subst h3
    exact Or.inl ⟨v, (T.setVm vm₁).calling g' mk As.toArray, t, U', L, hT, X', hL, e1, e2, hq, st⟩
  · dsimp only [Pt.U, Pt.locs, Pt.cells, Pt.slots] at X' e1 e2 h1 h2 h3 st hcl
    subst h1; subst h2; subst h3
    exact Or.inr ⟨q, (T.setVm vm₁).calling g' mk As.toArray, t, U', L, E, ce, hT, X', hL, e1, e2, hq, hce, hcv, vx_cls hW₁ hcl, st⟩
end Runs
section Rows
variable {p : Program} {l : Launch} {e : Env} {R : Room} {s : State} {m : MethodId} {args : Array Value} {below : List Frame} {meth : Method} {c : Code} {H : Heap} {locs : List Loc} {cells slots : Nat} {Q : State → Prop}
variable {mc ms : Nat} {free : Addr → Prop} {A0 A1 : Nat → Prop} {H0 : Heap} {a : Array Value} {pc : Nat} {ls : Array Slot} {st0 rest : List Value}
theorem vx_keep {st₀ t T' : State} {L : List Loc} (h0 : st₀.heap = H) (e1 : T'.heap = t.heap) (hS : va_S A0 H0 H locs) (hA : ∀ q, q < H.size → A1 q → A0 q) (hf : ∀ q, free q → A0 q) (hL : ∀ q ∈ L, free q.base) (hF : va_F A1 st₀ t) :
    H.size ≤ T'.heap.size ∧ (∀ q : Nat, q < H.size → ¬ A1 q → T'.heap[q]? = H[q]?) ∧ va_S A0 H0 T'.heap (locs ++ L) := by
  obtain ⟨hz, hk⟩ := hF
  rw [h0] at hz hk
  exact ⟨by rw [e1]; exact hz, fun q h1 h2 => by rw [e1]; exact hk q h1 h2,
    ⟨Nat.le_trans hS.1 (by rw [e1]; exact hz), fun q h1 h2 => by rw [e1, hk q (Nat.lt_of_lt_of_le h1 hS.1) (fun z => h2 (hA q (Nat.lt_of_lt_of_le h1 hS.1) z))]; exact hS.2.1 q h1 h2, fun q hq => by
      rcases List.mem_append.mp hq with h | h
      · exact hS.2.2 q h
      · exact hf _ (hL q h)⟩⟩
theorem vx_calli {S SX : Type} {post : Int32 → S → Prop} {px : SX → Prop} {B : S → State → Prop} {BX : String → SX → State → Prop} {AX : Nat → Prop} (hr : vx_Run p l e R s m args below meth c H locs cells slots mc ms (F0 m pc ls st0) rest (va_Qi post B A1 a) (vx_X px BX AX) free) (hS : va_S A0 H0 H locs) (hA : ∀ q, q < H.size → A1 q → A0 q) (hf : ∀ q, free q → A0 q) (hAX : ∀ q, q < H.size → AX q → A0 q)
    (kx : ∀ (E : String) (ce : Cell) (q9 : Addr) (u : SX) (t : State) (H1 : Heap) (locs1 : List Loc), t.heap = H1 → s.vm.Alike t.vm → px u → BX E u t → H.size ≤ H1.size → (∀ q : Nat, q < H.size → ¬ AX q → H1[q]? = H[q]?) → va_S A0 H0 H1 locs1 → H1[q9]? = some ce → ce.vm = .none → s.vm.findClass E = some ce.cls → vx_W p l e R s m args below meth c H1 locs1 (cells + mc) (slots + ms) Q (F0 m pc ls rest) q9)
    (kk : ∀ (r : Int32) (u : S) (t : State) (H1 : Heap) (locs1 : List Loc), t.heap = H1 → s.vm.Alike t.vm → post r u → B u t → H.size ≤ H1.size → (∀ q : Nat, q < H.size → ¬ A1 q → H1[q]? = H[q]?) → va_S A0 H0 H1 locs1 → W p l e R s m args below meth c H1 locs1 (cells + mc) (slots + ms) Q (F0 m (pc + 3) ls (.int r :: rest))) : W p l e R s m args below meth c H locs cells slots Q (F0 m pc ls st0) := by
  intro T hT X
  rcases hr T hT X with ⟨v, st₀, t, T', L, h0, X', hL, e1, e2, ⟨⟨r, u, hv, hp, hb⟩, hF⟩, st⟩ | ⟨q, st₀, t, T', L, E, ce, h0, X', hL, e1, e2, ⟨u, hp, hb, hF⟩, hce, hcv, hcl, st⟩
  · cases hv
    obtain ⟨k1, k2, k3⟩ := vx_keep h0 e1 hS hA hf hL hF
    obtain ⟨t2, a1, b1⟩ := kk r u t T'.heap (locs ++ L) e1.symm (by rw [← e2]; exact X'.warmed.alike) hp hb k1 k2 k3 T' rfl X'
    exact ⟨t2, st t2 a1, b1⟩
  · obtain ⟨k1, k2, k3⟩ := vx_keep h0 e1 hS hAX hf hL hF
    obtain ⟨t2, a1, b1⟩ := kx E ce q u t T'.heap (locs ++ L) e1.symm (by rw [← e2]; exact X'.warmed.alike) hp hb k1 k2 k3 (by rw [e1]; exact hce) hcv hcl T' rfl X'
    exact ⟨t2, st.trans a1, b1⟩
theorem vx_calll {S SX : Type} {post : Int64 → S → Prop} {px : SX → Prop} {B : S → State → Prop} {BX : String → SX → State → Prop} {AX : Nat → Prop} (hr : vx_Run p l e R s m args below meth c H locs cells slots mc ms (F0 m pc ls st0) rest (va_Ql post B A1 a) (vx_X px BX AX) free) (hS : va_S A0 H0 H locs) (hA : ∀ q, q < H.size → A1 q → A0 q) (hf : ∀ q, free q → A0 q) (hAX : ∀ q, q < H.size → AX q → A0 q)
    (kx : ∀ (E : String) (ce : Cell) (q9 : Addr) (u : SX) (t : State) (H1 : Heap) (locs1 : List Loc), t.heap = H1 → s.vm.Alike t.vm → px u → BX E u t → H.size ≤ H1.size → (∀ q : Nat, q < H.size → ¬ AX q → H1[q]? = H[q]?) → va_S A0 H0 H1 locs1 → H1[q9]? = some ce → ce.vm = .none → s.vm.findClass E = some ce.cls → vx_W p l e R s m args below meth c H1 locs1 (cells + mc) (slots + ms) Q (F0 m pc ls rest) q9)
    (kk : ∀ (r : Int64) (u : S) (t : State) (H1 : Heap) (locs1 : List Loc), t.heap = H1 → s.vm.Alike t.vm → post r u → B u t → H.size ≤ H1.size → (∀ q : Nat, q < H.size → ¬ A1 q → H1[q]? = H[q]?) → va_S A0 H0 H1 locs1 → W p l e R s m args below meth c H1 locs1 (cells + mc) (slots + ms) Q (F0 m (pc + 3) ls (.long r :: rest))) : W p l e R s m args below meth c H locs cells slots Q (F0 m pc ls st0) := by
  intro T hT X
  rcases hr T hT X with ⟨v, st₀, t, T', L, h0, X', hL, e1, e2, ⟨⟨r, u, hv, hp, hb⟩, hF⟩, st⟩ | ⟨q, st₀, t, T', L, E, ce, h0, X', hL, e1, e2, ⟨u, hp, hb, hF⟩, hce, hcv, hcl, st⟩
  · cases hv
    obtain ⟨k1, k2, k3⟩ := vx_keep h0 e1 hS hA hf hL hF
    obtain ⟨t2, a1, b1⟩ := kk r u t T'.heap (locs ++ L) e1.symm (by rw [← e2]; exact X'.warmed.alike) hp hb k1 k2 k3 T' rfl X'
    exact ⟨t2, st t2 a1, b1⟩
  · obtain ⟨k1, k2, k3⟩ := vx_keep h0 e1 hS hAX hf hL hF
    obtain ⟨t2, a1, b1⟩ := kx E ce q u t T'.heap (locs ++ L) e1.symm (by rw [← e2]; exact X'.warmed.alike) hp hb k1 k2 k3 (by rw [e1]; exact hce) hcv hcl T' rfl X'
    exact ⟨t2, st.trans a1, b1⟩
theorem vx_callf {S SX : Type} {post : UInt32 → S → Prop} {px : SX → Prop} {B : S → State → Prop} {BX : String → SX → State → Prop} {AX : Nat → Prop} (hr : vx_Run p l e R s m args below meth c H locs cells slots mc ms (F0 m pc ls st0) rest (va_Qf post B A1 a) (vx_X px BX AX) free) (hS : va_S A0 H0 H locs) (hA : ∀ q, q < H.size → A1 q → A0 q) (hf : ∀ q, free q → A0 q) (hAX : ∀ q, q < H.size → AX q → A0 q)
    (kx : ∀ (E : String) (ce : Cell) (q9 : Addr) (u : SX) (t : State) (H1 : Heap) (locs1 : List Loc), t.heap = H1 → s.vm.Alike t.vm → px u → BX E u t → H.size ≤ H1.size → (∀ q : Nat, q < H.size → ¬ AX q → H1[q]? = H[q]?) → va_S A0 H0 H1 locs1 → H1[q9]? = some ce → ce.vm = .none → s.vm.findClass E = some ce.cls → vx_W p l e R s m args below meth c H1 locs1 (cells + mc) (slots + ms) Q (F0 m pc ls rest) q9)
    (kk : ∀ (r : UInt32) (u : S) (t : State) (H1 : Heap) (locs1 : List Loc), t.heap = H1 → s.vm.Alike t.vm → post r u → B u t → H.size ≤ H1.size → (∀ q : Nat, q < H.size → ¬ A1 q → H1[q]? = H[q]?) → va_S A0 H0 H1 locs1 → W p l e R s m args below meth c H1 locs1 (cells + mc) (slots + ms) Q (F0 m (pc + 3) ls (.float r :: rest))) : W p l e R s m args below meth c H locs cells slots Q (F0 m pc ls st0) := by
  intro T hT X
  rcases hr T hT X with ⟨v, st₀, t, T', L, h0, X', hL, e1, e2, ⟨⟨r, u, hv, hp, hb⟩, hF⟩, st⟩ | ⟨q, st₀, t, T', L, E, ce, h0, X', hL, e1, e2, ⟨u, hp, hb, hF⟩, hce, hcv, hcl, st⟩
  · cases hv
    obtain ⟨k1, k2, k3⟩ := vx_keep h0 e1 hS hA hf hL hF
    obtain ⟨t2, a1, b1⟩ := kk r u t T'.heap (locs ++ L) e1.symm (by rw [← e2]; exact X'.warmed.alike) hp hb k1 k2 k3 T' rfl X'
    exact ⟨t2, st t2 a1, b1⟩
  · obtain ⟨k1, k2, k3⟩ := vx_keep h0 e1 hS hAX hf hL hF
    obtain ⟨t2, a1, b1⟩ := kx E ce q u t T'.heap (locs ++ L) e1.symm (by rw [← e2]; exact X'.warmed.alike) hp hb k1 k2 k3 (by rw [e1]; exact hce) hcv hcl T' rfl X'
    exact ⟨t2, st.trans a1, b1⟩
theorem vx_calld {S SX : Type} {post : UInt64 → S → Prop} {px : SX → Prop} {B : S → State → Prop} {BX : String → SX → State → Prop} {AX : Nat → Prop} (hr : vx_Run p l e R s m args below meth c H locs cells slots mc ms (F0 m pc ls st0) rest (va_Qd post B A1 a) (vx_X px BX AX) free) (hS : va_S A0 H0 H locs) (hA : ∀ q, q < H.size → A1 q → A0 q) (hf : ∀ q, free q → A0 q) (hAX : ∀ q, q < H.size → AX q → A0 q)
    (kx : ∀ (E : String) (ce : Cell) (q9 : Addr) (u : SX) (t : State) (H1 : Heap) (locs1 : List Loc), t.heap = H1 → s.vm.Alike t.vm → px u → BX E u t → H.size ≤ H1.size → (∀ q : Nat, q < H.size → ¬ AX q → H1[q]? = H[q]?) → va_S A0 H0 H1 locs1 → H1[q9]? = some ce → ce.vm = .none → s.vm.findClass E = some ce.cls → vx_W p l e R s m args below meth c H1 locs1 (cells + mc) (slots + ms) Q (F0 m pc ls rest) q9)
    (kk : ∀ (r : UInt64) (u : S) (t : State) (H1 : Heap) (locs1 : List Loc), t.heap = H1 → s.vm.Alike t.vm → post r u → B u t → H.size ≤ H1.size → (∀ q : Nat, q < H.size → ¬ A1 q → H1[q]? = H[q]?) → va_S A0 H0 H1 locs1 → W p l e R s m args below meth c H1 locs1 (cells + mc) (slots + ms) Q (F0 m (pc + 3) ls (.double r :: rest))) : W p l e R s m args below meth c H locs cells slots Q (F0 m pc ls st0) := by
  intro T hT X
  rcases hr T hT X with ⟨v, st₀, t, T', L, h0, X', hL, e1, e2, ⟨⟨r, u, hv, hp, hb⟩, hF⟩, st⟩ | ⟨q, st₀, t, T', L, E, ce, h0, X', hL, e1, e2, ⟨u, hp, hb, hF⟩, hce, hcv, hcl, st⟩
  · cases hv
    obtain ⟨k1, k2, k3⟩ := vx_keep h0 e1 hS hA hf hL hF
    obtain ⟨t2, a1, b1⟩ := kk r u t T'.heap (locs ++ L) e1.symm (by rw [← e2]; exact X'.warmed.alike) hp hb k1 k2 k3 T' rfl X'
    exact ⟨t2, st t2 a1, b1⟩
  · obtain ⟨k1, k2, k3⟩ := vx_keep h0 e1 hS hAX hf hL hF
    obtain ⟨t2, a1, b1⟩ := kx E ce q u t T'.heap (locs ++ L) e1.symm (by rw [← e2]; exact X'.warmed.alike) hp hb k1 k2 k3 (by rw [e1]; exact hce) hcv hcl T' rfl X'
    exact ⟨t2, st.trans a1, b1⟩
theorem vx_callv {S SX : Type} {post : S → Prop} {px : SX → Prop} {B : S → State → Prop} {BX : String → SX → State → Prop} {AX : Nat → Prop} (hr : vx_Run p l e R s m args below meth c H locs cells slots mc ms (F0 m pc ls st0) rest (va_Qv post B A1 a) (vx_X px BX AX) free) (hS : va_S A0 H0 H locs) (hA : ∀ q, q < H.size → A1 q → A0 q) (hf : ∀ q, free q → A0 q) (hAX : ∀ q, q < H.size → AX q → A0 q)
    (kx : ∀ (E : String) (ce : Cell) (q9 : Addr) (u : SX) (t : State) (H1 : Heap) (locs1 : List Loc), t.heap = H1 → s.vm.Alike t.vm → px u → BX E u t → H.size ≤ H1.size → (∀ q : Nat, q < H.size → ¬ AX q → H1[q]? = H[q]?) → va_S A0 H0 H1 locs1 → H1[q9]? = some ce → ce.vm = .none → s.vm.findClass E = some ce.cls → vx_W p l e R s m args below meth c H1 locs1 (cells + mc) (slots + ms) Q (F0 m pc ls rest) q9)
    (kk : ∀ (u : S) (t : State) (H1 : Heap) (locs1 : List Loc), t.heap = H1 → s.vm.Alike t.vm → post u → B u t → H.size ≤ H1.size → (∀ q : Nat, q < H.size → ¬ A1 q → H1[q]? = H[q]?) → va_S A0 H0 H1 locs1 → W p l e R s m args below meth c H1 locs1 (cells + mc) (slots + ms) Q (F0 m (pc + 3) ls (rest))) : W p l e R s m args below meth c H locs cells slots Q (F0 m pc ls st0) := by
  intro T hT X
  rcases hr T hT X with ⟨v, st₀, t, T', L, h0, X', hL, e1, e2, ⟨⟨u, hv, hp, hb⟩, hF⟩, st⟩ | ⟨q, st₀, t, T', L, E, ce, h0, X', hL, e1, e2, ⟨u, hp, hb, hF⟩, hce, hcv, hcl, st⟩
  · cases hv
    obtain ⟨k1, k2, k3⟩ := vx_keep h0 e1 hS hA hf hL hF
    obtain ⟨t2, a1, b1⟩ := kk u t T'.heap (locs ++ L) e1.symm (by rw [← e2]; exact X'.warmed.alike) hp hb k1 k2 k3 T' rfl X'
    exact ⟨t2, st t2 a1, b1⟩
  · obtain ⟨k1, k2, k3⟩ := vx_keep h0 e1 hS hAX hf hL hF
    obtain ⟨t2, a1, b1⟩ := kx E ce q u t T'.heap (locs ++ L) e1.symm (by rw [← e2]; exact X'.warmed.alike) hp hb k1 k2 k3 (by rw [e1]; exact hce) hcv hcl T' rfl X'
    exact ⟨t2, st.trans a1, b1⟩
/-- caught by the row x of this method's table; the rows ahead don't take it -/
theorem vx_catch {own name : String} {E : String} {ce : Cell} {q : Addr} (hown : s.vm.findClass own = some m.cls) (pre : List ExceptionTableEntry) (x : ExceptionTableEntry) (suf : List ExceptionTableEntry) (hsplit : c.exceptionTable.toList = pre ++ x :: suf)
    (hpass : ∀ z ∈ pre, covers z pc = false ∨ (z.catchType ≠ 0 ∧ ∃ nm : String, (Cond.classLink own z.catchType nm).before args s = true ∧ va_Nc E nm s)) (hx : covers x pc = true) (h0 : x.catchType ≠ 0)
    (hlink : (Cond.classLink own x.catchType name).before args s = true) (hcast : (Cond.castable E name).before args s = true) (hcell : H[q]? = some ce) (hv : ce.vm = .none) (hcl : s.vm.findClass E = some ce.cls)
    (kk : W p l e R s m args below meth c H locs cells slots Q (F0 m x.handlerPc ls [.ref q])) : vx_W p l e R s m args below meth c H locs cells slots Q (F0 m pc ls rest) q := by
  intro T hT X
  have hpl : e.platform.magicAccessors = ({} : Platform).magicAccessors := by rw [X.admits.platform]
  obtain ⟨c3, c4, hc3, hc4, hasg⟩ := Cond.castable_spec hcast
  cases Option.some.inj (hc3.symm.trans hcl)
  obtain ⟨c5, hc5, hcl5⟩ := Cond.classLink_spec hown hlink e.platform hpl
  cases Option.some.inj (hc4.symm.trans hc5)
  obtain ⟨vm', X', st⟩ := X.thenCaughtThrough q (g := F0 m pc ls rest) rfl (Steps.refl _) (by rw [hT]; exact hcell) (by rw [hv]; rfl) (by obtain ⟨k9, h9, -⟩ := Vm.findClass_spec hcl; exact ⟨k9, h9⟩) pre x suf hsplit
    (fun z hz => by
      rcases hpass z hz with h | ⟨hz0, nm, hl1, hn1⟩
      · exact Or.inl h
      · obtain ⟨c6, hc6, hcl6⟩ := Cond.classLink_spec hown hl1 e.platform hpl
        obtain ⟨a8, b8, h1, h2, h3⟩ := hn1
        cases Option.some.inj (h1.symm.trans hcl)
        cases Option.some.inj (h2.symm.trans hc6)
        exact Or.inr ⟨hz0, _, hcl6, h3⟩) hx (Or.inr ⟨h0, c4, hcl5, hasg⟩)
  obtain ⟨t, a1, b1⟩ := kk (T.setVm vm') hT X'
  exact ⟨t, st.trans a1, b1⟩
end Rows
section Ends
variable {p : Program} {l : Launch} {e : Env} {R : Room} {s : State} {m : MethodId} {args : Array Value} {below : List Frame} {meth : Method} {c : Code} {H : Heap} {locs : List Loc} {cells slots : Nat} {Q : State → Prop}
variable {mc ms : Nat} {free : Addr → Prop} {A0 A1 : Nat → Prop} {H0 : Heap} {a : Array Value} {ls : Array Slot} {st0 rest : List Value}
variable {Qc : Array Value → State → Outcome → State → Prop} {XC : String → State → State → Prop}
/-- what a body that may throw owes at its end -/
def vx_MQ (below : List Frame) (Qc : Array Value → State → Outcome → State → Prop) (XC : String → State → State → Prop) (a : Array Value) (s : State) (mc ms : Nat) (free : Addr → Prop) : State → Prop := fun t =>
  ∃ o, t.status = .running ∧ Ended t below o ∧ vx_Q Qc XC mc ms free a s o t
theorem vx_ret {g : JFrame} {mc ms : Nat} (k : W p l e R s m args below meth c H locs cells slots (MQ below Qc args s mc ms free) g) : W p l e R s m args below meth c H locs cells slots (vx_MQ below Qc XC args s mc ms free) g := by
  intro T hT X
  obtain ⟨t, a1, o, b1, b2, b3, b4⟩ := k T hT X
  exact ⟨t, a1, o, b1, b2, Or.inl ⟨b3, b4⟩⟩
/-- not caught here: it goes on to the caller -/
theorem vx_widen {g : JFrame} {q : Addr} {k n : Nat} (h1 : cells ≤ k) (h2 : slots ≤ n) (kk : vx_W p l e R s m args below meth c H locs k n Q g q) : vx_W p l e R s m args below meth c H locs cells slots Q g q := fun T hT X => kk T hT (stand_widen X h1 h2)
theorem vx_out {pc : Nat} {E : String} {ce : Cell} {q : Addr} {mc ms : Nat} (hout : ∀ x ∈ c.exceptionTable.toList, covers x pc = false) (hlocks : meth.locks = false) (hcell : H[q]? = some ce) (hv : ce.vm = .none) (hcl : s.vm.findClass E = some ce.cls)
    (hx : ∀ t : State, t.heap = H → s.vm.Alike t.vm → XC E s t) (hf : ∀ z ∈ locs, free z.base) (hc : cells ≤ mc) (hs : slots ≤ ms) :
    vx_W p l e R s m args below meth c H locs cells slots (vx_MQ below Qc XC args s mc ms free) (F0 m pc ls rest) q := by
  intro T hT X
  obtain ⟨st1, hrun, hend, hW, hsm⟩ := X.leaveThrown q (g := F0 m pc ls rest) rfl rfl rfl hout hlocks
  have hcell9 : (T.setFrames (.throwing q :: below)).heap[q]? = some ce := by
    show T.heap[q]? = some ce
    rw [hT]; exact hcell
  exact ⟨_, st1, .threw q, hrun, hend, Or.inr ⟨q, rfl, E, ce, locs, hx _ hT hW.alike, hcell9, hv, hcl, hW, hsm.mono hc hs, hf⟩⟩
theorem vx_frame {U : State} {k n : Nat} (h : s.sameButNew ({ U with vm := s.vm } : State) locs k n) : s.heap.size ≤ U.heap.size ∧ ∀ q : Nat, q < s.heap.size → (∀ z ∈ locs, z.base ≠ q) → U.heap[q]? = s.heap[q]? := by
  obtain ⟨-, h2, -, -, -, h6⟩ := h
  refine ⟨h2, fun q hq hz => ?_⟩
  obtain ⟨c9, e1, e2, e3, e4⟩ := h6 q _ (Array.getElem?_eq_getElem hq)
  have hs : c9.slots = (s.heap[q]).slots := Array.ext_getElem? fun i => e4 i fun hm => hz _ hm rfl
  have h9 : c9 = s.heap[q] := by
    rw [hs] at e2
    exact e2
  have e5 : U.heap[q]? = some c9 := e1
  rw [e5, h9, Array.getElem?_eq_getElem hq]
/-- the words of a throw but the four that speak of the heap -/
def vx_no (w : Cond) : Bool := decide (w ≠ .isRef (.static Bundle.tN "UNASSIGNED_STACK" Bundle.steD)) && decide (w ≠ .isRef (.static Bundle.tN "SUPPRESSED_SENTINEL" Bundle.listD)) && decide (w ≠ .laysStatic Bundle.tN "UNASSIGNED_STACK" Bundle.steD) && decide (w ≠ .laysStatic Bundle.tN "SUPPRESSED_SENTINEL" Bundle.listD)
def vx_at0 (own : String) (ic : Nat) (X : String) (names : List String) : List Cond := (Bundle.ownAtoms0 own ic X names).filter vx_no
def vx_atS (own : String) (ic : Nat) (X : String) (names : List String) : List Cond := (Bundle.ownAtoms own ic X names).filter vx_no
/-- a word that the tables alone decide, or a good one -/
def vx_ot (w : Cond) : Bool := w.onTables || goodWord w
theorem vx_ot_at {args a' : Array Value} {s U : State} {w : Cond} (hW : s.WarmedH U.vm) (hvm : s.vm = U.vm) (hg : vx_ot w = true) (h : w.before args s = true) : w.before a' U = true := by
  simp only [vx_ot, Bool.or_eq_true] at hg
  rcases hg with hg | hg
  · exact va_tabs hg hvm h
  · exact word_at hW (good_of_word hg) h
/-- a list's words: the good ones out of the method's own list, the others by premises of their own -/
theorem vx_hat {args : Array Value} {s : State} {L B : List Cond} (h1 : ∀ w ∈ L.filter goodWord, w.before args s = true) (h2 : ∀ w ∈ L.filter (fun w => !goodWord w), w ∈ B) (h3 : ∀ w ∈ B, w.before args s = true) : ∀ w ∈ L, w.before args s = true := by
  intro w hw
  by_cases g : goodWord w = true
  · exact h1 w (List.mem_filter.mpr ⟨hw, g⟩)
  · refine h3 w (h2 w (List.mem_filter.mpr ⟨hw, ?_⟩))
    show (!goodWord w) = true
    cases hgw : goodWord w
    · rfl
    · exact absurd hgw g
theorem vx_c {args : Array Value} {s : State} {w : Cond} {B : List Cond} (h : w.before args s = true) (t : ∀ w ∈ B, w.before args s = true) : ∀ w' ∈ w :: B, w'.before args s = true := fun w' h' => (List.mem_cons.mp h').elim (fun e => by rw [e]; exact h) (t w')
theorem vx_n {args : Array Value} {s : State} : ∀ w ∈ ([] : List Cond), w.before args s = true := fun _ h => nomatch h
theorem vx_own {args : Array Value} {s : State} {L : List Cond} (h1 : ∀ w ∈ L.filter vx_no, w.before args s = true)
    (hU : (Cond.isRef (.static Bundle.tN "UNASSIGNED_STACK" Bundle.steD)).before args s = true) (hN : (Cond.isRef (.static Bundle.tN "SUPPRESSED_SENTINEL" Bundle.listD)).before args s = true)
    (lU : (Cond.laysStatic Bundle.tN "UNASSIGNED_STACK" Bundle.steD).before args s = true) (lN : (Cond.laysStatic Bundle.tN "SUPPRESSED_SENTINEL" Bundle.listD).before args s = true) : ∀ w ∈ L, w.before args s = true := by
  intro w hw
  by_cases e1 : w = .isRef (.static Bundle.tN "UNASSIGNED_STACK" Bundle.steD)
  · rw [e1]; exact hU
  · by_cases e2 : w = .isRef (.static Bundle.tN "SUPPRESSED_SENTINEL" Bundle.listD)
    · rw [e2]; exact hN
    · by_cases e3 : w = .laysStatic Bundle.tN "UNASSIGNED_STACK" Bundle.steD
      · rw [e3]; exact lU
      · by_cases e4 : w = .laysStatic Bundle.tN "SUPPRESSED_SENTINEL" Bundle.listD
        · rw [e4]; exact lN
        · exact h1 w (List.mem_filter.mpr ⟨hw, by unfold vx_no; rw [decide_eq_true e1, decide_eq_true e2, decide_eq_true e3, decide_eq_true e4]; rfl⟩)
/-- where a static field lies, its class's statics cell in H -/
def vx_L (C n d : String) (A : Nat → Prop) (U : State) (H : Heap) : Prop := ∃ (c : ClassId) (k : Class) (i : Nat) (f : Field) (a : Nat) (cell : Cell), U.vm.findClass C = some c ∧ U.fieldFound? C n d = some (c, k, i, f) ∧ f.isStatic = true ∧ k.statics = some a ∧ H[a]? = some cell ∧ cell.vm.isStatics = true ∧ cell.cls = c ∧ f.slot < cell.slots.size ∧ k.staticTypes[f.slot]? = some f.type ∧ ¬ A a
theorem vx_L.moved {C n d : String} {A : Nat → Prop} {u U : State} {H : Heap} (hvm : u.vm.Alike U.vm) (h : vx_L C n d A u H) : vx_L C n d A U H := by
  obtain ⟨c, k, i, f, a, cell, h1, h2, h3, h4, h5, h6, h7, h8, h9, h10⟩ := h
  obtain ⟨k', hi', he⟩ := State.fieldFound?_setVm hvm h2
  exact ⟨c, k', i, f, a, cell, by rw [hvm.findClass]; exact h1, hi', h3, by rw [he]; exact h4, h5, h6, h7, h8, by rw [he]; exact h9, h10⟩
theorem vx_L.kept {C n d : String} {A : Nat → Prop} {U : State} {H H1 : Heap} (h : vx_L C n d A U H) (hq : ∀ a : Nat, a < H.size → ¬ A a → H1[a]? = H[a]?) : vx_L C n d A U H1 := by
  obtain ⟨c, k, i, f, a, cell, h1, h2, h3, h4, h5, h6, h7, h8, h9, h10⟩ := h
  exact ⟨c, k, i, f, a, cell, h1, h2, h3, h4, by rw [hq a (Array.getElem?_eq_some_iff.mp h5).1 h10]; exact h5, h6, h7, h8, h9, h10⟩
theorem vx_L.narrow {C n d : String} {A B : Nat → Prop} {U : State} {H : Heap} (h : vx_L C n d A U H) (hAB : ∀ q, B q → A q) : vx_L C n d B U H := by
  obtain ⟨c, k, i, f, a, cell, h1, h2, h3, h4, h5, h6, h7, h8, h9, h10⟩ := h
  exact ⟨c, k, i, f, a, cell, h1, h2, h3, h4, h5, h6, h7, h8, h9, fun z => h10 (hAB _ z)⟩
theorem vx_L.word {C n d : String} {A : Nat → Prop} {s : State} {args : Array Value} (h : vx_L C n d A s s.heap) : (Cond.laysStatic C n d).before args s = true := by
  obtain ⟨c, k, i, f, a, cell, h1, h2, h3, h4, h5, h6, h7, h8, h9, -⟩ := h
  show (Cond.laysStatic C n d).holds args s none s [] = true
  exact Cond.laysStatic_of h1 h2 h3 h4 h5 h6 h7 h8 h9
/-- .. and what it holds: null or some reference -/
def vx_Zq (C n d : String) (A : Nat → Prop) (U : State) (H : Heap) : Prop := va_Zq C n d A U H ∧ vx_L C n d A U H
theorem vx_Zq.moved {C n d : String} {A : Nat → Prop} {u U : State} {H : Heap} (hvm : u.vm.Alike U.vm) (h : vx_Zq C n d A u H) : vx_Zq C n d A U H := ⟨va_Zq.moved hvm h.1, vx_L.moved hvm h.2⟩
theorem vx_Zq.kept {C n d : String} {A : Nat → Prop} {U : State} {H H1 : Heap} (h : vx_Zq C n d A U H) (hq : ∀ a : Nat, a < H.size → ¬ A a → H1[a]? = H[a]?) : vx_Zq C n d A U H1 := ⟨va_Zq.kept h.1 hq, vx_L.kept h.2 hq⟩
theorem vx_Zq.narrow {C n d : String} {A B : Nat → Prop} {U : State} {H : Heap} (h : vx_Zq C n d A U H) (hAB : ∀ q, B q → A q) : vx_Zq C n d B U H := ⟨va_Zq.narrow h.1 hAB, vx_L.narrow h.2 hAB⟩
theorem vx_Zqof {args : Array Value} {s : State} {C n d : String} {A : Nat → Prop} (hl : (Cond.laysStatic C n d).before args s = true) (hini : (Cond.initialized C).before args s = true) (h : (Cond.isRef (.static C n d)).before args s = true) (hA : ∀ a : Nat, a < s.heap.size → ¬ A a) : vx_Zq C n d A s s.heap := by
  refine ⟨va_Zqof hl hini h hA, ?_⟩
  obtain ⟨c, k, i, f, a, cell, h1, h2, h3, h4, h5, h6, h7, h8, h9⟩ := Cond.laysStatic_spec hl
  exact ⟨c, k, i, f, a, cell, h1, h2, h3, h4, h5, h6, h7, h8, h9, hA a (Array.getElem?_eq_some_iff.mp h5).1⟩
theorem vx_isRef {C n d : String} {v : Value} {A : Nat → Prop} {s : State} {args : Array Value} (h : va_Z C n d v A s s.heap) (hv : v.isRef = true) : (Cond.isRef (.static C n d)).before args s = true := by
  obtain ⟨cf, kf, fi, f, a, cell, h1, h2, h3, h4, h5, h6, h7, -⟩ := h
  have he : (Term.static C n d).eval args s none [] s = some v := by
    simp [Term.eval, State.fieldNamed?, h1, h2, h4, h5, h6, h7]
  simp only [Cond.before, Cond.holds, Cond.value, he]
  cases v <;> simp_all [Value.isRef]
theorem vx_isRefq {C n d : String} {A : Nat → Prop} {s : State} {args : Array Value} (h : va_Zq C n d A s s.heap) : (Cond.isRef (.static C n d)).before args s = true := by
  rcases h with h | ⟨t, h⟩
  · exact vx_isRef h rfl
  · exact vx_isRef h rfl
/-- the same frame, seen from here: as if the method were called anew in this heap -/
theorem vx_rebase {T : State} (X : Stand p l e R s m args below meth c T locs cells slots) {R' : Room} (hf : R'.frames ≤ R.frames) (hl : R'.locals ≤ R.locals) (hc : cells + R'.cells ≤ R.cells) (hs : slots + R'.slots ≤ R.slots) :
    Stand p l e R' ((T.setVm s.vm).setFrames (.invoking m args :: below)) m args below meth c T [] 0 0 := by
  have htop : (T.setVm s.vm).topJava?.isSome := X.here.top
  have hF : ((T.setVm s.vm).setFrames (.invoking m args :: below)).frames = .invoking m args :: below := State.frames_setFrames _ (State.cur_lt_of_top htop)
  obtain ⟨g₀, hg0⟩ := Option.isSome_iff_exists.mp htop
  obtain ⟨r, hr⟩ := State.topJava?_eq_some.mp hg0
  have hl9 : e.platform.stackLimits (T.setVm s.vm).me = e.platform.stackLimits s.me := X.limits
  have hb9 : (T.setVm s.vm).me.stackBytes = s.me.stackBytes := X.bytes
  refine ⟨X.admits, X.cas, X.clock, hF, ?_, X.hears, X.method, X.code, X.here, X.tail, X.warmed, ?_, ?_, ?_⟩
  · have h := X.room
    have hU : ((T.setVm s.vm).setFrames (.invoking m args :: below)).localsInUse = s.localsInUse := by
      rw [State.localsInUse_invoking hF (meth := meth) (c := c) X.method X.code, State.localsInUse_invoking X.frames X.method X.code]
    simp only [State.hasRoom, Bool.and_eq_true, decide_eq_true_eq] at h ⊢
    obtain ⟨⟨⟨⟨h1, h2, h3, h4, h5, h6⟩, h7⟩, h8⟩, h9⟩ := h
    rw [X.frames, List.length_cons] at h2 h3
    have q1 := X.heapSize
    have q2 := X.used
    simp only [hF, hU, List.length_cons, State.stackLimits_setFrames, State.stackBytes_setFrames, hl9, hb9]
    refine ⟨⟨⟨⟨by omega, by omega, by omega, by omega, by omega, h6⟩, ?_⟩, ?_⟩, X.book⟩
    · show T.heap.size + R'.cells ≤ e.platform.maxCells
      omega
    · show T.slotsUsed + R'.slots ≤ e.platform.maxSlots
      omega
  · rw [State.stackLimits_setFrames]; rfl
  · rw [State.stackBytes_setFrames]; rfl
  · refine ⟨?_, Nat.le_refl _, Nat.le_refl _, ?_, ?_, fun a c9 h9 => ⟨c9, h9, rfl, rfl, fun _ _ => rfl⟩⟩
    · obtain ⟨t, ht, -⟩ := State.frames_cons hr
      show T.setVm s.vm = { ((T.setVm s.vm).setFrames (.invoking m args :: below)).setFrames (T.setVm s.vm).frames with heap := T.heap, slotsUsed := T.slotsUsed }
      rw [State.setFrames_setFrames, State.setFrames_self ht]
      rfl
    · show T.slotsUsed = T.slotsUsed + ((T.heap.toList.drop T.heap.size).map (·.slots.size)).sum
      rw [List.drop_eq_nil_of_le (Nat.le_of_eq Array.length_toList)]
      rfl
    · show ((T.heap.toList.drop T.heap.size).map (·.slots.size)).sum ≤ 0
      rw [List.drop_eq_nil_of_le (Nat.le_of_eq Array.length_toList)]
      exact Nat.le_refl _
/-- 'throw new E()': new; dup; invokespecial; athrow -/
theorem vx_throw0 {cc : ByteArray} {pc : Nat} (hexec : p.tables.exec = Jvm.exec) (hb : c.code = cc) (hl : l.stackTraces = false) {own cls : String} {names : List String} {ik ic mc ms : Nat} {A : Nat → Prop}
    (hown : s.vm.findClass own = some m.cls) (hcls : Bundle.fit cls = true) (hnames : ∀ n ∈ names, Bundle.fit n = true)
    (hk : (Cond.classLink own ik cls).before args s = true) (hini : (Cond.initialized cls).before args s = true) (hat : ∀ w ∈ vx_at0 own ic cls names, w.before args s = true)
    (hgood : ∀ w ∈ Cond.classLink own ik cls :: Cond.initialized cls :: vx_at0 own ic cls names, vx_ot w = true)
    (hU : vx_Zq Bundle.tN "UNASSIGNED_STACK" Bundle.steD A s s.heap) (hN : vx_Zq Bundle.tN "SUPPRESSED_SENTINEL" Bundle.listD A s s.heap) (hS : va_S A s.heap H locs) (hsize : ls.size = c.maxLocals)
    (d0 : decode cc pc = .ok (.new ik, 3)) (d3 : decode cc (pc + 3) = .ok (.dup, 1)) (d4 : decode cc (pc + 4) = .ok (.invokespecial ic, 3)) (d7 : decode cc (pc + 7) = .ok (.athrow, 1))
    (hout : ∀ x ∈ c.exceptionTable.toList, covers x (pc + 7) = false)
    (hRframes : names.length + 3 < R.frames) (hRlocals : (rest.map fun v => v.category).sum + (13 * (names.length + 1) + 42) ≤ R.locals) (hRcells : cells + 1 ≤ R.cells) (hRslots : slots + 6 ≤ R.slots) (hlocks : meth.locks = false)
    (hx : ∀ t : State, s.vm.Alike t.vm → H.size ≤ t.heap.size → (∀ q : Nat, q < H.size → t.heap[q]? = H[q]?) → XC cls s t)
    (hf : ∀ z ∈ locs, free z.base) (hc : cells + 1 ≤ mc) (hs : slots + 6 ≤ ms) :
    W p l e R s m args below meth c H locs cells slots (vx_MQ below Qc XC args s mc ms free) (F0 m pc ls rest) := by
  intro T hT X
  have htr : e.platform.stackTraces = false := (show e.platform.stackTraces = l.stackTraces by rw [X.admits.platform]).trans hl
  have Y := vx_rebase X (R' := { frames := R.frames, locals := R.locals, cells := 1, slots := 6 }) (Nat.le_refl _) (Nat.le_refl _) hRcells hRslots
  obtain ⟨s', hA⟩ : ∃ z, z = (T.setVm s.vm).setFrames (.invoking m args :: below) := ⟨_, rfl⟩
  rw [← hA] at Y
  have hvm : s'.vm = s.vm := by rw [hA]; rfl
  have hhp : s'.heap = H := by rw [hA]; exact hT
  have hW0 : s.WarmedH s'.vm := by rw [hvm]; exact State.WarmedH.refl s
  have hat' : ∀ w ∈ vx_at0 own ic cls names, w.before args s' = true := fun w hw => vx_ot_at hW0 hvm.symm (hgood w (List.mem_cons_of_mem _ (List.mem_cons_of_mem _ hw))) (hat w hw)
  have hk' : (Cond.classLink own ik cls).before args s' = true := vx_ot_at hW0 hvm.symm (hgood _ List.mem_cons_self) hk
  have hini' : (Cond.initialized cls).before args s' = true := vx_ot_at hW0 hvm.symm (hgood _ (List.mem_cons_of_mem _ List.mem_cons_self)) hini
  have hU' : vx_Zq Bundle.tN "UNASSIGNED_STACK" Bundle.steD A s' s'.heap := by rw [hhp]; exact vx_Zq.moved hW0.alike (hU.kept hS.2.1)
  have hN' : vx_Zq Bundle.tN "SUPPRESSED_SENTINEL" Bundle.listD A s' s'.heap := by rw [hhp]; exact vx_Zq.moved hW0.alike (hN.kept hS.2.1)
  have h : ∀ w ∈ Bundle.ownAtoms0 own ic cls names, w.before args s' = true := vx_own hat' (vx_isRefq hU'.1) (vx_isRefq hN'.1) hU'.2.word hN'.2.word
  have hown' : s'.vm.findClass own = some m.cls := by rw [hvm]; exact hown
  have hins : (Cond.instantiable cls 6).before args s' = true := h _ (by simp [Bundle.ownAtoms0])
  obtain ⟨vm₁, cX, kX, hfX, hkX, -, -, X₁, st1⟩ := Y.newCold hexec (own := own) (C := cls) (index := ik) (n := 6) hown' hk' hins hini'
    (g := F0 m pc ls rest) rfl (by rw [hb]; exact d0) (Nat.le_refl _) (Nat.le_refl _)
  generalize hT1 : (T.setVm vm₁).pushCell { cls := cX, slots := kX.instanceTypes.map defaultValue, vm := .none } = T1 at X₁ st1
  have hcat : (Value.ref T.heap.size).category = 1 := rfl
  have hcellA : T1.heap[T.heap.size]? = some (freshCell cX kX) := by rw [← hT1]; exact State.heap_pushCell_size _ _
  have d3' : decode c.code (pc + 3) = .ok (.dup, 1) := by rw [hb]; exact d3
  obtain ⟨U, hsteps, hrun, hend, hW, hsame, ce, hce, hO⟩ := X₁.ctorThrow0 hexec htr (own := own) (cls := cls) (names := names) (ic := ic) hown' hcls hnames h (fun x hx => nomatch hx) hfX hkX hcellA (by rw [hhp, hT]; exact Nat.le_refl _)
    (g := { method := m, pc := pc + 4, locals := ls, stack := .ref T.heap.size :: .ref T.heap.size :: rest, locked := none }) rfl hsize rfl rfl (rest := rest) rfl
    (by rw [hb]; exact d4) (by rw [hb]; exact d7) hout hRframes (by simp only [List.map_cons, List.sum_cons, hcat]; omega) hlocks
  obtain ⟨f1, f2⟩ := vx_frame hsame
  rw [hhp] at f1 f2
  have hWs : s.WarmedH U.vm := State.WarmedH.trans hW0 hW
  have hcl : s.vm.findClass cls = some ce.cls := by
    have h9 := hO.cls
    rw [hvm] at h9
    exact h9
  have hall : s.sameButNew ({ U with vm := s.vm } : State) locs mc ms := by
    subst hA
    obtain ⟨e1, e2⟩ := hsame
    rw [State.setFrames_setFrames] at e1
    have h2 : (T.setVm s.vm).sameButNew ({ U with vm := s.vm } : State) [] (0 + 1) (0 + 6) := ⟨e1, e2⟩
    have h3 := X.same.trans h2
    rw [List.append_nil] at h3
    exact h3.mono hc hs
  refine ⟨U, ?_, .threw T.heap.size, hrun, hend, Or.inr ⟨T.heap.size, rfl, cls, ce, locs, hx U hWs.alike f1 (fun q hq => f2 q hq (fun z hz => nomatch hz)), hce, hO.vm, hcl, hWs, hall, hf⟩⟩
  refine st1 _ ?_
  show Steps p.tables e below (T1.setTop { method := m, pc := pc + 3, locals := ls, stack := .ref T.heap.size :: rest, locked := none }) _
  jvm_step X₁.here [X₁.here.top, hexec, d3', Value.category]
  exact hsteps
/-- 'throw new E("text")': new; dup; ldc; invokespecial; athrow -/
theorem vx_throwS {cc : ByteArray} {pc : Nat} (hexec : p.tables.exec = Jvm.exec) (hb : c.code = cc) (hl : l.stackTraces = false) {own cls text : String} {names : List String} {ik is ic mc ms sa : Nat} {A : Nat → Prop}
    (hown : s.vm.findClass own = some m.cls) (hcls : Bundle.fit cls = true) (hnames : ∀ n ∈ names, Bundle.fit n = true)
    (hk : (Cond.classLink own ik cls).before args s = true) (hini : (Cond.initialized cls).before args s = true) (hstr : vk_R own is text sa s) (hat : ∀ w ∈ vx_atS own ic cls names, w.before args s = true)
    (hgood : ∀ w ∈ Cond.classLink own ik cls :: Cond.initialized cls :: vx_atS own ic cls names, vx_ot w = true)
    (hU : vx_Zq Bundle.tN "UNASSIGNED_STACK" Bundle.steD A s s.heap) (hN : vx_Zq Bundle.tN "SUPPRESSED_SENTINEL" Bundle.listD A s s.heap) (hS : va_S A s.heap H locs) (hsize : ls.size = c.maxLocals)
    (d0 : decode cc pc = .ok (.new ik, 3)) (d3 : decode cc (pc + 3) = .ok (.dup, 1)) (d4 : decode cc (pc + 4) = .ok (.ldc is, 2)) (d6 : decode cc (pc + 6) = .ok (.invokespecial ic, 3)) (d9 : decode cc (pc + 9) = .ok (.athrow, 1))
    (hout : ∀ x ∈ c.exceptionTable.toList, covers x (pc + 9) = false)
    (hRframes : names.length + 3 < R.frames) (hRlocals : (rest.map fun v => v.category).sum + (13 * (names.length + 1) + 43) ≤ R.locals) (hRcells : cells + 1 ≤ R.cells) (hRslots : slots + 6 ≤ R.slots) (hlocks : meth.locks = false)
    (hx : ∀ t : State, s.vm.Alike t.vm → H.size ≤ t.heap.size → (∀ q : Nat, q < H.size → t.heap[q]? = H[q]?) → XC cls s t)
    (hf : ∀ z ∈ locs, free z.base) (hc : cells + 1 ≤ mc) (hs : slots + 6 ≤ ms) :
    W p l e R s m args below meth c H locs cells slots (vx_MQ below Qc XC args s mc ms free) (F0 m pc ls rest) := by
  intro T hT X
  have htr : e.platform.stackTraces = false := (show e.platform.stackTraces = l.stackTraces by rw [X.admits.platform]).trans hl
  have Y := vx_rebase X (R' := { frames := R.frames, locals := R.locals, cells := 1, slots := 6 }) (Nat.le_refl _) (Nat.le_refl _) hRcells hRslots
  obtain ⟨s', hA⟩ : ∃ z, z = (T.setVm s.vm).setFrames (.invoking m args :: below) := ⟨_, rfl⟩
  rw [← hA] at Y
  have hvm : s'.vm = s.vm := by rw [hA]; rfl
  have hhp : s'.heap = H := by rw [hA]; exact hT
  have hW0 : s.WarmedH s'.vm := by rw [hvm]; exact State.WarmedH.refl s
  have hat' : ∀ w ∈ vx_atS own ic cls names, w.before args s' = true := fun w hw => vx_ot_at hW0 hvm.symm (hgood w (List.mem_cons_of_mem _ (List.mem_cons_of_mem _ hw))) (hat w hw)
  have hk' : (Cond.classLink own ik cls).before args s' = true := vx_ot_at hW0 hvm.symm (hgood _ List.mem_cons_self) hk
  have hini' : (Cond.initialized cls).before args s' = true := vx_ot_at hW0 hvm.symm (hgood _ (List.mem_cons_of_mem _ List.mem_cons_self)) hini
  have hU' : vx_Zq Bundle.tN "UNASSIGNED_STACK" Bundle.steD A s' s'.heap := by rw [hhp]; exact vx_Zq.moved hW0.alike (hU.kept hS.2.1)
  have hN' : vx_Zq Bundle.tN "SUPPRESSED_SENTINEL" Bundle.listD A s' s'.heap := by rw [hhp]; exact vx_Zq.moved hW0.alike (hN.kept hS.2.1)
  have h : ∀ w ∈ Bundle.ownAtoms own ic cls names, w.before args s' = true := vx_own hat' (vx_isRefq hU'.1) (vx_isRefq hN'.1) hU'.2.word hN'.2.word
  have hown' : s'.vm.findClass own = some m.cls := by rw [hvm]; exact hown
  have hins : (Cond.instantiable cls 6).before args s' = true := h _ (by simp [Bundle.ownAtoms])
  obtain ⟨vm₁, cX, kX, hfX, hkX, -, -, X₁, st1⟩ := Y.newCold hexec (own := own) (C := cls) (index := ik) (n := 6) hown' hk' hins hini'
    (g := F0 m pc ls rest) rfl (by rw [hb]; exact d0) (Nat.le_refl _) (Nat.le_refl _)
  generalize hT1 : (T.setVm vm₁).pushCell { cls := cX, slots := kX.instanceTypes.map defaultValue, vm := .none } = T1 at X₁ st1
  have hcat : (Value.ref T.heap.size).category = 1 := rfl
  have hcellA : T1.heap[T.heap.size]? = some (freshCell cX kX) := by rw [← hT1]; exact State.heap_pushCell_size _ _
  have d3' : decode c.code (pc + 3) = .ok (.dup, 1) := by rw [hb]; exact d3
  have d4' : decode c.code (pc + 4) = .ok (.ldc is, 2) := by rw [hb]; exact d4
  have hstr' : vk_R own is text sa s' := vk_R.warm hW0 hstr
  obtain ⟨U, hsteps, hrun, hend, hW, hsame, ce, hce, hO⟩ := X₁.ctorThrowS hexec htr (own := own) (cls := cls) (names := names) (ic := ic) hown' hcls hnames h (fun x hx => nomatch hx) hfX hkX hcellA (by rw [hhp, hT]; exact Nat.le_refl _) (msg := .ref sa) rfl
    (g := { method := m, pc := pc + 6, locals := ls, stack := .ref sa :: .ref T.heap.size :: .ref T.heap.size :: rest, locked := none }) rfl hsize rfl rfl (rest := rest) rfl
    (by rw [hb]; exact d6) (by rw [hb]; exact d9) hout hRframes (by simp only [List.map_cons, List.sum_cons, hcat]; omega) hlocks
  obtain ⟨f1, f2⟩ := vx_frame hsame
  rw [hhp] at f1 f2
  have hWs : s.WarmedH U.vm := State.WarmedH.trans hW0 hW
  have hcl : s.vm.findClass cls = some ce.cls := by
    have h9 := hO.cls
    rw [hvm] at h9
    exact h9
  have hall : s.sameButNew ({ U with vm := s.vm } : State) locs mc ms := by
    subst hA
    obtain ⟨e1, e2⟩ := hsame
    rw [State.setFrames_setFrames] at e1
    have h2 : (T.setVm s.vm).sameButNew ({ U with vm := s.vm } : State) [] (0 + 1) (0 + 6) := ⟨e1, e2⟩
    have h3 := X.same.trans h2
    rw [List.append_nil] at h3
    exact h3.mono hc hs
  refine ⟨U, ?_, .threw T.heap.size, hrun, hend, Or.inr ⟨T.heap.size, rfl, cls, ce, locs, hx U hWs.alike f1 (fun q hq => f2 q hq (fun z hz => nomatch hz)), hce, hO.vm, hcl, hWs, hall, hf⟩⟩
  refine st1 _ ?_
  show Steps p.tables e below (T1.setTop { method := m, pc := pc + 3, locals := ls, stack := .ref T.heap.size :: rest, locked := none }) _
  jvm_step X₁.here [X₁.here.top, hexec, d3', Value.category]
  exact X₁.ldcString hexec (own := own) (text := text) (index := is) (a := sa) hown' hstr'.1 hstr'.2
    (g := { method := m, pc := pc + 4, locals := ls, stack := .ref T.heap.size :: .ref T.heap.size :: rest, locked := none }) rfl d4' _ hsteps
/-- 'throw new E("text")', the text by a wide index -/
theorem vx_throwSW {cc : ByteArray} {pc : Nat} (hexec : p.tables.exec = Jvm.exec) (hb : c.code = cc) (hl : l.stackTraces = false) {own cls text : String} {names : List String} {ik is ic mc ms sa : Nat} {A : Nat → Prop}
    (hown : s.vm.findClass own = some m.cls) (hcls : Bundle.fit cls = true) (hnames : ∀ n ∈ names, Bundle.fit n = true)
    (hk : (Cond.classLink own ik cls).before args s = true) (hini : (Cond.initialized cls).before args s = true) (hstr : vk_R own is text sa s) (hat : ∀ w ∈ vx_atS own ic cls names, w.before args s = true)
    (hgood : ∀ w ∈ Cond.classLink own ik cls :: Cond.initialized cls :: vx_atS own ic cls names, vx_ot w = true)
    (hU : vx_Zq Bundle.tN "UNASSIGNED_STACK" Bundle.steD A s s.heap) (hN : vx_Zq Bundle.tN "SUPPRESSED_SENTINEL" Bundle.listD A s s.heap) (hS : va_S A s.heap H locs) (hsize : ls.size = c.maxLocals)
    (d0 : decode cc pc = .ok (.new ik, 3)) (d3 : decode cc (pc + 3) = .ok (.dup, 1)) (d4 : decode cc (pc + 4) = .ok (.ldc_w is, 3)) (d7 : decode cc (pc + 7) = .ok (.invokespecial ic, 3)) (d10 : decode cc (pc + 10) = .ok (.athrow, 1))
    (hout : ∀ x ∈ c.exceptionTable.toList, covers x (pc + 10) = false)
    (hRframes : names.length + 3 < R.frames) (hRlocals : (rest.map fun v => v.category).sum + (13 * (names.length + 1) + 43) ≤ R.locals) (hRcells : cells + 1 ≤ R.cells) (hRslots : slots + 6 ≤ R.slots) (hlocks : meth.locks = false)
    (hx : ∀ t : State, s.vm.Alike t.vm → H.size ≤ t.heap.size → (∀ q : Nat, q < H.size → t.heap[q]? = H[q]?) → XC cls s t)
    (hf : ∀ z ∈ locs, free z.base) (hc : cells + 1 ≤ mc) (hs : slots + 6 ≤ ms) :
    W p l e R s m args below meth c H locs cells slots (vx_MQ below Qc XC args s mc ms free) (F0 m pc ls rest) := by
  intro T hT X
  have htr : e.platform.stackTraces = false := (show e.platform.stackTraces = l.stackTraces by rw [X.admits.platform]).trans hl
  have Y := vx_rebase X (R' := { frames := R.frames, locals := R.locals, cells := 1, slots := 6 }) (Nat.le_refl _) (Nat.le_refl _) hRcells hRslots
  obtain ⟨s', hA⟩ : ∃ z, z = (T.setVm s.vm).setFrames (.invoking m args :: below) := ⟨_, rfl⟩
  rw [← hA] at Y
  have hvm : s'.vm = s.vm := by rw [hA]; rfl
  have hhp : s'.heap = H := by rw [hA]; exact hT
  have hW0 : s.WarmedH s'.vm := by rw [hvm]; exact State.WarmedH.refl s
  have hat' : ∀ w ∈ vx_atS own ic cls names, w.before args s' = true := fun w hw => vx_ot_at hW0 hvm.symm (hgood w (List.mem_cons_of_mem _ (List.mem_cons_of_mem _ hw))) (hat w hw)
  have hk' : (Cond.classLink own ik cls).before args s' = true := vx_ot_at hW0 hvm.symm (hgood _ List.mem_cons_self) hk
  have hini' : (Cond.initialized cls).before args s' = true := vx_ot_at hW0 hvm.symm (hgood _ (List.mem_cons_of_mem _ List.mem_cons_self)) hini
  have hU' : vx_Zq Bundle.tN "UNASSIGNED_STACK" Bundle.steD A s' s'.heap := by rw [hhp]; exact vx_Zq.moved hW0.alike (hU.kept hS.2.1)
  have hN' : vx_Zq Bundle.tN "SUPPRESSED_SENTINEL" Bundle.listD A s' s'.heap := by rw [hhp]; exact vx_Zq.moved hW0.alike (hN.kept hS.2.1)
  have h : ∀ w ∈ Bundle.ownAtoms own ic cls names, w.before args s' = true := vx_own hat' (vx_isRefq hU'.1) (vx_isRefq hN'.1) hU'.2.word hN'.2.word
  have hown' : s'.vm.findClass own = some m.cls := by rw [hvm]; exact hown
  have hins : (Cond.instantiable cls 6).before args s' = true := h _ (by simp [Bundle.ownAtoms])
  obtain ⟨vm₁, cX, kX, hfX, hkX, -, -, X₁, st1⟩ := Y.newCold hexec (own := own) (C := cls) (index := ik) (n := 6) hown' hk' hins hini'
    (g := F0 m pc ls rest) rfl (by rw [hb]; exact d0) (Nat.le_refl _) (Nat.le_refl _)
  generalize hT1 : (T.setVm vm₁).pushCell { cls := cX, slots := kX.instanceTypes.map defaultValue, vm := .none } = T1 at X₁ st1
  have hcat : (Value.ref T.heap.size).category = 1 := rfl
  have hcellA : T1.heap[T.heap.size]? = some (freshCell cX kX) := by rw [← hT1]; exact State.heap_pushCell_size _ _
  have d3' : decode c.code (pc + 3) = .ok (.dup, 1) := by rw [hb]; exact d3
  have d4' : decode c.code (pc + 4) = .ok (.ldc_w is, 3) := by rw [hb]; exact d4
  have hstr' : vk_R own is text sa s' := vk_R.warm hW0 hstr
  obtain ⟨U, hsteps, hrun, hend, hW, hsame, ce, hce, hO⟩ := X₁.ctorThrowS hexec htr (own := own) (cls := cls) (names := names) (ic := ic) hown' hcls hnames h (fun x hx => nomatch hx) hfX hkX hcellA (by rw [hhp, hT]; exact Nat.le_refl _) (msg := .ref sa) rfl
    (g := { method := m, pc := pc + 7, locals := ls, stack := .ref sa :: .ref T.heap.size :: .ref T.heap.size :: rest, locked := none }) rfl hsize rfl rfl (rest := rest) rfl
    (by rw [hb]; exact d7) (by rw [hb]; exact d10) hout hRframes (by simp only [List.map_cons, List.sum_cons, hcat]; omega) hlocks
  obtain ⟨f1, f2⟩ := vx_frame hsame
  rw [hhp] at f1 f2
  have hWs : s.WarmedH U.vm := State.WarmedH.trans hW0 hW
  have hcl : s.vm.findClass cls = some ce.cls := by
    have h9 := hO.cls
    rw [hvm] at h9
    exact h9
  have hall : s.sameButNew ({ U with vm := s.vm } : State) locs mc ms := by
    subst hA
    obtain ⟨e1, e2⟩ := hsame
    rw [State.setFrames_setFrames] at e1
    have h2 : (T.setVm s.vm).sameButNew ({ U with vm := s.vm } : State) [] (0 + 1) (0 + 6) := ⟨e1, e2⟩
    have h3 := X.same.trans h2
    rw [List.append_nil] at h3
    exact h3.mono hc hs
  refine ⟨U, ?_, .threw T.heap.size, hrun, hend, Or.inr ⟨T.heap.size, rfl, cls, ce, locs, hx U hWs.alike f1 (fun q hq => f2 q hq (fun z hz => nomatch hz)), hce, hO.vm, hcl, hWs, hall, hf⟩⟩
  refine st1 _ ?_
  show Steps p.tables e below (T1.setTop { method := m, pc := pc + 3, locals := ls, stack := .ref T.heap.size :: rest, locked := none }) _
  jvm_step X₁.here [X₁.here.top, hexec, d3', Value.category]
  exact X₁.ldcStringW hexec (own := own) (text := text) (index := is) (a := sa) hown' hstr'.1 hstr'.2
    (g := { method := m, pc := pc + 4, locals := ls, stack := .ref T.heap.size :: .ref T.heap.size :: rest, locked := none }) rfl d4' _ hsteps
end Ends
section Bodies
variable {l : Launch}
theorem vx_ofW {y : MethodName} {ws ws' : List Cond} {rm : Room} {Pc : Array Value → State → Prop} {Qc : Array Value → State → Outcome → State → Prop} {XC : String → State → State → Prop} {mc ms : Nat} {free : Addr → Prop} {cc : ByteArray} {maxL : Nat} {ret : Option FieldType}
    (hy : plainName y.cls = true) (hw : ws = Cond.code y cc maxL ret :: ws')
    (body : ∀ p e s m args below meth c s₁, BodyLoose p l y (headSpec ws rm) cc maxL ret e s m args below meth c s₁ → c.maxLocals = maxL → (∀ x ∈ c.exceptionTable.toList, False) → Pc args s →
      W p l e (headSpec ws rm).room s m args below meth c s.heap [] 0 0 (vx_MQ below Qc XC args s mc ms free) (entryFrame m args maxL)) : vx_Met l y ws rm Pc Qc XC mc ms free := by
  refine MetFree.of_bodyS (code := cc) (maxLocals := maxL) (ret := ret) hy ?_ ?_
  · intro args s m h hn
    obtain ⟨meth, c, h1, h2, h3, h4, h5, h6, -, -⟩ := Cond.code_spec hn (atoms_spec (ws := ws) h _ (by rw [hw]; exact List.mem_cons_self))
    exact ⟨meth, c, h1, h2, h3, h4, h5, h6⟩
  · intro p e s m args below meth c s₁ B hml hP _
    have hh0 : s₁.heap = s.heap := by rw [B.state]; rfl
    have ht : ∀ x ∈ c.exceptionTable.toList, False := by
      obtain ⟨meth9, c9, h1, h2, -, -, -, -, h7, -⟩ := Cond.code_spec B.named (atoms_spec (ws := ws) B.pre _ (by rw [hw]; exact List.mem_cons_self))
      cases Option.some.inj (h1.symm.trans B.method)
      cases Option.some.inj (h2.symm.trans (Stand.of_body B).code)
      intro x hx
      rw [Array.isEmpty_iff.mp h7] at hx
      cases hx
    obtain ⟨t, a1, o, b1, b2, b3⟩ := body p e s m args below meth c s₁ B hml ht hP s₁ hh0 (Stand.of_body B)
    exact ⟨t, o, a1, b1, b2, b3⟩
/-- the table of a body with handlers -/
theorem vx_table {p : Program} {x y : MethodName} {S : Spec} {cc bytes : ByteArray} {maxL maxL' : Nat} {ret ret' : Option FieldType} {e : Env} {s s₁ : State} {m : MethodId} {args : Array Value} {below : List Frame} {meth : Method} {c : Code} {hh : List (Nat × Nat × Nat × Nat)}
    (B : BodyLoose p l y S cc maxL ret e s m args below meth c s₁) (h : (Cond.codeWith y bytes maxL' ret' hh).before args s = true) : c.exceptionTable.toList = tableOf hh := by
  obtain ⟨m9, meth9, c9, hn9, h1, h2, -, -, h6, -⟩ := Cond.codeWith_spec h
  cases Option.some.inj (hn9.symm.trans B.named)
  cases Option.some.inj (h1.symm.trans B.method)
  cases Option.some.inj (h2.symm.trans (Stand.of_body B).code)
  rw [← h6, table_eq]
end Bodies
end VXA
/-! ===== END ===== -/
/-! ===== BEGIN a static call of a method with an exception table ===== -/
section VXS
variable {p : Program} {l : Launch} {e : Env} {R : Room} {s : State} {m : MethodId} {args : Array Value} {below : List Frame} {meth : Method} {c : Code} {T : State} {H : Heap} {locs : List Loc} {cells slots : Nat}
abbrev vx_CSW (R : Room) (s : State) (args : Array Value) (own : String) (index : Nat) (y : MethodName) (bytes : ByteArray) (maxL : Nat) (ret : Option FieldType) (hh : List (Nat × Nat × Nat × Nat)) (ws : List Cond) (rm : Room) (mc ms n : Nat) : Prop :=
  (rm.cells = mc ∧ rm.slots = ms ∧ rm.frames + 1 ≤ R.frames ∧ 8 + (maxL + 11) + rm.locals ≤ R.locals ∧ (∀ w ∈ ws, ∀ (a' : Array Value) (U : State), s.WarmedH U.vm → w.before a' U = true) ∧ Cond.codeWith y bytes maxL ret hh ∈ ws) ∧
  (Cond.codeWith y bytes maxL ret hh).before args s = true ∧ (Cond.initialized y.cls).before args s = true ∧ (y.cls ≠ "java/lang/invoke/MethodHandle" ∧ y.cls ≠ "java/lang/invoke/VarHandle") ∧
  (∀ sig, parseMethodDescriptor y.desc = some sig → n = sig.parameters.length) ∧ (Cond.methodLink own index y).before args s = true ∧ (Cond.static y).before args s = true
theorem vx_cwSW {own : String} {index maxL mc ms : Nat} {y : MethodName} {bytes : ByteArray} {ret : Option FieldType} {hh : List (Nat × Nat × Nat × Nat)} {Ts ws ws' : List Cond} {rm : Room} (n : Nat) (ht : ∀ w ∈ Ts, w.before args s = true) (hT : GoodIn Ts (va_wsS own index y ws)) (hw : ws = Cond.codeWith y bytes maxL ret hh :: ws') (hrc : rm.cells = mc) (hrs : rm.slots = ms)
    (hd : y.cls ≠ "java/lang/invoke/MethodHandle" ∧ y.cls ≠ "java/lang/invoke/VarHandle" ∧ (parseMethodDescriptor y.desc).map (fun d => d.parameters.length) = some n) (hR : rm.frames + 1 ≤ R.frames ∧ 8 + (maxL + 11) + rm.locals ≤ R.locals) :
    vx_CSW R s args own index y bytes maxL ret hh ws rm mc ms n := by
  have ok : ∀ w ∈ va_wsS own index y ws, w.before args s = true := fun w h => ht w (hT w h).1
  have hG : GoodIn Ts ws := fun w h => hT w (by unfold va_wsS; exact List.mem_append_right _ h)
  have hc : Cond.codeWith y bytes maxL ret hh ∈ ws := by rw [hw]; exact List.mem_cons_self
  refine ⟨⟨hrc, hrs, hR.1, hR.2, pay_in ht hG, hc⟩, ht _ (hG _ hc).1, ok _ (by simp [va_wsS]), ⟨hd.1, hd.2.1⟩, fun sig h => ?_, ok _ (by simp [va_wsS]), ok _ (by simp [va_wsS])⟩
  have h2 := hd.2.2
  rw [h] at h2
  exact (Option.some.inj h2).symm
theorem vx_callSW (X : Stand p l e R s m args below meth c T locs cells slots) (hexec : p.tables.exec = Jvm.exec) {own : String} {index : Nat} {y : MethodName} {bytes : ByteArray} {maxL : Nat} {ret : Option FieldType} {hh : List (Nat × Nat × Nat × Nat)}
    (hown : s.vm.findClass own = some m.cls) (hlink : (Cond.methodLink own index y).before args s = true) (hstat : (Cond.static y).before args s = true) (hinit : (Cond.initialized y.cls).before args s = true)
    (hcode : (Cond.codeWith y bytes maxL ret hh).before args s = true) (hy : y.cls ≠ "java/lang/invoke/MethodHandle" ∧ y.cls ≠ "java/lang/invoke/VarHandle")
    {W9 : Nat} {Pre : Pt → Array Value → Prop} {Post : Pt → Array Value → Option Value → Pt → Prop} (hK : Back l R p e below s args y 3 W9 Pre Post)
    {g : JFrame} (hg : g.method = m) (hsize : g.locals.size = c.maxLocals) {argsL rest : List Value} (hlen : ∀ sig, parseMethodDescriptor y.desc = some sig → argsL.length = sig.parameters.length)
    (hstack : g.stack = argsL.reverse ++ rest) (hW : 2 * g.monitorRoom + (rest.map fun v => v.category).sum ≤ W9) (hdg : decode c.code g.pc = .ok (.invokestatic index, 3))
    (hpre : ∀ vm₁, s.WarmedH vm₁ → Pre ⟨T.setVm vm₁, locs, cells, slots⟩ argsL.toArray) :
    ∃ (v : Option Value) (vm₁ : Vm) (B : Pt), s.WarmedH vm₁ ∧ Stand p l e R s m args below meth c B.U B.locs B.cells B.slots ∧ Post ⟨T.setVm vm₁, locs, cells, slots⟩ argsL.toArray v B ∧
      ∀ target, Steps p.tables e below (B.U.setTop { g with pc := g.pc + 3, stack := v.toList ++ rest }) target → Steps p.tables e below (T.setTop g) target := by
  obtain ⟨mk, methM, cM, hnamed, hmethM, -, -, -, -, -, -, hsigM⟩ := Cond.codeWith_spec hcode
  have hstatic : methM.isStatic = true := Cond.static_spec hnamed hmethM hstat
  obtain ⟨kP, hkP, -⟩ := className_of_methodNamed hnamed
  have hinitP : kP.init = .initialized := Cond.initialized_spec (findClass_of_methodNamed hnamed) hkP hinit
  obtain ⟨vm₁, X₁, hstep₁⟩ := X.invokestatic hexec hown hlink hnamed hmethM hstatic hkP hinitP hy (g := g) hg (argsL := argsL) (rest := rest) (hlen _ hsigM) hstack hdg
  obtain ⟨v, B, X', hpost, hsteps⟩ := hK m meth c ⟨T.setVm vm₁, locs, cells, slots⟩ { g with stack := rest } (.invokestatic index) mk argsL.toArray X₁ hg hsize hdg hW (X₁.named hnamed) (hpre vm₁ X₁.warmed)
  exact ⟨v, vm₁, B, X₁.warmed, X', hpost, fun target h => hstep₁ _ fun acts => by rw [doInvoke_state]; exact hsteps.trans h⟩
theorem vx_runSW {y : MethodName} {bytes cc : ByteArray} {maxL nL mc ms n index : Nat} {ret : Option FieldType} {hh : List (Nat × Nat × Nat × Nat)} {ws : List Cond} {rm : Room} {Pc : Array Value → State → Prop} {Qc : Array Value → State → Outcome → State → Prop} {free : Addr → Prop} {Ts : List Cond} {own : String} {As rest : List Value} {g : JFrame}
    (S : CallFix p m c cc nL s args Ts own) (hM : Met l y ws rm Pc Qc mc ms free) (cw : vx_CSW R s args own index y bytes maxL ret hh ws rm mc ms n) (hp : PreS s H Pc As)
    (hg : g.method = m) (hn : As.length = n) (hsize : g.locals.size = nL) (hstack : g.stack = As.reverse ++ rest) (hW : 2 * g.monitorRoom + (rest.map fun v => v.category).sum ≤ 8) (hdg : decode cc g.pc = .ok (.invokestatic index, 3)) (hf : cells + mc ≤ R.cells ∧ slots + ms ≤ R.slots) :
    va_Run p l e R s m args below meth c H locs cells slots mc ms g rest (Qc As.toArray) (free) := by
  obtain ⟨⟨hrc, hrs, hfr, hlo, hws, hcw⟩, hcode, hini, hy, hlen, hl, hstt⟩ := cw
  have hK : Back l R p e below s args y 3 8 (PreOf R mc ms Pc) (PostOf Qc mc ms free) := va_backW (hh := hh) (bytes := bytes) (maxL := maxL) (ret := ret) hM hp.1 hrc hrs hfr hlo hws hcw (fun a' U hW => word_at hW (Or.inl (by first | rfl | simp [Cond.onTables, Cond.keeps, Cond.steady])) hini)
  obtain ⟨hx, hb, hml, ho, -⟩ := S
  intro T hT X
  obtain ⟨v, vm₁, ⟨U', l2, c2, s2⟩, hW₁, X', ⟨g', mk, t, L, e1, e2, hq, h1, hL, h2, h3⟩, st⟩ := vx_callSW X hx (hh := hh) (bytes := bytes) (maxL := maxL) (ret := ret) ho hl hstt hini hcode hy hK hg (hsize.trans hml.symm) (argsL := As) (rest := rest) (fun sig h => hn.trans (hlen sig h)) hstack hW (by rw [hb]; exact hdg)
    (fun vm₁ hW₁ => ⟨hf.1, hf.2, hp.2 (T.setVm vm₁) hT hW₁⟩)
  dsimp only [Pt.U, Pt.locs, Pt.cells, Pt.slots] at X' e1 e2 h1 h2 h3 st
  subst h1; subst h2; subst h3
  exact ⟨v, (T.setVm vm₁).calling g' mk As.toArray, t, U', L, hT, X', hL, e1, e2, hq, st⟩
/-- not caught here, past rows that name other classes: it goes on to the caller -/
theorem vx_outP {p : Program} {l : Launch} {e : Env} {R : Room} {s : State} {m : MethodId} {args : Array Value} {below : List Frame} {meth : Method} {c : Code} {H : Heap} {locs : List Loc} {cells slots : Nat} {free : Addr → Prop} {ls : Array Slot} {rest : List Value} {Qc : Array Value → State → Outcome → State → Prop} {XC : String → State → State → Prop}
    {pc : Nat} {own E : String} {ce : Cell} {q : Addr} {mc ms : Nat} (hown : s.vm.findClass own = some m.cls) (hlocks : meth.locks = false)
    (hpass : ∀ z ∈ c.exceptionTable.toList, covers z pc = false ∨ (z.catchType ≠ 0 ∧ ∃ nm : String, (Cond.classLink own z.catchType nm).before args s = true ∧ va_Nc E nm s)) (hcell : H[q]? = some ce) (hv : ce.vm = .none) (hcl : s.vm.findClass E = some ce.cls)
    (hx : ∀ t : State, t.heap = H → s.vm.Alike t.vm → XC E s t) (hf : ∀ z ∈ locs, free z.base) (hc : cells ≤ mc) (hs : slots ≤ ms) :
    vx_W p l e R s m args below meth c H locs cells slots (vx_MQ below Qc XC args s mc ms free) (F0 m pc ls rest) q := by
  intro T hT X
  have hpl : e.platform.magicAccessors = ({} : Platform).magicAccessors := by rw [X.admits.platform]
  obtain ⟨vm', hW', X', st⟩ := X.outThrough hlocks q (g := F0 m pc ls rest) rfl rfl rfl (cell := ce) (by rw [hT]; exact hcell) (by rw [hv]; rfl)
    (by obtain ⟨k9, h9, -⟩ := Vm.findClass_spec hcl; exact ⟨k9, h9⟩) (fun z hz => by
      rcases hpass z hz with h | ⟨hz0, nm, hl1, hn1⟩
      · exact Or.inl h
      · obtain ⟨c6, hc6, hcl6⟩ := Cond.classLink_spec hown hl1 e.platform hpl
        obtain ⟨a8, b8, h1, h2, h3⟩ := hn1
        cases Option.some.inj (h1.symm.trans hcl)
        cases Option.some.inj (h2.symm.trans hc6)
        exact Or.inr ⟨hz0, _, hcl6, h3⟩)
  obtain ⟨g₀, hfr⟩ := X'.frames_eq
  have hcell9 : ((T.setVm vm').setFrames (.throwing q :: below)).heap[q]? = some ce := by
    show T.heap[q]? = some ce
    rw [hT]; exact hcell
  have hend : Ended ((T.setVm vm').setFrames (.throwing q :: below)) below (.threw q) := State.frames_setFrames _ (State.cur_lt_of_frames hfr)
  refine ⟨(T.setVm vm').setFrames (.throwing q :: below), ?_, .threw q, X'.here.running, hend, Or.inr ⟨q, rfl, E, ce, locs, hx _ hT (X'.ends _).1.alike, hcell9, hv, hcl, (X'.ends _).1, (X'.ends _).2.mono hc hs, hf⟩⟩
  rw [X.pushThrowing_eq]
  exact st
/-- a thing of a world lies in the heap -/
theorem vx_lt {D : va_G} {cl : List vw_C} {ws : va_W} {H1 : Heap} (h : va_P D cl ws H1) {k : Nat} {q : Nat × va_E} (hk : ws[k]? = some q) : q.1 < H1.size := (h k q hk).lt
end VXS
/-! ===== END ===== -/
/-! ===== BEGIN methods with a table of their own: called by a name, returning or throwing ===== -/
section VXH
/-! vx_backW, vx_callVX, vx_callSX, vx_callVW, vx_runVW, vx_runVX, vx_runSX, vx_ofWH follow the same proofs as their sisters above (Free/Laws.lean, Shelf42/LK1.lean); vx_outP calls Shelf42/NT130.lean (outThrough). -/
section
variable {l : Launch} {R : Room} {p : Program} {e : Env} {below : List Frame} {s : State} {sargs : Array Value} {y : MethodName} {len W9 : Nat}
theorem vx_backW {ws : List Cond} {rm : Room} {Pc : Array Value → State → Prop} {Qc : Array Value → State → Outcome → State → Prop} {XC : String → State → State → Prop} {mc ms : Nat} {free : Addr → Prop} {bytes : ByteArray} {maxL : Nat} {ret : Option FieldType} {hh : List (Nat × Nat × Nat × Nat)}
    (hM : vx_Met l y ws rm Pc Qc XC mc ms free) (hblind : FrameBlind Pc) (hrc : rm.cells = mc) (hrs : rm.slots = ms)
    (hframes : rm.frames + 1 ≤ R.frames) (hlocals : W9 + (maxL + 11) + rm.locals ≤ R.locals)
    (hws : ∀ w ∈ ws, ∀ a' U, s.WarmedH U.vm → w.before a' U = true) (hcode : Cond.codeWith y bytes maxL ret hh ∈ ws) (hinit : ∀ a' U, s.WarmedH U.vm → (Cond.initialized y.cls).before a' U = true) :
    vx_Back l R p e below s sargs y len W9 (PreOf R mc ms Pc) (PostOf Qc mc ms free) (vx_Post XC mc ms free) := by
  intro m meth c A g ig mk a X hg hsize hdg hW hn hp
  have h1 : (headSpec ws rm).pre.before a A.U = true := atoms_intro fun w hw => hws w hw _ _ X.warmed
  have h2 : (Cond.codeWith y bytes maxL ret hh).before a A.U = true := hws _ hcode _ _ X.warmed
  have h3 : (Cond.initialized y.cls).before a A.U = true := hinit _ _ X.warmed
  have h4 : A.cells + (headSpec ws rm).room.cells ≤ R.cells := by rw [show (headSpec ws rm).room.cells = mc from hrc]; exact hp.1
  have h5 : A.slots + (headSpec ws rm).room.slots ≤ R.slots := by rw [show (headSpec ws rm).room.slots = ms from hrs]; exact hp.2.1
  have hPc : Pc a (A.U.calling g mk a) := hblind _ _ _ _ hp.2.2
  obtain ⟨U, Ls, c0, s0⟩ := A
  dsimp only [Pt.U, Pt.locs, Pt.cells, Pt.slots] at h1 h2 h3 h4 h5 X hn hPc ⊢
  obtain ⟨m9, methY, cY, hn9, hmY, hcY, -, hlY, -⟩ := Cond.codeWith_spec h2
  cases Option.some.inj (hn9.symm.trans hn)
  obtain ⟨kY, hkY, -⟩ := className_of_methodNamed hn
  have hinitY : kY.init = .initialized := Cond.initialized_spec (findClass_of_methodNamed hn) hkY h3
  have h : At U g.method c below := by rw [hg]; exact X.here
  have hlocals9 : W9 + (maxL + 11) + (headSpec ws rm).room.locals ≤ R.locals := hlocals
  have happ : (headSpec ws rm).appliesLoose y e.platform (U.calling g mk a) = true :=
    Spec.appliesLoose_calling (g := g) h hdg hn hkY hinitY
      (X.room_calling (g := g) (R' := (headSpec ws rm).room) hsize hmY hcY hframes (by rw [hlY]; omega) h4 h5) h1
  obtain ⟨mid, hmid⟩ := h.above
  have hfr : (U.setTop g).frames = (.java g :: mid) ++ below := by rw [State.frames_setTop' g h.top, hmid]; rfl
  obtain ⟨o, s₂, hsteps, -, hend, hq⟩ := Steps.callFree hM p X.admits X.cas X.clock (acts := []) hfr happ hPc trivial
  have hq' : vx_Q Qc XC mc ms free a (U.calling g mk a) o s₂ := hq
  rw [State.frames_setTop' g h.top] at hend
  obtain ⟨g₀, hg0⟩ := Option.isSome_iff_exists.mp h.top
  obtain ⟨r, hr⟩ := State.topJava?_eq_some.mp hg0
  have hr' : (({ U with heap := s₂.heap, slotsUsed := s₂.slotsUsed } : State).setVm s₂.vm).frames = .java g₀ :: r := hr
  rcases hq' with ⟨hqc, L, hfe, hL⟩ | ⟨q, rfl, E, ce, L, hx, hce, hcv, hcl, hW₂, hsm, hL⟩
  · obtain ⟨⟨v, rfl⟩, hW₂, e2, q2, q3, q4, q5, q6⟩ := id hfe
    have e3 : s₂ = ({ (U.calling g mk a).setFrames s₂.frames with heap := s₂.heap, slotsUsed := s₂.slotsUsed } : State).setVm s₂.vm := by
      have : s₂ = ({ s₂ with vm := (U.calling g mk a).vm } : State).setVm s₂.vm := rfl
      rw [e2] at this
      exact this
    obtain ⟨c₂, i₂, len₂, hc₂, hd₂, hf₂⟩ := hend
    have hW' : U.WarmedH s₂.vm := hW₂
    have hcc : c₂ = c := by
      have h1 : s₂.code? g.method = U.code? g.method := by
        rw [State.code?_eq, State.code?_eq, hW'.alike.method?]
      exact Option.some.inj (hc₂.symm.trans (h1.trans h.code))
    subst hcc
    have hlen : len₂ = len := by rw [hdg] at hd₂; cases hd₂; rfl
    subst hlen
    have hs₂ : s₂ = (({ U with heap := s₂.heap, slotsUsed := s₂.slotsUsed } : State).setVm s₂.vm).setTop { g with pc := g.pc + len₂, stack := v.toList ++ g.stack } := by
      refine e3.trans ?_
      rw [hf₂, State.calling_eq h.top, State.setFrames_setFrames, State.setTop_of_frames _ hr', hr]
      rfl
    have hsame : U.sameButNew ({ U with heap := s₂.heap, slotsUsed := s₂.slotsUsed } : State) L mc ms := by
      refine ⟨?_, q2, q3, q4, q5, q6⟩
      obtain ⟨t, ht, -⟩ := State.frames_cons hr
      show ({ U with heap := s₂.heap, slotsUsed := s₂.slotsUsed } : State) = { U.setFrames U.frames with heap := s₂.heap, slotsUsed := s₂.slotsUsed }
      rw [State.setFrames_self ht]
    subst hg
    refine Or.inl ⟨v, ⟨(({ U with heap := s₂.heap, slotsUsed := s₂.slotsUsed } : State).setVm s₂.vm), Ls ++ L, c0 + mc, s0 + ms⟩,
      ⟨X.admits, X.cas, X.clock, X.frames, X.room, X.hears, X.method, X.code, (X.here.setHeapUsed s₂.heap s₂.slotsUsed).setVm hW'.alike, X.tail, State.WarmedH.trans X.warmed hW', X.limits, X.bytes, X.same.trans (hsame.setVm s.vm)⟩,
      ⟨g, mk, s₂, L, rfl, rfl, hqc, rfl, hL, rfl, rfl⟩, ?_⟩
    show Steps p.tables e below _ ((({ U with heap := s₂.heap, slotsUsed := s₂.slotsUsed } : State).setVm s₂.vm).setTop { g with pc := g.pc + len₂, stack := v.toList ++ g.stack })
    rw [← hs₂]
    exact hsteps
  · obtain ⟨e2, q2, q3, q4, q5, q6⟩ := id hsm
    have e3 : s₂ = ({ (U.calling g mk a).setFrames s₂.frames with heap := s₂.heap, slotsUsed := s₂.slotsUsed } : State).setVm s₂.vm := by
      have : s₂ = ({ s₂ with vm := (U.calling g mk a).vm } : State).setVm s₂.vm := rfl
      rw [e2] at this
      exact this
    have hf₂ : s₂.frames = .throwing q :: .java g :: U.frames.tail := hend
    have hW' : U.WarmedH s₂.vm := hW₂
    have hs₂ : s₂ = ((({ U with heap := s₂.heap, slotsUsed := s₂.slotsUsed } : State).setVm s₂.vm).setTop g).pushFrame (.throwing q) := by
      refine e3.trans ?_
      rw [hf₂, State.calling_eq h.top, State.setFrames_setFrames, State.pushFrame, State.frames_setTop _ hr', State.setTop_of_frames _ hr', State.setFrames_setFrames, hr]
      rfl
    have hsame : U.sameButNew ({ U with heap := s₂.heap, slotsUsed := s₂.slotsUsed } : State) L mc ms := by
      refine ⟨?_, q2, q3, q4, q5, q6⟩
      obtain ⟨t, ht, -⟩ := State.frames_cons hr
      show ({ U with heap := s₂.heap, slotsUsed := s₂.slotsUsed } : State) = { U.setFrames U.frames with heap := s₂.heap, slotsUsed := s₂.slotsUsed }
      rw [State.setFrames_self ht]
    subst hg
    refine Or.inr ⟨q, ⟨(({ U with heap := s₂.heap, slotsUsed := s₂.slotsUsed } : State).setVm s₂.vm), Ls ++ L, c0 + mc, s0 + ms⟩,
      ⟨X.admits, X.cas, X.clock, X.frames, X.room, X.hears, X.method, X.code, (X.here.setHeapUsed s₂.heap s₂.slotsUsed).setVm hW'.alike, X.tail, State.WarmedH.trans X.warmed hW', X.limits, X.bytes, X.same.trans (hsame.setVm s.vm)⟩,
      ⟨g, mk, s₂, L, E, ce, rfl, rfl, hx, hce, hcv, hcl, rfl, hL, rfl, rfl⟩, ?_⟩
    show Steps p.tables e below _ (((({ U with heap := s₂.heap, slotsUsed := s₂.slotsUsed } : State).setVm s₂.vm).setTop g).pushFrame (.throwing q))
    rw [← hs₂]
    exact hsteps
end
variable {p : Program} {l : Launch} {e : Env} {R : Room} {s : State} {m : MethodId} {args : Array Value} {below : List Frame} {meth : Method} {c : Code} {T : State} {H : Heap} {locs : List Loc} {cells slots : Nat}
theorem vx_callVX (X : Stand p l e R s m args below meth c T locs cells slots) (hexec : p.tables.exec = Jvm.exec) {own C : String} {index : Nat} {y : MethodName} {bytes : ByteArray} {maxL : Nat} {ret : Option FieldType} {hh : List (Nat × Nat × Nat × Nat)}
    (hown : s.vm.findClass own = some m.cls) (hlink : (Cond.methodLink own index y).before args s = true) (hinst : (Cond.instanceMethod y).before args s = true) (hsel : (Cond.selects C y y).before args s = true)
    (hcode : (Cond.codeWith y bytes maxL ret hh).before args s = true) (hy : y.cls ≠ "java/lang/invoke/MethodHandle" ∧ y.cls ≠ "java/lang/invoke/VarHandle")
    {W9 : Nat} {Pre : Pt → Array Value → Prop} {Post : Pt → Array Value → Option Value → Pt → Prop} {PostX : Pt → Array Value → Addr → Pt → Prop} (hK : vx_Back l R p e below s args y 3 W9 Pre Post PostX)
    {b : Addr} {cellB : Cell} (hcell : T.heap[b]? = some cellB) (hobj : cellB.vm.isStatics = false) (hcls : s.vm.findClass C = some cellB.cls)
    {g : JFrame} (hg : g.method = m) (hsize : g.locals.size = c.maxLocals) {argsL rest : List Value} (hlen : ∀ sig, parseMethodDescriptor y.desc = some sig → argsL.length = sig.parameters.length)
    (hstack : g.stack = argsL.reverse ++ .ref b :: rest) (hW : 2 * g.monitorRoom + (rest.map fun v => v.category).sum ≤ W9) (hdg : decode c.code g.pc = .ok (.invokevirtual index, 3))
    (hpre : ∀ vm₁, s.WarmedH vm₁ → Pre ⟨T.setVm vm₁, locs, cells, slots⟩ (Value.ref b :: argsL).toArray) :
    (∃ (v : Option Value) (vm₁ : Vm) (B : Pt), s.WarmedH vm₁ ∧ Stand p l e R s m args below meth c B.U B.locs B.cells B.slots ∧ Post ⟨T.setVm vm₁, locs, cells, slots⟩ (Value.ref b :: argsL).toArray v B ∧
      ∀ target, Steps p.tables e below (B.U.setTop { g with pc := g.pc + 3, stack := v.toList ++ rest }) target → Steps p.tables e below (T.setTop g) target) ∨
    (∃ (q : Addr) (vm₁ : Vm) (B : Pt), s.WarmedH vm₁ ∧ Stand p l e R s m args below meth c B.U B.locs B.cells B.slots ∧ PostX ⟨T.setVm vm₁, locs, cells, slots⟩ (Value.ref b :: argsL).toArray q B ∧
      Steps p.tables e below (T.setTop g) ((B.U.setTop { g with stack := rest }).pushFrame (.throwing q))) := by
  obtain ⟨mk, methM, hnamed, hmethM, hstM, habM⟩ := Cond.instanceMethod_spec hinst
  obtain ⟨m8, methM', cM, hn8, hmethM', -, -, -, -, -, -, hsigM⟩ := Cond.codeWith_spec hcode
  cases Option.some.inj (hn8.symm.trans hnamed)
  cases hmethM.symm.trans hmethM'
  obtain ⟨c2, r2, m2, q1, q2, q3, q4, kP, hkP, hkPi⟩ := Cond.selects_spec hsel
  cases hcls.symm.trans q1
  cases (State.methodFound?_of_named hnamed hy).symm.trans q2
  cases hnamed.symm.trans q3
  have hselP : selectMethod e.platform s.vm cellB.cls mk = .method mk := by rw [Launch.admits_selectMethod X.admits]; exact q4
  obtain ⟨vm₁, X₁, hstep₁⟩ := X.invokevirtual hexec hown hlink hnamed hmethM hstM hkP hkPi hy (a := b) (cell := cellB) hcell
    (fun z h => by rw [h] at hobj; cases hobj) hselP hmethM habM hkP hkPi (g := g) hg (argsL := argsL) (rest := rest) (hlen _ hsigM) hstack hdg
  rcases hK m meth c ⟨T.setVm vm₁, locs, cells, slots⟩ { g with stack := rest } (.invokevirtual index) mk (Value.ref b :: argsL).toArray X₁ hg hsize hdg hW (X₁.named hnamed) (hpre vm₁ X₁.warmed) with ⟨v, B, X', hpost, hsteps⟩ | ⟨q, B, X', hpost, hsteps⟩
  · exact Or.inl ⟨v, vm₁, B, X₁.warmed, X', hpost, fun target h => hstep₁ _ fun acts => by rw [doInvoke_state]; exact hsteps.trans h⟩
  · exact Or.inr ⟨q, vm₁, B, X₁.warmed, X', hpost, hstep₁ _ fun acts => by rw [doInvoke_state]; exact hsteps⟩
theorem vx_callSX (X : Stand p l e R s m args below meth c T locs cells slots) (hexec : p.tables.exec = Jvm.exec) {own : String} {index : Nat} {y : MethodName} {bytes : ByteArray} {maxL : Nat} {ret : Option FieldType} {hh : List (Nat × Nat × Nat × Nat)}
    (hown : s.vm.findClass own = some m.cls) (hlink : (Cond.methodLink own index y).before args s = true) (hstat : (Cond.static y).before args s = true) (hinit : (Cond.initialized y.cls).before args s = true)
    (hcode : (Cond.codeWith y bytes maxL ret hh).before args s = true) (hy : y.cls ≠ "java/lang/invoke/MethodHandle" ∧ y.cls ≠ "java/lang/invoke/VarHandle")
    {W9 : Nat} {Pre : Pt → Array Value → Prop} {Post : Pt → Array Value → Option Value → Pt → Prop} {PostX : Pt → Array Value → Addr → Pt → Prop} (hK : vx_Back l R p e below s args y 3 W9 Pre Post PostX)
    {g : JFrame} (hg : g.method = m) (hsize : g.locals.size = c.maxLocals) {argsL rest : List Value} (hlen : ∀ sig, parseMethodDescriptor y.desc = some sig → argsL.length = sig.parameters.length)
    (hstack : g.stack = argsL.reverse ++ rest) (hW : 2 * g.monitorRoom + (rest.map fun v => v.category).sum ≤ W9) (hdg : decode c.code g.pc = .ok (.invokestatic index, 3))
    (hpre : ∀ vm₁, s.WarmedH vm₁ → Pre ⟨T.setVm vm₁, locs, cells, slots⟩ argsL.toArray) :
    (∃ (v : Option Value) (vm₁ : Vm) (B : Pt), s.WarmedH vm₁ ∧ Stand p l e R s m args below meth c B.U B.locs B.cells B.slots ∧ Post ⟨T.setVm vm₁, locs, cells, slots⟩ argsL.toArray v B ∧
      ∀ target, Steps p.tables e below (B.U.setTop { g with pc := g.pc + 3, stack := v.toList ++ rest }) target → Steps p.tables e below (T.setTop g) target) ∨
    (∃ (q : Addr) (vm₁ : Vm) (B : Pt), s.WarmedH vm₁ ∧ Stand p l e R s m args below meth c B.U B.locs B.cells B.slots ∧ PostX ⟨T.setVm vm₁, locs, cells, slots⟩ argsL.toArray q B ∧
      Steps p.tables e below (T.setTop g) ((B.U.setTop { g with stack := rest }).pushFrame (.throwing q))) := by
  obtain ⟨mk, methM, cM, hnamed, hmethM, -, -, -, -, -, -, hsigM⟩ := Cond.codeWith_spec hcode
  have hstatic : methM.isStatic = true := Cond.static_spec hnamed hmethM hstat
  obtain ⟨kP, hkP, -⟩ := className_of_methodNamed hnamed
  have hinitP : kP.init = .initialized := Cond.initialized_spec (findClass_of_methodNamed hnamed) hkP hinit
  obtain ⟨vm₁, X₁, hstep₁⟩ := X.invokestatic hexec hown hlink hnamed hmethM hstatic hkP hinitP hy (g := g) hg (argsL := argsL) (rest := rest) (hlen _ hsigM) hstack hdg
  rcases hK m meth c ⟨T.setVm vm₁, locs, cells, slots⟩ { g with stack := rest } (.invokestatic index) mk argsL.toArray X₁ hg hsize hdg hW (X₁.named hnamed) (hpre vm₁ X₁.warmed) with ⟨v, B, X', hpost, hsteps⟩ | ⟨q, B, X', hpost, hsteps⟩
  · exact Or.inl ⟨v, vm₁, B, X₁.warmed, X', hpost, fun target h => hstep₁ _ fun acts => by rw [doInvoke_state]; exact hsteps.trans h⟩
  · exact Or.inr ⟨q, vm₁, B, X₁.warmed, X', hpost, hstep₁ _ fun acts => by rw [doInvoke_state]; exact hsteps⟩
theorem vx_callVW (X : Stand p l e R s m args below meth c T locs cells slots) (hexec : p.tables.exec = Jvm.exec) {own C : String} {index : Nat} {y : MethodName} {bytes : ByteArray} {maxL : Nat} {ret : Option FieldType} {hh : List (Nat × Nat × Nat × Nat)}
    (hown : s.vm.findClass own = some m.cls) (hlink : (Cond.methodLink own index y).before args s = true) (hinst : (Cond.instanceMethod y).before args s = true) (hsel : (Cond.selects C y y).before args s = true)
    (hcode : (Cond.codeWith y bytes maxL ret hh).before args s = true) (hy : y.cls ≠ "java/lang/invoke/MethodHandle" ∧ y.cls ≠ "java/lang/invoke/VarHandle")
    {W9 : Nat} {Pre : Pt → Array Value → Prop} {Post : Pt → Array Value → Option Value → Pt → Prop} (hK : Back l R p e below s args y 3 W9 Pre Post)
    {b : Addr} {cellB : Cell} (hcell : T.heap[b]? = some cellB) (hobj : cellB.vm.isStatics = false) (hcls : s.vm.findClass C = some cellB.cls)
    {g : JFrame} (hg : g.method = m) (hsize : g.locals.size = c.maxLocals) {argsL rest : List Value} (hlen : ∀ sig, parseMethodDescriptor y.desc = some sig → argsL.length = sig.parameters.length)
    (hstack : g.stack = argsL.reverse ++ .ref b :: rest) (hW : 2 * g.monitorRoom + (rest.map fun v => v.category).sum ≤ W9) (hdg : decode c.code g.pc = .ok (.invokevirtual index, 3))
    (hpre : ∀ vm₁, s.WarmedH vm₁ → Pre ⟨T.setVm vm₁, locs, cells, slots⟩ (Value.ref b :: argsL).toArray) :
    ∃ (v : Option Value) (vm₁ : Vm) (B : Pt), s.WarmedH vm₁ ∧ Stand p l e R s m args below meth c B.U B.locs B.cells B.slots ∧ Post ⟨T.setVm vm₁, locs, cells, slots⟩ (Value.ref b :: argsL).toArray v B ∧
      ∀ target, Steps p.tables e below (B.U.setTop { g with pc := g.pc + 3, stack := v.toList ++ rest }) target → Steps p.tables e below (T.setTop g) target := by
  obtain ⟨mk, methM, hnamed, hmethM, hstM, habM⟩ := Cond.instanceMethod_spec hinst
  obtain ⟨m8, methM', cM, hn8, hmethM', -, -, -, -, -, -, hsigM⟩ := Cond.codeWith_spec hcode
  cases Option.some.inj (hn8.symm.trans hnamed)
  cases hmethM.symm.trans hmethM'
  obtain ⟨c2, r2, m2, q1, q2, q3, q4, kP, hkP, hkPi⟩ := Cond.selects_spec hsel
  cases hcls.symm.trans q1
  cases (State.methodFound?_of_named hnamed hy).symm.trans q2
  cases hnamed.symm.trans q3
  have hselP : selectMethod e.platform s.vm cellB.cls mk = .method mk := by rw [Launch.admits_selectMethod X.admits]; exact q4
  obtain ⟨vm₁, X₁, hstep₁⟩ := X.invokevirtual hexec hown hlink hnamed hmethM hstM hkP hkPi hy (a := b) (cell := cellB) hcell
    (fun z h => by rw [h] at hobj; cases hobj) hselP hmethM habM hkP hkPi (g := g) hg (argsL := argsL) (rest := rest) (hlen _ hsigM) hstack hdg
  obtain ⟨v, B, X', hpost, hsteps⟩ := hK m meth c ⟨T.setVm vm₁, locs, cells, slots⟩ { g with stack := rest } (.invokevirtual index) mk (Value.ref b :: argsL).toArray X₁ hg hsize hdg hW (X₁.named hnamed) (hpre vm₁ X₁.warmed)
  exact ⟨v, vm₁, B, X₁.warmed, X', hpost, fun target h => hstep₁ _ fun acts => by rw [doInvoke_state]; exact hsteps.trans h⟩
abbrev vx_CVW (R : Room) (s : State) (args : Array Value) (own C : String) (index : Nat) (y : MethodName) (bytes : ByteArray) (maxL : Nat) (ret : Option FieldType) (hh : List (Nat × Nat × Nat × Nat)) (ws : List Cond) (rm : Room) (mc ms n : Nat) : Prop :=
  (rm.cells = mc ∧ rm.slots = ms ∧ rm.frames + 1 ≤ R.frames ∧ 8 + (maxL + 11) + rm.locals ≤ R.locals ∧ (∀ w ∈ ws, ∀ (a' : Array Value) (U : State), s.WarmedH U.vm → w.before a' U = true) ∧ Cond.codeWith y bytes maxL ret hh ∈ ws) ∧
  (Cond.codeWith y bytes maxL ret hh).before args s = true ∧ (Cond.initialized y.cls).before args s = true ∧ (y.cls ≠ "java/lang/invoke/MethodHandle" ∧ y.cls ≠ "java/lang/invoke/VarHandle") ∧
  (∀ sig, parseMethodDescriptor y.desc = some sig → n = sig.parameters.length) ∧ (Cond.methodLink own index y).before args s = true ∧ (Cond.instanceMethod y).before args s = true ∧ (Cond.selects C y y).before args s = true
theorem vx_cwVW {own C : String} {index maxL mc ms : Nat} {y : MethodName} {bytes : ByteArray} {ret : Option FieldType} {hh : List (Nat × Nat × Nat × Nat)} {Ts ws ws' : List Cond} {rm : Room} (n : Nat) (ht : ∀ w ∈ Ts, w.before args s = true) (hT : GoodIn Ts (wsV own index C y ws)) (hw : ws = Cond.codeWith y bytes maxL ret hh :: ws') (hrc : rm.cells = mc) (hrs : rm.slots = ms)
    (hd : y.cls = C ∧ y.cls ≠ "java/lang/invoke/MethodHandle" ∧ y.cls ≠ "java/lang/invoke/VarHandle" ∧ (parseMethodDescriptor y.desc).map (fun d => d.parameters.length) = some n) (hR : rm.frames + 1 ≤ R.frames ∧ 8 + (maxL + 11) + rm.locals ≤ R.locals) :
    vx_CVW R s args own C index y bytes maxL ret hh ws rm mc ms n := by
  obtain ⟨hC, hd⟩ := hd
  subst hC
  have ok : ∀ w ∈ wsV own index y.cls y ws, w.before args s = true := fun w h => ht w (hT w h).1
  have hG : GoodIn Ts ws := fun w h => hT w (by unfold wsV; exact List.mem_append_right _ h)
  have hc : Cond.codeWith y bytes maxL ret hh ∈ ws := by rw [hw]; exact List.mem_cons_self
  refine ⟨⟨hrc, hrs, hR.1, hR.2, pay_in ht hG, hc⟩, ht _ (hG _ hc).1, ok _ (by simp [wsV]), ⟨hd.1, hd.2.1⟩, fun sig h => ?_, ok _ (by simp [wsV]), ok _ (by simp [wsV]), ok _ (by simp [wsV])⟩
  have h2 := hd.2.2
  rw [h] at h2
  exact (Option.some.inj h2).symm
theorem vx_runVW {y : MethodName} {bytes cc : ByteArray} {maxL nL mc ms n index : Nat} {ret : Option FieldType} {hh : List (Nat × Nat × Nat × Nat)} {ws : List Cond} {rm : Room} {Pc : Array Value → State → Prop} {Qc : Array Value → State → Outcome → State → Prop} {free : Addr → Prop} {Ts : List Cond} {own C : String} {b : Addr} {As rest : List Value} {g : JFrame}
    (S : CallFix p m c cc nL s args Ts own) (hM : Met l y ws rm Pc Qc mc ms free) (cw : vx_CVW R s args own C index y bytes maxL ret hh ws rm mc ms n) (hp : PreV s H C b Pc As)
    (hg : g.method = m) (hn : As.length = n) (hsize : g.locals.size = nL) (hstack : g.stack = As.reverse ++ .ref b :: rest) (hW : 2 * g.monitorRoom + (rest.map fun v => v.category).sum ≤ 8) (hdg : decode cc g.pc = .ok (.invokevirtual index, 3)) (hf : cells + mc ≤ R.cells ∧ slots + ms ≤ R.slots) :
    va_Run p l e R s m args below meth c H locs cells slots mc ms g rest (Qc (Value.ref b :: As).toArray) free := by
  obtain ⟨⟨hrc, hrs, hfr, hlo, hws, hcw⟩, hcode, hini, hy, hlen, hl, hin, hse⟩ := cw
  have hK : Back l R p e below s args y 3 8 (PreOf R mc ms Pc) (PostOf Qc mc ms free) := va_backW (hh := hh) (bytes := bytes) (maxL := maxL) (ret := ret) hM hp.1 hrc hrs hfr hlo hws hcw (fun a' U hW => word_at hW (Or.inl (by first | rfl | simp [Cond.onTables, Cond.keeps, Cond.steady])) hini)
  obtain ⟨hx, hb, hml, ho, -⟩ := S
  obtain ⟨-, ⟨cellB, hcB, hoB, hclB⟩, hPc⟩ := hp
  intro T hT X
  obtain ⟨v, vm₁, ⟨U', l2, c2, s2⟩, hW₁, X', ⟨g', mk, t, L, e1, e2, hq, h1, hL, h2, h3⟩, st⟩ := vx_callVW X hx (C := C) (hh := hh) (bytes := bytes) (maxL := maxL) (ret := ret) ho hl hin hse hcode hy hK (by rw [hT]; exact hcB) hoB hclB hg (hsize.trans hml.symm) (argsL := As) (rest := rest) (fun sig h => hn.trans (hlen sig h)) hstack hW (by rw [hb]; exact hdg)
    (fun vm₁ hW₁ => ⟨hf.1, hf.2, hPc (T.setVm vm₁) hT hW₁⟩)
  dsimp only [Pt.U, Pt.locs, Pt.cells, Pt.slots] at X' e1 e2 h1 h2 h3 st
  subst h1; subst h2; subst h3
  exact ⟨v, (T.setVm vm₁).calling g' mk (Value.ref b :: As).toArray, t, U', L, hT, X', hL, e1, e2, hq, st⟩
section
variable {y : MethodName} {bytes cc : ByteArray} {maxL nL mc ms n index : Nat} {ret : Option FieldType} {ws : List Cond} {rm : Room} {Pc : Array Value → State → Prop} {Qc : Array Value → State → Outcome → State → Prop} {XC : String → State → State → Prop} {free : Addr → Prop} {Ts : List Cond} {own C : String} {b : Addr} {As rest : List Value} {g : JFrame}
theorem vx_runVX {hh : List (Nat × Nat × Nat × Nat)} (S : CallFix p m c cc nL s args Ts own) (hM : vx_Met l y ws rm Pc Qc XC mc ms free) (cw : vx_CVW R s args own C index y bytes maxL ret hh ws rm mc ms n) (hp : PreV s H C b Pc As)
    (hg : g.method = m) (hn : As.length = n) (hsize : g.locals.size = nL) (hstack : g.stack = As.reverse ++ .ref b :: rest) (hW : 2 * g.monitorRoom + (rest.map fun v => v.category).sum ≤ 8) (hdg : decode cc g.pc = .ok (.invokevirtual index, 3)) (hf : cells + mc ≤ R.cells ∧ slots + ms ≤ R.slots) :
    vx_Run p l e R s m args below meth c H locs cells slots mc ms g rest (Qc (Value.ref b :: As).toArray) XC free := by
  obtain ⟨⟨hrc, hrs, hfr, hlo, hws, hcw⟩, hcode, hini, hy, hlen, hl, hin, hse⟩ := cw
  have hK : vx_Back l R p e below s args y 3 8 (PreOf R mc ms Pc) (PostOf Qc mc ms free) (vx_Post XC mc ms free) := vx_backW (hh := hh) (bytes := bytes) (maxL := maxL) (ret := ret) hM hp.1 hrc hrs hfr hlo hws hcw (fun a' U hW => word_at hW (Or.inl (by first | rfl | simp [Cond.onTables, Cond.keeps, Cond.steady])) hini)
  obtain ⟨hx, hb, hml, ho, -⟩ := S
  obtain ⟨-, ⟨cellB, hcB, hoB, hclB⟩, hPc⟩ := hp
  intro T hT X
  rcases vx_callVX X hx (C := C) (hh := hh) (bytes := bytes) (maxL := maxL) (ret := ret) ho hl hin hse hcode hy hK (by rw [hT]; exact hcB) hoB hclB hg (hsize.trans hml.symm) (argsL := As) (rest := rest) (fun sig h => hn.trans (hlen sig h)) hstack hW (by rw [hb]; exact hdg)
    (fun vm₁ hW₁ => ⟨hf.1, hf.2, hPc (T.setVm vm₁) hT hW₁⟩) with ⟨v, vm₁, ⟨U', l2, c2, s2⟩, hW₁, X', ⟨g', mk, t, L, e1, e2, hq, h1, hL, h2, h3⟩, st⟩ | ⟨q, vm₁, ⟨U', l2, c2, s2⟩, hW₁, X', ⟨g', mk, t, L, E, ce, e1, e2, hq, hce, hcv, hcl, h1, hL, h2, h3⟩, st⟩
  · dsimp only [Pt.U, Pt.locs, Pt.cells, Pt.slots] at X' e1 e2 h1 h2 h3 st
    subst h1; subst h2; subst h3
    exact Or.inl ⟨v, (T.setVm vm₁).calling g' mk (Value.ref b :: As).toArray, t, U', L, hT, X', hL, e1, e2, hq, st⟩
  · dsimp only [Pt.U, Pt.locs, Pt.cells, Pt.slots] at X' e1 e2 h1 h2 h3 st hcl
    subst h1; subst h2; subst h3
    exact Or.inr ⟨q, (T.setVm vm₁).calling g' mk (Value.ref b :: As).toArray, t, U', L, E, ce, hT, X', hL, e1, e2, hq, hce, hcv, vx_cls hW₁ hcl, st⟩
theorem vx_runSX {hh : List (Nat × Nat × Nat × Nat)} (S : CallFix p m c cc nL s args Ts own) (hM : vx_Met l y ws rm Pc Qc XC mc ms free) (cw : vx_CSW R s args own index y bytes maxL ret hh ws rm mc ms n) (hp : PreS s H Pc As)
    (hg : g.method = m) (hn : As.length = n) (hsize : g.locals.size = nL) (hstack : g.stack = As.reverse ++ rest) (hW : 2 * g.monitorRoom + (rest.map fun v => v.category).sum ≤ 8) (hdg : decode cc g.pc = .ok (.invokestatic index, 3)) (hf : cells + mc ≤ R.cells ∧ slots + ms ≤ R.slots) :
    vx_Run p l e R s m args below meth c H locs cells slots mc ms g rest (Qc As.toArray) XC free := by
  obtain ⟨⟨hrc, hrs, hfr, hlo, hws, hcw⟩, hcode, hini, hy, hlen, hl, hstt⟩ := cw
  have hK : vx_Back l R p e below s args y 3 8 (PreOf R mc ms Pc) (PostOf Qc mc ms free) (vx_Post XC mc ms free) := vx_backW (hh := hh) (bytes := bytes) (maxL := maxL) (ret := ret) hM hp.1 hrc hrs hfr hlo hws hcw (fun a' U hW => word_at hW (Or.inl (by first | rfl | simp [Cond.onTables, Cond.keeps, Cond.steady])) hini)
  obtain ⟨hx, hb, hml, ho, -⟩ := S
  intro T hT X
  rcases vx_callSX X hx (hh := hh) (bytes := bytes) (maxL := maxL) (ret := ret) ho hl hstt hini hcode hy hK hg (hsize.trans hml.symm) (argsL := As) (rest := rest) (fun sig h => hn.trans (hlen sig h)) hstack hW (by rw [hb]; exact hdg)
    (fun vm₁ hW₁ => ⟨hf.1, hf.2, hp.2 (T.setVm vm₁) hT hW₁⟩) with ⟨v, vm₁, ⟨U', l2, c2, s2⟩, hW₁, X', ⟨g', mk, t, L, e1, e2, hq, h1, hL, h2, h3⟩, st⟩ | ⟨q, vm₁, ⟨U', l2, c2, s2⟩, hW₁, X', ⟨g', mk, t, L, E, ce, e1, e2, hq, hce, hcv, hcl, h1, hL, h2, h3⟩, st⟩
  · dsimp only [Pt.U, Pt.locs, Pt.cells, Pt.slots] at X' e1 e2 h1 h2 h3 st
    subst h1; subst h2; subst h3
    exact Or.inl ⟨v, (T.setVm vm₁).calling g' mk As.toArray, t, U', L, hT, X', hL, e1, e2, hq, st⟩
  · dsimp only [Pt.U, Pt.locs, Pt.cells, Pt.slots] at X' e1 e2 h1 h2 h3 st hcl
    subst h1; subst h2; subst h3
    exact Or.inr ⟨q, (T.setVm vm₁).calling g' mk As.toArray, t, U', L, E, ce, hT, X', hL, e1, e2, hq, hce, hcv, vx_cls hW₁ hcl, st⟩
end
end VXH
theorem vx_ofWH {l : Launch} {y : MethodName} {ws ws' : List Cond} {rm : Room} {Pc : Array Value → State → Prop} {Qc : Array Value → State → Outcome → State → Prop} {XC : String → State → State → Prop} {mc ms : Nat} {free : Addr → Prop} {cc : ByteArray} {maxL : Nat} {ret : Option FieldType} {hh : List (Nat × Nat × Nat × Nat)}
    (hy : plainName y.cls = true) (hw : ws = Cond.codeWith y cc maxL ret hh :: ws')
    (body : ∀ p e s m args below meth c s₁, BodyLoose p l y (headSpec ws rm) cc maxL ret e s m args below meth c s₁ → c.maxLocals = maxL → Pc args s →
      W p l e (headSpec ws rm).room s m args below meth c s.heap [] 0 0 (vx_MQ below Qc XC args s mc ms free) (entryFrame m args maxL)) : vx_Met l y ws rm Pc Qc XC mc ms free := by
  refine MetFree.of_bodyS (code := cc) (maxLocals := maxL) (ret := ret) hy ?_ ?_
  · intro args s m h hn
    obtain ⟨m9, meth, c, hn9, h1, h2, h3, h4, -, h5, h6, -⟩ := Cond.codeWith_spec (atoms_spec (ws := ws) h _ (by rw [hw]; exact List.mem_cons_self))
    cases hn.symm.trans hn9
    exact ⟨meth, c, h1, h2, h3, h4, h5, h6⟩
  · intro p e s m args below meth c s₁ B hml hP _
    have hh0 : s₁.heap = s.heap := by rw [B.state]; rfl
    obtain ⟨t, a1, o, b1, b2, b3⟩ := body p e s m args below meth c s₁ B hml hP s₁ hh0 (Stand.of_body B)
    exact ⟨t, o, a1, b1, b2, b3⟩
/-! ===== END ===== -/
end
section
/-! ===== BEGIN printed: names, fields, word lists, decode rows ===== -/
def RX0 : String := "GliderDay$Flight"
def TX0 : u_T := fun k => match k with
  | 0 => ("GliderDay$Flight", "number", "I", true)
  | 1 => ("GliderDay$Flight", "member", "LGliderDay$Member;", true)
  | 2 => ("GliderDay$Flight", "second", "LGliderDay$Member;", true)
  | 3 => ("GliderDay$Flight", "glider", "LGliderDay$Glider;", true)
  | 4 => ("GliderDay$Flight", "height", "I", false)
  | 5 => ("GliderDay$Flight", "minutes", "I", false)
  | 6 => ("GliderDay$Flight", "state", "I", false)
  | 7 => ("GliderDay$Flight", "askedAt", "I", false)
  | 8 => ("GliderDay$Flight", "begin", "I", false)
  | 9 => ("GliderDay$Flight", "landing", "I", false)
  | _ => ("GliderDay$Flight", "cost", "I", false)
def tyX0 : Nat → FieldType := fun k => match k with
  | 0 => .int
  | 1 => .object "GliderDay$Member"
  | 2 => .object "GliderDay$Member"
  | 3 => .object "GliderDay$Glider"
  | 4 => .int
  | 5 => .int
  | 6 => .int
  | 7 => .int
  | 8 => .int
  | 9 => .int
  | _ => .int
abbrev wsX00 : List Cond := u_ws RX0 TX0 11
theorem nmX0 : ∀ a, a < 11 → ∀ b, b < 11 → a ≠ b → (TX0 a).2.1 ≠ (TX0 b).2.1 := by decide +kernel
theorem tyX0_ok : ∀ k, k < 11 → parseFieldDescriptor (TX0 k).2.2.1 = some (tyX0 k) := by decide +kernel
abbrev cX0_init : ByteArray := prog_2_method_1_code
def yX0_init : MethodName := ⟨RX0, "<init>", "(ILGliderDay$Member;LGliderDay$Member;LGliderDay$Glider;)V"⟩
def RX1 : String := "GliderDay$Glider"
def TX1 : u_T := fun k => match k with
  | 0 => ("GliderDay$Glider", "number", "I", true)
  | 1 => ("GliderDay$Glider", "seats", "I", true)
  | 2 => ("GliderDay$Glider", "rate", "I", true)
  | 3 => ("GliderDay$Glider", "limit", "I", true)
  | 4 => ("GliderDay$Glider", "state", "I", false)
  | 5 => ("GliderDay$Glider", "isBarred", "Z", false)
  | 6 => ("GliderDay$Glider", "isCalled", "Z", false)
  | 7 => ("GliderDay$Glider", "landings", "I", false)
  | 8 => ("GliderDay$Glider", "minutes", "I", false)
  | _ => ("GliderDay$Glider", "flight", "LGliderDay$Flight;", false)
def tyX1 : Nat → FieldType := fun k => match k with
  | 0 => .int
  | 1 => .int
  | 2 => .int
  | 3 => .int
  | 4 => .int
  | 5 => .boolean
  | 6 => .boolean
  | 7 => .int
  | 8 => .int
  | _ => .object "GliderDay$Flight"
abbrev wsX10 : List Cond := u_ws RX1 TX1 10
theorem nmX1 : ∀ a, a < 10 → ∀ b, b < 10 → a ≠ b → (TX1 a).2.1 ≠ (TX1 b).2.1 := by decide +kernel
theorem tyX1_ok : ∀ k, k < 10 → parseFieldDescriptor (TX1 k).2.2.1 = some (tyX1 k) := by decide +kernel
abbrev cX1_init : ByteArray := prog_3_method_1_code
def yX1_init : MethodName := ⟨RX1, "<init>", "(IIII)V"⟩
def RX2 : String := "GliderDay$Member"
def TX2 : u_T := fun k => match k with
  | 0 => ("GliderDay$Member", "number", "I", true)
  | 1 => ("GliderDay$Member", "level", "I", false)
  | 2 => ("GliderDay$Member", "isFlying", "Z", false)
  | 3 => ("GliderDay$Member", "landings", "I", false)
  | 4 => ("GliderDay$Member", "minutes", "I", false)
  | 5 => ("GliderDay$Member", "lessons", "I", false)
  | 6 => ("GliderDay$Member", "solos", "I", false)
  | _ => ("GliderDay$Member", "bill", "I", false)
def tyX2 : Nat → FieldType := fun k => match k with
  | 0 => .int
  | 1 => .int
  | 2 => .boolean
  | 3 => .int
  | 4 => .int
  | 5 => .int
  | 6 => .int
  | _ => .int
abbrev wsX20 : List Cond := u_ws RX2 TX2 8
theorem nmX2 : ∀ a, a < 8 → ∀ b, b < 8 → a ≠ b → (TX2 a).2.1 ≠ (TX2 b).2.1 := by decide +kernel
theorem tyX2_ok : ∀ k, k < 8 → parseFieldDescriptor (TX2 k).2.2.1 = some (tyX2 k) := by decide +kernel
abbrev cX2_init : ByteArray := prog_4_method_1_code
def yX2_init : MethodName := ⟨RX2, "<init>", "(II)V"⟩
def RX3 : String := "GliderDay"
def TX3 : u_T := fun k => match k with
  | 0 => ("GliderDay", "members", "Ljava/util/ArrayList;", true)
  | 1 => ("GliderDay", "gliders", "Ljava/util/ArrayList;", true)
  | 2 => ("GliderDay", "flights", "Ljava/util/ArrayList;", true)
  | 3 => ("GliderDay", "listed", "Ljava/util/ArrayList;", true)
  | 4 => ("GliderDay", "waiting", "Ljava/util/ArrayList;", true)
  | 5 => ("GliderDay", "tugsDue", "[I", true)
  | 6 => ("GliderDay", "tugs", "I", false)
  | 7 => ("GliderDay", "cablesTaken", "I", false)
  | 8 => ("GliderDay", "cablesDue", "I", false)
  | 9 => ("GliderDay", "time", "I", false)
  | 10 => ("GliderDay", "wind", "I", false)
  | 11 => ("GliderDay", "sunset", "I", false)
  | _ => ("GliderDay", "busyUntil", "I", false)
def tyX3 : Nat → FieldType := fun k => match k with
  | 0 => .object "java/util/ArrayList"
  | 1 => .object "java/util/ArrayList"
  | 2 => .object "java/util/ArrayList"
  | 3 => .object "java/util/ArrayList"
  | 4 => .object "java/util/ArrayList"
  | 5 => .array .int
  | 6 => .int
  | 7 => .int
  | 8 => .int
  | 9 => .int
  | 10 => .int
  | 11 => .int
  | _ => .int
abbrev wsX30 : List Cond := u_ws RX3 TX3 13
theorem nmX3 : ∀ a, a < 13 → ∀ b, b < 13 → a ≠ b → (TX3 a).2.1 ≠ (TX3 b).2.1 := by decide +kernel
theorem tyX3_ok : ∀ k, k < 13 → parseFieldDescriptor (TX3 k).2.2.1 = some (tyX3 k) := by decide +kernel
abbrev cX3_init : ByteArray := prog_1_method_1_code
def yX3_init : MethodName := ⟨RX3, "<init>", "()V"⟩
abbrev cX3_addMember : ByteArray := prog_1_method_2_code
def yX3_addMember : MethodName := ⟨RX3, "addMember", "(I)I"⟩
abbrev cX3_addGlider : ByteArray := prog_1_method_3_code
def yX3_addGlider : MethodName := ⟨RX3, "addGlider", "(III)I"⟩
abbrev cX3_setWind : ByteArray := prog_1_method_4_code
def yX3_setWind : MethodName := ⟨RX3, "setWind", "(I)I"⟩
abbrev cX3_setSunset : ByteArray := prog_1_method_5_code
def yX3_setSunset : MethodName := ⟨RX3, "setSunset", "(I)I"⟩
abbrev cX3_setTugs : ByteArray := prog_1_method_6_code
def yX3_setTugs : MethodName := ⟨RX3, "setTugs", "(I)I"⟩
abbrev cX3_bar : ByteArray := prog_1_method_7_code
def yX3_bar : MethodName := ⟨RX3, "bar", "(IZ)Z"⟩
abbrev cX3_promote : ByteArray := prog_1_method_8_code
def yX3_promote : MethodName := ⟨RX3, "promote", "(I)I"⟩
abbrev cX3_member : ByteArray := prog_1_method_9_code
def yX3_member : MethodName := ⟨RX3, "member", "(II)I"⟩
abbrev cX3_glider : ByteArray := prog_1_method_10_code
def yX3_glider : MethodName := ⟨RX3, "glider", "(II)I"⟩
abbrev cX3_ask : ByteArray := prog_1_method_11_code
def yX3_ask : MethodName := ⟨RX3, "ask", "(IIIII)I"⟩
abbrev cX3_drop : ByteArray := prog_1_method_12_code
def yX3_drop : MethodName := ⟨RX3, "drop", "(I)I"⟩
abbrev cX3_list : ByteArray := prog_1_method_13_code
def yX3_list : MethodName := ⟨RX3, "list", "(I)I"⟩
abbrev cX3_reason : ByteArray := prog_1_method_14_code
def yX3_reason : MethodName := ⟨RX3, "reason", "(I)I"⟩
abbrev cX3_call : ByteArray := prog_1_method_15_code
def yX3_call : MethodName := ⟨RX3, "call", "(I)I"⟩
abbrev cX3_tick : ByteArray := prog_1_method_16_code
def yX3_tick : MethodName := ⟨RX3, "tick", "(I)I"⟩
abbrev cX3_now : ByteArray := prog_1_method_17_code
def yX3_now : MethodName := ⟨RX3, "now", "()I"⟩
abbrev cX3_flight : ByteArray := prog_1_method_18_code
def yX3_flight : MethodName := ⟨RX3, "flight", "(II)I"⟩
abbrev cX3_count : ByteArray := prog_1_method_19_code
def yX3_count : MethodName := ⟨RX3, "count", "(I)I"⟩
abbrev cX3_isBusy : ByteArray := prog_1_method_20_code
def yX3_isBusy : MethodName := ⟨RX3, "isBusy", "()Z"⟩
abbrev cX3_bill : ByteArray := prog_1_method_21_code
def yX3_bill : MethodName := ⟨RX3, "bill", "(I)I"⟩
abbrev cX3_pay : ByteArray := prog_1_method_22_code
def yX3_pay : MethodName := ⟨RX3, "pay", "(II)I"⟩
abbrev cX3_income : ByteArray := prog_1_method_23_code
def yX3_income : MethodName := ⟨RX3, "income", "()I"⟩
abbrev cX3_longest : ByteArray := prog_1_method_24_code
def yX3_longest : MethodName := ⟨RX3, "longest", "()I"⟩
abbrev cX3_waited : ByteArray := prog_1_method_25_code
def yX3_waited : MethodName := ⟨RX3, "waited", "()D"⟩
abbrev cX3_digest : ByteArray := prog_1_method_26_code
def yX3_digest : MethodName := ⟨RX3, "digest", "()J"⟩
abbrev cX3_mixed : ByteArray := prog_1_method_27_code
def yX3_mixed : MethodName := ⟨RX3, "mixed", "(JI)J"⟩
abbrev cX3_mixedMembers : ByteArray := prog_1_method_28_code
def yX3_mixedMembers : MethodName := ⟨RX3, "mixedMembers", "(J)J"⟩
abbrev cX3_mixedGliders : ByteArray := prog_1_method_29_code
def yX3_mixedGliders : MethodName := ⟨RX3, "mixedGliders", "(J)J"⟩
abbrev cX3_mixedFlights : ByteArray := prog_1_method_30_code
def yX3_mixedFlights : MethodName := ⟨RX3, "mixedFlights", "(J)J"⟩
abbrev cX3_isWithin : ByteArray := prog_1_method_31_code
def yX3_isWithin : MethodName := ⟨RX3, "isWithin", "(III)Z"⟩
abbrev cX3_isHeight : ByteArray := prog_1_method_32_code
def yX3_isHeight : MethodName := ⟨RX3, "isHeight", "(I)Z"⟩
abbrev cX3_memberAt : ByteArray := prog_1_method_33_code
def yX3_memberAt : MethodName := ⟨RX3, "memberAt", "(I)LGliderDay$Member;"⟩
abbrev cX3_gliderAt : ByteArray := prog_1_method_34_code
def yX3_gliderAt : MethodName := ⟨RX3, "gliderAt", "(I)LGliderDay$Glider;"⟩
abbrev cX3_flightAt : ByteArray := prog_1_method_35_code
def yX3_flightAt : MethodName := ⟨RX3, "flightAt", "(I)LGliderDay$Flight;"⟩
abbrev cX3_listedFlightAt : ByteArray := prog_1_method_36_code
def yX3_listedFlightAt : MethodName := ⟨RX3, "listedFlightAt", "(I)LGliderDay$Flight;"⟩
abbrev cX3_placeOf : ByteArray := prog_1_method_37_code
def yX3_placeOf : MethodName := ⟨RX3, "placeOf", "(LGliderDay$Flight;)I"⟩
abbrev cX3_takeOffList : ByteArray := prog_1_method_38_code
def yX3_takeOffList : MethodName := ⟨RX3, "takeOffList", "(I)V"⟩
abbrev cX3_memberFact : ByteArray := prog_1_method_39_code
def yX3_memberFact : MethodName := ⟨RX3, "memberFact", "(LGliderDay$Member;I)I"⟩
abbrev cX3_gliderFact : ByteArray := prog_1_method_40_code
def yX3_gliderFact : MethodName := ⟨RX3, "gliderFact", "(LGliderDay$Glider;I)I"⟩
abbrev cX3_flightFact : ByteArray := prog_1_method_41_code
def yX3_flightFact : MethodName := ⟨RX3, "flightFact", "(LGliderDay$Flight;I)I"⟩
abbrev cX3_countOf : ByteArray := prog_1_method_42_code
def yX3_countOf : MethodName := ⟨RX3, "countOf", "(I)I"⟩
abbrev cX3_glidersInTheAir : ByteArray := prog_1_method_43_code
def yX3_glidersInTheAir : MethodName := ⟨RX3, "glidersInTheAir", "()I"⟩
abbrev cX3_tugsTaken : ByteArray := prog_1_method_44_code
def yX3_tugsTaken : MethodName := ⟨RX3, "tugsTaken", "()I"⟩
abbrev cX3_freeTugs : ByteArray := prog_1_method_45_code
def yX3_freeTugs : MethodName := ⟨RX3, "freeTugs", "()I"⟩
abbrev cX3_hasEarnedNextLevel : ByteArray := prog_1_method_46_code
def yX3_hasEarnedNextLevel : MethodName := ⟨RX3, "hasEarnedNextLevel", "(LGliderDay$Member;)Z"⟩
abbrev cX3_hasTeacher : ByteArray := prog_1_method_47_code
def yX3_hasTeacher : MethodName := ⟨RX3, "hasTeacher", "(LGliderDay$Flight;)Z"⟩
abbrev cX3_needsTeacher : ByteArray := prog_1_method_48_code
def yX3_needsTeacher : MethodName := ⟨RX3, "needsTeacher", "(LGliderDay$Member;)Z"⟩
abbrev cX3_windLimitOf : ByteArray := prog_1_method_49_code
def yX3_windLimitOf : MethodName := ⟨RX3, "windLimitOf", "(I)I"⟩
abbrev cX3_hasFlyingMember : ByteArray := prog_1_method_50_code
def yX3_hasFlyingMember : MethodName := ⟨RX3, "hasFlyingMember", "(LGliderDay$Flight;)Z"⟩
abbrev cX3_isTooWindyFor : ByteArray := prog_1_method_51_code
def yX3_isTooWindyFor : MethodName := ⟨RX3, "isTooWindyFor", "(LGliderDay$Flight;)Z"⟩
abbrev cX3_hasNothingToLaunch : ByteArray := prog_1_method_52_code
def yX3_hasNothingToLaunch : MethodName := ⟨RX3, "hasNothingToLaunch", "(LGliderDay$Flight;)Z"⟩
abbrev cX3_reasonAgainst : ByteArray := prog_1_method_53_code
def yX3_reasonAgainst : MethodName := ⟨RX3, "reasonAgainst", "(LGliderDay$Flight;)I"⟩
abbrev cX3_passMinute : ByteArray := prog_1_method_54_code
def yX3_passMinute : MethodName := ⟨RX3, "passMinute", "()Z"⟩
abbrev cX3_freeCables : ByteArray := prog_1_method_55_code
def yX3_freeCables : MethodName := ⟨RX3, "freeCables", "()V"⟩
abbrev cX3_freeDueTugs : ByteArray := prog_1_method_56_code
def yX3_freeDueTugs : MethodName := ⟨RX3, "freeDueTugs", "()V"⟩
abbrev cX3_beginToWait : ByteArray := prog_1_method_57_code
def yX3_beginToWait : MethodName := ⟨RX3, "beginToWait", "()V"⟩
abbrev cX3_mustLand : ByteArray := prog_1_method_58_code
def yX3_mustLand : MethodName := ⟨RX3, "mustLand", "(LGliderDay$Glider;)Z"⟩
abbrev cX3_landFirstWaiting : ByteArray := prog_1_method_59_code
def yX3_landFirstWaiting : MethodName := ⟨RX3, "landFirstWaiting", "()V"⟩
abbrev cX3_land : ByteArray := prog_1_method_60_code
def yX3_land : MethodName := ⟨RX3, "land", "(LGliderDay$Glider;LGliderDay$Flight;)V"⟩
abbrev cX3_launchPrice : ByteArray := prog_1_method_61_code
def yX3_launchPrice : MethodName := ⟨RX3, "launchPrice", "(I)I"⟩
abbrev cX3_writeDown : ByteArray := prog_1_method_62_code
def yX3_writeDown : MethodName := ⟨RX3, "writeDown", "(LGliderDay$Flight;I)V"⟩
abbrev cX3_bringDown : ByteArray := prog_1_method_63_code
def yX3_bringDown : MethodName := ⟨RX3, "bringDown", "(LGliderDay$Member;I)V"⟩
abbrev cX3_startFirstThatCan : ByteArray := prog_1_method_64_code
def yX3_startFirstThatCan : MethodName := ⟨RX3, "startFirstThatCan", "()Z"⟩
abbrev cX3_start : ByteArray := prog_1_method_65_code
def yX3_start : MethodName := ⟨RX3, "start", "(LGliderDay$Flight;)V"⟩
abbrev cX3_takeCable : ByteArray := prog_1_method_66_code
def yX3_takeCable : MethodName := ⟨RX3, "takeCable", "()V"⟩
abbrev cX3_takeTug : ByteArray := prog_1_method_67_code
def yX3_takeTug : MethodName := ⟨RX3, "takeTug", "(I)V"⟩
def RX4 : String := "GliderDayModel"
def TX4 : u_T := fun k => match k with
  | 0 => ("GliderDayModel", "thrown", "I", false)
  | 1 => ("GliderDayModel", "now", "I", false)
  | 2 => ("GliderDayModel", "wind", "I", false)
  | 3 => ("GliderDayModel", "sunset", "I", false)
  | 4 => ("GliderDayModel", "busyUntil", "I", false)
  | 5 => ("GliderDayModel", "cables", "I", false)
  | 6 => ("GliderDayModel", "cablesAt", "I", false)
  | 7 => ("GliderDayModel", "tugs", "I", false)
  | 8 => ("GliderDayModel", "tugUntil", "[I", true)
  | 9 => ("GliderDayModel", "members", "I", false)
  | 10 => ("GliderDayModel", "levels", "[I", true)
  | 11 => ("GliderDayModel", "paid", "[I", true)
  | 12 => ("GliderDayModel", "gliders", "I", false)
  | 13 => ("GliderDayModel", "seats", "[I", true)
  | 14 => ("GliderDayModel", "rates", "[I", true)
  | 15 => ("GliderDayModel", "limits", "[I", true)
  | 16 => ("GliderDayModel", "areBarred", "[Z", true)
  | 17 => ("GliderDayModel", "areCalled", "[Z", true)
  | 18 => ("GliderDayModel", "waits", "[I", true)
  | 19 => ("GliderDayModel", "lastWait", "I", false)
  | 20 => ("GliderDayModel", "flights", "I", false)
  | 21 => ("GliderDayModel", "flyers", "[I", true)
  | 22 => ("GliderDayModel", "seconds", "[I", true)
  | 23 => ("GliderDayModel", "ships", "[I", true)
  | 24 => ("GliderDayModel", "heights", "[I", true)
  | 25 => ("GliderDayModel", "lengths", "[I", true)
  | 26 => ("GliderDayModel", "asked", "[I", true)
  | 27 => ("GliderDayModel", "begins", "[I", true)
  | 28 => ("GliderDayModel", "landings", "[I", true)
  | _ => ("GliderDayModel", "states", "[I", true)
def tyX4 : Nat → FieldType := fun k => match k with
  | 0 => .int
  | 1 => .int
  | 2 => .int
  | 3 => .int
  | 4 => .int
  | 5 => .int
  | 6 => .int
  | 7 => .int
  | 8 => .array .int
  | 9 => .int
  | 10 => .array .int
  | 11 => .array .int
  | 12 => .int
  | 13 => .array .int
  | 14 => .array .int
  | 15 => .array .int
  | 16 => .array .boolean
  | 17 => .array .boolean
  | 18 => .array .int
  | 19 => .int
  | 20 => .int
  | 21 => .array .int
  | 22 => .array .int
  | 23 => .array .int
  | 24 => .array .int
  | 25 => .array .int
  | 26 => .array .int
  | 27 => .array .int
  | 28 => .array .int
  | _ => .array .int
abbrev wsX40 : List Cond := u_ws RX4 TX4 30
theorem nmX4 : ∀ a, a < 30 → ∀ b, b < 30 → a ≠ b → (TX4 a).2.1 ≠ (TX4 b).2.1 := by decide +kernel
theorem tyX4_ok : ∀ k, k < 30 → parseFieldDescriptor (TX4 k).2.2.1 = some (tyX4 k) := by decide +kernel
abbrev cX4_init : ByteArray := prog_6_method_1_code
def yX4_init : MethodName := ⟨RX4, "<init>", "()V"⟩
abbrev cX4_thrown : ByteArray := prog_6_method_2_code
def yX4_thrown : MethodName := ⟨RX4, "thrown", "()I"⟩
abbrev cX4_no : ByteArray := prog_6_method_3_code
def yX4_no : MethodName := ⟨RX4, "no", "(I)I"⟩
abbrev cX4_isIn : ByteArray := prog_6_method_4_code
def yX4_isIn : MethodName := ⟨RX4, "isIn", "(III)Z"⟩
abbrev cX4_isMember : ByteArray := prog_6_method_5_code
def yX4_isMember : MethodName := ⟨RX4, "isMember", "(I)Z"⟩
abbrev cX4_isGlider : ByteArray := prog_6_method_6_code
def yX4_isGlider : MethodName := ⟨RX4, "isGlider", "(I)Z"⟩
abbrev cX4_isFlight : ByteArray := prog_6_method_7_code
def yX4_isFlight : MethodName := ⟨RX4, "isFlight", "(I)Z"⟩
abbrev cX4_addMember : ByteArray := prog_6_method_8_code
def yX4_addMember : MethodName := ⟨RX4, "addMember", "(I)I"⟩
abbrev cX4_addGlider : ByteArray := prog_6_method_9_code
def yX4_addGlider : MethodName := ⟨RX4, "addGlider", "(III)I"⟩
abbrev cX4_setWind : ByteArray := prog_6_method_10_code
def yX4_setWind : MethodName := ⟨RX4, "setWind", "(I)I"⟩
abbrev cX4_setSunset : ByteArray := prog_6_method_11_code
def yX4_setSunset : MethodName := ⟨RX4, "setSunset", "(I)I"⟩
abbrev cX4_takenTugs : ByteArray := prog_6_method_12_code
def yX4_takenTugs : MethodName := ⟨RX4, "takenTugs", "()I"⟩
abbrev cX4_setTugs : ByteArray := prog_6_method_13_code
def yX4_setTugs : MethodName := ⟨RX4, "setTugs", "(I)I"⟩
abbrev cX4_flightOf : ByteArray := prog_6_method_14_code
def yX4_flightOf : MethodName := ⟨RX4, "flightOf", "(I)I"⟩
abbrev cX4_flies : ByteArray := prog_6_method_15_code
def yX4_flies : MethodName := ⟨RX4, "flies", "(I)Z"⟩
abbrev cX4_bar : ByteArray := prog_6_method_16_code
def yX4_bar : MethodName := ⟨RX4, "bar", "(IZ)Z"⟩
abbrev cX4_withTeacher : ByteArray := prog_6_method_17_code
def yX4_withTeacher : MethodName := ⟨RX4, "withTeacher", "(I)Z"⟩
abbrev cX4_landed : ByteArray := prog_6_method_18_code
def yX4_landed : MethodName := ⟨RX4, "landed", "(II)I"⟩
abbrev cX4_promote : ByteArray := prog_6_method_19_code
def yX4_promote : MethodName := ⟨RX4, "promote", "(I)I"⟩
abbrev cX4_toldOfMember : ByteArray := prog_6_method_20_code
def yX4_toldOfMember : MethodName := ⟨RX4, "toldOfMember", "(II)I"⟩
abbrev cX4_member : ByteArray := prog_6_method_21_code
def yX4_member : MethodName := ⟨RX4, "member", "(II)I"⟩
abbrev cX4_toldOfGlider : ByteArray := prog_6_method_22_code
def yX4_toldOfGlider : MethodName := ⟨RX4, "toldOfGlider", "(II)I"⟩
abbrev cX4_glider : ByteArray := prog_6_method_23_code
def yX4_glider : MethodName := ⟨RX4, "glider", "(II)I"⟩
abbrev cX4_with : ByteArray := prog_6_method_24_code
def yX4_with : MethodName := ⟨RX4, "with", "(I)I"⟩
abbrev cX4_ask : ByteArray := prog_6_method_25_code
def yX4_ask : MethodName := ⟨RX4, "ask", "(IIIII)I"⟩
abbrev cX4_place : ByteArray := prog_6_method_26_code
def yX4_place : MethodName := ⟨RX4, "place", "(I)I"⟩
abbrev cX4_drop : ByteArray := prog_6_method_27_code
def yX4_drop : MethodName := ⟨RX4, "drop", "(I)I"⟩
abbrev cX4_list : ByteArray := prog_6_method_28_code
def yX4_list : MethodName := ⟨RX4, "list", "(I)I"⟩
abbrev cX4_isBusyNow : ByteArray := prog_6_method_29_code
def yX4_isBusyNow : MethodName := ⟨RX4, "isBusyNow", "()Z"⟩
abbrev cX4_windOf : ByteArray := prog_6_method_30_code
def yX4_windOf : MethodName := ⟨RX4, "windOf", "(I)I"⟩
abbrev cX4_reasonOf : ByteArray := prog_6_method_31_code
def yX4_reasonOf : MethodName := ⟨RX4, "reasonOf", "(I)I"⟩
abbrev cX4_reason : ByteArray := prog_6_method_32_code
def yX4_reason : MethodName := ⟨RX4, "reason", "(I)I"⟩
abbrev cX4_call : ByteArray := prog_6_method_33_code
def yX4_call : MethodName := ⟨RX4, "call", "(I)I"⟩
abbrev cX4_begin : ByteArray := prog_6_method_34_code
def yX4_begin : MethodName := ⟨RX4, "begin", "(I)V"⟩
abbrev cX4_land : ByteArray := prog_6_method_35_code
def yX4_land : MethodName := ⟨RX4, "land", "(I)V"⟩
abbrev cX4_minute : ByteArray := prog_6_method_36_code
def yX4_minute : MethodName := ⟨RX4, "minute", "()Z"⟩
abbrev cX4_tick : ByteArray := prog_6_method_37_code
def yX4_tick : MethodName := ⟨RX4, "tick", "(I)I"⟩
abbrev cX4_now : ByteArray := prog_6_method_38_code
def yX4_now : MethodName := ⟨RX4, "now", "()I"⟩
abbrev cX4_costOf : ByteArray := prog_6_method_39_code
def yX4_costOf : MethodName := ⟨RX4, "costOf", "(I)I"⟩
abbrev cX4_toldOf : ByteArray := prog_6_method_40_code
def yX4_toldOf : MethodName := ⟨RX4, "toldOf", "(II)I"⟩
abbrev cX4_flight : ByteArray := prog_6_method_41_code
def yX4_flight : MethodName := ⟨RX4, "flight", "(II)I"⟩
abbrev cX4_counted : ByteArray := prog_6_method_42_code
def yX4_counted : MethodName := ⟨RX4, "counted", "(I)I"⟩
abbrev cX4_count : ByteArray := prog_6_method_43_code
def yX4_count : MethodName := ⟨RX4, "count", "(I)I"⟩
abbrev cX4_isBusy : ByteArray := prog_6_method_44_code
def yX4_isBusy : MethodName := ⟨RX4, "isBusy", "()Z"⟩
abbrev cX4_billOf : ByteArray := prog_6_method_45_code
def yX4_billOf : MethodName := ⟨RX4, "billOf", "(I)I"⟩
abbrev cX4_bill : ByteArray := prog_6_method_46_code
def yX4_bill : MethodName := ⟨RX4, "bill", "(I)I"⟩
abbrev cX4_pay : ByteArray := prog_6_method_47_code
def yX4_pay : MethodName := ⟨RX4, "pay", "(II)I"⟩
abbrev cX4_income : ByteArray := prog_6_method_48_code
def yX4_income : MethodName := ⟨RX4, "income", "()I"⟩
abbrev cX4_longest : ByteArray := prog_6_method_49_code
def yX4_longest : MethodName := ⟨RX4, "longest", "()I"⟩
abbrev cX4_waited : ByteArray := prog_6_method_50_code
def yX4_waited : MethodName := ⟨RX4, "waited", "()D"⟩
abbrev cX4_digest : ByteArray := prog_6_method_51_code
def yX4_digest : MethodName := ⟨RX4, "digest", "()J"⟩
def RJx145de : String := "java/io/Serializable"
def TJx145de : u_T := fun k => match k with
  | _ => ("", "", "", false)
def tyJx145de : Nat → FieldType := fun k => match k with
  | _ => .int
abbrev wsJx145de0 : List Cond := u_ws RJx145de TJx145de 0
theorem nmJx145de : ∀ a, a < 0 → ∀ b, b < 0 → a ≠ b → (TJx145de a).2.1 ≠ (TJx145de b).2.1 := by decide +kernel
theorem tyJx145de_ok : ∀ k, k < 0 → parseFieldDescriptor (TJx145de k).2.2.1 = some (tyJx145de k) := by decide +kernel
def RJx8e188 : String := "java/lang/Cloneable"
def TJx8e188 : u_T := fun k => match k with
  | _ => ("", "", "", false)
def tyJx8e188 : Nat → FieldType := fun k => match k with
  | _ => .int
abbrev wsJx8e1880 : List Cond := u_ws RJx8e188 TJx8e188 0
theorem nmJx8e188 : ∀ a, a < 0 → ∀ b, b < 0 → a ≠ b → (TJx8e188 a).2.1 ≠ (TJx8e188 b).2.1 := by decide +kernel
theorem tyJx8e188_ok : ∀ k, k < 0 → parseFieldDescriptor (TJx8e188 k).2.2.1 = some (tyJx8e188 k) := by decide +kernel
def RJxab1ab : String := "java/lang/Iterable"
def TJxab1ab : u_T := fun k => match k with
  | _ => ("", "", "", false)
def tyJxab1ab : Nat → FieldType := fun k => match k with
  | _ => .int
abbrev wsJxab1ab0 : List Cond := u_ws RJxab1ab TJxab1ab 0
theorem nmJxab1ab : ∀ a, a < 0 → ∀ b, b < 0 → a ≠ b → (TJxab1ab a).2.1 ≠ (TJxab1ab b).2.1 := by decide +kernel
theorem tyJxab1ab_ok : ∀ k, k < 0 → parseFieldDescriptor (TJxab1ab k).2.2.1 = some (tyJxab1ab k) := by decide +kernel
def RJ9 : String := "java/lang/Math"
def TJ9 : u_T := fun k => match k with
  | _ => ("", "", "", false)
def tyJ9 : Nat → FieldType := fun k => match k with
  | _ => .int
abbrev wsJ90 : List Cond := u_ws RJ9 TJ9 0
theorem nmJ9 : ∀ a, a < 0 → ∀ b, b < 0 → a ≠ b → (TJ9 a).2.1 ≠ (TJ9 b).2.1 := by decide +kernel
theorem tyJ9_ok : ∀ k, k < 0 → parseFieldDescriptor (TJ9 k).2.2.1 = some (tyJ9 k) := by decide +kernel
abbrev cJ9_max_7cf53 : ByteArray := prog_14_method_65_code
def yJ9_max_7cf53 : MethodName := ⟨RJ9, "max", "(II)I"⟩
abbrev cJ9_min_7cf53 : ByteArray := prog_14_method_69_code
def yJ9_min_7cf53 : MethodName := ⟨RJ9, "min", "(II)I"⟩
def RJ0 : String := "java/lang/String"
def TJ0 : u_T := fun k => match k with
  | _ => ("", "", "", false)
def tyJ0 : Nat → FieldType := fun k => match k with
  | _ => .int
abbrev wsJ00 : List Cond := u_ws RJ0 TJ0 0
theorem nmJ0 : ∀ a, a < 0 → ∀ b, b < 0 → a ≠ b → (TJ0 a).2.1 ≠ (TJ0 b).2.1 := by decide +kernel
theorem tyJ0_ok : ∀ k, k < 0 → parseFieldDescriptor (TJ0 k).2.2.1 = some (tyJ0 k) := by decide +kernel
def RJ10 : String := "java/lang/System"
def TJ10 : u_T := fun k => match k with
  | _ => ("", "", "", false)
def tyJ10 : Nat → FieldType := fun k => match k with
  | _ => .int
abbrev wsJ100 : List Cond := u_ws RJ10 TJ10 0
theorem nmJ10 : ∀ a, a < 0 → ∀ b, b < 0 → a ≠ b → (TJ10 a).2.1 ≠ (TJ10 b).2.1 := by decide +kernel
theorem tyJ10_ok : ∀ k, k < 0 → parseFieldDescriptor (TJ10 k).2.2.1 = some (tyJ10 k) := by decide +kernel
def RJxa1e45 : String := "java/util/AbstractCollection"
def TJxa1e45 : u_T := fun k => match k with
  | _ => ("", "", "", false)
def tyJxa1e45 : Nat → FieldType := fun k => match k with
  | _ => .int
abbrev wsJxa1e450 : List Cond := u_ws RJxa1e45 TJxa1e45 0
theorem nmJxa1e45 : ∀ a, a < 0 → ∀ b, b < 0 → a ≠ b → (TJxa1e45 a).2.1 ≠ (TJxa1e45 b).2.1 := by decide +kernel
theorem tyJxa1e45_ok : ∀ k, k < 0 → parseFieldDescriptor (TJxa1e45 k).2.2.1 = some (tyJxa1e45 k) := by decide +kernel
abbrev cJxa1e45_init_da8c8 : ByteArray := prog_19_method_1_code
def yJxa1e45_init_da8c8 : MethodName := ⟨RJxa1e45, "<init>", "()V"⟩
def RJxc12de : String := "java/util/AbstractList"
def TJxc12de : u_T := fun k => match k with
  | _ => ("", "", "", false)
def tyJxc12de : Nat → FieldType := fun k => match k with
  | _ => .int
abbrev wsJxc12de0 : List Cond := u_ws RJxc12de TJxc12de 0
theorem nmJxc12de : ∀ a, a < 0 → ∀ b, b < 0 → a ≠ b → (TJxc12de a).2.1 ≠ (TJxc12de b).2.1 := by decide +kernel
theorem tyJxc12de_ok : ∀ k, k < 0 → parseFieldDescriptor (TJxc12de k).2.2.1 = some (tyJxc12de k) := by decide +kernel
abbrev cJxc12de_init_da8c8 : ByteArray := prog_20_method_1_code
def yJxc12de_init_da8c8 : MethodName := ⟨RJxc12de, "<init>", "()V"⟩
def RJx4a65c : String := "java/util/ArrayList"
def TJx4a65c : u_T := fun k => match k with
  | 0 => ("java/util/AbstractList", "modCount", "I", false)
  | 1 => ("java/util/ArrayList", "elementData", "[Ljava/lang/Object;", false)
  | _ => ("java/util/ArrayList", "size", "I", false)
def tyJx4a65c : Nat → FieldType := fun k => match k with
  | 0 => .int
  | 1 => .array (.object "java/lang/Object")
  | _ => .int
abbrev wsJx4a65c0 : List Cond := u_ws RJx4a65c TJx4a65c 3
theorem nmJx4a65c : ∀ a, a < 3 → ∀ b, b < 3 → a ≠ b → (TJx4a65c a).2.1 ≠ (TJx4a65c b).2.1 := by decide +kernel
theorem tyJx4a65c_ok : ∀ k, k < 3 → parseFieldDescriptor (TJx4a65c k).2.2.1 = some (tyJx4a65c k) := by decide +kernel
abbrev cJx4a65c_init_da8c8 : ByteArray := prog_21_method_2_code
def yJx4a65c_init_da8c8 : MethodName := ⟨RJx4a65c, "<init>", "()V"⟩
abbrev cJx4a65c_grow_92f84 : ByteArray := prog_21_method_6_code
def yJx4a65c_grow_92f84 : MethodName := ⟨RJx4a65c, "grow", "(I)[Ljava/lang/Object;"⟩
abbrev cJx4a65c_grow_d5877 : ByteArray := prog_21_method_7_code
def yJx4a65c_grow_d5877 : MethodName := ⟨RJx4a65c, "grow", "()[Ljava/lang/Object;"⟩
abbrev cJx4a65c_size_8abf5 : ByteArray := prog_21_method_8_code
def yJx4a65c_size_8abf5 : MethodName := ⟨RJx4a65c, "size", "()I"⟩
abbrev cJx4a65c_isEmpty_aae02 : ByteArray := prog_21_method_9_code
def yJx4a65c_isEmpty_aae02 : MethodName := ⟨RJx4a65c, "isEmpty", "()Z"⟩
abbrev cJx4a65c_elementData_915e3 : ByteArray := prog_21_method_18_code
def yJx4a65c_elementData_915e3 : MethodName := ⟨RJx4a65c, "elementData", "(I)Ljava/lang/Object;"⟩
abbrev cJx4a65c_get_915e3 : ByteArray := prog_21_method_20_code
def yJx4a65c_get_915e3 : MethodName := ⟨RJx4a65c, "get", "(I)Ljava/lang/Object;"⟩
abbrev cJx4a65c_add_72be8 : ByteArray := prog_21_method_24_code
def yJx4a65c_add_72be8 : MethodName := ⟨RJx4a65c, "add", "(Ljava/lang/Object;[Ljava/lang/Object;I)V"⟩
abbrev cJx4a65c_add_9ea2d : ByteArray := prog_21_method_25_code
def yJx4a65c_add_9ea2d : MethodName := ⟨RJx4a65c, "add", "(Ljava/lang/Object;)Z"⟩
abbrev cJx4a65c_remove_915e3 : ByteArray := prog_21_method_29_code
def yJx4a65c_remove_915e3 : MethodName := ⟨RJx4a65c, "remove", "(I)Ljava/lang/Object;"⟩
abbrev cJx4a65c_fastRemove_b59b0 : ByteArray := prog_21_method_39_code
def yJx4a65c_fastRemove_b59b0 : MethodName := ⟨RJx4a65c, "fastRemove", "([Ljava/lang/Object;I)V"⟩
def RJ7 : String := "java/util/Arrays"
def TJ7 : u_T := fun k => match k with
  | _ => ("", "", "", false)
def tyJ7 : Nat → FieldType := fun k => match k with
  | _ => .int
abbrev wsJ70 : List Cond := u_ws RJ7 TJ7 0
theorem nmJ7 : ∀ a, a < 0 → ∀ b, b < 0 → a ≠ b → (TJ7 a).2.1 ≠ (TJ7 b).2.1 := by decide +kernel
theorem tyJ7_ok : ∀ k, k < 0 → parseFieldDescriptor (TJ7 k).2.2.1 = some (tyJ7 k) := by decide +kernel
abbrev cJ7_copyOf_1904c : ByteArray := prog_22_method_119_code
def yJ7_copyOf_1904c : MethodName := ⟨RJ7, "copyOf", "([Ljava/lang/Object;I)[Ljava/lang/Object;"⟩
abbrev cJ7_copyOf_6403c : ByteArray := prog_22_method_120_code
def yJ7_copyOf_6403c : MethodName := ⟨RJ7, "copyOf", "([Ljava/lang/Object;ILjava/lang/Class;)[Ljava/lang/Object;"⟩
def RJx5ef63 : String := "java/util/Collection"
def TJx5ef63 : u_T := fun k => match k with
  | _ => ("", "", "", false)
def tyJx5ef63 : Nat → FieldType := fun k => match k with
  | _ => .int
abbrev wsJx5ef630 : List Cond := u_ws RJx5ef63 TJx5ef63 0
theorem nmJx5ef63 : ∀ a, a < 0 → ∀ b, b < 0 → a ≠ b → (TJx5ef63 a).2.1 ≠ (TJx5ef63 b).2.1 := by decide +kernel
theorem tyJx5ef63_ok : ∀ k, k < 0 → parseFieldDescriptor (TJx5ef63 k).2.2.1 = some (tyJx5ef63 k) := by decide +kernel
def RJxbd725 : String := "java/util/List"
def TJxbd725 : u_T := fun k => match k with
  | _ => ("", "", "", false)
def tyJxbd725 : Nat → FieldType := fun k => match k with
  | _ => .int
abbrev wsJxbd7250 : List Cond := u_ws RJxbd725 TJxbd725 0
theorem nmJxbd725 : ∀ a, a < 0 → ∀ b, b < 0 → a ≠ b → (TJxbd725 a).2.1 ≠ (TJxbd725 b).2.1 := by decide +kernel
theorem tyJxbd725_ok : ∀ k, k < 0 → parseFieldDescriptor (TJxbd725 k).2.2.1 = some (tyJxbd725 k) := by decide +kernel
def RJ15 : String := "java/util/Objects"
def TJ15 : u_T := fun k => match k with
  | _ => ("", "", "", false)
def tyJ15 : Nat → FieldType := fun k => match k with
  | _ => .int
abbrev wsJ150 : List Cond := u_ws RJ15 TJ15 0
theorem nmJ15 : ∀ a, a < 0 → ∀ b, b < 0 → a ≠ b → (TJ15 a).2.1 ≠ (TJ15 b).2.1 := by decide +kernel
theorem tyJ15_ok : ∀ k, k < 0 → parseFieldDescriptor (TJ15 k).2.2.1 = some (tyJ15 k) := by decide +kernel
abbrev cJ15_checkIndex_7cf53 : ByteArray := prog_25_method_17_code
def yJ15_checkIndex_7cf53 : MethodName := ⟨RJ15, "checkIndex", "(II)I"⟩
def RJxf0a74 : String := "java/util/RandomAccess"
def TJxf0a74 : u_T := fun k => match k with
  | _ => ("", "", "", false)
def tyJxf0a74 : Nat → FieldType := fun k => match k with
  | _ => .int
abbrev wsJxf0a740 : List Cond := u_ws RJxf0a74 TJxf0a74 0
theorem nmJxf0a74 : ∀ a, a < 0 → ∀ b, b < 0 → a ≠ b → (TJxf0a74 a).2.1 ≠ (TJxf0a74 b).2.1 := by decide +kernel
theorem tyJxf0a74_ok : ∀ k, k < 0 → parseFieldDescriptor (TJxf0a74 k).2.2.1 = some (tyJxf0a74 k) := by decide +kernel
def RJxa66e6 : String := "java/util/SequencedCollection"
def TJxa66e6 : u_T := fun k => match k with
  | _ => ("", "", "", false)
def tyJxa66e6 : Nat → FieldType := fun k => match k with
  | _ => .int
abbrev wsJxa66e60 : List Cond := u_ws RJxa66e6 TJxa66e6 0
theorem nmJxa66e6 : ∀ a, a < 0 → ∀ b, b < 0 → a ≠ b → (TJxa66e6 a).2.1 ≠ (TJxa66e6 b).2.1 := by decide +kernel
theorem tyJxa66e6_ok : ∀ k, k < 0 → parseFieldDescriptor (TJxa66e6 k).2.2.1 = some (tyJxa66e6 k) := by decide +kernel
def RJ8 : String := "jdk/internal/util/ArraysSupport"
def TJ8 : u_T := fun k => match k with
  | _ => ("", "", "", false)
def tyJ8 : Nat → FieldType := fun k => match k with
  | _ => .int
abbrev wsJ80 : List Cond := u_ws RJ8 TJ8 0
theorem nmJ8 : ∀ a, a < 0 → ∀ b, b < 0 → a ≠ b → (TJ8 a).2.1 ≠ (TJ8 b).2.1 := by decide +kernel
theorem tyJ8_ok : ∀ k, k < 0 → parseFieldDescriptor (TJ8 k).2.2.1 = some (tyJ8 k) := by decide +kernel
abbrev cJ8_newLength_cabcc : ByteArray := prog_28_method_27_code
def yJ8_newLength_cabcc : MethodName := ⟨RJ8, "newLength", "(III)I"⟩
abbrev cJ8_hugeLength_7cf53 : ByteArray := prog_28_method_28_code
def yJ8_hugeLength_7cf53 : MethodName := ⟨RJ8, "hugeLength", "(II)I"⟩
def RJ3 : String := "jdk/internal/util/Preconditions"
def TJ3 : u_T := fun k => match k with
  | _ => ("", "", "", false)
def tyJ3 : Nat → FieldType := fun k => match k with
  | _ => .int
abbrev wsJ30 : List Cond := u_ws RJ3 TJ3 0
theorem nmJ3 : ∀ a, a < 0 → ∀ b, b < 0 → a ≠ b → (TJ3 a).2.1 ≠ (TJ3 b).2.1 := by decide +kernel
theorem tyJ3_ok : ∀ k, k < 0 → parseFieldDescriptor (TJ3 k).2.2.1 = some (tyJ3 k) := by decide +kernel
abbrev cJ3_checkIndex_8e157 : ByteArray := prog_29_method_11_code
def yJ3_checkIndex_8e157 : MethodName := ⟨RJ3, "checkIndex", "(IILjava/util/function/BiFunction;)I"⟩
def RL : String := "GliderDayLaw"
abbrev cL_addMember : ByteArray := method_3_code
def yL_addMember : MethodName := ⟨RL, "addMember", "(LGliderDay;I[J)I"⟩
abbrev cL_addGlider : ByteArray := method_4_code
def yL_addGlider : MethodName := ⟨RL, "addGlider", "(LGliderDay;III[J)I"⟩
abbrev cL_setWind : ByteArray := method_5_code
def yL_setWind : MethodName := ⟨RL, "setWind", "(LGliderDay;I[J)I"⟩
abbrev cL_setSunset : ByteArray := method_6_code
def yL_setSunset : MethodName := ⟨RL, "setSunset", "(LGliderDay;I[J)I"⟩
abbrev cL_setTugs : ByteArray := method_7_code
def yL_setTugs : MethodName := ⟨RL, "setTugs", "(LGliderDay;I[J)I"⟩
abbrev cL_bar : ByteArray := method_8_code
def yL_bar : MethodName := ⟨RL, "bar", "(LGliderDay;IZ[J)I"⟩
abbrev cL_promote : ByteArray := method_9_code
def yL_promote : MethodName := ⟨RL, "promote", "(LGliderDay;I[J)I"⟩
abbrev cL_member : ByteArray := method_10_code
def yL_member : MethodName := ⟨RL, "member", "(LGliderDay;II[J)I"⟩
abbrev cL_glider : ByteArray := method_11_code
def yL_glider : MethodName := ⟨RL, "glider", "(LGliderDay;II[J)I"⟩
abbrev cL_ask : ByteArray := method_12_code
def yL_ask : MethodName := ⟨RL, "ask", "(LGliderDay;IIIII[J)I"⟩
abbrev cL_drop : ByteArray := method_13_code
def yL_drop : MethodName := ⟨RL, "drop", "(LGliderDay;I[J)I"⟩
abbrev cL_list : ByteArray := method_14_code
def yL_list : MethodName := ⟨RL, "list", "(LGliderDay;I[J)I"⟩
abbrev cL_reason : ByteArray := method_15_code
def yL_reason : MethodName := ⟨RL, "reason", "(LGliderDay;I[J)I"⟩
abbrev cL_call : ByteArray := method_16_code
def yL_call : MethodName := ⟨RL, "call", "(LGliderDay;I[J)I"⟩
abbrev cL_tick : ByteArray := method_17_code
def yL_tick : MethodName := ⟨RL, "tick", "(LGliderDay;I[J)I"⟩
abbrev cL_flight : ByteArray := method_18_code
def yL_flight : MethodName := ⟨RL, "flight", "(LGliderDay;II[J)I"⟩
abbrev cL_count : ByteArray := method_19_code
def yL_count : MethodName := ⟨RL, "count", "(LGliderDay;I[J)I"⟩
abbrev cL_bill : ByteArray := method_20_code
def yL_bill : MethodName := ⟨RL, "bill", "(LGliderDay;I[J)I"⟩
abbrev cL_pay : ByteArray := method_21_code
def yL_pay : MethodName := ⟨RL, "pay", "(LGliderDay;II[J)I"⟩
abbrev cL_law : ByteArray := code
def yL_law : MethodName := ⟨RL, "law", "([I)Z"⟩
abbrev vwCl : List vw_C := [(RJx4a65c, TJx4a65c, 3), (RX0, TX0, 11), (RX1, TX1, 10), (RX2, TX2, 8), (RX3, TX3, 13), (RX4, TX4, 30)]
/-- the good words of the tables: every method here has them all -/
def WALL : List Cond := lw_tbl.filter goodWord
theorem mW {w : Cond} (i : Nat) (h : lw_tbl[i]? = some w) (g : goodWord w = true) : w ∈ WALL := List.mem_filter.mpr ⟨List.mem_of_getElem? h, g⟩
theorem WALL_tbl : ∀ w ∈ WALL, w ∈ lw_tbl := fun _ h => (List.mem_filter.mp h).1
theorem WALL_good : ∀ w ∈ WALL, goodWord w = true := fun _ h => (List.mem_filter.mp h).2
end
section
theorem mw_0 : Cond.selects "GliderDay" yX3_countOf yX3_countOf ∈ WALL := mW 0 (by decide +kernel) rfl
theorem mw_1 : Cond.selects "GliderDay" yX3_glidersInTheAir yX3_glidersInTheAir ∈ WALL := mW 1 (by decide +kernel) rfl
theorem mw_2 : Cond.selects "GliderDay" yX3_freeTugs yX3_freeTugs ∈ WALL := mW 2 (by decide +kernel) rfl
theorem mw_3 : Cond.selects "GliderDay" yX3_tugsTaken yX3_tugsTaken ∈ WALL := mW 3 (by decide +kernel) rfl
theorem mw_4 : Cond.selects "GliderDay" yX3_mixedMembers yX3_mixedMembers ∈ WALL := mW 4 (by decide +kernel) rfl
theorem mw_5 : Cond.selects "GliderDay" yX3_mixedGliders yX3_mixedGliders ∈ WALL := mW 5 (by decide +kernel) rfl
theorem mw_6 : Cond.selects "GliderDay" yX3_mixedFlights yX3_mixedFlights ∈ WALL := mW 6 (by decide +kernel) rfl
theorem mw_7 : Cond.selects "java/lang/Throwable" (⟨"java/lang/Throwable", "fillInStackTrace", "(I)Ljava/lang/Throwable;"⟩ : MethodName) (⟨"java/lang/Throwable", "fillInStackTrace", "(I)Ljava/lang/Throwable;"⟩ : MethodName) ∈ WALL := mW 7 (by decide +kernel) rfl
theorem mw_8 : Cond.selects "java/util/ArrayList" yJx4a65c_add_72be8 yJx4a65c_add_72be8 ∈ WALL := mW 8 (by decide +kernel) rfl
theorem mw_9 : Cond.selects "java/util/ArrayList" yJx4a65c_grow_d5877 yJx4a65c_grow_d5877 ∈ WALL := mW 9 (by decide +kernel) rfl
theorem mw_10 : Cond.selects "java/util/ArrayList" yJx4a65c_grow_92f84 yJx4a65c_grow_92f84 ∈ WALL := mW 10 (by decide +kernel) rfl
theorem mw_11 : Cond.selects "GliderDay" yX3_gliderAt yX3_gliderAt ∈ WALL := mW 11 (by decide +kernel) rfl
theorem mw_12 : Cond.selects "GliderDay" yX3_memberAt yX3_memberAt ∈ WALL := mW 12 (by decide +kernel) rfl
theorem mw_13 : Cond.selects "GliderDay" yX3_listedFlightAt yX3_listedFlightAt ∈ WALL := mW 13 (by decide +kernel) rfl
theorem mw_14 : Cond.selects "GliderDay" yX3_flightAt yX3_flightAt ∈ WALL := mW 14 (by decide +kernel) rfl
theorem mw_15 : Cond.selects "GliderDay" yX3_placeOf yX3_placeOf ∈ WALL := mW 15 (by decide +kernel) rfl
theorem mw_16 : Cond.selects "GliderDay" yX3_takeOffList yX3_takeOffList ∈ WALL := mW 16 (by decide +kernel) rfl
theorem mw_17 : Cond.selects "java/util/ArrayList" yJx4a65c_fastRemove_b59b0 yJx4a65c_fastRemove_b59b0 ∈ WALL := mW 17 (by decide +kernel) rfl
theorem mw_18 : Cond.selects "GliderDay" yX3_reasonAgainst yX3_reasonAgainst ∈ WALL := mW 18 (by decide +kernel) rfl
theorem mw_19 : Cond.selects "GliderDay" yX3_isTooWindyFor yX3_isTooWindyFor ∈ WALL := mW 19 (by decide +kernel) rfl
theorem mw_20 : Cond.selects "GliderDay" yX3_hasNothingToLaunch yX3_hasNothingToLaunch ∈ WALL := mW 20 (by decide +kernel) rfl
theorem mw_21 : Cond.selects "GliderDay" yX3_passMinute yX3_passMinute ∈ WALL := mW 21 (by decide +kernel) rfl
theorem mw_22 : Cond.selects "GliderDay" yX3_freeCables yX3_freeCables ∈ WALL := mW 22 (by decide +kernel) rfl
theorem mw_23 : Cond.selects "GliderDay" yX3_freeDueTugs yX3_freeDueTugs ∈ WALL := mW 23 (by decide +kernel) rfl
theorem mw_24 : Cond.selects "GliderDay" yX3_beginToWait yX3_beginToWait ∈ WALL := mW 24 (by decide +kernel) rfl
theorem mw_25 : Cond.selects "GliderDay" yX3_mustLand yX3_mustLand ∈ WALL := mW 25 (by decide +kernel) rfl
theorem mw_26 : Cond.selects "GliderDay" yX3_landFirstWaiting yX3_landFirstWaiting ∈ WALL := mW 26 (by decide +kernel) rfl
theorem mw_27 : Cond.selects "GliderDay" yX3_land yX3_land ∈ WALL := mW 27 (by decide +kernel) rfl
theorem mw_28 : Cond.selects "GliderDay" yX3_startFirstThatCan yX3_startFirstThatCan ∈ WALL := mW 28 (by decide +kernel) rfl
theorem mw_29 : Cond.selects "GliderDay" yX3_start yX3_start ∈ WALL := mW 29 (by decide +kernel) rfl
theorem mw_30 : Cond.selects "GliderDay" yX3_takeCable yX3_takeCable ∈ WALL := mW 30 (by decide +kernel) rfl
theorem mw_31 : Cond.selects "GliderDay" yX3_takeTug yX3_takeTug ∈ WALL := mW 31 (by decide +kernel) rfl
theorem mw_32 : Cond.selects "GliderDayModel" yX4_no yX4_no ∈ WALL := mW 32 (by decide +kernel) rfl
theorem mw_33 : Cond.selects "GliderDayModel" yX4_takenTugs yX4_takenTugs ∈ WALL := mW 33 (by decide +kernel) rfl
theorem mw_34 : Cond.selects "GliderDayModel" yX4_isGlider yX4_isGlider ∈ WALL := mW 34 (by decide +kernel) rfl
theorem mw_35 : Cond.selects "GliderDayModel" yX4_flightOf yX4_flightOf ∈ WALL := mW 35 (by decide +kernel) rfl
theorem mw_36 : Cond.selects "GliderDayModel" yX4_isMember yX4_isMember ∈ WALL := mW 36 (by decide +kernel) rfl
theorem mw_37 : Cond.selects "GliderDayModel" yX4_landed yX4_landed ∈ WALL := mW 37 (by decide +kernel) rfl
theorem mw_38 : Cond.selects "GliderDayModel" yX4_withTeacher yX4_withTeacher ∈ WALL := mW 38 (by decide +kernel) rfl
theorem mw_39 : Cond.selects "GliderDayModel" yX4_flies yX4_flies ∈ WALL := mW 39 (by decide +kernel) rfl
theorem mw_40 : Cond.selects "GliderDayModel" yX4_toldOfMember yX4_toldOfMember ∈ WALL := mW 40 (by decide +kernel) rfl
theorem mw_41 : Cond.selects "GliderDayModel" yX4_toldOfGlider yX4_toldOfGlider ∈ WALL := mW 41 (by decide +kernel) rfl
theorem mw_42 : Cond.selects "GliderDayModel" yX4_with yX4_with ∈ WALL := mW 42 (by decide +kernel) rfl
theorem mw_43 : Cond.selects "GliderDayModel" yX4_isFlight yX4_isFlight ∈ WALL := mW 43 (by decide +kernel) rfl
theorem mw_44 : Cond.selects "GliderDayModel" yX4_place yX4_place ∈ WALL := mW 44 (by decide +kernel) rfl
theorem mw_45 : Cond.selects "GliderDayModel" yX4_reasonOf yX4_reasonOf ∈ WALL := mW 45 (by decide +kernel) rfl
theorem mw_46 : Cond.selects "GliderDayModel" yX4_isBusyNow yX4_isBusyNow ∈ WALL := mW 46 (by decide +kernel) rfl
theorem mw_47 : Cond.selects "GliderDayModel" yX4_minute yX4_minute ∈ WALL := mW 47 (by decide +kernel) rfl
theorem mw_48 : Cond.selects "GliderDayModel" yX4_land yX4_land ∈ WALL := mW 48 (by decide +kernel) rfl
theorem mw_49 : Cond.selects "GliderDayModel" yX4_begin yX4_begin ∈ WALL := mW 49 (by decide +kernel) rfl
theorem mw_50 : Cond.selects "GliderDayModel" yX4_toldOf yX4_toldOf ∈ WALL := mW 50 (by decide +kernel) rfl
theorem mw_51 : Cond.selects "GliderDayModel" yX4_costOf yX4_costOf ∈ WALL := mW 51 (by decide +kernel) rfl
theorem mw_52 : Cond.selects "GliderDayModel" yX4_counted yX4_counted ∈ WALL := mW 52 (by decide +kernel) rfl
theorem mw_53 : Cond.selects "GliderDayModel" yX4_billOf yX4_billOf ∈ WALL := mW 53 (by decide +kernel) rfl
theorem mw_54 : Cond.initialized "GliderDayLaw" ∈ WALL := mW 54 (by decide +kernel) rfl
theorem mw_55 : Cond.initialized "GliderDay" ∈ WALL := mW 55 (by decide +kernel) rfl
theorem mw_56 : Cond.initialized "java/util/AbstractCollection" ∈ WALL := mW 56 (by decide +kernel) rfl
theorem mw_57 : Cond.initialized "java/util/AbstractList" ∈ WALL := mW 57 (by decide +kernel) rfl
theorem mw_58 : Cond.initialized "java/util/ArrayList" ∈ WALL := mW 58 (by decide +kernel) rfl
theorem mw_59 : Cond.initialized "GliderDayModel" ∈ WALL := mW 59 (by decide +kernel) rfl
theorem mw_60 : Cond.initialized "java/lang/Throwable" ∈ WALL := mW 60 (by decide +kernel) rfl
theorem mw_61 : Cond.initialized "java/lang/Exception" ∈ WALL := mW 61 (by decide +kernel) rfl
theorem mw_62 : Cond.initialized "java/lang/RuntimeException" ∈ WALL := mW 62 (by decide +kernel) rfl
theorem mw_63 : Cond.initialized "java/lang/IllegalArgumentException" ∈ WALL := mW 63 (by decide +kernel) rfl
theorem mw_64 : Cond.initialized "java/lang/IllegalStateException" ∈ WALL := mW 64 (by decide +kernel) rfl
theorem mw_65 : Cond.initialized "GliderDay$Member" ∈ WALL := mW 65 (by decide +kernel) rfl
theorem mw_66 : Cond.initialized "jdk/internal/util/ArraysSupport" ∈ WALL := mW 66 (by decide +kernel) rfl
theorem mw_67 : Cond.initialized "java/lang/Math" ∈ WALL := mW 67 (by decide +kernel) rfl
theorem mw_68 : Cond.initialized "java/util/Arrays" ∈ WALL := mW 68 (by decide +kernel) rfl
theorem mw_69 : Cond.initialized "java/lang/System" ∈ WALL := mW 69 (by decide +kernel) rfl
theorem mw_70 : Cond.initialized "GliderDay$Glider" ∈ WALL := mW 70 (by decide +kernel) rfl
theorem mw_71 : Cond.initialized "java/lang/IndexOutOfBoundsException" ∈ WALL := mW 71 (by decide +kernel) rfl
theorem mw_72 : Cond.initialized "java/util/Objects" ∈ WALL := mW 72 (by decide +kernel) rfl
theorem mw_73 : Cond.initialized "jdk/internal/util/Preconditions" ∈ WALL := mW 73 (by decide +kernel) rfl
theorem mw_74 : Cond.initialized "GliderDay$Flight" ∈ WALL := mW 74 (by decide +kernel) rfl
theorem mw_75 : Cond.classLink "GliderDayLaw" 8 "GliderDay" ∈ WALL := mW 75 (by decide +kernel) rfl
theorem mw_76 : Cond.instantiable "GliderDay" 13 ∈ WALL := mW 76 (by decide +kernel) rfl
theorem mw_77 : Cond.methodLink "GliderDayLaw" 77 yX3_init ∈ WALL := mW 77 (by decide +kernel) rfl
theorem mw_78 : Cond.instanceMethod yX3_init ∈ WALL := mW 78 (by decide +kernel) rfl
theorem mw_79 : Cond.code yX3_init prog_1_method_1_code 1 Option.none ∈ WALL := mW 79 (by decide +kernel) rfl
theorem mw_80 : Cond.methodLink "GliderDay" 1 (⟨"java/lang/Object", "<init>", "()V"⟩ : MethodName) ∈ WALL := mW 80 (by decide +kernel) rfl
theorem mw_81 : Cond.instanceMethod (⟨"java/lang/Object", "<init>", "()V"⟩ : MethodName) ∈ WALL := mW 81 (by decide +kernel) rfl
theorem mw_82 : Cond.code (⟨"java/lang/Object", "<init>", "()V"⟩ : MethodName) object_method_1_code 1 Option.none ∈ WALL := mW 82 (by decide +kernel) rfl
theorem mw_83 : Cond.classLink "GliderDay" 7 "java/util/ArrayList" ∈ WALL := mW 83 (by decide +kernel) rfl
theorem mw_84 : Cond.instantiable "java/util/ArrayList" 3 ∈ WALL := mW 84 (by decide +kernel) rfl
theorem mw_85 : Cond.methodLink "GliderDay" 9 yJx4a65c_init_da8c8 ∈ WALL := mW 85 (by decide +kernel) rfl
theorem mw_86 : Cond.instanceMethod yJx4a65c_init_da8c8 ∈ WALL := mW 86 (by decide +kernel) rfl
theorem mw_87 : Cond.code yJx4a65c_init_da8c8 prog_21_method_2_code 1 Option.none ∈ WALL := mW 87 (by decide +kernel) rfl
theorem mw_88 : Cond.methodLink "java/util/ArrayList" 1 yJxc12de_init_da8c8 ∈ WALL := mW 88 (by decide +kernel) rfl
theorem mw_89 : Cond.instanceMethod yJxc12de_init_da8c8 ∈ WALL := mW 89 (by decide +kernel) rfl
theorem mw_90 : Cond.code yJxc12de_init_da8c8 prog_20_method_1_code 1 Option.none ∈ WALL := mW 90 (by decide +kernel) rfl
theorem mw_91 : Cond.methodLink "java/util/AbstractList" 1 yJxa1e45_init_da8c8 ∈ WALL := mW 91 (by decide +kernel) rfl
theorem mw_92 : Cond.instanceMethod yJxa1e45_init_da8c8 ∈ WALL := mW 92 (by decide +kernel) rfl
theorem mw_93 : Cond.code yJxa1e45_init_da8c8 prog_19_method_1_code 1 Option.none ∈ WALL := mW 93 (by decide +kernel) rfl
theorem mw_94 : Cond.methodLink "java/util/AbstractCollection" 1 (⟨"java/lang/Object", "<init>", "()V"⟩ : MethodName) ∈ WALL := mW 94 (by decide +kernel) rfl
theorem mw_95 : Cond.fieldLink "java/util/ArrayList" 39 "java/util/ArrayList" "DEFAULTCAPACITY_EMPTY_ELEMENTDATA" "[Ljava/lang/Object;" ∈ WALL := mW 95 (by decide +kernel) rfl
theorem mw_97 : Cond.fieldLink "java/util/ArrayList" 9 "java/util/ArrayList" "elementData" "[Ljava/lang/Object;" ∈ WALL := mW 97 (by decide +kernel) rfl
theorem mw_98 : Cond.fieldLink "java/util/ArrayList" 48 "java/util/ArrayList" "size" "I" ∈ WALL := mW 98 (by decide +kernel) rfl
theorem mw_99 : Cond.fieldLink "java/util/AbstractList" 7 "java/util/AbstractList" "modCount" "I" ∈ WALL := mW 99 (by decide +kernel) rfl
theorem mw_100 : Cond.fieldLink "java/util/ArrayList" 63 "java/util/ArrayList" "modCount" "I" ∈ WALL := mW 100 (by decide +kernel) rfl
theorem mw_102 : Cond.lays "java/util/ArrayList" "java/util/ArrayList" "elementData" "[Ljava/lang/Object;" ∈ WALL := mW 102 (by decide +kernel) rfl
theorem mw_104 : Cond.lays "java/util/ArrayList" "java/util/ArrayList" "size" "I" ∈ WALL := mW 104 (by decide +kernel) rfl
theorem mw_106 : Cond.lays "java/util/ArrayList" "java/util/AbstractList" "modCount" "I" ∈ WALL := mW 106 (by decide +kernel) rfl
theorem mw_108 : Cond.superclass "java/util/ArrayList" "java/util/AbstractList" ∈ WALL := mW 108 (by decide +kernel) rfl
theorem mw_109 : Cond.fieldLink "GliderDay" 10 "GliderDay" "members" "Ljava/util/ArrayList;" ∈ WALL := mW 109 (by decide +kernel) rfl
theorem mw_110 : Cond.fieldLink "GliderDay" 16 "GliderDay" "gliders" "Ljava/util/ArrayList;" ∈ WALL := mW 110 (by decide +kernel) rfl
theorem mw_111 : Cond.fieldLink "GliderDay" 19 "GliderDay" "flights" "Ljava/util/ArrayList;" ∈ WALL := mW 111 (by decide +kernel) rfl
theorem mw_112 : Cond.fieldLink "GliderDay" 22 "GliderDay" "listed" "Ljava/util/ArrayList;" ∈ WALL := mW 112 (by decide +kernel) rfl
theorem mw_113 : Cond.fieldLink "GliderDay" 25 "GliderDay" "waiting" "Ljava/util/ArrayList;" ∈ WALL := mW 113 (by decide +kernel) rfl
theorem mw_114 : Cond.fieldLink "GliderDay" 28 "GliderDay" "tugsDue" "[I" ∈ WALL := mW 114 (by decide +kernel) rfl
theorem mw_115 : Cond.fieldLink "GliderDay" 32 "GliderDay" "tugs" "I" ∈ WALL := mW 115 (by decide +kernel) rfl
theorem mw_116 : Cond.fieldLink "GliderDay" 36 "GliderDay" "cablesTaken" "I" ∈ WALL := mW 116 (by decide +kernel) rfl
theorem mw_117 : Cond.fieldLink "GliderDay" 39 "GliderDay" "cablesDue" "I" ∈ WALL := mW 117 (by decide +kernel) rfl
theorem mw_118 : Cond.fieldLink "GliderDay" 42 "GliderDay" "time" "I" ∈ WALL := mW 118 (by decide +kernel) rfl
theorem mw_119 : Cond.fieldLink "GliderDay" 45 "GliderDay" "wind" "I" ∈ WALL := mW 119 (by decide +kernel) rfl
theorem mw_120 : Cond.fieldLink "GliderDay" 48 "GliderDay" "sunset" "I" ∈ WALL := mW 120 (by decide +kernel) rfl
theorem mw_121 : Cond.fieldLink "GliderDay" 51 "GliderDay" "busyUntil" "I" ∈ WALL := mW 121 (by decide +kernel) rfl
theorem mw_122 : Cond.laysFinal "GliderDay" "GliderDay" "members" "Ljava/util/ArrayList;" ∈ WALL := mW 122 (by decide +kernel) rfl
theorem mw_124 : Cond.laysFinal "GliderDay" "GliderDay" "gliders" "Ljava/util/ArrayList;" ∈ WALL := mW 124 (by decide +kernel) rfl
theorem mw_126 : Cond.laysFinal "GliderDay" "GliderDay" "flights" "Ljava/util/ArrayList;" ∈ WALL := mW 126 (by decide +kernel) rfl
theorem mw_128 : Cond.laysFinal "GliderDay" "GliderDay" "listed" "Ljava/util/ArrayList;" ∈ WALL := mW 128 (by decide +kernel) rfl
theorem mw_130 : Cond.laysFinal "GliderDay" "GliderDay" "waiting" "Ljava/util/ArrayList;" ∈ WALL := mW 130 (by decide +kernel) rfl
theorem mw_132 : Cond.laysFinal "GliderDay" "GliderDay" "tugsDue" "[I" ∈ WALL := mW 132 (by decide +kernel) rfl
theorem mw_134 : Cond.lays "GliderDay" "GliderDay" "tugs" "I" ∈ WALL := mW 134 (by decide +kernel) rfl
theorem mw_136 : Cond.lays "GliderDay" "GliderDay" "cablesTaken" "I" ∈ WALL := mW 136 (by decide +kernel) rfl
theorem mw_138 : Cond.lays "GliderDay" "GliderDay" "cablesDue" "I" ∈ WALL := mW 138 (by decide +kernel) rfl
theorem mw_140 : Cond.lays "GliderDay" "GliderDay" "time" "I" ∈ WALL := mW 140 (by decide +kernel) rfl
theorem mw_142 : Cond.lays "GliderDay" "GliderDay" "wind" "I" ∈ WALL := mW 142 (by decide +kernel) rfl
theorem mw_144 : Cond.lays "GliderDay" "GliderDay" "sunset" "I" ∈ WALL := mW 144 (by decide +kernel) rfl
theorem mw_146 : Cond.lays "GliderDay" "GliderDay" "busyUntil" "I" ∈ WALL := mW 146 (by decide +kernel) rfl
theorem mw_148 : Cond.superclass "GliderDay" "java/lang/Object" ∈ WALL := mW 148 (by decide +kernel) rfl
theorem mw_149 : Cond.arrayClass ClassFile.FieldType.int ∈ WALL := mW 149 (by decide +kernel) rfl
theorem mw_150 : Cond.methodLink "GliderDayLaw" 137 yX3_now ∈ WALL := mW 150 (by decide +kernel) rfl
theorem mw_151 : Cond.instanceMethod yX3_now ∈ WALL := mW 151 (by decide +kernel) rfl
theorem mw_152 : Cond.selects "GliderDay" yX3_now yX3_now ∈ WALL := mW 152 (by decide +kernel) rfl
theorem mw_153 : Cond.code yX3_now prog_1_method_17_code 1 (Option.some ClassFile.FieldType.int) ∈ WALL := mW 153 (by decide +kernel) rfl
theorem mw_154 : Cond.methodLink "GliderDayLaw" 147 yX3_isBusy ∈ WALL := mW 154 (by decide +kernel) rfl
theorem mw_155 : Cond.instanceMethod yX3_isBusy ∈ WALL := mW 155 (by decide +kernel) rfl
theorem mw_156 : Cond.selects "GliderDay" yX3_isBusy yX3_isBusy ∈ WALL := mW 156 (by decide +kernel) rfl
theorem mw_157 : Cond.code yX3_isBusy prog_1_method_20_code 1 (Option.some ClassFile.FieldType.boolean) ∈ WALL := mW 157 (by decide +kernel) rfl
theorem mw_158 : Cond.methodLink "GliderDayLaw" 158 yX3_income ∈ WALL := mW 158 (by decide +kernel) rfl
theorem mw_159 : Cond.instanceMethod yX3_income ∈ WALL := mW 159 (by decide +kernel) rfl
theorem mw_160 : Cond.selects "GliderDay" yX3_income yX3_income ∈ WALL := mW 160 (by decide +kernel) rfl
theorem mw_161 : Cond.code yX3_income prog_1_method_23_code 3 (Option.some ClassFile.FieldType.int) ∈ WALL := mW 161 (by decide +kernel) rfl
theorem mw_162 : Cond.methodLink "GliderDay" 65 yJx4a65c_size_8abf5 ∈ WALL := mW 162 (by decide +kernel) rfl
theorem mw_163 : Cond.instanceMethod yJx4a65c_size_8abf5 ∈ WALL := mW 163 (by decide +kernel) rfl
theorem mw_164 : Cond.selects "java/util/ArrayList" yJx4a65c_size_8abf5 yJx4a65c_size_8abf5 ∈ WALL := mW 164 (by decide +kernel) rfl
theorem mw_165 : Cond.code yJx4a65c_size_8abf5 prog_21_method_8_code 1 (Option.some ClassFile.FieldType.int) ∈ WALL := mW 165 (by decide +kernel) rfl
theorem mw_166 : Cond.methodLink "GliderDay" 188 yJx4a65c_get_915e3 ∈ WALL := mW 166 (by decide +kernel) rfl
theorem mw_167 : Cond.instanceMethod yJx4a65c_get_915e3 ∈ WALL := mW 167 (by decide +kernel) rfl
theorem mw_168 : Cond.selects "java/util/ArrayList" yJx4a65c_get_915e3 yJx4a65c_get_915e3 ∈ WALL := mW 168 (by decide +kernel) rfl
theorem mw_169 : Cond.code yJx4a65c_get_915e3 prog_21_method_20_code 2 (Option.some (ClassFile.FieldType.object "java/lang/Object")) ∈ WALL := mW 169 (by decide +kernel) rfl
theorem mw_170 : Cond.methodLink "java/util/ArrayList" 118 yJ15_checkIndex_7cf53 ∈ WALL := mW 170 (by decide +kernel) rfl
theorem mw_171 : Cond.static yJ15_checkIndex_7cf53 ∈ WALL := mW 171 (by decide +kernel) rfl
theorem mw_172 : Cond.code yJ15_checkIndex_7cf53 prog_25_method_17_code 2 (Option.some ClassFile.FieldType.int) ∈ WALL := mW 172 (by decide +kernel) rfl
theorem mw_173 : Cond.methodLink "java/util/Objects" 105 yJ3_checkIndex_8e157 ∈ WALL := mW 173 (by decide +kernel) rfl
theorem mw_174 : Cond.static yJ3_checkIndex_8e157 ∈ WALL := mW 174 (by decide +kernel) rfl
theorem mw_175 : Cond.code yJ3_checkIndex_8e157 prog_29_method_11_code 3 (Option.some ClassFile.FieldType.int) ∈ WALL := mW 175 (by decide +kernel) rfl
theorem mw_176 : Cond.methodLink "java/util/ArrayList" 123 yJx4a65c_elementData_915e3 ∈ WALL := mW 176 (by decide +kernel) rfl
theorem mw_177 : Cond.instanceMethod yJx4a65c_elementData_915e3 ∈ WALL := mW 177 (by decide +kernel) rfl
theorem mw_178 : Cond.selects "java/util/ArrayList" yJx4a65c_elementData_915e3 yJx4a65c_elementData_915e3 ∈ WALL := mW 178 (by decide +kernel) rfl
theorem mw_179 : Cond.code yJx4a65c_elementData_915e3 prog_21_method_18_code 2 (Option.some (ClassFile.FieldType.object "java/lang/Object")) ∈ WALL := mW 179 (by decide +kernel) rfl
theorem mw_180 : Cond.classLink "GliderDay" 156 "GliderDay$Flight" ∈ WALL := mW 180 (by decide +kernel) rfl
theorem mw_181 : Cond.methodLink "GliderDayLaw" 162 yX3_longest ∈ WALL := mW 181 (by decide +kernel) rfl
theorem mw_182 : Cond.instanceMethod yX3_longest ∈ WALL := mW 182 (by decide +kernel) rfl
theorem mw_183 : Cond.selects "GliderDay" yX3_longest yX3_longest ∈ WALL := mW 183 (by decide +kernel) rfl
theorem mw_184 : Cond.code yX3_longest prog_1_method_24_code 5 (Option.some ClassFile.FieldType.int) ∈ WALL := mW 184 (by decide +kernel) rfl
theorem mw_185 : Cond.methodLink "GliderDayLaw" 166 yX3_waited ∈ WALL := mW 185 (by decide +kernel) rfl
theorem mw_186 : Cond.instanceMethod yX3_waited ∈ WALL := mW 186 (by decide +kernel) rfl
theorem mw_187 : Cond.selects "GliderDay" yX3_waited yX3_waited ∈ WALL := mW 187 (by decide +kernel) rfl
theorem mw_188 : Cond.code yX3_waited prog_1_method_25_code 5 (Option.some ClassFile.FieldType.double) ∈ WALL := mW 188 (by decide +kernel) rfl
theorem mw_189 : Cond.methodLink "GliderDayLaw" 171 yX3_digest ∈ WALL := mW 189 (by decide +kernel) rfl
theorem mw_190 : Cond.instanceMethod yX3_digest ∈ WALL := mW 190 (by decide +kernel) rfl
theorem mw_191 : Cond.selects "GliderDay" yX3_digest yX3_digest ∈ WALL := mW 191 (by decide +kernel) rfl
theorem mw_192 : Cond.code yX3_digest prog_1_method_26_code 4 (Option.some ClassFile.FieldType.long) ∈ WALL := mW 192 (by decide +kernel) rfl
theorem mw_193 : Cond.constantLong "GliderDay" 238 317 ∈ WALL := mW 193 (by decide +kernel) rfl
theorem mw_194 : Cond.methodLink "GliderDay" 240 yX3_mixed ∈ WALL := mW 194 (by decide +kernel) rfl
theorem mw_195 : Cond.static yX3_mixed ∈ WALL := mW 195 (by decide +kernel) rfl
theorem mw_196 : Cond.code yX3_mixed prog_1_method_27_code 3 (Option.some ClassFile.FieldType.long) ∈ WALL := mW 196 (by decide +kernel) rfl
theorem mw_197 : Cond.constantLong "GliderDay" 254 31 ∈ WALL := mW 197 (by decide +kernel) rfl
theorem mw_198 : Cond.methodLink "GliderDay" 222 yX3_countOf ∈ WALL := mW 198 (by decide +kernel) rfl
theorem mw_200 : Cond.instanceMethod yX3_countOf ∈ WALL := mW 200 (by decide +kernel) rfl
theorem mw_201 : Cond.code yX3_countOf prog_1_method_42_code 2 (Option.some ClassFile.FieldType.int) ∈ WALL := mW 201 (by decide +kernel) rfl
theorem mw_202 : Cond.methodLink "GliderDay" 292 yX3_glidersInTheAir ∈ WALL := mW 202 (by decide +kernel) rfl
theorem mw_204 : Cond.instanceMethod yX3_glidersInTheAir ∈ WALL := mW 204 (by decide +kernel) rfl
theorem mw_205 : Cond.code yX3_glidersInTheAir prog_1_method_43_code 3 (Option.some ClassFile.FieldType.int) ∈ WALL := mW 205 (by decide +kernel) rfl
theorem mw_206 : Cond.classLink "GliderDay" 87 "GliderDay$Glider" ∈ WALL := mW 206 (by decide +kernel) rfl
theorem mw_207 : Cond.methodLink "GliderDay" 103 yX3_freeTugs ∈ WALL := mW 207 (by decide +kernel) rfl
theorem mw_209 : Cond.instanceMethod yX3_freeTugs ∈ WALL := mW 209 (by decide +kernel) rfl
theorem mw_210 : Cond.code yX3_freeTugs prog_1_method_45_code 1 (Option.some ClassFile.FieldType.int) ∈ WALL := mW 210 (by decide +kernel) rfl
theorem mw_211 : Cond.methodLink "GliderDay" 98 yX3_tugsTaken ∈ WALL := mW 211 (by decide +kernel) rfl
theorem mw_213 : Cond.instanceMethod yX3_tugsTaken ∈ WALL := mW 213 (by decide +kernel) rfl
theorem mw_214 : Cond.code yX3_tugsTaken prog_1_method_44_code 3 (Option.some ClassFile.FieldType.int) ∈ WALL := mW 214 (by decide +kernel) rfl
theorem mw_215 : Cond.methodLink "GliderDay" 244 yX3_mixedMembers ∈ WALL := mW 215 (by decide +kernel) rfl
theorem mw_217 : Cond.instanceMethod yX3_mixedMembers ∈ WALL := mW 217 (by decide +kernel) rfl
theorem mw_218 : Cond.code yX3_mixedMembers prog_1_method_28_code 8 (Option.some ClassFile.FieldType.long) ∈ WALL := mW 218 (by decide +kernel) rfl
theorem mw_219 : Cond.classLink "GliderDay" 74 "GliderDay$Member" ∈ WALL := mW 219 (by decide +kernel) rfl
theorem mw_220 : Cond.methodLink "GliderDay" 140 yX3_memberFact ∈ WALL := mW 220 (by decide +kernel) rfl
theorem mw_221 : Cond.static yX3_memberFact ∈ WALL := mW 221 (by decide +kernel) rfl
theorem mw_222 : Cond.code yX3_memberFact prog_1_method_39_code 2 (Option.some ClassFile.FieldType.int) ∈ WALL := mW 222 (by decide +kernel) rfl
theorem mw_223 : Cond.methodLink "GliderDay" 248 yX3_mixedGliders ∈ WALL := mW 223 (by decide +kernel) rfl
theorem mw_225 : Cond.instanceMethod yX3_mixedGliders ∈ WALL := mW 225 (by decide +kernel) rfl
theorem mw_226 : Cond.code yX3_mixedGliders prog_1_method_29_code 7 (Option.some ClassFile.FieldType.long) ∈ WALL := mW 226 (by decide +kernel) rfl
theorem mw_227 : Cond.methodLink "GliderDay" 144 yX3_gliderFact ∈ WALL := mW 227 (by decide +kernel) rfl
theorem mw_228 : Cond.static yX3_gliderFact ∈ WALL := mW 228 (by decide +kernel) rfl
theorem mw_229 : Cond.code yX3_gliderFact prog_1_method_40_code 2 (Option.some ClassFile.FieldType.int) ∈ WALL := mW 229 (by decide +kernel) rfl
theorem mw_230 : Cond.methodLink "GliderDay" 251 yX3_mixedFlights ∈ WALL := mW 230 (by decide +kernel) rfl
theorem mw_232 : Cond.instanceMethod yX3_mixedFlights ∈ WALL := mW 232 (by decide +kernel) rfl
theorem mw_233 : Cond.code yX3_mixedFlights prog_1_method_30_code 7 (Option.some ClassFile.FieldType.long) ∈ WALL := mW 233 (by decide +kernel) rfl
theorem mw_234 : Cond.methodLink "GliderDay" 216 yX3_flightFact ∈ WALL := mW 234 (by decide +kernel) rfl
theorem mw_235 : Cond.static yX3_flightFact ∈ WALL := mW 235 (by decide +kernel) rfl
theorem mw_236 : Cond.code yX3_flightFact prog_1_method_41_code 2 (Option.some ClassFile.FieldType.int) ∈ WALL := mW 236 (by decide +kernel) rfl
theorem mw_237 : Cond.methodLink "GliderDayLaw" 81 yL_addMember ∈ WALL := mW 237 (by decide +kernel) rfl
theorem mw_238 : Cond.static yL_addMember ∈ WALL := mW 238 (by decide +kernel) rfl
theorem mw_239 : Cond.codeWith yL_addMember method_3_code 4 (Option.some ClassFile.FieldType.int) [(0, 9, 12, 13), (0, 9, 15, 15)] ∈ WALL := mW 239 (by decide +kernel) rfl
theorem mw_240 : Cond.classLink "GliderDayLaw" 13 "java/lang/IllegalArgumentException" ∈ WALL := mW 240 (by decide +kernel) rfl
theorem mw_241 : Cond.classLink "GliderDayLaw" 15 "java/lang/IllegalStateException" ∈ WALL := mW 241 (by decide +kernel) rfl
theorem mw_242 : Cond.methodLink "GliderDayLaw" 7 yX3_addMember ∈ WALL := mW 242 (by decide +kernel) rfl
theorem mw_243 : Cond.instanceMethod yX3_addMember ∈ WALL := mW 243 (by decide +kernel) rfl
theorem mw_244 : Cond.selects "GliderDay" yX3_addMember yX3_addMember ∈ WALL := mW 244 (by decide +kernel) rfl
theorem mw_245 : Cond.code yX3_addMember prog_1_method_2_code 3 (Option.some ClassFile.FieldType.int) ∈ WALL := mW 245 (by decide +kernel) rfl
theorem mw_246 : Cond.methodLink "GliderDay" 54 yX3_isWithin ∈ WALL := mW 246 (by decide +kernel) rfl
theorem mw_247 : Cond.static yX3_isWithin ∈ WALL := mW 247 (by decide +kernel) rfl
theorem mw_248 : Cond.code yX3_isWithin prog_1_method_31_code 3 (Option.some ClassFile.FieldType.boolean) ∈ WALL := mW 248 (by decide +kernel) rfl
theorem mw_249 : Cond.classLink "GliderDay" 58 "java/lang/IllegalArgumentException" ∈ WALL := mW 249 (by decide +kernel) rfl
theorem mw_250 : Cond.instantiable "java/lang/IllegalArgumentException" 6 ∈ WALL := mW 250 (by decide +kernel) rfl
theorem mw_258 : Cond.selects "java/lang/IllegalArgumentException" (⟨"java/lang/Throwable", "fillInStackTrace", "(I)Ljava/lang/Throwable;"⟩ : MethodName) (⟨"java/lang/Throwable", "fillInStackTrace", "(I)Ljava/lang/Throwable;"⟩ : MethodName) ∈ WALL := mW 258 (by decide +kernel) rfl
theorem mw_259 : Cond.selects "java/lang/IllegalArgumentException" (⟨"java/lang/Throwable", "fillInStackTrace", "()Ljava/lang/Throwable;"⟩ : MethodName) (⟨"java/lang/Throwable", "fillInStackTrace", "()Ljava/lang/Throwable;"⟩ : MethodName) ∈ WALL := mW 259 (by decide +kernel) rfl
theorem mw_260 : Cond.lays "java/lang/IllegalArgumentException" "java/lang/Throwable" "cause" "Ljava/lang/Throwable;" ∈ WALL := mW 260 (by decide +kernel) rfl
theorem mw_261 : Cond.lays "java/lang/Throwable" "java/lang/Throwable" "cause" "Ljava/lang/Throwable;" ∈ WALL := mW 261 (by decide +kernel) rfl
theorem mw_262 : Cond.lays "java/lang/IllegalArgumentException" "java/lang/Throwable" "stackTrace" "[Ljava/lang/StackTraceElement;" ∈ WALL := mW 262 (by decide +kernel) rfl
theorem mw_263 : Cond.lays "java/lang/Throwable" "java/lang/Throwable" "stackTrace" "[Ljava/lang/StackTraceElement;" ∈ WALL := mW 263 (by decide +kernel) rfl
theorem mw_264 : Cond.lays "java/lang/IllegalArgumentException" "java/lang/Throwable" "suppressedExceptions" "Ljava/util/List;" ∈ WALL := mW 264 (by decide +kernel) rfl
theorem mw_265 : Cond.lays "java/lang/Throwable" "java/lang/Throwable" "suppressedExceptions" "Ljava/util/List;" ∈ WALL := mW 265 (by decide +kernel) rfl
theorem mw_266 : Cond.lays "java/lang/IllegalArgumentException" "java/lang/Throwable" "detailMessage" "Ljava/lang/String;" ∈ WALL := mW 266 (by decide +kernel) rfl
theorem mw_267 : Cond.lays "java/lang/Throwable" "java/lang/Throwable" "detailMessage" "Ljava/lang/String;" ∈ WALL := mW 267 (by decide +kernel) rfl
theorem mw_268 : Cond.lays "java/lang/IllegalArgumentException" "java/lang/Throwable" "backtrace" "Ljava/lang/Object;" ∈ WALL := mW 268 (by decide +kernel) rfl
theorem mw_269 : Cond.lays "java/lang/Throwable" "java/lang/Throwable" "backtrace" "Ljava/lang/Object;" ∈ WALL := mW 269 (by decide +kernel) rfl
theorem mw_270 : Cond.fieldLink "java/lang/Throwable" 198 "java/lang/Throwable" "backtrace" "Ljava/lang/Object;" ∈ WALL := mW 270 (by decide +kernel) rfl
theorem mw_271 : Cond.superclass "java/lang/Throwable" "java/lang/Object" ∈ WALL := mW 271 (by decide +kernel) rfl
theorem mw_272 : Cond.instanceMethod (⟨"java/lang/Throwable", "<init>", "()V"⟩ : MethodName) ∈ WALL := mW 272 (by decide +kernel) rfl
theorem mw_273 : Cond.code (⟨"java/lang/Throwable", "<init>", "()V"⟩ : MethodName) prog_18_method_1_code 1 Option.none ∈ WALL := mW 273 (by decide +kernel) rfl
theorem mw_274 : Cond.methodLink "java/lang/Throwable" 1 (⟨"java/lang/Object", "<init>", "()V"⟩ : MethodName) ∈ WALL := mW 274 (by decide +kernel) rfl
theorem mw_275 : Cond.fieldLink "java/lang/Throwable" 13 "java/lang/Throwable" "UNASSIGNED_STACK" "[Ljava/lang/StackTraceElement;" ∈ WALL := mW 275 (by decide +kernel) rfl
theorem mw_277 : Cond.fieldLink "java/lang/Throwable" 20 "java/lang/Throwable" "SUPPRESSED_SENTINEL" "Ljava/util/List;" ∈ WALL := mW 277 (by decide +kernel) rfl
theorem mw_279 : Cond.methodLink "java/lang/Throwable" 27 (⟨"java/lang/Throwable", "fillInStackTrace", "()Ljava/lang/Throwable;"⟩ : MethodName) ∈ WALL := mW 279 (by decide +kernel) rfl
theorem mw_280 : Cond.instanceMethod (⟨"java/lang/Throwable", "fillInStackTrace", "()Ljava/lang/Throwable;"⟩ : MethodName) ∈ WALL := mW 280 (by decide +kernel) rfl
theorem mw_281 : Cond.sameMethod "java/lang/Throwable" "java/lang/Throwable" "fillInStackTrace" "()Ljava/lang/Throwable;" ∈ WALL := mW 281 (by decide +kernel) rfl
theorem mw_282 : Cond.selects "java/lang/IllegalStateException" (⟨"java/lang/Throwable", "fillInStackTrace", "()Ljava/lang/Throwable;"⟩ : MethodName) (⟨"java/lang/Throwable", "fillInStackTrace", "()Ljava/lang/Throwable;"⟩ : MethodName) ∈ WALL := mW 282 (by decide +kernel) rfl
theorem mw_283 : Cond.selects "java/lang/IndexOutOfBoundsException" (⟨"java/lang/Throwable", "fillInStackTrace", "()Ljava/lang/Throwable;"⟩ : MethodName) (⟨"java/lang/Throwable", "fillInStackTrace", "()Ljava/lang/Throwable;"⟩ : MethodName) ∈ WALL := mW 283 (by decide +kernel) rfl
theorem mw_285 : Cond.methodLink "java/lang/Throwable" 202 (⟨"java/lang/Throwable", "fillInStackTrace", "(I)Ljava/lang/Throwable;"⟩ : MethodName) ∈ WALL := mW 285 (by decide +kernel) rfl
theorem mw_287 : Cond.instanceMethod (⟨"java/lang/Throwable", "fillInStackTrace", "(I)Ljava/lang/Throwable;"⟩ : MethodName) ∈ WALL := mW 287 (by decide +kernel) rfl
theorem mw_288 : Cond.instantiable "java/lang/Throwable" 6 ∈ WALL := mW 288 (by decide +kernel) rfl
theorem mw_289 : Cond.native (⟨"java/lang/Throwable", "fillInStackTrace", "(I)Ljava/lang/Throwable;"⟩ : MethodName) ∈ WALL := mW 289 (by decide +kernel) rfl
theorem mw_291 : Cond.methodLink "GliderDay" 62 (⟨"java/lang/IllegalArgumentException", "<init>", "(Ljava/lang/String;)V"⟩ : MethodName) ∈ WALL := mW 291 (by decide +kernel) rfl
theorem mw_292 : Cond.instanceMethod (⟨"java/lang/IllegalArgumentException", "<init>", "(Ljava/lang/String;)V"⟩ : MethodName) ∈ WALL := mW 292 (by decide +kernel) rfl
theorem mw_293 : Cond.code (⟨"java/lang/IllegalArgumentException", "<init>", "(Ljava/lang/String;)V"⟩ : MethodName) prog_10_method_2_code 2 Option.none ∈ WALL := mW 293 (by decide +kernel) rfl
theorem mw_294 : Cond.methodLink "java/lang/IllegalArgumentException" 7 (⟨"java/lang/RuntimeException", "<init>", "(Ljava/lang/String;)V"⟩ : MethodName) ∈ WALL := mW 294 (by decide +kernel) rfl
theorem mw_295 : Cond.instanceMethod (⟨"java/lang/RuntimeException", "<init>", "(Ljava/lang/String;)V"⟩ : MethodName) ∈ WALL := mW 295 (by decide +kernel) rfl
theorem mw_296 : Cond.code (⟨"java/lang/RuntimeException", "<init>", "(Ljava/lang/String;)V"⟩ : MethodName) prog_15_method_2_code 2 Option.none ∈ WALL := mW 296 (by decide +kernel) rfl
theorem mw_297 : Cond.methodLink "java/lang/RuntimeException" 7 (⟨"java/lang/Exception", "<init>", "(Ljava/lang/String;)V"⟩ : MethodName) ∈ WALL := mW 297 (by decide +kernel) rfl
theorem mw_298 : Cond.instanceMethod (⟨"java/lang/Exception", "<init>", "(Ljava/lang/String;)V"⟩ : MethodName) ∈ WALL := mW 298 (by decide +kernel) rfl
theorem mw_299 : Cond.code (⟨"java/lang/Exception", "<init>", "(Ljava/lang/String;)V"⟩ : MethodName) prog_9_method_2_code 2 Option.none ∈ WALL := mW 299 (by decide +kernel) rfl
theorem mw_300 : Cond.methodLink "java/lang/Exception" 7 (⟨"java/lang/Throwable", "<init>", "(Ljava/lang/String;)V"⟩ : MethodName) ∈ WALL := mW 300 (by decide +kernel) rfl
theorem mw_301 : Cond.instanceMethod (⟨"java/lang/Throwable", "<init>", "(Ljava/lang/String;)V"⟩ : MethodName) ∈ WALL := mW 301 (by decide +kernel) rfl
theorem mw_302 : Cond.code (⟨"java/lang/Throwable", "<init>", "(Ljava/lang/String;)V"⟩ : MethodName) prog_18_method_2_code 2 Option.none ∈ WALL := mW 302 (by decide +kernel) rfl
theorem mw_304 : Cond.fieldLink "java/lang/Throwable" 31 "java/lang/Throwable" "detailMessage" "Ljava/lang/String;" ∈ WALL := mW 304 (by decide +kernel) rfl
theorem mw_305 : Cond.fieldLink "java/lang/Throwable" 7 "java/lang/Throwable" "cause" "Ljava/lang/Throwable;" ∈ WALL := mW 305 (by decide +kernel) rfl
theorem mw_306 : Cond.fieldLink "java/lang/Throwable" 17 "java/lang/Throwable" "stackTrace" "[Ljava/lang/StackTraceElement;" ∈ WALL := mW 306 (by decide +kernel) rfl
theorem mw_307 : Cond.fieldLink "java/lang/Throwable" 24 "java/lang/Throwable" "suppressedExceptions" "Ljava/util/List;" ∈ WALL := mW 307 (by decide +kernel) rfl
theorem mw_312 : Cond.lays "java/lang/IllegalArgumentException" "java/lang/Throwable" "depth" "I" ∈ WALL := mW 312 (by decide +kernel) rfl
theorem mw_315 : Cond.superclass "java/lang/IllegalArgumentException" "java/lang/RuntimeException" ∈ WALL := mW 315 (by decide +kernel) rfl
theorem mw_316 : Cond.arrayClass ClassFile.FieldType.byte ∈ WALL := mW 316 (by decide +kernel) rfl
theorem mw_317 : Cond.classLink "GliderDay" 69 "java/lang/IllegalStateException" ∈ WALL := mW 317 (by decide +kernel) rfl
theorem mw_318 : Cond.instantiable "java/lang/IllegalStateException" 6 ∈ WALL := mW 318 (by decide +kernel) rfl
theorem mw_320 : Cond.selects "java/lang/IllegalStateException" (⟨"java/lang/Throwable", "fillInStackTrace", "(I)Ljava/lang/Throwable;"⟩ : MethodName) (⟨"java/lang/Throwable", "fillInStackTrace", "(I)Ljava/lang/Throwable;"⟩ : MethodName) ∈ WALL := mW 320 (by decide +kernel) rfl
theorem mw_321 : Cond.lays "java/lang/IllegalStateException" "java/lang/Throwable" "cause" "Ljava/lang/Throwable;" ∈ WALL := mW 321 (by decide +kernel) rfl
theorem mw_322 : Cond.lays "java/lang/IllegalStateException" "java/lang/Throwable" "stackTrace" "[Ljava/lang/StackTraceElement;" ∈ WALL := mW 322 (by decide +kernel) rfl
theorem mw_323 : Cond.lays "java/lang/IllegalStateException" "java/lang/Throwable" "suppressedExceptions" "Ljava/util/List;" ∈ WALL := mW 323 (by decide +kernel) rfl
theorem mw_324 : Cond.lays "java/lang/IllegalStateException" "java/lang/Throwable" "detailMessage" "Ljava/lang/String;" ∈ WALL := mW 324 (by decide +kernel) rfl
theorem mw_325 : Cond.lays "java/lang/IllegalStateException" "java/lang/Throwable" "backtrace" "Ljava/lang/Object;" ∈ WALL := mW 325 (by decide +kernel) rfl
theorem mw_327 : Cond.methodLink "GliderDay" 73 (⟨"java/lang/IllegalStateException", "<init>", "(Ljava/lang/String;)V"⟩ : MethodName) ∈ WALL := mW 327 (by decide +kernel) rfl
theorem mw_328 : Cond.instanceMethod (⟨"java/lang/IllegalStateException", "<init>", "(Ljava/lang/String;)V"⟩ : MethodName) ∈ WALL := mW 328 (by decide +kernel) rfl
theorem mw_329 : Cond.code (⟨"java/lang/IllegalStateException", "<init>", "(Ljava/lang/String;)V"⟩ : MethodName) prog_11_method_2_code 2 Option.none ∈ WALL := mW 329 (by decide +kernel) rfl
theorem mw_330 : Cond.methodLink "java/lang/IllegalStateException" 7 (⟨"java/lang/RuntimeException", "<init>", "(Ljava/lang/String;)V"⟩ : MethodName) ∈ WALL := mW 330 (by decide +kernel) rfl
theorem mw_331 : Cond.lays "java/lang/IllegalStateException" "java/lang/Throwable" "depth" "I" ∈ WALL := mW 331 (by decide +kernel) rfl
theorem mw_332 : Cond.superclass "java/lang/IllegalStateException" "java/lang/RuntimeException" ∈ WALL := mW 332 (by decide +kernel) rfl
theorem mw_333 : Cond.instantiable "GliderDay$Member" 8 ∈ WALL := mW 333 (by decide +kernel) rfl
theorem mw_335 : Cond.instanceMethod yX2_init ∈ WALL := mW 335 (by decide +kernel) rfl
theorem mw_336 : Cond.code yX2_init prog_4_method_1_code 3 Option.none ∈ WALL := mW 336 (by decide +kernel) rfl
theorem mw_337 : Cond.methodLink "GliderDay$Member" 1 (⟨"java/lang/Object", "<init>", "()V"⟩ : MethodName) ∈ WALL := mW 337 (by decide +kernel) rfl
theorem mw_338 : Cond.fieldLink "GliderDay$Member" 7 "GliderDay$Member" "number" "I" ∈ WALL := mW 338 (by decide +kernel) rfl
theorem mw_340 : Cond.fieldLink "GliderDay$Member" 13 "GliderDay$Member" "level" "I" ∈ WALL := mW 340 (by decide +kernel) rfl
theorem mw_348 : Cond.laysFinal "GliderDay$Member" "GliderDay$Member" "number" "I" ∈ WALL := mW 348 (by decide +kernel) rfl
theorem mw_350 : Cond.lays "GliderDay$Member" "GliderDay$Member" "level" "I" ∈ WALL := mW 350 (by decide +kernel) rfl
theorem mw_352 : Cond.lays "GliderDay$Member" "GliderDay$Member" "isFlying" "Z" ∈ WALL := mW 352 (by decide +kernel) rfl
theorem mw_354 : Cond.lays "GliderDay$Member" "GliderDay$Member" "landings" "I" ∈ WALL := mW 354 (by decide +kernel) rfl
theorem mw_356 : Cond.lays "GliderDay$Member" "GliderDay$Member" "minutes" "I" ∈ WALL := mW 356 (by decide +kernel) rfl
theorem mw_358 : Cond.lays "GliderDay$Member" "GliderDay$Member" "lessons" "I" ∈ WALL := mW 358 (by decide +kernel) rfl
theorem mw_360 : Cond.lays "GliderDay$Member" "GliderDay$Member" "solos" "I" ∈ WALL := mW 360 (by decide +kernel) rfl
theorem mw_362 : Cond.lays "GliderDay$Member" "GliderDay$Member" "bill" "I" ∈ WALL := mW 362 (by decide +kernel) rfl
theorem mw_364 : Cond.superclass "GliderDay$Member" "java/lang/Object" ∈ WALL := mW 364 (by decide +kernel) rfl
theorem mw_365 : Cond.methodLink "GliderDay" 79 yJx4a65c_add_9ea2d ∈ WALL := mW 365 (by decide +kernel) rfl
theorem mw_366 : Cond.instanceMethod yJx4a65c_add_9ea2d ∈ WALL := mW 366 (by decide +kernel) rfl
theorem mw_367 : Cond.selects "java/util/ArrayList" yJx4a65c_add_9ea2d yJx4a65c_add_9ea2d ∈ WALL := mW 367 (by decide +kernel) rfl
theorem mw_368 : Cond.code yJx4a65c_add_9ea2d prog_21_method_25_code 2 (Option.some ClassFile.FieldType.boolean) ∈ WALL := mW 368 (by decide +kernel) rfl
theorem mw_369 : Cond.methodLink "java/util/ArrayList" 131 yJx4a65c_add_72be8 ∈ WALL := mW 369 (by decide +kernel) rfl
theorem mw_371 : Cond.instanceMethod yJx4a65c_add_72be8 ∈ WALL := mW 371 (by decide +kernel) rfl
theorem mw_372 : Cond.code yJx4a65c_add_72be8 prog_21_method_24_code 4 Option.none ∈ WALL := mW 372 (by decide +kernel) rfl
theorem mw_373 : Cond.methodLink "java/util/ArrayList" 129 yJx4a65c_grow_d5877 ∈ WALL := mW 373 (by decide +kernel) rfl
theorem mw_375 : Cond.instanceMethod yJx4a65c_grow_d5877 ∈ WALL := mW 375 (by decide +kernel) rfl
theorem mw_376 : Cond.code yJx4a65c_grow_d5877 prog_21_method_7_code 1 (Option.some (ClassFile.FieldType.array (ClassFile.FieldType.object "java/lang/Object"))) ∈ WALL := mW 376 (by decide +kernel) rfl
theorem mw_377 : Cond.methodLink "java/util/ArrayList" 69 yJx4a65c_grow_92f84 ∈ WALL := mW 377 (by decide +kernel) rfl
theorem mw_379 : Cond.instanceMethod yJx4a65c_grow_92f84 ∈ WALL := mW 379 (by decide +kernel) rfl
theorem mw_380 : Cond.code yJx4a65c_grow_92f84 prog_21_method_6_code 4 (Option.some (ClassFile.FieldType.array (ClassFile.FieldType.object "java/lang/Object"))) ∈ WALL := mW 380 (by decide +kernel) rfl
theorem mw_381 : Cond.methodLink "java/util/ArrayList" 73 yJ8_newLength_cabcc ∈ WALL := mW 381 (by decide +kernel) rfl
theorem mw_382 : Cond.static yJ8_newLength_cabcc ∈ WALL := mW 382 (by decide +kernel) rfl
theorem mw_383 : Cond.code yJ8_newLength_cabcc prog_28_method_27_code 4 (Option.some ClassFile.FieldType.int) ∈ WALL := mW 383 (by decide +kernel) rfl
theorem mw_384 : Cond.methodLink "jdk/internal/util/ArraysSupport" 194 yJ9_max_7cf53 ∈ WALL := mW 384 (by decide +kernel) rfl
theorem mw_385 : Cond.static yJ9_max_7cf53 ∈ WALL := mW 385 (by decide +kernel) rfl
theorem mw_386 : Cond.code yJ9_max_7cf53 prog_14_method_65_code 2 (Option.some ClassFile.FieldType.int) ∈ WALL := mW 386 (by decide +kernel) rfl
theorem mw_387 : Cond.constant "jdk/internal/util/ArraysSupport" 200 2147483639 ∈ WALL := mW 387 (by decide +kernel) rfl
theorem mw_388 : Cond.methodLink "jdk/internal/util/ArraysSupport" 201 yJ8_hugeLength_7cf53 ∈ WALL := mW 388 (by decide +kernel) rfl
theorem mw_389 : Cond.static yJ8_hugeLength_7cf53 ∈ WALL := mW 389 (by decide +kernel) rfl
theorem mw_390 : Cond.code yJ8_hugeLength_7cf53 prog_28_method_28_code 3 (Option.some ClassFile.FieldType.int) ∈ WALL := mW 390 (by decide +kernel) rfl
theorem mw_391 : Cond.methodLink "java/util/ArrayList" 66 yJ7_copyOf_1904c ∈ WALL := mW 391 (by decide +kernel) rfl
theorem mw_392 : Cond.static yJ7_copyOf_1904c ∈ WALL := mW 392 (by decide +kernel) rfl
theorem mw_393 : Cond.code yJ7_copyOf_1904c prog_22_method_119_code 2 (Option.some (ClassFile.FieldType.array (ClassFile.FieldType.object "java/lang/Object"))) ∈ WALL := mW 393 (by decide +kernel) rfl
theorem mw_394 : Cond.methodLink "java/util/Arrays" 86 (⟨"java/lang/Object", "getClass", "()Ljava/lang/Class;"⟩ : MethodName) ∈ WALL := mW 394 (by decide +kernel) rfl
theorem mw_395 : Cond.instanceMethod (⟨"java/lang/Object", "getClass", "()Ljava/lang/Class;"⟩ : MethodName) ∈ WALL := mW 395 (by decide +kernel) rfl
theorem mw_396 : Cond.sameMethod "java/lang/Object" "java/lang/Object" "getClass" "()Ljava/lang/Class;" ∈ WALL := mW 396 (by decide +kernel) rfl
theorem mw_397 : Cond.selects "GliderDay" (⟨"java/lang/Object", "getClass", "()Ljava/lang/Class;"⟩ : MethodName) (⟨"java/lang/Object", "getClass", "()Ljava/lang/Class;"⟩ : MethodName) ∈ WALL := mW 397 (by decide +kernel) rfl
theorem mw_398 : Cond.selects "GliderDay$Flight" (⟨"java/lang/Object", "getClass", "()Ljava/lang/Class;"⟩ : MethodName) (⟨"java/lang/Object", "getClass", "()Ljava/lang/Class;"⟩ : MethodName) ∈ WALL := mW 398 (by decide +kernel) rfl
theorem mw_399 : Cond.selects "GliderDay$Glider" (⟨"java/lang/Object", "getClass", "()Ljava/lang/Class;"⟩ : MethodName) (⟨"java/lang/Object", "getClass", "()Ljava/lang/Class;"⟩ : MethodName) ∈ WALL := mW 399 (by decide +kernel) rfl
theorem mw_400 : Cond.selects "GliderDay$Member" (⟨"java/lang/Object", "getClass", "()Ljava/lang/Class;"⟩ : MethodName) (⟨"java/lang/Object", "getClass", "()Ljava/lang/Class;"⟩ : MethodName) ∈ WALL := mW 400 (by decide +kernel) rfl
theorem mw_401 : Cond.selects "GliderDayModel" (⟨"java/lang/Object", "getClass", "()Ljava/lang/Class;"⟩ : MethodName) (⟨"java/lang/Object", "getClass", "()Ljava/lang/Class;"⟩ : MethodName) ∈ WALL := mW 401 (by decide +kernel) rfl
theorem mw_402 : Cond.selects "java/lang/IllegalArgumentException" (⟨"java/lang/Object", "getClass", "()Ljava/lang/Class;"⟩ : MethodName) (⟨"java/lang/Object", "getClass", "()Ljava/lang/Class;"⟩ : MethodName) ∈ WALL := mW 402 (by decide +kernel) rfl
theorem mw_403 : Cond.selects "java/lang/IllegalStateException" (⟨"java/lang/Object", "getClass", "()Ljava/lang/Class;"⟩ : MethodName) (⟨"java/lang/Object", "getClass", "()Ljava/lang/Class;"⟩ : MethodName) ∈ WALL := mW 403 (by decide +kernel) rfl
theorem mw_404 : Cond.selects "java/lang/IndexOutOfBoundsException" (⟨"java/lang/Object", "getClass", "()Ljava/lang/Class;"⟩ : MethodName) (⟨"java/lang/Object", "getClass", "()Ljava/lang/Class;"⟩ : MethodName) ∈ WALL := mW 404 (by decide +kernel) rfl
theorem mw_405 : Cond.selects "java/util/ArrayList" (⟨"java/lang/Object", "getClass", "()Ljava/lang/Class;"⟩ : MethodName) (⟨"java/lang/Object", "getClass", "()Ljava/lang/Class;"⟩ : MethodName) ∈ WALL := mW 405 (by decide +kernel) rfl
theorem mw_406 : Cond.native (⟨"java/lang/Object", "getClass", "()Ljava/lang/Class;"⟩ : MethodName) ∈ WALL := mW 406 (by decide +kernel) rfl
theorem mw_407 : Cond.methodLink "java/util/Arrays" 300 yJ7_copyOf_6403c ∈ WALL := mW 407 (by decide +kernel) rfl
theorem mw_408 : Cond.static yJ7_copyOf_6403c ∈ WALL := mW 408 (by decide +kernel) rfl
theorem mw_409 : Cond.code yJ7_copyOf_6403c prog_22_method_120_code 4 (Option.some (ClassFile.FieldType.array (ClassFile.FieldType.object "java/lang/Object"))) ∈ WALL := mW 409 (by decide +kernel) rfl
theorem mw_410 : Cond.classLink "java/util/Arrays" 110 "[Ljava/lang/Object;" ∈ WALL := mW 410 (by decide +kernel) rfl
theorem mw_412 : Cond.classLink "java/util/Arrays" 2 "java/lang/Object" ∈ WALL := mW 412 (by decide +kernel) rfl
theorem mw_413 : Cond.methodLink "java/util/Arrays" 304 yJ9_min_7cf53 ∈ WALL := mW 413 (by decide +kernel) rfl
theorem mw_414 : Cond.static yJ9_min_7cf53 ∈ WALL := mW 414 (by decide +kernel) rfl
theorem mw_415 : Cond.code yJ9_min_7cf53 prog_14_method_69_code 2 (Option.some ClassFile.FieldType.int) ∈ WALL := mW 415 (by decide +kernel) rfl
theorem mw_416 : Cond.methodLink "java/util/Arrays" 150 (⟨"java/lang/System", "arraycopy", "(Ljava/lang/Object;ILjava/lang/Object;II)V"⟩ : MethodName) ∈ WALL := mW 416 (by decide +kernel) rfl
theorem mw_417 : Cond.static (⟨"java/lang/System", "arraycopy", "(Ljava/lang/Object;ILjava/lang/Object;II)V"⟩ : MethodName) ∈ WALL := mW 417 (by decide +kernel) rfl
theorem mw_418 : Cond.native (⟨"java/lang/System", "arraycopy", "(Ljava/lang/Object;ILjava/lang/Object;II)V"⟩ : MethodName) ∈ WALL := mW 418 (by decide +kernel) rfl
theorem mw_419 : Cond.methodLink "java/util/ArrayList" 79 yJ9_max_7cf53 ∈ WALL := mW 419 (by decide +kernel) rfl
theorem mw_420 : Cond.classLink "java/util/ArrayList" 7 "java/lang/Object" ∈ WALL := mW 420 (by decide +kernel) rfl
theorem mw_421 : Cond.methodLink "GliderDayLaw" 91 yL_addGlider ∈ WALL := mW 421 (by decide +kernel) rfl
theorem mw_422 : Cond.static yL_addGlider ∈ WALL := mW 422 (by decide +kernel) rfl
theorem mw_423 : Cond.codeWith yL_addGlider method_4_code 6 (Option.some ClassFile.FieldType.int) [(0, 12, 15, 13), (0, 12, 19, 15)] ∈ WALL := mW 423 (by decide +kernel) rfl
theorem mw_424 : Cond.methodLink "GliderDayLaw" 17 yX3_addGlider ∈ WALL := mW 424 (by decide +kernel) rfl
theorem mw_425 : Cond.instanceMethod yX3_addGlider ∈ WALL := mW 425 (by decide +kernel) rfl
theorem mw_426 : Cond.selects "GliderDay" yX3_addGlider yX3_addGlider ∈ WALL := mW 426 (by decide +kernel) rfl
theorem mw_427 : Cond.code yX3_addGlider prog_1_method_3_code 5 (Option.some ClassFile.FieldType.int) ∈ WALL := mW 427 (by decide +kernel) rfl
theorem mw_430 : Cond.instantiable "GliderDay$Glider" 10 ∈ WALL := mW 430 (by decide +kernel) rfl
theorem mw_432 : Cond.instanceMethod yX1_init ∈ WALL := mW 432 (by decide +kernel) rfl
theorem mw_433 : Cond.code yX1_init prog_3_method_1_code 5 Option.none ∈ WALL := mW 433 (by decide +kernel) rfl
theorem mw_434 : Cond.methodLink "GliderDay$Glider" 3 (⟨"java/lang/Object", "<init>", "()V"⟩ : MethodName) ∈ WALL := mW 434 (by decide +kernel) rfl
theorem mw_435 : Cond.fieldLink "GliderDay$Glider" 9 "GliderDay$Glider" "number" "I" ∈ WALL := mW 435 (by decide +kernel) rfl
theorem mw_437 : Cond.fieldLink "GliderDay$Glider" 15 "GliderDay$Glider" "seats" "I" ∈ WALL := mW 437 (by decide +kernel) rfl
theorem mw_439 : Cond.fieldLink "GliderDay$Glider" 18 "GliderDay$Glider" "rate" "I" ∈ WALL := mW 439 (by decide +kernel) rfl
theorem mw_441 : Cond.fieldLink "GliderDay$Glider" 21 "GliderDay$Glider" "limit" "I" ∈ WALL := mW 441 (by decide +kernel) rfl
theorem mw_443 : Cond.fieldLink "GliderDay$Glider" 24 "GliderDay$Glider" "state" "I" ∈ WALL := mW 443 (by decide +kernel) rfl
theorem mw_450 : Cond.laysFinal "GliderDay$Glider" "GliderDay$Glider" "number" "I" ∈ WALL := mW 450 (by decide +kernel) rfl
theorem mw_452 : Cond.laysFinal "GliderDay$Glider" "GliderDay$Glider" "seats" "I" ∈ WALL := mW 452 (by decide +kernel) rfl
theorem mw_454 : Cond.laysFinal "GliderDay$Glider" "GliderDay$Glider" "rate" "I" ∈ WALL := mW 454 (by decide +kernel) rfl
theorem mw_456 : Cond.laysFinal "GliderDay$Glider" "GliderDay$Glider" "limit" "I" ∈ WALL := mW 456 (by decide +kernel) rfl
theorem mw_458 : Cond.lays "GliderDay$Glider" "GliderDay$Glider" "state" "I" ∈ WALL := mW 458 (by decide +kernel) rfl
theorem mw_460 : Cond.lays "GliderDay$Glider" "GliderDay$Glider" "isBarred" "Z" ∈ WALL := mW 460 (by decide +kernel) rfl
theorem mw_462 : Cond.lays "GliderDay$Glider" "GliderDay$Glider" "isCalled" "Z" ∈ WALL := mW 462 (by decide +kernel) rfl
theorem mw_464 : Cond.lays "GliderDay$Glider" "GliderDay$Glider" "landings" "I" ∈ WALL := mW 464 (by decide +kernel) rfl
theorem mw_466 : Cond.lays "GliderDay$Glider" "GliderDay$Glider" "minutes" "I" ∈ WALL := mW 466 (by decide +kernel) rfl
theorem mw_468 : Cond.lays "GliderDay$Glider" "GliderDay$Glider" "flight" "LGliderDay$Flight;" ∈ WALL := mW 468 (by decide +kernel) rfl
theorem mw_470 : Cond.superclass "GliderDay$Glider" "java/lang/Object" ∈ WALL := mW 470 (by decide +kernel) rfl
theorem mw_471 : Cond.methodLink "GliderDayLaw" 95 yL_setWind ∈ WALL := mW 471 (by decide +kernel) rfl
theorem mw_472 : Cond.static yL_setWind ∈ WALL := mW 472 (by decide +kernel) rfl
theorem mw_473 : Cond.codeWith yL_setWind method_5_code 4 (Option.some ClassFile.FieldType.int) [(0, 9, 12, 13)] ∈ WALL := mW 473 (by decide +kernel) rfl
theorem mw_474 : Cond.methodLink "GliderDayLaw" 21 yX3_setWind ∈ WALL := mW 474 (by decide +kernel) rfl
theorem mw_475 : Cond.instanceMethod yX3_setWind ∈ WALL := mW 475 (by decide +kernel) rfl
theorem mw_476 : Cond.selects "GliderDay" yX3_setWind yX3_setWind ∈ WALL := mW 476 (by decide +kernel) rfl
theorem mw_477 : Cond.code yX3_setWind prog_1_method_4_code 3 (Option.some ClassFile.FieldType.int) ∈ WALL := mW 477 (by decide +kernel) rfl
theorem mw_479 : Cond.methodLink "GliderDayLaw" 98 yL_setSunset ∈ WALL := mW 479 (by decide +kernel) rfl
theorem mw_480 : Cond.static yL_setSunset ∈ WALL := mW 480 (by decide +kernel) rfl
theorem mw_481 : Cond.codeWith yL_setSunset method_6_code 4 (Option.some ClassFile.FieldType.int) [(0, 9, 12, 13)] ∈ WALL := mW 481 (by decide +kernel) rfl
theorem mw_482 : Cond.methodLink "GliderDayLaw" 24 yX3_setSunset ∈ WALL := mW 482 (by decide +kernel) rfl
theorem mw_483 : Cond.instanceMethod yX3_setSunset ∈ WALL := mW 483 (by decide +kernel) rfl
theorem mw_484 : Cond.selects "GliderDay" yX3_setSunset yX3_setSunset ∈ WALL := mW 484 (by decide +kernel) rfl
theorem mw_485 : Cond.code yX3_setSunset prog_1_method_5_code 3 (Option.some ClassFile.FieldType.int) ∈ WALL := mW 485 (by decide +kernel) rfl
theorem mw_487 : Cond.methodLink "GliderDayLaw" 101 yL_setTugs ∈ WALL := mW 487 (by decide +kernel) rfl
theorem mw_488 : Cond.static yL_setTugs ∈ WALL := mW 488 (by decide +kernel) rfl
theorem mw_489 : Cond.codeWith yL_setTugs method_7_code 4 (Option.some ClassFile.FieldType.int) [(0, 9, 12, 13), (0, 9, 15, 15)] ∈ WALL := mW 489 (by decide +kernel) rfl
theorem mw_490 : Cond.methodLink "GliderDayLaw" 27 yX3_setTugs ∈ WALL := mW 490 (by decide +kernel) rfl
theorem mw_491 : Cond.instanceMethod yX3_setTugs ∈ WALL := mW 491 (by decide +kernel) rfl
theorem mw_492 : Cond.selects "GliderDay" yX3_setTugs yX3_setTugs ∈ WALL := mW 492 (by decide +kernel) rfl
theorem mw_493 : Cond.code yX3_setTugs prog_1_method_6_code 2 (Option.some ClassFile.FieldType.int) ∈ WALL := mW 493 (by decide +kernel) rfl
theorem mw_496 : Cond.methodLink "GliderDayLaw" 104 yL_bar ∈ WALL := mW 496 (by decide +kernel) rfl
theorem mw_497 : Cond.static yL_bar ∈ WALL := mW 497 (by decide +kernel) rfl
theorem mw_498 : Cond.codeWith yL_bar method_8_code 5 (Option.some ClassFile.FieldType.int) [(0, 17, 20, 34), (0, 17, 24, 15)] ∈ WALL := mW 498 (by decide +kernel) rfl
theorem mw_499 : Cond.classLink "GliderDayLaw" 34 "java/lang/IndexOutOfBoundsException" ∈ WALL := mW 499 (by decide +kernel) rfl
theorem mw_500 : Cond.methodLink "GliderDayLaw" 30 yX3_bar ∈ WALL := mW 500 (by decide +kernel) rfl
theorem mw_501 : Cond.instanceMethod yX3_bar ∈ WALL := mW 501 (by decide +kernel) rfl
theorem mw_502 : Cond.selects "GliderDay" yX3_bar yX3_bar ∈ WALL := mW 502 (by decide +kernel) rfl
theorem mw_503 : Cond.code yX3_bar prog_1_method_7_code 5 (Option.some ClassFile.FieldType.boolean) ∈ WALL := mW 503 (by decide +kernel) rfl
theorem mw_504 : Cond.methodLink "GliderDay" 106 yX3_gliderAt ∈ WALL := mW 504 (by decide +kernel) rfl
theorem mw_506 : Cond.instanceMethod yX3_gliderAt ∈ WALL := mW 506 (by decide +kernel) rfl
theorem mw_507 : Cond.code yX3_gliderAt prog_1_method_34_code 2 (Option.some (ClassFile.FieldType.object "GliderDay$Glider")) ∈ WALL := mW 507 (by decide +kernel) rfl
theorem mw_508 : Cond.classLink "GliderDay" 135 "java/lang/IndexOutOfBoundsException" ∈ WALL := mW 508 (by decide +kernel) rfl
theorem mw_509 : Cond.instantiable "java/lang/IndexOutOfBoundsException" 6 ∈ WALL := mW 509 (by decide +kernel) rfl
theorem mw_511 : Cond.selects "java/lang/IndexOutOfBoundsException" (⟨"java/lang/Throwable", "fillInStackTrace", "(I)Ljava/lang/Throwable;"⟩ : MethodName) (⟨"java/lang/Throwable", "fillInStackTrace", "(I)Ljava/lang/Throwable;"⟩ : MethodName) ∈ WALL := mW 511 (by decide +kernel) rfl
theorem mw_512 : Cond.lays "java/lang/IndexOutOfBoundsException" "java/lang/Throwable" "cause" "Ljava/lang/Throwable;" ∈ WALL := mW 512 (by decide +kernel) rfl
theorem mw_513 : Cond.lays "java/lang/IndexOutOfBoundsException" "java/lang/Throwable" "stackTrace" "[Ljava/lang/StackTraceElement;" ∈ WALL := mW 513 (by decide +kernel) rfl
theorem mw_514 : Cond.lays "java/lang/IndexOutOfBoundsException" "java/lang/Throwable" "suppressedExceptions" "Ljava/util/List;" ∈ WALL := mW 514 (by decide +kernel) rfl
theorem mw_515 : Cond.lays "java/lang/IndexOutOfBoundsException" "java/lang/Throwable" "detailMessage" "Ljava/lang/String;" ∈ WALL := mW 515 (by decide +kernel) rfl
theorem mw_516 : Cond.lays "java/lang/IndexOutOfBoundsException" "java/lang/Throwable" "backtrace" "Ljava/lang/Object;" ∈ WALL := mW 516 (by decide +kernel) rfl
theorem mw_518 : Cond.methodLink "GliderDay" 139 (⟨"java/lang/IndexOutOfBoundsException", "<init>", "(Ljava/lang/String;)V"⟩ : MethodName) ∈ WALL := mW 518 (by decide +kernel) rfl
theorem mw_519 : Cond.instanceMethod (⟨"java/lang/IndexOutOfBoundsException", "<init>", "(Ljava/lang/String;)V"⟩ : MethodName) ∈ WALL := mW 519 (by decide +kernel) rfl
theorem mw_520 : Cond.code (⟨"java/lang/IndexOutOfBoundsException", "<init>", "(Ljava/lang/String;)V"⟩ : MethodName) prog_12_method_2_code 2 Option.none ∈ WALL := mW 520 (by decide +kernel) rfl
theorem mw_521 : Cond.methodLink "java/lang/IndexOutOfBoundsException" 7 (⟨"java/lang/RuntimeException", "<init>", "(Ljava/lang/String;)V"⟩ : MethodName) ∈ WALL := mW 521 (by decide +kernel) rfl
theorem mw_522 : Cond.lays "java/lang/IndexOutOfBoundsException" "java/lang/Throwable" "depth" "I" ∈ WALL := mW 522 (by decide +kernel) rfl
theorem mw_523 : Cond.superclass "java/lang/IndexOutOfBoundsException" "java/lang/RuntimeException" ∈ WALL := mW 523 (by decide +kernel) rfl
theorem mw_525 : Cond.methodLink "GliderDayLaw" 108 yL_promote ∈ WALL := mW 525 (by decide +kernel) rfl
theorem mw_526 : Cond.static yL_promote ∈ WALL := mW 526 (by decide +kernel) rfl
theorem mw_527 : Cond.codeWith yL_promote method_9_code 4 (Option.some ClassFile.FieldType.int) [(0, 9, 12, 34), (0, 9, 15, 15)] ∈ WALL := mW 527 (by decide +kernel) rfl
theorem mw_528 : Cond.methodLink "GliderDayLaw" 36 yX3_promote ∈ WALL := mW 528 (by decide +kernel) rfl
theorem mw_529 : Cond.instanceMethod yX3_promote ∈ WALL := mW 529 (by decide +kernel) rfl
theorem mw_530 : Cond.selects "GliderDay" yX3_promote yX3_promote ∈ WALL := mW 530 (by decide +kernel) rfl
theorem mw_531 : Cond.code yX3_promote prog_1_method_8_code 3 (Option.some ClassFile.FieldType.int) ∈ WALL := mW 531 (by decide +kernel) rfl
theorem mw_532 : Cond.methodLink "GliderDay" 119 yX3_memberAt ∈ WALL := mW 532 (by decide +kernel) rfl
theorem mw_534 : Cond.instanceMethod yX3_memberAt ∈ WALL := mW 534 (by decide +kernel) rfl
theorem mw_535 : Cond.code yX3_memberAt prog_1_method_33_code 2 (Option.some (ClassFile.FieldType.object "GliderDay$Member")) ∈ WALL := mW 535 (by decide +kernel) rfl
theorem mw_537 : Cond.methodLink "GliderDay" 126 yX3_hasEarnedNextLevel ∈ WALL := mW 537 (by decide +kernel) rfl
theorem mw_538 : Cond.static yX3_hasEarnedNextLevel ∈ WALL := mW 538 (by decide +kernel) rfl
theorem mw_539 : Cond.code yX3_hasEarnedNextLevel prog_1_method_46_code 1 (Option.some ClassFile.FieldType.boolean) ∈ WALL := mW 539 (by decide +kernel) rfl
theorem mw_541 : Cond.methodLink "GliderDayLaw" 111 yL_member ∈ WALL := mW 541 (by decide +kernel) rfl
theorem mw_542 : Cond.static yL_member ∈ WALL := mW 542 (by decide +kernel) rfl
theorem mw_543 : Cond.codeWith yL_member method_10_code 5 (Option.some ClassFile.FieldType.int) [(0, 10, 13, 34)] ∈ WALL := mW 543 (by decide +kernel) rfl
theorem mw_544 : Cond.methodLink "GliderDayLaw" 39 yX3_member ∈ WALL := mW 544 (by decide +kernel) rfl
theorem mw_545 : Cond.instanceMethod yX3_member ∈ WALL := mW 545 (by decide +kernel) rfl
theorem mw_546 : Cond.selects "GliderDay" yX3_member yX3_member ∈ WALL := mW 546 (by decide +kernel) rfl
theorem mw_547 : Cond.code yX3_member prog_1_method_9_code 4 (Option.some ClassFile.FieldType.int) ∈ WALL := mW 547 (by decide +kernel) rfl
theorem mw_549 : Cond.methodLink "GliderDayLaw" 115 yL_glider ∈ WALL := mW 549 (by decide +kernel) rfl
theorem mw_550 : Cond.static yL_glider ∈ WALL := mW 550 (by decide +kernel) rfl
theorem mw_551 : Cond.codeWith yL_glider method_11_code 5 (Option.some ClassFile.FieldType.int) [(0, 10, 13, 34)] ∈ WALL := mW 551 (by decide +kernel) rfl
theorem mw_552 : Cond.methodLink "GliderDayLaw" 43 yX3_glider ∈ WALL := mW 552 (by decide +kernel) rfl
theorem mw_553 : Cond.instanceMethod yX3_glider ∈ WALL := mW 553 (by decide +kernel) rfl
theorem mw_554 : Cond.selects "GliderDay" yX3_glider yX3_glider ∈ WALL := mW 554 (by decide +kernel) rfl
theorem mw_555 : Cond.code yX3_glider prog_1_method_10_code 4 (Option.some ClassFile.FieldType.int) ∈ WALL := mW 555 (by decide +kernel) rfl
theorem mw_556 : Cond.methodLink "GliderDayLaw" 118 yL_ask ∈ WALL := mW 556 (by decide +kernel) rfl
theorem mw_557 : Cond.static yL_ask ∈ WALL := mW 557 (by decide +kernel) rfl
theorem mw_558 : Cond.codeWith yL_ask method_12_code 8 (Option.some ClassFile.FieldType.int) [(0, 16, 19, 34), (0, 16, 23, 13), (0, 16, 27, 15)] ∈ WALL := mW 558 (by decide +kernel) rfl
theorem mw_559 : Cond.methodLink "GliderDayLaw" 46 yX3_ask ∈ WALL := mW 559 (by decide +kernel) rfl
theorem mw_560 : Cond.instanceMethod yX3_ask ∈ WALL := mW 560 (by decide +kernel) rfl
theorem mw_561 : Cond.selects "GliderDay" yX3_ask yX3_ask ∈ WALL := mW 561 (by decide +kernel) rfl
theorem mw_562 : Cond.code yX3_ask prog_1_method_11_code 10 (Option.some ClassFile.FieldType.int) ∈ WALL := mW 562 (by decide +kernel) rfl
theorem mw_563 : Cond.methodLink "GliderDay" 148 yX3_isHeight ∈ WALL := mW 563 (by decide +kernel) rfl
theorem mw_564 : Cond.static yX3_isHeight ∈ WALL := mW 564 (by decide +kernel) rfl
theorem mw_565 : Cond.code yX3_isHeight prog_1_method_32_code 1 (Option.some ClassFile.FieldType.boolean) ∈ WALL := mW 565 (by decide +kernel) rfl
theorem mw_568 : Cond.instantiable "GliderDay$Flight" 11 ∈ WALL := mW 568 (by decide +kernel) rfl
theorem mw_570 : Cond.instanceMethod yX0_init ∈ WALL := mW 570 (by decide +kernel) rfl
theorem mw_571 : Cond.code yX0_init prog_2_method_1_code 5 Option.none ∈ WALL := mW 571 (by decide +kernel) rfl
theorem mw_572 : Cond.methodLink "GliderDay$Flight" 3 (⟨"java/lang/Object", "<init>", "()V"⟩ : MethodName) ∈ WALL := mW 572 (by decide +kernel) rfl
theorem mw_573 : Cond.fieldLink "GliderDay$Flight" 9 "GliderDay$Flight" "number" "I" ∈ WALL := mW 573 (by decide +kernel) rfl
theorem mw_575 : Cond.fieldLink "GliderDay$Flight" 15 "GliderDay$Flight" "member" "LGliderDay$Member;" ∈ WALL := mW 575 (by decide +kernel) rfl
theorem mw_577 : Cond.fieldLink "GliderDay$Flight" 19 "GliderDay$Flight" "second" "LGliderDay$Member;" ∈ WALL := mW 577 (by decide +kernel) rfl
theorem mw_579 : Cond.fieldLink "GliderDay$Flight" 22 "GliderDay$Flight" "glider" "LGliderDay$Glider;" ∈ WALL := mW 579 (by decide +kernel) rfl
theorem mw_583 : Cond.fieldLink "GliderDay$Flight" 26 "GliderDay$Flight" "state" "I" ∈ WALL := mW 583 (by decide +kernel) rfl
theorem mw_586 : Cond.fieldLink "GliderDay$Flight" 29 "GliderDay$Flight" "begin" "I" ∈ WALL := mW 586 (by decide +kernel) rfl
theorem mw_588 : Cond.fieldLink "GliderDay$Flight" 32 "GliderDay$Flight" "landing" "I" ∈ WALL := mW 588 (by decide +kernel) rfl
theorem mw_591 : Cond.laysFinal "GliderDay$Flight" "GliderDay$Flight" "number" "I" ∈ WALL := mW 591 (by decide +kernel) rfl
theorem mw_593 : Cond.laysFinal "GliderDay$Flight" "GliderDay$Flight" "member" "LGliderDay$Member;" ∈ WALL := mW 593 (by decide +kernel) rfl
theorem mw_595 : Cond.laysFinal "GliderDay$Flight" "GliderDay$Flight" "second" "LGliderDay$Member;" ∈ WALL := mW 595 (by decide +kernel) rfl
theorem mw_597 : Cond.laysFinal "GliderDay$Flight" "GliderDay$Flight" "glider" "LGliderDay$Glider;" ∈ WALL := mW 597 (by decide +kernel) rfl
theorem mw_599 : Cond.lays "GliderDay$Flight" "GliderDay$Flight" "height" "I" ∈ WALL := mW 599 (by decide +kernel) rfl
theorem mw_601 : Cond.lays "GliderDay$Flight" "GliderDay$Flight" "minutes" "I" ∈ WALL := mW 601 (by decide +kernel) rfl
theorem mw_603 : Cond.lays "GliderDay$Flight" "GliderDay$Flight" "state" "I" ∈ WALL := mW 603 (by decide +kernel) rfl
theorem mw_605 : Cond.lays "GliderDay$Flight" "GliderDay$Flight" "askedAt" "I" ∈ WALL := mW 605 (by decide +kernel) rfl
theorem mw_607 : Cond.lays "GliderDay$Flight" "GliderDay$Flight" "begin" "I" ∈ WALL := mW 607 (by decide +kernel) rfl
theorem mw_609 : Cond.lays "GliderDay$Flight" "GliderDay$Flight" "landing" "I" ∈ WALL := mW 609 (by decide +kernel) rfl
theorem mw_611 : Cond.lays "GliderDay$Flight" "GliderDay$Flight" "cost" "I" ∈ WALL := mW 611 (by decide +kernel) rfl
theorem mw_613 : Cond.superclass "GliderDay$Flight" "java/lang/Object" ∈ WALL := mW 613 (by decide +kernel) rfl
theorem mw_614 : Cond.methodLink "GliderDayLaw" 122 yL_drop ∈ WALL := mW 614 (by decide +kernel) rfl
theorem mw_615 : Cond.static yL_drop ∈ WALL := mW 615 (by decide +kernel) rfl
theorem mw_616 : Cond.codeWith yL_drop method_13_code 4 (Option.some ClassFile.FieldType.int) [(0, 9, 12, 34), (0, 9, 15, 15)] ∈ WALL := mW 616 (by decide +kernel) rfl
theorem mw_617 : Cond.methodLink "GliderDayLaw" 50 yX3_drop ∈ WALL := mW 617 (by decide +kernel) rfl
theorem mw_618 : Cond.instanceMethod yX3_drop ∈ WALL := mW 618 (by decide +kernel) rfl
theorem mw_619 : Cond.selects "GliderDay" yX3_drop yX3_drop ∈ WALL := mW 619 (by decide +kernel) rfl
theorem mw_620 : Cond.code yX3_drop prog_1_method_12_code 4 (Option.some ClassFile.FieldType.int) ∈ WALL := mW 620 (by decide +kernel) rfl
theorem mw_621 : Cond.methodLink "GliderDay" 173 yX3_listedFlightAt ∈ WALL := mW 621 (by decide +kernel) rfl
theorem mw_623 : Cond.instanceMethod yX3_listedFlightAt ∈ WALL := mW 623 (by decide +kernel) rfl
theorem mw_624 : Cond.code yX3_listedFlightAt prog_1_method_36_code 3 (Option.some (ClassFile.FieldType.object "GliderDay$Flight")) ∈ WALL := mW 624 (by decide +kernel) rfl
theorem mw_625 : Cond.methodLink "GliderDay" 213 yX3_flightAt ∈ WALL := mW 625 (by decide +kernel) rfl
theorem mw_627 : Cond.instanceMethod yX3_flightAt ∈ WALL := mW 627 (by decide +kernel) rfl
theorem mw_628 : Cond.code yX3_flightAt prog_1_method_35_code 2 (Option.some (ClassFile.FieldType.object "GliderDay$Flight")) ∈ WALL := mW 628 (by decide +kernel) rfl
theorem mw_631 : Cond.methodLink "GliderDay" 177 yX3_placeOf ∈ WALL := mW 631 (by decide +kernel) rfl
theorem mw_633 : Cond.instanceMethod yX3_placeOf ∈ WALL := mW 633 (by decide +kernel) rfl
theorem mw_634 : Cond.code yX3_placeOf prog_1_method_37_code 3 (Option.some ClassFile.FieldType.int) ∈ WALL := mW 634 (by decide +kernel) rfl
theorem mw_635 : Cond.methodLink "GliderDay" 181 yX3_takeOffList ∈ WALL := mW 635 (by decide +kernel) rfl
theorem mw_637 : Cond.instanceMethod yX3_takeOffList ∈ WALL := mW 637 (by decide +kernel) rfl
theorem mw_638 : Cond.code yX3_takeOffList prog_1_method_38_code 2 Option.none ∈ WALL := mW 638 (by decide +kernel) rfl
theorem mw_639 : Cond.methodLink "GliderDay" 264 yJx4a65c_remove_915e3 ∈ WALL := mW 639 (by decide +kernel) rfl
theorem mw_640 : Cond.instanceMethod yJx4a65c_remove_915e3 ∈ WALL := mW 640 (by decide +kernel) rfl
theorem mw_641 : Cond.selects "java/util/ArrayList" yJx4a65c_remove_915e3 yJx4a65c_remove_915e3 ∈ WALL := mW 641 (by decide +kernel) rfl
theorem mw_642 : Cond.code yJx4a65c_remove_915e3 prog_21_method_29_code 4 (Option.some (ClassFile.FieldType.object "java/lang/Object")) ∈ WALL := mW 642 (by decide +kernel) rfl
theorem mw_643 : Cond.methodLink "java/util/ArrayList" 144 yJx4a65c_fastRemove_b59b0 ∈ WALL := mW 643 (by decide +kernel) rfl
theorem mw_645 : Cond.instanceMethod yJx4a65c_fastRemove_b59b0 ∈ WALL := mW 645 (by decide +kernel) rfl
theorem mw_646 : Cond.code yJx4a65c_fastRemove_b59b0 prog_21_method_39_code 4 Option.none ∈ WALL := mW 646 (by decide +kernel) rfl
theorem mw_647 : Cond.methodLink "java/util/ArrayList" 112 (⟨"java/lang/System", "arraycopy", "(Ljava/lang/Object;ILjava/lang/Object;II)V"⟩ : MethodName) ∈ WALL := mW 647 (by decide +kernel) rfl
theorem mw_648 : Cond.methodLink "GliderDayLaw" 125 yL_list ∈ WALL := mW 648 (by decide +kernel) rfl
theorem mw_649 : Cond.static yL_list ∈ WALL := mW 649 (by decide +kernel) rfl
theorem mw_650 : Cond.codeWith yL_list method_14_code 4 (Option.some ClassFile.FieldType.int) [(0, 9, 12, 34)] ∈ WALL := mW 650 (by decide +kernel) rfl
theorem mw_651 : Cond.methodLink "GliderDayLaw" 53 yX3_list ∈ WALL := mW 651 (by decide +kernel) rfl
theorem mw_652 : Cond.instanceMethod yX3_list ∈ WALL := mW 652 (by decide +kernel) rfl
theorem mw_653 : Cond.selects "GliderDay" yX3_list yX3_list ∈ WALL := mW 653 (by decide +kernel) rfl
theorem mw_654 : Cond.code yX3_list prog_1_method_13_code 2 (Option.some ClassFile.FieldType.int) ∈ WALL := mW 654 (by decide +kernel) rfl
theorem mw_656 : Cond.methodLink "GliderDayLaw" 128 yL_reason ∈ WALL := mW 656 (by decide +kernel) rfl
theorem mw_657 : Cond.static yL_reason ∈ WALL := mW 657 (by decide +kernel) rfl
theorem mw_658 : Cond.codeWith yL_reason method_15_code 4 (Option.some ClassFile.FieldType.int) [(0, 9, 12, 34), (0, 9, 15, 15)] ∈ WALL := mW 658 (by decide +kernel) rfl
theorem mw_659 : Cond.methodLink "GliderDayLaw" 56 yX3_reason ∈ WALL := mW 659 (by decide +kernel) rfl
theorem mw_660 : Cond.instanceMethod yX3_reason ∈ WALL := mW 660 (by decide +kernel) rfl
theorem mw_661 : Cond.selects "GliderDay" yX3_reason yX3_reason ∈ WALL := mW 661 (by decide +kernel) rfl
theorem mw_662 : Cond.code yX3_reason prog_1_method_14_code 2 (Option.some ClassFile.FieldType.int) ∈ WALL := mW 662 (by decide +kernel) rfl
theorem mw_663 : Cond.methodLink "GliderDay" 192 yX3_reasonAgainst ∈ WALL := mW 663 (by decide +kernel) rfl
theorem mw_665 : Cond.instanceMethod yX3_reasonAgainst ∈ WALL := mW 665 (by decide +kernel) rfl
theorem mw_666 : Cond.code yX3_reasonAgainst prog_1_method_53_code 3 (Option.some ClassFile.FieldType.int) ∈ WALL := mW 666 (by decide +kernel) rfl
theorem mw_667 : Cond.methodLink "GliderDay" 305 yX3_hasFlyingMember ∈ WALL := mW 667 (by decide +kernel) rfl
theorem mw_668 : Cond.static yX3_hasFlyingMember ∈ WALL := mW 668 (by decide +kernel) rfl
theorem mw_669 : Cond.code yX3_hasFlyingMember prog_1_method_50_code 1 (Option.some ClassFile.FieldType.boolean) ∈ WALL := mW 669 (by decide +kernel) rfl
theorem mw_670 : Cond.methodLink "GliderDay" 311 yX3_needsTeacher ∈ WALL := mW 670 (by decide +kernel) rfl
theorem mw_671 : Cond.static yX3_needsTeacher ∈ WALL := mW 671 (by decide +kernel) rfl
theorem mw_672 : Cond.code yX3_needsTeacher prog_1_method_48_code 1 (Option.some ClassFile.FieldType.boolean) ∈ WALL := mW 672 (by decide +kernel) rfl
theorem mw_673 : Cond.methodLink "GliderDay" 295 yX3_hasTeacher ∈ WALL := mW 673 (by decide +kernel) rfl
theorem mw_674 : Cond.static yX3_hasTeacher ∈ WALL := mW 674 (by decide +kernel) rfl
theorem mw_675 : Cond.code yX3_hasTeacher prog_1_method_47_code 1 (Option.some ClassFile.FieldType.boolean) ∈ WALL := mW 675 (by decide +kernel) rfl
theorem mw_676 : Cond.methodLink "GliderDay" 314 yX3_isTooWindyFor ∈ WALL := mW 676 (by decide +kernel) rfl
theorem mw_678 : Cond.instanceMethod yX3_isTooWindyFor ∈ WALL := mW 678 (by decide +kernel) rfl
theorem mw_679 : Cond.code yX3_isTooWindyFor prog_1_method_51_code 3 (Option.some ClassFile.FieldType.boolean) ∈ WALL := mW 679 (by decide +kernel) rfl
theorem mw_680 : Cond.methodLink "GliderDay" 302 yX3_windLimitOf ∈ WALL := mW 680 (by decide +kernel) rfl
theorem mw_681 : Cond.static yX3_windLimitOf ∈ WALL := mW 681 (by decide +kernel) rfl
theorem mw_682 : Cond.code yX3_windLimitOf prog_1_method_49_code 1 (Option.some ClassFile.FieldType.int) ∈ WALL := mW 682 (by decide +kernel) rfl
theorem mw_683 : Cond.methodLink "GliderDay" 317 yX3_hasNothingToLaunch ∈ WALL := mW 683 (by decide +kernel) rfl
theorem mw_685 : Cond.instanceMethod yX3_hasNothingToLaunch ∈ WALL := mW 685 (by decide +kernel) rfl
theorem mw_686 : Cond.code yX3_hasNothingToLaunch prog_1_method_52_code 2 (Option.some ClassFile.FieldType.boolean) ∈ WALL := mW 686 (by decide +kernel) rfl
theorem mw_687 : Cond.methodLink "GliderDay" 320 yX3_isBusy ∈ WALL := mW 687 (by decide +kernel) rfl
theorem mw_688 : Cond.methodLink "GliderDayLaw" 131 yL_call ∈ WALL := mW 688 (by decide +kernel) rfl
theorem mw_689 : Cond.static yL_call ∈ WALL := mW 689 (by decide +kernel) rfl
theorem mw_690 : Cond.codeWith yL_call method_16_code 4 (Option.some ClassFile.FieldType.int) [(0, 9, 12, 34), (0, 9, 15, 15)] ∈ WALL := mW 690 (by decide +kernel) rfl
theorem mw_691 : Cond.methodLink "GliderDayLaw" 59 yX3_call ∈ WALL := mW 691 (by decide +kernel) rfl
theorem mw_692 : Cond.instanceMethod yX3_call ∈ WALL := mW 692 (by decide +kernel) rfl
theorem mw_693 : Cond.selects "GliderDay" yX3_call yX3_call ∈ WALL := mW 693 (by decide +kernel) rfl
theorem mw_694 : Cond.code yX3_call prog_1_method_15_code 4 (Option.some ClassFile.FieldType.int) ∈ WALL := mW 694 (by decide +kernel) rfl
theorem mw_696 : Cond.methodLink "GliderDayLaw" 134 yL_tick ∈ WALL := mW 696 (by decide +kernel) rfl
theorem mw_697 : Cond.static yL_tick ∈ WALL := mW 697 (by decide +kernel) rfl
theorem mw_698 : Cond.codeWith yL_tick method_17_code 4 (Option.some ClassFile.FieldType.int) [(0, 9, 12, 13)] ∈ WALL := mW 698 (by decide +kernel) rfl
theorem mw_699 : Cond.methodLink "GliderDayLaw" 62 yX3_tick ∈ WALL := mW 699 (by decide +kernel) rfl
theorem mw_700 : Cond.instanceMethod yX3_tick ∈ WALL := mW 700 (by decide +kernel) rfl
theorem mw_701 : Cond.selects "GliderDay" yX3_tick yX3_tick ∈ WALL := mW 701 (by decide +kernel) rfl
theorem mw_702 : Cond.code yX3_tick prog_1_method_16_code 4 (Option.some ClassFile.FieldType.int) ∈ WALL := mW 702 (by decide +kernel) rfl
theorem mw_704 : Cond.methodLink "GliderDay" 209 yX3_passMinute ∈ WALL := mW 704 (by decide +kernel) rfl
theorem mw_706 : Cond.instanceMethod yX3_passMinute ∈ WALL := mW 706 (by decide +kernel) rfl
theorem mw_707 : Cond.code yX3_passMinute prog_1_method_54_code 1 (Option.some ClassFile.FieldType.boolean) ∈ WALL := mW 707 (by decide +kernel) rfl
theorem mw_708 : Cond.methodLink "GliderDay" 323 yX3_freeCables ∈ WALL := mW 708 (by decide +kernel) rfl
theorem mw_710 : Cond.instanceMethod yX3_freeCables ∈ WALL := mW 710 (by decide +kernel) rfl
theorem mw_711 : Cond.code yX3_freeCables prog_1_method_55_code 1 Option.none ∈ WALL := mW 711 (by decide +kernel) rfl
theorem mw_712 : Cond.methodLink "GliderDay" 326 yX3_freeDueTugs ∈ WALL := mW 712 (by decide +kernel) rfl
theorem mw_714 : Cond.instanceMethod yX3_freeDueTugs ∈ WALL := mW 714 (by decide +kernel) rfl
theorem mw_715 : Cond.code yX3_freeDueTugs prog_1_method_56_code 2 Option.none ∈ WALL := mW 715 (by decide +kernel) rfl
theorem mw_716 : Cond.methodLink "GliderDay" 329 yX3_beginToWait ∈ WALL := mW 716 (by decide +kernel) rfl
theorem mw_718 : Cond.instanceMethod yX3_beginToWait ∈ WALL := mW 718 (by decide +kernel) rfl
theorem mw_719 : Cond.code yX3_beginToWait prog_1_method_57_code 3 Option.none ∈ WALL := mW 719 (by decide +kernel) rfl
theorem mw_720 : Cond.methodLink "GliderDay" 338 yX3_mustLand ∈ WALL := mW 720 (by decide +kernel) rfl
theorem mw_722 : Cond.instanceMethod yX3_mustLand ∈ WALL := mW 722 (by decide +kernel) rfl
theorem mw_723 : Cond.code yX3_mustLand prog_1_method_58_code 3 (Option.some ClassFile.FieldType.boolean) ∈ WALL := mW 723 (by decide +kernel) rfl
theorem mw_724 : Cond.methodLink "GliderDay" 332 yX3_landFirstWaiting ∈ WALL := mW 724 (by decide +kernel) rfl
theorem mw_726 : Cond.instanceMethod yX3_landFirstWaiting ∈ WALL := mW 726 (by decide +kernel) rfl
theorem mw_727 : Cond.code yX3_landFirstWaiting prog_1_method_59_code 3 Option.none ∈ WALL := mW 727 (by decide +kernel) rfl
theorem mw_728 : Cond.methodLink "GliderDay" 342 yJx4a65c_isEmpty_aae02 ∈ WALL := mW 728 (by decide +kernel) rfl
theorem mw_729 : Cond.instanceMethod yJx4a65c_isEmpty_aae02 ∈ WALL := mW 729 (by decide +kernel) rfl
theorem mw_730 : Cond.selects "java/util/ArrayList" yJx4a65c_isEmpty_aae02 yJx4a65c_isEmpty_aae02 ∈ WALL := mW 730 (by decide +kernel) rfl
theorem mw_731 : Cond.code yJx4a65c_isEmpty_aae02 prog_21_method_9_code 1 (Option.some ClassFile.FieldType.boolean) ∈ WALL := mW 731 (by decide +kernel) rfl
theorem mw_732 : Cond.methodLink "GliderDay" 345 yX3_land ∈ WALL := mW 732 (by decide +kernel) rfl
theorem mw_734 : Cond.instanceMethod yX3_land ∈ WALL := mW 734 (by decide +kernel) rfl
theorem mw_735 : Cond.code yX3_land prog_1_method_60_code 4 Option.none ∈ WALL := mW 735 (by decide +kernel) rfl
theorem mw_736 : Cond.methodLink "GliderDay" 349 yX3_launchPrice ∈ WALL := mW 736 (by decide +kernel) rfl
theorem mw_737 : Cond.static yX3_launchPrice ∈ WALL := mW 737 (by decide +kernel) rfl
theorem mw_738 : Cond.code yX3_launchPrice prog_1_method_61_code 1 (Option.some ClassFile.FieldType.int) ∈ WALL := mW 738 (by decide +kernel) rfl
theorem mw_739 : Cond.methodLink "GliderDay" 355 yJ9_min_7cf53 ∈ WALL := mW 739 (by decide +kernel) rfl
theorem mw_740 : Cond.methodLink "GliderDay" 361 yX3_writeDown ∈ WALL := mW 740 (by decide +kernel) rfl
theorem mw_741 : Cond.static yX3_writeDown ∈ WALL := mW 741 (by decide +kernel) rfl
theorem mw_742 : Cond.code yX3_writeDown prog_1_method_62_code 4 Option.none ∈ WALL := mW 742 (by decide +kernel) rfl
theorem mw_743 : Cond.methodLink "GliderDay" 365 yX3_bringDown ∈ WALL := mW 743 (by decide +kernel) rfl
theorem mw_744 : Cond.static yX3_bringDown ∈ WALL := mW 744 (by decide +kernel) rfl
theorem mw_745 : Cond.code yX3_bringDown prog_1_method_63_code 2 Option.none ∈ WALL := mW 745 (by decide +kernel) rfl
theorem mw_746 : Cond.methodLink "GliderDay" 335 yX3_startFirstThatCan ∈ WALL := mW 746 (by decide +kernel) rfl
theorem mw_748 : Cond.instanceMethod yX3_startFirstThatCan ∈ WALL := mW 748 (by decide +kernel) rfl
theorem mw_749 : Cond.code yX3_startFirstThatCan prog_1_method_64_code 3 (Option.some ClassFile.FieldType.boolean) ∈ WALL := mW 749 (by decide +kernel) rfl
theorem mw_750 : Cond.methodLink "GliderDay" 369 yX3_start ∈ WALL := mW 750 (by decide +kernel) rfl
theorem mw_752 : Cond.instanceMethod yX3_start ∈ WALL := mW 752 (by decide +kernel) rfl
theorem mw_753 : Cond.code yX3_start prog_1_method_65_code 2 Option.none ∈ WALL := mW 753 (by decide +kernel) rfl
theorem mw_754 : Cond.methodLink "GliderDay" 373 yX3_takeCable ∈ WALL := mW 754 (by decide +kernel) rfl
theorem mw_756 : Cond.instanceMethod yX3_takeCable ∈ WALL := mW 756 (by decide +kernel) rfl
theorem mw_757 : Cond.code yX3_takeCable prog_1_method_66_code 1 Option.none ∈ WALL := mW 757 (by decide +kernel) rfl
theorem mw_758 : Cond.methodLink "GliderDay" 376 yX3_takeTug ∈ WALL := mW 758 (by decide +kernel) rfl
theorem mw_760 : Cond.instanceMethod yX3_takeTug ∈ WALL := mW 760 (by decide +kernel) rfl
theorem mw_761 : Cond.code yX3_takeTug prog_1_method_67_code 3 Option.none ∈ WALL := mW 761 (by decide +kernel) rfl
theorem mw_762 : Cond.methodLink "GliderDayLaw" 141 yL_flight ∈ WALL := mW 762 (by decide +kernel) rfl
theorem mw_763 : Cond.static yL_flight ∈ WALL := mW 763 (by decide +kernel) rfl
theorem mw_764 : Cond.codeWith yL_flight method_18_code 5 (Option.some ClassFile.FieldType.int) [(0, 10, 13, 34)] ∈ WALL := mW 764 (by decide +kernel) rfl
theorem mw_765 : Cond.methodLink "GliderDayLaw" 65 yX3_flight ∈ WALL := mW 765 (by decide +kernel) rfl
theorem mw_766 : Cond.instanceMethod yX3_flight ∈ WALL := mW 766 (by decide +kernel) rfl
theorem mw_767 : Cond.selects "GliderDay" yX3_flight yX3_flight ∈ WALL := mW 767 (by decide +kernel) rfl
theorem mw_768 : Cond.code yX3_flight prog_1_method_18_code 4 (Option.some ClassFile.FieldType.int) ∈ WALL := mW 768 (by decide +kernel) rfl
theorem mw_769 : Cond.methodLink "GliderDayLaw" 144 yL_count ∈ WALL := mW 769 (by decide +kernel) rfl
theorem mw_770 : Cond.static yL_count ∈ WALL := mW 770 (by decide +kernel) rfl
theorem mw_771 : Cond.codeWith yL_count method_19_code 4 (Option.some ClassFile.FieldType.int) [(0, 9, 12, 34)] ∈ WALL := mW 771 (by decide +kernel) rfl
theorem mw_772 : Cond.methodLink "GliderDayLaw" 68 yX3_count ∈ WALL := mW 772 (by decide +kernel) rfl
theorem mw_773 : Cond.instanceMethod yX3_count ∈ WALL := mW 773 (by decide +kernel) rfl
theorem mw_774 : Cond.selects "GliderDay" yX3_count yX3_count ∈ WALL := mW 774 (by decide +kernel) rfl
theorem mw_775 : Cond.code yX3_count prog_1_method_19_code 2 (Option.some ClassFile.FieldType.int) ∈ WALL := mW 775 (by decide +kernel) rfl
theorem mw_777 : Cond.methodLink "GliderDayLaw" 152 yL_bill ∈ WALL := mW 777 (by decide +kernel) rfl
theorem mw_778 : Cond.static yL_bill ∈ WALL := mW 778 (by decide +kernel) rfl
theorem mw_779 : Cond.codeWith yL_bill method_20_code 4 (Option.some ClassFile.FieldType.int) [(0, 9, 12, 34)] ∈ WALL := mW 779 (by decide +kernel) rfl
theorem mw_780 : Cond.methodLink "GliderDayLaw" 71 yX3_bill ∈ WALL := mW 780 (by decide +kernel) rfl
theorem mw_781 : Cond.instanceMethod yX3_bill ∈ WALL := mW 781 (by decide +kernel) rfl
theorem mw_782 : Cond.selects "GliderDay" yX3_bill yX3_bill ∈ WALL := mW 782 (by decide +kernel) rfl
theorem mw_783 : Cond.code yX3_bill prog_1_method_21_code 2 (Option.some ClassFile.FieldType.int) ∈ WALL := mW 783 (by decide +kernel) rfl
theorem mw_784 : Cond.methodLink "GliderDayLaw" 155 yL_pay ∈ WALL := mW 784 (by decide +kernel) rfl
theorem mw_785 : Cond.static yL_pay ∈ WALL := mW 785 (by decide +kernel) rfl
theorem mw_786 : Cond.codeWith yL_pay method_21_code 5 (Option.some ClassFile.FieldType.int) [(0, 10, 13, 34), (0, 10, 17, 13)] ∈ WALL := mW 786 (by decide +kernel) rfl
theorem mw_787 : Cond.methodLink "GliderDayLaw" 74 yX3_pay ∈ WALL := mW 787 (by decide +kernel) rfl
theorem mw_788 : Cond.instanceMethod yX3_pay ∈ WALL := mW 788 (by decide +kernel) rfl
theorem mw_789 : Cond.selects "GliderDay" yX3_pay yX3_pay ∈ WALL := mW 789 (by decide +kernel) rfl
theorem mw_790 : Cond.code yX3_pay prog_1_method_22_code 4 (Option.some ClassFile.FieldType.int) ∈ WALL := mW 790 (by decide +kernel) rfl
theorem mw_791 : Cond.constant "GliderDay" 229 100000 ∈ WALL := mW 791 (by decide +kernel) rfl
theorem mw_793 : Cond.classLink "GliderDayLaw" 78 "GliderDayModel" ∈ WALL := mW 793 (by decide +kernel) rfl
theorem mw_794 : Cond.instantiable "GliderDayModel" 30 ∈ WALL := mW 794 (by decide +kernel) rfl
theorem mw_795 : Cond.methodLink "GliderDayLaw" 80 yX4_init ∈ WALL := mW 795 (by decide +kernel) rfl
theorem mw_796 : Cond.instanceMethod yX4_init ∈ WALL := mW 796 (by decide +kernel) rfl
theorem mw_797 : Cond.code yX4_init prog_6_method_1_code 1 Option.none ∈ WALL := mW 797 (by decide +kernel) rfl
theorem mw_798 : Cond.methodLink "GliderDayModel" 1 (⟨"java/lang/Object", "<init>", "()V"⟩ : MethodName) ∈ WALL := mW 798 (by decide +kernel) rfl
theorem mw_799 : Cond.fieldLink "GliderDayModel" 78 "GliderDayModel" "thrown" "I" ∈ WALL := mW 799 (by decide +kernel) rfl
theorem mw_800 : Cond.fieldLink "GliderDayModel" 131 "GliderDayModel" "now" "I" ∈ WALL := mW 800 (by decide +kernel) rfl
theorem mw_801 : Cond.fieldLink "GliderDayModel" 7 "GliderDayModel" "wind" "I" ∈ WALL := mW 801 (by decide +kernel) rfl
theorem mw_802 : Cond.fieldLink "GliderDayModel" 13 "GliderDayModel" "sunset" "I" ∈ WALL := mW 802 (by decide +kernel) rfl
theorem mw_803 : Cond.fieldLink "GliderDayModel" 140 "GliderDayModel" "busyUntil" "I" ∈ WALL := mW 803 (by decide +kernel) rfl
theorem mw_804 : Cond.fieldLink "GliderDayModel" 16 "GliderDayModel" "cables" "I" ∈ WALL := mW 804 (by decide +kernel) rfl
theorem mw_805 : Cond.fieldLink "GliderDayModel" 153 "GliderDayModel" "cablesAt" "I" ∈ WALL := mW 805 (by decide +kernel) rfl
theorem mw_806 : Cond.fieldLink "GliderDayModel" 19 "GliderDayModel" "tugs" "I" ∈ WALL := mW 806 (by decide +kernel) rfl
theorem mw_807 : Cond.fieldLink "GliderDayModel" 22 "GliderDayModel" "tugUntil" "[I" ∈ WALL := mW 807 (by decide +kernel) rfl
theorem mw_808 : Cond.fieldLink "GliderDayModel" 81 "GliderDayModel" "members" "I" ∈ WALL := mW 808 (by decide +kernel) rfl
theorem mw_809 : Cond.fieldLink "GliderDayModel" 26 "GliderDayModel" "levels" "[I" ∈ WALL := mW 809 (by decide +kernel) rfl
theorem mw_810 : Cond.fieldLink "GliderDayModel" 29 "GliderDayModel" "paid" "[I" ∈ WALL := mW 810 (by decide +kernel) rfl
theorem mw_811 : Cond.fieldLink "GliderDayModel" 88 "GliderDayModel" "gliders" "I" ∈ WALL := mW 811 (by decide +kernel) rfl
theorem mw_812 : Cond.fieldLink "GliderDayModel" 32 "GliderDayModel" "seats" "[I" ∈ WALL := mW 812 (by decide +kernel) rfl
theorem mw_813 : Cond.fieldLink "GliderDayModel" 35 "GliderDayModel" "rates" "[I" ∈ WALL := mW 813 (by decide +kernel) rfl
theorem mw_814 : Cond.fieldLink "GliderDayModel" 38 "GliderDayModel" "limits" "[I" ∈ WALL := mW 814 (by decide +kernel) rfl
theorem mw_815 : Cond.fieldLink "GliderDayModel" 41 "GliderDayModel" "areBarred" "[Z" ∈ WALL := mW 815 (by decide +kernel) rfl
theorem mw_816 : Cond.fieldLink "GliderDayModel" 45 "GliderDayModel" "areCalled" "[Z" ∈ WALL := mW 816 (by decide +kernel) rfl
theorem mw_817 : Cond.fieldLink "GliderDayModel" 48 "GliderDayModel" "waits" "[I" ∈ WALL := mW 817 (by decide +kernel) rfl
theorem mw_818 : Cond.fieldLink "GliderDayModel" 156 "GliderDayModel" "lastWait" "I" ∈ WALL := mW 818 (by decide +kernel) rfl
theorem mw_819 : Cond.fieldLink "GliderDayModel" 91 "GliderDayModel" "flights" "I" ∈ WALL := mW 819 (by decide +kernel) rfl
theorem mw_820 : Cond.fieldLink "GliderDayModel" 51 "GliderDayModel" "flyers" "[I" ∈ WALL := mW 820 (by decide +kernel) rfl
theorem mw_821 : Cond.fieldLink "GliderDayModel" 54 "GliderDayModel" "seconds" "[I" ∈ WALL := mW 821 (by decide +kernel) rfl
theorem mw_822 : Cond.fieldLink "GliderDayModel" 57 "GliderDayModel" "ships" "[I" ∈ WALL := mW 822 (by decide +kernel) rfl
theorem mw_823 : Cond.fieldLink "GliderDayModel" 60 "GliderDayModel" "heights" "[I" ∈ WALL := mW 823 (by decide +kernel) rfl
theorem mw_824 : Cond.fieldLink "GliderDayModel" 63 "GliderDayModel" "lengths" "[I" ∈ WALL := mW 824 (by decide +kernel) rfl
theorem mw_825 : Cond.fieldLink "GliderDayModel" 66 "GliderDayModel" "asked" "[I" ∈ WALL := mW 825 (by decide +kernel) rfl
theorem mw_826 : Cond.fieldLink "GliderDayModel" 69 "GliderDayModel" "begins" "[I" ∈ WALL := mW 826 (by decide +kernel) rfl
theorem mw_827 : Cond.fieldLink "GliderDayModel" 72 "GliderDayModel" "landings" "[I" ∈ WALL := mW 827 (by decide +kernel) rfl
theorem mw_828 : Cond.fieldLink "GliderDayModel" 75 "GliderDayModel" "states" "[I" ∈ WALL := mW 828 (by decide +kernel) rfl
theorem mw_829 : Cond.lays "GliderDayModel" "GliderDayModel" "thrown" "I" ∈ WALL := mW 829 (by decide +kernel) rfl
theorem mw_831 : Cond.lays "GliderDayModel" "GliderDayModel" "now" "I" ∈ WALL := mW 831 (by decide +kernel) rfl
theorem mw_833 : Cond.lays "GliderDayModel" "GliderDayModel" "wind" "I" ∈ WALL := mW 833 (by decide +kernel) rfl
theorem mw_835 : Cond.lays "GliderDayModel" "GliderDayModel" "sunset" "I" ∈ WALL := mW 835 (by decide +kernel) rfl
theorem mw_837 : Cond.lays "GliderDayModel" "GliderDayModel" "busyUntil" "I" ∈ WALL := mW 837 (by decide +kernel) rfl
theorem mw_839 : Cond.lays "GliderDayModel" "GliderDayModel" "cables" "I" ∈ WALL := mW 839 (by decide +kernel) rfl
theorem mw_841 : Cond.lays "GliderDayModel" "GliderDayModel" "cablesAt" "I" ∈ WALL := mW 841 (by decide +kernel) rfl
theorem mw_843 : Cond.lays "GliderDayModel" "GliderDayModel" "tugs" "I" ∈ WALL := mW 843 (by decide +kernel) rfl
theorem mw_845 : Cond.laysFinal "GliderDayModel" "GliderDayModel" "tugUntil" "[I" ∈ WALL := mW 845 (by decide +kernel) rfl
theorem mw_847 : Cond.lays "GliderDayModel" "GliderDayModel" "members" "I" ∈ WALL := mW 847 (by decide +kernel) rfl
theorem mw_849 : Cond.laysFinal "GliderDayModel" "GliderDayModel" "levels" "[I" ∈ WALL := mW 849 (by decide +kernel) rfl
theorem mw_851 : Cond.laysFinal "GliderDayModel" "GliderDayModel" "paid" "[I" ∈ WALL := mW 851 (by decide +kernel) rfl
theorem mw_853 : Cond.lays "GliderDayModel" "GliderDayModel" "gliders" "I" ∈ WALL := mW 853 (by decide +kernel) rfl
theorem mw_855 : Cond.laysFinal "GliderDayModel" "GliderDayModel" "seats" "[I" ∈ WALL := mW 855 (by decide +kernel) rfl
theorem mw_857 : Cond.laysFinal "GliderDayModel" "GliderDayModel" "rates" "[I" ∈ WALL := mW 857 (by decide +kernel) rfl
theorem mw_859 : Cond.laysFinal "GliderDayModel" "GliderDayModel" "limits" "[I" ∈ WALL := mW 859 (by decide +kernel) rfl
theorem mw_861 : Cond.laysFinal "GliderDayModel" "GliderDayModel" "areBarred" "[Z" ∈ WALL := mW 861 (by decide +kernel) rfl
theorem mw_863 : Cond.laysFinal "GliderDayModel" "GliderDayModel" "areCalled" "[Z" ∈ WALL := mW 863 (by decide +kernel) rfl
theorem mw_865 : Cond.laysFinal "GliderDayModel" "GliderDayModel" "waits" "[I" ∈ WALL := mW 865 (by decide +kernel) rfl
theorem mw_867 : Cond.lays "GliderDayModel" "GliderDayModel" "lastWait" "I" ∈ WALL := mW 867 (by decide +kernel) rfl
theorem mw_869 : Cond.lays "GliderDayModel" "GliderDayModel" "flights" "I" ∈ WALL := mW 869 (by decide +kernel) rfl
theorem mw_871 : Cond.laysFinal "GliderDayModel" "GliderDayModel" "flyers" "[I" ∈ WALL := mW 871 (by decide +kernel) rfl
theorem mw_873 : Cond.laysFinal "GliderDayModel" "GliderDayModel" "seconds" "[I" ∈ WALL := mW 873 (by decide +kernel) rfl
theorem mw_875 : Cond.laysFinal "GliderDayModel" "GliderDayModel" "ships" "[I" ∈ WALL := mW 875 (by decide +kernel) rfl
theorem mw_877 : Cond.laysFinal "GliderDayModel" "GliderDayModel" "heights" "[I" ∈ WALL := mW 877 (by decide +kernel) rfl
theorem mw_879 : Cond.laysFinal "GliderDayModel" "GliderDayModel" "lengths" "[I" ∈ WALL := mW 879 (by decide +kernel) rfl
theorem mw_881 : Cond.laysFinal "GliderDayModel" "GliderDayModel" "asked" "[I" ∈ WALL := mW 881 (by decide +kernel) rfl
theorem mw_883 : Cond.laysFinal "GliderDayModel" "GliderDayModel" "begins" "[I" ∈ WALL := mW 883 (by decide +kernel) rfl
theorem mw_885 : Cond.laysFinal "GliderDayModel" "GliderDayModel" "landings" "[I" ∈ WALL := mW 885 (by decide +kernel) rfl
theorem mw_887 : Cond.laysFinal "GliderDayModel" "GliderDayModel" "states" "[I" ∈ WALL := mW 887 (by decide +kernel) rfl
theorem mw_889 : Cond.superclass "GliderDayModel" "java/lang/Object" ∈ WALL := mW 889 (by decide +kernel) rfl
theorem mw_890 : Cond.arrayClass ClassFile.FieldType.boolean ∈ WALL := mW 890 (by decide +kernel) rfl
theorem mw_891 : Cond.methodLink "GliderDayLaw" 87 yX4_thrown ∈ WALL := mW 891 (by decide +kernel) rfl
theorem mw_892 : Cond.instanceMethod yX4_thrown ∈ WALL := mW 892 (by decide +kernel) rfl
theorem mw_893 : Cond.selects "GliderDayModel" yX4_thrown yX4_thrown ∈ WALL := mW 893 (by decide +kernel) rfl
theorem mw_894 : Cond.code yX4_thrown prog_6_method_2_code 1 (Option.some ClassFile.FieldType.int) ∈ WALL := mW 894 (by decide +kernel) rfl
theorem mw_895 : Cond.methodLink "GliderDayLaw" 86 yX4_addMember ∈ WALL := mW 895 (by decide +kernel) rfl
theorem mw_896 : Cond.instanceMethod yX4_addMember ∈ WALL := mW 896 (by decide +kernel) rfl
theorem mw_897 : Cond.selects "GliderDayModel" yX4_addMember yX4_addMember ∈ WALL := mW 897 (by decide +kernel) rfl
theorem mw_898 : Cond.code yX4_addMember prog_6_method_8_code 2 (Option.some ClassFile.FieldType.int) ∈ WALL := mW 898 (by decide +kernel) rfl
theorem mw_899 : Cond.methodLink "GliderDayModel" 84 yX4_isIn ∈ WALL := mW 899 (by decide +kernel) rfl
theorem mw_900 : Cond.static yX4_isIn ∈ WALL := mW 900 (by decide +kernel) rfl
theorem mw_901 : Cond.code yX4_isIn prog_6_method_4_code 3 (Option.some ClassFile.FieldType.boolean) ∈ WALL := mW 901 (by decide +kernel) rfl
theorem mw_902 : Cond.methodLink "GliderDayModel" 94 yX4_no ∈ WALL := mW 902 (by decide +kernel) rfl
theorem mw_904 : Cond.instanceMethod yX4_no ∈ WALL := mW 904 (by decide +kernel) rfl
theorem mw_905 : Cond.code yX4_no prog_6_method_3_code 2 (Option.some ClassFile.FieldType.int) ∈ WALL := mW 905 (by decide +kernel) rfl
theorem mw_906 : Cond.methodLink "GliderDayLaw" 94 yX4_addGlider ∈ WALL := mW 906 (by decide +kernel) rfl
theorem mw_907 : Cond.instanceMethod yX4_addGlider ∈ WALL := mW 907 (by decide +kernel) rfl
theorem mw_908 : Cond.selects "GliderDayModel" yX4_addGlider yX4_addGlider ∈ WALL := mW 908 (by decide +kernel) rfl
theorem mw_909 : Cond.code yX4_addGlider prog_6_method_9_code 4 (Option.some ClassFile.FieldType.int) ∈ WALL := mW 909 (by decide +kernel) rfl
theorem mw_910 : Cond.methodLink "GliderDayLaw" 97 yX4_setWind ∈ WALL := mW 910 (by decide +kernel) rfl
theorem mw_911 : Cond.instanceMethod yX4_setWind ∈ WALL := mW 911 (by decide +kernel) rfl
theorem mw_912 : Cond.selects "GliderDayModel" yX4_setWind yX4_setWind ∈ WALL := mW 912 (by decide +kernel) rfl
theorem mw_913 : Cond.code yX4_setWind prog_6_method_10_code 3 (Option.some ClassFile.FieldType.int) ∈ WALL := mW 913 (by decide +kernel) rfl
theorem mw_914 : Cond.methodLink "GliderDayLaw" 100 yX4_setSunset ∈ WALL := mW 914 (by decide +kernel) rfl
theorem mw_915 : Cond.instanceMethod yX4_setSunset ∈ WALL := mW 915 (by decide +kernel) rfl
theorem mw_916 : Cond.selects "GliderDayModel" yX4_setSunset yX4_setSunset ∈ WALL := mW 916 (by decide +kernel) rfl
theorem mw_917 : Cond.code yX4_setSunset prog_6_method_11_code 3 (Option.some ClassFile.FieldType.int) ∈ WALL := mW 917 (by decide +kernel) rfl
theorem mw_918 : Cond.methodLink "GliderDayLaw" 103 yX4_setTugs ∈ WALL := mW 918 (by decide +kernel) rfl
theorem mw_919 : Cond.instanceMethod yX4_setTugs ∈ WALL := mW 919 (by decide +kernel) rfl
theorem mw_920 : Cond.selects "GliderDayModel" yX4_setTugs yX4_setTugs ∈ WALL := mW 920 (by decide +kernel) rfl
theorem mw_921 : Cond.code yX4_setTugs prog_6_method_13_code 2 (Option.some ClassFile.FieldType.int) ∈ WALL := mW 921 (by decide +kernel) rfl
theorem mw_922 : Cond.methodLink "GliderDayModel" 98 yX4_takenTugs ∈ WALL := mW 922 (by decide +kernel) rfl
theorem mw_924 : Cond.instanceMethod yX4_takenTugs ∈ WALL := mW 924 (by decide +kernel) rfl
theorem mw_925 : Cond.code yX4_takenTugs prog_6_method_12_code 1 (Option.some ClassFile.FieldType.int) ∈ WALL := mW 925 (by decide +kernel) rfl
theorem mw_926 : Cond.methodLink "GliderDayLaw" 107 yX4_bar ∈ WALL := mW 926 (by decide +kernel) rfl
theorem mw_927 : Cond.instanceMethod yX4_bar ∈ WALL := mW 927 (by decide +kernel) rfl
theorem mw_928 : Cond.selects "GliderDayModel" yX4_bar yX4_bar ∈ WALL := mW 928 (by decide +kernel) rfl
theorem mw_929 : Cond.code yX4_bar prog_6_method_16_code 4 (Option.some ClassFile.FieldType.boolean) ∈ WALL := mW 929 (by decide +kernel) rfl
theorem mw_930 : Cond.methodLink "GliderDayModel" 102 yX4_isGlider ∈ WALL := mW 930 (by decide +kernel) rfl
theorem mw_932 : Cond.instanceMethod yX4_isGlider ∈ WALL := mW 932 (by decide +kernel) rfl
theorem mw_933 : Cond.code yX4_isGlider prog_6_method_6_code 2 (Option.some ClassFile.FieldType.boolean) ∈ WALL := mW 933 (by decide +kernel) rfl
theorem mw_934 : Cond.methodLink "GliderDayModel" 106 yX4_flightOf ∈ WALL := mW 934 (by decide +kernel) rfl
theorem mw_936 : Cond.instanceMethod yX4_flightOf ∈ WALL := mW 936 (by decide +kernel) rfl
theorem mw_937 : Cond.code yX4_flightOf prog_6_method_14_code 3 (Option.some ClassFile.FieldType.int) ∈ WALL := mW 937 (by decide +kernel) rfl
theorem mw_938 : Cond.methodLink "GliderDayLaw" 110 yX4_promote ∈ WALL := mW 938 (by decide +kernel) rfl
theorem mw_939 : Cond.instanceMethod yX4_promote ∈ WALL := mW 939 (by decide +kernel) rfl
theorem mw_940 : Cond.selects "GliderDayModel" yX4_promote yX4_promote ∈ WALL := mW 940 (by decide +kernel) rfl
theorem mw_941 : Cond.code yX4_promote prog_6_method_19_code 3 (Option.some ClassFile.FieldType.int) ∈ WALL := mW 941 (by decide +kernel) rfl
theorem mw_942 : Cond.methodLink "GliderDayModel" 112 yX4_isMember ∈ WALL := mW 942 (by decide +kernel) rfl
theorem mw_944 : Cond.instanceMethod yX4_isMember ∈ WALL := mW 944 (by decide +kernel) rfl
theorem mw_945 : Cond.code yX4_isMember prog_6_method_5_code 2 (Option.some ClassFile.FieldType.boolean) ∈ WALL := mW 945 (by decide +kernel) rfl
theorem mw_946 : Cond.methodLink "GliderDayModel" 115 yX4_landed ∈ WALL := mW 946 (by decide +kernel) rfl
theorem mw_948 : Cond.instanceMethod yX4_landed ∈ WALL := mW 948 (by decide +kernel) rfl
theorem mw_949 : Cond.code yX4_landed prog_6_method_18_code 6 (Option.some ClassFile.FieldType.int) ∈ WALL := mW 949 (by decide +kernel) rfl
theorem mw_950 : Cond.methodLink "GliderDayModel" 109 yX4_withTeacher ∈ WALL := mW 950 (by decide +kernel) rfl
theorem mw_952 : Cond.instanceMethod yX4_withTeacher ∈ WALL := mW 952 (by decide +kernel) rfl
theorem mw_953 : Cond.code yX4_withTeacher prog_6_method_17_code 2 (Option.some ClassFile.FieldType.boolean) ∈ WALL := mW 953 (by decide +kernel) rfl
theorem mw_954 : Cond.methodLink "GliderDayModel" 119 yX4_flies ∈ WALL := mW 954 (by decide +kernel) rfl
theorem mw_956 : Cond.instanceMethod yX4_flies ∈ WALL := mW 956 (by decide +kernel) rfl
theorem mw_957 : Cond.code yX4_flies prog_6_method_15_code 4 (Option.some ClassFile.FieldType.boolean) ∈ WALL := mW 957 (by decide +kernel) rfl
theorem mw_958 : Cond.methodLink "GliderDayLaw" 114 yX4_member ∈ WALL := mW 958 (by decide +kernel) rfl
theorem mw_959 : Cond.instanceMethod yX4_member ∈ WALL := mW 959 (by decide +kernel) rfl
theorem mw_960 : Cond.selects "GliderDayModel" yX4_member yX4_member ∈ WALL := mW 960 (by decide +kernel) rfl
theorem mw_961 : Cond.code yX4_member prog_6_method_21_code 3 (Option.some ClassFile.FieldType.int) ∈ WALL := mW 961 (by decide +kernel) rfl
theorem mw_962 : Cond.methodLink "GliderDayModel" 122 yX4_toldOfMember ∈ WALL := mW 962 (by decide +kernel) rfl
theorem mw_964 : Cond.instanceMethod yX4_toldOfMember ∈ WALL := mW 964 (by decide +kernel) rfl
theorem mw_965 : Cond.code yX4_toldOfMember prog_6_method_20_code 3 (Option.some ClassFile.FieldType.int) ∈ WALL := mW 965 (by decide +kernel) rfl
theorem mw_966 : Cond.methodLink "GliderDayLaw" 117 yX4_glider ∈ WALL := mW 966 (by decide +kernel) rfl
theorem mw_967 : Cond.instanceMethod yX4_glider ∈ WALL := mW 967 (by decide +kernel) rfl
theorem mw_968 : Cond.selects "GliderDayModel" yX4_glider yX4_glider ∈ WALL := mW 968 (by decide +kernel) rfl
theorem mw_969 : Cond.code yX4_glider prog_6_method_23_code 3 (Option.some ClassFile.FieldType.int) ∈ WALL := mW 969 (by decide +kernel) rfl
theorem mw_970 : Cond.methodLink "GliderDayModel" 125 yX4_toldOfGlider ∈ WALL := mW 970 (by decide +kernel) rfl
theorem mw_972 : Cond.instanceMethod yX4_toldOfGlider ∈ WALL := mW 972 (by decide +kernel) rfl
theorem mw_973 : Cond.code yX4_toldOfGlider prog_6_method_22_code 5 (Option.some ClassFile.FieldType.int) ∈ WALL := mW 973 (by decide +kernel) rfl
theorem mw_974 : Cond.methodLink "GliderDayLaw" 121 yX4_ask ∈ WALL := mW 974 (by decide +kernel) rfl
theorem mw_975 : Cond.instanceMethod yX4_ask ∈ WALL := mW 975 (by decide +kernel) rfl
theorem mw_976 : Cond.selects "GliderDayModel" yX4_ask yX4_ask ∈ WALL := mW 976 (by decide +kernel) rfl
theorem mw_977 : Cond.code yX4_ask prog_6_method_25_code 6 (Option.some ClassFile.FieldType.int) ∈ WALL := mW 977 (by decide +kernel) rfl
theorem mw_978 : Cond.methodLink "GliderDayModel" 128 yX4_with ∈ WALL := mW 978 (by decide +kernel) rfl
theorem mw_980 : Cond.instanceMethod yX4_with ∈ WALL := mW 980 (by decide +kernel) rfl
theorem mw_981 : Cond.code yX4_with prog_6_method_24_code 4 (Option.some ClassFile.FieldType.int) ∈ WALL := mW 981 (by decide +kernel) rfl
theorem mw_982 : Cond.methodLink "GliderDayLaw" 124 yX4_drop ∈ WALL := mW 982 (by decide +kernel) rfl
theorem mw_983 : Cond.instanceMethod yX4_drop ∈ WALL := mW 983 (by decide +kernel) rfl
theorem mw_984 : Cond.selects "GliderDayModel" yX4_drop yX4_drop ∈ WALL := mW 984 (by decide +kernel) rfl
theorem mw_985 : Cond.code yX4_drop prog_6_method_27_code 2 (Option.some ClassFile.FieldType.int) ∈ WALL := mW 985 (by decide +kernel) rfl
theorem mw_986 : Cond.methodLink "GliderDayModel" 134 yX4_isFlight ∈ WALL := mW 986 (by decide +kernel) rfl
theorem mw_988 : Cond.instanceMethod yX4_isFlight ∈ WALL := mW 988 (by decide +kernel) rfl
theorem mw_989 : Cond.code yX4_isFlight prog_6_method_7_code 2 (Option.some ClassFile.FieldType.boolean) ∈ WALL := mW 989 (by decide +kernel) rfl
theorem mw_990 : Cond.methodLink "GliderDayModel" 137 yX4_place ∈ WALL := mW 990 (by decide +kernel) rfl
theorem mw_992 : Cond.instanceMethod yX4_place ∈ WALL := mW 992 (by decide +kernel) rfl
theorem mw_993 : Cond.code yX4_place prog_6_method_26_code 4 (Option.some ClassFile.FieldType.int) ∈ WALL := mW 993 (by decide +kernel) rfl
theorem mw_994 : Cond.methodLink "GliderDayLaw" 127 yX4_list ∈ WALL := mW 994 (by decide +kernel) rfl
theorem mw_995 : Cond.instanceMethod yX4_list ∈ WALL := mW 995 (by decide +kernel) rfl
theorem mw_996 : Cond.selects "GliderDayModel" yX4_list yX4_list ∈ WALL := mW 996 (by decide +kernel) rfl
theorem mw_997 : Cond.code yX4_list prog_6_method_28_code 3 (Option.some ClassFile.FieldType.int) ∈ WALL := mW 997 (by decide +kernel) rfl
theorem mw_998 : Cond.methodLink "GliderDayLaw" 130 yX4_reason ∈ WALL := mW 998 (by decide +kernel) rfl
theorem mw_999 : Cond.instanceMethod yX4_reason ∈ WALL := mW 999 (by decide +kernel) rfl
theorem mw_1000 : Cond.selects "GliderDayModel" yX4_reason yX4_reason ∈ WALL := mW 1000 (by decide +kernel) rfl
theorem mw_1001 : Cond.code yX4_reason prog_6_method_32_code 2 (Option.some ClassFile.FieldType.int) ∈ WALL := mW 1001 (by decide +kernel) rfl
theorem mw_1002 : Cond.methodLink "GliderDayModel" 150 yX4_reasonOf ∈ WALL := mW 1002 (by decide +kernel) rfl
theorem mw_1004 : Cond.instanceMethod yX4_reasonOf ∈ WALL := mW 1004 (by decide +kernel) rfl
theorem mw_1005 : Cond.code yX4_reasonOf prog_6_method_31_code 4 (Option.some ClassFile.FieldType.int) ∈ WALL := mW 1005 (by decide +kernel) rfl
theorem mw_1006 : Cond.methodLink "GliderDayModel" 143 yX4_windOf ∈ WALL := mW 1006 (by decide +kernel) rfl
theorem mw_1007 : Cond.static yX4_windOf ∈ WALL := mW 1007 (by decide +kernel) rfl
theorem mw_1008 : Cond.code yX4_windOf prog_6_method_30_code 1 (Option.some ClassFile.FieldType.int) ∈ WALL := mW 1008 (by decide +kernel) rfl
theorem mw_1009 : Cond.methodLink "GliderDayModel" 146 yX4_isBusyNow ∈ WALL := mW 1009 (by decide +kernel) rfl
theorem mw_1011 : Cond.instanceMethod yX4_isBusyNow ∈ WALL := mW 1011 (by decide +kernel) rfl
theorem mw_1012 : Cond.code yX4_isBusyNow prog_6_method_29_code 1 (Option.some ClassFile.FieldType.boolean) ∈ WALL := mW 1012 (by decide +kernel) rfl
theorem mw_1013 : Cond.methodLink "GliderDayLaw" 133 yX4_call ∈ WALL := mW 1013 (by decide +kernel) rfl
theorem mw_1014 : Cond.instanceMethod yX4_call ∈ WALL := mW 1014 (by decide +kernel) rfl
theorem mw_1015 : Cond.selects "GliderDayModel" yX4_call yX4_call ∈ WALL := mW 1015 (by decide +kernel) rfl
theorem mw_1016 : Cond.code yX4_call prog_6_method_33_code 3 (Option.some ClassFile.FieldType.int) ∈ WALL := mW 1016 (by decide +kernel) rfl
theorem mw_1017 : Cond.methodLink "GliderDayLaw" 136 yX4_tick ∈ WALL := mW 1017 (by decide +kernel) rfl
theorem mw_1018 : Cond.instanceMethod yX4_tick ∈ WALL := mW 1018 (by decide +kernel) rfl
theorem mw_1019 : Cond.selects "GliderDayModel" yX4_tick yX4_tick ∈ WALL := mW 1019 (by decide +kernel) rfl
theorem mw_1020 : Cond.code yX4_tick prog_6_method_37_code 4 (Option.some ClassFile.FieldType.int) ∈ WALL := mW 1020 (by decide +kernel) rfl
theorem mw_1021 : Cond.methodLink "GliderDayModel" 166 yX4_minute ∈ WALL := mW 1021 (by decide +kernel) rfl
theorem mw_1023 : Cond.instanceMethod yX4_minute ∈ WALL := mW 1023 (by decide +kernel) rfl
theorem mw_1024 : Cond.code yX4_minute prog_6_method_36_code 3 (Option.some ClassFile.FieldType.boolean) ∈ WALL := mW 1024 (by decide +kernel) rfl
theorem mw_1025 : Cond.methodLink "GliderDayModel" 159 yX4_land ∈ WALL := mW 1025 (by decide +kernel) rfl
theorem mw_1027 : Cond.instanceMethod yX4_land ∈ WALL := mW 1027 (by decide +kernel) rfl
theorem mw_1028 : Cond.code yX4_land prog_6_method_35_code 3 Option.none ∈ WALL := mW 1028 (by decide +kernel) rfl
theorem mw_1029 : Cond.methodLink "GliderDayModel" 163 yX4_begin ∈ WALL := mW 1029 (by decide +kernel) rfl
theorem mw_1031 : Cond.instanceMethod yX4_begin ∈ WALL := mW 1031 (by decide +kernel) rfl
theorem mw_1032 : Cond.code yX4_begin prog_6_method_34_code 3 Option.none ∈ WALL := mW 1032 (by decide +kernel) rfl
theorem mw_1033 : Cond.methodLink "GliderDayLaw" 140 yX4_now ∈ WALL := mW 1033 (by decide +kernel) rfl
theorem mw_1034 : Cond.instanceMethod yX4_now ∈ WALL := mW 1034 (by decide +kernel) rfl
theorem mw_1035 : Cond.selects "GliderDayModel" yX4_now yX4_now ∈ WALL := mW 1035 (by decide +kernel) rfl
theorem mw_1036 : Cond.code yX4_now prog_6_method_38_code 1 (Option.some ClassFile.FieldType.int) ∈ WALL := mW 1036 (by decide +kernel) rfl
theorem mw_1037 : Cond.methodLink "GliderDayLaw" 143 yX4_flight ∈ WALL := mW 1037 (by decide +kernel) rfl
theorem mw_1038 : Cond.instanceMethod yX4_flight ∈ WALL := mW 1038 (by decide +kernel) rfl
theorem mw_1039 : Cond.selects "GliderDayModel" yX4_flight yX4_flight ∈ WALL := mW 1039 (by decide +kernel) rfl
theorem mw_1040 : Cond.code yX4_flight prog_6_method_41_code 3 (Option.some ClassFile.FieldType.int) ∈ WALL := mW 1040 (by decide +kernel) rfl
theorem mw_1041 : Cond.methodLink "GliderDayModel" 177 yX4_toldOf ∈ WALL := mW 1041 (by decide +kernel) rfl
theorem mw_1043 : Cond.instanceMethod yX4_toldOf ∈ WALL := mW 1043 (by decide +kernel) rfl
theorem mw_1044 : Cond.code yX4_toldOf prog_6_method_40_code 4 (Option.some ClassFile.FieldType.int) ∈ WALL := mW 1044 (by decide +kernel) rfl
theorem mw_1045 : Cond.methodLink "GliderDayModel" 174 yX4_costOf ∈ WALL := mW 1045 (by decide +kernel) rfl
theorem mw_1047 : Cond.instanceMethod yX4_costOf ∈ WALL := mW 1047 (by decide +kernel) rfl
theorem mw_1048 : Cond.code yX4_costOf prog_6_method_39_code 2 (Option.some ClassFile.FieldType.int) ∈ WALL := mW 1048 (by decide +kernel) rfl
theorem mw_1049 : Cond.methodLink "GliderDayModel" 169 yJ9_min_7cf53 ∈ WALL := mW 1049 (by decide +kernel) rfl
theorem mw_1050 : Cond.methodLink "GliderDayLaw" 146 yX4_count ∈ WALL := mW 1050 (by decide +kernel) rfl
theorem mw_1051 : Cond.instanceMethod yX4_count ∈ WALL := mW 1051 (by decide +kernel) rfl
theorem mw_1052 : Cond.selects "GliderDayModel" yX4_count yX4_count ∈ WALL := mW 1052 (by decide +kernel) rfl
theorem mw_1053 : Cond.code yX4_count prog_6_method_43_code 2 (Option.some ClassFile.FieldType.int) ∈ WALL := mW 1053 (by decide +kernel) rfl
theorem mw_1054 : Cond.methodLink "GliderDayModel" 180 yX4_counted ∈ WALL := mW 1054 (by decide +kernel) rfl
theorem mw_1056 : Cond.instanceMethod yX4_counted ∈ WALL := mW 1056 (by decide +kernel) rfl
theorem mw_1057 : Cond.code yX4_counted prog_6_method_42_code 7 (Option.some ClassFile.FieldType.int) ∈ WALL := mW 1057 (by decide +kernel) rfl
theorem mw_1058 : Cond.methodLink "GliderDayLaw" 151 yX4_isBusy ∈ WALL := mW 1058 (by decide +kernel) rfl
theorem mw_1059 : Cond.instanceMethod yX4_isBusy ∈ WALL := mW 1059 (by decide +kernel) rfl
theorem mw_1060 : Cond.selects "GliderDayModel" yX4_isBusy yX4_isBusy ∈ WALL := mW 1060 (by decide +kernel) rfl
theorem mw_1061 : Cond.code yX4_isBusy prog_6_method_44_code 1 (Option.some ClassFile.FieldType.boolean) ∈ WALL := mW 1061 (by decide +kernel) rfl
theorem mw_1062 : Cond.methodLink "GliderDayLaw" 154 yX4_bill ∈ WALL := mW 1062 (by decide +kernel) rfl
theorem mw_1063 : Cond.instanceMethod yX4_bill ∈ WALL := mW 1063 (by decide +kernel) rfl
theorem mw_1064 : Cond.selects "GliderDayModel" yX4_bill yX4_bill ∈ WALL := mW 1064 (by decide +kernel) rfl
theorem mw_1065 : Cond.code yX4_bill prog_6_method_46_code 2 (Option.some ClassFile.FieldType.int) ∈ WALL := mW 1065 (by decide +kernel) rfl
theorem mw_1066 : Cond.methodLink "GliderDayModel" 183 yX4_billOf ∈ WALL := mW 1066 (by decide +kernel) rfl
theorem mw_1068 : Cond.instanceMethod yX4_billOf ∈ WALL := mW 1068 (by decide +kernel) rfl
theorem mw_1069 : Cond.code yX4_billOf prog_6_method_45_code 4 (Option.some ClassFile.FieldType.int) ∈ WALL := mW 1069 (by decide +kernel) rfl
theorem mw_1070 : Cond.methodLink "GliderDayLaw" 157 yX4_pay ∈ WALL := mW 1070 (by decide +kernel) rfl
theorem mw_1071 : Cond.instanceMethod yX4_pay ∈ WALL := mW 1071 (by decide +kernel) rfl
theorem mw_1072 : Cond.selects "GliderDayModel" yX4_pay yX4_pay ∈ WALL := mW 1072 (by decide +kernel) rfl
theorem mw_1073 : Cond.code yX4_pay prog_6_method_47_code 3 (Option.some ClassFile.FieldType.int) ∈ WALL := mW 1073 (by decide +kernel) rfl
theorem mw_1074 : Cond.constant "GliderDayModel" 186 100000 ∈ WALL := mW 1074 (by decide +kernel) rfl
theorem mw_1075 : Cond.methodLink "GliderDayLaw" 161 yX4_income ∈ WALL := mW 1075 (by decide +kernel) rfl
theorem mw_1076 : Cond.instanceMethod yX4_income ∈ WALL := mW 1076 (by decide +kernel) rfl
theorem mw_1077 : Cond.selects "GliderDayModel" yX4_income yX4_income ∈ WALL := mW 1077 (by decide +kernel) rfl
theorem mw_1078 : Cond.code yX4_income prog_6_method_48_code 3 (Option.some ClassFile.FieldType.int) ∈ WALL := mW 1078 (by decide +kernel) rfl
theorem mw_1079 : Cond.methodLink "GliderDayLaw" 165 yX4_longest ∈ WALL := mW 1079 (by decide +kernel) rfl
theorem mw_1080 : Cond.instanceMethod yX4_longest ∈ WALL := mW 1080 (by decide +kernel) rfl
theorem mw_1081 : Cond.selects "GliderDayModel" yX4_longest yX4_longest ∈ WALL := mW 1081 (by decide +kernel) rfl
theorem mw_1082 : Cond.code yX4_longest prog_6_method_49_code 3 (Option.some ClassFile.FieldType.int) ∈ WALL := mW 1082 (by decide +kernel) rfl
theorem mw_1083 : Cond.methodLink "GliderDayLaw" 170 yX4_waited ∈ WALL := mW 1083 (by decide +kernel) rfl
theorem mw_1084 : Cond.instanceMethod yX4_waited ∈ WALL := mW 1084 (by decide +kernel) rfl
theorem mw_1085 : Cond.selects "GliderDayModel" yX4_waited yX4_waited ∈ WALL := mW 1085 (by decide +kernel) rfl
theorem mw_1086 : Cond.code yX4_waited prog_6_method_50_code 4 (Option.some ClassFile.FieldType.double) ∈ WALL := mW 1086 (by decide +kernel) rfl
theorem mw_1087 : Cond.methodLink "GliderDayLaw" 175 yX4_digest ∈ WALL := mW 1087 (by decide +kernel) rfl
theorem mw_1088 : Cond.instanceMethod yX4_digest ∈ WALL := mW 1088 (by decide +kernel) rfl
theorem mw_1089 : Cond.selects "GliderDayModel" yX4_digest yX4_digest ∈ WALL := mW 1089 (by decide +kernel) rfl
theorem mw_1090 : Cond.code yX4_digest prog_6_method_51_code 5 (Option.some ClassFile.FieldType.long) ∈ WALL := mW 1090 (by decide +kernel) rfl
theorem mw_1091 : Cond.constantLong "GliderDayModel" 187 9827 ∈ WALL := mW 1091 (by decide +kernel) rfl
theorem mw_1092 : Cond.constantLong "GliderDayModel" 189 31 ∈ WALL := mW 1092 (by decide +kernel) rfl
theorem mw_1093 : Cond.arrayClass ClassFile.FieldType.long ∈ WALL := mW 1093 (by decide +kernel) rfl
theorem mw_1094 : Cond.sameMethod "java/lang/Throwable" "java/lang/Throwable" "fillInStackTrace" "(I)Ljava/lang/Throwable;" ∈ WALL := mW 1094 (by decide +kernel) rfl
theorem mw_1106 : Cond.sameMethod "[Ljava/lang/Object;" "java/lang/Object" "getClass" "()Ljava/lang/Class;" ∈ WALL := mW 1106 (by decide +kernel) rfl
theorem mw_1107 : Cond.selects "[Ljava/lang/Object;" (⟨"java/lang/Object", "getClass", "()Ljava/lang/Class;"⟩ : MethodName) (⟨"java/lang/Object", "getClass", "()Ljava/lang/Class;"⟩ : MethodName) ∈ WALL := mW 1107 (by decide +kernel) rfl
end
section
/-! the standing facts, the walk at a place, and its rows -/
section FR0
abbrev GT : Type := va_G × (ClassId × ClassId × ClassId × ClassId) × (Nat × Nat) × (Nat → Nat)
/-- the words that are no good words, of the tables all the same -/
def nestW : List Cond := [(Cond.fieldLinkNest "GliderDay" 283 "GliderDay$Member" "number" "I" "GliderDay"), (Cond.fieldLinkNest "GliderDay" 132 "GliderDay$Member" "level" "I" "GliderDay"), (Cond.fieldLinkNest "GliderDay" 123 "GliderDay$Member" "isFlying" "Z" "GliderDay"), (Cond.fieldLinkNest "GliderDay" 267 "GliderDay$Member" "landings" "I" "GliderDay"), (Cond.fieldLinkNest "GliderDay" 270 "GliderDay$Member" "minutes" "I" "GliderDay"), (Cond.fieldLinkNest "GliderDay" 271 "GliderDay$Member" "lessons" "I" "GliderDay"), (Cond.fieldLinkNest "GliderDay" 274 "GliderDay$Member" "solos" "I" "GliderDay"), (Cond.fieldLinkNest "GliderDay" 226 "GliderDay$Member" "bill" "I" "GliderDay"), (Cond.fieldLinkNest "GliderDay" 291 "GliderDay$Glider" "number" "I" "GliderDay"), (Cond.fieldLinkNest "GliderDay" 308 "GliderDay$Glider" "seats" "I" "GliderDay"), (Cond.fieldLinkNest "GliderDay" 352 "GliderDay$Glider" "rate" "I" "GliderDay"), (Cond.fieldLinkNest "GliderDay" 299 "GliderDay$Glider" "limit" "I" "GliderDay"), (Cond.fieldLinkNest "GliderDay" 110 "GliderDay$Glider" "state" "I" "GliderDay"), (Cond.fieldLinkNest "GliderDay" 115 "GliderDay$Glider" "isBarred" "Z" "GliderDay"), (Cond.fieldLinkNest "GliderDay" 201 "GliderDay$Glider" "isCalled" "Z" "GliderDay"), (Cond.fieldLinkNest "GliderDay" 277 "GliderDay$Glider" "landings" "I" "GliderDay"), (Cond.fieldLinkNest "GliderDay" 278 "GliderDay$Glider" "minutes" "I" "GliderDay"), (Cond.fieldLinkNest "GliderDay" 195 "GliderDay$Glider" "flight" "LGliderDay$Flight;" "GliderDay"), (Cond.fieldLinkNest "GliderDay" 170 "GliderDay$Flight" "number" "I" "GliderDay"), (Cond.fieldLinkNest "GliderDay" 279 "GliderDay$Flight" "member" "LGliderDay$Member;" "GliderDay"), (Cond.fieldLinkNest "GliderDay" 284 "GliderDay$Flight" "second" "LGliderDay$Member;" "GliderDay"), (Cond.fieldLinkNest "GliderDay" 287 "GliderDay$Flight" "glider" "LGliderDay$Glider;" "GliderDay"), (Cond.fieldLinkNest "GliderDay" 161 "GliderDay$Flight" "height" "I" "GliderDay"), (Cond.fieldLinkNest "GliderDay" 164 "GliderDay$Flight" "minutes" "I" "GliderDay"), (Cond.fieldLinkNest "GliderDay" 185 "GliderDay$Flight" "state" "I" "GliderDay"), (Cond.fieldLinkNest "GliderDay" 167 "GliderDay$Flight" "askedAt" "I" "GliderDay"), (Cond.fieldLinkNest "GliderDay" 204 "GliderDay$Flight" "begin" "I" "GliderDay"), (Cond.fieldLinkNest "GliderDay" 235 "GliderDay$Flight" "landing" "I" "GliderDay"), (Cond.fieldLinkNest "GliderDay" 232 "GliderDay$Flight" "cost" "I" "GliderDay"), (Cond.methodLinkNest "GliderDay" 76 ({ cls := "GliderDay$Member", name := "<init>", desc := "(II)V" } : MethodName) "GliderDay"), (Cond.methodLinkNest "GliderDay" 89 ({ cls := "GliderDay$Glider", name := "<init>", desc := "(IIII)V" } : MethodName) "GliderDay"), (Cond.methodLinkNest "GliderDay" 158 ({ cls := "GliderDay$Flight", name := "<init>", desc := "(ILGliderDay$Member;LGliderDay$Member;LGliderDay$Glider;)V" } : MethodName) "GliderDay"), (Cond.castable "java/lang/IllegalArgumentException" "java/lang/IllegalArgumentException"), (Cond.castable "java/lang/IllegalStateException" "java/lang/IllegalStateException"), (Cond.castable "java/lang/IndexOutOfBoundsException" "java/lang/IndexOutOfBoundsException"), (Cond.castable "GliderDay" "java/lang/Object"), (Cond.castable "java/util/ArrayList" "java/lang/Object"), (Cond.castable "GliderDayModel" "java/lang/Object"), (Cond.castable "java/lang/IllegalArgumentException" "java/lang/Object"), (Cond.castable "java/lang/IllegalStateException" "java/lang/Object"), (Cond.castable "GliderDay$Member" "java/lang/Object"), (Cond.castable "GliderDay$Glider" "java/lang/Object"), (Cond.castable "java/lang/IndexOutOfBoundsException" "java/lang/Object"), (Cond.castable "GliderDay$Flight" "java/lang/Object"), (Cond.castable "java/lang/Throwable" "java/lang/Object"), (Cond.castable "java/lang/String" "java/lang/Object"), (Cond.castable "[I" "java/lang/Object"), (Cond.castable "[B" "java/lang/Object"), (Cond.castable "[Ljava/lang/Object;" "java/lang/Object"), (Cond.castable "[Z" "java/lang/Object"), (Cond.castable "[J" "java/lang/Object"), (Cond.declares ({ cls := "java/lang/RuntimeException", name := "<init>", desc := "()V" } : MethodName)), (Cond.declares ({ cls := "java/lang/RuntimeException", name := "<init>", desc := "(Ljava/lang/String;)V" } : MethodName)), (Cond.declares ({ cls := "java/lang/Exception", name := "<init>", desc := "()V" } : MethodName)), (Cond.declares ({ cls := "java/lang/Exception", name := "<init>", desc := "(Ljava/lang/String;)V" } : MethodName)), (Cond.declares ({ cls := "java/lang/Throwable", name := "<init>", desc := "()V" } : MethodName)), (Cond.declares ({ cls := "java/lang/Throwable", name := "<init>", desc := "(Ljava/lang/String;)V" } : MethodName)), (Cond.declares ({ cls := "java/lang/Object", name := "getClass", desc := "()Ljava/lang/Class;" } : MethodName))]
def strW : List (Nat × String) := [(60, "no such level"), (71, "too many members"), (83, "no such glider can be"), (85, "too many gliders"), (92, "no such wind"), (94, "no such time"), (96, "no such number of tugs"), (101, "more tugs are taken"), (258, "no such glider"), (113, "the glider flies"), (256, "no such member"), (130, "no promotion now"), (137, "no such fact"), (152, "no such flight can be"), (154, "too many flights"), (260, "no such flight"), (262, "the flight is not on the list"), (186, "no such place"), (199, "the glider is on the ground"), (207, "no such minutes"), (220, "no such count"), (230, "no such amount")]
def nk (w : Cond) : Bool := match w with
  | .fieldLinkNest .. => true
  | .methodLinkNest .. => true
  | .castable .. => true
  | .declares .. => true
  | _ => false
theorem nk_all : nestW.all nk = true := by decide +kernel
theorem nk_warm {w : Cond} {s U : State} (h : nk w = true) (hW : s.WarmedH U.vm) (hw : va_Nw w s) : va_Nw w U := by
  cases w <;> first | exact va_Nw.warmF hW hw | exact va_Nw.warmM hW hw | exact va_Nw.warmC hW hw | exact va_Nw.warmD hW hw | cases h
/-- of the tables: the classes, the arrays' classes, the other words, the texts, Object's array, its mirror -/
def Kt (G : GT) (U : State) : Prop := va_K G.1 vwCl [(G.2.1.1, .int), (G.2.1.2.1, .boolean), (G.2.1.2.2.1, .object "java/lang/Object"), (G.2.1.2.2.2, .long)] U ∧ (∀ w ∈ nestW, va_Nw w U) ∧ (∀ q ∈ strW, vk_R RX3 q.1 q.2 (G.2.2.2 q.1) U) ∧ va_AO "java/lang/Object" U ∧ va_Mi "[Ljava/lang/Object;" G.2.2.1.2 U ∧ va_Nc "java/lang/IllegalStateException" "java/lang/IllegalArgumentException" U ∧ va_Nc "java/lang/IllegalStateException" "java/lang/IndexOutOfBoundsException" U ∧ va_Nc "java/lang/IllegalArgumentException" "java/lang/IndexOutOfBoundsException" U
/-- of the heap: three static fields, the empty array of all new lists -/
def Kh (G : GT) (A : Nat → Prop) (U : State) (H : Heap) : Prop := vx_Zq Bundle.tN "UNASSIGNED_STACK" Bundle.steD A U H ∧ vx_Zq Bundle.tN "SUPPRESSED_SENTINEL" Bundle.listD A U H ∧ va_Z "java/util/ArrayList" "DEFAULTCAPACITY_EMPTY_ELEMENTDATA" "[Ljava/lang/Object;" (.ref G.2.2.1.1) A U H ∧ va_T (.object "java/lang/Object") G.2.2.1.1 0 (fun _ => .null) A U H
theorem Kt.warm {G : GT} {s U : State} (hW : s.WarmedH U.vm) (h : Kt G s) : Kt G U := by
  obtain ⟨h1, h2, h3, h4, h5, h6, h7, h8⟩ := h
  have hA := hW.alike
  exact ⟨va_K.moved hA h1, fun w hw => nk_warm (List.all_eq_true.mp nk_all w hw) hW (h2 w hw), fun q hq => vk_R.warm hW (h3 q hq), h4.moved hA, h5.moved hA, h6.moved hA, h7.moved hA, h8.moved hA⟩
theorem Kh.moved {G : GT} {A : Nat → Prop} {u U : State} {H : Heap} (hvm : u.vm.Alike U.vm) (h : Kh G A u H) : Kh G A U H := ⟨h.1.moved hvm, h.2.1.moved hvm, h.2.2.1.moved hvm, h.2.2.2.moved hvm⟩
theorem Kh.kept {G : GT} {A : Nat → Prop} {U : State} {H H1 : Heap} (h : Kh G A U H) (hq : ∀ a : Nat, a < H.size → ¬ A a → H1[a]? = H[a]?) : Kh G A U H1 := ⟨h.1.kept hq, h.2.1.kept hq, h.2.2.1.kept hq, h.2.2.2.kept hq⟩
theorem Kh.narrow {G : GT} {A B : Nat → Prop} {U : State} {H : Heap} (h : Kh G A U H) (hAB : ∀ q, B q → A q) : Kh G B U H := ⟨h.1.narrow hAB, h.2.1.narrow hAB, h.2.2.1.narrow hAB, h.2.2.2.narrow hAB⟩
abbrev WE : Type := Program × Launch × Env × Room × State × MethodId × Array Value × List Frame × Method × Code × (Nat → Prop) × Nat × (State → Prop)
/-- the walk at a place: heap H, room used, the locals lv, the stack st; nothing outside A has changed since the start -/
def wx : WE → Heap → Nat → Nat → Nat → List (Nat × Value) → List Value → Prop
  | (p, l, e, R, s, m, args, below, meth, c, A, nL, Q), H, k, n, pc, lv, st => ∀ (locs : List Loc) (ls : Array Slot), va_S A s.heap H locs → lv_has ls nL lv → W p l e R s m args below meth c H locs k n Q (F0 m pc ls st)
/-- the same with q thrown -/
def wt : WE → Heap → Nat → Nat → Nat → List (Nat × Value) → Addr → Prop
  | (p, l, e, R, s, m, args, below, meth, c, A, nL, Q), H, k, n, pc, lv, q => ∀ (locs : List Loc) (ls : Array Slot) (st : List Value), va_S A s.heap H locs → lv_has ls nL lv → vx_W p l e R s m args below meth c H locs k n Q (F0 m pc ls st) q
/-- what is fixed in a method's body -/
def fx (L : Launch) (rm : Room) (G : GT) (A : Nat → Prop) (H0 : Heap) (n0 : Nat) (cc : ByteArray) (own : String) : WE → Prop
  | (p, l, _, R, s, m, args, _, meth, c, A1, nL, _) => CallFix p m c cc nL s args WALL own ∧ l = L ∧ R = rm ∧ A1 = A ∧ s.heap = H0 ∧ nL = n0 ∧ Kt G s ∧ Kh G A s H0 ∧ (∀ q, H0.size ≤ q → A q) ∧ meth.locks = false
def ctQ (A : Nat → Prop) (Post : Heap → Option Value → Heap → Prop) : Array Value → State → Outcome → State → Prop := fun _ st o t => ∃ v, o = .returned v ∧ Post st.heap v t.heap ∧ va_F A st t
def ctX (A : Nat → Prop) (PX : Heap → String → Heap → Prop) : String → State → State → Prop := fun E st t => PX st.heap E t.heap ∧ va_F A st t
/-- what is owed at a return -/
def fe (rm : Room) (A : Nat → Prop) (Post : Heap → Option Value → Heap → Prop) (ret : Option FieldType) (nm : String) : WE → Prop
  | (_, _, _, _, s, _, args, below, meth, _, _, _, Q) => (Q = MQ below (ctQ A Post) args s rm.cells rm.slots A ∨ ∃ PX, Q = vx_MQ below (ctQ A Post) (ctX A PX) args s rm.cells rm.slots A) ∧ meth.sig.returnType = ret ∧ meth.name = nm
/-- what is owed at a throw that isn't caught -/
def fX (rm : Room) (A : Nat → Prop) (Post : Heap → Option Value → Heap → Prop) (PX : Heap → String → Heap → Prop) : WE → Prop
  | (_, _, _, _, s, _, args, below, _, c, _, _, Q) => Q = vx_MQ below (ctQ A Post) (ctX A PX) args s rm.cells rm.slots A ∧ ∀ x ∈ c.exceptionTable.toList, False
def ctP (G : GT) (A : Nat → Prop) (av : List Value) (Pre : Heap → Prop) : Array Value → State → Prop := va_Pc av (fun U => Kt G U ∧ Kh G A U U.heap ∧ (∀ q, U.heap.size ≤ q → A q) ∧ Pre U.heap)
/-- a contract: the method returns -/
def Ct (l : Launch) (y : MethodName) (cc : ByteArray) (maxL : Nat) (ret : Option FieldType) (rm : Room) (G : GT) (A : Nat → Prop) (av : List Value) (Pre : Heap → Prop) (Post : Heap → Option Value → Heap → Prop) : Prop :=
  Met l y (.code y cc maxL ret :: WALL) rm (ctP G A av Pre) (ctQ A Post) rm.cells rm.slots A
/-- a contract: the method returns or throws -/
def Cx (l : Launch) (y : MethodName) (cc : ByteArray) (maxL : Nat) (ret : Option FieldType) (rm : Room) (G : GT) (A : Nat → Prop) (av : List Value) (Pre : Heap → Prop) (Post : Heap → Option Value → Heap → Prop) (PX : Heap → String → Heap → Prop) : Prop :=
  vx_Met l y (.code y cc maxL ret :: WALL) rm (ctP G A av Pre) (ctQ A Post) (ctX A PX) rm.cells rm.slots A
theorem ctP_blind {G : GT} {A : Nat → Prop} {av : List Value} {Pre : Heap → Prop} : FrameBlind (ctP G A av Pre) := fun a U g mk q => by
  obtain ⟨h1, h2, h3, h4, h5⟩ := q
  exact ⟨h1, Kt.warm (s := U) (U := U.calling g mk a) (State.WarmedH.refl U) h2, Kh.moved (u := U) (U := U.calling g mk a) (Vm.Alike.refl U.vm) h3, h4, h5⟩
set_option maxHeartbeats 1000000 in
theorem ct_of {l : Launch} {y : MethodName} {cc : ByteArray} {maxL : Nat} {ret : Option FieldType} {rm : Room} {G : GT} {A : Nat → Prop} {av : List Value} {Pre : Heap → Prop} {Post : Heap → Option Value → Heap → Prop} {own : String} (hy : plainName y.cls = true) (hyo : y.cls = own) (hlen : (lg_sl av).length ≤ maxL)
    (body : ∀ (E : WE) (H0 : Heap), fx l rm G A H0 maxL cc own E → fe rm A Post ret y.name E → Pre H0 → wx E H0 0 0 0 (lv_args 0 av) []) : Ct l y cc maxL ret rm G A av Pre Post := by
  refine Met.ofW (cc := cc) (maxL := maxL) (ret := ret) hy rfl ?_
  intro p e s m args below meth c s₁ B hml hv
  obtain ⟨rfl, hKt, hKh, hfr, hpre⟩ := hv
  have hts := atoms_spec (ws := .code y cc maxL ret :: WALL) B.pre
  have hown : s.vm.findClass own = some m.cls := by rw [← hyo]; exact findClass_of_methodNamed B.named
  have K := body (p, l, e, rm, s, m, av.toArray, below, meth, c, A, maxL, MQ below (ctQ A Post) av.toArray s rm.cells rm.slots A) s.heap ⟨⟨B.exec, B.bytes, hml, hown, fun w h => hts w (List.mem_cons_of_mem _ h)⟩, rfl, rfl, rfl, rfl, rfl, hKt, hKh, hfr, B.notSynchronized⟩ ⟨Or.inl rfl, B.returns, (name_of_methodNamed B.named B.method).1⟩ hpre
  have hl := lv_entry av (n := maxL) hlen
  rw [lg_entry_eq]
  exact K [] _ va_S.rf hl
set_option maxHeartbeats 1000000 in
theorem cx_of {l : Launch} {y : MethodName} {cc : ByteArray} {maxL : Nat} {ret : Option FieldType} {rm : Room} {G : GT} {A : Nat → Prop} {av : List Value} {Pre : Heap → Prop} {Post : Heap → Option Value → Heap → Prop} {PX : Heap → String → Heap → Prop} {own : String} (hy : plainName y.cls = true) (hyo : y.cls = own) (hlen : (lg_sl av).length ≤ maxL)
    (body : ∀ (E : WE) (H0 : Heap), fx l rm G A H0 maxL cc own E → fe rm A Post ret y.name E → fX rm A Post PX E → Pre H0 → wx E H0 0 0 0 (lv_args 0 av) []) : Cx l y cc maxL ret rm G A av Pre Post PX := by
  refine vx_ofW (cc := cc) (maxL := maxL) (ret := ret) hy rfl ?_
  intro p e s m args below meth c s₁ B hml hex hv
  obtain ⟨rfl, hKt, hKh, hfr, hpre⟩ := hv
  have hts := atoms_spec (ws := .code y cc maxL ret :: WALL) B.pre
  have hown : s.vm.findClass own = some m.cls := by rw [← hyo]; exact findClass_of_methodNamed B.named
  have K := body (p, l, e, rm, s, m, av.toArray, below, meth, c, A, maxL, vx_MQ below (ctQ A Post) (ctX A PX) av.toArray s rm.cells rm.slots A) s.heap ⟨⟨B.exec, B.bytes, hml, hown, fun w h => hts w (List.mem_cons_of_mem _ h)⟩, rfl, rfl, rfl, rfl, rfl, hKt, hKh, hfr, B.notSynchronized⟩ ⟨Or.inr ⟨PX, rfl⟩, B.returns, (name_of_methodNamed B.named B.method).1⟩ ⟨rfl, hex⟩ hpre
  have hl := lv_entry av (n := maxL) hlen
  rw [lg_entry_eq]
  exact K [] _ va_S.rf hl
end FR0
section FR1
variable {L : Launch} {rm : Room} {G : GT} {A : Nat → Prop} {H0 : Heap} {n0 : Nat} {cc : ByteArray} {own : String} {E : WE} {H : Heap} {k n pc : Nat} {lv lv' : List (Nat × Value)} {st : List Value} {ret : Option FieldType} {nm : String} {Post : Heap → Option Value → Heap → Prop}
theorem x_iload_n (F : fx L rm G A H0 n0 cc own E) {q : Fin 4} {i : Nat} {x : Int32} (hd : decode cc pc = .ok (.iload_n q, 1)) (j : Nat) (hj : lv[j]? = some (i, .int x)) (hi : (q : Nat) = i) (kk : wx E H k n (pc + 1) lv (.int x :: st)) : wx E H k n pc lv st := by
  obtain ⟨p, l, e, R, s, m, args, below, meth, c, A1, nL, Q⟩ := E
  obtain ⟨⟨hx, hb, hml, hown, hts⟩, hL, hR, hAA, hH0, hnL, hKt, hKh, hfr, hlk⟩ := F
  intro locs ls hS hl
  exact lv_iload_n hx hb hd hi (lv_at hl j hj) (kk locs ls hS hl)
theorem x_iload (F : fx L rm G A H0 n0 cc own E) {i : Nat} {x : Int32} (hd : decode cc pc = .ok (.iload i, 2)) (j : Nat) (hj : lv[j]? = some (i, .int x)) (kk : wx E H k n (pc + 2) lv (.int x :: st)) : wx E H k n pc lv st := by
  obtain ⟨p, l, e, R, s, m, args, below, meth, c, A1, nL, Q⟩ := E
  obtain ⟨⟨hx, hb, hml, hown, hts⟩, hL, hR, hAA, hH0, hnL, hKt, hKh, hfr, hlk⟩ := F
  intro locs ls hS hl
  exact lv_iload hx hb hd (lv_at hl j hj) (kk locs ls hS hl)
theorem x_aload_n (F : fx L rm G A H0 n0 cc own E) {q : Fin 4} {i : Nat} {x : Nat} (hd : decode cc pc = .ok (.aload_n q, 1)) (j : Nat) (hj : lv[j]? = some (i, .ref x)) (hi : (q : Nat) = i) (kk : wx E H k n (pc + 1) lv (.ref x :: st)) : wx E H k n pc lv st := by
  obtain ⟨p, l, e, R, s, m, args, below, meth, c, A1, nL, Q⟩ := E
  obtain ⟨⟨hx, hb, hml, hown, hts⟩, hL, hR, hAA, hH0, hnL, hKt, hKh, hfr, hlk⟩ := F
  intro locs ls hS hl
  exact lv_aload_n hx hb hd hi (lv_at hl j hj) (kk locs ls hS hl)
theorem x_aload (F : fx L rm G A H0 n0 cc own E) {i : Nat} {x : Nat} (hd : decode cc pc = .ok (.aload i, 2)) (j : Nat) (hj : lv[j]? = some (i, .ref x)) (kk : wx E H k n (pc + 2) lv (.ref x :: st)) : wx E H k n pc lv st := by
  obtain ⟨p, l, e, R, s, m, args, below, meth, c, A1, nL, Q⟩ := E
  obtain ⟨⟨hx, hb, hml, hown, hts⟩, hL, hR, hAA, hH0, hnL, hKt, hKh, hfr, hlk⟩ := F
  intro locs ls hS hl
  exact lv_aload hx hb hd (lv_at hl j hj) (kk locs ls hS hl)
theorem x_lload_n (F : fx L rm G A H0 n0 cc own E) {q : Fin 4} {i : Nat} {x : Int64} (hd : decode cc pc = .ok (.lload_n q, 1)) (j : Nat) (hj : lv[j]? = some (i, .long x)) (hi : (q : Nat) = i) (kk : wx E H k n (pc + 1) lv (.long x :: st)) : wx E H k n pc lv st := by
  obtain ⟨p, l, e, R, s, m, args, below, meth, c, A1, nL, Q⟩ := E
  obtain ⟨⟨hx, hb, hml, hown, hts⟩, hL, hR, hAA, hH0, hnL, hKt, hKh, hfr, hlk⟩ := F
  intro locs ls hS hl
  exact lv_lload_n hx hb hd hi (lv_at hl j hj) (kk locs ls hS hl)
theorem x_lload (F : fx L rm G A H0 n0 cc own E) {i : Nat} {x : Int64} (hd : decode cc pc = .ok (.lload i, 2)) (j : Nat) (hj : lv[j]? = some (i, .long x)) (kk : wx E H k n (pc + 2) lv (.long x :: st)) : wx E H k n pc lv st := by
  obtain ⟨p, l, e, R, s, m, args, below, meth, c, A1, nL, Q⟩ := E
  obtain ⟨⟨hx, hb, hml, hown, hts⟩, hL, hR, hAA, hH0, hnL, hKt, hKh, hfr, hlk⟩ := F
  intro locs ls hS hl
  exact lv_lload hx hb hd (lv_at hl j hj) (kk locs ls hS hl)
theorem x_dload_n (F : fx L rm G A H0 n0 cc own E) {q : Fin 4} {i : Nat} {x : UInt64} (hd : decode cc pc = .ok (.dload_n q, 1)) (j : Nat) (hj : lv[j]? = some (i, .double x)) (hi : (q : Nat) = i) (kk : wx E H k n (pc + 1) lv (.double x :: st)) : wx E H k n pc lv st := by
  obtain ⟨p, l, e, R, s, m, args, below, meth, c, A1, nL, Q⟩ := E
  obtain ⟨⟨hx, hb, hml, hown, hts⟩, hL, hR, hAA, hH0, hnL, hKt, hKh, hfr, hlk⟩ := F
  intro locs ls hS hl
  exact lv_dload_n hx hb hd hi (lv_at hl j hj) (kk locs ls hS hl)
theorem x_dload (F : fx L rm G A H0 n0 cc own E) {i : Nat} {x : UInt64} (hd : decode cc pc = .ok (.dload i, 2)) (j : Nat) (hj : lv[j]? = some (i, .double x)) (kk : wx E H k n (pc + 2) lv (.double x :: st)) : wx E H k n pc lv st := by
  obtain ⟨p, l, e, R, s, m, args, below, meth, c, A1, nL, Q⟩ := E
  obtain ⟨⟨hx, hb, hml, hown, hts⟩, hL, hR, hAA, hH0, hnL, hKt, hKh, hfr, hlk⟩ := F
  intro locs ls hS hl
  exact lv_dload hx hb hd (lv_at hl j hj) (kk locs ls hS hl)
theorem x_istore_n (F : fx L rm G A H0 n0 cc own E) {q : Fin 4} {i : Nat} {x : Int32} (hd : decode cc pc = .ok (.istore_n q, 1)) (hi : (q : Nat) = i) (hn : i < n0) (hl2 : (i, Value.int x) :: lv.filter (fun q => !(q.1 == i) && !(q.1 + 1 == i && q.2.category == 2)) = lv') (kk : wx E H k n (pc + 1) lv' st) : wx E H k n pc lv (.int x :: st) := by
  obtain ⟨p, l, e, R, s, m, args, below, meth, c, A1, nL, Q⟩ := E
  obtain ⟨⟨hx, hb, hml, hown, hts⟩, hL, hR, hAA, hH0, hnL, hKt, hKh, hfr, hlk⟩ := F
  intro locs ls hS hl
  exact lv_istore_n hx hb hd hi hl (by rw [hnL]; exact hn) hl2 (fun ls2 hl3 => kk locs ls2 hS hl3)
theorem x_istore (F : fx L rm G A H0 n0 cc own E) {i : Nat} {x : Int32} (hd : decode cc pc = .ok (.istore i, 2)) (hn : i < n0) (hl2 : (i, Value.int x) :: lv.filter (fun q => !(q.1 == i) && !(q.1 + 1 == i && q.2.category == 2)) = lv') (kk : wx E H k n (pc + 2) lv' st) : wx E H k n pc lv (.int x :: st) := by
  obtain ⟨p, l, e, R, s, m, args, below, meth, c, A1, nL, Q⟩ := E
  obtain ⟨⟨hx, hb, hml, hown, hts⟩, hL, hR, hAA, hH0, hnL, hKt, hKh, hfr, hlk⟩ := F
  intro locs ls hS hl
  exact lv_istore hx hb hd hl (by rw [hnL]; exact hn) hl2 (fun ls2 hl3 => kk locs ls2 hS hl3)
theorem x_astore_n (F : fx L rm G A H0 n0 cc own E) {q : Fin 4} {i : Nat} {x : Nat} (hd : decode cc pc = .ok (.astore_n q, 1)) (hi : (q : Nat) = i) (hn : i < n0) (hl2 : (i, Value.ref x) :: lv.filter (fun q => !(q.1 == i) && !(q.1 + 1 == i && q.2.category == 2)) = lv') (kk : wx E H k n (pc + 1) lv' st) : wx E H k n pc lv (.ref x :: st) := by
  obtain ⟨p, l, e, R, s, m, args, below, meth, c, A1, nL, Q⟩ := E
  obtain ⟨⟨hx, hb, hml, hown, hts⟩, hL, hR, hAA, hH0, hnL, hKt, hKh, hfr, hlk⟩ := F
  intro locs ls hS hl
  exact lv_astore_n hx hb hd hi hl (by rw [hnL]; exact hn) hl2 (fun ls2 hl3 => kk locs ls2 hS hl3)
theorem x_astore (F : fx L rm G A H0 n0 cc own E) {i : Nat} {x : Nat} (hd : decode cc pc = .ok (.astore i, 2)) (hn : i < n0) (hl2 : (i, Value.ref x) :: lv.filter (fun q => !(q.1 == i) && !(q.1 + 1 == i && q.2.category == 2)) = lv') (kk : wx E H k n (pc + 2) lv' st) : wx E H k n pc lv (.ref x :: st) := by
  obtain ⟨p, l, e, R, s, m, args, below, meth, c, A1, nL, Q⟩ := E
  obtain ⟨⟨hx, hb, hml, hown, hts⟩, hL, hR, hAA, hH0, hnL, hKt, hKh, hfr, hlk⟩ := F
  intro locs ls hS hl
  exact lv_astore hx hb hd hl (by rw [hnL]; exact hn) hl2 (fun ls2 hl3 => kk locs ls2 hS hl3)
theorem x_iinc (F : fx L rm G A H0 n0 cc own E) {i j : Nat} {z : Int} {x v : Int32} (hd : decode cc pc = .ok (.iinc i z, 3)) (hj : lv[j]? = some (i, .int x)) (hv : x + Int32.ofInt z = v) (hn : i < n0) (hl2 : (i, Value.int v) :: lv.filter (fun q => !(q.1 == i) && !(q.1 + 1 == i && q.2.category == 2)) = lv') (kk : wx E H k n (pc + 3) lv' st) : wx E H k n pc lv st := by
  obtain ⟨p, l, e, R, s, m, args, below, meth, c, A1, nL, Q⟩ := E
  obtain ⟨⟨hx, hb, hml, hown, hts⟩, hL, hR, hAA, hH0, hnL, hKt, hKh, hfr, hlk⟩ := F
  intro locs ls hS hl
  exact lv_iinc hx hb hd hl hj hv (by rw [hnL]; exact hn) hl2 (fun ls2 hl3 => kk locs ls2 hS hl3)
theorem x_iconst (F : fx L rm G A H0 n0 cc own E) {z : Int} {v : Int32} (hv : Int32.ofInt z = v) (hd : decode cc pc = .ok (.iconst z, 1)) (kk : wx E H k n (pc + 1) lv (.int v :: st)) : wx E H k n pc lv (st) := by
  obtain ⟨p, l, e, R, s, m, args, below, meth, c, A1, nL, Q⟩ := E
  obtain ⟨⟨hx, hb, hml, hown, hts⟩, hL, hR, hAA, hH0, hnL, hKt, hKh, hfr, hlk⟩ := F
  intro locs ls hS hl
  exact lv_iconst hx hb hd hv (kk locs ls hS hl)
theorem x_bipush (F : fx L rm G A H0 n0 cc own E) {z : Int} {v : Int32} (hv : (Int8.ofInt z).toInt32 = v) (hd : decode cc pc = .ok (.bipush z, 2)) (kk : wx E H k n (pc + 2) lv (.int v :: st)) : wx E H k n pc lv (st) := by
  obtain ⟨p, l, e, R, s, m, args, below, meth, c, A1, nL, Q⟩ := E
  obtain ⟨⟨hx, hb, hml, hown, hts⟩, hL, hR, hAA, hH0, hnL, hKt, hKh, hfr, hlk⟩ := F
  intro locs ls hS hl
  exact lv_bipush hx hb hd hv (kk locs ls hS hl)
theorem x_sipush (F : fx L rm G A H0 n0 cc own E) {z : Int} {v : Int32} (hv : (Int16.ofInt z).toInt32 = v) (hd : decode cc pc = .ok (.sipush z, 3)) (kk : wx E H k n (pc + 3) lv (.int v :: st)) : wx E H k n pc lv (st) := by
  obtain ⟨p, l, e, R, s, m, args, below, meth, c, A1, nL, Q⟩ := E
  obtain ⟨⟨hx, hb, hml, hown, hts⟩, hL, hR, hAA, hH0, hnL, hKt, hKh, hfr, hlk⟩ := F
  intro locs ls hS hl
  exact lv_sipush hx hb hd hv (kk locs ls hS hl)
theorem x_ldc (F : fx L rm G A H0 n0 cc own E) {i : Nat} {v : Int32} (hc : Cond.constant own i v ∈ WALL) (hd : decode cc pc = .ok (.ldc i, 2)) (kk : wx E H k n (pc + 2) lv (.int v :: st)) : wx E H k n pc lv st := by
  obtain ⟨p, l, e, R, s, m, args, below, meth, c, A1, nL, Q⟩ := E
  obtain ⟨⟨hx, hb, hml, hown, hts⟩, hL, hR, hAA, hH0, hnL, hKt, hKh, hfr, hlk⟩ := F
  intro locs ls hS hl
  exact lv_ldc hx hb hown (hts _ hc) hd (kk locs ls hS hl)
theorem x_iadd (F : fx L rm G A H0 n0 cc own E) {x y : Int32} (hd : decode cc pc = .ok (.iadd, 1)) (kk : wx E H k n (pc + 1) lv (.int (x + y) :: st)) : wx E H k n pc lv (.int y :: .int x :: st) := by
  obtain ⟨p, l, e, R, s, m, args, below, meth, c, A1, nL, Q⟩ := E
  obtain ⟨⟨hx, hb, hml, hown, hts⟩, hL, hR, hAA, hH0, hnL, hKt, hKh, hfr, hlk⟩ := F
  intro locs ls hS hl
  exact lv_iadd hx hb hd (kk locs ls hS hl)
theorem x_isub (F : fx L rm G A H0 n0 cc own E) {x y : Int32} (hd : decode cc pc = .ok (.isub, 1)) (kk : wx E H k n (pc + 1) lv (.int (x - y) :: st)) : wx E H k n pc lv (.int y :: .int x :: st) := by
  obtain ⟨p, l, e, R, s, m, args, below, meth, c, A1, nL, Q⟩ := E
  obtain ⟨⟨hx, hb, hml, hown, hts⟩, hL, hR, hAA, hH0, hnL, hKt, hKh, hfr, hlk⟩ := F
  intro locs ls hS hl
  exact lv_isub hx hb hd (kk locs ls hS hl)
theorem x_imul (F : fx L rm G A H0 n0 cc own E) {x y : Int32} (hd : decode cc pc = .ok (.imul, 1)) (kk : wx E H k n (pc + 1) lv (.int (x * y) :: st)) : wx E H k n pc lv (.int y :: .int x :: st) := by
  obtain ⟨p, l, e, R, s, m, args, below, meth, c, A1, nL, Q⟩ := E
  obtain ⟨⟨hx, hb, hml, hown, hts⟩, hL, hR, hAA, hH0, hnL, hKt, hKh, hfr, hlk⟩ := F
  intro locs ls hS hl
  exact lv_imul hx hb hd (kk locs ls hS hl)
theorem x_iand (F : fx L rm G A H0 n0 cc own E) {x y : Int32} (hd : decode cc pc = .ok (.iand, 1)) (kk : wx E H k n (pc + 1) lv (.int (x &&& y) :: st)) : wx E H k n pc lv (.int y :: .int x :: st) := by
  obtain ⟨p, l, e, R, s, m, args, below, meth, c, A1, nL, Q⟩ := E
  obtain ⟨⟨hx, hb, hml, hown, hts⟩, hL, hR, hAA, hH0, hnL, hKt, hKh, hfr, hlk⟩ := F
  intro locs ls hS hl
  exact lv_iand hx hb hd (kk locs ls hS hl)
theorem x_idiv (F : fx L rm G A H0 n0 cc own E) {x y : Int32} (hd : decode cc pc = .ok (.idiv, 1)) (hne : ¬ y = 0) (kk : wx E H k n (pc + 1) lv (.int (x / y) :: st)) : wx E H k n pc lv (.int y :: .int x :: st) := by
  obtain ⟨p, l, e, R, s, m, args, below, meth, c, A1, nL, Q⟩ := E
  obtain ⟨⟨hx, hb, hml, hown, hts⟩, hL, hR, hAA, hH0, hnL, hKt, hKh, hfr, hlk⟩ := F
  intro locs ls hS hl
  exact lv_idiv hx hb hd hne (kk locs ls hS hl)
theorem x_ineg (F : fx L rm G A H0 n0 cc own E) {x : Int32} (hd : decode cc pc = .ok (.ineg, 1)) (kk : wx E H k n (pc + 1) lv (.int (-x) :: st)) : wx E H k n pc lv (.int x :: st) := by
  obtain ⟨p, l, e, R, s, m, args, below, meth, c, A1, nL, Q⟩ := E
  obtain ⟨⟨hx, hb, hml, hown, hts⟩, hL, hR, hAA, hH0, hnL, hKt, hKh, hfr, hlk⟩ := F
  intro locs ls hS hl
  exact lv_ineg hx hb hd (kk locs ls hS hl)
theorem x_ladd (F : fx L rm G A H0 n0 cc own E) {x y : Int64} (hd : decode cc pc = .ok (.ladd, 1)) (kk : wx E H k n (pc + 1) lv (.long (x + y) :: st)) : wx E H k n pc lv (.long y :: .long x :: st) := by
  obtain ⟨p, l, e, R, s, m, args, below, meth, c, A1, nL, Q⟩ := E
  obtain ⟨⟨hx, hb, hml, hown, hts⟩, hL, hR, hAA, hH0, hnL, hKt, hKh, hfr, hlk⟩ := F
  intro locs ls hS hl
  exact lv_ladd hx hb hd (kk locs ls hS hl)
theorem x_lmul (F : fx L rm G A H0 n0 cc own E) {x y : Int64} (hd : decode cc pc = .ok (.lmul, 1)) (kk : wx E H k n (pc + 1) lv (.long (x * y) :: st)) : wx E H k n pc lv (.long y :: .long x :: st) := by
  obtain ⟨p, l, e, R, s, m, args, below, meth, c, A1, nL, Q⟩ := E
  obtain ⟨⟨hx, hb, hml, hown, hts⟩, hL, hR, hAA, hH0, hnL, hKt, hKh, hfr, hlk⟩ := F
  intro locs ls hS hl
  exact lv_lmul hx hb hd (kk locs ls hS hl)
theorem x_i2l (F : fx L rm G A H0 n0 cc own E) {x : Int32} (hd : decode cc pc = .ok (.i2l, 1)) (kk : wx E H k n (pc + 1) lv (.long x.toInt64 :: st)) : wx E H k n pc lv (.int x :: st) := by
  obtain ⟨p, l, e, R, s, m, args, below, meth, c, A1, nL, Q⟩ := E
  obtain ⟨⟨hx, hb, hml, hown, hts⟩, hL, hR, hAA, hH0, hnL, hKt, hKh, hfr, hlk⟩ := F
  intro locs ls hS hl
  exact lv_i2l hx hb hd rfl (kk locs ls hS hl)
theorem x_dup (F : fx L rm G A H0 n0 cc own E) {v : Value} (hd : decode cc pc = .ok (.dup, 1)) (hv : v.category = 1) (kk : wx E H k n (pc + 1) lv (v :: v :: st)) : wx E H k n pc lv (v :: st) := by
  obtain ⟨p, l, e, R, s, m, args, below, meth, c, A1, nL, Q⟩ := E
  obtain ⟨⟨hx, hb, hml, hown, hts⟩, hL, hR, hAA, hH0, hnL, hKt, hKh, hfr, hlk⟩ := F
  intro locs ls hS hl
  exact lv_dup hx hb hd hv (kk locs ls hS hl)
theorem x_pop (F : fx L rm G A H0 n0 cc own E) {v : Value} (hd : decode cc pc = .ok (.pop, 1)) (hv : v.category = 1) (kk : wx E H k n (pc + 1) lv st) : wx E H k n pc lv (v :: st) := by
  obtain ⟨p, l, e, R, s, m, args, below, meth, c, A1, nL, Q⟩ := E
  obtain ⟨⟨hx, hb, hml, hown, hts⟩, hL, hR, hAA, hH0, hnL, hKt, hKh, hfr, hlk⟩ := F
  intro locs ls hS hl
  exact lv_pop hx hb hd hv (kk locs ls hS hl)
theorem x_icmp_eq (F : fx L rm G A H0 n0 cc own E) {x y : Int32} {off : Int} {tgt : Nat} (hd : decode cc pc = .ok (.if_icmp .eq off, 3)) (ht : (pc : Int) + off = (tgt : Int)) (k1 : x = y → wx E H k n tgt lv st) (k2 : ¬ x = y → wx E H k n (pc + 3) lv st) : wx E H k n pc lv (.int y :: .int x :: st) := by
  obtain ⟨p, l, e, R, s, m, args, below, meth, c, A1, nL, Q⟩ := E
  obtain ⟨⟨hx, hb, hml, hown, hts⟩, hL, hR, hAA, hH0, hnL, hKt, hKh, hfr, hlk⟩ := F
  intro locs ls hS hl
  exact lv_icmp_eq hx hb hd ht (fun h => k1 h locs ls hS hl) (fun h => k2 h locs ls hS hl)
theorem x_if_eq (F : fx L rm G A H0 n0 cc own E) {x : Int32} {off : Int} {tgt : Nat} (hd : decode cc pc = .ok (.ifCond .eq off, 3)) (ht : (pc : Int) + off = (tgt : Int)) (k1 : x = 0 → wx E H k n tgt lv st) (k2 : ¬ x = 0 → wx E H k n (pc + 3) lv st) : wx E H k n pc lv (.int x :: st) := by
  obtain ⟨p, l, e, R, s, m, args, below, meth, c, A1, nL, Q⟩ := E
  obtain ⟨⟨hx, hb, hml, hown, hts⟩, hL, hR, hAA, hH0, hnL, hKt, hKh, hfr, hlk⟩ := F
  intro locs ls hS hl
  exact lv_if_eq hx hb hd ht (fun h => k1 h locs ls hS hl) (fun h => k2 h locs ls hS hl)
theorem x_icmp_ne (F : fx L rm G A H0 n0 cc own E) {x y : Int32} {off : Int} {tgt : Nat} (hd : decode cc pc = .ok (.if_icmp .ne off, 3)) (ht : (pc : Int) + off = (tgt : Int)) (k1 : x ≠ y → wx E H k n tgt lv st) (k2 : x = y → wx E H k n (pc + 3) lv st) : wx E H k n pc lv (.int y :: .int x :: st) := by
  obtain ⟨p, l, e, R, s, m, args, below, meth, c, A1, nL, Q⟩ := E
  obtain ⟨⟨hx, hb, hml, hown, hts⟩, hL, hR, hAA, hH0, hnL, hKt, hKh, hfr, hlk⟩ := F
  intro locs ls hS hl
  exact lv_icmp_ne hx hb hd ht (fun h => k1 h locs ls hS hl) (fun h => k2 h locs ls hS hl)
theorem x_if_ne (F : fx L rm G A H0 n0 cc own E) {x : Int32} {off : Int} {tgt : Nat} (hd : decode cc pc = .ok (.ifCond .ne off, 3)) (ht : (pc : Int) + off = (tgt : Int)) (k1 : x ≠ 0 → wx E H k n tgt lv st) (k2 : x = 0 → wx E H k n (pc + 3) lv st) : wx E H k n pc lv (.int x :: st) := by
  obtain ⟨p, l, e, R, s, m, args, below, meth, c, A1, nL, Q⟩ := E
  obtain ⟨⟨hx, hb, hml, hown, hts⟩, hL, hR, hAA, hH0, hnL, hKt, hKh, hfr, hlk⟩ := F
  intro locs ls hS hl
  exact lv_if_ne hx hb hd ht (fun h => k1 h locs ls hS hl) (fun h => k2 h locs ls hS hl)
theorem x_icmp_lt (F : fx L rm G A H0 n0 cc own E) {x y : Int32} {off : Int} {tgt : Nat} (hd : decode cc pc = .ok (.if_icmp .lt off, 3)) (ht : (pc : Int) + off = (tgt : Int)) (k1 : x < y → wx E H k n tgt lv st) (k2 : ¬ x < y → wx E H k n (pc + 3) lv st) : wx E H k n pc lv (.int y :: .int x :: st) := by
  obtain ⟨p, l, e, R, s, m, args, below, meth, c, A1, nL, Q⟩ := E
  obtain ⟨⟨hx, hb, hml, hown, hts⟩, hL, hR, hAA, hH0, hnL, hKt, hKh, hfr, hlk⟩ := F
  intro locs ls hS hl
  exact lv_icmp_lt hx hb hd ht (fun h => k1 h locs ls hS hl) (fun h => k2 h locs ls hS hl)
theorem x_if_lt (F : fx L rm G A H0 n0 cc own E) {x : Int32} {off : Int} {tgt : Nat} (hd : decode cc pc = .ok (.ifCond .lt off, 3)) (ht : (pc : Int) + off = (tgt : Int)) (k1 : x < 0 → wx E H k n tgt lv st) (k2 : ¬ x < 0 → wx E H k n (pc + 3) lv st) : wx E H k n pc lv (.int x :: st) := by
  obtain ⟨p, l, e, R, s, m, args, below, meth, c, A1, nL, Q⟩ := E
  obtain ⟨⟨hx, hb, hml, hown, hts⟩, hL, hR, hAA, hH0, hnL, hKt, hKh, hfr, hlk⟩ := F
  intro locs ls hS hl
  exact lv_if_lt hx hb hd ht (fun h => k1 h locs ls hS hl) (fun h => k2 h locs ls hS hl)
theorem x_icmp_ge (F : fx L rm G A H0 n0 cc own E) {x y : Int32} {off : Int} {tgt : Nat} (hd : decode cc pc = .ok (.if_icmp .ge off, 3)) (ht : (pc : Int) + off = (tgt : Int)) (k1 : y ≤ x → wx E H k n tgt lv st) (k2 : ¬ y ≤ x → wx E H k n (pc + 3) lv st) : wx E H k n pc lv (.int y :: .int x :: st) := by
  obtain ⟨p, l, e, R, s, m, args, below, meth, c, A1, nL, Q⟩ := E
  obtain ⟨⟨hx, hb, hml, hown, hts⟩, hL, hR, hAA, hH0, hnL, hKt, hKh, hfr, hlk⟩ := F
  intro locs ls hS hl
  exact lv_icmp_ge hx hb hd ht (fun h => k1 h locs ls hS hl) (fun h => k2 h locs ls hS hl)
theorem x_if_ge (F : fx L rm G A H0 n0 cc own E) {x : Int32} {off : Int} {tgt : Nat} (hd : decode cc pc = .ok (.ifCond .ge off, 3)) (ht : (pc : Int) + off = (tgt : Int)) (k1 : 0 ≤ x → wx E H k n tgt lv st) (k2 : ¬ 0 ≤ x → wx E H k n (pc + 3) lv st) : wx E H k n pc lv (.int x :: st) := by
  obtain ⟨p, l, e, R, s, m, args, below, meth, c, A1, nL, Q⟩ := E
  obtain ⟨⟨hx, hb, hml, hown, hts⟩, hL, hR, hAA, hH0, hnL, hKt, hKh, hfr, hlk⟩ := F
  intro locs ls hS hl
  exact lv_if_ge hx hb hd ht (fun h => k1 h locs ls hS hl) (fun h => k2 h locs ls hS hl)
theorem x_icmp_gt (F : fx L rm G A H0 n0 cc own E) {x y : Int32} {off : Int} {tgt : Nat} (hd : decode cc pc = .ok (.if_icmp .gt off, 3)) (ht : (pc : Int) + off = (tgt : Int)) (k1 : y < x → wx E H k n tgt lv st) (k2 : ¬ y < x → wx E H k n (pc + 3) lv st) : wx E H k n pc lv (.int y :: .int x :: st) := by
  obtain ⟨p, l, e, R, s, m, args, below, meth, c, A1, nL, Q⟩ := E
  obtain ⟨⟨hx, hb, hml, hown, hts⟩, hL, hR, hAA, hH0, hnL, hKt, hKh, hfr, hlk⟩ := F
  intro locs ls hS hl
  exact lv_icmp_gt hx hb hd ht (fun h => k1 h locs ls hS hl) (fun h => k2 h locs ls hS hl)
theorem x_if_gt (F : fx L rm G A H0 n0 cc own E) {x : Int32} {off : Int} {tgt : Nat} (hd : decode cc pc = .ok (.ifCond .gt off, 3)) (ht : (pc : Int) + off = (tgt : Int)) (k1 : 0 < x → wx E H k n tgt lv st) (k2 : ¬ 0 < x → wx E H k n (pc + 3) lv st) : wx E H k n pc lv (.int x :: st) := by
  obtain ⟨p, l, e, R, s, m, args, below, meth, c, A1, nL, Q⟩ := E
  obtain ⟨⟨hx, hb, hml, hown, hts⟩, hL, hR, hAA, hH0, hnL, hKt, hKh, hfr, hlk⟩ := F
  intro locs ls hS hl
  exact lv_if_gt hx hb hd ht (fun h => k1 h locs ls hS hl) (fun h => k2 h locs ls hS hl)
theorem x_icmp_le (F : fx L rm G A H0 n0 cc own E) {x y : Int32} {off : Int} {tgt : Nat} (hd : decode cc pc = .ok (.if_icmp .le off, 3)) (ht : (pc : Int) + off = (tgt : Int)) (k1 : x ≤ y → wx E H k n tgt lv st) (k2 : ¬ x ≤ y → wx E H k n (pc + 3) lv st) : wx E H k n pc lv (.int y :: .int x :: st) := by
  obtain ⟨p, l, e, R, s, m, args, below, meth, c, A1, nL, Q⟩ := E
  obtain ⟨⟨hx, hb, hml, hown, hts⟩, hL, hR, hAA, hH0, hnL, hKt, hKh, hfr, hlk⟩ := F
  intro locs ls hS hl
  exact lv_icmp_le hx hb hd ht (fun h => k1 h locs ls hS hl) (fun h => k2 h locs ls hS hl)
theorem x_if_le (F : fx L rm G A H0 n0 cc own E) {x : Int32} {off : Int} {tgt : Nat} (hd : decode cc pc = .ok (.ifCond .le off, 3)) (ht : (pc : Int) + off = (tgt : Int)) (k1 : x ≤ 0 → wx E H k n tgt lv st) (k2 : ¬ x ≤ 0 → wx E H k n (pc + 3) lv st) : wx E H k n pc lv (.int x :: st) := by
  obtain ⟨p, l, e, R, s, m, args, below, meth, c, A1, nL, Q⟩ := E
  obtain ⟨⟨hx, hb, hml, hown, hts⟩, hL, hR, hAA, hH0, hnL, hKt, hKh, hfr, hlk⟩ := F
  intro locs ls hS hl
  exact lv_if_le hx hb hd ht (fun h => k1 h locs ls hS hl) (fun h => k2 h locs ls hS hl)
theorem x_goto (F : fx L rm G A H0 n0 cc own E) {off : Int} {tgt : Nat} (hd : decode cc pc = .ok (.goto off, 3)) (ht : (pc : Int) + off = (tgt : Int)) (kk : wx E H k n tgt lv st) : wx E H k n pc lv st := by
  obtain ⟨p, l, e, R, s, m, args, below, meth, c, A1, nL, Q⟩ := E
  obtain ⟨⟨hx, hb, hml, hown, hts⟩, hL, hR, hAA, hH0, hnL, hKt, hKh, hfr, hlk⟩ := F
  intro locs ls hS hl
  exact lv_goto hx hb hd ht (kk locs ls hS hl)
theorem x_ifnull (F : fx L rm G A H0 n0 cc own E) {x : Nat} {off : Int} (hd : decode cc pc = .ok (.ifnull off, 3)) (kk : wx E H k n (pc + 3) lv st) : wx E H k n pc lv (.ref x :: st) := by
  obtain ⟨p, l, e, R, s, m, args, below, meth, c, A1, nL, Q⟩ := E
  obtain ⟨⟨hx, hb, hml, hown, hts⟩, hL, hR, hAA, hH0, hnL, hKt, hKh, hfr, hlk⟩ := F
  intro locs ls hS hl
  exact lv_ifnull hx hb hd (kk locs ls hS hl)
theorem x_ifnullN (F : fx L rm G A H0 n0 cc own E) {off : Int} {tgt : Nat} (hd : decode cc pc = .ok (.ifnull off, 3)) (ht : (pc : Int) + off = (tgt : Int)) (kk : wx E H k n tgt lv st) : wx E H k n pc lv (.null :: st) := by
  obtain ⟨p, l, e, R, s, m, args, below, meth, c, A1, nL, Q⟩ := E
  obtain ⟨⟨hx, hb, hml, hown, hts⟩, hL, hR, hAA, hH0, hnL, hKt, hKh, hfr, hlk⟩ := F
  intro locs ls hS hl
  exact lv_ifnullN hx hb hd ht (kk locs ls hS hl)
theorem x_ifnonnull (F : fx L rm G A H0 n0 cc own E) {x : Nat} {off : Int} {tgt : Nat} (hd : decode cc pc = .ok (.ifnonnull off, 3)) (ht : (pc : Int) + off = (tgt : Int)) (kk : wx E H k n tgt lv st) : wx E H k n pc lv (.ref x :: st) := by
  obtain ⟨p, l, e, R, s, m, args, below, meth, c, A1, nL, Q⟩ := E
  obtain ⟨⟨hx, hb, hml, hown, hts⟩, hL, hR, hAA, hH0, hnL, hKt, hKh, hfr, hlk⟩ := F
  intro locs ls hS hl
  exact lv_ifnonnull hx hb hd ht (kk locs ls hS hl)
theorem x_ifnonnullN (F : fx L rm G A H0 n0 cc own E) {off : Int} (hd : decode cc pc = .ok (.ifnonnull off, 3)) (kk : wx E H k n (pc + 3) lv st) : wx E H k n pc lv (.null :: st) := by
  obtain ⟨p, l, e, R, s, m, args, below, meth, c, A1, nL, Q⟩ := E
  obtain ⟨⟨hx, hb, hml, hown, hts⟩, hL, hR, hAA, hH0, hnL, hKt, hKh, hfr, hlk⟩ := F
  intro locs ls hS hl
  exact lv_ifnonnullN hx hb hd (kk locs ls hS hl)
theorem x_null (F : fx L rm G A H0 n0 cc own E) (hd : decode cc pc = .ok (.aconst_null, 1)) (kk : wx E H k n (pc + 1) lv (.null :: st)) : wx E H k n pc lv st := by
  obtain ⟨p, l, e, R, s, m, args, below, meth, c, A1, nL, Q⟩ := E
  obtain ⟨⟨hx, hb, hml, hown, hts⟩, hL, hR, hAA, hH0, hnL, hKt, hKh, hfr, hlk⟩ := F
  intro locs ls hS hl
  exact lv_null hx hb hd (kk locs ls hS hl)
theorem x_tableIn (F : fx L rm G A H0 n0 cc own E) {dflt lo hi : Int} {offs : Array Int} {len : Nat} {x : Int32} {off : Int} {tgt : Nat} (hd : decode cc pc = .ok (.tableswitch dflt lo hi offs, len)) (h1 : ¬ x.toInt < lo) (h2 : ¬ hi < x.toInt) (ho : offs[(x.toInt - lo).toNat]? = some off) (ht : (pc : Int) + off = (tgt : Int)) (kk : wx E H k n tgt lv st) : wx E H k n pc lv (.int x :: st) := by
  obtain ⟨p, l, e, R, s, m, args, below, meth, c, A1, nL, Q⟩ := E
  obtain ⟨⟨hx, hb, hml, hown, hts⟩, hL, hR, hAA, hH0, hnL, hKt, hKh, hfr, hlk⟩ := F
  intro locs ls hS hl
  exact lv_tableIn hx hb hd h1 h2 ho ht (kk locs ls hS hl)
theorem x_tableOut (F : fx L rm G A H0 n0 cc own E) {dflt lo hi : Int} {offs : Array Int} {len : Nat} {x : Int32} {tgt : Nat} (hd : decode cc pc = .ok (.tableswitch dflt lo hi offs, len)) (h : x.toInt < lo ∨ hi < x.toInt) (ht : (pc : Int) + dflt = (tgt : Int)) (kk : wx E H k n tgt lv st) : wx E H k n pc lv (.int x :: st) := by
  obtain ⟨p, l, e, R, s, m, args, below, meth, c, A1, nL, Q⟩ := E
  obtain ⟨⟨hx, hb, hml, hown, hts⟩, hL, hR, hAA, hH0, hnL, hKt, hKh, hfr, hlk⟩ := F
  intro locs ls hS hl
  exact lv_tableOut hx hb hd h ht (kk locs ls hS hl)
theorem x_iret (F : fx L rm G A H0 n0 cc own E) {v : Int32}  (hE : fe rm A Post (some .int) nm E) (hd : decode cc pc = .ok (.ireturn, 1)) (hc : k ≤ rm.cells) (hs : n ≤ rm.slots) (hp : Post H0 (some (.int v)) H) : wx E H k n pc lv (.int v :: []) := by
  obtain ⟨p, l, e, R, s, m, args, below, meth, c, A1, nL, Q⟩ := E
  obtain ⟨⟨hx, hb, hml, hown, hts⟩, hL, hR, hAA, hH0, hnL, hKt, hKh, hfr, hlk⟩ := F
  subst hL hR hAA hH0 hnL
  obtain ⟨hQ, hr, hnm⟩ := hE
  intro locs ls hS hl
  refine W.widen hc hs ?_
  rcases hQ with hQ | ⟨PX, hQ⟩
  · subst hQ
    exact W.iret hx hb hr (fun t ht hW => ⟨_, rfl, by rw [ht]; exact hp, hS.F ht⟩) hS.2.2 hd hlk
  · subst hQ
    exact vx_ret (W.iret hx hb hr (fun t ht hW => ⟨_, rfl, by rw [ht]; exact hp, hS.F ht⟩) hS.2.2 hd hlk)
theorem x_zret (F : fx L rm G A H0 n0 cc own E) {v : Int32} {ty : FieldType} (hn : narrow ty (.int v) = .int v) (hE : fe rm A Post (some ty) nm E) (hd : decode cc pc = .ok (.ireturn, 1)) (hc : k ≤ rm.cells) (hs : n ≤ rm.slots) (hp : Post H0 (some (.int v)) H) : wx E H k n pc lv (.int v :: []) := by
  obtain ⟨p, l, e, R, s, m, args, below, meth, c, A1, nL, Q⟩ := E
  obtain ⟨⟨hx, hb, hml, hown, hts⟩, hL, hR, hAA, hH0, hnL, hKt, hKh, hfr, hlk⟩ := F
  subst hL hR hAA hH0 hnL
  obtain ⟨hQ, hr, hnm⟩ := hE
  intro locs ls hS hl
  refine W.widen hc hs ?_
  rcases hQ with hQ | ⟨PX, hQ⟩
  · subst hQ
    exact W.zret hx hb hr hn (fun t ht hW => ⟨_, rfl, by rw [ht]; exact hp, hS.F ht⟩) hS.2.2 hd hlk
  · subst hQ
    exact vx_ret (W.zret hx hb hr hn (fun t ht hW => ⟨_, rfl, by rw [ht]; exact hp, hS.F ht⟩) hS.2.2 hd hlk)
theorem x_lret (F : fx L rm G A H0 n0 cc own E) {v : Int64}  (hE : fe rm A Post (some .long) nm E) (hd : decode cc pc = .ok (.lreturn, 1)) (hc : k ≤ rm.cells) (hs : n ≤ rm.slots) (hp : Post H0 (some (.long v)) H) : wx E H k n pc lv (.long v :: []) := by
  obtain ⟨p, l, e, R, s, m, args, below, meth, c, A1, nL, Q⟩ := E
  obtain ⟨⟨hx, hb, hml, hown, hts⟩, hL, hR, hAA, hH0, hnL, hKt, hKh, hfr, hlk⟩ := F
  subst hL hR hAA hH0 hnL
  obtain ⟨hQ, hr, hnm⟩ := hE
  intro locs ls hS hl
  refine W.widen hc hs ?_
  rcases hQ with hQ | ⟨PX, hQ⟩
  · subst hQ
    exact W.lret hx hb hr (fun t ht hW => ⟨_, rfl, by rw [ht]; exact hp, hS.F ht⟩) hS.2.2 hd hlk
  · subst hQ
    exact vx_ret (W.lret hx hb hr (fun t ht hW => ⟨_, rfl, by rw [ht]; exact hp, hS.F ht⟩) hS.2.2 hd hlk)
theorem x_aret (F : fx L rm G A H0 n0 cc own E) {v : Value} {ty : FieldType} (hn : (∃ n, ty = .object n) ∨ ∃ t, ty = .array t) (hv : v = .null ∨ ∃ a, v = .ref a) (hE : fe rm A Post (some ty) nm E) (hd : decode cc pc = .ok (.areturn, 1)) (hc : k ≤ rm.cells) (hs : n ≤ rm.slots) (hp : Post H0 (some v) H) : wx E H k n pc lv (v :: []) := by
  obtain ⟨p, l, e, R, s, m, args, below, meth, c, A1, nL, Q⟩ := E
  obtain ⟨⟨hx, hb, hml, hown, hts⟩, hL, hR, hAA, hH0, hnL, hKt, hKh, hfr, hlk⟩ := F
  subst hL hR hAA hH0 hnL
  obtain ⟨hQ, hr, hnm⟩ := hE
  intro locs ls hS hl
  refine W.widen hc hs ?_
  rcases hQ with hQ | ⟨PX, hQ⟩
  · subst hQ
    exact W.aret hx hb hr hn hv (fun t ht hW => ⟨_, rfl, by rw [ht]; exact hp, hS.F ht⟩) hS.2.2 hd hlk
  · subst hQ
    exact vx_ret (W.aret hx hb hr hn hv (fun t ht hW => ⟨_, rfl, by rw [ht]; exact hp, hS.F ht⟩) hS.2.2 hd hlk)
theorem x_vret (F : fx L rm G A H0 n0 cc own E) (hE : fe rm A Post none nm E) (hd : decode cc pc = .ok (.return_, 1)) (hc : k ≤ rm.cells) (hs : n ≤ rm.slots) (hp : Post H0 none H) : wx E H k n pc lv [] := by
  obtain ⟨p, l, e, R, s, m, args, below, meth, c, A1, nL, Q⟩ := E
  obtain ⟨⟨hx, hb, hml, hown, hts⟩, hL, hR, hAA, hH0, hnL, hKt, hKh, hfr, hlk⟩ := F
  subst hL hR hAA hH0 hnL
  obtain ⟨hQ, hr, hnm⟩ := hE
  intro locs ls hS hl
  refine W.widen hc hs ?_
  rcases hQ with hQ | ⟨PX, hQ⟩
  · subst hQ
    exact W.vret hx hb hr (fun t ht hW => ⟨_, rfl, by rw [ht]; exact hp, hS.F ht⟩) hS.2.2 hd hlk
  · subst hQ
    exact vx_ret (W.vret hx hb hr (fun t ht hW => ⟨_, rfl, by rw [ht]; exact hp, hS.F ht⟩) hS.2.2 hd hlk)
theorem wx_widen {k2 n2 : Nat} (h1 : k ≤ k2) (h2 : n ≤ n2) (kk : wx E H k2 n2 pc lv st) : wx E H k n pc lv st := by
  obtain ⟨p, l, e, R, s, m, args, below, meth, c, A1, nL, Q⟩ := E
  intro locs ls hS hl
  exact W.widen h1 h2 (kk locs ls hS hl)
theorem wx_sub (ks : List Nat) (h : lv_pick lv ks = lv') (kk : wx E H k n pc lv' st) : wx E H k n pc lv st := by
  obtain ⟨p, l, e, R, s, m, args, below, meth, c, A1, nL, Q⟩ := E
  intro locs ls hS hl
  exact kk locs ls hS (lv_sub hl ks h)
end FR1
end
section
/-! rows that read and write single cells: what the other cells hold stays -/
section CE
variable {L : Launch} {rm : Room} {G : GT} {A : Nat → Prop} {H0 : Heap} {n0 : Nat} {cc : ByteArray} {own : String} {E : WE} {H : Heap} {k n pc : Nat} {lv lv' : List (Nat × Value)} {st : List Value} {ret : Option FieldType} {nm : String} {Post : Heap → Option Value → Heap → Prop}
/-- a thing lies at a -/
def vt (G : GT) (a : Nat) (e : va_E) (H : Heap) : Prop := va_at G.1 vwCl (a, e) H
def hset (H : Heap) (a : Nat) (H1 : Heap) : Prop := H1.size = H.size ∧ ∀ q : Nat, q ≠ a → H1[q]? = H[q]?
def hnew (H H1 : Heap) : Prop := H1.size = H.size + 1 ∧ ∀ q : Nat, q < H.size → H1[q]? = H[q]?
theorem vt.kept {a : Nat} {e : va_E} {H1 : Heap} (h : vt G a e H) (hq : H1[a]? = H[a]?) : vt G a e H1 := va_at.kept h hq
theorem vt.lt {a : Nat} {e : va_E} (h : vt G a e H) : a < H.size := va_at.lt h
theorem vt.P {a : Nat} {e : va_E} (h : vt G a e H) : va_P G.1 vwCl [(a, e)] H := fun i q hq => by
  rcases i with _ | i
  · simp at hq
    subst hq
    exact h
  · simp at hq
theorem va_S.new {H1 : Heap} {s : State} {locs : List Loc} (hS : va_S A s.heap H locs) (h : hnew H H1) : va_S A s.heap H1 locs :=
  ⟨Nat.le_trans hS.1 (by have := h.1; omega), fun q h1 h2 => (h.2 q (Nat.lt_of_lt_of_le h1 hS.1)).trans (hS.2.1 q h1 h2), hS.2.2⟩
theorem x_get (F : fx L rm G A H0 n0 cc own E) {a ci j idx N : Nat} {C ref : String} {T : u_T} {fs : List Value} {v : Value} (hv : vt G a (.inr (ci, fs)) H) (hc : vwCl[ci]? = some (C, T, N)) (hj : j < N) (hin : ∀ w ∈ u_ws C T N, w ∈ WALL) (hl : Cond.fieldLink own idx ref (T j).2.1 (T j).2.2.1 ∈ WALL) (hsame : (T j).1 = ref) (hf : fs[j]? = some v) (hd : decode cc pc = .ok (.getfield idx, 3))
    (kk : wx E H k n (pc + 3) lv (v :: st)) : wx E H k n pc lv (.ref a :: st) := by
  obtain ⟨p, l, e, R, s, m, args, below, meth, c, A1, nL, Q⟩ := E
  obtain ⟨⟨hx, hb, hml, hown, hts⟩, hL, hR, hAA, hH0, hnL, hKt, hKh, hfr, hlk⟩ := F
  intro locs ls hS hl2
  exact va_get hx hb hts hin hown hKt.1 hv.P 0 rfl hc j hj (hts _ hl) (fun _ h => by rw [← hsame]; exact h) hf hd (kk locs ls hS hl2)
theorem x_getN (F : fx L rm G A H0 n0 cc own E) {a ci j idx N : Nat} {C ref host : String} {T : u_T} {fs : List Value} {v : Value} (hv : vt G a (.inr (ci, fs)) H) (hc : vwCl[ci]? = some (C, T, N)) (hj : j < N) (hin : ∀ w ∈ u_ws C T N, w ∈ WALL) (hl : Cond.fieldLinkNest own idx ref (T j).2.1 (T j).2.2.1 host ∈ nestW) (hsame : (T j).1 = ref) (hf : fs[j]? = some v) (hd : decode cc pc = .ok (.getfield idx, 3))
    (kk : wx E H k n (pc + 3) lv (v :: st)) : wx E H k n pc lv (.ref a :: st) := by
  obtain ⟨p, l, e, R, s, m, args, below, meth, c, A1, nL, Q⟩ := E
  obtain ⟨⟨hx, hb, hml, hown, hts⟩, hL, hR, hAA, hH0, hnL, hKt, hKh, hfr, hlk⟩ := F
  intro locs ls hS hl2
  exact va_getN hx hb hts hin hown hKt.1 hv.P 0 rfl hc j hj (va_Nw.use rfl (hKt.2.1 _ hl)) (fun _ h => by rw [← hsame]; exact h) hf hd (kk locs ls hS hl2)
theorem x_put (F : fx L rm G A H0 n0 cc own E) {a ci j idx N : Nat} {C ref : String} {T : u_T} {fs : List Value} {v : Value} {ty : FieldType} (hv : vt G a (.inr (ci, fs)) H) (hAa : A a) (hc : vwCl[ci]? = some (C, T, N)) (hj : j < N) (hin : ∀ w ∈ u_ws C T N, w ∈ WALL) (ty0 : Nat → FieldType) (hty : ∀ k, k < N → parseFieldDescriptor (T k).2.2.1 = some (ty0 k)) (hnm : ∀ a, a < N → ∀ b, b < N → a ≠ b → (T a).2.1 ≠ (T b).2.1) (hl : Cond.fieldLink own idx ref (T j).2.1 (T j).2.2.1 ∈ WALL) (hsame : (T j).1 = ref) (hfin : (T j).2.2.2 = false) (hpd : parseFieldDescriptor (T j).2.2.1 = some ty) (hn : narrow ty v = v) (hfit : fits ty v = true) (hlen : j < fs.length) (hd : decode cc pc = .ok (.putfield idx, 3))
    (kk : ∀ H1 : Heap, vt G a (.inr (ci, fs.set j v)) H1 → hset H a H1 → wx E H1 k n (pc + 3) lv st) : wx E H k n pc lv (v :: .ref a :: st) := by
  obtain ⟨p, l, e, R, s, m, args, below, meth, c, A1, nL, Q⟩ := E
  obtain ⟨⟨hx, hb, hml, hown, hts⟩, hL, hR, hAA, hH0, hnL, hKt, hKh, hfr, hlk⟩ := F
  subst hAA
  intro locs ls hS hl2
  have hK := hKt.1
  have hap := va_apart (own := own) hts hin ty0 hty hnm hK hc
  obtain ⟨r, h1, cell, q1, q2, q3, q4⟩ := hv
  obtain rfl : r = (C, T, N) := Option.some.inj (h1.symm.trans hc)
  obtain ⟨hSl, hfc, kC, hkC, hkind⟩ := hK.1 ci _ hc
  obtain ⟨cf, kf, fi, f, hi, hsl⟩ := hSl j hj
  have hlay := hts _ (hin _ (u_in_lay hj))
  unfold u_lay at hlay
  rw [if_neg (by rw [hfin]; decide)] at hlay
  have hst := (u_facts hfc hkC (u_lays hts hin hj) hi).1
  have h6 := u_store hfc hkC hkind hlay hi hpd hn hfit
  refine W.putK hx hb (f := f) ⟨hown, hts _ hl, ⟨_, _, _, by rw [← hsame]; exact hi⟩, hst⟩ (by rw [q2]; exact h6) q1 q3 (by rw [hsl]; exact k2_hasslot (q4 j hj)) rfl rfl hd fun H' e1 e2 e3 => ?_
  rw [hsl] at e1 ⊢
  exact kk H' ⟨_, hc, t_OB.to (V := updV (vp_V fs) j v) ⟨_, e1, q2, q3, t_set q4 hap hj v⟩ (fun i _ => vp_updV_set hlen v i)⟩ ⟨e2, e3⟩ _ ls (hS.put e2 e3 hAa) hl2
theorem x_putN (F : fx L rm G A H0 n0 cc own E) {a ci j idx N : Nat} {C ref host : String} {T : u_T} {fs : List Value} {v : Value} {ty : FieldType} (hv : vt G a (.inr (ci, fs)) H) (hAa : A a) (hc : vwCl[ci]? = some (C, T, N)) (hj : j < N) (hin : ∀ w ∈ u_ws C T N, w ∈ WALL) (ty0 : Nat → FieldType) (hty : ∀ k, k < N → parseFieldDescriptor (T k).2.2.1 = some (ty0 k)) (hnm : ∀ a, a < N → ∀ b, b < N → a ≠ b → (T a).2.1 ≠ (T b).2.1) (hl : Cond.fieldLinkNest own idx ref (T j).2.1 (T j).2.2.1 host ∈ nestW) (hsame : (T j).1 = ref) (hfin : (T j).2.2.2 = false) (hpd : parseFieldDescriptor (T j).2.2.1 = some ty) (hn : narrow ty v = v) (hfit : fits ty v = true) (hlen : j < fs.length) (hd : decode cc pc = .ok (.putfield idx, 3))
    (kk : ∀ H1 : Heap, vt G a (.inr (ci, fs.set j v)) H1 → hset H a H1 → wx E H1 k n (pc + 3) lv st) : wx E H k n pc lv (v :: .ref a :: st) := by
  obtain ⟨p, l, e, R, s, m, args, below, meth, c, A1, nL, Q⟩ := E
  obtain ⟨⟨hx, hb, hml, hown, hts⟩, hL, hR, hAA, hH0, hnL, hKt, hKh, hfr, hlk⟩ := F
  subst hAA
  intro locs ls hS hl2
  have hK := hKt.1
  have hap := va_apart (own := own) hts hin ty0 hty hnm hK hc
  obtain ⟨r, h1, cell, q1, q2, q3, q4⟩ := hv
  obtain rfl : r = (C, T, N) := Option.some.inj (h1.symm.trans hc)
  obtain ⟨hSl, hfc, kC, hkC, hkind⟩ := hK.1 ci _ hc
  obtain ⟨cf, kf, fi, f, hi, hsl⟩ := hSl j hj
  have hlay := hts _ (hin _ (u_in_lay hj))
  unfold u_lay at hlay
  rw [if_neg (by rw [hfin]; decide)] at hlay
  have hst := (u_facts hfc hkC (u_lays hts hin hj) hi).1
  have h6 := u_store hfc hkC hkind hlay hi hpd hn hfit
  refine va_WputK hx hb (f := f) hown (va_Nw.use rfl (hKt.2.1 _ hl)) (by rw [← hsame]; exact hi) hst (by rw [q2]; exact h6) q1 q3 (by rw [hsl]; exact k2_hasslot (q4 j hj)) rfl rfl hd fun H' e1 e2 e3 => ?_
  rw [hsl] at e1 ⊢
  exact kk H' ⟨_, hc, t_OB.to (V := updV (vp_V fs) j v) ⟨_, e1, q2, q3, t_set q4 hap hj v⟩ (fun i _ => vp_updV_set hlen v i)⟩ ⟨e2, e3⟩ _ ls (hS.put e2 e3 hAa) hl2
theorem x_putF (F : fx L rm G A H0 n0 cc own E) (hE : fe rm A Post ret nm E) (hnmI : nm = "<init>") {a ci j idx N : Nat} {C ref : String} {T : u_T} {fs : List Value} {v : Value} {ty : FieldType} (hv : vt G a (.inr (ci, fs)) H) (hAa : A a) (hc : vwCl[ci]? = some (C, T, N)) (hj : j < N) (hin : ∀ w ∈ u_ws C T N, w ∈ WALL) (ty0 : Nat → FieldType) (hty : ∀ k, k < N → parseFieldDescriptor (T k).2.2.1 = some (ty0 k)) (hnm : ∀ a, a < N → ∀ b, b < N → a ≠ b → (T a).2.1 ≠ (T b).2.1) (hl : Cond.fieldLink own idx ref (T j).2.1 (T j).2.2.1 ∈ WALL) (hsame : (T j).1 = ref) (hfin : (T j).2.2.2 = true) (hdecl : (T j).1 = own) (hpd : parseFieldDescriptor (T j).2.2.1 = some ty) (hn : narrow ty v = v) (hfit : fits ty v = true) (hlen : j < fs.length) (hd : decode cc pc = .ok (.putfield idx, 3))
    (kk : ∀ H1 : Heap, vt G a (.inr (ci, fs.set j v)) H1 → hset H a H1 → wx E H1 k n (pc + 3) lv st) : wx E H k n pc lv (v :: .ref a :: st) := by
  obtain ⟨p, l, e, R, s, m, args, below, meth, c, A1, nL, Q⟩ := E
  obtain ⟨⟨hx, hb, hml, hown, hts⟩, hL, hR, hAA, hH0, hnL, hKt, hKh, hfr, hlk⟩ := F
  obtain ⟨hQ, hr, hnmm⟩ := hE
  subst hAA
  intro locs ls hS hl2
  have hK := hKt.1
  have hap := va_apart (own := own) hts hin ty0 hty hnm hK hc
  obtain ⟨r, h1, cell, q1, q2, q3, q4⟩ := hv
  obtain rfl : r = (C, T, N) := Option.some.inj (h1.symm.trans hc)
  obtain ⟨hSl, hfc, kC, hkC, hkind⟩ := hK.1 ci _ hc
  obtain ⟨cf, kf, fi, f, hi, hsl⟩ := hSl j hj
  have hlay := hts _ (hin _ (u_in_lay hj))
  unfold u_lay at hlay
  rw [if_pos hfin] at hlay
  have hst := (u_facts hfc hkC (u_lays hts hin hj) hi).1
  have hcf : m.cls = cf := by
    obtain ⟨_, _, c', _, _, _, -, -, hf', -, -, -, hown2, -⟩ := Cond.laysFinal_spec hlay
    have e1 : c' = cf := by have := hi.symm.trans hf'; simp at this; exact this.1.symm
    rw [hdecl] at hown2
    rw [← e1]
    exact Option.some.inj (hown.symm.trans hown2)
  have h6 := u_fits hfc hkC hkind (Or.inr hlay) hi hpd hn hfit
  refine W.putFinK hx hb hown (hts _ hl) (by rw [← hsame]; exact hi) hst hcf (by rw [hnmm]; exact hnmI) (by rw [q2]; exact h6) q1 q3 (by rw [hsl]; exact k2_hasslot (q4 j hj)) rfl rfl hd fun H' e1 e2 e3 => ?_
  rw [hsl] at e1 ⊢
  exact kk H' ⟨_, hc, t_OB.to (V := updV (vp_V fs) j v) ⟨_, e1, q2, q3, t_set q4 hap hj v⟩ (fun i _ => vp_updV_set hlen v i)⟩ ⟨e2, e3⟩ _ ls (hS.put e2 e3 hAa) hl2
theorem x_new (F : fx L rm G A H0 n0 cc own E) {ci idx N : Nat} {C : String} {T : u_T} {fs : List Value} (hc : vwCl[ci]? = some (C, T, N)) (hin : ∀ w ∈ u_ws C T N, w ∈ WALL) (ty : Nat → FieldType) (hty : ∀ k, k < N → parseFieldDescriptor (T k).2.2.1 = some (ty k)) (hcl : Cond.classLink own idx C ∈ WALL) (hins : Cond.instantiable C N ∈ WALL) (hini : Cond.initialized C ∈ WALL) (hfs : ∀ j, j < N → defaultValue (ty j) = vp_V fs j) (hk : k + 1 ≤ rm.cells) (hn : n + N ≤ rm.slots) (hd : decode cc pc = .ok (.new idx, 3))
    (kk : ∀ H1 : Heap, vt G H.size (.inr (ci, fs)) H1 → hnew H H1 → wx E H1 (k + 1) (n + N) (pc + 3) lv (.ref H.size :: st)) : wx E H k n pc lv st := by
  obtain ⟨p, l, e, R, s, m, args, below, meth, c, A1, nL, Q⟩ := E
  obtain ⟨⟨hx, hb, hml, hown, hts⟩, hL, hR, hAA, hH0, hnL, hKt, hKh, hfr, hlk⟩ := F
  subst hR
  intro locs ls hS hl2
  have hKn := hKt.1.1 ci _ hc
  refine W.newcK hx hb hown (hts _ hcl) (hts _ hins) (hts _ hini) rfl hd hk hn hKn.2.1 rfl fun H1 kC hkC e1 z1 o1 => ?_
  exact kk H1 ⟨_, hc, (u_born ty hts hin hKn hkC e1 hty).to hfs⟩ ⟨z1, o1⟩ locs ls (va_S.new hS ⟨z1, o1⟩) hl2
/-- an array's class and what the tables say of it -/
def hA_ (G : GT) (cA : ClassId) (ty : FieldType) : Prop := (cA, ty) ∈ [(G.2.1.1, FieldType.int), (G.2.1.2.1, .boolean), (G.2.1.2.2.1, .object "java/lang/Object"), (G.2.1.2.2.2, .long)]
theorem Kt.arr {s : State} (h : Kt G s) {cA : ClassId} {ty : FieldType} (q : hA_ G cA ty) : ArrOfT s cA ty ∧ va_RA s cA ty := by
  obtain ⟨i, hi⟩ := List.getElem?_of_mem q
  exact h.1.2 i _ hi
theorem x_iald (F : fx L rm G A H0 n0 cc own E) {a N : Nat} {f : Nat → Int32} (hv : vt G a (.inl (G.2.1.1, N, .inl f)) H) {i : Int32} (hin : vp_in i N) (hd : decode cc pc = .ok (.iaload, 1)) (kk : wx E H k n (pc + 1) lv (.int (f i.toNatClampNeg) :: st)) : wx E H k n pc lv (.int i :: .ref a :: st) := by
  obtain ⟨p, l, e, R, s, m, args, below, meth, c, A1, nL, Q⟩ := E
  obtain ⟨⟨hx, hb, hml, hown, hts⟩, hL, hR, hAA, hH0, hnL, hKt, hKh, hfr, hlk⟩ := F
  intro locs ls hS hl2
  exact va_iald hx hb hKt.1 hv.P 0 0 rfl rfl hin hd (kk locs ls hS hl2)
theorem x_zald (F : fx L rm G A H0 n0 cc own E) {a N : Nat} {f : Nat → Int32} (hv : vt G a (.inl (G.2.1.2.1, N, .inl f)) H) {i : Int32} (hin : vp_in i N) (hd : decode cc pc = .ok (.baload, 1)) (kk : wx E H k n (pc + 1) lv (.int (f i.toNatClampNeg) :: st)) : wx E H k n pc lv (.int i :: .ref a :: st) := by
  obtain ⟨p, l, e, R, s, m, args, below, meth, c, A1, nL, Q⟩ := E
  obtain ⟨⟨hx, hb, hml, hown, hts⟩, hL, hR, hAA, hH0, hnL, hKt, hKh, hfr, hlk⟩ := F
  intro locs ls hS hl2
  exact va_zald hx hb hKt.1 hv.P 0 1 rfl rfl hin hd (kk locs ls hS hl2)
theorem x_lald (F : fx L rm G A H0 n0 cc own E) {a N : Nat} {f : Nat → Int64} (hv : vt G a (.inl (G.2.1.2.2.2, N, .inr (.inl f))) H) {i : Int32} (hin : vp_in i N) (hd : decode cc pc = .ok (.laload, 1)) (kk : wx E H k n (pc + 1) lv (.long (f i.toNatClampNeg) :: st)) : wx E H k n pc lv (.int i :: .ref a :: st) := by
  obtain ⟨p, l, e, R, s, m, args, below, meth, c, A1, nL, Q⟩ := E
  obtain ⟨⟨hx, hb, hml, hown, hts⟩, hL, hR, hAA, hH0, hnL, hKt, hKh, hfr, hlk⟩ := F
  intro locs ls hS hl2
  exact va_lald hx hb hKt.1 hv.P 0 3 rfl rfl hin hd (kk locs ls hS hl2)
theorem x_aald (F : fx L rm G A H0 n0 cc own E) {a N : Nat} {f : Nat → Option Nat} (hv : vt G a (.inl (G.2.1.2.2.1, N, .inr (.inr (.inr (.inr f))))) H) {i : Int32} (hin : vp_in i N) (hd : decode cc pc = .ok (.aaload, 1)) (kk : wx E H k n (pc + 1) lv (va_rf (f i.toNatClampNeg) :: st)) : wx E H k n pc lv (.int i :: .ref a :: st) := by
  obtain ⟨p, l, e, R, s, m, args, below, meth, c, A1, nL, Q⟩ := E
  obtain ⟨⟨hx, hb, hml, hown, hts⟩, hL, hR, hAA, hH0, hnL, hKt, hKh, hfr, hlk⟩ := F
  intro locs ls hS hl2
  exact va_aldq hx hb hKt.1 hv.P 0 2 rfl rfl hin hd (kk locs ls hS hl2)
theorem x_alen (F : fx L rm G A H0 n0 cc own E) {a : Nat} {cA : ClassId} {x : vp_A} {ty : FieldType} (hv : vt G a (.inl (cA, x)) H) (hq : hA_ G cA ty) {v : Int32} (hvv : Int32.ofNat x.1 = v) (hd : decode cc pc = .ok (.arraylength, 1)) (kk : wx E H k n (pc + 1) lv (.int v :: st)) : wx E H k n pc lv (.ref a :: st) := by
  obtain ⟨p, l, e, R, s, m, args, below, meth, c, A1, nL, Q⟩ := E
  obtain ⟨⟨hx, hb, hml, hown, hts⟩, hL, hR, hAA, hH0, hnL, hKt, hKh, hfr, hlk⟩ := F
  intro locs ls hS hl2
  obtain ⟨i, hi⟩ := List.getElem?_of_mem hq
  exact va_alen hx hb hKt.1 hv.P 0 i rfl hi hvv hd (kk locs ls hS hl2)
theorem x_iast (F : fx L rm G A H0 n0 cc own E) {a N : Nat} {f : Nat → Int32} (hv : vt G a (.inl (G.2.1.1, N, .inl f)) H) (hAa : A a) {i x : Int32} (hin : vp_in i N) (hd : decode cc pc = .ok (.iastore, 1)) (kk : ∀ H1 : Heap, vt G a (.inl (G.2.1.1, N, .inl (upd f i.toNatClampNeg x))) H1 → hset H a H1 → wx E H1 k n (pc + 1) lv st) : wx E H k n pc lv (.int x :: .int i :: .ref a :: st) := by
  obtain ⟨p, l, e, R, s, m, args, below, meth, c, A1, nL, Q⟩ := E
  obtain ⟨⟨hx, hb, hml, hown, hts⟩, hL, hR, hAA, hH0, hnL, hKt, hKh, hfr, hlk⟩ := F
  subst hAA
  intro locs ls hS hl2
  refine W.iast hx hb hv ((hKt.1.2 0 _ rfl).1 N (fun j => .int (f j))) (fun q => by cases q) (by show ¬ (i < 0 ∨ (arrV _ _ _).slots.size ≤ _); rw [arrV_size]; exact hin) rfl rfl hd fun H1 e1 z oq => ?_
  refine kk H1 ?_ ⟨z, oq⟩ _ ls (hS.put z oq hAa) hl2
  show H1[a]? = some (vp_cell _ _)
  rw [e1]
  show some ((vp_cell _ _).setSlot _ _) = _
  rw [vp_cell_i, vp_cell_i, arrV_store]
  congr 2
  funext q
  by_cases hq : q = i.toNatClampNeg
  · subst hq
    simp [updV, upd]
  · simp [updV, upd, hq]
theorem x_zast (F : fx L rm G A H0 n0 cc own E) {a N : Nat} {f : Nat → Int32} (hv : vt G a (.inl (G.2.1.2.1, N, .inl f)) H) (hAa : A a) {i x : Int32} (hin : vp_in i N) (hx1 : narrow .boolean (.int x) = .int x) (hd : decode cc pc = .ok (.bastore, 1)) (kk : ∀ H1 : Heap, vt G a (.inl (G.2.1.2.1, N, .inl (upd f i.toNatClampNeg x))) H1 → hset H a H1 → wx E H1 k n (pc + 1) lv st) : wx E H k n pc lv (.int x :: .int i :: .ref a :: st) := by
  obtain ⟨p, l, e, R, s, m, args, below, meth, c, A1, nL, Q⟩ := E
  obtain ⟨⟨hx, hb, hml, hown, hts⟩, hL, hR, hAA, hH0, hnL, hKt, hKh, hfr, hlk⟩ := F
  subst hAA
  intro locs ls hS hl2
  refine W.zast hx hb hv ((hKt.1.2 1 _ rfl).1 N (fun j => .int (f j))) (fun q => by cases q) (by show ¬ (i < 0 ∨ (arrV _ _ _).slots.size ≤ _); rw [arrV_size]; exact hin) rfl rfl hd fun H1 e1 z oq => ?_
  refine kk H1 ?_ ⟨z, oq⟩ _ ls (hS.put z oq hAa) hl2
  show H1[a]? = some (vp_cell _ _)
  rw [e1, hx1]
  show some ((vp_cell _ _).setSlot _ _) = _
  rw [vp_cell_i, vp_cell_i, arrV_store]
  congr 2
  funext q
  by_cases hq : q = i.toNatClampNeg
  · subst hq
    simp [updV, upd]
  · simp [updV, upd, hq]
theorem x_last (F : fx L rm G A H0 n0 cc own E) {a N : Nat} {f : Nat → Int64} (hv : vt G a (.inl (G.2.1.2.2.2, N, .inr (.inl f))) H) (hAa : A a) {i : Int32} {x : Int64} (hin : vp_in i N) (hd : decode cc pc = .ok (.lastore, 1)) (kk : ∀ H1 : Heap, vt G a (.inl (G.2.1.2.2.2, N, .inr (.inl (vp_updL f i.toNatClampNeg x)))) H1 → hset H a H1 → wx E H1 k n (pc + 1) lv st) : wx E H k n pc lv (.long x :: .int i :: .ref a :: st) := by
  obtain ⟨p, l, e, R, s, m, args, below, meth, c, A1, nL, Q⟩ := E
  obtain ⟨⟨hx, hb, hml, hown, hts⟩, hL, hR, hAA, hH0, hnL, hKt, hKh, hfr, hlk⟩ := F
  subst hAA
  intro locs ls hS hl2
  refine W.last hx hb hv ((hKt.1.2 3 _ rfl).1 N (fun j => .long (f j))) (fun q => by cases q) (by show ¬ (i < 0 ∨ (arrV _ _ _).slots.size ≤ _); rw [arrV_size]; exact hin) rfl rfl hd fun H1 e1 z oq => ?_
  refine kk H1 ?_ ⟨z, oq⟩ _ ls (hS.put z oq hAa) hl2
  show H1[a]? = some (vp_cell _ _)
  rw [e1]
  show some ((vp_cell _ _).setSlot _ _) = _
  rw [vp_cell_l, vp_cell_l, arrV_store]
  congr 2
  funext q
  by_cases hq : q = i.toNatClampNeg
  · subst hq
    simp [updV, vp_updL]
  · simp [updV, vp_updL, hq]
/-- Object[]'s store of an object v, or of null -/
theorem x_aast (F : fx L rm G A H0 n0 cc own E) {a N v : Nat} {f : Nat → Option Nat} (hv : vt G a (.inl (G.2.1.2.2.1, N, .inr (.inr (.inr (.inr f))))) H) (hAa : A a) {i : Int32} (hin : vp_in i N) (hob : ∀ s : State, Kt G s → va_Any "java/lang/Object" s H v) (hd : decode cc pc = .ok (.aastore, 1)) (kk : ∀ H1 : Heap, vt G a (.inl (G.2.1.2.2.1, N, .inr (.inr (.inr (.inr (va_up f i.toNatClampNeg (some v))))))) H1 → hset H a H1 → wx E H1 k n (pc + 1) lv st) : wx E H k n pc lv (.ref v :: .int i :: .ref a :: st) := by
  obtain ⟨p, l, e, R, s, m, args, below, meth, c, A1, nL, Q⟩ := E
  obtain ⟨⟨hx, hb, hml, hown, hts⟩, hL, hR, hAA, hH0, hnL, hKt, hKh, hfr, hlk⟩ := F
  subst hAA
  intro locs ls hS hl2
  have hlt : i.toNatClampNeg < N := Nat.not_le.mp fun q => hin (Or.inr q)
  have h0 : ¬ i < 0 := fun q => hin (Or.inl q)
  obtain ⟨cellV, g1, g3, ⟨kC, hkC⟩, hasg⟩ := hob s hKt
  obtain ⟨kA, comp, k1, k2, k3, -⟩ := (hKt.1.2 2 _ rfl).2
  obtain ⟨kE, hkE, -⟩ := Vm.findClass_spec k3
  refine W.aast hx hb hv (fun q h => by cases h) (fun h => by cases h) k1 k2 rfl hkE ⟨h0, by show _ < (arrV _ _ _).slots.size; rw [arrV_size]; exact hlt⟩ g1 (fun q h => by rw [h] at g3; cases g3) hkC (hasg _ k3) rfl rfl hd fun H1 e1 z oq => ?_
  refine kk H1 ?_ ⟨z, oq⟩ _ ls (hS.put z oq hAa) hl2
  show H1[a]? = some (vp_cell _ _)
  rw [e1]
  show some ((vp_cell _ _).setSlot _ _) = _
  rw [vp_cell_q, vp_cell_q, arrV_store]
  congr 2
  funext q
  by_cases hq : q = i.toNatClampNeg
  · subst hq
    simp [updV, va_up, va_rf]
  · simp [updV, va_up, hq]
end CE
end
section
/-! calls, throws, catches, over wx -/
section CA
variable {L : Launch} {rm r2 : Room} {G : GT} {A A1 : Nat → Prop} {H0 : Heap} {n0 : Nat} {cc bytes : ByteArray} {own : String} {E : WE} {H : Heap} {k n pc maxL nA idx : Nat} {lv lv' : List (Nat × Value)} {st rest As : List Value} {ret ret2 : Option FieldType} {nm : String} {Post Post2 : Heap → Option Value → Heap → Prop} {PX PX2 : Heap → String → Heap → Prop} {Pre : Heap → Prop} {y : MethodName}
/-- an exception of class Ex lies at q -/
def exAt : WE → Heap → Nat → String → Prop
  | (_, _, _, _, s, _, _, _, _, _, _, _, _), H, q, Ex => ∃ ce : Cell, H[q]? = some ce ∧ ce.vm = .none ∧ s.vm.findClass Ex = some ce.cls
def mhd (y : MethodName) (nA : Nat) : Prop := y.cls ≠ "java/lang/invoke/MethodHandle" ∧ y.cls ≠ "java/lang/invoke/VarHandle" ∧ (parseMethodDescriptor y.desc).map (fun d => d.parameters.length) = some nA
/-- rooms: the callee's within the caller's, at this place -/
def rok (rm r2 : Room) (maxL k n : Nat) : Prop := (r2.frames + 1 ≤ rm.frames ∧ 8 + (maxL + 11) + r2.locals ≤ rm.locals) ∧ k + r2.cells ≤ rm.cells ∧ n + r2.slots ≤ rm.slots
/-- what a return gives the caller -/
def kRet (E : WE) (H : Heap) (A1 : Nat → Prop) (Post2 : Heap → Option Value → Heap → Prop) (k n pc : Nat) (lv : List (Nat × Value)) (rest : List Value) : Prop :=
  ∀ (v : Option Value) (H1 : Heap), Post2 H v H1 → H.size ≤ H1.size → (∀ q : Nat, q < H.size → ¬ A1 q → H1[q]? = H[q]?) → wx E H1 k n pc lv (v.toList ++ rest)
def kThr (E : WE) (H : Heap) (A1 : Nat → Prop) (PX2 : Heap → String → Heap → Prop) (k n pc : Nat) (lv : List (Nat × Value)) : Prop :=
  ∀ (q : Nat) (Ex : String) (H1 : Heap), PX2 H Ex H1 → exAt E H1 q Ex → H.size ≤ H1.size → (∀ q : Nat, q < H.size → ¬ A1 q → H1[q]? = H[q]?) → wt E H1 k n pc lv q
theorem codeB {ws : List Cond} {s : State} {args : Array Value} (hts : ∀ w ∈ WALL, w.before args s = true) (hc : Cond.code y bytes maxL ret2 ∈ WALL) (hws : ws = Cond.code y bytes maxL ret2 :: WALL) : ∀ w ∈ ws, ∀ (a' : Array Value) (U : State), s.WarmedH U.vm → w.before a' U = true := by
  subst hws
  intro w hw a' U hW
  have h2 : w ∈ WALL := by
    rcases List.mem_cons.mp hw with rfl | h
    · exact hc
    · exact h
  exact word_at hW (good_of_word (WALL_good w h2)) (hts w h2)
theorem callB_ {s : State} {args : Array Value} (hts : ∀ w ∈ WALL, w.before args s = true) (hl : Cond.methodLink own idx y ∈ WALL) (hi : Cond.initialized y.cls ∈ WALL) (hc : Cond.code y bytes maxL ret2 ∈ WALL) (hy : mhd y nA) (hR : rok rm r2 maxL k n) :
    CallB rm s args own idx y bytes maxL ret2 (Cond.code y bytes maxL ret2 :: WALL) r2 r2.cells r2.slots nA := by
  refine ⟨rfl, rfl, hR.1.1, hR.1.2, codeB hts hc rfl, List.mem_cons_self, hts _ hc, hts _ hi, ⟨hy.1, hy.2.1⟩, fun sig h => ?_, hts _ hl⟩
  have h2 := hy.2.2
  rw [h] at h2
  exact (Option.some.inj h2).symm
theorem preS_ {s : State} {locs : List Loc} (hKt : Kt G s) (hKh : Kh G A s s.heap) (hS : va_S A s.heap H locs) (hA1 : ∀ q, A1 q → A q) (hfr : ∀ q, H.size ≤ q → A1 q) (hpre : Pre H) : PreS s H (ctP G A1 As Pre) As :=
  ⟨ctP_blind, fun U hU hW => ⟨rfl, hKt.warm hW, by rw [hU]; exact ((hKh.kept hS.2.1).narrow hA1).moved hW.alike, by rw [hU]; exact hfr, by rw [hU]; exact hpre⟩⟩
section Aft
variable {p : Program} {l : Launch} {e : Env} {R : Room} {s : State} {m : MethodId} {args : Array Value} {below : List Frame} {meth : Method} {c : Code} {locs : List Loc} {ls : Array Slot} {Q : State → Prop} {a : Array Value} {mc ms nL : Nat}
theorem w_after (hr : va_Run p l e R s m args below meth c H locs k n mc ms (F0 m pc ls st) rest (ctQ A1 Post2 a) A1) (hS : va_S A s.heap H locs) (hl : lv_has ls nL lv) (hA1 : ∀ q, A1 q → A q)
    (kk : kRet (p, l, e, R, s, m, args, below, meth, c, A, nL, Q) H A1 Post2 (k + mc) (n + ms) (pc + 3) lv rest) : W p l e R s m args below meth c H locs k n Q (F0 m pc ls st) := by
  intro T hT X
  obtain ⟨v, st₀, t, T', L9, h0, X', hL9, e1, e2, ⟨v2, hv, hp, hz, hk⟩, st9⟩ := hr T hT X
  cases hv
  rw [h0] at hz hk hp
  obtain ⟨t2, a1, b1⟩ := kk v T'.heap (by rw [e1]; exact hp) (by rw [e1]; exact hz) (fun q h1 h2 => by rw [e1]; exact hk q h1 h2) (locs ++ L9) ls
    ⟨Nat.le_trans hS.1 (by rw [e1]; exact hz), fun q h1 h2 => by rw [e1, hk q (Nat.lt_of_lt_of_le h1 hS.1) (fun z => h2 (hA1 q z))]; exact hS.2.1 q h1 h2, fun q hq => by
      rcases List.mem_append.mp hq with h | h
      · exact hS.2.2 q h
      · exact hA1 _ (hL9 q h)⟩ hl T' rfl X'
  exact ⟨t2, st9 t2 a1, b1⟩
theorem w_afterX (hr : vx_Run p l e R s m args below meth c H locs k n mc ms (F0 m pc ls st) rest (ctQ A1 Post2 a) (ctX A1 PX2) A1) (hS : va_S A s.heap H locs) (hl : lv_has ls nL lv) (hA1 : ∀ q, A1 q → A q)
    (kk : kRet (p, l, e, R, s, m, args, below, meth, c, A, nL, Q) H A1 Post2 (k + mc) (n + ms) (pc + 3) lv rest)
    (kx : kThr (p, l, e, R, s, m, args, below, meth, c, A, nL, Q) H A1 PX2 (k + mc) (n + ms) pc lv) : W p l e R s m args below meth c H locs k n Q (F0 m pc ls st) := by
  intro T hT X
  rcases hr T hT X with ⟨v, st₀, t, T', L9, h0, X', hL9, e1, e2, ⟨v2, hv, hp, hz, hk⟩, st9⟩ | ⟨q, st₀, t, T', L9, Ex, ce, h0, X', hL9, e1, e2, ⟨hp, hz, hk⟩, hce, hcv, hcl, st9⟩
  · cases hv
    rw [h0] at hz hk hp
    obtain ⟨t2, a1, b1⟩ := kk v T'.heap (by rw [e1]; exact hp) (by rw [e1]; exact hz) (fun q h1 h2 => by rw [e1]; exact hk q h1 h2) (locs ++ L9) ls
      ⟨Nat.le_trans hS.1 (by rw [e1]; exact hz), fun q h1 h2 => by rw [e1, hk q (Nat.lt_of_lt_of_le h1 hS.1) (fun z => h2 (hA1 q z))]; exact hS.2.1 q h1 h2, fun q hq => by
        rcases List.mem_append.mp hq with h | h
        · exact hS.2.2 q h
        · exact hA1 _ (hL9 q h)⟩ hl T' rfl X'
    exact ⟨t2, st9 t2 a1, b1⟩
  · rw [h0] at hz hk hp
    obtain ⟨t2, a1, b1⟩ := kx q Ex T'.heap (by rw [e1]; exact hp) ⟨ce, by rw [e1]; exact hce, hcv, hcl⟩ (by rw [e1]; exact hz) (fun q h1 h2 => by rw [e1]; exact hk q h1 h2) (locs ++ L9) ls rest
      ⟨Nat.le_trans hS.1 (by rw [e1]; exact hz), fun q h1 h2 => by rw [e1, hk q (Nat.lt_of_lt_of_le h1 hS.1) (fun z => h2 (hA1 q z))]; exact hS.2.1 q h1 h2, fun q hq => by
        rcases List.mem_append.mp hq with h | h
        · exact hS.2.2 q h
        · exact hA1 _ (hL9 q h)⟩ hl T' rfl X'
    exact ⟨t2, st9.trans a1, b1⟩
end Aft
theorem x_callS (F : fx L rm G A H0 n0 cc own E) (hC : Ct L y bytes maxL ret2 r2 G A1 As Pre Post2) (hl : Cond.methodLink own idx y ∈ WALL) (hs : Cond.static y ∈ WALL) (hi : Cond.initialized y.cls ∈ WALL) (hc : Cond.code y bytes maxL ret2 ∈ WALL) (hy : mhd y nA) (hR : rok rm r2 maxL k n) (hd : decode cc pc = .ok (.invokestatic idx, 3)) (hn : As.length = nA) (hst : st = As.reverse ++ rest) (hcat : (rest.map fun v => v.category).sum ≤ 8) (hA1 : ∀ q, A1 q → A q) (hfr : ∀ q, H.size ≤ q → A1 q) (hpre : Pre H)
    (kk : kRet E H A1 Post2 (k + r2.cells) (n + r2.slots) (pc + 3) lv rest) : wx E H k n pc lv st := by
  obtain ⟨p, l, e, R, s, m, args, below, meth, c, A9, nL, Q⟩ := E
  obtain ⟨⟨hx, hb, hml, hown, hts⟩, hL, hRR, hAA, hH0, hnL, hKt, hKh, hfr9, hlk⟩ := F
  subst hL hRR hAA hH0
  intro locs ls hS hlv
  exact w_after (va_runS ⟨hx, hb, hml, hown, hts⟩ hC ⟨callB_ hts hl hi hc hy hR, hts _ hs⟩ (preS_ hKt hKh hS hA1 hfr hpre) rfl hn hlv.1 hst (lv_room hcat) hd hR.2) hS hlv hA1 kk
theorem x_callV (F : fx L rm G A H0 n0 cc own E) {b ci : Nat} {fs : List Value} {r : vw_C} (hv : vt G b (.inr (ci, fs)) H) (hcl : vwCl[ci]? = some r) (hC : Ct L y bytes maxL ret2 r2 G A1 (.ref b :: As) Pre Post2) (hl : Cond.methodLink own idx y ∈ WALL) (hs : Cond.instanceMethod y ∈ WALL) (hse : Cond.selects r.1 y y ∈ WALL) (hi : Cond.initialized y.cls ∈ WALL) (hc : Cond.code y bytes maxL ret2 ∈ WALL) (hy : mhd y nA) (hR : rok rm r2 maxL k n) (hd : decode cc pc = .ok (.invokevirtual idx, 3)) (hn : As.length = nA) (hst : st = As.reverse ++ .ref b :: rest) (hcat : (rest.map fun v => v.category).sum ≤ 8) (hA1 : ∀ q, A1 q → A q) (hfr : ∀ q, H.size ≤ q → A1 q) (hpre : Pre H)
    (kk : kRet E H A1 Post2 (k + r2.cells) (n + r2.slots) (pc + 3) lv rest) : wx E H k n pc lv st := by
  obtain ⟨p, l, e, R, s, m, args, below, meth, c, A9, nL, Q⟩ := E
  obtain ⟨⟨hx, hb, hml, hown, hts⟩, hL, hRR, hAA, hH0, hnL, hKt, hKh, hfr9, hlk⟩ := F
  subst hL hRR hAA hH0
  intro locs ls hS hlv
  have hp := preS_ (As := .ref b :: As) hKt hKh hS hA1 hfr hpre
  exact w_after (va_runV ⟨hx, hb, hml, hown, hts⟩ hC ⟨callB_ hts hl hi hc hy hR, hts _ hs, hts _ hse⟩ ⟨hp.1, va_recv hKt.1 hv.P hcl (q0 := 0) rfl, hp.2⟩ rfl hn hlv.1 hst (lv_room hcat) hd hR.2) hS hlv hA1 kk
theorem x_callI (F : fx L rm G A H0 n0 cc own E) {b : Nat} (hC : Ct L y bytes maxL none r2 G A1 (.ref b :: As) Pre Post2) (hl : Cond.methodLink own idx y ∈ WALL) (hs : Cond.instanceMethod y ∈ WALL) (hi : Cond.initialized y.cls ∈ WALL) (hc : Cond.code y bytes maxL none ∈ WALL) (hyn : y.name = "<init>") (hy : mhd y nA) (hR : rok rm r2 maxL k n) (hd : decode cc pc = .ok (.invokespecial idx, 3)) (hn : As.length = nA) (hst : st = As.reverse ++ .ref b :: rest) (hcat : (rest.map fun v => v.category).sum ≤ 8) (hA1 : ∀ q, A1 q → A q) (hfr : ∀ q, H.size ≤ q → A1 q) (hpre : Pre H)
    (kk : kRet E H A1 Post2 (k + r2.cells) (n + r2.slots) (pc + 3) lv rest) : wx E H k n pc lv st := by
  obtain ⟨p, l, e, R, s, m, args, below, meth, c, A9, nL, Q⟩ := E
  obtain ⟨⟨hx, hb, hml, hown, hts⟩, hL, hRR, hAA, hH0, hnL, hKt, hKh, hfr9, hlk⟩ := F
  subst hL hRR hAA hH0
  intro locs ls hS hlv
  exact w_after (va_runI ⟨hx, hb, hml, hown, hts⟩ hC ⟨callB_ hts hl hi hc hy hR, hyn, hts _ hs⟩ (preS_ hKt hKh hS hA1 hfr hpre) rfl hn hlv.1 hst (lv_room hcat) hd hR.2) hS hlv hA1 kk
theorem cn_ {s : State} {args : Array Value} {host : String} (hts : ∀ w ∈ WALL, w.before args s = true) (hl : va_Nw (.methodLinkNest own idx y host) s) (hi : Cond.initialized y.cls ∈ WALL) (hc : Cond.code y bytes maxL ret2 ∈ WALL) (hy : mhd y nA) (hR : rok rm r2 maxL k n) :
    va_CN rm s args own idx y host bytes maxL ret2 (Cond.code y bytes maxL ret2 :: WALL) r2 r2.cells r2.slots nA := by
  refine va_cnB nA hts (fun w hw => ?_) rfl rfl rfl hl (hts _ hi) hy hR.1
  have h2 : w ∈ WALL := by
    rcases List.mem_cons.mp hw with rfl | h
    · exact hc
    · exact h
  exact ⟨h2, good_of_word (WALL_good w h2)⟩
theorem x_callIN (F : fx L rm G A H0 n0 cc own E) {b : Nat} {host : String} (hC : Ct L y bytes maxL none r2 G A1 (.ref b :: As) Pre Post2) (hl : Cond.methodLinkNest own idx y host ∈ nestW) (hs : Cond.instanceMethod y ∈ WALL) (hi : Cond.initialized y.cls ∈ WALL) (hc : Cond.code y bytes maxL none ∈ WALL) (hyn : y.name = "<init>") (hy : mhd y nA) (hR : rok rm r2 maxL k n) (hd : decode cc pc = .ok (.invokespecial idx, 3)) (hn : As.length = nA) (hst : st = As.reverse ++ .ref b :: rest) (hcat : (rest.map fun v => v.category).sum ≤ 8) (hA1 : ∀ q, A1 q → A q) (hfr : ∀ q, H.size ≤ q → A1 q) (hpre : Pre H)
    (kk : kRet E H A1 Post2 (k + r2.cells) (n + r2.slots) (pc + 3) lv rest) : wx E H k n pc lv st := by
  obtain ⟨p, l, e, R, s, m, args, below, meth, c, A9, nL, Q⟩ := E
  obtain ⟨⟨hx, hb, hml, hown, hts⟩, hL, hRR, hAA, hH0, hnL, hKt, hKh, hfr9, hlk⟩ := F
  subst hL hRR hAA hH0
  intro locs ls hS hlv
  exact w_after (va_runIN ⟨hx, hb, hml, hown, hts⟩ hC ⟨cn_ hts (hKt.2.1 _ hl) hi hc hy hR, hyn, hts _ hs⟩ (preS_ hKt hKh hS hA1 hfr hpre) rfl hn hlv.1 hst (lv_room hcat) hd hR.2) hS hlv hA1 kk
/-- calls of methods that may throw -/
theorem x_callVX (F : fx L rm G A H0 n0 cc own E) {b ci : Nat} {fs : List Value} {r : vw_C} (hv : vt G b (.inr (ci, fs)) H) (hcl : vwCl[ci]? = some r) (hC : Cx L y bytes maxL ret2 r2 G A1 (.ref b :: As) Pre Post2 PX2) (hl : Cond.methodLink own idx y ∈ WALL) (hs : Cond.instanceMethod y ∈ WALL) (hse : Cond.selects r.1 y y ∈ WALL) (hi : Cond.initialized y.cls ∈ WALL) (hc : Cond.code y bytes maxL ret2 ∈ WALL) (hy : mhd y nA) (hR : rok rm r2 maxL k n) (hd : decode cc pc = .ok (.invokevirtual idx, 3)) (hn : As.length = nA) (hst : st = As.reverse ++ .ref b :: rest) (hcat : (rest.map fun v => v.category).sum ≤ 8) (hA1 : ∀ q, A1 q → A q) (hfr : ∀ q, H.size ≤ q → A1 q) (hpre : Pre H)
    (kk : kRet E H A1 Post2 (k + r2.cells) (n + r2.slots) (pc + 3) lv rest) (kx : kThr E H A1 PX2 (k + r2.cells) (n + r2.slots) pc lv) : wx E H k n pc lv st := by
  obtain ⟨p, l, e, R, s, m, args, below, meth, c, A9, nL, Q⟩ := E
  obtain ⟨⟨hx, hb, hml, hown, hts⟩, hL, hRR, hAA, hH0, hnL, hKt, hKh, hfr9, hlk⟩ := F
  subst hL hRR hAA hH0
  intro locs ls hS hlv
  have hp := preS_ (As := .ref b :: As) hKt hKh hS hA1 hfr hpre
  exact w_afterX (vx_runV ⟨hx, hb, hml, hown, hts⟩ hC ⟨callB_ hts hl hi hc hy hR, hts _ hs, hts _ hse⟩ ⟨hp.1, va_recv hKt.1 hv.P hcl (q0 := 0) rfl, hp.2⟩ rfl hn hlv.1 hst (lv_room hcat) hd hR.2) hS hlv hA1 kk kx
/-- not caught: the caller's own exception -/
theorem x_out (F : fx L rm G A H0 n0 cc own E) (hX : fX rm A Post PX E) {q : Nat} {Ex : String} (hq : exAt E H q Ex) (hp : PX H0 Ex H) (hk : k ≤ rm.cells) (hn : n ≤ rm.slots) : wt E H k n pc lv q := by
  obtain ⟨p, l, e, R, s, m, args, below, meth, c, A9, nL, Q⟩ := E
  obtain ⟨⟨hx, hb, hml, hown, hts⟩, hL, hRR, hAA, hH0, hnL, hKt, hKh, hfr9, hlk⟩ := F
  obtain ⟨ce, h1, h2, h3⟩ := hq
  obtain ⟨hQ, hex⟩ := hX
  subst hAA hH0 hQ
  intro locs ls st hS hlv
  exact vx_out (fun x hx => absurd (hex x hx) id) hlk h1 h2 h3 (fun t ht hA => ⟨by rw [ht]; exact hp, hS.F ht⟩) hS.2.2 hk hn
theorem hat_of {s : State} {args : Array Value} {X : List Cond} (hKt : Kt G s) (hts : ∀ w ∈ WALL, w.before args s = true) (h1 : ∀ w ∈ X.filter goodWord, w ∈ WALL) (h2 : ∀ w ∈ X.filter (fun w => !goodWord w), w ∈ nestW) (h3 : ∀ w ∈ nestW, w.onTables = true) : ∀ w ∈ X, w.before args s = true :=
  vx_hat (B := nestW) (fun w hw => hts w (h1 w hw)) h2 (fun w hw => va_Nw.use (h3 w hw) (hKt.2.1 w hw))
end CA
end
section
/-! throw new X("text") in GliderDay; an exception caught in the law's class -/
section TH
abbrev nE : List String := ["java/lang/RuntimeException", "java/lang/Exception"]
set_option maxRecDepth 100000 in
theorem at62g : ∀ w ∈ (vx_atS "GliderDay" 62 "java/lang/IllegalArgumentException" nE).filter goodWord, w ∈ lw_tbl := by decide +kernel
set_option maxRecDepth 100000 in
theorem at73g : ∀ w ∈ (vx_atS "GliderDay" 73 "java/lang/IllegalStateException" nE).filter goodWord, w ∈ lw_tbl := by decide +kernel
set_option maxRecDepth 100000 in
theorem at139g : ∀ w ∈ (vx_atS "GliderDay" 139 "java/lang/IndexOutOfBoundsException" nE).filter goodWord, w ∈ lw_tbl := by decide +kernel
theorem at62n : ∀ w ∈ (vx_atS "GliderDay" 62 "java/lang/IllegalArgumentException" nE).filter (fun w => !goodWord w), w ∈ nestW := by decide +kernel
theorem at73n : ∀ w ∈ (vx_atS "GliderDay" 73 "java/lang/IllegalStateException" nE).filter (fun w => !goodWord w), w ∈ nestW := by decide +kernel
theorem at139n : ∀ w ∈ (vx_atS "GliderDay" 139 "java/lang/IndexOutOfBoundsException" nE).filter (fun w => !goodWord w), w ∈ nestW := by decide +kernel
theorem nest_tab : ∀ w ∈ nestW, w.onTables = true := by decide +kernel
theorem at62o : ∀ w ∈ Cond.classLink "GliderDay" 58 "java/lang/IllegalArgumentException" :: Cond.initialized "java/lang/IllegalArgumentException" :: vx_atS "GliderDay" 62 "java/lang/IllegalArgumentException" nE, vx_ot w = true := by decide +kernel
theorem at73o : ∀ w ∈ Cond.classLink "GliderDay" 69 "java/lang/IllegalStateException" :: Cond.initialized "java/lang/IllegalStateException" :: vx_atS "GliderDay" 73 "java/lang/IllegalStateException" nE, vx_ot w = true := by decide +kernel
theorem at139o : ∀ w ∈ Cond.classLink "GliderDay" 135 "java/lang/IndexOutOfBoundsException" :: Cond.initialized "java/lang/IndexOutOfBoundsException" :: vx_atS "GliderDay" 139 "java/lang/IndexOutOfBoundsException" nE, vx_ot w = true := by decide +kernel
variable {L : Launch} {rm r2 : Room} {G : GT} {A A1 : Nat → Prop} {H0 : Heap} {n0 : Nat} {cc bytes : ByteArray} {own : String} {E : WE} {H : Heap} {k n pc maxL nA idx : Nat} {lv lv' : List (Nat × Value)} {st rest As : List Value} {ret ret2 : Option FieldType} {nm : String} {Post Post2 : Heap → Option Value → Heap → Prop} {PX PX2 : Heap → String → Heap → Prop} {Pre : Heap → Prop} {y : MethodName}
/-- what is needed of the class X that is thrown out of GliderDay -/
def thr (ik ic : Nat) (X : String) : Prop := Bundle.fit X = true ∧ Cond.classLink "GliderDay" ik X ∈ WALL ∧ Cond.initialized X ∈ WALL ∧ (∀ w ∈ (vx_atS "GliderDay" ic X nE).filter goodWord, w ∈ lw_tbl) ∧ (∀ w ∈ (vx_atS "GliderDay" ic X nE).filter (fun w => !goodWord w), w ∈ nestW) ∧ ∀ w ∈ Cond.classLink "GliderDay" ik X :: Cond.initialized X :: vx_atS "GliderDay" ic X nE, vx_ot w = true
theorem x_throw (F : fx L rm G A H0 n0 cc "GliderDay" E) (hX : fX rm A Post PX E) (hL0 : L.stackTraces = false) {ik ic is : Nat} {X text : String} (hT : thr ik ic X) (hst : (is, text) ∈ strW)
    (d0 : decode cc pc = .ok (.new ik, 3)) (d3 : decode cc (pc + 3) = .ok (.dup, 1)) (d4 : decode cc (pc + 4) = .ok (.ldc is, 2)) (d6 : decode cc (pc + 6) = .ok (.invokespecial ic, 3)) (d9 : decode cc (pc + 9) = .ok (.athrow, 1))
    (hf : 5 < rm.frames) (hlo : (rest.map fun v => v.category).sum + 82 ≤ rm.locals) (hk : k + 1 ≤ rm.cells) (hn : n + 6 ≤ rm.slots) (hp : ∀ H1 : Heap, H.size ≤ H1.size → (∀ q : Nat, q < H.size → H1[q]? = H[q]?) → PX H0 X H1) : wx E H k n pc lv rest := by
  obtain ⟨p, l, e, R, s, m, args, below, meth, c, A9, nL, Q⟩ := E
  obtain ⟨⟨hx, hb, hml, hown, hts⟩, hL, hRR, hAA, hH0, hnL, hKt, hKh, hfr9, hlk⟩ := F
  obtain ⟨hQ, hex⟩ := hX
  subst hL hRR hAA hH0 hQ
  intro locs ls hS hlv
  exact vx_throwS hx hb hL0 (names := nE) hown hT.1 (by decide +kernel) (hts _ hT.2.1) (hts _ hT.2.2.1) (hKt.2.2.1 _ hst)
    (hat_of hKt hts (fun w hw => List.mem_filter.mpr ⟨hT.2.2.2.1 w hw, (List.mem_filter.mp hw).2⟩) hT.2.2.2.2.1 nest_tab) hT.2.2.2.2.2 hKh.1 hKh.2.1 hS (hlv.1.trans hml.symm) d0 d3 d4 d6 d9 (fun x hx => absurd (hex x hx) id) hf hlo hk hn hlk
    (fun t hA hz ho => ⟨hp _ hz ho, Nat.le_trans hS.1 hz, fun q h1 h2 => (ho q (Nat.lt_of_lt_of_le h1 hS.1)).trans (hS.2.1 q h1 h2)⟩) hS.2.2 hk hn
end TH
end
