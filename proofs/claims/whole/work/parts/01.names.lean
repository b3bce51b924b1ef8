/-- a private method of a class that the tables say can be made, by its rows of tables_1 -/
def lw_okq (q : MethodName × Nat) : Prop := (q.1.cls ≠ "java/lang/invoke/MethodHandle" ∧ q.1.cls ≠ "java/lang/invoke/VarHandle") ∧ Cond.instantiable q.1.cls q.2 ∈ tables_1 ∧ Cond.privateMethod q.1 ∈ tables_1 ∧ Cond.instanceMethod q.1 ∈ tables_1
theorem lw_p0 : lw_okq (⟨"TrailTeams", "isTeam", "(I)Z"⟩, 7) := ⟨⟨by decide +kernel, by decide +kernel⟩, List.mem_of_getElem? (i := 13) (by decide +kernel), List.mem_of_getElem? (i := 285) (by decide +kernel), List.mem_of_getElem? (i := 286) (by decide +kernel)⟩
theorem lw_p1 : lw_okq (⟨"TrailTeams", "endNow", "(I)I"⟩, 7) := ⟨⟨by decide +kernel, by decide +kernel⟩, List.mem_of_getElem? (i := 13) (by decide +kernel), List.mem_of_getElem? (i := 311) (by decide +kernel), List.mem_of_getElem? (i := 312) (by decide +kernel)⟩
theorem lw_p2 : lw_okq (⟨"TrailTeams", "playNow", "()V"⟩, 7) := ⟨⟨by decide +kernel, by decide +kernel⟩, List.mem_of_getElem? (i := 13) (by decide +kernel), List.mem_of_getElem? (i := 315) (by decide +kernel), List.mem_of_getElem? (i := 316) (by decide +kernel)⟩
theorem lw_p3 : lw_okq (⟨"TrailTeams$Game", "layTrail", "(I)V"⟩, 11) := ⟨⟨by decide +kernel, by decide +kernel⟩, List.mem_of_getElem? (i := 102) (by decide +kernel), List.mem_of_getElem? (i := 326) (by decide +kernel), List.mem_of_getElem? (i := 327) (by decide +kernel)⟩
theorem lw_p4 : lw_okq (⟨"TrailTeams$Game", "nextToCome", "()I"⟩, 11) := ⟨⟨by decide +kernel, by decide +kernel⟩, List.mem_of_getElem? (i := 102) (by decide +kernel), List.mem_of_getElem? (i := 334) (by decide +kernel), List.mem_of_getElem? (i := 335) (by decide +kernel)⟩
theorem lw_p5 : lw_okq (⟨"TrailTeams$Game", "makeVisit", "(I)V"⟩, 11) := ⟨⟨by decide +kernel, by decide +kernel⟩, List.mem_of_getElem? (i := 102) (by decide +kernel), List.mem_of_getElem? (i := 338) (by decide +kernel), List.mem_of_getElem? (i := 339) (by decide +kernel)⟩
theorem lw_p6 : lw_okq (⟨"TrailTeams", "isInRoute", "(II)Z"⟩, 7) := ⟨⟨by decide +kernel, by decide +kernel⟩, List.mem_of_getElem? (i := 13) (by decide +kernel), List.mem_of_getElem? (i := 366) (by decide +kernel), List.mem_of_getElem? (i := 367) (by decide +kernel)⟩
theorem lw_p7 : lw_okq (⟨"TrailTeams", "leastFreeStart", "(LTrailTeams$State;II)I"⟩, 7) := ⟨⟨by decide +kernel, by decide +kernel⟩, List.mem_of_getElem? (i := 13) (by decide +kernel), List.mem_of_getElem? (i := 378) (by decide +kernel), List.mem_of_getElem? (i := 379) (by decide +kernel)⟩
theorem lw_p8 : lw_okq (⟨"TrailTeams$Game", "meet", "(II)Z"⟩, 11) := ⟨⟨by decide +kernel, by decide +kernel⟩, List.mem_of_getElem? (i := 102) (by decide +kernel), List.mem_of_getElem? (i := 386) (by decide +kernel), List.mem_of_getElem? (i := 387) (by decide +kernel)⟩
theorem lw_p9 : lw_okq (⟨"TrailTeams$Game", "meetAt", "(III)Z"⟩, 11) := ⟨⟨by decide +kernel, by decide +kernel⟩, List.mem_of_getElem? (i := 102) (by decide +kernel), List.mem_of_getElem? (i := 390) (by decide +kernel), List.mem_of_getElem? (i := 391) (by decide +kernel)⟩
theorem lw_p10 : lw_okq (⟨"TrailTeams$Game", "isAhead", "(II)Z"⟩, 11) := ⟨⟨by decide +kernel, by decide +kernel⟩, List.mem_of_getElem? (i := 102) (by decide +kernel), List.mem_of_getElem? (i := 431) (by decide +kernel), List.mem_of_getElem? (i := 432) (by decide +kernel)⟩
theorem lw_p11 : lw_okq (⟨"TrailTeams$Game", "teamsThere", "(II)I"⟩, 11) := ⟨⟨by decide +kernel, by decide +kernel⟩, List.mem_of_getElem? (i := 102) (by decide +kernel), List.mem_of_getElem? (i := 453) (by decide +kernel), List.mem_of_getElem? (i := 454) (by decide +kernel)⟩
theorem lw_p12 : lw_okq (⟨"TrailTeams$Game", "isThere", "(III)Z"⟩, 11) := ⟨⟨by decide +kernel, by decide +kernel⟩, List.mem_of_getElem? (i := 102) (by decide +kernel), List.mem_of_getElem? (i := 457) (by decide +kernel), List.mem_of_getElem? (i := 458) (by decide +kernel)⟩
theorem lw_p13 : lw_okq (⟨"TrailTeams", "endIfExchanged", "(III)I"⟩, 7) := ⟨⟨by decide +kernel, by decide +kernel⟩, List.mem_of_getElem? (i := 13) (by decide +kernel), List.mem_of_getElem? (i := 516) (by decide +kernel), List.mem_of_getElem? (i := 517) (by decide +kernel)⟩
theorem lw_p14 : lw_okq (⟨"TrailTeamsModel", "remember", "()V"⟩, 23) := ⟨⟨by decide +kernel, by decide +kernel⟩, List.mem_of_getElem? (i := 565) (by decide +kernel), List.mem_of_getElem? (i := 658) (by decide +kernel), List.mem_of_getElem? (i := 659) (by decide +kernel)⟩
theorem lw_p15 : lw_okq (⟨"TrailTeamsModel", "record", "(I)I"⟩, 23) := ⟨⟨by decide +kernel, by decide +kernel⟩, List.mem_of_getElem? (i := 565) (by decide +kernel), List.mem_of_getElem? (i := 662) (by decide +kernel), List.mem_of_getElem? (i := 663) (by decide +kernel)⟩
def lw_privs_1 : List (MethodName × Nat) := [(⟨"TrailTeams", "isTeam", "(I)Z"⟩, 7), (⟨"TrailTeams", "endNow", "(I)I"⟩, 7), (⟨"TrailTeams", "playNow", "()V"⟩, 7), (⟨"TrailTeams$Game", "layTrail", "(I)V"⟩, 11), (⟨"TrailTeams$Game", "nextToCome", "()I"⟩, 11), (⟨"TrailTeams$Game", "makeVisit", "(I)V"⟩, 11), (⟨"TrailTeams", "isInRoute", "(II)Z"⟩, 7), (⟨"TrailTeams", "leastFreeStart", "(LTrailTeams$State;II)I"⟩, 7), (⟨"TrailTeams$Game", "meet", "(II)Z"⟩, 11), (⟨"TrailTeams$Game", "meetAt", "(III)Z"⟩, 11), (⟨"TrailTeams$Game", "isAhead", "(II)Z"⟩, 11), (⟨"TrailTeams$Game", "teamsThere", "(II)I"⟩, 11), (⟨"TrailTeams$Game", "isThere", "(III)Z"⟩, 11), (⟨"TrailTeams", "endIfExchanged", "(III)I"⟩, 7), (⟨"TrailTeamsModel", "remember", "()V"⟩, 23), (⟨"TrailTeamsModel", "record", "(I)I"⟩, 23)]
theorem lw_r1 : ∀ q ∈ lw_privs_1, lw_okq q := List.forall_mem_cons.mpr ⟨lw_p0, List.forall_mem_cons.mpr ⟨lw_p1, List.forall_mem_cons.mpr ⟨lw_p2, List.forall_mem_cons.mpr ⟨lw_p3, List.forall_mem_cons.mpr ⟨lw_p4, List.forall_mem_cons.mpr ⟨lw_p5, List.forall_mem_cons.mpr ⟨lw_p6, List.forall_mem_cons.mpr ⟨lw_p7, List.forall_mem_cons.mpr ⟨lw_p8, List.forall_mem_cons.mpr ⟨lw_p9, List.forall_mem_cons.mpr ⟨lw_p10, List.forall_mem_cons.mpr ⟨lw_p11, List.forall_mem_cons.mpr ⟨lw_p12, List.forall_mem_cons.mpr ⟨lw_p13, List.forall_mem_cons.mpr ⟨lw_p14, List.forall_mem_cons.mpr ⟨lw_p15, fun _ h => absurd h List.not_mem_nil⟩⟩⟩⟩⟩⟩⟩⟩⟩⟩⟩⟩⟩⟩⟩⟩
theorem lw_p16 : lw_okq (⟨"TrailTeamsModel", "of", "(II)I"⟩, 23) := ⟨⟨by decide +kernel, by decide +kernel⟩, List.mem_of_getElem? (i := 565) (by decide +kernel), List.mem_of_getElem? (i := 678) (by decide +kernel), List.mem_of_getElem? (i := 679) (by decide +kernel)⟩
theorem lw_p17 : lw_okq (⟨"TrailTeamsModel", "openOnes", "()I"⟩, 23) := ⟨⟨by decide +kernel, by decide +kernel⟩, List.mem_of_getElem? (i := 565) (by decide +kernel), List.mem_of_getElem? (i := 686) (by decide +kernel), List.mem_of_getElem? (i := 687) (by decide +kernel)⟩
theorem lw_p18 : lw_okq (⟨"TrailTeamsModel", "isWell", "()Z"⟩, 23) := ⟨⟨by decide +kernel, by decide +kernel⟩, List.mem_of_getElem? (i := 565) (by decide +kernel), List.mem_of_getElem? (i := 694) (by decide +kernel), List.mem_of_getElem? (i := 695) (by decide +kernel)⟩
theorem lw_p19 : lw_okq (⟨"TrailTeamsModel", "readPlace", "()Z"⟩, 23) := ⟨⟨by decide +kernel, by decide +kernel⟩, List.mem_of_getElem? (i := 565) (by decide +kernel), List.mem_of_getElem? (i := 698) (by decide +kernel), List.mem_of_getElem? (i := 699) (by decide +kernel)⟩
theorem lw_p20 : lw_okq (⟨"TrailTeamsModel", "lay", "(III)V"⟩, 23) := ⟨⟨by decide +kernel, by decide +kernel⟩, List.mem_of_getElem? (i := 565) (by decide +kernel), List.mem_of_getElem? (i := 705) (by decide +kernel), List.mem_of_getElem? (i := 706) (by decide +kernel)⟩
theorem lw_p21 : lw_okq (⟨"TrailTeamsModel", "takeRoute", "(I)V"⟩, 23) := ⟨⟨by decide +kernel, by decide +kernel⟩, List.mem_of_getElem? (i := 565) (by decide +kernel), List.mem_of_getElem? (i := 709) (by decide +kernel), List.mem_of_getElem? (i := 710) (by decide +kernel)⟩
theorem lw_p22 : lw_okq (⟨"TrailTeamsModel", "isTeam", "(I)Z"⟩, 23) := ⟨⟨by decide +kernel, by decide +kernel⟩, List.mem_of_getElem? (i := 565) (by decide +kernel), List.mem_of_getElem? (i := 717) (by decide +kernel), List.mem_of_getElem? (i := 718) (by decide +kernel)⟩
theorem lw_p23 : lw_okq (⟨"TrailTeamsModel", "playAll", "()V"⟩, 23) := ⟨⟨by decide +kernel, by decide +kernel⟩, List.mem_of_getElem? (i := 565) (by decide +kernel), List.mem_of_getElem? (i := 721) (by decide +kernel), List.mem_of_getElem? (i := 722) (by decide +kernel)⟩
theorem lw_p24 : lw_okq (⟨"TrailTeamsModel", "play", "(I)V"⟩, 23) := ⟨⟨by decide +kernel, by decide +kernel⟩, List.mem_of_getElem? (i := 565) (by decide +kernel), List.mem_of_getElem? (i := 725) (by decide +kernel), List.mem_of_getElem? (i := 726) (by decide +kernel)⟩
theorem lw_p25 : lw_okq (⟨"TrailTeamsModel", "prepare", "(I)V"⟩, 23) := ⟨⟨by decide +kernel, by decide +kernel⟩, List.mem_of_getElem? (i := 565) (by decide +kernel), List.mem_of_getElem? (i := 729) (by decide +kernel), List.mem_of_getElem? (i := 730) (by decide +kernel)⟩
theorem lw_p26 : lw_okq (⟨"TrailTeamsModel", "its", "(II)I"⟩, 23) := ⟨⟨by decide +kernel, by decide +kernel⟩, List.mem_of_getElem? (i := 565) (by decide +kernel), List.mem_of_getElem? (i := 733) (by decide +kernel), List.mem_of_getElem? (i := 734) (by decide +kernel)⟩
theorem lw_p27 : lw_okq (⟨"TrailTeamsModel", "walk", "(IZ)V"⟩, 23) := ⟨⟨by decide +kernel, by decide +kernel⟩, List.mem_of_getElem? (i := 565) (by decide +kernel), List.mem_of_getElem? (i := 737) (by decide +kernel), List.mem_of_getElem? (i := 738) (by decide +kernel)⟩
theorem lw_p28 : lw_okq (⟨"TrailTeamsModel", "next", "()I"⟩, 23) := ⟨⟨by decide +kernel, by decide +kernel⟩, List.mem_of_getElem? (i := 565) (by decide +kernel), List.mem_of_getElem? (i := 744) (by decide +kernel), List.mem_of_getElem? (i := 745) (by decide +kernel)⟩
theorem lw_p29 : lw_okq (⟨"TrailTeamsModel", "hasLost", "(I)Z"⟩, 23) := ⟨⟨by decide +kernel, by decide +kernel⟩, List.mem_of_getElem? (i := 565) (by decide +kernel), List.mem_of_getElem? (i := 748) (by decide +kernel), List.mem_of_getElem? (i := 749) (by decide +kernel)⟩
theorem lw_p30 : lw_okq (⟨"TrailTeamsModel", "endOf", "(I)I"⟩, 23) := ⟨⟨by decide +kernel, by decide +kernel⟩, List.mem_of_getElem? (i := 565) (by decide +kernel), List.mem_of_getElem? (i := 764) (by decide +kernel), List.mem_of_getElem? (i := 765) (by decide +kernel)⟩
theorem lw_p31 : lw_okq (⟨"TrailTeamsModel", "turned", "(II)V"⟩, 23) := ⟨⟨by decide +kernel, by decide +kernel⟩, List.mem_of_getElem? (i := 565) (by decide +kernel), List.mem_of_getElem? (i := 776) (by decide +kernel), List.mem_of_getElem? (i := 777) (by decide +kernel)⟩
def lw_privs_2 : List (MethodName × Nat) := [(⟨"TrailTeamsModel", "of", "(II)I"⟩, 23), (⟨"TrailTeamsModel", "openOnes", "()I"⟩, 23), (⟨"TrailTeamsModel", "isWell", "()Z"⟩, 23), (⟨"TrailTeamsModel", "readPlace", "()Z"⟩, 23), (⟨"TrailTeamsModel", "lay", "(III)V"⟩, 23), (⟨"TrailTeamsModel", "takeRoute", "(I)V"⟩, 23), (⟨"TrailTeamsModel", "isTeam", "(I)Z"⟩, 23), (⟨"TrailTeamsModel", "playAll", "()V"⟩, 23), (⟨"TrailTeamsModel", "play", "(I)V"⟩, 23), (⟨"TrailTeamsModel", "prepare", "(I)V"⟩, 23), (⟨"TrailTeamsModel", "its", "(II)I"⟩, 23), (⟨"TrailTeamsModel", "walk", "(IZ)V"⟩, 23), (⟨"TrailTeamsModel", "next", "()I"⟩, 23), (⟨"TrailTeamsModel", "hasLost", "(I)Z"⟩, 23), (⟨"TrailTeamsModel", "endOf", "(I)I"⟩, 23), (⟨"TrailTeamsModel", "turned", "(II)V"⟩, 23)]
theorem lw_r2 : ∀ q ∈ lw_privs_2, lw_okq q := List.forall_mem_cons.mpr ⟨lw_p16, List.forall_mem_cons.mpr ⟨lw_p17, List.forall_mem_cons.mpr ⟨lw_p18, List.forall_mem_cons.mpr ⟨lw_p19, List.forall_mem_cons.mpr ⟨lw_p20, List.forall_mem_cons.mpr ⟨lw_p21, List.forall_mem_cons.mpr ⟨lw_p22, List.forall_mem_cons.mpr ⟨lw_p23, List.forall_mem_cons.mpr ⟨lw_p24, List.forall_mem_cons.mpr ⟨lw_p25, List.forall_mem_cons.mpr ⟨lw_p26, List.forall_mem_cons.mpr ⟨lw_p27, List.forall_mem_cons.mpr ⟨lw_p28, List.forall_mem_cons.mpr ⟨lw_p29, List.forall_mem_cons.mpr ⟨lw_p30, List.forall_mem_cons.mpr ⟨lw_p31, fun _ h => absurd h List.not_mem_nil⟩⟩⟩⟩⟩⟩⟩⟩⟩⟩⟩⟩⟩⟩⟩⟩
theorem lw_p32 : lw_okq (⟨"TrailTeamsModel", "exchanged", "(III)V"⟩, 23) := ⟨⟨by decide +kernel, by decide +kernel⟩, List.mem_of_getElem? (i := 565) (by decide +kernel), List.mem_of_getElem? (i := 784) (by decide +kernel), List.mem_of_getElem? (i := 785) (by decide +kernel)⟩
theorem lw_p33 : lw_okq (⟨"TrailTeamsModel", "leastStart", "(II)I"⟩, 23) := ⟨⟨by decide +kernel, by decide +kernel⟩, List.mem_of_getElem? (i := 565) (by decide +kernel), List.mem_of_getElem? (i := 792) (by decide +kernel), List.mem_of_getElem? (i := 793) (by decide +kernel)⟩
theorem lw_p34 : lw_okq (⟨"TrailTeamsModel", "met", "(I)I"⟩, 23) := ⟨⟨by decide +kernel, by decide +kernel⟩, List.mem_of_getElem? (i := 565) (by decide +kernel), List.mem_of_getElem? (i := 796) (by decide +kernel), List.mem_of_getElem? (i := 797) (by decide +kernel)⟩
theorem lw_p35 : lw_okq (⟨"TrailTeamsModel", "meet", "(II)Z"⟩, 23) := ⟨⟨by decide +kernel, by decide +kernel⟩, List.mem_of_getElem? (i := 565) (by decide +kernel), List.mem_of_getElem? (i := 800) (by decide +kernel), List.mem_of_getElem? (i := 801) (by decide +kernel)⟩
theorem lw_p36 : lw_okq (⟨"TrailTeamsModel", "meetAt", "(III)Z"⟩, 23) := ⟨⟨by decide +kernel, by decide +kernel⟩, List.mem_of_getElem? (i := 565) (by decide +kernel), List.mem_of_getElem? (i := 804) (by decide +kernel), List.mem_of_getElem? (i := 805) (by decide +kernel)⟩
theorem lw_p37 : lw_okq (⟨"TrailTeamsModel", "visitTo", "(II)I"⟩, 23) := ⟨⟨by decide +kernel, by decide +kernel⟩, List.mem_of_getElem? (i := 565) (by decide +kernel), List.mem_of_getElem? (i := 808) (by decide +kernel), List.mem_of_getElem? (i := 809) (by decide +kernel)⟩
theorem lw_p38 : lw_okq (⟨"TrailTeamsModel", "pairs", "()I"⟩, 23) := ⟨⟨by decide +kernel, by decide +kernel⟩, List.mem_of_getElem? (i := 565) (by decide +kernel), List.mem_of_getElem? (i := 812) (by decide +kernel), List.mem_of_getElem? (i := 813) (by decide +kernel)⟩
theorem lw_p39 : lw_okq (⟨"TrailTeamsModel", "queued", "(I)I"⟩, 23) := ⟨⟨by decide +kernel, by decide +kernel⟩, List.mem_of_getElem? (i := 565) (by decide +kernel), List.mem_of_getElem? (i := 824) (by decide +kernel), List.mem_of_getElem? (i := 825) (by decide +kernel)⟩
theorem lw_p40 : lw_okq (⟨"TrailTeamsModel", "walked", "(I)I"⟩, 23) := ⟨⟨by decide +kernel, by decide +kernel⟩, List.mem_of_getElem? (i := 565) (by decide +kernel), List.mem_of_getElem? (i := 828) (by decide +kernel), List.mem_of_getElem? (i := 829) (by decide +kernel)⟩
theorem lw_p41 : lw_okq (⟨"TrailTeamsModel", "points", "(I)I"⟩, 23) := ⟨⟨by decide +kernel, by decide +kernel⟩, List.mem_of_getElem? (i := 565) (by decide +kernel), List.mem_of_getElem? (i := 832) (by decide +kernel), List.mem_of_getElem? (i := 833) (by decide +kernel)⟩
theorem lw_p42 : lw_okq (⟨"TrailTeamsModel", "hinted", "(I)I"⟩, 23) := ⟨⟨by decide +kernel, by decide +kernel⟩, List.mem_of_getElem? (i := 565) (by decide +kernel), List.mem_of_getElem? (i := 836) (by decide +kernel), List.mem_of_getElem? (i := 837) (by decide +kernel)⟩
theorem lw_p43 : lw_okq (⟨"TrailTeamsModel", "rank", "(I)I"⟩, 23) := ⟨⟨by decide +kernel, by decide +kernel⟩, List.mem_of_getElem? (i := 565) (by decide +kernel), List.mem_of_getElem? (i := 840) (by decide +kernel), List.mem_of_getElem? (i := 841) (by decide +kernel)⟩
theorem lw_p44 : lw_okq (⟨"TrailTeamsModel", "isAhead", "(II)Z"⟩, 23) := ⟨⟨by decide +kernel, by decide +kernel⟩, List.mem_of_getElem? (i := 565) (by decide +kernel), List.mem_of_getElem? (i := 844) (by decide +kernel), List.mem_of_getElem? (i := 845) (by decide +kernel)⟩
theorem lw_p45 : lw_okq (⟨"TrailTeamsModel", "atPlace", "(II)I"⟩, 23) := ⟨⟨by decide +kernel, by decide +kernel⟩, List.mem_of_getElem? (i := 565) (by decide +kernel), List.mem_of_getElem? (i := 852) (by decide +kernel), List.mem_of_getElem? (i := 853) (by decide +kernel)⟩
theorem lw_p46 : lw_okq (⟨"TrailTeamsModel", "crowd", "(I)I"⟩, 23) := ⟨⟨by decide +kernel, by decide +kernel⟩, List.mem_of_getElem? (i := 565) (by decide +kernel), List.mem_of_getElem? (i := 856) (by decide +kernel), List.mem_of_getElem? (i := 857) (by decide +kernel)⟩
theorem lw_p47 : lw_okq (⟨"TrailTeamsModel", "lastEnd", "()I"⟩, 23) := ⟨⟨by decide +kernel, by decide +kernel⟩, List.mem_of_getElem? (i := 565) (by decide +kernel), List.mem_of_getElem? (i := 872) (by decide +kernel), List.mem_of_getElem? (i := 873) (by decide +kernel)⟩
def lw_privs_3 : List (MethodName × Nat) := [(⟨"TrailTeamsModel", "exchanged", "(III)V"⟩, 23), (⟨"TrailTeamsModel", "leastStart", "(II)I"⟩, 23), (⟨"TrailTeamsModel", "met", "(I)I"⟩, 23), (⟨"TrailTeamsModel", "meet", "(II)Z"⟩, 23), (⟨"TrailTeamsModel", "meetAt", "(III)Z"⟩, 23), (⟨"TrailTeamsModel", "visitTo", "(II)I"⟩, 23), (⟨"TrailTeamsModel", "pairs", "()I"⟩, 23), (⟨"TrailTeamsModel", "queued", "(I)I"⟩, 23), (⟨"TrailTeamsModel", "walked", "(I)I"⟩, 23), (⟨"TrailTeamsModel", "points", "(I)I"⟩, 23), (⟨"TrailTeamsModel", "hinted", "(I)I"⟩, 23), (⟨"TrailTeamsModel", "rank", "(I)I"⟩, 23), (⟨"TrailTeamsModel", "isAhead", "(II)Z"⟩, 23), (⟨"TrailTeamsModel", "atPlace", "(II)I"⟩, 23), (⟨"TrailTeamsModel", "crowd", "(I)I"⟩, 23), (⟨"TrailTeamsModel", "lastEnd", "()I"⟩, 23)]
theorem lw_r3 : ∀ q ∈ lw_privs_3, lw_okq q := List.forall_mem_cons.mpr ⟨lw_p32, List.forall_mem_cons.mpr ⟨lw_p33, List.forall_mem_cons.mpr ⟨lw_p34, List.forall_mem_cons.mpr ⟨lw_p35, List.forall_mem_cons.mpr ⟨lw_p36, List.forall_mem_cons.mpr ⟨lw_p37, List.forall_mem_cons.mpr ⟨lw_p38, List.forall_mem_cons.mpr ⟨lw_p39, List.forall_mem_cons.mpr ⟨lw_p40, List.forall_mem_cons.mpr ⟨lw_p41, List.forall_mem_cons.mpr ⟨lw_p42, List.forall_mem_cons.mpr ⟨lw_p43, List.forall_mem_cons.mpr ⟨lw_p44, List.forall_mem_cons.mpr ⟨lw_p45, List.forall_mem_cons.mpr ⟨lw_p46, List.forall_mem_cons.mpr ⟨lw_p47, fun _ h => absurd h List.not_mem_nil⟩⟩⟩⟩⟩⟩⟩⟩⟩⟩⟩⟩⟩⟩⟩⟩
theorem lw_p48 : lw_okq (⟨"TrailTeamsModel", "allQueued", "()I"⟩, 23) := ⟨⟨by decide +kernel, by decide +kernel⟩, List.mem_of_getElem? (i := 565) (by decide +kernel), List.mem_of_getElem? (i := 876) (by decide +kernel), List.mem_of_getElem? (i := 877) (by decide +kernel)⟩
theorem lw_p49 : lw_okq (⟨"TrailTeamsModel", "winner", "()I"⟩, 23) := ⟨⟨by decide +kernel, by decide +kernel⟩, List.mem_of_getElem? (i := 565) (by decide +kernel), List.mem_of_getElem? (i := 880) (by decide +kernel), List.mem_of_getElem? (i := 881) (by decide +kernel)⟩
theorem lw_p50 : lw_okq (⟨"TrailTeamsModel", "sums", "(Z)I"⟩, 23) := ⟨⟨by decide +kernel, by decide +kernel⟩, List.mem_of_getElem? (i := 565) (by decide +kernel), List.mem_of_getElem? (i := 884) (by decide +kernel), List.mem_of_getElem? (i := 885) (by decide +kernel)⟩
theorem lw_p51 : lw_okq (⟨"TrailTeamsModel", "layAside", "()V"⟩, 23) := ⟨⟨by decide +kernel, by decide +kernel⟩, List.mem_of_getElem? (i := 565) (by decide +kernel), List.mem_of_getElem? (i := 904) (by decide +kernel), List.mem_of_getElem? (i := 905) (by decide +kernel)⟩
theorem lw_p52 : lw_okq (⟨"TrailTeamsModel", "putBack", "()V"⟩, 23) := ⟨⟨by decide +kernel, by decide +kernel⟩, List.mem_of_getElem? (i := 565) (by decide +kernel), List.mem_of_getElem? (i := 908) (by decide +kernel), List.mem_of_getElem? (i := 909) (by decide +kernel)⟩
def lw_privs_4 : List (MethodName × Nat) := [(⟨"TrailTeamsModel", "allQueued", "()I"⟩, 23), (⟨"TrailTeamsModel", "winner", "()I"⟩, 23), (⟨"TrailTeamsModel", "sums", "(Z)I"⟩, 23), (⟨"TrailTeamsModel", "layAside", "()V"⟩, 23), (⟨"TrailTeamsModel", "putBack", "()V"⟩, 23)]
theorem lw_r4 : ∀ q ∈ lw_privs_4, lw_okq q := List.forall_mem_cons.mpr ⟨lw_p48, List.forall_mem_cons.mpr ⟨lw_p49, List.forall_mem_cons.mpr ⟨lw_p50, List.forall_mem_cons.mpr ⟨lw_p51, List.forall_mem_cons.mpr ⟨lw_p52, fun _ h => absurd h List.not_mem_nil⟩⟩⟩⟩⟩
def lw_privs : List (MethodName × Nat) := lw_privs_1 ++ (lw_privs_2 ++ (lw_privs_3 ++ (lw_privs_4)))
def lw_tbl : List Cond := k2_sels lw_privs ++ tables_1
theorem lw_privs_ok : ∀ q ∈ lw_privs, lw_okq q := by
  show ∀ q ∈ lw_privs_1 ++ (lw_privs_2 ++ (lw_privs_3 ++ (lw_privs_4))), lw_okq q
  exact List.forall_mem_append.mpr ⟨lw_r1, List.forall_mem_append.mpr ⟨lw_r2, List.forall_mem_append.mpr ⟨lw_r3, lw_r4⟩⟩⟩

def RX0 : String := "TrailTeams$Game"
def TX0 : u_T := fun k => match k with
  | 0 => ("TrailTeams$Game", "state", "LTrailTeams$State;", false)
  | 1 => ("TrailTeams$Game", "teamCount", "I", false)
  | 2 => ("TrailTeams$Game", "trailLengths", "[I", true)
  | 3 => ("TrailTeams$Game", "places", "[[I", true)
  | 4 => ("TrailTeams$Game", "walks", "[[I", true)
  | 5 => ("TrailTeams$Game", "comes", "[[I", true)
  | 6 => ("TrailTeams$Game", "begins", "[[I", true)
  | 7 => ("TrailTeams$Game", "ends", "[[I", true)
  | 8 => ("TrailTeams$Game", "visitsMade", "[I", true)
  | 9 => ("TrailTeams$Game", "goesOn", "[I", true)
  | _ => ("TrailTeams$Game", "freeFrom", "[I", true)
def tyX0 : Nat → FieldType := fun k => match k with
  | 0 => .object "TrailTeams$State"
  | 1 => .int
  | 2 => .array .int
  | 3 => .array (.array .int)
  | 4 => .array (.array .int)
  | 5 => .array (.array .int)
  | 6 => .array (.array .int)
  | 7 => .array (.array .int)
  | 8 => .array .int
  | 9 => .array .int
  | _ => .array .int
abbrev wsX00 : List Cond := u_ws RX0 TX0 11
theorem nmX0 : ∀ a, a < 11 → ∀ b, b < 11 → a ≠ b → (TX0 a).2.1 ≠ (TX0 b).2.1 := by decide +kernel
theorem tyX0_ok : ∀ k, k < 11 → parseFieldDescriptor (TX0 k).2.2.1 = some (tyX0 k) := by decide +kernel
abbrev cX0_init : ByteArray := prog_2_method_1_code
def yX0_init : MethodName := ⟨RX0, "<init>", "()V"⟩
abbrev cX0_play : ByteArray := prog_2_method_2_code
def yX0_play : MethodName := ⟨RX0, "play", "(LTrailTeams$State;I)V"⟩
abbrev cX0_layTrail : ByteArray := prog_2_method_3_code
def yX0_layTrail : MethodName := ⟨RX0, "layTrail", "(I)V"⟩
abbrev cX0_nextToCome : ByteArray := prog_2_method_4_code
def yX0_nextToCome : MethodName := ⟨RX0, "nextToCome", "()I"⟩
abbrev cX0_makeVisit : ByteArray := prog_2_method_5_code
def yX0_makeVisit : MethodName := ⟨RX0, "makeVisit", "(I)V"⟩
abbrev cX0_visitAt : ByteArray := prog_2_method_6_code
def yX0_visitAt : MethodName := ⟨RX0, "visitAt", "(II)I"⟩
abbrev cX0_queueingOf : ByteArray := prog_2_method_7_code
def yX0_queueingOf : MethodName := ⟨RX0, "queueingOf", "(I)I"⟩
abbrev cX0_walkingOf : ByteArray := prog_2_method_8_code
def yX0_walkingOf : MethodName := ⟨RX0, "walkingOf", "(I)I"⟩
abbrev cX0_hintsOf : ByteArray := prog_2_method_9_code
def yX0_hintsOf : MethodName := ⟨RX0, "hintsOf", "(I)I"⟩
abbrev cX0_pointsOf : ByteArray := prog_2_method_10_code
def yX0_pointsOf : MethodName := ⟨RX0, "pointsOf", "(I)I"⟩
abbrev cX0_rankOf : ByteArray := prog_2_method_11_code
def yX0_rankOf : MethodName := ⟨RX0, "rankOf", "(I)I"⟩
abbrev cX0_isAhead : ByteArray := prog_2_method_12_code
def yX0_isAhead : MethodName := ⟨RX0, "isAhead", "(II)Z"⟩
abbrev cX0_placeWithTeam : ByteArray := prog_2_method_13_code
def yX0_placeWithTeam : MethodName := ⟨RX0, "placeWithTeam", "(II)I"⟩
abbrev cX0_isThere : ByteArray := prog_2_method_14_code
def yX0_isThere : MethodName := ⟨RX0, "isThere", "(III)Z"⟩
abbrev cX0_placeToldTo : ByteArray := prog_2_method_15_code
def yX0_placeToldTo : MethodName := ⟨RX0, "placeToldTo", "(II)I"⟩
abbrev cX0_meetAt : ByteArray := prog_2_method_16_code
def yX0_meetAt : MethodName := ⟨RX0, "meetAt", "(III)Z"⟩
abbrev cX0_meet : ByteArray := prog_2_method_17_code
def yX0_meet : MethodName := ⟨RX0, "meet", "(II)Z"⟩
abbrev cX0_teamsMetBy : ByteArray := prog_2_method_18_code
def yX0_teamsMetBy : MethodName := ⟨RX0, "teamsMetBy", "(I)I"⟩
abbrev cX0_pairs : ByteArray := prog_2_method_19_code
def yX0_pairs : MethodName := ⟨RX0, "pairs", "()I"⟩
abbrev cX0_pairsAt : ByteArray := prog_2_method_20_code
def yX0_pairsAt : MethodName := ⟨RX0, "pairsAt", "(I)I"⟩
abbrev cX0_teamsAt : ByteArray := prog_2_method_21_code
def yX0_teamsAt : MethodName := ⟨RX0, "teamsAt", "(I)I"⟩
abbrev cX0_queueingAt : ByteArray := prog_2_method_22_code
def yX0_queueingAt : MethodName := ⟨RX0, "queueingAt", "(I)I"⟩
abbrev cX0_mostAt : ByteArray := prog_2_method_23_code
def yX0_mostAt : MethodName := ⟨RX0, "mostAt", "(I)I"⟩
abbrev cX0_teamsThere : ByteArray := prog_2_method_24_code
def yX0_teamsThere : MethodName := ⟨RX0, "teamsThere", "(II)I"⟩
abbrev cX0_lastEnd : ByteArray := prog_2_method_25_code
def yX0_lastEnd : MethodName := ⟨RX0, "lastEnd", "()I"⟩
abbrev cX0_queueing : ByteArray := prog_2_method_26_code
def yX0_queueing : MethodName := ⟨RX0, "queueing", "()I"⟩
abbrev cX0_winner : ByteArray := prog_2_method_27_code
def yX0_winner : MethodName := ⟨RX0, "winner", "()I"⟩
abbrev cX0_points : ByteArray := prog_2_method_28_code
def yX0_points : MethodName := ⟨RX0, "points", "()I"⟩
abbrev cX0_visits : ByteArray := prog_2_method_29_code
def yX0_visits : MethodName := ⟨RX0, "visits", "()I"⟩
def RX1 : String := "TrailTeams$History"
def TX1 : u_T := fun k => match k with
  | 0 => ("TrailTeams$History", "states", "[LTrailTeams$State;", true)
  | 1 => ("TrailTeams$History", "oldest", "I", false)
  | _ => ("TrailTeams$History", "length", "I", false)
def tyX1 : Nat → FieldType := fun k => match k with
  | 0 => .array (.object "TrailTeams$State")
  | 1 => .int
  | _ => .int
abbrev wsX10 : List Cond := u_ws RX1 TX1 3
theorem nmX1 : ∀ a, a < 3 → ∀ b, b < 3 → a ≠ b → (TX1 a).2.1 ≠ (TX1 b).2.1 := by decide +kernel
theorem tyX1_ok : ∀ k, k < 3 → parseFieldDescriptor (TX1 k).2.2.1 = some (tyX1 k) := by decide +kernel
abbrev cX1_init : ByteArray := prog_3_method_1_code
def yX1_init : MethodName := ⟨RX1, "<init>", "()V"⟩
abbrev cX1_record : ByteArray := prog_3_method_2_code
def yX1_record : MethodName := ⟨RX1, "record", "(LTrailTeams$State;)V"⟩
abbrev cX1_takeBack : ByteArray := prog_3_method_3_code
def yX1_takeBack : MethodName := ⟨RX1, "takeBack", "(LTrailTeams$State;)V"⟩
def RX2 : String := "TrailTeams$Pad"
def TX2 : u_T := fun k => match k with
  | 0 => ("TrailTeams$Pad", "signs", "[C", true)
  | _ => ("TrailTeams$Pad", "length", "I", false)
def tyX2 : Nat → FieldType := fun k => match k with
  | 0 => .array .char
  | _ => .int
abbrev wsX20 : List Cond := u_ws RX2 TX2 2
theorem nmX2 : ∀ a, a < 2 → ∀ b, b < 2 → a ≠ b → (TX2 a).2.1 ≠ (TX2 b).2.1 := by decide +kernel
theorem tyX2_ok : ∀ k, k < 2 → parseFieldDescriptor (TX2 k).2.2.1 = some (tyX2 k) := by decide +kernel
abbrev cX2_init : ByteArray := prog_4_method_1_code
def yX2_init : MethodName := ⟨RX2, "<init>", "()V"⟩
abbrev cX2_lengthOf : ByteArray := prog_4_method_2_code
def yX2_lengthOf : MethodName := ⟨RX2, "lengthOf", "(J)I"⟩
abbrev cX2_append : ByteArray := prog_4_method_3_code
def yX2_append : MethodName := ⟨RX2, "append", "(JI)V"⟩
abbrev cX2_firstFault : ByteArray := prog_4_method_4_code
def yX2_firstFault : MethodName := ⟨RX2, "firstFault", "()I"⟩
abbrev cX2_moveTo : ByteArray := prog_4_method_5_code
def yX2_moveTo : MethodName := ⟨RX2, "moveTo", "(LTrailTeams$Team;)V"⟩
def RX3 : String := "TrailTeams$State"
def TX3 : u_T := fun k => match k with
  | 0 => ("TrailTeams$State", "settings", "[I", true)
  | 1 => ("TrailTeams$State", "xs", "[I", true)
  | 2 => ("TrailTeams$State", "ys", "[I", true)
  | 3 => ("TrailTeams$State", "looks", "[I", true)
  | 4 => ("TrailTeams$State", "closedPlaces", "I", false)
  | 5 => ("TrailTeams$State", "teams", "[LTrailTeams$Team;", true)
  | _ => ("TrailTeams$State", "teamCount", "I", false)
def tyX3 : Nat → FieldType := fun k => match k with
  | 0 => .array .int
  | 1 => .array .int
  | 2 => .array .int
  | 3 => .array .int
  | 4 => .int
  | 5 => .array (.object "TrailTeams$Team")
  | _ => .int
abbrev wsX30 : List Cond := u_ws RX3 TX3 7
theorem nmX3 : ∀ a, a < 7 → ∀ b, b < 7 → a ≠ b → (TX3 a).2.1 ≠ (TX3 b).2.1 := by decide +kernel
theorem tyX3_ok : ∀ k, k < 7 → parseFieldDescriptor (TX3 k).2.2.1 = some (tyX3 k) := by decide +kernel
abbrev cX3_init : ByteArray := prog_5_method_1_code
def yX3_init : MethodName := ⟨RX3, "<init>", "()V"⟩
abbrev cX3_copyFrom : ByteArray := prog_5_method_2_code
def yX3_copyFrom : MethodName := ⟨RX3, "copyFrom", "(LTrailTeams$State;)V"⟩
abbrev cX3_isClosed : ByteArray := prog_5_method_3_code
def yX3_isClosed : MethodName := ⟨RX3, "isClosed", "(I)Z"⟩
abbrev cX3_openPlaces : ByteArray := prog_5_method_4_code
def yX3_openPlaces : MethodName := ⟨RX3, "openPlaces", "()I"⟩
abbrev cX3_trailLength : ByteArray := prog_5_method_5_code
def yX3_trailLength : MethodName := ⟨RX3, "trailLength", "(I)I"⟩
abbrev cX3_lookOf : ByteArray := prog_5_method_6_code
def yX3_lookOf : MethodName := ⟨RX3, "lookOf", "(II)I"⟩
def RX4 : String := "TrailTeams$Team"
def TX4 : u_T := fun k => match k with
  | 0 => ("TrailTeams$Team", "route", "[I", true)
  | 1 => ("TrailTeams$Team", "length", "I", false)
  | 2 => ("TrailTeams$Team", "start", "I", false)
  | 3 => ("TrailTeams$Team", "hints", "I", false)
  | _ => ("TrailTeams$Team", "lostBehind", "I", false)
def tyX4 : Nat → FieldType := fun k => match k with
  | 0 => .array .int
  | 1 => .int
  | 2 => .int
  | 3 => .int
  | _ => .int
abbrev wsX40 : List Cond := u_ws RX4 TX4 5
theorem nmX4 : ∀ a, a < 5 → ∀ b, b < 5 → a ≠ b → (TX4 a).2.1 ≠ (TX4 b).2.1 := by decide +kernel
theorem tyX4_ok : ∀ k, k < 5 → parseFieldDescriptor (TX4 k).2.2.1 = some (tyX4 k) := by decide +kernel
abbrev cX4_init : ByteArray := prog_6_method_1_code
def yX4_init : MethodName := ⟨RX4, "<init>", "()V"⟩
abbrev cX4_copyFrom : ByteArray := prog_6_method_2_code
def yX4_copyFrom : MethodName := ⟨RX4, "copyFrom", "(LTrailTeams$Team;)V"⟩
abbrev cX4_hasHint : ByteArray := prog_6_method_3_code
def yX4_hasHint : MethodName := ⟨RX4, "hasHint", "(I)Z"⟩
abbrev cX4_turnRoute : ByteArray := prog_6_method_4_code
def yX4_turnRoute : MethodName := ⟨RX4, "turnRoute", "(I)V"⟩
abbrev cX4_exchangePlaces : ByteArray := prog_6_method_5_code
def yX4_exchangePlaces : MethodName := ⟨RX4, "exchangePlaces", "(II)V"⟩
def RX5 : String := "TrailTeams"
def TX5 : u_T := fun k => match k with
  | 0 => ("TrailTeams", "now", "LTrailTeams$State;", true)
  | 1 => ("TrailTeams", "trial", "LTrailTeams$State;", true)
  | 2 => ("TrailTeams", "game", "LTrailTeams$Game;", true)
  | 3 => ("TrailTeams", "pad", "LTrailTeams$Pad;", true)
  | 4 => ("TrailTeams", "history", "LTrailTeams$History;", true)
  | 5 => ("TrailTeams", "slots", "[LTrailTeams$State;", true)
  | _ => ("TrailTeams", "isSaved", "[Z", true)
def tyX5 : Nat → FieldType := fun k => match k with
  | 0 => .object "TrailTeams$State"
  | 1 => .object "TrailTeams$State"
  | 2 => .object "TrailTeams$Game"
  | 3 => .object "TrailTeams$Pad"
  | 4 => .object "TrailTeams$History"
  | 5 => .array (.object "TrailTeams$State")
  | _ => .array .boolean
abbrev wsX50 : List Cond := u_ws RX5 TX5 7
theorem nmX5 : ∀ a, a < 7 → ∀ b, b < 7 → a ≠ b → (TX5 a).2.1 ≠ (TX5 b).2.1 := by decide +kernel
theorem tyX5_ok : ∀ k, k < 7 → parseFieldDescriptor (TX5 k).2.2.1 = some (tyX5 k) := by decide +kernel
abbrev cX5_init : ByteArray := prog_1_method_1_code
def yX5_init : MethodName := ⟨RX5, "<init>", "()V"⟩
abbrev cX5_set : ByteArray := prog_1_method_2_code
def yX5_set : MethodName := ⟨RX5, "set", "(II)I"⟩
abbrev cX5_place : ByteArray := prog_1_method_3_code
def yX5_place : MethodName := ⟨RX5, "place", "(IIII)I"⟩
abbrev cX5_close : ByteArray := prog_1_method_4_code
def yX5_close : MethodName := ⟨RX5, "close", "(IZ)I"⟩
abbrev cX5_team : ByteArray := prog_1_method_5_code
def yX5_team : MethodName := ⟨RX5, "team", "(I)I"⟩
abbrev cX5_route : ByteArray := prog_1_method_6_code
def yX5_route : MethodName := ⟨RX5, "route", "(I)I"⟩
abbrev cX5_leave : ByteArray := prog_1_method_7_code
def yX5_leave : MethodName := ⟨RX5, "leave", "(I)I"⟩
abbrev cX5_start : ByteArray := prog_1_method_8_code
def yX5_start : MethodName := ⟨RX5, "start", "(II)I"⟩
abbrev cX5_hint : ByteArray := prog_1_method_9_code
def yX5_hint : MethodName := ⟨RX5, "hint", "(IIZ)I"⟩
abbrev cX5_lose : ByteArray := prog_1_method_10_code
def yX5_lose : MethodName := ⟨RX5, "lose", "(II)I"⟩
abbrev cX5_turn : ByteArray := prog_1_method_11_code
def yX5_turn : MethodName := ⟨RX5, "turn", "(II)I"⟩
abbrev cX5_exchange : ByteArray := prog_1_method_12_code
def yX5_exchange : MethodName := ⟨RX5, "exchange", "(III)I"⟩
abbrev cX5_part : ByteArray := prog_1_method_13_code
def yX5_part : MethodName := ⟨RX5, "part", "()I"⟩
abbrev cX5_visit : ByteArray := prog_1_method_14_code
def yX5_visit : MethodName := ⟨RX5, "visit", "(III)I"⟩
abbrev cX5_teamOf : ByteArray := prog_1_method_15_code
def yX5_teamOf : MethodName := ⟨RX5, "teamOf", "(II)I"⟩
abbrev cX5_placeOf : ByteArray := prog_1_method_16_code
def yX5_placeOf : MethodName := ⟨RX5, "placeOf", "(II)I"⟩
abbrev cX5_where : ByteArray := prog_1_method_17_code
def yX5_where : MethodName := ⟨RX5, "where", "(II)I"⟩
abbrev cX5_told : ByteArray := prog_1_method_18_code
def yX5_told : MethodName := ⟨RX5, "told", "(II)I"⟩
abbrev cX5_count : ByteArray := prog_1_method_19_code
def yX5_count : MethodName := ⟨RX5, "count", "(I)I"⟩
abbrev cX5_freeStart : ByteArray := prog_1_method_20_code
def yX5_freeStart : MethodName := ⟨RX5, "freeStart", "(I)I"⟩
abbrev cX5_bestExchange : ByteArray := prog_1_method_21_code
def yX5_bestExchange : MethodName := ⟨RX5, "bestExchange", "(II)I"⟩
abbrev cX5_worstPlace : ByteArray := prog_1_method_22_code
def yX5_worstPlace : MethodName := ⟨RX5, "worstPlace", "(I)I"⟩
abbrev cX5_ifTurned : ByteArray := prog_1_method_23_code
def yX5_ifTurned : MethodName := ⟨RX5, "ifTurned", "(II)I"⟩
abbrev cX5_put : ByteArray := prog_1_method_24_code
def yX5_put : MethodName := ⟨RX5, "put", "(J)I"⟩
abbrev cX5_wipe : ByteArray := prog_1_method_25_code
def yX5_wipe : MethodName := ⟨RX5, "wipe", "()I"⟩
abbrev cX5_fault : ByteArray := prog_1_method_26_code
def yX5_fault : MethodName := ⟨RX5, "fault", "()I"⟩
abbrev cX5_undo : ByteArray := prog_1_method_27_code
def yX5_undo : MethodName := ⟨RX5, "undo", "()I"⟩
abbrev cX5_save : ByteArray := prog_1_method_28_code
def yX5_save : MethodName := ⟨RX5, "save", "(I)I"⟩
abbrev cX5_restore : ByteArray := prog_1_method_29_code
def yX5_restore : MethodName := ⟨RX5, "restore", "(I)I"⟩
abbrev cX5_isFrom : ByteArray := prog_1_method_30_code
def yX5_isFrom : MethodName := ⟨RX5, "isFrom", "(III)Z"⟩
abbrev cX5_isPlace : ByteArray := prog_1_method_31_code
def yX5_isPlace : MethodName := ⟨RX5, "isPlace", "(I)Z"⟩
abbrev cX5_isTeam : ByteArray := prog_1_method_32_code
def yX5_isTeam : MethodName := ⟨RX5, "isTeam", "(I)Z"⟩
abbrev cX5_isInRoute : ByteArray := prog_1_method_33_code
def yX5_isInRoute : MethodName := ⟨RX5, "isInRoute", "(II)Z"⟩
abbrev cX5_playNow : ByteArray := prog_1_method_34_code
def yX5_playNow : MethodName := ⟨RX5, "playNow", "()V"⟩
abbrev cX5_endNow : ByteArray := prog_1_method_35_code
def yX5_endNow : MethodName := ⟨RX5, "endNow", "(I)I"⟩
abbrev cX5_leastFreeStart : ByteArray := prog_1_method_36_code
def yX5_leastFreeStart : MethodName := ⟨RX5, "leastFreeStart", "(LTrailTeams$State;II)I"⟩
abbrev cX5_endIfExchanged : ByteArray := prog_1_method_37_code
def yX5_endIfExchanged : MethodName := ⟨RX5, "endIfExchanged", "(III)I"⟩
def RX6 : String := "TrailTeamsModel"
def TX6 : u_T := fun k => match k with
  | 0 => ("TrailTeamsModel", "row", "[I", true)
  | 1 => ("TrailTeamsModel", "past", "[I", true)
  | 2 => ("TrailTeamsModel", "before", "[I", true)
  | 3 => ("TrailTeamsModel", "aside", "[I", true)
  | 4 => ("TrailTeamsModel", "slots", "[I", true)
  | 5 => ("TrailTeamsModel", "isSaved", "[Z", true)
  | 6 => ("TrailTeamsModel", "states", "I", false)
  | 7 => ("TrailTeamsModel", "pad", "[I", true)
  | 8 => ("TrailTeamsModel", "length", "I", false)
  | 9 => ("TrailTeamsModel", "at", "I", false)
  | 10 => ("TrailTeamsModel", "codes", "[I", true)
  | 11 => ("TrailTeamsModel", "read", "[I", true)
  | 12 => ("TrailTeamsModel", "many", "I", false)
  | 13 => ("TrailTeamsModel", "playing", "I", false)
  | 14 => ("TrailTeamsModel", "trail", "[I", true)
  | 15 => ("TrailTeamsModel", "place", "[I", true)
  | 16 => ("TrailTeamsModel", "comes", "[I", true)
  | 17 => ("TrailTeamsModel", "begins", "[I", true)
  | 18 => ("TrailTeamsModel", "ends", "[I", true)
  | 19 => ("TrailTeamsModel", "walks", "[I", true)
  | 20 => ("TrailTeamsModel", "over", "[I", true)
  | 21 => ("TrailTeamsModel", "done", "[I", true)
  | _ => ("TrailTeamsModel", "free", "[I", true)
def tyX6 : Nat → FieldType := fun k => match k with
  | 0 => .array .int
  | 1 => .array .int
  | 2 => .array .int
  | 3 => .array .int
  | 4 => .array .int
  | 5 => .array .boolean
  | 6 => .int
  | 7 => .array .int
  | 8 => .int
  | 9 => .int
  | 10 => .array .int
  | 11 => .array .int
  | 12 => .int
  | 13 => .int
  | 14 => .array .int
  | 15 => .array .int
  | 16 => .array .int
  | 17 => .array .int
  | 18 => .array .int
  | 19 => .array .int
  | 20 => .array .int
  | 21 => .array .int
  | _ => .array .int
abbrev wsX60 : List Cond := u_ws RX6 TX6 23
theorem nmX6 : ∀ a, a < 23 → ∀ b, b < 23 → a ≠ b → (TX6 a).2.1 ≠ (TX6 b).2.1 := by decide +kernel
theorem tyX6_ok : ∀ k, k < 23 → parseFieldDescriptor (TX6 k).2.2.1 = some (tyX6 k) := by decide +kernel
abbrev cX6_init : ByteArray := prog_8_method_1_code
def yX6_init : MethodName := ⟨RX6, "<init>", "()V"⟩
abbrev cX6_in : ByteArray := prog_8_method_2_code
def yX6_in : MethodName := ⟨RX6, "in", "(JII)Z"⟩
abbrev cX6_isPlace : ByteArray := prog_8_method_3_code
def yX6_isPlace : MethodName := ⟨RX6, "isPlace", "(I)Z"⟩
abbrev cX6_isTeam : ByteArray := prog_8_method_4_code
def yX6_isTeam : MethodName := ⟨RX6, "isTeam", "(I)Z"⟩
abbrev cX6_its : ByteArray := prog_8_method_5_code
def yX6_its : MethodName := ⟨RX6, "its", "(II)I"⟩
abbrev cX6_lay : ByteArray := prog_8_method_6_code
def yX6_lay : MethodName := ⟨RX6, "lay", "(III)V"⟩
abbrev cX6_of : ByteArray := prog_8_method_7_code
def yX6_of : MethodName := ⟨RX6, "of", "(II)I"⟩
abbrev cX6_size : ByteArray := prog_8_method_8_code
def yX6_size : MethodName := ⟨RX6, "size", "(I)I"⟩
abbrev cX6_remember : ByteArray := prog_8_method_9_code
def yX6_remember : MethodName := ⟨RX6, "remember", "()V"⟩
abbrev cX6_record : ByteArray := prog_8_method_10_code
def yX6_record : MethodName := ⟨RX6, "record", "(I)I"⟩
abbrev cX6_undo : ByteArray := prog_8_method_11_code
def yX6_undo : MethodName := ⟨RX6, "undo", "()I"⟩
abbrev cX6_save : ByteArray := prog_8_method_12_code
def yX6_save : MethodName := ⟨RX6, "save", "(I)I"⟩
abbrev cX6_restore : ByteArray := prog_8_method_13_code
def yX6_restore : MethodName := ⟨RX6, "restore", "(I)I"⟩
abbrev cX6_layAside : ByteArray := prog_8_method_14_code
def yX6_layAside : MethodName := ⟨RX6, "layAside", "()V"⟩
abbrev cX6_putBack : ByteArray := prog_8_method_15_code
def yX6_putBack : MethodName := ⟨RX6, "putBack", "()V"⟩
abbrev cX6_prepare : ByteArray := prog_8_method_16_code
def yX6_prepare : MethodName := ⟨RX6, "prepare", "(I)V"⟩
abbrev cX6_walk : ByteArray := prog_8_method_17_code
def yX6_walk : MethodName := ⟨RX6, "walk", "(IZ)V"⟩
abbrev cX6_next : ByteArray := prog_8_method_18_code
def yX6_next : MethodName := ⟨RX6, "next", "()I"⟩
abbrev cX6_hasLost : ByteArray := prog_8_method_19_code
def yX6_hasLost : MethodName := ⟨RX6, "hasLost", "(I)Z"⟩
abbrev cX6_play : ByteArray := prog_8_method_20_code
def yX6_play : MethodName := ⟨RX6, "play", "(I)V"⟩
abbrev cX6_playAll : ByteArray := prog_8_method_21_code
def yX6_playAll : MethodName := ⟨RX6, "playAll", "()V"⟩
abbrev cX6_visitTo : ByteArray := prog_8_method_22_code
def yX6_visitTo : MethodName := ⟨RX6, "visitTo", "(II)I"⟩
abbrev cX6_meetAt : ByteArray := prog_8_method_23_code
def yX6_meetAt : MethodName := ⟨RX6, "meetAt", "(III)Z"⟩
abbrev cX6_meet : ByteArray := prog_8_method_24_code
def yX6_meet : MethodName := ⟨RX6, "meet", "(II)Z"⟩
abbrev cX6_met : ByteArray := prog_8_method_25_code
def yX6_met : MethodName := ⟨RX6, "met", "(I)I"⟩
abbrev cX6_pairs : ByteArray := prog_8_method_26_code
def yX6_pairs : MethodName := ⟨RX6, "pairs", "()I"⟩
abbrev cX6_queued : ByteArray := prog_8_method_27_code
def yX6_queued : MethodName := ⟨RX6, "queued", "(I)I"⟩
abbrev cX6_allQueued : ByteArray := prog_8_method_28_code
def yX6_allQueued : MethodName := ⟨RX6, "allQueued", "()I"⟩
abbrev cX6_hinted : ByteArray := prog_8_method_29_code
def yX6_hinted : MethodName := ⟨RX6, "hinted", "(I)I"⟩
abbrev cX6_points : ByteArray := prog_8_method_30_code
def yX6_points : MethodName := ⟨RX6, "points", "(I)I"⟩
abbrev cX6_isAhead : ByteArray := prog_8_method_31_code
def yX6_isAhead : MethodName := ⟨RX6, "isAhead", "(II)Z"⟩
abbrev cX6_rank : ByteArray := prog_8_method_32_code
def yX6_rank : MethodName := ⟨RX6, "rank", "(I)I"⟩
abbrev cX6_endOf : ByteArray := prog_8_method_33_code
def yX6_endOf : MethodName := ⟨RX6, "endOf", "(I)I"⟩
abbrev cX6_set : ByteArray := prog_8_method_34_code
def yX6_set : MethodName := ⟨RX6, "set", "(II)I"⟩
abbrev cX6_place : ByteArray := prog_8_method_35_code
def yX6_place : MethodName := ⟨RX6, "place", "(IIII)I"⟩
abbrev cX6_openOnes : ByteArray := prog_8_method_36_code
def yX6_openOnes : MethodName := ⟨RX6, "openOnes", "()I"⟩
abbrev cX6_close : ByteArray := prog_8_method_37_code
def yX6_close : MethodName := ⟨RX6, "close", "(IZ)I"⟩
abbrev cX6_takeRoute : ByteArray := prog_8_method_38_code
def yX6_takeRoute : MethodName := ⟨RX6, "takeRoute", "(I)V"⟩
abbrev cX6_team : ByteArray := prog_8_method_39_code
def yX6_team : MethodName := ⟨RX6, "team", "(I)I"⟩
abbrev cX6_route : ByteArray := prog_8_method_40_code
def yX6_route : MethodName := ⟨RX6, "route", "(I)I"⟩
abbrev cX6_leave : ByteArray := prog_8_method_41_code
def yX6_leave : MethodName := ⟨RX6, "leave", "(I)I"⟩
abbrev cX6_start : ByteArray := prog_8_method_42_code
def yX6_start : MethodName := ⟨RX6, "start", "(II)I"⟩
abbrev cX6_hint : ByteArray := prog_8_method_43_code
def yX6_hint : MethodName := ⟨RX6, "hint", "(IIZ)I"⟩
abbrev cX6_lose : ByteArray := prog_8_method_44_code
def yX6_lose : MethodName := ⟨RX6, "lose", "(II)I"⟩
abbrev cX6_turned : ByteArray := prog_8_method_45_code
def yX6_turned : MethodName := ⟨RX6, "turned", "(II)V"⟩
abbrev cX6_turn : ByteArray := prog_8_method_46_code
def yX6_turn : MethodName := ⟨RX6, "turn", "(II)I"⟩
abbrev cX6_exchanged : ByteArray := prog_8_method_47_code
def yX6_exchanged : MethodName := ⟨RX6, "exchanged", "(III)V"⟩
abbrev cX6_exchange : ByteArray := prog_8_method_48_code
def yX6_exchange : MethodName := ⟨RX6, "exchange", "(III)I"⟩
abbrev cX6_leastStart : ByteArray := prog_8_method_49_code
def yX6_leastStart : MethodName := ⟨RX6, "leastStart", "(II)I"⟩
abbrev cX6_part : ByteArray := prog_8_method_50_code
def yX6_part : MethodName := ⟨RX6, "part", "()I"⟩
abbrev cX6_visit : ByteArray := prog_8_method_51_code
def yX6_visit : MethodName := ⟨RX6, "visit", "(III)I"⟩
abbrev cX6_walked : ByteArray := prog_8_method_52_code
def yX6_walked : MethodName := ⟨RX6, "walked", "(I)I"⟩
abbrev cX6_teamOf : ByteArray := prog_8_method_53_code
def yX6_teamOf : MethodName := ⟨RX6, "teamOf", "(II)I"⟩
abbrev cX6_atPlace : ByteArray := prog_8_method_54_code
def yX6_atPlace : MethodName := ⟨RX6, "atPlace", "(II)I"⟩
abbrev cX6_crowd : ByteArray := prog_8_method_55_code
def yX6_crowd : MethodName := ⟨RX6, "crowd", "(I)I"⟩
abbrev cX6_placeOf : ByteArray := prog_8_method_56_code
def yX6_placeOf : MethodName := ⟨RX6, "placeOf", "(II)I"⟩
abbrev cX6_where : ByteArray := prog_8_method_57_code
def yX6_where : MethodName := ⟨RX6, "where", "(II)I"⟩
abbrev cX6_told : ByteArray := prog_8_method_58_code
def yX6_told : MethodName := ⟨RX6, "told", "(II)I"⟩
abbrev cX6_lastEnd : ByteArray := prog_8_method_59_code
def yX6_lastEnd : MethodName := ⟨RX6, "lastEnd", "()I"⟩
abbrev cX6_winner : ByteArray := prog_8_method_60_code
def yX6_winner : MethodName := ⟨RX6, "winner", "()I"⟩
abbrev cX6_sums : ByteArray := prog_8_method_61_code
def yX6_sums : MethodName := ⟨RX6, "sums", "(Z)I"⟩
abbrev cX6_count : ByteArray := prog_8_method_62_code
def yX6_count : MethodName := ⟨RX6, "count", "(I)I"⟩
abbrev cX6_freeStart : ByteArray := prog_8_method_63_code
def yX6_freeStart : MethodName := ⟨RX6, "freeStart", "(I)I"⟩
abbrev cX6_bestExchange : ByteArray := prog_8_method_64_code
def yX6_bestExchange : MethodName := ⟨RX6, "bestExchange", "(II)I"⟩
abbrev cX6_worstPlace : ByteArray := prog_8_method_65_code
def yX6_worstPlace : MethodName := ⟨RX6, "worstPlace", "(I)I"⟩
abbrev cX6_ifTurned : ByteArray := prog_8_method_66_code
def yX6_ifTurned : MethodName := ⟨RX6, "ifTurned", "(II)I"⟩
abbrev cX6_put : ByteArray := prog_8_method_67_code
def yX6_put : MethodName := ⟨RX6, "put", "(J)I"⟩
abbrev cX6_wipe : ByteArray := prog_8_method_68_code
def yX6_wipe : MethodName := ⟨RX6, "wipe", "()I"⟩
abbrev cX6_readPlace : ByteArray := prog_8_method_69_code
def yX6_readPlace : MethodName := ⟨RX6, "readPlace", "()Z"⟩
abbrev cX6_isWell : ByteArray := prog_8_method_70_code
def yX6_isWell : MethodName := ⟨RX6, "isWell", "()Z"⟩
abbrev cX6_fault : ByteArray := prog_8_method_71_code
def yX6_fault : MethodName := ⟨RX6, "fault", "()I"⟩
def RJ6 : String := "java/lang/Integer"
def TJ6 : u_T := fun k => match k with
  | _ => ("", "", "", false)
def tyJ6 : Nat → FieldType := fun k => match k with
  | _ => .int
abbrev wsJ60 : List Cond := u_ws RJ6 TJ6 0
theorem nmJ6 : ∀ a, a < 0 → ∀ b, b < 0 → a ≠ b → (TJ6 a).2.1 ≠ (TJ6 b).2.1 := by decide +kernel
theorem tyJ6_ok : ∀ k, k < 0 → parseFieldDescriptor (TJ6 k).2.2.1 = some (tyJ6 k) := by decide +kernel
abbrev cJ6_bitCount_0f7a4 : ByteArray := prog_9_method_49_code
def yJ6_bitCount_0f7a4 : MethodName := ⟨RJ6, "bitCount", "(I)I"⟩
def RJ9 : String := "java/lang/Math"
def TJ9 : u_T := fun k => match k with
  | _ => ("", "", "", false)
def tyJ9 : Nat → FieldType := fun k => match k with
  | _ => .int
abbrev wsJ90 : List Cond := u_ws RJ9 TJ9 0
theorem nmJ9 : ∀ a, a < 0 → ∀ b, b < 0 → a ≠ b → (TJ9 a).2.1 ≠ (TJ9 b).2.1 := by decide +kernel
theorem tyJ9_ok : ∀ k, k < 0 → parseFieldDescriptor (TJ9 k).2.2.1 = some (tyJ9 k) := by decide +kernel
abbrev cJ9_abs_0f7a4 : ByteArray := prog_10_method_59_code
def yJ9_abs_0f7a4 : MethodName := ⟨RJ9, "abs", "(I)I"⟩
abbrev cJ9_max_7cf53 : ByteArray := prog_10_method_65_code
def yJ9_max_7cf53 : MethodName := ⟨RJ9, "max", "(II)I"⟩
abbrev cJ9_min_7cf53 : ByteArray := prog_10_method_69_code
def yJ9_min_7cf53 : MethodName := ⟨RJ9, "min", "(II)I"⟩
def RJ10 : String := "java/lang/System"
def TJ10 : u_T := fun k => match k with
  | _ => ("", "", "", false)
def tyJ10 : Nat → FieldType := fun k => match k with
  | _ => .int
abbrev wsJ100 : List Cond := u_ws RJ10 TJ10 0
theorem nmJ10 : ∀ a, a < 0 → ∀ b, b < 0 → a ≠ b → (TJ10 a).2.1 ≠ (TJ10 b).2.1 := by decide +kernel
theorem tyJ10_ok : ∀ k, k < 0 → parseFieldDescriptor (TJ10 k).2.2.1 = some (tyJ10 k) := by decide +kernel
def RJ7 : String := "java/util/Arrays"
def TJ7 : u_T := fun k => match k with
  | _ => ("", "", "", false)
def tyJ7 : Nat → FieldType := fun k => match k with
  | _ => .int
abbrev wsJ70 : List Cond := u_ws RJ7 TJ7 0
theorem nmJ7 : ∀ a, a < 0 → ∀ b, b < 0 → a ≠ b → (TJ7 a).2.1 ≠ (TJ7 b).2.1 := by decide +kernel
theorem tyJ7_ok : ∀ k, k < 0 → parseFieldDescriptor (TJ7 k).2.2.1 = some (tyJ7 k) := by decide +kernel
abbrev cJ7_fill_53178 : ByteArray := prog_12_method_103_code
def yJ7_fill_53178 : MethodName := ⟨RJ7, "fill", "([II)V"⟩
def RL : String := "TrailTeamsLaw"
abbrev cL_law : ByteArray := code
abbrev vwCl : List vw_C := [(RX0, TX0, 11), (RX1, TX1, 3), (RX2, TX2, 2), (RX3, TX3, 7), (RX4, TX4, 5), (RX5, TX5, 7), (RX6, TX6, 23)]
