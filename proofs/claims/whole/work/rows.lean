section
/-- a private method of a class that the tables say can be made, by its rows of tables_1 -/
def lw_okq (q : MethodName × Nat) : Prop := (q.1.cls ≠ "java/lang/invoke/MethodHandle" ∧ q.1.cls ≠ "java/lang/invoke/VarHandle") ∧ Cond.instantiable q.1.cls q.2 ∈ tables_1 ∧ Cond.privateMethod q.1 ∈ tables_1 ∧ Cond.instanceMethod q.1 ∈ tables_1
theorem lw_p0 : lw_okq (⟨"TrailTeams", "isTeam", "(I)Z"⟩, 7) := ⟨⟨by decide +kernel, by decide +kernel⟩, List.mem_of_getElem? (i := 13) (by decide +kernel), List.mem_of_getElem? (i := 285) (by decide +kernel), List.mem_of_getElem? (i := 286) (by decide +kernel)⟩
theorem lw_p1 : lw_okq (⟨"TrailTeams", "endNow", "(I)I"⟩, 7) := ⟨⟨by decide +kernel, by decide +kernel⟩, List.mem_of_getElem? (i := 13) (by decide +kernel), List.mem_of_getElem? (i := 311) (by decide +kernel), List.mem_of_getElem? (i := 312) (by decide +kernel)⟩
theorem lw_p2 : lw_okq (⟨"TrailTeams", "playNow", "()V"⟩, 7) := ⟨⟨by decide +kernel, by decide +kernel⟩, List.mem_of_getElem? (i := 13) (by decide +kernel), List.mem_of_getElem? (i := 315) (by decide +kernel), List.mem_of_getElem? (i := 316) (by decide +kernel)⟩
theorem lw_p3 : lw_okq (⟨"TrailTeams$Game", "layTrail", "(I)V"⟩, 11) := ⟨⟨by decide +kernel, by decide +kernel⟩, List.mem_of_getElem? (i := 102) (by decide +kernel), List.mem_of_getElem? (i := 326) (by decide +kernel), List.mem_of_getElem? (i := 327) (by decide +kernel)⟩
theorem lw_p4 : lw_okq (⟨"TrailTeams$Game", "nextToCome", "()I"⟩, 11) := ⟨⟨by decide +kernel, by decide +kernel⟩, List.mem_of_getElem? (i := 102) (by decide +kernel), List.mem_of_getElem? (i := 334) (by decide +kernel), List.mem_of_getElem? (i := 335) (by decide +kernel)⟩
theorem lw_p5 : lw_okq (⟨"TrailTeams$Game", "makeVisit", "(I)V"⟩, 11) := ⟨⟨by decide +kernel, by decide +kernel⟩, List.mem_of_getElem? (i := 102) (by decide +kernel), List.mem_of_getElem? (i := 338) (by decide +kernel), List.mem_of_getElem? (i := 339) (by decide +kernel)⟩
theorem lw_p6 : lw_okq (⟨"TrailTeams", "isInRoute", "(II)Z"⟩, 7) := ⟨⟨by decide +kernel, by decide +kernel⟩, List.mem_of_getElem? (i := 13) (by decide +kernel), List.mem_of_getElem? (i := 366) (by decide +kernel), List.mem_of_getElem? (i := 367) (by decide +kernel)⟩
theorem lw_p7 : lw_okq (⟨"TrailTeams", "leastFreeStart", "(LTrailTeams$State;II)I"⟩, 7) := ⟨⟨by decide +kernel, by decide +kernel⟩, List.mem_of_getElem? (i := 13) (by decide +kernel), List.mem_of_getElem? (i := 378) (by decide +kernel), List.mem_of_getElem? (i := 379) (by decide +kernel)⟩
theorem lw_p8 : lw_okq (⟨"TrailTeams$Game", "meet", "(II)Z"⟩, 11) := ⟨⟨by decide +kernel, by decide +kernel⟩, List.mem_of_getElem? (i := 102) (by decide +kernel), List.mem_of_getElem? (i := 386) (by decide +kernel), List.mem_of_getElem? (i := 387) (by decide +kernel)⟩
theorem lw_p9 : lw_okq (⟨"TrailTeams$Game", "meetAt", "(III)Z"⟩, 11) := ⟨⟨by decide +kernel, by decide +kernel⟩, List.mem_of_getElem? (i := 102) (by decide +kernel), List.mem_of_getElem? (i := 390) (by decide +kernel), List.mem_of_getElem? (i := 391) (by decide +kernel)⟩
theorem lw_p10 : lw_okq (⟨"TrailTeams$Game", "isAhead", "(II)Z"⟩, 11) := ⟨⟨by decide +kernel, by decide +kernel⟩, List.mem_of_getElem? (i := 102) (by decide +kernel), List.mem_of_getElem? (i := 431) (by decide +kernel), List.mem_of_getElem? (i := 432) (by decide +kernel)⟩
theorem lw_p11 : lw_okq (⟨"TrailTeams$Game", "teamsThere", "(II)I"⟩, 11) := ⟨⟨by decide +kernel, by decide +kernel⟩, List.mem_of_getElem? (i := 102) (by decide +kernel), List.mem_of_getElem? (i := 453) (by decide +kernel), List.mem_of_getElem? (i := 454) (by decide +kernel)⟩
theorem lw_p12 : lw_okq (⟨"TrailTeams$Game", "isThere", "(III)Z"⟩, 11) := ⟨⟨by decide +kernel, by decide +kernel⟩, List.mem_of_getElem? (i := 102) (by decide +kernel), List.mem_of_getElem? (i := 457) (by decide +kernel), List.mem_of_getElem? (i := 458) (by decide +kernel)⟩
theorem lw_p13 : lw_okq (⟨"TrailTeams", "endIfExchanged", "(III)I"⟩, 7) := ⟨⟨by decide +kernel, by decide +kernel⟩, List.mem_of_getElem? (i := 13) (by decide +kernel), List.mem_of_getElem? (i := 516) (by decide +kernel), List.mem_of_getElem? (i := 517) (by decide +kernel)⟩
theorem lw_p14 : lw_okq (⟨"TrailTeamsModel", "remember", "()V"⟩, 23) := ⟨⟨by decide +kernel, by decide +kernel⟩, List.mem_of_getElem? (i := 565) (by decide +kernel), List.mem_of_getElem? (i := 658) (by decide +kernel), List.mem_of_getElem? (i := 659) (by decide +kernel)⟩
theorem lw_p15 : lw_okq (⟨"TrailTeamsModel", "record", "(I)I"⟩, 23) := ⟨⟨by decide +kernel, by decide +kernel⟩, List.mem_of_getElem? (i := 565) (by decide +kernel), List.mem_of_getElem? (i := 662) (by decide +kernel), List.mem_of_getElem? (i := 663) (by decide +kernel)⟩
def lw_privs_1 : List (MethodName × Nat) := [(⟨"TrailTeams", "isTeam", "(I)Z"⟩, 7), (⟨"TrailTeams", "endNow", "(I)I"⟩, 7), (⟨"TrailTeams", "playNow", "()V"⟩, 7), (⟨"TrailTeams$Game", "layTrail", "(I)V"⟩, 11), (⟨"TrailTeams$Game", "nextToCome", "()I"⟩, 11), (⟨"TrailTeams$Game", "makeVisit", "(I)V"⟩, 11), (⟨"TrailTeams", "isInRoute", "(II)Z"⟩, 7), (⟨"TrailTeams", "leastFreeStart", "(LTrailTeams$State;II)I"⟩, 7), (⟨"TrailTeams$Game", "meet", "(II)Z"⟩, 11), (⟨"TrailTeams$Game", "meetAt", "(III)Z"⟩, 11), (⟨"TrailTeams$Game", "isAhead", "(II)Z"⟩, 11), (⟨"TrailTeams$Game", "teamsThere", "(II)I"⟩, 11), (⟨"TrailTeams$Game", "isThere", "(III)Z"⟩, 11), (⟨"TrailTeams", "endIfExchanged", "(III)I"⟩, 7), (⟨"TrailTeamsModel", "remember", "()V"⟩, 23), (⟨"TrailTeamsModel", "record", "(I)I"⟩, 23)]
theorem lw_r1 : ∀ q ∈ lw_privs_1, lw_okq q := List.forall_mem_cons.mpr ⟨lw_p0, List.forall_mem_cons.mpr ⟨lw_p1, List.forall_mem_cons.mpr ⟨lw_p2, List.forall_mem_cons.mpr ⟨lw_p3, List.forall_mem_cons.mpr ⟨lw_p4, List.forall_mem_cons.mpr ⟨lw_p5, List.forall_mem_cons.mpr ⟨lw_p6, List.forall_mem_cons.mpr ⟨lw_p7, List.forall_mem_cons.mpr ⟨lw_p8, List.forall_mem_cons.mpr ⟨lw_p9, List.forall_mem_cons.mpr ⟨lw_p10, List.forall_mem_cons.mpr ⟨lw_p11, List.forall_mem_cons.mpr ⟨lw_p12, List.forall_mem_cons.mpr ⟨lw_p13, List.forall_mem_cons.mpr ⟨lw_p14, List.forall_mem_cons.mpr ⟨lw_p15, fun _ h => absurd h List.not_mem_nil⟩⟩⟩⟩⟩⟩⟩⟩⟩⟩⟩⟩⟩⟩⟩⟩
theorem lw_p16 : lw_okq (⟨"TrailTeamsModel", "of", "(II)I"⟩, 23) := ⟨⟨by decide +kernel, by decide +kernel⟩, List.mem_of_getElem? (i := 565) (by decide +kernel), List.mem_of_getElem? (i := 678) (by decide +kernel), List.mem_of_getElem? (i := 679) (by decide +kernel)⟩
theorem lw_p17 : lw_okq (⟨"TrailTeamsModel", "openOnes", "()I"⟩, 23) := ⟨⟨by decide +kernel, by decide +kernel⟩, List.mem_of_getElem? (i := 565) (by decide +kernel), List.mem_of_getElem? (i := 686) (by decide +kernel), List.mem_of_getElem? (i := 687) (by decide +kernel)⟩
theorem lw_p18 : lw_okq (⟨"TrailTeamsModel", "isWell", "()Z"⟩, 23) := ⟨⟨by decide +kernel, by decide +kernel⟩, List.mem_of_getElem? (i := 565) (by decide +kernel), List.mem_of_getElem? (i := 694) (by decide +kernel), List.mem_of_getElem? (i := 695) (by decide +kernel)⟩
theorem lw_p19 : lw_okq (⟨"TrailTeamsModel", "readPlace", "()Z"⟩, 23) := ⟨⟨by decide +kernel, by decide +kernel⟩, List.mem_of_getElem? (i := 565) (by decide +kernel), List.mem_of_getElem? (i := 698) (by decide +kernel), List.mem_of_getElem? (i := 699) (by decide +kernel)⟩
theorem lw_p20 : lw_okq (⟨"TrailTeamsModel", "lay", "(III)V"⟩, 23) := ⟨⟨by decide +kernel, by decide +kernel⟩, List.mem_of_getElem? (i := 565) (by decide +kernel), List.mem_of_getElem? (i := 705) (by decide +kernel), List.mem_of_getElem? (i := 706) (by decide +kernel)⟩
theorem lw_p21 : lw_okq (⟨"TrailTeamsModel", "takeRoute", "(I)V"⟩, 23) := ⟨⟨by decide +kernel, by decide +kernel⟩, List.mem_of_getElem? (i := 565) (by decide +kernel), List.mem_of_getElem? (i := 709) (by decide +kernel), List.mem_of_getElem? (i := 710) (by decide +kernel)⟩
theorem lw_p22 : lw_okq (⟨"TrailTeamsModel", "isTeam", "(I)Z"⟩, 23) := ⟨⟨by decide +kernel, by decide +kernel⟩, List.mem_of_getElem? (i := 565) (by decide +kernel), List.mem_of_getElem? (i := 717) (by decide +kernel), List.mem_of_getElem? (i := 718) (by decide +kernel)⟩
theorem lw_p23 : lw_okq (⟨"TrailTeamsModel", "playAll", "()V"⟩, 23) := ⟨⟨by decide +kernel, by decide +kernel⟩, List.mem_of_getElem? (i := 565) (by decide +kernel), List.mem_of_getElem? (i := 721) (by decide +kernel), List.mem_of_getElem? (i := 722) (by decide +kernel)⟩
theorem lw_p24 : lw_okq (⟨"TrailTeamsModel", "play", "(I)V"⟩, 23) := ⟨⟨by decide +kernel, by decide +kernel⟩, List.mem_of_getElem? (i := 565) (by decide +kernel), List.mem_of_getElem? (i := 725) (by decide +kernel), List.mem_of_getElem? (i := 726) (by decide +kernel)⟩
theorem lw_p25 : lw_okq (⟨"TrailTeamsModel", "prepare", "(I)V"⟩, 23) := ⟨⟨by decide +kernel, by decide +kernel⟩, List.mem_of_getElem? (i := 565) (by decide +kernel), List.mem_of_getElem? (i := 729) (by decide +kernel), List.mem_of_getElem? (i := 730) (by decide +kernel)⟩
theorem lw_p26 : lw_okq (⟨"TrailTeamsModel", "its", "(II)I"⟩, 23) := ⟨⟨by decide +kernel, by decide +kernel⟩, List.mem_of_getElem? (i := 565) (by decide +kernel), List.mem_of_getElem? (i := 733) (by decide +kernel), List.mem_of_getElem? (i := 734) (by decide +kernel)⟩
theorem lw_p27 : lw_okq (⟨"TrailTeamsModel", "walk", "(IZ)V"⟩, 23) := ⟨⟨by decide +kernel, by decide +kernel⟩, List.mem_of_getElem? (i := 565) (by decide +kernel), List.mem_of_getElem? (i := 737) (by decide +kernel), List.mem_of_getElem? (i := 738) (by decide +kernel)⟩
theorem lw_p28 : lw_okq (⟨"TrailTeamsModel", "next", "()I"⟩, 23) := ⟨⟨by decide +kernel, by decide +kernel⟩, List.mem_of_getElem? (i := 565) (by decide +kernel), List.mem_of_getElem? (i := 744) (by decide +kernel), List.mem_of_getElem? (i := 745) (by decide +kernel)⟩
theorem lw_p29 : lw_okq (⟨"TrailTeamsModel", "hasLost", "(I)Z"⟩, 23) := ⟨⟨by decide +kernel, by decide +kernel⟩, List.mem_of_getElem? (i := 565) (by decide +kernel), List.mem_of_getElem? (i := 748) (by decide +kernel), List.mem_of_getElem? (i := 749) (by decide +kernel)⟩
theorem lw_p30 : lw_okq (⟨"TrailTeamsModel", "endOf", "(I)I"⟩, 23) := ⟨⟨by decide +kernel, by decide +kernel⟩, List.mem_of_getElem? (i := 565) (by decide +kernel), List.mem_of_getElem? (i := 764) (by decide +kernel), List.mem_of_getElem? (i := 765) (by decide +kernel)⟩
theorem lw_p31 : lw_okq (⟨"TrailTeamsModel", "turned", "(II)V"⟩, 23) := ⟨⟨by decide +kernel, by decide +kernel⟩, List.mem_of_getElem? (i := 565) (by decide +kernel), List.mem_of_getElem? (i := 776) (by decide +kernel), List.mem_of_getElem? (i := 777) (by decide +kernel)⟩
def lw_privs_2 : List (MethodName × Nat) := [(⟨"TrailTeamsModel", "of", "(II)I"⟩, 23), (⟨"TrailTeamsModel", "openOnes", "()I"⟩, 23), (⟨"TrailTeamsModel", "isWell", "()Z"⟩, 23), (⟨"TrailTeamsModel", "readPlace", "()Z"⟩, 23), (⟨"TrailTeamsModel", "lay", "(III)V"⟩, 23), (⟨"TrailTeamsModel", "takeRoute", "(I)V"⟩, 23), (⟨"TrailTeamsModel", "isTeam", "(I)Z"⟩, 23), (⟨"TrailTeamsModel", "playAll", "()V"⟩, 23), (⟨"TrailTeamsModel", "play", "(I)V"⟩, 23), (⟨"TrailTeamsModel", "prepare", "(I)V"⟩, 23), (⟨"TrailTeamsModel", "its", "(II)I"⟩, 23), (⟨"TrailTeamsModel", "walk", "(IZ)V"⟩, 23), (⟨"TrailTeamsModel", "next", "()I"⟩, 23), (⟨"TrailTeamsModel", "hasLost", "(I)Z"⟩, 23), (⟨"TrailTeamsModel", "endOf", "(I)I"⟩, 23), (⟨"TrailTeamsModel", "turned", "(II)V"⟩, 23)]
theorem lw_r2 : ∀ q ∈ lw_privs_2, lw_okq q := List.forall_mem_cons.mpr ⟨lw_p16, List.forall_mem_cons.mpr ⟨lw_p17, List.forall_mem_cons.mpr ⟨lw_p18, List.forall_mem_cons.mpr ⟨lw_p19, List.forall_mem_cons.mpr ⟨lw_p20, List.forall_mem_cons.mpr ⟨lw_p21, List.forall_mem_cons.mpr ⟨lw_p22, List.forall_mem_cons.mpr ⟨lw_p23, List.forall_mem_cons.mpr ⟨lw_p24, List.forall_mem_cons.mpr ⟨lw_p25, List.forall_mem_cons.mpr ⟨lw_p26, List.forall_mem_cons.mpr ⟨lw_p27, List.forall_mem_cons.mpr ⟨lw_p28, List.forall_mem_cons.mpr ⟨lw_p29, List.forall_mem_cons.mpr ⟨lw_p30, List.forall_mem_cons.mpr ⟨lw_p31, fun _ h => absurd h List.not_mem_nil⟩⟩⟩⟩⟩⟩⟩⟩⟩⟩⟩⟩⟩⟩⟩⟩
theorem lw_p32 : lw_okq (⟨"TrailTeamsModel", "exchanged", "(III)V"⟩, 23) := ⟨⟨by decide +kernel, by decide +kernel⟩, List.mem_of_getElem? (i := 565) (by decide +kernel), List.mem_of_getElem? (i := 784) (by decide +kernel), List.mem_of_getElem? (i := 785) (by decide +kernel)⟩
theorem lw_p33 : lw_okq (⟨"TrailTeamsModel", "leastStart", "(II)I"⟩, 23) := ⟨⟨by decide +kernel, by decide +kernel⟩, List.mem_of_getElem? (i := 565) (by decide +kernel), List.mem_of_getElem? (i := 792) (by decide +kernel), List.mem_of_getElem? (i := 793) (by decide +kernel)⟩
theorem lw_p34 : lw_okq (⟨"TrailTeamsModel", "met", "(I)I"⟩, 23) := ⟨⟨by decide +kernel, by decide +kernel⟩, List.mem_of_getElem? (i := 565) (by decide +kernel), List.mem_of_getElem? (i := 796) (by decide +kernel), List.mem_of_getElem? (i := 797) (by decide +kernel)⟩
theorem lw_p35 : lw_okq (⟨"TrailTeamsModel", "meet", "(II)Z"⟩, 23) := ⟨⟨by decide +kernel, by decide +kernel⟩, List.mem_of_getElem? (i := 565) (by decide +kernel), List.mem_of_getElem? (i := 800) (by decide +kernel), List.mem_of_getElem? (i := 801) (by decide +kernel)⟩
theorem lw_p36 : lw_okq (⟨"TrailTeamsModel", "meetAt", "(III)Z"⟩, 23) := ⟨⟨by decide +kernel, by decide +kernel⟩, List.mem_of_getElem? (i := 565) (by decide +kernel), List.mem_of_getElem? (i := 804) (by decide +kernel), List.mem_of_getElem? (i := 805) (by decide +kernel)⟩
theorem lw_p37 : lw_okq (⟨"TrailTeamsModel", "visitTo", "(II)I"⟩, 23) := ⟨⟨by decide +kernel, by decide +kernel⟩, List.mem_of_getElem? (i := 565) (by decide +kernel), List.mem_of_getElem? (i := 808) (by decide +kernel), List.mem_of_getElem? (i := 809) (by decide +kernel)⟩
theorem lw_p38 : lw_okq (⟨"TrailTeamsModel", "pairs", "()I"⟩, 23) := ⟨⟨by decide +kernel, by decide +kernel⟩, List.mem_of_getElem? (i := 565) (by decide +kernel), List.mem_of_getElem? (i := 812) (by decide +kernel), List.mem_of_getElem? (i := 813) (by decide +kernel)⟩
theorem lw_p39 : lw_okq (⟨"TrailTeamsModel", "queued", "(I)I"⟩, 23) := ⟨⟨by decide +kernel, by decide +kernel⟩, List.mem_of_getElem? (i := 565) (by decide +kernel), List.mem_of_getElem? (i := 824) (by decide +kernel), List.mem_of_getElem? (i := 825) (by decide +kernel)⟩
theorem lw_p40 : lw_okq (⟨"TrailTeamsModel", "walked", "(I)I"⟩, 23) := ⟨⟨by decide +kernel, by decide +kernel⟩, List.mem_of_getElem? (i := 565) (by decide +kernel), List.mem_of_getElem? (i := 828) (by decide +kernel), List.mem_of_getElem? (i := 829) (by decide +kernel)⟩
theorem lw_p41 : lw_okq (⟨"TrailTeamsModel", "points", "(I)I"⟩, 23) := ⟨⟨by decide +kernel, by decide +kernel⟩, List.mem_of_getElem? (i := 565) (by decide +kernel), List.mem_of_getElem? (i := 832) (by decide +kernel), List.mem_of_getElem? (i := 833) (by decide +kernel)⟩
theorem lw_p42 : lw_okq (⟨"TrailTeamsModel", "hinted", "(I)I"⟩, 23) := ⟨⟨by decide +kernel, by decide +kernel⟩, List.mem_of_getElem? (i := 565) (by decide +kernel), List.mem_of_getElem? (i := 836) (by decide +kernel), List.mem_of_getElem? (i := 837) (by decide +kernel)⟩
theorem lw_p43 : lw_okq (⟨"TrailTeamsModel", "rank", "(I)I"⟩, 23) := ⟨⟨by decide +kernel, by decide +kernel⟩, List.mem_of_getElem? (i := 565) (by decide +kernel), List.mem_of_getElem? (i := 840) (by decide +kernel), List.mem_of_getElem? (i := 841) (by decide +kernel)⟩
theorem lw_p44 : lw_okq (⟨"TrailTeamsModel", "isAhead", "(II)Z"⟩, 23) := ⟨⟨by decide +kernel, by decide +kernel⟩, List.mem_of_getElem? (i := 565) (by decide +kernel), List.mem_of_getElem? (i := 844) (by decide +kernel), List.mem_of_getElem? (i := 845) (by decide +kernel)⟩
theorem lw_p45 : lw_okq (⟨"TrailTeamsModel", "atPlace", "(II)I"⟩, 23) := ⟨⟨by decide +kernel, by decide +kernel⟩, List.mem_of_getElem? (i := 565) (by decide +kernel), List.mem_of_getElem? (i := 852) (by decide +kernel), List.mem_of_getElem? (i := 853) (by decide +kernel)⟩
theorem lw_p46 : lw_okq (⟨"TrailTeamsModel", "crowd", "(I)I"⟩, 23) := ⟨⟨by decide +kernel, by decide +kernel⟩, List.mem_of_getElem? (i := 565) (by decide +kernel), List.mem_of_getElem? (i := 856) (by decide +kernel), List.mem_of_getElem? (i := 857) (by decide +kernel)⟩
theorem lw_p47 : lw_okq (⟨"TrailTeamsModel", "lastEnd", "()I"⟩, 23) := ⟨⟨by decide +kernel, by decide +kernel⟩, List.mem_of_getElem? (i := 565) (by decide +kernel), List.mem_of_getElem? (i := 872) (by decide +kernel), List.mem_of_getElem? (i := 873) (by decide +kernel)⟩
def lw_privs_3 : List (MethodName × Nat) := [(⟨"TrailTeamsModel", "exchanged", "(III)V"⟩, 23), (⟨"TrailTeamsModel", "leastStart", "(II)I"⟩, 23), (⟨"TrailTeamsModel", "met", "(I)I"⟩, 23), (⟨"TrailTeamsModel", "meet", "(II)Z"⟩, 23), (⟨"TrailTeamsModel", "meetAt", "(III)Z"⟩, 23), (⟨"TrailTeamsModel", "visitTo", "(II)I"⟩, 23), (⟨"TrailTeamsModel", "pairs", "()I"⟩, 23), (⟨"TrailTeamsModel", "queued", "(I)I"⟩, 23), (⟨"TrailTeamsModel", "walked", "(I)I"⟩, 23), (⟨"TrailTeamsModel", "points", "(I)I"⟩, 23), (⟨"TrailTeamsModel", "hinted", "(I)I"⟩, 23), (⟨"TrailTeamsModel", "rank", "(I)I"⟩, 23), (⟨"TrailTeamsModel", "isAhead", "(II)Z"⟩, 23), (⟨"TrailTeamsModel", "atPlace", "(II)I"⟩, 23), (⟨"TrailTeamsModel", "crowd", "(I)I"⟩, 23), (⟨"TrailTeamsModel", "lastEnd", "()I"⟩, 23)]
theorem lw_r3 : ∀ q ∈ lw_privs_3, lw_okq q := List.forall_mem_cons.mpr ⟨lw_p32, List.forall_mem_cons.mpr ⟨lw_p33, List.forall_mem_cons.mpr ⟨lw_p34, List.forall_mem_cons.mpr ⟨lw_p35, List.forall_mem_cons.mpr ⟨lw_p36, List.forall_mem_cons.mpr ⟨lw_p37, List.forall_mem_cons.mpr ⟨lw_p38, List.forall_mem_cons.mpr ⟨lw_p39, List.forall_mem_cons.mpr ⟨lw_p40, List.forall_mem_cons.mpr ⟨lw_p41, List.forall_mem_cons.mpr ⟨lw_p42, List.forall_mem_cons.mpr ⟨lw_p43, List.forall_mem_cons.mpr ⟨lw_p44, List.forall_mem_cons.mpr ⟨lw_p45, List.forall_mem_cons.mpr ⟨lw_p46, List.forall_mem_cons.mpr ⟨lw_p47, fun _ h => absurd h List.not_mem_nil⟩⟩⟩⟩⟩⟩⟩⟩⟩⟩⟩⟩⟩⟩⟩⟩
theorem lw_p48 : lw_okq (⟨"TrailTeamsModel", "allQueued", "()I"⟩, 23) := ⟨⟨by decide +kernel, by decide +kernel⟩, List.mem_of_getElem? (i := 565) (by decide +kernel), List.mem_of_getElem? (i := 876) (by decide +kernel), List.mem_of_getElem? (i := 877) (by decide +kernel)⟩
theorem lw_p49 : lw_okq (⟨"TrailTeamsModel", "winner", "()I"⟩, 23) := ⟨⟨by decide +kernel, by decide +kernel⟩, List.mem_of_getElem? (i := 565) (by decide +kernel), List.mem_of_getElem? (i := 880) (by decide +kernel), List.mem_of_getElem? (i := 881) (by decide +kernel)⟩
theorem lw_p50 : lw_okq (⟨"TrailTeamsModel", "sums", "(Z)I"⟩, 23) := ⟨⟨by decide +kernel, by decide +kernel⟩, List.mem_of_getElem? (i := 565) (by decide +kernel), List.mem_of_getElem? (i := 884) (by decide +kernel), List.mem_of_getElem? (i := 885) (by decide +kernel)⟩
theorem lw_p51 : lw_okq (⟨"TrailTeamsModel", "layAside", "()V"⟩, 23) := ⟨⟨by decide +kernel, by decide +kernel⟩, List.mem_of_getElem? (i := 565) (by decide +kernel), List.mem_of_getElem? (i := 904) (by decide +kernel), List.mem_of_getElem? (i := 905) (by decide +kernel)⟩
theorem lw_p52 : lw_okq (⟨"TrailTeamsModel", "putBack", "()V"⟩, 23) := ⟨⟨by decide +kernel, by decide +kernel⟩, List.mem_of_getElem? (i := 565) (by decide +kernel), List.mem_of_getElem? (i := 908) (by decide +kernel), List.mem_of_getElem? (i := 909) (by decide +kernel)⟩
def lw_privs_4 : List (MethodName × Nat) := [(⟨"TrailTeamsModel", "allQueued", "()I"⟩, 23), (⟨"TrailTeamsModel", "winner", "()I"⟩, 23), (⟨"TrailTeamsModel", "sums", "(Z)I"⟩, 23), (⟨"TrailTeamsModel", "layAside", "()V"⟩, 23), (⟨"TrailTeamsModel", "putBack", "()V"⟩, 23)]
theorem lw_r4 : ∀ q ∈ lw_privs_4, lw_okq q := List.forall_mem_cons.mpr ⟨lw_p48, List.forall_mem_cons.mpr ⟨lw_p49, List.forall_mem_cons.mpr ⟨lw_p50, List.forall_mem_cons.mpr ⟨lw_p51, List.forall_mem_cons.mpr ⟨lw_p52, fun _ h => absurd h List.not_mem_nil⟩⟩⟩⟩⟩
def lw_privs : List (MethodName × Nat) := lw_privs_1 ++ (lw_privs_2 ++ (lw_privs_3 ++ (lw_privs_4)))
def lw_tbl : List Cond := k2_sels lw_privs ++ tables_1
theorem lw_privs_ok : ∀ q ∈ lw_privs, lw_okq q := by
  show ∀ q ∈ lw_privs_1 ++ (lw_privs_2 ++ (lw_privs_3 ++ (lw_privs_4))), lw_okq q
  exact List.forall_mem_append.mpr ⟨lw_r1, List.forall_mem_append.mpr ⟨lw_r2, List.forall_mem_append.mpr ⟨lw_r3, lw_r4⟩⟩⟩

def RX0 : String := "TrailTeams$Game"
def TX0 : u_T := fun k => match k with
  | 0 => ("TrailTeams$Game", "state", "LTrailTeams$State;", false)
  | 1 => ("TrailTeams$Game", "teamCount", "I", false)
  | 2 => ("TrailTeams$Game", "trailLengths", "[I", true)
  | 3 => ("TrailTeams$Game", "places", "[[I", true)
  | 4 => ("TrailTeams$Game", "walks", "[[I", true)
  | 5 => ("TrailTeams$Game", "comes", "[[I", true)
  | 6 => ("TrailTeams$Game", "begins", "[[I", true)
  | 7 => ("TrailTeams$Game", "ends", "[[I", true)
  | 8 => ("TrailTeams$Game", "visitsMade", "[I", true)
  | 9 => ("TrailTeams$Game", "goesOn", "[I", true)
  | _ => ("TrailTeams$Game", "freeFrom", "[I", true)
def tyX0 : Nat → FieldType := fun k => match k with
  | 0 => .object "TrailTeams$State"
  | 1 => .int
  | 2 => .array .int
  | 3 => .array (.array .int)
  | 4 => .array (.array .int)
  | 5 => .array (.array .int)
  | 6 => .array (.array .int)
  | 7 => .array (.array .int)
  | 8 => .array .int
  | 9 => .array .int
  | _ => .array .int
abbrev wsX00 : List Cond := u_ws RX0 TX0 11
theorem nmX0 : ∀ a, a < 11 → ∀ b, b < 11 → a ≠ b → (TX0 a).2.1 ≠ (TX0 b).2.1 := by decide +kernel
theorem tyX0_ok : ∀ k, k < 11 → parseFieldDescriptor (TX0 k).2.2.1 = some (tyX0 k) := by decide +kernel
abbrev cX0_init : ByteArray := prog_2_method_1_code
def yX0_init : MethodName := ⟨RX0, "<init>", "()V"⟩
abbrev cX0_play : ByteArray := prog_2_method_2_code
def yX0_play : MethodName := ⟨RX0, "play", "(LTrailTeams$State;I)V"⟩
abbrev cX0_layTrail : ByteArray := prog_2_method_3_code
def yX0_layTrail : MethodName := ⟨RX0, "layTrail", "(I)V"⟩
abbrev cX0_nextToCome : ByteArray := prog_2_method_4_code
def yX0_nextToCome : MethodName := ⟨RX0, "nextToCome", "()I"⟩
abbrev cX0_makeVisit : ByteArray := prog_2_method_5_code
def yX0_makeVisit : MethodName := ⟨RX0, "makeVisit", "(I)V"⟩
abbrev cX0_visitAt : ByteArray := prog_2_method_6_code
def yX0_visitAt : MethodName := ⟨RX0, "visitAt", "(II)I"⟩
abbrev cX0_queueingOf : ByteArray := prog_2_method_7_code
def yX0_queueingOf : MethodName := ⟨RX0, "queueingOf", "(I)I"⟩
abbrev cX0_walkingOf : ByteArray := prog_2_method_8_code
def yX0_walkingOf : MethodName := ⟨RX0, "walkingOf", "(I)I"⟩
abbrev cX0_hintsOf : ByteArray := prog_2_method_9_code
def yX0_hintsOf : MethodName := ⟨RX0, "hintsOf", "(I)I"⟩
abbrev cX0_pointsOf : ByteArray := prog_2_method_10_code
def yX0_pointsOf : MethodName := ⟨RX0, "pointsOf", "(I)I"⟩
abbrev cX0_rankOf : ByteArray := prog_2_method_11_code
def yX0_rankOf : MethodName := ⟨RX0, "rankOf", "(I)I"⟩
abbrev cX0_isAhead : ByteArray := prog_2_method_12_code
def yX0_isAhead : MethodName := ⟨RX0, "isAhead", "(II)Z"⟩
abbrev cX0_placeWithTeam : ByteArray := prog_2_method_13_code
def yX0_placeWithTeam : MethodName := ⟨RX0, "placeWithTeam", "(II)I"⟩
abbrev cX0_isThere : ByteArray := prog_2_method_14_code
def yX0_isThere : MethodName := ⟨RX0, "isThere", "(III)Z"⟩
abbrev cX0_placeToldTo : ByteArray := prog_2_method_15_code
def yX0_placeToldTo : MethodName := ⟨RX0, "placeToldTo", "(II)I"⟩
abbrev cX0_meetAt : ByteArray := prog_2_method_16_code
def yX0_meetAt : MethodName := ⟨RX0, "meetAt", "(III)Z"⟩
abbrev cX0_meet : ByteArray := prog_2_method_17_code
def yX0_meet : MethodName := ⟨RX0, "meet", "(II)Z"⟩
abbrev cX0_teamsMetBy : ByteArray := prog_2_method_18_code
def yX0_teamsMetBy : MethodName := ⟨RX0, "teamsMetBy", "(I)I"⟩
abbrev cX0_pairs : ByteArray := prog_2_method_19_code
def yX0_pairs : MethodName := ⟨RX0, "pairs", "()I"⟩
abbrev cX0_pairsAt : ByteArray := prog_2_method_20_code
def yX0_pairsAt : MethodName := ⟨RX0, "pairsAt", "(I)I"⟩
abbrev cX0_teamsAt : ByteArray := prog_2_method_21_code
def yX0_teamsAt : MethodName := ⟨RX0, "teamsAt", "(I)I"⟩
abbrev cX0_queueingAt : ByteArray := prog_2_method_22_code
def yX0_queueingAt : MethodName := ⟨RX0, "queueingAt", "(I)I"⟩
abbrev cX0_mostAt : ByteArray := prog_2_method_23_code
def yX0_mostAt : MethodName := ⟨RX0, "mostAt", "(I)I"⟩
abbrev cX0_teamsThere : ByteArray := prog_2_method_24_code
def yX0_teamsThere : MethodName := ⟨RX0, "teamsThere", "(II)I"⟩
abbrev cX0_lastEnd : ByteArray := prog_2_method_25_code
def yX0_lastEnd : MethodName := ⟨RX0, "lastEnd", "()I"⟩
abbrev cX0_queueing : ByteArray := prog_2_method_26_code
def yX0_queueing : MethodName := ⟨RX0, "queueing", "()I"⟩
abbrev cX0_winner : ByteArray := prog_2_method_27_code
def yX0_winner : MethodName := ⟨RX0, "winner", "()I"⟩
abbrev cX0_points : ByteArray := prog_2_method_28_code
def yX0_points : MethodName := ⟨RX0, "points", "()I"⟩
abbrev cX0_visits : ByteArray := prog_2_method_29_code
def yX0_visits : MethodName := ⟨RX0, "visits", "()I"⟩
def RX1 : String := "TrailTeams$History"
def TX1 : u_T := fun k => match k with
  | 0 => ("TrailTeams$History", "states", "[LTrailTeams$State;", true)
  | 1 => ("TrailTeams$History", "oldest", "I", false)
  | _ => ("TrailTeams$History", "length", "I", false)
def tyX1 : Nat → FieldType := fun k => match k with
  | 0 => .array (.object "TrailTeams$State")
  | 1 => .int
  | _ => .int
abbrev wsX10 : List Cond := u_ws RX1 TX1 3
theorem nmX1 : ∀ a, a < 3 → ∀ b, b < 3 → a ≠ b → (TX1 a).2.1 ≠ (TX1 b).2.1 := by decide +kernel
theorem tyX1_ok : ∀ k, k < 3 → parseFieldDescriptor (TX1 k).2.2.1 = some (tyX1 k) := by decide +kernel
abbrev cX1_init : ByteArray := prog_3_method_1_code
def yX1_init : MethodName := ⟨RX1, "<init>", "()V"⟩
abbrev cX1_record : ByteArray := prog_3_method_2_code
def yX1_record : MethodName := ⟨RX1, "record", "(LTrailTeams$State;)V"⟩
abbrev cX1_takeBack : ByteArray := prog_3_method_3_code
def yX1_takeBack : MethodName := ⟨RX1, "takeBack", "(LTrailTeams$State;)V"⟩
def RX2 : String := "TrailTeams$Pad"
def TX2 : u_T := fun k => match k with
  | 0 => ("TrailTeams$Pad", "signs", "[C", true)
  | _ => ("TrailTeams$Pad", "length", "I", false)
def tyX2 : Nat → FieldType := fun k => match k with
  | 0 => .array .char
  | _ => .int
abbrev wsX20 : List Cond := u_ws RX2 TX2 2
theorem nmX2 : ∀ a, a < 2 → ∀ b, b < 2 → a ≠ b → (TX2 a).2.1 ≠ (TX2 b).2.1 := by decide +kernel
theorem tyX2_ok : ∀ k, k < 2 → parseFieldDescriptor (TX2 k).2.2.1 = some (tyX2 k) := by decide +kernel
abbrev cX2_init : ByteArray := prog_4_method_1_code
def yX2_init : MethodName := ⟨RX2, "<init>", "()V"⟩
abbrev cX2_lengthOf : ByteArray := prog_4_method_2_code
def yX2_lengthOf : MethodName := ⟨RX2, "lengthOf", "(J)I"⟩
abbrev cX2_append : ByteArray := prog_4_method_3_code
def yX2_append : MethodName := ⟨RX2, "append", "(JI)V"⟩
abbrev cX2_firstFault : ByteArray := prog_4_method_4_code
def yX2_firstFault : MethodName := ⟨RX2, "firstFault", "()I"⟩
abbrev cX2_moveTo : ByteArray := prog_4_method_5_code
def yX2_moveTo : MethodName := ⟨RX2, "moveTo", "(LTrailTeams$Team;)V"⟩
def RX3 : String := "TrailTeams$State"
def TX3 : u_T := fun k => match k with
  | 0 => ("TrailTeams$State", "settings", "[I", true)
  | 1 => ("TrailTeams$State", "xs", "[I", true)
  | 2 => ("TrailTeams$State", "ys", "[I", true)
  | 3 => ("TrailTeams$State", "looks", "[I", true)
  | 4 => ("TrailTeams$State", "closedPlaces", "I", false)
  | 5 => ("TrailTeams$State", "teams", "[LTrailTeams$Team;", true)
  | _ => ("TrailTeams$State", "teamCount", "I", false)
def tyX3 : Nat → FieldType := fun k => match k with
  | 0 => .array .int
  | 1 => .array .int
  | 2 => .array .int
  | 3 => .array .int
  | 4 => .int
  | 5 => .array (.object "TrailTeams$Team")
  | _ => .int
abbrev wsX30 : List Cond := u_ws RX3 TX3 7
theorem nmX3 : ∀ a, a < 7 → ∀ b, b < 7 → a ≠ b → (TX3 a).2.1 ≠ (TX3 b).2.1 := by decide +kernel
theorem tyX3_ok : ∀ k, k < 7 → parseFieldDescriptor (TX3 k).2.2.1 = some (tyX3 k) := by decide +kernel
abbrev cX3_init : ByteArray := prog_5_method_1_code
def yX3_init : MethodName := ⟨RX3, "<init>", "()V"⟩
abbrev cX3_copyFrom : ByteArray := prog_5_method_2_code
def yX3_copyFrom : MethodName := ⟨RX3, "copyFrom", "(LTrailTeams$State;)V"⟩
abbrev cX3_isClosed : ByteArray := prog_5_method_3_code
def yX3_isClosed : MethodName := ⟨RX3, "isClosed", "(I)Z"⟩
abbrev cX3_openPlaces : ByteArray := prog_5_method_4_code
def yX3_openPlaces : MethodName := ⟨RX3, "openPlaces", "()I"⟩
abbrev cX3_trailLength : ByteArray := prog_5_method_5_code
def yX3_trailLength : MethodName := ⟨RX3, "trailLength", "(I)I"⟩
abbrev cX3_lookOf : ByteArray := prog_5_method_6_code
def yX3_lookOf : MethodName := ⟨RX3, "lookOf", "(II)I"⟩
def RX4 : String := "TrailTeams$Team"
def TX4 : u_T := fun k => match k with
  | 0 => ("TrailTeams$Team", "route", "[I", true)
  | 1 => ("TrailTeams$Team", "length", "I", false)
  | 2 => ("TrailTeams$Team", "start", "I", false)
  | 3 => ("TrailTeams$Team", "hints", "I", false)
  | _ => ("TrailTeams$Team", "lostBehind", "I", false)
def tyX4 : Nat → FieldType := fun k => match k with
  | 0 => .array .int
  | 1 => .int
  | 2 => .int
  | 3 => .int
  | _ => .int
abbrev wsX40 : List Cond := u_ws RX4 TX4 5
theorem nmX4 : ∀ a, a < 5 → ∀ b, b < 5 → a ≠ b → (TX4 a).2.1 ≠ (TX4 b).2.1 := by decide +kernel
theorem tyX4_ok : ∀ k, k < 5 → parseFieldDescriptor (TX4 k).2.2.1 = some (tyX4 k) := by decide +kernel
abbrev cX4_init : ByteArray := prog_6_method_1_code
def yX4_init : MethodName := ⟨RX4, "<init>", "()V"⟩
abbrev cX4_copyFrom : ByteArray := prog_6_method_2_code
def yX4_copyFrom : MethodName := ⟨RX4, "copyFrom", "(LTrailTeams$Team;)V"⟩
abbrev cX4_hasHint : ByteArray := prog_6_method_3_code
def yX4_hasHint : MethodName := ⟨RX4, "hasHint", "(I)Z"⟩
abbrev cX4_turnRoute : ByteArray := prog_6_method_4_code
def yX4_turnRoute : MethodName := ⟨RX4, "turnRoute", "(I)V"⟩
abbrev cX4_exchangePlaces : ByteArray := prog_6_method_5_code
def yX4_exchangePlaces : MethodName := ⟨RX4, "exchangePlaces", "(II)V"⟩
def RX5 : String := "TrailTeams"
def TX5 : u_T := fun k => match k with
  | 0 => ("TrailTeams", "now", "LTrailTeams$State;", true)
  | 1 => ("TrailTeams", "trial", "LTrailTeams$State;", true)
  | 2 => ("TrailTeams", "game", "LTrailTeams$Game;", true)
  | 3 => ("TrailTeams", "pad", "LTrailTeams$Pad;", true)
  | 4 => ("TrailTeams", "history", "LTrailTeams$History;", true)
  | 5 => ("TrailTeams", "slots", "[LTrailTeams$State;", true)
  | _ => ("TrailTeams", "isSaved", "[Z", true)
def tyX5 : Nat → FieldType := fun k => match k with
  | 0 => .object "TrailTeams$State"
  | 1 => .object "TrailTeams$State"
  | 2 => .object "TrailTeams$Game"
  | 3 => .object "TrailTeams$Pad"
  | 4 => .object "TrailTeams$History"
  | 5 => .array (.object "TrailTeams$State")
  | _ => .array .boolean
abbrev wsX50 : List Cond := u_ws RX5 TX5 7
theorem nmX5 : ∀ a, a < 7 → ∀ b, b < 7 → a ≠ b → (TX5 a).2.1 ≠ (TX5 b).2.1 := by decide +kernel
theorem tyX5_ok : ∀ k, k < 7 → parseFieldDescriptor (TX5 k).2.2.1 = some (tyX5 k) := by decide +kernel
abbrev cX5_init : ByteArray := prog_1_method_1_code
def yX5_init : MethodName := ⟨RX5, "<init>", "()V"⟩
abbrev cX5_set : ByteArray := prog_1_method_2_code
def yX5_set : MethodName := ⟨RX5, "set", "(II)I"⟩
abbrev cX5_place : ByteArray := prog_1_method_3_code
def yX5_place : MethodName := ⟨RX5, "place", "(IIII)I"⟩
abbrev cX5_close : ByteArray := prog_1_method_4_code
def yX5_close : MethodName := ⟨RX5, "close", "(IZ)I"⟩
abbrev cX5_team : ByteArray := prog_1_method_5_code
def yX5_team : MethodName := ⟨RX5, "team", "(I)I"⟩
abbrev cX5_route : ByteArray := prog_1_method_6_code
def yX5_route : MethodName := ⟨RX5, "route", "(I)I"⟩
abbrev cX5_leave : ByteArray := prog_1_method_7_code
def yX5_leave : MethodName := ⟨RX5, "leave", "(I)I"⟩
abbrev cX5_start : ByteArray := prog_1_method_8_code
def yX5_start : MethodName := ⟨RX5, "start", "(II)I"⟩
abbrev cX5_hint : ByteArray := prog_1_method_9_code
def yX5_hint : MethodName := ⟨RX5, "hint", "(IIZ)I"⟩
abbrev cX5_lose : ByteArray := prog_1_method_10_code
def yX5_lose : MethodName := ⟨RX5, "lose", "(II)I"⟩
abbrev cX5_turn : ByteArray := prog_1_method_11_code
def yX5_turn : MethodName := ⟨RX5, "turn", "(II)I"⟩
abbrev cX5_exchange : ByteArray := prog_1_method_12_code
def yX5_exchange : MethodName := ⟨RX5, "exchange", "(III)I"⟩
abbrev cX5_part : ByteArray := prog_1_method_13_code
def yX5_part : MethodName := ⟨RX5, "part", "()I"⟩
abbrev cX5_visit : ByteArray := prog_1_method_14_code
def yX5_visit : MethodName := ⟨RX5, "visit", "(III)I"⟩
abbrev cX5_teamOf : ByteArray := prog_1_method_15_code
def yX5_teamOf : MethodName := ⟨RX5, "teamOf", "(II)I"⟩
abbrev cX5_placeOf : ByteArray := prog_1_method_16_code
def yX5_placeOf : MethodName := ⟨RX5, "placeOf", "(II)I"⟩
abbrev cX5_where : ByteArray := prog_1_method_17_code
def yX5_where : MethodName := ⟨RX5, "where", "(II)I"⟩
abbrev cX5_told : ByteArray := prog_1_method_18_code
def yX5_told : MethodName := ⟨RX5, "told", "(II)I"⟩
abbrev cX5_count : ByteArray := prog_1_method_19_code
def yX5_count : MethodName := ⟨RX5, "count", "(I)I"⟩
abbrev cX5_freeStart : ByteArray := prog_1_method_20_code
def yX5_freeStart : MethodName := ⟨RX5, "freeStart", "(I)I"⟩
abbrev cX5_bestExchange : ByteArray := prog_1_method_21_code
def yX5_bestExchange : MethodName := ⟨RX5, "bestExchange", "(II)I"⟩
abbrev cX5_worstPlace : ByteArray := prog_1_method_22_code
def yX5_worstPlace : MethodName := ⟨RX5, "worstPlace", "(I)I"⟩
abbrev cX5_ifTurned : ByteArray := prog_1_method_23_code
def yX5_ifTurned : MethodName := ⟨RX5, "ifTurned", "(II)I"⟩
abbrev cX5_put : ByteArray := prog_1_method_24_code
def yX5_put : MethodName := ⟨RX5, "put", "(J)I"⟩
abbrev cX5_wipe : ByteArray := prog_1_method_25_code
def yX5_wipe : MethodName := ⟨RX5, "wipe", "()I"⟩
abbrev cX5_fault : ByteArray := prog_1_method_26_code
def yX5_fault : MethodName := ⟨RX5, "fault", "()I"⟩
abbrev cX5_undo : ByteArray := prog_1_method_27_code
def yX5_undo : MethodName := ⟨RX5, "undo", "()I"⟩
abbrev cX5_save : ByteArray := prog_1_method_28_code
def yX5_save : MethodName := ⟨RX5, "save", "(I)I"⟩
abbrev cX5_restore : ByteArray := prog_1_method_29_code
def yX5_restore : MethodName := ⟨RX5, "restore", "(I)I"⟩
abbrev cX5_isFrom : ByteArray := prog_1_method_30_code
def yX5_isFrom : MethodName := ⟨RX5, "isFrom", "(III)Z"⟩
abbrev cX5_isPlace : ByteArray := prog_1_method_31_code
def yX5_isPlace : MethodName := ⟨RX5, "isPlace", "(I)Z"⟩
abbrev cX5_isTeam : ByteArray := prog_1_method_32_code
def yX5_isTeam : MethodName := ⟨RX5, "isTeam", "(I)Z"⟩
abbrev cX5_isInRoute : ByteArray := prog_1_method_33_code
def yX5_isInRoute : MethodName := ⟨RX5, "isInRoute", "(II)Z"⟩
abbrev cX5_playNow : ByteArray := prog_1_method_34_code
def yX5_playNow : MethodName := ⟨RX5, "playNow", "()V"⟩
abbrev cX5_endNow : ByteArray := prog_1_method_35_code
def yX5_endNow : MethodName := ⟨RX5, "endNow", "(I)I"⟩
abbrev cX5_leastFreeStart : ByteArray := prog_1_method_36_code
def yX5_leastFreeStart : MethodName := ⟨RX5, "leastFreeStart", "(LTrailTeams$State;II)I"⟩
abbrev cX5_endIfExchanged : ByteArray := prog_1_method_37_code
def yX5_endIfExchanged : MethodName := ⟨RX5, "endIfExchanged", "(III)I"⟩
def RX6 : String := "TrailTeamsModel"
def TX6 : u_T := fun k => match k with
  | 0 => ("TrailTeamsModel", "row", "[I", true)
  | 1 => ("TrailTeamsModel", "past", "[I", true)
  | 2 => ("TrailTeamsModel", "before", "[I", true)
  | 3 => ("TrailTeamsModel", "aside", "[I", true)
  | 4 => ("TrailTeamsModel", "slots", "[I", true)
  | 5 => ("TrailTeamsModel", "isSaved", "[Z", true)
  | 6 => ("TrailTeamsModel", "states", "I", false)
  | 7 => ("TrailTeamsModel", "pad", "[I", true)
  | 8 => ("TrailTeamsModel", "length", "I", false)
  | 9 => ("TrailTeamsModel", "at", "I", false)
  | 10 => ("TrailTeamsModel", "codes", "[I", true)
  | 11 => ("TrailTeamsModel", "read", "[I", true)
  | 12 => ("TrailTeamsModel", "many", "I", false)
  | 13 => ("TrailTeamsModel", "playing", "I", false)
  | 14 => ("TrailTeamsModel", "trail", "[I", true)
  | 15 => ("TrailTeamsModel", "place", "[I", true)
  | 16 => ("TrailTeamsModel", "comes", "[I", true)
  | 17 => ("TrailTeamsModel", "begins", "[I", true)
  | 18 => ("TrailTeamsModel", "ends", "[I", true)
  | 19 => ("TrailTeamsModel", "walks", "[I", true)
  | 20 => ("TrailTeamsModel", "over", "[I", true)
  | 21 => ("TrailTeamsModel", "done", "[I", true)
  | _ => ("TrailTeamsModel", "free", "[I", true)
def tyX6 : Nat → FieldType := fun k => match k with
  | 0 => .array .int
  | 1 => .array .int
  | 2 => .array .int
  | 3 => .array .int
  | 4 => .array .int
  | 5 => .array .boolean
  | 6 => .int
  | 7 => .array .int
  | 8 => .int
  | 9 => .int
  | 10 => .array .int
  | 11 => .array .int
  | 12 => .int
  | 13 => .int
  | 14 => .array .int
  | 15 => .array .int
  | 16 => .array .int
  | 17 => .array .int
  | 18 => .array .int
  | 19 => .array .int
  | 20 => .array .int
  | 21 => .array .int
  | _ => .array .int
abbrev wsX60 : List Cond := u_ws RX6 TX6 23
theorem nmX6 : ∀ a, a < 23 → ∀ b, b < 23 → a ≠ b → (TX6 a).2.1 ≠ (TX6 b).2.1 := by decide +kernel
theorem tyX6_ok : ∀ k, k < 23 → parseFieldDescriptor (TX6 k).2.2.1 = some (tyX6 k) := by decide +kernel
abbrev cX6_init : ByteArray := prog_8_method_1_code
def yX6_init : MethodName := ⟨RX6, "<init>", "()V"⟩
abbrev cX6_in : ByteArray := prog_8_method_2_code
def yX6_in : MethodName := ⟨RX6, "in", "(JII)Z"⟩
abbrev cX6_isPlace : ByteArray := prog_8_method_3_code
def yX6_isPlace : MethodName := ⟨RX6, "isPlace", "(I)Z"⟩
abbrev cX6_isTeam : ByteArray := prog_8_method_4_code
def yX6_isTeam : MethodName := ⟨RX6, "isTeam", "(I)Z"⟩
abbrev cX6_its : ByteArray := prog_8_method_5_code
def yX6_its : MethodName := ⟨RX6, "its", "(II)I"⟩
abbrev cX6_lay : ByteArray := prog_8_method_6_code
def yX6_lay : MethodName := ⟨RX6, "lay", "(III)V"⟩
abbrev cX6_of : ByteArray := prog_8_method_7_code
def yX6_of : MethodName := ⟨RX6, "of", "(II)I"⟩
abbrev cX6_size : ByteArray := prog_8_method_8_code
def yX6_size : MethodName := ⟨RX6, "size", "(I)I"⟩
abbrev cX6_remember : ByteArray := prog_8_method_9_code
def yX6_remember : MethodName := ⟨RX6, "remember", "()V"⟩
abbrev cX6_record : ByteArray := prog_8_method_10_code
def yX6_record : MethodName := ⟨RX6, "record", "(I)I"⟩
abbrev cX6_undo : ByteArray := prog_8_method_11_code
def yX6_undo : MethodName := ⟨RX6, "undo", "()I"⟩
abbrev cX6_save : ByteArray := prog_8_method_12_code
def yX6_save : MethodName := ⟨RX6, "save", "(I)I"⟩
abbrev cX6_restore : ByteArray := prog_8_method_13_code
def yX6_restore : MethodName := ⟨RX6, "restore", "(I)I"⟩
abbrev cX6_layAside : ByteArray := prog_8_method_14_code
def yX6_layAside : MethodName := ⟨RX6, "layAside", "()V"⟩
abbrev cX6_putBack : ByteArray := prog_8_method_15_code
def yX6_putBack : MethodName := ⟨RX6, "putBack", "()V"⟩
abbrev cX6_prepare : ByteArray := prog_8_method_16_code
def yX6_prepare : MethodName := ⟨RX6, "prepare", "(I)V"⟩
abbrev cX6_walk : ByteArray := prog_8_method_17_code
def yX6_walk : MethodName := ⟨RX6, "walk", "(IZ)V"⟩
abbrev cX6_next : ByteArray := prog_8_method_18_code
def yX6_next : MethodName := ⟨RX6, "next", "()I"⟩
abbrev cX6_hasLost : ByteArray := prog_8_method_19_code
def yX6_hasLost : MethodName := ⟨RX6, "hasLost", "(I)Z"⟩
abbrev cX6_play : ByteArray := prog_8_method_20_code
def yX6_play : MethodName := ⟨RX6, "play", "(I)V"⟩
abbrev cX6_playAll : ByteArray := prog_8_method_21_code
def yX6_playAll : MethodName := ⟨RX6, "playAll", "()V"⟩
abbrev cX6_visitTo : ByteArray := prog_8_method_22_code
def yX6_visitTo : MethodName := ⟨RX6, "visitTo", "(II)I"⟩
abbrev cX6_meetAt : ByteArray := prog_8_method_23_code
def yX6_meetAt : MethodName := ⟨RX6, "meetAt", "(III)Z"⟩
abbrev cX6_meet : ByteArray := prog_8_method_24_code
def yX6_meet : MethodName := ⟨RX6, "meet", "(II)Z"⟩
abbrev cX6_met : ByteArray := prog_8_method_25_code
def yX6_met : MethodName := ⟨RX6, "met", "(I)I"⟩
abbrev cX6_pairs : ByteArray := prog_8_method_26_code
def yX6_pairs : MethodName := ⟨RX6, "pairs", "()I"⟩
abbrev cX6_queued : ByteArray := prog_8_method_27_code
def yX6_queued : MethodName := ⟨RX6, "queued", "(I)I"⟩
abbrev cX6_allQueued : ByteArray := prog_8_method_28_code
def yX6_allQueued : MethodName := ⟨RX6, "allQueued", "()I"⟩
abbrev cX6_hinted : ByteArray := prog_8_method_29_code
def yX6_hinted : MethodName := ⟨RX6, "hinted", "(I)I"⟩
abbrev cX6_points : ByteArray := prog_8_method_30_code
def yX6_points : MethodName := ⟨RX6, "points", "(I)I"⟩
abbrev cX6_isAhead : ByteArray := prog_8_method_31_code
def yX6_isAhead : MethodName := ⟨RX6, "isAhead", "(II)Z"⟩
abbrev cX6_rank : ByteArray := prog_8_method_32_code
def yX6_rank : MethodName := ⟨RX6, "rank", "(I)I"⟩
abbrev cX6_endOf : ByteArray := prog_8_method_33_code
def yX6_endOf : MethodName := ⟨RX6, "endOf", "(I)I"⟩
abbrev cX6_set : ByteArray := prog_8_method_34_code
def yX6_set : MethodName := ⟨RX6, "set", "(II)I"⟩
abbrev cX6_place : ByteArray := prog_8_method_35_code
def yX6_place : MethodName := ⟨RX6, "place", "(IIII)I"⟩
abbrev cX6_openOnes : ByteArray := prog_8_method_36_code
def yX6_openOnes : MethodName := ⟨RX6, "openOnes", "()I"⟩
abbrev cX6_close : ByteArray := prog_8_method_37_code
def yX6_close : MethodName := ⟨RX6, "close", "(IZ)I"⟩
abbrev cX6_takeRoute : ByteArray := prog_8_method_38_code
def yX6_takeRoute : MethodName := ⟨RX6, "takeRoute", "(I)V"⟩
abbrev cX6_team : ByteArray := prog_8_method_39_code
def yX6_team : MethodName := ⟨RX6, "team", "(I)I"⟩
abbrev cX6_route : ByteArray := prog_8_method_40_code
def yX6_route : MethodName := ⟨RX6, "route", "(I)I"⟩
abbrev cX6_leave : ByteArray := prog_8_method_41_code
def yX6_leave : MethodName := ⟨RX6, "leave", "(I)I"⟩
abbrev cX6_start : ByteArray := prog_8_method_42_code
def yX6_start : MethodName := ⟨RX6, "start", "(II)I"⟩
abbrev cX6_hint : ByteArray := prog_8_method_43_code
def yX6_hint : MethodName := ⟨RX6, "hint", "(IIZ)I"⟩
abbrev cX6_lose : ByteArray := prog_8_method_44_code
def yX6_lose : MethodName := ⟨RX6, "lose", "(II)I"⟩
abbrev cX6_turned : ByteArray := prog_8_method_45_code
def yX6_turned : MethodName := ⟨RX6, "turned", "(II)V"⟩
abbrev cX6_turn : ByteArray := prog_8_method_46_code
def yX6_turn : MethodName := ⟨RX6, "turn", "(II)I"⟩
abbrev cX6_exchanged : ByteArray := prog_8_method_47_code
def yX6_exchanged : MethodName := ⟨RX6, "exchanged", "(III)V"⟩
abbrev cX6_exchange : ByteArray := prog_8_method_48_code
def yX6_exchange : MethodName := ⟨RX6, "exchange", "(III)I"⟩
abbrev cX6_leastStart : ByteArray := prog_8_method_49_code
def yX6_leastStart : MethodName := ⟨RX6, "leastStart", "(II)I"⟩
abbrev cX6_part : ByteArray := prog_8_method_50_code
def yX6_part : MethodName := ⟨RX6, "part", "()I"⟩
abbrev cX6_visit : ByteArray := prog_8_method_51_code
def yX6_visit : MethodName := ⟨RX6, "visit", "(III)I"⟩
abbrev cX6_walked : ByteArray := prog_8_method_52_code
def yX6_walked : MethodName := ⟨RX6, "walked", "(I)I"⟩
abbrev cX6_teamOf : ByteArray := prog_8_method_53_code
def yX6_teamOf : MethodName := ⟨RX6, "teamOf", "(II)I"⟩
abbrev cX6_atPlace : ByteArray := prog_8_method_54_code
def yX6_atPlace : MethodName := ⟨RX6, "atPlace", "(II)I"⟩
abbrev cX6_crowd : ByteArray := prog_8_method_55_code
def yX6_crowd : MethodName := ⟨RX6, "crowd", "(I)I"⟩
abbrev cX6_placeOf : ByteArray := prog_8_method_56_code
def yX6_placeOf : MethodName := ⟨RX6, "placeOf", "(II)I"⟩
abbrev cX6_where : ByteArray := prog_8_method_57_code
def yX6_where : MethodName := ⟨RX6, "where", "(II)I"⟩
abbrev cX6_told : ByteArray := prog_8_method_58_code
def yX6_told : MethodName := ⟨RX6, "told", "(II)I"⟩
abbrev cX6_lastEnd : ByteArray := prog_8_method_59_code
def yX6_lastEnd : MethodName := ⟨RX6, "lastEnd", "()I"⟩
abbrev cX6_winner : ByteArray := prog_8_method_60_code
def yX6_winner : MethodName := ⟨RX6, "winner", "()I"⟩
abbrev cX6_sums : ByteArray := prog_8_method_61_code
def yX6_sums : MethodName := ⟨RX6, "sums", "(Z)I"⟩
abbrev cX6_count : ByteArray := prog_8_method_62_code
def yX6_count : MethodName := ⟨RX6, "count", "(I)I"⟩
abbrev cX6_freeStart : ByteArray := prog_8_method_63_code
def yX6_freeStart : MethodName := ⟨RX6, "freeStart", "(I)I"⟩
abbrev cX6_bestExchange : ByteArray := prog_8_method_64_code
def yX6_bestExchange : MethodName := ⟨RX6, "bestExchange", "(II)I"⟩
abbrev cX6_worstPlace : ByteArray := prog_8_method_65_code
def yX6_worstPlace : MethodName := ⟨RX6, "worstPlace", "(I)I"⟩
abbrev cX6_ifTurned : ByteArray := prog_8_method_66_code
def yX6_ifTurned : MethodName := ⟨RX6, "ifTurned", "(II)I"⟩
abbrev cX6_put : ByteArray := prog_8_method_67_code
def yX6_put : MethodName := ⟨RX6, "put", "(J)I"⟩
abbrev cX6_wipe : ByteArray := prog_8_method_68_code
def yX6_wipe : MethodName := ⟨RX6, "wipe", "()I"⟩
abbrev cX6_readPlace : ByteArray := prog_8_method_69_code
def yX6_readPlace : MethodName := ⟨RX6, "readPlace", "()Z"⟩
abbrev cX6_isWell : ByteArray := prog_8_method_70_code
def yX6_isWell : MethodName := ⟨RX6, "isWell", "()Z"⟩
abbrev cX6_fault : ByteArray := prog_8_method_71_code
def yX6_fault : MethodName := ⟨RX6, "fault", "()I"⟩
def RJ6 : String := "java/lang/Integer"
def TJ6 : u_T := fun k => match k with
  | _ => ("", "", "", false)
def tyJ6 : Nat → FieldType := fun k => match k with
  | _ => .int
abbrev wsJ60 : List Cond := u_ws RJ6 TJ6 0
theorem nmJ6 : ∀ a, a < 0 → ∀ b, b < 0 → a ≠ b → (TJ6 a).2.1 ≠ (TJ6 b).2.1 := by decide +kernel
theorem tyJ6_ok : ∀ k, k < 0 → parseFieldDescriptor (TJ6 k).2.2.1 = some (tyJ6 k) := by decide +kernel
abbrev cJ6_bitCount_0f7a4 : ByteArray := prog_9_method_49_code
def yJ6_bitCount_0f7a4 : MethodName := ⟨RJ6, "bitCount", "(I)I"⟩
def RJ9 : String := "java/lang/Math"
def TJ9 : u_T := fun k => match k with
  | _ => ("", "", "", false)
def tyJ9 : Nat → FieldType := fun k => match k with
  | _ => .int
abbrev wsJ90 : List Cond := u_ws RJ9 TJ9 0
theorem nmJ9 : ∀ a, a < 0 → ∀ b, b < 0 → a ≠ b → (TJ9 a).2.1 ≠ (TJ9 b).2.1 := by decide +kernel
theorem tyJ9_ok : ∀ k, k < 0 → parseFieldDescriptor (TJ9 k).2.2.1 = some (tyJ9 k) := by decide +kernel
abbrev cJ9_abs_0f7a4 : ByteArray := prog_10_method_59_code
def yJ9_abs_0f7a4 : MethodName := ⟨RJ9, "abs", "(I)I"⟩
abbrev cJ9_max_7cf53 : ByteArray := prog_10_method_65_code
def yJ9_max_7cf53 : MethodName := ⟨RJ9, "max", "(II)I"⟩
abbrev cJ9_min_7cf53 : ByteArray := prog_10_method_69_code
def yJ9_min_7cf53 : MethodName := ⟨RJ9, "min", "(II)I"⟩
def RJ10 : String := "java/lang/System"
def TJ10 : u_T := fun k => match k with
  | _ => ("", "", "", false)
def tyJ10 : Nat → FieldType := fun k => match k with
  | _ => .int
abbrev wsJ100 : List Cond := u_ws RJ10 TJ10 0
theorem nmJ10 : ∀ a, a < 0 → ∀ b, b < 0 → a ≠ b → (TJ10 a).2.1 ≠ (TJ10 b).2.1 := by decide +kernel
theorem tyJ10_ok : ∀ k, k < 0 → parseFieldDescriptor (TJ10 k).2.2.1 = some (tyJ10 k) := by decide +kernel
def RJ7 : String := "java/util/Arrays"
def TJ7 : u_T := fun k => match k with
  | _ => ("", "", "", false)
def tyJ7 : Nat → FieldType := fun k => match k with
  | _ => .int
abbrev wsJ70 : List Cond := u_ws RJ7 TJ7 0
theorem nmJ7 : ∀ a, a < 0 → ∀ b, b < 0 → a ≠ b → (TJ7 a).2.1 ≠ (TJ7 b).2.1 := by decide +kernel
theorem tyJ7_ok : ∀ k, k < 0 → parseFieldDescriptor (TJ7 k).2.2.1 = some (tyJ7 k) := by decide +kernel
abbrev cJ7_fill_53178 : ByteArray := prog_12_method_103_code
def yJ7_fill_53178 : MethodName := ⟨RJ7, "fill", "([II)V"⟩
def RL : String := "TrailTeamsLaw"
abbrev cL_law : ByteArray := code
abbrev vwCl : List vw_C := [(RX0, TX0, 11), (RX1, TX1, 3), (RX2, TX2, 2), (RX3, TX3, 7), (RX4, TX4, 5), (RX5, TX5, 7), (RX6, TX6, 23)]
end
section
theorem dX0_init_0 : decode cX0_init 0 = .ok (.aload_n 0, 1) := by decide +kernel
theorem dX0_init_1 : decode cX0_init 1 = .ok (.invokespecial 3, 3) := by decide +kernel
theorem dX0_init_4 : decode cX0_init 4 = .ok (.aload_n 0, 1) := by decide +kernel
theorem dX0_init_5 : decode cX0_init 5 = .ok (.bipush 6, 2) := by decide +kernel
theorem dX0_init_7 : decode cX0_init 7 = .ok (.newarray .int, 2) := by decide +kernel
theorem dX0_init_9 : decode cX0_init 9 = .ok (.putfield 9, 3) := by decide +kernel
theorem dX0_init_12 : decode cX0_init 12 = .ok (.aload_n 0, 1) := by decide +kernel
theorem dX0_init_13 : decode cX0_init 13 = .ok (.bipush 6, 2) := by decide +kernel
theorem dX0_init_15 : decode cX0_init 15 = .ok (.bipush 8, 2) := by decide +kernel
theorem dX0_init_17 : decode cX0_init 17 = .ok (.multianewarray 15 2, 4) := by decide +kernel
theorem dX0_init_21 : decode cX0_init 21 = .ok (.putfield 17, 3) := by decide +kernel
theorem dX0_init_24 : decode cX0_init 24 = .ok (.aload_n 0, 1) := by decide +kernel
theorem dX0_init_25 : decode cX0_init 25 = .ok (.bipush 6, 2) := by decide +kernel
theorem dX0_init_27 : decode cX0_init 27 = .ok (.bipush 8, 2) := by decide +kernel
theorem dX0_init_29 : decode cX0_init 29 = .ok (.multianewarray 15 2, 4) := by decide +kernel
theorem dX0_init_33 : decode cX0_init 33 = .ok (.putfield 20, 3) := by decide +kernel
theorem dX0_init_36 : decode cX0_init 36 = .ok (.aload_n 0, 1) := by decide +kernel
theorem dX0_init_37 : decode cX0_init 37 = .ok (.bipush 6, 2) := by decide +kernel
theorem dX0_init_39 : decode cX0_init 39 = .ok (.bipush 8, 2) := by decide +kernel
theorem dX0_init_41 : decode cX0_init 41 = .ok (.multianewarray 15 2, 4) := by decide +kernel
theorem dX0_init_45 : decode cX0_init 45 = .ok (.putfield 23, 3) := by decide +kernel
theorem dX0_init_48 : decode cX0_init 48 = .ok (.aload_n 0, 1) := by decide +kernel
theorem dX0_init_49 : decode cX0_init 49 = .ok (.bipush 6, 2) := by decide +kernel
theorem dX0_init_51 : decode cX0_init 51 = .ok (.bipush 8, 2) := by decide +kernel
theorem dX0_init_53 : decode cX0_init 53 = .ok (.multianewarray 15 2, 4) := by decide +kernel
theorem dX0_init_57 : decode cX0_init 57 = .ok (.putfield 26, 3) := by decide +kernel
theorem dX0_init_60 : decode cX0_init 60 = .ok (.aload_n 0, 1) := by decide +kernel
theorem dX0_init_61 : decode cX0_init 61 = .ok (.bipush 6, 2) := by decide +kernel
theorem dX0_init_63 : decode cX0_init 63 = .ok (.bipush 8, 2) := by decide +kernel
theorem dX0_init_65 : decode cX0_init 65 = .ok (.multianewarray 15 2, 4) := by decide +kernel
theorem dX0_init_69 : decode cX0_init 69 = .ok (.putfield 29, 3) := by decide +kernel
theorem dX0_init_72 : decode cX0_init 72 = .ok (.aload_n 0, 1) := by decide +kernel
theorem dX0_init_73 : decode cX0_init 73 = .ok (.bipush 6, 2) := by decide +kernel
theorem dX0_init_75 : decode cX0_init 75 = .ok (.newarray .int, 2) := by decide +kernel
theorem dX0_init_77 : decode cX0_init 77 = .ok (.putfield 32, 3) := by decide +kernel
theorem dX0_init_80 : decode cX0_init 80 = .ok (.aload_n 0, 1) := by decide +kernel
theorem dX0_init_81 : decode cX0_init 81 = .ok (.bipush 6, 2) := by decide +kernel
theorem dX0_init_83 : decode cX0_init 83 = .ok (.newarray .int, 2) := by decide +kernel
theorem dX0_init_85 : decode cX0_init 85 = .ok (.putfield 35, 3) := by decide +kernel
theorem dX0_init_88 : decode cX0_init 88 = .ok (.aload_n 0, 1) := by decide +kernel
theorem dX0_init_89 : decode cX0_init 89 = .ok (.bipush 8, 2) := by decide +kernel
theorem dX0_init_91 : decode cX0_init 91 = .ok (.newarray .int, 2) := by decide +kernel
theorem dX0_init_93 : decode cX0_init 93 = .ok (.putfield 38, 3) := by decide +kernel
theorem dX0_init_96 : decode cX0_init 96 = .ok (.return_, 1) := by decide +kernel
theorem dX0_play_0 : decode cX0_play 0 = .ok (.aload_n 0, 1) := by decide +kernel
theorem dX0_play_1 : decode cX0_play 1 = .ok (.aload_n 1, 1) := by decide +kernel
theorem dX0_play_2 : decode cX0_play 2 = .ok (.putfield 41, 3) := by decide +kernel
theorem dX0_play_5 : decode cX0_play 5 = .ok (.aload_n 0, 1) := by decide +kernel
theorem dX0_play_6 : decode cX0_play 6 = .ok (.iload_n 2, 1) := by decide +kernel
theorem dX0_play_7 : decode cX0_play 7 = .ok (.putfield 45, 3) := by decide +kernel
theorem dX0_play_10 : decode cX0_play 10 = .ok (.aload_n 0, 1) := by decide +kernel
theorem dX0_play_11 : decode cX0_play 11 = .ok (.getfield 38, 3) := by decide +kernel
theorem dX0_play_14 : decode cX0_play 14 = .ok (.iconst 0, 1) := by decide +kernel
theorem dX0_play_15 : decode cX0_play 15 = .ok (.invokestatic 49, 3) := by decide +kernel
theorem dX0_play_18 : decode cX0_play 18 = .ok (.iconst 0, 1) := by decide +kernel
theorem dX0_play_19 : decode cX0_play 19 = .ok (.istore_n 3, 1) := by decide +kernel
theorem dX0_play_20 : decode cX0_play 20 = .ok (.iload_n 3, 1) := by decide +kernel
theorem dX0_play_21 : decode cX0_play 21 = .ok (.aload_n 0, 1) := by decide +kernel
theorem dX0_play_22 : decode cX0_play 22 = .ok (.getfield 45, 3) := by decide +kernel
theorem dX0_play_25 : decode cX0_play 25 = .ok (.if_icmp .ge 39, 3) := by decide +kernel
theorem dX0_play_28 : decode cX0_play 28 = .ok (.aload_n 0, 1) := by decide +kernel
theorem dX0_play_29 : decode cX0_play 29 = .ok (.iload_n 3, 1) := by decide +kernel
theorem dX0_play_30 : decode cX0_play 30 = .ok (.invokevirtual 55, 3) := by decide +kernel
theorem dX0_play_33 : decode cX0_play 33 = .ok (.aload_n 0, 1) := by decide +kernel
theorem dX0_play_34 : decode cX0_play 34 = .ok (.getfield 32, 3) := by decide +kernel
theorem dX0_play_37 : decode cX0_play 37 = .ok (.iload_n 3, 1) := by decide +kernel
theorem dX0_play_38 : decode cX0_play 38 = .ok (.iconst 0, 1) := by decide +kernel
theorem dX0_play_39 : decode cX0_play 39 = .ok (.iastore, 1) := by decide +kernel
theorem dX0_play_40 : decode cX0_play 40 = .ok (.aload_n 0, 1) := by decide +kernel
theorem dX0_play_41 : decode cX0_play 41 = .ok (.getfield 35, 3) := by decide +kernel
theorem dX0_play_44 : decode cX0_play 44 = .ok (.iload_n 3, 1) := by decide +kernel
theorem dX0_play_45 : decode cX0_play 45 = .ok (.aload_n 0, 1) := by decide +kernel
theorem dX0_play_46 : decode cX0_play 46 = .ok (.getfield 41, 3) := by decide +kernel
theorem dX0_play_49 : decode cX0_play 49 = .ok (.getfield 59, 3) := by decide +kernel
theorem dX0_play_52 : decode cX0_play 52 = .ok (.iload_n 3, 1) := by decide +kernel
theorem dX0_play_53 : decode cX0_play 53 = .ok (.aaload, 1) := by decide +kernel
theorem dX0_play_54 : decode cX0_play 54 = .ok (.getfield 65, 3) := by decide +kernel
theorem dX0_play_57 : decode cX0_play 57 = .ok (.iastore, 1) := by decide +kernel
theorem dX0_play_58 : decode cX0_play 58 = .ok (.iinc 3 1, 3) := by decide +kernel
theorem dX0_play_61 : decode cX0_play 61 = .ok (.goto (-41), 3) := by decide +kernel
theorem dX0_play_64 : decode cX0_play 64 = .ok (.iconst 0, 1) := by decide +kernel
theorem dX0_play_65 : decode cX0_play 65 = .ok (.istore_n 3, 1) := by decide +kernel
theorem dX0_play_66 : decode cX0_play 66 = .ok (.iload_n 3, 1) := by decide +kernel
theorem dX0_play_67 : decode cX0_play 67 = .ok (.bipush 48, 2) := by decide +kernel
theorem dX0_play_69 : decode cX0_play 69 = .ok (.if_icmp .ge 30, 3) := by decide +kernel
theorem dX0_play_72 : decode cX0_play 72 = .ok (.aload_n 0, 1) := by decide +kernel
theorem dX0_play_73 : decode cX0_play 73 = .ok (.invokevirtual 70, 3) := by decide +kernel
theorem dX0_play_76 : decode cX0_play 76 = .ok (.istore 4, 2) := by decide +kernel
theorem dX0_play_78 : decode cX0_play 78 = .ok (.iload 4, 2) := by decide +kernel
theorem dX0_play_80 : decode cX0_play 80 = .ok (.iconst (-1), 1) := by decide +kernel
theorem dX0_play_81 : decode cX0_play 81 = .ok (.if_icmp .ne 6, 3) := by decide +kernel
theorem dX0_play_84 : decode cX0_play 84 = .ok (.goto 15, 3) := by decide +kernel
theorem dX0_play_87 : decode cX0_play 87 = .ok (.aload_n 0, 1) := by decide +kernel
theorem dX0_play_88 : decode cX0_play 88 = .ok (.iload 4, 2) := by decide +kernel
theorem dX0_play_90 : decode cX0_play 90 = .ok (.invokevirtual 74, 3) := by decide +kernel
theorem dX0_play_93 : decode cX0_play 93 = .ok (.iinc 3 1, 3) := by decide +kernel
theorem dX0_play_96 : decode cX0_play 96 = .ok (.goto (-30), 3) := by decide +kernel
theorem dX0_play_99 : decode cX0_play 99 = .ok (.return_, 1) := by decide +kernel
theorem dX0_layTrail_0 : decode cX0_layTrail 0 = .ok (.aload_n 0, 1) := by decide +kernel
theorem dX0_layTrail_1 : decode cX0_layTrail 1 = .ok (.getfield 41, 3) := by decide +kernel
theorem dX0_layTrail_4 : decode cX0_layTrail 4 = .ok (.getfield 59, 3) := by decide +kernel
theorem dX0_layTrail_7 : decode cX0_layTrail 7 = .ok (.iload_n 1, 1) := by decide +kernel
theorem dX0_layTrail_8 : decode cX0_layTrail 8 = .ok (.aaload, 1) := by decide +kernel
theorem dX0_layTrail_9 : decode cX0_layTrail 9 = .ok (.astore_n 2, 1) := by decide +kernel
theorem dX0_layTrail_10 : decode cX0_layTrail 10 = .ok (.iconst 0, 1) := by decide +kernel
theorem dX0_layTrail_11 : decode cX0_layTrail 11 = .ok (.istore_n 3, 1) := by decide +kernel
theorem dX0_layTrail_12 : decode cX0_layTrail 12 = .ok (.iconst 0, 1) := by decide +kernel
theorem dX0_layTrail_13 : decode cX0_layTrail 13 = .ok (.istore 4, 2) := by decide +kernel
theorem dX0_layTrail_15 : decode cX0_layTrail 15 = .ok (.iconst 0, 1) := by decide +kernel
theorem dX0_layTrail_16 : decode cX0_layTrail 16 = .ok (.istore 5, 2) := by decide +kernel
theorem dX0_layTrail_18 : decode cX0_layTrail 18 = .ok (.iconst 1, 1) := by decide +kernel
theorem dX0_layTrail_19 : decode cX0_layTrail 19 = .ok (.istore 6, 2) := by decide +kernel
theorem dX0_layTrail_21 : decode cX0_layTrail 21 = .ok (.iconst 0, 1) := by decide +kernel
theorem dX0_layTrail_22 : decode cX0_layTrail 22 = .ok (.istore 7, 2) := by decide +kernel
theorem dX0_layTrail_24 : decode cX0_layTrail 24 = .ok (.iload 7, 2) := by decide +kernel
theorem dX0_layTrail_26 : decode cX0_layTrail 26 = .ok (.aload_n 2, 1) := by decide +kernel
theorem dX0_layTrail_27 : decode cX0_layTrail 27 = .ok (.getfield 77, 3) := by decide +kernel
theorem dX0_layTrail_30 : decode cX0_layTrail 30 = .ok (.if_icmp .ge 134, 3) := by decide +kernel
theorem dX0_layTrail_33 : decode cX0_layTrail 33 = .ok (.aload_n 2, 1) := by decide +kernel
theorem dX0_layTrail_34 : decode cX0_layTrail 34 = .ok (.getfield 80, 3) := by decide +kernel
theorem dX0_layTrail_37 : decode cX0_layTrail 37 = .ok (.iload 7, 2) := by decide +kernel
theorem dX0_layTrail_39 : decode cX0_layTrail 39 = .ok (.iaload, 1) := by decide +kernel
theorem dX0_layTrail_40 : decode cX0_layTrail 40 = .ok (.istore 8, 2) := by decide +kernel
theorem dX0_layTrail_42 : decode cX0_layTrail 42 = .ok (.aload_n 0, 1) := by decide +kernel
theorem dX0_layTrail_43 : decode cX0_layTrail 43 = .ok (.getfield 41, 3) := by decide +kernel
theorem dX0_layTrail_46 : decode cX0_layTrail 46 = .ok (.iload 8, 2) := by decide +kernel
theorem dX0_layTrail_48 : decode cX0_layTrail 48 = .ok (.invokevirtual 83, 3) := by decide +kernel
theorem dX0_layTrail_51 : decode cX0_layTrail 51 = .ok (.ifCond .eq 6, 3) := by decide +kernel
theorem dX0_layTrail_54 : decode cX0_layTrail 54 = .ok (.goto 104, 3) := by decide +kernel
theorem dX0_layTrail_57 : decode cX0_layTrail 57 = .ok (.aload_n 0, 1) := by decide +kernel
theorem dX0_layTrail_58 : decode cX0_layTrail 58 = .ok (.getfield 17, 3) := by decide +kernel
theorem dX0_layTrail_61 : decode cX0_layTrail 61 = .ok (.iload_n 1, 1) := by decide +kernel
theorem dX0_layTrail_62 : decode cX0_layTrail 62 = .ok (.aaload, 1) := by decide +kernel
theorem dX0_layTrail_63 : decode cX0_layTrail 63 = .ok (.iload_n 3, 1) := by decide +kernel
theorem dX0_layTrail_64 : decode cX0_layTrail 64 = .ok (.iload 8, 2) := by decide +kernel
theorem dX0_layTrail_66 : decode cX0_layTrail 66 = .ok (.iastore, 1) := by decide +kernel
theorem dX0_layTrail_67 : decode cX0_layTrail 67 = .ok (.aload_n 0, 1) := by decide +kernel
theorem dX0_layTrail_68 : decode cX0_layTrail 68 = .ok (.getfield 20, 3) := by decide +kernel
theorem dX0_layTrail_71 : decode cX0_layTrail 71 = .ok (.iload_n 1, 1) := by decide +kernel
theorem dX0_layTrail_72 : decode cX0_layTrail 72 = .ok (.aaload, 1) := by decide +kernel
theorem dX0_layTrail_73 : decode cX0_layTrail 73 = .ok (.iload_n 3, 1) := by decide +kernel
theorem dX0_layTrail_74 : decode cX0_layTrail 74 = .ok (.iload 6, 2) := by decide +kernel
theorem dX0_layTrail_76 : decode cX0_layTrail 76 = .ok (.aload_n 0, 1) := by decide +kernel
theorem dX0_layTrail_77 : decode cX0_layTrail 77 = .ok (.getfield 41, 3) := by decide +kernel
theorem dX0_layTrail_80 : decode cX0_layTrail 80 = .ok (.getfield 87, 3) := by decide +kernel
theorem dX0_layTrail_83 : decode cX0_layTrail 83 = .ok (.iload 8, 2) := by decide +kernel
theorem dX0_layTrail_85 : decode cX0_layTrail 85 = .ok (.iaload, 1) := by decide +kernel
theorem dX0_layTrail_86 : decode cX0_layTrail 86 = .ok (.iload 4, 2) := by decide +kernel
theorem dX0_layTrail_88 : decode cX0_layTrail 88 = .ok (.isub, 1) := by decide +kernel
theorem dX0_layTrail_89 : decode cX0_layTrail 89 = .ok (.invokestatic 90, 3) := by decide +kernel
theorem dX0_layTrail_92 : decode cX0_layTrail 92 = .ok (.aload_n 0, 1) := by decide +kernel
theorem dX0_layTrail_93 : decode cX0_layTrail 93 = .ok (.getfield 41, 3) := by decide +kernel
theorem dX0_layTrail_96 : decode cX0_layTrail 96 = .ok (.getfield 96, 3) := by decide +kernel
theorem dX0_layTrail_99 : decode cX0_layTrail 99 = .ok (.iload 8, 2) := by decide +kernel
theorem dX0_layTrail_101 : decode cX0_layTrail 101 = .ok (.iaload, 1) := by decide +kernel
theorem dX0_layTrail_102 : decode cX0_layTrail 102 = .ok (.iload 5, 2) := by decide +kernel
theorem dX0_layTrail_104 : decode cX0_layTrail 104 = .ok (.isub, 1) := by decide +kernel
theorem dX0_layTrail_105 : decode cX0_layTrail 105 = .ok (.invokestatic 90, 3) := by decide +kernel
theorem dX0_layTrail_108 : decode cX0_layTrail 108 = .ok (.iadd, 1) := by decide +kernel
theorem dX0_layTrail_109 : decode cX0_layTrail 109 = .ok (.imul, 1) := by decide +kernel
theorem dX0_layTrail_110 : decode cX0_layTrail 110 = .ok (.iastore, 1) := by decide +kernel
theorem dX0_layTrail_111 : decode cX0_layTrail 111 = .ok (.iinc 3 1, 3) := by decide +kernel
theorem dX0_layTrail_114 : decode cX0_layTrail 114 = .ok (.aload_n 0, 1) := by decide +kernel
theorem dX0_layTrail_115 : decode cX0_layTrail 115 = .ok (.getfield 41, 3) := by decide +kernel
theorem dX0_layTrail_118 : decode cX0_layTrail 118 = .ok (.getfield 87, 3) := by decide +kernel
theorem dX0_layTrail_121 : decode cX0_layTrail 121 = .ok (.iload 8, 2) := by decide +kernel
theorem dX0_layTrail_123 : decode cX0_layTrail 123 = .ok (.iaload, 1) := by decide +kernel
theorem dX0_layTrail_124 : decode cX0_layTrail 124 = .ok (.istore 4, 2) := by decide +kernel
theorem dX0_layTrail_126 : decode cX0_layTrail 126 = .ok (.aload_n 0, 1) := by decide +kernel
theorem dX0_layTrail_127 : decode cX0_layTrail 127 = .ok (.getfield 41, 3) := by decide +kernel
theorem dX0_layTrail_130 : decode cX0_layTrail 130 = .ok (.getfield 96, 3) := by decide +kernel
theorem dX0_layTrail_133 : decode cX0_layTrail 133 = .ok (.iload 8, 2) := by decide +kernel
theorem dX0_layTrail_135 : decode cX0_layTrail 135 = .ok (.iaload, 1) := by decide +kernel
theorem dX0_layTrail_136 : decode cX0_layTrail 136 = .ok (.istore 5, 2) := by decide +kernel
theorem dX0_layTrail_138 : decode cX0_layTrail 138 = .ok (.iload 8, 2) := by decide +kernel
theorem dX0_layTrail_140 : decode cX0_layTrail 140 = .ok (.aload_n 2, 1) := by decide +kernel
theorem dX0_layTrail_141 : decode cX0_layTrail 141 = .ok (.getfield 99, 3) := by decide +kernel
theorem dX0_layTrail_144 : decode cX0_layTrail 144 = .ok (.if_icmp .ne 14, 3) := by decide +kernel
theorem dX0_layTrail_147 : decode cX0_layTrail 147 = .ok (.aload_n 0, 1) := by decide +kernel
theorem dX0_layTrail_148 : decode cX0_layTrail 148 = .ok (.getfield 41, 3) := by decide +kernel
theorem dX0_layTrail_151 : decode cX0_layTrail 151 = .ok (.getfield 102, 3) := by decide +kernel
theorem dX0_layTrail_154 : decode cX0_layTrail 154 = .ok (.iconst 2, 1) := by decide +kernel
theorem dX0_layTrail_155 : decode cX0_layTrail 155 = .ok (.iaload, 1) := by decide +kernel
theorem dX0_layTrail_156 : decode cX0_layTrail 156 = .ok (.istore 6, 2) := by decide +kernel
theorem dX0_layTrail_158 : decode cX0_layTrail 158 = .ok (.iinc 7 1, 3) := by decide +kernel
theorem dX0_layTrail_161 : decode cX0_layTrail 161 = .ok (.goto (-137), 3) := by decide +kernel
theorem dX0_layTrail_164 : decode cX0_layTrail 164 = .ok (.aload_n 0, 1) := by decide +kernel
theorem dX0_layTrail_165 : decode cX0_layTrail 165 = .ok (.getfield 9, 3) := by decide +kernel
theorem dX0_layTrail_168 : decode cX0_layTrail 168 = .ok (.iload_n 1, 1) := by decide +kernel
theorem dX0_layTrail_169 : decode cX0_layTrail 169 = .ok (.iload_n 3, 1) := by decide +kernel
theorem dX0_layTrail_170 : decode cX0_layTrail 170 = .ok (.iastore, 1) := by decide +kernel
theorem dX0_layTrail_171 : decode cX0_layTrail 171 = .ok (.return_, 1) := by decide +kernel
theorem dX0_nextToCome_0 : decode cX0_nextToCome 0 = .ok (.iconst (-1), 1) := by decide +kernel
theorem dX0_nextToCome_1 : decode cX0_nextToCome 1 = .ok (.istore_n 1, 1) := by decide +kernel
theorem dX0_nextToCome_2 : decode cX0_nextToCome 2 = .ok (.iconst 0, 1) := by decide +kernel
theorem dX0_nextToCome_3 : decode cX0_nextToCome 3 = .ok (.istore_n 2, 1) := by decide +kernel
theorem dX0_nextToCome_4 : decode cX0_nextToCome 4 = .ok (.iconst 0, 1) := by decide +kernel
theorem dX0_nextToCome_5 : decode cX0_nextToCome 5 = .ok (.istore_n 3, 1) := by decide +kernel
theorem dX0_nextToCome_6 : decode cX0_nextToCome 6 = .ok (.iload_n 3, 1) := by decide +kernel
theorem dX0_nextToCome_7 : decode cX0_nextToCome 7 = .ok (.aload_n 0, 1) := by decide +kernel
theorem dX0_nextToCome_8 : decode cX0_nextToCome 8 = .ok (.getfield 45, 3) := by decide +kernel
theorem dX0_nextToCome_11 : decode cX0_nextToCome 11 = .ok (.if_icmp .ge 65, 3) := by decide +kernel
theorem dX0_nextToCome_14 : decode cX0_nextToCome 14 = .ok (.aload_n 0, 1) := by decide +kernel
theorem dX0_nextToCome_15 : decode cX0_nextToCome 15 = .ok (.getfield 32, 3) := by decide +kernel
theorem dX0_nextToCome_18 : decode cX0_nextToCome 18 = .ok (.iload_n 3, 1) := by decide +kernel
theorem dX0_nextToCome_19 : decode cX0_nextToCome 19 = .ok (.iaload, 1) := by decide +kernel
theorem dX0_nextToCome_20 : decode cX0_nextToCome 20 = .ok (.aload_n 0, 1) := by decide +kernel
theorem dX0_nextToCome_21 : decode cX0_nextToCome 21 = .ok (.getfield 9, 3) := by decide +kernel
theorem dX0_nextToCome_24 : decode cX0_nextToCome 24 = .ok (.iload_n 3, 1) := by decide +kernel
theorem dX0_nextToCome_25 : decode cX0_nextToCome 25 = .ok (.iaload, 1) := by decide +kernel
theorem dX0_nextToCome_26 : decode cX0_nextToCome 26 = .ok (.if_icmp .lt 6, 3) := by decide +kernel
theorem dX0_nextToCome_29 : decode cX0_nextToCome 29 = .ok (.goto 41, 3) := by decide +kernel
theorem dX0_nextToCome_32 : decode cX0_nextToCome 32 = .ok (.aload_n 0, 1) := by decide +kernel
theorem dX0_nextToCome_33 : decode cX0_nextToCome 33 = .ok (.getfield 35, 3) := by decide +kernel
theorem dX0_nextToCome_36 : decode cX0_nextToCome 36 = .ok (.iload_n 3, 1) := by decide +kernel
theorem dX0_nextToCome_37 : decode cX0_nextToCome 37 = .ok (.iaload, 1) := by decide +kernel
theorem dX0_nextToCome_38 : decode cX0_nextToCome 38 = .ok (.aload_n 0, 1) := by decide +kernel
theorem dX0_nextToCome_39 : decode cX0_nextToCome 39 = .ok (.getfield 20, 3) := by decide +kernel
theorem dX0_nextToCome_42 : decode cX0_nextToCome 42 = .ok (.iload_n 3, 1) := by decide +kernel
theorem dX0_nextToCome_43 : decode cX0_nextToCome 43 = .ok (.aaload, 1) := by decide +kernel
theorem dX0_nextToCome_44 : decode cX0_nextToCome 44 = .ok (.aload_n 0, 1) := by decide +kernel
theorem dX0_nextToCome_45 : decode cX0_nextToCome 45 = .ok (.getfield 32, 3) := by decide +kernel
theorem dX0_nextToCome_48 : decode cX0_nextToCome 48 = .ok (.iload_n 3, 1) := by decide +kernel
theorem dX0_nextToCome_49 : decode cX0_nextToCome 49 = .ok (.iaload, 1) := by decide +kernel
theorem dX0_nextToCome_50 : decode cX0_nextToCome 50 = .ok (.iaload, 1) := by decide +kernel
theorem dX0_nextToCome_51 : decode cX0_nextToCome 51 = .ok (.iadd, 1) := by decide +kernel
theorem dX0_nextToCome_52 : decode cX0_nextToCome 52 = .ok (.istore 4, 2) := by decide +kernel
theorem dX0_nextToCome_54 : decode cX0_nextToCome 54 = .ok (.iload_n 1, 1) := by decide +kernel
theorem dX0_nextToCome_55 : decode cX0_nextToCome 55 = .ok (.iconst (-1), 1) := by decide +kernel
theorem dX0_nextToCome_56 : decode cX0_nextToCome 56 = .ok (.if_icmp .eq 9, 3) := by decide +kernel
theorem dX0_nextToCome_59 : decode cX0_nextToCome 59 = .ok (.iload 4, 2) := by decide +kernel
theorem dX0_nextToCome_61 : decode cX0_nextToCome 61 = .ok (.iload_n 2, 1) := by decide +kernel
theorem dX0_nextToCome_62 : decode cX0_nextToCome 62 = .ok (.if_icmp .ge 8, 3) := by decide +kernel
theorem dX0_nextToCome_65 : decode cX0_nextToCome 65 = .ok (.iload_n 3, 1) := by decide +kernel
theorem dX0_nextToCome_66 : decode cX0_nextToCome 66 = .ok (.istore_n 1, 1) := by decide +kernel
theorem dX0_nextToCome_67 : decode cX0_nextToCome 67 = .ok (.iload 4, 2) := by decide +kernel
theorem dX0_nextToCome_69 : decode cX0_nextToCome 69 = .ok (.istore_n 2, 1) := by decide +kernel
theorem dX0_nextToCome_70 : decode cX0_nextToCome 70 = .ok (.iinc 3 1, 3) := by decide +kernel
theorem dX0_nextToCome_73 : decode cX0_nextToCome 73 = .ok (.goto (-67), 3) := by decide +kernel
theorem dX0_nextToCome_76 : decode cX0_nextToCome 76 = .ok (.iload_n 1, 1) := by decide +kernel
theorem dX0_nextToCome_77 : decode cX0_nextToCome 77 = .ok (.ireturn, 1) := by decide +kernel
theorem dX0_makeVisit_0 : decode cX0_makeVisit 0 = .ok (.aload_n 0, 1) := by decide +kernel
theorem dX0_makeVisit_1 : decode cX0_makeVisit 1 = .ok (.getfield 32, 3) := by decide +kernel
theorem dX0_makeVisit_4 : decode cX0_makeVisit 4 = .ok (.iload_n 1, 1) := by decide +kernel
theorem dX0_makeVisit_5 : decode cX0_makeVisit 5 = .ok (.iaload, 1) := by decide +kernel
theorem dX0_makeVisit_6 : decode cX0_makeVisit 6 = .ok (.istore_n 2, 1) := by decide +kernel
theorem dX0_makeVisit_7 : decode cX0_makeVisit 7 = .ok (.aload_n 0, 1) := by decide +kernel
theorem dX0_makeVisit_8 : decode cX0_makeVisit 8 = .ok (.getfield 17, 3) := by decide +kernel
theorem dX0_makeVisit_11 : decode cX0_makeVisit 11 = .ok (.iload_n 1, 1) := by decide +kernel
theorem dX0_makeVisit_12 : decode cX0_makeVisit 12 = .ok (.aaload, 1) := by decide +kernel
theorem dX0_makeVisit_13 : decode cX0_makeVisit 13 = .ok (.iload_n 2, 1) := by decide +kernel
theorem dX0_makeVisit_14 : decode cX0_makeVisit 14 = .ok (.iaload, 1) := by decide +kernel
theorem dX0_makeVisit_15 : decode cX0_makeVisit 15 = .ok (.istore_n 3, 1) := by decide +kernel
theorem dX0_makeVisit_16 : decode cX0_makeVisit 16 = .ok (.aload_n 0, 1) := by decide +kernel
theorem dX0_makeVisit_17 : decode cX0_makeVisit 17 = .ok (.getfield 35, 3) := by decide +kernel
theorem dX0_makeVisit_20 : decode cX0_makeVisit 20 = .ok (.iload_n 1, 1) := by decide +kernel
theorem dX0_makeVisit_21 : decode cX0_makeVisit 21 = .ok (.iaload, 1) := by decide +kernel
theorem dX0_makeVisit_22 : decode cX0_makeVisit 22 = .ok (.aload_n 0, 1) := by decide +kernel
theorem dX0_makeVisit_23 : decode cX0_makeVisit 23 = .ok (.getfield 20, 3) := by decide +kernel
theorem dX0_makeVisit_26 : decode cX0_makeVisit 26 = .ok (.iload_n 1, 1) := by decide +kernel
theorem dX0_makeVisit_27 : decode cX0_makeVisit 27 = .ok (.aaload, 1) := by decide +kernel
theorem dX0_makeVisit_28 : decode cX0_makeVisit 28 = .ok (.iload_n 2, 1) := by decide +kernel
theorem dX0_makeVisit_29 : decode cX0_makeVisit 29 = .ok (.iaload, 1) := by decide +kernel
theorem dX0_makeVisit_30 : decode cX0_makeVisit 30 = .ok (.iadd, 1) := by decide +kernel
theorem dX0_makeVisit_31 : decode cX0_makeVisit 31 = .ok (.istore 4, 2) := by decide +kernel
theorem dX0_makeVisit_33 : decode cX0_makeVisit 33 = .ok (.iload 4, 2) := by decide +kernel
theorem dX0_makeVisit_35 : decode cX0_makeVisit 35 = .ok (.aload_n 0, 1) := by decide +kernel
theorem dX0_makeVisit_36 : decode cX0_makeVisit 36 = .ok (.getfield 38, 3) := by decide +kernel
theorem dX0_makeVisit_39 : decode cX0_makeVisit 39 = .ok (.iload_n 3, 1) := by decide +kernel
theorem dX0_makeVisit_40 : decode cX0_makeVisit 40 = .ok (.iaload, 1) := by decide +kernel
theorem dX0_makeVisit_41 : decode cX0_makeVisit 41 = .ok (.invokestatic 105, 3) := by decide +kernel
theorem dX0_makeVisit_44 : decode cX0_makeVisit 44 = .ok (.istore 5, 2) := by decide +kernel
theorem dX0_makeVisit_46 : decode cX0_makeVisit 46 = .ok (.iload 5, 2) := by decide +kernel
theorem dX0_makeVisit_48 : decode cX0_makeVisit 48 = .ok (.aload_n 0, 1) := by decide +kernel
theorem dX0_makeVisit_49 : decode cX0_makeVisit 49 = .ok (.getfield 41, 3) := by decide +kernel
theorem dX0_makeVisit_52 : decode cX0_makeVisit 52 = .ok (.iload_n 1, 1) := by decide +kernel
theorem dX0_makeVisit_53 : decode cX0_makeVisit 53 = .ok (.iload_n 3, 1) := by decide +kernel
theorem dX0_makeVisit_54 : decode cX0_makeVisit 54 = .ok (.invokevirtual 109, 3) := by decide +kernel
theorem dX0_makeVisit_57 : decode cX0_makeVisit 57 = .ok (.iadd, 1) := by decide +kernel
theorem dX0_makeVisit_58 : decode cX0_makeVisit 58 = .ok (.istore 6, 2) := by decide +kernel
theorem dX0_makeVisit_60 : decode cX0_makeVisit 60 = .ok (.aload_n 0, 1) := by decide +kernel
theorem dX0_makeVisit_61 : decode cX0_makeVisit 61 = .ok (.getfield 23, 3) := by decide +kernel
theorem dX0_makeVisit_64 : decode cX0_makeVisit 64 = .ok (.iload_n 1, 1) := by decide +kernel
theorem dX0_makeVisit_65 : decode cX0_makeVisit 65 = .ok (.aaload, 1) := by decide +kernel
theorem dX0_makeVisit_66 : decode cX0_makeVisit 66 = .ok (.iload_n 2, 1) := by decide +kernel
theorem dX0_makeVisit_67 : decode cX0_makeVisit 67 = .ok (.iload 4, 2) := by decide +kernel
theorem dX0_makeVisit_69 : decode cX0_makeVisit 69 = .ok (.iastore, 1) := by decide +kernel
theorem dX0_makeVisit_70 : decode cX0_makeVisit 70 = .ok (.aload_n 0, 1) := by decide +kernel
theorem dX0_makeVisit_71 : decode cX0_makeVisit 71 = .ok (.getfield 26, 3) := by decide +kernel
theorem dX0_makeVisit_74 : decode cX0_makeVisit 74 = .ok (.iload_n 1, 1) := by decide +kernel
theorem dX0_makeVisit_75 : decode cX0_makeVisit 75 = .ok (.aaload, 1) := by decide +kernel
theorem dX0_makeVisit_76 : decode cX0_makeVisit 76 = .ok (.iload_n 2, 1) := by decide +kernel
theorem dX0_makeVisit_77 : decode cX0_makeVisit 77 = .ok (.iload 5, 2) := by decide +kernel
theorem dX0_makeVisit_79 : decode cX0_makeVisit 79 = .ok (.iastore, 1) := by decide +kernel
theorem dX0_makeVisit_80 : decode cX0_makeVisit 80 = .ok (.aload_n 0, 1) := by decide +kernel
theorem dX0_makeVisit_81 : decode cX0_makeVisit 81 = .ok (.getfield 29, 3) := by decide +kernel
theorem dX0_makeVisit_84 : decode cX0_makeVisit 84 = .ok (.iload_n 1, 1) := by decide +kernel
theorem dX0_makeVisit_85 : decode cX0_makeVisit 85 = .ok (.aaload, 1) := by decide +kernel
theorem dX0_makeVisit_86 : decode cX0_makeVisit 86 = .ok (.iload_n 2, 1) := by decide +kernel
theorem dX0_makeVisit_87 : decode cX0_makeVisit 87 = .ok (.iload 6, 2) := by decide +kernel
theorem dX0_makeVisit_89 : decode cX0_makeVisit 89 = .ok (.iastore, 1) := by decide +kernel
theorem dX0_makeVisit_90 : decode cX0_makeVisit 90 = .ok (.aload_n 0, 1) := by decide +kernel
theorem dX0_makeVisit_91 : decode cX0_makeVisit 91 = .ok (.getfield 38, 3) := by decide +kernel
theorem dX0_makeVisit_94 : decode cX0_makeVisit 94 = .ok (.iload_n 3, 1) := by decide +kernel
theorem dX0_makeVisit_95 : decode cX0_makeVisit 95 = .ok (.iload 6, 2) := by decide +kernel
theorem dX0_makeVisit_97 : decode cX0_makeVisit 97 = .ok (.iastore, 1) := by decide +kernel
theorem dX0_makeVisit_98 : decode cX0_makeVisit 98 = .ok (.aload_n 0, 1) := by decide +kernel
theorem dX0_makeVisit_99 : decode cX0_makeVisit 99 = .ok (.getfield 35, 3) := by decide +kernel
theorem dX0_makeVisit_102 : decode cX0_makeVisit 102 = .ok (.iload_n 1, 1) := by decide +kernel
theorem dX0_makeVisit_103 : decode cX0_makeVisit 103 = .ok (.iload 6, 2) := by decide +kernel
theorem dX0_makeVisit_105 : decode cX0_makeVisit 105 = .ok (.iastore, 1) := by decide +kernel
theorem dX0_makeVisit_106 : decode cX0_makeVisit 106 = .ok (.aload_n 0, 1) := by decide +kernel
theorem dX0_makeVisit_107 : decode cX0_makeVisit 107 = .ok (.getfield 32, 3) := by decide +kernel
theorem dX0_makeVisit_110 : decode cX0_makeVisit 110 = .ok (.iload_n 1, 1) := by decide +kernel
theorem dX0_makeVisit_111 : decode cX0_makeVisit 111 = .ok (.iload_n 2, 1) := by decide +kernel
theorem dX0_makeVisit_112 : decode cX0_makeVisit 112 = .ok (.iconst 1, 1) := by decide +kernel
theorem dX0_makeVisit_113 : decode cX0_makeVisit 113 = .ok (.iadd, 1) := by decide +kernel
theorem dX0_makeVisit_114 : decode cX0_makeVisit 114 = .ok (.iastore, 1) := by decide +kernel
theorem dX0_makeVisit_115 : decode cX0_makeVisit 115 = .ok (.return_, 1) := by decide +kernel
theorem dX0_visitAt_0 : decode cX0_visitAt 0 = .ok (.iconst 0, 1) := by decide +kernel
theorem dX0_visitAt_1 : decode cX0_visitAt 1 = .ok (.istore_n 3, 1) := by decide +kernel
theorem dX0_visitAt_2 : decode cX0_visitAt 2 = .ok (.iload_n 3, 1) := by decide +kernel
theorem dX0_visitAt_3 : decode cX0_visitAt 3 = .ok (.aload_n 0, 1) := by decide +kernel
theorem dX0_visitAt_4 : decode cX0_visitAt 4 = .ok (.getfield 9, 3) := by decide +kernel
theorem dX0_visitAt_7 : decode cX0_visitAt 7 = .ok (.iload_n 1, 1) := by decide +kernel
theorem dX0_visitAt_8 : decode cX0_visitAt 8 = .ok (.iaload, 1) := by decide +kernel
theorem dX0_visitAt_9 : decode cX0_visitAt 9 = .ok (.if_icmp .ge 23, 3) := by decide +kernel
theorem dX0_visitAt_12 : decode cX0_visitAt 12 = .ok (.aload_n 0, 1) := by decide +kernel
theorem dX0_visitAt_13 : decode cX0_visitAt 13 = .ok (.getfield 17, 3) := by decide +kernel
theorem dX0_visitAt_16 : decode cX0_visitAt 16 = .ok (.iload_n 1, 1) := by decide +kernel
theorem dX0_visitAt_17 : decode cX0_visitAt 17 = .ok (.aaload, 1) := by decide +kernel
theorem dX0_visitAt_18 : decode cX0_visitAt 18 = .ok (.iload_n 3, 1) := by decide +kernel
theorem dX0_visitAt_19 : decode cX0_visitAt 19 = .ok (.iaload, 1) := by decide +kernel
theorem dX0_visitAt_20 : decode cX0_visitAt 20 = .ok (.iload_n 2, 1) := by decide +kernel
theorem dX0_visitAt_21 : decode cX0_visitAt 21 = .ok (.if_icmp .ne 5, 3) := by decide +kernel
theorem dX0_visitAt_24 : decode cX0_visitAt 24 = .ok (.iload_n 3, 1) := by decide +kernel
theorem dX0_visitAt_25 : decode cX0_visitAt 25 = .ok (.ireturn, 1) := by decide +kernel
theorem dX0_visitAt_26 : decode cX0_visitAt 26 = .ok (.iinc 3 1, 3) := by decide +kernel
theorem dX0_visitAt_29 : decode cX0_visitAt 29 = .ok (.goto (-27), 3) := by decide +kernel
theorem dX0_visitAt_32 : decode cX0_visitAt 32 = .ok (.iconst (-1), 1) := by decide +kernel
theorem dX0_visitAt_33 : decode cX0_visitAt 33 = .ok (.ireturn, 1) := by decide +kernel
theorem dX0_queueingOf_0 : decode cX0_queueingOf 0 = .ok (.iconst 0, 1) := by decide +kernel
theorem dX0_queueingOf_1 : decode cX0_queueingOf 1 = .ok (.istore_n 2, 1) := by decide +kernel
theorem dX0_queueingOf_2 : decode cX0_queueingOf 2 = .ok (.iconst 0, 1) := by decide +kernel
theorem dX0_queueingOf_3 : decode cX0_queueingOf 3 = .ok (.istore_n 3, 1) := by decide +kernel
theorem dX0_queueingOf_4 : decode cX0_queueingOf 4 = .ok (.iload_n 3, 1) := by decide +kernel
theorem dX0_queueingOf_5 : decode cX0_queueingOf 5 = .ok (.aload_n 0, 1) := by decide +kernel
theorem dX0_queueingOf_6 : decode cX0_queueingOf 6 = .ok (.getfield 9, 3) := by decide +kernel
theorem dX0_queueingOf_9 : decode cX0_queueingOf 9 = .ok (.iload_n 1, 1) := by decide +kernel
theorem dX0_queueingOf_10 : decode cX0_queueingOf 10 = .ok (.iaload, 1) := by decide +kernel
theorem dX0_queueingOf_11 : decode cX0_queueingOf 11 = .ok (.if_icmp .ge 29, 3) := by decide +kernel
theorem dX0_queueingOf_14 : decode cX0_queueingOf 14 = .ok (.iload_n 2, 1) := by decide +kernel
theorem dX0_queueingOf_15 : decode cX0_queueingOf 15 = .ok (.aload_n 0, 1) := by decide +kernel
theorem dX0_queueingOf_16 : decode cX0_queueingOf 16 = .ok (.getfield 26, 3) := by decide +kernel
theorem dX0_queueingOf_19 : decode cX0_queueingOf 19 = .ok (.iload_n 1, 1) := by decide +kernel
theorem dX0_queueingOf_20 : decode cX0_queueingOf 20 = .ok (.aaload, 1) := by decide +kernel
theorem dX0_queueingOf_21 : decode cX0_queueingOf 21 = .ok (.iload_n 3, 1) := by decide +kernel
theorem dX0_queueingOf_22 : decode cX0_queueingOf 22 = .ok (.iaload, 1) := by decide +kernel
theorem dX0_queueingOf_23 : decode cX0_queueingOf 23 = .ok (.aload_n 0, 1) := by decide +kernel
theorem dX0_queueingOf_24 : decode cX0_queueingOf 24 = .ok (.getfield 23, 3) := by decide +kernel
theorem dX0_queueingOf_27 : decode cX0_queueingOf 27 = .ok (.iload_n 1, 1) := by decide +kernel
theorem dX0_queueingOf_28 : decode cX0_queueingOf 28 = .ok (.aaload, 1) := by decide +kernel
theorem dX0_queueingOf_29 : decode cX0_queueingOf 29 = .ok (.iload_n 3, 1) := by decide +kernel
theorem dX0_queueingOf_30 : decode cX0_queueingOf 30 = .ok (.iaload, 1) := by decide +kernel
theorem dX0_queueingOf_31 : decode cX0_queueingOf 31 = .ok (.isub, 1) := by decide +kernel
theorem dX0_queueingOf_32 : decode cX0_queueingOf 32 = .ok (.iadd, 1) := by decide +kernel
theorem dX0_queueingOf_33 : decode cX0_queueingOf 33 = .ok (.istore_n 2, 1) := by decide +kernel
theorem dX0_queueingOf_34 : decode cX0_queueingOf 34 = .ok (.iinc 3 1, 3) := by decide +kernel
theorem dX0_queueingOf_37 : decode cX0_queueingOf 37 = .ok (.goto (-33), 3) := by decide +kernel
theorem dX0_queueingOf_40 : decode cX0_queueingOf 40 = .ok (.iload_n 2, 1) := by decide +kernel
theorem dX0_queueingOf_41 : decode cX0_queueingOf 41 = .ok (.ireturn, 1) := by decide +kernel
theorem dX0_walkingOf_0 : decode cX0_walkingOf 0 = .ok (.iconst 0, 1) := by decide +kernel
theorem dX0_walkingOf_1 : decode cX0_walkingOf 1 = .ok (.istore_n 2, 1) := by decide +kernel
theorem dX0_walkingOf_2 : decode cX0_walkingOf 2 = .ok (.iconst 0, 1) := by decide +kernel
theorem dX0_walkingOf_3 : decode cX0_walkingOf 3 = .ok (.istore_n 3, 1) := by decide +kernel
theorem dX0_walkingOf_4 : decode cX0_walkingOf 4 = .ok (.iload_n 3, 1) := by decide +kernel
theorem dX0_walkingOf_5 : decode cX0_walkingOf 5 = .ok (.aload_n 0, 1) := by decide +kernel
theorem dX0_walkingOf_6 : decode cX0_walkingOf 6 = .ok (.getfield 9, 3) := by decide +kernel
theorem dX0_walkingOf_9 : decode cX0_walkingOf 9 = .ok (.iload_n 1, 1) := by decide +kernel
theorem dX0_walkingOf_10 : decode cX0_walkingOf 10 = .ok (.iaload, 1) := by decide +kernel
theorem dX0_walkingOf_11 : decode cX0_walkingOf 11 = .ok (.if_icmp .ge 20, 3) := by decide +kernel
theorem dX0_walkingOf_14 : decode cX0_walkingOf 14 = .ok (.iload_n 2, 1) := by decide +kernel
theorem dX0_walkingOf_15 : decode cX0_walkingOf 15 = .ok (.aload_n 0, 1) := by decide +kernel
theorem dX0_walkingOf_16 : decode cX0_walkingOf 16 = .ok (.getfield 20, 3) := by decide +kernel
theorem dX0_walkingOf_19 : decode cX0_walkingOf 19 = .ok (.iload_n 1, 1) := by decide +kernel
theorem dX0_walkingOf_20 : decode cX0_walkingOf 20 = .ok (.aaload, 1) := by decide +kernel
theorem dX0_walkingOf_21 : decode cX0_walkingOf 21 = .ok (.iload_n 3, 1) := by decide +kernel
theorem dX0_walkingOf_22 : decode cX0_walkingOf 22 = .ok (.iaload, 1) := by decide +kernel
theorem dX0_walkingOf_23 : decode cX0_walkingOf 23 = .ok (.iadd, 1) := by decide +kernel
theorem dX0_walkingOf_24 : decode cX0_walkingOf 24 = .ok (.istore_n 2, 1) := by decide +kernel
theorem dX0_walkingOf_25 : decode cX0_walkingOf 25 = .ok (.iinc 3 1, 3) := by decide +kernel
theorem dX0_walkingOf_28 : decode cX0_walkingOf 28 = .ok (.goto (-24), 3) := by decide +kernel
theorem dX0_walkingOf_31 : decode cX0_walkingOf 31 = .ok (.iload_n 2, 1) := by decide +kernel
theorem dX0_walkingOf_32 : decode cX0_walkingOf 32 = .ok (.ireturn, 1) := by decide +kernel
theorem dX0_hintsOf_0 : decode cX0_hintsOf 0 = .ok (.iconst 0, 1) := by decide +kernel
theorem dX0_hintsOf_1 : decode cX0_hintsOf 1 = .ok (.istore_n 2, 1) := by decide +kernel
theorem dX0_hintsOf_2 : decode cX0_hintsOf 2 = .ok (.iconst 0, 1) := by decide +kernel
theorem dX0_hintsOf_3 : decode cX0_hintsOf 3 = .ok (.istore_n 3, 1) := by decide +kernel
theorem dX0_hintsOf_4 : decode cX0_hintsOf 4 = .ok (.iload_n 3, 1) := by decide +kernel
theorem dX0_hintsOf_5 : decode cX0_hintsOf 5 = .ok (.aload_n 0, 1) := by decide +kernel
theorem dX0_hintsOf_6 : decode cX0_hintsOf 6 = .ok (.getfield 9, 3) := by decide +kernel
theorem dX0_hintsOf_9 : decode cX0_hintsOf 9 = .ok (.iload_n 1, 1) := by decide +kernel
theorem dX0_hintsOf_10 : decode cX0_hintsOf 10 = .ok (.iaload, 1) := by decide +kernel
theorem dX0_hintsOf_11 : decode cX0_hintsOf 11 = .ok (.if_icmp .ge 35, 3) := by decide +kernel
theorem dX0_hintsOf_14 : decode cX0_hintsOf 14 = .ok (.aload_n 0, 1) := by decide +kernel
theorem dX0_hintsOf_15 : decode cX0_hintsOf 15 = .ok (.getfield 41, 3) := by decide +kernel
theorem dX0_hintsOf_18 : decode cX0_hintsOf 18 = .ok (.getfield 59, 3) := by decide +kernel
theorem dX0_hintsOf_21 : decode cX0_hintsOf 21 = .ok (.iload_n 1, 1) := by decide +kernel
theorem dX0_hintsOf_22 : decode cX0_hintsOf 22 = .ok (.aaload, 1) := by decide +kernel
theorem dX0_hintsOf_23 : decode cX0_hintsOf 23 = .ok (.aload_n 0, 1) := by decide +kernel
theorem dX0_hintsOf_24 : decode cX0_hintsOf 24 = .ok (.getfield 17, 3) := by decide +kernel
theorem dX0_hintsOf_27 : decode cX0_hintsOf 27 = .ok (.iload_n 1, 1) := by decide +kernel
theorem dX0_hintsOf_28 : decode cX0_hintsOf 28 = .ok (.aaload, 1) := by decide +kernel
theorem dX0_hintsOf_29 : decode cX0_hintsOf 29 = .ok (.iload_n 3, 1) := by decide +kernel
theorem dX0_hintsOf_30 : decode cX0_hintsOf 30 = .ok (.iaload, 1) := by decide +kernel
theorem dX0_hintsOf_31 : decode cX0_hintsOf 31 = .ok (.invokevirtual 112, 3) := by decide +kernel
theorem dX0_hintsOf_34 : decode cX0_hintsOf 34 = .ok (.ifCond .eq 6, 3) := by decide +kernel
theorem dX0_hintsOf_37 : decode cX0_hintsOf 37 = .ok (.iinc 2 1, 3) := by decide +kernel
theorem dX0_hintsOf_40 : decode cX0_hintsOf 40 = .ok (.iinc 3 1, 3) := by decide +kernel
theorem dX0_hintsOf_43 : decode cX0_hintsOf 43 = .ok (.goto (-39), 3) := by decide +kernel
theorem dX0_hintsOf_46 : decode cX0_hintsOf 46 = .ok (.iload_n 2, 1) := by decide +kernel
theorem dX0_hintsOf_47 : decode cX0_hintsOf 47 = .ok (.ireturn, 1) := by decide +kernel
theorem dX0_pointsOf_0 : decode cX0_pointsOf 0 = .ok (.aload_n 0, 1) := by decide +kernel
theorem dX0_pointsOf_1 : decode cX0_pointsOf 1 = .ok (.getfield 41, 3) := by decide +kernel
theorem dX0_pointsOf_4 : decode cX0_pointsOf 4 = .ok (.getfield 102, 3) := by decide +kernel
theorem dX0_pointsOf_7 : decode cX0_pointsOf 7 = .ok (.iconst 1, 1) := by decide +kernel
theorem dX0_pointsOf_8 : decode cX0_pointsOf 8 = .ok (.iaload, 1) := by decide +kernel
theorem dX0_pointsOf_9 : decode cX0_pointsOf 9 = .ok (.aload_n 0, 1) := by decide +kernel
theorem dX0_pointsOf_10 : decode cX0_pointsOf 10 = .ok (.getfield 9, 3) := by decide +kernel
theorem dX0_pointsOf_13 : decode cX0_pointsOf 13 = .ok (.iload_n 1, 1) := by decide +kernel
theorem dX0_pointsOf_14 : decode cX0_pointsOf 14 = .ok (.iaload, 1) := by decide +kernel
theorem dX0_pointsOf_15 : decode cX0_pointsOf 15 = .ok (.imul, 1) := by decide +kernel
theorem dX0_pointsOf_16 : decode cX0_pointsOf 16 = .ok (.aload_n 0, 1) := by decide +kernel
theorem dX0_pointsOf_17 : decode cX0_pointsOf 17 = .ok (.getfield 41, 3) := by decide +kernel
theorem dX0_pointsOf_20 : decode cX0_pointsOf 20 = .ok (.getfield 102, 3) := by decide +kernel
theorem dX0_pointsOf_23 : decode cX0_pointsOf 23 = .ok (.iconst 0, 1) := by decide +kernel
theorem dX0_pointsOf_24 : decode cX0_pointsOf 24 = .ok (.iaload, 1) := by decide +kernel
theorem dX0_pointsOf_25 : decode cX0_pointsOf 25 = .ok (.aload_n 0, 1) := by decide +kernel
theorem dX0_pointsOf_26 : decode cX0_pointsOf 26 = .ok (.iload_n 1, 1) := by decide +kernel
theorem dX0_pointsOf_27 : decode cX0_pointsOf 27 = .ok (.invokevirtual 115, 3) := by decide +kernel
theorem dX0_pointsOf_30 : decode cX0_pointsOf 30 = .ok (.imul, 1) := by decide +kernel
theorem dX0_pointsOf_31 : decode cX0_pointsOf 31 = .ok (.isub, 1) := by decide +kernel
theorem dX0_pointsOf_32 : decode cX0_pointsOf 32 = .ok (.aload_n 0, 1) := by decide +kernel
theorem dX0_pointsOf_33 : decode cX0_pointsOf 33 = .ok (.getfield 35, 3) := by decide +kernel
theorem dX0_pointsOf_36 : decode cX0_pointsOf 36 = .ok (.iload_n 1, 1) := by decide +kernel
theorem dX0_pointsOf_37 : decode cX0_pointsOf 37 = .ok (.iaload, 1) := by decide +kernel
theorem dX0_pointsOf_38 : decode cX0_pointsOf 38 = .ok (.isub, 1) := by decide +kernel
theorem dX0_pointsOf_39 : decode cX0_pointsOf 39 = .ok (.ireturn, 1) := by decide +kernel
theorem dX0_rankOf_0 : decode cX0_rankOf 0 = .ok (.iconst 0, 1) := by decide +kernel
theorem dX0_rankOf_1 : decode cX0_rankOf 1 = .ok (.istore_n 2, 1) := by decide +kernel
theorem dX0_rankOf_2 : decode cX0_rankOf 2 = .ok (.iconst 0, 1) := by decide +kernel
theorem dX0_rankOf_3 : decode cX0_rankOf 3 = .ok (.istore_n 3, 1) := by decide +kernel
theorem dX0_rankOf_4 : decode cX0_rankOf 4 = .ok (.iload_n 3, 1) := by decide +kernel
theorem dX0_rankOf_5 : decode cX0_rankOf 5 = .ok (.aload_n 0, 1) := by decide +kernel
theorem dX0_rankOf_6 : decode cX0_rankOf 6 = .ok (.getfield 45, 3) := by decide +kernel
theorem dX0_rankOf_9 : decode cX0_rankOf 9 = .ok (.if_icmp .ge 21, 3) := by decide +kernel
theorem dX0_rankOf_12 : decode cX0_rankOf 12 = .ok (.aload_n 0, 1) := by decide +kernel
theorem dX0_rankOf_13 : decode cX0_rankOf 13 = .ok (.iload_n 3, 1) := by decide +kernel
theorem dX0_rankOf_14 : decode cX0_rankOf 14 = .ok (.iload_n 1, 1) := by decide +kernel
theorem dX0_rankOf_15 : decode cX0_rankOf 15 = .ok (.invokevirtual 118, 3) := by decide +kernel
theorem dX0_rankOf_18 : decode cX0_rankOf 18 = .ok (.ifCond .eq 6, 3) := by decide +kernel
theorem dX0_rankOf_21 : decode cX0_rankOf 21 = .ok (.iinc 2 1, 3) := by decide +kernel
theorem dX0_rankOf_24 : decode cX0_rankOf 24 = .ok (.iinc 3 1, 3) := by decide +kernel
theorem dX0_rankOf_27 : decode cX0_rankOf 27 = .ok (.goto (-23), 3) := by decide +kernel
theorem dX0_rankOf_30 : decode cX0_rankOf 30 = .ok (.iload_n 2, 1) := by decide +kernel
theorem dX0_rankOf_31 : decode cX0_rankOf 31 = .ok (.ireturn, 1) := by decide +kernel
theorem dX0_isAhead_0 : decode cX0_isAhead 0 = .ok (.aload_n 0, 1) := by decide +kernel
theorem dX0_isAhead_1 : decode cX0_isAhead 1 = .ok (.iload_n 1, 1) := by decide +kernel
theorem dX0_isAhead_2 : decode cX0_isAhead 2 = .ok (.invokevirtual 122, 3) := by decide +kernel
theorem dX0_isAhead_5 : decode cX0_isAhead 5 = .ok (.istore_n 3, 1) := by decide +kernel
theorem dX0_isAhead_6 : decode cX0_isAhead 6 = .ok (.aload_n 0, 1) := by decide +kernel
theorem dX0_isAhead_7 : decode cX0_isAhead 7 = .ok (.iload_n 2, 1) := by decide +kernel
theorem dX0_isAhead_8 : decode cX0_isAhead 8 = .ok (.invokevirtual 122, 3) := by decide +kernel
theorem dX0_isAhead_11 : decode cX0_isAhead 11 = .ok (.istore 4, 2) := by decide +kernel
theorem dX0_isAhead_13 : decode cX0_isAhead 13 = .ok (.iload_n 3, 1) := by decide +kernel
theorem dX0_isAhead_14 : decode cX0_isAhead 14 = .ok (.iload 4, 2) := by decide +kernel
theorem dX0_isAhead_16 : decode cX0_isAhead 16 = .ok (.if_icmp .eq 15, 3) := by decide +kernel
theorem dX0_isAhead_19 : decode cX0_isAhead 19 = .ok (.iload_n 3, 1) := by decide +kernel
theorem dX0_isAhead_20 : decode cX0_isAhead 20 = .ok (.iload 4, 2) := by decide +kernel
theorem dX0_isAhead_22 : decode cX0_isAhead 22 = .ok (.if_icmp .le 7, 3) := by decide +kernel
theorem dX0_isAhead_25 : decode cX0_isAhead 25 = .ok (.iconst 1, 1) := by decide +kernel
theorem dX0_isAhead_26 : decode cX0_isAhead 26 = .ok (.goto 4, 3) := by decide +kernel
theorem dX0_isAhead_29 : decode cX0_isAhead 29 = .ok (.iconst 0, 1) := by decide +kernel
theorem dX0_isAhead_30 : decode cX0_isAhead 30 = .ok (.ireturn, 1) := by decide +kernel
theorem dX0_isAhead_31 : decode cX0_isAhead 31 = .ok (.aload_n 0, 1) := by decide +kernel
theorem dX0_isAhead_32 : decode cX0_isAhead 32 = .ok (.getfield 35, 3) := by decide +kernel
theorem dX0_isAhead_35 : decode cX0_isAhead 35 = .ok (.iload_n 1, 1) := by decide +kernel
theorem dX0_isAhead_36 : decode cX0_isAhead 36 = .ok (.iaload, 1) := by decide +kernel
theorem dX0_isAhead_37 : decode cX0_isAhead 37 = .ok (.aload_n 0, 1) := by decide +kernel
theorem dX0_isAhead_38 : decode cX0_isAhead 38 = .ok (.getfield 35, 3) := by decide +kernel
theorem dX0_isAhead_41 : decode cX0_isAhead 41 = .ok (.iload_n 2, 1) := by decide +kernel
theorem dX0_isAhead_42 : decode cX0_isAhead 42 = .ok (.iaload, 1) := by decide +kernel
theorem dX0_isAhead_43 : decode cX0_isAhead 43 = .ok (.if_icmp .eq 24, 3) := by decide +kernel
theorem dX0_isAhead_46 : decode cX0_isAhead 46 = .ok (.aload_n 0, 1) := by decide +kernel
theorem dX0_isAhead_47 : decode cX0_isAhead 47 = .ok (.getfield 35, 3) := by decide +kernel
theorem dX0_isAhead_50 : decode cX0_isAhead 50 = .ok (.iload_n 1, 1) := by decide +kernel
theorem dX0_isAhead_51 : decode cX0_isAhead 51 = .ok (.iaload, 1) := by decide +kernel
theorem dX0_isAhead_52 : decode cX0_isAhead 52 = .ok (.aload_n 0, 1) := by decide +kernel
theorem dX0_isAhead_53 : decode cX0_isAhead 53 = .ok (.getfield 35, 3) := by decide +kernel
theorem dX0_isAhead_56 : decode cX0_isAhead 56 = .ok (.iload_n 2, 1) := by decide +kernel
theorem dX0_isAhead_57 : decode cX0_isAhead 57 = .ok (.iaload, 1) := by decide +kernel
theorem dX0_isAhead_58 : decode cX0_isAhead 58 = .ok (.if_icmp .ge 7, 3) := by decide +kernel
theorem dX0_isAhead_61 : decode cX0_isAhead 61 = .ok (.iconst 1, 1) := by decide +kernel
theorem dX0_isAhead_62 : decode cX0_isAhead 62 = .ok (.goto 4, 3) := by decide +kernel
theorem dX0_isAhead_65 : decode cX0_isAhead 65 = .ok (.iconst 0, 1) := by decide +kernel
theorem dX0_isAhead_66 : decode cX0_isAhead 66 = .ok (.ireturn, 1) := by decide +kernel
theorem dX0_isAhead_67 : decode cX0_isAhead 67 = .ok (.iload_n 1, 1) := by decide +kernel
theorem dX0_isAhead_68 : decode cX0_isAhead 68 = .ok (.iload_n 2, 1) := by decide +kernel
theorem dX0_isAhead_69 : decode cX0_isAhead 69 = .ok (.if_icmp .ge 7, 3) := by decide +kernel
theorem dX0_isAhead_72 : decode cX0_isAhead 72 = .ok (.iconst 1, 1) := by decide +kernel
theorem dX0_isAhead_73 : decode cX0_isAhead 73 = .ok (.goto 4, 3) := by decide +kernel
theorem dX0_isAhead_76 : decode cX0_isAhead 76 = .ok (.iconst 0, 1) := by decide +kernel
theorem dX0_isAhead_77 : decode cX0_isAhead 77 = .ok (.ireturn, 1) := by decide +kernel
theorem dX0_placeWithTeam_0 : decode cX0_placeWithTeam 0 = .ok (.iconst 0, 1) := by decide +kernel
theorem dX0_placeWithTeam_1 : decode cX0_placeWithTeam 1 = .ok (.istore_n 3, 1) := by decide +kernel
theorem dX0_placeWithTeam_2 : decode cX0_placeWithTeam 2 = .ok (.iload_n 3, 1) := by decide +kernel
theorem dX0_placeWithTeam_3 : decode cX0_placeWithTeam 3 = .ok (.aload_n 0, 1) := by decide +kernel
theorem dX0_placeWithTeam_4 : decode cX0_placeWithTeam 4 = .ok (.getfield 9, 3) := by decide +kernel
theorem dX0_placeWithTeam_7 : decode cX0_placeWithTeam 7 = .ok (.iload_n 1, 1) := by decide +kernel
theorem dX0_placeWithTeam_8 : decode cX0_placeWithTeam 8 = .ok (.iaload, 1) := by decide +kernel
theorem dX0_placeWithTeam_9 : decode cX0_placeWithTeam 9 = .ok (.if_icmp .ge 28, 3) := by decide +kernel
theorem dX0_placeWithTeam_12 : decode cX0_placeWithTeam 12 = .ok (.aload_n 0, 1) := by decide +kernel
theorem dX0_placeWithTeam_13 : decode cX0_placeWithTeam 13 = .ok (.iload_n 1, 1) := by decide +kernel
theorem dX0_placeWithTeam_14 : decode cX0_placeWithTeam 14 = .ok (.iload_n 3, 1) := by decide +kernel
theorem dX0_placeWithTeam_15 : decode cX0_placeWithTeam 15 = .ok (.iload_n 2, 1) := by decide +kernel
theorem dX0_placeWithTeam_16 : decode cX0_placeWithTeam 16 = .ok (.invokevirtual 125, 3) := by decide +kernel
theorem dX0_placeWithTeam_19 : decode cX0_placeWithTeam 19 = .ok (.ifCond .eq 12, 3) := by decide +kernel
theorem dX0_placeWithTeam_22 : decode cX0_placeWithTeam 22 = .ok (.aload_n 0, 1) := by decide +kernel
theorem dX0_placeWithTeam_23 : decode cX0_placeWithTeam 23 = .ok (.getfield 17, 3) := by decide +kernel
theorem dX0_placeWithTeam_26 : decode cX0_placeWithTeam 26 = .ok (.iload_n 1, 1) := by decide +kernel
theorem dX0_placeWithTeam_27 : decode cX0_placeWithTeam 27 = .ok (.aaload, 1) := by decide +kernel
theorem dX0_placeWithTeam_28 : decode cX0_placeWithTeam 28 = .ok (.iload_n 3, 1) := by decide +kernel
theorem dX0_placeWithTeam_29 : decode cX0_placeWithTeam 29 = .ok (.iaload, 1) := by decide +kernel
theorem dX0_placeWithTeam_30 : decode cX0_placeWithTeam 30 = .ok (.ireturn, 1) := by decide +kernel
theorem dX0_placeWithTeam_31 : decode cX0_placeWithTeam 31 = .ok (.iinc 3 1, 3) := by decide +kernel
theorem dX0_placeWithTeam_34 : decode cX0_placeWithTeam 34 = .ok (.goto (-32), 3) := by decide +kernel
theorem dX0_placeWithTeam_37 : decode cX0_placeWithTeam 37 = .ok (.ldc 129, 2) := by decide +kernel
theorem dX0_placeWithTeam_39 : decode cX0_placeWithTeam 39 = .ok (.ireturn, 1) := by decide +kernel
theorem dX0_isThere_0 : decode cX0_isThere 0 = .ok (.aload_n 0, 1) := by decide +kernel
theorem dX0_isThere_1 : decode cX0_isThere 1 = .ok (.getfield 23, 3) := by decide +kernel
theorem dX0_isThere_4 : decode cX0_isThere 4 = .ok (.iload_n 1, 1) := by decide +kernel
theorem dX0_isThere_5 : decode cX0_isThere 5 = .ok (.aaload, 1) := by decide +kernel
theorem dX0_isThere_6 : decode cX0_isThere 6 = .ok (.iload_n 2, 1) := by decide +kernel
theorem dX0_isThere_7 : decode cX0_isThere 7 = .ok (.iaload, 1) := by decide +kernel
theorem dX0_isThere_8 : decode cX0_isThere 8 = .ok (.iload_n 3, 1) := by decide +kernel
theorem dX0_isThere_9 : decode cX0_isThere 9 = .ok (.if_icmp .gt 19, 3) := by decide +kernel
theorem dX0_isThere_12 : decode cX0_isThere 12 = .ok (.iload_n 3, 1) := by decide +kernel
theorem dX0_isThere_13 : decode cX0_isThere 13 = .ok (.aload_n 0, 1) := by decide +kernel
theorem dX0_isThere_14 : decode cX0_isThere 14 = .ok (.getfield 29, 3) := by decide +kernel
theorem dX0_isThere_17 : decode cX0_isThere 17 = .ok (.iload_n 1, 1) := by decide +kernel
theorem dX0_isThere_18 : decode cX0_isThere 18 = .ok (.aaload, 1) := by decide +kernel
theorem dX0_isThere_19 : decode cX0_isThere 19 = .ok (.iload_n 2, 1) := by decide +kernel
theorem dX0_isThere_20 : decode cX0_isThere 20 = .ok (.iaload, 1) := by decide +kernel
theorem dX0_isThere_21 : decode cX0_isThere 21 = .ok (.if_icmp .ge 7, 3) := by decide +kernel
theorem dX0_isThere_24 : decode cX0_isThere 24 = .ok (.iconst 1, 1) := by decide +kernel
theorem dX0_isThere_25 : decode cX0_isThere 25 = .ok (.goto 4, 3) := by decide +kernel
theorem dX0_isThere_28 : decode cX0_isThere 28 = .ok (.iconst 0, 1) := by decide +kernel
theorem dX0_isThere_29 : decode cX0_isThere 29 = .ok (.ireturn, 1) := by decide +kernel
theorem dX0_placeToldTo_0 : decode cX0_placeToldTo 0 = .ok (.iload_n 2, 1) := by decide +kernel
theorem dX0_placeToldTo_1 : decode cX0_placeToldTo 1 = .ok (.aload_n 0, 1) := by decide +kernel
theorem dX0_placeToldTo_2 : decode cX0_placeToldTo 2 = .ok (.getfield 41, 3) := by decide +kernel
theorem dX0_placeToldTo_5 : decode cX0_placeToldTo 5 = .ok (.getfield 59, 3) := by decide +kernel
theorem dX0_placeToldTo_8 : decode cX0_placeToldTo 8 = .ok (.iload_n 1, 1) := by decide +kernel
theorem dX0_placeToldTo_9 : decode cX0_placeToldTo 9 = .ok (.aaload, 1) := by decide +kernel
theorem dX0_placeToldTo_10 : decode cX0_placeToldTo 10 = .ok (.getfield 65, 3) := by decide +kernel
theorem dX0_placeToldTo_13 : decode cX0_placeToldTo 13 = .ok (.if_icmp .ge 6, 3) := by decide +kernel
theorem dX0_placeToldTo_16 : decode cX0_placeToldTo 16 = .ok (.ldc 129, 2) := by decide +kernel
theorem dX0_placeToldTo_18 : decode cX0_placeToldTo 18 = .ok (.ireturn, 1) := by decide +kernel
theorem dX0_placeToldTo_19 : decode cX0_placeToldTo 19 = .ok (.iconst 0, 1) := by decide +kernel
theorem dX0_placeToldTo_20 : decode cX0_placeToldTo 20 = .ok (.istore_n 3, 1) := by decide +kernel
theorem dX0_placeToldTo_21 : decode cX0_placeToldTo 21 = .ok (.iload_n 3, 1) := by decide +kernel
theorem dX0_placeToldTo_22 : decode cX0_placeToldTo 22 = .ok (.aload_n 0, 1) := by decide +kernel
theorem dX0_placeToldTo_23 : decode cX0_placeToldTo 23 = .ok (.getfield 9, 3) := by decide +kernel
theorem dX0_placeToldTo_26 : decode cX0_placeToldTo 26 = .ok (.iload_n 1, 1) := by decide +kernel
theorem dX0_placeToldTo_27 : decode cX0_placeToldTo 27 = .ok (.iaload, 1) := by decide +kernel
theorem dX0_placeToldTo_28 : decode cX0_placeToldTo 28 = .ok (.if_icmp .ge 30, 3) := by decide +kernel
theorem dX0_placeToldTo_31 : decode cX0_placeToldTo 31 = .ok (.iload_n 2, 1) := by decide +kernel
theorem dX0_placeToldTo_32 : decode cX0_placeToldTo 32 = .ok (.aload_n 0, 1) := by decide +kernel
theorem dX0_placeToldTo_33 : decode cX0_placeToldTo 33 = .ok (.getfield 29, 3) := by decide +kernel
theorem dX0_placeToldTo_36 : decode cX0_placeToldTo 36 = .ok (.iload_n 1, 1) := by decide +kernel
theorem dX0_placeToldTo_37 : decode cX0_placeToldTo 37 = .ok (.aaload, 1) := by decide +kernel
theorem dX0_placeToldTo_38 : decode cX0_placeToldTo 38 = .ok (.iload_n 3, 1) := by decide +kernel
theorem dX0_placeToldTo_39 : decode cX0_placeToldTo 39 = .ok (.iaload, 1) := by decide +kernel
theorem dX0_placeToldTo_40 : decode cX0_placeToldTo 40 = .ok (.if_icmp .ge 12, 3) := by decide +kernel
theorem dX0_placeToldTo_43 : decode cX0_placeToldTo 43 = .ok (.aload_n 0, 1) := by decide +kernel
theorem dX0_placeToldTo_44 : decode cX0_placeToldTo 44 = .ok (.getfield 17, 3) := by decide +kernel
theorem dX0_placeToldTo_47 : decode cX0_placeToldTo 47 = .ok (.iload_n 1, 1) := by decide +kernel
theorem dX0_placeToldTo_48 : decode cX0_placeToldTo 48 = .ok (.aaload, 1) := by decide +kernel
theorem dX0_placeToldTo_49 : decode cX0_placeToldTo 49 = .ok (.iload_n 3, 1) := by decide +kernel
theorem dX0_placeToldTo_50 : decode cX0_placeToldTo 50 = .ok (.iaload, 1) := by decide +kernel
theorem dX0_placeToldTo_51 : decode cX0_placeToldTo 51 = .ok (.ireturn, 1) := by decide +kernel
theorem dX0_placeToldTo_52 : decode cX0_placeToldTo 52 = .ok (.iinc 3 1, 3) := by decide +kernel
theorem dX0_placeToldTo_55 : decode cX0_placeToldTo 55 = .ok (.goto (-34), 3) := by decide +kernel
theorem dX0_placeToldTo_58 : decode cX0_placeToldTo 58 = .ok (.ldc 129, 2) := by decide +kernel
theorem dX0_placeToldTo_60 : decode cX0_placeToldTo 60 = .ok (.ireturn, 1) := by decide +kernel
theorem dX0_meetAt_0 : decode cX0_meetAt 0 = .ok (.aload_n 0, 1) := by decide +kernel
theorem dX0_meetAt_1 : decode cX0_meetAt 1 = .ok (.iload_n 1, 1) := by decide +kernel
theorem dX0_meetAt_2 : decode cX0_meetAt 2 = .ok (.iload_n 3, 1) := by decide +kernel
theorem dX0_meetAt_3 : decode cX0_meetAt 3 = .ok (.invokevirtual 130, 3) := by decide +kernel
theorem dX0_meetAt_6 : decode cX0_meetAt 6 = .ok (.istore 4, 2) := by decide +kernel
theorem dX0_meetAt_8 : decode cX0_meetAt 8 = .ok (.aload_n 0, 1) := by decide +kernel
theorem dX0_meetAt_9 : decode cX0_meetAt 9 = .ok (.iload_n 2, 1) := by decide +kernel
theorem dX0_meetAt_10 : decode cX0_meetAt 10 = .ok (.iload_n 3, 1) := by decide +kernel
theorem dX0_meetAt_11 : decode cX0_meetAt 11 = .ok (.invokevirtual 130, 3) := by decide +kernel
theorem dX0_meetAt_14 : decode cX0_meetAt 14 = .ok (.istore 5, 2) := by decide +kernel
theorem dX0_meetAt_16 : decode cX0_meetAt 16 = .ok (.iload 4, 2) := by decide +kernel
theorem dX0_meetAt_18 : decode cX0_meetAt 18 = .ok (.iconst (-1), 1) := by decide +kernel
theorem dX0_meetAt_19 : decode cX0_meetAt 19 = .ok (.if_icmp .eq 9, 3) := by decide +kernel
theorem dX0_meetAt_22 : decode cX0_meetAt 22 = .ok (.iload 5, 2) := by decide +kernel
theorem dX0_meetAt_24 : decode cX0_meetAt 24 = .ok (.iconst (-1), 1) := by decide +kernel
theorem dX0_meetAt_25 : decode cX0_meetAt 25 = .ok (.if_icmp .ne 5, 3) := by decide +kernel
theorem dX0_meetAt_28 : decode cX0_meetAt 28 = .ok (.iconst 0, 1) := by decide +kernel
theorem dX0_meetAt_29 : decode cX0_meetAt 29 = .ok (.ireturn, 1) := by decide +kernel
theorem dX0_meetAt_30 : decode cX0_meetAt 30 = .ok (.aload_n 0, 1) := by decide +kernel
theorem dX0_meetAt_31 : decode cX0_meetAt 31 = .ok (.getfield 23, 3) := by decide +kernel
theorem dX0_meetAt_34 : decode cX0_meetAt 34 = .ok (.iload_n 1, 1) := by decide +kernel
theorem dX0_meetAt_35 : decode cX0_meetAt 35 = .ok (.aaload, 1) := by decide +kernel
theorem dX0_meetAt_36 : decode cX0_meetAt 36 = .ok (.iload 4, 2) := by decide +kernel
theorem dX0_meetAt_38 : decode cX0_meetAt 38 = .ok (.iaload, 1) := by decide +kernel
theorem dX0_meetAt_39 : decode cX0_meetAt 39 = .ok (.aload_n 0, 1) := by decide +kernel
theorem dX0_meetAt_40 : decode cX0_meetAt 40 = .ok (.getfield 29, 3) := by decide +kernel
theorem dX0_meetAt_43 : decode cX0_meetAt 43 = .ok (.iload_n 2, 1) := by decide +kernel
theorem dX0_meetAt_44 : decode cX0_meetAt 44 = .ok (.aaload, 1) := by decide +kernel
theorem dX0_meetAt_45 : decode cX0_meetAt 45 = .ok (.iload 5, 2) := by decide +kernel
theorem dX0_meetAt_47 : decode cX0_meetAt 47 = .ok (.iaload, 1) := by decide +kernel
theorem dX0_meetAt_48 : decode cX0_meetAt 48 = .ok (.if_icmp .gt 28, 3) := by decide +kernel
theorem dX0_meetAt_51 : decode cX0_meetAt 51 = .ok (.aload_n 0, 1) := by decide +kernel
theorem dX0_meetAt_52 : decode cX0_meetAt 52 = .ok (.getfield 23, 3) := by decide +kernel
theorem dX0_meetAt_55 : decode cX0_meetAt 55 = .ok (.iload_n 2, 1) := by decide +kernel
theorem dX0_meetAt_56 : decode cX0_meetAt 56 = .ok (.aaload, 1) := by decide +kernel
theorem dX0_meetAt_57 : decode cX0_meetAt 57 = .ok (.iload 5, 2) := by decide +kernel
theorem dX0_meetAt_59 : decode cX0_meetAt 59 = .ok (.iaload, 1) := by decide +kernel
theorem dX0_meetAt_60 : decode cX0_meetAt 60 = .ok (.aload_n 0, 1) := by decide +kernel
theorem dX0_meetAt_61 : decode cX0_meetAt 61 = .ok (.getfield 29, 3) := by decide +kernel
theorem dX0_meetAt_64 : decode cX0_meetAt 64 = .ok (.iload_n 1, 1) := by decide +kernel
theorem dX0_meetAt_65 : decode cX0_meetAt 65 = .ok (.aaload, 1) := by decide +kernel
theorem dX0_meetAt_66 : decode cX0_meetAt 66 = .ok (.iload 4, 2) := by decide +kernel
theorem dX0_meetAt_68 : decode cX0_meetAt 68 = .ok (.iaload, 1) := by decide +kernel
theorem dX0_meetAt_69 : decode cX0_meetAt 69 = .ok (.if_icmp .gt 7, 3) := by decide +kernel
theorem dX0_meetAt_72 : decode cX0_meetAt 72 = .ok (.iconst 1, 1) := by decide +kernel
theorem dX0_meetAt_73 : decode cX0_meetAt 73 = .ok (.goto 4, 3) := by decide +kernel
theorem dX0_meetAt_76 : decode cX0_meetAt 76 = .ok (.iconst 0, 1) := by decide +kernel
theorem dX0_meetAt_77 : decode cX0_meetAt 77 = .ok (.ireturn, 1) := by decide +kernel
theorem dX0_meet_0 : decode cX0_meet 0 = .ok (.iconst 0, 1) := by decide +kernel
theorem dX0_meet_1 : decode cX0_meet 1 = .ok (.istore_n 3, 1) := by decide +kernel
theorem dX0_meet_2 : decode cX0_meet 2 = .ok (.iload_n 3, 1) := by decide +kernel
theorem dX0_meet_3 : decode cX0_meet 3 = .ok (.aload_n 0, 1) := by decide +kernel
theorem dX0_meet_4 : decode cX0_meet 4 = .ok (.getfield 9, 3) := by decide +kernel
theorem dX0_meet_7 : decode cX0_meet 7 = .ok (.iload_n 1, 1) := by decide +kernel
theorem dX0_meet_8 : decode cX0_meet 8 = .ok (.iaload, 1) := by decide +kernel
theorem dX0_meet_9 : decode cX0_meet 9 = .ok (.if_icmp .ge 28, 3) := by decide +kernel
theorem dX0_meet_12 : decode cX0_meet 12 = .ok (.aload_n 0, 1) := by decide +kernel
theorem dX0_meet_13 : decode cX0_meet 13 = .ok (.iload_n 1, 1) := by decide +kernel
theorem dX0_meet_14 : decode cX0_meet 14 = .ok (.iload_n 2, 1) := by decide +kernel
theorem dX0_meet_15 : decode cX0_meet 15 = .ok (.aload_n 0, 1) := by decide +kernel
theorem dX0_meet_16 : decode cX0_meet 16 = .ok (.getfield 17, 3) := by decide +kernel
theorem dX0_meet_19 : decode cX0_meet 19 = .ok (.iload_n 1, 1) := by decide +kernel
theorem dX0_meet_20 : decode cX0_meet 20 = .ok (.aaload, 1) := by decide +kernel
theorem dX0_meet_21 : decode cX0_meet 21 = .ok (.iload_n 3, 1) := by decide +kernel
theorem dX0_meet_22 : decode cX0_meet 22 = .ok (.iaload, 1) := by decide +kernel
theorem dX0_meet_23 : decode cX0_meet 23 = .ok (.invokevirtual 133, 3) := by decide +kernel
theorem dX0_meet_26 : decode cX0_meet 26 = .ok (.ifCond .eq 5, 3) := by decide +kernel
theorem dX0_meet_29 : decode cX0_meet 29 = .ok (.iconst 1, 1) := by decide +kernel
theorem dX0_meet_30 : decode cX0_meet 30 = .ok (.ireturn, 1) := by decide +kernel
theorem dX0_meet_31 : decode cX0_meet 31 = .ok (.iinc 3 1, 3) := by decide +kernel
theorem dX0_meet_34 : decode cX0_meet 34 = .ok (.goto (-32), 3) := by decide +kernel
theorem dX0_meet_37 : decode cX0_meet 37 = .ok (.iconst 0, 1) := by decide +kernel
theorem dX0_meet_38 : decode cX0_meet 38 = .ok (.ireturn, 1) := by decide +kernel
theorem dX0_teamsMetBy_0 : decode cX0_teamsMetBy 0 = .ok (.iconst 0, 1) := by decide +kernel
theorem dX0_teamsMetBy_1 : decode cX0_teamsMetBy 1 = .ok (.istore_n 2, 1) := by decide +kernel
theorem dX0_teamsMetBy_2 : decode cX0_teamsMetBy 2 = .ok (.iconst 0, 1) := by decide +kernel
theorem dX0_teamsMetBy_3 : decode cX0_teamsMetBy 3 = .ok (.istore_n 3, 1) := by decide +kernel
theorem dX0_teamsMetBy_4 : decode cX0_teamsMetBy 4 = .ok (.iload_n 3, 1) := by decide +kernel
theorem dX0_teamsMetBy_5 : decode cX0_teamsMetBy 5 = .ok (.aload_n 0, 1) := by decide +kernel
theorem dX0_teamsMetBy_6 : decode cX0_teamsMetBy 6 = .ok (.getfield 45, 3) := by decide +kernel
theorem dX0_teamsMetBy_9 : decode cX0_teamsMetBy 9 = .ok (.if_icmp .ge 29, 3) := by decide +kernel
theorem dX0_teamsMetBy_12 : decode cX0_teamsMetBy 12 = .ok (.iload_n 3, 1) := by decide +kernel
theorem dX0_teamsMetBy_13 : decode cX0_teamsMetBy 13 = .ok (.iload_n 1, 1) := by decide +kernel
theorem dX0_teamsMetBy_14 : decode cX0_teamsMetBy 14 = .ok (.if_icmp .eq 18, 3) := by decide +kernel
theorem dX0_teamsMetBy_17 : decode cX0_teamsMetBy 17 = .ok (.aload_n 0, 1) := by decide +kernel
theorem dX0_teamsMetBy_18 : decode cX0_teamsMetBy 18 = .ok (.iload_n 1, 1) := by decide +kernel
theorem dX0_teamsMetBy_19 : decode cX0_teamsMetBy 19 = .ok (.iload_n 3, 1) := by decide +kernel
theorem dX0_teamsMetBy_20 : decode cX0_teamsMetBy 20 = .ok (.invokevirtual 136, 3) := by decide +kernel
theorem dX0_teamsMetBy_23 : decode cX0_teamsMetBy 23 = .ok (.ifCond .eq 9, 3) := by decide +kernel
theorem dX0_teamsMetBy_26 : decode cX0_teamsMetBy 26 = .ok (.iload_n 2, 1) := by decide +kernel
theorem dX0_teamsMetBy_27 : decode cX0_teamsMetBy 27 = .ok (.iconst 1, 1) := by decide +kernel
theorem dX0_teamsMetBy_28 : decode cX0_teamsMetBy 28 = .ok (.iload_n 3, 1) := by decide +kernel
theorem dX0_teamsMetBy_29 : decode cX0_teamsMetBy 29 = .ok (.ishl, 1) := by decide +kernel
theorem dX0_teamsMetBy_30 : decode cX0_teamsMetBy 30 = .ok (.ior, 1) := by decide +kernel
theorem dX0_teamsMetBy_31 : decode cX0_teamsMetBy 31 = .ok (.istore_n 2, 1) := by decide +kernel
theorem dX0_teamsMetBy_32 : decode cX0_teamsMetBy 32 = .ok (.iinc 3 1, 3) := by decide +kernel
theorem dX0_teamsMetBy_35 : decode cX0_teamsMetBy 35 = .ok (.goto (-31), 3) := by decide +kernel
theorem dX0_teamsMetBy_38 : decode cX0_teamsMetBy 38 = .ok (.iload_n 2, 1) := by decide +kernel
theorem dX0_teamsMetBy_39 : decode cX0_teamsMetBy 39 = .ok (.ireturn, 1) := by decide +kernel
theorem dX0_pairs_0 : decode cX0_pairs 0 = .ok (.iconst 0, 1) := by decide +kernel
theorem dX0_pairs_1 : decode cX0_pairs 1 = .ok (.istore_n 1, 1) := by decide +kernel
theorem dX0_pairs_2 : decode cX0_pairs 2 = .ok (.iconst 0, 1) := by decide +kernel
theorem dX0_pairs_3 : decode cX0_pairs 3 = .ok (.istore_n 2, 1) := by decide +kernel
theorem dX0_pairs_4 : decode cX0_pairs 4 = .ok (.iload_n 2, 1) := by decide +kernel
theorem dX0_pairs_5 : decode cX0_pairs 5 = .ok (.aload_n 0, 1) := by decide +kernel
theorem dX0_pairs_6 : decode cX0_pairs 6 = .ok (.getfield 45, 3) := by decide +kernel
theorem dX0_pairs_9 : decode cX0_pairs 9 = .ok (.if_icmp .ge 39, 3) := by decide +kernel
theorem dX0_pairs_12 : decode cX0_pairs 12 = .ok (.iload_n 2, 1) := by decide +kernel
theorem dX0_pairs_13 : decode cX0_pairs 13 = .ok (.iconst 1, 1) := by decide +kernel
theorem dX0_pairs_14 : decode cX0_pairs 14 = .ok (.iadd, 1) := by decide +kernel
theorem dX0_pairs_15 : decode cX0_pairs 15 = .ok (.istore_n 3, 1) := by decide +kernel
theorem dX0_pairs_16 : decode cX0_pairs 16 = .ok (.iload_n 3, 1) := by decide +kernel
theorem dX0_pairs_17 : decode cX0_pairs 17 = .ok (.aload_n 0, 1) := by decide +kernel
theorem dX0_pairs_18 : decode cX0_pairs 18 = .ok (.getfield 45, 3) := by decide +kernel
theorem dX0_pairs_21 : decode cX0_pairs 21 = .ok (.if_icmp .ge 21, 3) := by decide +kernel
theorem dX0_pairs_24 : decode cX0_pairs 24 = .ok (.aload_n 0, 1) := by decide +kernel
theorem dX0_pairs_25 : decode cX0_pairs 25 = .ok (.iload_n 2, 1) := by decide +kernel
theorem dX0_pairs_26 : decode cX0_pairs 26 = .ok (.iload_n 3, 1) := by decide +kernel
theorem dX0_pairs_27 : decode cX0_pairs 27 = .ok (.invokevirtual 136, 3) := by decide +kernel
theorem dX0_pairs_30 : decode cX0_pairs 30 = .ok (.ifCond .eq 6, 3) := by decide +kernel
theorem dX0_pairs_33 : decode cX0_pairs 33 = .ok (.iinc 1 1, 3) := by decide +kernel
theorem dX0_pairs_36 : decode cX0_pairs 36 = .ok (.iinc 3 1, 3) := by decide +kernel
theorem dX0_pairs_39 : decode cX0_pairs 39 = .ok (.goto (-23), 3) := by decide +kernel
theorem dX0_pairs_42 : decode cX0_pairs 42 = .ok (.iinc 2 1, 3) := by decide +kernel
theorem dX0_pairs_45 : decode cX0_pairs 45 = .ok (.goto (-41), 3) := by decide +kernel
theorem dX0_pairs_48 : decode cX0_pairs 48 = .ok (.iload_n 1, 1) := by decide +kernel
theorem dX0_pairs_49 : decode cX0_pairs 49 = .ok (.ireturn, 1) := by decide +kernel
theorem dX0_pairsAt_0 : decode cX0_pairsAt 0 = .ok (.iconst 0, 1) := by decide +kernel
theorem dX0_pairsAt_1 : decode cX0_pairsAt 1 = .ok (.istore_n 2, 1) := by decide +kernel
theorem dX0_pairsAt_2 : decode cX0_pairsAt 2 = .ok (.iconst 0, 1) := by decide +kernel
theorem dX0_pairsAt_3 : decode cX0_pairsAt 3 = .ok (.istore_n 3, 1) := by decide +kernel
theorem dX0_pairsAt_4 : decode cX0_pairsAt 4 = .ok (.iload_n 3, 1) := by decide +kernel
theorem dX0_pairsAt_5 : decode cX0_pairsAt 5 = .ok (.aload_n 0, 1) := by decide +kernel
theorem dX0_pairsAt_6 : decode cX0_pairsAt 6 = .ok (.getfield 45, 3) := by decide +kernel
theorem dX0_pairsAt_9 : decode cX0_pairsAt 9 = .ok (.if_icmp .ge 43, 3) := by decide +kernel
theorem dX0_pairsAt_12 : decode cX0_pairsAt 12 = .ok (.iload_n 3, 1) := by decide +kernel
theorem dX0_pairsAt_13 : decode cX0_pairsAt 13 = .ok (.iconst 1, 1) := by decide +kernel
theorem dX0_pairsAt_14 : decode cX0_pairsAt 14 = .ok (.iadd, 1) := by decide +kernel
theorem dX0_pairsAt_15 : decode cX0_pairsAt 15 = .ok (.istore 4, 2) := by decide +kernel
theorem dX0_pairsAt_17 : decode cX0_pairsAt 17 = .ok (.iload 4, 2) := by decide +kernel
theorem dX0_pairsAt_19 : decode cX0_pairsAt 19 = .ok (.aload_n 0, 1) := by decide +kernel
theorem dX0_pairsAt_20 : decode cX0_pairsAt 20 = .ok (.getfield 45, 3) := by decide +kernel
theorem dX0_pairsAt_23 : decode cX0_pairsAt 23 = .ok (.if_icmp .ge 23, 3) := by decide +kernel
theorem dX0_pairsAt_26 : decode cX0_pairsAt 26 = .ok (.aload_n 0, 1) := by decide +kernel
theorem dX0_pairsAt_27 : decode cX0_pairsAt 27 = .ok (.iload_n 3, 1) := by decide +kernel
theorem dX0_pairsAt_28 : decode cX0_pairsAt 28 = .ok (.iload 4, 2) := by decide +kernel
theorem dX0_pairsAt_30 : decode cX0_pairsAt 30 = .ok (.iload_n 1, 1) := by decide +kernel
theorem dX0_pairsAt_31 : decode cX0_pairsAt 31 = .ok (.invokevirtual 133, 3) := by decide +kernel
theorem dX0_pairsAt_34 : decode cX0_pairsAt 34 = .ok (.ifCond .eq 6, 3) := by decide +kernel
theorem dX0_pairsAt_37 : decode cX0_pairsAt 37 = .ok (.iinc 2 1, 3) := by decide +kernel
theorem dX0_pairsAt_40 : decode cX0_pairsAt 40 = .ok (.iinc 4 1, 3) := by decide +kernel
theorem dX0_pairsAt_43 : decode cX0_pairsAt 43 = .ok (.goto (-26), 3) := by decide +kernel
theorem dX0_pairsAt_46 : decode cX0_pairsAt 46 = .ok (.iinc 3 1, 3) := by decide +kernel
theorem dX0_pairsAt_49 : decode cX0_pairsAt 49 = .ok (.goto (-45), 3) := by decide +kernel
theorem dX0_pairsAt_52 : decode cX0_pairsAt 52 = .ok (.iload_n 2, 1) := by decide +kernel
theorem dX0_pairsAt_53 : decode cX0_pairsAt 53 = .ok (.ireturn, 1) := by decide +kernel
theorem dX0_teamsAt_0 : decode cX0_teamsAt 0 = .ok (.iconst 0, 1) := by decide +kernel
theorem dX0_teamsAt_1 : decode cX0_teamsAt 1 = .ok (.istore_n 2, 1) := by decide +kernel
theorem dX0_teamsAt_2 : decode cX0_teamsAt 2 = .ok (.iconst 0, 1) := by decide +kernel
theorem dX0_teamsAt_3 : decode cX0_teamsAt 3 = .ok (.istore_n 3, 1) := by decide +kernel
theorem dX0_teamsAt_4 : decode cX0_teamsAt 4 = .ok (.iload_n 3, 1) := by decide +kernel
theorem dX0_teamsAt_5 : decode cX0_teamsAt 5 = .ok (.aload_n 0, 1) := by decide +kernel
theorem dX0_teamsAt_6 : decode cX0_teamsAt 6 = .ok (.getfield 45, 3) := by decide +kernel
theorem dX0_teamsAt_9 : decode cX0_teamsAt 9 = .ok (.if_icmp .ge 25, 3) := by decide +kernel
theorem dX0_teamsAt_12 : decode cX0_teamsAt 12 = .ok (.aload_n 0, 1) := by decide +kernel
theorem dX0_teamsAt_13 : decode cX0_teamsAt 13 = .ok (.iload_n 3, 1) := by decide +kernel
theorem dX0_teamsAt_14 : decode cX0_teamsAt 14 = .ok (.iload_n 1, 1) := by decide +kernel
theorem dX0_teamsAt_15 : decode cX0_teamsAt 15 = .ok (.invokevirtual 130, 3) := by decide +kernel
theorem dX0_teamsAt_18 : decode cX0_teamsAt 18 = .ok (.iconst (-1), 1) := by decide +kernel
theorem dX0_teamsAt_19 : decode cX0_teamsAt 19 = .ok (.if_icmp .eq 9, 3) := by decide +kernel
theorem dX0_teamsAt_22 : decode cX0_teamsAt 22 = .ok (.iload_n 2, 1) := by decide +kernel
theorem dX0_teamsAt_23 : decode cX0_teamsAt 23 = .ok (.iconst 1, 1) := by decide +kernel
theorem dX0_teamsAt_24 : decode cX0_teamsAt 24 = .ok (.iload_n 3, 1) := by decide +kernel
theorem dX0_teamsAt_25 : decode cX0_teamsAt 25 = .ok (.ishl, 1) := by decide +kernel
theorem dX0_teamsAt_26 : decode cX0_teamsAt 26 = .ok (.ior, 1) := by decide +kernel
theorem dX0_teamsAt_27 : decode cX0_teamsAt 27 = .ok (.istore_n 2, 1) := by decide +kernel
theorem dX0_teamsAt_28 : decode cX0_teamsAt 28 = .ok (.iinc 3 1, 3) := by decide +kernel
theorem dX0_teamsAt_31 : decode cX0_teamsAt 31 = .ok (.goto (-27), 3) := by decide +kernel
theorem dX0_teamsAt_34 : decode cX0_teamsAt 34 = .ok (.iload_n 2, 1) := by decide +kernel
theorem dX0_teamsAt_35 : decode cX0_teamsAt 35 = .ok (.ireturn, 1) := by decide +kernel
theorem dX0_queueingAt_0 : decode cX0_queueingAt 0 = .ok (.iconst 0, 1) := by decide +kernel
theorem dX0_queueingAt_1 : decode cX0_queueingAt 1 = .ok (.istore_n 2, 1) := by decide +kernel
theorem dX0_queueingAt_2 : decode cX0_queueingAt 2 = .ok (.iconst 0, 1) := by decide +kernel
theorem dX0_queueingAt_3 : decode cX0_queueingAt 3 = .ok (.istore_n 3, 1) := by decide +kernel
theorem dX0_queueingAt_4 : decode cX0_queueingAt 4 = .ok (.iload_n 3, 1) := by decide +kernel
theorem dX0_queueingAt_5 : decode cX0_queueingAt 5 = .ok (.aload_n 0, 1) := by decide +kernel
theorem dX0_queueingAt_6 : decode cX0_queueingAt 6 = .ok (.getfield 45, 3) := by decide +kernel
theorem dX0_queueingAt_9 : decode cX0_queueingAt 9 = .ok (.if_icmp .ge 45, 3) := by decide +kernel
theorem dX0_queueingAt_12 : decode cX0_queueingAt 12 = .ok (.aload_n 0, 1) := by decide +kernel
theorem dX0_queueingAt_13 : decode cX0_queueingAt 13 = .ok (.iload_n 3, 1) := by decide +kernel
theorem dX0_queueingAt_14 : decode cX0_queueingAt 14 = .ok (.iload_n 1, 1) := by decide +kernel
theorem dX0_queueingAt_15 : decode cX0_queueingAt 15 = .ok (.invokevirtual 130, 3) := by decide +kernel
theorem dX0_queueingAt_18 : decode cX0_queueingAt 18 = .ok (.istore 4, 2) := by decide +kernel
theorem dX0_queueingAt_20 : decode cX0_queueingAt 20 = .ok (.iload 4, 2) := by decide +kernel
theorem dX0_queueingAt_22 : decode cX0_queueingAt 22 = .ok (.iconst (-1), 1) := by decide +kernel
theorem dX0_queueingAt_23 : decode cX0_queueingAt 23 = .ok (.if_icmp .eq 25, 3) := by decide +kernel
theorem dX0_queueingAt_26 : decode cX0_queueingAt 26 = .ok (.iload_n 2, 1) := by decide +kernel
theorem dX0_queueingAt_27 : decode cX0_queueingAt 27 = .ok (.aload_n 0, 1) := by decide +kernel
theorem dX0_queueingAt_28 : decode cX0_queueingAt 28 = .ok (.getfield 26, 3) := by decide +kernel
theorem dX0_queueingAt_31 : decode cX0_queueingAt 31 = .ok (.iload_n 3, 1) := by decide +kernel
theorem dX0_queueingAt_32 : decode cX0_queueingAt 32 = .ok (.aaload, 1) := by decide +kernel
theorem dX0_queueingAt_33 : decode cX0_queueingAt 33 = .ok (.iload 4, 2) := by decide +kernel
theorem dX0_queueingAt_35 : decode cX0_queueingAt 35 = .ok (.iaload, 1) := by decide +kernel
theorem dX0_queueingAt_36 : decode cX0_queueingAt 36 = .ok (.aload_n 0, 1) := by decide +kernel
theorem dX0_queueingAt_37 : decode cX0_queueingAt 37 = .ok (.getfield 23, 3) := by decide +kernel
theorem dX0_queueingAt_40 : decode cX0_queueingAt 40 = .ok (.iload_n 3, 1) := by decide +kernel
theorem dX0_queueingAt_41 : decode cX0_queueingAt 41 = .ok (.aaload, 1) := by decide +kernel
theorem dX0_queueingAt_42 : decode cX0_queueingAt 42 = .ok (.iload 4, 2) := by decide +kernel
theorem dX0_queueingAt_44 : decode cX0_queueingAt 44 = .ok (.iaload, 1) := by decide +kernel
theorem dX0_queueingAt_45 : decode cX0_queueingAt 45 = .ok (.isub, 1) := by decide +kernel
theorem dX0_queueingAt_46 : decode cX0_queueingAt 46 = .ok (.iadd, 1) := by decide +kernel
theorem dX0_queueingAt_47 : decode cX0_queueingAt 47 = .ok (.istore_n 2, 1) := by decide +kernel
theorem dX0_queueingAt_48 : decode cX0_queueingAt 48 = .ok (.iinc 3 1, 3) := by decide +kernel
theorem dX0_queueingAt_51 : decode cX0_queueingAt 51 = .ok (.goto (-47), 3) := by decide +kernel
theorem dX0_queueingAt_54 : decode cX0_queueingAt 54 = .ok (.iload_n 2, 1) := by decide +kernel
theorem dX0_queueingAt_55 : decode cX0_queueingAt 55 = .ok (.ireturn, 1) := by decide +kernel
theorem dX0_mostAt_0 : decode cX0_mostAt 0 = .ok (.iconst 0, 1) := by decide +kernel
theorem dX0_mostAt_1 : decode cX0_mostAt 1 = .ok (.istore_n 2, 1) := by decide +kernel
theorem dX0_mostAt_2 : decode cX0_mostAt 2 = .ok (.iconst 0, 1) := by decide +kernel
theorem dX0_mostAt_3 : decode cX0_mostAt 3 = .ok (.istore_n 3, 1) := by decide +kernel
theorem dX0_mostAt_4 : decode cX0_mostAt 4 = .ok (.iload_n 3, 1) := by decide +kernel
theorem dX0_mostAt_5 : decode cX0_mostAt 5 = .ok (.aload_n 0, 1) := by decide +kernel
theorem dX0_mostAt_6 : decode cX0_mostAt 6 = .ok (.getfield 45, 3) := by decide +kernel
theorem dX0_mostAt_9 : decode cX0_mostAt 9 = .ok (.if_icmp .ge 42, 3) := by decide +kernel
theorem dX0_mostAt_12 : decode cX0_mostAt 12 = .ok (.aload_n 0, 1) := by decide +kernel
theorem dX0_mostAt_13 : decode cX0_mostAt 13 = .ok (.iload_n 3, 1) := by decide +kernel
theorem dX0_mostAt_14 : decode cX0_mostAt 14 = .ok (.iload_n 1, 1) := by decide +kernel
theorem dX0_mostAt_15 : decode cX0_mostAt 15 = .ok (.invokevirtual 130, 3) := by decide +kernel
theorem dX0_mostAt_18 : decode cX0_mostAt 18 = .ok (.istore 4, 2) := by decide +kernel
theorem dX0_mostAt_20 : decode cX0_mostAt 20 = .ok (.iload 4, 2) := by decide +kernel
theorem dX0_mostAt_22 : decode cX0_mostAt 22 = .ok (.iconst (-1), 1) := by decide +kernel
theorem dX0_mostAt_23 : decode cX0_mostAt 23 = .ok (.if_icmp .eq 22, 3) := by decide +kernel
theorem dX0_mostAt_26 : decode cX0_mostAt 26 = .ok (.iload_n 2, 1) := by decide +kernel
theorem dX0_mostAt_27 : decode cX0_mostAt 27 = .ok (.aload_n 0, 1) := by decide +kernel
theorem dX0_mostAt_28 : decode cX0_mostAt 28 = .ok (.iload_n 1, 1) := by decide +kernel
theorem dX0_mostAt_29 : decode cX0_mostAt 29 = .ok (.aload_n 0, 1) := by decide +kernel
theorem dX0_mostAt_30 : decode cX0_mostAt 30 = .ok (.getfield 23, 3) := by decide +kernel
theorem dX0_mostAt_33 : decode cX0_mostAt 33 = .ok (.iload_n 3, 1) := by decide +kernel
theorem dX0_mostAt_34 : decode cX0_mostAt 34 = .ok (.aaload, 1) := by decide +kernel
theorem dX0_mostAt_35 : decode cX0_mostAt 35 = .ok (.iload 4, 2) := by decide +kernel
theorem dX0_mostAt_37 : decode cX0_mostAt 37 = .ok (.iaload, 1) := by decide +kernel
theorem dX0_mostAt_38 : decode cX0_mostAt 38 = .ok (.invokevirtual 139, 3) := by decide +kernel
theorem dX0_mostAt_41 : decode cX0_mostAt 41 = .ok (.invokestatic 105, 3) := by decide +kernel
theorem dX0_mostAt_44 : decode cX0_mostAt 44 = .ok (.istore_n 2, 1) := by decide +kernel
theorem dX0_mostAt_45 : decode cX0_mostAt 45 = .ok (.iinc 3 1, 3) := by decide +kernel
theorem dX0_mostAt_48 : decode cX0_mostAt 48 = .ok (.goto (-44), 3) := by decide +kernel
theorem dX0_mostAt_51 : decode cX0_mostAt 51 = .ok (.iload_n 2, 1) := by decide +kernel
theorem dX0_mostAt_52 : decode cX0_mostAt 52 = .ok (.ireturn, 1) := by decide +kernel
theorem dX0_teamsThere_0 : decode cX0_teamsThere 0 = .ok (.iconst 0, 1) := by decide +kernel
theorem dX0_teamsThere_1 : decode cX0_teamsThere 1 = .ok (.istore_n 3, 1) := by decide +kernel
theorem dX0_teamsThere_2 : decode cX0_teamsThere 2 = .ok (.iconst 0, 1) := by decide +kernel
theorem dX0_teamsThere_3 : decode cX0_teamsThere 3 = .ok (.istore 4, 2) := by decide +kernel
theorem dX0_teamsThere_5 : decode cX0_teamsThere 5 = .ok (.iload 4, 2) := by decide +kernel
theorem dX0_teamsThere_7 : decode cX0_teamsThere 7 = .ok (.aload_n 0, 1) := by decide +kernel
theorem dX0_teamsThere_8 : decode cX0_teamsThere 8 = .ok (.getfield 45, 3) := by decide +kernel
theorem dX0_teamsThere_11 : decode cX0_teamsThere 11 = .ok (.if_icmp .ge 39, 3) := by decide +kernel
theorem dX0_teamsThere_14 : decode cX0_teamsThere 14 = .ok (.aload_n 0, 1) := by decide +kernel
theorem dX0_teamsThere_15 : decode cX0_teamsThere 15 = .ok (.iload 4, 2) := by decide +kernel
theorem dX0_teamsThere_17 : decode cX0_teamsThere 17 = .ok (.iload_n 1, 1) := by decide +kernel
theorem dX0_teamsThere_18 : decode cX0_teamsThere 18 = .ok (.invokevirtual 130, 3) := by decide +kernel
theorem dX0_teamsThere_21 : decode cX0_teamsThere 21 = .ok (.istore 5, 2) := by decide +kernel
theorem dX0_teamsThere_23 : decode cX0_teamsThere 23 = .ok (.iload 5, 2) := by decide +kernel
theorem dX0_teamsThere_25 : decode cX0_teamsThere 25 = .ok (.iconst (-1), 1) := by decide +kernel
theorem dX0_teamsThere_26 : decode cX0_teamsThere 26 = .ok (.if_icmp .eq 18, 3) := by decide +kernel
theorem dX0_teamsThere_29 : decode cX0_teamsThere 29 = .ok (.aload_n 0, 1) := by decide +kernel
theorem dX0_teamsThere_30 : decode cX0_teamsThere 30 = .ok (.iload 4, 2) := by decide +kernel
theorem dX0_teamsThere_32 : decode cX0_teamsThere 32 = .ok (.iload 5, 2) := by decide +kernel
theorem dX0_teamsThere_34 : decode cX0_teamsThere 34 = .ok (.iload_n 2, 1) := by decide +kernel
theorem dX0_teamsThere_35 : decode cX0_teamsThere 35 = .ok (.invokevirtual 125, 3) := by decide +kernel
theorem dX0_teamsThere_38 : decode cX0_teamsThere 38 = .ok (.ifCond .eq 6, 3) := by decide +kernel
theorem dX0_teamsThere_41 : decode cX0_teamsThere 41 = .ok (.iinc 3 1, 3) := by decide +kernel
theorem dX0_teamsThere_44 : decode cX0_teamsThere 44 = .ok (.iinc 4 1, 3) := by decide +kernel
theorem dX0_teamsThere_47 : decode cX0_teamsThere 47 = .ok (.goto (-42), 3) := by decide +kernel
theorem dX0_teamsThere_50 : decode cX0_teamsThere 50 = .ok (.iload_n 3, 1) := by decide +kernel
theorem dX0_teamsThere_51 : decode cX0_teamsThere 51 = .ok (.ireturn, 1) := by decide +kernel
theorem dX0_lastEnd_0 : decode cX0_lastEnd 0 = .ok (.iconst 0, 1) := by decide +kernel
theorem dX0_lastEnd_1 : decode cX0_lastEnd 1 = .ok (.istore_n 1, 1) := by decide +kernel
theorem dX0_lastEnd_2 : decode cX0_lastEnd 2 = .ok (.iconst 0, 1) := by decide +kernel
theorem dX0_lastEnd_3 : decode cX0_lastEnd 3 = .ok (.istore_n 2, 1) := by decide +kernel
theorem dX0_lastEnd_4 : decode cX0_lastEnd 4 = .ok (.iload_n 2, 1) := by decide +kernel
theorem dX0_lastEnd_5 : decode cX0_lastEnd 5 = .ok (.aload_n 0, 1) := by decide +kernel
theorem dX0_lastEnd_6 : decode cX0_lastEnd 6 = .ok (.getfield 45, 3) := by decide +kernel
theorem dX0_lastEnd_9 : decode cX0_lastEnd 9 = .ok (.if_icmp .ge 20, 3) := by decide +kernel
theorem dX0_lastEnd_12 : decode cX0_lastEnd 12 = .ok (.iload_n 1, 1) := by decide +kernel
theorem dX0_lastEnd_13 : decode cX0_lastEnd 13 = .ok (.aload_n 0, 1) := by decide +kernel
theorem dX0_lastEnd_14 : decode cX0_lastEnd 14 = .ok (.getfield 35, 3) := by decide +kernel
theorem dX0_lastEnd_17 : decode cX0_lastEnd 17 = .ok (.iload_n 2, 1) := by decide +kernel
theorem dX0_lastEnd_18 : decode cX0_lastEnd 18 = .ok (.iaload, 1) := by decide +kernel
theorem dX0_lastEnd_19 : decode cX0_lastEnd 19 = .ok (.invokestatic 105, 3) := by decide +kernel
theorem dX0_lastEnd_22 : decode cX0_lastEnd 22 = .ok (.istore_n 1, 1) := by decide +kernel
theorem dX0_lastEnd_23 : decode cX0_lastEnd 23 = .ok (.iinc 2 1, 3) := by decide +kernel
theorem dX0_lastEnd_26 : decode cX0_lastEnd 26 = .ok (.goto (-22), 3) := by decide +kernel
theorem dX0_lastEnd_29 : decode cX0_lastEnd 29 = .ok (.iload_n 1, 1) := by decide +kernel
theorem dX0_lastEnd_30 : decode cX0_lastEnd 30 = .ok (.ireturn, 1) := by decide +kernel
theorem dX0_queueing_0 : decode cX0_queueing 0 = .ok (.iconst 0, 1) := by decide +kernel
theorem dX0_queueing_1 : decode cX0_queueing 1 = .ok (.istore_n 1, 1) := by decide +kernel
theorem dX0_queueing_2 : decode cX0_queueing 2 = .ok (.iconst 0, 1) := by decide +kernel
theorem dX0_queueing_3 : decode cX0_queueing 3 = .ok (.istore_n 2, 1) := by decide +kernel
theorem dX0_queueing_4 : decode cX0_queueing 4 = .ok (.iload_n 2, 1) := by decide +kernel
theorem dX0_queueing_5 : decode cX0_queueing 5 = .ok (.aload_n 0, 1) := by decide +kernel
theorem dX0_queueing_6 : decode cX0_queueing 6 = .ok (.getfield 45, 3) := by decide +kernel
theorem dX0_queueing_9 : decode cX0_queueing 9 = .ok (.if_icmp .ge 17, 3) := by decide +kernel
theorem dX0_queueing_12 : decode cX0_queueing 12 = .ok (.iload_n 1, 1) := by decide +kernel
theorem dX0_queueing_13 : decode cX0_queueing 13 = .ok (.aload_n 0, 1) := by decide +kernel
theorem dX0_queueing_14 : decode cX0_queueing 14 = .ok (.iload_n 2, 1) := by decide +kernel
theorem dX0_queueing_15 : decode cX0_queueing 15 = .ok (.invokevirtual 142, 3) := by decide +kernel
theorem dX0_queueing_18 : decode cX0_queueing 18 = .ok (.iadd, 1) := by decide +kernel
theorem dX0_queueing_19 : decode cX0_queueing 19 = .ok (.istore_n 1, 1) := by decide +kernel
theorem dX0_queueing_20 : decode cX0_queueing 20 = .ok (.iinc 2 1, 3) := by decide +kernel
theorem dX0_queueing_23 : decode cX0_queueing 23 = .ok (.goto (-19), 3) := by decide +kernel
theorem dX0_queueing_26 : decode cX0_queueing 26 = .ok (.iload_n 1, 1) := by decide +kernel
theorem dX0_queueing_27 : decode cX0_queueing 27 = .ok (.ireturn, 1) := by decide +kernel
theorem dX0_winner_0 : decode cX0_winner 0 = .ok (.iconst (-1), 1) := by decide +kernel
theorem dX0_winner_1 : decode cX0_winner 1 = .ok (.istore_n 1, 1) := by decide +kernel
theorem dX0_winner_2 : decode cX0_winner 2 = .ok (.iconst 0, 1) := by decide +kernel
theorem dX0_winner_3 : decode cX0_winner 3 = .ok (.istore_n 2, 1) := by decide +kernel
theorem dX0_winner_4 : decode cX0_winner 4 = .ok (.iload_n 2, 1) := by decide +kernel
theorem dX0_winner_5 : decode cX0_winner 5 = .ok (.aload_n 0, 1) := by decide +kernel
theorem dX0_winner_6 : decode cX0_winner 6 = .ok (.getfield 45, 3) := by decide +kernel
theorem dX0_winner_9 : decode cX0_winner 9 = .ok (.if_icmp .ge 25, 3) := by decide +kernel
theorem dX0_winner_12 : decode cX0_winner 12 = .ok (.iload_n 1, 1) := by decide +kernel
theorem dX0_winner_13 : decode cX0_winner 13 = .ok (.iconst (-1), 1) := by decide +kernel
theorem dX0_winner_14 : decode cX0_winner 14 = .ok (.if_icmp .eq 12, 3) := by decide +kernel
theorem dX0_winner_17 : decode cX0_winner 17 = .ok (.aload_n 0, 1) := by decide +kernel
theorem dX0_winner_18 : decode cX0_winner 18 = .ok (.iload_n 2, 1) := by decide +kernel
theorem dX0_winner_19 : decode cX0_winner 19 = .ok (.iload_n 1, 1) := by decide +kernel
theorem dX0_winner_20 : decode cX0_winner 20 = .ok (.invokevirtual 118, 3) := by decide +kernel
theorem dX0_winner_23 : decode cX0_winner 23 = .ok (.ifCond .eq 5, 3) := by decide +kernel
theorem dX0_winner_26 : decode cX0_winner 26 = .ok (.iload_n 2, 1) := by decide +kernel
theorem dX0_winner_27 : decode cX0_winner 27 = .ok (.istore_n 1, 1) := by decide +kernel
theorem dX0_winner_28 : decode cX0_winner 28 = .ok (.iinc 2 1, 3) := by decide +kernel
theorem dX0_winner_31 : decode cX0_winner 31 = .ok (.goto (-27), 3) := by decide +kernel
theorem dX0_winner_34 : decode cX0_winner 34 = .ok (.iload_n 1, 1) := by decide +kernel
theorem dX0_winner_35 : decode cX0_winner 35 = .ok (.iconst (-1), 1) := by decide +kernel
theorem dX0_winner_36 : decode cX0_winner 36 = .ok (.if_icmp .ne 8, 3) := by decide +kernel
theorem dX0_winner_39 : decode cX0_winner 39 = .ok (.ldc 129, 2) := by decide +kernel
theorem dX0_winner_41 : decode cX0_winner 41 = .ok (.goto 4, 3) := by decide +kernel
theorem dX0_winner_44 : decode cX0_winner 44 = .ok (.iload_n 1, 1) := by decide +kernel
theorem dX0_winner_45 : decode cX0_winner 45 = .ok (.ireturn, 1) := by decide +kernel
theorem dX0_points_0 : decode cX0_points 0 = .ok (.iconst 0, 1) := by decide +kernel
theorem dX0_points_1 : decode cX0_points 1 = .ok (.istore_n 1, 1) := by decide +kernel
theorem dX0_points_2 : decode cX0_points 2 = .ok (.iconst 0, 1) := by decide +kernel
theorem dX0_points_3 : decode cX0_points 3 = .ok (.istore_n 2, 1) := by decide +kernel
theorem dX0_points_4 : decode cX0_points 4 = .ok (.iload_n 2, 1) := by decide +kernel
theorem dX0_points_5 : decode cX0_points 5 = .ok (.aload_n 0, 1) := by decide +kernel
theorem dX0_points_6 : decode cX0_points 6 = .ok (.getfield 45, 3) := by decide +kernel
theorem dX0_points_9 : decode cX0_points 9 = .ok (.if_icmp .ge 17, 3) := by decide +kernel
theorem dX0_points_12 : decode cX0_points 12 = .ok (.iload_n 1, 1) := by decide +kernel
theorem dX0_points_13 : decode cX0_points 13 = .ok (.aload_n 0, 1) := by decide +kernel
theorem dX0_points_14 : decode cX0_points 14 = .ok (.iload_n 2, 1) := by decide +kernel
theorem dX0_points_15 : decode cX0_points 15 = .ok (.invokevirtual 122, 3) := by decide +kernel
theorem dX0_points_18 : decode cX0_points 18 = .ok (.iadd, 1) := by decide +kernel
theorem dX0_points_19 : decode cX0_points 19 = .ok (.istore_n 1, 1) := by decide +kernel
theorem dX0_points_20 : decode cX0_points 20 = .ok (.iinc 2 1, 3) := by decide +kernel
theorem dX0_points_23 : decode cX0_points 23 = .ok (.goto (-19), 3) := by decide +kernel
theorem dX0_points_26 : decode cX0_points 26 = .ok (.iload_n 1, 1) := by decide +kernel
theorem dX0_points_27 : decode cX0_points 27 = .ok (.ireturn, 1) := by decide +kernel
theorem dX0_visits_0 : decode cX0_visits 0 = .ok (.iconst 0, 1) := by decide +kernel
theorem dX0_visits_1 : decode cX0_visits 1 = .ok (.istore_n 1, 1) := by decide +kernel
theorem dX0_visits_2 : decode cX0_visits 2 = .ok (.iconst 0, 1) := by decide +kernel
theorem dX0_visits_3 : decode cX0_visits 3 = .ok (.istore_n 2, 1) := by decide +kernel
theorem dX0_visits_4 : decode cX0_visits 4 = .ok (.iload_n 2, 1) := by decide +kernel
theorem dX0_visits_5 : decode cX0_visits 5 = .ok (.aload_n 0, 1) := by decide +kernel
theorem dX0_visits_6 : decode cX0_visits 6 = .ok (.getfield 45, 3) := by decide +kernel
theorem dX0_visits_9 : decode cX0_visits 9 = .ok (.if_icmp .ge 18, 3) := by decide +kernel
theorem dX0_visits_12 : decode cX0_visits 12 = .ok (.iload_n 1, 1) := by decide +kernel
theorem dX0_visits_13 : decode cX0_visits 13 = .ok (.aload_n 0, 1) := by decide +kernel
theorem dX0_visits_14 : decode cX0_visits 14 = .ok (.getfield 9, 3) := by decide +kernel
theorem dX0_visits_17 : decode cX0_visits 17 = .ok (.iload_n 2, 1) := by decide +kernel
theorem dX0_visits_18 : decode cX0_visits 18 = .ok (.iaload, 1) := by decide +kernel
theorem dX0_visits_19 : decode cX0_visits 19 = .ok (.iadd, 1) := by decide +kernel
theorem dX0_visits_20 : decode cX0_visits 20 = .ok (.istore_n 1, 1) := by decide +kernel
theorem dX0_visits_21 : decode cX0_visits 21 = .ok (.iinc 2 1, 3) := by decide +kernel
theorem dX0_visits_24 : decode cX0_visits 24 = .ok (.goto (-20), 3) := by decide +kernel
theorem dX0_visits_27 : decode cX0_visits 27 = .ok (.iload_n 1, 1) := by decide +kernel
theorem dX0_visits_28 : decode cX0_visits 28 = .ok (.ireturn, 1) := by decide +kernel
theorem dX1_init_0 : decode cX1_init 0 = .ok (.aload_n 0, 1) := by decide +kernel
theorem dX1_init_1 : decode cX1_init 1 = .ok (.invokespecial 3, 3) := by decide +kernel
theorem dX1_init_4 : decode cX1_init 4 = .ok (.aload_n 0, 1) := by decide +kernel
theorem dX1_init_5 : decode cX1_init 5 = .ok (.bipush 6, 2) := by decide +kernel
theorem dX1_init_7 : decode cX1_init 7 = .ok (.anewarray 9, 3) := by decide +kernel
theorem dX1_init_10 : decode cX1_init 10 = .ok (.putfield 11, 3) := by decide +kernel
theorem dX1_init_13 : decode cX1_init 13 = .ok (.iconst 0, 1) := by decide +kernel
theorem dX1_init_14 : decode cX1_init 14 = .ok (.istore_n 1, 1) := by decide +kernel
theorem dX1_init_15 : decode cX1_init 15 = .ok (.iload_n 1, 1) := by decide +kernel
theorem dX1_init_16 : decode cX1_init 16 = .ok (.bipush 6, 2) := by decide +kernel
theorem dX1_init_18 : decode cX1_init 18 = .ok (.if_icmp .ge 22, 3) := by decide +kernel
theorem dX1_init_21 : decode cX1_init 21 = .ok (.aload_n 0, 1) := by decide +kernel
theorem dX1_init_22 : decode cX1_init 22 = .ok (.getfield 11, 3) := by decide +kernel
theorem dX1_init_25 : decode cX1_init 25 = .ok (.iload_n 1, 1) := by decide +kernel
theorem dX1_init_26 : decode cX1_init 26 = .ok (.new 9, 3) := by decide +kernel
theorem dX1_init_29 : decode cX1_init 29 = .ok (.dup, 1) := by decide +kernel
theorem dX1_init_30 : decode cX1_init 30 = .ok (.invokespecial 17, 3) := by decide +kernel
theorem dX1_init_33 : decode cX1_init 33 = .ok (.aastore, 1) := by decide +kernel
theorem dX1_init_34 : decode cX1_init 34 = .ok (.iinc 1 1, 3) := by decide +kernel
theorem dX1_init_37 : decode cX1_init 37 = .ok (.goto (-22), 3) := by decide +kernel
theorem dX1_init_40 : decode cX1_init 40 = .ok (.return_, 1) := by decide +kernel
theorem dX1_record_0 : decode cX1_record 0 = .ok (.aload_n 0, 1) := by decide +kernel
theorem dX1_record_1 : decode cX1_record 1 = .ok (.getfield 18, 3) := by decide +kernel
theorem dX1_record_4 : decode cX1_record 4 = .ok (.bipush 6, 2) := by decide +kernel
theorem dX1_record_6 : decode cX1_record 6 = .ok (.if_icmp .ne 26, 3) := by decide +kernel
theorem dX1_record_9 : decode cX1_record 9 = .ok (.aload_n 0, 1) := by decide +kernel
theorem dX1_record_10 : decode cX1_record 10 = .ok (.aload_n 0, 1) := by decide +kernel
theorem dX1_record_11 : decode cX1_record 11 = .ok (.getfield 22, 3) := by decide +kernel
theorem dX1_record_14 : decode cX1_record 14 = .ok (.iconst 1, 1) := by decide +kernel
theorem dX1_record_15 : decode cX1_record 15 = .ok (.iadd, 1) := by decide +kernel
theorem dX1_record_16 : decode cX1_record 16 = .ok (.bipush 6, 2) := by decide +kernel
theorem dX1_record_18 : decode cX1_record 18 = .ok (.irem, 1) := by decide +kernel
theorem dX1_record_19 : decode cX1_record 19 = .ok (.putfield 22, 3) := by decide +kernel
theorem dX1_record_22 : decode cX1_record 22 = .ok (.aload_n 0, 1) := by decide +kernel
theorem dX1_record_23 : decode cX1_record 23 = .ok (.dup, 1) := by decide +kernel
theorem dX1_record_24 : decode cX1_record 24 = .ok (.getfield 18, 3) := by decide +kernel
theorem dX1_record_27 : decode cX1_record 27 = .ok (.iconst 1, 1) := by decide +kernel
theorem dX1_record_28 : decode cX1_record 28 = .ok (.isub, 1) := by decide +kernel
theorem dX1_record_29 : decode cX1_record 29 = .ok (.putfield 18, 3) := by decide +kernel
theorem dX1_record_32 : decode cX1_record 32 = .ok (.aload_n 0, 1) := by decide +kernel
theorem dX1_record_33 : decode cX1_record 33 = .ok (.getfield 11, 3) := by decide +kernel
theorem dX1_record_36 : decode cX1_record 36 = .ok (.aload_n 0, 1) := by decide +kernel
theorem dX1_record_37 : decode cX1_record 37 = .ok (.getfield 22, 3) := by decide +kernel
theorem dX1_record_40 : decode cX1_record 40 = .ok (.aload_n 0, 1) := by decide +kernel
theorem dX1_record_41 : decode cX1_record 41 = .ok (.getfield 18, 3) := by decide +kernel
theorem dX1_record_44 : decode cX1_record 44 = .ok (.iadd, 1) := by decide +kernel
theorem dX1_record_45 : decode cX1_record 45 = .ok (.bipush 6, 2) := by decide +kernel
theorem dX1_record_47 : decode cX1_record 47 = .ok (.irem, 1) := by decide +kernel
theorem dX1_record_48 : decode cX1_record 48 = .ok (.aaload, 1) := by decide +kernel
theorem dX1_record_49 : decode cX1_record 49 = .ok (.aload_n 1, 1) := by decide +kernel
theorem dX1_record_50 : decode cX1_record 50 = .ok (.invokevirtual 25, 3) := by decide +kernel
theorem dX1_record_53 : decode cX1_record 53 = .ok (.aload_n 0, 1) := by decide +kernel
theorem dX1_record_54 : decode cX1_record 54 = .ok (.dup, 1) := by decide +kernel
theorem dX1_record_55 : decode cX1_record 55 = .ok (.getfield 18, 3) := by decide +kernel
theorem dX1_record_58 : decode cX1_record 58 = .ok (.iconst 1, 1) := by decide +kernel
theorem dX1_record_59 : decode cX1_record 59 = .ok (.iadd, 1) := by decide +kernel
theorem dX1_record_60 : decode cX1_record 60 = .ok (.putfield 18, 3) := by decide +kernel
theorem dX1_record_63 : decode cX1_record 63 = .ok (.return_, 1) := by decide +kernel
theorem dX1_takeBack_0 : decode cX1_takeBack 0 = .ok (.aload_n 0, 1) := by decide +kernel
theorem dX1_takeBack_1 : decode cX1_takeBack 1 = .ok (.dup, 1) := by decide +kernel
theorem dX1_takeBack_2 : decode cX1_takeBack 2 = .ok (.getfield 18, 3) := by decide +kernel
theorem dX1_takeBack_5 : decode cX1_takeBack 5 = .ok (.iconst 1, 1) := by decide +kernel
theorem dX1_takeBack_6 : decode cX1_takeBack 6 = .ok (.isub, 1) := by decide +kernel
theorem dX1_takeBack_7 : decode cX1_takeBack 7 = .ok (.putfield 18, 3) := by decide +kernel
theorem dX1_takeBack_10 : decode cX1_takeBack 10 = .ok (.aload_n 1, 1) := by decide +kernel
theorem dX1_takeBack_11 : decode cX1_takeBack 11 = .ok (.aload_n 0, 1) := by decide +kernel
theorem dX1_takeBack_12 : decode cX1_takeBack 12 = .ok (.getfield 11, 3) := by decide +kernel
theorem dX1_takeBack_15 : decode cX1_takeBack 15 = .ok (.aload_n 0, 1) := by decide +kernel
theorem dX1_takeBack_16 : decode cX1_takeBack 16 = .ok (.getfield 22, 3) := by decide +kernel
theorem dX1_takeBack_19 : decode cX1_takeBack 19 = .ok (.aload_n 0, 1) := by decide +kernel
theorem dX1_takeBack_20 : decode cX1_takeBack 20 = .ok (.getfield 18, 3) := by decide +kernel
theorem dX1_takeBack_23 : decode cX1_takeBack 23 = .ok (.iadd, 1) := by decide +kernel
theorem dX1_takeBack_24 : decode cX1_takeBack 24 = .ok (.bipush 6, 2) := by decide +kernel
theorem dX1_takeBack_26 : decode cX1_takeBack 26 = .ok (.irem, 1) := by decide +kernel
theorem dX1_takeBack_27 : decode cX1_takeBack 27 = .ok (.aaload, 1) := by decide +kernel
theorem dX1_takeBack_28 : decode cX1_takeBack 28 = .ok (.invokevirtual 25, 3) := by decide +kernel
theorem dX1_takeBack_31 : decode cX1_takeBack 31 = .ok (.return_, 1) := by decide +kernel
theorem dX2_init_0 : decode cX2_init 0 = .ok (.aload_n 0, 1) := by decide +kernel
theorem dX2_init_1 : decode cX2_init 1 = .ok (.invokespecial 3, 3) := by decide +kernel
theorem dX2_init_4 : decode cX2_init 4 = .ok (.aload_n 0, 1) := by decide +kernel
theorem dX2_init_5 : decode cX2_init 5 = .ok (.bipush 20, 2) := by decide +kernel
theorem dX2_init_7 : decode cX2_init 7 = .ok (.newarray .char, 2) := by decide +kernel
theorem dX2_init_9 : decode cX2_init 9 = .ok (.putfield 9, 3) := by decide +kernel
theorem dX2_init_12 : decode cX2_init 12 = .ok (.return_, 1) := by decide +kernel
theorem dX2_lengthOf_0 : decode cX2_lengthOf 0 = .ok (.iconst 0, 1) := by decide +kernel
theorem dX2_lengthOf_1 : decode cX2_lengthOf 1 = .ok (.istore_n 2, 1) := by decide +kernel
theorem dX2_lengthOf_2 : decode cX2_lengthOf 2 = .ok (.lload_n 0, 1) := by decide +kernel
theorem dX2_lengthOf_3 : decode cX2_lengthOf 3 = .ok (.lstore_n 3, 1) := by decide +kernel
theorem dX2_lengthOf_4 : decode cX2_lengthOf 4 = .ok (.lload_n 3, 1) := by decide +kernel
theorem dX2_lengthOf_5 : decode cX2_lengthOf 5 = .ok (.lconst 0, 1) := by decide +kernel
theorem dX2_lengthOf_6 : decode cX2_lengthOf 6 = .ok (.lcmp, 1) := by decide +kernel
theorem dX2_lengthOf_7 : decode cX2_lengthOf 7 = .ok (.ifCond .eq 42, 3) := by decide +kernel
theorem dX2_lengthOf_10 : decode cX2_lengthOf 10 = .ok (.iload_n 2, 1) := by decide +kernel
theorem dX2_lengthOf_11 : decode cX2_lengthOf 11 = .ok (.bipush 8, 2) := by decide +kernel
theorem dX2_lengthOf_13 : decode cX2_lengthOf 13 = .ok (.if_icmp .ge 36, 3) := by decide +kernel
theorem dX2_lengthOf_16 : decode cX2_lengthOf 16 = .ok (.lload_n 3, 1) := by decide +kernel
theorem dX2_lengthOf_17 : decode cX2_lengthOf 17 = .ok (.ldc2_w 15, 3) := by decide +kernel
theorem dX2_lengthOf_20 : decode cX2_lengthOf 20 = .ok (.land, 1) := by decide +kernel
theorem dX2_lengthOf_21 : decode cX2_lengthOf 21 = .ok (.l2i, 1) := by decide +kernel
theorem dX2_lengthOf_22 : decode cX2_lengthOf 22 = .ok (.istore 5, 2) := by decide +kernel
theorem dX2_lengthOf_24 : decode cX2_lengthOf 24 = .ok (.iload 5, 2) := by decide +kernel
theorem dX2_lengthOf_26 : decode cX2_lengthOf 26 = .ok (.bipush 33, 2) := by decide +kernel
theorem dX2_lengthOf_28 : decode cX2_lengthOf 28 = .ok (.bipush 126, 2) := by decide +kernel
theorem dX2_lengthOf_30 : decode cX2_lengthOf 30 = .ok (.invokestatic 17, 3) := by decide +kernel
theorem dX2_lengthOf_33 : decode cX2_lengthOf 33 = .ok (.ifCond .ne 5, 3) := by decide +kernel
theorem dX2_lengthOf_36 : decode cX2_lengthOf 36 = .ok (.iconst 0, 1) := by decide +kernel
theorem dX2_lengthOf_37 : decode cX2_lengthOf 37 = .ok (.ireturn, 1) := by decide +kernel
theorem dX2_lengthOf_38 : decode cX2_lengthOf 38 = .ok (.lload_n 3, 1) := by decide +kernel
theorem dX2_lengthOf_39 : decode cX2_lengthOf 39 = .ok (.bipush 8, 2) := by decide +kernel
theorem dX2_lengthOf_41 : decode cX2_lengthOf 41 = .ok (.lushr, 1) := by decide +kernel
theorem dX2_lengthOf_42 : decode cX2_lengthOf 42 = .ok (.lstore_n 3, 1) := by decide +kernel
theorem dX2_lengthOf_43 : decode cX2_lengthOf 43 = .ok (.iinc 2 1, 3) := by decide +kernel
theorem dX2_lengthOf_46 : decode cX2_lengthOf 46 = .ok (.goto (-42), 3) := by decide +kernel
theorem dX2_lengthOf_49 : decode cX2_lengthOf 49 = .ok (.iload_n 2, 1) := by decide +kernel
theorem dX2_lengthOf_50 : decode cX2_lengthOf 50 = .ok (.ireturn, 1) := by decide +kernel
theorem dX2_append_0 : decode cX2_append 0 = .ok (.iload_n 3, 1) := by decide +kernel
theorem dX2_append_1 : decode cX2_append 1 = .ok (.iconst 1, 1) := by decide +kernel
theorem dX2_append_2 : decode cX2_append 2 = .ok (.isub, 1) := by decide +kernel
theorem dX2_append_3 : decode cX2_append 3 = .ok (.istore 4, 2) := by decide +kernel
theorem dX2_append_5 : decode cX2_append 5 = .ok (.iload 4, 2) := by decide +kernel
theorem dX2_append_7 : decode cX2_append 7 = .ok (.ifCond .lt 41, 3) := by decide +kernel
theorem dX2_append_10 : decode cX2_append 10 = .ok (.aload_n 0, 1) := by decide +kernel
theorem dX2_append_11 : decode cX2_append 11 = .ok (.getfield 9, 3) := by decide +kernel
theorem dX2_append_14 : decode cX2_append 14 = .ok (.aload_n 0, 1) := by decide +kernel
theorem dX2_append_15 : decode cX2_append 15 = .ok (.getfield 21, 3) := by decide +kernel
theorem dX2_append_18 : decode cX2_append 18 = .ok (.lload_n 1, 1) := by decide +kernel
theorem dX2_append_19 : decode cX2_append 19 = .ok (.bipush 8, 2) := by decide +kernel
theorem dX2_append_21 : decode cX2_append 21 = .ok (.iload 4, 2) := by decide +kernel
theorem dX2_append_23 : decode cX2_append 23 = .ok (.imul, 1) := by decide +kernel
theorem dX2_append_24 : decode cX2_append 24 = .ok (.lushr, 1) := by decide +kernel
theorem dX2_append_25 : decode cX2_append 25 = .ok (.ldc2_w 15, 3) := by decide +kernel
theorem dX2_append_28 : decode cX2_append 28 = .ok (.land, 1) := by decide +kernel
theorem dX2_append_29 : decode cX2_append 29 = .ok (.l2i, 1) := by decide +kernel
theorem dX2_append_30 : decode cX2_append 30 = .ok (.i2c, 1) := by decide +kernel
theorem dX2_append_31 : decode cX2_append 31 = .ok (.castore, 1) := by decide +kernel
theorem dX2_append_32 : decode cX2_append 32 = .ok (.aload_n 0, 1) := by decide +kernel
theorem dX2_append_33 : decode cX2_append 33 = .ok (.dup, 1) := by decide +kernel
theorem dX2_append_34 : decode cX2_append 34 = .ok (.getfield 21, 3) := by decide +kernel
theorem dX2_append_37 : decode cX2_append 37 = .ok (.iconst 1, 1) := by decide +kernel
theorem dX2_append_38 : decode cX2_append 38 = .ok (.iadd, 1) := by decide +kernel
theorem dX2_append_39 : decode cX2_append 39 = .ok (.putfield 21, 3) := by decide +kernel
theorem dX2_append_42 : decode cX2_append 42 = .ok (.iinc 4 (-1), 3) := by decide +kernel
theorem dX2_append_45 : decode cX2_append 45 = .ok (.goto (-40), 3) := by decide +kernel
theorem dX2_append_48 : decode cX2_append 48 = .ok (.return_, 1) := by decide +kernel
theorem dX2_firstFault_0 : decode cX2_firstFault 0 = .ok (.iconst 0, 1) := by decide +kernel
theorem dX2_firstFault_1 : decode cX2_firstFault 1 = .ok (.istore_n 1, 1) := by decide +kernel
theorem dX2_firstFault_2 : decode cX2_firstFault 2 = .ok (.iconst 0, 1) := by decide +kernel
theorem dX2_firstFault_3 : decode cX2_firstFault 3 = .ok (.istore_n 2, 1) := by decide +kernel
theorem dX2_firstFault_4 : decode cX2_firstFault 4 = .ok (.iload_n 2, 1) := by decide +kernel
theorem dX2_firstFault_5 : decode cX2_firstFault 5 = .ok (.aload_n 0, 1) := by decide +kernel
theorem dX2_firstFault_6 : decode cX2_firstFault 6 = .ok (.getfield 21, 3) := by decide +kernel
theorem dX2_firstFault_9 : decode cX2_firstFault 9 = .ok (.if_icmp .ge 70, 3) := by decide +kernel
theorem dX2_firstFault_12 : decode cX2_firstFault 12 = .ok (.iload_n 2, 1) := by decide +kernel
theorem dX2_firstFault_13 : decode cX2_firstFault 13 = .ok (.iconst 2, 1) := by decide +kernel
theorem dX2_firstFault_14 : decode cX2_firstFault 14 = .ok (.irem, 1) := by decide +kernel
theorem dX2_firstFault_15 : decode cX2_firstFault 15 = .ok (.iconst 1, 1) := by decide +kernel
theorem dX2_firstFault_16 : decode cX2_firstFault 16 = .ok (.if_icmp .ne 23, 3) := by decide +kernel
theorem dX2_firstFault_19 : decode cX2_firstFault 19 = .ok (.aload_n 0, 1) := by decide +kernel
theorem dX2_firstFault_20 : decode cX2_firstFault 20 = .ok (.getfield 9, 3) := by decide +kernel
theorem dX2_firstFault_23 : decode cX2_firstFault 23 = .ok (.iload_n 2, 1) := by decide +kernel
theorem dX2_firstFault_24 : decode cX2_firstFault 24 = .ok (.caload, 1) := by decide +kernel
theorem dX2_firstFault_25 : decode cX2_firstFault 25 = .ok (.bipush 62, 2) := by decide +kernel
theorem dX2_firstFault_27 : decode cX2_firstFault 27 = .ok (.if_icmp .ne 10, 3) := by decide +kernel
theorem dX2_firstFault_30 : decode cX2_firstFault 30 = .ok (.iload_n 1, 1) := by decide +kernel
theorem dX2_firstFault_31 : decode cX2_firstFault 31 = .ok (.sipush 255, 3) := by decide +kernel
theorem dX2_firstFault_34 : decode cX2_firstFault 34 = .ok (.if_icmp .ne 39, 3) := by decide +kernel
theorem dX2_firstFault_37 : decode cX2_firstFault 37 = .ok (.iload_n 2, 1) := by decide +kernel
theorem dX2_firstFault_38 : decode cX2_firstFault 38 = .ok (.ireturn, 1) := by decide +kernel
theorem dX2_firstFault_39 : decode cX2_firstFault 39 = .ok (.aload_n 0, 1) := by decide +kernel
theorem dX2_firstFault_40 : decode cX2_firstFault 40 = .ok (.getfield 9, 3) := by decide +kernel
theorem dX2_firstFault_43 : decode cX2_firstFault 43 = .ok (.iload_n 2, 1) := by decide +kernel
theorem dX2_firstFault_44 : decode cX2_firstFault 44 = .ok (.caload, 1) := by decide +kernel
theorem dX2_firstFault_45 : decode cX2_firstFault 45 = .ok (.bipush 97, 2) := by decide +kernel
theorem dX2_firstFault_47 : decode cX2_firstFault 47 = .ok (.isub, 1) := by decide +kernel
theorem dX2_firstFault_48 : decode cX2_firstFault 48 = .ok (.istore_n 3, 1) := by decide +kernel
theorem dX2_firstFault_49 : decode cX2_firstFault 49 = .ok (.iload_n 3, 1) := by decide +kernel
theorem dX2_firstFault_50 : decode cX2_firstFault 50 = .ok (.invokestatic 25, 3) := by decide +kernel
theorem dX2_firstFault_53 : decode cX2_firstFault 53 = .ok (.ifCond .eq 12, 3) := by decide +kernel
theorem dX2_firstFault_56 : decode cX2_firstFault 56 = .ok (.iload_n 1, 1) := by decide +kernel
theorem dX2_firstFault_57 : decode cX2_firstFault 57 = .ok (.iload_n 3, 1) := by decide +kernel
theorem dX2_firstFault_58 : decode cX2_firstFault 58 = .ok (.ishr, 1) := by decide +kernel
theorem dX2_firstFault_59 : decode cX2_firstFault 59 = .ok (.iconst 1, 1) := by decide +kernel
theorem dX2_firstFault_60 : decode cX2_firstFault 60 = .ok (.iand, 1) := by decide +kernel
theorem dX2_firstFault_61 : decode cX2_firstFault 61 = .ok (.iconst 1, 1) := by decide +kernel
theorem dX2_firstFault_62 : decode cX2_firstFault 62 = .ok (.if_icmp .ne 5, 3) := by decide +kernel
theorem dX2_firstFault_65 : decode cX2_firstFault 65 = .ok (.iload_n 2, 1) := by decide +kernel
theorem dX2_firstFault_66 : decode cX2_firstFault 66 = .ok (.ireturn, 1) := by decide +kernel
theorem dX2_firstFault_67 : decode cX2_firstFault 67 = .ok (.iload_n 1, 1) := by decide +kernel
theorem dX2_firstFault_68 : decode cX2_firstFault 68 = .ok (.iconst 1, 1) := by decide +kernel
theorem dX2_firstFault_69 : decode cX2_firstFault 69 = .ok (.iload_n 3, 1) := by decide +kernel
theorem dX2_firstFault_70 : decode cX2_firstFault 70 = .ok (.ishl, 1) := by decide +kernel
theorem dX2_firstFault_71 : decode cX2_firstFault 71 = .ok (.ior, 1) := by decide +kernel
theorem dX2_firstFault_72 : decode cX2_firstFault 72 = .ok (.istore_n 1, 1) := by decide +kernel
theorem dX2_firstFault_73 : decode cX2_firstFault 73 = .ok (.iinc 2 1, 3) := by decide +kernel
theorem dX2_firstFault_76 : decode cX2_firstFault 76 = .ok (.goto (-72), 3) := by decide +kernel
theorem dX2_firstFault_79 : decode cX2_firstFault 79 = .ok (.aload_n 0, 1) := by decide +kernel
theorem dX2_firstFault_80 : decode cX2_firstFault 80 = .ok (.getfield 21, 3) := by decide +kernel
theorem dX2_firstFault_83 : decode cX2_firstFault 83 = .ok (.iconst 2, 1) := by decide +kernel
theorem dX2_firstFault_84 : decode cX2_firstFault 84 = .ok (.irem, 1) := by decide +kernel
theorem dX2_firstFault_85 : decode cX2_firstFault 85 = .ok (.ifCond .ne 10, 3) := by decide +kernel
theorem dX2_firstFault_88 : decode cX2_firstFault 88 = .ok (.aload_n 0, 1) := by decide +kernel
theorem dX2_firstFault_89 : decode cX2_firstFault 89 = .ok (.getfield 21, 3) := by decide +kernel
theorem dX2_firstFault_92 : decode cX2_firstFault 92 = .ok (.goto 5, 3) := by decide +kernel
theorem dX2_firstFault_95 : decode cX2_firstFault 95 = .ok (.ldc 29, 2) := by decide +kernel
theorem dX2_firstFault_97 : decode cX2_firstFault 97 = .ok (.ireturn, 1) := by decide +kernel
theorem dX2_moveTo_0 : decode cX2_moveTo 0 = .ok (.aload_n 1, 1) := by decide +kernel
theorem dX2_moveTo_1 : decode cX2_moveTo 1 = .ok (.aload_n 0, 1) := by decide +kernel
theorem dX2_moveTo_2 : decode cX2_moveTo 2 = .ok (.getfield 21, 3) := by decide +kernel
theorem dX2_moveTo_5 : decode cX2_moveTo 5 = .ok (.iconst 1, 1) := by decide +kernel
theorem dX2_moveTo_6 : decode cX2_moveTo 6 = .ok (.iadd, 1) := by decide +kernel
theorem dX2_moveTo_7 : decode cX2_moveTo 7 = .ok (.iconst 2, 1) := by decide +kernel
theorem dX2_moveTo_8 : decode cX2_moveTo 8 = .ok (.idiv, 1) := by decide +kernel
theorem dX2_moveTo_9 : decode cX2_moveTo 9 = .ok (.bipush 8, 2) := by decide +kernel
theorem dX2_moveTo_11 : decode cX2_moveTo 11 = .ok (.invokestatic 30, 3) := by decide +kernel
theorem dX2_moveTo_14 : decode cX2_moveTo 14 = .ok (.putfield 36, 3) := by decide +kernel
theorem dX2_moveTo_17 : decode cX2_moveTo 17 = .ok (.iconst 0, 1) := by decide +kernel
theorem dX2_moveTo_18 : decode cX2_moveTo 18 = .ok (.istore_n 2, 1) := by decide +kernel
theorem dX2_moveTo_19 : decode cX2_moveTo 19 = .ok (.iload_n 2, 1) := by decide +kernel
theorem dX2_moveTo_20 : decode cX2_moveTo 20 = .ok (.aload_n 1, 1) := by decide +kernel
theorem dX2_moveTo_21 : decode cX2_moveTo 21 = .ok (.getfield 36, 3) := by decide +kernel
theorem dX2_moveTo_24 : decode cX2_moveTo 24 = .ok (.if_icmp .ge 26, 3) := by decide +kernel
theorem dX2_moveTo_27 : decode cX2_moveTo 27 = .ok (.aload_n 1, 1) := by decide +kernel
theorem dX2_moveTo_28 : decode cX2_moveTo 28 = .ok (.getfield 39, 3) := by decide +kernel
theorem dX2_moveTo_31 : decode cX2_moveTo 31 = .ok (.iload_n 2, 1) := by decide +kernel
theorem dX2_moveTo_32 : decode cX2_moveTo 32 = .ok (.aload_n 0, 1) := by decide +kernel
theorem dX2_moveTo_33 : decode cX2_moveTo 33 = .ok (.getfield 9, 3) := by decide +kernel
theorem dX2_moveTo_36 : decode cX2_moveTo 36 = .ok (.iconst 2, 1) := by decide +kernel
theorem dX2_moveTo_37 : decode cX2_moveTo 37 = .ok (.iload_n 2, 1) := by decide +kernel
theorem dX2_moveTo_38 : decode cX2_moveTo 38 = .ok (.imul, 1) := by decide +kernel
theorem dX2_moveTo_39 : decode cX2_moveTo 39 = .ok (.caload, 1) := by decide +kernel
theorem dX2_moveTo_40 : decode cX2_moveTo 40 = .ok (.bipush 97, 2) := by decide +kernel
theorem dX2_moveTo_42 : decode cX2_moveTo 42 = .ok (.isub, 1) := by decide +kernel
theorem dX2_moveTo_43 : decode cX2_moveTo 43 = .ok (.iastore, 1) := by decide +kernel
theorem dX2_moveTo_44 : decode cX2_moveTo 44 = .ok (.iinc 2 1, 3) := by decide +kernel
theorem dX2_moveTo_47 : decode cX2_moveTo 47 = .ok (.goto (-28), 3) := by decide +kernel
theorem dX2_moveTo_50 : decode cX2_moveTo 50 = .ok (.aload_n 0, 1) := by decide +kernel
theorem dX2_moveTo_51 : decode cX2_moveTo 51 = .ok (.iconst 0, 1) := by decide +kernel
theorem dX2_moveTo_52 : decode cX2_moveTo 52 = .ok (.putfield 21, 3) := by decide +kernel
theorem dX2_moveTo_55 : decode cX2_moveTo 55 = .ok (.return_, 1) := by decide +kernel
theorem dX3_init_0 : decode cX3_init 0 = .ok (.aload_n 0, 1) := by decide +kernel
theorem dX3_init_1 : decode cX3_init 1 = .ok (.invokespecial 3, 3) := by decide +kernel
theorem dX3_init_4 : decode cX3_init 4 = .ok (.aload_n 0, 1) := by decide +kernel
theorem dX3_init_5 : decode cX3_init 5 = .ok (.iconst 3, 1) := by decide +kernel
theorem dX3_init_6 : decode cX3_init 6 = .ok (.newarray .int, 2) := by decide +kernel
theorem dX3_init_8 : decode cX3_init 8 = .ok (.putfield 9, 3) := by decide +kernel
theorem dX3_init_11 : decode cX3_init 11 = .ok (.aload_n 0, 1) := by decide +kernel
theorem dX3_init_12 : decode cX3_init 12 = .ok (.bipush 8, 2) := by decide +kernel
theorem dX3_init_14 : decode cX3_init 14 = .ok (.newarray .int, 2) := by decide +kernel
theorem dX3_init_16 : decode cX3_init 16 = .ok (.putfield 15, 3) := by decide +kernel
theorem dX3_init_19 : decode cX3_init 19 = .ok (.aload_n 0, 1) := by decide +kernel
theorem dX3_init_20 : decode cX3_init 20 = .ok (.bipush 8, 2) := by decide +kernel
theorem dX3_init_22 : decode cX3_init 22 = .ok (.newarray .int, 2) := by decide +kernel
theorem dX3_init_24 : decode cX3_init 24 = .ok (.putfield 18, 3) := by decide +kernel
theorem dX3_init_27 : decode cX3_init 27 = .ok (.aload_n 0, 1) := by decide +kernel
theorem dX3_init_28 : decode cX3_init 28 = .ok (.bipush 8, 2) := by decide +kernel
theorem dX3_init_30 : decode cX3_init 30 = .ok (.newarray .int, 2) := by decide +kernel
theorem dX3_init_32 : decode cX3_init 32 = .ok (.putfield 21, 3) := by decide +kernel
theorem dX3_init_35 : decode cX3_init 35 = .ok (.aload_n 0, 1) := by decide +kernel
theorem dX3_init_36 : decode cX3_init 36 = .ok (.bipush 6, 2) := by decide +kernel
theorem dX3_init_38 : decode cX3_init 38 = .ok (.anewarray 24, 3) := by decide +kernel
theorem dX3_init_41 : decode cX3_init 41 = .ok (.putfield 26, 3) := by decide +kernel
theorem dX3_init_44 : decode cX3_init 44 = .ok (.getstatic 30, 3) := by decide +kernel
theorem dX3_init_47 : decode cX3_init 47 = .ok (.iconst 0, 1) := by decide +kernel
theorem dX3_init_48 : decode cX3_init 48 = .ok (.aload_n 0, 1) := by decide +kernel
theorem dX3_init_49 : decode cX3_init 49 = .ok (.getfield 9, 3) := by decide +kernel
theorem dX3_init_52 : decode cX3_init 52 = .ok (.iconst 0, 1) := by decide +kernel
theorem dX3_init_53 : decode cX3_init 53 = .ok (.iconst 3, 1) := by decide +kernel
theorem dX3_init_54 : decode cX3_init 54 = .ok (.invokestatic 33, 3) := by decide +kernel
theorem dX3_init_57 : decode cX3_init 57 = .ok (.iconst 0, 1) := by decide +kernel
theorem dX3_init_58 : decode cX3_init 58 = .ok (.istore_n 1, 1) := by decide +kernel
theorem dX3_init_59 : decode cX3_init 59 = .ok (.iload_n 1, 1) := by decide +kernel
theorem dX3_init_60 : decode cX3_init 60 = .ok (.bipush 8, 2) := by decide +kernel
theorem dX3_init_62 : decode cX3_init 62 = .ok (.if_icmp .ge 25, 3) := by decide +kernel
theorem dX3_init_65 : decode cX3_init 65 = .ok (.aload_n 0, 1) := by decide +kernel
theorem dX3_init_66 : decode cX3_init 66 = .ok (.getfield 15, 3) := by decide +kernel
theorem dX3_init_69 : decode cX3_init 69 = .ok (.iload_n 1, 1) := by decide +kernel
theorem dX3_init_70 : decode cX3_init 70 = .ok (.iconst 2, 1) := by decide +kernel
theorem dX3_init_71 : decode cX3_init 71 = .ok (.iload_n 1, 1) := by decide +kernel
theorem dX3_init_72 : decode cX3_init 72 = .ok (.imul, 1) := by decide +kernel
theorem dX3_init_73 : decode cX3_init 73 = .ok (.iastore, 1) := by decide +kernel
theorem dX3_init_74 : decode cX3_init 74 = .ok (.aload_n 0, 1) := by decide +kernel
theorem dX3_init_75 : decode cX3_init 75 = .ok (.getfield 21, 3) := by decide +kernel
theorem dX3_init_78 : decode cX3_init 78 = .ok (.iload_n 1, 1) := by decide +kernel
theorem dX3_init_79 : decode cX3_init 79 = .ok (.iconst 5, 1) := by decide +kernel
theorem dX3_init_80 : decode cX3_init 80 = .ok (.iastore, 1) := by decide +kernel
theorem dX3_init_81 : decode cX3_init 81 = .ok (.iinc 1 1, 3) := by decide +kernel
theorem dX3_init_84 : decode cX3_init 84 = .ok (.goto (-25), 3) := by decide +kernel
theorem dX3_init_87 : decode cX3_init 87 = .ok (.iconst 0, 1) := by decide +kernel
theorem dX3_init_88 : decode cX3_init 88 = .ok (.istore_n 1, 1) := by decide +kernel
theorem dX3_init_89 : decode cX3_init 89 = .ok (.iload_n 1, 1) := by decide +kernel
theorem dX3_init_90 : decode cX3_init 90 = .ok (.bipush 6, 2) := by decide +kernel
theorem dX3_init_92 : decode cX3_init 92 = .ok (.if_icmp .ge 22, 3) := by decide +kernel
theorem dX3_init_95 : decode cX3_init 95 = .ok (.aload_n 0, 1) := by decide +kernel
theorem dX3_init_96 : decode cX3_init 96 = .ok (.getfield 26, 3) := by decide +kernel
theorem dX3_init_99 : decode cX3_init 99 = .ok (.iload_n 1, 1) := by decide +kernel
theorem dX3_init_100 : decode cX3_init 100 = .ok (.new 24, 3) := by decide +kernel
theorem dX3_init_103 : decode cX3_init 103 = .ok (.dup, 1) := by decide +kernel
theorem dX3_init_104 : decode cX3_init 104 = .ok (.invokespecial 39, 3) := by decide +kernel
theorem dX3_init_107 : decode cX3_init 107 = .ok (.aastore, 1) := by decide +kernel
theorem dX3_init_108 : decode cX3_init 108 = .ok (.iinc 1 1, 3) := by decide +kernel
theorem dX3_init_111 : decode cX3_init 111 = .ok (.goto (-22), 3) := by decide +kernel
theorem dX3_init_114 : decode cX3_init 114 = .ok (.return_, 1) := by decide +kernel
theorem dX3_copyFrom_0 : decode cX3_copyFrom 0 = .ok (.aload_n 1, 1) := by decide +kernel
theorem dX3_copyFrom_1 : decode cX3_copyFrom 1 = .ok (.getfield 9, 3) := by decide +kernel
theorem dX3_copyFrom_4 : decode cX3_copyFrom 4 = .ok (.iconst 0, 1) := by decide +kernel
theorem dX3_copyFrom_5 : decode cX3_copyFrom 5 = .ok (.aload_n 0, 1) := by decide +kernel
theorem dX3_copyFrom_6 : decode cX3_copyFrom 6 = .ok (.getfield 9, 3) := by decide +kernel
theorem dX3_copyFrom_9 : decode cX3_copyFrom 9 = .ok (.iconst 0, 1) := by decide +kernel
theorem dX3_copyFrom_10 : decode cX3_copyFrom 10 = .ok (.iconst 3, 1) := by decide +kernel
theorem dX3_copyFrom_11 : decode cX3_copyFrom 11 = .ok (.invokestatic 33, 3) := by decide +kernel
theorem dX3_copyFrom_14 : decode cX3_copyFrom 14 = .ok (.aload_n 1, 1) := by decide +kernel
theorem dX3_copyFrom_15 : decode cX3_copyFrom 15 = .ok (.getfield 15, 3) := by decide +kernel
theorem dX3_copyFrom_18 : decode cX3_copyFrom 18 = .ok (.iconst 0, 1) := by decide +kernel
theorem dX3_copyFrom_19 : decode cX3_copyFrom 19 = .ok (.aload_n 0, 1) := by decide +kernel
theorem dX3_copyFrom_20 : decode cX3_copyFrom 20 = .ok (.getfield 15, 3) := by decide +kernel
theorem dX3_copyFrom_23 : decode cX3_copyFrom 23 = .ok (.iconst 0, 1) := by decide +kernel
theorem dX3_copyFrom_24 : decode cX3_copyFrom 24 = .ok (.bipush 8, 2) := by decide +kernel
theorem dX3_copyFrom_26 : decode cX3_copyFrom 26 = .ok (.invokestatic 33, 3) := by decide +kernel
theorem dX3_copyFrom_29 : decode cX3_copyFrom 29 = .ok (.aload_n 1, 1) := by decide +kernel
theorem dX3_copyFrom_30 : decode cX3_copyFrom 30 = .ok (.getfield 18, 3) := by decide +kernel
theorem dX3_copyFrom_33 : decode cX3_copyFrom 33 = .ok (.iconst 0, 1) := by decide +kernel
theorem dX3_copyFrom_34 : decode cX3_copyFrom 34 = .ok (.aload_n 0, 1) := by decide +kernel
theorem dX3_copyFrom_35 : decode cX3_copyFrom 35 = .ok (.getfield 18, 3) := by decide +kernel
theorem dX3_copyFrom_38 : decode cX3_copyFrom 38 = .ok (.iconst 0, 1) := by decide +kernel
theorem dX3_copyFrom_39 : decode cX3_copyFrom 39 = .ok (.bipush 8, 2) := by decide +kernel
theorem dX3_copyFrom_41 : decode cX3_copyFrom 41 = .ok (.invokestatic 33, 3) := by decide +kernel
theorem dX3_copyFrom_44 : decode cX3_copyFrom 44 = .ok (.aload_n 1, 1) := by decide +kernel
theorem dX3_copyFrom_45 : decode cX3_copyFrom 45 = .ok (.getfield 21, 3) := by decide +kernel
theorem dX3_copyFrom_48 : decode cX3_copyFrom 48 = .ok (.iconst 0, 1) := by decide +kernel
theorem dX3_copyFrom_49 : decode cX3_copyFrom 49 = .ok (.aload_n 0, 1) := by decide +kernel
theorem dX3_copyFrom_50 : decode cX3_copyFrom 50 = .ok (.getfield 21, 3) := by decide +kernel
theorem dX3_copyFrom_53 : decode cX3_copyFrom 53 = .ok (.iconst 0, 1) := by decide +kernel
theorem dX3_copyFrom_54 : decode cX3_copyFrom 54 = .ok (.bipush 8, 2) := by decide +kernel
theorem dX3_copyFrom_56 : decode cX3_copyFrom 56 = .ok (.invokestatic 33, 3) := by decide +kernel
theorem dX3_copyFrom_59 : decode cX3_copyFrom 59 = .ok (.aload_n 0, 1) := by decide +kernel
theorem dX3_copyFrom_60 : decode cX3_copyFrom 60 = .ok (.aload_n 1, 1) := by decide +kernel
theorem dX3_copyFrom_61 : decode cX3_copyFrom 61 = .ok (.getfield 40, 3) := by decide +kernel
theorem dX3_copyFrom_64 : decode cX3_copyFrom 64 = .ok (.putfield 40, 3) := by decide +kernel
theorem dX3_copyFrom_67 : decode cX3_copyFrom 67 = .ok (.iconst 0, 1) := by decide +kernel
theorem dX3_copyFrom_68 : decode cX3_copyFrom 68 = .ok (.istore_n 2, 1) := by decide +kernel
theorem dX3_copyFrom_69 : decode cX3_copyFrom 69 = .ok (.iload_n 2, 1) := by decide +kernel
theorem dX3_copyFrom_70 : decode cX3_copyFrom 70 = .ok (.bipush 6, 2) := by decide +kernel
theorem dX3_copyFrom_72 : decode cX3_copyFrom 72 = .ok (.if_icmp .ge 24, 3) := by decide +kernel
theorem dX3_copyFrom_75 : decode cX3_copyFrom 75 = .ok (.aload_n 0, 1) := by decide +kernel
theorem dX3_copyFrom_76 : decode cX3_copyFrom 76 = .ok (.getfield 26, 3) := by decide +kernel
theorem dX3_copyFrom_79 : decode cX3_copyFrom 79 = .ok (.iload_n 2, 1) := by decide +kernel
theorem dX3_copyFrom_80 : decode cX3_copyFrom 80 = .ok (.aaload, 1) := by decide +kernel
theorem dX3_copyFrom_81 : decode cX3_copyFrom 81 = .ok (.aload_n 1, 1) := by decide +kernel
theorem dX3_copyFrom_82 : decode cX3_copyFrom 82 = .ok (.getfield 26, 3) := by decide +kernel
theorem dX3_copyFrom_85 : decode cX3_copyFrom 85 = .ok (.iload_n 2, 1) := by decide +kernel
theorem dX3_copyFrom_86 : decode cX3_copyFrom 86 = .ok (.aaload, 1) := by decide +kernel
theorem dX3_copyFrom_87 : decode cX3_copyFrom 87 = .ok (.invokevirtual 44, 3) := by decide +kernel
theorem dX3_copyFrom_90 : decode cX3_copyFrom 90 = .ok (.iinc 2 1, 3) := by decide +kernel
theorem dX3_copyFrom_93 : decode cX3_copyFrom 93 = .ok (.goto (-24), 3) := by decide +kernel
theorem dX3_copyFrom_96 : decode cX3_copyFrom 96 = .ok (.aload_n 0, 1) := by decide +kernel
theorem dX3_copyFrom_97 : decode cX3_copyFrom 97 = .ok (.aload_n 1, 1) := by decide +kernel
theorem dX3_copyFrom_98 : decode cX3_copyFrom 98 = .ok (.getfield 48, 3) := by decide +kernel
theorem dX3_copyFrom_101 : decode cX3_copyFrom 101 = .ok (.putfield 48, 3) := by decide +kernel
theorem dX3_copyFrom_104 : decode cX3_copyFrom 104 = .ok (.return_, 1) := by decide +kernel
theorem dX3_isClosed_0 : decode cX3_isClosed 0 = .ok (.aload_n 0, 1) := by decide +kernel
theorem dX3_isClosed_1 : decode cX3_isClosed 1 = .ok (.getfield 40, 3) := by decide +kernel
theorem dX3_isClosed_4 : decode cX3_isClosed 4 = .ok (.iload_n 1, 1) := by decide +kernel
theorem dX3_isClosed_5 : decode cX3_isClosed 5 = .ok (.ishr, 1) := by decide +kernel
theorem dX3_isClosed_6 : decode cX3_isClosed 6 = .ok (.iconst 1, 1) := by decide +kernel
theorem dX3_isClosed_7 : decode cX3_isClosed 7 = .ok (.iand, 1) := by decide +kernel
theorem dX3_isClosed_8 : decode cX3_isClosed 8 = .ok (.iconst 1, 1) := by decide +kernel
theorem dX3_isClosed_9 : decode cX3_isClosed 9 = .ok (.if_icmp .ne 7, 3) := by decide +kernel
theorem dX3_isClosed_12 : decode cX3_isClosed 12 = .ok (.iconst 1, 1) := by decide +kernel
theorem dX3_isClosed_13 : decode cX3_isClosed 13 = .ok (.goto 4, 3) := by decide +kernel
theorem dX3_isClosed_16 : decode cX3_isClosed 16 = .ok (.iconst 0, 1) := by decide +kernel
theorem dX3_isClosed_17 : decode cX3_isClosed 17 = .ok (.ireturn, 1) := by decide +kernel
theorem dX3_openPlaces_0 : decode cX3_openPlaces 0 = .ok (.bipush 8, 2) := by decide +kernel
theorem dX3_openPlaces_2 : decode cX3_openPlaces 2 = .ok (.aload_n 0, 1) := by decide +kernel
theorem dX3_openPlaces_3 : decode cX3_openPlaces 3 = .ok (.getfield 40, 3) := by decide +kernel
theorem dX3_openPlaces_6 : decode cX3_openPlaces 6 = .ok (.invokestatic 51, 3) := by decide +kernel
theorem dX3_openPlaces_9 : decode cX3_openPlaces 9 = .ok (.isub, 1) := by decide +kernel
theorem dX3_openPlaces_10 : decode cX3_openPlaces 10 = .ok (.ireturn, 1) := by decide +kernel
theorem dX3_trailLength_0 : decode cX3_trailLength 0 = .ok (.iconst 0, 1) := by decide +kernel
theorem dX3_trailLength_1 : decode cX3_trailLength 1 = .ok (.istore_n 2, 1) := by decide +kernel
theorem dX3_trailLength_2 : decode cX3_trailLength 2 = .ok (.iconst 0, 1) := by decide +kernel
theorem dX3_trailLength_3 : decode cX3_trailLength 3 = .ok (.istore_n 3, 1) := by decide +kernel
theorem dX3_trailLength_4 : decode cX3_trailLength 4 = .ok (.iload_n 3, 1) := by decide +kernel
theorem dX3_trailLength_5 : decode cX3_trailLength 5 = .ok (.aload_n 0, 1) := by decide +kernel
theorem dX3_trailLength_6 : decode cX3_trailLength 6 = .ok (.getfield 26, 3) := by decide +kernel
theorem dX3_trailLength_9 : decode cX3_trailLength 9 = .ok (.iload_n 1, 1) := by decide +kernel
theorem dX3_trailLength_10 : decode cX3_trailLength 10 = .ok (.aaload, 1) := by decide +kernel
theorem dX3_trailLength_11 : decode cX3_trailLength 11 = .ok (.getfield 57, 3) := by decide +kernel
theorem dX3_trailLength_14 : decode cX3_trailLength 14 = .ok (.if_icmp .ge 30, 3) := by decide +kernel
theorem dX3_trailLength_17 : decode cX3_trailLength 17 = .ok (.aload_n 0, 1) := by decide +kernel
theorem dX3_trailLength_18 : decode cX3_trailLength 18 = .ok (.aload_n 0, 1) := by decide +kernel
theorem dX3_trailLength_19 : decode cX3_trailLength 19 = .ok (.getfield 26, 3) := by decide +kernel
theorem dX3_trailLength_22 : decode cX3_trailLength 22 = .ok (.iload_n 1, 1) := by decide +kernel
theorem dX3_trailLength_23 : decode cX3_trailLength 23 = .ok (.aaload, 1) := by decide +kernel
theorem dX3_trailLength_24 : decode cX3_trailLength 24 = .ok (.getfield 60, 3) := by decide +kernel
theorem dX3_trailLength_27 : decode cX3_trailLength 27 = .ok (.iload_n 3, 1) := by decide +kernel
theorem dX3_trailLength_28 : decode cX3_trailLength 28 = .ok (.iaload, 1) := by decide +kernel
theorem dX3_trailLength_29 : decode cX3_trailLength 29 = .ok (.invokevirtual 63, 3) := by decide +kernel
theorem dX3_trailLength_32 : decode cX3_trailLength 32 = .ok (.ifCond .ne 6, 3) := by decide +kernel
theorem dX3_trailLength_35 : decode cX3_trailLength 35 = .ok (.iinc 2 1, 3) := by decide +kernel
theorem dX3_trailLength_38 : decode cX3_trailLength 38 = .ok (.iinc 3 1, 3) := by decide +kernel
theorem dX3_trailLength_41 : decode cX3_trailLength 41 = .ok (.goto (-37), 3) := by decide +kernel
theorem dX3_trailLength_44 : decode cX3_trailLength 44 = .ok (.iload_n 2, 1) := by decide +kernel
theorem dX3_trailLength_45 : decode cX3_trailLength 45 = .ok (.ireturn, 1) := by decide +kernel
theorem dX3_lookOf_0 : decode cX3_lookOf 0 = .ok (.aload_n 0, 1) := by decide +kernel
theorem dX3_lookOf_1 : decode cX3_lookOf 1 = .ok (.getfield 26, 3) := by decide +kernel
theorem dX3_lookOf_4 : decode cX3_lookOf 4 = .ok (.iload_n 1, 1) := by decide +kernel
theorem dX3_lookOf_5 : decode cX3_lookOf 5 = .ok (.aaload, 1) := by decide +kernel
theorem dX3_lookOf_6 : decode cX3_lookOf 6 = .ok (.iload_n 2, 1) := by decide +kernel
theorem dX3_lookOf_7 : decode cX3_lookOf 7 = .ok (.invokevirtual 67, 3) := by decide +kernel
theorem dX3_lookOf_10 : decode cX3_lookOf 10 = .ok (.ifCond .eq 16, 3) := by decide +kernel
theorem dX3_lookOf_13 : decode cX3_lookOf 13 = .ok (.aload_n 0, 1) := by decide +kernel
theorem dX3_lookOf_14 : decode cX3_lookOf 14 = .ok (.getfield 21, 3) := by decide +kernel
theorem dX3_lookOf_17 : decode cX3_lookOf 17 = .ok (.iload_n 2, 1) := by decide +kernel
theorem dX3_lookOf_18 : decode cX3_lookOf 18 = .ok (.iaload, 1) := by decide +kernel
theorem dX3_lookOf_19 : decode cX3_lookOf 19 = .ok (.iconst 1, 1) := by decide +kernel
theorem dX3_lookOf_20 : decode cX3_lookOf 20 = .ok (.iadd, 1) := by decide +kernel
theorem dX3_lookOf_21 : decode cX3_lookOf 21 = .ok (.iconst 2, 1) := by decide +kernel
theorem dX3_lookOf_22 : decode cX3_lookOf 22 = .ok (.idiv, 1) := by decide +kernel
theorem dX3_lookOf_23 : decode cX3_lookOf 23 = .ok (.goto 9, 3) := by decide +kernel
theorem dX3_lookOf_26 : decode cX3_lookOf 26 = .ok (.aload_n 0, 1) := by decide +kernel
theorem dX3_lookOf_27 : decode cX3_lookOf 27 = .ok (.getfield 21, 3) := by decide +kernel
theorem dX3_lookOf_30 : decode cX3_lookOf 30 = .ok (.iload_n 2, 1) := by decide +kernel
theorem dX3_lookOf_31 : decode cX3_lookOf 31 = .ok (.iaload, 1) := by decide +kernel
theorem dX3_lookOf_32 : decode cX3_lookOf 32 = .ok (.ireturn, 1) := by decide +kernel
theorem dX4_init_0 : decode cX4_init 0 = .ok (.aload_n 0, 1) := by decide +kernel
theorem dX4_init_1 : decode cX4_init 1 = .ok (.invokespecial 3, 3) := by decide +kernel
theorem dX4_init_4 : decode cX4_init 4 = .ok (.aload_n 0, 1) := by decide +kernel
theorem dX4_init_5 : decode cX4_init 5 = .ok (.bipush 8, 2) := by decide +kernel
theorem dX4_init_7 : decode cX4_init 7 = .ok (.newarray .int, 2) := by decide +kernel
theorem dX4_init_9 : decode cX4_init 9 = .ok (.putfield 9, 3) := by decide +kernel
theorem dX4_init_12 : decode cX4_init 12 = .ok (.aload_n 0, 1) := by decide +kernel
theorem dX4_init_13 : decode cX4_init 13 = .ok (.iconst (-1), 1) := by decide +kernel
theorem dX4_init_14 : decode cX4_init 14 = .ok (.putfield 15, 3) := by decide +kernel
theorem dX4_init_17 : decode cX4_init 17 = .ok (.return_, 1) := by decide +kernel
theorem dX4_copyFrom_0 : decode cX4_copyFrom 0 = .ok (.aload_n 1, 1) := by decide +kernel
theorem dX4_copyFrom_1 : decode cX4_copyFrom 1 = .ok (.getfield 9, 3) := by decide +kernel
theorem dX4_copyFrom_4 : decode cX4_copyFrom 4 = .ok (.iconst 0, 1) := by decide +kernel
theorem dX4_copyFrom_5 : decode cX4_copyFrom 5 = .ok (.aload_n 0, 1) := by decide +kernel
theorem dX4_copyFrom_6 : decode cX4_copyFrom 6 = .ok (.getfield 9, 3) := by decide +kernel
theorem dX4_copyFrom_9 : decode cX4_copyFrom 9 = .ok (.iconst 0, 1) := by decide +kernel
theorem dX4_copyFrom_10 : decode cX4_copyFrom 10 = .ok (.bipush 8, 2) := by decide +kernel
theorem dX4_copyFrom_12 : decode cX4_copyFrom 12 = .ok (.invokestatic 19, 3) := by decide +kernel
theorem dX4_copyFrom_15 : decode cX4_copyFrom 15 = .ok (.aload_n 0, 1) := by decide +kernel
theorem dX4_copyFrom_16 : decode cX4_copyFrom 16 = .ok (.aload_n 1, 1) := by decide +kernel
theorem dX4_copyFrom_17 : decode cX4_copyFrom 17 = .ok (.getfield 25, 3) := by decide +kernel
theorem dX4_copyFrom_20 : decode cX4_copyFrom 20 = .ok (.putfield 25, 3) := by decide +kernel
theorem dX4_copyFrom_23 : decode cX4_copyFrom 23 = .ok (.aload_n 0, 1) := by decide +kernel
theorem dX4_copyFrom_24 : decode cX4_copyFrom 24 = .ok (.aload_n 1, 1) := by decide +kernel
theorem dX4_copyFrom_25 : decode cX4_copyFrom 25 = .ok (.getfield 28, 3) := by decide +kernel
theorem dX4_copyFrom_28 : decode cX4_copyFrom 28 = .ok (.putfield 28, 3) := by decide +kernel
theorem dX4_copyFrom_31 : decode cX4_copyFrom 31 = .ok (.aload_n 0, 1) := by decide +kernel
theorem dX4_copyFrom_32 : decode cX4_copyFrom 32 = .ok (.aload_n 1, 1) := by decide +kernel
theorem dX4_copyFrom_33 : decode cX4_copyFrom 33 = .ok (.getfield 31, 3) := by decide +kernel
theorem dX4_copyFrom_36 : decode cX4_copyFrom 36 = .ok (.putfield 31, 3) := by decide +kernel
theorem dX4_copyFrom_39 : decode cX4_copyFrom 39 = .ok (.aload_n 0, 1) := by decide +kernel
theorem dX4_copyFrom_40 : decode cX4_copyFrom 40 = .ok (.aload_n 1, 1) := by decide +kernel
theorem dX4_copyFrom_41 : decode cX4_copyFrom 41 = .ok (.getfield 15, 3) := by decide +kernel
theorem dX4_copyFrom_44 : decode cX4_copyFrom 44 = .ok (.putfield 15, 3) := by decide +kernel
theorem dX4_copyFrom_47 : decode cX4_copyFrom 47 = .ok (.return_, 1) := by decide +kernel
theorem dX4_hasHint_0 : decode cX4_hasHint 0 = .ok (.aload_n 0, 1) := by decide +kernel
theorem dX4_hasHint_1 : decode cX4_hasHint 1 = .ok (.getfield 31, 3) := by decide +kernel
theorem dX4_hasHint_4 : decode cX4_hasHint 4 = .ok (.iload_n 1, 1) := by decide +kernel
theorem dX4_hasHint_5 : decode cX4_hasHint 5 = .ok (.ishr, 1) := by decide +kernel
theorem dX4_hasHint_6 : decode cX4_hasHint 6 = .ok (.iconst 1, 1) := by decide +kernel
theorem dX4_hasHint_7 : decode cX4_hasHint 7 = .ok (.iand, 1) := by decide +kernel
theorem dX4_hasHint_8 : decode cX4_hasHint 8 = .ok (.iconst 1, 1) := by decide +kernel
theorem dX4_hasHint_9 : decode cX4_hasHint 9 = .ok (.if_icmp .ne 7, 3) := by decide +kernel
theorem dX4_hasHint_12 : decode cX4_hasHint 12 = .ok (.iconst 1, 1) := by decide +kernel
theorem dX4_hasHint_13 : decode cX4_hasHint 13 = .ok (.goto 4, 3) := by decide +kernel
theorem dX4_hasHint_16 : decode cX4_hasHint 16 = .ok (.iconst 0, 1) := by decide +kernel
theorem dX4_hasHint_17 : decode cX4_hasHint 17 = .ok (.ireturn, 1) := by decide +kernel
theorem dX4_turnRoute_0 : decode cX4_turnRoute 0 = .ok (.iconst 0, 1) := by decide +kernel
theorem dX4_turnRoute_1 : decode cX4_turnRoute 1 = .ok (.istore_n 2, 1) := by decide +kernel
theorem dX4_turnRoute_2 : decode cX4_turnRoute 2 = .ok (.iload_n 2, 1) := by decide +kernel
theorem dX4_turnRoute_3 : decode cX4_turnRoute 3 = .ok (.iload_n 1, 1) := by decide +kernel
theorem dX4_turnRoute_4 : decode cX4_turnRoute 4 = .ok (.if_icmp .ge 62, 3) := by decide +kernel
theorem dX4_turnRoute_7 : decode cX4_turnRoute 7 = .ok (.aload_n 0, 1) := by decide +kernel
theorem dX4_turnRoute_8 : decode cX4_turnRoute 8 = .ok (.getfield 9, 3) := by decide +kernel
theorem dX4_turnRoute_11 : decode cX4_turnRoute 11 = .ok (.iconst 0, 1) := by decide +kernel
theorem dX4_turnRoute_12 : decode cX4_turnRoute 12 = .ok (.iaload, 1) := by decide +kernel
theorem dX4_turnRoute_13 : decode cX4_turnRoute 13 = .ok (.istore_n 3, 1) := by decide +kernel
theorem dX4_turnRoute_14 : decode cX4_turnRoute 14 = .ok (.iconst 1, 1) := by decide +kernel
theorem dX4_turnRoute_15 : decode cX4_turnRoute 15 = .ok (.istore 4, 2) := by decide +kernel
theorem dX4_turnRoute_17 : decode cX4_turnRoute 17 = .ok (.iload 4, 2) := by decide +kernel
theorem dX4_turnRoute_19 : decode cX4_turnRoute 19 = .ok (.aload_n 0, 1) := by decide +kernel
theorem dX4_turnRoute_20 : decode cX4_turnRoute 20 = .ok (.getfield 25, 3) := by decide +kernel
theorem dX4_turnRoute_23 : decode cX4_turnRoute 23 = .ok (.if_icmp .ge 25, 3) := by decide +kernel
theorem dX4_turnRoute_26 : decode cX4_turnRoute 26 = .ok (.aload_n 0, 1) := by decide +kernel
theorem dX4_turnRoute_27 : decode cX4_turnRoute 27 = .ok (.getfield 9, 3) := by decide +kernel
theorem dX4_turnRoute_30 : decode cX4_turnRoute 30 = .ok (.iload 4, 2) := by decide +kernel
theorem dX4_turnRoute_32 : decode cX4_turnRoute 32 = .ok (.iconst 1, 1) := by decide +kernel
theorem dX4_turnRoute_33 : decode cX4_turnRoute 33 = .ok (.isub, 1) := by decide +kernel
theorem dX4_turnRoute_34 : decode cX4_turnRoute 34 = .ok (.aload_n 0, 1) := by decide +kernel
theorem dX4_turnRoute_35 : decode cX4_turnRoute 35 = .ok (.getfield 9, 3) := by decide +kernel
theorem dX4_turnRoute_38 : decode cX4_turnRoute 38 = .ok (.iload 4, 2) := by decide +kernel
theorem dX4_turnRoute_40 : decode cX4_turnRoute 40 = .ok (.iaload, 1) := by decide +kernel
theorem dX4_turnRoute_41 : decode cX4_turnRoute 41 = .ok (.iastore, 1) := by decide +kernel
theorem dX4_turnRoute_42 : decode cX4_turnRoute 42 = .ok (.iinc 4 1, 3) := by decide +kernel
theorem dX4_turnRoute_45 : decode cX4_turnRoute 45 = .ok (.goto (-28), 3) := by decide +kernel
theorem dX4_turnRoute_48 : decode cX4_turnRoute 48 = .ok (.aload_n 0, 1) := by decide +kernel
theorem dX4_turnRoute_49 : decode cX4_turnRoute 49 = .ok (.getfield 9, 3) := by decide +kernel
theorem dX4_turnRoute_52 : decode cX4_turnRoute 52 = .ok (.aload_n 0, 1) := by decide +kernel
theorem dX4_turnRoute_53 : decode cX4_turnRoute 53 = .ok (.getfield 25, 3) := by decide +kernel
theorem dX4_turnRoute_56 : decode cX4_turnRoute 56 = .ok (.iconst 1, 1) := by decide +kernel
theorem dX4_turnRoute_57 : decode cX4_turnRoute 57 = .ok (.isub, 1) := by decide +kernel
theorem dX4_turnRoute_58 : decode cX4_turnRoute 58 = .ok (.iload_n 3, 1) := by decide +kernel
theorem dX4_turnRoute_59 : decode cX4_turnRoute 59 = .ok (.iastore, 1) := by decide +kernel
theorem dX4_turnRoute_60 : decode cX4_turnRoute 60 = .ok (.iinc 2 1, 3) := by decide +kernel
theorem dX4_turnRoute_63 : decode cX4_turnRoute 63 = .ok (.goto (-61), 3) := by decide +kernel
theorem dX4_turnRoute_66 : decode cX4_turnRoute 66 = .ok (.return_, 1) := by decide +kernel
theorem dX4_exchangePlaces_0 : decode cX4_exchangePlaces 0 = .ok (.aload_n 0, 1) := by decide +kernel
theorem dX4_exchangePlaces_1 : decode cX4_exchangePlaces 1 = .ok (.getfield 9, 3) := by decide +kernel
theorem dX4_exchangePlaces_4 : decode cX4_exchangePlaces 4 = .ok (.iload_n 1, 1) := by decide +kernel
theorem dX4_exchangePlaces_5 : decode cX4_exchangePlaces 5 = .ok (.iaload, 1) := by decide +kernel
theorem dX4_exchangePlaces_6 : decode cX4_exchangePlaces 6 = .ok (.istore_n 3, 1) := by decide +kernel
theorem dX4_exchangePlaces_7 : decode cX4_exchangePlaces 7 = .ok (.aload_n 0, 1) := by decide +kernel
theorem dX4_exchangePlaces_8 : decode cX4_exchangePlaces 8 = .ok (.getfield 9, 3) := by decide +kernel
theorem dX4_exchangePlaces_11 : decode cX4_exchangePlaces 11 = .ok (.iload_n 1, 1) := by decide +kernel
theorem dX4_exchangePlaces_12 : decode cX4_exchangePlaces 12 = .ok (.aload_n 0, 1) := by decide +kernel
theorem dX4_exchangePlaces_13 : decode cX4_exchangePlaces 13 = .ok (.getfield 9, 3) := by decide +kernel
theorem dX4_exchangePlaces_16 : decode cX4_exchangePlaces 16 = .ok (.iload_n 2, 1) := by decide +kernel
theorem dX4_exchangePlaces_17 : decode cX4_exchangePlaces 17 = .ok (.iaload, 1) := by decide +kernel
theorem dX4_exchangePlaces_18 : decode cX4_exchangePlaces 18 = .ok (.iastore, 1) := by decide +kernel
theorem dX4_exchangePlaces_19 : decode cX4_exchangePlaces 19 = .ok (.aload_n 0, 1) := by decide +kernel
theorem dX4_exchangePlaces_20 : decode cX4_exchangePlaces 20 = .ok (.getfield 9, 3) := by decide +kernel
theorem dX4_exchangePlaces_23 : decode cX4_exchangePlaces 23 = .ok (.iload_n 2, 1) := by decide +kernel
theorem dX4_exchangePlaces_24 : decode cX4_exchangePlaces 24 = .ok (.iload_n 3, 1) := by decide +kernel
theorem dX4_exchangePlaces_25 : decode cX4_exchangePlaces 25 = .ok (.iastore, 1) := by decide +kernel
theorem dX4_exchangePlaces_26 : decode cX4_exchangePlaces 26 = .ok (.return_, 1) := by decide +kernel
theorem dX5_init_0 : decode cX5_init 0 = .ok (.aload_n 0, 1) := by decide +kernel
theorem dX5_init_1 : decode cX5_init 1 = .ok (.invokespecial 1, 3) := by decide +kernel
theorem dX5_init_4 : decode cX5_init 4 = .ok (.aload_n 0, 1) := by decide +kernel
theorem dX5_init_5 : decode cX5_init 5 = .ok (.new 7, 3) := by decide +kernel
theorem dX5_init_8 : decode cX5_init 8 = .ok (.dup, 1) := by decide +kernel
theorem dX5_init_9 : decode cX5_init 9 = .ok (.invokespecial 9, 3) := by decide +kernel
theorem dX5_init_12 : decode cX5_init 12 = .ok (.putfield 10, 3) := by decide +kernel
theorem dX5_init_15 : decode cX5_init 15 = .ok (.aload_n 0, 1) := by decide +kernel
theorem dX5_init_16 : decode cX5_init 16 = .ok (.new 7, 3) := by decide +kernel
theorem dX5_init_19 : decode cX5_init 19 = .ok (.dup, 1) := by decide +kernel
theorem dX5_init_20 : decode cX5_init 20 = .ok (.invokespecial 9, 3) := by decide +kernel
theorem dX5_init_23 : decode cX5_init 23 = .ok (.putfield 16, 3) := by decide +kernel
theorem dX5_init_26 : decode cX5_init 26 = .ok (.aload_n 0, 1) := by decide +kernel
theorem dX5_init_27 : decode cX5_init 27 = .ok (.new 19, 3) := by decide +kernel
theorem dX5_init_30 : decode cX5_init 30 = .ok (.dup, 1) := by decide +kernel
theorem dX5_init_31 : decode cX5_init 31 = .ok (.invokespecial 21, 3) := by decide +kernel
theorem dX5_init_34 : decode cX5_init 34 = .ok (.putfield 22, 3) := by decide +kernel
theorem dX5_init_37 : decode cX5_init 37 = .ok (.aload_n 0, 1) := by decide +kernel
theorem dX5_init_38 : decode cX5_init 38 = .ok (.new 26, 3) := by decide +kernel
theorem dX5_init_41 : decode cX5_init 41 = .ok (.dup, 1) := by decide +kernel
theorem dX5_init_42 : decode cX5_init 42 = .ok (.invokespecial 28, 3) := by decide +kernel
theorem dX5_init_45 : decode cX5_init 45 = .ok (.putfield 29, 3) := by decide +kernel
theorem dX5_init_48 : decode cX5_init 48 = .ok (.aload_n 0, 1) := by decide +kernel
theorem dX5_init_49 : decode cX5_init 49 = .ok (.new 33, 3) := by decide +kernel
theorem dX5_init_52 : decode cX5_init 52 = .ok (.dup, 1) := by decide +kernel
theorem dX5_init_53 : decode cX5_init 53 = .ok (.invokespecial 35, 3) := by decide +kernel
theorem dX5_init_56 : decode cX5_init 56 = .ok (.putfield 36, 3) := by decide +kernel
theorem dX5_init_59 : decode cX5_init 59 = .ok (.aload_n 0, 1) := by decide +kernel
theorem dX5_init_60 : decode cX5_init 60 = .ok (.iconst 2, 1) := by decide +kernel
theorem dX5_init_61 : decode cX5_init 61 = .ok (.anewarray 7, 3) := by decide +kernel
theorem dX5_init_64 : decode cX5_init 64 = .ok (.putfield 40, 3) := by decide +kernel
theorem dX5_init_67 : decode cX5_init 67 = .ok (.aload_n 0, 1) := by decide +kernel
theorem dX5_init_68 : decode cX5_init 68 = .ok (.iconst 2, 1) := by decide +kernel
theorem dX5_init_69 : decode cX5_init 69 = .ok (.newarray .boolean, 2) := by decide +kernel
theorem dX5_init_71 : decode cX5_init 71 = .ok (.putfield 44, 3) := by decide +kernel
theorem dX5_init_74 : decode cX5_init 74 = .ok (.iconst 0, 1) := by decide +kernel
theorem dX5_init_75 : decode cX5_init 75 = .ok (.istore_n 1, 1) := by decide +kernel
theorem dX5_init_76 : decode cX5_init 76 = .ok (.iload_n 1, 1) := by decide +kernel
theorem dX5_init_77 : decode cX5_init 77 = .ok (.iconst 2, 1) := by decide +kernel
theorem dX5_init_78 : decode cX5_init 78 = .ok (.if_icmp .ge 22, 3) := by decide +kernel
theorem dX5_init_81 : decode cX5_init 81 = .ok (.aload_n 0, 1) := by decide +kernel
theorem dX5_init_82 : decode cX5_init 82 = .ok (.getfield 40, 3) := by decide +kernel
theorem dX5_init_85 : decode cX5_init 85 = .ok (.iload_n 1, 1) := by decide +kernel
theorem dX5_init_86 : decode cX5_init 86 = .ok (.new 7, 3) := by decide +kernel
theorem dX5_init_89 : decode cX5_init 89 = .ok (.dup, 1) := by decide +kernel
theorem dX5_init_90 : decode cX5_init 90 = .ok (.invokespecial 9, 3) := by decide +kernel
theorem dX5_init_93 : decode cX5_init 93 = .ok (.aastore, 1) := by decide +kernel
theorem dX5_init_94 : decode cX5_init 94 = .ok (.iinc 1 1, 3) := by decide +kernel
theorem dX5_init_97 : decode cX5_init 97 = .ok (.goto (-21), 3) := by decide +kernel
theorem dX5_init_100 : decode cX5_init 100 = .ok (.return_, 1) := by decide +kernel
theorem dX5_set_0 : decode cX5_set 0 = .ok (.iload_n 1, 1) := by decide +kernel
theorem dX5_set_1 : decode cX5_set 1 = .ok (.iconst 0, 1) := by decide +kernel
theorem dX5_set_2 : decode cX5_set 2 = .ok (.iconst 2, 1) := by decide +kernel
theorem dX5_set_3 : decode cX5_set 3 = .ok (.invokestatic 48, 3) := by decide +kernel
theorem dX5_set_6 : decode cX5_set 6 = .ok (.ifCond .ne 6, 3) := by decide +kernel
theorem dX5_set_9 : decode cX5_set 9 = .ok (.ldc 52, 2) := by decide +kernel
theorem dX5_set_11 : decode cX5_set 11 = .ok (.ireturn, 1) := by decide +kernel
theorem dX5_set_12 : decode cX5_set 12 = .ok (.iload_n 2, 1) := by decide +kernel
theorem dX5_set_13 : decode cX5_set 13 = .ok (.getstatic 53, 3) := by decide +kernel
theorem dX5_set_16 : decode cX5_set 16 = .ok (.iload_n 1, 1) := by decide +kernel
theorem dX5_set_17 : decode cX5_set 17 = .ok (.iaload, 1) := by decide +kernel
theorem dX5_set_18 : decode cX5_set 18 = .ok (.getstatic 57, 3) := by decide +kernel
theorem dX5_set_21 : decode cX5_set 21 = .ok (.iload_n 1, 1) := by decide +kernel
theorem dX5_set_22 : decode cX5_set 22 = .ok (.iaload, 1) := by decide +kernel
theorem dX5_set_23 : decode cX5_set 23 = .ok (.invokestatic 48, 3) := by decide +kernel
theorem dX5_set_26 : decode cX5_set 26 = .ok (.ifCond .ne 6, 3) := by decide +kernel
theorem dX5_set_29 : decode cX5_set 29 = .ok (.ldc 52, 2) := by decide +kernel
theorem dX5_set_31 : decode cX5_set 31 = .ok (.ireturn, 1) := by decide +kernel
theorem dX5_set_32 : decode cX5_set 32 = .ok (.aload_n 0, 1) := by decide +kernel
theorem dX5_set_33 : decode cX5_set 33 = .ok (.getfield 36, 3) := by decide +kernel
theorem dX5_set_36 : decode cX5_set 36 = .ok (.aload_n 0, 1) := by decide +kernel
theorem dX5_set_37 : decode cX5_set 37 = .ok (.getfield 10, 3) := by decide +kernel
theorem dX5_set_40 : decode cX5_set 40 = .ok (.invokevirtual 60, 3) := by decide +kernel
theorem dX5_set_43 : decode cX5_set 43 = .ok (.aload_n 0, 1) := by decide +kernel
theorem dX5_set_44 : decode cX5_set 44 = .ok (.getfield 10, 3) := by decide +kernel
theorem dX5_set_47 : decode cX5_set 47 = .ok (.getfield 64, 3) := by decide +kernel
theorem dX5_set_50 : decode cX5_set 50 = .ok (.iload_n 1, 1) := by decide +kernel
theorem dX5_set_51 : decode cX5_set 51 = .ok (.iaload, 1) := by decide +kernel
theorem dX5_set_52 : decode cX5_set 52 = .ok (.istore_n 3, 1) := by decide +kernel
theorem dX5_set_53 : decode cX5_set 53 = .ok (.aload_n 0, 1) := by decide +kernel
theorem dX5_set_54 : decode cX5_set 54 = .ok (.getfield 10, 3) := by decide +kernel
theorem dX5_set_57 : decode cX5_set 57 = .ok (.getfield 64, 3) := by decide +kernel
theorem dX5_set_60 : decode cX5_set 60 = .ok (.iload_n 1, 1) := by decide +kernel
theorem dX5_set_61 : decode cX5_set 61 = .ok (.iload_n 2, 1) := by decide +kernel
theorem dX5_set_62 : decode cX5_set 62 = .ok (.iastore, 1) := by decide +kernel
theorem dX5_set_63 : decode cX5_set 63 = .ok (.iload_n 3, 1) := by decide +kernel
theorem dX5_set_64 : decode cX5_set 64 = .ok (.ireturn, 1) := by decide +kernel
theorem dX5_place_0 : decode cX5_place 0 = .ok (.iload_n 1, 1) := by decide +kernel
theorem dX5_place_1 : decode cX5_place 1 = .ok (.invokestatic 67, 3) := by decide +kernel
theorem dX5_place_4 : decode cX5_place 4 = .ok (.ifCond .ne 6, 3) := by decide +kernel
theorem dX5_place_7 : decode cX5_place 7 = .ok (.ldc 71, 2) := by decide +kernel
theorem dX5_place_9 : decode cX5_place 9 = .ok (.ireturn, 1) := by decide +kernel
theorem dX5_place_10 : decode cX5_place 10 = .ok (.iload_n 2, 1) := by decide +kernel
theorem dX5_place_11 : decode cX5_place 11 = .ok (.iconst 0, 1) := by decide +kernel
theorem dX5_place_12 : decode cX5_place 12 = .ok (.bipush 20, 2) := by decide +kernel
theorem dX5_place_14 : decode cX5_place 14 = .ok (.invokestatic 48, 3) := by decide +kernel
theorem dX5_place_17 : decode cX5_place 17 = .ok (.ifCond .eq 24, 3) := by decide +kernel
theorem dX5_place_20 : decode cX5_place 20 = .ok (.iload_n 3, 1) := by decide +kernel
theorem dX5_place_21 : decode cX5_place 21 = .ok (.iconst 0, 1) := by decide +kernel
theorem dX5_place_22 : decode cX5_place 22 = .ok (.bipush 20, 2) := by decide +kernel
theorem dX5_place_24 : decode cX5_place 24 = .ok (.invokestatic 48, 3) := by decide +kernel
theorem dX5_place_27 : decode cX5_place 27 = .ok (.ifCond .eq 14, 3) := by decide +kernel
theorem dX5_place_30 : decode cX5_place 30 = .ok (.iload 4, 2) := by decide +kernel
theorem dX5_place_32 : decode cX5_place 32 = .ok (.iconst 1, 1) := by decide +kernel
theorem dX5_place_33 : decode cX5_place 33 = .ok (.bipush 15, 2) := by decide +kernel
theorem dX5_place_35 : decode cX5_place 35 = .ok (.invokestatic 48, 3) := by decide +kernel
theorem dX5_place_38 : decode cX5_place 38 = .ok (.ifCond .ne 6, 3) := by decide +kernel
theorem dX5_place_41 : decode cX5_place 41 = .ok (.ldc 52, 2) := by decide +kernel
theorem dX5_place_43 : decode cX5_place 43 = .ok (.ireturn, 1) := by decide +kernel
theorem dX5_place_44 : decode cX5_place 44 = .ok (.aload_n 0, 1) := by decide +kernel
theorem dX5_place_45 : decode cX5_place 45 = .ok (.getfield 36, 3) := by decide +kernel
theorem dX5_place_48 : decode cX5_place 48 = .ok (.aload_n 0, 1) := by decide +kernel
theorem dX5_place_49 : decode cX5_place 49 = .ok (.getfield 10, 3) := by decide +kernel
theorem dX5_place_52 : decode cX5_place 52 = .ok (.invokevirtual 60, 3) := by decide +kernel
theorem dX5_place_55 : decode cX5_place 55 = .ok (.aload_n 0, 1) := by decide +kernel
theorem dX5_place_56 : decode cX5_place 56 = .ok (.getfield 10, 3) := by decide +kernel
theorem dX5_place_59 : decode cX5_place 59 = .ok (.getfield 72, 3) := by decide +kernel
theorem dX5_place_62 : decode cX5_place 62 = .ok (.iload_n 1, 1) := by decide +kernel
theorem dX5_place_63 : decode cX5_place 63 = .ok (.iaload, 1) := by decide +kernel
theorem dX5_place_64 : decode cX5_place 64 = .ok (.istore 5, 2) := by decide +kernel
theorem dX5_place_66 : decode cX5_place 66 = .ok (.aload_n 0, 1) := by decide +kernel
theorem dX5_place_67 : decode cX5_place 67 = .ok (.getfield 10, 3) := by decide +kernel
theorem dX5_place_70 : decode cX5_place 70 = .ok (.getfield 75, 3) := by decide +kernel
theorem dX5_place_73 : decode cX5_place 73 = .ok (.iload_n 1, 1) := by decide +kernel
theorem dX5_place_74 : decode cX5_place 74 = .ok (.iload_n 2, 1) := by decide +kernel
theorem dX5_place_75 : decode cX5_place 75 = .ok (.iastore, 1) := by decide +kernel
theorem dX5_place_76 : decode cX5_place 76 = .ok (.aload_n 0, 1) := by decide +kernel
theorem dX5_place_77 : decode cX5_place 77 = .ok (.getfield 10, 3) := by decide +kernel
theorem dX5_place_80 : decode cX5_place 80 = .ok (.getfield 78, 3) := by decide +kernel
theorem dX5_place_83 : decode cX5_place 83 = .ok (.iload_n 1, 1) := by decide +kernel
theorem dX5_place_84 : decode cX5_place 84 = .ok (.iload_n 3, 1) := by decide +kernel
theorem dX5_place_85 : decode cX5_place 85 = .ok (.iastore, 1) := by decide +kernel
theorem dX5_place_86 : decode cX5_place 86 = .ok (.aload_n 0, 1) := by decide +kernel
theorem dX5_place_87 : decode cX5_place 87 = .ok (.getfield 10, 3) := by decide +kernel
theorem dX5_place_90 : decode cX5_place 90 = .ok (.getfield 72, 3) := by decide +kernel
theorem dX5_place_93 : decode cX5_place 93 = .ok (.iload_n 1, 1) := by decide +kernel
theorem dX5_place_94 : decode cX5_place 94 = .ok (.iload 4, 2) := by decide +kernel
theorem dX5_place_96 : decode cX5_place 96 = .ok (.iastore, 1) := by decide +kernel
theorem dX5_place_97 : decode cX5_place 97 = .ok (.iload 5, 2) := by decide +kernel
theorem dX5_place_99 : decode cX5_place 99 = .ok (.ireturn, 1) := by decide +kernel
theorem dX5_close_0 : decode cX5_close 0 = .ok (.iload_n 1, 1) := by decide +kernel
theorem dX5_close_1 : decode cX5_close 1 = .ok (.invokestatic 67, 3) := by decide +kernel
theorem dX5_close_4 : decode cX5_close 4 = .ok (.ifCond .ne 6, 3) := by decide +kernel
theorem dX5_close_7 : decode cX5_close 7 = .ok (.ldc 71, 2) := by decide +kernel
theorem dX5_close_9 : decode cX5_close 9 = .ok (.ireturn, 1) := by decide +kernel
theorem dX5_close_10 : decode cX5_close 10 = .ok (.aload_n 0, 1) := by decide +kernel
theorem dX5_close_11 : decode cX5_close 11 = .ok (.getfield 10, 3) := by decide +kernel
theorem dX5_close_14 : decode cX5_close 14 = .ok (.iload_n 1, 1) := by decide +kernel
theorem dX5_close_15 : decode cX5_close 15 = .ok (.invokevirtual 81, 3) := by decide +kernel
theorem dX5_close_18 : decode cX5_close 18 = .ok (.iload_n 2, 1) := by decide +kernel
theorem dX5_close_19 : decode cX5_close 19 = .ok (.if_icmp .ne 6, 3) := by decide +kernel
theorem dX5_close_22 : decode cX5_close 22 = .ok (.ldc 84, 2) := by decide +kernel
theorem dX5_close_24 : decode cX5_close 24 = .ok (.ireturn, 1) := by decide +kernel
theorem dX5_close_25 : decode cX5_close 25 = .ok (.aload_n 0, 1) := by decide +kernel
theorem dX5_close_26 : decode cX5_close 26 = .ok (.getfield 36, 3) := by decide +kernel
theorem dX5_close_29 : decode cX5_close 29 = .ok (.aload_n 0, 1) := by decide +kernel
theorem dX5_close_30 : decode cX5_close 30 = .ok (.getfield 10, 3) := by decide +kernel
theorem dX5_close_33 : decode cX5_close 33 = .ok (.invokevirtual 60, 3) := by decide +kernel
theorem dX5_close_36 : decode cX5_close 36 = .ok (.aload_n 0, 1) := by decide +kernel
theorem dX5_close_37 : decode cX5_close 37 = .ok (.getfield 10, 3) := by decide +kernel
theorem dX5_close_40 : decode cX5_close 40 = .ok (.aload_n 0, 1) := by decide +kernel
theorem dX5_close_41 : decode cX5_close 41 = .ok (.getfield 10, 3) := by decide +kernel
theorem dX5_close_44 : decode cX5_close 44 = .ok (.getfield 85, 3) := by decide +kernel
theorem dX5_close_47 : decode cX5_close 47 = .ok (.iconst 1, 1) := by decide +kernel
theorem dX5_close_48 : decode cX5_close 48 = .ok (.iload_n 1, 1) := by decide +kernel
theorem dX5_close_49 : decode cX5_close 49 = .ok (.ishl, 1) := by decide +kernel
theorem dX5_close_50 : decode cX5_close 50 = .ok (.ixor, 1) := by decide +kernel
theorem dX5_close_51 : decode cX5_close 51 = .ok (.putfield 85, 3) := by decide +kernel
theorem dX5_close_54 : decode cX5_close 54 = .ok (.aload_n 0, 1) := by decide +kernel
theorem dX5_close_55 : decode cX5_close 55 = .ok (.getfield 10, 3) := by decide +kernel
theorem dX5_close_58 : decode cX5_close 58 = .ok (.invokevirtual 89, 3) := by decide +kernel
theorem dX5_close_61 : decode cX5_close 61 = .ok (.ireturn, 1) := by decide +kernel
theorem dX5_team_0 : decode cX5_team 0 = .ok (.iload_n 1, 1) := by decide +kernel
theorem dX5_team_1 : decode cX5_team 1 = .ok (.iconst 0, 1) := by decide +kernel
theorem dX5_team_2 : decode cX5_team 2 = .ok (.sipush 200, 3) := by decide +kernel
theorem dX5_team_5 : decode cX5_team 5 = .ok (.invokestatic 48, 3) := by decide +kernel
theorem dX5_team_8 : decode cX5_team 8 = .ok (.ifCond .ne 6, 3) := by decide +kernel
theorem dX5_team_11 : decode cX5_team 11 = .ok (.ldc 52, 2) := by decide +kernel
theorem dX5_team_13 : decode cX5_team 13 = .ok (.ireturn, 1) := by decide +kernel
theorem dX5_team_14 : decode cX5_team 14 = .ok (.aload_n 0, 1) := by decide +kernel
theorem dX5_team_15 : decode cX5_team 15 = .ok (.getfield 29, 3) := by decide +kernel
theorem dX5_team_18 : decode cX5_team 18 = .ok (.invokevirtual 93, 3) := by decide +kernel
theorem dX5_team_21 : decode cX5_team 21 = .ok (.ldc 96, 2) := by decide +kernel
theorem dX5_team_23 : decode cX5_team 23 = .ok (.if_icmp .eq 6, 3) := by decide +kernel
theorem dX5_team_26 : decode cX5_team 26 = .ok (.ldc 97, 2) := by decide +kernel
theorem dX5_team_28 : decode cX5_team 28 = .ok (.ireturn, 1) := by decide +kernel
theorem dX5_team_29 : decode cX5_team 29 = .ok (.aload_n 0, 1) := by decide +kernel
theorem dX5_team_30 : decode cX5_team 30 = .ok (.getfield 10, 3) := by decide +kernel
theorem dX5_team_33 : decode cX5_team 33 = .ok (.getfield 98, 3) := by decide +kernel
theorem dX5_team_36 : decode cX5_team 36 = .ok (.bipush 6, 2) := by decide +kernel
theorem dX5_team_38 : decode cX5_team 38 = .ok (.if_icmp .lt 6, 3) := by decide +kernel
theorem dX5_team_41 : decode cX5_team 41 = .ok (.ldc 101, 2) := by decide +kernel
theorem dX5_team_43 : decode cX5_team 43 = .ok (.ireturn, 1) := by decide +kernel
theorem dX5_team_44 : decode cX5_team 44 = .ok (.aload_n 0, 1) := by decide +kernel
theorem dX5_team_45 : decode cX5_team 45 = .ok (.getfield 36, 3) := by decide +kernel
theorem dX5_team_48 : decode cX5_team 48 = .ok (.aload_n 0, 1) := by decide +kernel
theorem dX5_team_49 : decode cX5_team 49 = .ok (.getfield 10, 3) := by decide +kernel
theorem dX5_team_52 : decode cX5_team 52 = .ok (.invokevirtual 60, 3) := by decide +kernel
theorem dX5_team_55 : decode cX5_team 55 = .ok (.aload_n 0, 1) := by decide +kernel
theorem dX5_team_56 : decode cX5_team 56 = .ok (.getfield 10, 3) := by decide +kernel
theorem dX5_team_59 : decode cX5_team 59 = .ok (.getfield 98, 3) := by decide +kernel
theorem dX5_team_62 : decode cX5_team 62 = .ok (.istore_n 2, 1) := by decide +kernel
theorem dX5_team_63 : decode cX5_team 63 = .ok (.aload_n 0, 1) := by decide +kernel
theorem dX5_team_64 : decode cX5_team 64 = .ok (.getfield 10, 3) := by decide +kernel
theorem dX5_team_67 : decode cX5_team 67 = .ok (.getfield 102, 3) := by decide +kernel
theorem dX5_team_70 : decode cX5_team 70 = .ok (.iload_n 2, 1) := by decide +kernel
theorem dX5_team_71 : decode cX5_team 71 = .ok (.aaload, 1) := by decide +kernel
theorem dX5_team_72 : decode cX5_team 72 = .ok (.astore_n 3, 1) := by decide +kernel
theorem dX5_team_73 : decode cX5_team 73 = .ok (.aload_n 0, 1) := by decide +kernel
theorem dX5_team_74 : decode cX5_team 74 = .ok (.getfield 29, 3) := by decide +kernel
theorem dX5_team_77 : decode cX5_team 77 = .ok (.aload_n 3, 1) := by decide +kernel
theorem dX5_team_78 : decode cX5_team 78 = .ok (.invokevirtual 106, 3) := by decide +kernel
theorem dX5_team_81 : decode cX5_team 81 = .ok (.aload_n 3, 1) := by decide +kernel
theorem dX5_team_82 : decode cX5_team 82 = .ok (.iload_n 1, 1) := by decide +kernel
theorem dX5_team_83 : decode cX5_team 83 = .ok (.putfield 110, 3) := by decide +kernel
theorem dX5_team_86 : decode cX5_team 86 = .ok (.aload_n 3, 1) := by decide +kernel
theorem dX5_team_87 : decode cX5_team 87 = .ok (.iconst 0, 1) := by decide +kernel
theorem dX5_team_88 : decode cX5_team 88 = .ok (.putfield 115, 3) := by decide +kernel
theorem dX5_team_91 : decode cX5_team 91 = .ok (.aload_n 3, 1) := by decide +kernel
theorem dX5_team_92 : decode cX5_team 92 = .ok (.iconst (-1), 1) := by decide +kernel
theorem dX5_team_93 : decode cX5_team 93 = .ok (.putfield 118, 3) := by decide +kernel
theorem dX5_team_96 : decode cX5_team 96 = .ok (.aload_n 0, 1) := by decide +kernel
theorem dX5_team_97 : decode cX5_team 97 = .ok (.getfield 10, 3) := by decide +kernel
theorem dX5_team_100 : decode cX5_team 100 = .ok (.iload_n 2, 1) := by decide +kernel
theorem dX5_team_101 : decode cX5_team 101 = .ok (.iconst 1, 1) := by decide +kernel
theorem dX5_team_102 : decode cX5_team 102 = .ok (.iadd, 1) := by decide +kernel
theorem dX5_team_103 : decode cX5_team 103 = .ok (.putfield 98, 3) := by decide +kernel
theorem dX5_team_106 : decode cX5_team 106 = .ok (.iload_n 2, 1) := by decide +kernel
theorem dX5_team_107 : decode cX5_team 107 = .ok (.ireturn, 1) := by decide +kernel
theorem dX5_route_0 : decode cX5_route 0 = .ok (.aload_n 0, 1) := by decide +kernel
theorem dX5_route_1 : decode cX5_route 1 = .ok (.iload_n 1, 1) := by decide +kernel
theorem dX5_route_2 : decode cX5_route 2 = .ok (.invokevirtual 121, 3) := by decide +kernel
theorem dX5_route_5 : decode cX5_route 5 = .ok (.ifCond .ne 6, 3) := by decide +kernel
theorem dX5_route_8 : decode cX5_route 8 = .ok (.ldc 71, 2) := by decide +kernel
theorem dX5_route_10 : decode cX5_route 10 = .ok (.ireturn, 1) := by decide +kernel
theorem dX5_route_11 : decode cX5_route 11 = .ok (.aload_n 0, 1) := by decide +kernel
theorem dX5_route_12 : decode cX5_route 12 = .ok (.getfield 29, 3) := by decide +kernel
theorem dX5_route_15 : decode cX5_route 15 = .ok (.invokevirtual 93, 3) := by decide +kernel
theorem dX5_route_18 : decode cX5_route 18 = .ok (.ldc 96, 2) := by decide +kernel
theorem dX5_route_20 : decode cX5_route 20 = .ok (.if_icmp .eq 6, 3) := by decide +kernel
theorem dX5_route_23 : decode cX5_route 23 = .ok (.ldc 97, 2) := by decide +kernel
theorem dX5_route_25 : decode cX5_route 25 = .ok (.ireturn, 1) := by decide +kernel
theorem dX5_route_26 : decode cX5_route 26 = .ok (.aload_n 0, 1) := by decide +kernel
theorem dX5_route_27 : decode cX5_route 27 = .ok (.getfield 36, 3) := by decide +kernel
theorem dX5_route_30 : decode cX5_route 30 = .ok (.aload_n 0, 1) := by decide +kernel
theorem dX5_route_31 : decode cX5_route 31 = .ok (.getfield 10, 3) := by decide +kernel
theorem dX5_route_34 : decode cX5_route 34 = .ok (.invokevirtual 60, 3) := by decide +kernel
theorem dX5_route_37 : decode cX5_route 37 = .ok (.aload_n 0, 1) := by decide +kernel
theorem dX5_route_38 : decode cX5_route 38 = .ok (.getfield 29, 3) := by decide +kernel
theorem dX5_route_41 : decode cX5_route 41 = .ok (.aload_n 0, 1) := by decide +kernel
theorem dX5_route_42 : decode cX5_route 42 = .ok (.getfield 10, 3) := by decide +kernel
theorem dX5_route_45 : decode cX5_route 45 = .ok (.getfield 102, 3) := by decide +kernel
theorem dX5_route_48 : decode cX5_route 48 = .ok (.iload_n 1, 1) := by decide +kernel
theorem dX5_route_49 : decode cX5_route 49 = .ok (.aaload, 1) := by decide +kernel
theorem dX5_route_50 : decode cX5_route 50 = .ok (.invokevirtual 106, 3) := by decide +kernel
theorem dX5_route_53 : decode cX5_route 53 = .ok (.aload_n 0, 1) := by decide +kernel
theorem dX5_route_54 : decode cX5_route 54 = .ok (.getfield 10, 3) := by decide +kernel
theorem dX5_route_57 : decode cX5_route 57 = .ok (.iload_n 1, 1) := by decide +kernel
theorem dX5_route_58 : decode cX5_route 58 = .ok (.invokevirtual 124, 3) := by decide +kernel
theorem dX5_route_61 : decode cX5_route 61 = .ok (.ireturn, 1) := by decide +kernel
theorem dX5_leave_0 : decode cX5_leave 0 = .ok (.aload_n 0, 1) := by decide +kernel
theorem dX5_leave_1 : decode cX5_leave 1 = .ok (.iload_n 1, 1) := by decide +kernel
theorem dX5_leave_2 : decode cX5_leave 2 = .ok (.invokevirtual 121, 3) := by decide +kernel
theorem dX5_leave_5 : decode cX5_leave 5 = .ok (.ifCond .ne 6, 3) := by decide +kernel
theorem dX5_leave_8 : decode cX5_leave 8 = .ok (.ldc 71, 2) := by decide +kernel
theorem dX5_leave_10 : decode cX5_leave 10 = .ok (.ireturn, 1) := by decide +kernel
theorem dX5_leave_11 : decode cX5_leave 11 = .ok (.aload_n 0, 1) := by decide +kernel
theorem dX5_leave_12 : decode cX5_leave 12 = .ok (.getfield 36, 3) := by decide +kernel
theorem dX5_leave_15 : decode cX5_leave 15 = .ok (.aload_n 0, 1) := by decide +kernel
theorem dX5_leave_16 : decode cX5_leave 16 = .ok (.getfield 10, 3) := by decide +kernel
theorem dX5_leave_19 : decode cX5_leave 19 = .ok (.invokevirtual 60, 3) := by decide +kernel
theorem dX5_leave_22 : decode cX5_leave 22 = .ok (.aload_n 0, 1) := by decide +kernel
theorem dX5_leave_23 : decode cX5_leave 23 = .ok (.getfield 10, 3) := by decide +kernel
theorem dX5_leave_26 : decode cX5_leave 26 = .ok (.aload_n 0, 1) := by decide +kernel
theorem dX5_leave_27 : decode cX5_leave 27 = .ok (.getfield 10, 3) := by decide +kernel
theorem dX5_leave_30 : decode cX5_leave 30 = .ok (.getfield 98, 3) := by decide +kernel
theorem dX5_leave_33 : decode cX5_leave 33 = .ok (.iconst 1, 1) := by decide +kernel
theorem dX5_leave_34 : decode cX5_leave 34 = .ok (.isub, 1) := by decide +kernel
theorem dX5_leave_35 : decode cX5_leave 35 = .ok (.putfield 98, 3) := by decide +kernel
theorem dX5_leave_38 : decode cX5_leave 38 = .ok (.iload_n 1, 1) := by decide +kernel
theorem dX5_leave_39 : decode cX5_leave 39 = .ok (.istore_n 2, 1) := by decide +kernel
theorem dX5_leave_40 : decode cX5_leave 40 = .ok (.iload_n 2, 1) := by decide +kernel
theorem dX5_leave_41 : decode cX5_leave 41 = .ok (.aload_n 0, 1) := by decide +kernel
theorem dX5_leave_42 : decode cX5_leave 42 = .ok (.getfield 10, 3) := by decide +kernel
theorem dX5_leave_45 : decode cX5_leave 45 = .ok (.getfield 98, 3) := by decide +kernel
theorem dX5_leave_48 : decode cX5_leave 48 = .ok (.if_icmp .ge 32, 3) := by decide +kernel
theorem dX5_leave_51 : decode cX5_leave 51 = .ok (.aload_n 0, 1) := by decide +kernel
theorem dX5_leave_52 : decode cX5_leave 52 = .ok (.getfield 10, 3) := by decide +kernel
theorem dX5_leave_55 : decode cX5_leave 55 = .ok (.getfield 102, 3) := by decide +kernel
theorem dX5_leave_58 : decode cX5_leave 58 = .ok (.iload_n 2, 1) := by decide +kernel
theorem dX5_leave_59 : decode cX5_leave 59 = .ok (.aaload, 1) := by decide +kernel
theorem dX5_leave_60 : decode cX5_leave 60 = .ok (.aload_n 0, 1) := by decide +kernel
theorem dX5_leave_61 : decode cX5_leave 61 = .ok (.getfield 10, 3) := by decide +kernel
theorem dX5_leave_64 : decode cX5_leave 64 = .ok (.getfield 102, 3) := by decide +kernel
theorem dX5_leave_67 : decode cX5_leave 67 = .ok (.iload_n 2, 1) := by decide +kernel
theorem dX5_leave_68 : decode cX5_leave 68 = .ok (.iconst 1, 1) := by decide +kernel
theorem dX5_leave_69 : decode cX5_leave 69 = .ok (.iadd, 1) := by decide +kernel
theorem dX5_leave_70 : decode cX5_leave 70 = .ok (.aaload, 1) := by decide +kernel
theorem dX5_leave_71 : decode cX5_leave 71 = .ok (.invokevirtual 128, 3) := by decide +kernel
theorem dX5_leave_74 : decode cX5_leave 74 = .ok (.iinc 2 1, 3) := by decide +kernel
theorem dX5_leave_77 : decode cX5_leave 77 = .ok (.goto (-37), 3) := by decide +kernel
theorem dX5_leave_80 : decode cX5_leave 80 = .ok (.aload_n 0, 1) := by decide +kernel
theorem dX5_leave_81 : decode cX5_leave 81 = .ok (.getfield 10, 3) := by decide +kernel
theorem dX5_leave_84 : decode cX5_leave 84 = .ok (.getfield 98, 3) := by decide +kernel
theorem dX5_leave_87 : decode cX5_leave 87 = .ok (.ireturn, 1) := by decide +kernel
theorem dX5_start_0 : decode cX5_start 0 = .ok (.aload_n 0, 1) := by decide +kernel
theorem dX5_start_1 : decode cX5_start 1 = .ok (.iload_n 1, 1) := by decide +kernel
theorem dX5_start_2 : decode cX5_start 2 = .ok (.invokevirtual 121, 3) := by decide +kernel
theorem dX5_start_5 : decode cX5_start 5 = .ok (.ifCond .ne 6, 3) := by decide +kernel
theorem dX5_start_8 : decode cX5_start 8 = .ok (.ldc 71, 2) := by decide +kernel
theorem dX5_start_10 : decode cX5_start 10 = .ok (.ireturn, 1) := by decide +kernel
theorem dX5_start_11 : decode cX5_start 11 = .ok (.iload_n 2, 1) := by decide +kernel
theorem dX5_start_12 : decode cX5_start 12 = .ok (.iconst 0, 1) := by decide +kernel
theorem dX5_start_13 : decode cX5_start 13 = .ok (.sipush 200, 3) := by decide +kernel
theorem dX5_start_16 : decode cX5_start 16 = .ok (.invokestatic 48, 3) := by decide +kernel
theorem dX5_start_19 : decode cX5_start 19 = .ok (.ifCond .ne 6, 3) := by decide +kernel
theorem dX5_start_22 : decode cX5_start 22 = .ok (.ldc 52, 2) := by decide +kernel
theorem dX5_start_24 : decode cX5_start 24 = .ok (.ireturn, 1) := by decide +kernel
theorem dX5_start_25 : decode cX5_start 25 = .ok (.aload_n 0, 1) := by decide +kernel
theorem dX5_start_26 : decode cX5_start 26 = .ok (.getfield 36, 3) := by decide +kernel
theorem dX5_start_29 : decode cX5_start 29 = .ok (.aload_n 0, 1) := by decide +kernel
theorem dX5_start_30 : decode cX5_start 30 = .ok (.getfield 10, 3) := by decide +kernel
theorem dX5_start_33 : decode cX5_start 33 = .ok (.invokevirtual 60, 3) := by decide +kernel
theorem dX5_start_36 : decode cX5_start 36 = .ok (.aload_n 0, 1) := by decide +kernel
theorem dX5_start_37 : decode cX5_start 37 = .ok (.getfield 10, 3) := by decide +kernel
theorem dX5_start_40 : decode cX5_start 40 = .ok (.getfield 102, 3) := by decide +kernel
theorem dX5_start_43 : decode cX5_start 43 = .ok (.iload_n 1, 1) := by decide +kernel
theorem dX5_start_44 : decode cX5_start 44 = .ok (.aaload, 1) := by decide +kernel
theorem dX5_start_45 : decode cX5_start 45 = .ok (.getfield 110, 3) := by decide +kernel
theorem dX5_start_48 : decode cX5_start 48 = .ok (.istore_n 3, 1) := by decide +kernel
theorem dX5_start_49 : decode cX5_start 49 = .ok (.aload_n 0, 1) := by decide +kernel
theorem dX5_start_50 : decode cX5_start 50 = .ok (.getfield 10, 3) := by decide +kernel
theorem dX5_start_53 : decode cX5_start 53 = .ok (.getfield 102, 3) := by decide +kernel
theorem dX5_start_56 : decode cX5_start 56 = .ok (.iload_n 1, 1) := by decide +kernel
theorem dX5_start_57 : decode cX5_start 57 = .ok (.aaload, 1) := by decide +kernel
theorem dX5_start_58 : decode cX5_start 58 = .ok (.iload_n 2, 1) := by decide +kernel
theorem dX5_start_59 : decode cX5_start 59 = .ok (.putfield 110, 3) := by decide +kernel
theorem dX5_start_62 : decode cX5_start 62 = .ok (.iload_n 3, 1) := by decide +kernel
theorem dX5_start_63 : decode cX5_start 63 = .ok (.ireturn, 1) := by decide +kernel
theorem dX5_hint_0 : decode cX5_hint 0 = .ok (.aload_n 0, 1) := by decide +kernel
theorem dX5_hint_1 : decode cX5_hint 1 = .ok (.iload_n 1, 1) := by decide +kernel
theorem dX5_hint_2 : decode cX5_hint 2 = .ok (.invokevirtual 121, 3) := by decide +kernel
theorem dX5_hint_5 : decode cX5_hint 5 = .ok (.ifCond .eq 10, 3) := by decide +kernel
theorem dX5_hint_8 : decode cX5_hint 8 = .ok (.iload_n 2, 1) := by decide +kernel
theorem dX5_hint_9 : decode cX5_hint 9 = .ok (.invokestatic 67, 3) := by decide +kernel
theorem dX5_hint_12 : decode cX5_hint 12 = .ok (.ifCond .ne 6, 3) := by decide +kernel
theorem dX5_hint_15 : decode cX5_hint 15 = .ok (.ldc 71, 2) := by decide +kernel
theorem dX5_hint_17 : decode cX5_hint 17 = .ok (.ireturn, 1) := by decide +kernel
theorem dX5_hint_18 : decode cX5_hint 18 = .ok (.aload_n 0, 1) := by decide +kernel
theorem dX5_hint_19 : decode cX5_hint 19 = .ok (.getfield 10, 3) := by decide +kernel
theorem dX5_hint_22 : decode cX5_hint 22 = .ok (.getfield 102, 3) := by decide +kernel
theorem dX5_hint_25 : decode cX5_hint 25 = .ok (.iload_n 1, 1) := by decide +kernel
theorem dX5_hint_26 : decode cX5_hint 26 = .ok (.aaload, 1) := by decide +kernel
theorem dX5_hint_27 : decode cX5_hint 27 = .ok (.iload_n 2, 1) := by decide +kernel
theorem dX5_hint_28 : decode cX5_hint 28 = .ok (.invokevirtual 131, 3) := by decide +kernel
theorem dX5_hint_31 : decode cX5_hint 31 = .ok (.iload_n 3, 1) := by decide +kernel
theorem dX5_hint_32 : decode cX5_hint 32 = .ok (.if_icmp .ne 6, 3) := by decide +kernel
theorem dX5_hint_35 : decode cX5_hint 35 = .ok (.ldc 84, 2) := by decide +kernel
theorem dX5_hint_37 : decode cX5_hint 37 = .ok (.ireturn, 1) := by decide +kernel
theorem dX5_hint_38 : decode cX5_hint 38 = .ok (.aload_n 0, 1) := by decide +kernel
theorem dX5_hint_39 : decode cX5_hint 39 = .ok (.getfield 36, 3) := by decide +kernel
theorem dX5_hint_42 : decode cX5_hint 42 = .ok (.aload_n 0, 1) := by decide +kernel
theorem dX5_hint_43 : decode cX5_hint 43 = .ok (.getfield 10, 3) := by decide +kernel
theorem dX5_hint_46 : decode cX5_hint 46 = .ok (.invokevirtual 60, 3) := by decide +kernel
theorem dX5_hint_49 : decode cX5_hint 49 = .ok (.aload_n 0, 1) := by decide +kernel
theorem dX5_hint_50 : decode cX5_hint 50 = .ok (.getfield 10, 3) := by decide +kernel
theorem dX5_hint_53 : decode cX5_hint 53 = .ok (.getfield 102, 3) := by decide +kernel
theorem dX5_hint_56 : decode cX5_hint 56 = .ok (.iload_n 1, 1) := by decide +kernel
theorem dX5_hint_57 : decode cX5_hint 57 = .ok (.aaload, 1) := by decide +kernel
theorem dX5_hint_58 : decode cX5_hint 58 = .ok (.aload_n 0, 1) := by decide +kernel
theorem dX5_hint_59 : decode cX5_hint 59 = .ok (.getfield 10, 3) := by decide +kernel
theorem dX5_hint_62 : decode cX5_hint 62 = .ok (.getfield 102, 3) := by decide +kernel
theorem dX5_hint_65 : decode cX5_hint 65 = .ok (.iload_n 1, 1) := by decide +kernel
theorem dX5_hint_66 : decode cX5_hint 66 = .ok (.aaload, 1) := by decide +kernel
theorem dX5_hint_67 : decode cX5_hint 67 = .ok (.getfield 115, 3) := by decide +kernel
theorem dX5_hint_70 : decode cX5_hint 70 = .ok (.iconst 1, 1) := by decide +kernel
theorem dX5_hint_71 : decode cX5_hint 71 = .ok (.iload_n 2, 1) := by decide +kernel
theorem dX5_hint_72 : decode cX5_hint 72 = .ok (.ishl, 1) := by decide +kernel
theorem dX5_hint_73 : decode cX5_hint 73 = .ok (.ixor, 1) := by decide +kernel
theorem dX5_hint_74 : decode cX5_hint 74 = .ok (.putfield 115, 3) := by decide +kernel
theorem dX5_hint_77 : decode cX5_hint 77 = .ok (.aload_n 0, 1) := by decide +kernel
theorem dX5_hint_78 : decode cX5_hint 78 = .ok (.iload_n 1, 1) := by decide +kernel
theorem dX5_hint_79 : decode cX5_hint 79 = .ok (.invokevirtual 134, 3) := by decide +kernel
theorem dX5_hint_82 : decode cX5_hint 82 = .ok (.ireturn, 1) := by decide +kernel
theorem dX5_lose_0 : decode cX5_lose 0 = .ok (.aload_n 0, 1) := by decide +kernel
theorem dX5_lose_1 : decode cX5_lose 1 = .ok (.iload_n 1, 1) := by decide +kernel
theorem dX5_lose_2 : decode cX5_lose 2 = .ok (.invokevirtual 121, 3) := by decide +kernel
theorem dX5_lose_5 : decode cX5_lose 5 = .ok (.ifCond .eq 15, 3) := by decide +kernel
theorem dX5_lose_8 : decode cX5_lose 8 = .ok (.iload_n 2, 1) := by decide +kernel
theorem dX5_lose_9 : decode cX5_lose 9 = .ok (.iconst (-1), 1) := by decide +kernel
theorem dX5_lose_10 : decode cX5_lose 10 = .ok (.if_icmp .eq 13, 3) := by decide +kernel
theorem dX5_lose_13 : decode cX5_lose 13 = .ok (.iload_n 2, 1) := by decide +kernel
theorem dX5_lose_14 : decode cX5_lose 14 = .ok (.invokestatic 67, 3) := by decide +kernel
theorem dX5_lose_17 : decode cX5_lose 17 = .ok (.ifCond .ne 6, 3) := by decide +kernel
theorem dX5_lose_20 : decode cX5_lose 20 = .ok (.ldc 71, 2) := by decide +kernel
theorem dX5_lose_22 : decode cX5_lose 22 = .ok (.ireturn, 1) := by decide +kernel
theorem dX5_lose_23 : decode cX5_lose 23 = .ok (.aload_n 0, 1) := by decide +kernel
theorem dX5_lose_24 : decode cX5_lose 24 = .ok (.getfield 36, 3) := by decide +kernel
theorem dX5_lose_27 : decode cX5_lose 27 = .ok (.aload_n 0, 1) := by decide +kernel
theorem dX5_lose_28 : decode cX5_lose 28 = .ok (.getfield 10, 3) := by decide +kernel
theorem dX5_lose_31 : decode cX5_lose 31 = .ok (.invokevirtual 60, 3) := by decide +kernel
theorem dX5_lose_34 : decode cX5_lose 34 = .ok (.aload_n 0, 1) := by decide +kernel
theorem dX5_lose_35 : decode cX5_lose 35 = .ok (.getfield 10, 3) := by decide +kernel
theorem dX5_lose_38 : decode cX5_lose 38 = .ok (.getfield 102, 3) := by decide +kernel
theorem dX5_lose_41 : decode cX5_lose 41 = .ok (.iload_n 1, 1) := by decide +kernel
theorem dX5_lose_42 : decode cX5_lose 42 = .ok (.aaload, 1) := by decide +kernel
theorem dX5_lose_43 : decode cX5_lose 43 = .ok (.iload_n 2, 1) := by decide +kernel
theorem dX5_lose_44 : decode cX5_lose 44 = .ok (.putfield 118, 3) := by decide +kernel
theorem dX5_lose_47 : decode cX5_lose 47 = .ok (.aload_n 0, 1) := by decide +kernel
theorem dX5_lose_48 : decode cX5_lose 48 = .ok (.iload_n 1, 1) := by decide +kernel
theorem dX5_lose_49 : decode cX5_lose 49 = .ok (.invokevirtual 134, 3) := by decide +kernel
theorem dX5_lose_52 : decode cX5_lose 52 = .ok (.ireturn, 1) := by decide +kernel
theorem dX5_turn_0 : decode cX5_turn 0 = .ok (.aload_n 0, 1) := by decide +kernel
theorem dX5_turn_1 : decode cX5_turn 1 = .ok (.iload_n 1, 1) := by decide +kernel
theorem dX5_turn_2 : decode cX5_turn 2 = .ok (.invokevirtual 121, 3) := by decide +kernel
theorem dX5_turn_5 : decode cX5_turn 5 = .ok (.ifCond .ne 6, 3) := by decide +kernel
theorem dX5_turn_8 : decode cX5_turn 8 = .ok (.ldc 71, 2) := by decide +kernel
theorem dX5_turn_10 : decode cX5_turn 10 = .ok (.ireturn, 1) := by decide +kernel
theorem dX5_turn_11 : decode cX5_turn 11 = .ok (.iload_n 2, 1) := by decide +kernel
theorem dX5_turn_12 : decode cX5_turn 12 = .ok (.iconst 1, 1) := by decide +kernel
theorem dX5_turn_13 : decode cX5_turn 13 = .ok (.if_icmp .lt 19, 3) := by decide +kernel
theorem dX5_turn_16 : decode cX5_turn 16 = .ok (.iload_n 2, 1) := by decide +kernel
theorem dX5_turn_17 : decode cX5_turn 17 = .ok (.aload_n 0, 1) := by decide +kernel
theorem dX5_turn_18 : decode cX5_turn 18 = .ok (.getfield 10, 3) := by decide +kernel
theorem dX5_turn_21 : decode cX5_turn 21 = .ok (.getfield 102, 3) := by decide +kernel
theorem dX5_turn_24 : decode cX5_turn 24 = .ok (.iload_n 1, 1) := by decide +kernel
theorem dX5_turn_25 : decode cX5_turn 25 = .ok (.aaload, 1) := by decide +kernel
theorem dX5_turn_26 : decode cX5_turn 26 = .ok (.getfield 137, 3) := by decide +kernel
theorem dX5_turn_29 : decode cX5_turn 29 = .ok (.if_icmp .lt 6, 3) := by decide +kernel
theorem dX5_turn_32 : decode cX5_turn 32 = .ok (.ldc 52, 2) := by decide +kernel
theorem dX5_turn_34 : decode cX5_turn 34 = .ok (.ireturn, 1) := by decide +kernel
theorem dX5_turn_35 : decode cX5_turn 35 = .ok (.aload_n 0, 1) := by decide +kernel
theorem dX5_turn_36 : decode cX5_turn 36 = .ok (.getfield 36, 3) := by decide +kernel
theorem dX5_turn_39 : decode cX5_turn 39 = .ok (.aload_n 0, 1) := by decide +kernel
theorem dX5_turn_40 : decode cX5_turn 40 = .ok (.getfield 10, 3) := by decide +kernel
theorem dX5_turn_43 : decode cX5_turn 43 = .ok (.invokevirtual 60, 3) := by decide +kernel
theorem dX5_turn_46 : decode cX5_turn 46 = .ok (.aload_n 0, 1) := by decide +kernel
theorem dX5_turn_47 : decode cX5_turn 47 = .ok (.getfield 10, 3) := by decide +kernel
theorem dX5_turn_50 : decode cX5_turn 50 = .ok (.getfield 102, 3) := by decide +kernel
theorem dX5_turn_53 : decode cX5_turn 53 = .ok (.iload_n 1, 1) := by decide +kernel
theorem dX5_turn_54 : decode cX5_turn 54 = .ok (.aaload, 1) := by decide +kernel
theorem dX5_turn_55 : decode cX5_turn 55 = .ok (.iload_n 2, 1) := by decide +kernel
theorem dX5_turn_56 : decode cX5_turn 56 = .ok (.invokevirtual 140, 3) := by decide +kernel
theorem dX5_turn_59 : decode cX5_turn 59 = .ok (.aload_n 0, 1) := by decide +kernel
theorem dX5_turn_60 : decode cX5_turn 60 = .ok (.getfield 10, 3) := by decide +kernel
theorem dX5_turn_63 : decode cX5_turn 63 = .ok (.getfield 102, 3) := by decide +kernel
theorem dX5_turn_66 : decode cX5_turn 66 = .ok (.iload_n 1, 1) := by decide +kernel
theorem dX5_turn_67 : decode cX5_turn 67 = .ok (.aaload, 1) := by decide +kernel
theorem dX5_turn_68 : decode cX5_turn 68 = .ok (.getfield 144, 3) := by decide +kernel
theorem dX5_turn_71 : decode cX5_turn 71 = .ok (.iconst 0, 1) := by decide +kernel
theorem dX5_turn_72 : decode cX5_turn 72 = .ok (.iaload, 1) := by decide +kernel
theorem dX5_turn_73 : decode cX5_turn 73 = .ok (.ireturn, 1) := by decide +kernel
theorem dX5_exchange_0 : decode cX5_exchange 0 = .ok (.aload_n 0, 1) := by decide +kernel
theorem dX5_exchange_1 : decode cX5_exchange 1 = .ok (.iload_n 1, 1) := by decide +kernel
theorem dX5_exchange_2 : decode cX5_exchange 2 = .ok (.invokevirtual 121, 3) := by decide +kernel
theorem dX5_exchange_5 : decode cX5_exchange 5 = .ok (.ifCond .eq 21, 3) := by decide +kernel
theorem dX5_exchange_8 : decode cX5_exchange 8 = .ok (.aload_n 0, 1) := by decide +kernel
theorem dX5_exchange_9 : decode cX5_exchange 9 = .ok (.iload_n 1, 1) := by decide +kernel
theorem dX5_exchange_10 : decode cX5_exchange 10 = .ok (.iload_n 2, 1) := by decide +kernel
theorem dX5_exchange_11 : decode cX5_exchange 11 = .ok (.invokevirtual 147, 3) := by decide +kernel
theorem dX5_exchange_14 : decode cX5_exchange 14 = .ok (.ifCond .eq 12, 3) := by decide +kernel
theorem dX5_exchange_17 : decode cX5_exchange 17 = .ok (.aload_n 0, 1) := by decide +kernel
theorem dX5_exchange_18 : decode cX5_exchange 18 = .ok (.iload_n 1, 1) := by decide +kernel
theorem dX5_exchange_19 : decode cX5_exchange 19 = .ok (.iload_n 3, 1) := by decide +kernel
theorem dX5_exchange_20 : decode cX5_exchange 20 = .ok (.invokevirtual 147, 3) := by decide +kernel
theorem dX5_exchange_23 : decode cX5_exchange 23 = .ok (.ifCond .ne 6, 3) := by decide +kernel
theorem dX5_exchange_26 : decode cX5_exchange 26 = .ok (.ldc 71, 2) := by decide +kernel
theorem dX5_exchange_28 : decode cX5_exchange 28 = .ok (.ireturn, 1) := by decide +kernel
theorem dX5_exchange_29 : decode cX5_exchange 29 = .ok (.iload_n 2, 1) := by decide +kernel
theorem dX5_exchange_30 : decode cX5_exchange 30 = .ok (.iload_n 3, 1) := by decide +kernel
theorem dX5_exchange_31 : decode cX5_exchange 31 = .ok (.if_icmp .ne 6, 3) := by decide +kernel
theorem dX5_exchange_34 : decode cX5_exchange 34 = .ok (.ldc 52, 2) := by decide +kernel
theorem dX5_exchange_36 : decode cX5_exchange 36 = .ok (.ireturn, 1) := by decide +kernel
theorem dX5_exchange_37 : decode cX5_exchange 37 = .ok (.aload_n 0, 1) := by decide +kernel
theorem dX5_exchange_38 : decode cX5_exchange 38 = .ok (.getfield 36, 3) := by decide +kernel
theorem dX5_exchange_41 : decode cX5_exchange 41 = .ok (.aload_n 0, 1) := by decide +kernel
theorem dX5_exchange_42 : decode cX5_exchange 42 = .ok (.getfield 10, 3) := by decide +kernel
theorem dX5_exchange_45 : decode cX5_exchange 45 = .ok (.invokevirtual 60, 3) := by decide +kernel
theorem dX5_exchange_48 : decode cX5_exchange 48 = .ok (.aload_n 0, 1) := by decide +kernel
theorem dX5_exchange_49 : decode cX5_exchange 49 = .ok (.getfield 10, 3) := by decide +kernel
theorem dX5_exchange_52 : decode cX5_exchange 52 = .ok (.getfield 102, 3) := by decide +kernel
theorem dX5_exchange_55 : decode cX5_exchange 55 = .ok (.iload_n 1, 1) := by decide +kernel
theorem dX5_exchange_56 : decode cX5_exchange 56 = .ok (.aaload, 1) := by decide +kernel
theorem dX5_exchange_57 : decode cX5_exchange 57 = .ok (.iload_n 2, 1) := by decide +kernel
theorem dX5_exchange_58 : decode cX5_exchange 58 = .ok (.iload_n 3, 1) := by decide +kernel
theorem dX5_exchange_59 : decode cX5_exchange 59 = .ok (.invokevirtual 151, 3) := by decide +kernel
theorem dX5_exchange_62 : decode cX5_exchange 62 = .ok (.aload_n 0, 1) := by decide +kernel
theorem dX5_exchange_63 : decode cX5_exchange 63 = .ok (.iload_n 1, 1) := by decide +kernel
theorem dX5_exchange_64 : decode cX5_exchange 64 = .ok (.invokevirtual 134, 3) := by decide +kernel
theorem dX5_exchange_67 : decode cX5_exchange 67 = .ok (.ireturn, 1) := by decide +kernel
theorem dX5_part_0 : decode cX5_part 0 = .ok (.aload_n 0, 1) := by decide +kernel
theorem dX5_part_1 : decode cX5_part 1 = .ok (.getfield 36, 3) := by decide +kernel
theorem dX5_part_4 : decode cX5_part 4 = .ok (.aload_n 0, 1) := by decide +kernel
theorem dX5_part_5 : decode cX5_part 5 = .ok (.getfield 10, 3) := by decide +kernel
theorem dX5_part_8 : decode cX5_part 8 = .ok (.invokevirtual 60, 3) := by decide +kernel
theorem dX5_part_11 : decode cX5_part 11 = .ok (.iconst 0, 1) := by decide +kernel
theorem dX5_part_12 : decode cX5_part 12 = .ok (.istore_n 1, 1) := by decide +kernel
theorem dX5_part_13 : decode cX5_part 13 = .ok (.iload_n 1, 1) := by decide +kernel
theorem dX5_part_14 : decode cX5_part 14 = .ok (.aload_n 0, 1) := by decide +kernel
theorem dX5_part_15 : decode cX5_part 15 = .ok (.getfield 10, 3) := by decide +kernel
theorem dX5_part_18 : decode cX5_part 18 = .ok (.getfield 98, 3) := by decide +kernel
theorem dX5_part_21 : decode cX5_part 21 = .ok (.if_icmp .ge 58, 3) := by decide +kernel
theorem dX5_part_24 : decode cX5_part 24 = .ok (.aload_n 0, 1) := by decide +kernel
theorem dX5_part_25 : decode cX5_part 25 = .ok (.getfield 10, 3) := by decide +kernel
theorem dX5_part_28 : decode cX5_part 28 = .ok (.getfield 102, 3) := by decide +kernel
theorem dX5_part_31 : decode cX5_part 31 = .ok (.iload_n 1, 1) := by decide +kernel
theorem dX5_part_32 : decode cX5_part 32 = .ok (.aaload, 1) := by decide +kernel
theorem dX5_part_33 : decode cX5_part 33 = .ok (.getfield 110, 3) := by decide +kernel
theorem dX5_part_36 : decode cX5_part 36 = .ok (.istore_n 2, 1) := by decide +kernel
theorem dX5_part_37 : decode cX5_part 37 = .ok (.aload_n 0, 1) := by decide +kernel
theorem dX5_part_38 : decode cX5_part 38 = .ok (.aload_n 0, 1) := by decide +kernel
theorem dX5_part_39 : decode cX5_part 39 = .ok (.getfield 10, 3) := by decide +kernel
theorem dX5_part_42 : decode cX5_part 42 = .ok (.iload_n 1, 1) := by decide +kernel
theorem dX5_part_43 : decode cX5_part 43 = .ok (.iload_n 1, 1) := by decide +kernel
theorem dX5_part_44 : decode cX5_part 44 = .ok (.iconst 1, 1) := by decide +kernel
theorem dX5_part_45 : decode cX5_part 45 = .ok (.iadd, 1) := by decide +kernel
theorem dX5_part_46 : decode cX5_part 46 = .ok (.invokevirtual 155, 3) := by decide +kernel
theorem dX5_part_49 : decode cX5_part 49 = .ok (.istore_n 3, 1) := by decide +kernel
theorem dX5_part_50 : decode cX5_part 50 = .ok (.aload_n 0, 1) := by decide +kernel
theorem dX5_part_51 : decode cX5_part 51 = .ok (.getfield 10, 3) := by decide +kernel
theorem dX5_part_54 : decode cX5_part 54 = .ok (.getfield 102, 3) := by decide +kernel
theorem dX5_part_57 : decode cX5_part 57 = .ok (.iload_n 1, 1) := by decide +kernel
theorem dX5_part_58 : decode cX5_part 58 = .ok (.aaload, 1) := by decide +kernel
theorem dX5_part_59 : decode cX5_part 59 = .ok (.iload_n 3, 1) := by decide +kernel
theorem dX5_part_60 : decode cX5_part 60 = .ok (.ldc 96, 2) := by decide +kernel
theorem dX5_part_62 : decode cX5_part 62 = .ok (.if_icmp .ne 7, 3) := by decide +kernel
theorem dX5_part_65 : decode cX5_part 65 = .ok (.iload_n 2, 1) := by decide +kernel
theorem dX5_part_66 : decode cX5_part 66 = .ok (.goto 4, 3) := by decide +kernel
theorem dX5_part_69 : decode cX5_part 69 = .ok (.iload_n 3, 1) := by decide +kernel
theorem dX5_part_70 : decode cX5_part 70 = .ok (.putfield 110, 3) := by decide +kernel
theorem dX5_part_73 : decode cX5_part 73 = .ok (.iinc 1 1, 3) := by decide +kernel
theorem dX5_part_76 : decode cX5_part 76 = .ok (.goto (-63), 3) := by decide +kernel
theorem dX5_part_79 : decode cX5_part 79 = .ok (.aload_n 0, 1) := by decide +kernel
theorem dX5_part_80 : decode cX5_part 80 = .ok (.invokevirtual 159, 3) := by decide +kernel
theorem dX5_part_83 : decode cX5_part 83 = .ok (.aload_n 0, 1) := by decide +kernel
theorem dX5_part_84 : decode cX5_part 84 = .ok (.getfield 22, 3) := by decide +kernel
theorem dX5_part_87 : decode cX5_part 87 = .ok (.invokevirtual 162, 3) := by decide +kernel
theorem dX5_part_90 : decode cX5_part 90 = .ok (.ireturn, 1) := by decide +kernel
theorem dX5_visit_0 : decode cX5_visit 0 = .ok (.aload_n 0, 1) := by decide +kernel
theorem dX5_visit_1 : decode cX5_visit 1 = .ok (.iload_n 1, 1) := by decide +kernel
theorem dX5_visit_2 : decode cX5_visit 2 = .ok (.invokevirtual 121, 3) := by decide +kernel
theorem dX5_visit_5 : decode cX5_visit 5 = .ok (.ifCond .ne 6, 3) := by decide +kernel
theorem dX5_visit_8 : decode cX5_visit 8 = .ok (.ldc 71, 2) := by decide +kernel
theorem dX5_visit_10 : decode cX5_visit 10 = .ok (.ireturn, 1) := by decide +kernel
theorem dX5_visit_11 : decode cX5_visit 11 = .ok (.iload_n 3, 1) := by decide +kernel
theorem dX5_visit_12 : decode cX5_visit 12 = .ok (.iconst 0, 1) := by decide +kernel
theorem dX5_visit_13 : decode cX5_visit 13 = .ok (.iconst 4, 1) := by decide +kernel
theorem dX5_visit_14 : decode cX5_visit 14 = .ok (.invokestatic 48, 3) := by decide +kernel
theorem dX5_visit_17 : decode cX5_visit 17 = .ok (.ifCond .ne 6, 3) := by decide +kernel
theorem dX5_visit_20 : decode cX5_visit 20 = .ok (.ldc 52, 2) := by decide +kernel
theorem dX5_visit_22 : decode cX5_visit 22 = .ok (.ireturn, 1) := by decide +kernel
theorem dX5_visit_23 : decode cX5_visit 23 = .ok (.aload_n 0, 1) := by decide +kernel
theorem dX5_visit_24 : decode cX5_visit 24 = .ok (.invokevirtual 159, 3) := by decide +kernel
theorem dX5_visit_27 : decode cX5_visit 27 = .ok (.iload_n 2, 1) := by decide +kernel
theorem dX5_visit_28 : decode cX5_visit 28 = .ok (.iconst 0, 1) := by decide +kernel
theorem dX5_visit_29 : decode cX5_visit 29 = .ok (.aload_n 0, 1) := by decide +kernel
theorem dX5_visit_30 : decode cX5_visit 30 = .ok (.getfield 22, 3) := by decide +kernel
theorem dX5_visit_33 : decode cX5_visit 33 = .ok (.getfield 165, 3) := by decide +kernel
theorem dX5_visit_36 : decode cX5_visit 36 = .ok (.iload_n 1, 1) := by decide +kernel
theorem dX5_visit_37 : decode cX5_visit 37 = .ok (.iaload, 1) := by decide +kernel
theorem dX5_visit_38 : decode cX5_visit 38 = .ok (.iconst 1, 1) := by decide +kernel
theorem dX5_visit_39 : decode cX5_visit 39 = .ok (.isub, 1) := by decide +kernel
theorem dX5_visit_40 : decode cX5_visit 40 = .ok (.invokestatic 48, 3) := by decide +kernel
theorem dX5_visit_43 : decode cX5_visit 43 = .ok (.ifCond .ne 6, 3) := by decide +kernel
theorem dX5_visit_46 : decode cX5_visit 46 = .ok (.ldc 96, 2) := by decide +kernel
theorem dX5_visit_48 : decode cX5_visit 48 = .ok (.ireturn, 1) := by decide +kernel
theorem dX5_visit_49 : decode cX5_visit 49 = .ok (.iload_n 3, 1) := by decide +kernel
theorem dX5_visit_50 : decode cX5_visit 50 = .ok (.tableswitch 78 0 3 #[30, 42, 54, 66], 30) := by decide +kernel
theorem dX5_visit_80 : decode cX5_visit 80 = .ok (.aload_n 0, 1) := by decide +kernel
theorem dX5_visit_81 : decode cX5_visit 81 = .ok (.getfield 22, 3) := by decide +kernel
theorem dX5_visit_84 : decode cX5_visit 84 = .ok (.getfield 168, 3) := by decide +kernel
theorem dX5_visit_87 : decode cX5_visit 87 = .ok (.iload_n 1, 1) := by decide +kernel
theorem dX5_visit_88 : decode cX5_visit 88 = .ok (.aaload, 1) := by decide +kernel
theorem dX5_visit_89 : decode cX5_visit 89 = .ok (.iload_n 2, 1) := by decide +kernel
theorem dX5_visit_90 : decode cX5_visit 90 = .ok (.iaload, 1) := by decide +kernel
theorem dX5_visit_91 : decode cX5_visit 91 = .ok (.ireturn, 1) := by decide +kernel
theorem dX5_visit_92 : decode cX5_visit 92 = .ok (.aload_n 0, 1) := by decide +kernel
theorem dX5_visit_93 : decode cX5_visit 93 = .ok (.getfield 22, 3) := by decide +kernel
theorem dX5_visit_96 : decode cX5_visit 96 = .ok (.getfield 172, 3) := by decide +kernel
theorem dX5_visit_99 : decode cX5_visit 99 = .ok (.iload_n 1, 1) := by decide +kernel
theorem dX5_visit_100 : decode cX5_visit 100 = .ok (.aaload, 1) := by decide +kernel
theorem dX5_visit_101 : decode cX5_visit 101 = .ok (.iload_n 2, 1) := by decide +kernel
theorem dX5_visit_102 : decode cX5_visit 102 = .ok (.iaload, 1) := by decide +kernel
theorem dX5_visit_103 : decode cX5_visit 103 = .ok (.ireturn, 1) := by decide +kernel
theorem dX5_visit_104 : decode cX5_visit 104 = .ok (.aload_n 0, 1) := by decide +kernel
theorem dX5_visit_105 : decode cX5_visit 105 = .ok (.getfield 22, 3) := by decide +kernel
theorem dX5_visit_108 : decode cX5_visit 108 = .ok (.getfield 175, 3) := by decide +kernel
theorem dX5_visit_111 : decode cX5_visit 111 = .ok (.iload_n 1, 1) := by decide +kernel
theorem dX5_visit_112 : decode cX5_visit 112 = .ok (.aaload, 1) := by decide +kernel
theorem dX5_visit_113 : decode cX5_visit 113 = .ok (.iload_n 2, 1) := by decide +kernel
theorem dX5_visit_114 : decode cX5_visit 114 = .ok (.iaload, 1) := by decide +kernel
theorem dX5_visit_115 : decode cX5_visit 115 = .ok (.ireturn, 1) := by decide +kernel
theorem dX5_visit_116 : decode cX5_visit 116 = .ok (.aload_n 0, 1) := by decide +kernel
theorem dX5_visit_117 : decode cX5_visit 117 = .ok (.getfield 22, 3) := by decide +kernel
theorem dX5_visit_120 : decode cX5_visit 120 = .ok (.getfield 178, 3) := by decide +kernel
theorem dX5_visit_123 : decode cX5_visit 123 = .ok (.iload_n 1, 1) := by decide +kernel
theorem dX5_visit_124 : decode cX5_visit 124 = .ok (.aaload, 1) := by decide +kernel
theorem dX5_visit_125 : decode cX5_visit 125 = .ok (.iload_n 2, 1) := by decide +kernel
theorem dX5_visit_126 : decode cX5_visit 126 = .ok (.iaload, 1) := by decide +kernel
theorem dX5_visit_127 : decode cX5_visit 127 = .ok (.ireturn, 1) := by decide +kernel
theorem dX5_visit_128 : decode cX5_visit 128 = .ok (.aload_n 0, 1) := by decide +kernel
theorem dX5_visit_129 : decode cX5_visit 129 = .ok (.getfield 22, 3) := by decide +kernel
theorem dX5_visit_132 : decode cX5_visit 132 = .ok (.getfield 181, 3) := by decide +kernel
theorem dX5_visit_135 : decode cX5_visit 135 = .ok (.iload_n 1, 1) := by decide +kernel
theorem dX5_visit_136 : decode cX5_visit 136 = .ok (.aaload, 1) := by decide +kernel
theorem dX5_visit_137 : decode cX5_visit 137 = .ok (.iload_n 2, 1) := by decide +kernel
theorem dX5_visit_138 : decode cX5_visit 138 = .ok (.iaload, 1) := by decide +kernel
theorem dX5_visit_139 : decode cX5_visit 139 = .ok (.ireturn, 1) := by decide +kernel
theorem dX5_teamOf_0 : decode cX5_teamOf 0 = .ok (.aload_n 0, 1) := by decide +kernel
theorem dX5_teamOf_1 : decode cX5_teamOf 1 = .ok (.iload_n 1, 1) := by decide +kernel
theorem dX5_teamOf_2 : decode cX5_teamOf 2 = .ok (.invokevirtual 121, 3) := by decide +kernel
theorem dX5_teamOf_5 : decode cX5_teamOf 5 = .ok (.ifCond .ne 6, 3) := by decide +kernel
theorem dX5_teamOf_8 : decode cX5_teamOf 8 = .ok (.ldc 71, 2) := by decide +kernel
theorem dX5_teamOf_10 : decode cX5_teamOf 10 = .ok (.ireturn, 1) := by decide +kernel
theorem dX5_teamOf_11 : decode cX5_teamOf 11 = .ok (.aload_n 0, 1) := by decide +kernel
theorem dX5_teamOf_12 : decode cX5_teamOf 12 = .ok (.invokevirtual 159, 3) := by decide +kernel
theorem dX5_teamOf_15 : decode cX5_teamOf 15 = .ok (.iload_n 2, 1) := by decide +kernel
theorem dX5_teamOf_16 : decode cX5_teamOf 16 = .ok (.tableswitch 156 0 9 #[56, 69, 79, 92, 102, 111, 120, 129, 138, 147], 56) := by decide +kernel
theorem dX5_teamOf_72 : decode cX5_teamOf 72 = .ok (.aload_n 0, 1) := by decide +kernel
theorem dX5_teamOf_73 : decode cX5_teamOf 73 = .ok (.getfield 10, 3) := by decide +kernel
theorem dX5_teamOf_76 : decode cX5_teamOf 76 = .ok (.getfield 102, 3) := by decide +kernel
theorem dX5_teamOf_79 : decode cX5_teamOf 79 = .ok (.iload_n 1, 1) := by decide +kernel
theorem dX5_teamOf_80 : decode cX5_teamOf 80 = .ok (.aaload, 1) := by decide +kernel
theorem dX5_teamOf_81 : decode cX5_teamOf 81 = .ok (.getfield 110, 3) := by decide +kernel
theorem dX5_teamOf_84 : decode cX5_teamOf 84 = .ok (.ireturn, 1) := by decide +kernel
theorem dX5_teamOf_85 : decode cX5_teamOf 85 = .ok (.aload_n 0, 1) := by decide +kernel
theorem dX5_teamOf_86 : decode cX5_teamOf 86 = .ok (.getfield 22, 3) := by decide +kernel
theorem dX5_teamOf_89 : decode cX5_teamOf 89 = .ok (.getfield 184, 3) := by decide +kernel
theorem dX5_teamOf_92 : decode cX5_teamOf 92 = .ok (.iload_n 1, 1) := by decide +kernel
theorem dX5_teamOf_93 : decode cX5_teamOf 93 = .ok (.iaload, 1) := by decide +kernel
theorem dX5_teamOf_94 : decode cX5_teamOf 94 = .ok (.ireturn, 1) := by decide +kernel
theorem dX5_teamOf_95 : decode cX5_teamOf 95 = .ok (.aload_n 0, 1) := by decide +kernel
theorem dX5_teamOf_96 : decode cX5_teamOf 96 = .ok (.getfield 10, 3) := by decide +kernel
theorem dX5_teamOf_99 : decode cX5_teamOf 99 = .ok (.getfield 102, 3) := by decide +kernel
theorem dX5_teamOf_102 : decode cX5_teamOf 102 = .ok (.iload_n 1, 1) := by decide +kernel
theorem dX5_teamOf_103 : decode cX5_teamOf 103 = .ok (.aaload, 1) := by decide +kernel
theorem dX5_teamOf_104 : decode cX5_teamOf 104 = .ok (.getfield 137, 3) := by decide +kernel
theorem dX5_teamOf_107 : decode cX5_teamOf 107 = .ok (.ireturn, 1) := by decide +kernel
theorem dX5_teamOf_108 : decode cX5_teamOf 108 = .ok (.aload_n 0, 1) := by decide +kernel
theorem dX5_teamOf_109 : decode cX5_teamOf 109 = .ok (.getfield 22, 3) := by decide +kernel
theorem dX5_teamOf_112 : decode cX5_teamOf 112 = .ok (.getfield 165, 3) := by decide +kernel
theorem dX5_teamOf_115 : decode cX5_teamOf 115 = .ok (.iload_n 1, 1) := by decide +kernel
theorem dX5_teamOf_116 : decode cX5_teamOf 116 = .ok (.iaload, 1) := by decide +kernel
theorem dX5_teamOf_117 : decode cX5_teamOf 117 = .ok (.ireturn, 1) := by decide +kernel
theorem dX5_teamOf_118 : decode cX5_teamOf 118 = .ok (.aload_n 0, 1) := by decide +kernel
theorem dX5_teamOf_119 : decode cX5_teamOf 119 = .ok (.getfield 22, 3) := by decide +kernel
theorem dX5_teamOf_122 : decode cX5_teamOf 122 = .ok (.iload_n 1, 1) := by decide +kernel
theorem dX5_teamOf_123 : decode cX5_teamOf 123 = .ok (.invokevirtual 187, 3) := by decide +kernel
theorem dX5_teamOf_126 : decode cX5_teamOf 126 = .ok (.ireturn, 1) := by decide +kernel
theorem dX5_teamOf_127 : decode cX5_teamOf 127 = .ok (.aload_n 0, 1) := by decide +kernel
theorem dX5_teamOf_128 : decode cX5_teamOf 128 = .ok (.getfield 22, 3) := by decide +kernel
theorem dX5_teamOf_131 : decode cX5_teamOf 131 = .ok (.iload_n 1, 1) := by decide +kernel
theorem dX5_teamOf_132 : decode cX5_teamOf 132 = .ok (.invokevirtual 190, 3) := by decide +kernel
theorem dX5_teamOf_135 : decode cX5_teamOf 135 = .ok (.ireturn, 1) := by decide +kernel
theorem dX5_teamOf_136 : decode cX5_teamOf 136 = .ok (.aload_n 0, 1) := by decide +kernel
theorem dX5_teamOf_137 : decode cX5_teamOf 137 = .ok (.getfield 22, 3) := by decide +kernel
theorem dX5_teamOf_140 : decode cX5_teamOf 140 = .ok (.iload_n 1, 1) := by decide +kernel
theorem dX5_teamOf_141 : decode cX5_teamOf 141 = .ok (.invokevirtual 193, 3) := by decide +kernel
theorem dX5_teamOf_144 : decode cX5_teamOf 144 = .ok (.ireturn, 1) := by decide +kernel
theorem dX5_teamOf_145 : decode cX5_teamOf 145 = .ok (.aload_n 0, 1) := by decide +kernel
theorem dX5_teamOf_146 : decode cX5_teamOf 146 = .ok (.getfield 22, 3) := by decide +kernel
theorem dX5_teamOf_149 : decode cX5_teamOf 149 = .ok (.iload_n 1, 1) := by decide +kernel
theorem dX5_teamOf_150 : decode cX5_teamOf 150 = .ok (.invokevirtual 196, 3) := by decide +kernel
theorem dX5_teamOf_153 : decode cX5_teamOf 153 = .ok (.ireturn, 1) := by decide +kernel
theorem dX5_teamOf_154 : decode cX5_teamOf 154 = .ok (.aload_n 0, 1) := by decide +kernel
theorem dX5_teamOf_155 : decode cX5_teamOf 155 = .ok (.getfield 22, 3) := by decide +kernel
theorem dX5_teamOf_158 : decode cX5_teamOf 158 = .ok (.iload_n 1, 1) := by decide +kernel
theorem dX5_teamOf_159 : decode cX5_teamOf 159 = .ok (.invokevirtual 199, 3) := by decide +kernel
theorem dX5_teamOf_162 : decode cX5_teamOf 162 = .ok (.ireturn, 1) := by decide +kernel
theorem dX5_teamOf_163 : decode cX5_teamOf 163 = .ok (.aload_n 0, 1) := by decide +kernel
theorem dX5_teamOf_164 : decode cX5_teamOf 164 = .ok (.getfield 22, 3) := by decide +kernel
theorem dX5_teamOf_167 : decode cX5_teamOf 167 = .ok (.iload_n 1, 1) := by decide +kernel
theorem dX5_teamOf_168 : decode cX5_teamOf 168 = .ok (.invokevirtual 202, 3) := by decide +kernel
theorem dX5_teamOf_171 : decode cX5_teamOf 171 = .ok (.ireturn, 1) := by decide +kernel
theorem dX5_teamOf_172 : decode cX5_teamOf 172 = .ok (.ldc 52, 2) := by decide +kernel
theorem dX5_teamOf_174 : decode cX5_teamOf 174 = .ok (.ireturn, 1) := by decide +kernel
theorem dX5_placeOf_0 : decode cX5_placeOf 0 = .ok (.iload_n 1, 1) := by decide +kernel
theorem dX5_placeOf_1 : decode cX5_placeOf 1 = .ok (.invokestatic 67, 3) := by decide +kernel
theorem dX5_placeOf_4 : decode cX5_placeOf 4 = .ok (.ifCond .ne 6, 3) := by decide +kernel
theorem dX5_placeOf_7 : decode cX5_placeOf 7 = .ok (.ldc 71, 2) := by decide +kernel
theorem dX5_placeOf_9 : decode cX5_placeOf 9 = .ok (.ireturn, 1) := by decide +kernel
theorem dX5_placeOf_10 : decode cX5_placeOf 10 = .ok (.aload_n 0, 1) := by decide +kernel
theorem dX5_placeOf_11 : decode cX5_placeOf 11 = .ok (.invokevirtual 159, 3) := by decide +kernel
theorem dX5_placeOf_14 : decode cX5_placeOf 14 = .ok (.iload_n 2, 1) := by decide +kernel
theorem dX5_placeOf_15 : decode cX5_placeOf 15 = .ok (.tableswitch 128 0 7 #[45, 55, 65, 75, 92, 101, 110, 119], 45) := by decide +kernel
theorem dX5_placeOf_60 : decode cX5_placeOf 60 = .ok (.aload_n 0, 1) := by decide +kernel
theorem dX5_placeOf_61 : decode cX5_placeOf 61 = .ok (.getfield 10, 3) := by decide +kernel
theorem dX5_placeOf_64 : decode cX5_placeOf 64 = .ok (.getfield 75, 3) := by decide +kernel
theorem dX5_placeOf_67 : decode cX5_placeOf 67 = .ok (.iload_n 1, 1) := by decide +kernel
theorem dX5_placeOf_68 : decode cX5_placeOf 68 = .ok (.iaload, 1) := by decide +kernel
theorem dX5_placeOf_69 : decode cX5_placeOf 69 = .ok (.ireturn, 1) := by decide +kernel
theorem dX5_placeOf_70 : decode cX5_placeOf 70 = .ok (.aload_n 0, 1) := by decide +kernel
theorem dX5_placeOf_71 : decode cX5_placeOf 71 = .ok (.getfield 10, 3) := by decide +kernel
theorem dX5_placeOf_74 : decode cX5_placeOf 74 = .ok (.getfield 78, 3) := by decide +kernel
theorem dX5_placeOf_77 : decode cX5_placeOf 77 = .ok (.iload_n 1, 1) := by decide +kernel
theorem dX5_placeOf_78 : decode cX5_placeOf 78 = .ok (.iaload, 1) := by decide +kernel
theorem dX5_placeOf_79 : decode cX5_placeOf 79 = .ok (.ireturn, 1) := by decide +kernel
theorem dX5_placeOf_80 : decode cX5_placeOf 80 = .ok (.aload_n 0, 1) := by decide +kernel
theorem dX5_placeOf_81 : decode cX5_placeOf 81 = .ok (.getfield 10, 3) := by decide +kernel
theorem dX5_placeOf_84 : decode cX5_placeOf 84 = .ok (.getfield 72, 3) := by decide +kernel
theorem dX5_placeOf_87 : decode cX5_placeOf 87 = .ok (.iload_n 1, 1) := by decide +kernel
theorem dX5_placeOf_88 : decode cX5_placeOf 88 = .ok (.iaload, 1) := by decide +kernel
theorem dX5_placeOf_89 : decode cX5_placeOf 89 = .ok (.ireturn, 1) := by decide +kernel
theorem dX5_placeOf_90 : decode cX5_placeOf 90 = .ok (.aload_n 0, 1) := by decide +kernel
theorem dX5_placeOf_91 : decode cX5_placeOf 91 = .ok (.getfield 10, 3) := by decide +kernel
theorem dX5_placeOf_94 : decode cX5_placeOf 94 = .ok (.iload_n 1, 1) := by decide +kernel
theorem dX5_placeOf_95 : decode cX5_placeOf 95 = .ok (.invokevirtual 81, 3) := by decide +kernel
theorem dX5_placeOf_98 : decode cX5_placeOf 98 = .ok (.ifCond .eq 7, 3) := by decide +kernel
theorem dX5_placeOf_101 : decode cX5_placeOf 101 = .ok (.iconst 0, 1) := by decide +kernel
theorem dX5_placeOf_102 : decode cX5_placeOf 102 = .ok (.goto 4, 3) := by decide +kernel
theorem dX5_placeOf_105 : decode cX5_placeOf 105 = .ok (.iconst 1, 1) := by decide +kernel
theorem dX5_placeOf_106 : decode cX5_placeOf 106 = .ok (.ireturn, 1) := by decide +kernel
theorem dX5_placeOf_107 : decode cX5_placeOf 107 = .ok (.aload_n 0, 1) := by decide +kernel
theorem dX5_placeOf_108 : decode cX5_placeOf 108 = .ok (.getfield 22, 3) := by decide +kernel
theorem dX5_placeOf_111 : decode cX5_placeOf 111 = .ok (.iload_n 1, 1) := by decide +kernel
theorem dX5_placeOf_112 : decode cX5_placeOf 112 = .ok (.invokevirtual 205, 3) := by decide +kernel
theorem dX5_placeOf_115 : decode cX5_placeOf 115 = .ok (.ireturn, 1) := by decide +kernel
theorem dX5_placeOf_116 : decode cX5_placeOf 116 = .ok (.aload_n 0, 1) := by decide +kernel
theorem dX5_placeOf_117 : decode cX5_placeOf 117 = .ok (.getfield 22, 3) := by decide +kernel
theorem dX5_placeOf_120 : decode cX5_placeOf 120 = .ok (.iload_n 1, 1) := by decide +kernel
theorem dX5_placeOf_121 : decode cX5_placeOf 121 = .ok (.invokevirtual 208, 3) := by decide +kernel
theorem dX5_placeOf_124 : decode cX5_placeOf 124 = .ok (.ireturn, 1) := by decide +kernel
theorem dX5_placeOf_125 : decode cX5_placeOf 125 = .ok (.aload_n 0, 1) := by decide +kernel
theorem dX5_placeOf_126 : decode cX5_placeOf 126 = .ok (.getfield 22, 3) := by decide +kernel
theorem dX5_placeOf_129 : decode cX5_placeOf 129 = .ok (.iload_n 1, 1) := by decide +kernel
theorem dX5_placeOf_130 : decode cX5_placeOf 130 = .ok (.invokevirtual 211, 3) := by decide +kernel
theorem dX5_placeOf_133 : decode cX5_placeOf 133 = .ok (.ireturn, 1) := by decide +kernel
theorem dX5_placeOf_134 : decode cX5_placeOf 134 = .ok (.aload_n 0, 1) := by decide +kernel
theorem dX5_placeOf_135 : decode cX5_placeOf 135 = .ok (.getfield 22, 3) := by decide +kernel
theorem dX5_placeOf_138 : decode cX5_placeOf 138 = .ok (.iload_n 1, 1) := by decide +kernel
theorem dX5_placeOf_139 : decode cX5_placeOf 139 = .ok (.invokevirtual 214, 3) := by decide +kernel
theorem dX5_placeOf_142 : decode cX5_placeOf 142 = .ok (.ireturn, 1) := by decide +kernel
theorem dX5_placeOf_143 : decode cX5_placeOf 143 = .ok (.ldc 52, 2) := by decide +kernel
theorem dX5_placeOf_145 : decode cX5_placeOf 145 = .ok (.ireturn, 1) := by decide +kernel
theorem dX5_where_0 : decode cX5_where 0 = .ok (.aload_n 0, 1) := by decide +kernel
theorem dX5_where_1 : decode cX5_where 1 = .ok (.iload_n 1, 1) := by decide +kernel
theorem dX5_where_2 : decode cX5_where 2 = .ok (.invokevirtual 121, 3) := by decide +kernel
theorem dX5_where_5 : decode cX5_where 5 = .ok (.ifCond .ne 6, 3) := by decide +kernel
theorem dX5_where_8 : decode cX5_where 8 = .ok (.ldc 71, 2) := by decide +kernel
theorem dX5_where_10 : decode cX5_where 10 = .ok (.ireturn, 1) := by decide +kernel
theorem dX5_where_11 : decode cX5_where 11 = .ok (.iload_n 2, 1) := by decide +kernel
theorem dX5_where_12 : decode cX5_where 12 = .ok (.ifCond .ge 6, 3) := by decide +kernel
theorem dX5_where_15 : decode cX5_where 15 = .ok (.ldc 52, 2) := by decide +kernel
theorem dX5_where_17 : decode cX5_where 17 = .ok (.ireturn, 1) := by decide +kernel
theorem dX5_where_18 : decode cX5_where 18 = .ok (.aload_n 0, 1) := by decide +kernel
theorem dX5_where_19 : decode cX5_where 19 = .ok (.invokevirtual 159, 3) := by decide +kernel
theorem dX5_where_22 : decode cX5_where 22 = .ok (.aload_n 0, 1) := by decide +kernel
theorem dX5_where_23 : decode cX5_where 23 = .ok (.getfield 22, 3) := by decide +kernel
theorem dX5_where_26 : decode cX5_where 26 = .ok (.iload_n 1, 1) := by decide +kernel
theorem dX5_where_27 : decode cX5_where 27 = .ok (.iload_n 2, 1) := by decide +kernel
theorem dX5_where_28 : decode cX5_where 28 = .ok (.invokevirtual 217, 3) := by decide +kernel
theorem dX5_where_31 : decode cX5_where 31 = .ok (.ireturn, 1) := by decide +kernel
theorem dX5_told_0 : decode cX5_told 0 = .ok (.aload_n 0, 1) := by decide +kernel
theorem dX5_told_1 : decode cX5_told 1 = .ok (.iload_n 1, 1) := by decide +kernel
theorem dX5_told_2 : decode cX5_told 2 = .ok (.invokevirtual 121, 3) := by decide +kernel
theorem dX5_told_5 : decode cX5_told 5 = .ok (.ifCond .ne 6, 3) := by decide +kernel
theorem dX5_told_8 : decode cX5_told 8 = .ok (.ldc 71, 2) := by decide +kernel
theorem dX5_told_10 : decode cX5_told 10 = .ok (.ireturn, 1) := by decide +kernel
theorem dX5_told_11 : decode cX5_told 11 = .ok (.iload_n 2, 1) := by decide +kernel
theorem dX5_told_12 : decode cX5_told 12 = .ok (.ifCond .ge 6, 3) := by decide +kernel
theorem dX5_told_15 : decode cX5_told 15 = .ok (.ldc 52, 2) := by decide +kernel
theorem dX5_told_17 : decode cX5_told 17 = .ok (.ireturn, 1) := by decide +kernel
theorem dX5_told_18 : decode cX5_told 18 = .ok (.aload_n 0, 1) := by decide +kernel
theorem dX5_told_19 : decode cX5_told 19 = .ok (.invokevirtual 159, 3) := by decide +kernel
theorem dX5_told_22 : decode cX5_told 22 = .ok (.aload_n 0, 1) := by decide +kernel
theorem dX5_told_23 : decode cX5_told 23 = .ok (.getfield 22, 3) := by decide +kernel
theorem dX5_told_26 : decode cX5_told 26 = .ok (.iload_n 1, 1) := by decide +kernel
theorem dX5_told_27 : decode cX5_told 27 = .ok (.iload_n 2, 1) := by decide +kernel
theorem dX5_told_28 : decode cX5_told 28 = .ok (.invokevirtual 221, 3) := by decide +kernel
theorem dX5_told_31 : decode cX5_told 31 = .ok (.ireturn, 1) := by decide +kernel
theorem dX5_count_0 : decode cX5_count 0 = .ok (.aload_n 0, 1) := by decide +kernel
theorem dX5_count_1 : decode cX5_count 1 = .ok (.invokevirtual 159, 3) := by decide +kernel
theorem dX5_count_4 : decode cX5_count 4 = .ok (.iload_n 1, 1) := by decide +kernel
theorem dX5_count_5 : decode cX5_count 5 = .ok (.tableswitch 157 0 12 #[67, 67, 67, 77, 85, 93, 101, 109, 117, 125, 133, 141, 149], 67) := by decide +kernel
theorem dX5_count_72 : decode cX5_count 72 = .ok (.aload_n 0, 1) := by decide +kernel
theorem dX5_count_73 : decode cX5_count 73 = .ok (.getfield 10, 3) := by decide +kernel
theorem dX5_count_76 : decode cX5_count 76 = .ok (.getfield 64, 3) := by decide +kernel
theorem dX5_count_79 : decode cX5_count 79 = .ok (.iload_n 1, 1) := by decide +kernel
theorem dX5_count_80 : decode cX5_count 80 = .ok (.iaload, 1) := by decide +kernel
theorem dX5_count_81 : decode cX5_count 81 = .ok (.ireturn, 1) := by decide +kernel
theorem dX5_count_82 : decode cX5_count 82 = .ok (.aload_n 0, 1) := by decide +kernel
theorem dX5_count_83 : decode cX5_count 83 = .ok (.getfield 10, 3) := by decide +kernel
theorem dX5_count_86 : decode cX5_count 86 = .ok (.getfield 98, 3) := by decide +kernel
theorem dX5_count_89 : decode cX5_count 89 = .ok (.ireturn, 1) := by decide +kernel
theorem dX5_count_90 : decode cX5_count 90 = .ok (.aload_n 0, 1) := by decide +kernel
theorem dX5_count_91 : decode cX5_count 91 = .ok (.getfield 10, 3) := by decide +kernel
theorem dX5_count_94 : decode cX5_count 94 = .ok (.invokevirtual 89, 3) := by decide +kernel
theorem dX5_count_97 : decode cX5_count 97 = .ok (.ireturn, 1) := by decide +kernel
theorem dX5_count_98 : decode cX5_count 98 = .ok (.aload_n 0, 1) := by decide +kernel
theorem dX5_count_99 : decode cX5_count 99 = .ok (.getfield 22, 3) := by decide +kernel
theorem dX5_count_102 : decode cX5_count 102 = .ok (.invokevirtual 162, 3) := by decide +kernel
theorem dX5_count_105 : decode cX5_count 105 = .ok (.ireturn, 1) := by decide +kernel
theorem dX5_count_106 : decode cX5_count 106 = .ok (.aload_n 0, 1) := by decide +kernel
theorem dX5_count_107 : decode cX5_count 107 = .ok (.getfield 22, 3) := by decide +kernel
theorem dX5_count_110 : decode cX5_count 110 = .ok (.invokevirtual 224, 3) := by decide +kernel
theorem dX5_count_113 : decode cX5_count 113 = .ok (.ireturn, 1) := by decide +kernel
theorem dX5_count_114 : decode cX5_count 114 = .ok (.aload_n 0, 1) := by decide +kernel
theorem dX5_count_115 : decode cX5_count 115 = .ok (.getfield 22, 3) := by decide +kernel
theorem dX5_count_118 : decode cX5_count 118 = .ok (.invokevirtual 227, 3) := by decide +kernel
theorem dX5_count_121 : decode cX5_count 121 = .ok (.ireturn, 1) := by decide +kernel
theorem dX5_count_122 : decode cX5_count 122 = .ok (.aload_n 0, 1) := by decide +kernel
theorem dX5_count_123 : decode cX5_count 123 = .ok (.getfield 22, 3) := by decide +kernel
theorem dX5_count_126 : decode cX5_count 126 = .ok (.invokevirtual 230, 3) := by decide +kernel
theorem dX5_count_129 : decode cX5_count 129 = .ok (.ireturn, 1) := by decide +kernel
theorem dX5_count_130 : decode cX5_count 130 = .ok (.aload_n 0, 1) := by decide +kernel
theorem dX5_count_131 : decode cX5_count 131 = .ok (.getfield 22, 3) := by decide +kernel
theorem dX5_count_134 : decode cX5_count 134 = .ok (.invokevirtual 233, 3) := by decide +kernel
theorem dX5_count_137 : decode cX5_count 137 = .ok (.ireturn, 1) := by decide +kernel
theorem dX5_count_138 : decode cX5_count 138 = .ok (.aload_n 0, 1) := by decide +kernel
theorem dX5_count_139 : decode cX5_count 139 = .ok (.getfield 22, 3) := by decide +kernel
theorem dX5_count_142 : decode cX5_count 142 = .ok (.invokevirtual 236, 3) := by decide +kernel
theorem dX5_count_145 : decode cX5_count 145 = .ok (.ireturn, 1) := by decide +kernel
theorem dX5_count_146 : decode cX5_count 146 = .ok (.aload_n 0, 1) := by decide +kernel
theorem dX5_count_147 : decode cX5_count 147 = .ok (.getfield 29, 3) := by decide +kernel
theorem dX5_count_150 : decode cX5_count 150 = .ok (.getfield 239, 3) := by decide +kernel
theorem dX5_count_153 : decode cX5_count 153 = .ok (.ireturn, 1) := by decide +kernel
theorem dX5_count_154 : decode cX5_count 154 = .ok (.aload_n 0, 1) := by decide +kernel
theorem dX5_count_155 : decode cX5_count 155 = .ok (.getfield 36, 3) := by decide +kernel
theorem dX5_count_158 : decode cX5_count 158 = .ok (.getfield 240, 3) := by decide +kernel
theorem dX5_count_161 : decode cX5_count 161 = .ok (.ireturn, 1) := by decide +kernel
theorem dX5_count_162 : decode cX5_count 162 = .ok (.ldc 52, 2) := by decide +kernel
theorem dX5_count_164 : decode cX5_count 164 = .ok (.ireturn, 1) := by decide +kernel
theorem dX5_freeStart_0 : decode cX5_freeStart 0 = .ok (.aload_n 0, 1) := by decide +kernel
theorem dX5_freeStart_1 : decode cX5_freeStart 1 = .ok (.iload_n 1, 1) := by decide +kernel
theorem dX5_freeStart_2 : decode cX5_freeStart 2 = .ok (.invokevirtual 121, 3) := by decide +kernel
theorem dX5_freeStart_5 : decode cX5_freeStart 5 = .ok (.ifCond .ne 6, 3) := by decide +kernel
theorem dX5_freeStart_8 : decode cX5_freeStart 8 = .ok (.ldc 71, 2) := by decide +kernel
theorem dX5_freeStart_10 : decode cX5_freeStart 10 = .ok (.ireturn, 1) := by decide +kernel
theorem dX5_freeStart_11 : decode cX5_freeStart 11 = .ok (.aload_n 0, 1) := by decide +kernel
theorem dX5_freeStart_12 : decode cX5_freeStart 12 = .ok (.getfield 16, 3) := by decide +kernel
theorem dX5_freeStart_15 : decode cX5_freeStart 15 = .ok (.aload_n 0, 1) := by decide +kernel
theorem dX5_freeStart_16 : decode cX5_freeStart 16 = .ok (.getfield 10, 3) := by decide +kernel
theorem dX5_freeStart_19 : decode cX5_freeStart 19 = .ok (.invokevirtual 241, 3) := by decide +kernel
theorem dX5_freeStart_22 : decode cX5_freeStart 22 = .ok (.aload_n 0, 1) := by decide +kernel
theorem dX5_freeStart_23 : decode cX5_freeStart 23 = .ok (.aload_n 0, 1) := by decide +kernel
theorem dX5_freeStart_24 : decode cX5_freeStart 24 = .ok (.getfield 16, 3) := by decide +kernel
theorem dX5_freeStart_27 : decode cX5_freeStart 27 = .ok (.iload_n 1, 1) := by decide +kernel
theorem dX5_freeStart_28 : decode cX5_freeStart 28 = .ok (.aload_n 0, 1) := by decide +kernel
theorem dX5_freeStart_29 : decode cX5_freeStart 29 = .ok (.getfield 16, 3) := by decide +kernel
theorem dX5_freeStart_32 : decode cX5_freeStart 32 = .ok (.getfield 98, 3) := by decide +kernel
theorem dX5_freeStart_35 : decode cX5_freeStart 35 = .ok (.invokevirtual 155, 3) := by decide +kernel
theorem dX5_freeStart_38 : decode cX5_freeStart 38 = .ok (.ireturn, 1) := by decide +kernel
theorem dX5_bestExchange_0 : decode cX5_bestExchange 0 = .ok (.aload_n 0, 1) := by decide +kernel
theorem dX5_bestExchange_1 : decode cX5_bestExchange 1 = .ok (.iload_n 1, 1) := by decide +kernel
theorem dX5_bestExchange_2 : decode cX5_bestExchange 2 = .ok (.invokevirtual 121, 3) := by decide +kernel
theorem dX5_bestExchange_5 : decode cX5_bestExchange 5 = .ok (.ifCond .ne 6, 3) := by decide +kernel
theorem dX5_bestExchange_8 : decode cX5_bestExchange 8 = .ok (.ldc 71, 2) := by decide +kernel
theorem dX5_bestExchange_10 : decode cX5_bestExchange 10 = .ok (.ireturn, 1) := by decide +kernel
theorem dX5_bestExchange_11 : decode cX5_bestExchange 11 = .ok (.iload_n 2, 1) := by decide +kernel
theorem dX5_bestExchange_12 : decode cX5_bestExchange 12 = .ok (.iconst 0, 1) := by decide +kernel
theorem dX5_bestExchange_13 : decode cX5_bestExchange 13 = .ok (.iconst 2, 1) := by decide +kernel
theorem dX5_bestExchange_14 : decode cX5_bestExchange 14 = .ok (.invokestatic 48, 3) := by decide +kernel
theorem dX5_bestExchange_17 : decode cX5_bestExchange 17 = .ok (.ifCond .ne 6, 3) := by decide +kernel
theorem dX5_bestExchange_20 : decode cX5_bestExchange 20 = .ok (.ldc 52, 2) := by decide +kernel
theorem dX5_bestExchange_22 : decode cX5_bestExchange 22 = .ok (.ireturn, 1) := by decide +kernel
theorem dX5_bestExchange_23 : decode cX5_bestExchange 23 = .ok (.aload_n 0, 1) := by decide +kernel
theorem dX5_bestExchange_24 : decode cX5_bestExchange 24 = .ok (.getfield 16, 3) := by decide +kernel
theorem dX5_bestExchange_27 : decode cX5_bestExchange 27 = .ok (.aload_n 0, 1) := by decide +kernel
theorem dX5_bestExchange_28 : decode cX5_bestExchange 28 = .ok (.getfield 10, 3) := by decide +kernel
theorem dX5_bestExchange_31 : decode cX5_bestExchange 31 = .ok (.invokevirtual 241, 3) := by decide +kernel
theorem dX5_bestExchange_34 : decode cX5_bestExchange 34 = .ok (.aload_n 0, 1) := by decide +kernel
theorem dX5_bestExchange_35 : decode cX5_bestExchange 35 = .ok (.getfield 16, 3) := by decide +kernel
theorem dX5_bestExchange_38 : decode cX5_bestExchange 38 = .ok (.getfield 102, 3) := by decide +kernel
theorem dX5_bestExchange_41 : decode cX5_bestExchange 41 = .ok (.iload_n 1, 1) := by decide +kernel
theorem dX5_bestExchange_42 : decode cX5_bestExchange 42 = .ok (.aaload, 1) := by decide +kernel
theorem dX5_bestExchange_43 : decode cX5_bestExchange 43 = .ok (.getfield 137, 3) := by decide +kernel
theorem dX5_bestExchange_46 : decode cX5_bestExchange 46 = .ok (.istore_n 3, 1) := by decide +kernel
theorem dX5_bestExchange_47 : decode cX5_bestExchange 47 = .ok (.ldc 96, 2) := by decide +kernel
theorem dX5_bestExchange_49 : decode cX5_bestExchange 49 = .ok (.istore 4, 2) := by decide +kernel
theorem dX5_bestExchange_51 : decode cX5_bestExchange 51 = .ok (.ldc 96, 2) := by decide +kernel
theorem dX5_bestExchange_53 : decode cX5_bestExchange 53 = .ok (.istore 5, 2) := by decide +kernel
theorem dX5_bestExchange_55 : decode cX5_bestExchange 55 = .ok (.ldc 96, 2) := by decide +kernel
theorem dX5_bestExchange_57 : decode cX5_bestExchange 57 = .ok (.istore 6, 2) := by decide +kernel
theorem dX5_bestExchange_59 : decode cX5_bestExchange 59 = .ok (.iconst 0, 1) := by decide +kernel
theorem dX5_bestExchange_60 : decode cX5_bestExchange 60 = .ok (.istore 7, 2) := by decide +kernel
theorem dX5_bestExchange_62 : decode cX5_bestExchange 62 = .ok (.iload 7, 2) := by decide +kernel
theorem dX5_bestExchange_64 : decode cX5_bestExchange 64 = .ok (.iload_n 3, 1) := by decide +kernel
theorem dX5_bestExchange_65 : decode cX5_bestExchange 65 = .ok (.if_icmp .ge 64, 3) := by decide +kernel
theorem dX5_bestExchange_68 : decode cX5_bestExchange 68 = .ok (.iload 7, 2) := by decide +kernel
theorem dX5_bestExchange_70 : decode cX5_bestExchange 70 = .ok (.iconst 1, 1) := by decide +kernel
theorem dX5_bestExchange_71 : decode cX5_bestExchange 71 = .ok (.iadd, 1) := by decide +kernel
theorem dX5_bestExchange_72 : decode cX5_bestExchange 72 = .ok (.istore 8, 2) := by decide +kernel
theorem dX5_bestExchange_74 : decode cX5_bestExchange 74 = .ok (.iload 8, 2) := by decide +kernel
theorem dX5_bestExchange_76 : decode cX5_bestExchange 76 = .ok (.iload_n 3, 1) := by decide +kernel
theorem dX5_bestExchange_77 : decode cX5_bestExchange 77 = .ok (.if_icmp .ge 46, 3) := by decide +kernel
theorem dX5_bestExchange_80 : decode cX5_bestExchange 80 = .ok (.aload_n 0, 1) := by decide +kernel
theorem dX5_bestExchange_81 : decode cX5_bestExchange 81 = .ok (.iload_n 1, 1) := by decide +kernel
theorem dX5_bestExchange_82 : decode cX5_bestExchange 82 = .ok (.iload 7, 2) := by decide +kernel
theorem dX5_bestExchange_84 : decode cX5_bestExchange 84 = .ok (.iload 8, 2) := by decide +kernel
theorem dX5_bestExchange_86 : decode cX5_bestExchange 86 = .ok (.invokevirtual 243, 3) := by decide +kernel
theorem dX5_bestExchange_89 : decode cX5_bestExchange 89 = .ok (.istore 9, 2) := by decide +kernel
theorem dX5_bestExchange_91 : decode cX5_bestExchange 91 = .ok (.iload 6, 2) := by decide +kernel
theorem dX5_bestExchange_93 : decode cX5_bestExchange 93 = .ok (.ldc 96, 2) := by decide +kernel
theorem dX5_bestExchange_95 : decode cX5_bestExchange 95 = .ok (.if_icmp .eq 10, 3) := by decide +kernel
theorem dX5_bestExchange_98 : decode cX5_bestExchange 98 = .ok (.iload 9, 2) := by decide +kernel
theorem dX5_bestExchange_100 : decode cX5_bestExchange 100 = .ok (.iload 6, 2) := by decide +kernel
theorem dX5_bestExchange_102 : decode cX5_bestExchange 102 = .ok (.if_icmp .ge 15, 3) := by decide +kernel
theorem dX5_bestExchange_105 : decode cX5_bestExchange 105 = .ok (.iload 7, 2) := by decide +kernel
theorem dX5_bestExchange_107 : decode cX5_bestExchange 107 = .ok (.istore 4, 2) := by decide +kernel
theorem dX5_bestExchange_109 : decode cX5_bestExchange 109 = .ok (.iload 8, 2) := by decide +kernel
theorem dX5_bestExchange_111 : decode cX5_bestExchange 111 = .ok (.istore 5, 2) := by decide +kernel
theorem dX5_bestExchange_113 : decode cX5_bestExchange 113 = .ok (.iload 9, 2) := by decide +kernel
theorem dX5_bestExchange_115 : decode cX5_bestExchange 115 = .ok (.istore 6, 2) := by decide +kernel
theorem dX5_bestExchange_117 : decode cX5_bestExchange 117 = .ok (.iinc 8 1, 3) := by decide +kernel
theorem dX5_bestExchange_120 : decode cX5_bestExchange 120 = .ok (.goto (-46), 3) := by decide +kernel
theorem dX5_bestExchange_123 : decode cX5_bestExchange 123 = .ok (.iinc 7 1, 3) := by decide +kernel
theorem dX5_bestExchange_126 : decode cX5_bestExchange 126 = .ok (.goto (-64), 3) := by decide +kernel
theorem dX5_bestExchange_129 : decode cX5_bestExchange 129 = .ok (.iload_n 2, 1) := by decide +kernel
theorem dX5_bestExchange_130 : decode cX5_bestExchange 130 = .ok (.ifCond .ne 8, 3) := by decide +kernel
theorem dX5_bestExchange_133 : decode cX5_bestExchange 133 = .ok (.iload 4, 2) := by decide +kernel
theorem dX5_bestExchange_135 : decode cX5_bestExchange 135 = .ok (.goto 15, 3) := by decide +kernel
theorem dX5_bestExchange_138 : decode cX5_bestExchange 138 = .ok (.iload_n 2, 1) := by decide +kernel
theorem dX5_bestExchange_139 : decode cX5_bestExchange 139 = .ok (.iconst 1, 1) := by decide +kernel
theorem dX5_bestExchange_140 : decode cX5_bestExchange 140 = .ok (.if_icmp .ne 8, 3) := by decide +kernel
theorem dX5_bestExchange_143 : decode cX5_bestExchange 143 = .ok (.iload 5, 2) := by decide +kernel
theorem dX5_bestExchange_145 : decode cX5_bestExchange 145 = .ok (.goto 5, 3) := by decide +kernel
theorem dX5_bestExchange_148 : decode cX5_bestExchange 148 = .ok (.iload 6, 2) := by decide +kernel
theorem dX5_bestExchange_150 : decode cX5_bestExchange 150 = .ok (.ireturn, 1) := by decide +kernel
theorem dX5_worstPlace_0 : decode cX5_worstPlace 0 = .ok (.iload_n 1, 1) := by decide +kernel
theorem dX5_worstPlace_1 : decode cX5_worstPlace 1 = .ok (.iconst 0, 1) := by decide +kernel
theorem dX5_worstPlace_2 : decode cX5_worstPlace 2 = .ok (.iconst 1, 1) := by decide +kernel
theorem dX5_worstPlace_3 : decode cX5_worstPlace 3 = .ok (.invokestatic 48, 3) := by decide +kernel
theorem dX5_worstPlace_6 : decode cX5_worstPlace 6 = .ok (.ifCond .ne 6, 3) := by decide +kernel
theorem dX5_worstPlace_9 : decode cX5_worstPlace 9 = .ok (.ldc 52, 2) := by decide +kernel
theorem dX5_worstPlace_11 : decode cX5_worstPlace 11 = .ok (.ireturn, 1) := by decide +kernel
theorem dX5_worstPlace_12 : decode cX5_worstPlace 12 = .ok (.aload_n 0, 1) := by decide +kernel
theorem dX5_worstPlace_13 : decode cX5_worstPlace 13 = .ok (.getfield 16, 3) := by decide +kernel
theorem dX5_worstPlace_16 : decode cX5_worstPlace 16 = .ok (.aload_n 0, 1) := by decide +kernel
theorem dX5_worstPlace_17 : decode cX5_worstPlace 17 = .ok (.getfield 10, 3) := by decide +kernel
theorem dX5_worstPlace_20 : decode cX5_worstPlace 20 = .ok (.invokevirtual 241, 3) := by decide +kernel
theorem dX5_worstPlace_23 : decode cX5_worstPlace 23 = .ok (.ldc 96, 2) := by decide +kernel
theorem dX5_worstPlace_25 : decode cX5_worstPlace 25 = .ok (.istore_n 2, 1) := by decide +kernel
theorem dX5_worstPlace_26 : decode cX5_worstPlace 26 = .ok (.ldc 96, 2) := by decide +kernel
theorem dX5_worstPlace_28 : decode cX5_worstPlace 28 = .ok (.istore_n 3, 1) := by decide +kernel
theorem dX5_worstPlace_29 : decode cX5_worstPlace 29 = .ok (.iconst 0, 1) := by decide +kernel
theorem dX5_worstPlace_30 : decode cX5_worstPlace 30 = .ok (.istore 4, 2) := by decide +kernel
theorem dX5_worstPlace_32 : decode cX5_worstPlace 32 = .ok (.iload 4, 2) := by decide +kernel
theorem dX5_worstPlace_34 : decode cX5_worstPlace 34 = .ok (.bipush 8, 2) := by decide +kernel
theorem dX5_worstPlace_36 : decode cX5_worstPlace 36 = .ok (.if_icmp .ge 88, 3) := by decide +kernel
theorem dX5_worstPlace_39 : decode cX5_worstPlace 39 = .ok (.aload_n 0, 1) := by decide +kernel
theorem dX5_worstPlace_40 : decode cX5_worstPlace 40 = .ok (.getfield 10, 3) := by decide +kernel
theorem dX5_worstPlace_43 : decode cX5_worstPlace 43 = .ok (.iload 4, 2) := by decide +kernel
theorem dX5_worstPlace_45 : decode cX5_worstPlace 45 = .ok (.invokevirtual 81, 3) := by decide +kernel
theorem dX5_worstPlace_48 : decode cX5_worstPlace 48 = .ok (.ifCond .eq 6, 3) := by decide +kernel
theorem dX5_worstPlace_51 : decode cX5_worstPlace 51 = .ok (.goto 67, 3) := by decide +kernel
theorem dX5_worstPlace_54 : decode cX5_worstPlace 54 = .ok (.aload_n 0, 1) := by decide +kernel
theorem dX5_worstPlace_55 : decode cX5_worstPlace 55 = .ok (.getfield 16, 3) := by decide +kernel
theorem dX5_worstPlace_58 : decode cX5_worstPlace 58 = .ok (.aload_n 0, 1) := by decide +kernel
theorem dX5_worstPlace_59 : decode cX5_worstPlace 59 = .ok (.getfield 10, 3) := by decide +kernel
theorem dX5_worstPlace_62 : decode cX5_worstPlace 62 = .ok (.getfield 85, 3) := by decide +kernel
theorem dX5_worstPlace_65 : decode cX5_worstPlace 65 = .ok (.iconst 1, 1) := by decide +kernel
theorem dX5_worstPlace_66 : decode cX5_worstPlace 66 = .ok (.iload 4, 2) := by decide +kernel
theorem dX5_worstPlace_68 : decode cX5_worstPlace 68 = .ok (.ishl, 1) := by decide +kernel
theorem dX5_worstPlace_69 : decode cX5_worstPlace 69 = .ok (.ior, 1) := by decide +kernel
theorem dX5_worstPlace_70 : decode cX5_worstPlace 70 = .ok (.putfield 85, 3) := by decide +kernel
theorem dX5_worstPlace_73 : decode cX5_worstPlace 73 = .ok (.aload_n 0, 1) := by decide +kernel
theorem dX5_worstPlace_74 : decode cX5_worstPlace 74 = .ok (.getfield 22, 3) := by decide +kernel
theorem dX5_worstPlace_77 : decode cX5_worstPlace 77 = .ok (.aload_n 0, 1) := by decide +kernel
theorem dX5_worstPlace_78 : decode cX5_worstPlace 78 = .ok (.getfield 16, 3) := by decide +kernel
theorem dX5_worstPlace_81 : decode cX5_worstPlace 81 = .ok (.aload_n 0, 1) := by decide +kernel
theorem dX5_worstPlace_82 : decode cX5_worstPlace 82 = .ok (.getfield 16, 3) := by decide +kernel
theorem dX5_worstPlace_85 : decode cX5_worstPlace 85 = .ok (.getfield 98, 3) := by decide +kernel
theorem dX5_worstPlace_88 : decode cX5_worstPlace 88 = .ok (.invokevirtual 247, 3) := by decide +kernel
theorem dX5_worstPlace_91 : decode cX5_worstPlace 91 = .ok (.aload_n 0, 1) := by decide +kernel
theorem dX5_worstPlace_92 : decode cX5_worstPlace 92 = .ok (.getfield 22, 3) := by decide +kernel
theorem dX5_worstPlace_95 : decode cX5_worstPlace 95 = .ok (.invokevirtual 227, 3) := by decide +kernel
theorem dX5_worstPlace_98 : decode cX5_worstPlace 98 = .ok (.istore 5, 2) := by decide +kernel
theorem dX5_worstPlace_100 : decode cX5_worstPlace 100 = .ok (.iload_n 3, 1) := by decide +kernel
theorem dX5_worstPlace_101 : decode cX5_worstPlace 101 = .ok (.ldc 96, 2) := by decide +kernel
theorem dX5_worstPlace_103 : decode cX5_worstPlace 103 = .ok (.if_icmp .eq 9, 3) := by decide +kernel
theorem dX5_worstPlace_106 : decode cX5_worstPlace 106 = .ok (.iload 5, 2) := by decide +kernel
theorem dX5_worstPlace_108 : decode cX5_worstPlace 108 = .ok (.iload_n 3, 1) := by decide +kernel
theorem dX5_worstPlace_109 : decode cX5_worstPlace 109 = .ok (.if_icmp .ge 9, 3) := by decide +kernel
theorem dX5_worstPlace_112 : decode cX5_worstPlace 112 = .ok (.iload 4, 2) := by decide +kernel
theorem dX5_worstPlace_114 : decode cX5_worstPlace 114 = .ok (.istore_n 2, 1) := by decide +kernel
theorem dX5_worstPlace_115 : decode cX5_worstPlace 115 = .ok (.iload 5, 2) := by decide +kernel
theorem dX5_worstPlace_117 : decode cX5_worstPlace 117 = .ok (.istore_n 3, 1) := by decide +kernel
theorem dX5_worstPlace_118 : decode cX5_worstPlace 118 = .ok (.iinc 4 1, 3) := by decide +kernel
theorem dX5_worstPlace_121 : decode cX5_worstPlace 121 = .ok (.goto (-89), 3) := by decide +kernel
theorem dX5_worstPlace_124 : decode cX5_worstPlace 124 = .ok (.iload_n 1, 1) := by decide +kernel
theorem dX5_worstPlace_125 : decode cX5_worstPlace 125 = .ok (.ifCond .ne 7, 3) := by decide +kernel
theorem dX5_worstPlace_128 : decode cX5_worstPlace 128 = .ok (.iload_n 2, 1) := by decide +kernel
theorem dX5_worstPlace_129 : decode cX5_worstPlace 129 = .ok (.goto 4, 3) := by decide +kernel
theorem dX5_worstPlace_132 : decode cX5_worstPlace 132 = .ok (.iload_n 3, 1) := by decide +kernel
theorem dX5_worstPlace_133 : decode cX5_worstPlace 133 = .ok (.ireturn, 1) := by decide +kernel
theorem dX5_ifTurned_0 : decode cX5_ifTurned 0 = .ok (.aload_n 0, 1) := by decide +kernel
theorem dX5_ifTurned_1 : decode cX5_ifTurned 1 = .ok (.iload_n 1, 1) := by decide +kernel
theorem dX5_ifTurned_2 : decode cX5_ifTurned 2 = .ok (.invokevirtual 121, 3) := by decide +kernel
theorem dX5_ifTurned_5 : decode cX5_ifTurned 5 = .ok (.ifCond .ne 6, 3) := by decide +kernel
theorem dX5_ifTurned_8 : decode cX5_ifTurned 8 = .ok (.ldc 71, 2) := by decide +kernel
theorem dX5_ifTurned_10 : decode cX5_ifTurned 10 = .ok (.ireturn, 1) := by decide +kernel
theorem dX5_ifTurned_11 : decode cX5_ifTurned 11 = .ok (.iload_n 2, 1) := by decide +kernel
theorem dX5_ifTurned_12 : decode cX5_ifTurned 12 = .ok (.ifCond .lt 23, 3) := by decide +kernel
theorem dX5_ifTurned_15 : decode cX5_ifTurned 15 = .ok (.iload_n 2, 1) := by decide +kernel
theorem dX5_ifTurned_16 : decode cX5_ifTurned 16 = .ok (.ifCond .le 22, 3) := by decide +kernel
theorem dX5_ifTurned_19 : decode cX5_ifTurned 19 = .ok (.iload_n 2, 1) := by decide +kernel
theorem dX5_ifTurned_20 : decode cX5_ifTurned 20 = .ok (.aload_n 0, 1) := by decide +kernel
theorem dX5_ifTurned_21 : decode cX5_ifTurned 21 = .ok (.getfield 10, 3) := by decide +kernel
theorem dX5_ifTurned_24 : decode cX5_ifTurned 24 = .ok (.getfield 102, 3) := by decide +kernel
theorem dX5_ifTurned_27 : decode cX5_ifTurned 27 = .ok (.iload_n 1, 1) := by decide +kernel
theorem dX5_ifTurned_28 : decode cX5_ifTurned 28 = .ok (.aaload, 1) := by decide +kernel
theorem dX5_ifTurned_29 : decode cX5_ifTurned 29 = .ok (.getfield 137, 3) := by decide +kernel
theorem dX5_ifTurned_32 : decode cX5_ifTurned 32 = .ok (.if_icmp .lt 6, 3) := by decide +kernel
theorem dX5_ifTurned_35 : decode cX5_ifTurned 35 = .ok (.ldc 52, 2) := by decide +kernel
theorem dX5_ifTurned_37 : decode cX5_ifTurned 37 = .ok (.ireturn, 1) := by decide +kernel
theorem dX5_ifTurned_38 : decode cX5_ifTurned 38 = .ok (.aload_n 0, 1) := by decide +kernel
theorem dX5_ifTurned_39 : decode cX5_ifTurned 39 = .ok (.getfield 16, 3) := by decide +kernel
theorem dX5_ifTurned_42 : decode cX5_ifTurned 42 = .ok (.aload_n 0, 1) := by decide +kernel
theorem dX5_ifTurned_43 : decode cX5_ifTurned 43 = .ok (.getfield 10, 3) := by decide +kernel
theorem dX5_ifTurned_46 : decode cX5_ifTurned 46 = .ok (.invokevirtual 241, 3) := by decide +kernel
theorem dX5_ifTurned_49 : decode cX5_ifTurned 49 = .ok (.aload_n 0, 1) := by decide +kernel
theorem dX5_ifTurned_50 : decode cX5_ifTurned 50 = .ok (.getfield 16, 3) := by decide +kernel
theorem dX5_ifTurned_53 : decode cX5_ifTurned 53 = .ok (.getfield 102, 3) := by decide +kernel
theorem dX5_ifTurned_56 : decode cX5_ifTurned 56 = .ok (.iload_n 1, 1) := by decide +kernel
theorem dX5_ifTurned_57 : decode cX5_ifTurned 57 = .ok (.aaload, 1) := by decide +kernel
theorem dX5_ifTurned_58 : decode cX5_ifTurned 58 = .ok (.iload_n 2, 1) := by decide +kernel
theorem dX5_ifTurned_59 : decode cX5_ifTurned 59 = .ok (.invokevirtual 140, 3) := by decide +kernel
theorem dX5_ifTurned_62 : decode cX5_ifTurned 62 = .ok (.aload_n 0, 1) := by decide +kernel
theorem dX5_ifTurned_63 : decode cX5_ifTurned 63 = .ok (.getfield 22, 3) := by decide +kernel
theorem dX5_ifTurned_66 : decode cX5_ifTurned 66 = .ok (.aload_n 0, 1) := by decide +kernel
theorem dX5_ifTurned_67 : decode cX5_ifTurned 67 = .ok (.getfield 16, 3) := by decide +kernel
theorem dX5_ifTurned_70 : decode cX5_ifTurned 70 = .ok (.aload_n 0, 1) := by decide +kernel
theorem dX5_ifTurned_71 : decode cX5_ifTurned 71 = .ok (.getfield 16, 3) := by decide +kernel
theorem dX5_ifTurned_74 : decode cX5_ifTurned 74 = .ok (.getfield 98, 3) := by decide +kernel
theorem dX5_ifTurned_77 : decode cX5_ifTurned 77 = .ok (.invokevirtual 247, 3) := by decide +kernel
theorem dX5_ifTurned_80 : decode cX5_ifTurned 80 = .ok (.aload_n 0, 1) := by decide +kernel
theorem dX5_ifTurned_81 : decode cX5_ifTurned 81 = .ok (.getfield 22, 3) := by decide +kernel
theorem dX5_ifTurned_84 : decode cX5_ifTurned 84 = .ok (.invokevirtual 162, 3) := by decide +kernel
theorem dX5_ifTurned_87 : decode cX5_ifTurned 87 = .ok (.ireturn, 1) := by decide +kernel
theorem dX5_put_0 : decode cX5_put 0 = .ok (.lload_n 1, 1) := by decide +kernel
theorem dX5_put_1 : decode cX5_put 1 = .ok (.invokestatic 251, 3) := by decide +kernel
theorem dX5_put_4 : decode cX5_put 4 = .ok (.istore_n 3, 1) := by decide +kernel
theorem dX5_put_5 : decode cX5_put 5 = .ok (.iload_n 3, 1) := by decide +kernel
theorem dX5_put_6 : decode cX5_put 6 = .ok (.ifCond .ne 6, 3) := by decide +kernel
theorem dX5_put_9 : decode cX5_put 9 = .ok (.ldc 52, 2) := by decide +kernel
theorem dX5_put_11 : decode cX5_put 11 = .ok (.ireturn, 1) := by decide +kernel
theorem dX5_put_12 : decode cX5_put 12 = .ok (.aload_n 0, 1) := by decide +kernel
theorem dX5_put_13 : decode cX5_put 13 = .ok (.getfield 29, 3) := by decide +kernel
theorem dX5_put_16 : decode cX5_put 16 = .ok (.getfield 239, 3) := by decide +kernel
theorem dX5_put_19 : decode cX5_put 19 = .ok (.iload_n 3, 1) := by decide +kernel
theorem dX5_put_20 : decode cX5_put 20 = .ok (.iadd, 1) := by decide +kernel
theorem dX5_put_21 : decode cX5_put 21 = .ok (.bipush 20, 2) := by decide +kernel
theorem dX5_put_23 : decode cX5_put 23 = .ok (.if_icmp .le 6, 3) := by decide +kernel
theorem dX5_put_26 : decode cX5_put 26 = .ok (.ldc 101, 2) := by decide +kernel
theorem dX5_put_28 : decode cX5_put 28 = .ok (.ireturn, 1) := by decide +kernel
theorem dX5_put_29 : decode cX5_put 29 = .ok (.aload_n 0, 1) := by decide +kernel
theorem dX5_put_30 : decode cX5_put 30 = .ok (.getfield 29, 3) := by decide +kernel
theorem dX5_put_33 : decode cX5_put 33 = .ok (.lload_n 1, 1) := by decide +kernel
theorem dX5_put_34 : decode cX5_put 34 = .ok (.iload_n 3, 1) := by decide +kernel
theorem dX5_put_35 : decode cX5_put 35 = .ok (.invokevirtual 255, 3) := by decide +kernel
theorem dX5_put_38 : decode cX5_put 38 = .ok (.aload_n 0, 1) := by decide +kernel
theorem dX5_put_39 : decode cX5_put 39 = .ok (.getfield 29, 3) := by decide +kernel
theorem dX5_put_42 : decode cX5_put 42 = .ok (.getfield 239, 3) := by decide +kernel
theorem dX5_put_45 : decode cX5_put 45 = .ok (.ireturn, 1) := by decide +kernel
theorem dX5_wipe_0 : decode cX5_wipe 0 = .ok (.aload_n 0, 1) := by decide +kernel
theorem dX5_wipe_1 : decode cX5_wipe 1 = .ok (.getfield 29, 3) := by decide +kernel
theorem dX5_wipe_4 : decode cX5_wipe 4 = .ok (.getfield 239, 3) := by decide +kernel
theorem dX5_wipe_7 : decode cX5_wipe 7 = .ok (.istore_n 1, 1) := by decide +kernel
theorem dX5_wipe_8 : decode cX5_wipe 8 = .ok (.aload_n 0, 1) := by decide +kernel
theorem dX5_wipe_9 : decode cX5_wipe 9 = .ok (.getfield 29, 3) := by decide +kernel
theorem dX5_wipe_12 : decode cX5_wipe 12 = .ok (.iconst 0, 1) := by decide +kernel
theorem dX5_wipe_13 : decode cX5_wipe 13 = .ok (.putfield 239, 3) := by decide +kernel
theorem dX5_wipe_16 : decode cX5_wipe 16 = .ok (.iload_n 1, 1) := by decide +kernel
theorem dX5_wipe_17 : decode cX5_wipe 17 = .ok (.ireturn, 1) := by decide +kernel
theorem dX5_fault_0 : decode cX5_fault 0 = .ok (.aload_n 0, 1) := by decide +kernel
theorem dX5_fault_1 : decode cX5_fault 1 = .ok (.getfield 29, 3) := by decide +kernel
theorem dX5_fault_4 : decode cX5_fault 4 = .ok (.invokevirtual 93, 3) := by decide +kernel
theorem dX5_fault_7 : decode cX5_fault 7 = .ok (.ireturn, 1) := by decide +kernel
theorem dX5_undo_0 : decode cX5_undo 0 = .ok (.aload_n 0, 1) := by decide +kernel
theorem dX5_undo_1 : decode cX5_undo 1 = .ok (.getfield 36, 3) := by decide +kernel
theorem dX5_undo_4 : decode cX5_undo 4 = .ok (.getfield 240, 3) := by decide +kernel
theorem dX5_undo_7 : decode cX5_undo 7 = .ok (.ifCond .ne 6, 3) := by decide +kernel
theorem dX5_undo_10 : decode cX5_undo 10 = .ok (.ldc 84, 2) := by decide +kernel
theorem dX5_undo_12 : decode cX5_undo 12 = .ok (.ireturn, 1) := by decide +kernel
theorem dX5_undo_13 : decode cX5_undo 13 = .ok (.aload_n 0, 1) := by decide +kernel
theorem dX5_undo_14 : decode cX5_undo 14 = .ok (.getfield 36, 3) := by decide +kernel
theorem dX5_undo_17 : decode cX5_undo 17 = .ok (.aload_n 0, 1) := by decide +kernel
theorem dX5_undo_18 : decode cX5_undo 18 = .ok (.getfield 10, 3) := by decide +kernel
theorem dX5_undo_21 : decode cX5_undo 21 = .ok (.invokevirtual 259, 3) := by decide +kernel
theorem dX5_undo_24 : decode cX5_undo 24 = .ok (.aload_n 0, 1) := by decide +kernel
theorem dX5_undo_25 : decode cX5_undo 25 = .ok (.getfield 36, 3) := by decide +kernel
theorem dX5_undo_28 : decode cX5_undo 28 = .ok (.getfield 240, 3) := by decide +kernel
theorem dX5_undo_31 : decode cX5_undo 31 = .ok (.ireturn, 1) := by decide +kernel
theorem dX5_save_0 : decode cX5_save 0 = .ok (.iload_n 1, 1) := by decide +kernel
theorem dX5_save_1 : decode cX5_save 1 = .ok (.iconst 0, 1) := by decide +kernel
theorem dX5_save_2 : decode cX5_save 2 = .ok (.iconst 1, 1) := by decide +kernel
theorem dX5_save_3 : decode cX5_save 3 = .ok (.invokestatic 48, 3) := by decide +kernel
theorem dX5_save_6 : decode cX5_save 6 = .ok (.ifCond .ne 6, 3) := by decide +kernel
theorem dX5_save_9 : decode cX5_save 9 = .ok (.ldc 52, 2) := by decide +kernel
theorem dX5_save_11 : decode cX5_save 11 = .ok (.ireturn, 1) := by decide +kernel
theorem dX5_save_12 : decode cX5_save 12 = .ok (.aload_n 0, 1) := by decide +kernel
theorem dX5_save_13 : decode cX5_save 13 = .ok (.getfield 40, 3) := by decide +kernel
theorem dX5_save_16 : decode cX5_save 16 = .ok (.iload_n 1, 1) := by decide +kernel
theorem dX5_save_17 : decode cX5_save 17 = .ok (.aaload, 1) := by decide +kernel
theorem dX5_save_18 : decode cX5_save 18 = .ok (.aload_n 0, 1) := by decide +kernel
theorem dX5_save_19 : decode cX5_save 19 = .ok (.getfield 10, 3) := by decide +kernel
theorem dX5_save_22 : decode cX5_save 22 = .ok (.invokevirtual 241, 3) := by decide +kernel
theorem dX5_save_25 : decode cX5_save 25 = .ok (.aload_n 0, 1) := by decide +kernel
theorem dX5_save_26 : decode cX5_save 26 = .ok (.getfield 44, 3) := by decide +kernel
theorem dX5_save_29 : decode cX5_save 29 = .ok (.iload_n 1, 1) := by decide +kernel
theorem dX5_save_30 : decode cX5_save 30 = .ok (.iconst 1, 1) := by decide +kernel
theorem dX5_save_31 : decode cX5_save 31 = .ok (.bastore, 1) := by decide +kernel
theorem dX5_save_32 : decode cX5_save 32 = .ok (.aload_n 0, 1) := by decide +kernel
theorem dX5_save_33 : decode cX5_save 33 = .ok (.getfield 10, 3) := by decide +kernel
theorem dX5_save_36 : decode cX5_save 36 = .ok (.getfield 98, 3) := by decide +kernel
theorem dX5_save_39 : decode cX5_save 39 = .ok (.ireturn, 1) := by decide +kernel
theorem dX5_restore_0 : decode cX5_restore 0 = .ok (.iload_n 1, 1) := by decide +kernel
theorem dX5_restore_1 : decode cX5_restore 1 = .ok (.iconst 0, 1) := by decide +kernel
theorem dX5_restore_2 : decode cX5_restore 2 = .ok (.iconst 1, 1) := by decide +kernel
theorem dX5_restore_3 : decode cX5_restore 3 = .ok (.invokestatic 48, 3) := by decide +kernel
theorem dX5_restore_6 : decode cX5_restore 6 = .ok (.ifCond .ne 6, 3) := by decide +kernel
theorem dX5_restore_9 : decode cX5_restore 9 = .ok (.ldc 52, 2) := by decide +kernel
theorem dX5_restore_11 : decode cX5_restore 11 = .ok (.ireturn, 1) := by decide +kernel
theorem dX5_restore_12 : decode cX5_restore 12 = .ok (.aload_n 0, 1) := by decide +kernel
theorem dX5_restore_13 : decode cX5_restore 13 = .ok (.getfield 44, 3) := by decide +kernel
theorem dX5_restore_16 : decode cX5_restore 16 = .ok (.iload_n 1, 1) := by decide +kernel
theorem dX5_restore_17 : decode cX5_restore 17 = .ok (.baload, 1) := by decide +kernel
theorem dX5_restore_18 : decode cX5_restore 18 = .ok (.ifCond .ne 6, 3) := by decide +kernel
theorem dX5_restore_21 : decode cX5_restore 21 = .ok (.ldc 84, 2) := by decide +kernel
theorem dX5_restore_23 : decode cX5_restore 23 = .ok (.ireturn, 1) := by decide +kernel
theorem dX5_restore_24 : decode cX5_restore 24 = .ok (.aload_n 0, 1) := by decide +kernel
theorem dX5_restore_25 : decode cX5_restore 25 = .ok (.getfield 36, 3) := by decide +kernel
theorem dX5_restore_28 : decode cX5_restore 28 = .ok (.aload_n 0, 1) := by decide +kernel
theorem dX5_restore_29 : decode cX5_restore 29 = .ok (.getfield 10, 3) := by decide +kernel
theorem dX5_restore_32 : decode cX5_restore 32 = .ok (.invokevirtual 60, 3) := by decide +kernel
theorem dX5_restore_35 : decode cX5_restore 35 = .ok (.aload_n 0, 1) := by decide +kernel
theorem dX5_restore_36 : decode cX5_restore 36 = .ok (.getfield 10, 3) := by decide +kernel
theorem dX5_restore_39 : decode cX5_restore 39 = .ok (.aload_n 0, 1) := by decide +kernel
theorem dX5_restore_40 : decode cX5_restore 40 = .ok (.getfield 40, 3) := by decide +kernel
theorem dX5_restore_43 : decode cX5_restore 43 = .ok (.iload_n 1, 1) := by decide +kernel
theorem dX5_restore_44 : decode cX5_restore 44 = .ok (.aaload, 1) := by decide +kernel
theorem dX5_restore_45 : decode cX5_restore 45 = .ok (.invokevirtual 241, 3) := by decide +kernel
theorem dX5_restore_48 : decode cX5_restore 48 = .ok (.aload_n 0, 1) := by decide +kernel
theorem dX5_restore_49 : decode cX5_restore 49 = .ok (.getfield 10, 3) := by decide +kernel
theorem dX5_restore_52 : decode cX5_restore 52 = .ok (.getfield 98, 3) := by decide +kernel
theorem dX5_restore_55 : decode cX5_restore 55 = .ok (.ireturn, 1) := by decide +kernel
theorem dX5_isFrom_0 : decode cX5_isFrom 0 = .ok (.iload_n 0, 1) := by decide +kernel
theorem dX5_isFrom_1 : decode cX5_isFrom 1 = .ok (.iload_n 1, 1) := by decide +kernel
theorem dX5_isFrom_2 : decode cX5_isFrom 2 = .ok (.if_icmp .lt 12, 3) := by decide +kernel
theorem dX5_isFrom_5 : decode cX5_isFrom 5 = .ok (.iload_n 0, 1) := by decide +kernel
theorem dX5_isFrom_6 : decode cX5_isFrom 6 = .ok (.iload_n 2, 1) := by decide +kernel
theorem dX5_isFrom_7 : decode cX5_isFrom 7 = .ok (.if_icmp .gt 7, 3) := by decide +kernel
theorem dX5_isFrom_10 : decode cX5_isFrom 10 = .ok (.iconst 1, 1) := by decide +kernel
theorem dX5_isFrom_11 : decode cX5_isFrom 11 = .ok (.goto 4, 3) := by decide +kernel
theorem dX5_isFrom_14 : decode cX5_isFrom 14 = .ok (.iconst 0, 1) := by decide +kernel
theorem dX5_isFrom_15 : decode cX5_isFrom 15 = .ok (.ireturn, 1) := by decide +kernel
theorem dX5_isPlace_0 : decode cX5_isPlace 0 = .ok (.iload_n 0, 1) := by decide +kernel
theorem dX5_isPlace_1 : decode cX5_isPlace 1 = .ok (.iconst 0, 1) := by decide +kernel
theorem dX5_isPlace_2 : decode cX5_isPlace 2 = .ok (.bipush 7, 2) := by decide +kernel
theorem dX5_isPlace_4 : decode cX5_isPlace 4 = .ok (.invokestatic 48, 3) := by decide +kernel
theorem dX5_isPlace_7 : decode cX5_isPlace 7 = .ok (.ireturn, 1) := by decide +kernel
theorem dX5_isTeam_0 : decode cX5_isTeam 0 = .ok (.iload_n 1, 1) := by decide +kernel
theorem dX5_isTeam_1 : decode cX5_isTeam 1 = .ok (.iconst 0, 1) := by decide +kernel
theorem dX5_isTeam_2 : decode cX5_isTeam 2 = .ok (.aload_n 0, 1) := by decide +kernel
theorem dX5_isTeam_3 : decode cX5_isTeam 3 = .ok (.getfield 10, 3) := by decide +kernel
theorem dX5_isTeam_6 : decode cX5_isTeam 6 = .ok (.getfield 98, 3) := by decide +kernel
theorem dX5_isTeam_9 : decode cX5_isTeam 9 = .ok (.iconst 1, 1) := by decide +kernel
theorem dX5_isTeam_10 : decode cX5_isTeam 10 = .ok (.isub, 1) := by decide +kernel
theorem dX5_isTeam_11 : decode cX5_isTeam 11 = .ok (.invokestatic 48, 3) := by decide +kernel
theorem dX5_isTeam_14 : decode cX5_isTeam 14 = .ok (.ireturn, 1) := by decide +kernel
theorem dX5_isInRoute_0 : decode cX5_isInRoute 0 = .ok (.iload_n 2, 1) := by decide +kernel
theorem dX5_isInRoute_1 : decode cX5_isInRoute 1 = .ok (.iconst 0, 1) := by decide +kernel
theorem dX5_isInRoute_2 : decode cX5_isInRoute 2 = .ok (.aload_n 0, 1) := by decide +kernel
theorem dX5_isInRoute_3 : decode cX5_isInRoute 3 = .ok (.getfield 10, 3) := by decide +kernel
theorem dX5_isInRoute_6 : decode cX5_isInRoute 6 = .ok (.getfield 102, 3) := by decide +kernel
theorem dX5_isInRoute_9 : decode cX5_isInRoute 9 = .ok (.iload_n 1, 1) := by decide +kernel
theorem dX5_isInRoute_10 : decode cX5_isInRoute 10 = .ok (.aaload, 1) := by decide +kernel
theorem dX5_isInRoute_11 : decode cX5_isInRoute 11 = .ok (.getfield 137, 3) := by decide +kernel
theorem dX5_isInRoute_14 : decode cX5_isInRoute 14 = .ok (.iconst 1, 1) := by decide +kernel
theorem dX5_isInRoute_15 : decode cX5_isInRoute 15 = .ok (.isub, 1) := by decide +kernel
theorem dX5_isInRoute_16 : decode cX5_isInRoute 16 = .ok (.invokestatic 48, 3) := by decide +kernel
theorem dX5_isInRoute_19 : decode cX5_isInRoute 19 = .ok (.ireturn, 1) := by decide +kernel
theorem dX5_playNow_0 : decode cX5_playNow 0 = .ok (.aload_n 0, 1) := by decide +kernel
theorem dX5_playNow_1 : decode cX5_playNow 1 = .ok (.getfield 22, 3) := by decide +kernel
theorem dX5_playNow_4 : decode cX5_playNow 4 = .ok (.aload_n 0, 1) := by decide +kernel
theorem dX5_playNow_5 : decode cX5_playNow 5 = .ok (.getfield 10, 3) := by decide +kernel
theorem dX5_playNow_8 : decode cX5_playNow 8 = .ok (.aload_n 0, 1) := by decide +kernel
theorem dX5_playNow_9 : decode cX5_playNow 9 = .ok (.getfield 10, 3) := by decide +kernel
theorem dX5_playNow_12 : decode cX5_playNow 12 = .ok (.getfield 98, 3) := by decide +kernel
theorem dX5_playNow_15 : decode cX5_playNow 15 = .ok (.invokevirtual 247, 3) := by decide +kernel
theorem dX5_playNow_18 : decode cX5_playNow 18 = .ok (.return_, 1) := by decide +kernel
theorem dX5_endNow_0 : decode cX5_endNow 0 = .ok (.aload_n 0, 1) := by decide +kernel
theorem dX5_endNow_1 : decode cX5_endNow 1 = .ok (.invokevirtual 159, 3) := by decide +kernel
theorem dX5_endNow_4 : decode cX5_endNow 4 = .ok (.aload_n 0, 1) := by decide +kernel
theorem dX5_endNow_5 : decode cX5_endNow 5 = .ok (.getfield 22, 3) := by decide +kernel
theorem dX5_endNow_8 : decode cX5_endNow 8 = .ok (.getfield 184, 3) := by decide +kernel
theorem dX5_endNow_11 : decode cX5_endNow 11 = .ok (.iload_n 1, 1) := by decide +kernel
theorem dX5_endNow_12 : decode cX5_endNow 12 = .ok (.iaload, 1) := by decide +kernel
theorem dX5_endNow_13 : decode cX5_endNow 13 = .ok (.ireturn, 1) := by decide +kernel
theorem dX5_leastFreeStart_0 : decode cX5_leastFreeStart 0 = .ok (.iconst 0, 1) := by decide +kernel
theorem dX5_leastFreeStart_1 : decode cX5_leastFreeStart 1 = .ok (.istore 4, 2) := by decide +kernel
theorem dX5_leastFreeStart_3 : decode cX5_leastFreeStart 3 = .ok (.iload 4, 2) := by decide +kernel
theorem dX5_leastFreeStart_5 : decode cX5_leastFreeStart 5 = .ok (.sipush 200, 3) := by decide +kernel
theorem dX5_leastFreeStart_8 : decode cX5_leastFreeStart 8 = .ok (.if_icmp .gt 43, 3) := by decide +kernel
theorem dX5_leastFreeStart_11 : decode cX5_leastFreeStart 11 = .ok (.aload_n 1, 1) := by decide +kernel
theorem dX5_leastFreeStart_12 : decode cX5_leastFreeStart 12 = .ok (.getfield 102, 3) := by decide +kernel
theorem dX5_leastFreeStart_15 : decode cX5_leastFreeStart 15 = .ok (.iload_n 2, 1) := by decide +kernel
theorem dX5_leastFreeStart_16 : decode cX5_leastFreeStart 16 = .ok (.aaload, 1) := by decide +kernel
theorem dX5_leastFreeStart_17 : decode cX5_leastFreeStart 17 = .ok (.iload 4, 2) := by decide +kernel
theorem dX5_leastFreeStart_19 : decode cX5_leastFreeStart 19 = .ok (.putfield 110, 3) := by decide +kernel
theorem dX5_leastFreeStart_22 : decode cX5_leastFreeStart 22 = .ok (.aload_n 0, 1) := by decide +kernel
theorem dX5_leastFreeStart_23 : decode cX5_leastFreeStart 23 = .ok (.getfield 22, 3) := by decide +kernel
theorem dX5_leastFreeStart_26 : decode cX5_leastFreeStart 26 = .ok (.aload_n 1, 1) := by decide +kernel
theorem dX5_leastFreeStart_27 : decode cX5_leastFreeStart 27 = .ok (.iload_n 3, 1) := by decide +kernel
theorem dX5_leastFreeStart_28 : decode cX5_leastFreeStart 28 = .ok (.invokevirtual 247, 3) := by decide +kernel
theorem dX5_leastFreeStart_31 : decode cX5_leastFreeStart 31 = .ok (.aload_n 0, 1) := by decide +kernel
theorem dX5_leastFreeStart_32 : decode cX5_leastFreeStart 32 = .ok (.getfield 22, 3) := by decide +kernel
theorem dX5_leastFreeStart_35 : decode cX5_leastFreeStart 35 = .ok (.iload_n 2, 1) := by decide +kernel
theorem dX5_leastFreeStart_36 : decode cX5_leastFreeStart 36 = .ok (.invokevirtual 202, 3) := by decide +kernel
theorem dX5_leastFreeStart_39 : decode cX5_leastFreeStart 39 = .ok (.ifCond .ne 6, 3) := by decide +kernel
theorem dX5_leastFreeStart_42 : decode cX5_leastFreeStart 42 = .ok (.iload 4, 2) := by decide +kernel
theorem dX5_leastFreeStart_44 : decode cX5_leastFreeStart 44 = .ok (.ireturn, 1) := by decide +kernel
theorem dX5_leastFreeStart_45 : decode cX5_leastFreeStart 45 = .ok (.iinc 4 1, 3) := by decide +kernel
theorem dX5_leastFreeStart_48 : decode cX5_leastFreeStart 48 = .ok (.goto (-45), 3) := by decide +kernel
theorem dX5_leastFreeStart_51 : decode cX5_leastFreeStart 51 = .ok (.ldc 96, 2) := by decide +kernel
theorem dX5_leastFreeStart_53 : decode cX5_leastFreeStart 53 = .ok (.ireturn, 1) := by decide +kernel
theorem dX5_endIfExchanged_0 : decode cX5_endIfExchanged 0 = .ok (.aload_n 0, 1) := by decide +kernel
theorem dX5_endIfExchanged_1 : decode cX5_endIfExchanged 1 = .ok (.getfield 16, 3) := by decide +kernel
theorem dX5_endIfExchanged_4 : decode cX5_endIfExchanged 4 = .ok (.getfield 102, 3) := by decide +kernel
theorem dX5_endIfExchanged_7 : decode cX5_endIfExchanged 7 = .ok (.iload_n 1, 1) := by decide +kernel
theorem dX5_endIfExchanged_8 : decode cX5_endIfExchanged 8 = .ok (.aaload, 1) := by decide +kernel
theorem dX5_endIfExchanged_9 : decode cX5_endIfExchanged 9 = .ok (.iload_n 2, 1) := by decide +kernel
theorem dX5_endIfExchanged_10 : decode cX5_endIfExchanged 10 = .ok (.iload_n 3, 1) := by decide +kernel
theorem dX5_endIfExchanged_11 : decode cX5_endIfExchanged 11 = .ok (.invokevirtual 151, 3) := by decide +kernel
theorem dX5_endIfExchanged_14 : decode cX5_endIfExchanged 14 = .ok (.aload_n 0, 1) := by decide +kernel
theorem dX5_endIfExchanged_15 : decode cX5_endIfExchanged 15 = .ok (.getfield 22, 3) := by decide +kernel
theorem dX5_endIfExchanged_18 : decode cX5_endIfExchanged 18 = .ok (.aload_n 0, 1) := by decide +kernel
theorem dX5_endIfExchanged_19 : decode cX5_endIfExchanged 19 = .ok (.getfield 16, 3) := by decide +kernel
theorem dX5_endIfExchanged_22 : decode cX5_endIfExchanged 22 = .ok (.aload_n 0, 1) := by decide +kernel
theorem dX5_endIfExchanged_23 : decode cX5_endIfExchanged 23 = .ok (.getfield 16, 3) := by decide +kernel
theorem dX5_endIfExchanged_26 : decode cX5_endIfExchanged 26 = .ok (.getfield 98, 3) := by decide +kernel
theorem dX5_endIfExchanged_29 : decode cX5_endIfExchanged 29 = .ok (.invokevirtual 247, 3) := by decide +kernel
theorem dX5_endIfExchanged_32 : decode cX5_endIfExchanged 32 = .ok (.aload_n 0, 1) := by decide +kernel
theorem dX5_endIfExchanged_33 : decode cX5_endIfExchanged 33 = .ok (.getfield 16, 3) := by decide +kernel
theorem dX5_endIfExchanged_36 : decode cX5_endIfExchanged 36 = .ok (.getfield 102, 3) := by decide +kernel
theorem dX5_endIfExchanged_39 : decode cX5_endIfExchanged 39 = .ok (.iload_n 1, 1) := by decide +kernel
theorem dX5_endIfExchanged_40 : decode cX5_endIfExchanged 40 = .ok (.aaload, 1) := by decide +kernel
theorem dX5_endIfExchanged_41 : decode cX5_endIfExchanged 41 = .ok (.iload_n 2, 1) := by decide +kernel
theorem dX5_endIfExchanged_42 : decode cX5_endIfExchanged 42 = .ok (.iload_n 3, 1) := by decide +kernel
theorem dX5_endIfExchanged_43 : decode cX5_endIfExchanged 43 = .ok (.invokevirtual 151, 3) := by decide +kernel
theorem dX5_endIfExchanged_46 : decode cX5_endIfExchanged 46 = .ok (.aload_n 0, 1) := by decide +kernel
theorem dX5_endIfExchanged_47 : decode cX5_endIfExchanged 47 = .ok (.getfield 22, 3) := by decide +kernel
theorem dX5_endIfExchanged_50 : decode cX5_endIfExchanged 50 = .ok (.getfield 184, 3) := by decide +kernel
theorem dX5_endIfExchanged_53 : decode cX5_endIfExchanged 53 = .ok (.iload_n 1, 1) := by decide +kernel
theorem dX5_endIfExchanged_54 : decode cX5_endIfExchanged 54 = .ok (.iaload, 1) := by decide +kernel
theorem dX5_endIfExchanged_55 : decode cX5_endIfExchanged 55 = .ok (.ireturn, 1) := by decide +kernel
theorem dX6_init_0 : decode cX6_init 0 = .ok (.aload_n 0, 1) := by decide +kernel
theorem dX6_init_1 : decode cX6_init 1 = .ok (.invokespecial 1, 3) := by decide +kernel
theorem dX6_init_4 : decode cX6_init 4 = .ok (.aload_n 0, 1) := by decide +kernel
theorem dX6_init_5 : decode cX6_init 5 = .ok (.bipush 108, 2) := by decide +kernel
theorem dX6_init_7 : decode cX6_init 7 = .ok (.newarray .int, 2) := by decide +kernel
theorem dX6_init_9 : decode cX6_init 9 = .ok (.putfield 7, 3) := by decide +kernel
theorem dX6_init_12 : decode cX6_init 12 = .ok (.aload_n 0, 1) := by decide +kernel
theorem dX6_init_13 : decode cX6_init 13 = .ok (.sipush 648, 3) := by decide +kernel
theorem dX6_init_16 : decode cX6_init 16 = .ok (.newarray .int, 2) := by decide +kernel
theorem dX6_init_18 : decode cX6_init 18 = .ok (.putfield 13, 3) := by decide +kernel
theorem dX6_init_21 : decode cX6_init 21 = .ok (.aload_n 0, 1) := by decide +kernel
theorem dX6_init_22 : decode cX6_init 22 = .ok (.bipush 108, 2) := by decide +kernel
theorem dX6_init_24 : decode cX6_init 24 = .ok (.newarray .int, 2) := by decide +kernel
theorem dX6_init_26 : decode cX6_init 26 = .ok (.putfield 16, 3) := by decide +kernel
theorem dX6_init_29 : decode cX6_init 29 = .ok (.aload_n 0, 1) := by decide +kernel
theorem dX6_init_30 : decode cX6_init 30 = .ok (.bipush 108, 2) := by decide +kernel
theorem dX6_init_32 : decode cX6_init 32 = .ok (.newarray .int, 2) := by decide +kernel
theorem dX6_init_34 : decode cX6_init 34 = .ok (.putfield 19, 3) := by decide +kernel
theorem dX6_init_37 : decode cX6_init 37 = .ok (.aload_n 0, 1) := by decide +kernel
theorem dX6_init_38 : decode cX6_init 38 = .ok (.sipush 216, 3) := by decide +kernel
theorem dX6_init_41 : decode cX6_init 41 = .ok (.newarray .int, 2) := by decide +kernel
theorem dX6_init_43 : decode cX6_init 43 = .ok (.putfield 22, 3) := by decide +kernel
theorem dX6_init_46 : decode cX6_init 46 = .ok (.aload_n 0, 1) := by decide +kernel
theorem dX6_init_47 : decode cX6_init 47 = .ok (.iconst 2, 1) := by decide +kernel
theorem dX6_init_48 : decode cX6_init 48 = .ok (.newarray .boolean, 2) := by decide +kernel
theorem dX6_init_50 : decode cX6_init 50 = .ok (.putfield 25, 3) := by decide +kernel
theorem dX6_init_53 : decode cX6_init 53 = .ok (.aload_n 0, 1) := by decide +kernel
theorem dX6_init_54 : decode cX6_init 54 = .ok (.bipush 20, 2) := by decide +kernel
theorem dX6_init_56 : decode cX6_init 56 = .ok (.newarray .int, 2) := by decide +kernel
theorem dX6_init_58 : decode cX6_init 58 = .ok (.putfield 29, 3) := by decide +kernel
theorem dX6_init_61 : decode cX6_init 61 = .ok (.aload_n 0, 1) := by decide +kernel
theorem dX6_init_62 : decode cX6_init 62 = .ok (.bipush 8, 2) := by decide +kernel
theorem dX6_init_64 : decode cX6_init 64 = .ok (.newarray .int, 2) := by decide +kernel
theorem dX6_init_66 : decode cX6_init 66 = .ok (.putfield 32, 3) := by decide +kernel
theorem dX6_init_69 : decode cX6_init 69 = .ok (.aload_n 0, 1) := by decide +kernel
theorem dX6_init_70 : decode cX6_init 70 = .ok (.bipush 8, 2) := by decide +kernel
theorem dX6_init_72 : decode cX6_init 72 = .ok (.newarray .int, 2) := by decide +kernel
theorem dX6_init_74 : decode cX6_init 74 = .ok (.putfield 35, 3) := by decide +kernel
theorem dX6_init_77 : decode cX6_init 77 = .ok (.aload_n 0, 1) := by decide +kernel
theorem dX6_init_78 : decode cX6_init 78 = .ok (.bipush 6, 2) := by decide +kernel
theorem dX6_init_80 : decode cX6_init 80 = .ok (.newarray .int, 2) := by decide +kernel
theorem dX6_init_82 : decode cX6_init 82 = .ok (.putfield 38, 3) := by decide +kernel
theorem dX6_init_85 : decode cX6_init 85 = .ok (.aload_n 0, 1) := by decide +kernel
theorem dX6_init_86 : decode cX6_init 86 = .ok (.bipush 48, 2) := by decide +kernel
theorem dX6_init_88 : decode cX6_init 88 = .ok (.newarray .int, 2) := by decide +kernel
theorem dX6_init_90 : decode cX6_init 90 = .ok (.putfield 41, 3) := by decide +kernel
theorem dX6_init_93 : decode cX6_init 93 = .ok (.aload_n 0, 1) := by decide +kernel
theorem dX6_init_94 : decode cX6_init 94 = .ok (.bipush 48, 2) := by decide +kernel
theorem dX6_init_96 : decode cX6_init 96 = .ok (.newarray .int, 2) := by decide +kernel
theorem dX6_init_98 : decode cX6_init 98 = .ok (.putfield 44, 3) := by decide +kernel
theorem dX6_init_101 : decode cX6_init 101 = .ok (.aload_n 0, 1) := by decide +kernel
theorem dX6_init_102 : decode cX6_init 102 = .ok (.bipush 48, 2) := by decide +kernel
theorem dX6_init_104 : decode cX6_init 104 = .ok (.newarray .int, 2) := by decide +kernel
theorem dX6_init_106 : decode cX6_init 106 = .ok (.putfield 47, 3) := by decide +kernel
theorem dX6_init_109 : decode cX6_init 109 = .ok (.aload_n 0, 1) := by decide +kernel
theorem dX6_init_110 : decode cX6_init 110 = .ok (.bipush 48, 2) := by decide +kernel
theorem dX6_init_112 : decode cX6_init 112 = .ok (.newarray .int, 2) := by decide +kernel
theorem dX6_init_114 : decode cX6_init 114 = .ok (.putfield 50, 3) := by decide +kernel
theorem dX6_init_117 : decode cX6_init 117 = .ok (.aload_n 0, 1) := by decide +kernel
theorem dX6_init_118 : decode cX6_init 118 = .ok (.bipush 48, 2) := by decide +kernel
theorem dX6_init_120 : decode cX6_init 120 = .ok (.newarray .int, 2) := by decide +kernel
theorem dX6_init_122 : decode cX6_init 122 = .ok (.putfield 53, 3) := by decide +kernel
theorem dX6_init_125 : decode cX6_init 125 = .ok (.aload_n 0, 1) := by decide +kernel
theorem dX6_init_126 : decode cX6_init 126 = .ok (.bipush 6, 2) := by decide +kernel
theorem dX6_init_128 : decode cX6_init 128 = .ok (.newarray .int, 2) := by decide +kernel
theorem dX6_init_130 : decode cX6_init 130 = .ok (.putfield 56, 3) := by decide +kernel
theorem dX6_init_133 : decode cX6_init 133 = .ok (.aload_n 0, 1) := by decide +kernel
theorem dX6_init_134 : decode cX6_init 134 = .ok (.bipush 6, 2) := by decide +kernel
theorem dX6_init_136 : decode cX6_init 136 = .ok (.newarray .int, 2) := by decide +kernel
theorem dX6_init_138 : decode cX6_init 138 = .ok (.putfield 59, 3) := by decide +kernel
theorem dX6_init_141 : decode cX6_init 141 = .ok (.aload_n 0, 1) := by decide +kernel
theorem dX6_init_142 : decode cX6_init 142 = .ok (.bipush 8, 2) := by decide +kernel
theorem dX6_init_144 : decode cX6_init 144 = .ok (.newarray .int, 2) := by decide +kernel
theorem dX6_init_146 : decode cX6_init 146 = .ok (.putfield 62, 3) := by decide +kernel
theorem dX6_init_149 : decode cX6_init 149 = .ok (.aload_n 0, 1) := by decide +kernel
theorem dX6_init_150 : decode cX6_init 150 = .ok (.getfield 7, 3) := by decide +kernel
theorem dX6_init_153 : decode cX6_init 153 = .ok (.iconst 0, 1) := by decide +kernel
theorem dX6_init_154 : decode cX6_init 154 = .ok (.bipush 10, 2) := by decide +kernel
theorem dX6_init_156 : decode cX6_init 156 = .ok (.iastore, 1) := by decide +kernel
theorem dX6_init_157 : decode cX6_init 157 = .ok (.aload_n 0, 1) := by decide +kernel
theorem dX6_init_158 : decode cX6_init 158 = .ok (.getfield 7, 3) := by decide +kernel
theorem dX6_init_161 : decode cX6_init 161 = .ok (.iconst 1, 1) := by decide +kernel
theorem dX6_init_162 : decode cX6_init 162 = .ok (.sipush 200, 3) := by decide +kernel
theorem dX6_init_165 : decode cX6_init 165 = .ok (.iastore, 1) := by decide +kernel
theorem dX6_init_166 : decode cX6_init 166 = .ok (.aload_n 0, 1) := by decide +kernel
theorem dX6_init_167 : decode cX6_init 167 = .ok (.getfield 7, 3) := by decide +kernel
theorem dX6_init_170 : decode cX6_init 170 = .ok (.iconst 2, 1) := by decide +kernel
theorem dX6_init_171 : decode cX6_init 171 = .ok (.iconst 2, 1) := by decide +kernel
theorem dX6_init_172 : decode cX6_init 172 = .ok (.iastore, 1) := by decide +kernel
theorem dX6_init_173 : decode cX6_init 173 = .ok (.iconst 0, 1) := by decide +kernel
theorem dX6_init_174 : decode cX6_init 174 = .ok (.istore_n 1, 1) := by decide +kernel
theorem dX6_init_175 : decode cX6_init 175 = .ok (.iload_n 1, 1) := by decide +kernel
theorem dX6_init_176 : decode cX6_init 176 = .ok (.bipush 8, 2) := by decide +kernel
theorem dX6_init_178 : decode cX6_init 178 = .ok (.if_icmp .ge 37, 3) := by decide +kernel
theorem dX6_init_181 : decode cX6_init 181 = .ok (.aload_n 0, 1) := by decide +kernel
theorem dX6_init_182 : decode cX6_init 182 = .ok (.getfield 7, 3) := by decide +kernel
theorem dX6_init_185 : decode cX6_init 185 = .ok (.iconst 4, 1) := by decide +kernel
theorem dX6_init_186 : decode cX6_init 186 = .ok (.iconst 4, 1) := by decide +kernel
theorem dX6_init_187 : decode cX6_init 187 = .ok (.iload_n 1, 1) := by decide +kernel
theorem dX6_init_188 : decode cX6_init 188 = .ok (.imul, 1) := by decide +kernel
theorem dX6_init_189 : decode cX6_init 189 = .ok (.iadd, 1) := by decide +kernel
theorem dX6_init_190 : decode cX6_init 190 = .ok (.iconst 0, 1) := by decide +kernel
theorem dX6_init_191 : decode cX6_init 191 = .ok (.iadd, 1) := by decide +kernel
theorem dX6_init_192 : decode cX6_init 192 = .ok (.iconst 2, 1) := by decide +kernel
theorem dX6_init_193 : decode cX6_init 193 = .ok (.iload_n 1, 1) := by decide +kernel
theorem dX6_init_194 : decode cX6_init 194 = .ok (.imul, 1) := by decide +kernel
theorem dX6_init_195 : decode cX6_init 195 = .ok (.iastore, 1) := by decide +kernel
theorem dX6_init_196 : decode cX6_init 196 = .ok (.aload_n 0, 1) := by decide +kernel
theorem dX6_init_197 : decode cX6_init 197 = .ok (.getfield 7, 3) := by decide +kernel
theorem dX6_init_200 : decode cX6_init 200 = .ok (.iconst 4, 1) := by decide +kernel
theorem dX6_init_201 : decode cX6_init 201 = .ok (.iconst 4, 1) := by decide +kernel
theorem dX6_init_202 : decode cX6_init 202 = .ok (.iload_n 1, 1) := by decide +kernel
theorem dX6_init_203 : decode cX6_init 203 = .ok (.imul, 1) := by decide +kernel
theorem dX6_init_204 : decode cX6_init 204 = .ok (.iadd, 1) := by decide +kernel
theorem dX6_init_205 : decode cX6_init 205 = .ok (.iconst 2, 1) := by decide +kernel
theorem dX6_init_206 : decode cX6_init 206 = .ok (.iadd, 1) := by decide +kernel
theorem dX6_init_207 : decode cX6_init 207 = .ok (.iconst 5, 1) := by decide +kernel
theorem dX6_init_208 : decode cX6_init 208 = .ok (.iastore, 1) := by decide +kernel
theorem dX6_init_209 : decode cX6_init 209 = .ok (.iinc 1 1, 3) := by decide +kernel
theorem dX6_init_212 : decode cX6_init 212 = .ok (.goto (-37), 3) := by decide +kernel
theorem dX6_init_215 : decode cX6_init 215 = .ok (.return_, 1) := by decide +kernel
theorem dX6_in_0 : decode cX6_in 0 = .ok (.lload_n 0, 1) := by decide +kernel
theorem dX6_in_1 : decode cX6_in 1 = .ok (.iload_n 2, 1) := by decide +kernel
theorem dX6_in_2 : decode cX6_in 2 = .ok (.i2l, 1) := by decide +kernel
theorem dX6_in_3 : decode cX6_in 3 = .ok (.lcmp, 1) := by decide +kernel
theorem dX6_in_4 : decode cX6_in 4 = .ok (.ifCond .lt 14, 3) := by decide +kernel
theorem dX6_in_7 : decode cX6_in 7 = .ok (.lload_n 0, 1) := by decide +kernel
theorem dX6_in_8 : decode cX6_in 8 = .ok (.iload_n 3, 1) := by decide +kernel
theorem dX6_in_9 : decode cX6_in 9 = .ok (.i2l, 1) := by decide +kernel
theorem dX6_in_10 : decode cX6_in 10 = .ok (.lcmp, 1) := by decide +kernel
theorem dX6_in_11 : decode cX6_in 11 = .ok (.ifCond .gt 7, 3) := by decide +kernel
theorem dX6_in_14 : decode cX6_in 14 = .ok (.iconst 1, 1) := by decide +kernel
theorem dX6_in_15 : decode cX6_in 15 = .ok (.goto 4, 3) := by decide +kernel
theorem dX6_in_18 : decode cX6_in 18 = .ok (.iconst 0, 1) := by decide +kernel
theorem dX6_in_19 : decode cX6_in 19 = .ok (.ireturn, 1) := by decide +kernel
theorem dX6_isPlace_0 : decode cX6_isPlace 0 = .ok (.iload_n 0, 1) := by decide +kernel
theorem dX6_isPlace_1 : decode cX6_isPlace 1 = .ok (.i2l, 1) := by decide +kernel
theorem dX6_isPlace_2 : decode cX6_isPlace 2 = .ok (.iconst 0, 1) := by decide +kernel
theorem dX6_isPlace_3 : decode cX6_isPlace 3 = .ok (.bipush 7, 2) := by decide +kernel
theorem dX6_isPlace_5 : decode cX6_isPlace 5 = .ok (.invokestatic 65, 3) := by decide +kernel
theorem dX6_isPlace_8 : decode cX6_isPlace 8 = .ok (.ireturn, 1) := by decide +kernel
theorem dX6_isTeam_0 : decode cX6_isTeam 0 = .ok (.iload_n 1, 1) := by decide +kernel
theorem dX6_isTeam_1 : decode cX6_isTeam 1 = .ok (.i2l, 1) := by decide +kernel
theorem dX6_isTeam_2 : decode cX6_isTeam 2 = .ok (.iconst 0, 1) := by decide +kernel
theorem dX6_isTeam_3 : decode cX6_isTeam 3 = .ok (.aload_n 0, 1) := by decide +kernel
theorem dX6_isTeam_4 : decode cX6_isTeam 4 = .ok (.getfield 7, 3) := by decide +kernel
theorem dX6_isTeam_7 : decode cX6_isTeam 7 = .ok (.iconst 3, 1) := by decide +kernel
theorem dX6_isTeam_8 : decode cX6_isTeam 8 = .ok (.iaload, 1) := by decide +kernel
theorem dX6_isTeam_9 : decode cX6_isTeam 9 = .ok (.iconst 1, 1) := by decide +kernel
theorem dX6_isTeam_10 : decode cX6_isTeam 10 = .ok (.isub, 1) := by decide +kernel
theorem dX6_isTeam_11 : decode cX6_isTeam 11 = .ok (.invokestatic 65, 3) := by decide +kernel
theorem dX6_isTeam_14 : decode cX6_isTeam 14 = .ok (.ireturn, 1) := by decide +kernel
theorem dX6_its_0 : decode cX6_its 0 = .ok (.aload_n 0, 1) := by decide +kernel
theorem dX6_its_1 : decode cX6_its 1 = .ok (.getfield 7, 3) := by decide +kernel
theorem dX6_its_4 : decode cX6_its 4 = .ok (.bipush 36, 2) := by decide +kernel
theorem dX6_its_6 : decode cX6_its 6 = .ok (.bipush 12, 2) := by decide +kernel
theorem dX6_its_8 : decode cX6_its 8 = .ok (.iload_n 1, 1) := by decide +kernel
theorem dX6_its_9 : decode cX6_its 9 = .ok (.imul, 1) := by decide +kernel
theorem dX6_its_10 : decode cX6_its 10 = .ok (.iadd, 1) := by decide +kernel
theorem dX6_its_11 : decode cX6_its 11 = .ok (.iload_n 2, 1) := by decide +kernel
theorem dX6_its_12 : decode cX6_its 12 = .ok (.iadd, 1) := by decide +kernel
theorem dX6_its_13 : decode cX6_its 13 = .ok (.iaload, 1) := by decide +kernel
theorem dX6_its_14 : decode cX6_its 14 = .ok (.ireturn, 1) := by decide +kernel
theorem dX6_lay_0 : decode cX6_lay 0 = .ok (.aload_n 0, 1) := by decide +kernel
theorem dX6_lay_1 : decode cX6_lay 1 = .ok (.getfield 7, 3) := by decide +kernel
theorem dX6_lay_4 : decode cX6_lay 4 = .ok (.bipush 36, 2) := by decide +kernel
theorem dX6_lay_6 : decode cX6_lay 6 = .ok (.bipush 12, 2) := by decide +kernel
theorem dX6_lay_8 : decode cX6_lay 8 = .ok (.iload_n 1, 1) := by decide +kernel
theorem dX6_lay_9 : decode cX6_lay 9 = .ok (.imul, 1) := by decide +kernel
theorem dX6_lay_10 : decode cX6_lay 10 = .ok (.iadd, 1) := by decide +kernel
theorem dX6_lay_11 : decode cX6_lay 11 = .ok (.iload_n 2, 1) := by decide +kernel
theorem dX6_lay_12 : decode cX6_lay 12 = .ok (.iadd, 1) := by decide +kernel
theorem dX6_lay_13 : decode cX6_lay 13 = .ok (.iload_n 3, 1) := by decide +kernel
theorem dX6_lay_14 : decode cX6_lay 14 = .ok (.iastore, 1) := by decide +kernel
theorem dX6_lay_15 : decode cX6_lay 15 = .ok (.return_, 1) := by decide +kernel
theorem dX6_of_0 : decode cX6_of 0 = .ok (.aload_n 0, 1) := by decide +kernel
theorem dX6_of_1 : decode cX6_of 1 = .ok (.getfield 7, 3) := by decide +kernel
theorem dX6_of_4 : decode cX6_of 4 = .ok (.iconst 4, 1) := by decide +kernel
theorem dX6_of_5 : decode cX6_of 5 = .ok (.iconst 4, 1) := by decide +kernel
theorem dX6_of_6 : decode cX6_of 6 = .ok (.iload_n 1, 1) := by decide +kernel
theorem dX6_of_7 : decode cX6_of 7 = .ok (.imul, 1) := by decide +kernel
theorem dX6_of_8 : decode cX6_of 8 = .ok (.iadd, 1) := by decide +kernel
theorem dX6_of_9 : decode cX6_of 9 = .ok (.iload_n 2, 1) := by decide +kernel
theorem dX6_of_10 : decode cX6_of 10 = .ok (.iadd, 1) := by decide +kernel
theorem dX6_of_11 : decode cX6_of 11 = .ok (.iaload, 1) := by decide +kernel
theorem dX6_of_12 : decode cX6_of 12 = .ok (.ireturn, 1) := by decide +kernel
theorem dX6_size_0 : decode cX6_size 0 = .ok (.iload_n 0, 1) := by decide +kernel
theorem dX6_size_1 : decode cX6_size 1 = .ok (.ifCond .ge 8, 3) := by decide +kernel
theorem dX6_size_4 : decode cX6_size 4 = .ok (.iload_n 0, 1) := by decide +kernel
theorem dX6_size_5 : decode cX6_size 5 = .ok (.ineg, 1) := by decide +kernel
theorem dX6_size_6 : decode cX6_size 6 = .ok (.goto 4, 3) := by decide +kernel
theorem dX6_size_9 : decode cX6_size 9 = .ok (.iload_n 0, 1) := by decide +kernel
theorem dX6_size_10 : decode cX6_size 10 = .ok (.ireturn, 1) := by decide +kernel
theorem dX6_remember_0 : decode cX6_remember 0 = .ok (.iconst 0, 1) := by decide +kernel
theorem dX6_remember_1 : decode cX6_remember 1 = .ok (.istore_n 1, 1) := by decide +kernel
theorem dX6_remember_2 : decode cX6_remember 2 = .ok (.iload_n 1, 1) := by decide +kernel
theorem dX6_remember_3 : decode cX6_remember 3 = .ok (.bipush 108, 2) := by decide +kernel
theorem dX6_remember_5 : decode cX6_remember 5 = .ok (.if_icmp .ge 21, 3) := by decide +kernel
theorem dX6_remember_8 : decode cX6_remember 8 = .ok (.aload_n 0, 1) := by decide +kernel
theorem dX6_remember_9 : decode cX6_remember 9 = .ok (.getfield 16, 3) := by decide +kernel
theorem dX6_remember_12 : decode cX6_remember 12 = .ok (.iload_n 1, 1) := by decide +kernel
theorem dX6_remember_13 : decode cX6_remember 13 = .ok (.aload_n 0, 1) := by decide +kernel
theorem dX6_remember_14 : decode cX6_remember 14 = .ok (.getfield 7, 3) := by decide +kernel
theorem dX6_remember_17 : decode cX6_remember 17 = .ok (.iload_n 1, 1) := by decide +kernel
theorem dX6_remember_18 : decode cX6_remember 18 = .ok (.iaload, 1) := by decide +kernel
theorem dX6_remember_19 : decode cX6_remember 19 = .ok (.iastore, 1) := by decide +kernel
theorem dX6_remember_20 : decode cX6_remember 20 = .ok (.iinc 1 1, 3) := by decide +kernel
theorem dX6_remember_23 : decode cX6_remember 23 = .ok (.goto (-21), 3) := by decide +kernel
theorem dX6_remember_26 : decode cX6_remember 26 = .ok (.return_, 1) := by decide +kernel
theorem dX6_record_0 : decode cX6_record 0 = .ok (.aload_n 0, 1) := by decide +kernel
theorem dX6_record_1 : decode cX6_record 1 = .ok (.getfield 69, 3) := by decide +kernel
theorem dX6_record_4 : decode cX6_record 4 = .ok (.bipush 6, 2) := by decide +kernel
theorem dX6_record_6 : decode cX6_record 6 = .ok (.if_icmp .ne 43, 3) := by decide +kernel
theorem dX6_record_9 : decode cX6_record 9 = .ok (.iconst 0, 1) := by decide +kernel
theorem dX6_record_10 : decode cX6_record 10 = .ok (.istore_n 2, 1) := by decide +kernel
theorem dX6_record_11 : decode cX6_record 11 = .ok (.iload_n 2, 1) := by decide +kernel
theorem dX6_record_12 : decode cX6_record 12 = .ok (.sipush 540, 3) := by decide +kernel
theorem dX6_record_15 : decode cX6_record 15 = .ok (.if_icmp .ge 24, 3) := by decide +kernel
theorem dX6_record_18 : decode cX6_record 18 = .ok (.aload_n 0, 1) := by decide +kernel
theorem dX6_record_19 : decode cX6_record 19 = .ok (.getfield 13, 3) := by decide +kernel
theorem dX6_record_22 : decode cX6_record 22 = .ok (.iload_n 2, 1) := by decide +kernel
theorem dX6_record_23 : decode cX6_record 23 = .ok (.aload_n 0, 1) := by decide +kernel
theorem dX6_record_24 : decode cX6_record 24 = .ok (.getfield 13, 3) := by decide +kernel
theorem dX6_record_27 : decode cX6_record 27 = .ok (.bipush 108, 2) := by decide +kernel
theorem dX6_record_29 : decode cX6_record 29 = .ok (.iload_n 2, 1) := by decide +kernel
theorem dX6_record_30 : decode cX6_record 30 = .ok (.iadd, 1) := by decide +kernel
theorem dX6_record_31 : decode cX6_record 31 = .ok (.iaload, 1) := by decide +kernel
theorem dX6_record_32 : decode cX6_record 32 = .ok (.iastore, 1) := by decide +kernel
theorem dX6_record_33 : decode cX6_record 33 = .ok (.iinc 2 1, 3) := by decide +kernel
theorem dX6_record_36 : decode cX6_record 36 = .ok (.goto (-25), 3) := by decide +kernel
theorem dX6_record_39 : decode cX6_record 39 = .ok (.aload_n 0, 1) := by decide +kernel
theorem dX6_record_40 : decode cX6_record 40 = .ok (.dup, 1) := by decide +kernel
theorem dX6_record_41 : decode cX6_record 41 = .ok (.getfield 69, 3) := by decide +kernel
theorem dX6_record_44 : decode cX6_record 44 = .ok (.iconst 1, 1) := by decide +kernel
theorem dX6_record_45 : decode cX6_record 45 = .ok (.isub, 1) := by decide +kernel
theorem dX6_record_46 : decode cX6_record 46 = .ok (.putfield 69, 3) := by decide +kernel
theorem dX6_record_49 : decode cX6_record 49 = .ok (.iconst 0, 1) := by decide +kernel
theorem dX6_record_50 : decode cX6_record 50 = .ok (.istore_n 2, 1) := by decide +kernel
theorem dX6_record_51 : decode cX6_record 51 = .ok (.iload_n 2, 1) := by decide +kernel
theorem dX6_record_52 : decode cX6_record 52 = .ok (.bipush 108, 2) := by decide +kernel
theorem dX6_record_54 : decode cX6_record 54 = .ok (.if_icmp .ge 29, 3) := by decide +kernel
theorem dX6_record_57 : decode cX6_record 57 = .ok (.aload_n 0, 1) := by decide +kernel
theorem dX6_record_58 : decode cX6_record 58 = .ok (.getfield 13, 3) := by decide +kernel
theorem dX6_record_61 : decode cX6_record 61 = .ok (.bipush 108, 2) := by decide +kernel
theorem dX6_record_63 : decode cX6_record 63 = .ok (.aload_n 0, 1) := by decide +kernel
theorem dX6_record_64 : decode cX6_record 64 = .ok (.getfield 69, 3) := by decide +kernel
theorem dX6_record_67 : decode cX6_record 67 = .ok (.imul, 1) := by decide +kernel
theorem dX6_record_68 : decode cX6_record 68 = .ok (.iload_n 2, 1) := by decide +kernel
theorem dX6_record_69 : decode cX6_record 69 = .ok (.iadd, 1) := by decide +kernel
theorem dX6_record_70 : decode cX6_record 70 = .ok (.aload_n 0, 1) := by decide +kernel
theorem dX6_record_71 : decode cX6_record 71 = .ok (.getfield 16, 3) := by decide +kernel
theorem dX6_record_74 : decode cX6_record 74 = .ok (.iload_n 2, 1) := by decide +kernel
theorem dX6_record_75 : decode cX6_record 75 = .ok (.iaload, 1) := by decide +kernel
theorem dX6_record_76 : decode cX6_record 76 = .ok (.iastore, 1) := by decide +kernel
theorem dX6_record_77 : decode cX6_record 77 = .ok (.iinc 2 1, 3) := by decide +kernel
theorem dX6_record_80 : decode cX6_record 80 = .ok (.goto (-29), 3) := by decide +kernel
theorem dX6_record_83 : decode cX6_record 83 = .ok (.aload_n 0, 1) := by decide +kernel
theorem dX6_record_84 : decode cX6_record 84 = .ok (.dup, 1) := by decide +kernel
theorem dX6_record_85 : decode cX6_record 85 = .ok (.getfield 69, 3) := by decide +kernel
theorem dX6_record_88 : decode cX6_record 88 = .ok (.iconst 1, 1) := by decide +kernel
theorem dX6_record_89 : decode cX6_record 89 = .ok (.iadd, 1) := by decide +kernel
theorem dX6_record_90 : decode cX6_record 90 = .ok (.putfield 69, 3) := by decide +kernel
theorem dX6_record_93 : decode cX6_record 93 = .ok (.iload_n 1, 1) := by decide +kernel
theorem dX6_record_94 : decode cX6_record 94 = .ok (.ireturn, 1) := by decide +kernel
theorem dX6_undo_0 : decode cX6_undo 0 = .ok (.aload_n 0, 1) := by decide +kernel
theorem dX6_undo_1 : decode cX6_undo 1 = .ok (.getfield 69, 3) := by decide +kernel
theorem dX6_undo_4 : decode cX6_undo 4 = .ok (.ifCond .ne 6, 3) := by decide +kernel
theorem dX6_undo_7 : decode cX6_undo 7 = .ok (.ldc 73, 2) := by decide +kernel
theorem dX6_undo_9 : decode cX6_undo 9 = .ok (.ireturn, 1) := by decide +kernel
theorem dX6_undo_10 : decode cX6_undo 10 = .ok (.aload_n 0, 1) := by decide +kernel
theorem dX6_undo_11 : decode cX6_undo 11 = .ok (.dup, 1) := by decide +kernel
theorem dX6_undo_12 : decode cX6_undo 12 = .ok (.getfield 69, 3) := by decide +kernel
theorem dX6_undo_15 : decode cX6_undo 15 = .ok (.iconst 1, 1) := by decide +kernel
theorem dX6_undo_16 : decode cX6_undo 16 = .ok (.isub, 1) := by decide +kernel
theorem dX6_undo_17 : decode cX6_undo 17 = .ok (.putfield 69, 3) := by decide +kernel
theorem dX6_undo_20 : decode cX6_undo 20 = .ok (.iconst 0, 1) := by decide +kernel
theorem dX6_undo_21 : decode cX6_undo 21 = .ok (.istore_n 1, 1) := by decide +kernel
theorem dX6_undo_22 : decode cX6_undo 22 = .ok (.iload_n 1, 1) := by decide +kernel
theorem dX6_undo_23 : decode cX6_undo 23 = .ok (.bipush 108, 2) := by decide +kernel
theorem dX6_undo_25 : decode cX6_undo 25 = .ok (.if_icmp .ge 29, 3) := by decide +kernel
theorem dX6_undo_28 : decode cX6_undo 28 = .ok (.aload_n 0, 1) := by decide +kernel
theorem dX6_undo_29 : decode cX6_undo 29 = .ok (.getfield 7, 3) := by decide +kernel
theorem dX6_undo_32 : decode cX6_undo 32 = .ok (.iload_n 1, 1) := by decide +kernel
theorem dX6_undo_33 : decode cX6_undo 33 = .ok (.aload_n 0, 1) := by decide +kernel
theorem dX6_undo_34 : decode cX6_undo 34 = .ok (.getfield 13, 3) := by decide +kernel
theorem dX6_undo_37 : decode cX6_undo 37 = .ok (.bipush 108, 2) := by decide +kernel
theorem dX6_undo_39 : decode cX6_undo 39 = .ok (.aload_n 0, 1) := by decide +kernel
theorem dX6_undo_40 : decode cX6_undo 40 = .ok (.getfield 69, 3) := by decide +kernel
theorem dX6_undo_43 : decode cX6_undo 43 = .ok (.imul, 1) := by decide +kernel
theorem dX6_undo_44 : decode cX6_undo 44 = .ok (.iload_n 1, 1) := by decide +kernel
theorem dX6_undo_45 : decode cX6_undo 45 = .ok (.iadd, 1) := by decide +kernel
theorem dX6_undo_46 : decode cX6_undo 46 = .ok (.iaload, 1) := by decide +kernel
theorem dX6_undo_47 : decode cX6_undo 47 = .ok (.iastore, 1) := by decide +kernel
theorem dX6_undo_48 : decode cX6_undo 48 = .ok (.iinc 1 1, 3) := by decide +kernel
theorem dX6_undo_51 : decode cX6_undo 51 = .ok (.goto (-29), 3) := by decide +kernel
theorem dX6_undo_54 : decode cX6_undo 54 = .ok (.aload_n 0, 1) := by decide +kernel
theorem dX6_undo_55 : decode cX6_undo 55 = .ok (.getfield 69, 3) := by decide +kernel
theorem dX6_undo_58 : decode cX6_undo 58 = .ok (.ireturn, 1) := by decide +kernel
theorem dX6_save_0 : decode cX6_save 0 = .ok (.iload_n 1, 1) := by decide +kernel
theorem dX6_save_1 : decode cX6_save 1 = .ok (.i2l, 1) := by decide +kernel
theorem dX6_save_2 : decode cX6_save 2 = .ok (.iconst 0, 1) := by decide +kernel
theorem dX6_save_3 : decode cX6_save 3 = .ok (.iconst 1, 1) := by decide +kernel
theorem dX6_save_4 : decode cX6_save 4 = .ok (.invokestatic 65, 3) := by decide +kernel
theorem dX6_save_7 : decode cX6_save 7 = .ok (.ifCond .ne 6, 3) := by decide +kernel
theorem dX6_save_10 : decode cX6_save 10 = .ok (.ldc 74, 2) := by decide +kernel
theorem dX6_save_12 : decode cX6_save 12 = .ok (.ireturn, 1) := by decide +kernel
theorem dX6_save_13 : decode cX6_save 13 = .ok (.iconst 0, 1) := by decide +kernel
theorem dX6_save_14 : decode cX6_save 14 = .ok (.istore_n 2, 1) := by decide +kernel
theorem dX6_save_15 : decode cX6_save 15 = .ok (.iload_n 2, 1) := by decide +kernel
theorem dX6_save_16 : decode cX6_save 16 = .ok (.bipush 108, 2) := by decide +kernel
theorem dX6_save_18 : decode cX6_save 18 = .ok (.if_icmp .ge 26, 3) := by decide +kernel
theorem dX6_save_21 : decode cX6_save 21 = .ok (.aload_n 0, 1) := by decide +kernel
theorem dX6_save_22 : decode cX6_save 22 = .ok (.getfield 22, 3) := by decide +kernel
theorem dX6_save_25 : decode cX6_save 25 = .ok (.bipush 108, 2) := by decide +kernel
theorem dX6_save_27 : decode cX6_save 27 = .ok (.iload_n 1, 1) := by decide +kernel
theorem dX6_save_28 : decode cX6_save 28 = .ok (.imul, 1) := by decide +kernel
theorem dX6_save_29 : decode cX6_save 29 = .ok (.iload_n 2, 1) := by decide +kernel
theorem dX6_save_30 : decode cX6_save 30 = .ok (.iadd, 1) := by decide +kernel
theorem dX6_save_31 : decode cX6_save 31 = .ok (.aload_n 0, 1) := by decide +kernel
theorem dX6_save_32 : decode cX6_save 32 = .ok (.getfield 7, 3) := by decide +kernel
theorem dX6_save_35 : decode cX6_save 35 = .ok (.iload_n 2, 1) := by decide +kernel
theorem dX6_save_36 : decode cX6_save 36 = .ok (.iaload, 1) := by decide +kernel
theorem dX6_save_37 : decode cX6_save 37 = .ok (.iastore, 1) := by decide +kernel
theorem dX6_save_38 : decode cX6_save 38 = .ok (.iinc 2 1, 3) := by decide +kernel
theorem dX6_save_41 : decode cX6_save 41 = .ok (.goto (-26), 3) := by decide +kernel
theorem dX6_save_44 : decode cX6_save 44 = .ok (.aload_n 0, 1) := by decide +kernel
theorem dX6_save_45 : decode cX6_save 45 = .ok (.getfield 25, 3) := by decide +kernel
theorem dX6_save_48 : decode cX6_save 48 = .ok (.iload_n 1, 1) := by decide +kernel
theorem dX6_save_49 : decode cX6_save 49 = .ok (.iconst 1, 1) := by decide +kernel
theorem dX6_save_50 : decode cX6_save 50 = .ok (.bastore, 1) := by decide +kernel
theorem dX6_save_51 : decode cX6_save 51 = .ok (.aload_n 0, 1) := by decide +kernel
theorem dX6_save_52 : decode cX6_save 52 = .ok (.getfield 7, 3) := by decide +kernel
theorem dX6_save_55 : decode cX6_save 55 = .ok (.iconst 3, 1) := by decide +kernel
theorem dX6_save_56 : decode cX6_save 56 = .ok (.iaload, 1) := by decide +kernel
theorem dX6_save_57 : decode cX6_save 57 = .ok (.ireturn, 1) := by decide +kernel
theorem dX6_restore_0 : decode cX6_restore 0 = .ok (.iload_n 1, 1) := by decide +kernel
theorem dX6_restore_1 : decode cX6_restore 1 = .ok (.i2l, 1) := by decide +kernel
theorem dX6_restore_2 : decode cX6_restore 2 = .ok (.iconst 0, 1) := by decide +kernel
theorem dX6_restore_3 : decode cX6_restore 3 = .ok (.iconst 1, 1) := by decide +kernel
theorem dX6_restore_4 : decode cX6_restore 4 = .ok (.invokestatic 65, 3) := by decide +kernel
theorem dX6_restore_7 : decode cX6_restore 7 = .ok (.ifCond .ne 6, 3) := by decide +kernel
theorem dX6_restore_10 : decode cX6_restore 10 = .ok (.ldc 74, 2) := by decide +kernel
theorem dX6_restore_12 : decode cX6_restore 12 = .ok (.ireturn, 1) := by decide +kernel
theorem dX6_restore_13 : decode cX6_restore 13 = .ok (.aload_n 0, 1) := by decide +kernel
theorem dX6_restore_14 : decode cX6_restore 14 = .ok (.getfield 25, 3) := by decide +kernel
theorem dX6_restore_17 : decode cX6_restore 17 = .ok (.iload_n 1, 1) := by decide +kernel
theorem dX6_restore_18 : decode cX6_restore 18 = .ok (.baload, 1) := by decide +kernel
theorem dX6_restore_19 : decode cX6_restore 19 = .ok (.ifCond .ne 6, 3) := by decide +kernel
theorem dX6_restore_22 : decode cX6_restore 22 = .ok (.ldc 73, 2) := by decide +kernel
theorem dX6_restore_24 : decode cX6_restore 24 = .ok (.ireturn, 1) := by decide +kernel
theorem dX6_restore_25 : decode cX6_restore 25 = .ok (.aload_n 0, 1) := by decide +kernel
theorem dX6_restore_26 : decode cX6_restore 26 = .ok (.invokevirtual 75, 3) := by decide +kernel
theorem dX6_restore_29 : decode cX6_restore 29 = .ok (.iconst 0, 1) := by decide +kernel
theorem dX6_restore_30 : decode cX6_restore 30 = .ok (.istore_n 2, 1) := by decide +kernel
theorem dX6_restore_31 : decode cX6_restore 31 = .ok (.iload_n 2, 1) := by decide +kernel
theorem dX6_restore_32 : decode cX6_restore 32 = .ok (.bipush 108, 2) := by decide +kernel
theorem dX6_restore_34 : decode cX6_restore 34 = .ok (.if_icmp .ge 26, 3) := by decide +kernel
theorem dX6_restore_37 : decode cX6_restore 37 = .ok (.aload_n 0, 1) := by decide +kernel
theorem dX6_restore_38 : decode cX6_restore 38 = .ok (.getfield 7, 3) := by decide +kernel
theorem dX6_restore_41 : decode cX6_restore 41 = .ok (.iload_n 2, 1) := by decide +kernel
theorem dX6_restore_42 : decode cX6_restore 42 = .ok (.aload_n 0, 1) := by decide +kernel
theorem dX6_restore_43 : decode cX6_restore 43 = .ok (.getfield 22, 3) := by decide +kernel
theorem dX6_restore_46 : decode cX6_restore 46 = .ok (.bipush 108, 2) := by decide +kernel
theorem dX6_restore_48 : decode cX6_restore 48 = .ok (.iload_n 1, 1) := by decide +kernel
theorem dX6_restore_49 : decode cX6_restore 49 = .ok (.imul, 1) := by decide +kernel
theorem dX6_restore_50 : decode cX6_restore 50 = .ok (.iload_n 2, 1) := by decide +kernel
theorem dX6_restore_51 : decode cX6_restore 51 = .ok (.iadd, 1) := by decide +kernel
theorem dX6_restore_52 : decode cX6_restore 52 = .ok (.iaload, 1) := by decide +kernel
theorem dX6_restore_53 : decode cX6_restore 53 = .ok (.iastore, 1) := by decide +kernel
theorem dX6_restore_54 : decode cX6_restore 54 = .ok (.iinc 2 1, 3) := by decide +kernel
theorem dX6_restore_57 : decode cX6_restore 57 = .ok (.goto (-26), 3) := by decide +kernel
theorem dX6_restore_60 : decode cX6_restore 60 = .ok (.aload_n 0, 1) := by decide +kernel
theorem dX6_restore_61 : decode cX6_restore 61 = .ok (.aload_n 0, 1) := by decide +kernel
theorem dX6_restore_62 : decode cX6_restore 62 = .ok (.getfield 7, 3) := by decide +kernel
theorem dX6_restore_65 : decode cX6_restore 65 = .ok (.iconst 3, 1) := by decide +kernel
theorem dX6_restore_66 : decode cX6_restore 66 = .ok (.iaload, 1) := by decide +kernel
theorem dX6_restore_67 : decode cX6_restore 67 = .ok (.invokevirtual 78, 3) := by decide +kernel
theorem dX6_restore_70 : decode cX6_restore 70 = .ok (.ireturn, 1) := by decide +kernel
theorem dX6_layAside_0 : decode cX6_layAside 0 = .ok (.iconst 0, 1) := by decide +kernel
theorem dX6_layAside_1 : decode cX6_layAside 1 = .ok (.istore_n 1, 1) := by decide +kernel
theorem dX6_layAside_2 : decode cX6_layAside 2 = .ok (.iload_n 1, 1) := by decide +kernel
theorem dX6_layAside_3 : decode cX6_layAside 3 = .ok (.bipush 108, 2) := by decide +kernel
theorem dX6_layAside_5 : decode cX6_layAside 5 = .ok (.if_icmp .ge 21, 3) := by decide +kernel
theorem dX6_layAside_8 : decode cX6_layAside 8 = .ok (.aload_n 0, 1) := by decide +kernel
theorem dX6_layAside_9 : decode cX6_layAside 9 = .ok (.getfield 19, 3) := by decide +kernel
theorem dX6_layAside_12 : decode cX6_layAside 12 = .ok (.iload_n 1, 1) := by decide +kernel
theorem dX6_layAside_13 : decode cX6_layAside 13 = .ok (.aload_n 0, 1) := by decide +kernel
theorem dX6_layAside_14 : decode cX6_layAside 14 = .ok (.getfield 7, 3) := by decide +kernel
theorem dX6_layAside_17 : decode cX6_layAside 17 = .ok (.iload_n 1, 1) := by decide +kernel
theorem dX6_layAside_18 : decode cX6_layAside 18 = .ok (.iaload, 1) := by decide +kernel
theorem dX6_layAside_19 : decode cX6_layAside 19 = .ok (.iastore, 1) := by decide +kernel
theorem dX6_layAside_20 : decode cX6_layAside 20 = .ok (.iinc 1 1, 3) := by decide +kernel
theorem dX6_layAside_23 : decode cX6_layAside 23 = .ok (.goto (-21), 3) := by decide +kernel
theorem dX6_layAside_26 : decode cX6_layAside 26 = .ok (.return_, 1) := by decide +kernel
theorem dX6_putBack_0 : decode cX6_putBack 0 = .ok (.iconst 0, 1) := by decide +kernel
theorem dX6_putBack_1 : decode cX6_putBack 1 = .ok (.istore_n 1, 1) := by decide +kernel
theorem dX6_putBack_2 : decode cX6_putBack 2 = .ok (.iload_n 1, 1) := by decide +kernel
theorem dX6_putBack_3 : decode cX6_putBack 3 = .ok (.bipush 108, 2) := by decide +kernel
theorem dX6_putBack_5 : decode cX6_putBack 5 = .ok (.if_icmp .ge 21, 3) := by decide +kernel
theorem dX6_putBack_8 : decode cX6_putBack 8 = .ok (.aload_n 0, 1) := by decide +kernel
theorem dX6_putBack_9 : decode cX6_putBack 9 = .ok (.getfield 7, 3) := by decide +kernel
theorem dX6_putBack_12 : decode cX6_putBack 12 = .ok (.iload_n 1, 1) := by decide +kernel
theorem dX6_putBack_13 : decode cX6_putBack 13 = .ok (.aload_n 0, 1) := by decide +kernel
theorem dX6_putBack_14 : decode cX6_putBack 14 = .ok (.getfield 19, 3) := by decide +kernel
theorem dX6_putBack_17 : decode cX6_putBack 17 = .ok (.iload_n 1, 1) := by decide +kernel
theorem dX6_putBack_18 : decode cX6_putBack 18 = .ok (.iaload, 1) := by decide +kernel
theorem dX6_putBack_19 : decode cX6_putBack 19 = .ok (.iastore, 1) := by decide +kernel
theorem dX6_putBack_20 : decode cX6_putBack 20 = .ok (.iinc 1 1, 3) := by decide +kernel
theorem dX6_putBack_23 : decode cX6_putBack 23 = .ok (.goto (-21), 3) := by decide +kernel
theorem dX6_putBack_26 : decode cX6_putBack 26 = .ok (.return_, 1) := by decide +kernel
theorem dX6_prepare_0 : decode cX6_prepare 0 = .ok (.aload_n 0, 1) := by decide +kernel
theorem dX6_prepare_1 : decode cX6_prepare 1 = .ok (.iload_n 1, 1) := by decide +kernel
theorem dX6_prepare_2 : decode cX6_prepare 2 = .ok (.putfield 82, 3) := by decide +kernel
theorem dX6_prepare_5 : decode cX6_prepare 5 = .ok (.iconst 0, 1) := by decide +kernel
theorem dX6_prepare_6 : decode cX6_prepare 6 = .ok (.istore_n 2, 1) := by decide +kernel
theorem dX6_prepare_7 : decode cX6_prepare 7 = .ok (.iload_n 2, 1) := by decide +kernel
theorem dX6_prepare_8 : decode cX6_prepare 8 = .ok (.bipush 8, 2) := by decide +kernel
theorem dX6_prepare_10 : decode cX6_prepare 10 = .ok (.if_icmp .ge 16, 3) := by decide +kernel
theorem dX6_prepare_13 : decode cX6_prepare 13 = .ok (.aload_n 0, 1) := by decide +kernel
theorem dX6_prepare_14 : decode cX6_prepare 14 = .ok (.getfield 62, 3) := by decide +kernel
theorem dX6_prepare_17 : decode cX6_prepare 17 = .ok (.iload_n 2, 1) := by decide +kernel
theorem dX6_prepare_18 : decode cX6_prepare 18 = .ok (.iconst 0, 1) := by decide +kernel
theorem dX6_prepare_19 : decode cX6_prepare 19 = .ok (.iastore, 1) := by decide +kernel
theorem dX6_prepare_20 : decode cX6_prepare 20 = .ok (.iinc 2 1, 3) := by decide +kernel
theorem dX6_prepare_23 : decode cX6_prepare 23 = .ok (.goto (-16), 3) := by decide +kernel
theorem dX6_prepare_26 : decode cX6_prepare 26 = .ok (.iconst 0, 1) := by decide +kernel
theorem dX6_prepare_27 : decode cX6_prepare 27 = .ok (.istore_n 2, 1) := by decide +kernel
theorem dX6_prepare_28 : decode cX6_prepare 28 = .ok (.iload_n 2, 1) := by decide +kernel
theorem dX6_prepare_29 : decode cX6_prepare 29 = .ok (.iload_n 1, 1) := by decide +kernel
theorem dX6_prepare_30 : decode cX6_prepare 30 = .ok (.if_icmp .ge 103, 3) := by decide +kernel
theorem dX6_prepare_33 : decode cX6_prepare 33 = .ok (.iconst 0, 1) := by decide +kernel
theorem dX6_prepare_34 : decode cX6_prepare 34 = .ok (.istore_n 3, 1) := by decide +kernel
theorem dX6_prepare_35 : decode cX6_prepare 35 = .ok (.iconst 0, 1) := by decide +kernel
theorem dX6_prepare_36 : decode cX6_prepare 36 = .ok (.istore 4, 2) := by decide +kernel
theorem dX6_prepare_38 : decode cX6_prepare 38 = .ok (.iload 4, 2) := by decide +kernel
theorem dX6_prepare_40 : decode cX6_prepare 40 = .ok (.aload_n 0, 1) := by decide +kernel
theorem dX6_prepare_41 : decode cX6_prepare 41 = .ok (.iload_n 2, 1) := by decide +kernel
theorem dX6_prepare_42 : decode cX6_prepare 42 = .ok (.iconst 3, 1) := by decide +kernel
theorem dX6_prepare_43 : decode cX6_prepare 43 = .ok (.invokevirtual 85, 3) := by decide +kernel
theorem dX6_prepare_46 : decode cX6_prepare 46 = .ok (.if_icmp .ge 49, 3) := by decide +kernel
theorem dX6_prepare_49 : decode cX6_prepare 49 = .ok (.aload_n 0, 1) := by decide +kernel
theorem dX6_prepare_50 : decode cX6_prepare 50 = .ok (.aload_n 0, 1) := by decide +kernel
theorem dX6_prepare_51 : decode cX6_prepare 51 = .ok (.iload_n 2, 1) := by decide +kernel
theorem dX6_prepare_52 : decode cX6_prepare 52 = .ok (.iconst 4, 1) := by decide +kernel
theorem dX6_prepare_53 : decode cX6_prepare 53 = .ok (.iload 4, 2) := by decide +kernel
theorem dX6_prepare_55 : decode cX6_prepare 55 = .ok (.iadd, 1) := by decide +kernel
theorem dX6_prepare_56 : decode cX6_prepare 56 = .ok (.invokevirtual 85, 3) := by decide +kernel
theorem dX6_prepare_59 : decode cX6_prepare 59 = .ok (.iconst 3, 1) := by decide +kernel
theorem dX6_prepare_60 : decode cX6_prepare 60 = .ok (.invokevirtual 89, 3) := by decide +kernel
theorem dX6_prepare_63 : decode cX6_prepare 63 = .ok (.ifCond .ne 26, 3) := by decide +kernel
theorem dX6_prepare_66 : decode cX6_prepare 66 = .ok (.aload_n 0, 1) := by decide +kernel
theorem dX6_prepare_67 : decode cX6_prepare 67 = .ok (.getfield 41, 3) := by decide +kernel
theorem dX6_prepare_70 : decode cX6_prepare 70 = .ok (.bipush 8, 2) := by decide +kernel
theorem dX6_prepare_72 : decode cX6_prepare 72 = .ok (.iload_n 2, 1) := by decide +kernel
theorem dX6_prepare_73 : decode cX6_prepare 73 = .ok (.imul, 1) := by decide +kernel
theorem dX6_prepare_74 : decode cX6_prepare 74 = .ok (.iload_n 3, 1) := by decide +kernel
theorem dX6_prepare_75 : decode cX6_prepare 75 = .ok (.iadd, 1) := by decide +kernel
theorem dX6_prepare_76 : decode cX6_prepare 76 = .ok (.aload_n 0, 1) := by decide +kernel
theorem dX6_prepare_77 : decode cX6_prepare 77 = .ok (.iload_n 2, 1) := by decide +kernel
theorem dX6_prepare_78 : decode cX6_prepare 78 = .ok (.iconst 4, 1) := by decide +kernel
theorem dX6_prepare_79 : decode cX6_prepare 79 = .ok (.iload 4, 2) := by decide +kernel
theorem dX6_prepare_81 : decode cX6_prepare 81 = .ok (.iadd, 1) := by decide +kernel
theorem dX6_prepare_82 : decode cX6_prepare 82 = .ok (.invokevirtual 85, 3) := by decide +kernel
theorem dX6_prepare_85 : decode cX6_prepare 85 = .ok (.iastore, 1) := by decide +kernel
theorem dX6_prepare_86 : decode cX6_prepare 86 = .ok (.iinc 3 1, 3) := by decide +kernel
theorem dX6_prepare_89 : decode cX6_prepare 89 = .ok (.iinc 4 1, 3) := by decide +kernel
theorem dX6_prepare_92 : decode cX6_prepare 92 = .ok (.goto (-54), 3) := by decide +kernel
theorem dX6_prepare_95 : decode cX6_prepare 95 = .ok (.aload_n 0, 1) := by decide +kernel
theorem dX6_prepare_96 : decode cX6_prepare 96 = .ok (.getfield 38, 3) := by decide +kernel
theorem dX6_prepare_99 : decode cX6_prepare 99 = .ok (.iload_n 2, 1) := by decide +kernel
theorem dX6_prepare_100 : decode cX6_prepare 100 = .ok (.iload_n 3, 1) := by decide +kernel
theorem dX6_prepare_101 : decode cX6_prepare 101 = .ok (.iastore, 1) := by decide +kernel
theorem dX6_prepare_102 : decode cX6_prepare 102 = .ok (.aload_n 0, 1) := by decide +kernel
theorem dX6_prepare_103 : decode cX6_prepare 103 = .ok (.getfield 59, 3) := by decide +kernel
theorem dX6_prepare_106 : decode cX6_prepare 106 = .ok (.iload_n 2, 1) := by decide +kernel
theorem dX6_prepare_107 : decode cX6_prepare 107 = .ok (.iconst 0, 1) := by decide +kernel
theorem dX6_prepare_108 : decode cX6_prepare 108 = .ok (.iastore, 1) := by decide +kernel
theorem dX6_prepare_109 : decode cX6_prepare 109 = .ok (.aload_n 0, 1) := by decide +kernel
theorem dX6_prepare_110 : decode cX6_prepare 110 = .ok (.getfield 56, 3) := by decide +kernel
theorem dX6_prepare_113 : decode cX6_prepare 113 = .ok (.iload_n 2, 1) := by decide +kernel
theorem dX6_prepare_114 : decode cX6_prepare 114 = .ok (.aload_n 0, 1) := by decide +kernel
theorem dX6_prepare_115 : decode cX6_prepare 115 = .ok (.iload_n 2, 1) := by decide +kernel
theorem dX6_prepare_116 : decode cX6_prepare 116 = .ok (.iconst 0, 1) := by decide +kernel
theorem dX6_prepare_117 : decode cX6_prepare 117 = .ok (.invokevirtual 85, 3) := by decide +kernel
theorem dX6_prepare_120 : decode cX6_prepare 120 = .ok (.iastore, 1) := by decide +kernel
theorem dX6_prepare_121 : decode cX6_prepare 121 = .ok (.aload_n 0, 1) := by decide +kernel
theorem dX6_prepare_122 : decode cX6_prepare 122 = .ok (.iload_n 2, 1) := by decide +kernel
theorem dX6_prepare_123 : decode cX6_prepare 123 = .ok (.iconst 0, 1) := by decide +kernel
theorem dX6_prepare_124 : decode cX6_prepare 124 = .ok (.invokevirtual 92, 3) := by decide +kernel
theorem dX6_prepare_127 : decode cX6_prepare 127 = .ok (.iinc 2 1, 3) := by decide +kernel
theorem dX6_prepare_130 : decode cX6_prepare 130 = .ok (.goto (-102), 3) := by decide +kernel
theorem dX6_prepare_133 : decode cX6_prepare 133 = .ok (.return_, 1) := by decide +kernel
theorem dX6_walk_0 : decode cX6_walk 0 = .ok (.bipush 8, 2) := by decide +kernel
theorem dX6_walk_2 : decode cX6_walk 2 = .ok (.iload_n 1, 1) := by decide +kernel
theorem dX6_walk_3 : decode cX6_walk 3 = .ok (.imul, 1) := by decide +kernel
theorem dX6_walk_4 : decode cX6_walk 4 = .ok (.aload_n 0, 1) := by decide +kernel
theorem dX6_walk_5 : decode cX6_walk 5 = .ok (.getfield 59, 3) := by decide +kernel
theorem dX6_walk_8 : decode cX6_walk 8 = .ok (.iload_n 1, 1) := by decide +kernel
theorem dX6_walk_9 : decode cX6_walk 9 = .ok (.iaload, 1) := by decide +kernel
theorem dX6_walk_10 : decode cX6_walk 10 = .ok (.iadd, 1) := by decide +kernel
theorem dX6_walk_11 : decode cX6_walk 11 = .ok (.istore_n 3, 1) := by decide +kernel
theorem dX6_walk_12 : decode cX6_walk 12 = .ok (.aload_n 0, 1) := by decide +kernel
theorem dX6_walk_13 : decode cX6_walk 13 = .ok (.getfield 59, 3) := by decide +kernel
theorem dX6_walk_16 : decode cX6_walk 16 = .ok (.iload_n 1, 1) := by decide +kernel
theorem dX6_walk_17 : decode cX6_walk 17 = .ok (.iaload, 1) := by decide +kernel
theorem dX6_walk_18 : decode cX6_walk 18 = .ok (.aload_n 0, 1) := by decide +kernel
theorem dX6_walk_19 : decode cX6_walk 19 = .ok (.getfield 38, 3) := by decide +kernel
theorem dX6_walk_22 : decode cX6_walk 22 = .ok (.iload_n 1, 1) := by decide +kernel
theorem dX6_walk_23 : decode cX6_walk 23 = .ok (.iaload, 1) := by decide +kernel
theorem dX6_walk_24 : decode cX6_walk 24 = .ok (.if_icmp .ne 4, 3) := by decide +kernel
theorem dX6_walk_27 : decode cX6_walk 27 = .ok (.return_, 1) := by decide +kernel
theorem dX6_walk_28 : decode cX6_walk 28 = .ok (.aload_n 0, 1) := by decide +kernel
theorem dX6_walk_29 : decode cX6_walk 29 = .ok (.getfield 59, 3) := by decide +kernel
theorem dX6_walk_32 : decode cX6_walk 32 = .ok (.iload_n 1, 1) := by decide +kernel
theorem dX6_walk_33 : decode cX6_walk 33 = .ok (.iaload, 1) := by decide +kernel
theorem dX6_walk_34 : decode cX6_walk 34 = .ok (.ifCond .ne 7, 3) := by decide +kernel
theorem dX6_walk_37 : decode cX6_walk 37 = .ok (.iconst 0, 1) := by decide +kernel
theorem dX6_walk_38 : decode cX6_walk 38 = .ok (.goto 16, 3) := by decide +kernel
theorem dX6_walk_41 : decode cX6_walk 41 = .ok (.aload_n 0, 1) := by decide +kernel
theorem dX6_walk_42 : decode cX6_walk 42 = .ok (.aload_n 0, 1) := by decide +kernel
theorem dX6_walk_43 : decode cX6_walk 43 = .ok (.getfield 41, 3) := by decide +kernel
theorem dX6_walk_46 : decode cX6_walk 46 = .ok (.iload_n 3, 1) := by decide +kernel
theorem dX6_walk_47 : decode cX6_walk 47 = .ok (.iconst 1, 1) := by decide +kernel
theorem dX6_walk_48 : decode cX6_walk 48 = .ok (.isub, 1) := by decide +kernel
theorem dX6_walk_49 : decode cX6_walk 49 = .ok (.iaload, 1) := by decide +kernel
theorem dX6_walk_50 : decode cX6_walk 50 = .ok (.iconst 0, 1) := by decide +kernel
theorem dX6_walk_51 : decode cX6_walk 51 = .ok (.invokevirtual 89, 3) := by decide +kernel
theorem dX6_walk_54 : decode cX6_walk 54 = .ok (.istore 4, 2) := by decide +kernel
theorem dX6_walk_56 : decode cX6_walk 56 = .ok (.aload_n 0, 1) := by decide +kernel
theorem dX6_walk_57 : decode cX6_walk 57 = .ok (.getfield 59, 3) := by decide +kernel
theorem dX6_walk_60 : decode cX6_walk 60 = .ok (.iload_n 1, 1) := by decide +kernel
theorem dX6_walk_61 : decode cX6_walk 61 = .ok (.iaload, 1) := by decide +kernel
theorem dX6_walk_62 : decode cX6_walk 62 = .ok (.ifCond .ne 7, 3) := by decide +kernel
theorem dX6_walk_65 : decode cX6_walk 65 = .ok (.iconst 0, 1) := by decide +kernel
theorem dX6_walk_66 : decode cX6_walk 66 = .ok (.goto 16, 3) := by decide +kernel
theorem dX6_walk_69 : decode cX6_walk 69 = .ok (.aload_n 0, 1) := by decide +kernel
theorem dX6_walk_70 : decode cX6_walk 70 = .ok (.aload_n 0, 1) := by decide +kernel
theorem dX6_walk_71 : decode cX6_walk 71 = .ok (.getfield 41, 3) := by decide +kernel
theorem dX6_walk_74 : decode cX6_walk 74 = .ok (.iload_n 3, 1) := by decide +kernel
theorem dX6_walk_75 : decode cX6_walk 75 = .ok (.iconst 1, 1) := by decide +kernel
theorem dX6_walk_76 : decode cX6_walk 76 = .ok (.isub, 1) := by decide +kernel
theorem dX6_walk_77 : decode cX6_walk 77 = .ok (.iaload, 1) := by decide +kernel
theorem dX6_walk_78 : decode cX6_walk 78 = .ok (.iconst 1, 1) := by decide +kernel
theorem dX6_walk_79 : decode cX6_walk 79 = .ok (.invokevirtual 89, 3) := by decide +kernel
theorem dX6_walk_82 : decode cX6_walk 82 = .ok (.istore 5, 2) := by decide +kernel
theorem dX6_walk_84 : decode cX6_walk 84 = .ok (.aload_n 0, 1) := by decide +kernel
theorem dX6_walk_85 : decode cX6_walk 85 = .ok (.getfield 53, 3) := by decide +kernel
theorem dX6_walk_88 : decode cX6_walk 88 = .ok (.iload_n 3, 1) := by decide +kernel
theorem dX6_walk_89 : decode cX6_walk 89 = .ok (.aload_n 0, 1) := by decide +kernel
theorem dX6_walk_90 : decode cX6_walk 90 = .ok (.aload_n 0, 1) := by decide +kernel
theorem dX6_walk_91 : decode cX6_walk 91 = .ok (.getfield 41, 3) := by decide +kernel
theorem dX6_walk_94 : decode cX6_walk 94 = .ok (.iload_n 3, 1) := by decide +kernel
theorem dX6_walk_95 : decode cX6_walk 95 = .ok (.iaload, 1) := by decide +kernel
theorem dX6_walk_96 : decode cX6_walk 96 = .ok (.iconst 0, 1) := by decide +kernel
theorem dX6_walk_97 : decode cX6_walk 97 = .ok (.invokevirtual 89, 3) := by decide +kernel
theorem dX6_walk_100 : decode cX6_walk 100 = .ok (.iload 4, 2) := by decide +kernel
theorem dX6_walk_102 : decode cX6_walk 102 = .ok (.isub, 1) := by decide +kernel
theorem dX6_walk_103 : decode cX6_walk 103 = .ok (.invokestatic 96, 3) := by decide +kernel
theorem dX6_walk_106 : decode cX6_walk 106 = .ok (.aload_n 0, 1) := by decide +kernel
theorem dX6_walk_107 : decode cX6_walk 107 = .ok (.aload_n 0, 1) := by decide +kernel
theorem dX6_walk_108 : decode cX6_walk 108 = .ok (.getfield 41, 3) := by decide +kernel
theorem dX6_walk_111 : decode cX6_walk 111 = .ok (.iload_n 3, 1) := by decide +kernel
theorem dX6_walk_112 : decode cX6_walk 112 = .ok (.iaload, 1) := by decide +kernel
theorem dX6_walk_113 : decode cX6_walk 113 = .ok (.iconst 1, 1) := by decide +kernel
theorem dX6_walk_114 : decode cX6_walk 114 = .ok (.invokevirtual 89, 3) := by decide +kernel
theorem dX6_walk_117 : decode cX6_walk 117 = .ok (.iload 5, 2) := by decide +kernel
theorem dX6_walk_119 : decode cX6_walk 119 = .ok (.isub, 1) := by decide +kernel
theorem dX6_walk_120 : decode cX6_walk 120 = .ok (.invokestatic 96, 3) := by decide +kernel
theorem dX6_walk_123 : decode cX6_walk 123 = .ok (.iadd, 1) := by decide +kernel
theorem dX6_walk_124 : decode cX6_walk 124 = .ok (.iload_n 2, 1) := by decide +kernel
theorem dX6_walk_125 : decode cX6_walk 125 = .ok (.ifCond .eq 12, 3) := by decide +kernel
theorem dX6_walk_128 : decode cX6_walk 128 = .ok (.aload_n 0, 1) := by decide +kernel
theorem dX6_walk_129 : decode cX6_walk 129 = .ok (.getfield 7, 3) := by decide +kernel
theorem dX6_walk_132 : decode cX6_walk 132 = .ok (.iconst 2, 1) := by decide +kernel
theorem dX6_walk_133 : decode cX6_walk 133 = .ok (.iaload, 1) := by decide +kernel
theorem dX6_walk_134 : decode cX6_walk 134 = .ok (.goto 4, 3) := by decide +kernel
theorem dX6_walk_137 : decode cX6_walk 137 = .ok (.iconst 1, 1) := by decide +kernel
theorem dX6_walk_138 : decode cX6_walk 138 = .ok (.imul, 1) := by decide +kernel
theorem dX6_walk_139 : decode cX6_walk 139 = .ok (.iastore, 1) := by decide +kernel
theorem dX6_walk_140 : decode cX6_walk 140 = .ok (.aload_n 0, 1) := by decide +kernel
theorem dX6_walk_141 : decode cX6_walk 141 = .ok (.getfield 44, 3) := by decide +kernel
theorem dX6_walk_144 : decode cX6_walk 144 = .ok (.iload_n 3, 1) := by decide +kernel
theorem dX6_walk_145 : decode cX6_walk 145 = .ok (.aload_n 0, 1) := by decide +kernel
theorem dX6_walk_146 : decode cX6_walk 146 = .ok (.getfield 56, 3) := by decide +kernel
theorem dX6_walk_149 : decode cX6_walk 149 = .ok (.iload_n 1, 1) := by decide +kernel
theorem dX6_walk_150 : decode cX6_walk 150 = .ok (.iaload, 1) := by decide +kernel
theorem dX6_walk_151 : decode cX6_walk 151 = .ok (.aload_n 0, 1) := by decide +kernel
theorem dX6_walk_152 : decode cX6_walk 152 = .ok (.getfield 53, 3) := by decide +kernel
theorem dX6_walk_155 : decode cX6_walk 155 = .ok (.iload_n 3, 1) := by decide +kernel
theorem dX6_walk_156 : decode cX6_walk 156 = .ok (.iaload, 1) := by decide +kernel
theorem dX6_walk_157 : decode cX6_walk 157 = .ok (.iadd, 1) := by decide +kernel
theorem dX6_walk_158 : decode cX6_walk 158 = .ok (.iastore, 1) := by decide +kernel
theorem dX6_walk_159 : decode cX6_walk 159 = .ok (.return_, 1) := by decide +kernel
theorem dX6_next_0 : decode cX6_next 0 = .ok (.ldc 99, 2) := by decide +kernel
theorem dX6_next_2 : decode cX6_next 2 = .ok (.istore_n 1, 1) := by decide +kernel
theorem dX6_next_3 : decode cX6_next 3 = .ok (.iconst 0, 1) := by decide +kernel
theorem dX6_next_4 : decode cX6_next 4 = .ok (.istore_n 2, 1) := by decide +kernel
theorem dX6_next_5 : decode cX6_next 5 = .ok (.iload_n 2, 1) := by decide +kernel
theorem dX6_next_6 : decode cX6_next 6 = .ok (.aload_n 0, 1) := by decide +kernel
theorem dX6_next_7 : decode cX6_next 7 = .ok (.getfield 82, 3) := by decide +kernel
theorem dX6_next_10 : decode cX6_next 10 = .ok (.if_icmp .ge 81, 3) := by decide +kernel
theorem dX6_next_13 : decode cX6_next 13 = .ok (.aload_n 0, 1) := by decide +kernel
theorem dX6_next_14 : decode cX6_next 14 = .ok (.getfield 59, 3) := by decide +kernel
theorem dX6_next_17 : decode cX6_next 17 = .ok (.iload_n 2, 1) := by decide +kernel
theorem dX6_next_18 : decode cX6_next 18 = .ok (.iaload, 1) := by decide +kernel
theorem dX6_next_19 : decode cX6_next 19 = .ok (.aload_n 0, 1) := by decide +kernel
theorem dX6_next_20 : decode cX6_next 20 = .ok (.getfield 38, 3) := by decide +kernel
theorem dX6_next_23 : decode cX6_next 23 = .ok (.iload_n 2, 1) := by decide +kernel
theorem dX6_next_24 : decode cX6_next 24 = .ok (.iaload, 1) := by decide +kernel
theorem dX6_next_25 : decode cX6_next 25 = .ok (.if_icmp .ge 7, 3) := by decide +kernel
theorem dX6_next_28 : decode cX6_next 28 = .ok (.iconst 1, 1) := by decide +kernel
theorem dX6_next_29 : decode cX6_next 29 = .ok (.goto 4, 3) := by decide +kernel
theorem dX6_next_32 : decode cX6_next 32 = .ok (.iconst 0, 1) := by decide +kernel
theorem dX6_next_33 : decode cX6_next 33 = .ok (.istore_n 3, 1) := by decide +kernel
theorem dX6_next_34 : decode cX6_next 34 = .ok (.iload_n 3, 1) := by decide +kernel
theorem dX6_next_35 : decode cX6_next 35 = .ok (.ifCond .eq 48, 3) := by decide +kernel
theorem dX6_next_38 : decode cX6_next 38 = .ok (.iload_n 1, 1) := by decide +kernel
theorem dX6_next_39 : decode cX6_next 39 = .ok (.ldc 99, 2) := by decide +kernel
theorem dX6_next_41 : decode cX6_next 41 = .ok (.if_icmp .eq 38, 3) := by decide +kernel
theorem dX6_next_44 : decode cX6_next 44 = .ok (.aload_n 0, 1) := by decide +kernel
theorem dX6_next_45 : decode cX6_next 45 = .ok (.getfield 44, 3) := by decide +kernel
theorem dX6_next_48 : decode cX6_next 48 = .ok (.bipush 8, 2) := by decide +kernel
theorem dX6_next_50 : decode cX6_next 50 = .ok (.iload_n 2, 1) := by decide +kernel
theorem dX6_next_51 : decode cX6_next 51 = .ok (.imul, 1) := by decide +kernel
theorem dX6_next_52 : decode cX6_next 52 = .ok (.aload_n 0, 1) := by decide +kernel
theorem dX6_next_53 : decode cX6_next 53 = .ok (.getfield 59, 3) := by decide +kernel
theorem dX6_next_56 : decode cX6_next 56 = .ok (.iload_n 2, 1) := by decide +kernel
theorem dX6_next_57 : decode cX6_next 57 = .ok (.iaload, 1) := by decide +kernel
theorem dX6_next_58 : decode cX6_next 58 = .ok (.iadd, 1) := by decide +kernel
theorem dX6_next_59 : decode cX6_next 59 = .ok (.iaload, 1) := by decide +kernel
theorem dX6_next_60 : decode cX6_next 60 = .ok (.aload_n 0, 1) := by decide +kernel
theorem dX6_next_61 : decode cX6_next 61 = .ok (.getfield 44, 3) := by decide +kernel
theorem dX6_next_64 : decode cX6_next 64 = .ok (.bipush 8, 2) := by decide +kernel
theorem dX6_next_66 : decode cX6_next 66 = .ok (.iload_n 1, 1) := by decide +kernel
theorem dX6_next_67 : decode cX6_next 67 = .ok (.imul, 1) := by decide +kernel
theorem dX6_next_68 : decode cX6_next 68 = .ok (.aload_n 0, 1) := by decide +kernel
theorem dX6_next_69 : decode cX6_next 69 = .ok (.getfield 59, 3) := by decide +kernel
theorem dX6_next_72 : decode cX6_next 72 = .ok (.iload_n 1, 1) := by decide +kernel
theorem dX6_next_73 : decode cX6_next 73 = .ok (.iaload, 1) := by decide +kernel
theorem dX6_next_74 : decode cX6_next 74 = .ok (.iadd, 1) := by decide +kernel
theorem dX6_next_75 : decode cX6_next 75 = .ok (.iaload, 1) := by decide +kernel
theorem dX6_next_76 : decode cX6_next 76 = .ok (.if_icmp .ge 7, 3) := by decide +kernel
theorem dX6_next_79 : decode cX6_next 79 = .ok (.iload_n 2, 1) := by decide +kernel
theorem dX6_next_80 : decode cX6_next 80 = .ok (.goto 4, 3) := by decide +kernel
theorem dX6_next_83 : decode cX6_next 83 = .ok (.iload_n 1, 1) := by decide +kernel
theorem dX6_next_84 : decode cX6_next 84 = .ok (.istore_n 1, 1) := by decide +kernel
theorem dX6_next_85 : decode cX6_next 85 = .ok (.iinc 2 1, 3) := by decide +kernel
theorem dX6_next_88 : decode cX6_next 88 = .ok (.goto (-83), 3) := by decide +kernel
theorem dX6_next_91 : decode cX6_next 91 = .ok (.iload_n 1, 1) := by decide +kernel
theorem dX6_next_92 : decode cX6_next 92 = .ok (.ireturn, 1) := by decide +kernel
theorem dX6_hasLost_0 : decode cX6_hasLost 0 = .ok (.iconst 0, 1) := by decide +kernel
theorem dX6_hasLost_1 : decode cX6_hasLost 1 = .ok (.istore_n 2, 1) := by decide +kernel
theorem dX6_hasLost_2 : decode cX6_hasLost 2 = .ok (.iconst 0, 1) := by decide +kernel
theorem dX6_hasLost_3 : decode cX6_hasLost 3 = .ok (.istore_n 3, 1) := by decide +kernel
theorem dX6_hasLost_4 : decode cX6_hasLost 4 = .ok (.iload_n 3, 1) := by decide +kernel
theorem dX6_hasLost_5 : decode cX6_hasLost 5 = .ok (.aload_n 0, 1) := by decide +kernel
theorem dX6_hasLost_6 : decode cX6_hasLost 6 = .ok (.getfield 59, 3) := by decide +kernel
theorem dX6_hasLost_9 : decode cX6_hasLost 9 = .ok (.iload_n 1, 1) := by decide +kernel
theorem dX6_hasLost_10 : decode cX6_hasLost 10 = .ok (.iaload, 1) := by decide +kernel
theorem dX6_hasLost_11 : decode cX6_hasLost 11 = .ok (.if_icmp .ge 41, 3) := by decide +kernel
theorem dX6_hasLost_14 : decode cX6_hasLost 14 = .ok (.iload_n 2, 1) := by decide +kernel
theorem dX6_hasLost_15 : decode cX6_hasLost 15 = .ok (.ifCond .ne 25, 3) := by decide +kernel
theorem dX6_hasLost_18 : decode cX6_hasLost 18 = .ok (.aload_n 0, 1) := by decide +kernel
theorem dX6_hasLost_19 : decode cX6_hasLost 19 = .ok (.getfield 41, 3) := by decide +kernel
theorem dX6_hasLost_22 : decode cX6_hasLost 22 = .ok (.bipush 8, 2) := by decide +kernel
theorem dX6_hasLost_24 : decode cX6_hasLost 24 = .ok (.iload_n 1, 1) := by decide +kernel
theorem dX6_hasLost_25 : decode cX6_hasLost 25 = .ok (.imul, 1) := by decide +kernel
theorem dX6_hasLost_26 : decode cX6_hasLost 26 = .ok (.iload_n 3, 1) := by decide +kernel
theorem dX6_hasLost_27 : decode cX6_hasLost 27 = .ok (.iadd, 1) := by decide +kernel
theorem dX6_hasLost_28 : decode cX6_hasLost 28 = .ok (.iaload, 1) := by decide +kernel
theorem dX6_hasLost_29 : decode cX6_hasLost 29 = .ok (.aload_n 0, 1) := by decide +kernel
theorem dX6_hasLost_30 : decode cX6_hasLost 30 = .ok (.iload_n 1, 1) := by decide +kernel
theorem dX6_hasLost_31 : decode cX6_hasLost 31 = .ok (.iconst 2, 1) := by decide +kernel
theorem dX6_hasLost_32 : decode cX6_hasLost 32 = .ok (.invokevirtual 85, 3) := by decide +kernel
theorem dX6_hasLost_35 : decode cX6_hasLost 35 = .ok (.iconst 1, 1) := by decide +kernel
theorem dX6_hasLost_36 : decode cX6_hasLost 36 = .ok (.isub, 1) := by decide +kernel
theorem dX6_hasLost_37 : decode cX6_hasLost 37 = .ok (.if_icmp .ne 7, 3) := by decide +kernel
theorem dX6_hasLost_40 : decode cX6_hasLost 40 = .ok (.iconst 1, 1) := by decide +kernel
theorem dX6_hasLost_41 : decode cX6_hasLost 41 = .ok (.goto 4, 3) := by decide +kernel
theorem dX6_hasLost_44 : decode cX6_hasLost 44 = .ok (.iconst 0, 1) := by decide +kernel
theorem dX6_hasLost_45 : decode cX6_hasLost 45 = .ok (.istore_n 2, 1) := by decide +kernel
theorem dX6_hasLost_46 : decode cX6_hasLost 46 = .ok (.iinc 3 1, 3) := by decide +kernel
theorem dX6_hasLost_49 : decode cX6_hasLost 49 = .ok (.goto (-45), 3) := by decide +kernel
theorem dX6_hasLost_52 : decode cX6_hasLost 52 = .ok (.iload_n 2, 1) := by decide +kernel
theorem dX6_hasLost_53 : decode cX6_hasLost 53 = .ok (.ireturn, 1) := by decide +kernel
theorem dX6_play_0 : decode cX6_play 0 = .ok (.aload_n 0, 1) := by decide +kernel
theorem dX6_play_1 : decode cX6_play 1 = .ok (.iload_n 1, 1) := by decide +kernel
theorem dX6_play_2 : decode cX6_play 2 = .ok (.invokevirtual 100, 3) := by decide +kernel
theorem dX6_play_5 : decode cX6_play 5 = .ok (.aload_n 0, 1) := by decide +kernel
theorem dX6_play_6 : decode cX6_play 6 = .ok (.invokevirtual 104, 3) := by decide +kernel
theorem dX6_play_9 : decode cX6_play 9 = .ok (.istore_n 2, 1) := by decide +kernel
theorem dX6_play_10 : decode cX6_play 10 = .ok (.iload_n 2, 1) := by decide +kernel
theorem dX6_play_11 : decode cX6_play 11 = .ok (.ldc 99, 2) := by decide +kernel
theorem dX6_play_13 : decode cX6_play 13 = .ok (.if_icmp .eq 175, 3) := by decide +kernel
theorem dX6_play_16 : decode cX6_play 16 = .ok (.bipush 8, 2) := by decide +kernel
theorem dX6_play_18 : decode cX6_play 18 = .ok (.iload_n 2, 1) := by decide +kernel
theorem dX6_play_19 : decode cX6_play 19 = .ok (.imul, 1) := by decide +kernel
theorem dX6_play_20 : decode cX6_play 20 = .ok (.aload_n 0, 1) := by decide +kernel
theorem dX6_play_21 : decode cX6_play 21 = .ok (.getfield 59, 3) := by decide +kernel
theorem dX6_play_24 : decode cX6_play 24 = .ok (.iload_n 2, 1) := by decide +kernel
theorem dX6_play_25 : decode cX6_play 25 = .ok (.iaload, 1) := by decide +kernel
theorem dX6_play_26 : decode cX6_play 26 = .ok (.iadd, 1) := by decide +kernel
theorem dX6_play_27 : decode cX6_play 27 = .ok (.istore_n 3, 1) := by decide +kernel
theorem dX6_play_28 : decode cX6_play 28 = .ok (.aload_n 0, 1) := by decide +kernel
theorem dX6_play_29 : decode cX6_play 29 = .ok (.getfield 41, 3) := by decide +kernel
theorem dX6_play_32 : decode cX6_play 32 = .ok (.iload_n 3, 1) := by decide +kernel
theorem dX6_play_33 : decode cX6_play 33 = .ok (.iaload, 1) := by decide +kernel
theorem dX6_play_34 : decode cX6_play 34 = .ok (.istore 4, 2) := by decide +kernel
theorem dX6_play_36 : decode cX6_play 36 = .ok (.aload_n 0, 1) := by decide +kernel
theorem dX6_play_37 : decode cX6_play 37 = .ok (.iload_n 2, 1) := by decide +kernel
theorem dX6_play_38 : decode cX6_play 38 = .ok (.iconst 1, 1) := by decide +kernel
theorem dX6_play_39 : decode cX6_play 39 = .ok (.invokevirtual 85, 3) := by decide +kernel
theorem dX6_play_42 : decode cX6_play 42 = .ok (.iload 4, 2) := by decide +kernel
theorem dX6_play_44 : decode cX6_play 44 = .ok (.ishr, 1) := by decide +kernel
theorem dX6_play_45 : decode cX6_play 45 = .ok (.iconst 1, 1) := by decide +kernel
theorem dX6_play_46 : decode cX6_play 46 = .ok (.iand, 1) := by decide +kernel
theorem dX6_play_47 : decode cX6_play 47 = .ok (.iconst 1, 1) := by decide +kernel
theorem dX6_play_48 : decode cX6_play 48 = .ok (.if_icmp .ne 7, 3) := by decide +kernel
theorem dX6_play_51 : decode cX6_play 51 = .ok (.iconst 1, 1) := by decide +kernel
theorem dX6_play_52 : decode cX6_play 52 = .ok (.goto 4, 3) := by decide +kernel
theorem dX6_play_55 : decode cX6_play 55 = .ok (.iconst 0, 1) := by decide +kernel
theorem dX6_play_56 : decode cX6_play 56 = .ok (.istore 5, 2) := by decide +kernel
theorem dX6_play_58 : decode cX6_play 58 = .ok (.aload_n 0, 1) := by decide +kernel
theorem dX6_play_59 : decode cX6_play 59 = .ok (.getfield 47, 3) := by decide +kernel
theorem dX6_play_62 : decode cX6_play 62 = .ok (.iload_n 3, 1) := by decide +kernel
theorem dX6_play_63 : decode cX6_play 63 = .ok (.aload_n 0, 1) := by decide +kernel
theorem dX6_play_64 : decode cX6_play 64 = .ok (.getfield 44, 3) := by decide +kernel
theorem dX6_play_67 : decode cX6_play 67 = .ok (.iload_n 3, 1) := by decide +kernel
theorem dX6_play_68 : decode cX6_play 68 = .ok (.iaload, 1) := by decide +kernel
theorem dX6_play_69 : decode cX6_play 69 = .ok (.aload_n 0, 1) := by decide +kernel
theorem dX6_play_70 : decode cX6_play 70 = .ok (.getfield 62, 3) := by decide +kernel
theorem dX6_play_73 : decode cX6_play 73 = .ok (.iload 4, 2) := by decide +kernel
theorem dX6_play_75 : decode cX6_play 75 = .ok (.iaload, 1) := by decide +kernel
theorem dX6_play_76 : decode cX6_play 76 = .ok (.if_icmp .le 12, 3) := by decide +kernel
theorem dX6_play_79 : decode cX6_play 79 = .ok (.aload_n 0, 1) := by decide +kernel
theorem dX6_play_80 : decode cX6_play 80 = .ok (.getfield 44, 3) := by decide +kernel
theorem dX6_play_83 : decode cX6_play 83 = .ok (.iload_n 3, 1) := by decide +kernel
theorem dX6_play_84 : decode cX6_play 84 = .ok (.iaload, 1) := by decide +kernel
theorem dX6_play_85 : decode cX6_play 85 = .ok (.goto 10, 3) := by decide +kernel
theorem dX6_play_88 : decode cX6_play 88 = .ok (.aload_n 0, 1) := by decide +kernel
theorem dX6_play_89 : decode cX6_play 89 = .ok (.getfield 62, 3) := by decide +kernel
theorem dX6_play_92 : decode cX6_play 92 = .ok (.iload 4, 2) := by decide +kernel
theorem dX6_play_94 : decode cX6_play 94 = .ok (.iaload, 1) := by decide +kernel
theorem dX6_play_95 : decode cX6_play 95 = .ok (.iastore, 1) := by decide +kernel
theorem dX6_play_96 : decode cX6_play 96 = .ok (.aload_n 0, 1) := by decide +kernel
theorem dX6_play_97 : decode cX6_play 97 = .ok (.getfield 50, 3) := by decide +kernel
theorem dX6_play_100 : decode cX6_play 100 = .ok (.iload_n 3, 1) := by decide +kernel
theorem dX6_play_101 : decode cX6_play 101 = .ok (.aload_n 0, 1) := by decide +kernel
theorem dX6_play_102 : decode cX6_play 102 = .ok (.getfield 47, 3) := by decide +kernel
theorem dX6_play_105 : decode cX6_play 105 = .ok (.iload_n 3, 1) := by decide +kernel
theorem dX6_play_106 : decode cX6_play 106 = .ok (.iaload, 1) := by decide +kernel
theorem dX6_play_107 : decode cX6_play 107 = .ok (.iload 5, 2) := by decide +kernel
theorem dX6_play_109 : decode cX6_play 109 = .ok (.ifCond .eq 17, 3) := by decide +kernel
theorem dX6_play_112 : decode cX6_play 112 = .ok (.aload_n 0, 1) := by decide +kernel
theorem dX6_play_113 : decode cX6_play 113 = .ok (.iload 4, 2) := by decide +kernel
theorem dX6_play_115 : decode cX6_play 115 = .ok (.iconst 2, 1) := by decide +kernel
theorem dX6_play_116 : decode cX6_play 116 = .ok (.invokevirtual 89, 3) := by decide +kernel
theorem dX6_play_119 : decode cX6_play 119 = .ok (.iconst 1, 1) := by decide +kernel
theorem dX6_play_120 : decode cX6_play 120 = .ok (.iadd, 1) := by decide +kernel
theorem dX6_play_121 : decode cX6_play 121 = .ok (.iconst 2, 1) := by decide +kernel
theorem dX6_play_122 : decode cX6_play 122 = .ok (.idiv, 1) := by decide +kernel
theorem dX6_play_123 : decode cX6_play 123 = .ok (.goto 10, 3) := by decide +kernel
theorem dX6_play_126 : decode cX6_play 126 = .ok (.aload_n 0, 1) := by decide +kernel
theorem dX6_play_127 : decode cX6_play 127 = .ok (.iload 4, 2) := by decide +kernel
theorem dX6_play_129 : decode cX6_play 129 = .ok (.iconst 2, 1) := by decide +kernel
theorem dX6_play_130 : decode cX6_play 130 = .ok (.invokevirtual 89, 3) := by decide +kernel
theorem dX6_play_133 : decode cX6_play 133 = .ok (.iadd, 1) := by decide +kernel
theorem dX6_play_134 : decode cX6_play 134 = .ok (.iastore, 1) := by decide +kernel
theorem dX6_play_135 : decode cX6_play 135 = .ok (.aload_n 0, 1) := by decide +kernel
theorem dX6_play_136 : decode cX6_play 136 = .ok (.getfield 62, 3) := by decide +kernel
theorem dX6_play_139 : decode cX6_play 139 = .ok (.iload 4, 2) := by decide +kernel
theorem dX6_play_141 : decode cX6_play 141 = .ok (.aload_n 0, 1) := by decide +kernel
theorem dX6_play_142 : decode cX6_play 142 = .ok (.getfield 50, 3) := by decide +kernel
theorem dX6_play_145 : decode cX6_play 145 = .ok (.iload_n 3, 1) := by decide +kernel
theorem dX6_play_146 : decode cX6_play 146 = .ok (.iaload, 1) := by decide +kernel
theorem dX6_play_147 : decode cX6_play 147 = .ok (.iastore, 1) := by decide +kernel
theorem dX6_play_148 : decode cX6_play 148 = .ok (.aload_n 0, 1) := by decide +kernel
theorem dX6_play_149 : decode cX6_play 149 = .ok (.getfield 56, 3) := by decide +kernel
theorem dX6_play_152 : decode cX6_play 152 = .ok (.iload_n 2, 1) := by decide +kernel
theorem dX6_play_153 : decode cX6_play 153 = .ok (.aload_n 0, 1) := by decide +kernel
theorem dX6_play_154 : decode cX6_play 154 = .ok (.getfield 50, 3) := by decide +kernel
theorem dX6_play_157 : decode cX6_play 157 = .ok (.iload_n 3, 1) := by decide +kernel
theorem dX6_play_158 : decode cX6_play 158 = .ok (.iaload, 1) := by decide +kernel
theorem dX6_play_159 : decode cX6_play 159 = .ok (.iastore, 1) := by decide +kernel
theorem dX6_play_160 : decode cX6_play 160 = .ok (.aload_n 0, 1) := by decide +kernel
theorem dX6_play_161 : decode cX6_play 161 = .ok (.getfield 59, 3) := by decide +kernel
theorem dX6_play_164 : decode cX6_play 164 = .ok (.iload_n 2, 1) := by decide +kernel
theorem dX6_play_165 : decode cX6_play 165 = .ok (.dup2, 1) := by decide +kernel
theorem dX6_play_166 : decode cX6_play 166 = .ok (.iaload, 1) := by decide +kernel
theorem dX6_play_167 : decode cX6_play 167 = .ok (.iconst 1, 1) := by decide +kernel
theorem dX6_play_168 : decode cX6_play 168 = .ok (.iadd, 1) := by decide +kernel
theorem dX6_play_169 : decode cX6_play 169 = .ok (.iastore, 1) := by decide +kernel
theorem dX6_play_170 : decode cX6_play 170 = .ok (.aload_n 0, 1) := by decide +kernel
theorem dX6_play_171 : decode cX6_play 171 = .ok (.iload_n 2, 1) := by decide +kernel
theorem dX6_play_172 : decode cX6_play 172 = .ok (.aload_n 0, 1) := by decide +kernel
theorem dX6_play_173 : decode cX6_play 173 = .ok (.iload_n 2, 1) := by decide +kernel
theorem dX6_play_174 : decode cX6_play 174 = .ok (.invokevirtual 108, 3) := by decide +kernel
theorem dX6_play_177 : decode cX6_play 177 = .ok (.invokevirtual 92, 3) := by decide +kernel
theorem dX6_play_180 : decode cX6_play 180 = .ok (.aload_n 0, 1) := by decide +kernel
theorem dX6_play_181 : decode cX6_play 181 = .ok (.invokevirtual 104, 3) := by decide +kernel
theorem dX6_play_184 : decode cX6_play 184 = .ok (.istore_n 2, 1) := by decide +kernel
theorem dX6_play_185 : decode cX6_play 185 = .ok (.goto (-175), 3) := by decide +kernel
theorem dX6_play_188 : decode cX6_play 188 = .ok (.return_, 1) := by decide +kernel
theorem dX6_playAll_0 : decode cX6_playAll 0 = .ok (.aload_n 0, 1) := by decide +kernel
theorem dX6_playAll_1 : decode cX6_playAll 1 = .ok (.aload_n 0, 1) := by decide +kernel
theorem dX6_playAll_2 : decode cX6_playAll 2 = .ok (.getfield 7, 3) := by decide +kernel
theorem dX6_playAll_5 : decode cX6_playAll 5 = .ok (.iconst 3, 1) := by decide +kernel
theorem dX6_playAll_6 : decode cX6_playAll 6 = .ok (.iaload, 1) := by decide +kernel
theorem dX6_playAll_7 : decode cX6_playAll 7 = .ok (.invokevirtual 112, 3) := by decide +kernel
theorem dX6_playAll_10 : decode cX6_playAll 10 = .ok (.return_, 1) := by decide +kernel
theorem dX6_visitTo_0 : decode cX6_visitTo 0 = .ok (.bipush 8, 2) := by decide +kernel
theorem dX6_visitTo_2 : decode cX6_visitTo 2 = .ok (.iload_n 1, 1) := by decide +kernel
theorem dX6_visitTo_3 : decode cX6_visitTo 3 = .ok (.imul, 1) := by decide +kernel
theorem dX6_visitTo_4 : decode cX6_visitTo 4 = .ok (.istore_n 3, 1) := by decide +kernel
theorem dX6_visitTo_5 : decode cX6_visitTo 5 = .ok (.iload_n 3, 1) := by decide +kernel
theorem dX6_visitTo_6 : decode cX6_visitTo 6 = .ok (.bipush 8, 2) := by decide +kernel
theorem dX6_visitTo_8 : decode cX6_visitTo 8 = .ok (.iload_n 1, 1) := by decide +kernel
theorem dX6_visitTo_9 : decode cX6_visitTo 9 = .ok (.imul, 1) := by decide +kernel
theorem dX6_visitTo_10 : decode cX6_visitTo 10 = .ok (.aload_n 0, 1) := by decide +kernel
theorem dX6_visitTo_11 : decode cX6_visitTo 11 = .ok (.getfield 38, 3) := by decide +kernel
theorem dX6_visitTo_14 : decode cX6_visitTo 14 = .ok (.iload_n 1, 1) := by decide +kernel
theorem dX6_visitTo_15 : decode cX6_visitTo 15 = .ok (.iaload, 1) := by decide +kernel
theorem dX6_visitTo_16 : decode cX6_visitTo 16 = .ok (.iadd, 1) := by decide +kernel
theorem dX6_visitTo_17 : decode cX6_visitTo 17 = .ok (.if_icmp .ge 21, 3) := by decide +kernel
theorem dX6_visitTo_20 : decode cX6_visitTo 20 = .ok (.aload_n 0, 1) := by decide +kernel
theorem dX6_visitTo_21 : decode cX6_visitTo 21 = .ok (.getfield 41, 3) := by decide +kernel
theorem dX6_visitTo_24 : decode cX6_visitTo 24 = .ok (.iload_n 3, 1) := by decide +kernel
theorem dX6_visitTo_25 : decode cX6_visitTo 25 = .ok (.iaload, 1) := by decide +kernel
theorem dX6_visitTo_26 : decode cX6_visitTo 26 = .ok (.iload_n 2, 1) := by decide +kernel
theorem dX6_visitTo_27 : decode cX6_visitTo 27 = .ok (.if_icmp .ne 5, 3) := by decide +kernel
theorem dX6_visitTo_30 : decode cX6_visitTo 30 = .ok (.iload_n 3, 1) := by decide +kernel
theorem dX6_visitTo_31 : decode cX6_visitTo 31 = .ok (.ireturn, 1) := by decide +kernel
theorem dX6_visitTo_32 : decode cX6_visitTo 32 = .ok (.iinc 3 1, 3) := by decide +kernel
theorem dX6_visitTo_35 : decode cX6_visitTo 35 = .ok (.goto (-30), 3) := by decide +kernel
theorem dX6_visitTo_38 : decode cX6_visitTo 38 = .ok (.ldc 99, 2) := by decide +kernel
theorem dX6_visitTo_40 : decode cX6_visitTo 40 = .ok (.ireturn, 1) := by decide +kernel
theorem dX6_meetAt_0 : decode cX6_meetAt 0 = .ok (.aload_n 0, 1) := by decide +kernel
theorem dX6_meetAt_1 : decode cX6_meetAt 1 = .ok (.iload_n 1, 1) := by decide +kernel
theorem dX6_meetAt_2 : decode cX6_meetAt 2 = .ok (.iload_n 3, 1) := by decide +kernel
theorem dX6_meetAt_3 : decode cX6_meetAt 3 = .ok (.invokevirtual 115, 3) := by decide +kernel
theorem dX6_meetAt_6 : decode cX6_meetAt 6 = .ok (.istore 4, 2) := by decide +kernel
theorem dX6_meetAt_8 : decode cX6_meetAt 8 = .ok (.aload_n 0, 1) := by decide +kernel
theorem dX6_meetAt_9 : decode cX6_meetAt 9 = .ok (.iload_n 2, 1) := by decide +kernel
theorem dX6_meetAt_10 : decode cX6_meetAt 10 = .ok (.iload_n 3, 1) := by decide +kernel
theorem dX6_meetAt_11 : decode cX6_meetAt 11 = .ok (.invokevirtual 115, 3) := by decide +kernel
theorem dX6_meetAt_14 : decode cX6_meetAt 14 = .ok (.istore 5, 2) := by decide +kernel
theorem dX6_meetAt_16 : decode cX6_meetAt 16 = .ok (.iload 4, 2) := by decide +kernel
theorem dX6_meetAt_18 : decode cX6_meetAt 18 = .ok (.ldc 99, 2) := by decide +kernel
theorem dX6_meetAt_20 : decode cX6_meetAt 20 = .ok (.if_icmp .eq 48, 3) := by decide +kernel
theorem dX6_meetAt_23 : decode cX6_meetAt 23 = .ok (.iload 5, 2) := by decide +kernel
theorem dX6_meetAt_25 : decode cX6_meetAt 25 = .ok (.ldc 99, 2) := by decide +kernel
theorem dX6_meetAt_27 : decode cX6_meetAt 27 = .ok (.if_icmp .eq 41, 3) := by decide +kernel
theorem dX6_meetAt_30 : decode cX6_meetAt 30 = .ok (.aload_n 0, 1) := by decide +kernel
theorem dX6_meetAt_31 : decode cX6_meetAt 31 = .ok (.getfield 44, 3) := by decide +kernel
theorem dX6_meetAt_34 : decode cX6_meetAt 34 = .ok (.iload 4, 2) := by decide +kernel
theorem dX6_meetAt_36 : decode cX6_meetAt 36 = .ok (.iaload, 1) := by decide +kernel
theorem dX6_meetAt_37 : decode cX6_meetAt 37 = .ok (.aload_n 0, 1) := by decide +kernel
theorem dX6_meetAt_38 : decode cX6_meetAt 38 = .ok (.getfield 50, 3) := by decide +kernel
theorem dX6_meetAt_41 : decode cX6_meetAt 41 = .ok (.iload 5, 2) := by decide +kernel
theorem dX6_meetAt_43 : decode cX6_meetAt 43 = .ok (.iaload, 1) := by decide +kernel
theorem dX6_meetAt_44 : decode cX6_meetAt 44 = .ok (.if_icmp .gt 24, 3) := by decide +kernel
theorem dX6_meetAt_47 : decode cX6_meetAt 47 = .ok (.aload_n 0, 1) := by decide +kernel
theorem dX6_meetAt_48 : decode cX6_meetAt 48 = .ok (.getfield 44, 3) := by decide +kernel
theorem dX6_meetAt_51 : decode cX6_meetAt 51 = .ok (.iload 5, 2) := by decide +kernel
theorem dX6_meetAt_53 : decode cX6_meetAt 53 = .ok (.iaload, 1) := by decide +kernel
theorem dX6_meetAt_54 : decode cX6_meetAt 54 = .ok (.aload_n 0, 1) := by decide +kernel
theorem dX6_meetAt_55 : decode cX6_meetAt 55 = .ok (.getfield 50, 3) := by decide +kernel
theorem dX6_meetAt_58 : decode cX6_meetAt 58 = .ok (.iload 4, 2) := by decide +kernel
theorem dX6_meetAt_60 : decode cX6_meetAt 60 = .ok (.iaload, 1) := by decide +kernel
theorem dX6_meetAt_61 : decode cX6_meetAt 61 = .ok (.if_icmp .gt 7, 3) := by decide +kernel
theorem dX6_meetAt_64 : decode cX6_meetAt 64 = .ok (.iconst 1, 1) := by decide +kernel
theorem dX6_meetAt_65 : decode cX6_meetAt 65 = .ok (.goto 4, 3) := by decide +kernel
theorem dX6_meetAt_68 : decode cX6_meetAt 68 = .ok (.iconst 0, 1) := by decide +kernel
theorem dX6_meetAt_69 : decode cX6_meetAt 69 = .ok (.ireturn, 1) := by decide +kernel
theorem dX6_meet_0 : decode cX6_meet 0 = .ok (.iconst 0, 1) := by decide +kernel
theorem dX6_meet_1 : decode cX6_meet 1 = .ok (.istore_n 3, 1) := by decide +kernel
theorem dX6_meet_2 : decode cX6_meet 2 = .ok (.iconst 0, 1) := by decide +kernel
theorem dX6_meet_3 : decode cX6_meet 3 = .ok (.istore 4, 2) := by decide +kernel
theorem dX6_meet_5 : decode cX6_meet 5 = .ok (.iload 4, 2) := by decide +kernel
theorem dX6_meet_7 : decode cX6_meet 7 = .ok (.bipush 8, 2) := by decide +kernel
theorem dX6_meet_9 : decode cX6_meet 9 = .ok (.if_icmp .ge 30, 3) := by decide +kernel
theorem dX6_meet_12 : decode cX6_meet 12 = .ok (.iload_n 3, 1) := by decide +kernel
theorem dX6_meet_13 : decode cX6_meet 13 = .ok (.ifCond .ne 14, 3) := by decide +kernel
theorem dX6_meet_16 : decode cX6_meet 16 = .ok (.aload_n 0, 1) := by decide +kernel
theorem dX6_meet_17 : decode cX6_meet 17 = .ok (.iload_n 1, 1) := by decide +kernel
theorem dX6_meet_18 : decode cX6_meet 18 = .ok (.iload_n 2, 1) := by decide +kernel
theorem dX6_meet_19 : decode cX6_meet 19 = .ok (.iload 4, 2) := by decide +kernel
theorem dX6_meet_21 : decode cX6_meet 21 = .ok (.invokevirtual 118, 3) := by decide +kernel
theorem dX6_meet_24 : decode cX6_meet 24 = .ok (.ifCond .eq 7, 3) := by decide +kernel
theorem dX6_meet_27 : decode cX6_meet 27 = .ok (.iconst 1, 1) := by decide +kernel
theorem dX6_meet_28 : decode cX6_meet 28 = .ok (.goto 4, 3) := by decide +kernel
theorem dX6_meet_31 : decode cX6_meet 31 = .ok (.iconst 0, 1) := by decide +kernel
theorem dX6_meet_32 : decode cX6_meet 32 = .ok (.istore_n 3, 1) := by decide +kernel
theorem dX6_meet_33 : decode cX6_meet 33 = .ok (.iinc 4 1, 3) := by decide +kernel
theorem dX6_meet_36 : decode cX6_meet 36 = .ok (.goto (-31), 3) := by decide +kernel
theorem dX6_meet_39 : decode cX6_meet 39 = .ok (.iload_n 3, 1) := by decide +kernel
theorem dX6_meet_40 : decode cX6_meet 40 = .ok (.ireturn, 1) := by decide +kernel
theorem dX6_met_0 : decode cX6_met 0 = .ok (.iconst 0, 1) := by decide +kernel
theorem dX6_met_1 : decode cX6_met 1 = .ok (.istore_n 2, 1) := by decide +kernel
theorem dX6_met_2 : decode cX6_met 2 = .ok (.iconst 0, 1) := by decide +kernel
theorem dX6_met_3 : decode cX6_met 3 = .ok (.istore_n 3, 1) := by decide +kernel
theorem dX6_met_4 : decode cX6_met 4 = .ok (.iload_n 3, 1) := by decide +kernel
theorem dX6_met_5 : decode cX6_met 5 = .ok (.aload_n 0, 1) := by decide +kernel
theorem dX6_met_6 : decode cX6_met 6 = .ok (.getfield 82, 3) := by decide +kernel
theorem dX6_met_9 : decode cX6_met 9 = .ok (.if_icmp .ge 33, 3) := by decide +kernel
theorem dX6_met_12 : decode cX6_met 12 = .ok (.iload_n 2, 1) := by decide +kernel
theorem dX6_met_13 : decode cX6_met 13 = .ok (.iload_n 3, 1) := by decide +kernel
theorem dX6_met_14 : decode cX6_met 14 = .ok (.iload_n 1, 1) := by decide +kernel
theorem dX6_met_15 : decode cX6_met 15 = .ok (.if_icmp .eq 18, 3) := by decide +kernel
theorem dX6_met_18 : decode cX6_met 18 = .ok (.aload_n 0, 1) := by decide +kernel
theorem dX6_met_19 : decode cX6_met 19 = .ok (.iload_n 1, 1) := by decide +kernel
theorem dX6_met_20 : decode cX6_met 20 = .ok (.iload_n 3, 1) := by decide +kernel
theorem dX6_met_21 : decode cX6_met 21 = .ok (.invokevirtual 122, 3) := by decide +kernel
theorem dX6_met_24 : decode cX6_met 24 = .ok (.ifCond .eq 9, 3) := by decide +kernel
theorem dX6_met_27 : decode cX6_met 27 = .ok (.iconst 1, 1) := by decide +kernel
theorem dX6_met_28 : decode cX6_met 28 = .ok (.iload_n 3, 1) := by decide +kernel
theorem dX6_met_29 : decode cX6_met 29 = .ok (.ishl, 1) := by decide +kernel
theorem dX6_met_30 : decode cX6_met 30 = .ok (.goto 4, 3) := by decide +kernel
theorem dX6_met_33 : decode cX6_met 33 = .ok (.iconst 0, 1) := by decide +kernel
theorem dX6_met_34 : decode cX6_met 34 = .ok (.ior, 1) := by decide +kernel
theorem dX6_met_35 : decode cX6_met 35 = .ok (.istore_n 2, 1) := by decide +kernel
theorem dX6_met_36 : decode cX6_met 36 = .ok (.iinc 3 1, 3) := by decide +kernel
theorem dX6_met_39 : decode cX6_met 39 = .ok (.goto (-35), 3) := by decide +kernel
theorem dX6_met_42 : decode cX6_met 42 = .ok (.iload_n 2, 1) := by decide +kernel
theorem dX6_met_43 : decode cX6_met 43 = .ok (.ireturn, 1) := by decide +kernel
theorem dX6_pairs_0 : decode cX6_pairs 0 = .ok (.iconst 0, 1) := by decide +kernel
theorem dX6_pairs_1 : decode cX6_pairs 1 = .ok (.istore_n 1, 1) := by decide +kernel
theorem dX6_pairs_2 : decode cX6_pairs 2 = .ok (.iconst 0, 1) := by decide +kernel
theorem dX6_pairs_3 : decode cX6_pairs 3 = .ok (.istore_n 2, 1) := by decide +kernel
theorem dX6_pairs_4 : decode cX6_pairs 4 = .ok (.iload_n 2, 1) := by decide +kernel
theorem dX6_pairs_5 : decode cX6_pairs 5 = .ok (.aload_n 0, 1) := by decide +kernel
theorem dX6_pairs_6 : decode cX6_pairs 6 = .ok (.getfield 82, 3) := by decide +kernel
theorem dX6_pairs_9 : decode cX6_pairs 9 = .ok (.if_icmp .ge 39, 3) := by decide +kernel
theorem dX6_pairs_12 : decode cX6_pairs 12 = .ok (.iconst 0, 1) := by decide +kernel
theorem dX6_pairs_13 : decode cX6_pairs 13 = .ok (.istore_n 3, 1) := by decide +kernel
theorem dX6_pairs_14 : decode cX6_pairs 14 = .ok (.iload_n 3, 1) := by decide +kernel
theorem dX6_pairs_15 : decode cX6_pairs 15 = .ok (.iload_n 2, 1) := by decide +kernel
theorem dX6_pairs_16 : decode cX6_pairs 16 = .ok (.if_icmp .ge 26, 3) := by decide +kernel
theorem dX6_pairs_19 : decode cX6_pairs 19 = .ok (.iload_n 1, 1) := by decide +kernel
theorem dX6_pairs_20 : decode cX6_pairs 20 = .ok (.aload_n 0, 1) := by decide +kernel
theorem dX6_pairs_21 : decode cX6_pairs 21 = .ok (.iload_n 2, 1) := by decide +kernel
theorem dX6_pairs_22 : decode cX6_pairs 22 = .ok (.iload_n 3, 1) := by decide +kernel
theorem dX6_pairs_23 : decode cX6_pairs 23 = .ok (.invokevirtual 122, 3) := by decide +kernel
theorem dX6_pairs_26 : decode cX6_pairs 26 = .ok (.ifCond .eq 7, 3) := by decide +kernel
theorem dX6_pairs_29 : decode cX6_pairs 29 = .ok (.iconst 1, 1) := by decide +kernel
theorem dX6_pairs_30 : decode cX6_pairs 30 = .ok (.goto 4, 3) := by decide +kernel
theorem dX6_pairs_33 : decode cX6_pairs 33 = .ok (.iconst 0, 1) := by decide +kernel
theorem dX6_pairs_34 : decode cX6_pairs 34 = .ok (.iadd, 1) := by decide +kernel
theorem dX6_pairs_35 : decode cX6_pairs 35 = .ok (.istore_n 1, 1) := by decide +kernel
theorem dX6_pairs_36 : decode cX6_pairs 36 = .ok (.iinc 3 1, 3) := by decide +kernel
theorem dX6_pairs_39 : decode cX6_pairs 39 = .ok (.goto (-25), 3) := by decide +kernel
theorem dX6_pairs_42 : decode cX6_pairs 42 = .ok (.iinc 2 1, 3) := by decide +kernel
theorem dX6_pairs_45 : decode cX6_pairs 45 = .ok (.goto (-41), 3) := by decide +kernel
theorem dX6_pairs_48 : decode cX6_pairs 48 = .ok (.iload_n 1, 1) := by decide +kernel
theorem dX6_pairs_49 : decode cX6_pairs 49 = .ok (.ireturn, 1) := by decide +kernel
theorem dX6_queued_0 : decode cX6_queued 0 = .ok (.iconst 0, 1) := by decide +kernel
theorem dX6_queued_1 : decode cX6_queued 1 = .ok (.istore_n 2, 1) := by decide +kernel
theorem dX6_queued_2 : decode cX6_queued 2 = .ok (.bipush 8, 2) := by decide +kernel
theorem dX6_queued_4 : decode cX6_queued 4 = .ok (.iload_n 1, 1) := by decide +kernel
theorem dX6_queued_5 : decode cX6_queued 5 = .ok (.imul, 1) := by decide +kernel
theorem dX6_queued_6 : decode cX6_queued 6 = .ok (.istore_n 3, 1) := by decide +kernel
theorem dX6_queued_7 : decode cX6_queued 7 = .ok (.iload_n 3, 1) := by decide +kernel
theorem dX6_queued_8 : decode cX6_queued 8 = .ok (.bipush 8, 2) := by decide +kernel
theorem dX6_queued_10 : decode cX6_queued 10 = .ok (.iload_n 1, 1) := by decide +kernel
theorem dX6_queued_11 : decode cX6_queued 11 = .ok (.imul, 1) := by decide +kernel
theorem dX6_queued_12 : decode cX6_queued 12 = .ok (.aload_n 0, 1) := by decide +kernel
theorem dX6_queued_13 : decode cX6_queued 13 = .ok (.getfield 38, 3) := by decide +kernel
theorem dX6_queued_16 : decode cX6_queued 16 = .ok (.iload_n 1, 1) := by decide +kernel
theorem dX6_queued_17 : decode cX6_queued 17 = .ok (.iaload, 1) := by decide +kernel
theorem dX6_queued_18 : decode cX6_queued 18 = .ok (.iadd, 1) := by decide +kernel
theorem dX6_queued_19 : decode cX6_queued 19 = .ok (.if_icmp .ge 25, 3) := by decide +kernel
theorem dX6_queued_22 : decode cX6_queued 22 = .ok (.iload_n 2, 1) := by decide +kernel
theorem dX6_queued_23 : decode cX6_queued 23 = .ok (.aload_n 0, 1) := by decide +kernel
theorem dX6_queued_24 : decode cX6_queued 24 = .ok (.getfield 47, 3) := by decide +kernel
theorem dX6_queued_27 : decode cX6_queued 27 = .ok (.iload_n 3, 1) := by decide +kernel
theorem dX6_queued_28 : decode cX6_queued 28 = .ok (.iaload, 1) := by decide +kernel
theorem dX6_queued_29 : decode cX6_queued 29 = .ok (.aload_n 0, 1) := by decide +kernel
theorem dX6_queued_30 : decode cX6_queued 30 = .ok (.getfield 44, 3) := by decide +kernel
theorem dX6_queued_33 : decode cX6_queued 33 = .ok (.iload_n 3, 1) := by decide +kernel
theorem dX6_queued_34 : decode cX6_queued 34 = .ok (.iaload, 1) := by decide +kernel
theorem dX6_queued_35 : decode cX6_queued 35 = .ok (.isub, 1) := by decide +kernel
theorem dX6_queued_36 : decode cX6_queued 36 = .ok (.iadd, 1) := by decide +kernel
theorem dX6_queued_37 : decode cX6_queued 37 = .ok (.istore_n 2, 1) := by decide +kernel
theorem dX6_queued_38 : decode cX6_queued 38 = .ok (.iinc 3 1, 3) := by decide +kernel
theorem dX6_queued_41 : decode cX6_queued 41 = .ok (.goto (-34), 3) := by decide +kernel
theorem dX6_queued_44 : decode cX6_queued 44 = .ok (.iload_n 2, 1) := by decide +kernel
theorem dX6_queued_45 : decode cX6_queued 45 = .ok (.ireturn, 1) := by decide +kernel
theorem dX6_allQueued_0 : decode cX6_allQueued 0 = .ok (.iconst 0, 1) := by decide +kernel
theorem dX6_allQueued_1 : decode cX6_allQueued 1 = .ok (.istore_n 1, 1) := by decide +kernel
theorem dX6_allQueued_2 : decode cX6_allQueued 2 = .ok (.iconst 0, 1) := by decide +kernel
theorem dX6_allQueued_3 : decode cX6_allQueued 3 = .ok (.istore_n 2, 1) := by decide +kernel
theorem dX6_allQueued_4 : decode cX6_allQueued 4 = .ok (.iload_n 2, 1) := by decide +kernel
theorem dX6_allQueued_5 : decode cX6_allQueued 5 = .ok (.aload_n 0, 1) := by decide +kernel
theorem dX6_allQueued_6 : decode cX6_allQueued 6 = .ok (.getfield 82, 3) := by decide +kernel
theorem dX6_allQueued_9 : decode cX6_allQueued 9 = .ok (.if_icmp .ge 17, 3) := by decide +kernel
theorem dX6_allQueued_12 : decode cX6_allQueued 12 = .ok (.iload_n 1, 1) := by decide +kernel
theorem dX6_allQueued_13 : decode cX6_allQueued 13 = .ok (.aload_n 0, 1) := by decide +kernel
theorem dX6_allQueued_14 : decode cX6_allQueued 14 = .ok (.iload_n 2, 1) := by decide +kernel
theorem dX6_allQueued_15 : decode cX6_allQueued 15 = .ok (.invokevirtual 126, 3) := by decide +kernel
theorem dX6_allQueued_18 : decode cX6_allQueued 18 = .ok (.iadd, 1) := by decide +kernel
theorem dX6_allQueued_19 : decode cX6_allQueued 19 = .ok (.istore_n 1, 1) := by decide +kernel
theorem dX6_allQueued_20 : decode cX6_allQueued 20 = .ok (.iinc 2 1, 3) := by decide +kernel
theorem dX6_allQueued_23 : decode cX6_allQueued 23 = .ok (.goto (-19), 3) := by decide +kernel
theorem dX6_allQueued_26 : decode cX6_allQueued 26 = .ok (.iload_n 1, 1) := by decide +kernel
theorem dX6_allQueued_27 : decode cX6_allQueued 27 = .ok (.ireturn, 1) := by decide +kernel
theorem dX6_hinted_0 : decode cX6_hinted 0 = .ok (.iconst 0, 1) := by decide +kernel
theorem dX6_hinted_1 : decode cX6_hinted 1 = .ok (.istore_n 2, 1) := by decide +kernel
theorem dX6_hinted_2 : decode cX6_hinted 2 = .ok (.bipush 8, 2) := by decide +kernel
theorem dX6_hinted_4 : decode cX6_hinted 4 = .ok (.iload_n 1, 1) := by decide +kernel
theorem dX6_hinted_5 : decode cX6_hinted 5 = .ok (.imul, 1) := by decide +kernel
theorem dX6_hinted_6 : decode cX6_hinted 6 = .ok (.istore_n 3, 1) := by decide +kernel
theorem dX6_hinted_7 : decode cX6_hinted 7 = .ok (.iload_n 3, 1) := by decide +kernel
theorem dX6_hinted_8 : decode cX6_hinted 8 = .ok (.bipush 8, 2) := by decide +kernel
theorem dX6_hinted_10 : decode cX6_hinted 10 = .ok (.iload_n 1, 1) := by decide +kernel
theorem dX6_hinted_11 : decode cX6_hinted 11 = .ok (.imul, 1) := by decide +kernel
theorem dX6_hinted_12 : decode cX6_hinted 12 = .ok (.aload_n 0, 1) := by decide +kernel
theorem dX6_hinted_13 : decode cX6_hinted 13 = .ok (.getfield 38, 3) := by decide +kernel
theorem dX6_hinted_16 : decode cX6_hinted 16 = .ok (.iload_n 1, 1) := by decide +kernel
theorem dX6_hinted_17 : decode cX6_hinted 17 = .ok (.iaload, 1) := by decide +kernel
theorem dX6_hinted_18 : decode cX6_hinted 18 = .ok (.iadd, 1) := by decide +kernel
theorem dX6_hinted_19 : decode cX6_hinted 19 = .ok (.if_icmp .ge 27, 3) := by decide +kernel
theorem dX6_hinted_22 : decode cX6_hinted 22 = .ok (.iload_n 2, 1) := by decide +kernel
theorem dX6_hinted_23 : decode cX6_hinted 23 = .ok (.aload_n 0, 1) := by decide +kernel
theorem dX6_hinted_24 : decode cX6_hinted 24 = .ok (.iload_n 1, 1) := by decide +kernel
theorem dX6_hinted_25 : decode cX6_hinted 25 = .ok (.iconst 1, 1) := by decide +kernel
theorem dX6_hinted_26 : decode cX6_hinted 26 = .ok (.invokevirtual 85, 3) := by decide +kernel
theorem dX6_hinted_29 : decode cX6_hinted 29 = .ok (.aload_n 0, 1) := by decide +kernel
theorem dX6_hinted_30 : decode cX6_hinted 30 = .ok (.getfield 41, 3) := by decide +kernel
theorem dX6_hinted_33 : decode cX6_hinted 33 = .ok (.iload_n 3, 1) := by decide +kernel
theorem dX6_hinted_34 : decode cX6_hinted 34 = .ok (.iaload, 1) := by decide +kernel
theorem dX6_hinted_35 : decode cX6_hinted 35 = .ok (.ishr, 1) := by decide +kernel
theorem dX6_hinted_36 : decode cX6_hinted 36 = .ok (.iconst 1, 1) := by decide +kernel
theorem dX6_hinted_37 : decode cX6_hinted 37 = .ok (.iand, 1) := by decide +kernel
theorem dX6_hinted_38 : decode cX6_hinted 38 = .ok (.iadd, 1) := by decide +kernel
theorem dX6_hinted_39 : decode cX6_hinted 39 = .ok (.istore_n 2, 1) := by decide +kernel
theorem dX6_hinted_40 : decode cX6_hinted 40 = .ok (.iinc 3 1, 3) := by decide +kernel
theorem dX6_hinted_43 : decode cX6_hinted 43 = .ok (.goto (-36), 3) := by decide +kernel
theorem dX6_hinted_46 : decode cX6_hinted 46 = .ok (.iload_n 2, 1) := by decide +kernel
theorem dX6_hinted_47 : decode cX6_hinted 47 = .ok (.ireturn, 1) := by decide +kernel
theorem dX6_points_0 : decode cX6_points 0 = .ok (.aload_n 0, 1) := by decide +kernel
theorem dX6_points_1 : decode cX6_points 1 = .ok (.getfield 7, 3) := by decide +kernel
theorem dX6_points_4 : decode cX6_points 4 = .ok (.iconst 1, 1) := by decide +kernel
theorem dX6_points_5 : decode cX6_points 5 = .ok (.iaload, 1) := by decide +kernel
theorem dX6_points_6 : decode cX6_points 6 = .ok (.aload_n 0, 1) := by decide +kernel
theorem dX6_points_7 : decode cX6_points 7 = .ok (.getfield 38, 3) := by decide +kernel
theorem dX6_points_10 : decode cX6_points 10 = .ok (.iload_n 1, 1) := by decide +kernel
theorem dX6_points_11 : decode cX6_points 11 = .ok (.iaload, 1) := by decide +kernel
theorem dX6_points_12 : decode cX6_points 12 = .ok (.imul, 1) := by decide +kernel
theorem dX6_points_13 : decode cX6_points 13 = .ok (.aload_n 0, 1) := by decide +kernel
theorem dX6_points_14 : decode cX6_points 14 = .ok (.getfield 7, 3) := by decide +kernel
theorem dX6_points_17 : decode cX6_points 17 = .ok (.iconst 0, 1) := by decide +kernel
theorem dX6_points_18 : decode cX6_points 18 = .ok (.iaload, 1) := by decide +kernel
theorem dX6_points_19 : decode cX6_points 19 = .ok (.aload_n 0, 1) := by decide +kernel
theorem dX6_points_20 : decode cX6_points 20 = .ok (.iload_n 1, 1) := by decide +kernel
theorem dX6_points_21 : decode cX6_points 21 = .ok (.invokevirtual 129, 3) := by decide +kernel
theorem dX6_points_24 : decode cX6_points 24 = .ok (.imul, 1) := by decide +kernel
theorem dX6_points_25 : decode cX6_points 25 = .ok (.isub, 1) := by decide +kernel
theorem dX6_points_26 : decode cX6_points 26 = .ok (.aload_n 0, 1) := by decide +kernel
theorem dX6_points_27 : decode cX6_points 27 = .ok (.getfield 56, 3) := by decide +kernel
theorem dX6_points_30 : decode cX6_points 30 = .ok (.iload_n 1, 1) := by decide +kernel
theorem dX6_points_31 : decode cX6_points 31 = .ok (.iaload, 1) := by decide +kernel
theorem dX6_points_32 : decode cX6_points 32 = .ok (.isub, 1) := by decide +kernel
theorem dX6_points_33 : decode cX6_points 33 = .ok (.ireturn, 1) := by decide +kernel
theorem dX6_isAhead_0 : decode cX6_isAhead 0 = .ok (.aload_n 0, 1) := by decide +kernel
theorem dX6_isAhead_1 : decode cX6_isAhead 1 = .ok (.iload_n 1, 1) := by decide +kernel
theorem dX6_isAhead_2 : decode cX6_isAhead 2 = .ok (.invokevirtual 132, 3) := by decide +kernel
theorem dX6_isAhead_5 : decode cX6_isAhead 5 = .ok (.aload_n 0, 1) := by decide +kernel
theorem dX6_isAhead_6 : decode cX6_isAhead 6 = .ok (.iload_n 2, 1) := by decide +kernel
theorem dX6_isAhead_7 : decode cX6_isAhead 7 = .ok (.invokevirtual 132, 3) := by decide +kernel
theorem dX6_isAhead_10 : decode cX6_isAhead 10 = .ok (.isub, 1) := by decide +kernel
theorem dX6_isAhead_11 : decode cX6_isAhead 11 = .ok (.istore_n 3, 1) := by decide +kernel
theorem dX6_isAhead_12 : decode cX6_isAhead 12 = .ok (.iload_n 3, 1) := by decide +kernel
theorem dX6_isAhead_13 : decode cX6_isAhead 13 = .ok (.ifCond .gt 42, 3) := by decide +kernel
theorem dX6_isAhead_16 : decode cX6_isAhead 16 = .ok (.iload_n 3, 1) := by decide +kernel
theorem dX6_isAhead_17 : decode cX6_isAhead 17 = .ok (.ifCond .ne 42, 3) := by decide +kernel
theorem dX6_isAhead_20 : decode cX6_isAhead 20 = .ok (.aload_n 0, 1) := by decide +kernel
theorem dX6_isAhead_21 : decode cX6_isAhead 21 = .ok (.getfield 56, 3) := by decide +kernel
theorem dX6_isAhead_24 : decode cX6_isAhead 24 = .ok (.iload_n 1, 1) := by decide +kernel
theorem dX6_isAhead_25 : decode cX6_isAhead 25 = .ok (.iaload, 1) := by decide +kernel
theorem dX6_isAhead_26 : decode cX6_isAhead 26 = .ok (.aload_n 0, 1) := by decide +kernel
theorem dX6_isAhead_27 : decode cX6_isAhead 27 = .ok (.getfield 56, 3) := by decide +kernel
theorem dX6_isAhead_30 : decode cX6_isAhead 30 = .ok (.iload_n 2, 1) := by decide +kernel
theorem dX6_isAhead_31 : decode cX6_isAhead 31 = .ok (.iaload, 1) := by decide +kernel
theorem dX6_isAhead_32 : decode cX6_isAhead 32 = .ok (.if_icmp .lt 23, 3) := by decide +kernel
theorem dX6_isAhead_35 : decode cX6_isAhead 35 = .ok (.aload_n 0, 1) := by decide +kernel
theorem dX6_isAhead_36 : decode cX6_isAhead 36 = .ok (.getfield 56, 3) := by decide +kernel
theorem dX6_isAhead_39 : decode cX6_isAhead 39 = .ok (.iload_n 1, 1) := by decide +kernel
theorem dX6_isAhead_40 : decode cX6_isAhead 40 = .ok (.iaload, 1) := by decide +kernel
theorem dX6_isAhead_41 : decode cX6_isAhead 41 = .ok (.aload_n 0, 1) := by decide +kernel
theorem dX6_isAhead_42 : decode cX6_isAhead 42 = .ok (.getfield 56, 3) := by decide +kernel
theorem dX6_isAhead_45 : decode cX6_isAhead 45 = .ok (.iload_n 2, 1) := by decide +kernel
theorem dX6_isAhead_46 : decode cX6_isAhead 46 = .ok (.iaload, 1) := by decide +kernel
theorem dX6_isAhead_47 : decode cX6_isAhead 47 = .ok (.if_icmp .ne 12, 3) := by decide +kernel
theorem dX6_isAhead_50 : decode cX6_isAhead 50 = .ok (.iload_n 1, 1) := by decide +kernel
theorem dX6_isAhead_51 : decode cX6_isAhead 51 = .ok (.iload_n 2, 1) := by decide +kernel
theorem dX6_isAhead_52 : decode cX6_isAhead 52 = .ok (.if_icmp .ge 7, 3) := by decide +kernel
theorem dX6_isAhead_55 : decode cX6_isAhead 55 = .ok (.iconst 1, 1) := by decide +kernel
theorem dX6_isAhead_56 : decode cX6_isAhead 56 = .ok (.goto 4, 3) := by decide +kernel
theorem dX6_isAhead_59 : decode cX6_isAhead 59 = .ok (.iconst 0, 1) := by decide +kernel
theorem dX6_isAhead_60 : decode cX6_isAhead 60 = .ok (.ireturn, 1) := by decide +kernel
theorem dX6_rank_0 : decode cX6_rank 0 = .ok (.iconst 0, 1) := by decide +kernel
theorem dX6_rank_1 : decode cX6_rank 1 = .ok (.istore_n 2, 1) := by decide +kernel
theorem dX6_rank_2 : decode cX6_rank 2 = .ok (.iconst 0, 1) := by decide +kernel
theorem dX6_rank_3 : decode cX6_rank 3 = .ok (.istore_n 3, 1) := by decide +kernel
theorem dX6_rank_4 : decode cX6_rank 4 = .ok (.iload_n 3, 1) := by decide +kernel
theorem dX6_rank_5 : decode cX6_rank 5 = .ok (.aload_n 0, 1) := by decide +kernel
theorem dX6_rank_6 : decode cX6_rank 6 = .ok (.getfield 82, 3) := by decide +kernel
theorem dX6_rank_9 : decode cX6_rank 9 = .ok (.if_icmp .ge 31, 3) := by decide +kernel
theorem dX6_rank_12 : decode cX6_rank 12 = .ok (.iload_n 2, 1) := by decide +kernel
theorem dX6_rank_13 : decode cX6_rank 13 = .ok (.iload_n 3, 1) := by decide +kernel
theorem dX6_rank_14 : decode cX6_rank 14 = .ok (.iload_n 1, 1) := by decide +kernel
theorem dX6_rank_15 : decode cX6_rank 15 = .ok (.if_icmp .eq 16, 3) := by decide +kernel
theorem dX6_rank_18 : decode cX6_rank 18 = .ok (.aload_n 0, 1) := by decide +kernel
theorem dX6_rank_19 : decode cX6_rank 19 = .ok (.iload_n 3, 1) := by decide +kernel
theorem dX6_rank_20 : decode cX6_rank 20 = .ok (.iload_n 1, 1) := by decide +kernel
theorem dX6_rank_21 : decode cX6_rank 21 = .ok (.invokevirtual 135, 3) := by decide +kernel
theorem dX6_rank_24 : decode cX6_rank 24 = .ok (.ifCond .eq 7, 3) := by decide +kernel
theorem dX6_rank_27 : decode cX6_rank 27 = .ok (.iconst 1, 1) := by decide +kernel
theorem dX6_rank_28 : decode cX6_rank 28 = .ok (.goto 4, 3) := by decide +kernel
theorem dX6_rank_31 : decode cX6_rank 31 = .ok (.iconst 0, 1) := by decide +kernel
theorem dX6_rank_32 : decode cX6_rank 32 = .ok (.iadd, 1) := by decide +kernel
theorem dX6_rank_33 : decode cX6_rank 33 = .ok (.istore_n 2, 1) := by decide +kernel
theorem dX6_rank_34 : decode cX6_rank 34 = .ok (.iinc 3 1, 3) := by decide +kernel
theorem dX6_rank_37 : decode cX6_rank 37 = .ok (.goto (-33), 3) := by decide +kernel
theorem dX6_rank_40 : decode cX6_rank 40 = .ok (.iload_n 2, 1) := by decide +kernel
theorem dX6_rank_41 : decode cX6_rank 41 = .ok (.ireturn, 1) := by decide +kernel
theorem dX6_endOf_0 : decode cX6_endOf 0 = .ok (.aload_n 0, 1) := by decide +kernel
theorem dX6_endOf_1 : decode cX6_endOf 1 = .ok (.invokevirtual 138, 3) := by decide +kernel
theorem dX6_endOf_4 : decode cX6_endOf 4 = .ok (.aload_n 0, 1) := by decide +kernel
theorem dX6_endOf_5 : decode cX6_endOf 5 = .ok (.getfield 56, 3) := by decide +kernel
theorem dX6_endOf_8 : decode cX6_endOf 8 = .ok (.iload_n 1, 1) := by decide +kernel
theorem dX6_endOf_9 : decode cX6_endOf 9 = .ok (.iaload, 1) := by decide +kernel
theorem dX6_endOf_10 : decode cX6_endOf 10 = .ok (.ireturn, 1) := by decide +kernel
theorem dX6_set_0 : decode cX6_set 0 = .ok (.iload_n 1, 1) := by decide +kernel
theorem dX6_set_1 : decode cX6_set 1 = .ok (.i2l, 1) := by decide +kernel
theorem dX6_set_2 : decode cX6_set 2 = .ok (.iconst 0, 1) := by decide +kernel
theorem dX6_set_3 : decode cX6_set 3 = .ok (.iconst 2, 1) := by decide +kernel
theorem dX6_set_4 : decode cX6_set 4 = .ok (.invokestatic 65, 3) := by decide +kernel
theorem dX6_set_7 : decode cX6_set 7 = .ok (.ifCond .eq 42, 3) := by decide +kernel
theorem dX6_set_10 : decode cX6_set 10 = .ok (.iload_n 2, 1) := by decide +kernel
theorem dX6_set_11 : decode cX6_set 11 = .ok (.i2l, 1) := by decide +kernel
theorem dX6_set_12 : decode cX6_set 12 = .ok (.iload_n 1, 1) := by decide +kernel
theorem dX6_set_13 : decode cX6_set 13 = .ok (.iconst 2, 1) := by decide +kernel
theorem dX6_set_14 : decode cX6_set 14 = .ok (.if_icmp .ne 7, 3) := by decide +kernel
theorem dX6_set_17 : decode cX6_set 17 = .ok (.iconst 1, 1) := by decide +kernel
theorem dX6_set_18 : decode cX6_set 18 = .ok (.goto 4, 3) := by decide +kernel
theorem dX6_set_21 : decode cX6_set 21 = .ok (.iconst 0, 1) := by decide +kernel
theorem dX6_set_22 : decode cX6_set 22 = .ok (.iload_n 1, 1) := by decide +kernel
theorem dX6_set_23 : decode cX6_set 23 = .ok (.ifCond .ne 8, 3) := by decide +kernel
theorem dX6_set_26 : decode cX6_set 26 = .ok (.bipush 50, 2) := by decide +kernel
theorem dX6_set_28 : decode cX6_set 28 = .ok (.goto 15, 3) := by decide +kernel
theorem dX6_set_31 : decode cX6_set 31 = .ok (.iload_n 1, 1) := by decide +kernel
theorem dX6_set_32 : decode cX6_set 32 = .ok (.iconst 1, 1) := by decide +kernel
theorem dX6_set_33 : decode cX6_set 33 = .ok (.if_icmp .ne 9, 3) := by decide +kernel
theorem dX6_set_36 : decode cX6_set 36 = .ok (.sipush 500, 3) := by decide +kernel
theorem dX6_set_39 : decode cX6_set 39 = .ok (.goto 4, 3) := by decide +kernel
theorem dX6_set_42 : decode cX6_set 42 = .ok (.iconst 5, 1) := by decide +kernel
theorem dX6_set_43 : decode cX6_set 43 = .ok (.invokestatic 65, 3) := by decide +kernel
theorem dX6_set_46 : decode cX6_set 46 = .ok (.ifCond .ne 6, 3) := by decide +kernel
theorem dX6_set_49 : decode cX6_set 49 = .ok (.ldc 74, 2) := by decide +kernel
theorem dX6_set_51 : decode cX6_set 51 = .ok (.ireturn, 1) := by decide +kernel
theorem dX6_set_52 : decode cX6_set 52 = .ok (.aload_n 0, 1) := by decide +kernel
theorem dX6_set_53 : decode cX6_set 53 = .ok (.invokevirtual 75, 3) := by decide +kernel
theorem dX6_set_56 : decode cX6_set 56 = .ok (.aload_n 0, 1) := by decide +kernel
theorem dX6_set_57 : decode cX6_set 57 = .ok (.getfield 7, 3) := by decide +kernel
theorem dX6_set_60 : decode cX6_set 60 = .ok (.iload_n 1, 1) := by decide +kernel
theorem dX6_set_61 : decode cX6_set 61 = .ok (.iaload, 1) := by decide +kernel
theorem dX6_set_62 : decode cX6_set 62 = .ok (.istore_n 3, 1) := by decide +kernel
theorem dX6_set_63 : decode cX6_set 63 = .ok (.aload_n 0, 1) := by decide +kernel
theorem dX6_set_64 : decode cX6_set 64 = .ok (.getfield 7, 3) := by decide +kernel
theorem dX6_set_67 : decode cX6_set 67 = .ok (.iload_n 1, 1) := by decide +kernel
theorem dX6_set_68 : decode cX6_set 68 = .ok (.iload_n 2, 1) := by decide +kernel
theorem dX6_set_69 : decode cX6_set 69 = .ok (.iastore, 1) := by decide +kernel
theorem dX6_set_70 : decode cX6_set 70 = .ok (.aload_n 0, 1) := by decide +kernel
theorem dX6_set_71 : decode cX6_set 71 = .ok (.iload_n 3, 1) := by decide +kernel
theorem dX6_set_72 : decode cX6_set 72 = .ok (.invokevirtual 78, 3) := by decide +kernel
theorem dX6_set_75 : decode cX6_set 75 = .ok (.ireturn, 1) := by decide +kernel
theorem dX6_place_0 : decode cX6_place 0 = .ok (.iload_n 1, 1) := by decide +kernel
theorem dX6_place_1 : decode cX6_place 1 = .ok (.invokestatic 141, 3) := by decide +kernel
theorem dX6_place_4 : decode cX6_place 4 = .ok (.ifCond .ne 6, 3) := by decide +kernel
theorem dX6_place_7 : decode cX6_place 7 = .ok (.ldc 144, 2) := by decide +kernel
theorem dX6_place_9 : decode cX6_place 9 = .ok (.ireturn, 1) := by decide +kernel
theorem dX6_place_10 : decode cX6_place 10 = .ok (.iload_n 2, 1) := by decide +kernel
theorem dX6_place_11 : decode cX6_place 11 = .ok (.i2l, 1) := by decide +kernel
theorem dX6_place_12 : decode cX6_place 12 = .ok (.iconst 0, 1) := by decide +kernel
theorem dX6_place_13 : decode cX6_place 13 = .ok (.bipush 20, 2) := by decide +kernel
theorem dX6_place_15 : decode cX6_place 15 = .ok (.invokestatic 65, 3) := by decide +kernel
theorem dX6_place_18 : decode cX6_place 18 = .ok (.ifCond .eq 26, 3) := by decide +kernel
theorem dX6_place_21 : decode cX6_place 21 = .ok (.iload_n 3, 1) := by decide +kernel
theorem dX6_place_22 : decode cX6_place 22 = .ok (.i2l, 1) := by decide +kernel
theorem dX6_place_23 : decode cX6_place 23 = .ok (.iconst 0, 1) := by decide +kernel
theorem dX6_place_24 : decode cX6_place 24 = .ok (.bipush 20, 2) := by decide +kernel
theorem dX6_place_26 : decode cX6_place 26 = .ok (.invokestatic 65, 3) := by decide +kernel
theorem dX6_place_29 : decode cX6_place 29 = .ok (.ifCond .eq 15, 3) := by decide +kernel
theorem dX6_place_32 : decode cX6_place 32 = .ok (.iload 4, 2) := by decide +kernel
theorem dX6_place_34 : decode cX6_place 34 = .ok (.i2l, 1) := by decide +kernel
theorem dX6_place_35 : decode cX6_place 35 = .ok (.iconst 1, 1) := by decide +kernel
theorem dX6_place_36 : decode cX6_place 36 = .ok (.bipush 15, 2) := by decide +kernel
theorem dX6_place_38 : decode cX6_place 38 = .ok (.invokestatic 65, 3) := by decide +kernel
theorem dX6_place_41 : decode cX6_place 41 = .ok (.ifCond .ne 6, 3) := by decide +kernel
theorem dX6_place_44 : decode cX6_place 44 = .ok (.ldc 74, 2) := by decide +kernel
theorem dX6_place_46 : decode cX6_place 46 = .ok (.ireturn, 1) := by decide +kernel
theorem dX6_place_47 : decode cX6_place 47 = .ok (.aload_n 0, 1) := by decide +kernel
theorem dX6_place_48 : decode cX6_place 48 = .ok (.invokevirtual 75, 3) := by decide +kernel
theorem dX6_place_51 : decode cX6_place 51 = .ok (.aload_n 0, 1) := by decide +kernel
theorem dX6_place_52 : decode cX6_place 52 = .ok (.iload_n 1, 1) := by decide +kernel
theorem dX6_place_53 : decode cX6_place 53 = .ok (.iconst 2, 1) := by decide +kernel
theorem dX6_place_54 : decode cX6_place 54 = .ok (.invokevirtual 89, 3) := by decide +kernel
theorem dX6_place_57 : decode cX6_place 57 = .ok (.istore 5, 2) := by decide +kernel
theorem dX6_place_59 : decode cX6_place 59 = .ok (.aload_n 0, 1) := by decide +kernel
theorem dX6_place_60 : decode cX6_place 60 = .ok (.getfield 7, 3) := by decide +kernel
theorem dX6_place_63 : decode cX6_place 63 = .ok (.iconst 4, 1) := by decide +kernel
theorem dX6_place_64 : decode cX6_place 64 = .ok (.iconst 4, 1) := by decide +kernel
theorem dX6_place_65 : decode cX6_place 65 = .ok (.iload_n 1, 1) := by decide +kernel
theorem dX6_place_66 : decode cX6_place 66 = .ok (.imul, 1) := by decide +kernel
theorem dX6_place_67 : decode cX6_place 67 = .ok (.iadd, 1) := by decide +kernel
theorem dX6_place_68 : decode cX6_place 68 = .ok (.iconst 0, 1) := by decide +kernel
theorem dX6_place_69 : decode cX6_place 69 = .ok (.iadd, 1) := by decide +kernel
theorem dX6_place_70 : decode cX6_place 70 = .ok (.iload_n 2, 1) := by decide +kernel
theorem dX6_place_71 : decode cX6_place 71 = .ok (.iastore, 1) := by decide +kernel
theorem dX6_place_72 : decode cX6_place 72 = .ok (.aload_n 0, 1) := by decide +kernel
theorem dX6_place_73 : decode cX6_place 73 = .ok (.getfield 7, 3) := by decide +kernel
theorem dX6_place_76 : decode cX6_place 76 = .ok (.iconst 4, 1) := by decide +kernel
theorem dX6_place_77 : decode cX6_place 77 = .ok (.iconst 4, 1) := by decide +kernel
theorem dX6_place_78 : decode cX6_place 78 = .ok (.iload_n 1, 1) := by decide +kernel
theorem dX6_place_79 : decode cX6_place 79 = .ok (.imul, 1) := by decide +kernel
theorem dX6_place_80 : decode cX6_place 80 = .ok (.iadd, 1) := by decide +kernel
theorem dX6_place_81 : decode cX6_place 81 = .ok (.iconst 1, 1) := by decide +kernel
theorem dX6_place_82 : decode cX6_place 82 = .ok (.iadd, 1) := by decide +kernel
theorem dX6_place_83 : decode cX6_place 83 = .ok (.iload_n 3, 1) := by decide +kernel
theorem dX6_place_84 : decode cX6_place 84 = .ok (.iastore, 1) := by decide +kernel
theorem dX6_place_85 : decode cX6_place 85 = .ok (.aload_n 0, 1) := by decide +kernel
theorem dX6_place_86 : decode cX6_place 86 = .ok (.getfield 7, 3) := by decide +kernel
theorem dX6_place_89 : decode cX6_place 89 = .ok (.iconst 4, 1) := by decide +kernel
theorem dX6_place_90 : decode cX6_place 90 = .ok (.iconst 4, 1) := by decide +kernel
theorem dX6_place_91 : decode cX6_place 91 = .ok (.iload_n 1, 1) := by decide +kernel
theorem dX6_place_92 : decode cX6_place 92 = .ok (.imul, 1) := by decide +kernel
theorem dX6_place_93 : decode cX6_place 93 = .ok (.iadd, 1) := by decide +kernel
theorem dX6_place_94 : decode cX6_place 94 = .ok (.iconst 2, 1) := by decide +kernel
theorem dX6_place_95 : decode cX6_place 95 = .ok (.iadd, 1) := by decide +kernel
theorem dX6_place_96 : decode cX6_place 96 = .ok (.iload 4, 2) := by decide +kernel
theorem dX6_place_98 : decode cX6_place 98 = .ok (.iastore, 1) := by decide +kernel
theorem dX6_place_99 : decode cX6_place 99 = .ok (.aload_n 0, 1) := by decide +kernel
theorem dX6_place_100 : decode cX6_place 100 = .ok (.iload 5, 2) := by decide +kernel
theorem dX6_place_102 : decode cX6_place 102 = .ok (.invokevirtual 78, 3) := by decide +kernel
theorem dX6_place_105 : decode cX6_place 105 = .ok (.ireturn, 1) := by decide +kernel
theorem dX6_openOnes_0 : decode cX6_openOnes 0 = .ok (.iconst 0, 1) := by decide +kernel
theorem dX6_openOnes_1 : decode cX6_openOnes 1 = .ok (.istore_n 1, 1) := by decide +kernel
theorem dX6_openOnes_2 : decode cX6_openOnes 2 = .ok (.iconst 0, 1) := by decide +kernel
theorem dX6_openOnes_3 : decode cX6_openOnes 3 = .ok (.istore_n 2, 1) := by decide +kernel
theorem dX6_openOnes_4 : decode cX6_openOnes 4 = .ok (.iload_n 2, 1) := by decide +kernel
theorem dX6_openOnes_5 : decode cX6_openOnes 5 = .ok (.bipush 8, 2) := by decide +kernel
theorem dX6_openOnes_7 : decode cX6_openOnes 7 = .ok (.if_icmp .ge 20, 3) := by decide +kernel
theorem dX6_openOnes_10 : decode cX6_openOnes 10 = .ok (.iload_n 1, 1) := by decide +kernel
theorem dX6_openOnes_11 : decode cX6_openOnes 11 = .ok (.iconst 1, 1) := by decide +kernel
theorem dX6_openOnes_12 : decode cX6_openOnes 12 = .ok (.aload_n 0, 1) := by decide +kernel
theorem dX6_openOnes_13 : decode cX6_openOnes 13 = .ok (.iload_n 2, 1) := by decide +kernel
theorem dX6_openOnes_14 : decode cX6_openOnes 14 = .ok (.iconst 3, 1) := by decide +kernel
theorem dX6_openOnes_15 : decode cX6_openOnes 15 = .ok (.invokevirtual 89, 3) := by decide +kernel
theorem dX6_openOnes_18 : decode cX6_openOnes 18 = .ok (.isub, 1) := by decide +kernel
theorem dX6_openOnes_19 : decode cX6_openOnes 19 = .ok (.iadd, 1) := by decide +kernel
theorem dX6_openOnes_20 : decode cX6_openOnes 20 = .ok (.istore_n 1, 1) := by decide +kernel
theorem dX6_openOnes_21 : decode cX6_openOnes 21 = .ok (.iinc 2 1, 3) := by decide +kernel
theorem dX6_openOnes_24 : decode cX6_openOnes 24 = .ok (.goto (-20), 3) := by decide +kernel
theorem dX6_openOnes_27 : decode cX6_openOnes 27 = .ok (.iload_n 1, 1) := by decide +kernel
theorem dX6_openOnes_28 : decode cX6_openOnes 28 = .ok (.ireturn, 1) := by decide +kernel
theorem dX6_close_0 : decode cX6_close 0 = .ok (.iload_n 1, 1) := by decide +kernel
theorem dX6_close_1 : decode cX6_close 1 = .ok (.invokestatic 141, 3) := by decide +kernel
theorem dX6_close_4 : decode cX6_close 4 = .ok (.ifCond .ne 6, 3) := by decide +kernel
theorem dX6_close_7 : decode cX6_close 7 = .ok (.ldc 144, 2) := by decide +kernel
theorem dX6_close_9 : decode cX6_close 9 = .ok (.ireturn, 1) := by decide +kernel
theorem dX6_close_10 : decode cX6_close 10 = .ok (.iload_n 2, 1) := by decide +kernel
theorem dX6_close_11 : decode cX6_close 11 = .ok (.ifCond .eq 7, 3) := by decide +kernel
theorem dX6_close_14 : decode cX6_close 14 = .ok (.iconst 1, 1) := by decide +kernel
theorem dX6_close_15 : decode cX6_close 15 = .ok (.goto 4, 3) := by decide +kernel
theorem dX6_close_18 : decode cX6_close 18 = .ok (.iconst 0, 1) := by decide +kernel
theorem dX6_close_19 : decode cX6_close 19 = .ok (.istore_n 3, 1) := by decide +kernel
theorem dX6_close_20 : decode cX6_close 20 = .ok (.aload_n 0, 1) := by decide +kernel
theorem dX6_close_21 : decode cX6_close 21 = .ok (.iload_n 1, 1) := by decide +kernel
theorem dX6_close_22 : decode cX6_close 22 = .ok (.iconst 3, 1) := by decide +kernel
theorem dX6_close_23 : decode cX6_close 23 = .ok (.invokevirtual 89, 3) := by decide +kernel
theorem dX6_close_26 : decode cX6_close 26 = .ok (.iload_n 3, 1) := by decide +kernel
theorem dX6_close_27 : decode cX6_close 27 = .ok (.if_icmp .ne 6, 3) := by decide +kernel
theorem dX6_close_30 : decode cX6_close 30 = .ok (.ldc 73, 2) := by decide +kernel
theorem dX6_close_32 : decode cX6_close 32 = .ok (.ireturn, 1) := by decide +kernel
theorem dX6_close_33 : decode cX6_close 33 = .ok (.aload_n 0, 1) := by decide +kernel
theorem dX6_close_34 : decode cX6_close 34 = .ok (.invokevirtual 75, 3) := by decide +kernel
theorem dX6_close_37 : decode cX6_close 37 = .ok (.aload_n 0, 1) := by decide +kernel
theorem dX6_close_38 : decode cX6_close 38 = .ok (.getfield 7, 3) := by decide +kernel
theorem dX6_close_41 : decode cX6_close 41 = .ok (.iconst 4, 1) := by decide +kernel
theorem dX6_close_42 : decode cX6_close 42 = .ok (.iconst 4, 1) := by decide +kernel
theorem dX6_close_43 : decode cX6_close 43 = .ok (.iload_n 1, 1) := by decide +kernel
theorem dX6_close_44 : decode cX6_close 44 = .ok (.imul, 1) := by decide +kernel
theorem dX6_close_45 : decode cX6_close 45 = .ok (.iadd, 1) := by decide +kernel
theorem dX6_close_46 : decode cX6_close 46 = .ok (.iconst 3, 1) := by decide +kernel
theorem dX6_close_47 : decode cX6_close 47 = .ok (.iadd, 1) := by decide +kernel
theorem dX6_close_48 : decode cX6_close 48 = .ok (.iload_n 3, 1) := by decide +kernel
theorem dX6_close_49 : decode cX6_close 49 = .ok (.iastore, 1) := by decide +kernel
theorem dX6_close_50 : decode cX6_close 50 = .ok (.aload_n 0, 1) := by decide +kernel
theorem dX6_close_51 : decode cX6_close 51 = .ok (.aload_n 0, 1) := by decide +kernel
theorem dX6_close_52 : decode cX6_close 52 = .ok (.invokevirtual 145, 3) := by decide +kernel
theorem dX6_close_55 : decode cX6_close 55 = .ok (.invokevirtual 78, 3) := by decide +kernel
theorem dX6_close_58 : decode cX6_close 58 = .ok (.ireturn, 1) := by decide +kernel
theorem dX6_takeRoute_0 : decode cX6_takeRoute 0 = .ok (.aload_n 0, 1) := by decide +kernel
theorem dX6_takeRoute_1 : decode cX6_takeRoute 1 = .ok (.iload_n 1, 1) := by decide +kernel
theorem dX6_takeRoute_2 : decode cX6_takeRoute 2 = .ok (.iconst 3, 1) := by decide +kernel
theorem dX6_takeRoute_3 : decode cX6_takeRoute 3 = .ok (.aload_n 0, 1) := by decide +kernel
theorem dX6_takeRoute_4 : decode cX6_takeRoute 4 = .ok (.getfield 148, 3) := by decide +kernel
theorem dX6_takeRoute_7 : decode cX6_takeRoute 7 = .ok (.invokevirtual 151, 3) := by decide +kernel
theorem dX6_takeRoute_10 : decode cX6_takeRoute 10 = .ok (.iconst 0, 1) := by decide +kernel
theorem dX6_takeRoute_11 : decode cX6_takeRoute 11 = .ok (.istore_n 2, 1) := by decide +kernel
theorem dX6_takeRoute_12 : decode cX6_takeRoute 12 = .ok (.iload_n 2, 1) := by decide +kernel
theorem dX6_takeRoute_13 : decode cX6_takeRoute 13 = .ok (.bipush 8, 2) := by decide +kernel
theorem dX6_takeRoute_15 : decode cX6_takeRoute 15 = .ok (.if_icmp .ge 35, 3) := by decide +kernel
theorem dX6_takeRoute_18 : decode cX6_takeRoute 18 = .ok (.aload_n 0, 1) := by decide +kernel
theorem dX6_takeRoute_19 : decode cX6_takeRoute 19 = .ok (.iload_n 1, 1) := by decide +kernel
theorem dX6_takeRoute_20 : decode cX6_takeRoute 20 = .ok (.iconst 4, 1) := by decide +kernel
theorem dX6_takeRoute_21 : decode cX6_takeRoute 21 = .ok (.iload_n 2, 1) := by decide +kernel
theorem dX6_takeRoute_22 : decode cX6_takeRoute 22 = .ok (.iadd, 1) := by decide +kernel
theorem dX6_takeRoute_23 : decode cX6_takeRoute 23 = .ok (.iload_n 2, 1) := by decide +kernel
theorem dX6_takeRoute_24 : decode cX6_takeRoute 24 = .ok (.aload_n 0, 1) := by decide +kernel
theorem dX6_takeRoute_25 : decode cX6_takeRoute 25 = .ok (.getfield 148, 3) := by decide +kernel
theorem dX6_takeRoute_28 : decode cX6_takeRoute 28 = .ok (.if_icmp .ge 12, 3) := by decide +kernel
theorem dX6_takeRoute_31 : decode cX6_takeRoute 31 = .ok (.aload_n 0, 1) := by decide +kernel
theorem dX6_takeRoute_32 : decode cX6_takeRoute 32 = .ok (.getfield 35, 3) := by decide +kernel
theorem dX6_takeRoute_35 : decode cX6_takeRoute 35 = .ok (.iload_n 2, 1) := by decide +kernel
theorem dX6_takeRoute_36 : decode cX6_takeRoute 36 = .ok (.iaload, 1) := by decide +kernel
theorem dX6_takeRoute_37 : decode cX6_takeRoute 37 = .ok (.goto 4, 3) := by decide +kernel
theorem dX6_takeRoute_40 : decode cX6_takeRoute 40 = .ok (.iconst 0, 1) := by decide +kernel
theorem dX6_takeRoute_41 : decode cX6_takeRoute 41 = .ok (.invokevirtual 151, 3) := by decide +kernel
theorem dX6_takeRoute_44 : decode cX6_takeRoute 44 = .ok (.iinc 2 1, 3) := by decide +kernel
theorem dX6_takeRoute_47 : decode cX6_takeRoute 47 = .ok (.goto (-35), 3) := by decide +kernel
theorem dX6_takeRoute_50 : decode cX6_takeRoute 50 = .ok (.aload_n 0, 1) := by decide +kernel
theorem dX6_takeRoute_51 : decode cX6_takeRoute 51 = .ok (.iconst 0, 1) := by decide +kernel
theorem dX6_takeRoute_52 : decode cX6_takeRoute 52 = .ok (.putfield 155, 3) := by decide +kernel
theorem dX6_takeRoute_55 : decode cX6_takeRoute 55 = .ok (.return_, 1) := by decide +kernel
theorem dX6_team_0 : decode cX6_team 0 = .ok (.iload_n 1, 1) := by decide +kernel
theorem dX6_team_1 : decode cX6_team 1 = .ok (.i2l, 1) := by decide +kernel
theorem dX6_team_2 : decode cX6_team 2 = .ok (.iconst 0, 1) := by decide +kernel
theorem dX6_team_3 : decode cX6_team 3 = .ok (.sipush 200, 3) := by decide +kernel
theorem dX6_team_6 : decode cX6_team 6 = .ok (.invokestatic 65, 3) := by decide +kernel
theorem dX6_team_9 : decode cX6_team 9 = .ok (.ifCond .ne 6, 3) := by decide +kernel
theorem dX6_team_12 : decode cX6_team 12 = .ok (.ldc 74, 2) := by decide +kernel
theorem dX6_team_14 : decode cX6_team 14 = .ok (.ireturn, 1) := by decide +kernel
theorem dX6_team_15 : decode cX6_team 15 = .ok (.aload_n 0, 1) := by decide +kernel
theorem dX6_team_16 : decode cX6_team 16 = .ok (.invokevirtual 158, 3) := by decide +kernel
theorem dX6_team_19 : decode cX6_team 19 = .ok (.ifCond .ne 6, 3) := by decide +kernel
theorem dX6_team_22 : decode cX6_team 22 = .ok (.ldc 162, 2) := by decide +kernel
theorem dX6_team_24 : decode cX6_team 24 = .ok (.ireturn, 1) := by decide +kernel
theorem dX6_team_25 : decode cX6_team 25 = .ok (.aload_n 0, 1) := by decide +kernel
theorem dX6_team_26 : decode cX6_team 26 = .ok (.getfield 7, 3) := by decide +kernel
theorem dX6_team_29 : decode cX6_team 29 = .ok (.iconst 3, 1) := by decide +kernel
theorem dX6_team_30 : decode cX6_team 30 = .ok (.iaload, 1) := by decide +kernel
theorem dX6_team_31 : decode cX6_team 31 = .ok (.istore_n 2, 1) := by decide +kernel
theorem dX6_team_32 : decode cX6_team 32 = .ok (.iload_n 2, 1) := by decide +kernel
theorem dX6_team_33 : decode cX6_team 33 = .ok (.bipush 6, 2) := by decide +kernel
theorem dX6_team_35 : decode cX6_team 35 = .ok (.if_icmp .ne 6, 3) := by decide +kernel
theorem dX6_team_38 : decode cX6_team 38 = .ok (.ldc 163, 2) := by decide +kernel
theorem dX6_team_40 : decode cX6_team 40 = .ok (.ireturn, 1) := by decide +kernel
theorem dX6_team_41 : decode cX6_team 41 = .ok (.aload_n 0, 1) := by decide +kernel
theorem dX6_team_42 : decode cX6_team 42 = .ok (.invokevirtual 75, 3) := by decide +kernel
theorem dX6_team_45 : decode cX6_team 45 = .ok (.aload_n 0, 1) := by decide +kernel
theorem dX6_team_46 : decode cX6_team 46 = .ok (.iload_n 2, 1) := by decide +kernel
theorem dX6_team_47 : decode cX6_team 47 = .ok (.iconst 0, 1) := by decide +kernel
theorem dX6_team_48 : decode cX6_team 48 = .ok (.iload_n 1, 1) := by decide +kernel
theorem dX6_team_49 : decode cX6_team 49 = .ok (.invokevirtual 151, 3) := by decide +kernel
theorem dX6_team_52 : decode cX6_team 52 = .ok (.aload_n 0, 1) := by decide +kernel
theorem dX6_team_53 : decode cX6_team 53 = .ok (.iload_n 2, 1) := by decide +kernel
theorem dX6_team_54 : decode cX6_team 54 = .ok (.iconst 1, 1) := by decide +kernel
theorem dX6_team_55 : decode cX6_team 55 = .ok (.iconst 0, 1) := by decide +kernel
theorem dX6_team_56 : decode cX6_team 56 = .ok (.invokevirtual 151, 3) := by decide +kernel
theorem dX6_team_59 : decode cX6_team 59 = .ok (.aload_n 0, 1) := by decide +kernel
theorem dX6_team_60 : decode cX6_team 60 = .ok (.iload_n 2, 1) := by decide +kernel
theorem dX6_team_61 : decode cX6_team 61 = .ok (.iconst 2, 1) := by decide +kernel
theorem dX6_team_62 : decode cX6_team 62 = .ok (.iconst 0, 1) := by decide +kernel
theorem dX6_team_63 : decode cX6_team 63 = .ok (.invokevirtual 151, 3) := by decide +kernel
theorem dX6_team_66 : decode cX6_team 66 = .ok (.aload_n 0, 1) := by decide +kernel
theorem dX6_team_67 : decode cX6_team 67 = .ok (.iload_n 2, 1) := by decide +kernel
theorem dX6_team_68 : decode cX6_team 68 = .ok (.invokevirtual 164, 3) := by decide +kernel
theorem dX6_team_71 : decode cX6_team 71 = .ok (.aload_n 0, 1) := by decide +kernel
theorem dX6_team_72 : decode cX6_team 72 = .ok (.getfield 7, 3) := by decide +kernel
theorem dX6_team_75 : decode cX6_team 75 = .ok (.iconst 3, 1) := by decide +kernel
theorem dX6_team_76 : decode cX6_team 76 = .ok (.dup2, 1) := by decide +kernel
theorem dX6_team_77 : decode cX6_team 77 = .ok (.iaload, 1) := by decide +kernel
theorem dX6_team_78 : decode cX6_team 78 = .ok (.iconst 1, 1) := by decide +kernel
theorem dX6_team_79 : decode cX6_team 79 = .ok (.iadd, 1) := by decide +kernel
theorem dX6_team_80 : decode cX6_team 80 = .ok (.iastore, 1) := by decide +kernel
theorem dX6_team_81 : decode cX6_team 81 = .ok (.aload_n 0, 1) := by decide +kernel
theorem dX6_team_82 : decode cX6_team 82 = .ok (.iload_n 2, 1) := by decide +kernel
theorem dX6_team_83 : decode cX6_team 83 = .ok (.invokevirtual 78, 3) := by decide +kernel
theorem dX6_team_86 : decode cX6_team 86 = .ok (.ireturn, 1) := by decide +kernel
theorem dX6_route_0 : decode cX6_route 0 = .ok (.aload_n 0, 1) := by decide +kernel
theorem dX6_route_1 : decode cX6_route 1 = .ok (.iload_n 1, 1) := by decide +kernel
theorem dX6_route_2 : decode cX6_route 2 = .ok (.invokevirtual 167, 3) := by decide +kernel
theorem dX6_route_5 : decode cX6_route 5 = .ok (.ifCond .ne 6, 3) := by decide +kernel
theorem dX6_route_8 : decode cX6_route 8 = .ok (.ldc 144, 2) := by decide +kernel
theorem dX6_route_10 : decode cX6_route 10 = .ok (.ireturn, 1) := by decide +kernel
theorem dX6_route_11 : decode cX6_route 11 = .ok (.aload_n 0, 1) := by decide +kernel
theorem dX6_route_12 : decode cX6_route 12 = .ok (.invokevirtual 158, 3) := by decide +kernel
theorem dX6_route_15 : decode cX6_route 15 = .ok (.ifCond .ne 6, 3) := by decide +kernel
theorem dX6_route_18 : decode cX6_route 18 = .ok (.ldc 162, 2) := by decide +kernel
theorem dX6_route_20 : decode cX6_route 20 = .ok (.ireturn, 1) := by decide +kernel
theorem dX6_route_21 : decode cX6_route 21 = .ok (.aload_n 0, 1) := by decide +kernel
theorem dX6_route_22 : decode cX6_route 22 = .ok (.invokevirtual 75, 3) := by decide +kernel
theorem dX6_route_25 : decode cX6_route 25 = .ok (.aload_n 0, 1) := by decide +kernel
theorem dX6_route_26 : decode cX6_route 26 = .ok (.iload_n 1, 1) := by decide +kernel
theorem dX6_route_27 : decode cX6_route 27 = .ok (.invokevirtual 164, 3) := by decide +kernel
theorem dX6_route_30 : decode cX6_route 30 = .ok (.aload_n 0, 1) := by decide +kernel
theorem dX6_route_31 : decode cX6_route 31 = .ok (.invokevirtual 138, 3) := by decide +kernel
theorem dX6_route_34 : decode cX6_route 34 = .ok (.aload_n 0, 1) := by decide +kernel
theorem dX6_route_35 : decode cX6_route 35 = .ok (.aload_n 0, 1) := by decide +kernel
theorem dX6_route_36 : decode cX6_route 36 = .ok (.getfield 38, 3) := by decide +kernel
theorem dX6_route_39 : decode cX6_route 39 = .ok (.iload_n 1, 1) := by decide +kernel
theorem dX6_route_40 : decode cX6_route 40 = .ok (.iaload, 1) := by decide +kernel
theorem dX6_route_41 : decode cX6_route 41 = .ok (.invokevirtual 78, 3) := by decide +kernel
theorem dX6_route_44 : decode cX6_route 44 = .ok (.ireturn, 1) := by decide +kernel
theorem dX6_leave_0 : decode cX6_leave 0 = .ok (.aload_n 0, 1) := by decide +kernel
theorem dX6_leave_1 : decode cX6_leave 1 = .ok (.iload_n 1, 1) := by decide +kernel
theorem dX6_leave_2 : decode cX6_leave 2 = .ok (.invokevirtual 167, 3) := by decide +kernel
theorem dX6_leave_5 : decode cX6_leave 5 = .ok (.ifCond .ne 6, 3) := by decide +kernel
theorem dX6_leave_8 : decode cX6_leave 8 = .ok (.ldc 144, 2) := by decide +kernel
theorem dX6_leave_10 : decode cX6_leave 10 = .ok (.ireturn, 1) := by decide +kernel
theorem dX6_leave_11 : decode cX6_leave 11 = .ok (.aload_n 0, 1) := by decide +kernel
theorem dX6_leave_12 : decode cX6_leave 12 = .ok (.invokevirtual 75, 3) := by decide +kernel
theorem dX6_leave_15 : decode cX6_leave 15 = .ok (.aload_n 0, 1) := by decide +kernel
theorem dX6_leave_16 : decode cX6_leave 16 = .ok (.getfield 7, 3) := by decide +kernel
theorem dX6_leave_19 : decode cX6_leave 19 = .ok (.iconst 3, 1) := by decide +kernel
theorem dX6_leave_20 : decode cX6_leave 20 = .ok (.dup2, 1) := by decide +kernel
theorem dX6_leave_21 : decode cX6_leave 21 = .ok (.iaload, 1) := by decide +kernel
theorem dX6_leave_22 : decode cX6_leave 22 = .ok (.iconst 1, 1) := by decide +kernel
theorem dX6_leave_23 : decode cX6_leave 23 = .ok (.isub, 1) := by decide +kernel
theorem dX6_leave_24 : decode cX6_leave 24 = .ok (.iastore, 1) := by decide +kernel
theorem dX6_leave_25 : decode cX6_leave 25 = .ok (.bipush 36, 2) := by decide +kernel
theorem dX6_leave_27 : decode cX6_leave 27 = .ok (.bipush 12, 2) := by decide +kernel
theorem dX6_leave_29 : decode cX6_leave 29 = .ok (.iload_n 1, 1) := by decide +kernel
theorem dX6_leave_30 : decode cX6_leave 30 = .ok (.imul, 1) := by decide +kernel
theorem dX6_leave_31 : decode cX6_leave 31 = .ok (.iadd, 1) := by decide +kernel
theorem dX6_leave_32 : decode cX6_leave 32 = .ok (.istore_n 2, 1) := by decide +kernel
theorem dX6_leave_33 : decode cX6_leave 33 = .ok (.iload_n 2, 1) := by decide +kernel
theorem dX6_leave_34 : decode cX6_leave 34 = .ok (.bipush 36, 2) := by decide +kernel
theorem dX6_leave_36 : decode cX6_leave 36 = .ok (.bipush 12, 2) := by decide +kernel
theorem dX6_leave_38 : decode cX6_leave 38 = .ok (.aload_n 0, 1) := by decide +kernel
theorem dX6_leave_39 : decode cX6_leave 39 = .ok (.getfield 7, 3) := by decide +kernel
theorem dX6_leave_42 : decode cX6_leave 42 = .ok (.iconst 3, 1) := by decide +kernel
theorem dX6_leave_43 : decode cX6_leave 43 = .ok (.iaload, 1) := by decide +kernel
theorem dX6_leave_44 : decode cX6_leave 44 = .ok (.imul, 1) := by decide +kernel
theorem dX6_leave_45 : decode cX6_leave 45 = .ok (.iadd, 1) := by decide +kernel
theorem dX6_leave_46 : decode cX6_leave 46 = .ok (.if_icmp .ge 24, 3) := by decide +kernel
theorem dX6_leave_49 : decode cX6_leave 49 = .ok (.aload_n 0, 1) := by decide +kernel
theorem dX6_leave_50 : decode cX6_leave 50 = .ok (.getfield 7, 3) := by decide +kernel
theorem dX6_leave_53 : decode cX6_leave 53 = .ok (.iload_n 2, 1) := by decide +kernel
theorem dX6_leave_54 : decode cX6_leave 54 = .ok (.aload_n 0, 1) := by decide +kernel
theorem dX6_leave_55 : decode cX6_leave 55 = .ok (.getfield 7, 3) := by decide +kernel
theorem dX6_leave_58 : decode cX6_leave 58 = .ok (.iload_n 2, 1) := by decide +kernel
theorem dX6_leave_59 : decode cX6_leave 59 = .ok (.bipush 12, 2) := by decide +kernel
theorem dX6_leave_61 : decode cX6_leave 61 = .ok (.iadd, 1) := by decide +kernel
theorem dX6_leave_62 : decode cX6_leave 62 = .ok (.iaload, 1) := by decide +kernel
theorem dX6_leave_63 : decode cX6_leave 63 = .ok (.iastore, 1) := by decide +kernel
theorem dX6_leave_64 : decode cX6_leave 64 = .ok (.iinc 2 1, 3) := by decide +kernel
theorem dX6_leave_67 : decode cX6_leave 67 = .ok (.goto (-34), 3) := by decide +kernel
theorem dX6_leave_70 : decode cX6_leave 70 = .ok (.iconst 0, 1) := by decide +kernel
theorem dX6_leave_71 : decode cX6_leave 71 = .ok (.istore_n 2, 1) := by decide +kernel
theorem dX6_leave_72 : decode cX6_leave 72 = .ok (.iload_n 2, 1) := by decide +kernel
theorem dX6_leave_73 : decode cX6_leave 73 = .ok (.bipush 12, 2) := by decide +kernel
theorem dX6_leave_75 : decode cX6_leave 75 = .ok (.if_icmp .ge 21, 3) := by decide +kernel
theorem dX6_leave_78 : decode cX6_leave 78 = .ok (.aload_n 0, 1) := by decide +kernel
theorem dX6_leave_79 : decode cX6_leave 79 = .ok (.aload_n 0, 1) := by decide +kernel
theorem dX6_leave_80 : decode cX6_leave 80 = .ok (.getfield 7, 3) := by decide +kernel
theorem dX6_leave_83 : decode cX6_leave 83 = .ok (.iconst 3, 1) := by decide +kernel
theorem dX6_leave_84 : decode cX6_leave 84 = .ok (.iaload, 1) := by decide +kernel
theorem dX6_leave_85 : decode cX6_leave 85 = .ok (.iload_n 2, 1) := by decide +kernel
theorem dX6_leave_86 : decode cX6_leave 86 = .ok (.iconst 0, 1) := by decide +kernel
theorem dX6_leave_87 : decode cX6_leave 87 = .ok (.invokevirtual 151, 3) := by decide +kernel
theorem dX6_leave_90 : decode cX6_leave 90 = .ok (.iinc 2 1, 3) := by decide +kernel
theorem dX6_leave_93 : decode cX6_leave 93 = .ok (.goto (-21), 3) := by decide +kernel
theorem dX6_leave_96 : decode cX6_leave 96 = .ok (.aload_n 0, 1) := by decide +kernel
theorem dX6_leave_97 : decode cX6_leave 97 = .ok (.aload_n 0, 1) := by decide +kernel
theorem dX6_leave_98 : decode cX6_leave 98 = .ok (.getfield 7, 3) := by decide +kernel
theorem dX6_leave_101 : decode cX6_leave 101 = .ok (.iconst 3, 1) := by decide +kernel
theorem dX6_leave_102 : decode cX6_leave 102 = .ok (.iaload, 1) := by decide +kernel
theorem dX6_leave_103 : decode cX6_leave 103 = .ok (.invokevirtual 78, 3) := by decide +kernel
theorem dX6_leave_106 : decode cX6_leave 106 = .ok (.ireturn, 1) := by decide +kernel
theorem dX6_start_0 : decode cX6_start 0 = .ok (.aload_n 0, 1) := by decide +kernel
theorem dX6_start_1 : decode cX6_start 1 = .ok (.iload_n 1, 1) := by decide +kernel
theorem dX6_start_2 : decode cX6_start 2 = .ok (.invokevirtual 167, 3) := by decide +kernel
theorem dX6_start_5 : decode cX6_start 5 = .ok (.ifCond .ne 6, 3) := by decide +kernel
theorem dX6_start_8 : decode cX6_start 8 = .ok (.ldc 144, 2) := by decide +kernel
theorem dX6_start_10 : decode cX6_start 10 = .ok (.ireturn, 1) := by decide +kernel
theorem dX6_start_11 : decode cX6_start 11 = .ok (.iload_n 2, 1) := by decide +kernel
theorem dX6_start_12 : decode cX6_start 12 = .ok (.i2l, 1) := by decide +kernel
theorem dX6_start_13 : decode cX6_start 13 = .ok (.iconst 0, 1) := by decide +kernel
theorem dX6_start_14 : decode cX6_start 14 = .ok (.sipush 200, 3) := by decide +kernel
theorem dX6_start_17 : decode cX6_start 17 = .ok (.invokestatic 65, 3) := by decide +kernel
theorem dX6_start_20 : decode cX6_start 20 = .ok (.ifCond .ne 6, 3) := by decide +kernel
theorem dX6_start_23 : decode cX6_start 23 = .ok (.ldc 74, 2) := by decide +kernel
theorem dX6_start_25 : decode cX6_start 25 = .ok (.ireturn, 1) := by decide +kernel
theorem dX6_start_26 : decode cX6_start 26 = .ok (.aload_n 0, 1) := by decide +kernel
theorem dX6_start_27 : decode cX6_start 27 = .ok (.invokevirtual 75, 3) := by decide +kernel
theorem dX6_start_30 : decode cX6_start 30 = .ok (.aload_n 0, 1) := by decide +kernel
theorem dX6_start_31 : decode cX6_start 31 = .ok (.iload_n 1, 1) := by decide +kernel
theorem dX6_start_32 : decode cX6_start 32 = .ok (.iconst 0, 1) := by decide +kernel
theorem dX6_start_33 : decode cX6_start 33 = .ok (.invokevirtual 85, 3) := by decide +kernel
theorem dX6_start_36 : decode cX6_start 36 = .ok (.istore_n 3, 1) := by decide +kernel
theorem dX6_start_37 : decode cX6_start 37 = .ok (.aload_n 0, 1) := by decide +kernel
theorem dX6_start_38 : decode cX6_start 38 = .ok (.iload_n 1, 1) := by decide +kernel
theorem dX6_start_39 : decode cX6_start 39 = .ok (.iconst 0, 1) := by decide +kernel
theorem dX6_start_40 : decode cX6_start 40 = .ok (.iload_n 2, 1) := by decide +kernel
theorem dX6_start_41 : decode cX6_start 41 = .ok (.invokevirtual 151, 3) := by decide +kernel
theorem dX6_start_44 : decode cX6_start 44 = .ok (.aload_n 0, 1) := by decide +kernel
theorem dX6_start_45 : decode cX6_start 45 = .ok (.iload_n 3, 1) := by decide +kernel
theorem dX6_start_46 : decode cX6_start 46 = .ok (.invokevirtual 78, 3) := by decide +kernel
theorem dX6_start_49 : decode cX6_start 49 = .ok (.ireturn, 1) := by decide +kernel
theorem dX6_hint_0 : decode cX6_hint 0 = .ok (.aload_n 0, 1) := by decide +kernel
theorem dX6_hint_1 : decode cX6_hint 1 = .ok (.iload_n 1, 1) := by decide +kernel
theorem dX6_hint_2 : decode cX6_hint 2 = .ok (.invokevirtual 167, 3) := by decide +kernel
theorem dX6_hint_5 : decode cX6_hint 5 = .ok (.ifCond .eq 10, 3) := by decide +kernel
theorem dX6_hint_8 : decode cX6_hint 8 = .ok (.iload_n 2, 1) := by decide +kernel
theorem dX6_hint_9 : decode cX6_hint 9 = .ok (.invokestatic 141, 3) := by decide +kernel
theorem dX6_hint_12 : decode cX6_hint 12 = .ok (.ifCond .ne 6, 3) := by decide +kernel
theorem dX6_hint_15 : decode cX6_hint 15 = .ok (.ldc 144, 2) := by decide +kernel
theorem dX6_hint_17 : decode cX6_hint 17 = .ok (.ireturn, 1) := by decide +kernel
theorem dX6_hint_18 : decode cX6_hint 18 = .ok (.aload_n 0, 1) := by decide +kernel
theorem dX6_hint_19 : decode cX6_hint 19 = .ok (.iload_n 1, 1) := by decide +kernel
theorem dX6_hint_20 : decode cX6_hint 20 = .ok (.iconst 1, 1) := by decide +kernel
theorem dX6_hint_21 : decode cX6_hint 21 = .ok (.invokevirtual 85, 3) := by decide +kernel
theorem dX6_hint_24 : decode cX6_hint 24 = .ok (.iload_n 2, 1) := by decide +kernel
theorem dX6_hint_25 : decode cX6_hint 25 = .ok (.ishr, 1) := by decide +kernel
theorem dX6_hint_26 : decode cX6_hint 26 = .ok (.iconst 1, 1) := by decide +kernel
theorem dX6_hint_27 : decode cX6_hint 27 = .ok (.iand, 1) := by decide +kernel
theorem dX6_hint_28 : decode cX6_hint 28 = .ok (.iload_n 3, 1) := by decide +kernel
theorem dX6_hint_29 : decode cX6_hint 29 = .ok (.ifCond .eq 7, 3) := by decide +kernel
theorem dX6_hint_32 : decode cX6_hint 32 = .ok (.iconst 1, 1) := by decide +kernel
theorem dX6_hint_33 : decode cX6_hint 33 = .ok (.goto 4, 3) := by decide +kernel
theorem dX6_hint_36 : decode cX6_hint 36 = .ok (.iconst 0, 1) := by decide +kernel
theorem dX6_hint_37 : decode cX6_hint 37 = .ok (.if_icmp .ne 6, 3) := by decide +kernel
theorem dX6_hint_40 : decode cX6_hint 40 = .ok (.ldc 73, 2) := by decide +kernel
theorem dX6_hint_42 : decode cX6_hint 42 = .ok (.ireturn, 1) := by decide +kernel
theorem dX6_hint_43 : decode cX6_hint 43 = .ok (.aload_n 0, 1) := by decide +kernel
theorem dX6_hint_44 : decode cX6_hint 44 = .ok (.invokevirtual 75, 3) := by decide +kernel
theorem dX6_hint_47 : decode cX6_hint 47 = .ok (.aload_n 0, 1) := by decide +kernel
theorem dX6_hint_48 : decode cX6_hint 48 = .ok (.iload_n 1, 1) := by decide +kernel
theorem dX6_hint_49 : decode cX6_hint 49 = .ok (.iconst 1, 1) := by decide +kernel
theorem dX6_hint_50 : decode cX6_hint 50 = .ok (.aload_n 0, 1) := by decide +kernel
theorem dX6_hint_51 : decode cX6_hint 51 = .ok (.iload_n 1, 1) := by decide +kernel
theorem dX6_hint_52 : decode cX6_hint 52 = .ok (.iconst 1, 1) := by decide +kernel
theorem dX6_hint_53 : decode cX6_hint 53 = .ok (.invokevirtual 85, 3) := by decide +kernel
theorem dX6_hint_56 : decode cX6_hint 56 = .ok (.iconst 1, 1) := by decide +kernel
theorem dX6_hint_57 : decode cX6_hint 57 = .ok (.iload_n 2, 1) := by decide +kernel
theorem dX6_hint_58 : decode cX6_hint 58 = .ok (.ishl, 1) := by decide +kernel
theorem dX6_hint_59 : decode cX6_hint 59 = .ok (.ixor, 1) := by decide +kernel
theorem dX6_hint_60 : decode cX6_hint 60 = .ok (.invokevirtual 151, 3) := by decide +kernel
theorem dX6_hint_63 : decode cX6_hint 63 = .ok (.aload_n 0, 1) := by decide +kernel
theorem dX6_hint_64 : decode cX6_hint 64 = .ok (.aload_n 0, 1) := by decide +kernel
theorem dX6_hint_65 : decode cX6_hint 65 = .ok (.iload_n 1, 1) := by decide +kernel
theorem dX6_hint_66 : decode cX6_hint 66 = .ok (.invokevirtual 170, 3) := by decide +kernel
theorem dX6_hint_69 : decode cX6_hint 69 = .ok (.invokevirtual 78, 3) := by decide +kernel
theorem dX6_hint_72 : decode cX6_hint 72 = .ok (.ireturn, 1) := by decide +kernel
theorem dX6_lose_0 : decode cX6_lose 0 = .ok (.aload_n 0, 1) := by decide +kernel
theorem dX6_lose_1 : decode cX6_lose 1 = .ok (.iload_n 1, 1) := by decide +kernel
theorem dX6_lose_2 : decode cX6_lose 2 = .ok (.invokevirtual 167, 3) := by decide +kernel
theorem dX6_lose_5 : decode cX6_lose 5 = .ok (.ifCond .eq 14, 3) := by decide +kernel
theorem dX6_lose_8 : decode cX6_lose 8 = .ok (.iload_n 2, 1) := by decide +kernel
theorem dX6_lose_9 : decode cX6_lose 9 = .ok (.i2l, 1) := by decide +kernel
theorem dX6_lose_10 : decode cX6_lose 10 = .ok (.iconst (-1), 1) := by decide +kernel
theorem dX6_lose_11 : decode cX6_lose 11 = .ok (.bipush 7, 2) := by decide +kernel
theorem dX6_lose_13 : decode cX6_lose 13 = .ok (.invokestatic 65, 3) := by decide +kernel
theorem dX6_lose_16 : decode cX6_lose 16 = .ok (.ifCond .ne 6, 3) := by decide +kernel
theorem dX6_lose_19 : decode cX6_lose 19 = .ok (.ldc 144, 2) := by decide +kernel
theorem dX6_lose_21 : decode cX6_lose 21 = .ok (.ireturn, 1) := by decide +kernel
theorem dX6_lose_22 : decode cX6_lose 22 = .ok (.aload_n 0, 1) := by decide +kernel
theorem dX6_lose_23 : decode cX6_lose 23 = .ok (.invokevirtual 75, 3) := by decide +kernel
theorem dX6_lose_26 : decode cX6_lose 26 = .ok (.aload_n 0, 1) := by decide +kernel
theorem dX6_lose_27 : decode cX6_lose 27 = .ok (.iload_n 1, 1) := by decide +kernel
theorem dX6_lose_28 : decode cX6_lose 28 = .ok (.iconst 2, 1) := by decide +kernel
theorem dX6_lose_29 : decode cX6_lose 29 = .ok (.iload_n 2, 1) := by decide +kernel
theorem dX6_lose_30 : decode cX6_lose 30 = .ok (.iconst 1, 1) := by decide +kernel
theorem dX6_lose_31 : decode cX6_lose 31 = .ok (.iadd, 1) := by decide +kernel
theorem dX6_lose_32 : decode cX6_lose 32 = .ok (.invokevirtual 151, 3) := by decide +kernel
theorem dX6_lose_35 : decode cX6_lose 35 = .ok (.aload_n 0, 1) := by decide +kernel
theorem dX6_lose_36 : decode cX6_lose 36 = .ok (.aload_n 0, 1) := by decide +kernel
theorem dX6_lose_37 : decode cX6_lose 37 = .ok (.iload_n 1, 1) := by decide +kernel
theorem dX6_lose_38 : decode cX6_lose 38 = .ok (.invokevirtual 170, 3) := by decide +kernel
theorem dX6_lose_41 : decode cX6_lose 41 = .ok (.invokevirtual 78, 3) := by decide +kernel
theorem dX6_lose_44 : decode cX6_lose 44 = .ok (.ireturn, 1) := by decide +kernel
theorem dX6_turned_0 : decode cX6_turned 0 = .ok (.aload_n 0, 1) := by decide +kernel
theorem dX6_turned_1 : decode cX6_turned 1 = .ok (.iload_n 1, 1) := by decide +kernel
theorem dX6_turned_2 : decode cX6_turned 2 = .ok (.iconst 3, 1) := by decide +kernel
theorem dX6_turned_3 : decode cX6_turned 3 = .ok (.invokevirtual 85, 3) := by decide +kernel
theorem dX6_turned_6 : decode cX6_turned 6 = .ok (.istore_n 3, 1) := by decide +kernel
theorem dX6_turned_7 : decode cX6_turned 7 = .ok (.iconst 0, 1) := by decide +kernel
theorem dX6_turned_8 : decode cX6_turned 8 = .ok (.istore 4, 2) := by decide +kernel
theorem dX6_turned_10 : decode cX6_turned 10 = .ok (.iload 4, 2) := by decide +kernel
theorem dX6_turned_12 : decode cX6_turned 12 = .ok (.iload_n 3, 1) := by decide +kernel
theorem dX6_turned_13 : decode cX6_turned 13 = .ok (.if_icmp .ge 29, 3) := by decide +kernel
theorem dX6_turned_16 : decode cX6_turned 16 = .ok (.aload_n 0, 1) := by decide +kernel
theorem dX6_turned_17 : decode cX6_turned 17 = .ok (.getfield 35, 3) := by decide +kernel
theorem dX6_turned_20 : decode cX6_turned 20 = .ok (.iload 4, 2) := by decide +kernel
theorem dX6_turned_22 : decode cX6_turned 22 = .ok (.aload_n 0, 1) := by decide +kernel
theorem dX6_turned_23 : decode cX6_turned 23 = .ok (.iload_n 1, 1) := by decide +kernel
theorem dX6_turned_24 : decode cX6_turned 24 = .ok (.iconst 4, 1) := by decide +kernel
theorem dX6_turned_25 : decode cX6_turned 25 = .ok (.iload 4, 2) := by decide +kernel
theorem dX6_turned_27 : decode cX6_turned 27 = .ok (.iload_n 2, 1) := by decide +kernel
theorem dX6_turned_28 : decode cX6_turned 28 = .ok (.iadd, 1) := by decide +kernel
theorem dX6_turned_29 : decode cX6_turned 29 = .ok (.iload_n 3, 1) := by decide +kernel
theorem dX6_turned_30 : decode cX6_turned 30 = .ok (.irem, 1) := by decide +kernel
theorem dX6_turned_31 : decode cX6_turned 31 = .ok (.iadd, 1) := by decide +kernel
theorem dX6_turned_32 : decode cX6_turned 32 = .ok (.invokevirtual 85, 3) := by decide +kernel
theorem dX6_turned_35 : decode cX6_turned 35 = .ok (.iastore, 1) := by decide +kernel
theorem dX6_turned_36 : decode cX6_turned 36 = .ok (.iinc 4 1, 3) := by decide +kernel
theorem dX6_turned_39 : decode cX6_turned 39 = .ok (.goto (-29), 3) := by decide +kernel
theorem dX6_turned_42 : decode cX6_turned 42 = .ok (.iconst 0, 1) := by decide +kernel
theorem dX6_turned_43 : decode cX6_turned 43 = .ok (.istore 4, 2) := by decide +kernel
theorem dX6_turned_45 : decode cX6_turned 45 = .ok (.iload 4, 2) := by decide +kernel
theorem dX6_turned_47 : decode cX6_turned 47 = .ok (.iload_n 3, 1) := by decide +kernel
theorem dX6_turned_48 : decode cX6_turned 48 = .ok (.if_icmp .ge 25, 3) := by decide +kernel
theorem dX6_turned_51 : decode cX6_turned 51 = .ok (.aload_n 0, 1) := by decide +kernel
theorem dX6_turned_52 : decode cX6_turned 52 = .ok (.iload_n 1, 1) := by decide +kernel
theorem dX6_turned_53 : decode cX6_turned 53 = .ok (.iconst 4, 1) := by decide +kernel
theorem dX6_turned_54 : decode cX6_turned 54 = .ok (.iload 4, 2) := by decide +kernel
theorem dX6_turned_56 : decode cX6_turned 56 = .ok (.iadd, 1) := by decide +kernel
theorem dX6_turned_57 : decode cX6_turned 57 = .ok (.aload_n 0, 1) := by decide +kernel
theorem dX6_turned_58 : decode cX6_turned 58 = .ok (.getfield 35, 3) := by decide +kernel
theorem dX6_turned_61 : decode cX6_turned 61 = .ok (.iload 4, 2) := by decide +kernel
theorem dX6_turned_63 : decode cX6_turned 63 = .ok (.iaload, 1) := by decide +kernel
theorem dX6_turned_64 : decode cX6_turned 64 = .ok (.invokevirtual 151, 3) := by decide +kernel
theorem dX6_turned_67 : decode cX6_turned 67 = .ok (.iinc 4 1, 3) := by decide +kernel
theorem dX6_turned_70 : decode cX6_turned 70 = .ok (.goto (-25), 3) := by decide +kernel
theorem dX6_turned_73 : decode cX6_turned 73 = .ok (.return_, 1) := by decide +kernel
theorem dX6_turn_0 : decode cX6_turn 0 = .ok (.aload_n 0, 1) := by decide +kernel
theorem dX6_turn_1 : decode cX6_turn 1 = .ok (.iload_n 1, 1) := by decide +kernel
theorem dX6_turn_2 : decode cX6_turn 2 = .ok (.invokevirtual 167, 3) := by decide +kernel
theorem dX6_turn_5 : decode cX6_turn 5 = .ok (.ifCond .ne 6, 3) := by decide +kernel
theorem dX6_turn_8 : decode cX6_turn 8 = .ok (.ldc 144, 2) := by decide +kernel
theorem dX6_turn_10 : decode cX6_turn 10 = .ok (.ireturn, 1) := by decide +kernel
theorem dX6_turn_11 : decode cX6_turn 11 = .ok (.iload_n 2, 1) := by decide +kernel
theorem dX6_turn_12 : decode cX6_turn 12 = .ok (.i2l, 1) := by decide +kernel
theorem dX6_turn_13 : decode cX6_turn 13 = .ok (.iconst 1, 1) := by decide +kernel
theorem dX6_turn_14 : decode cX6_turn 14 = .ok (.aload_n 0, 1) := by decide +kernel
theorem dX6_turn_15 : decode cX6_turn 15 = .ok (.iload_n 1, 1) := by decide +kernel
theorem dX6_turn_16 : decode cX6_turn 16 = .ok (.iconst 3, 1) := by decide +kernel
theorem dX6_turn_17 : decode cX6_turn 17 = .ok (.invokevirtual 85, 3) := by decide +kernel
theorem dX6_turn_20 : decode cX6_turn 20 = .ok (.iconst 1, 1) := by decide +kernel
theorem dX6_turn_21 : decode cX6_turn 21 = .ok (.isub, 1) := by decide +kernel
theorem dX6_turn_22 : decode cX6_turn 22 = .ok (.invokestatic 65, 3) := by decide +kernel
theorem dX6_turn_25 : decode cX6_turn 25 = .ok (.ifCond .ne 6, 3) := by decide +kernel
theorem dX6_turn_28 : decode cX6_turn 28 = .ok (.ldc 74, 2) := by decide +kernel
theorem dX6_turn_30 : decode cX6_turn 30 = .ok (.ireturn, 1) := by decide +kernel
theorem dX6_turn_31 : decode cX6_turn 31 = .ok (.aload_n 0, 1) := by decide +kernel
theorem dX6_turn_32 : decode cX6_turn 32 = .ok (.invokevirtual 75, 3) := by decide +kernel
theorem dX6_turn_35 : decode cX6_turn 35 = .ok (.aload_n 0, 1) := by decide +kernel
theorem dX6_turn_36 : decode cX6_turn 36 = .ok (.iload_n 1, 1) := by decide +kernel
theorem dX6_turn_37 : decode cX6_turn 37 = .ok (.iload_n 2, 1) := by decide +kernel
theorem dX6_turn_38 : decode cX6_turn 38 = .ok (.invokevirtual 173, 3) := by decide +kernel
theorem dX6_turn_41 : decode cX6_turn 41 = .ok (.aload_n 0, 1) := by decide +kernel
theorem dX6_turn_42 : decode cX6_turn 42 = .ok (.aload_n 0, 1) := by decide +kernel
theorem dX6_turn_43 : decode cX6_turn 43 = .ok (.iload_n 1, 1) := by decide +kernel
theorem dX6_turn_44 : decode cX6_turn 44 = .ok (.iconst 4, 1) := by decide +kernel
theorem dX6_turn_45 : decode cX6_turn 45 = .ok (.invokevirtual 85, 3) := by decide +kernel
theorem dX6_turn_48 : decode cX6_turn 48 = .ok (.invokevirtual 78, 3) := by decide +kernel
theorem dX6_turn_51 : decode cX6_turn 51 = .ok (.ireturn, 1) := by decide +kernel
theorem dX6_exchanged_0 : decode cX6_exchanged 0 = .ok (.aload_n 0, 1) := by decide +kernel
theorem dX6_exchanged_1 : decode cX6_exchanged 1 = .ok (.iload_n 1, 1) := by decide +kernel
theorem dX6_exchanged_2 : decode cX6_exchanged 2 = .ok (.iconst 4, 1) := by decide +kernel
theorem dX6_exchanged_3 : decode cX6_exchanged 3 = .ok (.iload_n 2, 1) := by decide +kernel
theorem dX6_exchanged_4 : decode cX6_exchanged 4 = .ok (.iadd, 1) := by decide +kernel
theorem dX6_exchanged_5 : decode cX6_exchanged 5 = .ok (.invokevirtual 85, 3) := by decide +kernel
theorem dX6_exchanged_8 : decode cX6_exchanged 8 = .ok (.istore 4, 2) := by decide +kernel
theorem dX6_exchanged_10 : decode cX6_exchanged 10 = .ok (.aload_n 0, 1) := by decide +kernel
theorem dX6_exchanged_11 : decode cX6_exchanged 11 = .ok (.iload_n 1, 1) := by decide +kernel
theorem dX6_exchanged_12 : decode cX6_exchanged 12 = .ok (.iconst 4, 1) := by decide +kernel
theorem dX6_exchanged_13 : decode cX6_exchanged 13 = .ok (.iload_n 2, 1) := by decide +kernel
theorem dX6_exchanged_14 : decode cX6_exchanged 14 = .ok (.iadd, 1) := by decide +kernel
theorem dX6_exchanged_15 : decode cX6_exchanged 15 = .ok (.aload_n 0, 1) := by decide +kernel
theorem dX6_exchanged_16 : decode cX6_exchanged 16 = .ok (.iload_n 1, 1) := by decide +kernel
theorem dX6_exchanged_17 : decode cX6_exchanged 17 = .ok (.iconst 4, 1) := by decide +kernel
theorem dX6_exchanged_18 : decode cX6_exchanged 18 = .ok (.iload_n 3, 1) := by decide +kernel
theorem dX6_exchanged_19 : decode cX6_exchanged 19 = .ok (.iadd, 1) := by decide +kernel
theorem dX6_exchanged_20 : decode cX6_exchanged 20 = .ok (.invokevirtual 85, 3) := by decide +kernel
theorem dX6_exchanged_23 : decode cX6_exchanged 23 = .ok (.invokevirtual 151, 3) := by decide +kernel
theorem dX6_exchanged_26 : decode cX6_exchanged 26 = .ok (.aload_n 0, 1) := by decide +kernel
theorem dX6_exchanged_27 : decode cX6_exchanged 27 = .ok (.iload_n 1, 1) := by decide +kernel
theorem dX6_exchanged_28 : decode cX6_exchanged 28 = .ok (.iconst 4, 1) := by decide +kernel
theorem dX6_exchanged_29 : decode cX6_exchanged 29 = .ok (.iload_n 3, 1) := by decide +kernel
theorem dX6_exchanged_30 : decode cX6_exchanged 30 = .ok (.iadd, 1) := by decide +kernel
theorem dX6_exchanged_31 : decode cX6_exchanged 31 = .ok (.iload 4, 2) := by decide +kernel
theorem dX6_exchanged_33 : decode cX6_exchanged 33 = .ok (.invokevirtual 151, 3) := by decide +kernel
theorem dX6_exchanged_36 : decode cX6_exchanged 36 = .ok (.return_, 1) := by decide +kernel
theorem dX6_exchange_0 : decode cX6_exchange 0 = .ok (.aload_n 0, 1) := by decide +kernel
theorem dX6_exchange_1 : decode cX6_exchange 1 = .ok (.iload_n 1, 1) := by decide +kernel
theorem dX6_exchange_2 : decode cX6_exchange 2 = .ok (.invokevirtual 167, 3) := by decide +kernel
theorem dX6_exchange_5 : decode cX6_exchange 5 = .ok (.ifCond .eq 37, 3) := by decide +kernel
theorem dX6_exchange_8 : decode cX6_exchange 8 = .ok (.iload_n 2, 1) := by decide +kernel
theorem dX6_exchange_9 : decode cX6_exchange 9 = .ok (.i2l, 1) := by decide +kernel
theorem dX6_exchange_10 : decode cX6_exchange 10 = .ok (.iconst 0, 1) := by decide +kernel
theorem dX6_exchange_11 : decode cX6_exchange 11 = .ok (.aload_n 0, 1) := by decide +kernel
theorem dX6_exchange_12 : decode cX6_exchange 12 = .ok (.iload_n 1, 1) := by decide +kernel
theorem dX6_exchange_13 : decode cX6_exchange 13 = .ok (.iconst 3, 1) := by decide +kernel
theorem dX6_exchange_14 : decode cX6_exchange 14 = .ok (.invokevirtual 85, 3) := by decide +kernel
theorem dX6_exchange_17 : decode cX6_exchange 17 = .ok (.iconst 1, 1) := by decide +kernel
theorem dX6_exchange_18 : decode cX6_exchange 18 = .ok (.isub, 1) := by decide +kernel
theorem dX6_exchange_19 : decode cX6_exchange 19 = .ok (.invokestatic 65, 3) := by decide +kernel
theorem dX6_exchange_22 : decode cX6_exchange 22 = .ok (.ifCond .eq 20, 3) := by decide +kernel
theorem dX6_exchange_25 : decode cX6_exchange 25 = .ok (.iload_n 3, 1) := by decide +kernel
theorem dX6_exchange_26 : decode cX6_exchange 26 = .ok (.i2l, 1) := by decide +kernel
theorem dX6_exchange_27 : decode cX6_exchange 27 = .ok (.iconst 0, 1) := by decide +kernel
theorem dX6_exchange_28 : decode cX6_exchange 28 = .ok (.aload_n 0, 1) := by decide +kernel
theorem dX6_exchange_29 : decode cX6_exchange 29 = .ok (.iload_n 1, 1) := by decide +kernel
theorem dX6_exchange_30 : decode cX6_exchange 30 = .ok (.iconst 3, 1) := by decide +kernel
theorem dX6_exchange_31 : decode cX6_exchange 31 = .ok (.invokevirtual 85, 3) := by decide +kernel
theorem dX6_exchange_34 : decode cX6_exchange 34 = .ok (.iconst 1, 1) := by decide +kernel
theorem dX6_exchange_35 : decode cX6_exchange 35 = .ok (.isub, 1) := by decide +kernel
theorem dX6_exchange_36 : decode cX6_exchange 36 = .ok (.invokestatic 65, 3) := by decide +kernel
theorem dX6_exchange_39 : decode cX6_exchange 39 = .ok (.ifCond .ne 6, 3) := by decide +kernel
theorem dX6_exchange_42 : decode cX6_exchange 42 = .ok (.ldc 144, 2) := by decide +kernel
theorem dX6_exchange_44 : decode cX6_exchange 44 = .ok (.ireturn, 1) := by decide +kernel
theorem dX6_exchange_45 : decode cX6_exchange 45 = .ok (.iload_n 2, 1) := by decide +kernel
theorem dX6_exchange_46 : decode cX6_exchange 46 = .ok (.iload_n 3, 1) := by decide +kernel
theorem dX6_exchange_47 : decode cX6_exchange 47 = .ok (.if_icmp .ne 6, 3) := by decide +kernel
theorem dX6_exchange_50 : decode cX6_exchange 50 = .ok (.ldc 74, 2) := by decide +kernel
theorem dX6_exchange_52 : decode cX6_exchange 52 = .ok (.ireturn, 1) := by decide +kernel
theorem dX6_exchange_53 : decode cX6_exchange 53 = .ok (.aload_n 0, 1) := by decide +kernel
theorem dX6_exchange_54 : decode cX6_exchange 54 = .ok (.invokevirtual 75, 3) := by decide +kernel
theorem dX6_exchange_57 : decode cX6_exchange 57 = .ok (.aload_n 0, 1) := by decide +kernel
theorem dX6_exchange_58 : decode cX6_exchange 58 = .ok (.iload_n 1, 1) := by decide +kernel
theorem dX6_exchange_59 : decode cX6_exchange 59 = .ok (.iload_n 2, 1) := by decide +kernel
theorem dX6_exchange_60 : decode cX6_exchange 60 = .ok (.iload_n 3, 1) := by decide +kernel
theorem dX6_exchange_61 : decode cX6_exchange 61 = .ok (.invokevirtual 177, 3) := by decide +kernel
theorem dX6_exchange_64 : decode cX6_exchange 64 = .ok (.aload_n 0, 1) := by decide +kernel
theorem dX6_exchange_65 : decode cX6_exchange 65 = .ok (.aload_n 0, 1) := by decide +kernel
theorem dX6_exchange_66 : decode cX6_exchange 66 = .ok (.iload_n 1, 1) := by decide +kernel
theorem dX6_exchange_67 : decode cX6_exchange 67 = .ok (.invokevirtual 170, 3) := by decide +kernel
theorem dX6_exchange_70 : decode cX6_exchange 70 = .ok (.invokevirtual 78, 3) := by decide +kernel
theorem dX6_exchange_73 : decode cX6_exchange 73 = .ok (.ireturn, 1) := by decide +kernel
theorem dX6_leastStart_0 : decode cX6_leastStart 0 = .ok (.aload_n 0, 1) := by decide +kernel
theorem dX6_leastStart_1 : decode cX6_leastStart 1 = .ok (.iload_n 1, 1) := by decide +kernel
theorem dX6_leastStart_2 : decode cX6_leastStart 2 = .ok (.iconst 0, 1) := by decide +kernel
theorem dX6_leastStart_3 : decode cX6_leastStart 3 = .ok (.invokevirtual 85, 3) := by decide +kernel
theorem dX6_leastStart_6 : decode cX6_leastStart 6 = .ok (.istore_n 3, 1) := by decide +kernel
theorem dX6_leastStart_7 : decode cX6_leastStart 7 = .ok (.ldc 99, 2) := by decide +kernel
theorem dX6_leastStart_9 : decode cX6_leastStart 9 = .ok (.istore 4, 2) := by decide +kernel
theorem dX6_leastStart_11 : decode cX6_leastStart 11 = .ok (.iconst 0, 1) := by decide +kernel
theorem dX6_leastStart_12 : decode cX6_leastStart 12 = .ok (.istore 5, 2) := by decide +kernel
theorem dX6_leastStart_14 : decode cX6_leastStart 14 = .ok (.iload 5, 2) := by decide +kernel
theorem dX6_leastStart_16 : decode cX6_leastStart 16 = .ok (.sipush 200, 3) := by decide +kernel
theorem dX6_leastStart_19 : decode cX6_leastStart 19 = .ok (.if_icmp .gt 46, 3) := by decide +kernel
theorem dX6_leastStart_22 : decode cX6_leastStart 22 = .ok (.iload 4, 2) := by decide +kernel
theorem dX6_leastStart_24 : decode cX6_leastStart 24 = .ok (.ldc 99, 2) := by decide +kernel
theorem dX6_leastStart_26 : decode cX6_leastStart 26 = .ok (.if_icmp .ne 39, 3) := by decide +kernel
theorem dX6_leastStart_29 : decode cX6_leastStart 29 = .ok (.aload_n 0, 1) := by decide +kernel
theorem dX6_leastStart_30 : decode cX6_leastStart 30 = .ok (.iload_n 1, 1) := by decide +kernel
theorem dX6_leastStart_31 : decode cX6_leastStart 31 = .ok (.iconst 0, 1) := by decide +kernel
theorem dX6_leastStart_32 : decode cX6_leastStart 32 = .ok (.iload 5, 2) := by decide +kernel
theorem dX6_leastStart_34 : decode cX6_leastStart 34 = .ok (.invokevirtual 151, 3) := by decide +kernel
theorem dX6_leastStart_37 : decode cX6_leastStart 37 = .ok (.aload_n 0, 1) := by decide +kernel
theorem dX6_leastStart_38 : decode cX6_leastStart 38 = .ok (.iload_n 2, 1) := by decide +kernel
theorem dX6_leastStart_39 : decode cX6_leastStart 39 = .ok (.invokevirtual 112, 3) := by decide +kernel
theorem dX6_leastStart_42 : decode cX6_leastStart 42 = .ok (.aload_n 0, 1) := by decide +kernel
theorem dX6_leastStart_43 : decode cX6_leastStart 43 = .ok (.iload_n 1, 1) := by decide +kernel
theorem dX6_leastStart_44 : decode cX6_leastStart 44 = .ok (.invokevirtual 180, 3) := by decide +kernel
theorem dX6_leastStart_47 : decode cX6_leastStart 47 = .ok (.ifCond .ne 8, 3) := by decide +kernel
theorem dX6_leastStart_50 : decode cX6_leastStart 50 = .ok (.iload 5, 2) := by decide +kernel
theorem dX6_leastStart_52 : decode cX6_leastStart 52 = .ok (.goto 5, 3) := by decide +kernel
theorem dX6_leastStart_55 : decode cX6_leastStart 55 = .ok (.ldc 99, 2) := by decide +kernel
theorem dX6_leastStart_57 : decode cX6_leastStart 57 = .ok (.istore 4, 2) := by decide +kernel
theorem dX6_leastStart_59 : decode cX6_leastStart 59 = .ok (.iinc 5 1, 3) := by decide +kernel
theorem dX6_leastStart_62 : decode cX6_leastStart 62 = .ok (.goto (-48), 3) := by decide +kernel
theorem dX6_leastStart_65 : decode cX6_leastStart 65 = .ok (.aload_n 0, 1) := by decide +kernel
theorem dX6_leastStart_66 : decode cX6_leastStart 66 = .ok (.iload_n 1, 1) := by decide +kernel
theorem dX6_leastStart_67 : decode cX6_leastStart 67 = .ok (.iconst 0, 1) := by decide +kernel
theorem dX6_leastStart_68 : decode cX6_leastStart 68 = .ok (.iload_n 3, 1) := by decide +kernel
theorem dX6_leastStart_69 : decode cX6_leastStart 69 = .ok (.invokevirtual 151, 3) := by decide +kernel
theorem dX6_leastStart_72 : decode cX6_leastStart 72 = .ok (.iload 4, 2) := by decide +kernel
theorem dX6_leastStart_74 : decode cX6_leastStart 74 = .ok (.ireturn, 1) := by decide +kernel
theorem dX6_part_0 : decode cX6_part 0 = .ok (.aload_n 0, 1) := by decide +kernel
theorem dX6_part_1 : decode cX6_part 1 = .ok (.invokevirtual 75, 3) := by decide +kernel
theorem dX6_part_4 : decode cX6_part 4 = .ok (.iconst 0, 1) := by decide +kernel
theorem dX6_part_5 : decode cX6_part 5 = .ok (.istore_n 1, 1) := by decide +kernel
theorem dX6_part_6 : decode cX6_part 6 = .ok (.iload_n 1, 1) := by decide +kernel
theorem dX6_part_7 : decode cX6_part 7 = .ok (.aload_n 0, 1) := by decide +kernel
theorem dX6_part_8 : decode cX6_part 8 = .ok (.getfield 7, 3) := by decide +kernel
theorem dX6_part_11 : decode cX6_part 11 = .ok (.iconst 3, 1) := by decide +kernel
theorem dX6_part_12 : decode cX6_part 12 = .ok (.iaload, 1) := by decide +kernel
theorem dX6_part_13 : decode cX6_part 13 = .ok (.if_icmp .ge 40, 3) := by decide +kernel
theorem dX6_part_16 : decode cX6_part 16 = .ok (.aload_n 0, 1) := by decide +kernel
theorem dX6_part_17 : decode cX6_part 17 = .ok (.iload_n 1, 1) := by decide +kernel
theorem dX6_part_18 : decode cX6_part 18 = .ok (.iload_n 1, 1) := by decide +kernel
theorem dX6_part_19 : decode cX6_part 19 = .ok (.iconst 1, 1) := by decide +kernel
theorem dX6_part_20 : decode cX6_part 20 = .ok (.iadd, 1) := by decide +kernel
theorem dX6_part_21 : decode cX6_part 21 = .ok (.invokevirtual 183, 3) := by decide +kernel
theorem dX6_part_24 : decode cX6_part 24 = .ok (.istore_n 2, 1) := by decide +kernel
theorem dX6_part_25 : decode cX6_part 25 = .ok (.aload_n 0, 1) := by decide +kernel
theorem dX6_part_26 : decode cX6_part 26 = .ok (.iload_n 1, 1) := by decide +kernel
theorem dX6_part_27 : decode cX6_part 27 = .ok (.iconst 0, 1) := by decide +kernel
theorem dX6_part_28 : decode cX6_part 28 = .ok (.iload_n 2, 1) := by decide +kernel
theorem dX6_part_29 : decode cX6_part 29 = .ok (.ldc 99, 2) := by decide +kernel
theorem dX6_part_31 : decode cX6_part 31 = .ok (.if_icmp .ne 12, 3) := by decide +kernel
theorem dX6_part_34 : decode cX6_part 34 = .ok (.aload_n 0, 1) := by decide +kernel
theorem dX6_part_35 : decode cX6_part 35 = .ok (.iload_n 1, 1) := by decide +kernel
theorem dX6_part_36 : decode cX6_part 36 = .ok (.iconst 0, 1) := by decide +kernel
theorem dX6_part_37 : decode cX6_part 37 = .ok (.invokevirtual 85, 3) := by decide +kernel
theorem dX6_part_40 : decode cX6_part 40 = .ok (.goto 4, 3) := by decide +kernel
theorem dX6_part_43 : decode cX6_part 43 = .ok (.iload_n 2, 1) := by decide +kernel
theorem dX6_part_44 : decode cX6_part 44 = .ok (.invokevirtual 151, 3) := by decide +kernel
theorem dX6_part_47 : decode cX6_part 47 = .ok (.iinc 1 1, 3) := by decide +kernel
theorem dX6_part_50 : decode cX6_part 50 = .ok (.goto (-44), 3) := by decide +kernel
theorem dX6_part_53 : decode cX6_part 53 = .ok (.aload_n 0, 1) := by decide +kernel
theorem dX6_part_54 : decode cX6_part 54 = .ok (.invokevirtual 138, 3) := by decide +kernel
theorem dX6_part_57 : decode cX6_part 57 = .ok (.aload_n 0, 1) := by decide +kernel
theorem dX6_part_58 : decode cX6_part 58 = .ok (.aload_n 0, 1) := by decide +kernel
theorem dX6_part_59 : decode cX6_part 59 = .ok (.invokevirtual 186, 3) := by decide +kernel
theorem dX6_part_62 : decode cX6_part 62 = .ok (.invokevirtual 78, 3) := by decide +kernel
theorem dX6_part_65 : decode cX6_part 65 = .ok (.ireturn, 1) := by decide +kernel
theorem dX6_visit_0 : decode cX6_visit 0 = .ok (.aload_n 0, 1) := by decide +kernel
theorem dX6_visit_1 : decode cX6_visit 1 = .ok (.iload_n 1, 1) := by decide +kernel
theorem dX6_visit_2 : decode cX6_visit 2 = .ok (.invokevirtual 167, 3) := by decide +kernel
theorem dX6_visit_5 : decode cX6_visit 5 = .ok (.ifCond .ne 6, 3) := by decide +kernel
theorem dX6_visit_8 : decode cX6_visit 8 = .ok (.ldc 144, 2) := by decide +kernel
theorem dX6_visit_10 : decode cX6_visit 10 = .ok (.ireturn, 1) := by decide +kernel
theorem dX6_visit_11 : decode cX6_visit 11 = .ok (.iload_n 3, 1) := by decide +kernel
theorem dX6_visit_12 : decode cX6_visit 12 = .ok (.i2l, 1) := by decide +kernel
theorem dX6_visit_13 : decode cX6_visit 13 = .ok (.iconst 0, 1) := by decide +kernel
theorem dX6_visit_14 : decode cX6_visit 14 = .ok (.iconst 4, 1) := by decide +kernel
theorem dX6_visit_15 : decode cX6_visit 15 = .ok (.invokestatic 65, 3) := by decide +kernel
theorem dX6_visit_18 : decode cX6_visit 18 = .ok (.ifCond .ne 6, 3) := by decide +kernel
theorem dX6_visit_21 : decode cX6_visit 21 = .ok (.ldc 74, 2) := by decide +kernel
theorem dX6_visit_23 : decode cX6_visit 23 = .ok (.ireturn, 1) := by decide +kernel
theorem dX6_visit_24 : decode cX6_visit 24 = .ok (.aload_n 0, 1) := by decide +kernel
theorem dX6_visit_25 : decode cX6_visit 25 = .ok (.invokevirtual 138, 3) := by decide +kernel
theorem dX6_visit_28 : decode cX6_visit 28 = .ok (.iload_n 2, 1) := by decide +kernel
theorem dX6_visit_29 : decode cX6_visit 29 = .ok (.i2l, 1) := by decide +kernel
theorem dX6_visit_30 : decode cX6_visit 30 = .ok (.iconst 0, 1) := by decide +kernel
theorem dX6_visit_31 : decode cX6_visit 31 = .ok (.aload_n 0, 1) := by decide +kernel
theorem dX6_visit_32 : decode cX6_visit 32 = .ok (.getfield 38, 3) := by decide +kernel
theorem dX6_visit_35 : decode cX6_visit 35 = .ok (.iload_n 1, 1) := by decide +kernel
theorem dX6_visit_36 : decode cX6_visit 36 = .ok (.iaload, 1) := by decide +kernel
theorem dX6_visit_37 : decode cX6_visit 37 = .ok (.iconst 1, 1) := by decide +kernel
theorem dX6_visit_38 : decode cX6_visit 38 = .ok (.isub, 1) := by decide +kernel
theorem dX6_visit_39 : decode cX6_visit 39 = .ok (.invokestatic 65, 3) := by decide +kernel
theorem dX6_visit_42 : decode cX6_visit 42 = .ok (.ifCond .ne 6, 3) := by decide +kernel
theorem dX6_visit_45 : decode cX6_visit 45 = .ok (.ldc 99, 2) := by decide +kernel
theorem dX6_visit_47 : decode cX6_visit 47 = .ok (.ireturn, 1) := by decide +kernel
theorem dX6_visit_48 : decode cX6_visit 48 = .ok (.bipush 8, 2) := by decide +kernel
theorem dX6_visit_50 : decode cX6_visit 50 = .ok (.iload_n 1, 1) := by decide +kernel
theorem dX6_visit_51 : decode cX6_visit 51 = .ok (.imul, 1) := by decide +kernel
theorem dX6_visit_52 : decode cX6_visit 52 = .ok (.iload_n 2, 1) := by decide +kernel
theorem dX6_visit_53 : decode cX6_visit 53 = .ok (.iadd, 1) := by decide +kernel
theorem dX6_visit_54 : decode cX6_visit 54 = .ok (.istore 4, 2) := by decide +kernel
theorem dX6_visit_56 : decode cX6_visit 56 = .ok (.iload_n 3, 1) := by decide +kernel
theorem dX6_visit_57 : decode cX6_visit 57 = .ok (.ifCond .ne 13, 3) := by decide +kernel
theorem dX6_visit_60 : decode cX6_visit 60 = .ok (.aload_n 0, 1) := by decide +kernel
theorem dX6_visit_61 : decode cX6_visit 61 = .ok (.getfield 41, 3) := by decide +kernel
theorem dX6_visit_64 : decode cX6_visit 64 = .ok (.iload 4, 2) := by decide +kernel
theorem dX6_visit_66 : decode cX6_visit 66 = .ok (.iaload, 1) := by decide +kernel
theorem dX6_visit_67 : decode cX6_visit 67 = .ok (.goto 55, 3) := by decide +kernel
theorem dX6_visit_70 : decode cX6_visit 70 = .ok (.iload_n 3, 1) := by decide +kernel
theorem dX6_visit_71 : decode cX6_visit 71 = .ok (.iconst 1, 1) := by decide +kernel
theorem dX6_visit_72 : decode cX6_visit 72 = .ok (.if_icmp .ne 13, 3) := by decide +kernel
theorem dX6_visit_75 : decode cX6_visit 75 = .ok (.aload_n 0, 1) := by decide +kernel
theorem dX6_visit_76 : decode cX6_visit 76 = .ok (.getfield 44, 3) := by decide +kernel
theorem dX6_visit_79 : decode cX6_visit 79 = .ok (.iload 4, 2) := by decide +kernel
theorem dX6_visit_81 : decode cX6_visit 81 = .ok (.iaload, 1) := by decide +kernel
theorem dX6_visit_82 : decode cX6_visit 82 = .ok (.goto 40, 3) := by decide +kernel
theorem dX6_visit_85 : decode cX6_visit 85 = .ok (.iload_n 3, 1) := by decide +kernel
theorem dX6_visit_86 : decode cX6_visit 86 = .ok (.iconst 2, 1) := by decide +kernel
theorem dX6_visit_87 : decode cX6_visit 87 = .ok (.if_icmp .ne 13, 3) := by decide +kernel
theorem dX6_visit_90 : decode cX6_visit 90 = .ok (.aload_n 0, 1) := by decide +kernel
theorem dX6_visit_91 : decode cX6_visit 91 = .ok (.getfield 47, 3) := by decide +kernel
theorem dX6_visit_94 : decode cX6_visit 94 = .ok (.iload 4, 2) := by decide +kernel
theorem dX6_visit_96 : decode cX6_visit 96 = .ok (.iaload, 1) := by decide +kernel
theorem dX6_visit_97 : decode cX6_visit 97 = .ok (.goto 25, 3) := by decide +kernel
theorem dX6_visit_100 : decode cX6_visit 100 = .ok (.iload_n 3, 1) := by decide +kernel
theorem dX6_visit_101 : decode cX6_visit 101 = .ok (.iconst 3, 1) := by decide +kernel
theorem dX6_visit_102 : decode cX6_visit 102 = .ok (.if_icmp .ne 13, 3) := by decide +kernel
theorem dX6_visit_105 : decode cX6_visit 105 = .ok (.aload_n 0, 1) := by decide +kernel
theorem dX6_visit_106 : decode cX6_visit 106 = .ok (.getfield 50, 3) := by decide +kernel
theorem dX6_visit_109 : decode cX6_visit 109 = .ok (.iload 4, 2) := by decide +kernel
theorem dX6_visit_111 : decode cX6_visit 111 = .ok (.iaload, 1) := by decide +kernel
theorem dX6_visit_112 : decode cX6_visit 112 = .ok (.goto 10, 3) := by decide +kernel
theorem dX6_visit_115 : decode cX6_visit 115 = .ok (.aload_n 0, 1) := by decide +kernel
theorem dX6_visit_116 : decode cX6_visit 116 = .ok (.getfield 53, 3) := by decide +kernel
theorem dX6_visit_119 : decode cX6_visit 119 = .ok (.iload 4, 2) := by decide +kernel
theorem dX6_visit_121 : decode cX6_visit 121 = .ok (.iaload, 1) := by decide +kernel
theorem dX6_visit_122 : decode cX6_visit 122 = .ok (.ireturn, 1) := by decide +kernel
theorem dX6_walked_0 : decode cX6_walked 0 = .ok (.iconst 0, 1) := by decide +kernel
theorem dX6_walked_1 : decode cX6_walked 1 = .ok (.istore_n 2, 1) := by decide +kernel
theorem dX6_walked_2 : decode cX6_walked 2 = .ok (.bipush 8, 2) := by decide +kernel
theorem dX6_walked_4 : decode cX6_walked 4 = .ok (.iload_n 1, 1) := by decide +kernel
theorem dX6_walked_5 : decode cX6_walked 5 = .ok (.imul, 1) := by decide +kernel
theorem dX6_walked_6 : decode cX6_walked 6 = .ok (.istore_n 3, 1) := by decide +kernel
theorem dX6_walked_7 : decode cX6_walked 7 = .ok (.iload_n 3, 1) := by decide +kernel
theorem dX6_walked_8 : decode cX6_walked 8 = .ok (.bipush 8, 2) := by decide +kernel
theorem dX6_walked_10 : decode cX6_walked 10 = .ok (.iload_n 1, 1) := by decide +kernel
theorem dX6_walked_11 : decode cX6_walked 11 = .ok (.imul, 1) := by decide +kernel
theorem dX6_walked_12 : decode cX6_walked 12 = .ok (.aload_n 0, 1) := by decide +kernel
theorem dX6_walked_13 : decode cX6_walked 13 = .ok (.getfield 38, 3) := by decide +kernel
theorem dX6_walked_16 : decode cX6_walked 16 = .ok (.iload_n 1, 1) := by decide +kernel
theorem dX6_walked_17 : decode cX6_walked 17 = .ok (.iaload, 1) := by decide +kernel
theorem dX6_walked_18 : decode cX6_walked 18 = .ok (.iadd, 1) := by decide +kernel
theorem dX6_walked_19 : decode cX6_walked 19 = .ok (.if_icmp .ge 18, 3) := by decide +kernel
theorem dX6_walked_22 : decode cX6_walked 22 = .ok (.iload_n 2, 1) := by decide +kernel
theorem dX6_walked_23 : decode cX6_walked 23 = .ok (.aload_n 0, 1) := by decide +kernel
theorem dX6_walked_24 : decode cX6_walked 24 = .ok (.getfield 53, 3) := by decide +kernel
theorem dX6_walked_27 : decode cX6_walked 27 = .ok (.iload_n 3, 1) := by decide +kernel
theorem dX6_walked_28 : decode cX6_walked 28 = .ok (.iaload, 1) := by decide +kernel
theorem dX6_walked_29 : decode cX6_walked 29 = .ok (.iadd, 1) := by decide +kernel
theorem dX6_walked_30 : decode cX6_walked 30 = .ok (.istore_n 2, 1) := by decide +kernel
theorem dX6_walked_31 : decode cX6_walked 31 = .ok (.iinc 3 1, 3) := by decide +kernel
theorem dX6_walked_34 : decode cX6_walked 34 = .ok (.goto (-27), 3) := by decide +kernel
theorem dX6_walked_37 : decode cX6_walked 37 = .ok (.iload_n 2, 1) := by decide +kernel
theorem dX6_walked_38 : decode cX6_walked 38 = .ok (.ireturn, 1) := by decide +kernel
theorem dX6_teamOf_0 : decode cX6_teamOf 0 = .ok (.aload_n 0, 1) := by decide +kernel
theorem dX6_teamOf_1 : decode cX6_teamOf 1 = .ok (.iload_n 1, 1) := by decide +kernel
theorem dX6_teamOf_2 : decode cX6_teamOf 2 = .ok (.invokevirtual 167, 3) := by decide +kernel
theorem dX6_teamOf_5 : decode cX6_teamOf 5 = .ok (.ifCond .ne 6, 3) := by decide +kernel
theorem dX6_teamOf_8 : decode cX6_teamOf 8 = .ok (.ldc 144, 2) := by decide +kernel
theorem dX6_teamOf_10 : decode cX6_teamOf 10 = .ok (.ireturn, 1) := by decide +kernel
theorem dX6_teamOf_11 : decode cX6_teamOf 11 = .ok (.aload_n 0, 1) := by decide +kernel
theorem dX6_teamOf_12 : decode cX6_teamOf 12 = .ok (.invokevirtual 138, 3) := by decide +kernel
theorem dX6_teamOf_15 : decode cX6_teamOf 15 = .ok (.iload_n 2, 1) := by decide +kernel
theorem dX6_teamOf_16 : decode cX6_teamOf 16 = .ok (.tableswitch 120 0 9 #[56, 63, 70, 77, 84, 90, 96, 102, 108, 114], 56) := by decide +kernel
theorem dX6_teamOf_72 : decode cX6_teamOf 72 = .ok (.aload_n 0, 1) := by decide +kernel
theorem dX6_teamOf_73 : decode cX6_teamOf 73 = .ok (.iload_n 1, 1) := by decide +kernel
theorem dX6_teamOf_74 : decode cX6_teamOf 74 = .ok (.iconst 0, 1) := by decide +kernel
theorem dX6_teamOf_75 : decode cX6_teamOf 75 = .ok (.invokevirtual 85, 3) := by decide +kernel
theorem dX6_teamOf_78 : decode cX6_teamOf 78 = .ok (.ireturn, 1) := by decide +kernel
theorem dX6_teamOf_79 : decode cX6_teamOf 79 = .ok (.aload_n 0, 1) := by decide +kernel
theorem dX6_teamOf_80 : decode cX6_teamOf 80 = .ok (.getfield 56, 3) := by decide +kernel
theorem dX6_teamOf_83 : decode cX6_teamOf 83 = .ok (.iload_n 1, 1) := by decide +kernel
theorem dX6_teamOf_84 : decode cX6_teamOf 84 = .ok (.iaload, 1) := by decide +kernel
theorem dX6_teamOf_85 : decode cX6_teamOf 85 = .ok (.ireturn, 1) := by decide +kernel
theorem dX6_teamOf_86 : decode cX6_teamOf 86 = .ok (.aload_n 0, 1) := by decide +kernel
theorem dX6_teamOf_87 : decode cX6_teamOf 87 = .ok (.iload_n 1, 1) := by decide +kernel
theorem dX6_teamOf_88 : decode cX6_teamOf 88 = .ok (.iconst 3, 1) := by decide +kernel
theorem dX6_teamOf_89 : decode cX6_teamOf 89 = .ok (.invokevirtual 85, 3) := by decide +kernel
theorem dX6_teamOf_92 : decode cX6_teamOf 92 = .ok (.ireturn, 1) := by decide +kernel
theorem dX6_teamOf_93 : decode cX6_teamOf 93 = .ok (.aload_n 0, 1) := by decide +kernel
theorem dX6_teamOf_94 : decode cX6_teamOf 94 = .ok (.getfield 38, 3) := by decide +kernel
theorem dX6_teamOf_97 : decode cX6_teamOf 97 = .ok (.iload_n 1, 1) := by decide +kernel
theorem dX6_teamOf_98 : decode cX6_teamOf 98 = .ok (.iaload, 1) := by decide +kernel
theorem dX6_teamOf_99 : decode cX6_teamOf 99 = .ok (.ireturn, 1) := by decide +kernel
theorem dX6_teamOf_100 : decode cX6_teamOf 100 = .ok (.aload_n 0, 1) := by decide +kernel
theorem dX6_teamOf_101 : decode cX6_teamOf 101 = .ok (.iload_n 1, 1) := by decide +kernel
theorem dX6_teamOf_102 : decode cX6_teamOf 102 = .ok (.invokevirtual 126, 3) := by decide +kernel
theorem dX6_teamOf_105 : decode cX6_teamOf 105 = .ok (.ireturn, 1) := by decide +kernel
theorem dX6_teamOf_106 : decode cX6_teamOf 106 = .ok (.aload_n 0, 1) := by decide +kernel
theorem dX6_teamOf_107 : decode cX6_teamOf 107 = .ok (.iload_n 1, 1) := by decide +kernel
theorem dX6_teamOf_108 : decode cX6_teamOf 108 = .ok (.invokevirtual 189, 3) := by decide +kernel
theorem dX6_teamOf_111 : decode cX6_teamOf 111 = .ok (.ireturn, 1) := by decide +kernel
theorem dX6_teamOf_112 : decode cX6_teamOf 112 = .ok (.aload_n 0, 1) := by decide +kernel
theorem dX6_teamOf_113 : decode cX6_teamOf 113 = .ok (.iload_n 1, 1) := by decide +kernel
theorem dX6_teamOf_114 : decode cX6_teamOf 114 = .ok (.invokevirtual 132, 3) := by decide +kernel
theorem dX6_teamOf_117 : decode cX6_teamOf 117 = .ok (.ireturn, 1) := by decide +kernel
theorem dX6_teamOf_118 : decode cX6_teamOf 118 = .ok (.aload_n 0, 1) := by decide +kernel
theorem dX6_teamOf_119 : decode cX6_teamOf 119 = .ok (.iload_n 1, 1) := by decide +kernel
theorem dX6_teamOf_120 : decode cX6_teamOf 120 = .ok (.invokevirtual 192, 3) := by decide +kernel
theorem dX6_teamOf_123 : decode cX6_teamOf 123 = .ok (.ireturn, 1) := by decide +kernel
theorem dX6_teamOf_124 : decode cX6_teamOf 124 = .ok (.aload_n 0, 1) := by decide +kernel
theorem dX6_teamOf_125 : decode cX6_teamOf 125 = .ok (.iload_n 1, 1) := by decide +kernel
theorem dX6_teamOf_126 : decode cX6_teamOf 126 = .ok (.invokevirtual 129, 3) := by decide +kernel
theorem dX6_teamOf_129 : decode cX6_teamOf 129 = .ok (.ireturn, 1) := by decide +kernel
theorem dX6_teamOf_130 : decode cX6_teamOf 130 = .ok (.aload_n 0, 1) := by decide +kernel
theorem dX6_teamOf_131 : decode cX6_teamOf 131 = .ok (.iload_n 1, 1) := by decide +kernel
theorem dX6_teamOf_132 : decode cX6_teamOf 132 = .ok (.invokevirtual 180, 3) := by decide +kernel
theorem dX6_teamOf_135 : decode cX6_teamOf 135 = .ok (.ireturn, 1) := by decide +kernel
theorem dX6_teamOf_136 : decode cX6_teamOf 136 = .ok (.ldc 74, 2) := by decide +kernel
theorem dX6_teamOf_138 : decode cX6_teamOf 138 = .ok (.ireturn, 1) := by decide +kernel
theorem dX6_atPlace_0 : decode cX6_atPlace 0 = .ok (.iconst 0, 1) := by decide +kernel
theorem dX6_atPlace_1 : decode cX6_atPlace 1 = .ok (.istore_n 3, 1) := by decide +kernel
theorem dX6_atPlace_2 : decode cX6_atPlace 2 = .ok (.iconst 0, 1) := by decide +kernel
theorem dX6_atPlace_3 : decode cX6_atPlace 3 = .ok (.istore 4, 2) := by decide +kernel
theorem dX6_atPlace_5 : decode cX6_atPlace 5 = .ok (.iconst 0, 1) := by decide +kernel
theorem dX6_atPlace_6 : decode cX6_atPlace 6 = .ok (.istore 5, 2) := by decide +kernel
theorem dX6_atPlace_8 : decode cX6_atPlace 8 = .ok (.iconst 0, 1) := by decide +kernel
theorem dX6_atPlace_9 : decode cX6_atPlace 9 = .ok (.istore 6, 2) := by decide +kernel
theorem dX6_atPlace_11 : decode cX6_atPlace 11 = .ok (.iload 6, 2) := by decide +kernel
theorem dX6_atPlace_13 : decode cX6_atPlace 13 = .ok (.aload_n 0, 1) := by decide +kernel
theorem dX6_atPlace_14 : decode cX6_atPlace 14 = .ok (.getfield 82, 3) := by decide +kernel
theorem dX6_atPlace_17 : decode cX6_atPlace 17 = .ok (.if_icmp .ge 90, 3) := by decide +kernel
theorem dX6_atPlace_20 : decode cX6_atPlace 20 = .ok (.aload_n 0, 1) := by decide +kernel
theorem dX6_atPlace_21 : decode cX6_atPlace 21 = .ok (.iload 6, 2) := by decide +kernel
theorem dX6_atPlace_23 : decode cX6_atPlace 23 = .ok (.iload_n 1, 1) := by decide +kernel
theorem dX6_atPlace_24 : decode cX6_atPlace 24 = .ok (.invokevirtual 115, 3) := by decide +kernel
theorem dX6_atPlace_27 : decode cX6_atPlace 27 = .ok (.istore 7, 2) := by decide +kernel
theorem dX6_atPlace_29 : decode cX6_atPlace 29 = .ok (.iload 7, 2) := by decide +kernel
theorem dX6_atPlace_31 : decode cX6_atPlace 31 = .ok (.ldc 99, 2) := by decide +kernel
theorem dX6_atPlace_33 : decode cX6_atPlace 33 = .ok (.if_icmp .eq 30, 3) := by decide +kernel
theorem dX6_atPlace_36 : decode cX6_atPlace 36 = .ok (.iload_n 3, 1) := by decide +kernel
theorem dX6_atPlace_37 : decode cX6_atPlace 37 = .ok (.iconst 1, 1) := by decide +kernel
theorem dX6_atPlace_38 : decode cX6_atPlace 38 = .ok (.iload 6, 2) := by decide +kernel
theorem dX6_atPlace_40 : decode cX6_atPlace 40 = .ok (.ishl, 1) := by decide +kernel
theorem dX6_atPlace_41 : decode cX6_atPlace 41 = .ok (.ior, 1) := by decide +kernel
theorem dX6_atPlace_42 : decode cX6_atPlace 42 = .ok (.istore_n 3, 1) := by decide +kernel
theorem dX6_atPlace_43 : decode cX6_atPlace 43 = .ok (.iload 4, 2) := by decide +kernel
theorem dX6_atPlace_45 : decode cX6_atPlace 45 = .ok (.aload_n 0, 1) := by decide +kernel
theorem dX6_atPlace_46 : decode cX6_atPlace 46 = .ok (.getfield 47, 3) := by decide +kernel
theorem dX6_atPlace_49 : decode cX6_atPlace 49 = .ok (.iload 7, 2) := by decide +kernel
theorem dX6_atPlace_51 : decode cX6_atPlace 51 = .ok (.iaload, 1) := by decide +kernel
theorem dX6_atPlace_52 : decode cX6_atPlace 52 = .ok (.aload_n 0, 1) := by decide +kernel
theorem dX6_atPlace_53 : decode cX6_atPlace 53 = .ok (.getfield 44, 3) := by decide +kernel
theorem dX6_atPlace_56 : decode cX6_atPlace 56 = .ok (.iload 7, 2) := by decide +kernel
theorem dX6_atPlace_58 : decode cX6_atPlace 58 = .ok (.iaload, 1) := by decide +kernel
theorem dX6_atPlace_59 : decode cX6_atPlace 59 = .ok (.isub, 1) := by decide +kernel
theorem dX6_atPlace_60 : decode cX6_atPlace 60 = .ok (.iadd, 1) := by decide +kernel
theorem dX6_atPlace_61 : decode cX6_atPlace 61 = .ok (.istore 4, 2) := by decide +kernel
theorem dX6_atPlace_63 : decode cX6_atPlace 63 = .ok (.iconst 0, 1) := by decide +kernel
theorem dX6_atPlace_64 : decode cX6_atPlace 64 = .ok (.istore 8, 2) := by decide +kernel
theorem dX6_atPlace_66 : decode cX6_atPlace 66 = .ok (.iload 8, 2) := by decide +kernel
theorem dX6_atPlace_68 : decode cX6_atPlace 68 = .ok (.iload 6, 2) := by decide +kernel
theorem dX6_atPlace_70 : decode cX6_atPlace 70 = .ok (.if_icmp .ge 31, 3) := by decide +kernel
theorem dX6_atPlace_73 : decode cX6_atPlace 73 = .ok (.iload 5, 2) := by decide +kernel
theorem dX6_atPlace_75 : decode cX6_atPlace 75 = .ok (.aload_n 0, 1) := by decide +kernel
theorem dX6_atPlace_76 : decode cX6_atPlace 76 = .ok (.iload 6, 2) := by decide +kernel
theorem dX6_atPlace_78 : decode cX6_atPlace 78 = .ok (.iload 8, 2) := by decide +kernel
theorem dX6_atPlace_80 : decode cX6_atPlace 80 = .ok (.iload_n 1, 1) := by decide +kernel
theorem dX6_atPlace_81 : decode cX6_atPlace 81 = .ok (.invokevirtual 118, 3) := by decide +kernel
theorem dX6_atPlace_84 : decode cX6_atPlace 84 = .ok (.ifCond .eq 7, 3) := by decide +kernel
theorem dX6_atPlace_87 : decode cX6_atPlace 87 = .ok (.iconst 1, 1) := by decide +kernel
theorem dX6_atPlace_88 : decode cX6_atPlace 88 = .ok (.goto 4, 3) := by decide +kernel
theorem dX6_atPlace_91 : decode cX6_atPlace 91 = .ok (.iconst 0, 1) := by decide +kernel
theorem dX6_atPlace_92 : decode cX6_atPlace 92 = .ok (.iadd, 1) := by decide +kernel
theorem dX6_atPlace_93 : decode cX6_atPlace 93 = .ok (.istore 5, 2) := by decide +kernel
theorem dX6_atPlace_95 : decode cX6_atPlace 95 = .ok (.iinc 8 1, 3) := by decide +kernel
theorem dX6_atPlace_98 : decode cX6_atPlace 98 = .ok (.goto (-32), 3) := by decide +kernel
theorem dX6_atPlace_101 : decode cX6_atPlace 101 = .ok (.iinc 6 1, 3) := by decide +kernel
theorem dX6_atPlace_104 : decode cX6_atPlace 104 = .ok (.goto (-93), 3) := by decide +kernel
theorem dX6_atPlace_107 : decode cX6_atPlace 107 = .ok (.iload_n 2, 1) := by decide +kernel
theorem dX6_atPlace_108 : decode cX6_atPlace 108 = .ok (.iconst 4, 1) := by decide +kernel
theorem dX6_atPlace_109 : decode cX6_atPlace 109 = .ok (.if_icmp .ne 7, 3) := by decide +kernel
theorem dX6_atPlace_112 : decode cX6_atPlace 112 = .ok (.iload_n 3, 1) := by decide +kernel
theorem dX6_atPlace_113 : decode cX6_atPlace 113 = .ok (.goto 15, 3) := by decide +kernel
theorem dX6_atPlace_116 : decode cX6_atPlace 116 = .ok (.iload_n 2, 1) := by decide +kernel
theorem dX6_atPlace_117 : decode cX6_atPlace 117 = .ok (.iconst 5, 1) := by decide +kernel
theorem dX6_atPlace_118 : decode cX6_atPlace 118 = .ok (.if_icmp .ne 8, 3) := by decide +kernel
theorem dX6_atPlace_121 : decode cX6_atPlace 121 = .ok (.iload 4, 2) := by decide +kernel
theorem dX6_atPlace_123 : decode cX6_atPlace 123 = .ok (.goto 5, 3) := by decide +kernel
theorem dX6_atPlace_126 : decode cX6_atPlace 126 = .ok (.iload 5, 2) := by decide +kernel
theorem dX6_atPlace_128 : decode cX6_atPlace 128 = .ok (.ireturn, 1) := by decide +kernel
theorem dX6_crowd_0 : decode cX6_crowd 0 = .ok (.iconst 0, 1) := by decide +kernel
theorem dX6_crowd_1 : decode cX6_crowd 1 = .ok (.istore_n 2, 1) := by decide +kernel
theorem dX6_crowd_2 : decode cX6_crowd 2 = .ok (.iconst 0, 1) := by decide +kernel
theorem dX6_crowd_3 : decode cX6_crowd 3 = .ok (.istore_n 3, 1) := by decide +kernel
theorem dX6_crowd_4 : decode cX6_crowd 4 = .ok (.iload_n 3, 1) := by decide +kernel
theorem dX6_crowd_5 : decode cX6_crowd 5 = .ok (.aload_n 0, 1) := by decide +kernel
theorem dX6_crowd_6 : decode cX6_crowd 6 = .ok (.getfield 82, 3) := by decide +kernel
theorem dX6_crowd_9 : decode cX6_crowd 9 = .ok (.if_icmp .ge 118, 3) := by decide +kernel
theorem dX6_crowd_12 : decode cX6_crowd 12 = .ok (.aload_n 0, 1) := by decide +kernel
theorem dX6_crowd_13 : decode cX6_crowd 13 = .ok (.iload_n 3, 1) := by decide +kernel
theorem dX6_crowd_14 : decode cX6_crowd 14 = .ok (.iload_n 1, 1) := by decide +kernel
theorem dX6_crowd_15 : decode cX6_crowd 15 = .ok (.invokevirtual 115, 3) := by decide +kernel
theorem dX6_crowd_18 : decode cX6_crowd 18 = .ok (.istore 4, 2) := by decide +kernel
theorem dX6_crowd_20 : decode cX6_crowd 20 = .ok (.iconst 0, 1) := by decide +kernel
theorem dX6_crowd_21 : decode cX6_crowd 21 = .ok (.istore 5, 2) := by decide +kernel
theorem dX6_crowd_23 : decode cX6_crowd 23 = .ok (.iconst 0, 1) := by decide +kernel
theorem dX6_crowd_24 : decode cX6_crowd 24 = .ok (.istore 6, 2) := by decide +kernel
theorem dX6_crowd_26 : decode cX6_crowd 26 = .ok (.iload 6, 2) := by decide +kernel
theorem dX6_crowd_28 : decode cX6_crowd 28 = .ok (.aload_n 0, 1) := by decide +kernel
theorem dX6_crowd_29 : decode cX6_crowd 29 = .ok (.getfield 82, 3) := by decide +kernel
theorem dX6_crowd_32 : decode cX6_crowd 32 = .ok (.if_icmp .ge 76, 3) := by decide +kernel
theorem dX6_crowd_35 : decode cX6_crowd 35 = .ok (.iload 4, 2) := by decide +kernel
theorem dX6_crowd_37 : decode cX6_crowd 37 = .ok (.ldc 99, 2) := by decide +kernel
theorem dX6_crowd_39 : decode cX6_crowd 39 = .ok (.if_icmp .eq 69, 3) := by decide +kernel
theorem dX6_crowd_42 : decode cX6_crowd 42 = .ok (.aload_n 0, 1) := by decide +kernel
theorem dX6_crowd_43 : decode cX6_crowd 43 = .ok (.iload 6, 2) := by decide +kernel
theorem dX6_crowd_45 : decode cX6_crowd 45 = .ok (.iload_n 1, 1) := by decide +kernel
theorem dX6_crowd_46 : decode cX6_crowd 46 = .ok (.invokevirtual 115, 3) := by decide +kernel
theorem dX6_crowd_49 : decode cX6_crowd 49 = .ok (.istore 7, 2) := by decide +kernel
theorem dX6_crowd_51 : decode cX6_crowd 51 = .ok (.iload 5, 2) := by decide +kernel
theorem dX6_crowd_53 : decode cX6_crowd 53 = .ok (.iload 7, 2) := by decide +kernel
theorem dX6_crowd_55 : decode cX6_crowd 55 = .ok (.ldc 99, 2) := by decide +kernel
theorem dX6_crowd_57 : decode cX6_crowd 57 = .ok (.if_icmp .eq 41, 3) := by decide +kernel
theorem dX6_crowd_60 : decode cX6_crowd 60 = .ok (.aload_n 0, 1) := by decide +kernel
theorem dX6_crowd_61 : decode cX6_crowd 61 = .ok (.getfield 44, 3) := by decide +kernel
theorem dX6_crowd_64 : decode cX6_crowd 64 = .ok (.iload 7, 2) := by decide +kernel
theorem dX6_crowd_66 : decode cX6_crowd 66 = .ok (.iaload, 1) := by decide +kernel
theorem dX6_crowd_67 : decode cX6_crowd 67 = .ok (.aload_n 0, 1) := by decide +kernel
theorem dX6_crowd_68 : decode cX6_crowd 68 = .ok (.getfield 44, 3) := by decide +kernel
theorem dX6_crowd_71 : decode cX6_crowd 71 = .ok (.iload 4, 2) := by decide +kernel
theorem dX6_crowd_73 : decode cX6_crowd 73 = .ok (.iaload, 1) := by decide +kernel
theorem dX6_crowd_74 : decode cX6_crowd 74 = .ok (.if_icmp .gt 24, 3) := by decide +kernel
theorem dX6_crowd_77 : decode cX6_crowd 77 = .ok (.aload_n 0, 1) := by decide +kernel
theorem dX6_crowd_78 : decode cX6_crowd 78 = .ok (.getfield 44, 3) := by decide +kernel
theorem dX6_crowd_81 : decode cX6_crowd 81 = .ok (.iload 4, 2) := by decide +kernel
theorem dX6_crowd_83 : decode cX6_crowd 83 = .ok (.iaload, 1) := by decide +kernel
theorem dX6_crowd_84 : decode cX6_crowd 84 = .ok (.aload_n 0, 1) := by decide +kernel
theorem dX6_crowd_85 : decode cX6_crowd 85 = .ok (.getfield 50, 3) := by decide +kernel
theorem dX6_crowd_88 : decode cX6_crowd 88 = .ok (.iload 7, 2) := by decide +kernel
theorem dX6_crowd_90 : decode cX6_crowd 90 = .ok (.iaload, 1) := by decide +kernel
theorem dX6_crowd_91 : decode cX6_crowd 91 = .ok (.if_icmp .ge 7, 3) := by decide +kernel
theorem dX6_crowd_94 : decode cX6_crowd 94 = .ok (.iconst 1, 1) := by decide +kernel
theorem dX6_crowd_95 : decode cX6_crowd 95 = .ok (.goto 4, 3) := by decide +kernel
theorem dX6_crowd_98 : decode cX6_crowd 98 = .ok (.iconst 0, 1) := by decide +kernel
theorem dX6_crowd_99 : decode cX6_crowd 99 = .ok (.iadd, 1) := by decide +kernel
theorem dX6_crowd_100 : decode cX6_crowd 100 = .ok (.istore 5, 2) := by decide +kernel
theorem dX6_crowd_102 : decode cX6_crowd 102 = .ok (.iinc 6 1, 3) := by decide +kernel
theorem dX6_crowd_105 : decode cX6_crowd 105 = .ok (.goto (-79), 3) := by decide +kernel
theorem dX6_crowd_108 : decode cX6_crowd 108 = .ok (.iload 5, 2) := by decide +kernel
theorem dX6_crowd_110 : decode cX6_crowd 110 = .ok (.iload_n 2, 1) := by decide +kernel
theorem dX6_crowd_111 : decode cX6_crowd 111 = .ok (.if_icmp .le 8, 3) := by decide +kernel
theorem dX6_crowd_114 : decode cX6_crowd 114 = .ok (.iload 5, 2) := by decide +kernel
theorem dX6_crowd_116 : decode cX6_crowd 116 = .ok (.goto 4, 3) := by decide +kernel
theorem dX6_crowd_119 : decode cX6_crowd 119 = .ok (.iload_n 2, 1) := by decide +kernel
theorem dX6_crowd_120 : decode cX6_crowd 120 = .ok (.istore_n 2, 1) := by decide +kernel
theorem dX6_crowd_121 : decode cX6_crowd 121 = .ok (.iinc 3 1, 3) := by decide +kernel
theorem dX6_crowd_124 : decode cX6_crowd 124 = .ok (.goto (-120), 3) := by decide +kernel
theorem dX6_crowd_127 : decode cX6_crowd 127 = .ok (.iload_n 2, 1) := by decide +kernel
theorem dX6_crowd_128 : decode cX6_crowd 128 = .ok (.ireturn, 1) := by decide +kernel
theorem dX6_placeOf_0 : decode cX6_placeOf 0 = .ok (.iload_n 1, 1) := by decide +kernel
theorem dX6_placeOf_1 : decode cX6_placeOf 1 = .ok (.invokestatic 141, 3) := by decide +kernel
theorem dX6_placeOf_4 : decode cX6_placeOf 4 = .ok (.ifCond .ne 6, 3) := by decide +kernel
theorem dX6_placeOf_7 : decode cX6_placeOf 7 = .ok (.ldc 144, 2) := by decide +kernel
theorem dX6_placeOf_9 : decode cX6_placeOf 9 = .ok (.ireturn, 1) := by decide +kernel
theorem dX6_placeOf_10 : decode cX6_placeOf 10 = .ok (.aload_n 0, 1) := by decide +kernel
theorem dX6_placeOf_11 : decode cX6_placeOf 11 = .ok (.invokevirtual 138, 3) := by decide +kernel
theorem dX6_placeOf_14 : decode cX6_placeOf 14 = .ok (.iload_n 2, 1) := by decide +kernel
theorem dX6_placeOf_15 : decode cX6_placeOf 15 = .ok (.tableswitch 74 0 7 #[45, 45, 45, 52, 61, 61, 68, 61], 45) := by decide +kernel
theorem dX6_placeOf_60 : decode cX6_placeOf 60 = .ok (.aload_n 0, 1) := by decide +kernel
theorem dX6_placeOf_61 : decode cX6_placeOf 61 = .ok (.iload_n 1, 1) := by decide +kernel
theorem dX6_placeOf_62 : decode cX6_placeOf 62 = .ok (.iload_n 2, 1) := by decide +kernel
theorem dX6_placeOf_63 : decode cX6_placeOf 63 = .ok (.invokevirtual 89, 3) := by decide +kernel
theorem dX6_placeOf_66 : decode cX6_placeOf 66 = .ok (.ireturn, 1) := by decide +kernel
theorem dX6_placeOf_67 : decode cX6_placeOf 67 = .ok (.iconst 1, 1) := by decide +kernel
theorem dX6_placeOf_68 : decode cX6_placeOf 68 = .ok (.aload_n 0, 1) := by decide +kernel
theorem dX6_placeOf_69 : decode cX6_placeOf 69 = .ok (.iload_n 1, 1) := by decide +kernel
theorem dX6_placeOf_70 : decode cX6_placeOf 70 = .ok (.iconst 3, 1) := by decide +kernel
theorem dX6_placeOf_71 : decode cX6_placeOf 71 = .ok (.invokevirtual 89, 3) := by decide +kernel
theorem dX6_placeOf_74 : decode cX6_placeOf 74 = .ok (.isub, 1) := by decide +kernel
theorem dX6_placeOf_75 : decode cX6_placeOf 75 = .ok (.ireturn, 1) := by decide +kernel
theorem dX6_placeOf_76 : decode cX6_placeOf 76 = .ok (.aload_n 0, 1) := by decide +kernel
theorem dX6_placeOf_77 : decode cX6_placeOf 77 = .ok (.iload_n 1, 1) := by decide +kernel
theorem dX6_placeOf_78 : decode cX6_placeOf 78 = .ok (.iload_n 2, 1) := by decide +kernel
theorem dX6_placeOf_79 : decode cX6_placeOf 79 = .ok (.invokevirtual 195, 3) := by decide +kernel
theorem dX6_placeOf_82 : decode cX6_placeOf 82 = .ok (.ireturn, 1) := by decide +kernel
theorem dX6_placeOf_83 : decode cX6_placeOf 83 = .ok (.aload_n 0, 1) := by decide +kernel
theorem dX6_placeOf_84 : decode cX6_placeOf 84 = .ok (.iload_n 1, 1) := by decide +kernel
theorem dX6_placeOf_85 : decode cX6_placeOf 85 = .ok (.invokevirtual 198, 3) := by decide +kernel
theorem dX6_placeOf_88 : decode cX6_placeOf 88 = .ok (.ireturn, 1) := by decide +kernel
theorem dX6_placeOf_89 : decode cX6_placeOf 89 = .ok (.ldc 74, 2) := by decide +kernel
theorem dX6_placeOf_91 : decode cX6_placeOf 91 = .ok (.ireturn, 1) := by decide +kernel
theorem dX6_where_0 : decode cX6_where 0 = .ok (.aload_n 0, 1) := by decide +kernel
theorem dX6_where_1 : decode cX6_where 1 = .ok (.iload_n 1, 1) := by decide +kernel
theorem dX6_where_2 : decode cX6_where 2 = .ok (.invokevirtual 167, 3) := by decide +kernel
theorem dX6_where_5 : decode cX6_where 5 = .ok (.ifCond .ne 6, 3) := by decide +kernel
theorem dX6_where_8 : decode cX6_where 8 = .ok (.ldc 144, 2) := by decide +kernel
theorem dX6_where_10 : decode cX6_where 10 = .ok (.ireturn, 1) := by decide +kernel
theorem dX6_where_11 : decode cX6_where 11 = .ok (.iload_n 2, 1) := by decide +kernel
theorem dX6_where_12 : decode cX6_where 12 = .ok (.ifCond .ge 6, 3) := by decide +kernel
theorem dX6_where_15 : decode cX6_where 15 = .ok (.ldc 74, 2) := by decide +kernel
theorem dX6_where_17 : decode cX6_where 17 = .ok (.ireturn, 1) := by decide +kernel
theorem dX6_where_18 : decode cX6_where 18 = .ok (.aload_n 0, 1) := by decide +kernel
theorem dX6_where_19 : decode cX6_where 19 = .ok (.invokevirtual 138, 3) := by decide +kernel
theorem dX6_where_22 : decode cX6_where 22 = .ok (.bipush 8, 2) := by decide +kernel
theorem dX6_where_24 : decode cX6_where 24 = .ok (.iload_n 1, 1) := by decide +kernel
theorem dX6_where_25 : decode cX6_where 25 = .ok (.imul, 1) := by decide +kernel
theorem dX6_where_26 : decode cX6_where 26 = .ok (.istore_n 3, 1) := by decide +kernel
theorem dX6_where_27 : decode cX6_where 27 = .ok (.iload_n 3, 1) := by decide +kernel
theorem dX6_where_28 : decode cX6_where 28 = .ok (.bipush 8, 2) := by decide +kernel
theorem dX6_where_30 : decode cX6_where 30 = .ok (.iload_n 1, 1) := by decide +kernel
theorem dX6_where_31 : decode cX6_where 31 = .ok (.imul, 1) := by decide +kernel
theorem dX6_where_32 : decode cX6_where 32 = .ok (.aload_n 0, 1) := by decide +kernel
theorem dX6_where_33 : decode cX6_where 33 = .ok (.getfield 38, 3) := by decide +kernel
theorem dX6_where_36 : decode cX6_where 36 = .ok (.iload_n 1, 1) := by decide +kernel
theorem dX6_where_37 : decode cX6_where 37 = .ok (.iaload, 1) := by decide +kernel
theorem dX6_where_38 : decode cX6_where 38 = .ok (.iadd, 1) := by decide +kernel
theorem dX6_where_39 : decode cX6_where 39 = .ok (.if_icmp .ge 36, 3) := by decide +kernel
theorem dX6_where_42 : decode cX6_where 42 = .ok (.aload_n 0, 1) := by decide +kernel
theorem dX6_where_43 : decode cX6_where 43 = .ok (.getfield 44, 3) := by decide +kernel
theorem dX6_where_46 : decode cX6_where 46 = .ok (.iload_n 3, 1) := by decide +kernel
theorem dX6_where_47 : decode cX6_where 47 = .ok (.iaload, 1) := by decide +kernel
theorem dX6_where_48 : decode cX6_where 48 = .ok (.iload_n 2, 1) := by decide +kernel
theorem dX6_where_49 : decode cX6_where 49 = .ok (.if_icmp .gt 20, 3) := by decide +kernel
theorem dX6_where_52 : decode cX6_where 52 = .ok (.iload_n 2, 1) := by decide +kernel
theorem dX6_where_53 : decode cX6_where 53 = .ok (.aload_n 0, 1) := by decide +kernel
theorem dX6_where_54 : decode cX6_where 54 = .ok (.getfield 50, 3) := by decide +kernel
theorem dX6_where_57 : decode cX6_where 57 = .ok (.iload_n 3, 1) := by decide +kernel
theorem dX6_where_58 : decode cX6_where 58 = .ok (.iaload, 1) := by decide +kernel
theorem dX6_where_59 : decode cX6_where 59 = .ok (.if_icmp .ge 10, 3) := by decide +kernel
theorem dX6_where_62 : decode cX6_where 62 = .ok (.aload_n 0, 1) := by decide +kernel
theorem dX6_where_63 : decode cX6_where 63 = .ok (.getfield 41, 3) := by decide +kernel
theorem dX6_where_66 : decode cX6_where 66 = .ok (.iload_n 3, 1) := by decide +kernel
theorem dX6_where_67 : decode cX6_where 67 = .ok (.iaload, 1) := by decide +kernel
theorem dX6_where_68 : decode cX6_where 68 = .ok (.ireturn, 1) := by decide +kernel
theorem dX6_where_69 : decode cX6_where 69 = .ok (.iinc 3 1, 3) := by decide +kernel
theorem dX6_where_72 : decode cX6_where 72 = .ok (.goto (-45), 3) := by decide +kernel
theorem dX6_where_75 : decode cX6_where 75 = .ok (.ldc 99, 2) := by decide +kernel
theorem dX6_where_77 : decode cX6_where 77 = .ok (.ireturn, 1) := by decide +kernel
theorem dX6_told_0 : decode cX6_told 0 = .ok (.aload_n 0, 1) := by decide +kernel
theorem dX6_told_1 : decode cX6_told 1 = .ok (.iload_n 1, 1) := by decide +kernel
theorem dX6_told_2 : decode cX6_told 2 = .ok (.invokevirtual 167, 3) := by decide +kernel
theorem dX6_told_5 : decode cX6_told 5 = .ok (.ifCond .ne 6, 3) := by decide +kernel
theorem dX6_told_8 : decode cX6_told 8 = .ok (.ldc 144, 2) := by decide +kernel
theorem dX6_told_10 : decode cX6_told 10 = .ok (.ireturn, 1) := by decide +kernel
theorem dX6_told_11 : decode cX6_told 11 = .ok (.iload_n 2, 1) := by decide +kernel
theorem dX6_told_12 : decode cX6_told 12 = .ok (.ifCond .ge 6, 3) := by decide +kernel
theorem dX6_told_15 : decode cX6_told 15 = .ok (.ldc 74, 2) := by decide +kernel
theorem dX6_told_17 : decode cX6_told 17 = .ok (.ireturn, 1) := by decide +kernel
theorem dX6_told_18 : decode cX6_told 18 = .ok (.aload_n 0, 1) := by decide +kernel
theorem dX6_told_19 : decode cX6_told 19 = .ok (.invokevirtual 138, 3) := by decide +kernel
theorem dX6_told_22 : decode cX6_told 22 = .ok (.bipush 8, 2) := by decide +kernel
theorem dX6_told_24 : decode cX6_told 24 = .ok (.iload_n 1, 1) := by decide +kernel
theorem dX6_told_25 : decode cX6_told 25 = .ok (.imul, 1) := by decide +kernel
theorem dX6_told_26 : decode cX6_told 26 = .ok (.istore_n 3, 1) := by decide +kernel
theorem dX6_told_27 : decode cX6_told 27 = .ok (.iload_n 3, 1) := by decide +kernel
theorem dX6_told_28 : decode cX6_told 28 = .ok (.bipush 8, 2) := by decide +kernel
theorem dX6_told_30 : decode cX6_told 30 = .ok (.iload_n 1, 1) := by decide +kernel
theorem dX6_told_31 : decode cX6_told 31 = .ok (.imul, 1) := by decide +kernel
theorem dX6_told_32 : decode cX6_told 32 = .ok (.aload_n 0, 1) := by decide +kernel
theorem dX6_told_33 : decode cX6_told 33 = .ok (.getfield 38, 3) := by decide +kernel
theorem dX6_told_36 : decode cX6_told 36 = .ok (.iload_n 1, 1) := by decide +kernel
theorem dX6_told_37 : decode cX6_told 37 = .ok (.iaload, 1) := by decide +kernel
theorem dX6_told_38 : decode cX6_told 38 = .ok (.iadd, 1) := by decide +kernel
theorem dX6_told_39 : decode cX6_told 39 = .ok (.if_icmp .ge 36, 3) := by decide +kernel
theorem dX6_told_42 : decode cX6_told 42 = .ok (.iload_n 2, 1) := by decide +kernel
theorem dX6_told_43 : decode cX6_told 43 = .ok (.aload_n 0, 1) := by decide +kernel
theorem dX6_told_44 : decode cX6_told 44 = .ok (.iload_n 1, 1) := by decide +kernel
theorem dX6_told_45 : decode cX6_told 45 = .ok (.iconst 0, 1) := by decide +kernel
theorem dX6_told_46 : decode cX6_told 46 = .ok (.invokevirtual 85, 3) := by decide +kernel
theorem dX6_told_49 : decode cX6_told 49 = .ok (.if_icmp .lt 26, 3) := by decide +kernel
theorem dX6_told_52 : decode cX6_told 52 = .ok (.iload_n 2, 1) := by decide +kernel
theorem dX6_told_53 : decode cX6_told 53 = .ok (.aload_n 0, 1) := by decide +kernel
theorem dX6_told_54 : decode cX6_told 54 = .ok (.getfield 50, 3) := by decide +kernel
theorem dX6_told_57 : decode cX6_told 57 = .ok (.iload_n 3, 1) := by decide +kernel
theorem dX6_told_58 : decode cX6_told 58 = .ok (.iaload, 1) := by decide +kernel
theorem dX6_told_59 : decode cX6_told 59 = .ok (.if_icmp .ge 10, 3) := by decide +kernel
theorem dX6_told_62 : decode cX6_told 62 = .ok (.aload_n 0, 1) := by decide +kernel
theorem dX6_told_63 : decode cX6_told 63 = .ok (.getfield 41, 3) := by decide +kernel
theorem dX6_told_66 : decode cX6_told 66 = .ok (.iload_n 3, 1) := by decide +kernel
theorem dX6_told_67 : decode cX6_told 67 = .ok (.iaload, 1) := by decide +kernel
theorem dX6_told_68 : decode cX6_told 68 = .ok (.ireturn, 1) := by decide +kernel
theorem dX6_told_69 : decode cX6_told 69 = .ok (.iinc 3 1, 3) := by decide +kernel
theorem dX6_told_72 : decode cX6_told 72 = .ok (.goto (-45), 3) := by decide +kernel
theorem dX6_told_75 : decode cX6_told 75 = .ok (.ldc 99, 2) := by decide +kernel
theorem dX6_told_77 : decode cX6_told 77 = .ok (.ireturn, 1) := by decide +kernel
theorem dX6_lastEnd_0 : decode cX6_lastEnd 0 = .ok (.iconst 0, 1) := by decide +kernel
theorem dX6_lastEnd_1 : decode cX6_lastEnd 1 = .ok (.istore_n 1, 1) := by decide +kernel
theorem dX6_lastEnd_2 : decode cX6_lastEnd 2 = .ok (.iconst 0, 1) := by decide +kernel
theorem dX6_lastEnd_3 : decode cX6_lastEnd 3 = .ok (.istore_n 2, 1) := by decide +kernel
theorem dX6_lastEnd_4 : decode cX6_lastEnd 4 = .ok (.iload_n 2, 1) := by decide +kernel
theorem dX6_lastEnd_5 : decode cX6_lastEnd 5 = .ok (.aload_n 0, 1) := by decide +kernel
theorem dX6_lastEnd_6 : decode cX6_lastEnd 6 = .ok (.getfield 82, 3) := by decide +kernel
theorem dX6_lastEnd_9 : decode cX6_lastEnd 9 = .ok (.if_icmp .ge 30, 3) := by decide +kernel
theorem dX6_lastEnd_12 : decode cX6_lastEnd 12 = .ok (.aload_n 0, 1) := by decide +kernel
theorem dX6_lastEnd_13 : decode cX6_lastEnd 13 = .ok (.getfield 56, 3) := by decide +kernel
theorem dX6_lastEnd_16 : decode cX6_lastEnd 16 = .ok (.iload_n 2, 1) := by decide +kernel
theorem dX6_lastEnd_17 : decode cX6_lastEnd 17 = .ok (.iaload, 1) := by decide +kernel
theorem dX6_lastEnd_18 : decode cX6_lastEnd 18 = .ok (.iload_n 1, 1) := by decide +kernel
theorem dX6_lastEnd_19 : decode cX6_lastEnd 19 = .ok (.if_icmp .le 12, 3) := by decide +kernel
theorem dX6_lastEnd_22 : decode cX6_lastEnd 22 = .ok (.aload_n 0, 1) := by decide +kernel
theorem dX6_lastEnd_23 : decode cX6_lastEnd 23 = .ok (.getfield 56, 3) := by decide +kernel
theorem dX6_lastEnd_26 : decode cX6_lastEnd 26 = .ok (.iload_n 2, 1) := by decide +kernel
theorem dX6_lastEnd_27 : decode cX6_lastEnd 27 = .ok (.iaload, 1) := by decide +kernel
theorem dX6_lastEnd_28 : decode cX6_lastEnd 28 = .ok (.goto 4, 3) := by decide +kernel
theorem dX6_lastEnd_31 : decode cX6_lastEnd 31 = .ok (.iload_n 1, 1) := by decide +kernel
theorem dX6_lastEnd_32 : decode cX6_lastEnd 32 = .ok (.istore_n 1, 1) := by decide +kernel
theorem dX6_lastEnd_33 : decode cX6_lastEnd 33 = .ok (.iinc 2 1, 3) := by decide +kernel
theorem dX6_lastEnd_36 : decode cX6_lastEnd 36 = .ok (.goto (-32), 3) := by decide +kernel
theorem dX6_lastEnd_39 : decode cX6_lastEnd 39 = .ok (.iload_n 1, 1) := by decide +kernel
theorem dX6_lastEnd_40 : decode cX6_lastEnd 40 = .ok (.ireturn, 1) := by decide +kernel
theorem dX6_winner_0 : decode cX6_winner 0 = .ok (.iconst 0, 1) := by decide +kernel
theorem dX6_winner_1 : decode cX6_winner 1 = .ok (.istore_n 1, 1) := by decide +kernel
theorem dX6_winner_2 : decode cX6_winner 2 = .ok (.iload_n 1, 1) := by decide +kernel
theorem dX6_winner_3 : decode cX6_winner 3 = .ok (.aload_n 0, 1) := by decide +kernel
theorem dX6_winner_4 : decode cX6_winner 4 = .ok (.getfield 82, 3) := by decide +kernel
theorem dX6_winner_7 : decode cX6_winner 7 = .ok (.if_icmp .ge 19, 3) := by decide +kernel
theorem dX6_winner_10 : decode cX6_winner 10 = .ok (.aload_n 0, 1) := by decide +kernel
theorem dX6_winner_11 : decode cX6_winner 11 = .ok (.iload_n 1, 1) := by decide +kernel
theorem dX6_winner_12 : decode cX6_winner 12 = .ok (.invokevirtual 192, 3) := by decide +kernel
theorem dX6_winner_15 : decode cX6_winner 15 = .ok (.ifCond .ne 5, 3) := by decide +kernel
theorem dX6_winner_18 : decode cX6_winner 18 = .ok (.iload_n 1, 1) := by decide +kernel
theorem dX6_winner_19 : decode cX6_winner 19 = .ok (.ireturn, 1) := by decide +kernel
theorem dX6_winner_20 : decode cX6_winner 20 = .ok (.iinc 1 1, 3) := by decide +kernel
theorem dX6_winner_23 : decode cX6_winner 23 = .ok (.goto (-21), 3) := by decide +kernel
theorem dX6_winner_26 : decode cX6_winner 26 = .ok (.ldc 99, 2) := by decide +kernel
theorem dX6_winner_28 : decode cX6_winner 28 = .ok (.ireturn, 1) := by decide +kernel
theorem dX6_sums_0 : decode cX6_sums 0 = .ok (.iconst 0, 1) := by decide +kernel
theorem dX6_sums_1 : decode cX6_sums 1 = .ok (.istore_n 2, 1) := by decide +kernel
theorem dX6_sums_2 : decode cX6_sums 2 = .ok (.iconst 0, 1) := by decide +kernel
theorem dX6_sums_3 : decode cX6_sums 3 = .ok (.istore_n 3, 1) := by decide +kernel
theorem dX6_sums_4 : decode cX6_sums 4 = .ok (.iload_n 3, 1) := by decide +kernel
theorem dX6_sums_5 : decode cX6_sums 5 = .ok (.aload_n 0, 1) := by decide +kernel
theorem dX6_sums_6 : decode cX6_sums 6 = .ok (.getfield 82, 3) := by decide +kernel
theorem dX6_sums_9 : decode cX6_sums 9 = .ok (.if_icmp .ge 30, 3) := by decide +kernel
theorem dX6_sums_12 : decode cX6_sums 12 = .ok (.iload_n 2, 1) := by decide +kernel
theorem dX6_sums_13 : decode cX6_sums 13 = .ok (.iload_n 1, 1) := by decide +kernel
theorem dX6_sums_14 : decode cX6_sums 14 = .ok (.ifCond .eq 11, 3) := by decide +kernel
theorem dX6_sums_17 : decode cX6_sums 17 = .ok (.aload_n 0, 1) := by decide +kernel
theorem dX6_sums_18 : decode cX6_sums 18 = .ok (.iload_n 3, 1) := by decide +kernel
theorem dX6_sums_19 : decode cX6_sums 19 = .ok (.invokevirtual 132, 3) := by decide +kernel
theorem dX6_sums_22 : decode cX6_sums 22 = .ok (.goto 9, 3) := by decide +kernel
theorem dX6_sums_25 : decode cX6_sums 25 = .ok (.aload_n 0, 1) := by decide +kernel
theorem dX6_sums_26 : decode cX6_sums 26 = .ok (.getfield 38, 3) := by decide +kernel
theorem dX6_sums_29 : decode cX6_sums 29 = .ok (.iload_n 3, 1) := by decide +kernel
theorem dX6_sums_30 : decode cX6_sums 30 = .ok (.iaload, 1) := by decide +kernel
theorem dX6_sums_31 : decode cX6_sums 31 = .ok (.iadd, 1) := by decide +kernel
theorem dX6_sums_32 : decode cX6_sums 32 = .ok (.istore_n 2, 1) := by decide +kernel
theorem dX6_sums_33 : decode cX6_sums 33 = .ok (.iinc 3 1, 3) := by decide +kernel
theorem dX6_sums_36 : decode cX6_sums 36 = .ok (.goto (-32), 3) := by decide +kernel
theorem dX6_sums_39 : decode cX6_sums 39 = .ok (.iload_n 2, 1) := by decide +kernel
theorem dX6_sums_40 : decode cX6_sums 40 = .ok (.ireturn, 1) := by decide +kernel
theorem dX6_count_0 : decode cX6_count 0 = .ok (.aload_n 0, 1) := by decide +kernel
theorem dX6_count_1 : decode cX6_count 1 = .ok (.invokevirtual 138, 3) := by decide +kernel
theorem dX6_count_4 : decode cX6_count 4 = .ok (.iload_n 1, 1) := by decide +kernel
theorem dX6_count_5 : decode cX6_count 5 = .ok (.tableswitch 121 0 12 #[67, 67, 67, 67, 74, 79, 84, 89, 94, 99, 105, 111, 116], 67) := by decide +kernel
theorem dX6_count_72 : decode cX6_count 72 = .ok (.aload_n 0, 1) := by decide +kernel
theorem dX6_count_73 : decode cX6_count 73 = .ok (.getfield 7, 3) := by decide +kernel
theorem dX6_count_76 : decode cX6_count 76 = .ok (.iload_n 1, 1) := by decide +kernel
theorem dX6_count_77 : decode cX6_count 77 = .ok (.iaload, 1) := by decide +kernel
theorem dX6_count_78 : decode cX6_count 78 = .ok (.ireturn, 1) := by decide +kernel
theorem dX6_count_79 : decode cX6_count 79 = .ok (.aload_n 0, 1) := by decide +kernel
theorem dX6_count_80 : decode cX6_count 80 = .ok (.invokevirtual 145, 3) := by decide +kernel
theorem dX6_count_83 : decode cX6_count 83 = .ok (.ireturn, 1) := by decide +kernel
theorem dX6_count_84 : decode cX6_count 84 = .ok (.aload_n 0, 1) := by decide +kernel
theorem dX6_count_85 : decode cX6_count 85 = .ok (.invokevirtual 186, 3) := by decide +kernel
theorem dX6_count_88 : decode cX6_count 88 = .ok (.ireturn, 1) := by decide +kernel
theorem dX6_count_89 : decode cX6_count 89 = .ok (.aload_n 0, 1) := by decide +kernel
theorem dX6_count_90 : decode cX6_count 90 = .ok (.invokevirtual 201, 3) := by decide +kernel
theorem dX6_count_93 : decode cX6_count 93 = .ok (.ireturn, 1) := by decide +kernel
theorem dX6_count_94 : decode cX6_count 94 = .ok (.aload_n 0, 1) := by decide +kernel
theorem dX6_count_95 : decode cX6_count 95 = .ok (.invokevirtual 204, 3) := by decide +kernel
theorem dX6_count_98 : decode cX6_count 98 = .ok (.ireturn, 1) := by decide +kernel
theorem dX6_count_99 : decode cX6_count 99 = .ok (.aload_n 0, 1) := by decide +kernel
theorem dX6_count_100 : decode cX6_count 100 = .ok (.invokevirtual 207, 3) := by decide +kernel
theorem dX6_count_103 : decode cX6_count 103 = .ok (.ireturn, 1) := by decide +kernel
theorem dX6_count_104 : decode cX6_count 104 = .ok (.aload_n 0, 1) := by decide +kernel
theorem dX6_count_105 : decode cX6_count 105 = .ok (.iconst 1, 1) := by decide +kernel
theorem dX6_count_106 : decode cX6_count 106 = .ok (.invokevirtual 210, 3) := by decide +kernel
theorem dX6_count_109 : decode cX6_count 109 = .ok (.ireturn, 1) := by decide +kernel
theorem dX6_count_110 : decode cX6_count 110 = .ok (.aload_n 0, 1) := by decide +kernel
theorem dX6_count_111 : decode cX6_count 111 = .ok (.iconst 0, 1) := by decide +kernel
theorem dX6_count_112 : decode cX6_count 112 = .ok (.invokevirtual 210, 3) := by decide +kernel
theorem dX6_count_115 : decode cX6_count 115 = .ok (.ireturn, 1) := by decide +kernel
theorem dX6_count_116 : decode cX6_count 116 = .ok (.aload_n 0, 1) := by decide +kernel
theorem dX6_count_117 : decode cX6_count 117 = .ok (.getfield 155, 3) := by decide +kernel
theorem dX6_count_120 : decode cX6_count 120 = .ok (.ireturn, 1) := by decide +kernel
theorem dX6_count_121 : decode cX6_count 121 = .ok (.aload_n 0, 1) := by decide +kernel
theorem dX6_count_122 : decode cX6_count 122 = .ok (.getfield 69, 3) := by decide +kernel
theorem dX6_count_125 : decode cX6_count 125 = .ok (.ireturn, 1) := by decide +kernel
theorem dX6_count_126 : decode cX6_count 126 = .ok (.ldc 74, 2) := by decide +kernel
theorem dX6_count_128 : decode cX6_count 128 = .ok (.ireturn, 1) := by decide +kernel
theorem dX6_freeStart_0 : decode cX6_freeStart 0 = .ok (.aload_n 0, 1) := by decide +kernel
theorem dX6_freeStart_1 : decode cX6_freeStart 1 = .ok (.iload_n 1, 1) := by decide +kernel
theorem dX6_freeStart_2 : decode cX6_freeStart 2 = .ok (.invokevirtual 167, 3) := by decide +kernel
theorem dX6_freeStart_5 : decode cX6_freeStart 5 = .ok (.ifCond .eq 17, 3) := by decide +kernel
theorem dX6_freeStart_8 : decode cX6_freeStart 8 = .ok (.aload_n 0, 1) := by decide +kernel
theorem dX6_freeStart_9 : decode cX6_freeStart 9 = .ok (.iload_n 1, 1) := by decide +kernel
theorem dX6_freeStart_10 : decode cX6_freeStart 10 = .ok (.aload_n 0, 1) := by decide +kernel
theorem dX6_freeStart_11 : decode cX6_freeStart 11 = .ok (.getfield 7, 3) := by decide +kernel
theorem dX6_freeStart_14 : decode cX6_freeStart 14 = .ok (.iconst 3, 1) := by decide +kernel
theorem dX6_freeStart_15 : decode cX6_freeStart 15 = .ok (.iaload, 1) := by decide +kernel
theorem dX6_freeStart_16 : decode cX6_freeStart 16 = .ok (.invokevirtual 183, 3) := by decide +kernel
theorem dX6_freeStart_19 : decode cX6_freeStart 19 = .ok (.goto 5, 3) := by decide +kernel
theorem dX6_freeStart_22 : decode cX6_freeStart 22 = .ok (.ldc 144, 2) := by decide +kernel
theorem dX6_freeStart_24 : decode cX6_freeStart 24 = .ok (.ireturn, 1) := by decide +kernel
theorem dX6_bestExchange_0 : decode cX6_bestExchange 0 = .ok (.aload_n 0, 1) := by decide +kernel
theorem dX6_bestExchange_1 : decode cX6_bestExchange 1 = .ok (.iload_n 1, 1) := by decide +kernel
theorem dX6_bestExchange_2 : decode cX6_bestExchange 2 = .ok (.invokevirtual 167, 3) := by decide +kernel
theorem dX6_bestExchange_5 : decode cX6_bestExchange 5 = .ok (.ifCond .ne 6, 3) := by decide +kernel
theorem dX6_bestExchange_8 : decode cX6_bestExchange 8 = .ok (.ldc 144, 2) := by decide +kernel
theorem dX6_bestExchange_10 : decode cX6_bestExchange 10 = .ok (.ireturn, 1) := by decide +kernel
theorem dX6_bestExchange_11 : decode cX6_bestExchange 11 = .ok (.iload_n 2, 1) := by decide +kernel
theorem dX6_bestExchange_12 : decode cX6_bestExchange 12 = .ok (.i2l, 1) := by decide +kernel
theorem dX6_bestExchange_13 : decode cX6_bestExchange 13 = .ok (.iconst 0, 1) := by decide +kernel
theorem dX6_bestExchange_14 : decode cX6_bestExchange 14 = .ok (.iconst 2, 1) := by decide +kernel
theorem dX6_bestExchange_15 : decode cX6_bestExchange 15 = .ok (.invokestatic 65, 3) := by decide +kernel
theorem dX6_bestExchange_18 : decode cX6_bestExchange 18 = .ok (.ifCond .ne 6, 3) := by decide +kernel
theorem dX6_bestExchange_21 : decode cX6_bestExchange 21 = .ok (.ldc 74, 2) := by decide +kernel
theorem dX6_bestExchange_23 : decode cX6_bestExchange 23 = .ok (.ireturn, 1) := by decide +kernel
theorem dX6_bestExchange_24 : decode cX6_bestExchange 24 = .ok (.aload_n 0, 1) := by decide +kernel
theorem dX6_bestExchange_25 : decode cX6_bestExchange 25 = .ok (.iload_n 1, 1) := by decide +kernel
theorem dX6_bestExchange_26 : decode cX6_bestExchange 26 = .ok (.iconst 3, 1) := by decide +kernel
theorem dX6_bestExchange_27 : decode cX6_bestExchange 27 = .ok (.invokevirtual 85, 3) := by decide +kernel
theorem dX6_bestExchange_30 : decode cX6_bestExchange 30 = .ok (.istore_n 3, 1) := by decide +kernel
theorem dX6_bestExchange_31 : decode cX6_bestExchange 31 = .ok (.ldc 99, 2) := by decide +kernel
theorem dX6_bestExchange_33 : decode cX6_bestExchange 33 = .ok (.istore 4, 2) := by decide +kernel
theorem dX6_bestExchange_35 : decode cX6_bestExchange 35 = .ok (.ldc 99, 2) := by decide +kernel
theorem dX6_bestExchange_37 : decode cX6_bestExchange 37 = .ok (.istore 5, 2) := by decide +kernel
theorem dX6_bestExchange_39 : decode cX6_bestExchange 39 = .ok (.ldc 99, 2) := by decide +kernel
theorem dX6_bestExchange_41 : decode cX6_bestExchange 41 = .ok (.istore 6, 2) := by decide +kernel
theorem dX6_bestExchange_43 : decode cX6_bestExchange 43 = .ok (.iconst 0, 1) := by decide +kernel
theorem dX6_bestExchange_44 : decode cX6_bestExchange 44 = .ok (.istore 7, 2) := by decide +kernel
theorem dX6_bestExchange_46 : decode cX6_bestExchange 46 = .ok (.iload 7, 2) := by decide +kernel
theorem dX6_bestExchange_48 : decode cX6_bestExchange 48 = .ok (.iload_n 3, 1) := by decide +kernel
theorem dX6_bestExchange_49 : decode cX6_bestExchange 49 = .ok (.iload_n 3, 1) := by decide +kernel
theorem dX6_bestExchange_50 : decode cX6_bestExchange 50 = .ok (.imul, 1) := by decide +kernel
theorem dX6_bestExchange_51 : decode cX6_bestExchange 51 = .ok (.if_icmp .ge 116, 3) := by decide +kernel
theorem dX6_bestExchange_54 : decode cX6_bestExchange 54 = .ok (.iload 7, 2) := by decide +kernel
theorem dX6_bestExchange_56 : decode cX6_bestExchange 56 = .ok (.iload_n 3, 1) := by decide +kernel
theorem dX6_bestExchange_57 : decode cX6_bestExchange 57 = .ok (.idiv, 1) := by decide +kernel
theorem dX6_bestExchange_58 : decode cX6_bestExchange 58 = .ok (.istore 8, 2) := by decide +kernel
theorem dX6_bestExchange_60 : decode cX6_bestExchange 60 = .ok (.iload 7, 2) := by decide +kernel
theorem dX6_bestExchange_62 : decode cX6_bestExchange 62 = .ok (.iload_n 3, 1) := by decide +kernel
theorem dX6_bestExchange_63 : decode cX6_bestExchange 63 = .ok (.irem, 1) := by decide +kernel
theorem dX6_bestExchange_64 : decode cX6_bestExchange 64 = .ok (.istore 9, 2) := by decide +kernel
theorem dX6_bestExchange_66 : decode cX6_bestExchange 66 = .ok (.iload 8, 2) := by decide +kernel
theorem dX6_bestExchange_68 : decode cX6_bestExchange 68 = .ok (.iload 9, 2) := by decide +kernel
theorem dX6_bestExchange_70 : decode cX6_bestExchange 70 = .ok (.if_icmp .ge 91, 3) := by decide +kernel
theorem dX6_bestExchange_73 : decode cX6_bestExchange 73 = .ok (.aload_n 0, 1) := by decide +kernel
theorem dX6_bestExchange_74 : decode cX6_bestExchange 74 = .ok (.iload_n 1, 1) := by decide +kernel
theorem dX6_bestExchange_75 : decode cX6_bestExchange 75 = .ok (.iload 8, 2) := by decide +kernel
theorem dX6_bestExchange_77 : decode cX6_bestExchange 77 = .ok (.iload 9, 2) := by decide +kernel
theorem dX6_bestExchange_79 : decode cX6_bestExchange 79 = .ok (.invokevirtual 177, 3) := by decide +kernel
theorem dX6_bestExchange_82 : decode cX6_bestExchange 82 = .ok (.aload_n 0, 1) := by decide +kernel
theorem dX6_bestExchange_83 : decode cX6_bestExchange 83 = .ok (.iload_n 1, 1) := by decide +kernel
theorem dX6_bestExchange_84 : decode cX6_bestExchange 84 = .ok (.invokevirtual 170, 3) := by decide +kernel
theorem dX6_bestExchange_87 : decode cX6_bestExchange 87 = .ok (.istore 10, 2) := by decide +kernel
theorem dX6_bestExchange_89 : decode cX6_bestExchange 89 = .ok (.aload_n 0, 1) := by decide +kernel
theorem dX6_bestExchange_90 : decode cX6_bestExchange 90 = .ok (.iload_n 1, 1) := by decide +kernel
theorem dX6_bestExchange_91 : decode cX6_bestExchange 91 = .ok (.iload 8, 2) := by decide +kernel
theorem dX6_bestExchange_93 : decode cX6_bestExchange 93 = .ok (.iload 9, 2) := by decide +kernel
theorem dX6_bestExchange_95 : decode cX6_bestExchange 95 = .ok (.invokevirtual 177, 3) := by decide +kernel
theorem dX6_bestExchange_98 : decode cX6_bestExchange 98 = .ok (.iload 6, 2) := by decide +kernel
theorem dX6_bestExchange_100 : decode cX6_bestExchange 100 = .ok (.ldc 99, 2) := by decide +kernel
theorem dX6_bestExchange_102 : decode cX6_bestExchange 102 = .ok (.if_icmp .eq 10, 3) := by decide +kernel
theorem dX6_bestExchange_105 : decode cX6_bestExchange 105 = .ok (.iload 10, 2) := by decide +kernel
theorem dX6_bestExchange_107 : decode cX6_bestExchange 107 = .ok (.iload 6, 2) := by decide +kernel
theorem dX6_bestExchange_109 : decode cX6_bestExchange 109 = .ok (.if_icmp .ge 7, 3) := by decide +kernel
theorem dX6_bestExchange_112 : decode cX6_bestExchange 112 = .ok (.iconst 1, 1) := by decide +kernel
theorem dX6_bestExchange_113 : decode cX6_bestExchange 113 = .ok (.goto 4, 3) := by decide +kernel
theorem dX6_bestExchange_116 : decode cX6_bestExchange 116 = .ok (.iconst 0, 1) := by decide +kernel
theorem dX6_bestExchange_117 : decode cX6_bestExchange 117 = .ok (.istore 11, 2) := by decide +kernel
theorem dX6_bestExchange_119 : decode cX6_bestExchange 119 = .ok (.iload 11, 2) := by decide +kernel
theorem dX6_bestExchange_121 : decode cX6_bestExchange 121 = .ok (.ifCond .eq 8, 3) := by decide +kernel
theorem dX6_bestExchange_124 : decode cX6_bestExchange 124 = .ok (.iload 8, 2) := by decide +kernel
theorem dX6_bestExchange_126 : decode cX6_bestExchange 126 = .ok (.goto 5, 3) := by decide +kernel
theorem dX6_bestExchange_129 : decode cX6_bestExchange 129 = .ok (.iload 4, 2) := by decide +kernel
theorem dX6_bestExchange_131 : decode cX6_bestExchange 131 = .ok (.istore 4, 2) := by decide +kernel
theorem dX6_bestExchange_133 : decode cX6_bestExchange 133 = .ok (.iload 11, 2) := by decide +kernel
theorem dX6_bestExchange_135 : decode cX6_bestExchange 135 = .ok (.ifCond .eq 8, 3) := by decide +kernel
theorem dX6_bestExchange_138 : decode cX6_bestExchange 138 = .ok (.iload 9, 2) := by decide +kernel
theorem dX6_bestExchange_140 : decode cX6_bestExchange 140 = .ok (.goto 5, 3) := by decide +kernel
theorem dX6_bestExchange_143 : decode cX6_bestExchange 143 = .ok (.iload 5, 2) := by decide +kernel
theorem dX6_bestExchange_145 : decode cX6_bestExchange 145 = .ok (.istore 5, 2) := by decide +kernel
theorem dX6_bestExchange_147 : decode cX6_bestExchange 147 = .ok (.iload 11, 2) := by decide +kernel
theorem dX6_bestExchange_149 : decode cX6_bestExchange 149 = .ok (.ifCond .eq 8, 3) := by decide +kernel
theorem dX6_bestExchange_152 : decode cX6_bestExchange 152 = .ok (.iload 10, 2) := by decide +kernel
theorem dX6_bestExchange_154 : decode cX6_bestExchange 154 = .ok (.goto 5, 3) := by decide +kernel
theorem dX6_bestExchange_157 : decode cX6_bestExchange 157 = .ok (.iload 6, 2) := by decide +kernel
theorem dX6_bestExchange_159 : decode cX6_bestExchange 159 = .ok (.istore 6, 2) := by decide +kernel
theorem dX6_bestExchange_161 : decode cX6_bestExchange 161 = .ok (.iinc 7 1, 3) := by decide +kernel
theorem dX6_bestExchange_164 : decode cX6_bestExchange 164 = .ok (.goto (-118), 3) := by decide +kernel
theorem dX6_bestExchange_167 : decode cX6_bestExchange 167 = .ok (.iload_n 2, 1) := by decide +kernel
theorem dX6_bestExchange_168 : decode cX6_bestExchange 168 = .ok (.ifCond .ne 8, 3) := by decide +kernel
theorem dX6_bestExchange_171 : decode cX6_bestExchange 171 = .ok (.iload 4, 2) := by decide +kernel
theorem dX6_bestExchange_173 : decode cX6_bestExchange 173 = .ok (.goto 15, 3) := by decide +kernel
theorem dX6_bestExchange_176 : decode cX6_bestExchange 176 = .ok (.iload_n 2, 1) := by decide +kernel
theorem dX6_bestExchange_177 : decode cX6_bestExchange 177 = .ok (.iconst 1, 1) := by decide +kernel
theorem dX6_bestExchange_178 : decode cX6_bestExchange 178 = .ok (.if_icmp .ne 8, 3) := by decide +kernel
theorem dX6_bestExchange_181 : decode cX6_bestExchange 181 = .ok (.iload 5, 2) := by decide +kernel
theorem dX6_bestExchange_183 : decode cX6_bestExchange 183 = .ok (.goto 5, 3) := by decide +kernel
theorem dX6_bestExchange_186 : decode cX6_bestExchange 186 = .ok (.iload 6, 2) := by decide +kernel
theorem dX6_bestExchange_188 : decode cX6_bestExchange 188 = .ok (.ireturn, 1) := by decide +kernel
theorem dX6_worstPlace_0 : decode cX6_worstPlace 0 = .ok (.iload_n 1, 1) := by decide +kernel
theorem dX6_worstPlace_1 : decode cX6_worstPlace 1 = .ok (.i2l, 1) := by decide +kernel
theorem dX6_worstPlace_2 : decode cX6_worstPlace 2 = .ok (.iconst 0, 1) := by decide +kernel
theorem dX6_worstPlace_3 : decode cX6_worstPlace 3 = .ok (.iconst 1, 1) := by decide +kernel
theorem dX6_worstPlace_4 : decode cX6_worstPlace 4 = .ok (.invokestatic 65, 3) := by decide +kernel
theorem dX6_worstPlace_7 : decode cX6_worstPlace 7 = .ok (.ifCond .ne 6, 3) := by decide +kernel
theorem dX6_worstPlace_10 : decode cX6_worstPlace 10 = .ok (.ldc 74, 2) := by decide +kernel
theorem dX6_worstPlace_12 : decode cX6_worstPlace 12 = .ok (.ireturn, 1) := by decide +kernel
theorem dX6_worstPlace_13 : decode cX6_worstPlace 13 = .ok (.ldc 99, 2) := by decide +kernel
theorem dX6_worstPlace_15 : decode cX6_worstPlace 15 = .ok (.istore_n 2, 1) := by decide +kernel
theorem dX6_worstPlace_16 : decode cX6_worstPlace 16 = .ok (.ldc 99, 2) := by decide +kernel
theorem dX6_worstPlace_18 : decode cX6_worstPlace 18 = .ok (.istore_n 3, 1) := by decide +kernel
theorem dX6_worstPlace_19 : decode cX6_worstPlace 19 = .ok (.iconst 0, 1) := by decide +kernel
theorem dX6_worstPlace_20 : decode cX6_worstPlace 20 = .ok (.istore 4, 2) := by decide +kernel
theorem dX6_worstPlace_22 : decode cX6_worstPlace 22 = .ok (.iload 4, 2) := by decide +kernel
theorem dX6_worstPlace_24 : decode cX6_worstPlace 24 = .ok (.bipush 8, 2) := by decide +kernel
theorem dX6_worstPlace_26 : decode cX6_worstPlace 26 = .ok (.if_icmp .ge 98, 3) := by decide +kernel
theorem dX6_worstPlace_29 : decode cX6_worstPlace 29 = .ok (.aload_n 0, 1) := by decide +kernel
theorem dX6_worstPlace_30 : decode cX6_worstPlace 30 = .ok (.iload 4, 2) := by decide +kernel
theorem dX6_worstPlace_32 : decode cX6_worstPlace 32 = .ok (.iconst 3, 1) := by decide +kernel
theorem dX6_worstPlace_33 : decode cX6_worstPlace 33 = .ok (.invokevirtual 89, 3) := by decide +kernel
theorem dX6_worstPlace_36 : decode cX6_worstPlace 36 = .ok (.ifCond .ne 82, 3) := by decide +kernel
theorem dX6_worstPlace_39 : decode cX6_worstPlace 39 = .ok (.aload_n 0, 1) := by decide +kernel
theorem dX6_worstPlace_40 : decode cX6_worstPlace 40 = .ok (.getfield 7, 3) := by decide +kernel
theorem dX6_worstPlace_43 : decode cX6_worstPlace 43 = .ok (.iconst 4, 1) := by decide +kernel
theorem dX6_worstPlace_44 : decode cX6_worstPlace 44 = .ok (.iconst 4, 1) := by decide +kernel
theorem dX6_worstPlace_45 : decode cX6_worstPlace 45 = .ok (.iload 4, 2) := by decide +kernel
theorem dX6_worstPlace_47 : decode cX6_worstPlace 47 = .ok (.imul, 1) := by decide +kernel
theorem dX6_worstPlace_48 : decode cX6_worstPlace 48 = .ok (.iadd, 1) := by decide +kernel
theorem dX6_worstPlace_49 : decode cX6_worstPlace 49 = .ok (.iconst 3, 1) := by decide +kernel
theorem dX6_worstPlace_50 : decode cX6_worstPlace 50 = .ok (.iadd, 1) := by decide +kernel
theorem dX6_worstPlace_51 : decode cX6_worstPlace 51 = .ok (.iconst 1, 1) := by decide +kernel
theorem dX6_worstPlace_52 : decode cX6_worstPlace 52 = .ok (.iastore, 1) := by decide +kernel
theorem dX6_worstPlace_53 : decode cX6_worstPlace 53 = .ok (.aload_n 0, 1) := by decide +kernel
theorem dX6_worstPlace_54 : decode cX6_worstPlace 54 = .ok (.invokevirtual 138, 3) := by decide +kernel
theorem dX6_worstPlace_57 : decode cX6_worstPlace 57 = .ok (.aload_n 0, 1) := by decide +kernel
theorem dX6_worstPlace_58 : decode cX6_worstPlace 58 = .ok (.getfield 7, 3) := by decide +kernel
theorem dX6_worstPlace_61 : decode cX6_worstPlace 61 = .ok (.iconst 4, 1) := by decide +kernel
theorem dX6_worstPlace_62 : decode cX6_worstPlace 62 = .ok (.iconst 4, 1) := by decide +kernel
theorem dX6_worstPlace_63 : decode cX6_worstPlace 63 = .ok (.iload 4, 2) := by decide +kernel
theorem dX6_worstPlace_65 : decode cX6_worstPlace 65 = .ok (.imul, 1) := by decide +kernel
theorem dX6_worstPlace_66 : decode cX6_worstPlace 66 = .ok (.iadd, 1) := by decide +kernel
theorem dX6_worstPlace_67 : decode cX6_worstPlace 67 = .ok (.iconst 3, 1) := by decide +kernel
theorem dX6_worstPlace_68 : decode cX6_worstPlace 68 = .ok (.iadd, 1) := by decide +kernel
theorem dX6_worstPlace_69 : decode cX6_worstPlace 69 = .ok (.iconst 0, 1) := by decide +kernel
theorem dX6_worstPlace_70 : decode cX6_worstPlace 70 = .ok (.iastore, 1) := by decide +kernel
theorem dX6_worstPlace_71 : decode cX6_worstPlace 71 = .ok (.iload_n 2, 1) := by decide +kernel
theorem dX6_worstPlace_72 : decode cX6_worstPlace 72 = .ok (.ldc 99, 2) := by decide +kernel
theorem dX6_worstPlace_74 : decode cX6_worstPlace 74 = .ok (.if_icmp .eq 11, 3) := by decide +kernel
theorem dX6_worstPlace_77 : decode cX6_worstPlace 77 = .ok (.aload_n 0, 1) := by decide +kernel
theorem dX6_worstPlace_78 : decode cX6_worstPlace 78 = .ok (.invokevirtual 204, 3) := by decide +kernel
theorem dX6_worstPlace_81 : decode cX6_worstPlace 81 = .ok (.iload_n 3, 1) := by decide +kernel
theorem dX6_worstPlace_82 : decode cX6_worstPlace 82 = .ok (.if_icmp .ge 7, 3) := by decide +kernel
theorem dX6_worstPlace_85 : decode cX6_worstPlace 85 = .ok (.iconst 1, 1) := by decide +kernel
theorem dX6_worstPlace_86 : decode cX6_worstPlace 86 = .ok (.goto 4, 3) := by decide +kernel
theorem dX6_worstPlace_89 : decode cX6_worstPlace 89 = .ok (.iconst 0, 1) := by decide +kernel
theorem dX6_worstPlace_90 : decode cX6_worstPlace 90 = .ok (.istore 5, 2) := by decide +kernel
theorem dX6_worstPlace_92 : decode cX6_worstPlace 92 = .ok (.iload 5, 2) := by decide +kernel
theorem dX6_worstPlace_94 : decode cX6_worstPlace 94 = .ok (.ifCond .eq 8, 3) := by decide +kernel
theorem dX6_worstPlace_97 : decode cX6_worstPlace 97 = .ok (.iload 4, 2) := by decide +kernel
theorem dX6_worstPlace_99 : decode cX6_worstPlace 99 = .ok (.goto 4, 3) := by decide +kernel
theorem dX6_worstPlace_102 : decode cX6_worstPlace 102 = .ok (.iload_n 2, 1) := by decide +kernel
theorem dX6_worstPlace_103 : decode cX6_worstPlace 103 = .ok (.istore_n 2, 1) := by decide +kernel
theorem dX6_worstPlace_104 : decode cX6_worstPlace 104 = .ok (.iload 5, 2) := by decide +kernel
theorem dX6_worstPlace_106 : decode cX6_worstPlace 106 = .ok (.ifCond .eq 10, 3) := by decide +kernel
theorem dX6_worstPlace_109 : decode cX6_worstPlace 109 = .ok (.aload_n 0, 1) := by decide +kernel
theorem dX6_worstPlace_110 : decode cX6_worstPlace 110 = .ok (.invokevirtual 204, 3) := by decide +kernel
theorem dX6_worstPlace_113 : decode cX6_worstPlace 113 = .ok (.goto 4, 3) := by decide +kernel
theorem dX6_worstPlace_116 : decode cX6_worstPlace 116 = .ok (.iload_n 3, 1) := by decide +kernel
theorem dX6_worstPlace_117 : decode cX6_worstPlace 117 = .ok (.istore_n 3, 1) := by decide +kernel
theorem dX6_worstPlace_118 : decode cX6_worstPlace 118 = .ok (.iinc 4 1, 3) := by decide +kernel
theorem dX6_worstPlace_121 : decode cX6_worstPlace 121 = .ok (.goto (-99), 3) := by decide +kernel
theorem dX6_worstPlace_124 : decode cX6_worstPlace 124 = .ok (.iload_n 1, 1) := by decide +kernel
theorem dX6_worstPlace_125 : decode cX6_worstPlace 125 = .ok (.ifCond .ne 7, 3) := by decide +kernel
theorem dX6_worstPlace_128 : decode cX6_worstPlace 128 = .ok (.iload_n 2, 1) := by decide +kernel
theorem dX6_worstPlace_129 : decode cX6_worstPlace 129 = .ok (.goto 4, 3) := by decide +kernel
theorem dX6_worstPlace_132 : decode cX6_worstPlace 132 = .ok (.iload_n 3, 1) := by decide +kernel
theorem dX6_worstPlace_133 : decode cX6_worstPlace 133 = .ok (.ireturn, 1) := by decide +kernel
theorem dX6_ifTurned_0 : decode cX6_ifTurned 0 = .ok (.aload_n 0, 1) := by decide +kernel
theorem dX6_ifTurned_1 : decode cX6_ifTurned 1 = .ok (.iload_n 1, 1) := by decide +kernel
theorem dX6_ifTurned_2 : decode cX6_ifTurned 2 = .ok (.invokevirtual 167, 3) := by decide +kernel
theorem dX6_ifTurned_5 : decode cX6_ifTurned 5 = .ok (.ifCond .ne 6, 3) := by decide +kernel
theorem dX6_ifTurned_8 : decode cX6_ifTurned 8 = .ok (.ldc 144, 2) := by decide +kernel
theorem dX6_ifTurned_10 : decode cX6_ifTurned 10 = .ok (.ireturn, 1) := by decide +kernel
theorem dX6_ifTurned_11 : decode cX6_ifTurned 11 = .ok (.iload_n 2, 1) := by decide +kernel
theorem dX6_ifTurned_12 : decode cX6_ifTurned 12 = .ok (.i2l, 1) := by decide +kernel
theorem dX6_ifTurned_13 : decode cX6_ifTurned 13 = .ok (.iconst 0, 1) := by decide +kernel
theorem dX6_ifTurned_14 : decode cX6_ifTurned 14 = .ok (.bipush 7, 2) := by decide +kernel
theorem dX6_ifTurned_16 : decode cX6_ifTurned 16 = .ok (.invokestatic 65, 3) := by decide +kernel
theorem dX6_ifTurned_19 : decode cX6_ifTurned 19 = .ok (.ifCond .eq 17, 3) := by decide +kernel
theorem dX6_ifTurned_22 : decode cX6_ifTurned 22 = .ok (.iload_n 2, 1) := by decide +kernel
theorem dX6_ifTurned_23 : decode cX6_ifTurned 23 = .ok (.ifCond .le 16, 3) := by decide +kernel
theorem dX6_ifTurned_26 : decode cX6_ifTurned 26 = .ok (.iload_n 2, 1) := by decide +kernel
theorem dX6_ifTurned_27 : decode cX6_ifTurned 27 = .ok (.aload_n 0, 1) := by decide +kernel
theorem dX6_ifTurned_28 : decode cX6_ifTurned 28 = .ok (.iload_n 1, 1) := by decide +kernel
theorem dX6_ifTurned_29 : decode cX6_ifTurned 29 = .ok (.iconst 3, 1) := by decide +kernel
theorem dX6_ifTurned_30 : decode cX6_ifTurned 30 = .ok (.invokevirtual 85, 3) := by decide +kernel
theorem dX6_ifTurned_33 : decode cX6_ifTurned 33 = .ok (.if_icmp .lt 6, 3) := by decide +kernel
theorem dX6_ifTurned_36 : decode cX6_ifTurned 36 = .ok (.ldc 74, 2) := by decide +kernel
theorem dX6_ifTurned_38 : decode cX6_ifTurned 38 = .ok (.ireturn, 1) := by decide +kernel
theorem dX6_ifTurned_39 : decode cX6_ifTurned 39 = .ok (.aload_n 0, 1) := by decide +kernel
theorem dX6_ifTurned_40 : decode cX6_ifTurned 40 = .ok (.invokevirtual 214, 3) := by decide +kernel
theorem dX6_ifTurned_43 : decode cX6_ifTurned 43 = .ok (.aload_n 0, 1) := by decide +kernel
theorem dX6_ifTurned_44 : decode cX6_ifTurned 44 = .ok (.iload_n 1, 1) := by decide +kernel
theorem dX6_ifTurned_45 : decode cX6_ifTurned 45 = .ok (.iload_n 2, 1) := by decide +kernel
theorem dX6_ifTurned_46 : decode cX6_ifTurned 46 = .ok (.invokevirtual 173, 3) := by decide +kernel
theorem dX6_ifTurned_49 : decode cX6_ifTurned 49 = .ok (.aload_n 0, 1) := by decide +kernel
theorem dX6_ifTurned_50 : decode cX6_ifTurned 50 = .ok (.invokevirtual 138, 3) := by decide +kernel
theorem dX6_ifTurned_53 : decode cX6_ifTurned 53 = .ok (.aload_n 0, 1) := by decide +kernel
theorem dX6_ifTurned_54 : decode cX6_ifTurned 54 = .ok (.invokevirtual 217, 3) := by decide +kernel
theorem dX6_ifTurned_57 : decode cX6_ifTurned 57 = .ok (.aload_n 0, 1) := by decide +kernel
theorem dX6_ifTurned_58 : decode cX6_ifTurned 58 = .ok (.invokevirtual 186, 3) := by decide +kernel
theorem dX6_ifTurned_61 : decode cX6_ifTurned 61 = .ok (.ireturn, 1) := by decide +kernel
theorem dX6_put_0 : decode cX6_put 0 = .ok (.lload_n 1, 1) := by decide +kernel
theorem dX6_put_1 : decode cX6_put 1 = .ok (.lstore_n 3, 1) := by decide +kernel
theorem dX6_put_2 : decode cX6_put 2 = .ok (.iconst 0, 1) := by decide +kernel
theorem dX6_put_3 : decode cX6_put 3 = .ok (.istore 5, 2) := by decide +kernel
theorem dX6_put_5 : decode cX6_put 5 = .ok (.lload_n 3, 1) := by decide +kernel
theorem dX6_put_6 : decode cX6_put 6 = .ok (.lconst 0, 1) := by decide +kernel
theorem dX6_put_7 : decode cX6_put 7 = .ok (.lcmp, 1) := by decide +kernel
theorem dX6_put_8 : decode cX6_put 8 = .ok (.ifCond .eq 55, 3) := by decide +kernel
theorem dX6_put_11 : decode cX6_put 11 = .ok (.iload 5, 2) := by decide +kernel
theorem dX6_put_13 : decode cX6_put 13 = .ok (.bipush 8, 2) := by decide +kernel
theorem dX6_put_15 : decode cX6_put 15 = .ok (.if_icmp .ge 48, 3) := by decide +kernel
theorem dX6_put_18 : decode cX6_put 18 = .ok (.aload_n 0, 1) := by decide +kernel
theorem dX6_put_19 : decode cX6_put 19 = .ok (.getfield 32, 3) := by decide +kernel
theorem dX6_put_22 : decode cX6_put 22 = .ok (.iload 5, 2) := by decide +kernel
theorem dX6_put_24 : decode cX6_put 24 = .ok (.lload_n 3, 1) := by decide +kernel
theorem dX6_put_25 : decode cX6_put 25 = .ok (.ldc2_w 220, 3) := by decide +kernel
theorem dX6_put_28 : decode cX6_put 28 = .ok (.land, 1) := by decide +kernel
theorem dX6_put_29 : decode cX6_put 29 = .ok (.l2i, 1) := by decide +kernel
theorem dX6_put_30 : decode cX6_put 30 = .ok (.iastore, 1) := by decide +kernel
theorem dX6_put_31 : decode cX6_put 31 = .ok (.aload_n 0, 1) := by decide +kernel
theorem dX6_put_32 : decode cX6_put 32 = .ok (.getfield 32, 3) := by decide +kernel
theorem dX6_put_35 : decode cX6_put 35 = .ok (.iload 5, 2) := by decide +kernel
theorem dX6_put_37 : decode cX6_put 37 = .ok (.iaload, 1) := by decide +kernel
theorem dX6_put_38 : decode cX6_put 38 = .ok (.i2l, 1) := by decide +kernel
theorem dX6_put_39 : decode cX6_put 39 = .ok (.bipush 33, 2) := by decide +kernel
theorem dX6_put_41 : decode cX6_put 41 = .ok (.bipush 126, 2) := by decide +kernel
theorem dX6_put_43 : decode cX6_put 43 = .ok (.invokestatic 65, 3) := by decide +kernel
theorem dX6_put_46 : decode cX6_put 46 = .ok (.ifCond .ne 6, 3) := by decide +kernel
theorem dX6_put_49 : decode cX6_put 49 = .ok (.ldc 74, 2) := by decide +kernel
theorem dX6_put_51 : decode cX6_put 51 = .ok (.ireturn, 1) := by decide +kernel
theorem dX6_put_52 : decode cX6_put 52 = .ok (.lload_n 3, 1) := by decide +kernel
theorem dX6_put_53 : decode cX6_put 53 = .ok (.bipush 8, 2) := by decide +kernel
theorem dX6_put_55 : decode cX6_put 55 = .ok (.lushr, 1) := by decide +kernel
theorem dX6_put_56 : decode cX6_put 56 = .ok (.lstore_n 3, 1) := by decide +kernel
theorem dX6_put_57 : decode cX6_put 57 = .ok (.iinc 5 1, 3) := by decide +kernel
theorem dX6_put_60 : decode cX6_put 60 = .ok (.goto (-55), 3) := by decide +kernel
theorem dX6_put_63 : decode cX6_put 63 = .ok (.iload 5, 2) := by decide +kernel
theorem dX6_put_65 : decode cX6_put 65 = .ok (.ifCond .ne 6, 3) := by decide +kernel
theorem dX6_put_68 : decode cX6_put 68 = .ok (.ldc 74, 2) := by decide +kernel
theorem dX6_put_70 : decode cX6_put 70 = .ok (.ireturn, 1) := by decide +kernel
theorem dX6_put_71 : decode cX6_put 71 = .ok (.aload_n 0, 1) := by decide +kernel
theorem dX6_put_72 : decode cX6_put 72 = .ok (.getfield 155, 3) := by decide +kernel
theorem dX6_put_75 : decode cX6_put 75 = .ok (.iload 5, 2) := by decide +kernel
theorem dX6_put_77 : decode cX6_put 77 = .ok (.iadd, 1) := by decide +kernel
theorem dX6_put_78 : decode cX6_put 78 = .ok (.bipush 20, 2) := by decide +kernel
theorem dX6_put_80 : decode cX6_put 80 = .ok (.if_icmp .le 6, 3) := by decide +kernel
theorem dX6_put_83 : decode cX6_put 83 = .ok (.ldc 163, 2) := by decide +kernel
theorem dX6_put_85 : decode cX6_put 85 = .ok (.ireturn, 1) := by decide +kernel
theorem dX6_put_86 : decode cX6_put 86 = .ok (.iload 5, 2) := by decide +kernel
theorem dX6_put_88 : decode cX6_put 88 = .ok (.iconst 1, 1) := by decide +kernel
theorem dX6_put_89 : decode cX6_put 89 = .ok (.isub, 1) := by decide +kernel
theorem dX6_put_90 : decode cX6_put 90 = .ok (.istore 6, 2) := by decide +kernel
theorem dX6_put_92 : decode cX6_put 92 = .ok (.iload 6, 2) := by decide +kernel
theorem dX6_put_94 : decode cX6_put 94 = .ok (.ifCond .lt 35, 3) := by decide +kernel
theorem dX6_put_97 : decode cX6_put 97 = .ok (.aload_n 0, 1) := by decide +kernel
theorem dX6_put_98 : decode cX6_put 98 = .ok (.getfield 29, 3) := by decide +kernel
theorem dX6_put_101 : decode cX6_put 101 = .ok (.aload_n 0, 1) := by decide +kernel
theorem dX6_put_102 : decode cX6_put 102 = .ok (.getfield 155, 3) := by decide +kernel
theorem dX6_put_105 : decode cX6_put 105 = .ok (.aload_n 0, 1) := by decide +kernel
theorem dX6_put_106 : decode cX6_put 106 = .ok (.getfield 32, 3) := by decide +kernel
theorem dX6_put_109 : decode cX6_put 109 = .ok (.iload 6, 2) := by decide +kernel
theorem dX6_put_111 : decode cX6_put 111 = .ok (.iaload, 1) := by decide +kernel
theorem dX6_put_112 : decode cX6_put 112 = .ok (.iastore, 1) := by decide +kernel
theorem dX6_put_113 : decode cX6_put 113 = .ok (.aload_n 0, 1) := by decide +kernel
theorem dX6_put_114 : decode cX6_put 114 = .ok (.dup, 1) := by decide +kernel
theorem dX6_put_115 : decode cX6_put 115 = .ok (.getfield 155, 3) := by decide +kernel
theorem dX6_put_118 : decode cX6_put 118 = .ok (.iconst 1, 1) := by decide +kernel
theorem dX6_put_119 : decode cX6_put 119 = .ok (.iadd, 1) := by decide +kernel
theorem dX6_put_120 : decode cX6_put 120 = .ok (.putfield 155, 3) := by decide +kernel
theorem dX6_put_123 : decode cX6_put 123 = .ok (.iinc 6 (-1), 3) := by decide +kernel
theorem dX6_put_126 : decode cX6_put 126 = .ok (.goto (-34), 3) := by decide +kernel
theorem dX6_put_129 : decode cX6_put 129 = .ok (.aload_n 0, 1) := by decide +kernel
theorem dX6_put_130 : decode cX6_put 130 = .ok (.getfield 155, 3) := by decide +kernel
theorem dX6_put_133 : decode cX6_put 133 = .ok (.ireturn, 1) := by decide +kernel
theorem dX6_wipe_0 : decode cX6_wipe 0 = .ok (.aload_n 0, 1) := by decide +kernel
theorem dX6_wipe_1 : decode cX6_wipe 1 = .ok (.getfield 155, 3) := by decide +kernel
theorem dX6_wipe_4 : decode cX6_wipe 4 = .ok (.istore_n 1, 1) := by decide +kernel
theorem dX6_wipe_5 : decode cX6_wipe 5 = .ok (.aload_n 0, 1) := by decide +kernel
theorem dX6_wipe_6 : decode cX6_wipe 6 = .ok (.iconst 0, 1) := by decide +kernel
theorem dX6_wipe_7 : decode cX6_wipe 7 = .ok (.putfield 155, 3) := by decide +kernel
theorem dX6_wipe_10 : decode cX6_wipe 10 = .ok (.iload_n 1, 1) := by decide +kernel
theorem dX6_wipe_11 : decode cX6_wipe 11 = .ok (.ireturn, 1) := by decide +kernel
theorem dX6_readPlace_0 : decode cX6_readPlace 0 = .ok (.aload_n 0, 1) := by decide +kernel
theorem dX6_readPlace_1 : decode cX6_readPlace 1 = .ok (.getfield 222, 3) := by decide +kernel
theorem dX6_readPlace_4 : decode cX6_readPlace 4 = .ok (.aload_n 0, 1) := by decide +kernel
theorem dX6_readPlace_5 : decode cX6_readPlace 5 = .ok (.getfield 155, 3) := by decide +kernel
theorem dX6_readPlace_8 : decode cX6_readPlace 8 = .ok (.if_icmp .ge 18, 3) := by decide +kernel
theorem dX6_readPlace_11 : decode cX6_readPlace 11 = .ok (.aload_n 0, 1) := by decide +kernel
theorem dX6_readPlace_12 : decode cX6_readPlace 12 = .ok (.getfield 29, 3) := by decide +kernel
theorem dX6_readPlace_15 : decode cX6_readPlace 15 = .ok (.aload_n 0, 1) := by decide +kernel
theorem dX6_readPlace_16 : decode cX6_readPlace 16 = .ok (.getfield 222, 3) := by decide +kernel
theorem dX6_readPlace_19 : decode cX6_readPlace 19 = .ok (.iaload, 1) := by decide +kernel
theorem dX6_readPlace_20 : decode cX6_readPlace 20 = .ok (.bipush 97, 2) := by decide +kernel
theorem dX6_readPlace_22 : decode cX6_readPlace 22 = .ok (.isub, 1) := by decide +kernel
theorem dX6_readPlace_23 : decode cX6_readPlace 23 = .ok (.goto 5, 3) := by decide +kernel
theorem dX6_readPlace_26 : decode cX6_readPlace 26 = .ok (.ldc 99, 2) := by decide +kernel
theorem dX6_readPlace_28 : decode cX6_readPlace 28 = .ok (.istore_n 1, 1) := by decide +kernel
theorem dX6_readPlace_29 : decode cX6_readPlace 29 = .ok (.iload_n 1, 1) := by decide +kernel
theorem dX6_readPlace_30 : decode cX6_readPlace 30 = .ok (.invokestatic 141, 3) := by decide +kernel
theorem dX6_readPlace_33 : decode cX6_readPlace 33 = .ok (.ifCond .ne 5, 3) := by decide +kernel
theorem dX6_readPlace_36 : decode cX6_readPlace 36 = .ok (.iconst 0, 1) := by decide +kernel
theorem dX6_readPlace_37 : decode cX6_readPlace 37 = .ok (.ireturn, 1) := by decide +kernel
theorem dX6_readPlace_38 : decode cX6_readPlace 38 = .ok (.iconst 0, 1) := by decide +kernel
theorem dX6_readPlace_39 : decode cX6_readPlace 39 = .ok (.istore_n 2, 1) := by decide +kernel
theorem dX6_readPlace_40 : decode cX6_readPlace 40 = .ok (.iload_n 2, 1) := by decide +kernel
theorem dX6_readPlace_41 : decode cX6_readPlace 41 = .ok (.aload_n 0, 1) := by decide +kernel
theorem dX6_readPlace_42 : decode cX6_readPlace 42 = .ok (.getfield 148, 3) := by decide +kernel
theorem dX6_readPlace_45 : decode cX6_readPlace 45 = .ok (.if_icmp .ge 21, 3) := by decide +kernel
theorem dX6_readPlace_48 : decode cX6_readPlace 48 = .ok (.aload_n 0, 1) := by decide +kernel
theorem dX6_readPlace_49 : decode cX6_readPlace 49 = .ok (.getfield 35, 3) := by decide +kernel
theorem dX6_readPlace_52 : decode cX6_readPlace 52 = .ok (.iload_n 2, 1) := by decide +kernel
theorem dX6_readPlace_53 : decode cX6_readPlace 53 = .ok (.iaload, 1) := by decide +kernel
theorem dX6_readPlace_54 : decode cX6_readPlace 54 = .ok (.iload_n 1, 1) := by decide +kernel
theorem dX6_readPlace_55 : decode cX6_readPlace 55 = .ok (.if_icmp .ne 5, 3) := by decide +kernel
theorem dX6_readPlace_58 : decode cX6_readPlace 58 = .ok (.iconst 0, 1) := by decide +kernel
theorem dX6_readPlace_59 : decode cX6_readPlace 59 = .ok (.ireturn, 1) := by decide +kernel
theorem dX6_readPlace_60 : decode cX6_readPlace 60 = .ok (.iinc 2 1, 3) := by decide +kernel
theorem dX6_readPlace_63 : decode cX6_readPlace 63 = .ok (.goto (-23), 3) := by decide +kernel
theorem dX6_readPlace_66 : decode cX6_readPlace 66 = .ok (.aload_n 0, 1) := by decide +kernel
theorem dX6_readPlace_67 : decode cX6_readPlace 67 = .ok (.getfield 35, 3) := by decide +kernel
theorem dX6_readPlace_70 : decode cX6_readPlace 70 = .ok (.aload_n 0, 1) := by decide +kernel
theorem dX6_readPlace_71 : decode cX6_readPlace 71 = .ok (.getfield 148, 3) := by decide +kernel
theorem dX6_readPlace_74 : decode cX6_readPlace 74 = .ok (.iload_n 1, 1) := by decide +kernel
theorem dX6_readPlace_75 : decode cX6_readPlace 75 = .ok (.iastore, 1) := by decide +kernel
theorem dX6_readPlace_76 : decode cX6_readPlace 76 = .ok (.aload_n 0, 1) := by decide +kernel
theorem dX6_readPlace_77 : decode cX6_readPlace 77 = .ok (.dup, 1) := by decide +kernel
theorem dX6_readPlace_78 : decode cX6_readPlace 78 = .ok (.getfield 148, 3) := by decide +kernel
theorem dX6_readPlace_81 : decode cX6_readPlace 81 = .ok (.iconst 1, 1) := by decide +kernel
theorem dX6_readPlace_82 : decode cX6_readPlace 82 = .ok (.iadd, 1) := by decide +kernel
theorem dX6_readPlace_83 : decode cX6_readPlace 83 = .ok (.putfield 148, 3) := by decide +kernel
theorem dX6_readPlace_86 : decode cX6_readPlace 86 = .ok (.aload_n 0, 1) := by decide +kernel
theorem dX6_readPlace_87 : decode cX6_readPlace 87 = .ok (.dup, 1) := by decide +kernel
theorem dX6_readPlace_88 : decode cX6_readPlace 88 = .ok (.getfield 222, 3) := by decide +kernel
theorem dX6_readPlace_91 : decode cX6_readPlace 91 = .ok (.iconst 1, 1) := by decide +kernel
theorem dX6_readPlace_92 : decode cX6_readPlace 92 = .ok (.iadd, 1) := by decide +kernel
theorem dX6_readPlace_93 : decode cX6_readPlace 93 = .ok (.putfield 222, 3) := by decide +kernel
theorem dX6_readPlace_96 : decode cX6_readPlace 96 = .ok (.iconst 1, 1) := by decide +kernel
theorem dX6_readPlace_97 : decode cX6_readPlace 97 = .ok (.ireturn, 1) := by decide +kernel
theorem dX6_isWell_0 : decode cX6_isWell 0 = .ok (.aload_n 0, 1) := by decide +kernel
theorem dX6_isWell_1 : decode cX6_isWell 1 = .ok (.iconst 0, 1) := by decide +kernel
theorem dX6_isWell_2 : decode cX6_isWell 2 = .ok (.putfield 222, 3) := by decide +kernel
theorem dX6_isWell_5 : decode cX6_isWell 5 = .ok (.aload_n 0, 1) := by decide +kernel
theorem dX6_isWell_6 : decode cX6_isWell 6 = .ok (.iconst 0, 1) := by decide +kernel
theorem dX6_isWell_7 : decode cX6_isWell 7 = .ok (.putfield 148, 3) := by decide +kernel
theorem dX6_isWell_10 : decode cX6_isWell 10 = .ok (.aload_n 0, 1) := by decide +kernel
theorem dX6_isWell_11 : decode cX6_isWell 11 = .ok (.invokevirtual 225, 3) := by decide +kernel
theorem dX6_isWell_14 : decode cX6_isWell 14 = .ok (.istore_n 1, 1) := by decide +kernel
theorem dX6_isWell_15 : decode cX6_isWell 15 = .ok (.iload_n 1, 1) := by decide +kernel
theorem dX6_isWell_16 : decode cX6_isWell 16 = .ok (.ifCond .eq 81, 3) := by decide +kernel
theorem dX6_isWell_19 : decode cX6_isWell 19 = .ok (.aload_n 0, 1) := by decide +kernel
theorem dX6_isWell_20 : decode cX6_isWell 20 = .ok (.getfield 222, 3) := by decide +kernel
theorem dX6_isWell_23 : decode cX6_isWell 23 = .ok (.aload_n 0, 1) := by decide +kernel
theorem dX6_isWell_24 : decode cX6_isWell 24 = .ok (.getfield 155, 3) := by decide +kernel
theorem dX6_isWell_27 : decode cX6_isWell 27 = .ok (.if_icmp .ge 70, 3) := by decide +kernel
theorem dX6_isWell_30 : decode cX6_isWell 30 = .ok (.aload_n 0, 1) := by decide +kernel
theorem dX6_isWell_31 : decode cX6_isWell 31 = .ok (.getfield 148, 3) := by decide +kernel
theorem dX6_isWell_34 : decode cX6_isWell 34 = .ok (.bipush 8, 2) := by decide +kernel
theorem dX6_isWell_36 : decode cX6_isWell 36 = .ok (.if_icmp .ge 21, 3) := by decide +kernel
theorem dX6_isWell_39 : decode cX6_isWell 39 = .ok (.aload_n 0, 1) := by decide +kernel
theorem dX6_isWell_40 : decode cX6_isWell 40 = .ok (.getfield 29, 3) := by decide +kernel
theorem dX6_isWell_43 : decode cX6_isWell 43 = .ok (.aload_n 0, 1) := by decide +kernel
theorem dX6_isWell_44 : decode cX6_isWell 44 = .ok (.getfield 222, 3) := by decide +kernel
theorem dX6_isWell_47 : decode cX6_isWell 47 = .ok (.iaload, 1) := by decide +kernel
theorem dX6_isWell_48 : decode cX6_isWell 48 = .ok (.bipush 62, 2) := by decide +kernel
theorem dX6_isWell_50 : decode cX6_isWell 50 = .ok (.if_icmp .ne 7, 3) := by decide +kernel
theorem dX6_isWell_53 : decode cX6_isWell 53 = .ok (.iconst 1, 1) := by decide +kernel
theorem dX6_isWell_54 : decode cX6_isWell 54 = .ok (.goto 4, 3) := by decide +kernel
theorem dX6_isWell_57 : decode cX6_isWell 57 = .ok (.iconst 0, 1) := by decide +kernel
theorem dX6_isWell_58 : decode cX6_isWell 58 = .ok (.istore_n 1, 1) := by decide +kernel
theorem dX6_isWell_59 : decode cX6_isWell 59 = .ok (.aload_n 0, 1) := by decide +kernel
theorem dX6_isWell_60 : decode cX6_isWell 60 = .ok (.dup, 1) := by decide +kernel
theorem dX6_isWell_61 : decode cX6_isWell 61 = .ok (.getfield 222, 3) := by decide +kernel
theorem dX6_isWell_64 : decode cX6_isWell 64 = .ok (.iload_n 1, 1) := by decide +kernel
theorem dX6_isWell_65 : decode cX6_isWell 65 = .ok (.ifCond .eq 7, 3) := by decide +kernel
theorem dX6_isWell_68 : decode cX6_isWell 68 = .ok (.iconst 1, 1) := by decide +kernel
theorem dX6_isWell_69 : decode cX6_isWell 69 = .ok (.goto 4, 3) := by decide +kernel
theorem dX6_isWell_72 : decode cX6_isWell 72 = .ok (.iconst 0, 1) := by decide +kernel
theorem dX6_isWell_73 : decode cX6_isWell 73 = .ok (.iadd, 1) := by decide +kernel
theorem dX6_isWell_74 : decode cX6_isWell 74 = .ok (.putfield 222, 3) := by decide +kernel
theorem dX6_isWell_77 : decode cX6_isWell 77 = .ok (.iload_n 1, 1) := by decide +kernel
theorem dX6_isWell_78 : decode cX6_isWell 78 = .ok (.ifCond .eq 14, 3) := by decide +kernel
theorem dX6_isWell_81 : decode cX6_isWell 81 = .ok (.aload_n 0, 1) := by decide +kernel
theorem dX6_isWell_82 : decode cX6_isWell 82 = .ok (.invokevirtual 225, 3) := by decide +kernel
theorem dX6_isWell_85 : decode cX6_isWell 85 = .ok (.ifCond .eq 7, 3) := by decide +kernel
theorem dX6_isWell_88 : decode cX6_isWell 88 = .ok (.iconst 1, 1) := by decide +kernel
theorem dX6_isWell_89 : decode cX6_isWell 89 = .ok (.goto 4, 3) := by decide +kernel
theorem dX6_isWell_92 : decode cX6_isWell 92 = .ok (.iconst 0, 1) := by decide +kernel
theorem dX6_isWell_93 : decode cX6_isWell 93 = .ok (.istore_n 1, 1) := by decide +kernel
theorem dX6_isWell_94 : decode cX6_isWell 94 = .ok (.goto (-79), 3) := by decide +kernel
theorem dX6_isWell_97 : decode cX6_isWell 97 = .ok (.iload_n 1, 1) := by decide +kernel
theorem dX6_isWell_98 : decode cX6_isWell 98 = .ok (.ireturn, 1) := by decide +kernel
theorem dX6_fault_0 : decode cX6_fault 0 = .ok (.aload_n 0, 1) := by decide +kernel
theorem dX6_fault_1 : decode cX6_fault 1 = .ok (.invokevirtual 158, 3) := by decide +kernel
theorem dX6_fault_4 : decode cX6_fault 4 = .ok (.ifCond .eq 8, 3) := by decide +kernel
theorem dX6_fault_7 : decode cX6_fault 7 = .ok (.ldc 99, 2) := by decide +kernel
theorem dX6_fault_9 : decode cX6_fault 9 = .ok (.goto 7, 3) := by decide +kernel
theorem dX6_fault_12 : decode cX6_fault 12 = .ok (.aload_n 0, 1) := by decide +kernel
theorem dX6_fault_13 : decode cX6_fault 13 = .ok (.getfield 222, 3) := by decide +kernel
theorem dX6_fault_16 : decode cX6_fault 16 = .ok (.ireturn, 1) := by decide +kernel
theorem dJ6_bitCount_0f7a4_0 : decode cJ6_bitCount_0f7a4 0 = .ok (.iload_n 0, 1) := by decide +kernel
theorem dJ6_bitCount_0f7a4_1 : decode cJ6_bitCount_0f7a4 1 = .ok (.iload_n 0, 1) := by decide +kernel
theorem dJ6_bitCount_0f7a4_2 : decode cJ6_bitCount_0f7a4 2 = .ok (.iconst 1, 1) := by decide +kernel
theorem dJ6_bitCount_0f7a4_3 : decode cJ6_bitCount_0f7a4 3 = .ok (.iushr, 1) := by decide +kernel
theorem dJ6_bitCount_0f7a4_4 : decode cJ6_bitCount_0f7a4 4 = .ok (.ldc_w 265, 3) := by decide +kernel
theorem dJ6_bitCount_0f7a4_7 : decode cJ6_bitCount_0f7a4 7 = .ok (.iand, 1) := by decide +kernel
theorem dJ6_bitCount_0f7a4_8 : decode cJ6_bitCount_0f7a4 8 = .ok (.isub, 1) := by decide +kernel
theorem dJ6_bitCount_0f7a4_9 : decode cJ6_bitCount_0f7a4 9 = .ok (.istore_n 0, 1) := by decide +kernel
theorem dJ6_bitCount_0f7a4_10 : decode cJ6_bitCount_0f7a4 10 = .ok (.iload_n 0, 1) := by decide +kernel
theorem dJ6_bitCount_0f7a4_11 : decode cJ6_bitCount_0f7a4 11 = .ok (.ldc_w 266, 3) := by decide +kernel
theorem dJ6_bitCount_0f7a4_14 : decode cJ6_bitCount_0f7a4 14 = .ok (.iand, 1) := by decide +kernel
theorem dJ6_bitCount_0f7a4_15 : decode cJ6_bitCount_0f7a4 15 = .ok (.iload_n 0, 1) := by decide +kernel
theorem dJ6_bitCount_0f7a4_16 : decode cJ6_bitCount_0f7a4 16 = .ok (.iconst 2, 1) := by decide +kernel
theorem dJ6_bitCount_0f7a4_17 : decode cJ6_bitCount_0f7a4 17 = .ok (.iushr, 1) := by decide +kernel
theorem dJ6_bitCount_0f7a4_18 : decode cJ6_bitCount_0f7a4 18 = .ok (.ldc_w 266, 3) := by decide +kernel
theorem dJ6_bitCount_0f7a4_21 : decode cJ6_bitCount_0f7a4 21 = .ok (.iand, 1) := by decide +kernel
theorem dJ6_bitCount_0f7a4_22 : decode cJ6_bitCount_0f7a4 22 = .ok (.iadd, 1) := by decide +kernel
theorem dJ6_bitCount_0f7a4_23 : decode cJ6_bitCount_0f7a4 23 = .ok (.istore_n 0, 1) := by decide +kernel
theorem dJ6_bitCount_0f7a4_24 : decode cJ6_bitCount_0f7a4 24 = .ok (.iload_n 0, 1) := by decide +kernel
theorem dJ6_bitCount_0f7a4_25 : decode cJ6_bitCount_0f7a4 25 = .ok (.iload_n 0, 1) := by decide +kernel
theorem dJ6_bitCount_0f7a4_26 : decode cJ6_bitCount_0f7a4 26 = .ok (.iconst 4, 1) := by decide +kernel
theorem dJ6_bitCount_0f7a4_27 : decode cJ6_bitCount_0f7a4 27 = .ok (.iushr, 1) := by decide +kernel
theorem dJ6_bitCount_0f7a4_28 : decode cJ6_bitCount_0f7a4 28 = .ok (.iadd, 1) := by decide +kernel
theorem dJ6_bitCount_0f7a4_29 : decode cJ6_bitCount_0f7a4 29 = .ok (.ldc_w 267, 3) := by decide +kernel
theorem dJ6_bitCount_0f7a4_32 : decode cJ6_bitCount_0f7a4 32 = .ok (.iand, 1) := by decide +kernel
theorem dJ6_bitCount_0f7a4_33 : decode cJ6_bitCount_0f7a4 33 = .ok (.istore_n 0, 1) := by decide +kernel
theorem dJ6_bitCount_0f7a4_34 : decode cJ6_bitCount_0f7a4 34 = .ok (.iload_n 0, 1) := by decide +kernel
theorem dJ6_bitCount_0f7a4_35 : decode cJ6_bitCount_0f7a4 35 = .ok (.iload_n 0, 1) := by decide +kernel
theorem dJ6_bitCount_0f7a4_36 : decode cJ6_bitCount_0f7a4 36 = .ok (.bipush 8, 2) := by decide +kernel
theorem dJ6_bitCount_0f7a4_38 : decode cJ6_bitCount_0f7a4 38 = .ok (.iushr, 1) := by decide +kernel
theorem dJ6_bitCount_0f7a4_39 : decode cJ6_bitCount_0f7a4 39 = .ok (.iadd, 1) := by decide +kernel
theorem dJ6_bitCount_0f7a4_40 : decode cJ6_bitCount_0f7a4 40 = .ok (.istore_n 0, 1) := by decide +kernel
theorem dJ6_bitCount_0f7a4_41 : decode cJ6_bitCount_0f7a4 41 = .ok (.iload_n 0, 1) := by decide +kernel
theorem dJ6_bitCount_0f7a4_42 : decode cJ6_bitCount_0f7a4 42 = .ok (.iload_n 0, 1) := by decide +kernel
theorem dJ6_bitCount_0f7a4_43 : decode cJ6_bitCount_0f7a4 43 = .ok (.bipush 16, 2) := by decide +kernel
theorem dJ6_bitCount_0f7a4_45 : decode cJ6_bitCount_0f7a4 45 = .ok (.iushr, 1) := by decide +kernel
theorem dJ6_bitCount_0f7a4_46 : decode cJ6_bitCount_0f7a4 46 = .ok (.iadd, 1) := by decide +kernel
theorem dJ6_bitCount_0f7a4_47 : decode cJ6_bitCount_0f7a4 47 = .ok (.istore_n 0, 1) := by decide +kernel
theorem dJ6_bitCount_0f7a4_48 : decode cJ6_bitCount_0f7a4 48 = .ok (.iload_n 0, 1) := by decide +kernel
theorem dJ6_bitCount_0f7a4_49 : decode cJ6_bitCount_0f7a4 49 = .ok (.bipush 63, 2) := by decide +kernel
theorem dJ6_bitCount_0f7a4_51 : decode cJ6_bitCount_0f7a4 51 = .ok (.iand, 1) := by decide +kernel
theorem dJ6_bitCount_0f7a4_52 : decode cJ6_bitCount_0f7a4 52 = .ok (.ireturn, 1) := by decide +kernel
theorem dJ9_abs_0f7a4_0 : decode cJ9_abs_0f7a4 0 = .ok (.iload_n 0, 1) := by decide +kernel
theorem dJ9_abs_0f7a4_1 : decode cJ9_abs_0f7a4 1 = .ok (.ifCond .ge 8, 3) := by decide +kernel
theorem dJ9_abs_0f7a4_4 : decode cJ9_abs_0f7a4 4 = .ok (.iload_n 0, 1) := by decide +kernel
theorem dJ9_abs_0f7a4_5 : decode cJ9_abs_0f7a4 5 = .ok (.ineg, 1) := by decide +kernel
theorem dJ9_abs_0f7a4_6 : decode cJ9_abs_0f7a4 6 = .ok (.goto 4, 3) := by decide +kernel
theorem dJ9_abs_0f7a4_9 : decode cJ9_abs_0f7a4 9 = .ok (.iload_n 0, 1) := by decide +kernel
theorem dJ9_abs_0f7a4_10 : decode cJ9_abs_0f7a4 10 = .ok (.ireturn, 1) := by decide +kernel
theorem dJ9_max_7cf53_0 : decode cJ9_max_7cf53 0 = .ok (.iload_n 0, 1) := by decide +kernel
theorem dJ9_max_7cf53_1 : decode cJ9_max_7cf53 1 = .ok (.iload_n 1, 1) := by decide +kernel
theorem dJ9_max_7cf53_2 : decode cJ9_max_7cf53 2 = .ok (.if_icmp .lt 7, 3) := by decide +kernel
theorem dJ9_max_7cf53_5 : decode cJ9_max_7cf53 5 = .ok (.iload_n 0, 1) := by decide +kernel
theorem dJ9_max_7cf53_6 : decode cJ9_max_7cf53 6 = .ok (.goto 4, 3) := by decide +kernel
theorem dJ9_max_7cf53_9 : decode cJ9_max_7cf53 9 = .ok (.iload_n 1, 1) := by decide +kernel
theorem dJ9_max_7cf53_10 : decode cJ9_max_7cf53 10 = .ok (.ireturn, 1) := by decide +kernel
theorem dJ9_min_7cf53_0 : decode cJ9_min_7cf53 0 = .ok (.iload_n 0, 1) := by decide +kernel
theorem dJ9_min_7cf53_1 : decode cJ9_min_7cf53 1 = .ok (.iload_n 1, 1) := by decide +kernel
theorem dJ9_min_7cf53_2 : decode cJ9_min_7cf53 2 = .ok (.if_icmp .gt 7, 3) := by decide +kernel
theorem dJ9_min_7cf53_5 : decode cJ9_min_7cf53 5 = .ok (.iload_n 0, 1) := by decide +kernel
theorem dJ9_min_7cf53_6 : decode cJ9_min_7cf53 6 = .ok (.goto 4, 3) := by decide +kernel
theorem dJ9_min_7cf53_9 : decode cJ9_min_7cf53 9 = .ok (.iload_n 1, 1) := by decide +kernel
theorem dJ9_min_7cf53_10 : decode cJ9_min_7cf53 10 = .ok (.ireturn, 1) := by decide +kernel
theorem dJ7_fill_53178_0 : decode cJ7_fill_53178 0 = .ok (.iconst 0, 1) := by decide +kernel
theorem dJ7_fill_53178_1 : decode cJ7_fill_53178 1 = .ok (.istore_n 2, 1) := by decide +kernel
theorem dJ7_fill_53178_2 : decode cJ7_fill_53178 2 = .ok (.aload_n 0, 1) := by decide +kernel
theorem dJ7_fill_53178_3 : decode cJ7_fill_53178 3 = .ok (.arraylength, 1) := by decide +kernel
theorem dJ7_fill_53178_4 : decode cJ7_fill_53178 4 = .ok (.istore_n 3, 1) := by decide +kernel
theorem dJ7_fill_53178_5 : decode cJ7_fill_53178 5 = .ok (.iload_n 2, 1) := by decide +kernel
theorem dJ7_fill_53178_6 : decode cJ7_fill_53178 6 = .ok (.iload_n 3, 1) := by decide +kernel
theorem dJ7_fill_53178_7 : decode cJ7_fill_53178 7 = .ok (.if_icmp .ge 13, 3) := by decide +kernel
theorem dJ7_fill_53178_10 : decode cJ7_fill_53178 10 = .ok (.aload_n 0, 1) := by decide +kernel
theorem dJ7_fill_53178_11 : decode cJ7_fill_53178 11 = .ok (.iload_n 2, 1) := by decide +kernel
theorem dJ7_fill_53178_12 : decode cJ7_fill_53178 12 = .ok (.iload_n 1, 1) := by decide +kernel
theorem dJ7_fill_53178_13 : decode cJ7_fill_53178 13 = .ok (.iastore, 1) := by decide +kernel
theorem dJ7_fill_53178_14 : decode cJ7_fill_53178 14 = .ok (.iinc 2 1, 3) := by decide +kernel
theorem dJ7_fill_53178_17 : decode cJ7_fill_53178 17 = .ok (.goto (-12), 3) := by decide +kernel
theorem dJ7_fill_53178_20 : decode cJ7_fill_53178 20 = .ok (.return_, 1) := by decide +kernel
theorem dL_law_0 : decode cL_law 0 = .ok (.new 7, 3) := by decide +kernel
theorem dL_law_3 : decode cL_law 3 = .ok (.dup, 1) := by decide +kernel
theorem dL_law_4 : decode cL_law 4 = .ok (.invokespecial 9, 3) := by decide +kernel
theorem dL_law_7 : decode cL_law 7 = .ok (.astore_n 1, 1) := by decide +kernel
theorem dL_law_8 : decode cL_law 8 = .ok (.new 10, 3) := by decide +kernel
theorem dL_law_11 : decode cL_law 11 = .ok (.dup, 1) := by decide +kernel
theorem dL_law_12 : decode cL_law 12 = .ok (.invokespecial 12, 3) := by decide +kernel
theorem dL_law_15 : decode cL_law 15 = .ok (.astore_n 2, 1) := by decide +kernel
theorem dL_law_16 : decode cL_law 16 = .ok (.iconst 0, 1) := by decide +kernel
theorem dL_law_17 : decode cL_law 17 = .ok (.istore_n 3, 1) := by decide +kernel
theorem dL_law_18 : decode cL_law 18 = .ok (.iload_n 3, 1) := by decide +kernel
theorem dL_law_19 : decode cL_law 19 = .ok (.aload_n 0, 1) := by decide +kernel
theorem dL_law_20 : decode cL_law 20 = .ok (.arraylength, 1) := by decide +kernel
theorem dL_law_21 : decode cL_law 21 = .ok (.iconst 5, 1) := by decide +kernel
theorem dL_law_22 : decode cL_law 22 = .ok (.isub, 1) := by decide +kernel
theorem dL_law_23 : decode cL_law 23 = .ok (.if_icmp .gt 1009, 3) := by decide +kernel
theorem dL_law_26 : decode cL_law 26 = .ok (.aload_n 0, 1) := by decide +kernel
theorem dL_law_27 : decode cL_law 27 = .ok (.iload_n 3, 1) := by decide +kernel
theorem dL_law_28 : decode cL_law 28 = .ok (.iaload, 1) := by decide +kernel
theorem dL_law_29 : decode cL_law 29 = .ok (.bipush 31, 2) := by decide +kernel
theorem dL_law_31 : decode cL_law 31 = .ok (.iand, 1) := by decide +kernel
theorem dL_law_32 : decode cL_law 32 = .ok (.tableswitch 994 0 27 #[128, 161, 214, 263, 286, 309, 332, 365, 424, 457, 490, 533, 546, 589, 622, 655, 688, 721, 744, 767, 800, 823, 856, 909, 922, 935, 948, 971], 128) := by decide +kernel
theorem dL_law_160 : decode cL_law 160 = .ok (.aload_n 1, 1) := by decide +kernel
theorem dL_law_161 : decode cL_law 161 = .ok (.aload_n 0, 1) := by decide +kernel
theorem dL_law_162 : decode cL_law 162 = .ok (.iload_n 3, 1) := by decide +kernel
theorem dL_law_163 : decode cL_law 163 = .ok (.iconst 1, 1) := by decide +kernel
theorem dL_law_164 : decode cL_law 164 = .ok (.iadd, 1) := by decide +kernel
theorem dL_law_165 : decode cL_law 165 = .ok (.iaload, 1) := by decide +kernel
theorem dL_law_166 : decode cL_law 166 = .ok (.aload_n 0, 1) := by decide +kernel
theorem dL_law_167 : decode cL_law 167 = .ok (.iload_n 3, 1) := by decide +kernel
theorem dL_law_168 : decode cL_law 168 = .ok (.iconst 2, 1) := by decide +kernel
theorem dL_law_169 : decode cL_law 169 = .ok (.iadd, 1) := by decide +kernel
theorem dL_law_170 : decode cL_law 170 = .ok (.iaload, 1) := by decide +kernel
theorem dL_law_171 : decode cL_law 171 = .ok (.invokevirtual 13, 3) := by decide +kernel
theorem dL_law_174 : decode cL_law 174 = .ok (.aload_n 2, 1) := by decide +kernel
theorem dL_law_175 : decode cL_law 175 = .ok (.aload_n 0, 1) := by decide +kernel
theorem dL_law_176 : decode cL_law 176 = .ok (.iload_n 3, 1) := by decide +kernel
theorem dL_law_177 : decode cL_law 177 = .ok (.iconst 1, 1) := by decide +kernel
theorem dL_law_178 : decode cL_law 178 = .ok (.iadd, 1) := by decide +kernel
theorem dL_law_179 : decode cL_law 179 = .ok (.iaload, 1) := by decide +kernel
theorem dL_law_180 : decode cL_law 180 = .ok (.aload_n 0, 1) := by decide +kernel
theorem dL_law_181 : decode cL_law 181 = .ok (.iload_n 3, 1) := by decide +kernel
theorem dL_law_182 : decode cL_law 182 = .ok (.iconst 2, 1) := by decide +kernel
theorem dL_law_183 : decode cL_law 183 = .ok (.iadd, 1) := by decide +kernel
theorem dL_law_184 : decode cL_law 184 = .ok (.iaload, 1) := by decide +kernel
theorem dL_law_185 : decode cL_law 185 = .ok (.invokevirtual 17, 3) := by decide +kernel
theorem dL_law_188 : decode cL_law 188 = .ok (.if_icmp .eq 838, 3) := by decide +kernel
theorem dL_law_191 : decode cL_law 191 = .ok (.iconst 0, 1) := by decide +kernel
theorem dL_law_192 : decode cL_law 192 = .ok (.ireturn, 1) := by decide +kernel
theorem dL_law_193 : decode cL_law 193 = .ok (.aload_n 1, 1) := by decide +kernel
theorem dL_law_194 : decode cL_law 194 = .ok (.aload_n 0, 1) := by decide +kernel
theorem dL_law_195 : decode cL_law 195 = .ok (.iload_n 3, 1) := by decide +kernel
theorem dL_law_196 : decode cL_law 196 = .ok (.iconst 1, 1) := by decide +kernel
theorem dL_law_197 : decode cL_law 197 = .ok (.iadd, 1) := by decide +kernel
theorem dL_law_198 : decode cL_law 198 = .ok (.iaload, 1) := by decide +kernel
theorem dL_law_199 : decode cL_law 199 = .ok (.aload_n 0, 1) := by decide +kernel
theorem dL_law_200 : decode cL_law 200 = .ok (.iload_n 3, 1) := by decide +kernel
theorem dL_law_201 : decode cL_law 201 = .ok (.iconst 2, 1) := by decide +kernel
theorem dL_law_202 : decode cL_law 202 = .ok (.iadd, 1) := by decide +kernel
theorem dL_law_203 : decode cL_law 203 = .ok (.iaload, 1) := by decide +kernel
theorem dL_law_204 : decode cL_law 204 = .ok (.aload_n 0, 1) := by decide +kernel
theorem dL_law_205 : decode cL_law 205 = .ok (.iload_n 3, 1) := by decide +kernel
theorem dL_law_206 : decode cL_law 206 = .ok (.iconst 3, 1) := by decide +kernel
theorem dL_law_207 : decode cL_law 207 = .ok (.iadd, 1) := by decide +kernel
theorem dL_law_208 : decode cL_law 208 = .ok (.iaload, 1) := by decide +kernel
theorem dL_law_209 : decode cL_law 209 = .ok (.aload_n 0, 1) := by decide +kernel
theorem dL_law_210 : decode cL_law 210 = .ok (.iload_n 3, 1) := by decide +kernel
theorem dL_law_211 : decode cL_law 211 = .ok (.iconst 4, 1) := by decide +kernel
theorem dL_law_212 : decode cL_law 212 = .ok (.iadd, 1) := by decide +kernel
theorem dL_law_213 : decode cL_law 213 = .ok (.iaload, 1) := by decide +kernel
theorem dL_law_214 : decode cL_law 214 = .ok (.invokevirtual 18, 3) := by decide +kernel
theorem dL_law_217 : decode cL_law 217 = .ok (.aload_n 2, 1) := by decide +kernel
theorem dL_law_218 : decode cL_law 218 = .ok (.aload_n 0, 1) := by decide +kernel
theorem dL_law_219 : decode cL_law 219 = .ok (.iload_n 3, 1) := by decide +kernel
theorem dL_law_220 : decode cL_law 220 = .ok (.iconst 1, 1) := by decide +kernel
theorem dL_law_221 : decode cL_law 221 = .ok (.iadd, 1) := by decide +kernel
theorem dL_law_222 : decode cL_law 222 = .ok (.iaload, 1) := by decide +kernel
theorem dL_law_223 : decode cL_law 223 = .ok (.aload_n 0, 1) := by decide +kernel
theorem dL_law_224 : decode cL_law 224 = .ok (.iload_n 3, 1) := by decide +kernel
theorem dL_law_225 : decode cL_law 225 = .ok (.iconst 2, 1) := by decide +kernel
theorem dL_law_226 : decode cL_law 226 = .ok (.iadd, 1) := by decide +kernel
theorem dL_law_227 : decode cL_law 227 = .ok (.iaload, 1) := by decide +kernel
theorem dL_law_228 : decode cL_law 228 = .ok (.aload_n 0, 1) := by decide +kernel
theorem dL_law_229 : decode cL_law 229 = .ok (.iload_n 3, 1) := by decide +kernel
theorem dL_law_230 : decode cL_law 230 = .ok (.iconst 3, 1) := by decide +kernel
theorem dL_law_231 : decode cL_law 231 = .ok (.iadd, 1) := by decide +kernel
theorem dL_law_232 : decode cL_law 232 = .ok (.iaload, 1) := by decide +kernel
theorem dL_law_233 : decode cL_law 233 = .ok (.aload_n 0, 1) := by decide +kernel
theorem dL_law_234 : decode cL_law 234 = .ok (.iload_n 3, 1) := by decide +kernel
theorem dL_law_235 : decode cL_law 235 = .ok (.iconst 4, 1) := by decide +kernel
theorem dL_law_236 : decode cL_law 236 = .ok (.iadd, 1) := by decide +kernel
theorem dL_law_237 : decode cL_law 237 = .ok (.iaload, 1) := by decide +kernel
theorem dL_law_238 : decode cL_law 238 = .ok (.invokevirtual 22, 3) := by decide +kernel
theorem dL_law_241 : decode cL_law 241 = .ok (.if_icmp .eq 785, 3) := by decide +kernel
theorem dL_law_244 : decode cL_law 244 = .ok (.iconst 0, 1) := by decide +kernel
theorem dL_law_245 : decode cL_law 245 = .ok (.ireturn, 1) := by decide +kernel
theorem dL_law_246 : decode cL_law 246 = .ok (.aload_n 1, 1) := by decide +kernel
theorem dL_law_247 : decode cL_law 247 = .ok (.aload_n 0, 1) := by decide +kernel
theorem dL_law_248 : decode cL_law 248 = .ok (.iload_n 3, 1) := by decide +kernel
theorem dL_law_249 : decode cL_law 249 = .ok (.iconst 1, 1) := by decide +kernel
theorem dL_law_250 : decode cL_law 250 = .ok (.iadd, 1) := by decide +kernel
theorem dL_law_251 : decode cL_law 251 = .ok (.iaload, 1) := by decide +kernel
theorem dL_law_252 : decode cL_law 252 = .ok (.aload_n 0, 1) := by decide +kernel
theorem dL_law_253 : decode cL_law 253 = .ok (.iload_n 3, 1) := by decide +kernel
theorem dL_law_254 : decode cL_law 254 = .ok (.iconst 2, 1) := by decide +kernel
theorem dL_law_255 : decode cL_law 255 = .ok (.iadd, 1) := by decide +kernel
theorem dL_law_256 : decode cL_law 256 = .ok (.iaload, 1) := by decide +kernel
theorem dL_law_257 : decode cL_law 257 = .ok (.ifCond .eq 7, 3) := by decide +kernel
theorem dL_law_260 : decode cL_law 260 = .ok (.iconst 1, 1) := by decide +kernel
theorem dL_law_261 : decode cL_law 261 = .ok (.goto 4, 3) := by decide +kernel
theorem dL_law_264 : decode cL_law 264 = .ok (.iconst 0, 1) := by decide +kernel
theorem dL_law_265 : decode cL_law 265 = .ok (.invokevirtual 23, 3) := by decide +kernel
theorem dL_law_268 : decode cL_law 268 = .ok (.aload_n 2, 1) := by decide +kernel
theorem dL_law_269 : decode cL_law 269 = .ok (.aload_n 0, 1) := by decide +kernel
theorem dL_law_270 : decode cL_law 270 = .ok (.iload_n 3, 1) := by decide +kernel
theorem dL_law_271 : decode cL_law 271 = .ok (.iconst 1, 1) := by decide +kernel
theorem dL_law_272 : decode cL_law 272 = .ok (.iadd, 1) := by decide +kernel
theorem dL_law_273 : decode cL_law 273 = .ok (.iaload, 1) := by decide +kernel
theorem dL_law_274 : decode cL_law 274 = .ok (.aload_n 0, 1) := by decide +kernel
theorem dL_law_275 : decode cL_law 275 = .ok (.iload_n 3, 1) := by decide +kernel
theorem dL_law_276 : decode cL_law 276 = .ok (.iconst 2, 1) := by decide +kernel
theorem dL_law_277 : decode cL_law 277 = .ok (.iadd, 1) := by decide +kernel
theorem dL_law_278 : decode cL_law 278 = .ok (.iaload, 1) := by decide +kernel
theorem dL_law_279 : decode cL_law 279 = .ok (.ifCond .eq 7, 3) := by decide +kernel
theorem dL_law_282 : decode cL_law 282 = .ok (.iconst 1, 1) := by decide +kernel
theorem dL_law_283 : decode cL_law 283 = .ok (.goto 4, 3) := by decide +kernel
theorem dL_law_286 : decode cL_law 286 = .ok (.iconst 0, 1) := by decide +kernel
theorem dL_law_287 : decode cL_law 287 = .ok (.invokevirtual 27, 3) := by decide +kernel
theorem dL_law_290 : decode cL_law 290 = .ok (.if_icmp .eq 736, 3) := by decide +kernel
theorem dL_law_293 : decode cL_law 293 = .ok (.iconst 0, 1) := by decide +kernel
theorem dL_law_294 : decode cL_law 294 = .ok (.ireturn, 1) := by decide +kernel
theorem dL_law_295 : decode cL_law 295 = .ok (.aload_n 1, 1) := by decide +kernel
theorem dL_law_296 : decode cL_law 296 = .ok (.aload_n 0, 1) := by decide +kernel
theorem dL_law_297 : decode cL_law 297 = .ok (.iload_n 3, 1) := by decide +kernel
theorem dL_law_298 : decode cL_law 298 = .ok (.iconst 1, 1) := by decide +kernel
theorem dL_law_299 : decode cL_law 299 = .ok (.iadd, 1) := by decide +kernel
theorem dL_law_300 : decode cL_law 300 = .ok (.iaload, 1) := by decide +kernel
theorem dL_law_301 : decode cL_law 301 = .ok (.invokevirtual 28, 3) := by decide +kernel
theorem dL_law_304 : decode cL_law 304 = .ok (.aload_n 2, 1) := by decide +kernel
theorem dL_law_305 : decode cL_law 305 = .ok (.aload_n 0, 1) := by decide +kernel
theorem dL_law_306 : decode cL_law 306 = .ok (.iload_n 3, 1) := by decide +kernel
theorem dL_law_307 : decode cL_law 307 = .ok (.iconst 1, 1) := by decide +kernel
theorem dL_law_308 : decode cL_law 308 = .ok (.iadd, 1) := by decide +kernel
theorem dL_law_309 : decode cL_law 309 = .ok (.iaload, 1) := by decide +kernel
theorem dL_law_310 : decode cL_law 310 = .ok (.invokevirtual 32, 3) := by decide +kernel
theorem dL_law_313 : decode cL_law 313 = .ok (.if_icmp .eq 713, 3) := by decide +kernel
theorem dL_law_316 : decode cL_law 316 = .ok (.iconst 0, 1) := by decide +kernel
theorem dL_law_317 : decode cL_law 317 = .ok (.ireturn, 1) := by decide +kernel
theorem dL_law_318 : decode cL_law 318 = .ok (.aload_n 1, 1) := by decide +kernel
theorem dL_law_319 : decode cL_law 319 = .ok (.aload_n 0, 1) := by decide +kernel
theorem dL_law_320 : decode cL_law 320 = .ok (.iload_n 3, 1) := by decide +kernel
theorem dL_law_321 : decode cL_law 321 = .ok (.iconst 1, 1) := by decide +kernel
theorem dL_law_322 : decode cL_law 322 = .ok (.iadd, 1) := by decide +kernel
theorem dL_law_323 : decode cL_law 323 = .ok (.iaload, 1) := by decide +kernel
theorem dL_law_324 : decode cL_law 324 = .ok (.invokevirtual 33, 3) := by decide +kernel
theorem dL_law_327 : decode cL_law 327 = .ok (.aload_n 2, 1) := by decide +kernel
theorem dL_law_328 : decode cL_law 328 = .ok (.aload_n 0, 1) := by decide +kernel
theorem dL_law_329 : decode cL_law 329 = .ok (.iload_n 3, 1) := by decide +kernel
theorem dL_law_330 : decode cL_law 330 = .ok (.iconst 1, 1) := by decide +kernel
theorem dL_law_331 : decode cL_law 331 = .ok (.iadd, 1) := by decide +kernel
theorem dL_law_332 : decode cL_law 332 = .ok (.iaload, 1) := by decide +kernel
theorem dL_law_333 : decode cL_law 333 = .ok (.invokevirtual 36, 3) := by decide +kernel
theorem dL_law_336 : decode cL_law 336 = .ok (.if_icmp .eq 690, 3) := by decide +kernel
theorem dL_law_339 : decode cL_law 339 = .ok (.iconst 0, 1) := by decide +kernel
theorem dL_law_340 : decode cL_law 340 = .ok (.ireturn, 1) := by decide +kernel
theorem dL_law_341 : decode cL_law 341 = .ok (.aload_n 1, 1) := by decide +kernel
theorem dL_law_342 : decode cL_law 342 = .ok (.aload_n 0, 1) := by decide +kernel
theorem dL_law_343 : decode cL_law 343 = .ok (.iload_n 3, 1) := by decide +kernel
theorem dL_law_344 : decode cL_law 344 = .ok (.iconst 1, 1) := by decide +kernel
theorem dL_law_345 : decode cL_law 345 = .ok (.iadd, 1) := by decide +kernel
theorem dL_law_346 : decode cL_law 346 = .ok (.iaload, 1) := by decide +kernel
theorem dL_law_347 : decode cL_law 347 = .ok (.invokevirtual 37, 3) := by decide +kernel
theorem dL_law_350 : decode cL_law 350 = .ok (.aload_n 2, 1) := by decide +kernel
theorem dL_law_351 : decode cL_law 351 = .ok (.aload_n 0, 1) := by decide +kernel
theorem dL_law_352 : decode cL_law 352 = .ok (.iload_n 3, 1) := by decide +kernel
theorem dL_law_353 : decode cL_law 353 = .ok (.iconst 1, 1) := by decide +kernel
theorem dL_law_354 : decode cL_law 354 = .ok (.iadd, 1) := by decide +kernel
theorem dL_law_355 : decode cL_law 355 = .ok (.iaload, 1) := by decide +kernel
theorem dL_law_356 : decode cL_law 356 = .ok (.invokevirtual 40, 3) := by decide +kernel
theorem dL_law_359 : decode cL_law 359 = .ok (.if_icmp .eq 667, 3) := by decide +kernel
theorem dL_law_362 : decode cL_law 362 = .ok (.iconst 0, 1) := by decide +kernel
theorem dL_law_363 : decode cL_law 363 = .ok (.ireturn, 1) := by decide +kernel
theorem dL_law_364 : decode cL_law 364 = .ok (.aload_n 1, 1) := by decide +kernel
theorem dL_law_365 : decode cL_law 365 = .ok (.aload_n 0, 1) := by decide +kernel
theorem dL_law_366 : decode cL_law 366 = .ok (.iload_n 3, 1) := by decide +kernel
theorem dL_law_367 : decode cL_law 367 = .ok (.iconst 1, 1) := by decide +kernel
theorem dL_law_368 : decode cL_law 368 = .ok (.iadd, 1) := by decide +kernel
theorem dL_law_369 : decode cL_law 369 = .ok (.iaload, 1) := by decide +kernel
theorem dL_law_370 : decode cL_law 370 = .ok (.aload_n 0, 1) := by decide +kernel
theorem dL_law_371 : decode cL_law 371 = .ok (.iload_n 3, 1) := by decide +kernel
theorem dL_law_372 : decode cL_law 372 = .ok (.iconst 2, 1) := by decide +kernel
theorem dL_law_373 : decode cL_law 373 = .ok (.iadd, 1) := by decide +kernel
theorem dL_law_374 : decode cL_law 374 = .ok (.iaload, 1) := by decide +kernel
theorem dL_law_375 : decode cL_law 375 = .ok (.invokevirtual 41, 3) := by decide +kernel
theorem dL_law_378 : decode cL_law 378 = .ok (.aload_n 2, 1) := by decide +kernel
theorem dL_law_379 : decode cL_law 379 = .ok (.aload_n 0, 1) := by decide +kernel
theorem dL_law_380 : decode cL_law 380 = .ok (.iload_n 3, 1) := by decide +kernel
theorem dL_law_381 : decode cL_law 381 = .ok (.iconst 1, 1) := by decide +kernel
theorem dL_law_382 : decode cL_law 382 = .ok (.iadd, 1) := by decide +kernel
theorem dL_law_383 : decode cL_law 383 = .ok (.iaload, 1) := by decide +kernel
theorem dL_law_384 : decode cL_law 384 = .ok (.aload_n 0, 1) := by decide +kernel
theorem dL_law_385 : decode cL_law 385 = .ok (.iload_n 3, 1) := by decide +kernel
theorem dL_law_386 : decode cL_law 386 = .ok (.iconst 2, 1) := by decide +kernel
theorem dL_law_387 : decode cL_law 387 = .ok (.iadd, 1) := by decide +kernel
theorem dL_law_388 : decode cL_law 388 = .ok (.iaload, 1) := by decide +kernel
theorem dL_law_389 : decode cL_law 389 = .ok (.invokevirtual 44, 3) := by decide +kernel
theorem dL_law_392 : decode cL_law 392 = .ok (.if_icmp .eq 634, 3) := by decide +kernel
theorem dL_law_395 : decode cL_law 395 = .ok (.iconst 0, 1) := by decide +kernel
theorem dL_law_396 : decode cL_law 396 = .ok (.ireturn, 1) := by decide +kernel
theorem dL_law_397 : decode cL_law 397 = .ok (.aload_n 1, 1) := by decide +kernel
theorem dL_law_398 : decode cL_law 398 = .ok (.aload_n 0, 1) := by decide +kernel
theorem dL_law_399 : decode cL_law 399 = .ok (.iload_n 3, 1) := by decide +kernel
theorem dL_law_400 : decode cL_law 400 = .ok (.iconst 1, 1) := by decide +kernel
theorem dL_law_401 : decode cL_law 401 = .ok (.iadd, 1) := by decide +kernel
theorem dL_law_402 : decode cL_law 402 = .ok (.iaload, 1) := by decide +kernel
theorem dL_law_403 : decode cL_law 403 = .ok (.aload_n 0, 1) := by decide +kernel
theorem dL_law_404 : decode cL_law 404 = .ok (.iload_n 3, 1) := by decide +kernel
theorem dL_law_405 : decode cL_law 405 = .ok (.iconst 2, 1) := by decide +kernel
theorem dL_law_406 : decode cL_law 406 = .ok (.iadd, 1) := by decide +kernel
theorem dL_law_407 : decode cL_law 407 = .ok (.iaload, 1) := by decide +kernel
theorem dL_law_408 : decode cL_law 408 = .ok (.aload_n 0, 1) := by decide +kernel
theorem dL_law_409 : decode cL_law 409 = .ok (.iload_n 3, 1) := by decide +kernel
theorem dL_law_410 : decode cL_law 410 = .ok (.iconst 3, 1) := by decide +kernel
theorem dL_law_411 : decode cL_law 411 = .ok (.iadd, 1) := by decide +kernel
theorem dL_law_412 : decode cL_law 412 = .ok (.iaload, 1) := by decide +kernel
theorem dL_law_413 : decode cL_law 413 = .ok (.ifCond .eq 7, 3) := by decide +kernel
theorem dL_law_416 : decode cL_law 416 = .ok (.iconst 1, 1) := by decide +kernel
theorem dL_law_417 : decode cL_law 417 = .ok (.goto 4, 3) := by decide +kernel
theorem dL_law_420 : decode cL_law 420 = .ok (.iconst 0, 1) := by decide +kernel
theorem dL_law_421 : decode cL_law 421 = .ok (.invokevirtual 45, 3) := by decide +kernel
theorem dL_law_424 : decode cL_law 424 = .ok (.aload_n 2, 1) := by decide +kernel
theorem dL_law_425 : decode cL_law 425 = .ok (.aload_n 0, 1) := by decide +kernel
theorem dL_law_426 : decode cL_law 426 = .ok (.iload_n 3, 1) := by decide +kernel
theorem dL_law_427 : decode cL_law 427 = .ok (.iconst 1, 1) := by decide +kernel
theorem dL_law_428 : decode cL_law 428 = .ok (.iadd, 1) := by decide +kernel
theorem dL_law_429 : decode cL_law 429 = .ok (.iaload, 1) := by decide +kernel
theorem dL_law_430 : decode cL_law 430 = .ok (.aload_n 0, 1) := by decide +kernel
theorem dL_law_431 : decode cL_law 431 = .ok (.iload_n 3, 1) := by decide +kernel
theorem dL_law_432 : decode cL_law 432 = .ok (.iconst 2, 1) := by decide +kernel
theorem dL_law_433 : decode cL_law 433 = .ok (.iadd, 1) := by decide +kernel
theorem dL_law_434 : decode cL_law 434 = .ok (.iaload, 1) := by decide +kernel
theorem dL_law_435 : decode cL_law 435 = .ok (.aload_n 0, 1) := by decide +kernel
theorem dL_law_436 : decode cL_law 436 = .ok (.iload_n 3, 1) := by decide +kernel
theorem dL_law_437 : decode cL_law 437 = .ok (.iconst 3, 1) := by decide +kernel
theorem dL_law_438 : decode cL_law 438 = .ok (.iadd, 1) := by decide +kernel
theorem dL_law_439 : decode cL_law 439 = .ok (.iaload, 1) := by decide +kernel
theorem dL_law_440 : decode cL_law 440 = .ok (.ifCond .eq 7, 3) := by decide +kernel
theorem dL_law_443 : decode cL_law 443 = .ok (.iconst 1, 1) := by decide +kernel
theorem dL_law_444 : decode cL_law 444 = .ok (.goto 4, 3) := by decide +kernel
theorem dL_law_447 : decode cL_law 447 = .ok (.iconst 0, 1) := by decide +kernel
theorem dL_law_448 : decode cL_law 448 = .ok (.invokevirtual 49, 3) := by decide +kernel
theorem dL_law_451 : decode cL_law 451 = .ok (.if_icmp .eq 575, 3) := by decide +kernel
theorem dL_law_454 : decode cL_law 454 = .ok (.iconst 0, 1) := by decide +kernel
theorem dL_law_455 : decode cL_law 455 = .ok (.ireturn, 1) := by decide +kernel
theorem dL_law_456 : decode cL_law 456 = .ok (.aload_n 1, 1) := by decide +kernel
theorem dL_law_457 : decode cL_law 457 = .ok (.aload_n 0, 1) := by decide +kernel
theorem dL_law_458 : decode cL_law 458 = .ok (.iload_n 3, 1) := by decide +kernel
theorem dL_law_459 : decode cL_law 459 = .ok (.iconst 1, 1) := by decide +kernel
theorem dL_law_460 : decode cL_law 460 = .ok (.iadd, 1) := by decide +kernel
theorem dL_law_461 : decode cL_law 461 = .ok (.iaload, 1) := by decide +kernel
theorem dL_law_462 : decode cL_law 462 = .ok (.aload_n 0, 1) := by decide +kernel
theorem dL_law_463 : decode cL_law 463 = .ok (.iload_n 3, 1) := by decide +kernel
theorem dL_law_464 : decode cL_law 464 = .ok (.iconst 2, 1) := by decide +kernel
theorem dL_law_465 : decode cL_law 465 = .ok (.iadd, 1) := by decide +kernel
theorem dL_law_466 : decode cL_law 466 = .ok (.iaload, 1) := by decide +kernel
theorem dL_law_467 : decode cL_law 467 = .ok (.invokevirtual 50, 3) := by decide +kernel
theorem dL_law_470 : decode cL_law 470 = .ok (.aload_n 2, 1) := by decide +kernel
theorem dL_law_471 : decode cL_law 471 = .ok (.aload_n 0, 1) := by decide +kernel
theorem dL_law_472 : decode cL_law 472 = .ok (.iload_n 3, 1) := by decide +kernel
theorem dL_law_473 : decode cL_law 473 = .ok (.iconst 1, 1) := by decide +kernel
theorem dL_law_474 : decode cL_law 474 = .ok (.iadd, 1) := by decide +kernel
theorem dL_law_475 : decode cL_law 475 = .ok (.iaload, 1) := by decide +kernel
theorem dL_law_476 : decode cL_law 476 = .ok (.aload_n 0, 1) := by decide +kernel
theorem dL_law_477 : decode cL_law 477 = .ok (.iload_n 3, 1) := by decide +kernel
theorem dL_law_478 : decode cL_law 478 = .ok (.iconst 2, 1) := by decide +kernel
theorem dL_law_479 : decode cL_law 479 = .ok (.iadd, 1) := by decide +kernel
theorem dL_law_480 : decode cL_law 480 = .ok (.iaload, 1) := by decide +kernel
theorem dL_law_481 : decode cL_law 481 = .ok (.invokevirtual 53, 3) := by decide +kernel
theorem dL_law_484 : decode cL_law 484 = .ok (.if_icmp .eq 542, 3) := by decide +kernel
theorem dL_law_487 : decode cL_law 487 = .ok (.iconst 0, 1) := by decide +kernel
theorem dL_law_488 : decode cL_law 488 = .ok (.ireturn, 1) := by decide +kernel
theorem dL_law_489 : decode cL_law 489 = .ok (.aload_n 1, 1) := by decide +kernel
theorem dL_law_490 : decode cL_law 490 = .ok (.aload_n 0, 1) := by decide +kernel
theorem dL_law_491 : decode cL_law 491 = .ok (.iload_n 3, 1) := by decide +kernel
theorem dL_law_492 : decode cL_law 492 = .ok (.iconst 1, 1) := by decide +kernel
theorem dL_law_493 : decode cL_law 493 = .ok (.iadd, 1) := by decide +kernel
theorem dL_law_494 : decode cL_law 494 = .ok (.iaload, 1) := by decide +kernel
theorem dL_law_495 : decode cL_law 495 = .ok (.aload_n 0, 1) := by decide +kernel
theorem dL_law_496 : decode cL_law 496 = .ok (.iload_n 3, 1) := by decide +kernel
theorem dL_law_497 : decode cL_law 497 = .ok (.iconst 2, 1) := by decide +kernel
theorem dL_law_498 : decode cL_law 498 = .ok (.iadd, 1) := by decide +kernel
theorem dL_law_499 : decode cL_law 499 = .ok (.iaload, 1) := by decide +kernel
theorem dL_law_500 : decode cL_law 500 = .ok (.invokevirtual 54, 3) := by decide +kernel
theorem dL_law_503 : decode cL_law 503 = .ok (.aload_n 2, 1) := by decide +kernel
theorem dL_law_504 : decode cL_law 504 = .ok (.aload_n 0, 1) := by decide +kernel
theorem dL_law_505 : decode cL_law 505 = .ok (.iload_n 3, 1) := by decide +kernel
theorem dL_law_506 : decode cL_law 506 = .ok (.iconst 1, 1) := by decide +kernel
theorem dL_law_507 : decode cL_law 507 = .ok (.iadd, 1) := by decide +kernel
theorem dL_law_508 : decode cL_law 508 = .ok (.iaload, 1) := by decide +kernel
theorem dL_law_509 : decode cL_law 509 = .ok (.aload_n 0, 1) := by decide +kernel
theorem dL_law_510 : decode cL_law 510 = .ok (.iload_n 3, 1) := by decide +kernel
theorem dL_law_511 : decode cL_law 511 = .ok (.iconst 2, 1) := by decide +kernel
theorem dL_law_512 : decode cL_law 512 = .ok (.iadd, 1) := by decide +kernel
theorem dL_law_513 : decode cL_law 513 = .ok (.iaload, 1) := by decide +kernel
theorem dL_law_514 : decode cL_law 514 = .ok (.invokevirtual 57, 3) := by decide +kernel
theorem dL_law_517 : decode cL_law 517 = .ok (.if_icmp .eq 509, 3) := by decide +kernel
theorem dL_law_520 : decode cL_law 520 = .ok (.iconst 0, 1) := by decide +kernel
theorem dL_law_521 : decode cL_law 521 = .ok (.ireturn, 1) := by decide +kernel
theorem dL_law_522 : decode cL_law 522 = .ok (.aload_n 1, 1) := by decide +kernel
theorem dL_law_523 : decode cL_law 523 = .ok (.aload_n 0, 1) := by decide +kernel
theorem dL_law_524 : decode cL_law 524 = .ok (.iload_n 3, 1) := by decide +kernel
theorem dL_law_525 : decode cL_law 525 = .ok (.iconst 1, 1) := by decide +kernel
theorem dL_law_526 : decode cL_law 526 = .ok (.iadd, 1) := by decide +kernel
theorem dL_law_527 : decode cL_law 527 = .ok (.iaload, 1) := by decide +kernel
theorem dL_law_528 : decode cL_law 528 = .ok (.aload_n 0, 1) := by decide +kernel
theorem dL_law_529 : decode cL_law 529 = .ok (.iload_n 3, 1) := by decide +kernel
theorem dL_law_530 : decode cL_law 530 = .ok (.iconst 2, 1) := by decide +kernel
theorem dL_law_531 : decode cL_law 531 = .ok (.iadd, 1) := by decide +kernel
theorem dL_law_532 : decode cL_law 532 = .ok (.iaload, 1) := by decide +kernel
theorem dL_law_533 : decode cL_law 533 = .ok (.aload_n 0, 1) := by decide +kernel
theorem dL_law_534 : decode cL_law 534 = .ok (.iload_n 3, 1) := by decide +kernel
theorem dL_law_535 : decode cL_law 535 = .ok (.iconst 3, 1) := by decide +kernel
theorem dL_law_536 : decode cL_law 536 = .ok (.iadd, 1) := by decide +kernel
theorem dL_law_537 : decode cL_law 537 = .ok (.iaload, 1) := by decide +kernel
theorem dL_law_538 : decode cL_law 538 = .ok (.invokevirtual 58, 3) := by decide +kernel
theorem dL_law_541 : decode cL_law 541 = .ok (.aload_n 2, 1) := by decide +kernel
theorem dL_law_542 : decode cL_law 542 = .ok (.aload_n 0, 1) := by decide +kernel
theorem dL_law_543 : decode cL_law 543 = .ok (.iload_n 3, 1) := by decide +kernel
theorem dL_law_544 : decode cL_law 544 = .ok (.iconst 1, 1) := by decide +kernel
theorem dL_law_545 : decode cL_law 545 = .ok (.iadd, 1) := by decide +kernel
theorem dL_law_546 : decode cL_law 546 = .ok (.iaload, 1) := by decide +kernel
theorem dL_law_547 : decode cL_law 547 = .ok (.aload_n 0, 1) := by decide +kernel
theorem dL_law_548 : decode cL_law 548 = .ok (.iload_n 3, 1) := by decide +kernel
theorem dL_law_549 : decode cL_law 549 = .ok (.iconst 2, 1) := by decide +kernel
theorem dL_law_550 : decode cL_law 550 = .ok (.iadd, 1) := by decide +kernel
theorem dL_law_551 : decode cL_law 551 = .ok (.iaload, 1) := by decide +kernel
theorem dL_law_552 : decode cL_law 552 = .ok (.aload_n 0, 1) := by decide +kernel
theorem dL_law_553 : decode cL_law 553 = .ok (.iload_n 3, 1) := by decide +kernel
theorem dL_law_554 : decode cL_law 554 = .ok (.iconst 3, 1) := by decide +kernel
theorem dL_law_555 : decode cL_law 555 = .ok (.iadd, 1) := by decide +kernel
theorem dL_law_556 : decode cL_law 556 = .ok (.iaload, 1) := by decide +kernel
theorem dL_law_557 : decode cL_law 557 = .ok (.invokevirtual 62, 3) := by decide +kernel
theorem dL_law_560 : decode cL_law 560 = .ok (.if_icmp .eq 466, 3) := by decide +kernel
theorem dL_law_563 : decode cL_law 563 = .ok (.iconst 0, 1) := by decide +kernel
theorem dL_law_564 : decode cL_law 564 = .ok (.ireturn, 1) := by decide +kernel
theorem dL_law_565 : decode cL_law 565 = .ok (.aload_n 1, 1) := by decide +kernel
theorem dL_law_566 : decode cL_law 566 = .ok (.invokevirtual 63, 3) := by decide +kernel
theorem dL_law_569 : decode cL_law 569 = .ok (.aload_n 2, 1) := by decide +kernel
theorem dL_law_570 : decode cL_law 570 = .ok (.invokevirtual 67, 3) := by decide +kernel
theorem dL_law_573 : decode cL_law 573 = .ok (.if_icmp .eq 453, 3) := by decide +kernel
theorem dL_law_576 : decode cL_law 576 = .ok (.iconst 0, 1) := by decide +kernel
theorem dL_law_577 : decode cL_law 577 = .ok (.ireturn, 1) := by decide +kernel
theorem dL_law_578 : decode cL_law 578 = .ok (.aload_n 1, 1) := by decide +kernel
theorem dL_law_579 : decode cL_law 579 = .ok (.aload_n 0, 1) := by decide +kernel
theorem dL_law_580 : decode cL_law 580 = .ok (.iload_n 3, 1) := by decide +kernel
theorem dL_law_581 : decode cL_law 581 = .ok (.iconst 1, 1) := by decide +kernel
theorem dL_law_582 : decode cL_law 582 = .ok (.iadd, 1) := by decide +kernel
theorem dL_law_583 : decode cL_law 583 = .ok (.iaload, 1) := by decide +kernel
theorem dL_law_584 : decode cL_law 584 = .ok (.aload_n 0, 1) := by decide +kernel
theorem dL_law_585 : decode cL_law 585 = .ok (.iload_n 3, 1) := by decide +kernel
theorem dL_law_586 : decode cL_law 586 = .ok (.iconst 2, 1) := by decide +kernel
theorem dL_law_587 : decode cL_law 587 = .ok (.iadd, 1) := by decide +kernel
theorem dL_law_588 : decode cL_law 588 = .ok (.iaload, 1) := by decide +kernel
theorem dL_law_589 : decode cL_law 589 = .ok (.aload_n 0, 1) := by decide +kernel
theorem dL_law_590 : decode cL_law 590 = .ok (.iload_n 3, 1) := by decide +kernel
theorem dL_law_591 : decode cL_law 591 = .ok (.iconst 3, 1) := by decide +kernel
theorem dL_law_592 : decode cL_law 592 = .ok (.iadd, 1) := by decide +kernel
theorem dL_law_593 : decode cL_law 593 = .ok (.iaload, 1) := by decide +kernel
theorem dL_law_594 : decode cL_law 594 = .ok (.invokevirtual 68, 3) := by decide +kernel
theorem dL_law_597 : decode cL_law 597 = .ok (.aload_n 2, 1) := by decide +kernel
theorem dL_law_598 : decode cL_law 598 = .ok (.aload_n 0, 1) := by decide +kernel
theorem dL_law_599 : decode cL_law 599 = .ok (.iload_n 3, 1) := by decide +kernel
theorem dL_law_600 : decode cL_law 600 = .ok (.iconst 1, 1) := by decide +kernel
theorem dL_law_601 : decode cL_law 601 = .ok (.iadd, 1) := by decide +kernel
theorem dL_law_602 : decode cL_law 602 = .ok (.iaload, 1) := by decide +kernel
theorem dL_law_603 : decode cL_law 603 = .ok (.aload_n 0, 1) := by decide +kernel
theorem dL_law_604 : decode cL_law 604 = .ok (.iload_n 3, 1) := by decide +kernel
theorem dL_law_605 : decode cL_law 605 = .ok (.iconst 2, 1) := by decide +kernel
theorem dL_law_606 : decode cL_law 606 = .ok (.iadd, 1) := by decide +kernel
theorem dL_law_607 : decode cL_law 607 = .ok (.iaload, 1) := by decide +kernel
theorem dL_law_608 : decode cL_law 608 = .ok (.aload_n 0, 1) := by decide +kernel
theorem dL_law_609 : decode cL_law 609 = .ok (.iload_n 3, 1) := by decide +kernel
theorem dL_law_610 : decode cL_law 610 = .ok (.iconst 3, 1) := by decide +kernel
theorem dL_law_611 : decode cL_law 611 = .ok (.iadd, 1) := by decide +kernel
theorem dL_law_612 : decode cL_law 612 = .ok (.iaload, 1) := by decide +kernel
theorem dL_law_613 : decode cL_law 613 = .ok (.invokevirtual 71, 3) := by decide +kernel
theorem dL_law_616 : decode cL_law 616 = .ok (.if_icmp .eq 410, 3) := by decide +kernel
theorem dL_law_619 : decode cL_law 619 = .ok (.iconst 0, 1) := by decide +kernel
theorem dL_law_620 : decode cL_law 620 = .ok (.ireturn, 1) := by decide +kernel
theorem dL_law_621 : decode cL_law 621 = .ok (.aload_n 1, 1) := by decide +kernel
theorem dL_law_622 : decode cL_law 622 = .ok (.aload_n 0, 1) := by decide +kernel
theorem dL_law_623 : decode cL_law 623 = .ok (.iload_n 3, 1) := by decide +kernel
theorem dL_law_624 : decode cL_law 624 = .ok (.iconst 1, 1) := by decide +kernel
theorem dL_law_625 : decode cL_law 625 = .ok (.iadd, 1) := by decide +kernel
theorem dL_law_626 : decode cL_law 626 = .ok (.iaload, 1) := by decide +kernel
theorem dL_law_627 : decode cL_law 627 = .ok (.aload_n 0, 1) := by decide +kernel
theorem dL_law_628 : decode cL_law 628 = .ok (.iload_n 3, 1) := by decide +kernel
theorem dL_law_629 : decode cL_law 629 = .ok (.iconst 2, 1) := by decide +kernel
theorem dL_law_630 : decode cL_law 630 = .ok (.iadd, 1) := by decide +kernel
theorem dL_law_631 : decode cL_law 631 = .ok (.iaload, 1) := by decide +kernel
theorem dL_law_632 : decode cL_law 632 = .ok (.invokevirtual 72, 3) := by decide +kernel
theorem dL_law_635 : decode cL_law 635 = .ok (.aload_n 2, 1) := by decide +kernel
theorem dL_law_636 : decode cL_law 636 = .ok (.aload_n 0, 1) := by decide +kernel
theorem dL_law_637 : decode cL_law 637 = .ok (.iload_n 3, 1) := by decide +kernel
theorem dL_law_638 : decode cL_law 638 = .ok (.iconst 1, 1) := by decide +kernel
theorem dL_law_639 : decode cL_law 639 = .ok (.iadd, 1) := by decide +kernel
theorem dL_law_640 : decode cL_law 640 = .ok (.iaload, 1) := by decide +kernel
theorem dL_law_641 : decode cL_law 641 = .ok (.aload_n 0, 1) := by decide +kernel
theorem dL_law_642 : decode cL_law 642 = .ok (.iload_n 3, 1) := by decide +kernel
theorem dL_law_643 : decode cL_law 643 = .ok (.iconst 2, 1) := by decide +kernel
theorem dL_law_644 : decode cL_law 644 = .ok (.iadd, 1) := by decide +kernel
theorem dL_law_645 : decode cL_law 645 = .ok (.iaload, 1) := by decide +kernel
theorem dL_law_646 : decode cL_law 646 = .ok (.invokevirtual 75, 3) := by decide +kernel
theorem dL_law_649 : decode cL_law 649 = .ok (.if_icmp .eq 377, 3) := by decide +kernel
theorem dL_law_652 : decode cL_law 652 = .ok (.iconst 0, 1) := by decide +kernel
theorem dL_law_653 : decode cL_law 653 = .ok (.ireturn, 1) := by decide +kernel
theorem dL_law_654 : decode cL_law 654 = .ok (.aload_n 1, 1) := by decide +kernel
theorem dL_law_655 : decode cL_law 655 = .ok (.aload_n 0, 1) := by decide +kernel
theorem dL_law_656 : decode cL_law 656 = .ok (.iload_n 3, 1) := by decide +kernel
theorem dL_law_657 : decode cL_law 657 = .ok (.iconst 1, 1) := by decide +kernel
theorem dL_law_658 : decode cL_law 658 = .ok (.iadd, 1) := by decide +kernel
theorem dL_law_659 : decode cL_law 659 = .ok (.iaload, 1) := by decide +kernel
theorem dL_law_660 : decode cL_law 660 = .ok (.aload_n 0, 1) := by decide +kernel
theorem dL_law_661 : decode cL_law 661 = .ok (.iload_n 3, 1) := by decide +kernel
theorem dL_law_662 : decode cL_law 662 = .ok (.iconst 2, 1) := by decide +kernel
theorem dL_law_663 : decode cL_law 663 = .ok (.iadd, 1) := by decide +kernel
theorem dL_law_664 : decode cL_law 664 = .ok (.iaload, 1) := by decide +kernel
theorem dL_law_665 : decode cL_law 665 = .ok (.invokevirtual 76, 3) := by decide +kernel
theorem dL_law_668 : decode cL_law 668 = .ok (.aload_n 2, 1) := by decide +kernel
theorem dL_law_669 : decode cL_law 669 = .ok (.aload_n 0, 1) := by decide +kernel
theorem dL_law_670 : decode cL_law 670 = .ok (.iload_n 3, 1) := by decide +kernel
theorem dL_law_671 : decode cL_law 671 = .ok (.iconst 1, 1) := by decide +kernel
theorem dL_law_672 : decode cL_law 672 = .ok (.iadd, 1) := by decide +kernel
theorem dL_law_673 : decode cL_law 673 = .ok (.iaload, 1) := by decide +kernel
theorem dL_law_674 : decode cL_law 674 = .ok (.aload_n 0, 1) := by decide +kernel
theorem dL_law_675 : decode cL_law 675 = .ok (.iload_n 3, 1) := by decide +kernel
theorem dL_law_676 : decode cL_law 676 = .ok (.iconst 2, 1) := by decide +kernel
theorem dL_law_677 : decode cL_law 677 = .ok (.iadd, 1) := by decide +kernel
theorem dL_law_678 : decode cL_law 678 = .ok (.iaload, 1) := by decide +kernel
theorem dL_law_679 : decode cL_law 679 = .ok (.invokevirtual 79, 3) := by decide +kernel
theorem dL_law_682 : decode cL_law 682 = .ok (.if_icmp .eq 344, 3) := by decide +kernel
theorem dL_law_685 : decode cL_law 685 = .ok (.iconst 0, 1) := by decide +kernel
theorem dL_law_686 : decode cL_law 686 = .ok (.ireturn, 1) := by decide +kernel
theorem dL_law_687 : decode cL_law 687 = .ok (.aload_n 1, 1) := by decide +kernel
theorem dL_law_688 : decode cL_law 688 = .ok (.aload_n 0, 1) := by decide +kernel
theorem dL_law_689 : decode cL_law 689 = .ok (.iload_n 3, 1) := by decide +kernel
theorem dL_law_690 : decode cL_law 690 = .ok (.iconst 1, 1) := by decide +kernel
theorem dL_law_691 : decode cL_law 691 = .ok (.iadd, 1) := by decide +kernel
theorem dL_law_692 : decode cL_law 692 = .ok (.iaload, 1) := by decide +kernel
theorem dL_law_693 : decode cL_law 693 = .ok (.aload_n 0, 1) := by decide +kernel
theorem dL_law_694 : decode cL_law 694 = .ok (.iload_n 3, 1) := by decide +kernel
theorem dL_law_695 : decode cL_law 695 = .ok (.iconst 2, 1) := by decide +kernel
theorem dL_law_696 : decode cL_law 696 = .ok (.iadd, 1) := by decide +kernel
theorem dL_law_697 : decode cL_law 697 = .ok (.iaload, 1) := by decide +kernel
theorem dL_law_698 : decode cL_law 698 = .ok (.invokevirtual 80, 3) := by decide +kernel
theorem dL_law_701 : decode cL_law 701 = .ok (.aload_n 2, 1) := by decide +kernel
theorem dL_law_702 : decode cL_law 702 = .ok (.aload_n 0, 1) := by decide +kernel
theorem dL_law_703 : decode cL_law 703 = .ok (.iload_n 3, 1) := by decide +kernel
theorem dL_law_704 : decode cL_law 704 = .ok (.iconst 1, 1) := by decide +kernel
theorem dL_law_705 : decode cL_law 705 = .ok (.iadd, 1) := by decide +kernel
theorem dL_law_706 : decode cL_law 706 = .ok (.iaload, 1) := by decide +kernel
theorem dL_law_707 : decode cL_law 707 = .ok (.aload_n 0, 1) := by decide +kernel
theorem dL_law_708 : decode cL_law 708 = .ok (.iload_n 3, 1) := by decide +kernel
theorem dL_law_709 : decode cL_law 709 = .ok (.iconst 2, 1) := by decide +kernel
theorem dL_law_710 : decode cL_law 710 = .ok (.iadd, 1) := by decide +kernel
theorem dL_law_711 : decode cL_law 711 = .ok (.iaload, 1) := by decide +kernel
theorem dL_law_712 : decode cL_law 712 = .ok (.invokevirtual 83, 3) := by decide +kernel
theorem dL_law_715 : decode cL_law 715 = .ok (.if_icmp .eq 311, 3) := by decide +kernel
theorem dL_law_718 : decode cL_law 718 = .ok (.iconst 0, 1) := by decide +kernel
theorem dL_law_719 : decode cL_law 719 = .ok (.ireturn, 1) := by decide +kernel
theorem dL_law_720 : decode cL_law 720 = .ok (.aload_n 1, 1) := by decide +kernel
theorem dL_law_721 : decode cL_law 721 = .ok (.aload_n 0, 1) := by decide +kernel
theorem dL_law_722 : decode cL_law 722 = .ok (.iload_n 3, 1) := by decide +kernel
theorem dL_law_723 : decode cL_law 723 = .ok (.iconst 1, 1) := by decide +kernel
theorem dL_law_724 : decode cL_law 724 = .ok (.iadd, 1) := by decide +kernel
theorem dL_law_725 : decode cL_law 725 = .ok (.iaload, 1) := by decide +kernel
theorem dL_law_726 : decode cL_law 726 = .ok (.aload_n 0, 1) := by decide +kernel
theorem dL_law_727 : decode cL_law 727 = .ok (.iload_n 3, 1) := by decide +kernel
theorem dL_law_728 : decode cL_law 728 = .ok (.iconst 2, 1) := by decide +kernel
theorem dL_law_729 : decode cL_law 729 = .ok (.iadd, 1) := by decide +kernel
theorem dL_law_730 : decode cL_law 730 = .ok (.iaload, 1) := by decide +kernel
theorem dL_law_731 : decode cL_law 731 = .ok (.invokevirtual 84, 3) := by decide +kernel
theorem dL_law_734 : decode cL_law 734 = .ok (.aload_n 2, 1) := by decide +kernel
theorem dL_law_735 : decode cL_law 735 = .ok (.aload_n 0, 1) := by decide +kernel
theorem dL_law_736 : decode cL_law 736 = .ok (.iload_n 3, 1) := by decide +kernel
theorem dL_law_737 : decode cL_law 737 = .ok (.iconst 1, 1) := by decide +kernel
theorem dL_law_738 : decode cL_law 738 = .ok (.iadd, 1) := by decide +kernel
theorem dL_law_739 : decode cL_law 739 = .ok (.iaload, 1) := by decide +kernel
theorem dL_law_740 : decode cL_law 740 = .ok (.aload_n 0, 1) := by decide +kernel
theorem dL_law_741 : decode cL_law 741 = .ok (.iload_n 3, 1) := by decide +kernel
theorem dL_law_742 : decode cL_law 742 = .ok (.iconst 2, 1) := by decide +kernel
theorem dL_law_743 : decode cL_law 743 = .ok (.iadd, 1) := by decide +kernel
theorem dL_law_744 : decode cL_law 744 = .ok (.iaload, 1) := by decide +kernel
theorem dL_law_745 : decode cL_law 745 = .ok (.invokevirtual 87, 3) := by decide +kernel
theorem dL_law_748 : decode cL_law 748 = .ok (.if_icmp .eq 278, 3) := by decide +kernel
theorem dL_law_751 : decode cL_law 751 = .ok (.iconst 0, 1) := by decide +kernel
theorem dL_law_752 : decode cL_law 752 = .ok (.ireturn, 1) := by decide +kernel
theorem dL_law_753 : decode cL_law 753 = .ok (.aload_n 1, 1) := by decide +kernel
theorem dL_law_754 : decode cL_law 754 = .ok (.aload_n 0, 1) := by decide +kernel
theorem dL_law_755 : decode cL_law 755 = .ok (.iload_n 3, 1) := by decide +kernel
theorem dL_law_756 : decode cL_law 756 = .ok (.iconst 1, 1) := by decide +kernel
theorem dL_law_757 : decode cL_law 757 = .ok (.iadd, 1) := by decide +kernel
theorem dL_law_758 : decode cL_law 758 = .ok (.iaload, 1) := by decide +kernel
theorem dL_law_759 : decode cL_law 759 = .ok (.invokevirtual 88, 3) := by decide +kernel
theorem dL_law_762 : decode cL_law 762 = .ok (.aload_n 2, 1) := by decide +kernel
theorem dL_law_763 : decode cL_law 763 = .ok (.aload_n 0, 1) := by decide +kernel
theorem dL_law_764 : decode cL_law 764 = .ok (.iload_n 3, 1) := by decide +kernel
theorem dL_law_765 : decode cL_law 765 = .ok (.iconst 1, 1) := by decide +kernel
theorem dL_law_766 : decode cL_law 766 = .ok (.iadd, 1) := by decide +kernel
theorem dL_law_767 : decode cL_law 767 = .ok (.iaload, 1) := by decide +kernel
theorem dL_law_768 : decode cL_law 768 = .ok (.invokevirtual 91, 3) := by decide +kernel
theorem dL_law_771 : decode cL_law 771 = .ok (.if_icmp .eq 255, 3) := by decide +kernel
theorem dL_law_774 : decode cL_law 774 = .ok (.iconst 0, 1) := by decide +kernel
theorem dL_law_775 : decode cL_law 775 = .ok (.ireturn, 1) := by decide +kernel
theorem dL_law_776 : decode cL_law 776 = .ok (.aload_n 1, 1) := by decide +kernel
theorem dL_law_777 : decode cL_law 777 = .ok (.aload_n 0, 1) := by decide +kernel
theorem dL_law_778 : decode cL_law 778 = .ok (.iload_n 3, 1) := by decide +kernel
theorem dL_law_779 : decode cL_law 779 = .ok (.iconst 1, 1) := by decide +kernel
theorem dL_law_780 : decode cL_law 780 = .ok (.iadd, 1) := by decide +kernel
theorem dL_law_781 : decode cL_law 781 = .ok (.iaload, 1) := by decide +kernel
theorem dL_law_782 : decode cL_law 782 = .ok (.invokevirtual 92, 3) := by decide +kernel
theorem dL_law_785 : decode cL_law 785 = .ok (.aload_n 2, 1) := by decide +kernel
theorem dL_law_786 : decode cL_law 786 = .ok (.aload_n 0, 1) := by decide +kernel
theorem dL_law_787 : decode cL_law 787 = .ok (.iload_n 3, 1) := by decide +kernel
theorem dL_law_788 : decode cL_law 788 = .ok (.iconst 1, 1) := by decide +kernel
theorem dL_law_789 : decode cL_law 789 = .ok (.iadd, 1) := by decide +kernel
theorem dL_law_790 : decode cL_law 790 = .ok (.iaload, 1) := by decide +kernel
theorem dL_law_791 : decode cL_law 791 = .ok (.invokevirtual 95, 3) := by decide +kernel
theorem dL_law_794 : decode cL_law 794 = .ok (.if_icmp .eq 232, 3) := by decide +kernel
theorem dL_law_797 : decode cL_law 797 = .ok (.iconst 0, 1) := by decide +kernel
theorem dL_law_798 : decode cL_law 798 = .ok (.ireturn, 1) := by decide +kernel
theorem dL_law_799 : decode cL_law 799 = .ok (.aload_n 1, 1) := by decide +kernel
theorem dL_law_800 : decode cL_law 800 = .ok (.aload_n 0, 1) := by decide +kernel
theorem dL_law_801 : decode cL_law 801 = .ok (.iload_n 3, 1) := by decide +kernel
theorem dL_law_802 : decode cL_law 802 = .ok (.iconst 1, 1) := by decide +kernel
theorem dL_law_803 : decode cL_law 803 = .ok (.iadd, 1) := by decide +kernel
theorem dL_law_804 : decode cL_law 804 = .ok (.iaload, 1) := by decide +kernel
theorem dL_law_805 : decode cL_law 805 = .ok (.aload_n 0, 1) := by decide +kernel
theorem dL_law_806 : decode cL_law 806 = .ok (.iload_n 3, 1) := by decide +kernel
theorem dL_law_807 : decode cL_law 807 = .ok (.iconst 2, 1) := by decide +kernel
theorem dL_law_808 : decode cL_law 808 = .ok (.iadd, 1) := by decide +kernel
theorem dL_law_809 : decode cL_law 809 = .ok (.iaload, 1) := by decide +kernel
theorem dL_law_810 : decode cL_law 810 = .ok (.invokevirtual 96, 3) := by decide +kernel
theorem dL_law_813 : decode cL_law 813 = .ok (.aload_n 2, 1) := by decide +kernel
theorem dL_law_814 : decode cL_law 814 = .ok (.aload_n 0, 1) := by decide +kernel
theorem dL_law_815 : decode cL_law 815 = .ok (.iload_n 3, 1) := by decide +kernel
theorem dL_law_816 : decode cL_law 816 = .ok (.iconst 1, 1) := by decide +kernel
theorem dL_law_817 : decode cL_law 817 = .ok (.iadd, 1) := by decide +kernel
theorem dL_law_818 : decode cL_law 818 = .ok (.iaload, 1) := by decide +kernel
theorem dL_law_819 : decode cL_law 819 = .ok (.aload_n 0, 1) := by decide +kernel
theorem dL_law_820 : decode cL_law 820 = .ok (.iload_n 3, 1) := by decide +kernel
theorem dL_law_821 : decode cL_law 821 = .ok (.iconst 2, 1) := by decide +kernel
theorem dL_law_822 : decode cL_law 822 = .ok (.iadd, 1) := by decide +kernel
theorem dL_law_823 : decode cL_law 823 = .ok (.iaload, 1) := by decide +kernel
theorem dL_law_824 : decode cL_law 824 = .ok (.invokevirtual 99, 3) := by decide +kernel
theorem dL_law_827 : decode cL_law 827 = .ok (.if_icmp .eq 199, 3) := by decide +kernel
theorem dL_law_830 : decode cL_law 830 = .ok (.iconst 0, 1) := by decide +kernel
theorem dL_law_831 : decode cL_law 831 = .ok (.ireturn, 1) := by decide +kernel
theorem dL_law_832 : decode cL_law 832 = .ok (.aload_n 1, 1) := by decide +kernel
theorem dL_law_833 : decode cL_law 833 = .ok (.aload_n 0, 1) := by decide +kernel
theorem dL_law_834 : decode cL_law 834 = .ok (.iload_n 3, 1) := by decide +kernel
theorem dL_law_835 : decode cL_law 835 = .ok (.iconst 1, 1) := by decide +kernel
theorem dL_law_836 : decode cL_law 836 = .ok (.iadd, 1) := by decide +kernel
theorem dL_law_837 : decode cL_law 837 = .ok (.iaload, 1) := by decide +kernel
theorem dL_law_838 : decode cL_law 838 = .ok (.invokevirtual 100, 3) := by decide +kernel
theorem dL_law_841 : decode cL_law 841 = .ok (.aload_n 2, 1) := by decide +kernel
theorem dL_law_842 : decode cL_law 842 = .ok (.aload_n 0, 1) := by decide +kernel
theorem dL_law_843 : decode cL_law 843 = .ok (.iload_n 3, 1) := by decide +kernel
theorem dL_law_844 : decode cL_law 844 = .ok (.iconst 1, 1) := by decide +kernel
theorem dL_law_845 : decode cL_law 845 = .ok (.iadd, 1) := by decide +kernel
theorem dL_law_846 : decode cL_law 846 = .ok (.iaload, 1) := by decide +kernel
theorem dL_law_847 : decode cL_law 847 = .ok (.invokevirtual 103, 3) := by decide +kernel
theorem dL_law_850 : decode cL_law 850 = .ok (.if_icmp .eq 176, 3) := by decide +kernel
theorem dL_law_853 : decode cL_law 853 = .ok (.iconst 0, 1) := by decide +kernel
theorem dL_law_854 : decode cL_law 854 = .ok (.ireturn, 1) := by decide +kernel
theorem dL_law_855 : decode cL_law 855 = .ok (.aload_n 1, 1) := by decide +kernel
theorem dL_law_856 : decode cL_law 856 = .ok (.aload_n 0, 1) := by decide +kernel
theorem dL_law_857 : decode cL_law 857 = .ok (.iload_n 3, 1) := by decide +kernel
theorem dL_law_858 : decode cL_law 858 = .ok (.iconst 1, 1) := by decide +kernel
theorem dL_law_859 : decode cL_law 859 = .ok (.iadd, 1) := by decide +kernel
theorem dL_law_860 : decode cL_law 860 = .ok (.iaload, 1) := by decide +kernel
theorem dL_law_861 : decode cL_law 861 = .ok (.aload_n 0, 1) := by decide +kernel
theorem dL_law_862 : decode cL_law 862 = .ok (.iload_n 3, 1) := by decide +kernel
theorem dL_law_863 : decode cL_law 863 = .ok (.iconst 2, 1) := by decide +kernel
theorem dL_law_864 : decode cL_law 864 = .ok (.iadd, 1) := by decide +kernel
theorem dL_law_865 : decode cL_law 865 = .ok (.iaload, 1) := by decide +kernel
theorem dL_law_866 : decode cL_law 866 = .ok (.invokevirtual 104, 3) := by decide +kernel
theorem dL_law_869 : decode cL_law 869 = .ok (.aload_n 2, 1) := by decide +kernel
theorem dL_law_870 : decode cL_law 870 = .ok (.aload_n 0, 1) := by decide +kernel
theorem dL_law_871 : decode cL_law 871 = .ok (.iload_n 3, 1) := by decide +kernel
theorem dL_law_872 : decode cL_law 872 = .ok (.iconst 1, 1) := by decide +kernel
theorem dL_law_873 : decode cL_law 873 = .ok (.iadd, 1) := by decide +kernel
theorem dL_law_874 : decode cL_law 874 = .ok (.iaload, 1) := by decide +kernel
theorem dL_law_875 : decode cL_law 875 = .ok (.aload_n 0, 1) := by decide +kernel
theorem dL_law_876 : decode cL_law 876 = .ok (.iload_n 3, 1) := by decide +kernel
theorem dL_law_877 : decode cL_law 877 = .ok (.iconst 2, 1) := by decide +kernel
theorem dL_law_878 : decode cL_law 878 = .ok (.iadd, 1) := by decide +kernel
theorem dL_law_879 : decode cL_law 879 = .ok (.iaload, 1) := by decide +kernel
theorem dL_law_880 : decode cL_law 880 = .ok (.invokevirtual 107, 3) := by decide +kernel
theorem dL_law_883 : decode cL_law 883 = .ok (.if_icmp .eq 143, 3) := by decide +kernel
theorem dL_law_886 : decode cL_law 886 = .ok (.iconst 0, 1) := by decide +kernel
theorem dL_law_887 : decode cL_law 887 = .ok (.ireturn, 1) := by decide +kernel
theorem dL_law_888 : decode cL_law 888 = .ok (.aload_n 1, 1) := by decide +kernel
theorem dL_law_889 : decode cL_law 889 = .ok (.aload_n 0, 1) := by decide +kernel
theorem dL_law_890 : decode cL_law 890 = .ok (.iload_n 3, 1) := by decide +kernel
theorem dL_law_891 : decode cL_law 891 = .ok (.iconst 1, 1) := by decide +kernel
theorem dL_law_892 : decode cL_law 892 = .ok (.iadd, 1) := by decide +kernel
theorem dL_law_893 : decode cL_law 893 = .ok (.iaload, 1) := by decide +kernel
theorem dL_law_894 : decode cL_law 894 = .ok (.i2l, 1) := by decide +kernel
theorem dL_law_895 : decode cL_law 895 = .ok (.bipush 32, 2) := by decide +kernel
theorem dL_law_897 : decode cL_law 897 = .ok (.lshl, 1) := by decide +kernel
theorem dL_law_898 : decode cL_law 898 = .ok (.aload_n 0, 1) := by decide +kernel
theorem dL_law_899 : decode cL_law 899 = .ok (.iload_n 3, 1) := by decide +kernel
theorem dL_law_900 : decode cL_law 900 = .ok (.iconst 2, 1) := by decide +kernel
theorem dL_law_901 : decode cL_law 901 = .ok (.iadd, 1) := by decide +kernel
theorem dL_law_902 : decode cL_law 902 = .ok (.iaload, 1) := by decide +kernel
theorem dL_law_903 : decode cL_law 903 = .ok (.i2l, 1) := by decide +kernel
theorem dL_law_904 : decode cL_law 904 = .ok (.ldc2_w 108, 3) := by decide +kernel
theorem dL_law_907 : decode cL_law 907 = .ok (.land, 1) := by decide +kernel
theorem dL_law_908 : decode cL_law 908 = .ok (.lor, 1) := by decide +kernel
theorem dL_law_909 : decode cL_law 909 = .ok (.invokevirtual 110, 3) := by decide +kernel
theorem dL_law_912 : decode cL_law 912 = .ok (.aload_n 2, 1) := by decide +kernel
theorem dL_law_913 : decode cL_law 913 = .ok (.aload_n 0, 1) := by decide +kernel
theorem dL_law_914 : decode cL_law 914 = .ok (.iload_n 3, 1) := by decide +kernel
theorem dL_law_915 : decode cL_law 915 = .ok (.iconst 1, 1) := by decide +kernel
theorem dL_law_916 : decode cL_law 916 = .ok (.iadd, 1) := by decide +kernel
theorem dL_law_917 : decode cL_law 917 = .ok (.iaload, 1) := by decide +kernel
theorem dL_law_918 : decode cL_law 918 = .ok (.i2l, 1) := by decide +kernel
theorem dL_law_919 : decode cL_law 919 = .ok (.bipush 32, 2) := by decide +kernel
theorem dL_law_921 : decode cL_law 921 = .ok (.lshl, 1) := by decide +kernel
theorem dL_law_922 : decode cL_law 922 = .ok (.aload_n 0, 1) := by decide +kernel
theorem dL_law_923 : decode cL_law 923 = .ok (.iload_n 3, 1) := by decide +kernel
theorem dL_law_924 : decode cL_law 924 = .ok (.iconst 2, 1) := by decide +kernel
theorem dL_law_925 : decode cL_law 925 = .ok (.iadd, 1) := by decide +kernel
theorem dL_law_926 : decode cL_law 926 = .ok (.iaload, 1) := by decide +kernel
theorem dL_law_927 : decode cL_law 927 = .ok (.i2l, 1) := by decide +kernel
theorem dL_law_928 : decode cL_law 928 = .ok (.ldc2_w 108, 3) := by decide +kernel
theorem dL_law_931 : decode cL_law 931 = .ok (.land, 1) := by decide +kernel
theorem dL_law_932 : decode cL_law 932 = .ok (.lor, 1) := by decide +kernel
theorem dL_law_933 : decode cL_law 933 = .ok (.invokevirtual 114, 3) := by decide +kernel
theorem dL_law_936 : decode cL_law 936 = .ok (.if_icmp .eq 90, 3) := by decide +kernel
theorem dL_law_939 : decode cL_law 939 = .ok (.iconst 0, 1) := by decide +kernel
theorem dL_law_940 : decode cL_law 940 = .ok (.ireturn, 1) := by decide +kernel
theorem dL_law_941 : decode cL_law 941 = .ok (.aload_n 1, 1) := by decide +kernel
theorem dL_law_942 : decode cL_law 942 = .ok (.invokevirtual 115, 3) := by decide +kernel
theorem dL_law_945 : decode cL_law 945 = .ok (.aload_n 2, 1) := by decide +kernel
theorem dL_law_946 : decode cL_law 946 = .ok (.invokevirtual 118, 3) := by decide +kernel
theorem dL_law_949 : decode cL_law 949 = .ok (.if_icmp .eq 77, 3) := by decide +kernel
theorem dL_law_952 : decode cL_law 952 = .ok (.iconst 0, 1) := by decide +kernel
theorem dL_law_953 : decode cL_law 953 = .ok (.ireturn, 1) := by decide +kernel
theorem dL_law_954 : decode cL_law 954 = .ok (.aload_n 1, 1) := by decide +kernel
theorem dL_law_955 : decode cL_law 955 = .ok (.invokevirtual 119, 3) := by decide +kernel
theorem dL_law_958 : decode cL_law 958 = .ok (.aload_n 2, 1) := by decide +kernel
theorem dL_law_959 : decode cL_law 959 = .ok (.invokevirtual 122, 3) := by decide +kernel
theorem dL_law_962 : decode cL_law 962 = .ok (.if_icmp .eq 64, 3) := by decide +kernel
theorem dL_law_965 : decode cL_law 965 = .ok (.iconst 0, 1) := by decide +kernel
theorem dL_law_966 : decode cL_law 966 = .ok (.ireturn, 1) := by decide +kernel
theorem dL_law_967 : decode cL_law 967 = .ok (.aload_n 1, 1) := by decide +kernel
theorem dL_law_968 : decode cL_law 968 = .ok (.invokevirtual 123, 3) := by decide +kernel
theorem dL_law_971 : decode cL_law 971 = .ok (.aload_n 2, 1) := by decide +kernel
theorem dL_law_972 : decode cL_law 972 = .ok (.invokevirtual 126, 3) := by decide +kernel
theorem dL_law_975 : decode cL_law 975 = .ok (.if_icmp .eq 51, 3) := by decide +kernel
theorem dL_law_978 : decode cL_law 978 = .ok (.iconst 0, 1) := by decide +kernel
theorem dL_law_979 : decode cL_law 979 = .ok (.ireturn, 1) := by decide +kernel
theorem dL_law_980 : decode cL_law 980 = .ok (.aload_n 1, 1) := by decide +kernel
theorem dL_law_981 : decode cL_law 981 = .ok (.aload_n 0, 1) := by decide +kernel
theorem dL_law_982 : decode cL_law 982 = .ok (.iload_n 3, 1) := by decide +kernel
theorem dL_law_983 : decode cL_law 983 = .ok (.iconst 1, 1) := by decide +kernel
theorem dL_law_984 : decode cL_law 984 = .ok (.iadd, 1) := by decide +kernel
theorem dL_law_985 : decode cL_law 985 = .ok (.iaload, 1) := by decide +kernel
theorem dL_law_986 : decode cL_law 986 = .ok (.invokevirtual 127, 3) := by decide +kernel
theorem dL_law_989 : decode cL_law 989 = .ok (.aload_n 2, 1) := by decide +kernel
theorem dL_law_990 : decode cL_law 990 = .ok (.aload_n 0, 1) := by decide +kernel
theorem dL_law_991 : decode cL_law 991 = .ok (.iload_n 3, 1) := by decide +kernel
theorem dL_law_992 : decode cL_law 992 = .ok (.iconst 1, 1) := by decide +kernel
theorem dL_law_993 : decode cL_law 993 = .ok (.iadd, 1) := by decide +kernel
theorem dL_law_994 : decode cL_law 994 = .ok (.iaload, 1) := by decide +kernel
theorem dL_law_995 : decode cL_law 995 = .ok (.invokevirtual 130, 3) := by decide +kernel
theorem dL_law_998 : decode cL_law 998 = .ok (.if_icmp .eq 28, 3) := by decide +kernel
theorem dL_law_1001 : decode cL_law 1001 = .ok (.iconst 0, 1) := by decide +kernel
theorem dL_law_1002 : decode cL_law 1002 = .ok (.ireturn, 1) := by decide +kernel
theorem dL_law_1003 : decode cL_law 1003 = .ok (.aload_n 1, 1) := by decide +kernel
theorem dL_law_1004 : decode cL_law 1004 = .ok (.aload_n 0, 1) := by decide +kernel
theorem dL_law_1005 : decode cL_law 1005 = .ok (.iload_n 3, 1) := by decide +kernel
theorem dL_law_1006 : decode cL_law 1006 = .ok (.iconst 1, 1) := by decide +kernel
theorem dL_law_1007 : decode cL_law 1007 = .ok (.iadd, 1) := by decide +kernel
theorem dL_law_1008 : decode cL_law 1008 = .ok (.iaload, 1) := by decide +kernel
theorem dL_law_1009 : decode cL_law 1009 = .ok (.invokevirtual 131, 3) := by decide +kernel
theorem dL_law_1012 : decode cL_law 1012 = .ok (.aload_n 2, 1) := by decide +kernel
theorem dL_law_1013 : decode cL_law 1013 = .ok (.aload_n 0, 1) := by decide +kernel
theorem dL_law_1014 : decode cL_law 1014 = .ok (.iload_n 3, 1) := by decide +kernel
theorem dL_law_1015 : decode cL_law 1015 = .ok (.iconst 1, 1) := by decide +kernel
theorem dL_law_1016 : decode cL_law 1016 = .ok (.iadd, 1) := by decide +kernel
theorem dL_law_1017 : decode cL_law 1017 = .ok (.iaload, 1) := by decide +kernel
theorem dL_law_1018 : decode cL_law 1018 = .ok (.invokevirtual 134, 3) := by decide +kernel
theorem dL_law_1021 : decode cL_law 1021 = .ok (.if_icmp .eq 5, 3) := by decide +kernel
theorem dL_law_1024 : decode cL_law 1024 = .ok (.iconst 0, 1) := by decide +kernel
theorem dL_law_1025 : decode cL_law 1025 = .ok (.ireturn, 1) := by decide +kernel
theorem dL_law_1026 : decode cL_law 1026 = .ok (.iinc 3 5, 3) := by decide +kernel
theorem dL_law_1029 : decode cL_law 1029 = .ok (.goto (-1011), 3) := by decide +kernel
theorem dL_law_1032 : decode cL_law 1032 = .ok (.iconst 1, 1) := by decide +kernel
theorem dL_law_1033 : decode cL_law 1033 = .ok (.ireturn, 1) := by decide +kernel
end
section
/-! THE PURE CELLS: memory is a list of cells by number; a reference is a number; the law's world holds them at base + number -/
abbrev PE : Type := Nat × List Value
abbrev EV : Type := Nat × (Nat → Nat) × (Nat → Nat) × (Nat → Nat → Int32)
abbrev MT : Type := String × MethodName × ByteArray × Nat × Option FieldType
/-- a number's address: below 1000 a cell of ours, from 1000 on a table that nobody writes -/
def kv_adr (E : EV) (i : Nat) : Nat := if i < 1000 then E.1 + i else E.2.1 (i - 1000)
def kv_v (E : EV) : Value → Value
  | .ref i => .ref (kv_adr E i)
  | v => v
def kv_ro (E : EV) : Option Value → Option Nat
  | some (.ref i) => some (kv_adr E i)
  | _ => none
def kv_io : Option Value → Int32
  | some (.int x) => x
  | _ => 0
/-- a cell of the pure memory as a cell of the kit's world: kinds below 100 are objects, 100 + t arrays; t: 0 int, 1 char, 2 boolean, 3 int[], 4 State, 5 Team -/
def kv_c (E : EV) (cA : Nat → ClassId) (e : PE) : va_E :=
  if e.1 < 100 then .inr (e.1, e.2.map (kv_v E))
  else if 103 ≤ e.1 then .inl (cA (e.1 - 100), e.2.length, .inr (.inr (.inr (.inr (fun j => kv_ro E e.2[j]?)))))
  else .inl (cA (e.1 - 100), e.2.length, .inl (fun j => kv_io e.2[j]?))
def kv_w (E : EV) (cA : Nat → ClassId) (M : List PE) : va_W := M.mapIdx (fun i e => (kv_adr E i, kv_c E cA e))
theorem kv_cat (E : EV) (v : Value) : (kv_v E v).category = v.category := by cases v <;> rfl
theorem kv_w_get (E : EV) (cA : Nat → ClassId) (M : List PE) (i : Nat) : (kv_w E cA M)[i]? = M[i]?.map (fun e => (kv_adr E i, kv_c E cA e)) := by
  unfold kv_w
  rw [List.getElem?_mapIdx]
theorem kv_w_at {E : EV} {cA : Nat → ClassId} {M : List PE} {i : Nat} {e : PE} (h : M[i]? = some e) : (kv_w E cA M)[i]? = some (kv_adr E i, kv_c E cA e) := by
  rw [kv_w_get, h]; rfl
theorem kv_w_set {E : EV} {cA : Nat → ClassId} {M : List PE} {i : Nat} {e : PE} : kv_w E cA (M.set i e) = (kv_w E cA M).set i (kv_adr E i, kv_c E cA e) := by
  apply List.ext_getElem?
  intro j
  rw [kv_w_get, List.getElem?_set, List.getElem?_set]
  have hl : (kv_w E cA M).length = M.length := by unfold kv_w; simp
  rw [hl]
  by_cases h : i = j
  · subst h
    by_cases h2 : i < M.length
    · simp [h2]
    · simp [h2]
  · simp [h, kv_w_get]
theorem kv_w_app {E : EV} {cA : Nat → ClassId} {M : List PE} {e : PE} : kv_w E cA (M ++ [e]) = kv_w E cA M ++ [(kv_adr E M.length, kv_c E cA e)] := by
  unfold kv_w
  rw [List.mapIdx_append]
  simp
def kv_sum (M : List PE) : Nat := (M.map (fun e => e.2.length)).sum
theorem kv_sum_app (M : List PE) (e : PE) : kv_sum (M ++ [e]) = kv_sum M + e.2.length := by simp [kv_sum]
theorem kv_sum_set {M : List PE} {i : Nat} {e e' : PE} (h : M[i]? = some e) (hl : e'.2.length = e.2.length) : kv_sum (M.set i e') = kv_sum M := by
  unfold kv_sum
  induction M generalizing i with
  | nil => simp at h
  | cons a M ih =>
    cases i with
    | zero =>
      simp at h
      subst h
      simp [hl]
    | succ i =>
      simp at h
      rw [List.set_cons_succ, List.map_cons, List.map_cons, List.sum_cons, List.sum_cons, ih h]
/-! what stands around: the kinds, the tables that nobody writes, the links -/
def kv_tys (cA : Nat → ClassId) : List (ClassId × FieldType) := [(cA 0, .int), (cA 1, .char), (cA 2, .boolean), (cA 3, .array .int), (cA 4, .object RX3), (cA 5, .object RX4)]
def kv_A (E : EV) : Nat → Prop := fun q => E.1 ≤ q
def TB : List Cond := lw_tbl.filter goodWord
theorem TB_good : GoodIn TB TB := fun w h => ⟨h, good_of_word (List.mem_filter.mp h).2⟩
theorem TB_tbl {w : Cond} (h : w ∈ TB) : w ∈ lw_tbl := (List.mem_filter.mp h).1
def kv_NW : List Cond := [.methodLinkNest RX3 39 yX4_init RX5, .methodLinkNest RX5 21 yX0_init RX5, .methodLinkNest RX5 28 yX2_init RX5, .methodLinkNest RX2 25 yX5_isPlace RX5, .methodLinkNest RX2 17 yX5_isFrom RX5, .fieldLinkNest RX3 30 RX5 "FIRST_SETTINGS" "[I" RX5]
def kv_AOI (U : State) : Prop := (Cond.arrayOver (.array .int)).before #[] U = true
def kv_G (E : EV) (D : va_G) (cA : Nat → ClassId) (U : State) : Prop :=
  va_K D vwCl (kv_tys cA) U ∧ va_AO RX3 U ∧ va_AO RX4 U ∧ kv_AOI U ∧ (∀ w ∈ kv_NW, va_Nw w U) ∧
  (∀ k, k < 4 → va_T .int (E.2.1 k) (E.2.2.1 k) (fun j => .int (E.2.2.2 k j)) (kv_A E) U U.heap) ∧
  va_Z RX5 "FIRST_SETTINGS" "[I" (.ref (E.2.1 0)) (kv_A E) U U.heap ∧ va_Z RX5 "LEAST_SETTINGS" "[I" (.ref (E.2.1 1)) (kv_A E) U U.heap ∧ va_Z RX5 "MOST_SETTINGS" "[I" (.ref (E.2.1 2)) (kv_A E) U U.heap
/-! the locals -/
def kv_L (E : EV) (nL : Nat) (la : Array Slot) (ls : List (Option Value)) : Prop :=
  la.size = nL ∧ lv_wf la ∧ ls.length = nL ∧ ∀ (i : Nat) (v : Value), ls[i]? = some (some v) → la[i]? = some (.val (kv_v E v))
def kv_al (E : EV) (ls : List (Option Value)) : List (Nat × Value) := (List.range ls.length).filterMap (fun i => ((ls[i]?).join).map (fun v => (i, kv_v E v)))
theorem kv_al_in {E : EV} {ls : List (Option Value)} {q : Nat × Value} : q ∈ kv_al E ls ↔ ∃ v, ls[q.1]? = some (some v) ∧ q.2 = kv_v E v := by
  unfold kv_al
  rw [List.mem_filterMap]
  constructor
  · rintro ⟨i, -, h⟩
    cases hi : ls[i]? with
    | none => rw [hi] at h; cases h
    | some o =>
      cases o with
      | none => rw [hi] at h; cases h
      | some v =>
        rw [hi] at h
        cases h
        exact ⟨v, hi, rfl⟩
  · rintro ⟨v, h1, h2⟩
    refine ⟨q.1, List.mem_range.mpr (List.getElem?_eq_some_iff.mp h1).1, ?_⟩
    rw [h1]
    simp [← h2]
theorem kv_L.has {E : EV} {nL : Nat} {la : Array Slot} {ls : List (Option Value)} (h : kv_L E nL la ls) : lv_has la nL (kv_al E ls) := by
  refine ⟨h.1, h.2.1, fun q hq => ?_⟩
  obtain ⟨v, h1, h2⟩ := kv_al_in.mp hq
  rw [h2]
  exact h.2.2.2 _ _ h1
/-- a store at i breaks no long below it -/
def kv_ok (ls : List (Option Value)) : Nat → Bool
  | 0 => true
  | i + 1 => match ls[i]? with
    | some (some v) => v.category == 1
    | _ => true
theorem kv_ok_at {ls : List (Option Value)} {i : Nat} (h : kv_ok ls i = true) {j : Nat} {v : Value} (hj : j + 1 = i) (hv : ls[j]? = some (some v)) : v.category = 1 := by
  subst hj
  simp only [kv_ok, hv] at h
  simpa using h
theorem kv_L.st1 {E : EV} {nL : Nat} {la la' : Array Slot} {ls : List (Option Value)} {i : Nat} {v : Value} (h : kv_L E nL la ls) (hok : kv_ok ls i = true) (hi : i < nL) (hv : v.category = 1)
    (h' : lv_has la' nL ((i, kv_v E v) :: (kv_al E ls).filter (fun q => !(q.1 == i) && !(q.1 + 1 == i && q.2.category == 2)))) : kv_L E nL la' (ls.set i (some v)) := by
  refine ⟨h'.1, h'.2.1, by rw [List.length_set]; exact h.2.2.1, fun j w hj => ?_⟩
  rw [List.getElem?_set] at hj
  by_cases e : i = j
  · subst e
    rw [if_pos rfl] at hj
    split at hj
    · cases hj
      exact h'.2.2 (i, kv_v E v) List.mem_cons_self
    · cases hj
  · rw [if_neg e] at hj
    refine h'.2.2 (j, kv_v E w) (List.mem_cons_of_mem _ (List.mem_filter.mpr ⟨kv_al_in.mpr ⟨w, hj, rfl⟩, ?_⟩))
    have h1 : ¬ j = i := fun q => e q.symm
    by_cases e2 : j + 1 = i
    · have := kv_ok_at hok e2 hj
      simp [h1, kv_cat, this]
    · simp [h1, e2]
theorem kv_L.st2 {E : EV} {nL : Nat} {la la' : Array Slot} {ls : List (Option Value)} {i : Nat} {v : Value} (h : kv_L E nL la ls) (hok : kv_ok ls i = true) (hi : i + 1 < nL)
    (h' : lv_has la' nL ((i, kv_v E v) :: (kv_al E ls).filter (fun q => !(q.1 == i) && (!(q.1 == i + 1) && !(q.1 + 1 == i && q.2.category == 2))))) : kv_L E nL la' ((ls.set i (some v)).set (i + 1) none) := by
  refine ⟨h'.1, h'.2.1, by rw [List.length_set, List.length_set]; exact h.2.2.1, fun j w hj => ?_⟩
  rw [List.getElem?_set] at hj
  by_cases e0 : i + 1 = j
  · rw [if_pos e0] at hj
    split at hj <;> cases hj
  rw [if_neg e0, List.getElem?_set] at hj
  by_cases e : i = j
  · subst e
    rw [if_pos rfl] at hj
    split at hj
    · cases hj
      exact h'.2.2 (i, kv_v E v) List.mem_cons_self
    · cases hj
  · rw [if_neg e] at hj
    refine h'.2.2 (j, kv_v E w) (List.mem_cons_of_mem _ (List.mem_filter.mpr ⟨kv_al_in.mpr ⟨w, hj, rfl⟩, ?_⟩))
    have h1 : ¬ j = i := fun q => e q.symm
    have h2 : ¬ j = i + 1 := fun q => e0 q.symm
    by_cases e2 : j + 1 = i
    · have := kv_ok_at hok e2 hj
      simp [h1, h2, kv_cat, this]
    · simp [h1, h2, e2]
/-! a method's start: its arguments in the locals -/
def kv_fl (vs : List Value) : List (Option Value) := vs.flatMap (fun v => if v.category = 2 then [some v, none] else [some v])
def kv_en (nL : Nat) (vs : List Value) : List (Option Value) := kv_fl vs ++ List.replicate (nL - (kv_fl vs).length) none
theorem kv_fl_len (E : EV) (vs : List Value) : (lg_sl (vs.map (kv_v E))).length = (kv_fl vs).length := by
  induction vs with
  | nil => rfl
  | cons v vs ih =>
    have h1 : lg_sl ((v :: vs).map (kv_v E)) = (if v.category = 2 then [.val (kv_v E v), .second] else [.val (kv_v E v)]) ++ lg_sl (vs.map (kv_v E)) := by
      simp [lg_sl, kv_cat]
    have h2 : kv_fl (v :: vs) = (if v.category = 2 then [some v, none] else [some v]) ++ kv_fl vs := by simp [kv_fl]
    rw [h1, h2, List.length_append, List.length_append, ih]
    split <;> rfl
theorem kv_fl_at (E : EV) : ∀ (vs : List Value) (i : Nat) (v : Value), (kv_fl vs)[i]? = some (some v) → (lg_sl (vs.map (kv_v E)))[i]? = some (.val (kv_v E v))
  | [], i, v, h => by simp [kv_fl] at h
  | a :: vs, i, v, h => by
    have h1 : lg_sl ((a :: vs).map (kv_v E)) = (if a.category = 2 then [.val (kv_v E a), .second] else [.val (kv_v E a)]) ++ lg_sl (vs.map (kv_v E)) := by
      simp [lg_sl, kv_cat]
    have h2 : kv_fl (a :: vs) = (if a.category = 2 then [some a, none] else [some a]) ++ kv_fl vs := by simp [kv_fl]
    rw [h1]
    rw [h2] at h
    by_cases hc : a.category = 2
    · rw [if_pos hc] at h ⊢
      match i, h with
      | 0, h => simp at h; subst h; rfl
      | 1, h => simp at h
      | i + 2, h =>
        have h : (kv_fl vs)[i]? = some (some v) := by simpa using h
        simpa using kv_fl_at E vs i v h
    · rw [if_neg hc] at h ⊢
      match i, h with
      | 0, h => simp at h; subst h; rfl
      | i + 1, h =>
        have h : (kv_fl vs)[i]? = some (some v) := by simpa using h
        simpa using kv_fl_at E vs i v h
theorem kv_en_L (E : EV) {nL : Nat} {vs : List Value} (h : (kv_fl vs).length ≤ nL) : kv_L E nL ((lg_sl (vs.map (kv_v E)) ++ List.replicate (nL - (lg_sl (vs.map (kv_v E))).length) Slot.unset).toArray) (kv_en nL vs) := by
  have hl := lv_entry (vs.map (kv_v E)) (n := nL) (by rw [kv_fl_len]; exact h)
  refine ⟨hl.1, hl.2.1, by simp [kv_en]; omega, fun i v hi => ?_⟩
  unfold kv_en at hi
  by_cases hlt : i < (kv_fl vs).length
  · rw [List.getElem?_append_left hlt] at hi
    have := kv_fl_at E vs i v hi
    rw [List.getElem?_toArray, List.getElem?_append_left (by rw [kv_fl_len]; exact hlt)]
    exact this
  · rw [List.getElem?_append_right (by omega)] at hi
    have := List.mem_of_getElem? hi
    have := List.eq_of_mem_replicate this
    cases this
end
section
/-! THE WALK: what the kit's W says, told of pure states -/
def kv_R (E : EV) (D : va_G) (cA : Nat → ClassId) (M : List PE) (H : Heap) : Prop := M.length ≤ 1000 ∧ va_P D vwCl (kv_w E cA M) H
theorem kv_R.apart {E : EV} {D : va_G} {cA : Nat → ClassId} {M : List PE} {H : Heap} (h : kv_R E D cA M H) : va_D (kv_A E) (kv_w E cA M) := by
  have key : ∀ (k : Nat) (q : Nat × va_E), (kv_w E cA M)[k]? = some q → q.1 = E.1 + k := by
    intro k q hk
    rw [kv_w_get] at hk
    cases hm : M[k]? with
    | none => rw [hm] at hk; cases hk
    | some e =>
      rw [hm] at hk
      cases hk
      have hl := (List.getElem?_eq_some_iff.mp hm).1
      show kv_adr E k = _
      unfold kv_adr
      rw [if_pos (by have := h.1; omega)]
  refine ⟨fun i j p q hi hj e => ?_, fun k q hk => ?_⟩
  · rw [key i p hi, key j q hj] at e
    omega
  · show E.1 ≤ q.1
    rw [key k q hk]
    omega
def kv_ret (X : MT) (pc : Nat) (r : Option Value) : Prop := match r with
  | none => X.2.2.2.2 = none ∧ decode X.2.2.1 pc = .ok (.return_, 1)
  | some (.int v) => (∃ ty, X.2.2.2.2 = some ty ∧ narrow ty (.int v) = .int v) ∧ decode X.2.2.1 pc = .ok (.ireturn, 1)
  | _ => False
/-- the method that runs: its code, its class, its tables, its room; what its return owes -/
def kv_B (l : Launch) (E : EV) (D : va_G) (cA : Nat → ClassId) (N Z : Nat) (X : MT) (d : Nat) (fin : Option Value → List PE → Prop)
    (p : Program) (e : Env) (R : Room) (s : State) (m : MethodId) (args : Array Value) (below : List Frame) (meth : Method) (c : Code) (Q : State → Prop) (n0 z0 : Nat) : Prop :=
  (p.tables.exec = Jvm.exec ∧ c.code = X.2.2.1 ∧ c.maxLocals = X.2.2.2.1 ∧ s.vm.findClass X.1 = some m.cls ∧ (∀ w ∈ TB, w.before args s = true) ∧ (X.2.1.name = "<init>" → meth.name = "<init>")) ∧
  kv_G E D cA s ∧ (E.1 ≤ s.heap.size ∧ s.heap.size ≤ E.1 + n0) ∧ d ≤ R.frames ∧ 36 * d ≤ R.locals ∧ N ≤ n0 + R.cells ∧ Z ≤ z0 + R.slots ∧
  (∀ (r : Option Value) (M' : List PE) (H' : Heap) (locs' : List Loc) (cells' slots' pc' : Nat) (la' : Array Slot), fin r M' → M'.length = N → kv_sum M' = Z → kv_R E D cA M' H' → va_S (kv_A E) s.heap H' locs' → cells' + n0 = M'.length → slots' + z0 = kv_sum M' → kv_ret X pc' r →
    W p l e R s m args below meth c H' locs' cells' slots' Q (F0 m pc' la' (r.toList.map (kv_v E))))
def kv_P (E : EV) (D : va_G) (cA : Nat → ClassId) (X : MT) (s : State) (n0 z0 : Nat) (ls : List (Option Value)) (M : List PE) (H : Heap) (locs : List Loc) (cells slots : Nat) (la : Array Slot) : Prop :=
  kv_R E D cA M H ∧ va_S (kv_A E) s.heap H locs ∧ kv_L E X.2.2.2.1 la ls ∧ cells + n0 = M.length ∧ slots + z0 = kv_sum M
def PW (l : Launch) (E : EV) (D : va_G) (cA : Nat → ClassId) (N Z : Nat) (X : MT) (d : Nat) (fin : Option Value → List PE → Prop) (pc : Nat) (ls : List (Option Value)) (st : List Value) (M : List PE) : Prop :=
  ∀ ⦃p : Program⦄ ⦃e : Env⦄ ⦃R : Room⦄ ⦃s : State⦄ ⦃m : MethodId⦄ ⦃args : Array Value⦄ ⦃below : List Frame⦄ ⦃meth : Method⦄ ⦃c : Code⦄ ⦃Q : State → Prop⦄ ⦃n0 z0 : Nat⦄ ⦃H : Heap⦄ ⦃locs : List Loc⦄ ⦃cells slots : Nat⦄ ⦃la : Array Slot⦄,
    kv_B l E D cA N Z X d fin p e R s m args below meth c Q n0 z0 → kv_P E D cA X s n0 z0 ls M H locs cells slots la → W p l e R s m args below meth c H locs cells slots Q (F0 m pc la (st.map (kv_v E)))
section PWR
variable {l : Launch} {E : EV} {D : va_G} {cA : Nat → ClassId} {N Z : Nat} {X : MT} {d : Nat} {fin : Option Value → List PE → Prop} {pc : Nat} {ls : List (Option Value)} {st : List Value} {M : List PE}
theorem pw_ret {r : Option Value} (hr : kv_ret X pc r) (hf : fin r M) (hN : M.length = N) (hZ : kv_sum M = Z) : PW l E D cA N Z X d fin pc ls r.toList M :=
  fun _ _ _ _ _ _ _ _ _ _ _ _ _ _ _ _ _ B P => B.2.2.2.2.2.2.2 r M _ _ _ _ _ _ hf hN hZ P.1 P.2.1 P.2.2.2.1 P.2.2.2.2 hr
theorem pw_ireturn {v : Int32} {ty : FieldType} (hd : decode X.2.2.1 pc = .ok (.ireturn, 1)) (ht : X.2.2.2.2 = some ty) (hn : narrow ty (.int v) = .int v) (hN : M.length = N) (hZ : kv_sum M = Z) (hf : fin (some (.int v)) M) : PW l E D cA N Z X d fin pc ls [.int v] M :=
  pw_ret (r := some (.int v)) ⟨⟨ty, ht, hn⟩, hd⟩ hf hN hZ
theorem pw_return (hd : decode X.2.2.1 pc = .ok (.return_, 1)) (ht : X.2.2.2.2 = none) (hN : M.length = N) (hZ : kv_sum M = Z) (hf : fin none M) : PW l E D cA N Z X d fin pc ls [] M :=
  pw_ret (r := none) ⟨ht, hd⟩ hf hN hZ
theorem pw_iload_n {k : Fin 4} {x : Int32} (hd : decode X.2.2.1 pc = .ok (.iload_n k, 1)) (hl : ls[(k : Nat)]? = some (some (.int x))) (kk : PW l E D cA N Z X d fin (pc + 1) ls (.int x :: st) M) : PW l E D cA N Z X d fin pc ls (st) M :=
  fun _ _ _ _ _ _ _ _ _ _ _ _ _ _ _ _ _ B P => lv_iload_n B.1.1 B.1.2.1 hd rfl (P.2.2.1.2.2.2 _ _ hl) (kk B P)
theorem pw_iload {i : Nat} {x : Int32} (hd : decode X.2.2.1 pc = .ok (.iload i, 2)) (hl : ls[i]? = some (some (.int x))) (kk : PW l E D cA N Z X d fin (pc + 2) ls (.int x :: st) M) : PW l E D cA N Z X d fin pc ls (st) M :=
  fun _ _ _ _ _ _ _ _ _ _ _ _ _ _ _ _ _ B P => lv_iload B.1.1 B.1.2.1 hd (P.2.2.1.2.2.2 _ _ hl) (kk B P)
theorem pw_lload_n {k : Fin 4} {x : Int64} (hd : decode X.2.2.1 pc = .ok (.lload_n k, 1)) (hl : ls[(k : Nat)]? = some (some (.long x))) (kk : PW l E D cA N Z X d fin (pc + 1) ls (.long x :: st) M) : PW l E D cA N Z X d fin pc ls (st) M :=
  fun _ _ _ _ _ _ _ _ _ _ _ _ _ _ _ _ _ B P => lv_lload_n B.1.1 B.1.2.1 hd rfl (P.2.2.1.2.2.2 _ _ hl) (kk B P)
theorem pw_aload_n {k : Fin 4} {x : Nat} (hd : decode X.2.2.1 pc = .ok (.aload_n k, 1)) (hl : ls[(k : Nat)]? = some (some (.ref x))) (kk : PW l E D cA N Z X d fin (pc + 1) ls (.ref x :: st) M) : PW l E D cA N Z X d fin pc ls (st) M :=
  fun _ _ _ _ _ _ _ _ _ _ _ _ _ _ _ _ _ B P => lv_aload_n B.1.1 B.1.2.1 hd rfl (P.2.2.1.2.2.2 _ _ hl) (kk B P)
theorem pw_aload {i : Nat} {x : Nat} (hd : decode X.2.2.1 pc = .ok (.aload i, 2)) (hl : ls[i]? = some (some (.ref x))) (kk : PW l E D cA N Z X d fin (pc + 2) ls (.ref x :: st) M) : PW l E D cA N Z X d fin pc ls (st) M :=
  fun _ _ _ _ _ _ _ _ _ _ _ _ _ _ _ _ _ B P => lv_aload B.1.1 B.1.2.1 hd (P.2.2.1.2.2.2 _ _ hl) (kk B P)
theorem pw_iconst {n : Int} (hd : decode X.2.2.1 pc = .ok (.iconst n, 1)) (kk : PW l E D cA N Z X d fin (pc + 1) ls (.int (Int32.ofInt n) :: st) M) : PW l E D cA N Z X d fin pc ls (st) M :=
  fun _ _ _ _ _ _ _ _ _ _ _ _ _ _ _ _ _ B P => lv_iconst B.1.1 B.1.2.1 hd rfl (kk B P)
theorem pw_iconst_ {n : Int} {v : Int32} (hd : decode X.2.2.1 pc = .ok (.iconst n, 1)) (hv : Int32.ofInt n = v) (kk : PW l E D cA N Z X d fin (pc + 1) ls (.int v :: st) M) : PW l E D cA N Z X d fin pc ls (st) M :=
  fun _ _ _ _ _ _ _ _ _ _ _ _ _ _ _ _ _ B P => lv_iconst B.1.1 B.1.2.1 hd hv (kk B P)
theorem pw_bipush {n : Int} {v : Int32} (hd : decode X.2.2.1 pc = .ok (.bipush n, 2)) (hv : (Int8.ofInt n).toInt32 = v) (kk : PW l E D cA N Z X d fin (pc + 2) ls (.int v :: st) M) : PW l E D cA N Z X d fin pc ls (st) M :=
  fun _ _ _ _ _ _ _ _ _ _ _ _ _ _ _ _ _ B P => lv_bipush B.1.1 B.1.2.1 hd hv (kk B P)
theorem pw_sipush {n : Int} {v : Int32} (hd : decode X.2.2.1 pc = .ok (.sipush n, 3)) (hv : (Int16.ofInt n).toInt32 = v) (kk : PW l E D cA N Z X d fin (pc + 3) ls (.int v :: st) M) : PW l E D cA N Z X d fin pc ls (st) M :=
  fun _ _ _ _ _ _ _ _ _ _ _ _ _ _ _ _ _ B P => lv_sipush B.1.1 B.1.2.1 hd hv (kk B P)
theorem pw_lconst {n : Fin 2} {v : Int64} (hd : decode X.2.2.1 pc = .ok (.lconst n, 1)) (hv : Int64.ofNat (n : Nat) = v) (kk : PW l E D cA N Z X d fin (pc + 1) ls (.long v :: st) M) : PW l E D cA N Z X d fin pc ls (st) M :=
  fun _ _ _ _ _ _ _ _ _ _ _ _ _ _ _ _ _ B P => lv_lconst B.1.1 B.1.2.1 hd hv (kk B P)
theorem pw_iadd {x y : Int32} (hd : decode X.2.2.1 pc = .ok (.iadd, 1)) (kk : PW l E D cA N Z X d fin (pc + 1) ls (.int (x + y) :: st) M) : PW l E D cA N Z X d fin pc ls (.int y :: .int x :: st) M :=
  fun _ _ _ _ _ _ _ _ _ _ _ _ _ _ _ _ _ B P => lv_iadd B.1.1 B.1.2.1 hd (kk B P)
theorem pw_isub {x y : Int32} (hd : decode X.2.2.1 pc = .ok (.isub, 1)) (kk : PW l E D cA N Z X d fin (pc + 1) ls (.int (x - y) :: st) M) : PW l E D cA N Z X d fin pc ls (.int y :: .int x :: st) M :=
  fun _ _ _ _ _ _ _ _ _ _ _ _ _ _ _ _ _ B P => lv_isub B.1.1 B.1.2.1 hd (kk B P)
theorem pw_imul {x y : Int32} (hd : decode X.2.2.1 pc = .ok (.imul, 1)) (kk : PW l E D cA N Z X d fin (pc + 1) ls (.int (x * y) :: st) M) : PW l E D cA N Z X d fin pc ls (.int y :: .int x :: st) M :=
  fun _ _ _ _ _ _ _ _ _ _ _ _ _ _ _ _ _ B P => lv_imul B.1.1 B.1.2.1 hd (kk B P)
theorem pw_iand {x y : Int32} (hd : decode X.2.2.1 pc = .ok (.iand, 1)) (kk : PW l E D cA N Z X d fin (pc + 1) ls (.int (x &&& y) :: st) M) : PW l E D cA N Z X d fin pc ls (.int y :: .int x :: st) M :=
  fun _ _ _ _ _ _ _ _ _ _ _ _ _ _ _ _ _ B P => lv_iand B.1.1 B.1.2.1 hd (kk B P)
theorem pw_ior {x y : Int32} (hd : decode X.2.2.1 pc = .ok (.ior, 1)) (kk : PW l E D cA N Z X d fin (pc + 1) ls (.int (x ||| y) :: st) M) : PW l E D cA N Z X d fin pc ls (.int y :: .int x :: st) M :=
  fun _ _ _ _ _ _ _ _ _ _ _ _ _ _ _ _ _ B P => lv_ior B.1.1 B.1.2.1 hd (kk B P)
theorem pw_ixor {x y : Int32} (hd : decode X.2.2.1 pc = .ok (.ixor, 1)) (kk : PW l E D cA N Z X d fin (pc + 1) ls (.int (x ^^^ y) :: st) M) : PW l E D cA N Z X d fin pc ls (.int y :: .int x :: st) M :=
  fun _ _ _ _ _ _ _ _ _ _ _ _ _ _ _ _ _ B P => lv_ixor B.1.1 B.1.2.1 hd (kk B P)
theorem pw_ishl {x y : Int32} (hd : decode X.2.2.1 pc = .ok (.ishl, 1)) (kk : PW l E D cA N Z X d fin (pc + 1) ls (.int (x <<< (y &&& 31)) :: st) M) : PW l E D cA N Z X d fin pc ls (.int y :: .int x :: st) M :=
  fun _ _ _ _ _ _ _ _ _ _ _ _ _ _ _ _ _ B P => lv_ishl B.1.1 B.1.2.1 hd (kk B P)
theorem pw_ishr {x y : Int32} (hd : decode X.2.2.1 pc = .ok (.ishr, 1)) (kk : PW l E D cA N Z X d fin (pc + 1) ls (.int (x >>> (y &&& 31)) :: st) M) : PW l E D cA N Z X d fin pc ls (.int y :: .int x :: st) M :=
  fun _ _ _ _ _ _ _ _ _ _ _ _ _ _ _ _ _ B P => lv_ishr B.1.1 B.1.2.1 hd (kk B P)
theorem pw_idiv {x y : Int32} (hd : decode X.2.2.1 pc = .ok (.idiv, 1)) (hne : ¬ y = 0) (kk : PW l E D cA N Z X d fin (pc + 1) ls (.int (x / y) :: st) M) : PW l E D cA N Z X d fin pc ls (.int y :: .int x :: st) M :=
  fun _ _ _ _ _ _ _ _ _ _ _ _ _ _ _ _ _ B P => lv_idiv B.1.1 B.1.2.1 hd hne (kk B P)
theorem pw_irem {x y : Int32} (hd : decode X.2.2.1 pc = .ok (.irem, 1)) (hne : ¬ y = 0) (kk : PW l E D cA N Z X d fin (pc + 1) ls (.int (x - x / y * y) :: st) M) : PW l E D cA N Z X d fin pc ls (.int y :: .int x :: st) M :=
  fun _ _ _ _ _ _ _ _ _ _ _ _ _ _ _ _ _ B P => lv_irem B.1.1 B.1.2.1 hd hne (kk B P)
theorem pw_ineg {x : Int32} (hd : decode X.2.2.1 pc = .ok (.ineg, 1)) (kk : PW l E D cA N Z X d fin (pc + 1) ls (.int (-x) :: st) M) : PW l E D cA N Z X d fin pc ls (.int x :: st) M :=
  fun _ _ _ _ _ _ _ _ _ _ _ _ _ _ _ _ _ B P => lv_ineg B.1.1 B.1.2.1 hd (kk B P)
theorem pw_iushr {x y v : Int32} (hd : decode X.2.2.1 pc = .ok (.iushr, 1)) (hv : (x.toUInt32 >>> (y.toUInt32 &&& Int32.toUInt32 31)).toInt32 = v) (kk : PW l E D cA N Z X d fin (pc + 1) ls (.int v :: st) M) : PW l E D cA N Z X d fin pc ls (.int y :: .int x :: st) M :=
  fun _ _ _ _ _ _ _ _ _ _ _ _ _ _ _ _ _ B P => lv_iushr B.1.1 B.1.2.1 hd hv (kk B P)
theorem pw_land {x y : Int64} (hd : decode X.2.2.1 pc = .ok (.land, 1)) (kk : PW l E D cA N Z X d fin (pc + 1) ls (.long (x &&& y) :: st) M) : PW l E D cA N Z X d fin pc ls (.long y :: .long x :: st) M :=
  fun _ _ _ _ _ _ _ _ _ _ _ _ _ _ _ _ _ B P => lv_land B.1.1 B.1.2.1 hd (kk B P)
theorem pw_lor {x y : Int64} (hd : decode X.2.2.1 pc = .ok (.lor, 1)) (kk : PW l E D cA N Z X d fin (pc + 1) ls (.long (x ||| y) :: st) M) : PW l E D cA N Z X d fin pc ls (.long y :: .long x :: st) M :=
  fun _ _ _ _ _ _ _ _ _ _ _ _ _ _ _ _ _ B P => lv_lor B.1.1 B.1.2.1 hd (kk B P)
theorem pw_lshl {x v : Int64} {y : Int32} (hd : decode X.2.2.1 pc = .ok (.lshl, 1)) (hv : x <<< (y.toInt64 &&& 63) = v) (kk : PW l E D cA N Z X d fin (pc + 1) ls (.long v :: st) M) : PW l E D cA N Z X d fin pc ls (.int y :: .long x :: st) M :=
  fun _ _ _ _ _ _ _ _ _ _ _ _ _ _ _ _ _ B P => lv_lshl B.1.1 B.1.2.1 hd hv (kk B P)
theorem pw_lushr {x v : Int64} {y : Int32} (hd : decode X.2.2.1 pc = .ok (.lushr, 1)) (hv : (x.toUInt64 >>> (y.toInt64.toUInt64 &&& Int64.toUInt64 63)).toInt64 = v) (kk : PW l E D cA N Z X d fin (pc + 1) ls (.long v :: st) M) : PW l E D cA N Z X d fin pc ls (.int y :: .long x :: st) M :=
  fun _ _ _ _ _ _ _ _ _ _ _ _ _ _ _ _ _ B P => lv_lushr B.1.1 B.1.2.1 hd hv (kk B P)
theorem pw_l2i {x : Int64} {v : Int32} (hd : decode X.2.2.1 pc = .ok (.l2i, 1)) (hv : x.toInt32 = v) (kk : PW l E D cA N Z X d fin (pc + 1) ls (.int v :: st) M) : PW l E D cA N Z X d fin pc ls (.long x :: st) M :=
  fun _ _ _ _ _ _ _ _ _ _ _ _ _ _ _ _ _ B P => lv_l2i B.1.1 B.1.2.1 hd hv (kk B P)
theorem pw_i2l {x : Int32} {v : Int64} (hd : decode X.2.2.1 pc = .ok (.i2l, 1)) (hv : x.toInt64 = v) (kk : PW l E D cA N Z X d fin (pc + 1) ls (.long v :: st) M) : PW l E D cA N Z X d fin pc ls (.int x :: st) M :=
  fun _ _ _ _ _ _ _ _ _ _ _ _ _ _ _ _ _ B P => lv_i2l B.1.1 B.1.2.1 hd hv (kk B P)
theorem pw_i2c {x : Int32} {v : Int32} (hd : decode X.2.2.1 pc = .ok (.i2c, 1)) (hv : (x.toUInt32 % 65536).toInt32 = v) (kk : PW l E D cA N Z X d fin (pc + 1) ls (.int v :: st) M) : PW l E D cA N Z X d fin pc ls (.int x :: st) M :=
  fun _ _ _ _ _ _ _ _ _ _ _ _ _ _ _ _ _ B P => lv_i2c B.1.1 B.1.2.1 hd hv (kk B P)
theorem pw_lcmp {x y : Int64} (hd : decode X.2.2.1 pc = .ok (.lcmp, 1)) (kk : PW l E D cA N Z X d fin (pc + 1) ls (.int (lg_cmp x y) :: st) M) : PW l E D cA N Z X d fin pc ls (.long y :: .long x :: st) M :=
  fun _ _ _ _ _ _ _ _ _ _ _ _ _ _ _ _ _ B P => W.lcmp B.1.1 B.1.2.1 hd (kk B P)
theorem pw_dup {v : Value} (hd : decode X.2.2.1 pc = .ok (.dup, 1)) (hv : v.category = 1) (kk : PW l E D cA N Z X d fin (pc + 1) ls (v :: v :: st) M) : PW l E D cA N Z X d fin pc ls (v :: st) M :=
  fun _ _ _ _ _ _ _ _ _ _ _ _ _ _ _ _ _ B P => lv_dup B.1.1 B.1.2.1 hd (by rw [kv_cat]; exact hv) (kk B P)
theorem pw_dup2 {v w : Value} (hd : decode X.2.2.1 pc = .ok (.dup2, 1)) (hv : v.category = 1) (hw : w.category = 1) (kk : PW l E D cA N Z X d fin (pc + 1) ls (v :: w :: v :: w :: st) M) : PW l E D cA N Z X d fin pc ls (v :: w :: st) M :=
  fun _ _ _ _ _ _ _ _ _ _ _ _ _ _ _ _ _ B P => lv_dup2_11 B.1.1 B.1.2.1 hd (by rw [kv_cat]; exact hv) (by rw [kv_cat]; exact hw) (kk B P)
theorem pw_goto {off : Int} {tgt : Nat} (hd : decode X.2.2.1 pc = .ok (.goto off, 3)) (ht : (pc : Int) + off = (tgt : Int)) (kk : PW l E D cA N Z X d fin (tgt) ls (st) M) : PW l E D cA N Z X d fin pc ls (st) M :=
  fun _ _ _ _ _ _ _ _ _ _ _ _ _ _ _ _ _ B P => lv_goto B.1.1 B.1.2.1 hd ht (kk B P)
theorem pw_ldc {index : Nat} {v : Int32} (hd : decode X.2.2.1 pc = .ok (.ldc index, 2)) (hw : Cond.constant X.1 index v ∈ TB) (kk : PW l E D cA N Z X d fin (pc + 2) ls (.int v :: st) M) : PW l E D cA N Z X d fin pc ls (st) M :=
  fun _ _ _ _ _ _ _ _ _ _ _ _ _ _ _ _ _ B P => lv_ldc B.1.1 B.1.2.1 B.1.2.2.2.1 (B.1.2.2.2.2.1 _ hw) hd (kk B P)
theorem pw_ldc_w {index : Nat} {v : Int32} (hd : decode X.2.2.1 pc = .ok (.ldc_w index, 3)) (hw : Cond.constant X.1 index v ∈ TB) (kk : PW l E D cA N Z X d fin (pc + 3) ls (.int v :: st) M) : PW l E D cA N Z X d fin pc ls (st) M :=
  fun _ _ _ _ _ _ _ _ _ _ _ _ _ _ _ _ _ B P => lv_ldcw B.1.1 B.1.2.1 B.1.2.2.2.1 (B.1.2.2.2.2.1 _ hw) hd (kk B P)
theorem pw_ldc2_w {index : Nat} {v : Int64} (hd : decode X.2.2.1 pc = .ok (.ldc2_w index, 3)) (hw : Cond.constantLong X.1 index v ∈ TB) (kk : PW l E D cA N Z X d fin (pc + 3) ls (.long v :: st) M) : PW l E D cA N Z X d fin pc ls (st) M :=
  fun _ _ _ _ _ _ _ _ _ _ _ _ _ _ _ _ _ B P => lv_ldc2 B.1.1 B.1.2.1 B.1.2.2.2.1 (B.1.2.2.2.2.1 _ hw) hd (kk B P)
theorem pw_icmp_eq {x y : Int32} {off : Int} {tgt : Nat} (hd : decode X.2.2.1 pc = .ok (.if_icmp .eq off, 3)) (ht : (pc : Int) + off = (tgt : Int)) (k1 : x = y → PW l E D cA N Z X d fin tgt ls st M) (k2 : ¬ (x = y) → PW l E D cA N Z X d fin (pc + 3) ls st M) : PW l E D cA N Z X d fin pc ls (.int y :: .int x :: st) M :=
  fun _ _ _ _ _ _ _ _ _ _ _ _ _ _ _ _ _ B P => lv_icmp_eq B.1.1 B.1.2.1 hd ht (fun h => k1 h B P) (fun h => k2 h B P)
theorem pw_if_eq {x : Int32} {off : Int} {tgt : Nat} (hd : decode X.2.2.1 pc = .ok (.ifCond .eq off, 3)) (ht : (pc : Int) + off = (tgt : Int)) (k1 : x = 0 → PW l E D cA N Z X d fin tgt ls st M) (k2 : ¬ (x = 0) → PW l E D cA N Z X d fin (pc + 3) ls st M) : PW l E D cA N Z X d fin pc ls (.int x :: st) M :=
  fun _ _ _ _ _ _ _ _ _ _ _ _ _ _ _ _ _ B P => lv_if_eq B.1.1 B.1.2.1 hd ht (fun h => k1 h B P) (fun h => k2 h B P)
theorem pw_icmp_ne {x y : Int32} {off : Int} {tgt : Nat} (hd : decode X.2.2.1 pc = .ok (.if_icmp .ne off, 3)) (ht : (pc : Int) + off = (tgt : Int)) (k1 : x ≠ y → PW l E D cA N Z X d fin tgt ls st M) (k2 : x = y → PW l E D cA N Z X d fin (pc + 3) ls st M) : PW l E D cA N Z X d fin pc ls (.int y :: .int x :: st) M :=
  fun _ _ _ _ _ _ _ _ _ _ _ _ _ _ _ _ _ B P => lv_icmp_ne B.1.1 B.1.2.1 hd ht (fun h => k1 h B P) (fun h => k2 h B P)
theorem pw_if_ne {x : Int32} {off : Int} {tgt : Nat} (hd : decode X.2.2.1 pc = .ok (.ifCond .ne off, 3)) (ht : (pc : Int) + off = (tgt : Int)) (k1 : x ≠ 0 → PW l E D cA N Z X d fin tgt ls st M) (k2 : x = 0 → PW l E D cA N Z X d fin (pc + 3) ls st M) : PW l E D cA N Z X d fin pc ls (.int x :: st) M :=
  fun _ _ _ _ _ _ _ _ _ _ _ _ _ _ _ _ _ B P => lv_if_ne B.1.1 B.1.2.1 hd ht (fun h => k1 h B P) (fun h => k2 h B P)
theorem pw_icmp_lt {x y : Int32} {off : Int} {tgt : Nat} (hd : decode X.2.2.1 pc = .ok (.if_icmp .lt off, 3)) (ht : (pc : Int) + off = (tgt : Int)) (k1 : x < y → PW l E D cA N Z X d fin tgt ls st M) (k2 : ¬ (x < y) → PW l E D cA N Z X d fin (pc + 3) ls st M) : PW l E D cA N Z X d fin pc ls (.int y :: .int x :: st) M :=
  fun _ _ _ _ _ _ _ _ _ _ _ _ _ _ _ _ _ B P => lv_icmp_lt B.1.1 B.1.2.1 hd ht (fun h => k1 h B P) (fun h => k2 h B P)
theorem pw_if_lt {x : Int32} {off : Int} {tgt : Nat} (hd : decode X.2.2.1 pc = .ok (.ifCond .lt off, 3)) (ht : (pc : Int) + off = (tgt : Int)) (k1 : x < 0 → PW l E D cA N Z X d fin tgt ls st M) (k2 : ¬ (x < 0) → PW l E D cA N Z X d fin (pc + 3) ls st M) : PW l E D cA N Z X d fin pc ls (.int x :: st) M :=
  fun _ _ _ _ _ _ _ _ _ _ _ _ _ _ _ _ _ B P => lv_if_lt B.1.1 B.1.2.1 hd ht (fun h => k1 h B P) (fun h => k2 h B P)
theorem pw_icmp_ge {x y : Int32} {off : Int} {tgt : Nat} (hd : decode X.2.2.1 pc = .ok (.if_icmp .ge off, 3)) (ht : (pc : Int) + off = (tgt : Int)) (k1 : y ≤ x → PW l E D cA N Z X d fin tgt ls st M) (k2 : ¬ (y ≤ x) → PW l E D cA N Z X d fin (pc + 3) ls st M) : PW l E D cA N Z X d fin pc ls (.int y :: .int x :: st) M :=
  fun _ _ _ _ _ _ _ _ _ _ _ _ _ _ _ _ _ B P => lv_icmp_ge B.1.1 B.1.2.1 hd ht (fun h => k1 h B P) (fun h => k2 h B P)
theorem pw_if_ge {x : Int32} {off : Int} {tgt : Nat} (hd : decode X.2.2.1 pc = .ok (.ifCond .ge off, 3)) (ht : (pc : Int) + off = (tgt : Int)) (k1 : 0 ≤ x → PW l E D cA N Z X d fin tgt ls st M) (k2 : ¬ (0 ≤ x) → PW l E D cA N Z X d fin (pc + 3) ls st M) : PW l E D cA N Z X d fin pc ls (.int x :: st) M :=
  fun _ _ _ _ _ _ _ _ _ _ _ _ _ _ _ _ _ B P => lv_if_ge B.1.1 B.1.2.1 hd ht (fun h => k1 h B P) (fun h => k2 h B P)
theorem pw_icmp_gt {x y : Int32} {off : Int} {tgt : Nat} (hd : decode X.2.2.1 pc = .ok (.if_icmp .gt off, 3)) (ht : (pc : Int) + off = (tgt : Int)) (k1 : y < x → PW l E D cA N Z X d fin tgt ls st M) (k2 : ¬ (y < x) → PW l E D cA N Z X d fin (pc + 3) ls st M) : PW l E D cA N Z X d fin pc ls (.int y :: .int x :: st) M :=
  fun _ _ _ _ _ _ _ _ _ _ _ _ _ _ _ _ _ B P => lv_icmp_gt B.1.1 B.1.2.1 hd ht (fun h => k1 h B P) (fun h => k2 h B P)
theorem pw_if_gt {x : Int32} {off : Int} {tgt : Nat} (hd : decode X.2.2.1 pc = .ok (.ifCond .gt off, 3)) (ht : (pc : Int) + off = (tgt : Int)) (k1 : 0 < x → PW l E D cA N Z X d fin tgt ls st M) (k2 : ¬ (0 < x) → PW l E D cA N Z X d fin (pc + 3) ls st M) : PW l E D cA N Z X d fin pc ls (.int x :: st) M :=
  fun _ _ _ _ _ _ _ _ _ _ _ _ _ _ _ _ _ B P => lv_if_gt B.1.1 B.1.2.1 hd ht (fun h => k1 h B P) (fun h => k2 h B P)
theorem pw_icmp_le {x y : Int32} {off : Int} {tgt : Nat} (hd : decode X.2.2.1 pc = .ok (.if_icmp .le off, 3)) (ht : (pc : Int) + off = (tgt : Int)) (k1 : x ≤ y → PW l E D cA N Z X d fin tgt ls st M) (k2 : ¬ (x ≤ y) → PW l E D cA N Z X d fin (pc + 3) ls st M) : PW l E D cA N Z X d fin pc ls (.int y :: .int x :: st) M :=
  fun _ _ _ _ _ _ _ _ _ _ _ _ _ _ _ _ _ B P => lv_icmp_le B.1.1 B.1.2.1 hd ht (fun h => k1 h B P) (fun h => k2 h B P)
theorem pw_if_le {x : Int32} {off : Int} {tgt : Nat} (hd : decode X.2.2.1 pc = .ok (.ifCond .le off, 3)) (ht : (pc : Int) + off = (tgt : Int)) (k1 : x ≤ 0 → PW l E D cA N Z X d fin tgt ls st M) (k2 : ¬ (x ≤ 0) → PW l E D cA N Z X d fin (pc + 3) ls st M) : PW l E D cA N Z X d fin pc ls (.int x :: st) M :=
  fun _ _ _ _ _ _ _ _ _ _ _ _ _ _ _ _ _ B P => lv_if_le B.1.1 B.1.2.1 hd ht (fun h => k1 h B P) (fun h => k2 h B P)
theorem pw_switchIn {dflt lo hi : Int} {offs : Array Int} {len : Nat} {x : Int32} {off : Int} {tgt : Nat} (hd : decode X.2.2.1 pc = .ok (.tableswitch dflt lo hi offs, len)) (h1 : ¬ x.toInt < lo) (h2 : ¬ hi < x.toInt) (ho : offs[(x.toInt - lo).toNat]? = some off) (ht : (pc : Int) + off = (tgt : Int)) (kk : PW l E D cA N Z X d fin tgt ls st M) : PW l E D cA N Z X d fin pc ls (.int x :: st) M :=
  fun _ _ _ _ _ _ _ _ _ _ _ _ _ _ _ _ _ B P => lv_tableIn B.1.1 B.1.2.1 hd h1 h2 ho ht (kk B P)
theorem pw_switchOut {dflt lo hi : Int} {offs : Array Int} {len : Nat} {x : Int32} {tgt : Nat} (hd : decode X.2.2.1 pc = .ok (.tableswitch dflt lo hi offs, len)) (h : x.toInt < lo ∨ hi < x.toInt) (ht : (pc : Int) + dflt = (tgt : Int)) (kk : PW l E D cA N Z X d fin tgt ls st M) : PW l E D cA N Z X d fin pc ls (.int x :: st) M :=
  fun _ _ _ _ _ _ _ _ _ _ _ _ _ _ _ _ _ B P => lv_tableOut B.1.1 B.1.2.1 hd h ht (kk B P)
theorem kv_P.lo {s : State} {n0 z0 : Nat} {H : Heap} {locs : List Loc} {cells slots : Nat} {la la' : Array Slot} {ls' : List (Option Value)} (P : kv_P E D cA X s n0 z0 ls M H locs cells slots la) (h : kv_L E X.2.2.2.1 la' ls') : kv_P E D cA X s n0 z0 ls' M H locs cells slots la' :=
  ⟨P.1, P.2.1, h, P.2.2.2⟩
theorem pw_istore_n {k : Fin 4} {x : Int32} (hd : decode X.2.2.1 pc = .ok (.istore_n k, 1)) (hok : kv_ok ls (k : Nat) = true) (hi : (k : Nat) < X.2.2.2.1) (kk : PW l E D cA N Z X d fin (pc + 1) (ls.set (k : Nat) (some (.int x))) st M) : PW l E D cA N Z X d fin pc ls (.int x :: st) M :=
  fun _ _ _ _ _ _ _ _ _ _ _ _ _ _ _ _ _ B P => lv_istore_n B.1.1 B.1.2.1 hd rfl P.2.2.1.has hi rfl (fun la' h' => kk B (P.lo (P.2.2.1.st1 (v := .int x) hok hi rfl h')))
theorem pw_astore_n {k : Fin 4} {x : Nat} (hd : decode X.2.2.1 pc = .ok (.astore_n k, 1)) (hok : kv_ok ls (k : Nat) = true) (hi : (k : Nat) < X.2.2.2.1) (kk : PW l E D cA N Z X d fin (pc + 1) (ls.set (k : Nat) (some (.ref x))) st M) : PW l E D cA N Z X d fin pc ls (.ref x :: st) M :=
  fun _ _ _ _ _ _ _ _ _ _ _ _ _ _ _ _ _ B P => lv_astore_n B.1.1 B.1.2.1 hd rfl P.2.2.1.has hi rfl (fun la' h' => kk B (P.lo (P.2.2.1.st1 (v := .ref x) hok hi rfl h')))
theorem pw_istore {i : Nat} {x : Int32} (hd : decode X.2.2.1 pc = .ok (.istore i, 2)) (hok : kv_ok ls i = true) (hi : i < X.2.2.2.1) (kk : PW l E D cA N Z X d fin (pc + 2) (ls.set i (some (.int x))) st M) : PW l E D cA N Z X d fin pc ls (.int x :: st) M :=
  fun _ _ _ _ _ _ _ _ _ _ _ _ _ _ _ _ _ B P => lv_istore B.1.1 B.1.2.1 hd P.2.2.1.has hi rfl (fun la' h' => kk B (P.lo (P.2.2.1.st1 (v := .int x) hok hi rfl h')))
theorem pw_lstore_n {k : Fin 4} {x : Int64} (hd : decode X.2.2.1 pc = .ok (.lstore_n k, 1)) (hok : kv_ok ls (k : Nat) = true) (hi : (k : Nat) + 1 < X.2.2.2.1) (kk : PW l E D cA N Z X d fin (pc + 1) ((ls.set (k : Nat) (some (.long x))).set ((k : Nat) + 1) none) st M) : PW l E D cA N Z X d fin pc ls (.long x :: st) M :=
  fun _ _ _ _ _ _ _ _ _ _ _ _ _ _ _ _ _ B P => lv_lstore_n B.1.1 B.1.2.1 hd rfl P.2.2.1.has hi rfl (fun la' h' => kk B (P.lo (P.2.2.1.st2 (v := .long x) hok hi h')))
theorem pw_iinc {i : Nat} {n : Int} {x v : Int32} (hd : decode X.2.2.1 pc = .ok (.iinc i n, 3)) (hl : ls[i]? = some (some (.int x))) (hv : x + Int32.ofInt n = v) (hok : kv_ok ls i = true) (kk : PW l E D cA N Z X d fin (pc + 3) (ls.set i (some (.int v))) st M) : PW l E D cA N Z X d fin pc ls st M := by
  intro p e R s m args below meth c Q n0 z0 H locs cells slots la B P
  obtain ⟨j, hj⟩ := List.getElem?_of_mem ((kv_al_in (q := (i, Value.int x)) (E := E) (ls := ls)).mpr ⟨.int x, hl, rfl⟩)
  have hi : i < X.2.2.2.1 := by have := (List.getElem?_eq_some_iff.mp hl).1; have := P.2.2.1.2.2.1; omega
  exact lv_iinc B.1.1 B.1.2.1 hd P.2.2.1.has hj hv hi rfl (fun la' h' => kk B (P.lo (P.2.2.1.st1 (v := .int v) hok hi rfl h')))
end PWR
end
section
/-! rows with memory -/
def kv_f (own : String) (idx ci k : Nat) : Prop := ∃ (C : String) (T : u_T) (N : Nat) (ty : Nat → FieldType), vwCl[ci]? = some (C, T, N) ∧ k < N ∧ Cond.fieldLink own idx (T k).1 (T k).2.1 (T k).2.2.1 ∈ TB ∧ (∀ w ∈ u_ws C T N, w ∈ TB) ∧ (∀ j, j < N → parseFieldDescriptor (T j).2.2.1 = some (ty j)) ∧ (∀ a, a < N → ∀ b, b < N → a ≠ b → (T a).2.1 ≠ (T b).2.1)
/-- what may be stored in a field: its type takes the value as it is -/
def kv_fit (ci k : Nat) (v : Value) : Prop := ∀ q : vw_C, vwCl[ci]? = some q → ∃ ty, parseFieldDescriptor (q.2.1 k).2.2.1 = some ty ∧ narrow ty v = v ∧ fits ty v = true
section PWM
variable {l : Launch} {E : EV} {D : va_G} {cA : Nat → ClassId} {N Z : Nat} {X : MT} {d : Nat} {fin : Option Value → List PE → Prop} {pc : Nat} {ls : List (Option Value)} {st : List Value} {M : List PE}
theorem kv_c_obj {ci : Nat} {fs : List Value} (h : ci < 100) : kv_c E cA (ci, fs) = .inr (ci, fs.map (kv_v E)) := by simp [kv_c, h]
theorem kv_c_int {t : Nat} {xs : List Value} (h : t < 3) : kv_c E cA (100 + t, xs) = .inl (cA t, xs.length, .inl (fun j => kv_io xs[j]?)) := by
  unfold kv_c
  rw [if_neg (by show ¬ 100 + t < 100; omega), if_neg (by show ¬ 103 ≤ 100 + t; omega)]
  show (Sum.inl (cA (100 + t - 100), _) : va_E) = _
  rw [Nat.add_sub_cancel_left]
theorem kv_c_ref {t : Nat} {xs : List Value} (h : 3 ≤ t) : kv_c E cA (100 + t, xs) = .inl (cA t, xs.length, .inr (.inr (.inr (.inr (fun j => kv_ro E xs[j]?))))) := by
  unfold kv_c
  rw [if_neg (by show ¬ 100 + t < 100; omega), if_pos (by show 103 ≤ 100 + t; omega)]
  show (Sum.inl (cA (100 + t - 100), _) : va_E) = _
  rw [Nat.add_sub_cancel_left]
theorem kv_in {i : Int32} {xs : List Value} {v : Value} (h0 : ¬ i < 0) (hv : xs[i.toNatClampNeg]? = some v) : vp_in i xs.length := by
  have := (List.getElem?_eq_some_iff.mp hv).1
  rintro (h | h)
  · exact h0 h
  · omega
theorem kv_inl {i : Int32} {n : Nat} (h0 : ¬ i < 0) (h1 : i.toNatClampNeg < n) : vp_in i n := by
  rintro (h | h)
  · exact h0 h
  · omega
theorem pw_getf {i idx ci k : Nat} {fs : List Value} {v : Value} (hd : decode X.2.2.1 pc = .ok (.getfield idx, 3)) (hf : kv_f X.1 idx ci k) (hci : ci < 100) (hM : M[i]? = some (ci, fs)) (hv : fs[k]? = some v) (kk : PW l E D cA N Z X d fin (pc + 3) ls (v :: st) M) (hi : i < 1000 := by omega) : PW l E D cA N Z X d fin pc ls (.ref i :: st) M := by
  intro p e R s m args below meth c Q n0 z0 H locs cells slots la B P
  obtain ⟨C, T, n, ty, hc, hk, hlink, hin, -, -⟩ := hf
  have hw := kv_w_at (E := E) (cA := cA) hM
  rw [kv_c_obj hci] at hw
  exact va_get B.1.1 B.1.2.1 B.1.2.2.2.2.1 hin B.1.2.2.2.1 B.2.1.1 P.1.2 i hw hc k hk (B.1.2.2.2.2.1 _ hlink) (fun _ h => h) (by rw [List.getElem?_map, hv]; rfl) hd (kk B P)
theorem kv_P.set {s : State} {n0 z0 : Nat} {H H1 : Heap} {locs locs1 : List Loc} {cells slots : Nat} {la : Array Slot} {i : Nat} {e0 e1 : PE} (P : kv_P E D cA X s n0 z0 ls M H locs cells slots la) (hM : M[i]? = some e0) (hl : e1.2.length = e0.2.length)
    (hP : va_P D vwCl ((kv_w E cA M).set i (kv_adr E i, kv_c E cA e1)) H1) (hS : va_S (kv_A E) s.heap H1 locs1) : kv_P E D cA X s n0 z0 ls (M.set i e1) H1 locs1 cells slots la :=
  ⟨⟨by rw [List.length_set]; exact P.1.1, by rw [kv_w_set]; exact hP⟩, hS, P.2.2.1, by rw [List.length_set]; exact P.2.2.2.1, by rw [kv_sum_set hM hl]; exact P.2.2.2.2⟩
theorem pw_putf {i idx ci k : Nat} {fs : List Value} {v : Value} (hd : decode X.2.2.1 pc = .ok (.putfield idx, 3)) (hf : kv_f X.1 idx ci k) (hci : ci < 100) (hM : M[i]? = some (ci, fs)) (hk2 : k < fs.length) (hfit : kv_fit ci k (kv_v E v)) (hfin : ∀ q : vw_C, vwCl[ci]? = some q → (q.2.1 k).2.2.2 = false ∨ ((q.2.1 k).2.2.2 = true ∧ X.2.1.name = "<init>" ∧ (q.2.1 k).1 = X.1)) (kk : PW l E D cA N Z X d fin (pc + 3) ls st (M.set i (ci, fs.set k v))) : PW l E D cA N Z X d fin pc ls (v :: .ref i :: st) M := by
  intro p e R s m args below meth c Q n0 z0 H locs cells slots la B P
  obtain ⟨C, T, n, ty, hc, hk, hlink, hin, hty, hnm⟩ := hf
  obtain ⟨ty9, hd9, hn9, hf9⟩ := hfit _ hc
  have hw := kv_w_at (E := E) (cA := cA) hM
  rw [kv_c_obj hci] at hw
  have go : ∀ (H1 : Heap) (locs1 : List Loc), va_P D vwCl ((kv_w E cA M).set i (kv_adr E i, .inr (ci, (fs.map (kv_v E)).set k (kv_v E v)))) H1 → va_D (kv_A E) ((kv_w E cA M).set i (kv_adr E i, .inr (ci, (fs.map (kv_v E)).set k (kv_v E v)))) → va_S (kv_A E) s.heap H1 locs1 → W p l e R s m args below meth c H1 locs1 cells slots Q (F0 m (pc + 3) la (st.map (kv_v E))) := by
    intro H1 locs1 hP _ hS
    refine kk B (P.set (e1 := (ci, fs.set k v)) hM (by simp) ?_ hS)
    rw [kv_c_obj hci, List.map_set]
    exact hP
  rcases hfin _ hc with h0 | ⟨h0, h1, h2⟩
  · exact va_put B.1.1 B.1.2.1 B.1.2.2.2.2.1 hin ty hty hnm B.1.2.2.2.1 B.2.1.1 P.1.2 P.1.apart P.2.1 i hw hc k hk (B.1.2.2.2.2.1 _ hlink) (fun _ h => h) h0 hd9 hn9 hf9 (by rw [List.length_map]; exact hk2) hd go
  · exact va_putF B.1.1 B.1.2.1 B.1.2.2.2.2.1 hin ty hty hnm B.1.2.2.2.1 B.2.1.1 P.1.2 P.1.apart P.2.1 i hw hc k hk (B.1.2.2.2.2.1 _ hlink) (fun _ h => h) h0 (B.1.2.2.2.2.2 h1) h2 hd9 hn9 hf9 (by rw [List.length_map]; exact hk2) hd go
/-! arrays -/
theorem kv_io_set {xs : List Value} {k : Nat} {x : Int32} (h : k < xs.length) : (fun j => kv_io (xs.set k (.int x))[j]?) = upd (fun j => kv_io xs[j]?) k x := by
  funext j
  rw [List.getElem?_set]
  by_cases e : k = j
  · subst e
    simp [h, upd, kv_io]
  · have e2 : ¬ j = k := fun q => e q.symm
    simp [e, e2, upd]
theorem kv_ro_set {xs : List Value} {k r : Nat} (h : k < xs.length) : (fun j => kv_ro E (xs.set k (.ref r))[j]?) = va_up (fun j => kv_ro E xs[j]?) k (some (kv_adr E r)) := by
  funext j
  rw [List.getElem?_set]
  by_cases e : k = j
  · subst e
    simp [h, va_up, kv_ro]
  · have e2 : ¬ j = k := fun q => e q.symm
    simp [e, e2, va_up]
theorem pw_iaload {i : Nat} {ix x : Int32} {xs : List Value} (hd : decode X.2.2.1 pc = .ok (.iaload, 1)) (hM : M[i]? = some (100, xs)) (h0 : ¬ ix < 0) (hv : xs[ix.toNatClampNeg]? = some (.int x)) (kk : PW l E D cA N Z X d fin (pc + 1) ls (.int x :: st) M) : PW l E D cA N Z X d fin pc ls (.int ix :: .ref i :: st) M := by
  intro p e R s m args below meth c Q n0 z0 H locs cells slots la B P
  have hw := kv_w_at (E := E) (cA := cA) hM
  rw [show (100 : Nat) = 100 + 0 from rfl, kv_c_int (by decide)] at hw
  refine va_iald B.1.1 B.1.2.1 B.2.1.1 P.1.2 i 0 hw rfl (kv_in h0 hv) hd ?_
  have hx : kv_io xs[ix.toNatClampNeg]? = x := by rw [hv]; rfl
  rw [hx]
  exact kk B P
theorem pw_caload {i : Nat} {ix x : Int32} {xs : List Value} (hd : decode X.2.2.1 pc = .ok (.caload, 1)) (hM : M[i]? = some (101, xs)) (h0 : ¬ ix < 0) (hv : xs[ix.toNatClampNeg]? = some (.int x)) (kk : PW l E D cA N Z X d fin (pc + 1) ls (.int x :: st) M) : PW l E D cA N Z X d fin pc ls (.int ix :: .ref i :: st) M := by
  intro p e R s m args below meth c Q n0 z0 H locs cells slots la B P
  have hw := kv_w_at (E := E) (cA := cA) hM
  rw [show (101 : Nat) = 100 + 1 from rfl, kv_c_int (by decide)] at hw
  refine va_cald B.1.1 B.1.2.1 B.2.1.1 P.1.2 i 1 hw rfl (kv_in h0 hv) hd ?_
  have hx : kv_io xs[ix.toNatClampNeg]? = x := by rw [hv]; rfl
  rw [hx]
  exact kk B P
theorem pw_baload {i : Nat} {ix x : Int32} {xs : List Value} (hd : decode X.2.2.1 pc = .ok (.baload, 1)) (hM : M[i]? = some (102, xs)) (h0 : ¬ ix < 0) (hv : xs[ix.toNatClampNeg]? = some (.int x)) (kk : PW l E D cA N Z X d fin (pc + 1) ls (.int x :: st) M) : PW l E D cA N Z X d fin pc ls (.int ix :: .ref i :: st) M := by
  intro p e R s m args below meth c Q n0 z0 H locs cells slots la B P
  have hw := kv_w_at (E := E) (cA := cA) hM
  rw [show (102 : Nat) = 100 + 2 from rfl, kv_c_int (by decide)] at hw
  refine va_zald B.1.1 B.1.2.1 B.2.1.1 P.1.2 i 2 hw rfl (kv_in h0 hv) hd ?_
  have hx : kv_io xs[ix.toNatClampNeg]? = x := by rw [hv]; rfl
  rw [hx]
  exact kk B P
theorem pw_iastore {i : Nat} {ix x : Int32} {xs : List Value} (hd : decode X.2.2.1 pc = .ok (.iastore, 1)) (hM : M[i]? = some (100, xs)) (h0 : ¬ ix < 0) (h1 : ix.toNatClampNeg < xs.length) (kk : PW l E D cA N Z X d fin (pc + 1) ls st (M.set i (100, xs.set ix.toNatClampNeg (.int x)))) : PW l E D cA N Z X d fin pc ls (.int x :: .int ix :: .ref i :: st) M := by
  intro p e R s m args below meth c Q n0 z0 H locs cells slots la B P
  have hw := kv_w_at (E := E) (cA := cA) hM
  rw [show (100 : Nat) = 100 + 0 from rfl, kv_c_int (by decide)] at hw
  refine va_iast B.1.1 B.1.2.1 B.2.1.1 P.1.2 P.1.apart P.2.1 i 0 hw rfl (kv_inl h0 h1) hd (fun H1 locs1 hP _ hS => kk B (P.set (e1 := (100, xs.set ix.toNatClampNeg (.int x))) hM (by simp) ?_ hS))
  rw [show (100 : Nat) = 100 + 0 from rfl, kv_c_int (by decide), kv_io_set h1, List.length_set]
  exact hP
theorem pw_castore {i : Nat} {ix x : Int32} {xs : List Value} (hd : decode X.2.2.1 pc = .ok (.castore, 1)) (hM : M[i]? = some (101, xs)) (h0 : ¬ ix < 0) (h1 : ix.toNatClampNeg < xs.length) (kk : PW l E D cA N Z X d fin (pc + 1) ls st (M.set i (101, xs.set ix.toNatClampNeg (.int (vp_nar .char x))))) : PW l E D cA N Z X d fin pc ls (.int x :: .int ix :: .ref i :: st) M := by
  intro p e R s m args below meth c Q n0 z0 H locs cells slots la B P
  have hw := kv_w_at (E := E) (cA := cA) hM
  rw [show (101 : Nat) = 100 + 1 from rfl, kv_c_int (by decide)] at hw
  refine va_cast B.1.1 B.1.2.1 B.2.1.1 P.1.2 P.1.apart P.2.1 i 1 hw rfl (kv_inl h0 h1) hd (fun H1 locs1 hP _ hS => kk B (P.set (e1 := (101, xs.set ix.toNatClampNeg (.int (vp_nar .char x)))) hM (by simp) ?_ hS))
  rw [show (101 : Nat) = 100 + 1 from rfl, kv_c_int (by decide), kv_io_set h1, List.length_set]
  exact hP
theorem pw_bastore {i : Nat} {ix x : Int32} {xs : List Value} (hd : decode X.2.2.1 pc = .ok (.bastore, 1)) (hM : M[i]? = some (102, xs)) (h0 : ¬ ix < 0) (h1 : ix.toNatClampNeg < xs.length) (kk : PW l E D cA N Z X d fin (pc + 1) ls st (M.set i (102, xs.set ix.toNatClampNeg (.int (vp_nar .boolean x))))) : PW l E D cA N Z X d fin pc ls (.int x :: .int ix :: .ref i :: st) M := by
  intro p e R s m args below meth c Q n0 z0 H locs cells slots la B P
  have hw := kv_w_at (E := E) (cA := cA) hM
  rw [show (102 : Nat) = 100 + 2 from rfl, kv_c_int (by decide)] at hw
  refine va_zast B.1.1 B.1.2.1 B.2.1.1 P.1.2 P.1.apart P.2.1 i 2 hw rfl (kv_inl h0 h1) hd (fun H1 locs1 hP _ hS => kk B (P.set (e1 := (102, xs.set ix.toNatClampNeg (.int (vp_nar .boolean x)))) hM (by simp) ?_ hS))
  rw [show (102 : Nat) = 100 + 2 from rfl, kv_c_int (by decide), kv_io_set h1, List.length_set]
  exact hP
theorem pw_aaload {i t r : Nat} {ix : Int32} {xs : List Value} (hd : decode X.2.2.1 pc = .ok (.aaload, 1)) (hM : M[i]? = some (100 + t, xs)) (ht : t = 3 ∨ t = 4 ∨ t = 5) (h0 : ¬ ix < 0) (hv : xs[ix.toNatClampNeg]? = some (.ref r)) (kk : PW l E D cA N Z X d fin (pc + 1) ls (.ref r :: st) M) : PW l E D cA N Z X d fin pc ls (.int ix :: .ref i :: st) M := by
  intro p e R s m args below meth c Q n0 z0 H locs cells slots la B P
  have hw := kv_w_at (E := E) (cA := cA) hM
  have h3 : 3 ≤ t := by omega
  rw [kv_c_ref h3] at hw
  have hlt := (List.getElem?_eq_some_iff.mp hv).1
  obtain ⟨ty, hty, hr⟩ : ∃ ty, (kv_tys cA)[t]? = some (cA t, ty) ∧ ty.isReference = true := by
    rcases ht with rfl | rfl | rfl
    · exact ⟨_, rfl, rfl⟩
    · exact ⟨_, rfl, rfl⟩
    · exact ⟨_, rfl, rfl⟩
  have hin := kv_in h0 hv
  refine W.aald (v := .ref (kv_adr E r)) (ty := ty) B.1.1 B.1.2.1 (P.1.2 i _ hw) ((B.2.1.1.2 t _ hty).1 xs.length (fun j => va_rf (kv_ro E xs[j]?))) hr (fun q => by cases q) (by show ¬ (ix < 0 ∨ (arrV _ _ _).slots.size ≤ _); rw [arrV_size]; exact hin) (by show (arrV _ _ _).slots[_]? = _; rw [arrV_read _ _ hlt]; show some (va_rf (kv_ro E xs[ix.toNatClampNeg]?)) = _; rw [hv]; rfl) rfl rfl hd ?_
  exact kk B P
theorem pw_aastore {i ci r : Nat} {t : Nat} {q : vw_C} {ix : Int32} {xs fs : List Value} (hd : decode X.2.2.1 pc = .ok (.aastore, 1)) (hM : M[i]? = some (100 + t, xs)) (ht : (kv_tys cA)[t]? = some (cA t, .object q.1)) (h3 : 3 ≤ t) (h0 : ¬ ix < 0) (h1 : ix.toNatClampNeg < xs.length) (hr : M[r]? = some (ci, fs)) (hci : ci < 100) (hc : vwCl[ci]? = some q)
    (kk : PW l E D cA N Z X d fin (pc + 1) ls st (M.set i (100 + t, xs.set ix.toNatClampNeg (.ref r)))) : PW l E D cA N Z X d fin pc ls (.ref r :: .int ix :: .ref i :: st) M := by
  intro p e R s m args below meth c Q n0 z0 H locs cells slots la B P
  have hw := kv_w_at (E := E) (cA := cA) hM
  rw [kv_c_ref h3] at hw
  have hv := kv_w_at (E := E) (cA := cA) hr
  rw [kv_c_obj hci] at hv
  refine va_astq B.1.1 B.1.2.1 B.2.1.1 P.1.2 P.1.apart P.2.1 i t r ci hw ht hv hc (kv_inl h0 h1) hd (fun H1 locs1 hP _ hS => kk B (P.set (e1 := (100 + t, xs.set ix.toNatClampNeg (.ref r))) hM (by simp) ?_ hS))
  rw [kv_c_ref h3, kv_ro_set h1, List.length_set]
  exact hP
theorem pw_alen {i t : Nat} {xs : List Value} (hd : decode X.2.2.1 pc = .ok (.arraylength, 1)) (hM : M[i]? = some (100 + t, xs)) (ht : t < 3) (kk : PW l E D cA N Z X d fin (pc + 1) ls (.int (Int32.ofNat xs.length) :: st) M) : PW l E D cA N Z X d fin pc ls (.ref i :: st) M := by
  intro p e R s m args below meth c Q n0 z0 H locs cells slots la B P
  have hw := kv_w_at (E := E) (cA := cA) hM
  rw [kv_c_int ht] at hw
  obtain ⟨ty, hty⟩ : ∃ ty, (kv_tys cA)[t]? = some (cA t, ty) := by
    match t, ht with
    | 0, _ => exact ⟨_, rfl⟩
    | 1, _ => exact ⟨_, rfl⟩
    | 2, _ => exact ⟨_, rfl⟩
  exact va_alen B.1.1 B.1.2.1 B.2.1.1 P.1.2 i t hw hty rfl hd (kk B P)
/-! the tables that nobody writes: numbers 1000 and on -/
theorem kv_adr_s {k : Nat} : kv_adr E (1000 + k) = E.2.1 k := by
  unfold kv_adr
  rw [if_neg (by omega), Nat.add_sub_cancel_left]
theorem pw_iaload_s {k : Nat} {ix : Int32} (hd : decode X.2.2.1 pc = .ok (.iaload, 1)) (hk : k < 4) (h0 : ¬ ix < 0) (h1 : ix.toNatClampNeg < E.2.2.1 k) (kk : PW l E D cA N Z X d fin (pc + 1) ls (.int (E.2.2.2 k ix.toNatClampNeg) :: st) M) : PW l E D cA N Z X d fin pc ls (.int ix :: .ref (1000 + k) :: st) M := by
  intro p e R s m args below meth c Q n0 z0 H locs cells slots la B P
  have h := va_ti B.1.1 B.1.2.1 (B.2.1.2.2.2.2.2.1 k hk) P.2.1 (i := ix) (kv_inl h0 h1) rfl hd (kk B P)
  rw [← kv_adr_s] at h
  exact h
theorem pw_alen_s {k : Nat} (hd : decode X.2.2.1 pc = .ok (.arraylength, 1)) (hk : k < 4) (kk : PW l E D cA N Z X d fin (pc + 1) ls (.int (Int32.ofNat (E.2.2.1 k)) :: st) M) : PW l E D cA N Z X d fin pc ls (.ref (1000 + k) :: st) M := by
  intro p e R s m args below meth c Q n0 z0 H locs cells slots la B P
  have h := va_tlen B.1.1 B.1.2.1 (B.2.1.2.2.2.2.2.1 k hk) P.2.1 rfl hd (kk B P)
  rw [← kv_adr_s] at h
  exact h
theorem pw_gets {k idx : Nat} {nm : String} (hd : decode X.2.2.1 pc = .ok (.getstatic idx, 3)) (hn : (k, nm) ∈ [(0, "FIRST_SETTINGS"), (1, "LEAST_SETTINGS"), (2, "MOST_SETTINGS")]) (hw : Cond.fieldLink X.1 idx RX5 nm "[I" ∈ TB) (kk : PW l E D cA N Z X d fin (pc + 3) ls (.ref (1000 + k) :: st) M) : PW l E D cA N Z X d fin pc ls st M := by
  intro p e R s m args below meth c Q n0 z0 H locs cells slots la B P
  have hz : va_Z RX5 nm "[I" (.ref (E.2.1 k)) (kv_A E) s s.heap := by
    obtain ⟨z0, z1, z2⟩ := B.2.1.2.2.2.2.2.2
    simp only [List.mem_cons, Prod.mk.injEq, List.not_mem_nil, or_false] at hn
    rcases hn with ⟨rfl, rfl⟩ | ⟨rfl, rfl⟩ | ⟨rfl, rfl⟩
    · exact z0
    · exact z1
    · exact z2
  refine va_gets B.1.1 B.1.2.1 hz P.2.1 B.1.2.2.2.1 (B.1.2.2.2.2.1 _ hw) (fun _ h => h) hd ?_
  have h := kk B P
  rw [List.map_cons] at h
  show W p l e R s m args below meth c H locs cells slots Q (F0 m (pc + 3) la (.ref (E.2.1 k) :: st.map (kv_v E)))
  rw [← kv_adr_s]
  exact h
theorem pw_getsN (hd : decode X.2.2.1 pc = .ok (.getstatic 30, 3)) (hX : X.1 = RX3) (kk : PW l E D cA N Z X d fin (pc + 3) ls (.ref 1000 :: st) M) : PW l E D cA N Z X d fin pc ls st M := by
  intro p e R s m args below meth c Q n0 z0 H locs cells slots la B P
  have hw : va_Nw (.fieldLinkNest X.1 30 RX5 "FIRST_SETTINGS" "[I" RX5) s := by
    rw [hX]
    exact B.2.1.2.2.2.2.1 _ (by simp [kv_NW])
  refine va_getsN B.1.1 B.1.2.1 B.2.1.2.2.2.2.2.2.1 P.2.1 B.1.2.2.2.1 (va_Nw.use rfl hw) (fun _ h => h) hd ?_
  have h := kk B P
  rw [List.map_cons] at h
  show W p l e R s m args below meth c H locs cells slots Q (F0 m (pc + 3) la (.ref (E.2.1 0) :: st.map (kv_v E)))
  rw [← kv_adr_s]
  exact h
end PWM
end
section
/-! what stands around goes along into a callee -/
theorem kv_AOI.moved {u U : State} (hvm : u.vm.Alike U.vm) (h : kv_AOI u) : kv_AOI U := by
  obtain ⟨comp, c, k, comp', h1, h2, h3, h4, h5⟩ : ∃ comp c k comp', u.vm.findClass (FieldType.array .int).toString = some comp ∧ (u.vm.classes.findIdx? fun (x : Class) => match x.kind with | .array component _ => component == comp | _ => false) = some c ∧ u.vm.classes[c]? = some k ∧ k.kind = .array comp' (.array .int) ∧ u.vm.findClass ("[" ++ (FieldType.array .int).toString) = some c := by
    unfold kv_AOI Cond.before Cond.holds at h
    simp only [Cond.value, beq_iff_eq] at h
    cases hc : u.vm.findClass (FieldType.array .int).toString with
    | none => simp [hc] at h
    | some comp =>
      simp only [hc, Option.bind_some, Option.bind_eq_some_iff, Option.map_eq_some_iff] at h
      obtain ⟨c, hi, k, hk, hb⟩ := h
      cases hkind : k.kind with
      | array component ty =>
        rw [hkind] at hb
        simp at hb
        exact ⟨comp, c, k, component, rfl, hi, hk, by rw [hkind, hb.1], hb.2⟩
      | _ => rw [hkind] at hb; simp at hb
  obtain ⟨k', hk', he⟩ := hvm.2.2 _ _ h3
  have hi : (U.vm.classes.findIdx? fun (x : Class) => match x.kind with | .array component _ => component == comp | _ => false) = some c := by
    have e1 := va_idx_bare U.vm comp
    have e2 := va_idx_bare u.vm comp
    rw [hvm.bare_eq] at e1
    exact (e1.symm.trans e2).trans h2
  have hkind : k'.kind = .array comp' (.array .int) := by rw [he]; exact h4
  have f1 : U.vm.findClass (FieldType.array .int).toString = some comp := by rw [hvm.findClass]; exact h1
  have f2 : U.vm.findClass ("[" ++ (FieldType.array .int).toString) = some c := by rw [hvm.findClass]; exact h5
  unfold kv_AOI Cond.before Cond.holds
  simp only [Cond.value]
  rw [f1, Option.bind_some]
  refine (congrArg (fun o : Option Nat => (o.bind (fun c => (U.vm.classes[c]?).map fun (k : Class) => match k.kind with | .array _ ty => decide (ty = FieldType.array .int) && decide (U.vm.findClass ("[" ++ (FieldType.array .int).toString) = some c) | _ => false) == some true)) hi).trans ?_
  simp [hk', hkind, f2]
theorem kv_G.moved {E : EV} {D : va_G} {cA : Nat → ClassId} {u U : State} (h : kv_G E D cA u) (hvm : u.vm.Alike U.vm) (hn : ∀ w ∈ kv_NW, va_Nw w u → va_Nw w U) (hH : ∀ q : Nat, q < u.heap.size → ¬ kv_A E q → U.heap[q]? = u.heap[q]?) : kv_G E D cA U := by
  obtain ⟨h1, h2, h3, h4, h5, h6, h7, h8, h9⟩ := h
  exact ⟨h1.moved hvm, h2.moved hvm, h3.moved hvm, h4.moved hvm, fun w hw => hn w hw (h5 w hw), fun k hk => ((h6 k hk).moved hvm).kept hH, (h7.moved hvm).kept hH, (h8.moved hvm).kept hH, (h9.moved hvm).kept hH⟩
theorem kv_NW_warm {u U : State} (hW : u.WarmedH U.vm) : ∀ w ∈ kv_NW, va_Nw w u → va_Nw w U := by
  intro w hw h
  simp only [kv_NW, List.mem_cons, List.not_mem_nil, or_false] at hw
  rcases hw with rfl | rfl | rfl | rfl | rfl | rfl
  · exact va_Nw.warmM hW h
  · exact va_Nw.warmM hW h
  · exact va_Nw.warmM hW h
  · exact va_Nw.warmM hW h
  · exact va_Nw.warmM hW h
  · exact va_Nw.warmF hW h
theorem kv_NW_same {u U : State} (e : u.vm = U.vm) : ∀ w ∈ kv_NW, va_Nw w u → va_Nw w U := by
  intro w hw h
  simp only [kv_NW, List.mem_cons, List.not_mem_nil, or_false] at hw
  rcases hw with rfl | rfl | rfl | rfl | rfl | rfl <;> exact va_Nw.same rfl e h
/-! contracts and calls -/
def kv_y (X : MT) : List Cond := Cond.code X.2.1 X.2.2.1 X.2.2.2.1 X.2.2.2.2 :: TB
def kv_rm (d mc ms : Nat) : Room := { frames := d, cells := mc, slots := ms, locals := 36 * d }
def kv_Pc (E : EV) (D : va_G) (cA : Nat → ClassId) (vs : List Value) (M : List PE) : Array Value → State → Prop := va_Pc (vs.map (kv_v E)) (fun U => kv_G E D cA U ∧ (E.1 ≤ U.heap.size ∧ U.heap.size ≤ E.1 + M.length) ∧ kv_R E D cA M U.heap)
abbrev kv_po (fin : Option Value → List PE → Prop) (N Z : Nat) (r : Option Value) (M' : List PE) : Prop := fin r M' ∧ M'.length = N ∧ kv_sum M' = Z
abbrev kv_Qi (E : EV) (D : va_G) (cA : Nat → ClassId) (N Z : Nat) (fin : Option Value → List PE → Prop) : Array Value → State → Outcome → State → Prop := va_Qi (fun (r : Int32) (M' : List PE) => kv_po fin N Z (some (.int r)) M') (fun M' t => kv_R E D cA M' t.heap) (kv_A E)
abbrev kv_Qv (E : EV) (D : va_G) (cA : Nat → ClassId) (N Z : Nat) (fin : Option Value → List PE → Prop) : Array Value → State → Outcome → State → Prop := va_Qv (fun (M' : List PE) => kv_po fin N Z none M') (fun M' t => kv_R E D cA M' t.heap) (kv_A E)
theorem kv_blind {E : EV} {D : va_G} {cA : Nat → ClassId} {vs : List Value} {M : List PE} : FrameBlind (kv_Pc E D cA vs M) := by
  intro a U g mk h
  obtain ⟨h1, h2, h3, h4⟩ := h
  exact ⟨h1, h2.moved (Vm.Alike.refl U.vm) (kv_NW_same rfl) (fun _ _ _ => rfl), h3, h4⟩
section PWC
variable {l : Launch} {E : EV} {D : va_G} {cA : Nat → ClassId} {N Z : Nat} {X : MT} {d : Nat} {fin : Option Value → List PE → Prop} {pc : Nat} {ls : List (Option Value)} {st : List Value} {M : List PE}
theorem pw_met_i {ty : FieldType} {vs : List Value} (hX : plainName X.2.1.cls = true) (ht : X.2.2.2.2 = some ty) (hL : (kv_fl vs).length ≤ X.2.2.2.1) (hc : X.2.1.cls = X.1) (hN : M.length ≤ N) (hZ : kv_sum M ≤ Z) (h : PW l E D cA N Z X d fin 0 (kv_en X.2.2.2.1 vs) [] M) :
    Met l X.2.1 (kv_y X) (kv_rm d (N - M.length) (Z - kv_sum M)) (kv_Pc E D cA vs M) (kv_Qi E D cA N Z fin) (N - M.length) (Z - kv_sum M) (kv_A E) := by
  refine Met.ofW (cc := X.2.2.1) (maxL := X.2.2.2.1) (ret := X.2.2.2.2) hX rfl ?_
  intro p e s m args below meth c s₁ B hml hv
  obtain ⟨rfl, hG, hb, hR⟩ := hv
  have hts := atoms_spec (ws := kv_y X) B.pre
  have hown : s.vm.findClass X.2.1.cls = some m.cls := findClass_of_methodNamed B.named
  rw [lg_entry_eq]
  refine h (n0 := M.length) (z0 := kv_sum M) ⟨⟨B.exec, B.bytes, hml, hc ▸ hown, fun w hw => hts w (List.mem_cons_of_mem _ hw), fun hi => (name_of_methodNamed B.named B.method).1.trans hi⟩, hG, hb, Nat.le_refl _, Nat.le_refl _, ?_, ?_, ?_⟩ ⟨hR, va_S.rf, kv_en_L E hL, Nat.zero_add _, Nat.zero_add _⟩
  · show N ≤ M.length + (N - M.length)
    omega
  · show Z ≤ kv_sum M + (Z - kv_sum M)
    omega
  · intro r M' H' locs' cells' slots' pc' la' hf hN' hZ' hR' hS' hc' hz' hret
    obtain rfl : cells' = N - M.length := by omega
    obtain rfl : slots' = Z - kv_sum M := by omega
    match r, hret with
    | none, hret => rw [hret.1] at ht; cases ht
    | some (.int v), hret =>
      obtain ⟨⟨ty', ht', hn⟩, hd⟩ := hret
      exact W.zret (v := v) B.exec B.bytes (B.returns.trans ht') hn (fun t ht hW => ⟨⟨v, M', rfl, ⟨hf, hN', hZ'⟩, show kv_R E D cA M' t.heap by rw [ht]; exact hR'⟩, hS'.F ht⟩) hS'.2.2 hd
theorem pw_met_v {vs : List Value} (hX : plainName X.2.1.cls = true) (ht : X.2.2.2.2 = none) (hL : (kv_fl vs).length ≤ X.2.2.2.1) (hc : X.2.1.cls = X.1) (hN : M.length ≤ N) (hZ : kv_sum M ≤ Z) (h : PW l E D cA N Z X d fin 0 (kv_en X.2.2.2.1 vs) [] M) :
    Met l X.2.1 (kv_y X) (kv_rm d (N - M.length) (Z - kv_sum M)) (kv_Pc E D cA vs M) (kv_Qv E D cA N Z fin) (N - M.length) (Z - kv_sum M) (kv_A E) := by
  refine Met.ofW (cc := X.2.2.1) (maxL := X.2.2.2.1) (ret := X.2.2.2.2) hX rfl ?_
  intro p e s m args below meth c s₁ B hml hv
  obtain ⟨rfl, hG, hb, hR⟩ := hv
  have hts := atoms_spec (ws := kv_y X) B.pre
  have hown : s.vm.findClass X.2.1.cls = some m.cls := findClass_of_methodNamed B.named
  rw [lg_entry_eq]
  refine h (n0 := M.length) (z0 := kv_sum M) ⟨⟨B.exec, B.bytes, hml, hc ▸ hown, fun w hw => hts w (List.mem_cons_of_mem _ hw), fun hi => (name_of_methodNamed B.named B.method).1.trans hi⟩, hG, hb, Nat.le_refl _, Nat.le_refl _, ?_, ?_, ?_⟩ ⟨hR, va_S.rf, kv_en_L E hL, Nat.zero_add _, Nat.zero_add _⟩
  · show N ≤ M.length + (N - M.length)
    omega
  · show Z ≤ kv_sum M + (Z - kv_sum M)
    omega
  · intro r M' H' locs' cells' slots' pc' la' hf hN' hZ' hR' hS' hc' hz' hret
    obtain rfl : cells' = N - M.length := by omega
    obtain rfl : slots' = Z - kv_sum M := by omega
    match r, hret with
    | none, hret =>
      exact W.vret B.exec B.bytes (B.returns.trans hret.1) (fun t ht hW => ⟨⟨M', rfl, ⟨hf, hN', hZ'⟩, show kv_R E D cA M' t.heap by rw [ht]; exact hR'⟩, hS'.F ht⟩) hS'.2.2 hret.2
    | some (.int v), hret =>
      obtain ⟨⟨ty', ht', hn⟩, hd⟩ := hret
      rw [ht'] at ht
      cases ht
/-- a callee that the tables know: its code, its class, how many arguments it takes, its locals -/
def kv_Y (Y : MT) (n : Nat) : Prop := Cond.code Y.2.1 Y.2.2.1 Y.2.2.2.1 Y.2.2.2.2 ∈ TB ∧ Cond.initialized Y.2.1.cls ∈ TB ∧ plainName Y.2.1.cls = true ∧ Y.2.1.cls = Y.1 ∧ Y.2.1.cls ≠ "java/lang/invoke/MethodHandle" ∧ Y.2.1.cls ≠ "java/lang/invoke/VarHandle" ∧ (parseMethodDescriptor Y.2.1.desc).map (fun d => d.parameters.length) = some n ∧ Y.2.2.2.1 ≤ 17
theorem kv_Y.good {Y : MT} {n : Nat} (h : kv_Y Y n) : GoodIn TB (kv_y Y) := by
  intro w hw
  rcases List.mem_cons.mp hw with rfl | hw
  · exact TB_good _ h.1
  · exact TB_good _ hw
variable {p : Program} {e : Env} {R : Room} {s : State} {m : MethodId} {args : Array Value} {below : List Frame} {meth : Method} {c : Code} {Q : State → Prop} {n0 z0 : Nat} {H : Heap} {locs : List Loc} {cells slots : Nat} {la : Array Slot}
theorem kv_B.callB {Y : MT} {idx n mc ms : Nat} (B : kv_B l E D cA N Z X (d + 1) fin p e R s m args below meth c Q n0 z0) (hY : kv_Y Y n) (hl : Cond.methodLink X.1 idx Y.2.1 ∈ TB) :
    CallB R s args X.1 idx Y.2.1 Y.2.2.1 Y.2.2.2.1 Y.2.2.2.2 (kv_y Y) (kv_rm d mc ms) mc ms n :=
  callB_of n B.1.2.2.2.2.1 hY.good rfl rfl rfl (B.1.2.2.2.2.1 _ hY.2.1) (B.1.2.2.2.2.1 _ hl) ⟨hY.2.2.2.2.1, hY.2.2.2.2.2.1, hY.2.2.2.2.2.2.1⟩ ⟨B.2.2.2.1, by have h1 := B.2.2.2.2.1; have h2 := hY.2.2.2.2.2.2.2; show 8 + (Y.2.2.2.1 + 11) + 36 * d ≤ R.locals; omega⟩
theorem kv_B.callN {Y : MT} {idx n mc ms : Nat} {host : String} (B : kv_B l E D cA N Z X (d + 1) fin p e R s m args below meth c Q n0 z0) (hY : kv_Y Y n) (hl : va_Nw (.methodLinkNest X.1 idx Y.2.1 host) s) :
    va_CN R s args X.1 idx Y.2.1 host Y.2.2.1 Y.2.2.2.1 Y.2.2.2.2 (kv_y Y) (kv_rm d mc ms) mc ms n :=
  va_cnB n B.1.2.2.2.2.1 hY.good rfl rfl rfl hl (B.1.2.2.2.2.1 _ hY.2.1) ⟨hY.2.2.2.2.1, hY.2.2.2.2.2.1, hY.2.2.2.2.2.2.1⟩ ⟨B.2.2.2.1, by have h1 := B.2.2.2.2.1; have h2 := hY.2.2.2.2.2.2.2; show 8 + (Y.2.2.2.1 + 11) + 36 * d ≤ R.locals; omega⟩
theorem kv_B.pre {vs : List Value} (B : kv_B l E D cA N Z X d fin p e R s m args below meth c Q n0 z0) (P : kv_P E D cA X s n0 z0 ls M H locs cells slots la) (hsz : H.size ≤ E.1 + M.length) : ∀ U : State, U.heap = H → s.WarmedH U.vm → kv_Pc E D cA vs M (vs.map (kv_v E)).toArray U := by
  intro U hU hW
  refine ⟨rfl, B.2.1.moved hW.alike (kv_NW_warm hW) (fun q h1 h2 => by rw [hU]; exact P.2.1.2.1 q h1 h2), ⟨by rw [hU]; exact Nat.le_trans B.2.2.1.1 P.2.1.1, by rw [hU]; exact hsz⟩, by rw [hU]; exact P.1⟩
/-- the heap is just as large as the pure memory says -/
theorem kv_B.size {T : State} (B : kv_B l E D cA N Z X d fin p e R s m args below meth c Q n0 z0) (P : kv_P E D cA X s n0 z0 ls M H locs cells slots la) (hT : T.heap = H) (S : Stand p l e R s m args below meth c T locs cells slots) : H.size ≤ E.1 + M.length := by
  have h1 := S.heapSize
  have h2 := B.2.2.1.2
  have h3 := P.2.2.2.1
  rw [hT] at h1
  omega
theorem pw_callV {Y : MT} {idx b ci N' Z' : Nat} {fs As st0 : List Value} {q : vw_C} (hd : decode X.2.2.1 pc = .ok (.invokevirtual idx, 3)) (hY : kv_Y Y As.length) (hl : Cond.methodLink X.1 idx Y.2.1 ∈ TB) (hin : Cond.instanceMethod Y.2.1 ∈ TB) (hse : Cond.selects q.1 Y.2.1 Y.2.1 ∈ TB)
    (hst : st0 = As.reverse ++ .ref b :: st) (hM : M[b]? = some (ci, fs)) (hci : ci < 100) (hq : vwCl[ci]? = some q) (hL : (kv_fl (.ref b :: As)).length ≤ Y.2.2.2.1) (hw : (st.map fun v => v.category).sum ≤ 8) (hN : M.length ≤ N' ∧ N' ≤ N) (hZ : kv_sum M ≤ Z' ∧ Z' ≤ Z)
    (kk : PW l E D cA N' Z' Y d (fun r M1 => PW l E D cA N Z X (d + 1) fin (pc + 3) ls (r.toList ++ st) M1) 0 (kv_en Y.2.2.2.1 (.ref b :: As)) [] M) : PW l E D cA N Z X (d + 1) fin pc ls st0 M := by
  intro p e R s m args below meth c Q n0 z0 H locs cells slots la B P
  subst hst
  have hcw : CallW R s args X.1 q.1 idx Y.2.1 Y.2.2.1 Y.2.2.2.1 Y.2.2.2.2 (kv_y Y) (kv_rm d (N' - M.length) (Z' - kv_sum M)) (N' - M.length) (Z' - kv_sum M) As.length := ⟨B.callB hY hl, B.1.2.2.2.2.1 _ hin, B.1.2.2.2.2.1 _ hse⟩
  have hw9 := kv_w_at (E := E) (cA := cA) hM
  rw [kv_c_obj hci] at hw9
  have hcat : (((st.map (kv_v E)).map fun v => v.category).sum) ≤ 8 := by rw [List.map_map, show ((fun v : Value => v.category) ∘ kv_v E) = (fun v => v.category) from funext fun v => kv_cat E v]; exact hw
  have hfix : CallFix p m c X.2.2.1 X.2.2.2.1 s args TB X.1 := ⟨B.1.1, B.1.2.1, B.1.2.2.1, B.1.2.2.2.1, B.1.2.2.2.2.1⟩
  intro T hT S
  have hsz := B.size P hT S
  have hpre : PreV s H q.1 (kv_adr E b) (kv_Pc E D cA (.ref b :: As) M) (As.map (kv_v E)) := ⟨kv_blind, va_recv B.2.1.1 P.1.2 hq hw9, B.pre P hsz⟩
  have hroom : cells + (N' - M.length) ≤ R.cells ∧ slots + (Z' - kv_sum M) ≤ R.slots := by
    have h1 := B.2.2.2.2.2.1
    have h2 := B.2.2.2.2.2.2.1
    have h3 := P.2.2.2.1
    have h4 := P.2.2.2.2
    omega
  have hsta : ((As.reverse ++ .ref b :: st).map (kv_v E)) = (As.map (kv_v E)).reverse ++ .ref (kv_adr E b) :: st.map (kv_v E) := by simp [kv_v]
  rw [hsta]
  have hgo : ∀ (r : Option Value) (M1 : List PE) (H1 : Heap) (locs1 : List Loc), PW l E D cA N Z X (d + 1) fin (pc + 3) ls (r.toList ++ st) M1 → M1.length = N' → kv_sum M1 = Z' → kv_R E D cA M1 H1 → va_S (kv_A E) s.heap H1 locs1 → W p l e R s m args below meth c H1 locs1 (cells + (N' - M.length)) (slots + (Z' - kv_sum M)) Q (F0 m (pc + 3) la ((r.toList ++ st).map (kv_v E))) := by
    intro r M1 H1 locs1 h1 h2 h3 h4 h5
    have g3 := P.2.2.2.1
    have g4 := P.2.2.2.2
    exact h1 B ⟨h4, h5, P.2.2.1, by omega, by omega⟩
  cases ht : Y.2.2.2.2 with
  | none =>
    have hM0 := pw_met_v hY.2.2.1 ht hL hY.2.2.2.1 hN.1 hZ.1 kk
    exact va_callv (va_runV (As := As.map (kv_v E)) (rest := st.map (kv_v E)) hfix hM0 hcw hpre rfl (by rw [List.length_map]) P.2.2.1.1 rfl (by show 2 * 0 + _ ≤ 8; omega) hd hroom) P.2.1 (fun _ _ h => h) (fun _ h => h) (fun M1 t H1 locs1 ht hvm hw hB hz1 hk1 hS => hgo none M1 H1 locs1 hw.1 hw.2.1 hw.2.2 (by rw [← ht]; exact hB) hS) T hT S
  | some ty =>
    have hM0 := pw_met_i hY.2.2.1 ht hL hY.2.2.2.1 hN.1 hZ.1 kk
    exact va_calli (va_runV (As := As.map (kv_v E)) (rest := st.map (kv_v E)) hfix hM0 hcw hpre rfl (by rw [List.length_map]) P.2.2.1.1 rfl (by show 2 * 0 + _ ≤ 8; omega) hd hroom) P.2.1 (fun _ _ h => h) (fun _ h => h) (fun r M1 t H1 locs1 ht hvm hw hB hz1 hk1 hS => hgo (some (.int r)) M1 H1 locs1 hw.1 hw.2.1 hw.2.2 (by rw [← ht]; exact hB) hS) T hT S
theorem pw_callS {Y : MT} {idx N' Z' : Nat} {As st0 : List Value} (hd : decode X.2.2.1 pc = .ok (.invokestatic idx, 3)) (hY : kv_Y Y As.length) (hl : Cond.methodLink X.1 idx Y.2.1 ∈ TB) (hst2 : Cond.static Y.2.1 ∈ TB)
    (hst : st0 = As.reverse ++ st) (hL : (kv_fl As).length ≤ Y.2.2.2.1) (hw : (st.map fun v => v.category).sum ≤ 8) (hN : M.length ≤ N' ∧ N' ≤ N) (hZ : kv_sum M ≤ Z' ∧ Z' ≤ Z)
    (kk : PW l E D cA N' Z' Y d (fun r M1 => PW l E D cA N Z X (d + 1) fin (pc + 3) ls (r.toList ++ st) M1) 0 (kv_en Y.2.2.2.1 As) [] M) : PW l E D cA N Z X (d + 1) fin pc ls st0 M := by
  intro p e R s m args below meth c Q n0 z0 H locs cells slots la B P
  subst hst
  have hcw : CallB R s args X.1 idx Y.2.1 Y.2.2.1 Y.2.2.2.1 Y.2.2.2.2 (kv_y Y) (kv_rm d (N' - M.length) (Z' - kv_sum M)) (N' - M.length) (Z' - kv_sum M) As.length ∧ (Cond.static Y.2.1).before args s = true := ⟨B.callB hY hl, B.1.2.2.2.2.1 _ hst2⟩
  have hcat : (((st.map (kv_v E)).map fun v => v.category).sum) ≤ 8 := by rw [List.map_map, show ((fun v : Value => v.category) ∘ kv_v E) = (fun v => v.category) from funext fun v => kv_cat E v]; exact hw
  have hfix : CallFix p m c X.2.2.1 X.2.2.2.1 s args TB X.1 := ⟨B.1.1, B.1.2.1, B.1.2.2.1, B.1.2.2.2.1, B.1.2.2.2.2.1⟩
  intro T hT S
  have hsz := B.size P hT S
  have hpre : PreS s H (kv_Pc E D cA As M) (As.map (kv_v E)) := ⟨kv_blind, B.pre P hsz⟩
  have hroom : cells + (N' - M.length) ≤ R.cells ∧ slots + (Z' - kv_sum M) ≤ R.slots := by
    have h1 := B.2.2.2.2.2.1
    have h2 := B.2.2.2.2.2.2.1
    have h3 := P.2.2.2.1
    have h4 := P.2.2.2.2
    omega
  have hsta : ((As.reverse ++ st).map (kv_v E)) = (As.map (kv_v E)).reverse ++ st.map (kv_v E) := by simp
  rw [hsta]
  have hgo : ∀ (r : Option Value) (M1 : List PE) (H1 : Heap) (locs1 : List Loc), PW l E D cA N Z X (d + 1) fin (pc + 3) ls (r.toList ++ st) M1 → M1.length = N' → kv_sum M1 = Z' → kv_R E D cA M1 H1 → va_S (kv_A E) s.heap H1 locs1 → W p l e R s m args below meth c H1 locs1 (cells + (N' - M.length)) (slots + (Z' - kv_sum M)) Q (F0 m (pc + 3) la ((r.toList ++ st).map (kv_v E))) := by
    intro r M1 H1 locs1 h1 h2 h3 h4 h5
    have g3 := P.2.2.2.1
    have g4 := P.2.2.2.2
    exact h1 B ⟨h4, h5, P.2.2.1, by omega, by omega⟩
  cases ht : Y.2.2.2.2 with
  | none =>
    have hM0 := pw_met_v hY.2.2.1 ht hL hY.2.2.2.1 hN.1 hZ.1 kk
    exact va_callv (va_runS (As := As.map (kv_v E)) (rest := st.map (kv_v E)) hfix hM0 hcw hpre rfl (by rw [List.length_map]) P.2.2.1.1 rfl (by show 2 * 0 + _ ≤ 8; omega) hd hroom) P.2.1 (fun _ _ h => h) (fun _ h => h) (fun M1 t H1 locs1 ht hvm hw hB hz1 hk1 hS => hgo none M1 H1 locs1 hw.1 hw.2.1 hw.2.2 (by rw [← ht]; exact hB) hS) T hT S
  | some ty =>
    have hM0 := pw_met_i hY.2.2.1 ht hL hY.2.2.2.1 hN.1 hZ.1 kk
    exact va_calli (va_runS (As := As.map (kv_v E)) (rest := st.map (kv_v E)) hfix hM0 hcw hpre rfl (by rw [List.length_map]) P.2.2.1.1 rfl (by show 2 * 0 + _ ≤ 8; omega) hd hroom) P.2.1 (fun _ _ h => h) (fun _ h => h) (fun r M1 t H1 locs1 ht hvm hw hB hz1 hk1 hS => hgo (some (.int r)) M1 H1 locs1 hw.1 hw.2.1 hw.2.2 (by rw [← ht]; exact hB) hS) T hT S
theorem pw_callSN {Y : MT} {idx N' Z' : Nat} {As st0 : List Value} (hd : decode X.2.2.1 pc = .ok (.invokestatic idx, 3)) (hY : kv_Y Y As.length) {host : String} (hl : Cond.methodLinkNest X.1 idx Y.2.1 host ∈ kv_NW) (hst2 : Cond.static Y.2.1 ∈ TB)
    (hst : st0 = As.reverse ++ st) (hL : (kv_fl As).length ≤ Y.2.2.2.1) (hw : (st.map fun v => v.category).sum ≤ 8) (hN : M.length ≤ N' ∧ N' ≤ N) (hZ : kv_sum M ≤ Z' ∧ Z' ≤ Z)
    (kk : PW l E D cA N' Z' Y d (fun r M1 => PW l E D cA N Z X (d + 1) fin (pc + 3) ls (r.toList ++ st) M1) 0 (kv_en Y.2.2.2.1 As) [] M) : PW l E D cA N Z X (d + 1) fin pc ls st0 M := by
  intro p e R s m args below meth c Q n0 z0 H locs cells slots la B P
  subst hst
  have hcw : va_CN R s args X.1 idx Y.2.1 host Y.2.2.1 Y.2.2.2.1 Y.2.2.2.2 (kv_y Y) (kv_rm d (N' - M.length) (Z' - kv_sum M)) (N' - M.length) (Z' - kv_sum M) As.length ∧ (Cond.static Y.2.1).before args s = true ∧ True := ⟨B.callN hY (B.2.1.2.2.2.2.1 _ hl), B.1.2.2.2.2.1 _ hst2, trivial⟩
  have hcat : (((st.map (kv_v E)).map fun v => v.category).sum) ≤ 8 := by rw [List.map_map, show ((fun v : Value => v.category) ∘ kv_v E) = (fun v => v.category) from funext fun v => kv_cat E v]; exact hw
  have hfix : CallFix p m c X.2.2.1 X.2.2.2.1 s args TB X.1 := ⟨B.1.1, B.1.2.1, B.1.2.2.1, B.1.2.2.2.1, B.1.2.2.2.2.1⟩
  intro T hT S
  have hsz := B.size P hT S
  have hpre : PreS s H (kv_Pc E D cA As M) (As.map (kv_v E)) := ⟨kv_blind, B.pre P hsz⟩
  have hroom : cells + (N' - M.length) ≤ R.cells ∧ slots + (Z' - kv_sum M) ≤ R.slots := by
    have h1 := B.2.2.2.2.2.1
    have h2 := B.2.2.2.2.2.2.1
    have h3 := P.2.2.2.1
    have h4 := P.2.2.2.2
    omega
  have hsta : ((As.reverse ++ st).map (kv_v E)) = (As.map (kv_v E)).reverse ++ st.map (kv_v E) := by simp
  rw [hsta]
  have hgo : ∀ (r : Option Value) (M1 : List PE) (H1 : Heap) (locs1 : List Loc), PW l E D cA N Z X (d + 1) fin (pc + 3) ls (r.toList ++ st) M1 → M1.length = N' → kv_sum M1 = Z' → kv_R E D cA M1 H1 → va_S (kv_A E) s.heap H1 locs1 → W p l e R s m args below meth c H1 locs1 (cells + (N' - M.length)) (slots + (Z' - kv_sum M)) Q (F0 m (pc + 3) la ((r.toList ++ st).map (kv_v E))) := by
    intro r M1 H1 locs1 h1 h2 h3 h4 h5
    have g3 := P.2.2.2.1
    have g4 := P.2.2.2.2
    exact h1 B ⟨h4, h5, P.2.2.1, by omega, by omega⟩
  cases ht : Y.2.2.2.2 with
  | none =>
    have hM0 := pw_met_v hY.2.2.1 ht hL hY.2.2.2.1 hN.1 hZ.1 kk
    exact va_callv (va_runSN (As := As.map (kv_v E)) (rest := st.map (kv_v E)) hfix hM0 hcw hpre rfl (by rw [List.length_map]) P.2.2.1.1 rfl (by show 2 * 0 + _ ≤ 8; omega) hd hroom) P.2.1 (fun _ _ h => h) (fun _ h => h) (fun M1 t H1 locs1 ht hvm hw hB hz1 hk1 hS => hgo none M1 H1 locs1 hw.1 hw.2.1 hw.2.2 (by rw [← ht]; exact hB) hS) T hT S
  | some ty =>
    have hM0 := pw_met_i hY.2.2.1 ht hL hY.2.2.2.1 hN.1 hZ.1 kk
    exact va_calli (va_runSN (As := As.map (kv_v E)) (rest := st.map (kv_v E)) hfix hM0 hcw hpre rfl (by rw [List.length_map]) P.2.2.1.1 rfl (by show 2 * 0 + _ ≤ 8; omega) hd hroom) P.2.1 (fun _ _ h => h) (fun _ h => h) (fun r M1 t H1 locs1 ht hvm hw hB hz1 hk1 hS => hgo (some (.int r)) M1 H1 locs1 hw.1 hw.2.1 hw.2.2 (by rw [← ht]; exact hB) hS) T hT S
theorem pw_callI {Y : MT} {idx b N' Z' : Nat} {As st0 : List Value} (hd : decode X.2.2.1 pc = .ok (.invokespecial idx, 3)) (hY : kv_Y Y As.length) (ht : Y.2.2.2.2 = none) (hy : Y.2.1.name = "<init>") (hl : Cond.methodLink X.1 idx Y.2.1 ∈ TB) (hin : Cond.instanceMethod Y.2.1 ∈ TB)
    (hst : st0 = As.reverse ++ .ref b :: st) (hL : (kv_fl (.ref b :: As)).length ≤ Y.2.2.2.1) (hw : (st.map fun v => v.category).sum ≤ 8) (hN : M.length ≤ N' ∧ N' ≤ N) (hZ : kv_sum M ≤ Z' ∧ Z' ≤ Z)
    (kk : PW l E D cA N' Z' Y d (fun r M1 => PW l E D cA N Z X (d + 1) fin (pc + 3) ls (r.toList ++ st) M1) 0 (kv_en Y.2.2.2.1 (.ref b :: As)) [] M) : PW l E D cA N Z X (d + 1) fin pc ls st0 M := by
  intro p e R s m args below meth c Q n0 z0 H locs cells slots la B P
  subst hst
  have hcw : CallB R s args X.1 idx Y.2.1 Y.2.2.1 Y.2.2.2.1 none (kv_y Y) (kv_rm d (N' - M.length) (Z' - kv_sum M)) (N' - M.length) (Z' - kv_sum M) As.length ∧ Y.2.1.name = "<init>" ∧ (Cond.instanceMethod Y.2.1).before args s = true := ⟨ht ▸ B.callB hY hl, hy, B.1.2.2.2.2.1 _ hin⟩
  have hcat : (((st.map (kv_v E)).map fun v => v.category).sum) ≤ 8 := by rw [List.map_map, show ((fun v : Value => v.category) ∘ kv_v E) = (fun v => v.category) from funext fun v => kv_cat E v]; exact hw
  have hfix : CallFix p m c X.2.2.1 X.2.2.2.1 s args TB X.1 := ⟨B.1.1, B.1.2.1, B.1.2.2.1, B.1.2.2.2.1, B.1.2.2.2.2.1⟩
  intro T hT S
  have hsz := B.size P hT S
  have hpre : PreS s H (kv_Pc E D cA (.ref b :: As) M) (.ref (kv_adr E b) :: As.map (kv_v E)) := ⟨kv_blind, B.pre (vs := .ref b :: As) P hsz⟩
  have hroom : cells + (N' - M.length) ≤ R.cells ∧ slots + (Z' - kv_sum M) ≤ R.slots := by
    have h1 := B.2.2.2.2.2.1
    have h2 := B.2.2.2.2.2.2.1
    have h3 := P.2.2.2.1
    have h4 := P.2.2.2.2
    omega
  have hsta : ((As.reverse ++ .ref b :: st).map (kv_v E)) = (As.map (kv_v E)).reverse ++ .ref (kv_adr E b) :: st.map (kv_v E) := by simp [kv_v]
  rw [hsta]
  have hgo : ∀ (r : Option Value) (M1 : List PE) (H1 : Heap) (locs1 : List Loc), PW l E D cA N Z X (d + 1) fin (pc + 3) ls (r.toList ++ st) M1 → M1.length = N' → kv_sum M1 = Z' → kv_R E D cA M1 H1 → va_S (kv_A E) s.heap H1 locs1 → W p l e R s m args below meth c H1 locs1 (cells + (N' - M.length)) (slots + (Z' - kv_sum M)) Q (F0 m (pc + 3) la ((r.toList ++ st).map (kv_v E))) := by
    intro r M1 H1 locs1 h1 h2 h3 h4 h5
    have g3 := P.2.2.2.1
    have g4 := P.2.2.2.2
    exact h1 B ⟨h4, h5, P.2.2.1, by omega, by omega⟩
  have hM0 := pw_met_v hY.2.2.1 ht hL hY.2.2.2.1 hN.1 hZ.1 kk
  exact va_callv (va_runI (As := As.map (kv_v E)) (rest := st.map (kv_v E)) hfix hM0 hcw hpre rfl (by rw [List.length_map]) P.2.2.1.1 rfl (by show 2 * 0 + _ ≤ 8; omega) hd hroom) P.2.1 (fun _ _ h => h) (fun _ h => h) (fun M1 t H1 locs1 ht hvm hw hB hz1 hk1 hS => hgo none M1 H1 locs1 hw.1 hw.2.1 hw.2.2 (by rw [← ht]; exact hB) hS) T hT S
theorem pw_callIN {Y : MT} {idx b N' Z' : Nat} {As st0 : List Value} (hd : decode X.2.2.1 pc = .ok (.invokespecial idx, 3)) (hY : kv_Y Y As.length) (ht : Y.2.2.2.2 = none) (hy : Y.2.1.name = "<init>") {host : String} (hl : Cond.methodLinkNest X.1 idx Y.2.1 host ∈ kv_NW) (hin : Cond.instanceMethod Y.2.1 ∈ TB)
    (hst : st0 = As.reverse ++ .ref b :: st) (hL : (kv_fl (.ref b :: As)).length ≤ Y.2.2.2.1) (hw : (st.map fun v => v.category).sum ≤ 8) (hN : M.length ≤ N' ∧ N' ≤ N) (hZ : kv_sum M ≤ Z' ∧ Z' ≤ Z)
    (kk : PW l E D cA N' Z' Y d (fun r M1 => PW l E D cA N Z X (d + 1) fin (pc + 3) ls (r.toList ++ st) M1) 0 (kv_en Y.2.2.2.1 (.ref b :: As)) [] M) : PW l E D cA N Z X (d + 1) fin pc ls st0 M := by
  intro p e R s m args below meth c Q n0 z0 H locs cells slots la B P
  subst hst
  have hcw : va_CN R s args X.1 idx Y.2.1 host Y.2.2.1 Y.2.2.2.1 none (kv_y Y) (kv_rm d (N' - M.length) (Z' - kv_sum M)) (N' - M.length) (Z' - kv_sum M) As.length ∧ Y.2.1.name = "<init>" ∧ (Cond.instanceMethod Y.2.1).before args s = true := ⟨ht ▸ B.callN hY (B.2.1.2.2.2.2.1 _ hl), hy, B.1.2.2.2.2.1 _ hin⟩
  have hcat : (((st.map (kv_v E)).map fun v => v.category).sum) ≤ 8 := by rw [List.map_map, show ((fun v : Value => v.category) ∘ kv_v E) = (fun v => v.category) from funext fun v => kv_cat E v]; exact hw
  have hfix : CallFix p m c X.2.2.1 X.2.2.2.1 s args TB X.1 := ⟨B.1.1, B.1.2.1, B.1.2.2.1, B.1.2.2.2.1, B.1.2.2.2.2.1⟩
  intro T hT S
  have hsz := B.size P hT S
  have hpre : PreS s H (kv_Pc E D cA (.ref b :: As) M) (.ref (kv_adr E b) :: As.map (kv_v E)) := ⟨kv_blind, B.pre (vs := .ref b :: As) P hsz⟩
  have hroom : cells + (N' - M.length) ≤ R.cells ∧ slots + (Z' - kv_sum M) ≤ R.slots := by
    have h1 := B.2.2.2.2.2.1
    have h2 := B.2.2.2.2.2.2.1
    have h3 := P.2.2.2.1
    have h4 := P.2.2.2.2
    omega
  have hsta : ((As.reverse ++ .ref b :: st).map (kv_v E)) = (As.map (kv_v E)).reverse ++ .ref (kv_adr E b) :: st.map (kv_v E) := by simp [kv_v]
  rw [hsta]
  have hgo : ∀ (r : Option Value) (M1 : List PE) (H1 : Heap) (locs1 : List Loc), PW l E D cA N Z X (d + 1) fin (pc + 3) ls (r.toList ++ st) M1 → M1.length = N' → kv_sum M1 = Z' → kv_R E D cA M1 H1 → va_S (kv_A E) s.heap H1 locs1 → W p l e R s m args below meth c H1 locs1 (cells + (N' - M.length)) (slots + (Z' - kv_sum M)) Q (F0 m (pc + 3) la ((r.toList ++ st).map (kv_v E))) := by
    intro r M1 H1 locs1 h1 h2 h3 h4 h5
    have g3 := P.2.2.2.1
    have g4 := P.2.2.2.2
    exact h1 B ⟨h4, h5, P.2.2.1, by omega, by omega⟩
  have hM0 := pw_met_v hY.2.2.1 ht hL hY.2.2.2.1 hN.1 hZ.1 kk
  exact va_callv (va_runIN (As := As.map (kv_v E)) (rest := st.map (kv_v E)) hfix hM0 hcw hpre rfl (by rw [List.length_map]) P.2.2.1.1 rfl (by show 2 * 0 + _ ≤ 8; omega) hd hroom) P.2.1 (fun _ _ h => h) (fun _ h => h) (fun M1 t H1 locs1 ht hvm hw hB hz1 hk1 hS => hgo none M1 H1 locs1 hw.1 hw.2.1 hw.2.2 (by rw [← ht]; exact hB) hS) T hT S
theorem pw_objInit {idx i : Nat} (hd : decode X.2.2.1 pc = .ok (.invokespecial idx, 3)) (hl : Cond.methodLink X.1 idx objectInit ∈ TB) (h1 : Cond.instanceMethod objectInit ∈ TB) (h2 : Cond.code objectInit ⟨#[0xb1]⟩ 1 none ∈ TB) (hw : (st.map fun v => v.category).sum ≤ 8) (kk : PW l E D cA N Z X (d + 1) fin (pc + 3) ls st M) : PW l E D cA N Z X (d + 1) fin pc ls (.ref i :: st) M := by
  intro p e R s m args below meth c Q n0 z0 H locs cells slots la B P
  have hcat : (((st.map (kv_v E)).map fun v => v.category).sum) ≤ 8 := by rw [List.map_map, show ((fun v : Value => v.category) ∘ kv_v E) = (fun v => v.category) from funext fun v => kv_cat E v]; exact hw
  have hr1 := B.2.2.2.1
  have hr2 := B.2.2.2.2.1
  exact W.objInit B.1.1 B.1.2.1 B.1.2.2.2.1 (B.1.2.2.2.2.1 _ hl) (B.1.2.2.2.2.1 _ h1) (B.1.2.2.2.2.1 _ h2) rfl (P.2.2.1.1.trans B.1.2.2.1.symm) rfl hd (by omega) (by show 2 * 0 + _ + 12 ≤ _; omega) (kk B P)
end PWC
end
section
/-! what is made: cells at the end of the memory -/
def kv_new (own : String) (idx ci : Nat) (fs : List Value) : Prop := ∃ (C : String) (T : u_T) (N : Nat) (ty : Nat → FieldType), vwCl[ci]? = some (C, T, N) ∧ ci < 100 ∧ Cond.classLink own idx C ∈ TB ∧ Cond.instantiable C N ∈ TB ∧ Cond.initialized C ∈ TB ∧ (∀ w ∈ u_ws C T N, w ∈ TB) ∧ (∀ k, k < N → parseFieldDescriptor (T k).2.2.1 = some (ty k)) ∧ (∀ j, j < N → defaultValue (ty j) = vp_V fs j) ∧ fs.length = N ∧ (∀ v ∈ fs, ∀ i, v ≠ .ref i)
section PWN
variable {l : Launch} {E : EV} {D : va_G} {cA : Nat → ClassId} {N Z : Nat} {X : MT} {d : Nat} {fin : Option Value → List PE → Prop} {pc : Nat} {ls : List (Option Value)} {st : List Value} {M : List PE}
theorem kv_noref {fs : List Value} (h : ∀ v ∈ fs, ∀ i, v ≠ .ref i) : fs.map (kv_v E) = fs := by
  induction fs with
  | nil => rfl
  | cons a fs ih =>
    rw [List.map_cons, ih (fun v hv => h v (List.mem_cons_of_mem _ hv))]
    congr 1
    have := h a List.mem_cons_self
    cases a <;> first | rfl | exact absurd rfl (this _)
theorem kv_fresh {q : Nat} {x : va_E} {H1 : Heap} (hlen : M.length < 1000) (hP : va_P D vwCl (kv_w E cA M ++ [(q, x)]) H1) (hD : va_D (kv_A E) (kv_w E cA M ++ [(q, x)])) (hs : H1.size ≤ E.1 + (M.length + 1)) : q = kv_adr E M.length := by
  have hl : (kv_w E cA M).length = M.length := by unfold kv_w; simp
  have hq : (kv_w E cA M ++ [(q, x)])[M.length]? = some (q, x) := by rw [List.getElem?_append_right (by omega), hl, Nat.sub_self]; rfl
  have h1 : E.1 ≤ q := hD.2 _ _ hq
  have h2 : q < H1.size := (hP _ _ hq).lt
  have h3 : ¬ q < E.1 + M.length := by
    intro h
    obtain ⟨j, hj⟩ : ∃ j, q = E.1 + j := ⟨q - E.1, by omega⟩
    have hjl : j < M.length := by omega
    have hg : (kv_w E cA M ++ [(q, x)])[j]? = some (kv_adr E j, kv_c E cA M[j]) := by
      rw [List.getElem?_append_left (by omega)]
      exact kv_w_at (List.getElem?_eq_getElem hjl)
    have he : kv_adr E j = q := by
      unfold kv_adr
      rw [if_pos (by omega), hj]
    have := hD.1 j M.length _ _ hg hq he
    omega
  unfold kv_adr
  rw [if_pos hlen]
  omega
theorem kv_size1 {p : Program} {e : Env} {R : Room} {s : State} {m : MethodId} {args : Array Value} {below : List Frame} {meth : Method} {c : Code} {Q : State → Prop} {n0 z0 : Nat} {H : Heap} {locs : List Loc} {cells slots k sl : Nat} {la : Array Slot} {T : State} {locs1 : List Loc}
    (B : kv_B l E D cA N Z X d fin p e R s m args below meth c Q n0 z0) (P : kv_P E D cA X s n0 z0 ls M H locs cells slots la) (S : Stand p l e R s m args below meth c T locs1 (cells + k) sl) : T.heap.size ≤ E.1 + (M.length + k) := by
  have h1 := S.heapSize
  have h2 := B.2.2.1.2
  have h3 := P.2.2.2.1
  omega
theorem pw_new {idx ci : Nat} {fs : List Value} (hd : decode X.2.2.1 pc = .ok (.new idx, 3)) (hn : kv_new X.1 idx ci fs) (hlen : M.length < 1000) (hN : M.length < N) (hZ : kv_sum M + fs.length ≤ Z) (kk : PW l E D cA N Z X d fin (pc + 3) ls (.ref M.length :: st) (M ++ [(ci, fs)])) : PW l E D cA N Z X d fin pc ls st M := by
  intro p e R s m args below meth c Q n0 z0 H locs cells slots la B P
  obtain ⟨C, T, n, ty, hc, hci, hcl, hins, hini, hin, hty, hfs, hfl, hnr⟩ := hn
  have hr1 := B.2.2.2.2.2.1
  have hr2 := B.2.2.2.2.2.2.1
  have hp1 := P.2.2.2.1
  have hp2 := P.2.2.2.2
  have hb := B.2.2.1.1
  refine va_new B.1.1 B.1.2.1 B.1.2.2.2.2.1 hin ty hty B.1.2.2.2.1 (B.1.2.2.2.2.1 _ hcl) (B.1.2.2.2.2.1 _ hins) (B.1.2.2.2.2.1 _ hini) B.2.1.1 P.1.2 P.1.apart P.2.1 (fun q h => Nat.le_trans hb h) hc hfs (by omega) (by omega) hd (fun q H1 hP hD hS => ?_)
  intro T1 hT1 S1
  have hq := kv_fresh hlen hP hD (by rw [← hT1]; exact kv_size1 B P S1)
  subst hq
  refine kk B ⟨⟨by simp; omega, ?_⟩, hS, P.2.2.1, by simp; omega, by rw [kv_sum_app]; show slots + n + z0 = kv_sum M + fs.length; omega⟩ T1 hT1 S1
  rw [kv_w_app, kv_c_obj hci, kv_noref hnr]
  exact hP
theorem kv_z (n : Nat) : (fun j : Nat => kv_io (List.replicate n (Value.int 0))[j]?) = fun _ => (0 : Int32) := by
  funext j
  rw [List.getElem?_replicate]
  split <;> rfl
theorem kv_zr (n : Nat) : (fun j : Nat => kv_ro E (List.replicate n Value.null)[j]?) = fun _ => none := by
  funext j
  rw [List.getElem?_replicate]
  split <;> rfl
theorem pw_newarray {at9 : ArrayType} {t : Nat} {n : Int32} (hd : decode X.2.2.1 pc = .ok (.newarray at9, 2)) (ht : (t, at9) ∈ [(0, ArrayType.int), (1, ArrayType.char), (2, ArrayType.boolean)]) (hw : Cond.arrayClass (newarray.typeOf at9) ∈ TB) (h0 : ¬ n < 0) (hsm : n.toNatClampNeg ≤ 1000) (hlen : M.length < 1000) (hN : M.length < N) (hZ : kv_sum M + n.toNatClampNeg ≤ Z)
    (kk : PW l E D cA N Z X d fin (pc + 2) ls (.ref M.length :: st) (M ++ [(100 + t, List.replicate n.toNatClampNeg (.int 0))])) : PW l E D cA N Z X d fin pc ls (.int n :: st) M := by
  intro p e R s m args below meth c Q n0 z0 H locs cells slots la B P
  have hr1 := B.2.2.2.2.2.1
  have hr2 := B.2.2.2.2.2.2.1
  have hp1 := P.2.2.2.1
  have hp2 := P.2.2.2.2
  have hb := B.2.2.1.1
  have ht3 : t < 3 ∧ ∃ ty, newarray.typeOf at9 = ty ∧ (kv_tys cA)[t]? = some (cA t, ty) ∧ defaultValue ty = .int 0 ∧ componentBytes ty ≤ 4 ∧ (∀ c1 c2 : ClassId, va_RA s c1 ty → va_RA s c2 ty → c1 = c2) := by
    simp only [List.mem_cons, Prod.mk.injEq, List.not_mem_nil, or_false] at ht
    rcases ht with ⟨rfl, rfl⟩ | ⟨rfl, rfl⟩ | ⟨rfl, rfl⟩
    · exact ⟨by decide, _, rfl, rfl, rfl, by decide, fun c1 c2 h1 h2 => Option.some.inj (Eq.trans (Eq.symm h1) h2)⟩
    · exact ⟨by decide, _, rfl, rfl, rfl, by decide, fun c1 c2 h1 h2 => Option.some.inj (Eq.trans (Eq.symm h1) h2)⟩
    · exact ⟨by decide, _, rfl, rfl, rfl, by decide, fun c1 c2 h1 h2 => Option.some.inj (Eq.trans (Eq.symm h1) h2)⟩
  obtain ⟨ht3, ty, hty, htt, hdv, hcb, hra⟩ := ht3
  have hbytes : n.toNatClampNeg * componentBytes ty ≤ 536870912 := Nat.le_trans (Nat.mul_le_mul hsm hcb) (by decide)
  refine va_newa (atype := at9) B.1.1 B.1.2.1 (B.1.2.2.2.2.1 _ hw) hty B.2.1.1 P.1.2 P.1.apart P.2.1 (fun q h => Nat.le_trans hb h) (a0 := (n.toNatClampNeg, .inl (fun _ => 0))) (fun c1 => by rw [vp_cell_i, hdv]) h0 rfl hbytes (by omega) (by omega) hd (fun q c9 H1 hK hP hD hS => ?_)
  intro T1 hT1 S1
  have hq := kv_fresh hlen hP hD (by rw [← hT1]; exact kv_size1 B P S1)
  subst hq
  have hc9 : c9 = cA t := hra _ _ (hK.2 6 (c9, ty) rfl).2 (B.2.1.1.2 t _ htt).2
  subst hc9
  refine kk B ⟨⟨by simp; omega, ?_⟩, hS, P.2.2.1, by simp; omega, by rw [kv_sum_app]; simp; omega⟩ T1 hT1 S1
  rw [kv_w_app, kv_c_int ht3, kv_z, List.length_replicate]
  exact hP
theorem pw_anewarray {idx t : Nat} {C : String} {n : Int32} (hd : decode X.2.2.1 pc = .ok (.anewarray idx, 3)) (ht : (t, C) ∈ [(4, RX3), (5, RX4)]) (hw : Cond.classLink X.1 idx C ∈ TB) (h0 : ¬ n < 0) (hsm : n.toNatClampNeg ≤ 1000) (hlen : M.length < 1000) (hN : M.length < N) (hZ : kv_sum M + n.toNatClampNeg ≤ Z)
    (kk : PW l E D cA N Z X d fin (pc + 3) ls (.ref M.length :: st) (M ++ [(100 + t, List.replicate n.toNatClampNeg .null)])) : PW l E D cA N Z X d fin pc ls (.int n :: st) M := by
  intro p e R s m args below meth c Q n0 z0 H locs cells slots la B P
  have hr1 := B.2.2.2.2.2.1
  have hr2 := B.2.2.2.2.2.2.1
  have hp1 := P.2.2.2.1
  have hp2 := P.2.2.2.2
  have hb := B.2.2.1.1
  have ht3 : 3 ≤ t ∧ (kv_tys cA)[t]? = some (cA t, .object C) ∧ va_AO C s := by
    simp only [List.mem_cons, Prod.mk.injEq, List.not_mem_nil, or_false] at ht
    rcases ht with ⟨rfl, rfl⟩ | ⟨rfl, rfl⟩
    · exact ⟨by decide, rfl, B.2.1.2.1⟩
    · exact ⟨by decide, rfl, B.2.1.2.2.1⟩
  obtain ⟨ht3, htt, hao⟩ := ht3
  refine va_newq B.1.1 B.1.2.1 B.1.2.2.2.1 (B.1.2.2.2.2.1 _ hw) hao B.2.1.1 P.1.2 P.1.apart P.2.1 (fun q h => Nat.le_trans hb h) h0 rfl (Nat.le_trans (Nat.mul_le_mul_right 4 hsm) (by decide)) (by omega) (by omega) hd (fun q c9 H1 hK hP hD hS => ?_)
  intro T1 hT1 S1
  have hq := kv_fresh hlen hP hD (by rw [← hT1]; exact kv_size1 B P S1)
  subst hq
  have hc9 : c9 = cA t := by
    obtain ⟨-, -, -, -, -, h1⟩ := (hK.2 6 (c9, .object C) rfl).2
    obtain ⟨-, -, -, -, -, h2⟩ := (B.2.1.1.2 t _ htt).2
    exact Option.some.inj (h1.symm.trans h2)
  subst hc9
  refine kk B ⟨⟨by simp; omega, ?_⟩, hS, P.2.2.1, by simp; omega, by rw [kv_sum_app]; simp; omega⟩ T1 hT1 S1
  rw [kv_w_app, kv_c_ref ht3, kv_zr, List.length_replicate]
  exact hP
/-! System.arraycopy of whole rows of ints -/
theorem kv_nfw : nativeFrameWords "java/lang/System" "arraycopy" 5 ≤ 17 := by decide
theorem pw_copy {idx i j : Nat} {n : Int32} {xs ys : List Value} (hd : decode X.2.2.1 pc = .ok (.invokestatic idx, 3)) (hl : Cond.methodLink X.1 idx arraycopyName ∈ TB) (h1 : Cond.native arraycopyName ∈ TB) (h2 : Cond.static arraycopyName ∈ TB) (h3 : Cond.initialized "java/lang/System" ∈ TB)
    (hM : M[i]? = some (100, xs)) (hM2 : M[j]? = some (100, ys)) (h0 : ¬ n < 0) (hx : n.toNatClampNeg = xs.length) (hy : n.toNatClampNeg = ys.length) (hw : (st.map fun v => v.category).sum ≤ 8) (kk : PW l E D cA N Z X (d + 1) fin (pc + 3) ls st (M.set j (100, xs))) : PW l E D cA N Z X (d + 1) fin pc ls (.int n :: .int 0 :: .ref j :: .int 0 :: .ref i :: st) M := by
  intro p e R s m args below meth c Q n0 z0 H locs cells slots la B P
  have hcat : (((st.map (kv_v E)).map fun v => v.category).sum) ≤ 8 := by rw [List.map_map, show ((fun v : Value => v.category) ∘ kv_v E) = (fun v => v.category) from funext fun v => kv_cat E v]; exact hw
  have hr1 := B.2.2.2.1
  have hr2 := B.2.2.2.2.1
  have hnf := kv_nfw
  have hw1 := kv_w_at (E := E) (cA := cA) hM
  have hw2 := kv_w_at (E := E) (cA := cA) hM2
  rw [show (100 : Nat) = 100 + 0 from rfl, kv_c_int (by decide)] at hw1 hw2
  refine va_copyi B.1.1 B.1.2.1 (B.1.2.2.1.trans P.2.2.1.1.symm) B.1.2.2.2.1 (B.1.2.2.2.2.1 _ hl) (B.1.2.2.2.2.1 _ h1) (B.1.2.2.2.2.1 _ h2) (B.1.2.2.2.2.1 _ h3) B.2.1.1 P.1.2 P.1.apart P.2.1 i j 0 0 hw1 hw2 rfl rfl rfl (by decide) (by decide) h0 (by rw [hx]; show 0 + _ ≤ _; omega) (by rw [hy]; show 0 + _ ≤ _; omega) (fun _ _ => rfl) (by omega) (by omega) hd (fun H1 locs1 hP _ hS => kk B (P.set (e1 := (100, xs)) hM2 (by show xs.length = ys.length; omega) ?_ hS))
  rw [show (100 : Nat) = 100 + 0 from rfl, kv_c_int (by decide)]
  have e : va_cpy (fun k => kv_io xs[k]?) (fun k => kv_io ys[k]?) (0 : Int32).toNatClampNeg (0 : Int32).toNatClampNeg n.toNatClampNeg = fun k => kv_io xs[k]? := by
    funext k
    show (if 0 ≤ k ∧ k < 0 + n.toNatClampNeg then kv_io xs[0 + (k - 0)]? else kv_io ys[k]?) = _
    by_cases hk : k < n.toNatClampNeg
    · rw [if_pos ⟨Nat.zero_le _, by omega⟩, Nat.zero_add, Nat.sub_zero]
    · rw [if_neg (by omega), List.getElem?_eq_none (by omega), List.getElem?_eq_none (by omega)]
  rw [e, show ys.length = xs.length by omega] at hP
  exact hP
end PWN
end
section
/-! a copy out of a table that nobody writes, and the making of rows of rows -/
section PWT
variable {l : Launch} {E : EV} {D : va_G} {cA : Nat → ClassId} {N Z : Nat} {X : MT} {d : Nat} {fin : Option Value → List PE → Prop} {pc : Nat} {ls : List (Option Value)} {st : List Value} {M : List PE}
theorem kv_nn {z : Int32} (hz : ¬ z < 0) : z.toInt = (z.toNatClampNeg : Int) := by
  have hz0 : (0 : Int) ≤ z.toInt := by
    have := Int32.not_lt.mp hz
    simpa using Int32.le_iff_toInt_le.mp this
  show z.toInt = ((z.toInt.toNat : Nat) : Int)
  omega
theorem pw_copy_s {idx k j : Nat} {n : Int32} {ys : List Value} (hd : decode X.2.2.1 pc = .ok (.invokestatic idx, 3)) (hl : Cond.methodLink X.1 idx arraycopyName ∈ TB) (h1 : Cond.native arraycopyName ∈ TB) (h2 : Cond.static arraycopyName ∈ TB) (h3 : Cond.initialized "java/lang/System" ∈ TB)
    (hk : k < 4) (hM2 : M[j]? = some (100, ys)) (h0 : ¬ n < 0) (hx : n.toNatClampNeg = E.2.2.1 k) (hy : n.toNatClampNeg = ys.length) (hw : (st.map fun v => v.category).sum ≤ 8) (kk : PW l E D cA N Z X (d + 1) fin (pc + 3) ls st (M.set j (100, (List.range (E.2.2.1 k)).map (fun q => .int (E.2.2.2 k q))))) : PW l E D cA N Z X (d + 1) fin pc ls (.int n :: .int 0 :: .ref j :: .int 0 :: .ref (1000 + k) :: st) M := by
  intro p e R s m args below meth c Q n0 z0 H locs cells slots la B P
  have hcat : (((st.map (kv_v E)).map fun v => v.category).sum) ≤ 8 := by rw [List.map_map, show ((fun v : Value => v.category) ∘ kv_v E) = (fun v => v.category) from funext fun v => kv_cat E v]; exact hw
  have hr1 := B.2.2.2.1
  have hr2 := B.2.2.2.2.1
  have hnf := kv_nfw
  have hw2 := kv_w_at (E := E) (cA := cA) hM2
  rw [show (100 : Nat) = 100 + 0 from rfl, kv_c_int (by decide)] at hw2
  have hK := B.2.1.1
  have hP := P.1.2
  have hS := P.2.1
  have hD := P.1.apart
  intro T hT S
  obtain ⟨scr, hs1, hs2, hs3, hs4, hs4b, hs5, hs7⟩ := B.2.1.2.2.2.2.2.1 k hk
  have hc0 : H[E.2.1 k]? = some scr := by rw [hS.2.1 _ (Array.getElem?_eq_some_iff.mp hs1).1 hs7]; exact hs1
  have hc1 : H[kv_adr E j]? = some (vp_cell (cA 0) (ys.length, .inl (fun j => kv_io ys[j]?))) := hP j _ hw2
  obtain ⟨hs6, k0, hk0, cm0, hkk0⟩ := hs2
  obtain ⟨-, k1, hk1, cm1, hkk1⟩ := (hK.2 0 _ rfl).1 ys.length (fun j => .int (kv_io ys[j]?))
  have n0' : (0 : Int32).toInt = 0 := rfl
  obtain ⟨vm', X', step⟩ := S.arraycopy B.1.1 B.1.2.2.2.1 (B.1.2.2.2.2.1 _ hl) (B.1.2.2.2.2.1 _ h1) (B.1.2.2.2.2.1 _ h2) (B.1.2.2.2.2.1 _ h3) (src := E.2.1 k) (dst := kv_adr E j) (cs := scr) (cd := vp_cell (cA 0) (ys.length, .inl (fun j => kv_io ys[j]?))) (srcPos := 0) (destPos := 0) (n := n) (by rw [hT]; exact hc0) (by rw [hT]; exact hc1)
    hs6 (fun _ h => by cases h) hs3 (fun h => by cases h) hk0 hk1 hkk0 hkk1 (by simp [refKind]) (by decide) (by decide) h0
    (by rw [n0', kv_nn h0]; omega)
    (by rw [n0', kv_nn h0]; show ¬ _ > ((arrV (cA 0) ys.length (fun j => .int (kv_io ys[j]?))).slots.size : Int); rw [arrV_size]; omega)
    (fun vm₁ _ i hi => by
      have e : scr.slots.getD ((0 : Int32).toNatClampNeg + i) .null = .int (E.2.2.2 k ((0 : Int32).toNatClampNeg + i)) := by
        rw [Array.getD_eq_getD_getElem?, hs5 _ (by show 0 + i < _; omega)]
        rfl
      refine ⟨?_, ?_⟩
      · rw [e]
        rfl
      · rw [e]
        exact trivial)
    (g := F0 m pc la ((.int n :: .int 0 :: .ref j :: .int 0 :: .ref (1000 + k) :: st).map (kv_v E))) rfl (by rw [P.2.2.1.1]; exact B.1.2.2.1.symm) (rest := st.map (kv_v E)) (by show _ :: _ :: _ :: _ :: Value.ref (kv_adr E (1000 + k)) :: _ = _; rw [kv_adr_s]; rfl) (by rw [B.1.2.1]; exact hd) (by omega) (by show 2 * 0 + _ + _ ≤ _; omega)
  have e1 : copied scr (vp_cell (cA 0) (ys.length, .inl (fun j => kv_io ys[j]?))) 0 0 n = vp_cell (cA 0) (ys.length, .inl (va_cpy (E.2.2.2 k) (fun j => kv_io ys[j]?) (0 : Int32).toNatClampNeg (0 : Int32).toNatClampNeg n.toNatClampNeg)) := va_copiedX (fun z => .int z) scr (cA 0) (E.2.2.2 k) (fun j => kv_io ys[j]?) hs5 (by show 0 + _ ≤ _; omega)
  have e2 : kv_c E cA (100, (List.range (E.2.2.1 k)).map (fun q => Value.int (E.2.2.2 k q))) = .inl (cA 0, ys.length, .inl (va_cpy (E.2.2.2 k) (fun j => kv_io ys[j]?) (0 : Int32).toNatClampNeg (0 : Int32).toNatClampNeg n.toNatClampNeg)) := by
    rw [show (100 : Nat) = 100 + 0 from rfl, kv_c_int (by decide), List.length_map, List.length_range, ← hx, hy]
    congr 4
    funext q
    show _ = (if 0 ≤ q ∧ q < 0 + ys.length then E.2.2.2 k (0 + (q - 0)) else kv_io ys[q]?)
    by_cases hq : q < ys.length
    · rw [if_pos ⟨Nat.zero_le _, by omega⟩, List.getElem?_map, List.getElem?_range (by omega)]
      simp [kv_io]
    · rw [if_neg (by omega), List.getElem?_eq_none (by simp; omega), List.getElem?_eq_none (by omega)]
  rw [e1] at X' step
  have hl9 : kv_adr E j < H.size := (Array.getElem?_eq_some_iff.mp hc1).1
  generalize hcc : vp_cell (cA 0) (ys.length, .inl (va_cpy (E.2.2.2 k) (fun j => kv_io ys[j]?) (0 : Int32).toNatClampNeg (0 : Int32).toNatClampNeg n.toNatClampNeg)) = cc at X' step
  have hheap : ((T.setVm vm').setCell (kv_adr E j) cc).heap = H.setIfInBounds (kv_adr E j) cc := by rw [← hT]; rfl
  have oq : ∀ q : Nat, q ≠ kv_adr E j → (H.setIfInBounds (kv_adr E j) cc)[q]? = H[q]? := fun q hq => by simp [Array.getElem?_setIfInBounds, Ne.symm hq]
  obtain ⟨t, a1, b1⟩ := kk B (P.set (e1 := (100, (List.range (E.2.2.1 k)).map (fun q => .int (E.2.2.2 k q)))) hM2 (by simp; omega) (hP.set hD hw2 (by rw [e2]; show (H.setIfInBounds _ cc)[_]? = some (vp_cell _ _); rw [hcc]; simp [Array.getElem?_setIfInBounds, hl9]) oq) ⟨by simp; exact hS.1, fun q g1 g2 => by
      rw [oq q (fun e => g2 (by rw [e]; exact hD.2 j _ hw2))]
      exact hS.2.1 q g1 g2, fun q hq => by
      rcases List.mem_append.mp hq with h | h
      · exact hS.2.2 q h
      · obtain ⟨z, -, hz⟩ := List.mem_map.mp h
        rw [← hz]
        exact hD.2 j _ hw2⟩) _ hheap X'
  exact ⟨t, step t a1, b1⟩
end PWT
end
section
/-! new int[n][k] -/
section PWG
variable {l : Launch} {E : EV} {D : va_G} {cA : Nat → ClassId} {N Z : Nat} {X : MT} {d : Nat} {fin : Option Value → List PE → Prop} {pc : Nat} {ls : List (Option Value)} {st : List Value} {M : List PE}
theorem kv_outer (c : ClassId) (N h0 : Nat) : ∀ i : Nat, Jvm.Free.Multi.outerC c N h0 i = arrV c N (fun j => va_rf (if j < i then some (h0 + 1 + j) else none))
  | 0 => by
    show ({ cls := c, slots := Array.replicate N .null, vm := .none } : Cell) = _
    rw [arrV_new]
    refine congrArg (arrV c N) (funext fun j => ?_)
    simp [va_rf]
  | i + 1 => by
    show (Jvm.Free.Multi.outerC c N h0 i).setSlot i (.ref (h0 + 1 + i)) = _
    rw [kv_outer c N h0 i, arrV_store]
    refine congrArg (arrV c N) (funext fun j => ?_)
    by_cases e : j = i
    · subst e
      simp [updV, va_rf]
    · by_cases h : j < i
      · simp [updV, e, h, Nat.lt_succ_of_lt h]
      · simp [updV, e, h, show ¬ j < i + 1 by omega]
def kv_grid (b n k : Nat) : List PE := (103, (List.range n).map (fun j => Value.ref (b + 1 + j))) :: List.replicate n (100, List.replicate k (.int 0))
theorem pw_mnew {idx : Nat} {n k : Int32} (hd : decode X.2.2.1 pc = .ok (.multianewarray idx 2, 4)) (hcl : Cond.classLink X.1 idx ("[" ++ (FieldType.array .int).toString) ∈ TB) (hac : Cond.arrayClass .int ∈ TB) (hn : ¬ n < 0) (hk : ¬ k < 0) (hns : n.toNatClampNeg ≤ 100) (hks : k.toNatClampNeg ≤ 100) (hlen : M.length + n.toNatClampNeg < 1000) (hN : M.length + 1 + n.toNatClampNeg ≤ N) (hZ : kv_sum M + n.toNatClampNeg + n.toNatClampNeg * k.toNatClampNeg ≤ Z)
    (kk : PW l E D cA N Z X d fin (pc + 4) ls (.ref M.length :: st) (M ++ kv_grid M.length n.toNatClampNeg k.toNatClampNeg)) : PW l E D cA N Z X d fin pc ls (.int k :: .int n :: st) M := by
  intro p e R s m args below meth c Q n0 z0 H locs cells slots la B P
  have hr1 := B.2.2.2.2.2.1
  have hr2 := B.2.2.2.2.2.2.1
  have hp1 := P.2.2.2.1
  have hp2 := P.2.2.2.2
  have hb := B.2.2.1.1
  have hK := B.2.1.1
  have hP := P.1.2
  have hS := P.2.1
  intro T hT S
  have hsz := B.size P hT S
  have hsz2 : H.size = E.1 + M.length := by
    rcases Nat.eq_zero_or_pos M.length with h | h
    · have := hS.1
      omega
    · have hg := List.getElem?_eq_getElem (l := M) (i := M.length - 1) (by omega)
      have h9 := (hP _ _ (kv_w_at (E := E) (cA := cA) hg)).lt
      have h10 : kv_adr E (M.length - 1) = E.1 + (M.length - 1) := by
        unfold kv_adr
        rw [if_pos (by omega)]
      rw [h10] at h9
      omega
  obtain ⟨vm₁, c9, comp, -, fA, fC, hO, hI, X', step⟩ := Jvm.Stand.multianewarray2F S B.1.1 B.1.2.2.2.1 (B.1.2.2.2.2.1 _ hcl) B.2.1.2.2.2.1 (B.1.2.2.2.2.1 _ hac) (g := F0 m pc la ((.int k :: .int n :: st).map (kv_v E))) rfl (by rw [B.1.2.1]; exact hd) rfl hn hk (Nat.le_trans (Nat.mul_le_mul_right 4 hns) (by decide)) (Nat.le_trans (Nat.mul_le_mul_right 4 hks) (by decide)) (by omega) rfl rfl (by omega) (by omega)
  have e9 : c9 = cA 3 := Option.some.inj (fA.symm.trans (hK.2 3 _ rfl).2)
  have e8 : comp = cA 0 := Option.some.inj (fC.symm.trans (hK.2 0 _ rfl).2)
  subst e9
  subst e8
  generalize hF : Jvm.Free.Multi.fill (T.setVm vm₁) (cA 3) (cA 0) n.toNatClampNeg k.toNatClampNeg (defaultValue .int) n.toNatClampNeg = F at X' step
  have hTh : (T.setVm vm₁).heap = H := hT
  obtain ⟨f1, f2, -, -⟩ := Jvm.Free.Multi.fill_facts (T.setVm vm₁) (cA 3) (cA 0) n.toNatClampNeg k.toNatClampNeg (defaultValue .int) n.toNatClampNeg
  rw [hF, hTh] at f1 f2
  have hold : ∀ x : Nat, x < H.size → F.heap[x]? = H[x]? := fun x hx => by
    have := Jvm.Free.Multi.fill_old (T.setVm vm₁) (cA 3) (cA 0) n.toNatClampNeg k.toNatClampNeg (defaultValue .int) (a := x) (by rw [hTh]; exact hx) n.toNatClampNeg
    rw [hF, hTh] at this
    exact this
  have hrow : ∀ j : Nat, j < n.toNatClampNeg → F.heap[H.size + 1 + j]? = some (Jvm.Free.Multi.innerC (cA 0) k.toNatClampNeg (defaultValue .int)) := fun j hj => by
    have := Jvm.Free.Multi.fill_inner (T.setVm vm₁) (cA 3) (cA 0) n.toNatClampNeg k.toNatClampNeg (defaultValue .int) n.toNatClampNeg j hj
    rw [hF, hTh] at this
    exact this
  rw [kv_outer] at f2
  have hin : Jvm.Free.Multi.innerC (cA 0) k.toNatClampNeg (defaultValue .int) = vp_cell (cA 0) (k.toNatClampNeg, .inl (fun j : Nat => kv_io (List.replicate k.toNatClampNeg (Value.int 0))[j]?)) := by
    rw [kv_z, vp_cell_i]
    show ({ cls := cA 0, slots := Array.replicate k.toNatClampNeg (defaultValue .int), vm := .none } : Cell) = _
    rw [arrV_new]
    rfl
  have hw9 : ∀ (q : Nat) (x : Nat × va_E), (kv_w E cA (M ++ kv_grid M.length n.toNatClampNeg k.toNatClampNeg))[q]? = some x → va_at D vwCl x F.heap := by
    intro q x hx
    rw [kv_w_get] at hx
    by_cases h1 : q < M.length
    · rw [List.getElem?_append_left h1, ← kv_w_get] at hx
      exact (hP q x hx).kept (hold x.1 ((hP q x hx).lt))
    · rw [List.getElem?_append_right (by omega)] at hx
      by_cases h2 : q = M.length
      · subst h2
        rw [Nat.sub_self] at hx
        cases hx
        show va_at D vwCl (kv_adr E M.length, kv_c E cA (100 + 3, _)) F.heap
        rw [kv_c_ref (by decide)]
        show F.heap[kv_adr E M.length]? = some (vp_cell _ _)
        have ha : kv_adr E M.length = H.size := by
          unfold kv_adr
          rw [if_pos (by omega), hsz2]
        rw [ha, f2, vp_cell_q, List.length_map, List.length_range]
        refine congrArg some (congrArg (arrV _ _) (funext fun j => ?_))
        rw [List.getElem?_map]
        by_cases hj : j < n.toNatClampNeg
        · rw [if_pos hj, List.getElem?_range hj]
          have hz : kv_adr E (M.length + 1 + j) = H.size + 1 + j := by
            unfold kv_adr
            rw [if_pos (by omega), hsz2]
            omega
          show va_rf (some (H.size + 1 + j)) = va_rf (some (kv_adr E (M.length + 1 + j)))
          rw [hz]
        · rw [if_neg hj, List.getElem?_eq_none (by simp; omega)]
          rfl
      · have h3 : q - M.length = (q - M.length - 1) + 1 := by omega
        rw [h3] at hx
        unfold kv_grid at hx
        rw [List.getElem?_cons_succ, List.getElem?_replicate] at hx
        by_cases h4 : q - M.length - 1 < n.toNatClampNeg
        · rw [if_pos h4] at hx
          cases hx
          show va_at D vwCl (kv_adr E q, kv_c E cA (100 + 0, _)) F.heap
          rw [kv_c_int (by decide)]
          show F.heap[kv_adr E q]? = some (vp_cell _ _)
          have ha : kv_adr E q = H.size + 1 + (q - M.length - 1) := by
            unfold kv_adr
            rw [if_pos (by omega)]
            omega
          rw [ha, hrow _ h4, hin, List.length_replicate]
        · rw [if_neg h4] at hx
          cases hx
  have hstep : ∃ t, Steps p.tables e below (F.setTop (F0 m (pc + 4) la ((.ref M.length :: st).map (kv_v E)))) t ∧ Q t := by
    refine kk B ⟨⟨by simp [kv_grid]; omega, hw9⟩, ⟨by rw [f1]; have := hS.1; omega, fun q g1 g2 => (hold q (by have := hS.1; omega)).trans (hS.2.1 q g1 g2), hS.2.2⟩, P.2.2.1, ?_, ?_⟩ F rfl X'
    · simp [kv_grid]
      omega
    · simp [kv_sum, kv_grid] at hp2 ⊢
      omega
  obtain ⟨t, a1, b1⟩ := hstep
  refine ⟨t, step t ?_, b1⟩
  have ha : T.heap.size = kv_adr E M.length := by
    unfold kv_adr
    rw [if_pos (by omega), hT, hsz2]
  rw [ha]
  exact a1
end PWG
end
section
/-! THE STANDING WORLD: behind the constructors no cell is made and no reference changes but Game.state: memory is a table of ints -/
def ly_z (n : Nat) : List Nat := List.replicate n 0
def ly_S (b : Nat) : List (Nat × List Nat) := [(3, [b + 3, b + 4, b + 5, b + 6, 0, b + 7, 0]), (100, ly_z 3), (100, ly_z 8), (100, ly_z 8), (100, ly_z 8), (105, (List.range 6).map (fun t => b + 8 + 2 * t))] ++ (List.range 6).flatMap (fun t => [(4, [b + 9 + 2 * t, 0, 0, 0, 0]), (100, ly_z 8)])
def ly_g (b : Nat) : List (Nat × List Nat) := (103, (List.range 6).map (fun t => b + 3 + t)) :: List.replicate 6 (100, ly_z 8)
/-- the cells: kind, and of each slot: 0 an int, 1 the state that is played, r + 2 always the cell r -/
def ly_all : List (Nat × List Nat) :=
  [(5, [3, 21, 39, 79, 81, 191, 192])] ++ ly_S 1 ++ ly_S 19 ++ [(0, [1, 0, 40, 41, 48, 55, 62, 69, 76, 77, 78]), (100, ly_z 6)] ++ ly_g 39 ++ ly_g 46 ++ ly_g 53 ++ ly_g 60 ++ ly_g 67 ++ [(100, ly_z 6), (100, ly_z 6), (100, ly_z 8)]
  ++ [(2, [80, 0]), (101, ly_z 20), (1, [82, 0, 0]), (104, (List.range 6).map (fun h => 83 + 18 * h))] ++ ly_S 81 ++ ly_S 99 ++ ly_S 117 ++ ly_S 135 ++ ly_S 153 ++ ly_S 171 ++ [(104, [193, 211]), (102, ly_z 2)] ++ ly_S 191 ++ ly_S 209
  ++ [(6, [230, 231, 232, 233, 234, 235, 0, 236, 0, 0, 237, 238, 0, 0, 239, 240, 241, 242, 243, 244, 245, 246, 247]), (100, ly_z 108), (100, ly_z 648), (100, ly_z 108), (100, ly_z 108), (100, ly_z 216), (102, ly_z 2), (100, ly_z 20), (100, ly_z 8), (100, ly_z 8), (100, ly_z 6), (100, ly_z 48), (100, ly_z 48), (100, ly_z 48), (100, ly_z 48), (100, ly_z 48), (100, ly_z 6), (100, ly_z 6), (100, ly_z 8)]
def ly_k (i : Nat) : Nat := (ly_all.getD i (0, [])).1
def ly_n (i : Nat) : Nat := (ly_all.getD i (0, [])).2.length
def ly_s (i k : Nat) : Nat := (ly_all.getD i (0, [])).2.getD k 99
theorem ly_len : ly_all.length = 246 := by decide +kernel
abbrev Mu : Type := Nat → Nat → Int32
def u2 (μ : Mu) (i k : Nat) (x : Int32) : Mu := fun a b => if a = i ∧ b = k then x else μ a b
def em_d (x : Int32) : Value := if x < 0 then .null else .ref x.toNatClampNeg
def em_v (μ : Mu) (i k : Nat) : Value := match ly_s i k with
  | 0 => .int (μ i k)
  | 1 => em_d (μ i k)
  | r + 2 => .ref r
def em_r (μ : Mu) (i : Nat) : List Value := (List.range (ly_n i)).map (em_v μ i)
def em (μ : Mu) : List PE := (List.range 246).map (fun i => (ly_k i, em_r μ i))
theorem em_len (μ : Mu) : (em μ).length = 246 := by simp [em]
theorem em_at {μ : Mu} {i : Nat} (h : i < 246) : (em μ)[i]? = some (ly_k i, em_r μ i) := by
  unfold em
  rw [List.getElem?_map, List.getElem?_range h]
  rfl
theorem em_ra {μ : Mu} {i k : Nat} (h : k < ly_n i) : (em_r μ i)[k]? = some (em_v μ i k) := by
  unfold em_r
  rw [List.getElem?_map, List.getElem?_range h]
  rfl
theorem em_rl {μ : Mu} {i : Nat} : (em_r μ i).length = ly_n i := by simp [em_r]
theorem em_ext {μ ν : Mu} (h : ∀ i k, i < 246 → k < ly_n i → em_v μ i k = em_v ν i k) : em μ = em ν := by
  unfold em
  apply List.map_congr_left
  intro i hi
  have hi := List.mem_range.mp hi
  congr 1
  unfold em_r
  apply List.map_congr_left
  intro k hk
  exact h i k hi (List.mem_range.mp hk)
theorem em_setv {μ ν : Mu} {i k : Nat} {v : Value} (hi : i < 246) (hk : k < ly_n i) (h1 : em_v ν i k = v) (h2 : ∀ a b, ¬ (a = i ∧ b = k) → em_v ν a b = em_v μ a b) : (em μ).set i (ly_k i, (em_r μ i).set k v) = em ν := by
  apply List.ext_getElem?
  intro j
  rw [List.getElem?_set]
  by_cases hj : j < 246
  · by_cases e : i = j
    · subst e
      rw [if_pos rfl, if_pos (by rw [em_len]; exact hi), em_at hi]
      congr 2
      apply List.ext_getElem?
      intro b
      rw [List.getElem?_set]
      by_cases hb : b < ly_n i
      · by_cases e2 : k = b
        · subst e2
          rw [if_pos rfl, if_pos (by rw [em_rl]; exact hk), em_ra hk, h1]
        · rw [if_neg e2, em_ra hb, em_ra hb, h2 i b (fun q => e2 q.2.symm)]
      · rw [List.getElem?_eq_none (l := em_r ν i) (by rw [em_rl]; omega)]
        rw [if_neg (by omega), List.getElem?_eq_none (by rw [em_rl]; omega)]
    · rw [if_neg e, em_at hj, em_at hj]
      congr 2
      unfold em_r
      apply List.map_congr_left
      intro b _
      exact (h2 j b (fun q => e q.1.symm)).symm
  · rw [List.getElem?_eq_none (l := em ν) (by rw [em_len]; omega)]
    rw [if_neg (by omega), List.getElem?_eq_none (by rw [em_len]; omega)]
theorem em_set {μ : Mu} {i k : Nat} {x : Int32} (hi : i < 246) (hk : k < ly_n i) (hs : ly_s i k = 0) : (em μ).set i (ly_k i, (em_r μ i).set k (.int x)) = em (u2 μ i k x) := by
  refine em_setv hi hk ?_ ?_
  · simp [em_v, hs, u2]
  · intro a b h
    simp [em_v, u2, h]
theorem em_setd {μ : Mu} {i k r : Nat} (hi : i < 246) (hk : k < ly_n i) (hs : ly_s i k = 1) (hr : r < 2 ^ 31) : (em μ).set i (ly_k i, (em_r μ i).set k (.ref r)) = em (u2 μ i k (nI r)) := by
  refine em_setv hi hk ?_ ?_
  · have h0 : ¬ nI r < 0 := nI_pos hr
    simp [em_v, hs, u2, em_d, h0, nI_clamp hr]
  · intro a b h
    simp [em_v, u2, h]
/-- a row of ints is copied whole -/
def u2c (μ : Mu) (j i : Nat) : Mu := fun a b => if a = j then μ i b else μ a b
theorem em_cpy {μ : Mu} {i j : Nat} (hj : j < 246) (hn : ly_n i = ly_n j) (hk : ly_k j = 100) (h1 : ∀ k, k < ly_n i → ly_s i k = 0 ∧ ly_s j k = 0) : (em μ).set j (100, em_r μ i) = em (u2c μ j i) := by
  apply List.ext_getElem?
  intro a
  rw [List.getElem?_set]
  by_cases ha : a < 246
  · by_cases e : j = a
    · subst e
      rw [if_pos rfl, if_pos (by rw [em_len]; exact hj), em_at hj, hk]
      congr 2
      unfold em_r
      rw [hn]
      apply List.map_congr_left
      intro b hb
      have hb := List.mem_range.mp hb
      obtain ⟨q1, q2⟩ := h1 b (by omega)
      simp [em_v, q1, q2, u2c]
    · rw [if_neg e, em_at ha, em_at ha]
      congr 2
      unfold em_r
      apply List.map_congr_left
      intro b _
      have e2 : ¬ a = j := fun q => e q.symm
      simp [em_v, u2c, e2]
  · rw [List.getElem?_eq_none (l := em _) (by rw [em_len]; omega)]
    rw [if_neg (by omega), List.getElem?_eq_none (by rw [em_len]; omega)]
def em_Z : Nat := (ly_all.map (fun e => e.2.length)).sum
theorem em_sum (μ : Mu) : kv_sum (em μ) = em_Z := by
  unfold kv_sum em
  rw [List.map_map]
  have e : ((fun e : PE => e.2.length) ∘ fun i => (ly_k i, em_r μ i)) = fun i => ly_n i := by
    funext i
    simp [em_r]
  rw [e]
  decide +kernel
/-- a slot: the cell is there, of that kind, and the slot holds that -/
def okk (i k c s : Nat) : Bool := decide (i < 246) && (ly_k i == c) && decide (k < ly_n i) && (ly_s i k == s)
theorem okk_of {i k c s : Nat} (h : okk i k c s = true) : i < 246 ∧ ly_k i = c ∧ k < ly_n i ∧ ly_s i k = s := by
  unfold okk at h
  simp only [Bool.and_eq_true, decide_eq_true_eq, beq_iff_eq] at h
  exact ⟨h.1.1.1, h.1.1.2, h.1.2, h.2⟩
abbrev PS (l : Launch) (E : EV) (D : va_G) (cA : Nat → ClassId) (X : MT) (d : Nat) (fin : Option Value → Mu → Prop) (pc : Nat) (ls : List (Option Value)) (st : List Value) (μ : Mu) : Prop :=
  PW l E D cA 246 em_Z X d (fun r M => ∃ ν, M = em ν ∧ fin r ν) pc ls st (em μ)
end
section
/-! rows of the standing world -/
def fI (ci k : Nat) : Bool := match vwCl[ci]? with
  | some q => (q.2.1 k).2.2.1 == "I" && !(q.2.1 k).2.2.2
  | none => false
theorem fI_fit {ci k : Nat} {x : Int32} (h : fI ci k = true) : kv_fit ci k (.int x) := by
  intro q hq
  unfold fI at h
  rw [hq] at h
  simp only [Bool.and_eq_true, beq_iff_eq] at h
  exact ⟨.int, by rw [h.1]; rfl, rfl, rfl⟩
theorem fI_fin {ci k : Nat} (h : fI ci k = true) {q : vw_C} (hq : vwCl[ci]? = some q) : (q.2.1 k).2.2.2 = false := by
  unfold fI at h
  rw [hq] at h
  simp only [Bool.and_eq_true, Bool.not_eq_true'] at h
  exact h.2
theorem pw_mono {l : Launch} {E : EV} {D : va_G} {cA : Nat → ClassId} {N Z : Nat} {X : MT} {d : Nat} {fin fin' : Option Value → List PE → Prop} {pc : Nat} {ls : List (Option Value)} {st : List Value} {M : List PE} (hf : ∀ r M1, fin r M1 → fin' r M1) (h : PW l E D cA N Z X d fin pc ls st M) : PW l E D cA N Z X d fin' pc ls st M :=
  fun _ _ _ _ _ _ _ _ _ _ _ _ _ _ _ _ _ B P => h ⟨B.1, B.2.1, B.2.2.1, B.2.2.2.1, B.2.2.2.2.1, B.2.2.2.2.2.1, B.2.2.2.2.2.2.1, fun r M' H' locs' c' s' pc' la' h1 => B.2.2.2.2.2.2.2 r M' H' locs' c' s' pc' la' (hf r M' h1)⟩ P
section PSR
variable {l : Launch} {E : EV} {D : va_G} {cA : Nat → ClassId} {X : MT} {d : Nat} {fin : Option Value → Mu → Prop} {pc : Nat} {ls : List (Option Value)} {st : List Value} {μ : Mu}
theorem ps_geti {i idx ci k : Nat} {x : Int32} (hd : decode X.2.2.1 pc = .ok (.getfield idx, 3)) (hf : kv_f X.1 idx ci k) (hci : ci < 100) (hk : okk i k ci 0 = true) (hx : μ i k = x) (kk : PS l E D cA X d fin (pc + 3) ls (.int x :: st) μ) : PS l E D cA X d fin pc ls (.ref i :: st) μ := by
  obtain ⟨h1, h2, h3, h4⟩ := okk_of hk
  subst h2
  exact pw_getf hd hf hci (em_at h1) (em_ra h3) (by rw [show em_v μ i k = .int x by simp [em_v, h4, hx]]; exact kk)
theorem ps_getr {i idx ci k r : Nat} (hd : decode X.2.2.1 pc = .ok (.getfield idx, 3)) (hf : kv_f X.1 idx ci k) (hci : ci < 100) (hk : okk i k ci (r + 2) = true) (kk : PS l E D cA X d fin (pc + 3) ls (.ref r :: st) μ) : PS l E D cA X d fin pc ls (.ref i :: st) μ := by
  obtain ⟨h1, h2, h3, h4⟩ := okk_of hk
  subst h2
  exact pw_getf hd hf hci (em_at h1) (em_ra h3) (by rw [show em_v μ i k = .ref r by simp [em_v, h4]]; exact kk)
theorem ps_getd {i idx ci k r : Nat} (hd : decode X.2.2.1 pc = .ok (.getfield idx, 3)) (hf : kv_f X.1 idx ci k) (hci : ci < 100) (hk : okk i k ci 1 = true) (hr : r < 2 ^ 31) (hx : μ i k = nI r) (kk : PS l E D cA X d fin (pc + 3) ls (.ref r :: st) μ) : PS l E D cA X d fin pc ls (.ref i :: st) μ := by
  obtain ⟨h1, h2, h3, h4⟩ := okk_of hk
  subst h2
  exact pw_getf hd hf hci (em_at h1) (em_ra h3) (by rw [show em_v μ i k = .ref r by simp [em_v, h4, hx, em_d, nI_pos hr, nI_clamp hr]]; exact kk)
theorem ps_puti {i idx ci k : Nat} {x : Int32} (hd : decode X.2.2.1 pc = .ok (.putfield idx, 3)) (hf : kv_f X.1 idx ci k) (hci : ci < 100) (hI : fI ci k = true) (hk : okk i k ci 0 = true) (kk : PS l E D cA X d fin (pc + 3) ls st (u2 μ i k x)) : PS l E D cA X d fin pc ls (.int x :: .ref i :: st) μ := by
  obtain ⟨h1, h2, h3, h4⟩ := okk_of hk
  subst h2
  exact pw_putf hd hf hci (em_at h1) (by rw [em_rl]; exact h3) (fI_fit hI) (fun q hq => Or.inl (fI_fin hI hq)) (by rw [em_set h1 h3 h4]; exact kk)
theorem ps_putd {i idx ci k r : Nat} (hd : decode X.2.2.1 pc = .ok (.putfield idx, 3)) (hf : kv_f X.1 idx ci k) (hci : ci < 100) (hI : ∀ q : vw_C, vwCl[ci]? = some q → (q.2.1 k).2.2.1 = "LTrailTeams$State;" ∧ (q.2.1 k).2.2.2 = false) (hk : okk i k ci 1 = true) (hr : r < 2 ^ 31) (kk : PS l E D cA X d fin (pc + 3) ls st (u2 μ i k (nI r))) : PS l E D cA X d fin pc ls (.ref r :: .ref i :: st) μ := by
  obtain ⟨h1, h2, h3, h4⟩ := okk_of hk
  subst h2
  exact pw_putf hd hf hci (em_at h1) (by rw [em_rl]; exact h3) (fun q hq => ⟨.object "TrailTeams$State", by rw [(hI q hq).1]; decide +kernel, rfl, rfl⟩) (fun q hq => Or.inl (hI q hq).2) (by rw [em_setd h1 h3 h4 hr]; exact kk)
theorem ps_n0 {ix : Int32} {j : Nat} (h : j < 2 ^ 31) (hj : ix = nI j) : ¬ ix < 0 ∧ ix.toNatClampNeg = j := by
  subst hj
  exact ⟨nI_pos h, nI_clamp h⟩
theorem ly_small {i : Nat} : ly_n i < 2 ^ 31 := by
  by_cases h : i < 246
  · have : ∀ i, i < 246 → ly_n i < 2 ^ 31 := by decide +kernel
    exact this i h
  · unfold ly_n
    rw [List.getD_eq_getElem?_getD, List.getElem?_eq_none (by rw [ly_len]; omega)]
    decide
theorem ps_iald {i j : Nat} {ix x : Int32} (hd : decode X.2.2.1 pc = .ok (.iaload, 1)) (hj : ix = nI j) (hk : okk i j 100 0 = true) (hx : μ i j = x) (kk : PS l E D cA X d fin (pc + 1) ls (.int x :: st) μ) : PS l E D cA X d fin pc ls (.int ix :: .ref i :: st) μ := by
  obtain ⟨h1, h2, h3, h4⟩ := okk_of hk
  obtain ⟨g1, g2⟩ := ps_n0 (Nat.lt_trans h3 ly_small) hj
  exact pw_iaload hd (h2 ▸ em_at h1) g1 (by rw [g2, em_ra h3, show em_v μ i j = .int x by simp [em_v, h4, hx]]) kk
theorem ps_cald {i j : Nat} {ix x : Int32} (hd : decode X.2.2.1 pc = .ok (.caload, 1)) (hj : ix = nI j) (hk : okk i j 101 0 = true) (hx : μ i j = x) (kk : PS l E D cA X d fin (pc + 1) ls (.int x :: st) μ) : PS l E D cA X d fin pc ls (.int ix :: .ref i :: st) μ := by
  obtain ⟨h1, h2, h3, h4⟩ := okk_of hk
  obtain ⟨g1, g2⟩ := ps_n0 (Nat.lt_trans h3 ly_small) hj
  exact pw_caload hd (h2 ▸ em_at h1) g1 (by rw [g2, em_ra h3, show em_v μ i j = .int x by simp [em_v, h4, hx]]) kk
theorem ps_bald {i j : Nat} {ix x : Int32} (hd : decode X.2.2.1 pc = .ok (.baload, 1)) (hj : ix = nI j) (hk : okk i j 102 0 = true) (hx : μ i j = x) (kk : PS l E D cA X d fin (pc + 1) ls (.int x :: st) μ) : PS l E D cA X d fin pc ls (.int ix :: .ref i :: st) μ := by
  obtain ⟨h1, h2, h3, h4⟩ := okk_of hk
  obtain ⟨g1, g2⟩ := ps_n0 (Nat.lt_trans h3 ly_small) hj
  exact pw_baload hd (h2 ▸ em_at h1) g1 (by rw [g2, em_ra h3, show em_v μ i j = .int x by simp [em_v, h4, hx]]) kk
theorem ps_iast {i j : Nat} {ix x : Int32} (hd : decode X.2.2.1 pc = .ok (.iastore, 1)) (hj : ix = nI j) (hk : okk i j 100 0 = true) (kk : PS l E D cA X d fin (pc + 1) ls st (u2 μ i j x)) : PS l E D cA X d fin pc ls (.int x :: .int ix :: .ref i :: st) μ := by
  obtain ⟨h1, h2, h3, h4⟩ := okk_of hk
  obtain ⟨g1, g2⟩ := ps_n0 (Nat.lt_trans h3 ly_small) hj
  exact pw_iastore hd (h2 ▸ em_at h1) g1 (by rw [g2, em_rl]; exact h3) (by rw [g2, ← h2, em_set h1 h3 h4]; exact kk)
theorem ps_cast {i j : Nat} {ix x : Int32} (hd : decode X.2.2.1 pc = .ok (.castore, 1)) (hj : ix = nI j) (hk : okk i j 101 0 = true) (kk : PS l E D cA X d fin (pc + 1) ls st (u2 μ i j (vp_nar .char x))) : PS l E D cA X d fin pc ls (.int x :: .int ix :: .ref i :: st) μ := by
  obtain ⟨h1, h2, h3, h4⟩ := okk_of hk
  obtain ⟨g1, g2⟩ := ps_n0 (Nat.lt_trans h3 ly_small) hj
  exact pw_castore hd (h2 ▸ em_at h1) g1 (by rw [g2, em_rl]; exact h3) (by rw [g2, ← h2, em_set h1 h3 h4]; exact kk)
theorem ps_bast {i j : Nat} {ix x : Int32} (hd : decode X.2.2.1 pc = .ok (.bastore, 1)) (hj : ix = nI j) (hk : okk i j 102 0 = true) (kk : PS l E D cA X d fin (pc + 1) ls st (u2 μ i j (vp_nar .boolean x))) : PS l E D cA X d fin pc ls (.int x :: .int ix :: .ref i :: st) μ := by
  obtain ⟨h1, h2, h3, h4⟩ := okk_of hk
  obtain ⟨g1, g2⟩ := ps_n0 (Nat.lt_trans h3 ly_small) hj
  exact pw_bastore hd (h2 ▸ em_at h1) g1 (by rw [g2, em_rl]; exact h3) (by rw [g2, ← h2, em_set h1 h3 h4]; exact kk)
theorem ps_aald {i j t r : Nat} {ix : Int32} (hd : decode X.2.2.1 pc = .ok (.aaload, 1)) (hj : ix = nI j) (hk : okk i j (100 + t) (r + 2) = true) (ht : t = 3 ∨ t = 4 ∨ t = 5) (kk : PS l E D cA X d fin (pc + 1) ls (.ref r :: st) μ) : PS l E D cA X d fin pc ls (.int ix :: .ref i :: st) μ := by
  obtain ⟨h1, h2, h3, h4⟩ := okk_of hk
  obtain ⟨g1, g2⟩ := ps_n0 (Nat.lt_trans h3 ly_small) hj
  exact pw_aaload hd (h2 ▸ em_at h1) ht g1 (by rw [g2, em_ra h3, show em_v μ i j = .ref r by simp [em_v, h4]]) kk
theorem ps_alen {i n : Nat} (hd : decode X.2.2.1 pc = .ok (.arraylength, 1)) (h1 : i < 246) (h2 : ly_k i = 100) (hn : ly_n i = n) (kk : PS l E D cA X d fin (pc + 1) ls (.int (nI n) :: st) μ) : PS l E D cA X d fin pc ls (.ref i :: st) μ := by
  subst hn
  exact pw_alen (t := 0) hd (h2 ▸ em_at h1) (by decide) (by rw [em_rl]; exact kk)
theorem ps_iald_s {k j : Nat} {ix x : Int32} (hd : decode X.2.2.1 pc = .ok (.iaload, 1)) (hk : k < 4) (hjs : j < 2 ^ 31) (hj : ix = nI j) (h1 : j < E.2.2.1 k) (hx : E.2.2.2 k j = x) (kk : PS l E D cA X d fin (pc + 1) ls (.int x :: st) μ) : PS l E D cA X d fin pc ls (.int ix :: .ref (1000 + k) :: st) μ := by
  obtain ⟨g1, g2⟩ := ps_n0 hjs hj
  exact pw_iaload_s hd hk g1 (by rw [g2]; exact h1) (by rw [g2, hx]; exact kk)
theorem ps_copy {idx i j n : Nat} (hd : decode X.2.2.1 pc = .ok (.invokestatic idx, 3)) (hl : Cond.methodLink X.1 idx arraycopyName ∈ TB) (h1 : Cond.native arraycopyName ∈ TB) (h2 : Cond.static arraycopyName ∈ TB) (h3 : Cond.initialized "java/lang/System" ∈ TB)
    (hi : i < 246) (hj : j < 246) (hki : ly_k i = 100) (hkj : ly_k j = 100) (hni : ly_n i = n) (hnj : ly_n j = n) (hz : ∀ k, k < n → ly_s i k = 0 ∧ ly_s j k = 0) {m : Int32} (hm : m = nI n) (hw : (st.map fun v => v.category).sum ≤ 8) (kk : PS l E D cA X (d + 1) fin (pc + 3) ls st (u2c μ j i)) : PS l E D cA X (d + 1) fin pc ls (.int m :: .int 0 :: .ref j :: .int 0 :: .ref i :: st) μ := by
  obtain ⟨g1, g2⟩ := ps_n0 (ix := m) (by rw [← hni]; exact ly_small) hm
  exact pw_copy hd hl h1 h2 h3 (hki ▸ em_at hi) (hkj ▸ em_at hj) g1 (by rw [g2, em_rl, hni]) (by rw [g2, em_rl, hnj]) hw (by rw [em_cpy hj (hni.trans hnj.symm) hkj (by rw [hni]; exact hz)]; exact kk)
theorem ps_iret {v : Int32} {ty : FieldType} (hd : decode X.2.2.1 pc = .ok (.ireturn, 1)) (ht : X.2.2.2.2 = some ty) (hn : narrow ty (.int v) = .int v) (hf : fin (some (.int v)) μ) : PS l E D cA X d fin pc ls [.int v] μ :=
  pw_ireturn hd ht hn (em_len μ) (em_sum μ) ⟨μ, rfl, hf⟩
theorem ps_ret (hd : decode X.2.2.1 pc = .ok (.return_, 1)) (ht : X.2.2.2.2 = none) (hf : fin none μ) : PS l E D cA X d fin pc ls [] μ :=
  pw_return hd ht (em_len μ) (em_sum μ) ⟨μ, rfl, hf⟩
/-- a call site: what the tables say of it -/
def kv_cV (own : String) (idx : Nat) (Y : MT) (ci n : Nat) : Prop := kv_Y Y n ∧ Cond.methodLink own idx Y.2.1 ∈ TB ∧ Cond.instanceMethod Y.2.1 ∈ TB ∧ ci < 100 ∧ ∃ q : vw_C, vwCl[ci]? = some q ∧ Cond.selects q.1 Y.2.1 Y.2.1 ∈ TB
def kv_cS (own : String) (idx : Nat) (Y : MT) (n : Nat) : Prop := kv_Y Y n ∧ Cond.methodLink own idx Y.2.1 ∈ TB ∧ Cond.static Y.2.1 ∈ TB
theorem ps_callV {Y : MT} {idx b ci : Nat} {As st0 : List Value} (hd : decode X.2.2.1 pc = .ok (.invokevirtual idx, 3)) (hc : kv_cV X.1 idx Y ci As.length) (hst : st0 = As.reverse ++ .ref b :: st) (hb : b < 246 ∧ ly_k b = ci) (hL : (kv_fl (.ref b :: As)).length ≤ Y.2.2.2.1) (hw : (st.map fun v => v.category).sum ≤ 8)
    (kk : PS l E D cA Y d (fun r ν => PS l E D cA X (d + 1) fin (pc + 3) ls (r.toList ++ st) ν) 0 (kv_en Y.2.2.2.1 (.ref b :: As)) [] μ) : PS l E D cA X (d + 1) fin pc ls st0 μ := by
  obtain ⟨hY, hl, hin, hci, q, hq, hse⟩ := hc
  exact pw_callV hd hY hl hin hse hst (em_at hb.1) (hb.2 ▸ hci) (hb.2 ▸ hq) hL hw ⟨by rw [em_len]; exact Nat.le_refl _, Nat.le_refl _⟩ ⟨by rw [em_sum]; exact Nat.le_refl _, Nat.le_refl _⟩ (pw_mono (fun r M h => by obtain ⟨ν, rfl, h⟩ := h; exact h) kk)
theorem ps_callS {Y : MT} {idx : Nat} {As st0 : List Value} (hd : decode X.2.2.1 pc = .ok (.invokestatic idx, 3)) (hc : kv_cS X.1 idx Y As.length) (hst : st0 = As.reverse ++ st) (hL : (kv_fl As).length ≤ Y.2.2.2.1) (hw : (st.map fun v => v.category).sum ≤ 8)
    (kk : PS l E D cA Y d (fun r ν => PS l E D cA X (d + 1) fin (pc + 3) ls (r.toList ++ st) ν) 0 (kv_en Y.2.2.2.1 As) [] μ) : PS l E D cA X (d + 1) fin pc ls st0 μ :=
  pw_callS hd hc.1 hc.2.1 hc.2.2 hst hL hw ⟨by rw [em_len]; exact Nat.le_refl _, Nat.le_refl _⟩ ⟨by rw [em_sum]; exact Nat.le_refl _, Nat.le_refl _⟩ (pw_mono (fun r M h => by obtain ⟨ν, rfl, h⟩ := h; exact h) kk)
theorem ps_callSN {Y : MT} {idx : Nat} {host : String} {As st0 : List Value} (hd : decode X.2.2.1 pc = .ok (.invokestatic idx, 3)) (hY : kv_Y Y As.length) (hl : Cond.methodLinkNest X.1 idx Y.2.1 host ∈ kv_NW) (hs : Cond.static Y.2.1 ∈ TB) (hst : st0 = As.reverse ++ st) (hL : (kv_fl As).length ≤ Y.2.2.2.1) (hw : (st.map fun v => v.category).sum ≤ 8)
    (kk : PS l E D cA Y d (fun r ν => PS l E D cA X (d + 1) fin (pc + 3) ls (r.toList ++ st) ν) 0 (kv_en Y.2.2.2.1 As) [] μ) : PS l E D cA X (d + 1) fin pc ls st0 μ :=
  pw_callSN hd hY hl hs hst hL hw ⟨by rw [em_len]; exact Nat.le_refl _, Nat.le_refl _⟩ ⟨by rw [em_sum]; exact Nat.le_refl _, Nat.le_refl _⟩ (pw_mono (fun r M h => by obtain ⟨ν, rfl, h⟩ := h; exact h) kk)
theorem ps_mono {fin' : Option Value → Mu → Prop} (hf : ∀ r ν, fin r ν → fin' r ν) (h : PS l E D cA X d fin pc ls st μ) : PS l E D cA X d fin' pc ls st μ :=
  pw_mono (fun r M h => by obtain ⟨ν, e, h⟩ := h; exact ⟨ν, e, hf r ν h⟩) h
end PSR
end
section
/-! the tables, by program: methods, call sites, fields, constants -/
theorem tb_t (i : Nat) {w : Cond} (h : tables_1[i]? = some w) (hg : goodWord w = true) : w ∈ TB := List.mem_filter.mpr ⟨List.mem_append_right _ (List.mem_of_getElem? h), hg⟩
theorem tb_s (i : Nat) {w : Cond} (h : (k2_sels lw_privs)[i]? = some w) (hg : goodWord w = true) : w ∈ TB := List.mem_filter.mpr ⟨List.mem_append_left _ (List.mem_of_getElem? h), hg⟩
theorem inX0 : ∀ w ∈ u_ws RX0 TX0 11, w ∈ TB := show ∀ w ∈ ([(Cond.lays "TrailTeams$Game" "TrailTeams$Game" "state" "LTrailTeams$State;"), (Cond.lays "TrailTeams$Game" "TrailTeams$Game" "teamCount" "I"), (Cond.laysFinal "TrailTeams$Game" "TrailTeams$Game" "trailLengths" "[I"), (Cond.laysFinal "TrailTeams$Game" "TrailTeams$Game" "places" "[[I"), (Cond.laysFinal "TrailTeams$Game" "TrailTeams$Game" "walks" "[[I"), (Cond.laysFinal "TrailTeams$Game" "TrailTeams$Game" "comes" "[[I"), (Cond.laysFinal "TrailTeams$Game" "TrailTeams$Game" "begins" "[[I"), (Cond.laysFinal "TrailTeams$Game" "TrailTeams$Game" "ends" "[[I"), (Cond.laysFinal "TrailTeams$Game" "TrailTeams$Game" "visitsMade" "[I"), (Cond.laysFinal "TrailTeams$Game" "TrailTeams$Game" "goesOn" "[I"), (Cond.laysFinal "TrailTeams$Game" "TrailTeams$Game" "freeFrom" "[I")] : List Cond), w ∈ TB from List.forall_mem_cons.mpr ⟨tb_t 127 (by decide +kernel) rfl, List.forall_mem_cons.mpr ⟨tb_t 129 (by decide +kernel) rfl, List.forall_mem_cons.mpr ⟨tb_t 131 (by decide +kernel) rfl, List.forall_mem_cons.mpr ⟨tb_t 133 (by decide +kernel) rfl, List.forall_mem_cons.mpr ⟨tb_t 135 (by decide +kernel) rfl, List.forall_mem_cons.mpr ⟨tb_t 137 (by decide +kernel) rfl, List.forall_mem_cons.mpr ⟨tb_t 139 (by decide +kernel) rfl, List.forall_mem_cons.mpr ⟨tb_t 141 (by decide +kernel) rfl, List.forall_mem_cons.mpr ⟨tb_t 143 (by decide +kernel) rfl, List.forall_mem_cons.mpr ⟨tb_t 145 (by decide +kernel) rfl, List.forall_mem_cons.mpr ⟨tb_t 147 (by decide +kernel) rfl, fun _ h => absurd h List.not_mem_nil⟩⟩⟩⟩⟩⟩⟩⟩⟩⟩⟩
theorem inX1 : ∀ w ∈ u_ws RX1 TX1 3, w ∈ TB := show ∀ w ∈ ([(Cond.laysFinal "TrailTeams$History" "TrailTeams$History" "states" "[LTrailTeams$State;"), (Cond.lays "TrailTeams$History" "TrailTeams$History" "oldest" "I"), (Cond.lays "TrailTeams$History" "TrailTeams$History" "length" "I")] : List Cond), w ∈ TB from List.forall_mem_cons.mpr ⟨tb_t 178 (by decide +kernel) rfl, List.forall_mem_cons.mpr ⟨tb_t 180 (by decide +kernel) rfl, List.forall_mem_cons.mpr ⟨tb_t 182 (by decide +kernel) rfl, fun _ h => absurd h List.not_mem_nil⟩⟩⟩
theorem inX2 : ∀ w ∈ u_ws RX2 TX2 2, w ∈ TB := show ∀ w ∈ ([(Cond.laysFinal "TrailTeams$Pad" "TrailTeams$Pad" "signs" "[C"), (Cond.lays "TrailTeams$Pad" "TrailTeams$Pad" "length" "I")] : List Cond), w ∈ TB from List.forall_mem_cons.mpr ⟨tb_t 159 (by decide +kernel) rfl, List.forall_mem_cons.mpr ⟨tb_t 161 (by decide +kernel) rfl, fun _ h => absurd h List.not_mem_nil⟩⟩
theorem inX3 : ∀ w ∈ u_ws RX3 TX3 7, w ∈ TB := show ∀ w ∈ ([(Cond.laysFinal "TrailTeams$State" "TrailTeams$State" "settings" "[I"), (Cond.laysFinal "TrailTeams$State" "TrailTeams$State" "xs" "[I"), (Cond.laysFinal "TrailTeams$State" "TrailTeams$State" "ys" "[I"), (Cond.laysFinal "TrailTeams$State" "TrailTeams$State" "looks" "[I"), (Cond.lays "TrailTeams$State" "TrailTeams$State" "closedPlaces" "I"), (Cond.laysFinal "TrailTeams$State" "TrailTeams$State" "teams" "[LTrailTeams$Team;"), (Cond.lays "TrailTeams$State" "TrailTeams$State" "teamCount" "I")] : List Cond), w ∈ TB from List.forall_mem_cons.mpr ⟨tb_t 86 (by decide +kernel) rfl, List.forall_mem_cons.mpr ⟨tb_t 88 (by decide +kernel) rfl, List.forall_mem_cons.mpr ⟨tb_t 90 (by decide +kernel) rfl, List.forall_mem_cons.mpr ⟨tb_t 92 (by decide +kernel) rfl, List.forall_mem_cons.mpr ⟨tb_t 94 (by decide +kernel) rfl, List.forall_mem_cons.mpr ⟨tb_t 96 (by decide +kernel) rfl, List.forall_mem_cons.mpr ⟨tb_t 98 (by decide +kernel) rfl, fun _ h => absurd h List.not_mem_nil⟩⟩⟩⟩⟩⟩⟩
theorem inX4 : ∀ w ∈ u_ws RX4 TX4 5, w ∈ TB := show ∀ w ∈ ([(Cond.laysFinal "TrailTeams$Team" "TrailTeams$Team" "route" "[I"), (Cond.lays "TrailTeams$Team" "TrailTeams$Team" "length" "I"), (Cond.lays "TrailTeams$Team" "TrailTeams$Team" "start" "I"), (Cond.lays "TrailTeams$Team" "TrailTeams$Team" "hints" "I"), (Cond.lays "TrailTeams$Team" "TrailTeams$Team" "lostBehind" "I")] : List Cond), w ∈ TB from List.forall_mem_cons.mpr ⟨tb_t 56 (by decide +kernel) rfl, List.forall_mem_cons.mpr ⟨tb_t 58 (by decide +kernel) rfl, List.forall_mem_cons.mpr ⟨tb_t 60 (by decide +kernel) rfl, List.forall_mem_cons.mpr ⟨tb_t 62 (by decide +kernel) rfl, List.forall_mem_cons.mpr ⟨tb_t 64 (by decide +kernel) rfl, fun _ h => absurd h List.not_mem_nil⟩⟩⟩⟩⟩
theorem inX5 : ∀ w ∈ u_ws RX5 TX5 7, w ∈ TB := show ∀ w ∈ ([(Cond.laysFinal "TrailTeams" "TrailTeams" "now" "LTrailTeams$State;"), (Cond.laysFinal "TrailTeams" "TrailTeams" "trial" "LTrailTeams$State;"), (Cond.laysFinal "TrailTeams" "TrailTeams" "game" "LTrailTeams$Game;"), (Cond.laysFinal "TrailTeams" "TrailTeams" "pad" "LTrailTeams$Pad;"), (Cond.laysFinal "TrailTeams" "TrailTeams" "history" "LTrailTeams$History;"), (Cond.laysFinal "TrailTeams" "TrailTeams" "slots" "[LTrailTeams$State;"), (Cond.laysFinal "TrailTeams" "TrailTeams" "isSaved" "[Z")] : List Cond), w ∈ TB from List.forall_mem_cons.mpr ⟨tb_t 192 (by decide +kernel) rfl, List.forall_mem_cons.mpr ⟨tb_t 194 (by decide +kernel) rfl, List.forall_mem_cons.mpr ⟨tb_t 196 (by decide +kernel) rfl, List.forall_mem_cons.mpr ⟨tb_t 198 (by decide +kernel) rfl, List.forall_mem_cons.mpr ⟨tb_t 200 (by decide +kernel) rfl, List.forall_mem_cons.mpr ⟨tb_t 202 (by decide +kernel) rfl, List.forall_mem_cons.mpr ⟨tb_t 204 (by decide +kernel) rfl, fun _ h => absurd h List.not_mem_nil⟩⟩⟩⟩⟩⟩⟩
theorem inX6 : ∀ w ∈ u_ws RX6 TX6 23, w ∈ TB := show ∀ w ∈ ([(Cond.laysFinal "TrailTeamsModel" "TrailTeamsModel" "row" "[I"), (Cond.laysFinal "TrailTeamsModel" "TrailTeamsModel" "past" "[I"), (Cond.laysFinal "TrailTeamsModel" "TrailTeamsModel" "before" "[I"), (Cond.laysFinal "TrailTeamsModel" "TrailTeamsModel" "aside" "[I"), (Cond.laysFinal "TrailTeamsModel" "TrailTeamsModel" "slots" "[I"), (Cond.laysFinal "TrailTeamsModel" "TrailTeamsModel" "isSaved" "[Z"), (Cond.lays "TrailTeamsModel" "TrailTeamsModel" "states" "I"), (Cond.laysFinal "TrailTeamsModel" "TrailTeamsModel" "pad" "[I"), (Cond.lays "TrailTeamsModel" "TrailTeamsModel" "length" "I"), (Cond.lays "TrailTeamsModel" "TrailTeamsModel" "at" "I"), (Cond.laysFinal "TrailTeamsModel" "TrailTeamsModel" "codes" "[I"), (Cond.laysFinal "TrailTeamsModel" "TrailTeamsModel" "read" "[I"), (Cond.lays "TrailTeamsModel" "TrailTeamsModel" "many" "I"), (Cond.lays "TrailTeamsModel" "TrailTeamsModel" "playing" "I"), (Cond.laysFinal "TrailTeamsModel" "TrailTeamsModel" "trail" "[I"), (Cond.laysFinal "TrailTeamsModel" "TrailTeamsModel" "place" "[I"), (Cond.laysFinal "TrailTeamsModel" "TrailTeamsModel" "comes" "[I"), (Cond.laysFinal "TrailTeamsModel" "TrailTeamsModel" "begins" "[I"), (Cond.laysFinal "TrailTeamsModel" "TrailTeamsModel" "ends" "[I"), (Cond.laysFinal "TrailTeamsModel" "TrailTeamsModel" "walks" "[I"), (Cond.laysFinal "TrailTeamsModel" "TrailTeamsModel" "over" "[I"), (Cond.laysFinal "TrailTeamsModel" "TrailTeamsModel" "done" "[I"), (Cond.laysFinal "TrailTeamsModel" "TrailTeamsModel" "free" "[I")] : List Cond), w ∈ TB from List.forall_mem_cons.mpr ⟨tb_t 593 (by decide +kernel) rfl, List.forall_mem_cons.mpr ⟨tb_t 595 (by decide +kernel) rfl, List.forall_mem_cons.mpr ⟨tb_t 597 (by decide +kernel) rfl, List.forall_mem_cons.mpr ⟨tb_t 599 (by decide +kernel) rfl, List.forall_mem_cons.mpr ⟨tb_t 601 (by decide +kernel) rfl, List.forall_mem_cons.mpr ⟨tb_t 603 (by decide +kernel) rfl, List.forall_mem_cons.mpr ⟨tb_t 605 (by decide +kernel) rfl, List.forall_mem_cons.mpr ⟨tb_t 607 (by decide +kernel) rfl, List.forall_mem_cons.mpr ⟨tb_t 609 (by decide +kernel) rfl, List.forall_mem_cons.mpr ⟨tb_t 611 (by decide +kernel) rfl, List.forall_mem_cons.mpr ⟨tb_t 613 (by decide +kernel) rfl, List.forall_mem_cons.mpr ⟨tb_t 615 (by decide +kernel) rfl, List.forall_mem_cons.mpr ⟨tb_t 617 (by decide +kernel) rfl, List.forall_mem_cons.mpr ⟨tb_t 619 (by decide +kernel) rfl, List.forall_mem_cons.mpr ⟨tb_t 621 (by decide +kernel) rfl, List.forall_mem_cons.mpr ⟨tb_t 623 (by decide +kernel) rfl, List.forall_mem_cons.mpr ⟨tb_t 625 (by decide +kernel) rfl, List.forall_mem_cons.mpr ⟨tb_t 627 (by decide +kernel) rfl, List.forall_mem_cons.mpr ⟨tb_t 629 (by decide +kernel) rfl, List.forall_mem_cons.mpr ⟨tb_t 631 (by decide +kernel) rfl, List.forall_mem_cons.mpr ⟨tb_t 633 (by decide +kernel) rfl, List.forall_mem_cons.mpr ⟨tb_t 635 (by decide +kernel) rfl, List.forall_mem_cons.mpr ⟨tb_t 637 (by decide +kernel) rfl, fun _ h => absurd h List.not_mem_nil⟩⟩⟩⟩⟩⟩⟩⟩⟩⟩⟩⟩⟩⟩⟩⟩⟩⟩⟩⟩⟩⟩⟩
abbrev mX5_init : MT := (RX5, yX5_init, cX5_init, 2, none)
abbrev mX3_init : MT := (RX3, yX3_init, cX3_init, 2, none)
abbrev mX4_init : MT := (RX4, yX4_init, cX4_init, 1, none)
abbrev mX0_init : MT := (RX0, yX0_init, cX0_init, 1, none)
abbrev mX2_init : MT := (RX2, yX2_init, cX2_init, 1, none)
abbrev mX1_init : MT := (RX1, yX1_init, cX1_init, 2, none)
abbrev mX5_set : MT := (RX5, yX5_set, cX5_set, 4, (some .int))
abbrev mX5_isFrom : MT := (RX5, yX5_isFrom, cX5_isFrom, 3, (some .boolean))
abbrev mX1_record : MT := (RX1, yX1_record, cX1_record, 2, none)
abbrev mX3_copyFrom : MT := (RX3, yX3_copyFrom, cX3_copyFrom, 3, none)
abbrev mX4_copyFrom : MT := (RX4, yX4_copyFrom, cX4_copyFrom, 2, none)
abbrev mX5_place : MT := (RX5, yX5_place, cX5_place, 6, (some .int))
abbrev mX5_isPlace : MT := (RX5, yX5_isPlace, cX5_isPlace, 1, (some .boolean))
abbrev mX5_close : MT := (RX5, yX5_close, cX5_close, 3, (some .int))
abbrev mX3_isClosed : MT := (RX3, yX3_isClosed, cX3_isClosed, 2, (some .boolean))
abbrev mX3_openPlaces : MT := (RX3, yX3_openPlaces, cX3_openPlaces, 1, (some .int))
abbrev mJ6_bitCount_0f7a4 : MT := (RJ6, yJ6_bitCount_0f7a4, cJ6_bitCount_0f7a4, 1, (some .int))
abbrev mX5_team : MT := (RX5, yX5_team, cX5_team, 4, (some .int))
abbrev mX2_firstFault : MT := (RX2, yX2_firstFault, cX2_firstFault, 4, (some .int))
abbrev mX2_moveTo : MT := (RX2, yX2_moveTo, cX2_moveTo, 3, none)
abbrev mJ9_min_7cf53 : MT := (RJ9, yJ9_min_7cf53, cJ9_min_7cf53, 2, (some .int))
abbrev mX5_route : MT := (RX5, yX5_route, cX5_route, 2, (some .int))
abbrev mX5_isTeam : MT := (RX5, yX5_isTeam, cX5_isTeam, 2, (some .boolean))
abbrev mX3_trailLength : MT := (RX3, yX3_trailLength, cX3_trailLength, 4, (some .int))
abbrev mX5_leave : MT := (RX5, yX5_leave, cX5_leave, 3, (some .int))
abbrev mX5_start : MT := (RX5, yX5_start, cX5_start, 4, (some .int))
abbrev mX5_hint : MT := (RX5, yX5_hint, cX5_hint, 4, (some .int))
abbrev mX4_hasHint : MT := (RX4, yX4_hasHint, cX4_hasHint, 2, (some .boolean))
abbrev mX5_endNow : MT := (RX5, yX5_endNow, cX5_endNow, 2, (some .int))
abbrev mX5_playNow : MT := (RX5, yX5_playNow, cX5_playNow, 1, none)
abbrev mX0_play : MT := (RX0, yX0_play, cX0_play, 5, none)
abbrev mJ7_fill_53178 : MT := (RJ7, yJ7_fill_53178, cJ7_fill_53178, 4, none)
abbrev mX0_layTrail : MT := (RX0, yX0_layTrail, cX0_layTrail, 9, none)
abbrev mJ9_abs_0f7a4 : MT := (RJ9, yJ9_abs_0f7a4, cJ9_abs_0f7a4, 1, (some .int))
abbrev mX0_nextToCome : MT := (RX0, yX0_nextToCome, cX0_nextToCome, 5, (some .int))
abbrev mX0_makeVisit : MT := (RX0, yX0_makeVisit, cX0_makeVisit, 7, none)
abbrev mJ9_max_7cf53 : MT := (RJ9, yJ9_max_7cf53, cJ9_max_7cf53, 2, (some .int))
abbrev mX3_lookOf : MT := (RX3, yX3_lookOf, cX3_lookOf, 3, (some .int))
abbrev mX5_lose : MT := (RX5, yX5_lose, cX5_lose, 3, (some .int))
abbrev mX5_turn : MT := (RX5, yX5_turn, cX5_turn, 3, (some .int))
abbrev mX4_turnRoute : MT := (RX4, yX4_turnRoute, cX4_turnRoute, 5, none)
abbrev mX5_exchange : MT := (RX5, yX5_exchange, cX5_exchange, 4, (some .int))
abbrev mX5_isInRoute : MT := (RX5, yX5_isInRoute, cX5_isInRoute, 3, (some .boolean))
abbrev mX4_exchangePlaces : MT := (RX4, yX4_exchangePlaces, cX4_exchangePlaces, 4, none)
abbrev mX5_part : MT := (RX5, yX5_part, cX5_part, 4, (some .int))
abbrev mX5_leastFreeStart : MT := (RX5, yX5_leastFreeStart, cX5_leastFreeStart, 5, (some .int))
abbrev mX0_teamsMetBy : MT := (RX0, yX0_teamsMetBy, cX0_teamsMetBy, 4, (some .int))
abbrev mX0_meet : MT := (RX0, yX0_meet, cX0_meet, 4, (some .boolean))
abbrev mX0_meetAt : MT := (RX0, yX0_meetAt, cX0_meetAt, 6, (some .boolean))
abbrev mX0_visitAt : MT := (RX0, yX0_visitAt, cX0_visitAt, 4, (some .int))
abbrev mX0_pairs : MT := (RX0, yX0_pairs, cX0_pairs, 4, (some .int))
abbrev mX5_visit : MT := (RX5, yX5_visit, cX5_visit, 4, (some .int))
abbrev mX5_teamOf : MT := (RX5, yX5_teamOf, cX5_teamOf, 3, (some .int))
abbrev mX0_queueingOf : MT := (RX0, yX0_queueingOf, cX0_queueingOf, 4, (some .int))
abbrev mX0_walkingOf : MT := (RX0, yX0_walkingOf, cX0_walkingOf, 4, (some .int))
abbrev mX0_pointsOf : MT := (RX0, yX0_pointsOf, cX0_pointsOf, 2, (some .int))
abbrev mX0_hintsOf : MT := (RX0, yX0_hintsOf, cX0_hintsOf, 4, (some .int))
abbrev mX0_rankOf : MT := (RX0, yX0_rankOf, cX0_rankOf, 4, (some .int))
abbrev mX0_isAhead : MT := (RX0, yX0_isAhead, cX0_isAhead, 5, (some .boolean))
abbrev mX5_placeOf : MT := (RX5, yX5_placeOf, cX5_placeOf, 3, (some .int))
abbrev mX0_teamsAt : MT := (RX0, yX0_teamsAt, cX0_teamsAt, 4, (some .int))
abbrev mX0_queueingAt : MT := (RX0, yX0_queueingAt, cX0_queueingAt, 5, (some .int))
abbrev mX0_mostAt : MT := (RX0, yX0_mostAt, cX0_mostAt, 5, (some .int))
abbrev mX0_teamsThere : MT := (RX0, yX0_teamsThere, cX0_teamsThere, 6, (some .int))
abbrev mX0_isThere : MT := (RX0, yX0_isThere, cX0_isThere, 4, (some .boolean))
abbrev mX0_pairsAt : MT := (RX0, yX0_pairsAt, cX0_pairsAt, 5, (some .int))
abbrev mX5_where : MT := (RX5, yX5_where, cX5_where, 3, (some .int))
abbrev mX0_placeWithTeam : MT := (RX0, yX0_placeWithTeam, cX0_placeWithTeam, 4, (some .int))
abbrev mX5_told : MT := (RX5, yX5_told, cX5_told, 3, (some .int))
abbrev mX0_placeToldTo : MT := (RX0, yX0_placeToldTo, cX0_placeToldTo, 4, (some .int))
abbrev mX5_count : MT := (RX5, yX5_count, cX5_count, 2, (some .int))
abbrev mX0_lastEnd : MT := (RX0, yX0_lastEnd, cX0_lastEnd, 3, (some .int))
abbrev mX0_queueing : MT := (RX0, yX0_queueing, cX0_queueing, 3, (some .int))
abbrev mX0_winner : MT := (RX0, yX0_winner, cX0_winner, 3, (some .int))
abbrev mX0_points : MT := (RX0, yX0_points, cX0_points, 3, (some .int))
abbrev mX0_visits : MT := (RX0, yX0_visits, cX0_visits, 3, (some .int))
abbrev mX5_freeStart : MT := (RX5, yX5_freeStart, cX5_freeStart, 2, (some .int))
abbrev mX5_bestExchange : MT := (RX5, yX5_bestExchange, cX5_bestExchange, 10, (some .int))
abbrev mX5_endIfExchanged : MT := (RX5, yX5_endIfExchanged, cX5_endIfExchanged, 4, (some .int))
abbrev mX5_worstPlace : MT := (RX5, yX5_worstPlace, cX5_worstPlace, 6, (some .int))
abbrev mX5_ifTurned : MT := (RX5, yX5_ifTurned, cX5_ifTurned, 3, (some .int))
abbrev mX5_put : MT := (RX5, yX5_put, cX5_put, 4, (some .int))
abbrev mX2_lengthOf : MT := (RX2, yX2_lengthOf, cX2_lengthOf, 6, (some .int))
abbrev mX2_append : MT := (RX2, yX2_append, cX2_append, 5, none)
abbrev mX5_wipe : MT := (RX5, yX5_wipe, cX5_wipe, 2, (some .int))
abbrev mX5_fault : MT := (RX5, yX5_fault, cX5_fault, 1, (some .int))
abbrev mX5_undo : MT := (RX5, yX5_undo, cX5_undo, 1, (some .int))
abbrev mX1_takeBack : MT := (RX1, yX1_takeBack, cX1_takeBack, 2, none)
abbrev mX5_save : MT := (RX5, yX5_save, cX5_save, 2, (some .int))
abbrev mX5_restore : MT := (RX5, yX5_restore, cX5_restore, 2, (some .int))
abbrev mX6_init : MT := (RX6, yX6_init, cX6_init, 2, none)
abbrev mX6_undo : MT := (RX6, yX6_undo, cX6_undo, 2, (some .int))
abbrev mX6_save : MT := (RX6, yX6_save, cX6_save, 3, (some .int))
abbrev mX6_in : MT := (RX6, yX6_in, cX6_in, 4, (some .boolean))
abbrev mX6_restore : MT := (RX6, yX6_restore, cX6_restore, 3, (some .int))
abbrev mX6_remember : MT := (RX6, yX6_remember, cX6_remember, 2, none)
abbrev mX6_record : MT := (RX6, yX6_record, cX6_record, 3, (some .int))
abbrev mX6_set : MT := (RX6, yX6_set, cX6_set, 4, (some .int))
abbrev mX6_place : MT := (RX6, yX6_place, cX6_place, 6, (some .int))
abbrev mX6_isPlace : MT := (RX6, yX6_isPlace, cX6_isPlace, 1, (some .boolean))
abbrev mX6_of : MT := (RX6, yX6_of, cX6_of, 3, (some .int))
abbrev mX6_close : MT := (RX6, yX6_close, cX6_close, 4, (some .int))
abbrev mX6_openOnes : MT := (RX6, yX6_openOnes, cX6_openOnes, 3, (some .int))
abbrev mX6_team : MT := (RX6, yX6_team, cX6_team, 3, (some .int))
abbrev mX6_isWell : MT := (RX6, yX6_isWell, cX6_isWell, 2, (some .boolean))
abbrev mX6_readPlace : MT := (RX6, yX6_readPlace, cX6_readPlace, 3, (some .boolean))
abbrev mX6_lay : MT := (RX6, yX6_lay, cX6_lay, 4, none)
abbrev mX6_takeRoute : MT := (RX6, yX6_takeRoute, cX6_takeRoute, 3, none)
abbrev mX6_route : MT := (RX6, yX6_route, cX6_route, 2, (some .int))
abbrev mX6_isTeam : MT := (RX6, yX6_isTeam, cX6_isTeam, 2, (some .boolean))
abbrev mX6_playAll : MT := (RX6, yX6_playAll, cX6_playAll, 1, none)
abbrev mX6_play : MT := (RX6, yX6_play, cX6_play, 6, none)
abbrev mX6_prepare : MT := (RX6, yX6_prepare, cX6_prepare, 5, none)
abbrev mX6_its : MT := (RX6, yX6_its, cX6_its, 3, (some .int))
abbrev mX6_walk : MT := (RX6, yX6_walk, cX6_walk, 6, none)
abbrev mX6_size : MT := (RX6, yX6_size, cX6_size, 1, (some .int))
abbrev mX6_next : MT := (RX6, yX6_next, cX6_next, 4, (some .int))
abbrev mX6_hasLost : MT := (RX6, yX6_hasLost, cX6_hasLost, 4, (some .boolean))
abbrev mX6_leave : MT := (RX6, yX6_leave, cX6_leave, 3, (some .int))
abbrev mX6_start : MT := (RX6, yX6_start, cX6_start, 4, (some .int))
abbrev mX6_hint : MT := (RX6, yX6_hint, cX6_hint, 4, (some .int))
abbrev mX6_endOf : MT := (RX6, yX6_endOf, cX6_endOf, 2, (some .int))
abbrev mX6_lose : MT := (RX6, yX6_lose, cX6_lose, 3, (some .int))
abbrev mX6_turn : MT := (RX6, yX6_turn, cX6_turn, 3, (some .int))
abbrev mX6_turned : MT := (RX6, yX6_turned, cX6_turned, 5, none)
abbrev mX6_exchange : MT := (RX6, yX6_exchange, cX6_exchange, 4, (some .int))
abbrev mX6_exchanged : MT := (RX6, yX6_exchanged, cX6_exchanged, 5, none)
abbrev mX6_part : MT := (RX6, yX6_part, cX6_part, 3, (some .int))
abbrev mX6_leastStart : MT := (RX6, yX6_leastStart, cX6_leastStart, 6, (some .int))
abbrev mX6_met : MT := (RX6, yX6_met, cX6_met, 4, (some .int))
abbrev mX6_meet : MT := (RX6, yX6_meet, cX6_meet, 5, (some .boolean))
abbrev mX6_meetAt : MT := (RX6, yX6_meetAt, cX6_meetAt, 6, (some .boolean))
abbrev mX6_visitTo : MT := (RX6, yX6_visitTo, cX6_visitTo, 4, (some .int))
abbrev mX6_pairs : MT := (RX6, yX6_pairs, cX6_pairs, 4, (some .int))
abbrev mX6_visit : MT := (RX6, yX6_visit, cX6_visit, 5, (some .int))
abbrev mX6_teamOf : MT := (RX6, yX6_teamOf, cX6_teamOf, 3, (some .int))
abbrev mX6_queued : MT := (RX6, yX6_queued, cX6_queued, 4, (some .int))
abbrev mX6_walked : MT := (RX6, yX6_walked, cX6_walked, 4, (some .int))
abbrev mX6_points : MT := (RX6, yX6_points, cX6_points, 2, (some .int))
abbrev mX6_hinted : MT := (RX6, yX6_hinted, cX6_hinted, 4, (some .int))
abbrev mX6_rank : MT := (RX6, yX6_rank, cX6_rank, 4, (some .int))
abbrev mX6_isAhead : MT := (RX6, yX6_isAhead, cX6_isAhead, 4, (some .boolean))
abbrev mX6_placeOf : MT := (RX6, yX6_placeOf, cX6_placeOf, 3, (some .int))
abbrev mX6_atPlace : MT := (RX6, yX6_atPlace, cX6_atPlace, 9, (some .int))
abbrev mX6_crowd : MT := (RX6, yX6_crowd, cX6_crowd, 8, (some .int))
abbrev mX6_where : MT := (RX6, yX6_where, cX6_where, 4, (some .int))
abbrev mX6_told : MT := (RX6, yX6_told, cX6_told, 4, (some .int))
abbrev mX6_count : MT := (RX6, yX6_count, cX6_count, 2, (some .int))
abbrev mX6_lastEnd : MT := (RX6, yX6_lastEnd, cX6_lastEnd, 3, (some .int))
abbrev mX6_allQueued : MT := (RX6, yX6_allQueued, cX6_allQueued, 3, (some .int))
abbrev mX6_winner : MT := (RX6, yX6_winner, cX6_winner, 2, (some .int))
abbrev mX6_sums : MT := (RX6, yX6_sums, cX6_sums, 4, (some .int))
abbrev mX6_freeStart : MT := (RX6, yX6_freeStart, cX6_freeStart, 2, (some .int))
abbrev mX6_bestExchange : MT := (RX6, yX6_bestExchange, cX6_bestExchange, 12, (some .int))
abbrev mX6_worstPlace : MT := (RX6, yX6_worstPlace, cX6_worstPlace, 6, (some .int))
abbrev mX6_ifTurned : MT := (RX6, yX6_ifTurned, cX6_ifTurned, 3, (some .int))
abbrev mX6_layAside : MT := (RX6, yX6_layAside, cX6_layAside, 2, none)
abbrev mX6_putBack : MT := (RX6, yX6_putBack, cX6_putBack, 2, none)
abbrev mX6_put : MT := (RX6, yX6_put, cX6_put, 7, (some .int))
abbrev mX6_wipe : MT := (RX6, yX6_wipe, cX6_wipe, 2, (some .int))
abbrev mX6_fault : MT := (RX6, yX6_fault, cX6_fault, 1, (some .int))
theorem yy_X5_init : kv_Y mX5_init 0 := ⟨(tb_t 16 (by decide +kernel) rfl), (tb_t 1 (by decide +kernel) rfl), by decide +kernel, rfl, by decide +kernel, by decide +kernel, by decide +kernel, by decide⟩
theorem yy_X3_init : kv_Y mX3_init 0 := ⟨(tb_t 24 (by decide +kernel) rfl), (tb_t 2 (by decide +kernel) rfl), by decide +kernel, rfl, by decide +kernel, by decide +kernel, by decide +kernel, by decide⟩
theorem yy_X4_init : kv_Y mX4_init 0 := ⟨(tb_t 36 (by decide +kernel) rfl), (tb_t 4 (by decide +kernel) rfl), by decide +kernel, rfl, by decide +kernel, by decide +kernel, by decide +kernel, by decide⟩
theorem yy_X0_init : kv_Y mX0_init 0 := ⟨(tb_t 105 (by decide +kernel) rfl), (tb_t 5 (by decide +kernel) rfl), by decide +kernel, rfl, by decide +kernel, by decide +kernel, by decide +kernel, by decide⟩
theorem yy_X2_init : kv_Y mX2_init 0 := ⟨(tb_t 154 (by decide +kernel) rfl), (tb_t 6 (by decide +kernel) rfl), by decide +kernel, rfl, by decide +kernel, by decide +kernel, by decide +kernel, by decide⟩
theorem yy_X1_init : kv_Y mX1_init 0 := ⟨(tb_t 169 (by decide +kernel) rfl), (tb_t 7 (by decide +kernel) rfl), by decide +kernel, rfl, by decide +kernel, by decide +kernel, by decide +kernel, by decide⟩
theorem yy_X5_set : kv_Y mX5_set 2 := ⟨(tb_t 211 (by decide +kernel) rfl), (tb_t 1 (by decide +kernel) rfl), by decide +kernel, rfl, by decide +kernel, by decide +kernel, by decide +kernel, by decide⟩
theorem yy_X5_isFrom : kv_Y mX5_isFrom 3 := ⟨(tb_t 214 (by decide +kernel) rfl), (tb_t 1 (by decide +kernel) rfl), by decide +kernel, rfl, by decide +kernel, by decide +kernel, by decide +kernel, by decide⟩
theorem yy_X1_record : kv_Y mX1_record 1 := ⟨(tb_t 223 (by decide +kernel) rfl), (tb_t 7 (by decide +kernel) rfl), by decide +kernel, rfl, by decide +kernel, by decide +kernel, by decide +kernel, by decide⟩
theorem yy_X3_copyFrom : kv_Y mX3_copyFrom 1 := ⟨(tb_t 227 (by decide +kernel) rfl), (tb_t 2 (by decide +kernel) rfl), by decide +kernel, rfl, by decide +kernel, by decide +kernel, by decide +kernel, by decide⟩
theorem yy_X4_copyFrom : kv_Y mX4_copyFrom 1 := ⟨(tb_t 231 (by decide +kernel) rfl), (tb_t 4 (by decide +kernel) rfl), by decide +kernel, rfl, by decide +kernel, by decide +kernel, by decide +kernel, by decide⟩
theorem yy_X5_place : kv_Y mX5_place 4 := ⟨(tb_t 236 (by decide +kernel) rfl), (tb_t 1 (by decide +kernel) rfl), by decide +kernel, rfl, by decide +kernel, by decide +kernel, by decide +kernel, by decide⟩
theorem yy_X5_isPlace : kv_Y mX5_isPlace 1 := ⟨(tb_t 239 (by decide +kernel) rfl), (tb_t 1 (by decide +kernel) rfl), by decide +kernel, rfl, by decide +kernel, by decide +kernel, by decide +kernel, by decide⟩
theorem yy_X5_close : kv_Y mX5_close 2 := ⟨(tb_t 244 (by decide +kernel) rfl), (tb_t 1 (by decide +kernel) rfl), by decide +kernel, rfl, by decide +kernel, by decide +kernel, by decide +kernel, by decide⟩
theorem yy_X3_isClosed : kv_Y mX3_isClosed 1 := ⟨(tb_t 248 (by decide +kernel) rfl), (tb_t 2 (by decide +kernel) rfl), by decide +kernel, rfl, by decide +kernel, by decide +kernel, by decide +kernel, by decide⟩
theorem yy_X3_openPlaces : kv_Y mX3_openPlaces 0 := ⟨(tb_t 253 (by decide +kernel) rfl), (tb_t 2 (by decide +kernel) rfl), by decide +kernel, rfl, by decide +kernel, by decide +kernel, by decide +kernel, by decide⟩
theorem yy_J6_bitCount_0f7a4 : kv_Y mJ6_bitCount_0f7a4 1 := ⟨(tb_t 256 (by decide +kernel) rfl), (tb_t 9 (by decide +kernel) rfl), by decide +kernel, rfl, by decide +kernel, by decide +kernel, by decide +kernel, by decide⟩
theorem yy_X5_team : kv_Y mX5_team 1 := ⟨(tb_t 263 (by decide +kernel) rfl), (tb_t 1 (by decide +kernel) rfl), by decide +kernel, rfl, by decide +kernel, by decide +kernel, by decide +kernel, by decide⟩
theorem yy_X2_firstFault : kv_Y mX2_firstFault 0 := ⟨(tb_t 267 (by decide +kernel) rfl), (tb_t 6 (by decide +kernel) rfl), by decide +kernel, rfl, by decide +kernel, by decide +kernel, by decide +kernel, by decide⟩
theorem yy_X2_moveTo : kv_Y mX2_moveTo 1 := ⟨(tb_t 276 (by decide +kernel) rfl), (tb_t 6 (by decide +kernel) rfl), by decide +kernel, rfl, by decide +kernel, by decide +kernel, by decide +kernel, by decide⟩
theorem yy_X5_route : kv_Y mX5_route 1 := ⟨(tb_t 283 (by decide +kernel) rfl), (tb_t 1 (by decide +kernel) rfl), by decide +kernel, rfl, by decide +kernel, by decide +kernel, by decide +kernel, by decide⟩
theorem yy_X5_isTeam : kv_Y mX5_isTeam 1 := ⟨(tb_t 287 (by decide +kernel) rfl), (tb_t 1 (by decide +kernel) rfl), by decide +kernel, rfl, by decide +kernel, by decide +kernel, by decide +kernel, by decide⟩
theorem yy_X3_trailLength : kv_Y mX3_trailLength 1 := ⟨(tb_t 291 (by decide +kernel) rfl), (tb_t 2 (by decide +kernel) rfl), by decide +kernel, rfl, by decide +kernel, by decide +kernel, by decide +kernel, by decide⟩
theorem yy_X5_leave : kv_Y mX5_leave 1 := ⟨(tb_t 296 (by decide +kernel) rfl), (tb_t 1 (by decide +kernel) rfl), by decide +kernel, rfl, by decide +kernel, by decide +kernel, by decide +kernel, by decide⟩
theorem yy_X5_start : kv_Y mX5_start 2 := ⟨(tb_t 301 (by decide +kernel) rfl), (tb_t 1 (by decide +kernel) rfl), by decide +kernel, rfl, by decide +kernel, by decide +kernel, by decide +kernel, by decide⟩
theorem yy_X5_hint : kv_Y mX5_hint 3 := ⟨(tb_t 305 (by decide +kernel) rfl), (tb_t 1 (by decide +kernel) rfl), by decide +kernel, rfl, by decide +kernel, by decide +kernel, by decide +kernel, by decide⟩
theorem yy_X4_hasHint : kv_Y mX4_hasHint 1 := ⟨(tb_t 309 (by decide +kernel) rfl), (tb_t 4 (by decide +kernel) rfl), by decide +kernel, rfl, by decide +kernel, by decide +kernel, by decide +kernel, by decide⟩
theorem yy_X5_endNow : kv_Y mX5_endNow 1 := ⟨(tb_t 313 (by decide +kernel) rfl), (tb_t 1 (by decide +kernel) rfl), by decide +kernel, rfl, by decide +kernel, by decide +kernel, by decide +kernel, by decide⟩
theorem yy_X5_playNow : kv_Y mX5_playNow 0 := ⟨(tb_t 317 (by decide +kernel) rfl), (tb_t 1 (by decide +kernel) rfl), by decide +kernel, rfl, by decide +kernel, by decide +kernel, by decide +kernel, by decide⟩
theorem yy_X0_play : kv_Y mX0_play 2 := ⟨(tb_t 321 (by decide +kernel) rfl), (tb_t 5 (by decide +kernel) rfl), by decide +kernel, rfl, by decide +kernel, by decide +kernel, by decide +kernel, by decide⟩
theorem yy_J7_fill_53178 : kv_Y mJ7_fill_53178 2 := ⟨(tb_t 324 (by decide +kernel) rfl), (tb_t 11 (by decide +kernel) rfl), by decide +kernel, rfl, by decide +kernel, by decide +kernel, by decide +kernel, by decide⟩
theorem yy_X0_layTrail : kv_Y mX0_layTrail 1 := ⟨(tb_t 328 (by decide +kernel) rfl), (tb_t 5 (by decide +kernel) rfl), by decide +kernel, rfl, by decide +kernel, by decide +kernel, by decide +kernel, by decide⟩
theorem yy_X0_nextToCome : kv_Y mX0_nextToCome 0 := ⟨(tb_t 336 (by decide +kernel) rfl), (tb_t 5 (by decide +kernel) rfl), by decide +kernel, rfl, by decide +kernel, by decide +kernel, by decide +kernel, by decide⟩
theorem yy_X0_makeVisit : kv_Y mX0_makeVisit 1 := ⟨(tb_t 340 (by decide +kernel) rfl), (tb_t 5 (by decide +kernel) rfl), by decide +kernel, rfl, by decide +kernel, by decide +kernel, by decide +kernel, by decide⟩
theorem yy_X3_lookOf : kv_Y mX3_lookOf 2 := ⟨(tb_t 347 (by decide +kernel) rfl), (tb_t 2 (by decide +kernel) rfl), by decide +kernel, rfl, by decide +kernel, by decide +kernel, by decide +kernel, by decide⟩
theorem yy_X5_lose : kv_Y mX5_lose 2 := ⟨(tb_t 352 (by decide +kernel) rfl), (tb_t 1 (by decide +kernel) rfl), by decide +kernel, rfl, by decide +kernel, by decide +kernel, by decide +kernel, by decide⟩
theorem yy_X5_turn : kv_Y mX5_turn 2 := ⟨(tb_t 356 (by decide +kernel) rfl), (tb_t 1 (by decide +kernel) rfl), by decide +kernel, rfl, by decide +kernel, by decide +kernel, by decide +kernel, by decide⟩
theorem yy_X4_turnRoute : kv_Y mX4_turnRoute 1 := ⟨(tb_t 360 (by decide +kernel) rfl), (tb_t 4 (by decide +kernel) rfl), by decide +kernel, rfl, by decide +kernel, by decide +kernel, by decide +kernel, by decide⟩
theorem yy_X5_exchange : kv_Y mX5_exchange 3 := ⟨(tb_t 364 (by decide +kernel) rfl), (tb_t 1 (by decide +kernel) rfl), by decide +kernel, rfl, by decide +kernel, by decide +kernel, by decide +kernel, by decide⟩
theorem yy_X5_isInRoute : kv_Y mX5_isInRoute 2 := ⟨(tb_t 368 (by decide +kernel) rfl), (tb_t 1 (by decide +kernel) rfl), by decide +kernel, rfl, by decide +kernel, by decide +kernel, by decide +kernel, by decide⟩
theorem yy_X4_exchangePlaces : kv_Y mX4_exchangePlaces 2 := ⟨(tb_t 372 (by decide +kernel) rfl), (tb_t 4 (by decide +kernel) rfl), by decide +kernel, rfl, by decide +kernel, by decide +kernel, by decide +kernel, by decide⟩
theorem yy_X5_part : kv_Y mX5_part 0 := ⟨(tb_t 376 (by decide +kernel) rfl), (tb_t 1 (by decide +kernel) rfl), by decide +kernel, rfl, by decide +kernel, by decide +kernel, by decide +kernel, by decide⟩
theorem yy_X5_leastFreeStart : kv_Y mX5_leastFreeStart 3 := ⟨(tb_t 380 (by decide +kernel) rfl), (tb_t 1 (by decide +kernel) rfl), by decide +kernel, rfl, by decide +kernel, by decide +kernel, by decide +kernel, by decide⟩
theorem yy_X0_teamsMetBy : kv_Y mX0_teamsMetBy 1 := ⟨(tb_t 384 (by decide +kernel) rfl), (tb_t 5 (by decide +kernel) rfl), by decide +kernel, rfl, by decide +kernel, by decide +kernel, by decide +kernel, by decide⟩
theorem yy_X0_meet : kv_Y mX0_meet 2 := ⟨(tb_t 388 (by decide +kernel) rfl), (tb_t 5 (by decide +kernel) rfl), by decide +kernel, rfl, by decide +kernel, by decide +kernel, by decide +kernel, by decide⟩
theorem yy_X0_meetAt : kv_Y mX0_meetAt 3 := ⟨(tb_t 392 (by decide +kernel) rfl), (tb_t 5 (by decide +kernel) rfl), by decide +kernel, rfl, by decide +kernel, by decide +kernel, by decide +kernel, by decide⟩
theorem yy_X0_visitAt : kv_Y mX0_visitAt 2 := ⟨(tb_t 396 (by decide +kernel) rfl), (tb_t 5 (by decide +kernel) rfl), by decide +kernel, rfl, by decide +kernel, by decide +kernel, by decide +kernel, by decide⟩
theorem yy_X0_pairs : kv_Y mX0_pairs 0 := ⟨(tb_t 400 (by decide +kernel) rfl), (tb_t 5 (by decide +kernel) rfl), by decide +kernel, rfl, by decide +kernel, by decide +kernel, by decide +kernel, by decide⟩
theorem yy_X5_visit : kv_Y mX5_visit 3 := ⟨(tb_t 404 (by decide +kernel) rfl), (tb_t 1 (by decide +kernel) rfl), by decide +kernel, rfl, by decide +kernel, by decide +kernel, by decide +kernel, by decide⟩
theorem yy_X5_teamOf : kv_Y mX5_teamOf 2 := ⟨(tb_t 408 (by decide +kernel) rfl), (tb_t 1 (by decide +kernel) rfl), by decide +kernel, rfl, by decide +kernel, by decide +kernel, by decide +kernel, by decide⟩
theorem yy_X0_queueingOf : kv_Y mX0_queueingOf 1 := ⟨(tb_t 412 (by decide +kernel) rfl), (tb_t 5 (by decide +kernel) rfl), by decide +kernel, rfl, by decide +kernel, by decide +kernel, by decide +kernel, by decide⟩
theorem yy_X0_walkingOf : kv_Y mX0_walkingOf 1 := ⟨(tb_t 416 (by decide +kernel) rfl), (tb_t 5 (by decide +kernel) rfl), by decide +kernel, rfl, by decide +kernel, by decide +kernel, by decide +kernel, by decide⟩
theorem yy_X0_pointsOf : kv_Y mX0_pointsOf 1 := ⟨(tb_t 420 (by decide +kernel) rfl), (tb_t 5 (by decide +kernel) rfl), by decide +kernel, rfl, by decide +kernel, by decide +kernel, by decide +kernel, by decide⟩
theorem yy_X0_hintsOf : kv_Y mX0_hintsOf 1 := ⟨(tb_t 424 (by decide +kernel) rfl), (tb_t 5 (by decide +kernel) rfl), by decide +kernel, rfl, by decide +kernel, by decide +kernel, by decide +kernel, by decide⟩
theorem yy_X0_rankOf : kv_Y mX0_rankOf 1 := ⟨(tb_t 429 (by decide +kernel) rfl), (tb_t 5 (by decide +kernel) rfl), by decide +kernel, rfl, by decide +kernel, by decide +kernel, by decide +kernel, by decide⟩
theorem yy_X0_isAhead : kv_Y mX0_isAhead 2 := ⟨(tb_t 433 (by decide +kernel) rfl), (tb_t 5 (by decide +kernel) rfl), by decide +kernel, rfl, by decide +kernel, by decide +kernel, by decide +kernel, by decide⟩
theorem yy_X5_placeOf : kv_Y mX5_placeOf 2 := ⟨(tb_t 439 (by decide +kernel) rfl), (tb_t 1 (by decide +kernel) rfl), by decide +kernel, rfl, by decide +kernel, by decide +kernel, by decide +kernel, by decide⟩
theorem yy_X0_teamsAt : kv_Y mX0_teamsAt 1 := ⟨(tb_t 443 (by decide +kernel) rfl), (tb_t 5 (by decide +kernel) rfl), by decide +kernel, rfl, by decide +kernel, by decide +kernel, by decide +kernel, by decide⟩
theorem yy_X0_queueingAt : kv_Y mX0_queueingAt 1 := ⟨(tb_t 447 (by decide +kernel) rfl), (tb_t 5 (by decide +kernel) rfl), by decide +kernel, rfl, by decide +kernel, by decide +kernel, by decide +kernel, by decide⟩
theorem yy_X0_mostAt : kv_Y mX0_mostAt 1 := ⟨(tb_t 451 (by decide +kernel) rfl), (tb_t 5 (by decide +kernel) rfl), by decide +kernel, rfl, by decide +kernel, by decide +kernel, by decide +kernel, by decide⟩
theorem yy_X0_teamsThere : kv_Y mX0_teamsThere 2 := ⟨(tb_t 455 (by decide +kernel) rfl), (tb_t 5 (by decide +kernel) rfl), by decide +kernel, rfl, by decide +kernel, by decide +kernel, by decide +kernel, by decide⟩
theorem yy_X0_isThere : kv_Y mX0_isThere 3 := ⟨(tb_t 459 (by decide +kernel) rfl), (tb_t 5 (by decide +kernel) rfl), by decide +kernel, rfl, by decide +kernel, by decide +kernel, by decide +kernel, by decide⟩
theorem yy_X0_pairsAt : kv_Y mX0_pairsAt 1 := ⟨(tb_t 463 (by decide +kernel) rfl), (tb_t 5 (by decide +kernel) rfl), by decide +kernel, rfl, by decide +kernel, by decide +kernel, by decide +kernel, by decide⟩
theorem yy_X5_where : kv_Y mX5_where 2 := ⟨(tb_t 467 (by decide +kernel) rfl), (tb_t 1 (by decide +kernel) rfl), by decide +kernel, rfl, by decide +kernel, by decide +kernel, by decide +kernel, by decide⟩
theorem yy_X0_placeWithTeam : kv_Y mX0_placeWithTeam 2 := ⟨(tb_t 471 (by decide +kernel) rfl), (tb_t 5 (by decide +kernel) rfl), by decide +kernel, rfl, by decide +kernel, by decide +kernel, by decide +kernel, by decide⟩
theorem yy_X5_told : kv_Y mX5_told 2 := ⟨(tb_t 476 (by decide +kernel) rfl), (tb_t 1 (by decide +kernel) rfl), by decide +kernel, rfl, by decide +kernel, by decide +kernel, by decide +kernel, by decide⟩
theorem yy_X0_placeToldTo : kv_Y mX0_placeToldTo 2 := ⟨(tb_t 480 (by decide +kernel) rfl), (tb_t 5 (by decide +kernel) rfl), by decide +kernel, rfl, by decide +kernel, by decide +kernel, by decide +kernel, by decide⟩
theorem yy_X5_count : kv_Y mX5_count 1 := ⟨(tb_t 484 (by decide +kernel) rfl), (tb_t 1 (by decide +kernel) rfl), by decide +kernel, rfl, by decide +kernel, by decide +kernel, by decide +kernel, by decide⟩
theorem yy_X0_lastEnd : kv_Y mX0_lastEnd 0 := ⟨(tb_t 488 (by decide +kernel) rfl), (tb_t 5 (by decide +kernel) rfl), by decide +kernel, rfl, by decide +kernel, by decide +kernel, by decide +kernel, by decide⟩
theorem yy_X0_queueing : kv_Y mX0_queueing 0 := ⟨(tb_t 492 (by decide +kernel) rfl), (tb_t 5 (by decide +kernel) rfl), by decide +kernel, rfl, by decide +kernel, by decide +kernel, by decide +kernel, by decide⟩
theorem yy_X0_winner : kv_Y mX0_winner 0 := ⟨(tb_t 497 (by decide +kernel) rfl), (tb_t 5 (by decide +kernel) rfl), by decide +kernel, rfl, by decide +kernel, by decide +kernel, by decide +kernel, by decide⟩
theorem yy_X0_points : kv_Y mX0_points 0 := ⟨(tb_t 501 (by decide +kernel) rfl), (tb_t 5 (by decide +kernel) rfl), by decide +kernel, rfl, by decide +kernel, by decide +kernel, by decide +kernel, by decide⟩
theorem yy_X0_visits : kv_Y mX0_visits 0 := ⟨(tb_t 505 (by decide +kernel) rfl), (tb_t 5 (by decide +kernel) rfl), by decide +kernel, rfl, by decide +kernel, by decide +kernel, by decide +kernel, by decide⟩
theorem yy_X5_freeStart : kv_Y mX5_freeStart 1 := ⟨(tb_t 509 (by decide +kernel) rfl), (tb_t 1 (by decide +kernel) rfl), by decide +kernel, rfl, by decide +kernel, by decide +kernel, by decide +kernel, by decide⟩
theorem yy_X5_bestExchange : kv_Y mX5_bestExchange 2 := ⟨(tb_t 514 (by decide +kernel) rfl), (tb_t 1 (by decide +kernel) rfl), by decide +kernel, rfl, by decide +kernel, by decide +kernel, by decide +kernel, by decide⟩
theorem yy_X5_endIfExchanged : kv_Y mX5_endIfExchanged 3 := ⟨(tb_t 518 (by decide +kernel) rfl), (tb_t 1 (by decide +kernel) rfl), by decide +kernel, rfl, by decide +kernel, by decide +kernel, by decide +kernel, by decide⟩
theorem yy_X5_worstPlace : kv_Y mX5_worstPlace 1 := ⟨(tb_t 522 (by decide +kernel) rfl), (tb_t 1 (by decide +kernel) rfl), by decide +kernel, rfl, by decide +kernel, by decide +kernel, by decide +kernel, by decide⟩
theorem yy_X5_ifTurned : kv_Y mX5_ifTurned 2 := ⟨(tb_t 526 (by decide +kernel) rfl), (tb_t 1 (by decide +kernel) rfl), by decide +kernel, rfl, by decide +kernel, by decide +kernel, by decide +kernel, by decide⟩
theorem yy_X5_put : kv_Y mX5_put 1 := ⟨(tb_t 530 (by decide +kernel) rfl), (tb_t 1 (by decide +kernel) rfl), by decide +kernel, rfl, by decide +kernel, by decide +kernel, by decide +kernel, by decide⟩
theorem yy_X2_lengthOf : kv_Y mX2_lengthOf 1 := ⟨(tb_t 533 (by decide +kernel) rfl), (tb_t 6 (by decide +kernel) rfl), by decide +kernel, rfl, by decide +kernel, by decide +kernel, by decide +kernel, by decide⟩
theorem yy_X2_append : kv_Y mX2_append 2 := ⟨(tb_t 539 (by decide +kernel) rfl), (tb_t 6 (by decide +kernel) rfl), by decide +kernel, rfl, by decide +kernel, by decide +kernel, by decide +kernel, by decide⟩
theorem yy_X5_wipe : kv_Y mX5_wipe 0 := ⟨(tb_t 543 (by decide +kernel) rfl), (tb_t 1 (by decide +kernel) rfl), by decide +kernel, rfl, by decide +kernel, by decide +kernel, by decide +kernel, by decide⟩
theorem yy_X5_fault : kv_Y mX5_fault 0 := ⟨(tb_t 547 (by decide +kernel) rfl), (tb_t 1 (by decide +kernel) rfl), by decide +kernel, rfl, by decide +kernel, by decide +kernel, by decide +kernel, by decide⟩
theorem yy_X5_undo : kv_Y mX5_undo 0 := ⟨(tb_t 551 (by decide +kernel) rfl), (tb_t 1 (by decide +kernel) rfl), by decide +kernel, rfl, by decide +kernel, by decide +kernel, by decide +kernel, by decide⟩
theorem yy_X1_takeBack : kv_Y mX1_takeBack 1 := ⟨(tb_t 555 (by decide +kernel) rfl), (tb_t 7 (by decide +kernel) rfl), by decide +kernel, rfl, by decide +kernel, by decide +kernel, by decide +kernel, by decide⟩
theorem yy_X5_save : kv_Y mX5_save 1 := ⟨(tb_t 559 (by decide +kernel) rfl), (tb_t 1 (by decide +kernel) rfl), by decide +kernel, rfl, by decide +kernel, by decide +kernel, by decide +kernel, by decide⟩
theorem yy_X5_restore : kv_Y mX5_restore 1 := ⟨(tb_t 563 (by decide +kernel) rfl), (tb_t 1 (by decide +kernel) rfl), by decide +kernel, rfl, by decide +kernel, by decide +kernel, by decide +kernel, by decide⟩
theorem yy_X6_init : kv_Y mX6_init 0 := ⟨(tb_t 568 (by decide +kernel) rfl), (tb_t 8 (by decide +kernel) rfl), by decide +kernel, rfl, by decide +kernel, by decide +kernel, by decide +kernel, by decide⟩
theorem yy_X6_undo : kv_Y mX6_undo 0 := ⟨(tb_t 643 (by decide +kernel) rfl), (tb_t 8 (by decide +kernel) rfl), by decide +kernel, rfl, by decide +kernel, by decide +kernel, by decide +kernel, by decide⟩
theorem yy_X6_save : kv_Y mX6_save 1 := ⟨(tb_t 648 (by decide +kernel) rfl), (tb_t 8 (by decide +kernel) rfl), by decide +kernel, rfl, by decide +kernel, by decide +kernel, by decide +kernel, by decide⟩
theorem yy_X6_in : kv_Y mX6_in 3 := ⟨(tb_t 651 (by decide +kernel) rfl), (tb_t 8 (by decide +kernel) rfl), by decide +kernel, rfl, by decide +kernel, by decide +kernel, by decide +kernel, by decide⟩
theorem yy_X6_restore : kv_Y mX6_restore 1 := ⟨(tb_t 656 (by decide +kernel) rfl), (tb_t 8 (by decide +kernel) rfl), by decide +kernel, rfl, by decide +kernel, by decide +kernel, by decide +kernel, by decide⟩
theorem yy_X6_remember : kv_Y mX6_remember 0 := ⟨(tb_t 660 (by decide +kernel) rfl), (tb_t 8 (by decide +kernel) rfl), by decide +kernel, rfl, by decide +kernel, by decide +kernel, by decide +kernel, by decide⟩
theorem yy_X6_record : kv_Y mX6_record 1 := ⟨(tb_t 664 (by decide +kernel) rfl), (tb_t 8 (by decide +kernel) rfl), by decide +kernel, rfl, by decide +kernel, by decide +kernel, by decide +kernel, by decide⟩
theorem yy_X6_set : kv_Y mX6_set 2 := ⟨(tb_t 668 (by decide +kernel) rfl), (tb_t 8 (by decide +kernel) rfl), by decide +kernel, rfl, by decide +kernel, by decide +kernel, by decide +kernel, by decide⟩
theorem yy_X6_place : kv_Y mX6_place 4 := ⟨(tb_t 672 (by decide +kernel) rfl), (tb_t 8 (by decide +kernel) rfl), by decide +kernel, rfl, by decide +kernel, by decide +kernel, by decide +kernel, by decide⟩
theorem yy_X6_isPlace : kv_Y mX6_isPlace 1 := ⟨(tb_t 675 (by decide +kernel) rfl), (tb_t 8 (by decide +kernel) rfl), by decide +kernel, rfl, by decide +kernel, by decide +kernel, by decide +kernel, by decide⟩
theorem yy_X6_of : kv_Y mX6_of 2 := ⟨(tb_t 680 (by decide +kernel) rfl), (tb_t 8 (by decide +kernel) rfl), by decide +kernel, rfl, by decide +kernel, by decide +kernel, by decide +kernel, by decide⟩
theorem yy_X6_close : kv_Y mX6_close 2 := ⟨(tb_t 684 (by decide +kernel) rfl), (tb_t 8 (by decide +kernel) rfl), by decide +kernel, rfl, by decide +kernel, by decide +kernel, by decide +kernel, by decide⟩
theorem yy_X6_openOnes : kv_Y mX6_openOnes 0 := ⟨(tb_t 688 (by decide +kernel) rfl), (tb_t 8 (by decide +kernel) rfl), by decide +kernel, rfl, by decide +kernel, by decide +kernel, by decide +kernel, by decide⟩
theorem yy_X6_team : kv_Y mX6_team 1 := ⟨(tb_t 692 (by decide +kernel) rfl), (tb_t 8 (by decide +kernel) rfl), by decide +kernel, rfl, by decide +kernel, by decide +kernel, by decide +kernel, by decide⟩
theorem yy_X6_isWell : kv_Y mX6_isWell 0 := ⟨(tb_t 696 (by decide +kernel) rfl), (tb_t 8 (by decide +kernel) rfl), by decide +kernel, rfl, by decide +kernel, by decide +kernel, by decide +kernel, by decide⟩
theorem yy_X6_readPlace : kv_Y mX6_readPlace 0 := ⟨(tb_t 700 (by decide +kernel) rfl), (tb_t 8 (by decide +kernel) rfl), by decide +kernel, rfl, by decide +kernel, by decide +kernel, by decide +kernel, by decide⟩
theorem yy_X6_lay : kv_Y mX6_lay 3 := ⟨(tb_t 707 (by decide +kernel) rfl), (tb_t 8 (by decide +kernel) rfl), by decide +kernel, rfl, by decide +kernel, by decide +kernel, by decide +kernel, by decide⟩
theorem yy_X6_takeRoute : kv_Y mX6_takeRoute 1 := ⟨(tb_t 711 (by decide +kernel) rfl), (tb_t 8 (by decide +kernel) rfl), by decide +kernel, rfl, by decide +kernel, by decide +kernel, by decide +kernel, by decide⟩
theorem yy_X6_route : kv_Y mX6_route 1 := ⟨(tb_t 715 (by decide +kernel) rfl), (tb_t 8 (by decide +kernel) rfl), by decide +kernel, rfl, by decide +kernel, by decide +kernel, by decide +kernel, by decide⟩
theorem yy_X6_isTeam : kv_Y mX6_isTeam 1 := ⟨(tb_t 719 (by decide +kernel) rfl), (tb_t 8 (by decide +kernel) rfl), by decide +kernel, rfl, by decide +kernel, by decide +kernel, by decide +kernel, by decide⟩
theorem yy_X6_playAll : kv_Y mX6_playAll 0 := ⟨(tb_t 723 (by decide +kernel) rfl), (tb_t 8 (by decide +kernel) rfl), by decide +kernel, rfl, by decide +kernel, by decide +kernel, by decide +kernel, by decide⟩
theorem yy_X6_play : kv_Y mX6_play 1 := ⟨(tb_t 727 (by decide +kernel) rfl), (tb_t 8 (by decide +kernel) rfl), by decide +kernel, rfl, by decide +kernel, by decide +kernel, by decide +kernel, by decide⟩
theorem yy_X6_prepare : kv_Y mX6_prepare 1 := ⟨(tb_t 731 (by decide +kernel) rfl), (tb_t 8 (by decide +kernel) rfl), by decide +kernel, rfl, by decide +kernel, by decide +kernel, by decide +kernel, by decide⟩
theorem yy_X6_its : kv_Y mX6_its 2 := ⟨(tb_t 735 (by decide +kernel) rfl), (tb_t 8 (by decide +kernel) rfl), by decide +kernel, rfl, by decide +kernel, by decide +kernel, by decide +kernel, by decide⟩
theorem yy_X6_walk : kv_Y mX6_walk 2 := ⟨(tb_t 739 (by decide +kernel) rfl), (tb_t 8 (by decide +kernel) rfl), by decide +kernel, rfl, by decide +kernel, by decide +kernel, by decide +kernel, by decide⟩
theorem yy_X6_size : kv_Y mX6_size 1 := ⟨(tb_t 742 (by decide +kernel) rfl), (tb_t 8 (by decide +kernel) rfl), by decide +kernel, rfl, by decide +kernel, by decide +kernel, by decide +kernel, by decide⟩
theorem yy_X6_next : kv_Y mX6_next 0 := ⟨(tb_t 746 (by decide +kernel) rfl), (tb_t 8 (by decide +kernel) rfl), by decide +kernel, rfl, by decide +kernel, by decide +kernel, by decide +kernel, by decide⟩
theorem yy_X6_hasLost : kv_Y mX6_hasLost 1 := ⟨(tb_t 750 (by decide +kernel) rfl), (tb_t 8 (by decide +kernel) rfl), by decide +kernel, rfl, by decide +kernel, by decide +kernel, by decide +kernel, by decide⟩
theorem yy_X6_leave : kv_Y mX6_leave 1 := ⟨(tb_t 754 (by decide +kernel) rfl), (tb_t 8 (by decide +kernel) rfl), by decide +kernel, rfl, by decide +kernel, by decide +kernel, by decide +kernel, by decide⟩
theorem yy_X6_start : kv_Y mX6_start 2 := ⟨(tb_t 758 (by decide +kernel) rfl), (tb_t 8 (by decide +kernel) rfl), by decide +kernel, rfl, by decide +kernel, by decide +kernel, by decide +kernel, by decide⟩
theorem yy_X6_hint : kv_Y mX6_hint 3 := ⟨(tb_t 762 (by decide +kernel) rfl), (tb_t 8 (by decide +kernel) rfl), by decide +kernel, rfl, by decide +kernel, by decide +kernel, by decide +kernel, by decide⟩
theorem yy_X6_endOf : kv_Y mX6_endOf 1 := ⟨(tb_t 766 (by decide +kernel) rfl), (tb_t 8 (by decide +kernel) rfl), by decide +kernel, rfl, by decide +kernel, by decide +kernel, by decide +kernel, by decide⟩
theorem yy_X6_lose : kv_Y mX6_lose 2 := ⟨(tb_t 770 (by decide +kernel) rfl), (tb_t 8 (by decide +kernel) rfl), by decide +kernel, rfl, by decide +kernel, by decide +kernel, by decide +kernel, by decide⟩
theorem yy_X6_turn : kv_Y mX6_turn 2 := ⟨(tb_t 774 (by decide +kernel) rfl), (tb_t 8 (by decide +kernel) rfl), by decide +kernel, rfl, by decide +kernel, by decide +kernel, by decide +kernel, by decide⟩
theorem yy_X6_turned : kv_Y mX6_turned 2 := ⟨(tb_t 778 (by decide +kernel) rfl), (tb_t 8 (by decide +kernel) rfl), by decide +kernel, rfl, by decide +kernel, by decide +kernel, by decide +kernel, by decide⟩
theorem yy_X6_exchange : kv_Y mX6_exchange 3 := ⟨(tb_t 782 (by decide +kernel) rfl), (tb_t 8 (by decide +kernel) rfl), by decide +kernel, rfl, by decide +kernel, by decide +kernel, by decide +kernel, by decide⟩
theorem yy_X6_exchanged : kv_Y mX6_exchanged 3 := ⟨(tb_t 786 (by decide +kernel) rfl), (tb_t 8 (by decide +kernel) rfl), by decide +kernel, rfl, by decide +kernel, by decide +kernel, by decide +kernel, by decide⟩
theorem yy_X6_part : kv_Y mX6_part 0 := ⟨(tb_t 790 (by decide +kernel) rfl), (tb_t 8 (by decide +kernel) rfl), by decide +kernel, rfl, by decide +kernel, by decide +kernel, by decide +kernel, by decide⟩
theorem yy_X6_leastStart : kv_Y mX6_leastStart 2 := ⟨(tb_t 794 (by decide +kernel) rfl), (tb_t 8 (by decide +kernel) rfl), by decide +kernel, rfl, by decide +kernel, by decide +kernel, by decide +kernel, by decide⟩
theorem yy_X6_met : kv_Y mX6_met 1 := ⟨(tb_t 798 (by decide +kernel) rfl), (tb_t 8 (by decide +kernel) rfl), by decide +kernel, rfl, by decide +kernel, by decide +kernel, by decide +kernel, by decide⟩
theorem yy_X6_meet : kv_Y mX6_meet 2 := ⟨(tb_t 802 (by decide +kernel) rfl), (tb_t 8 (by decide +kernel) rfl), by decide +kernel, rfl, by decide +kernel, by decide +kernel, by decide +kernel, by decide⟩
theorem yy_X6_meetAt : kv_Y mX6_meetAt 3 := ⟨(tb_t 806 (by decide +kernel) rfl), (tb_t 8 (by decide +kernel) rfl), by decide +kernel, rfl, by decide +kernel, by decide +kernel, by decide +kernel, by decide⟩
theorem yy_X6_visitTo : kv_Y mX6_visitTo 2 := ⟨(tb_t 810 (by decide +kernel) rfl), (tb_t 8 (by decide +kernel) rfl), by decide +kernel, rfl, by decide +kernel, by decide +kernel, by decide +kernel, by decide⟩
theorem yy_X6_pairs : kv_Y mX6_pairs 0 := ⟨(tb_t 814 (by decide +kernel) rfl), (tb_t 8 (by decide +kernel) rfl), by decide +kernel, rfl, by decide +kernel, by decide +kernel, by decide +kernel, by decide⟩
theorem yy_X6_visit : kv_Y mX6_visit 3 := ⟨(tb_t 818 (by decide +kernel) rfl), (tb_t 8 (by decide +kernel) rfl), by decide +kernel, rfl, by decide +kernel, by decide +kernel, by decide +kernel, by decide⟩
theorem yy_X6_teamOf : kv_Y mX6_teamOf 2 := ⟨(tb_t 822 (by decide +kernel) rfl), (tb_t 8 (by decide +kernel) rfl), by decide +kernel, rfl, by decide +kernel, by decide +kernel, by decide +kernel, by decide⟩
theorem yy_X6_queued : kv_Y mX6_queued 1 := ⟨(tb_t 826 (by decide +kernel) rfl), (tb_t 8 (by decide +kernel) rfl), by decide +kernel, rfl, by decide +kernel, by decide +kernel, by decide +kernel, by decide⟩
theorem yy_X6_walked : kv_Y mX6_walked 1 := ⟨(tb_t 830 (by decide +kernel) rfl), (tb_t 8 (by decide +kernel) rfl), by decide +kernel, rfl, by decide +kernel, by decide +kernel, by decide +kernel, by decide⟩
theorem yy_X6_points : kv_Y mX6_points 1 := ⟨(tb_t 834 (by decide +kernel) rfl), (tb_t 8 (by decide +kernel) rfl), by decide +kernel, rfl, by decide +kernel, by decide +kernel, by decide +kernel, by decide⟩
theorem yy_X6_hinted : kv_Y mX6_hinted 1 := ⟨(tb_t 838 (by decide +kernel) rfl), (tb_t 8 (by decide +kernel) rfl), by decide +kernel, rfl, by decide +kernel, by decide +kernel, by decide +kernel, by decide⟩
theorem yy_X6_rank : kv_Y mX6_rank 1 := ⟨(tb_t 842 (by decide +kernel) rfl), (tb_t 8 (by decide +kernel) rfl), by decide +kernel, rfl, by decide +kernel, by decide +kernel, by decide +kernel, by decide⟩
theorem yy_X6_isAhead : kv_Y mX6_isAhead 2 := ⟨(tb_t 846 (by decide +kernel) rfl), (tb_t 8 (by decide +kernel) rfl), by decide +kernel, rfl, by decide +kernel, by decide +kernel, by decide +kernel, by decide⟩
theorem yy_X6_placeOf : kv_Y mX6_placeOf 2 := ⟨(tb_t 850 (by decide +kernel) rfl), (tb_t 8 (by decide +kernel) rfl), by decide +kernel, rfl, by decide +kernel, by decide +kernel, by decide +kernel, by decide⟩
theorem yy_X6_atPlace : kv_Y mX6_atPlace 2 := ⟨(tb_t 854 (by decide +kernel) rfl), (tb_t 8 (by decide +kernel) rfl), by decide +kernel, rfl, by decide +kernel, by decide +kernel, by decide +kernel, by decide⟩
theorem yy_X6_crowd : kv_Y mX6_crowd 1 := ⟨(tb_t 858 (by decide +kernel) rfl), (tb_t 8 (by decide +kernel) rfl), by decide +kernel, rfl, by decide +kernel, by decide +kernel, by decide +kernel, by decide⟩
theorem yy_X6_where : kv_Y mX6_where 2 := ⟨(tb_t 862 (by decide +kernel) rfl), (tb_t 8 (by decide +kernel) rfl), by decide +kernel, rfl, by decide +kernel, by decide +kernel, by decide +kernel, by decide⟩
theorem yy_X6_told : kv_Y mX6_told 2 := ⟨(tb_t 866 (by decide +kernel) rfl), (tb_t 8 (by decide +kernel) rfl), by decide +kernel, rfl, by decide +kernel, by decide +kernel, by decide +kernel, by decide⟩
theorem yy_X6_count : kv_Y mX6_count 1 := ⟨(tb_t 870 (by decide +kernel) rfl), (tb_t 8 (by decide +kernel) rfl), by decide +kernel, rfl, by decide +kernel, by decide +kernel, by decide +kernel, by decide⟩
theorem yy_X6_lastEnd : kv_Y mX6_lastEnd 0 := ⟨(tb_t 874 (by decide +kernel) rfl), (tb_t 8 (by decide +kernel) rfl), by decide +kernel, rfl, by decide +kernel, by decide +kernel, by decide +kernel, by decide⟩
theorem yy_X6_allQueued : kv_Y mX6_allQueued 0 := ⟨(tb_t 878 (by decide +kernel) rfl), (tb_t 8 (by decide +kernel) rfl), by decide +kernel, rfl, by decide +kernel, by decide +kernel, by decide +kernel, by decide⟩
theorem yy_X6_winner : kv_Y mX6_winner 0 := ⟨(tb_t 882 (by decide +kernel) rfl), (tb_t 8 (by decide +kernel) rfl), by decide +kernel, rfl, by decide +kernel, by decide +kernel, by decide +kernel, by decide⟩
theorem yy_X6_sums : kv_Y mX6_sums 1 := ⟨(tb_t 886 (by decide +kernel) rfl), (tb_t 8 (by decide +kernel) rfl), by decide +kernel, rfl, by decide +kernel, by decide +kernel, by decide +kernel, by decide⟩
theorem yy_X6_freeStart : kv_Y mX6_freeStart 1 := ⟨(tb_t 890 (by decide +kernel) rfl), (tb_t 8 (by decide +kernel) rfl), by decide +kernel, rfl, by decide +kernel, by decide +kernel, by decide +kernel, by decide⟩
theorem yy_X6_bestExchange : kv_Y mX6_bestExchange 2 := ⟨(tb_t 894 (by decide +kernel) rfl), (tb_t 8 (by decide +kernel) rfl), by decide +kernel, rfl, by decide +kernel, by decide +kernel, by decide +kernel, by decide⟩
theorem yy_X6_worstPlace : kv_Y mX6_worstPlace 1 := ⟨(tb_t 898 (by decide +kernel) rfl), (tb_t 8 (by decide +kernel) rfl), by decide +kernel, rfl, by decide +kernel, by decide +kernel, by decide +kernel, by decide⟩
theorem yy_X6_ifTurned : kv_Y mX6_ifTurned 2 := ⟨(tb_t 902 (by decide +kernel) rfl), (tb_t 8 (by decide +kernel) rfl), by decide +kernel, rfl, by decide +kernel, by decide +kernel, by decide +kernel, by decide⟩
theorem yy_X6_layAside : kv_Y mX6_layAside 0 := ⟨(tb_t 906 (by decide +kernel) rfl), (tb_t 8 (by decide +kernel) rfl), by decide +kernel, rfl, by decide +kernel, by decide +kernel, by decide +kernel, by decide⟩
theorem yy_X6_putBack : kv_Y mX6_putBack 0 := ⟨(tb_t 910 (by decide +kernel) rfl), (tb_t 8 (by decide +kernel) rfl), by decide +kernel, rfl, by decide +kernel, by decide +kernel, by decide +kernel, by decide⟩
theorem yy_X6_put : kv_Y mX6_put 1 := ⟨(tb_t 914 (by decide +kernel) rfl), (tb_t 8 (by decide +kernel) rfl), by decide +kernel, rfl, by decide +kernel, by decide +kernel, by decide +kernel, by decide⟩
theorem yy_X6_wipe : kv_Y mX6_wipe 0 := ⟨(tb_t 919 (by decide +kernel) rfl), (tb_t 8 (by decide +kernel) rfl), by decide +kernel, rfl, by decide +kernel, by decide +kernel, by decide +kernel, by decide⟩
theorem yy_X6_fault : kv_Y mX6_fault 0 := ⟨(tb_t 923 (by decide +kernel) rfl), (tb_t 8 (by decide +kernel) rfl), by decide +kernel, rfl, by decide +kernel, by decide +kernel, by decide +kernel, by decide⟩
theorem kc_J6_265 : Cond.constant RJ6 265 (1431655765) ∈ TB := (tb_t 257 (by decide +kernel) rfl)
theorem kc_J6_266 : Cond.constant RJ6 266 (858993459) ∈ TB := (tb_t 258 (by decide +kernel) rfl)
theorem kc_J6_267 : Cond.constant RJ6 267 (252645135) ∈ TB := (tb_t 259 (by decide +kernel) rfl)
theorem ci_L_9 : Cond.methodLink RL 9 yX5_init ∈ TB ∧ Cond.instanceMethod yX5_init ∈ TB := ⟨(tb_t 14 (by decide +kernel) rfl), (tb_t 15 (by decide +kernel) rfl)⟩
theorem ci_L_12 : Cond.methodLink RL 12 yX6_init ∈ TB ∧ Cond.instanceMethod yX6_init ∈ TB := ⟨(tb_t 566 (by decide +kernel) rfl), (tb_t 567 (by decide +kernel) rfl)⟩
theorem cv_L_13 : kv_cV RL 13 mX5_set 5 2 := ⟨yy_X5_set, (tb_t 208 (by decide +kernel) rfl), (tb_t 209 (by decide +kernel) rfl), by decide, _, rfl, (tb_t 210 (by decide +kernel) rfl)⟩
theorem cv_L_17 : kv_cV RL 17 mX6_set 6 2 := ⟨yy_X6_set, (tb_t 665 (by decide +kernel) rfl), (tb_t 666 (by decide +kernel) rfl), by decide, _, rfl, (tb_t 667 (by decide +kernel) rfl)⟩
theorem cv_L_18 : kv_cV RL 18 mX5_place 5 4 := ⟨yy_X5_place, (tb_t 233 (by decide +kernel) rfl), (tb_t 234 (by decide +kernel) rfl), by decide, _, rfl, (tb_t 235 (by decide +kernel) rfl)⟩
theorem cv_L_22 : kv_cV RL 22 mX6_place 6 4 := ⟨yy_X6_place, (tb_t 669 (by decide +kernel) rfl), (tb_t 670 (by decide +kernel) rfl), by decide, _, rfl, (tb_t 671 (by decide +kernel) rfl)⟩
theorem cv_L_23 : kv_cV RL 23 mX5_close 5 2 := ⟨yy_X5_close, (tb_t 241 (by decide +kernel) rfl), (tb_t 242 (by decide +kernel) rfl), by decide, _, rfl, (tb_t 243 (by decide +kernel) rfl)⟩
theorem cv_L_27 : kv_cV RL 27 mX6_close 6 2 := ⟨yy_X6_close, (tb_t 681 (by decide +kernel) rfl), (tb_t 682 (by decide +kernel) rfl), by decide, _, rfl, (tb_t 683 (by decide +kernel) rfl)⟩
theorem cv_L_28 : kv_cV RL 28 mX5_team 5 1 := ⟨yy_X5_team, (tb_t 260 (by decide +kernel) rfl), (tb_t 261 (by decide +kernel) rfl), by decide, _, rfl, (tb_t 262 (by decide +kernel) rfl)⟩
theorem cv_L_32 : kv_cV RL 32 mX6_team 6 1 := ⟨yy_X6_team, (tb_t 689 (by decide +kernel) rfl), (tb_t 690 (by decide +kernel) rfl), by decide, _, rfl, (tb_t 691 (by decide +kernel) rfl)⟩
theorem cv_L_33 : kv_cV RL 33 mX5_route 5 1 := ⟨yy_X5_route, (tb_t 280 (by decide +kernel) rfl), (tb_t 281 (by decide +kernel) rfl), by decide, _, rfl, (tb_t 282 (by decide +kernel) rfl)⟩
theorem cv_L_36 : kv_cV RL 36 mX6_route 6 1 := ⟨yy_X6_route, (tb_t 712 (by decide +kernel) rfl), (tb_t 713 (by decide +kernel) rfl), by decide, _, rfl, (tb_t 714 (by decide +kernel) rfl)⟩
theorem cv_L_37 : kv_cV RL 37 mX5_leave 5 1 := ⟨yy_X5_leave, (tb_t 293 (by decide +kernel) rfl), (tb_t 294 (by decide +kernel) rfl), by decide, _, rfl, (tb_t 295 (by decide +kernel) rfl)⟩
theorem cv_L_40 : kv_cV RL 40 mX6_leave 6 1 := ⟨yy_X6_leave, (tb_t 751 (by decide +kernel) rfl), (tb_t 752 (by decide +kernel) rfl), by decide, _, rfl, (tb_t 753 (by decide +kernel) rfl)⟩
theorem cv_L_41 : kv_cV RL 41 mX5_start 5 2 := ⟨yy_X5_start, (tb_t 298 (by decide +kernel) rfl), (tb_t 299 (by decide +kernel) rfl), by decide, _, rfl, (tb_t 300 (by decide +kernel) rfl)⟩
theorem cv_L_44 : kv_cV RL 44 mX6_start 6 2 := ⟨yy_X6_start, (tb_t 755 (by decide +kernel) rfl), (tb_t 756 (by decide +kernel) rfl), by decide, _, rfl, (tb_t 757 (by decide +kernel) rfl)⟩
theorem cv_L_45 : kv_cV RL 45 mX5_hint 5 3 := ⟨yy_X5_hint, (tb_t 302 (by decide +kernel) rfl), (tb_t 303 (by decide +kernel) rfl), by decide, _, rfl, (tb_t 304 (by decide +kernel) rfl)⟩
theorem cv_L_49 : kv_cV RL 49 mX6_hint 6 3 := ⟨yy_X6_hint, (tb_t 759 (by decide +kernel) rfl), (tb_t 760 (by decide +kernel) rfl), by decide, _, rfl, (tb_t 761 (by decide +kernel) rfl)⟩
theorem cv_L_50 : kv_cV RL 50 mX5_lose 5 2 := ⟨yy_X5_lose, (tb_t 349 (by decide +kernel) rfl), (tb_t 350 (by decide +kernel) rfl), by decide, _, rfl, (tb_t 351 (by decide +kernel) rfl)⟩
theorem cv_L_53 : kv_cV RL 53 mX6_lose 6 2 := ⟨yy_X6_lose, (tb_t 767 (by decide +kernel) rfl), (tb_t 768 (by decide +kernel) rfl), by decide, _, rfl, (tb_t 769 (by decide +kernel) rfl)⟩
theorem cv_L_54 : kv_cV RL 54 mX5_turn 5 2 := ⟨yy_X5_turn, (tb_t 353 (by decide +kernel) rfl), (tb_t 354 (by decide +kernel) rfl), by decide, _, rfl, (tb_t 355 (by decide +kernel) rfl)⟩
theorem cv_L_57 : kv_cV RL 57 mX6_turn 6 2 := ⟨yy_X6_turn, (tb_t 771 (by decide +kernel) rfl), (tb_t 772 (by decide +kernel) rfl), by decide, _, rfl, (tb_t 773 (by decide +kernel) rfl)⟩
theorem cv_L_58 : kv_cV RL 58 mX5_exchange 5 3 := ⟨yy_X5_exchange, (tb_t 361 (by decide +kernel) rfl), (tb_t 362 (by decide +kernel) rfl), by decide, _, rfl, (tb_t 363 (by decide +kernel) rfl)⟩
theorem cv_L_62 : kv_cV RL 62 mX6_exchange 6 3 := ⟨yy_X6_exchange, (tb_t 779 (by decide +kernel) rfl), (tb_t 780 (by decide +kernel) rfl), by decide, _, rfl, (tb_t 781 (by decide +kernel) rfl)⟩
theorem cv_L_63 : kv_cV RL 63 mX5_part 5 0 := ⟨yy_X5_part, (tb_t 373 (by decide +kernel) rfl), (tb_t 374 (by decide +kernel) rfl), by decide, _, rfl, (tb_t 375 (by decide +kernel) rfl)⟩
theorem cv_L_67 : kv_cV RL 67 mX6_part 6 0 := ⟨yy_X6_part, (tb_t 787 (by decide +kernel) rfl), (tb_t 788 (by decide +kernel) rfl), by decide, _, rfl, (tb_t 789 (by decide +kernel) rfl)⟩
theorem cv_L_68 : kv_cV RL 68 mX5_visit 5 3 := ⟨yy_X5_visit, (tb_t 401 (by decide +kernel) rfl), (tb_t 402 (by decide +kernel) rfl), by decide, _, rfl, (tb_t 403 (by decide +kernel) rfl)⟩
theorem cv_L_71 : kv_cV RL 71 mX6_visit 6 3 := ⟨yy_X6_visit, (tb_t 815 (by decide +kernel) rfl), (tb_t 816 (by decide +kernel) rfl), by decide, _, rfl, (tb_t 817 (by decide +kernel) rfl)⟩
theorem cv_L_72 : kv_cV RL 72 mX5_teamOf 5 2 := ⟨yy_X5_teamOf, (tb_t 405 (by decide +kernel) rfl), (tb_t 406 (by decide +kernel) rfl), by decide, _, rfl, (tb_t 407 (by decide +kernel) rfl)⟩
theorem cv_L_75 : kv_cV RL 75 mX6_teamOf 6 2 := ⟨yy_X6_teamOf, (tb_t 819 (by decide +kernel) rfl), (tb_t 820 (by decide +kernel) rfl), by decide, _, rfl, (tb_t 821 (by decide +kernel) rfl)⟩
theorem cv_L_76 : kv_cV RL 76 mX5_placeOf 5 2 := ⟨yy_X5_placeOf, (tb_t 436 (by decide +kernel) rfl), (tb_t 437 (by decide +kernel) rfl), by decide, _, rfl, (tb_t 438 (by decide +kernel) rfl)⟩
theorem cv_L_79 : kv_cV RL 79 mX6_placeOf 6 2 := ⟨yy_X6_placeOf, (tb_t 847 (by decide +kernel) rfl), (tb_t 848 (by decide +kernel) rfl), by decide, _, rfl, (tb_t 849 (by decide +kernel) rfl)⟩
theorem cv_L_80 : kv_cV RL 80 mX5_where 5 2 := ⟨yy_X5_where, (tb_t 464 (by decide +kernel) rfl), (tb_t 465 (by decide +kernel) rfl), by decide, _, rfl, (tb_t 466 (by decide +kernel) rfl)⟩
theorem cv_L_83 : kv_cV RL 83 mX6_where 6 2 := ⟨yy_X6_where, (tb_t 859 (by decide +kernel) rfl), (tb_t 860 (by decide +kernel) rfl), by decide, _, rfl, (tb_t 861 (by decide +kernel) rfl)⟩
theorem cv_L_84 : kv_cV RL 84 mX5_told 5 2 := ⟨yy_X5_told, (tb_t 473 (by decide +kernel) rfl), (tb_t 474 (by decide +kernel) rfl), by decide, _, rfl, (tb_t 475 (by decide +kernel) rfl)⟩
theorem cv_L_87 : kv_cV RL 87 mX6_told 6 2 := ⟨yy_X6_told, (tb_t 863 (by decide +kernel) rfl), (tb_t 864 (by decide +kernel) rfl), by decide, _, rfl, (tb_t 865 (by decide +kernel) rfl)⟩
theorem cv_L_88 : kv_cV RL 88 mX5_count 5 1 := ⟨yy_X5_count, (tb_t 481 (by decide +kernel) rfl), (tb_t 482 (by decide +kernel) rfl), by decide, _, rfl, (tb_t 483 (by decide +kernel) rfl)⟩
theorem cv_L_91 : kv_cV RL 91 mX6_count 6 1 := ⟨yy_X6_count, (tb_t 867 (by decide +kernel) rfl), (tb_t 868 (by decide +kernel) rfl), by decide, _, rfl, (tb_t 869 (by decide +kernel) rfl)⟩
theorem cv_L_92 : kv_cV RL 92 mX5_freeStart 5 1 := ⟨yy_X5_freeStart, (tb_t 506 (by decide +kernel) rfl), (tb_t 507 (by decide +kernel) rfl), by decide, _, rfl, (tb_t 508 (by decide +kernel) rfl)⟩
theorem cv_L_95 : kv_cV RL 95 mX6_freeStart 6 1 := ⟨yy_X6_freeStart, (tb_t 887 (by decide +kernel) rfl), (tb_t 888 (by decide +kernel) rfl), by decide, _, rfl, (tb_t 889 (by decide +kernel) rfl)⟩
theorem cv_L_96 : kv_cV RL 96 mX5_bestExchange 5 2 := ⟨yy_X5_bestExchange, (tb_t 511 (by decide +kernel) rfl), (tb_t 512 (by decide +kernel) rfl), by decide, _, rfl, (tb_t 513 (by decide +kernel) rfl)⟩
theorem cv_L_99 : kv_cV RL 99 mX6_bestExchange 6 2 := ⟨yy_X6_bestExchange, (tb_t 891 (by decide +kernel) rfl), (tb_t 892 (by decide +kernel) rfl), by decide, _, rfl, (tb_t 893 (by decide +kernel) rfl)⟩
theorem cv_L_100 : kv_cV RL 100 mX5_worstPlace 5 1 := ⟨yy_X5_worstPlace, (tb_t 519 (by decide +kernel) rfl), (tb_t 520 (by decide +kernel) rfl), by decide, _, rfl, (tb_t 521 (by decide +kernel) rfl)⟩
theorem cv_L_103 : kv_cV RL 103 mX6_worstPlace 6 1 := ⟨yy_X6_worstPlace, (tb_t 895 (by decide +kernel) rfl), (tb_t 896 (by decide +kernel) rfl), by decide, _, rfl, (tb_t 897 (by decide +kernel) rfl)⟩
theorem cv_L_104 : kv_cV RL 104 mX5_ifTurned 5 2 := ⟨yy_X5_ifTurned, (tb_t 523 (by decide +kernel) rfl), (tb_t 524 (by decide +kernel) rfl), by decide, _, rfl, (tb_t 525 (by decide +kernel) rfl)⟩
theorem cv_L_107 : kv_cV RL 107 mX6_ifTurned 6 2 := ⟨yy_X6_ifTurned, (tb_t 899 (by decide +kernel) rfl), (tb_t 900 (by decide +kernel) rfl), by decide, _, rfl, (tb_t 901 (by decide +kernel) rfl)⟩
theorem kl_L_108 : Cond.constantLong RL 108 (4294967295) ∈ TB := (tb_t 924 (by decide +kernel) rfl)
theorem cv_L_110 : kv_cV RL 110 mX5_put 5 1 := ⟨yy_X5_put, (tb_t 527 (by decide +kernel) rfl), (tb_t 528 (by decide +kernel) rfl), by decide, _, rfl, (tb_t 529 (by decide +kernel) rfl)⟩
theorem cv_L_114 : kv_cV RL 114 mX6_put 6 1 := ⟨yy_X6_put, (tb_t 911 (by decide +kernel) rfl), (tb_t 912 (by decide +kernel) rfl), by decide, _, rfl, (tb_t 913 (by decide +kernel) rfl)⟩
theorem cv_L_115 : kv_cV RL 115 mX5_wipe 5 0 := ⟨yy_X5_wipe, (tb_t 540 (by decide +kernel) rfl), (tb_t 541 (by decide +kernel) rfl), by decide, _, rfl, (tb_t 542 (by decide +kernel) rfl)⟩
theorem cv_L_118 : kv_cV RL 118 mX6_wipe 6 0 := ⟨yy_X6_wipe, (tb_t 916 (by decide +kernel) rfl), (tb_t 917 (by decide +kernel) rfl), by decide, _, rfl, (tb_t 918 (by decide +kernel) rfl)⟩
theorem cv_L_119 : kv_cV RL 119 mX5_fault 5 0 := ⟨yy_X5_fault, (tb_t 544 (by decide +kernel) rfl), (tb_t 545 (by decide +kernel) rfl), by decide, _, rfl, (tb_t 546 (by decide +kernel) rfl)⟩
theorem cv_L_122 : kv_cV RL 122 mX6_fault 6 0 := ⟨yy_X6_fault, (tb_t 920 (by decide +kernel) rfl), (tb_t 921 (by decide +kernel) rfl), by decide, _, rfl, (tb_t 922 (by decide +kernel) rfl)⟩
theorem cv_L_123 : kv_cV RL 123 mX5_undo 5 0 := ⟨yy_X5_undo, (tb_t 548 (by decide +kernel) rfl), (tb_t 549 (by decide +kernel) rfl), by decide, _, rfl, (tb_t 550 (by decide +kernel) rfl)⟩
theorem cv_L_126 : kv_cV RL 126 mX6_undo 6 0 := ⟨yy_X6_undo, (tb_t 640 (by decide +kernel) rfl), (tb_t 641 (by decide +kernel) rfl), by decide, _, rfl, (tb_t 642 (by decide +kernel) rfl)⟩
theorem cv_L_127 : kv_cV RL 127 mX5_save 5 1 := ⟨yy_X5_save, (tb_t 556 (by decide +kernel) rfl), (tb_t 557 (by decide +kernel) rfl), by decide, _, rfl, (tb_t 558 (by decide +kernel) rfl)⟩
theorem cv_L_130 : kv_cV RL 130 mX6_save 6 1 := ⟨yy_X6_save, (tb_t 645 (by decide +kernel) rfl), (tb_t 646 (by decide +kernel) rfl), by decide, _, rfl, (tb_t 647 (by decide +kernel) rfl)⟩
theorem cv_L_131 : kv_cV RL 131 mX5_restore 5 1 := ⟨yy_X5_restore, (tb_t 560 (by decide +kernel) rfl), (tb_t 561 (by decide +kernel) rfl), by decide, _, rfl, (tb_t 562 (by decide +kernel) rfl)⟩
theorem cv_L_134 : kv_cV RL 134 mX6_restore 6 1 := ⟨yy_X6_restore, (tb_t 653 (by decide +kernel) rfl), (tb_t 654 (by decide +kernel) rfl), by decide, _, rfl, (tb_t 655 (by decide +kernel) rfl)⟩
theorem co_X0_3 : Cond.methodLink RX0 3 objectInit ∈ TB := (tb_t 106 (by decide +kernel) rfl)
theorem kf_X0_9 : kv_f RX0 9 0 2 := ⟨_, _, _, tyX0, rfl, by decide, (tb_t 111 (by decide +kernel) rfl), inX0, tyX0_ok, nmX0⟩
theorem kf_X0_17 : kv_f RX0 17 0 3 := ⟨_, _, _, tyX0, rfl, by decide, (tb_t 113 (by decide +kernel) rfl), inX0, tyX0_ok, nmX0⟩
theorem kf_X0_20 : kv_f RX0 20 0 4 := ⟨_, _, _, tyX0, rfl, by decide, (tb_t 115 (by decide +kernel) rfl), inX0, tyX0_ok, nmX0⟩
theorem kf_X0_23 : kv_f RX0 23 0 5 := ⟨_, _, _, tyX0, rfl, by decide, (tb_t 117 (by decide +kernel) rfl), inX0, tyX0_ok, nmX0⟩
theorem kf_X0_26 : kv_f RX0 26 0 6 := ⟨_, _, _, tyX0, rfl, by decide, (tb_t 119 (by decide +kernel) rfl), inX0, tyX0_ok, nmX0⟩
theorem kf_X0_29 : kv_f RX0 29 0 7 := ⟨_, _, _, tyX0, rfl, by decide, (tb_t 121 (by decide +kernel) rfl), inX0, tyX0_ok, nmX0⟩
theorem kf_X0_32 : kv_f RX0 32 0 8 := ⟨_, _, _, tyX0, rfl, by decide, (tb_t 123 (by decide +kernel) rfl), inX0, tyX0_ok, nmX0⟩
theorem kf_X0_35 : kv_f RX0 35 0 9 := ⟨_, _, _, tyX0, rfl, by decide, (tb_t 124 (by decide +kernel) rfl), inX0, tyX0_ok, nmX0⟩
theorem kf_X0_38 : kv_f RX0 38 0 10 := ⟨_, _, _, tyX0, rfl, by decide, (tb_t 126 (by decide +kernel) rfl), inX0, tyX0_ok, nmX0⟩
theorem kf_X0_41 : kv_f RX0 41 0 0 := ⟨_, _, _, tyX0, rfl, by decide, (tb_t 109 (by decide +kernel) rfl), inX0, tyX0_ok, nmX0⟩
theorem kf_X0_45 : kv_f RX0 45 0 1 := ⟨_, _, _, tyX0, rfl, by decide, (tb_t 110 (by decide +kernel) rfl), inX0, tyX0_ok, nmX0⟩
theorem cs_X0_49 : kv_cS RX0 49 mJ7_fill_53178 2 := ⟨yy_J7_fill_53178, (tb_t 322 (by decide +kernel) rfl), (tb_t 323 (by decide +kernel) rfl)⟩
theorem cv_X0_55 : kv_cV RX0 55 mX0_layTrail 0 1 := ⟨yy_X0_layTrail, (tb_t 325 (by decide +kernel) rfl), (tb_t 327 (by decide +kernel) rfl), by decide, _, rfl, (tb_s 3 (by decide +kernel) rfl)⟩
theorem kf_X0_59 : kv_f RX0 59 3 5 := ⟨_, _, _, tyX3, rfl, by decide, (tb_t 82 (by decide +kernel) rfl), inX3, tyX3_ok, nmX3⟩
theorem kf_X0_65 : kv_f RX0 65 4 2 := ⟨_, _, _, tyX4, rfl, by decide, (tb_t 49 (by decide +kernel) rfl), inX4, tyX4_ok, nmX4⟩
theorem cv_X0_70 : kv_cV RX0 70 mX0_nextToCome 0 0 := ⟨yy_X0_nextToCome, (tb_t 333 (by decide +kernel) rfl), (tb_t 335 (by decide +kernel) rfl), by decide, _, rfl, (tb_s 4 (by decide +kernel) rfl)⟩
theorem cv_X0_74 : kv_cV RX0 74 mX0_makeVisit 0 1 := ⟨yy_X0_makeVisit, (tb_t 337 (by decide +kernel) rfl), (tb_t 339 (by decide +kernel) rfl), by decide, _, rfl, (tb_s 5 (by decide +kernel) rfl)⟩
theorem kf_X0_77 : kv_f RX0 77 4 1 := ⟨_, _, _, tyX4, rfl, by decide, (tb_t 44 (by decide +kernel) rfl), inX4, tyX4_ok, nmX4⟩
theorem kf_X0_80 : kv_f RX0 80 4 0 := ⟨_, _, _, tyX4, rfl, by decide, (tb_t 39 (by decide +kernel) rfl), inX4, tyX4_ok, nmX4⟩
theorem cv_X0_83 : kv_cV RX0 83 mX3_isClosed 3 1 := ⟨yy_X3_isClosed, (tb_t 329 (by decide +kernel) rfl), (tb_t 246 (by decide +kernel) rfl), by decide, _, rfl, (tb_t 247 (by decide +kernel) rfl)⟩
theorem kf_X0_87 : kv_f RX0 87 3 1 := ⟨_, _, _, tyX3, rfl, by decide, (tb_t 73 (by decide +kernel) rfl), inX3, tyX3_ok, nmX3⟩
theorem cm_X0_90 : Cond.methodLink RX0 90 Lib.Math.abs.name ∈ TB := (tb_t 330 (by decide +kernel) rfl)
theorem kf_X0_96 : kv_f RX0 96 3 2 := ⟨_, _, _, tyX3, rfl, by decide, (tb_t 76 (by decide +kernel) rfl), inX3, tyX3_ok, nmX3⟩
theorem kf_X0_99 : kv_f RX0 99 4 4 := ⟨_, _, _, tyX4, rfl, by decide, (tb_t 54 (by decide +kernel) rfl), inX4, tyX4_ok, nmX4⟩
theorem kf_X0_102 : kv_f RX0 102 3 0 := ⟨_, _, _, tyX3, rfl, by decide, (tb_t 70 (by decide +kernel) rfl), inX3, tyX3_ok, nmX3⟩
theorem cm_X0_105 : Cond.methodLink RX0 105 Lib.Math.max.name ∈ TB := (tb_t 341 (by decide +kernel) rfl)
theorem cv_X0_109 : kv_cV RX0 109 mX3_lookOf 3 2 := ⟨yy_X3_lookOf, (tb_t 344 (by decide +kernel) rfl), (tb_t 345 (by decide +kernel) rfl), by decide, _, rfl, (tb_t 346 (by decide +kernel) rfl)⟩
theorem cv_X0_112 : kv_cV RX0 112 mX4_hasHint 4 1 := ⟨yy_X4_hasHint, (tb_t 425 (by decide +kernel) rfl), (tb_t 307 (by decide +kernel) rfl), by decide, _, rfl, (tb_t 308 (by decide +kernel) rfl)⟩
theorem cv_X0_115 : kv_cV RX0 115 mX0_hintsOf 0 1 := ⟨yy_X0_hintsOf, (tb_t 421 (by decide +kernel) rfl), (tb_t 422 (by decide +kernel) rfl), by decide, _, rfl, (tb_t 423 (by decide +kernel) rfl)⟩
theorem cv_X0_118 : kv_cV RX0 118 mX0_isAhead 0 2 := ⟨yy_X0_isAhead, (tb_t 430 (by decide +kernel) rfl), (tb_t 432 (by decide +kernel) rfl), by decide, _, rfl, (tb_s 10 (by decide +kernel) rfl)⟩
theorem cv_X0_122 : kv_cV RX0 122 mX0_pointsOf 0 1 := ⟨yy_X0_pointsOf, (tb_t 434 (by decide +kernel) rfl), (tb_t 418 (by decide +kernel) rfl), by decide, _, rfl, (tb_t 419 (by decide +kernel) rfl)⟩
theorem cv_X0_125 : kv_cV RX0 125 mX0_isThere 0 3 := ⟨yy_X0_isThere, (tb_t 456 (by decide +kernel) rfl), (tb_t 458 (by decide +kernel) rfl), by decide, _, rfl, (tb_s 12 (by decide +kernel) rfl)⟩
theorem kc_X0_129 : Cond.constant RX0 129 (-100006) ∈ TB := (tb_t 472 (by decide +kernel) rfl)
theorem cv_X0_130 : kv_cV RX0 130 mX0_visitAt 0 2 := ⟨yy_X0_visitAt, (tb_t 393 (by decide +kernel) rfl), (tb_t 394 (by decide +kernel) rfl), by decide, _, rfl, (tb_t 395 (by decide +kernel) rfl)⟩
theorem cv_X0_133 : kv_cV RX0 133 mX0_meetAt 0 3 := ⟨yy_X0_meetAt, (tb_t 389 (by decide +kernel) rfl), (tb_t 391 (by decide +kernel) rfl), by decide, _, rfl, (tb_s 9 (by decide +kernel) rfl)⟩
theorem cv_X0_136 : kv_cV RX0 136 mX0_meet 0 2 := ⟨yy_X0_meet, (tb_t 385 (by decide +kernel) rfl), (tb_t 387 (by decide +kernel) rfl), by decide, _, rfl, (tb_s 8 (by decide +kernel) rfl)⟩
theorem cv_X0_139 : kv_cV RX0 139 mX0_teamsThere 0 2 := ⟨yy_X0_teamsThere, (tb_t 452 (by decide +kernel) rfl), (tb_t 454 (by decide +kernel) rfl), by decide, _, rfl, (tb_s 11 (by decide +kernel) rfl)⟩
theorem cv_X0_142 : kv_cV RX0 142 mX0_queueingOf 0 1 := ⟨yy_X0_queueingOf, (tb_t 493 (by decide +kernel) rfl), (tb_t 410 (by decide +kernel) rfl), by decide, _, rfl, (tb_t 411 (by decide +kernel) rfl)⟩
theorem co_X1_3 : Cond.methodLink RX1 3 objectInit ∈ TB := (tb_t 170 (by decide +kernel) rfl)
theorem kf_X1_11 : kv_f RX1 11 1 0 := ⟨_, _, _, tyX1, rfl, by decide, (tb_t 174 (by decide +kernel) rfl), inX1, tyX1_ok, nmX1⟩
theorem ci_X1_17 : Cond.methodLink RX1 17 yX3_init ∈ TB ∧ Cond.instanceMethod yX3_init ∈ TB := ⟨(tb_t 173 (by decide +kernel) rfl), (tb_t 23 (by decide +kernel) rfl)⟩
theorem kf_X1_18 : kv_f RX1 18 1 2 := ⟨_, _, _, tyX1, rfl, by decide, (tb_t 176 (by decide +kernel) rfl), inX1, tyX1_ok, nmX1⟩
theorem kf_X1_22 : kv_f RX1 22 1 1 := ⟨_, _, _, tyX1, rfl, by decide, (tb_t 175 (by decide +kernel) rfl), inX1, tyX1_ok, nmX1⟩
theorem cv_X1_25 : kv_cV RX1 25 mX3_copyFrom 3 1 := ⟨yy_X3_copyFrom, (tb_t 224 (by decide +kernel) rfl), (tb_t 225 (by decide +kernel) rfl), by decide, _, rfl, (tb_t 226 (by decide +kernel) rfl)⟩
theorem co_X2_3 : Cond.methodLink RX2 3 objectInit ∈ TB := (tb_t 155 (by decide +kernel) rfl)
theorem kf_X2_9 : kv_f RX2 9 2 0 := ⟨_, _, _, tyX2, rfl, by decide, (tb_t 156 (by decide +kernel) rfl), inX2, tyX2_ok, nmX2⟩
theorem kl_X2_15 : Cond.constantLong RX2 15 (255) ∈ TB := (tb_t 534 (by decide +kernel) rfl)
theorem kf_X2_21 : kv_f RX2 21 2 1 := ⟨_, _, _, tyX2, rfl, by decide, (tb_t 157 (by decide +kernel) rfl), inX2, tyX2_ok, nmX2⟩
theorem kc_X2_29 : Cond.constant RX2 29 (-100006) ∈ TB := (tb_t 269 (by decide +kernel) rfl)
theorem cm_X2_30 : Cond.methodLink RX2 30 Lib.Math.min.name ∈ TB := (tb_t 277 (by decide +kernel) rfl)
theorem kf_X2_36 : kv_f RX2 36 4 1 := ⟨_, _, _, tyX4, rfl, by decide, (tb_t 46 (by decide +kernel) rfl), inX4, tyX4_ok, nmX4⟩
theorem kf_X2_39 : kv_f RX2 39 4 0 := ⟨_, _, _, tyX4, rfl, by decide, (tb_t 41 (by decide +kernel) rfl), inX4, tyX4_ok, nmX4⟩
theorem co_X3_3 : Cond.methodLink RX3 3 objectInit ∈ TB := (tb_t 25 (by decide +kernel) rfl)
theorem kf_X3_9 : kv_f RX3 9 3 0 := ⟨_, _, _, tyX3, rfl, by decide, (tb_t 68 (by decide +kernel) rfl), inX3, tyX3_ok, nmX3⟩
theorem kf_X3_15 : kv_f RX3 15 3 1 := ⟨_, _, _, tyX3, rfl, by decide, (tb_t 71 (by decide +kernel) rfl), inX3, tyX3_ok, nmX3⟩
theorem kf_X3_18 : kv_f RX3 18 3 2 := ⟨_, _, _, tyX3, rfl, by decide, (tb_t 74 (by decide +kernel) rfl), inX3, tyX3_ok, nmX3⟩
theorem kf_X3_21 : kv_f RX3 21 3 3 := ⟨_, _, _, tyX3, rfl, by decide, (tb_t 77 (by decide +kernel) rfl), inX3, tyX3_ok, nmX3⟩
theorem kf_X3_26 : kv_f RX3 26 3 5 := ⟨_, _, _, tyX3, rfl, by decide, (tb_t 81 (by decide +kernel) rfl), inX3, tyX3_ok, nmX3⟩
theorem ca_X3_33 : Cond.methodLink RX3 33 arraycopyName ∈ TB := (tb_t 30 (by decide +kernel) rfl)
theorem kf_X3_40 : kv_f RX3 40 3 4 := ⟨_, _, _, tyX3, rfl, by decide, (tb_t 79 (by decide +kernel) rfl), inX3, tyX3_ok, nmX3⟩
theorem cv_X3_44 : kv_cV RX3 44 mX4_copyFrom 4 1 := ⟨yy_X4_copyFrom, (tb_t 228 (by decide +kernel) rfl), (tb_t 229 (by decide +kernel) rfl), by decide, _, rfl, (tb_t 230 (by decide +kernel) rfl)⟩
theorem kf_X3_48 : kv_f RX3 48 3 6 := ⟨_, _, _, tyX3, rfl, by decide, (tb_t 84 (by decide +kernel) rfl), inX3, tyX3_ok, nmX3⟩
theorem cs_X3_51 : kv_cS RX3 51 mJ6_bitCount_0f7a4 1 := ⟨yy_J6_bitCount_0f7a4, (tb_t 254 (by decide +kernel) rfl), (tb_t 255 (by decide +kernel) rfl)⟩
theorem kf_X3_57 : kv_f RX3 57 4 1 := ⟨_, _, _, tyX4, rfl, by decide, (tb_t 45 (by decide +kernel) rfl), inX4, tyX4_ok, nmX4⟩
theorem kf_X3_60 : kv_f RX3 60 4 0 := ⟨_, _, _, tyX4, rfl, by decide, (tb_t 40 (by decide +kernel) rfl), inX4, tyX4_ok, nmX4⟩
theorem cv_X3_63 : kv_cV RX3 63 mX3_isClosed 3 1 := ⟨yy_X3_isClosed, (tb_t 292 (by decide +kernel) rfl), (tb_t 246 (by decide +kernel) rfl), by decide, _, rfl, (tb_t 247 (by decide +kernel) rfl)⟩
theorem cv_X3_67 : kv_cV RX3 67 mX4_hasHint 4 1 := ⟨yy_X4_hasHint, (tb_t 348 (by decide +kernel) rfl), (tb_t 307 (by decide +kernel) rfl), by decide, _, rfl, (tb_t 308 (by decide +kernel) rfl)⟩
theorem co_X4_3 : Cond.methodLink RX4 3 objectInit ∈ TB := (tb_t 37 (by decide +kernel) rfl)
theorem kf_X4_9 : kv_f RX4 9 4 0 := ⟨_, _, _, tyX4, rfl, by decide, (tb_t 38 (by decide +kernel) rfl), inX4, tyX4_ok, nmX4⟩
theorem kf_X4_15 : kv_f RX4 15 4 4 := ⟨_, _, _, tyX4, rfl, by decide, (tb_t 53 (by decide +kernel) rfl), inX4, tyX4_ok, nmX4⟩
theorem ca_X4_19 : Cond.methodLink RX4 19 arraycopyName ∈ TB := (tb_t 232 (by decide +kernel) rfl)
theorem kf_X4_25 : kv_f RX4 25 4 1 := ⟨_, _, _, tyX4, rfl, by decide, (tb_t 43 (by decide +kernel) rfl), inX4, tyX4_ok, nmX4⟩
theorem kf_X4_28 : kv_f RX4 28 4 2 := ⟨_, _, _, tyX4, rfl, by decide, (tb_t 48 (by decide +kernel) rfl), inX4, tyX4_ok, nmX4⟩
theorem kf_X4_31 : kv_f RX4 31 4 3 := ⟨_, _, _, tyX4, rfl, by decide, (tb_t 51 (by decide +kernel) rfl), inX4, tyX4_ok, nmX4⟩
theorem co_X5_1 : Cond.methodLink RX5 1 objectInit ∈ TB := (tb_t 17 (by decide +kernel) rfl)
theorem ci_X5_9 : Cond.methodLink RX5 9 yX3_init ∈ TB ∧ Cond.instanceMethod yX3_init ∈ TB := ⟨(tb_t 22 (by decide +kernel) rfl), (tb_t 23 (by decide +kernel) rfl)⟩
theorem kf_X5_10 : kv_f RX5 10 5 0 := ⟨_, _, _, tyX5, rfl, by decide, (tb_t 185 (by decide +kernel) rfl), inX5, tyX5_ok, nmX5⟩
theorem kf_X5_16 : kv_f RX5 16 5 1 := ⟨_, _, _, tyX5, rfl, by decide, (tb_t 186 (by decide +kernel) rfl), inX5, tyX5_ok, nmX5⟩
theorem kf_X5_22 : kv_f RX5 22 5 2 := ⟨_, _, _, tyX5, rfl, by decide, (tb_t 187 (by decide +kernel) rfl), inX5, tyX5_ok, nmX5⟩
theorem kf_X5_29 : kv_f RX5 29 5 3 := ⟨_, _, _, tyX5, rfl, by decide, (tb_t 188 (by decide +kernel) rfl), inX5, tyX5_ok, nmX5⟩
theorem ci_X5_35 : Cond.methodLink RX5 35 yX1_init ∈ TB ∧ Cond.instanceMethod yX1_init ∈ TB := ⟨(tb_t 167 (by decide +kernel) rfl), (tb_t 168 (by decide +kernel) rfl)⟩
theorem kf_X5_36 : kv_f RX5 36 5 4 := ⟨_, _, _, tyX5, rfl, by decide, (tb_t 189 (by decide +kernel) rfl), inX5, tyX5_ok, nmX5⟩
theorem kf_X5_40 : kv_f RX5 40 5 5 := ⟨_, _, _, tyX5, rfl, by decide, (tb_t 190 (by decide +kernel) rfl), inX5, tyX5_ok, nmX5⟩
theorem kf_X5_44 : kv_f RX5 44 5 6 := ⟨_, _, _, tyX5, rfl, by decide, (tb_t 191 (by decide +kernel) rfl), inX5, tyX5_ok, nmX5⟩
theorem cs_X5_48 : kv_cS RX5 48 mX5_isFrom 3 := ⟨yy_X5_isFrom, (tb_t 212 (by decide +kernel) rfl), (tb_t 213 (by decide +kernel) rfl)⟩
theorem kc_X5_52 : Cond.constant RX5 52 (-100002) ∈ TB := (tb_t 215 (by decide +kernel) rfl)
theorem ks_X5_53 : Cond.fieldLink RX5 53 RX5 "LEAST_SETTINGS" "[I" ∈ TB := (tb_t 216 (by decide +kernel) rfl)
theorem ks_X5_57 : Cond.fieldLink RX5 57 RX5 "MOST_SETTINGS" "[I" ∈ TB := (tb_t 218 (by decide +kernel) rfl)
theorem cv_X5_60 : kv_cV RX5 60 mX1_record 1 1 := ⟨yy_X1_record, (tb_t 220 (by decide +kernel) rfl), (tb_t 221 (by decide +kernel) rfl), by decide, _, rfl, (tb_t 222 (by decide +kernel) rfl)⟩
theorem kf_X5_64 : kv_f RX5 64 3 0 := ⟨_, _, _, tyX3, rfl, by decide, (tb_t 69 (by decide +kernel) rfl), inX3, tyX3_ok, nmX3⟩
theorem cs_X5_67 : kv_cS RX5 67 mX5_isPlace 1 := ⟨yy_X5_isPlace, (tb_t 237 (by decide +kernel) rfl), (tb_t 238 (by decide +kernel) rfl)⟩
theorem kc_X5_71 : Cond.constant RX5 71 (-100001) ∈ TB := (tb_t 240 (by decide +kernel) rfl)
theorem kf_X5_72 : kv_f RX5 72 3 3 := ⟨_, _, _, tyX3, rfl, by decide, (tb_t 78 (by decide +kernel) rfl), inX3, tyX3_ok, nmX3⟩
theorem kf_X5_75 : kv_f RX5 75 3 1 := ⟨_, _, _, tyX3, rfl, by decide, (tb_t 72 (by decide +kernel) rfl), inX3, tyX3_ok, nmX3⟩
theorem kf_X5_78 : kv_f RX5 78 3 2 := ⟨_, _, _, tyX3, rfl, by decide, (tb_t 75 (by decide +kernel) rfl), inX3, tyX3_ok, nmX3⟩
theorem cv_X5_81 : kv_cV RX5 81 mX3_isClosed 3 1 := ⟨yy_X3_isClosed, (tb_t 245 (by decide +kernel) rfl), (tb_t 246 (by decide +kernel) rfl), by decide, _, rfl, (tb_t 247 (by decide +kernel) rfl)⟩
theorem kc_X5_84 : Cond.constant RX5 84 (-100005) ∈ TB := (tb_t 249 (by decide +kernel) rfl)
theorem kf_X5_85 : kv_f RX5 85 3 4 := ⟨_, _, _, tyX3, rfl, by decide, (tb_t 80 (by decide +kernel) rfl), inX3, tyX3_ok, nmX3⟩
theorem cv_X5_89 : kv_cV RX5 89 mX3_openPlaces 3 0 := ⟨yy_X3_openPlaces, (tb_t 250 (by decide +kernel) rfl), (tb_t 251 (by decide +kernel) rfl), by decide, _, rfl, (tb_t 252 (by decide +kernel) rfl)⟩
theorem cv_X5_93 : kv_cV RX5 93 mX2_firstFault 2 0 := ⟨yy_X2_firstFault, (tb_t 264 (by decide +kernel) rfl), (tb_t 265 (by decide +kernel) rfl), by decide, _, rfl, (tb_t 266 (by decide +kernel) rfl)⟩
theorem kc_X5_96 : Cond.constant RX5 96 (-100006) ∈ TB := (tb_t 270 (by decide +kernel) rfl)
theorem kc_X5_97 : Cond.constant RX5 97 (-100003) ∈ TB := (tb_t 271 (by decide +kernel) rfl)
theorem kf_X5_98 : kv_f RX5 98 3 6 := ⟨_, _, _, tyX3, rfl, by decide, (tb_t 85 (by decide +kernel) rfl), inX3, tyX3_ok, nmX3⟩
theorem kc_X5_101 : Cond.constant RX5 101 (-100004) ∈ TB := (tb_t 272 (by decide +kernel) rfl)
theorem kf_X5_102 : kv_f RX5 102 3 5 := ⟨_, _, _, tyX3, rfl, by decide, (tb_t 83 (by decide +kernel) rfl), inX3, tyX3_ok, nmX3⟩
theorem cv_X5_106 : kv_cV RX5 106 mX2_moveTo 2 1 := ⟨yy_X2_moveTo, (tb_t 273 (by decide +kernel) rfl), (tb_t 274 (by decide +kernel) rfl), by decide, _, rfl, (tb_t 275 (by decide +kernel) rfl)⟩
theorem kf_X5_110 : kv_f RX5 110 4 2 := ⟨_, _, _, tyX4, rfl, by decide, (tb_t 50 (by decide +kernel) rfl), inX4, tyX4_ok, nmX4⟩
theorem kf_X5_115 : kv_f RX5 115 4 3 := ⟨_, _, _, tyX4, rfl, by decide, (tb_t 52 (by decide +kernel) rfl), inX4, tyX4_ok, nmX4⟩
theorem kf_X5_118 : kv_f RX5 118 4 4 := ⟨_, _, _, tyX4, rfl, by decide, (tb_t 55 (by decide +kernel) rfl), inX4, tyX4_ok, nmX4⟩
theorem cv_X5_121 : kv_cV RX5 121 mX5_isTeam 5 1 := ⟨yy_X5_isTeam, (tb_t 284 (by decide +kernel) rfl), (tb_t 286 (by decide +kernel) rfl), by decide, _, rfl, (tb_s 0 (by decide +kernel) rfl)⟩
theorem cv_X5_124 : kv_cV RX5 124 mX3_trailLength 3 1 := ⟨yy_X3_trailLength, (tb_t 288 (by decide +kernel) rfl), (tb_t 289 (by decide +kernel) rfl), by decide, _, rfl, (tb_t 290 (by decide +kernel) rfl)⟩
theorem cv_X5_128 : kv_cV RX5 128 mX4_copyFrom 4 1 := ⟨yy_X4_copyFrom, (tb_t 297 (by decide +kernel) rfl), (tb_t 229 (by decide +kernel) rfl), by decide, _, rfl, (tb_t 230 (by decide +kernel) rfl)⟩
theorem cv_X5_131 : kv_cV RX5 131 mX4_hasHint 4 1 := ⟨yy_X4_hasHint, (tb_t 306 (by decide +kernel) rfl), (tb_t 307 (by decide +kernel) rfl), by decide, _, rfl, (tb_t 308 (by decide +kernel) rfl)⟩
theorem cv_X5_134 : kv_cV RX5 134 mX5_endNow 5 1 := ⟨yy_X5_endNow, (tb_t 310 (by decide +kernel) rfl), (tb_t 312 (by decide +kernel) rfl), by decide, _, rfl, (tb_s 1 (by decide +kernel) rfl)⟩
theorem kf_X5_137 : kv_f RX5 137 4 1 := ⟨_, _, _, tyX4, rfl, by decide, (tb_t 47 (by decide +kernel) rfl), inX4, tyX4_ok, nmX4⟩
theorem cv_X5_140 : kv_cV RX5 140 mX4_turnRoute 4 1 := ⟨yy_X4_turnRoute, (tb_t 357 (by decide +kernel) rfl), (tb_t 358 (by decide +kernel) rfl), by decide, _, rfl, (tb_t 359 (by decide +kernel) rfl)⟩
theorem kf_X5_144 : kv_f RX5 144 4 0 := ⟨_, _, _, tyX4, rfl, by decide, (tb_t 42 (by decide +kernel) rfl), inX4, tyX4_ok, nmX4⟩
theorem cv_X5_147 : kv_cV RX5 147 mX5_isInRoute 5 2 := ⟨yy_X5_isInRoute, (tb_t 365 (by decide +kernel) rfl), (tb_t 367 (by decide +kernel) rfl), by decide, _, rfl, (tb_s 6 (by decide +kernel) rfl)⟩
theorem cv_X5_151 : kv_cV RX5 151 mX4_exchangePlaces 4 2 := ⟨yy_X4_exchangePlaces, (tb_t 369 (by decide +kernel) rfl), (tb_t 370 (by decide +kernel) rfl), by decide, _, rfl, (tb_t 371 (by decide +kernel) rfl)⟩
theorem cv_X5_155 : kv_cV RX5 155 mX5_leastFreeStart 5 3 := ⟨yy_X5_leastFreeStart, (tb_t 377 (by decide +kernel) rfl), (tb_t 379 (by decide +kernel) rfl), by decide, _, rfl, (tb_s 7 (by decide +kernel) rfl)⟩
theorem cv_X5_159 : kv_cV RX5 159 mX5_playNow 5 0 := ⟨yy_X5_playNow, (tb_t 314 (by decide +kernel) rfl), (tb_t 316 (by decide +kernel) rfl), by decide, _, rfl, (tb_s 2 (by decide +kernel) rfl)⟩
theorem cv_X5_162 : kv_cV RX5 162 mX0_pairs 0 0 := ⟨yy_X0_pairs, (tb_t 397 (by decide +kernel) rfl), (tb_t 398 (by decide +kernel) rfl), by decide, _, rfl, (tb_t 399 (by decide +kernel) rfl)⟩
theorem kf_X5_165 : kv_f RX5 165 0 2 := ⟨_, _, _, tyX0, rfl, by decide, (tb_t 112 (by decide +kernel) rfl), inX0, tyX0_ok, nmX0⟩
theorem kf_X5_168 : kv_f RX5 168 0 3 := ⟨_, _, _, tyX0, rfl, by decide, (tb_t 114 (by decide +kernel) rfl), inX0, tyX0_ok, nmX0⟩
theorem kf_X5_172 : kv_f RX5 172 0 5 := ⟨_, _, _, tyX0, rfl, by decide, (tb_t 118 (by decide +kernel) rfl), inX0, tyX0_ok, nmX0⟩
theorem kf_X5_175 : kv_f RX5 175 0 6 := ⟨_, _, _, tyX0, rfl, by decide, (tb_t 120 (by decide +kernel) rfl), inX0, tyX0_ok, nmX0⟩
theorem kf_X5_178 : kv_f RX5 178 0 7 := ⟨_, _, _, tyX0, rfl, by decide, (tb_t 122 (by decide +kernel) rfl), inX0, tyX0_ok, nmX0⟩
theorem kf_X5_181 : kv_f RX5 181 0 4 := ⟨_, _, _, tyX0, rfl, by decide, (tb_t 116 (by decide +kernel) rfl), inX0, tyX0_ok, nmX0⟩
theorem kf_X5_184 : kv_f RX5 184 0 9 := ⟨_, _, _, tyX0, rfl, by decide, (tb_t 125 (by decide +kernel) rfl), inX0, tyX0_ok, nmX0⟩
theorem cv_X5_187 : kv_cV RX5 187 mX0_queueingOf 0 1 := ⟨yy_X0_queueingOf, (tb_t 409 (by decide +kernel) rfl), (tb_t 410 (by decide +kernel) rfl), by decide, _, rfl, (tb_t 411 (by decide +kernel) rfl)⟩
theorem cv_X5_190 : kv_cV RX5 190 mX0_walkingOf 0 1 := ⟨yy_X0_walkingOf, (tb_t 413 (by decide +kernel) rfl), (tb_t 414 (by decide +kernel) rfl), by decide, _, rfl, (tb_t 415 (by decide +kernel) rfl)⟩
theorem cv_X5_193 : kv_cV RX5 193 mX0_pointsOf 0 1 := ⟨yy_X0_pointsOf, (tb_t 417 (by decide +kernel) rfl), (tb_t 418 (by decide +kernel) rfl), by decide, _, rfl, (tb_t 419 (by decide +kernel) rfl)⟩
theorem cv_X5_196 : kv_cV RX5 196 mX0_rankOf 0 1 := ⟨yy_X0_rankOf, (tb_t 426 (by decide +kernel) rfl), (tb_t 427 (by decide +kernel) rfl), by decide, _, rfl, (tb_t 428 (by decide +kernel) rfl)⟩
theorem cv_X5_199 : kv_cV RX5 199 mX0_hintsOf 0 1 := ⟨yy_X0_hintsOf, (tb_t 435 (by decide +kernel) rfl), (tb_t 422 (by decide +kernel) rfl), by decide, _, rfl, (tb_t 423 (by decide +kernel) rfl)⟩
theorem cv_X5_202 : kv_cV RX5 202 mX0_teamsMetBy 0 1 := ⟨yy_X0_teamsMetBy, (tb_t 381 (by decide +kernel) rfl), (tb_t 382 (by decide +kernel) rfl), by decide, _, rfl, (tb_t 383 (by decide +kernel) rfl)⟩
theorem cv_X5_205 : kv_cV RX5 205 mX0_teamsAt 0 1 := ⟨yy_X0_teamsAt, (tb_t 440 (by decide +kernel) rfl), (tb_t 441 (by decide +kernel) rfl), by decide, _, rfl, (tb_t 442 (by decide +kernel) rfl)⟩
theorem cv_X5_208 : kv_cV RX5 208 mX0_queueingAt 0 1 := ⟨yy_X0_queueingAt, (tb_t 444 (by decide +kernel) rfl), (tb_t 445 (by decide +kernel) rfl), by decide, _, rfl, (tb_t 446 (by decide +kernel) rfl)⟩
theorem cv_X5_211 : kv_cV RX5 211 mX0_mostAt 0 1 := ⟨yy_X0_mostAt, (tb_t 448 (by decide +kernel) rfl), (tb_t 449 (by decide +kernel) rfl), by decide, _, rfl, (tb_t 450 (by decide +kernel) rfl)⟩
theorem cv_X5_214 : kv_cV RX5 214 mX0_pairsAt 0 1 := ⟨yy_X0_pairsAt, (tb_t 460 (by decide +kernel) rfl), (tb_t 461 (by decide +kernel) rfl), by decide, _, rfl, (tb_t 462 (by decide +kernel) rfl)⟩
theorem cv_X5_217 : kv_cV RX5 217 mX0_placeWithTeam 0 2 := ⟨yy_X0_placeWithTeam, (tb_t 468 (by decide +kernel) rfl), (tb_t 469 (by decide +kernel) rfl), by decide, _, rfl, (tb_t 470 (by decide +kernel) rfl)⟩
theorem cv_X5_221 : kv_cV RX5 221 mX0_placeToldTo 0 2 := ⟨yy_X0_placeToldTo, (tb_t 477 (by decide +kernel) rfl), (tb_t 478 (by decide +kernel) rfl), by decide, _, rfl, (tb_t 479 (by decide +kernel) rfl)⟩
theorem cv_X5_224 : kv_cV RX5 224 mX0_lastEnd 0 0 := ⟨yy_X0_lastEnd, (tb_t 485 (by decide +kernel) rfl), (tb_t 486 (by decide +kernel) rfl), by decide, _, rfl, (tb_t 487 (by decide +kernel) rfl)⟩
theorem cv_X5_227 : kv_cV RX5 227 mX0_queueing 0 0 := ⟨yy_X0_queueing, (tb_t 489 (by decide +kernel) rfl), (tb_t 490 (by decide +kernel) rfl), by decide, _, rfl, (tb_t 491 (by decide +kernel) rfl)⟩
theorem cv_X5_230 : kv_cV RX5 230 mX0_winner 0 0 := ⟨yy_X0_winner, (tb_t 494 (by decide +kernel) rfl), (tb_t 495 (by decide +kernel) rfl), by decide, _, rfl, (tb_t 496 (by decide +kernel) rfl)⟩
theorem cv_X5_233 : kv_cV RX5 233 mX0_points 0 0 := ⟨yy_X0_points, (tb_t 498 (by decide +kernel) rfl), (tb_t 499 (by decide +kernel) rfl), by decide, _, rfl, (tb_t 500 (by decide +kernel) rfl)⟩
theorem cv_X5_236 : kv_cV RX5 236 mX0_visits 0 0 := ⟨yy_X0_visits, (tb_t 502 (by decide +kernel) rfl), (tb_t 503 (by decide +kernel) rfl), by decide, _, rfl, (tb_t 504 (by decide +kernel) rfl)⟩
theorem kf_X5_239 : kv_f RX5 239 2 1 := ⟨_, _, _, tyX2, rfl, by decide, (tb_t 158 (by decide +kernel) rfl), inX2, tyX2_ok, nmX2⟩
theorem kf_X5_240 : kv_f RX5 240 1 2 := ⟨_, _, _, tyX1, rfl, by decide, (tb_t 177 (by decide +kernel) rfl), inX1, tyX1_ok, nmX1⟩
theorem cv_X5_241 : kv_cV RX5 241 mX3_copyFrom 3 1 := ⟨yy_X3_copyFrom, (tb_t 510 (by decide +kernel) rfl), (tb_t 225 (by decide +kernel) rfl), by decide, _, rfl, (tb_t 226 (by decide +kernel) rfl)⟩
theorem cv_X5_243 : kv_cV RX5 243 mX5_endIfExchanged 5 3 := ⟨yy_X5_endIfExchanged, (tb_t 515 (by decide +kernel) rfl), (tb_t 517 (by decide +kernel) rfl), by decide, _, rfl, (tb_s 13 (by decide +kernel) rfl)⟩
theorem cv_X5_247 : kv_cV RX5 247 mX0_play 0 2 := ⟨yy_X0_play, (tb_t 318 (by decide +kernel) rfl), (tb_t 319 (by decide +kernel) rfl), by decide, _, rfl, (tb_t 320 (by decide +kernel) rfl)⟩
theorem cs_X5_251 : kv_cS RX5 251 mX2_lengthOf 1 := ⟨yy_X2_lengthOf, (tb_t 531 (by decide +kernel) rfl), (tb_t 532 (by decide +kernel) rfl)⟩
theorem cv_X5_255 : kv_cV RX5 255 mX2_append 2 2 := ⟨yy_X2_append, (tb_t 536 (by decide +kernel) rfl), (tb_t 537 (by decide +kernel) rfl), by decide, _, rfl, (tb_t 538 (by decide +kernel) rfl)⟩
theorem cv_X5_259 : kv_cV RX5 259 mX1_takeBack 1 1 := ⟨yy_X1_takeBack, (tb_t 552 (by decide +kernel) rfl), (tb_t 553 (by decide +kernel) rfl), by decide, _, rfl, (tb_t 554 (by decide +kernel) rfl)⟩
theorem co_X6_1 : Cond.methodLink RX6 1 objectInit ∈ TB := (tb_t 569 (by decide +kernel) rfl)
theorem kf_X6_7 : kv_f RX6 7 6 0 := ⟨_, _, _, tyX6, rfl, by decide, (tb_t 570 (by decide +kernel) rfl), inX6, tyX6_ok, nmX6⟩
theorem kf_X6_13 : kv_f RX6 13 6 1 := ⟨_, _, _, tyX6, rfl, by decide, (tb_t 571 (by decide +kernel) rfl), inX6, tyX6_ok, nmX6⟩
theorem kf_X6_16 : kv_f RX6 16 6 2 := ⟨_, _, _, tyX6, rfl, by decide, (tb_t 572 (by decide +kernel) rfl), inX6, tyX6_ok, nmX6⟩
theorem kf_X6_19 : kv_f RX6 19 6 3 := ⟨_, _, _, tyX6, rfl, by decide, (tb_t 573 (by decide +kernel) rfl), inX6, tyX6_ok, nmX6⟩
theorem kf_X6_22 : kv_f RX6 22 6 4 := ⟨_, _, _, tyX6, rfl, by decide, (tb_t 574 (by decide +kernel) rfl), inX6, tyX6_ok, nmX6⟩
theorem kf_X6_25 : kv_f RX6 25 6 5 := ⟨_, _, _, tyX6, rfl, by decide, (tb_t 575 (by decide +kernel) rfl), inX6, tyX6_ok, nmX6⟩
theorem kf_X6_29 : kv_f RX6 29 6 7 := ⟨_, _, _, tyX6, rfl, by decide, (tb_t 577 (by decide +kernel) rfl), inX6, tyX6_ok, nmX6⟩
theorem kf_X6_32 : kv_f RX6 32 6 10 := ⟨_, _, _, tyX6, rfl, by decide, (tb_t 580 (by decide +kernel) rfl), inX6, tyX6_ok, nmX6⟩
theorem kf_X6_35 : kv_f RX6 35 6 11 := ⟨_, _, _, tyX6, rfl, by decide, (tb_t 581 (by decide +kernel) rfl), inX6, tyX6_ok, nmX6⟩
theorem kf_X6_38 : kv_f RX6 38 6 14 := ⟨_, _, _, tyX6, rfl, by decide, (tb_t 584 (by decide +kernel) rfl), inX6, tyX6_ok, nmX6⟩
theorem kf_X6_41 : kv_f RX6 41 6 15 := ⟨_, _, _, tyX6, rfl, by decide, (tb_t 585 (by decide +kernel) rfl), inX6, tyX6_ok, nmX6⟩
theorem kf_X6_44 : kv_f RX6 44 6 16 := ⟨_, _, _, tyX6, rfl, by decide, (tb_t 586 (by decide +kernel) rfl), inX6, tyX6_ok, nmX6⟩
theorem kf_X6_47 : kv_f RX6 47 6 17 := ⟨_, _, _, tyX6, rfl, by decide, (tb_t 587 (by decide +kernel) rfl), inX6, tyX6_ok, nmX6⟩
theorem kf_X6_50 : kv_f RX6 50 6 18 := ⟨_, _, _, tyX6, rfl, by decide, (tb_t 588 (by decide +kernel) rfl), inX6, tyX6_ok, nmX6⟩
theorem kf_X6_53 : kv_f RX6 53 6 19 := ⟨_, _, _, tyX6, rfl, by decide, (tb_t 589 (by decide +kernel) rfl), inX6, tyX6_ok, nmX6⟩
theorem kf_X6_56 : kv_f RX6 56 6 20 := ⟨_, _, _, tyX6, rfl, by decide, (tb_t 590 (by decide +kernel) rfl), inX6, tyX6_ok, nmX6⟩
theorem kf_X6_59 : kv_f RX6 59 6 21 := ⟨_, _, _, tyX6, rfl, by decide, (tb_t 591 (by decide +kernel) rfl), inX6, tyX6_ok, nmX6⟩
theorem kf_X6_62 : kv_f RX6 62 6 22 := ⟨_, _, _, tyX6, rfl, by decide, (tb_t 592 (by decide +kernel) rfl), inX6, tyX6_ok, nmX6⟩
theorem cs_X6_65 : kv_cS RX6 65 mX6_in 3 := ⟨yy_X6_in, (tb_t 649 (by decide +kernel) rfl), (tb_t 650 (by decide +kernel) rfl)⟩
theorem kf_X6_69 : kv_f RX6 69 6 6 := ⟨_, _, _, tyX6, rfl, by decide, (tb_t 576 (by decide +kernel) rfl), inX6, tyX6_ok, nmX6⟩
theorem kc_X6_73 : Cond.constant RX6 73 (-100005) ∈ TB := (tb_t 644 (by decide +kernel) rfl)
theorem kc_X6_74 : Cond.constant RX6 74 (-100002) ∈ TB := (tb_t 652 (by decide +kernel) rfl)
theorem cv_X6_75 : kv_cV RX6 75 mX6_remember 6 0 := ⟨yy_X6_remember, (tb_t 657 (by decide +kernel) rfl), (tb_t 659 (by decide +kernel) rfl), by decide, _, rfl, (tb_s 14 (by decide +kernel) rfl)⟩
theorem cv_X6_78 : kv_cV RX6 78 mX6_record 6 1 := ⟨yy_X6_record, (tb_t 661 (by decide +kernel) rfl), (tb_t 663 (by decide +kernel) rfl), by decide, _, rfl, (tb_s 15 (by decide +kernel) rfl)⟩
theorem kf_X6_82 : kv_f RX6 82 6 13 := ⟨_, _, _, tyX6, rfl, by decide, (tb_t 583 (by decide +kernel) rfl), inX6, tyX6_ok, nmX6⟩
theorem cv_X6_85 : kv_cV RX6 85 mX6_its 6 2 := ⟨yy_X6_its, (tb_t 732 (by decide +kernel) rfl), (tb_t 734 (by decide +kernel) rfl), by decide, _, rfl, (tb_s 26 (by decide +kernel) rfl)⟩
theorem cv_X6_89 : kv_cV RX6 89 mX6_of 6 2 := ⟨yy_X6_of, (tb_t 677 (by decide +kernel) rfl), (tb_t 679 (by decide +kernel) rfl), by decide, _, rfl, (tb_s 16 (by decide +kernel) rfl)⟩
theorem cv_X6_92 : kv_cV RX6 92 mX6_walk 6 2 := ⟨yy_X6_walk, (tb_t 736 (by decide +kernel) rfl), (tb_t 738 (by decide +kernel) rfl), by decide, _, rfl, (tb_s 27 (by decide +kernel) rfl)⟩
theorem cs_X6_96 : kv_cS RX6 96 mX6_size 1 := ⟨yy_X6_size, (tb_t 740 (by decide +kernel) rfl), (tb_t 741 (by decide +kernel) rfl)⟩
theorem kc_X6_99 : Cond.constant RX6 99 (-100006) ∈ TB := (tb_t 701 (by decide +kernel) rfl)
theorem cv_X6_100 : kv_cV RX6 100 mX6_prepare 6 1 := ⟨yy_X6_prepare, (tb_t 728 (by decide +kernel) rfl), (tb_t 730 (by decide +kernel) rfl), by decide, _, rfl, (tb_s 25 (by decide +kernel) rfl)⟩
theorem cv_X6_104 : kv_cV RX6 104 mX6_next 6 0 := ⟨yy_X6_next, (tb_t 743 (by decide +kernel) rfl), (tb_t 745 (by decide +kernel) rfl), by decide, _, rfl, (tb_s 28 (by decide +kernel) rfl)⟩
theorem cv_X6_108 : kv_cV RX6 108 mX6_hasLost 6 1 := ⟨yy_X6_hasLost, (tb_t 747 (by decide +kernel) rfl), (tb_t 749 (by decide +kernel) rfl), by decide, _, rfl, (tb_s 29 (by decide +kernel) rfl)⟩
theorem cv_X6_112 : kv_cV RX6 112 mX6_play 6 1 := ⟨yy_X6_play, (tb_t 724 (by decide +kernel) rfl), (tb_t 726 (by decide +kernel) rfl), by decide, _, rfl, (tb_s 24 (by decide +kernel) rfl)⟩
theorem cv_X6_115 : kv_cV RX6 115 mX6_visitTo 6 2 := ⟨yy_X6_visitTo, (tb_t 807 (by decide +kernel) rfl), (tb_t 809 (by decide +kernel) rfl), by decide, _, rfl, (tb_s 37 (by decide +kernel) rfl)⟩
theorem cv_X6_118 : kv_cV RX6 118 mX6_meetAt 6 3 := ⟨yy_X6_meetAt, (tb_t 803 (by decide +kernel) rfl), (tb_t 805 (by decide +kernel) rfl), by decide, _, rfl, (tb_s 36 (by decide +kernel) rfl)⟩
theorem cv_X6_122 : kv_cV RX6 122 mX6_meet 6 2 := ⟨yy_X6_meet, (tb_t 799 (by decide +kernel) rfl), (tb_t 801 (by decide +kernel) rfl), by decide, _, rfl, (tb_s 35 (by decide +kernel) rfl)⟩
theorem cv_X6_126 : kv_cV RX6 126 mX6_queued 6 1 := ⟨yy_X6_queued, (tb_t 823 (by decide +kernel) rfl), (tb_t 825 (by decide +kernel) rfl), by decide, _, rfl, (tb_s 39 (by decide +kernel) rfl)⟩
theorem cv_X6_129 : kv_cV RX6 129 mX6_hinted 6 1 := ⟨yy_X6_hinted, (tb_t 835 (by decide +kernel) rfl), (tb_t 837 (by decide +kernel) rfl), by decide, _, rfl, (tb_s 42 (by decide +kernel) rfl)⟩
theorem cv_X6_132 : kv_cV RX6 132 mX6_points 6 1 := ⟨yy_X6_points, (tb_t 831 (by decide +kernel) rfl), (tb_t 833 (by decide +kernel) rfl), by decide, _, rfl, (tb_s 41 (by decide +kernel) rfl)⟩
theorem cv_X6_135 : kv_cV RX6 135 mX6_isAhead 6 2 := ⟨yy_X6_isAhead, (tb_t 843 (by decide +kernel) rfl), (tb_t 845 (by decide +kernel) rfl), by decide, _, rfl, (tb_s 44 (by decide +kernel) rfl)⟩
theorem cv_X6_138 : kv_cV RX6 138 mX6_playAll 6 0 := ⟨yy_X6_playAll, (tb_t 720 (by decide +kernel) rfl), (tb_t 722 (by decide +kernel) rfl), by decide, _, rfl, (tb_s 23 (by decide +kernel) rfl)⟩
theorem cs_X6_141 : kv_cS RX6 141 mX6_isPlace 1 := ⟨yy_X6_isPlace, (tb_t 673 (by decide +kernel) rfl), (tb_t 674 (by decide +kernel) rfl)⟩
theorem kc_X6_144 : Cond.constant RX6 144 (-100001) ∈ TB := (tb_t 676 (by decide +kernel) rfl)
theorem cv_X6_145 : kv_cV RX6 145 mX6_openOnes 6 0 := ⟨yy_X6_openOnes, (tb_t 685 (by decide +kernel) rfl), (tb_t 687 (by decide +kernel) rfl), by decide, _, rfl, (tb_s 17 (by decide +kernel) rfl)⟩
theorem kf_X6_148 : kv_f RX6 148 6 12 := ⟨_, _, _, tyX6, rfl, by decide, (tb_t 582 (by decide +kernel) rfl), inX6, tyX6_ok, nmX6⟩
theorem cv_X6_151 : kv_cV RX6 151 mX6_lay 6 3 := ⟨yy_X6_lay, (tb_t 704 (by decide +kernel) rfl), (tb_t 706 (by decide +kernel) rfl), by decide, _, rfl, (tb_s 20 (by decide +kernel) rfl)⟩
theorem kf_X6_155 : kv_f RX6 155 6 8 := ⟨_, _, _, tyX6, rfl, by decide, (tb_t 578 (by decide +kernel) rfl), inX6, tyX6_ok, nmX6⟩
theorem cv_X6_158 : kv_cV RX6 158 mX6_isWell 6 0 := ⟨yy_X6_isWell, (tb_t 693 (by decide +kernel) rfl), (tb_t 695 (by decide +kernel) rfl), by decide, _, rfl, (tb_s 18 (by decide +kernel) rfl)⟩
theorem kc_X6_162 : Cond.constant RX6 162 (-100003) ∈ TB := (tb_t 702 (by decide +kernel) rfl)
theorem kc_X6_163 : Cond.constant RX6 163 (-100004) ∈ TB := (tb_t 703 (by decide +kernel) rfl)
theorem cv_X6_164 : kv_cV RX6 164 mX6_takeRoute 6 1 := ⟨yy_X6_takeRoute, (tb_t 708 (by decide +kernel) rfl), (tb_t 710 (by decide +kernel) rfl), by decide, _, rfl, (tb_s 21 (by decide +kernel) rfl)⟩
theorem cv_X6_167 : kv_cV RX6 167 mX6_isTeam 6 1 := ⟨yy_X6_isTeam, (tb_t 716 (by decide +kernel) rfl), (tb_t 718 (by decide +kernel) rfl), by decide, _, rfl, (tb_s 22 (by decide +kernel) rfl)⟩
theorem cv_X6_170 : kv_cV RX6 170 mX6_endOf 6 1 := ⟨yy_X6_endOf, (tb_t 763 (by decide +kernel) rfl), (tb_t 765 (by decide +kernel) rfl), by decide, _, rfl, (tb_s 30 (by decide +kernel) rfl)⟩
theorem cv_X6_173 : kv_cV RX6 173 mX6_turned 6 2 := ⟨yy_X6_turned, (tb_t 775 (by decide +kernel) rfl), (tb_t 777 (by decide +kernel) rfl), by decide, _, rfl, (tb_s 31 (by decide +kernel) rfl)⟩
theorem cv_X6_177 : kv_cV RX6 177 mX6_exchanged 6 3 := ⟨yy_X6_exchanged, (tb_t 783 (by decide +kernel) rfl), (tb_t 785 (by decide +kernel) rfl), by decide, _, rfl, (tb_s 32 (by decide +kernel) rfl)⟩
theorem cv_X6_180 : kv_cV RX6 180 mX6_met 6 1 := ⟨yy_X6_met, (tb_t 795 (by decide +kernel) rfl), (tb_t 797 (by decide +kernel) rfl), by decide, _, rfl, (tb_s 34 (by decide +kernel) rfl)⟩
theorem cv_X6_183 : kv_cV RX6 183 mX6_leastStart 6 2 := ⟨yy_X6_leastStart, (tb_t 791 (by decide +kernel) rfl), (tb_t 793 (by decide +kernel) rfl), by decide, _, rfl, (tb_s 33 (by decide +kernel) rfl)⟩
theorem cv_X6_186 : kv_cV RX6 186 mX6_pairs 6 0 := ⟨yy_X6_pairs, (tb_t 811 (by decide +kernel) rfl), (tb_t 813 (by decide +kernel) rfl), by decide, _, rfl, (tb_s 38 (by decide +kernel) rfl)⟩
theorem cv_X6_189 : kv_cV RX6 189 mX6_walked 6 1 := ⟨yy_X6_walked, (tb_t 827 (by decide +kernel) rfl), (tb_t 829 (by decide +kernel) rfl), by decide, _, rfl, (tb_s 40 (by decide +kernel) rfl)⟩
theorem cv_X6_192 : kv_cV RX6 192 mX6_rank 6 1 := ⟨yy_X6_rank, (tb_t 839 (by decide +kernel) rfl), (tb_t 841 (by decide +kernel) rfl), by decide, _, rfl, (tb_s 43 (by decide +kernel) rfl)⟩
theorem cv_X6_195 : kv_cV RX6 195 mX6_atPlace 6 2 := ⟨yy_X6_atPlace, (tb_t 851 (by decide +kernel) rfl), (tb_t 853 (by decide +kernel) rfl), by decide, _, rfl, (tb_s 45 (by decide +kernel) rfl)⟩
theorem cv_X6_198 : kv_cV RX6 198 mX6_crowd 6 1 := ⟨yy_X6_crowd, (tb_t 855 (by decide +kernel) rfl), (tb_t 857 (by decide +kernel) rfl), by decide, _, rfl, (tb_s 46 (by decide +kernel) rfl)⟩
theorem cv_X6_201 : kv_cV RX6 201 mX6_lastEnd 6 0 := ⟨yy_X6_lastEnd, (tb_t 871 (by decide +kernel) rfl), (tb_t 873 (by decide +kernel) rfl), by decide, _, rfl, (tb_s 47 (by decide +kernel) rfl)⟩
theorem cv_X6_204 : kv_cV RX6 204 mX6_allQueued 6 0 := ⟨yy_X6_allQueued, (tb_t 875 (by decide +kernel) rfl), (tb_t 877 (by decide +kernel) rfl), by decide, _, rfl, (tb_s 48 (by decide +kernel) rfl)⟩
theorem cv_X6_207 : kv_cV RX6 207 mX6_winner 6 0 := ⟨yy_X6_winner, (tb_t 879 (by decide +kernel) rfl), (tb_t 881 (by decide +kernel) rfl), by decide, _, rfl, (tb_s 49 (by decide +kernel) rfl)⟩
theorem cv_X6_210 : kv_cV RX6 210 mX6_sums 6 1 := ⟨yy_X6_sums, (tb_t 883 (by decide +kernel) rfl), (tb_t 885 (by decide +kernel) rfl), by decide, _, rfl, (tb_s 50 (by decide +kernel) rfl)⟩
theorem cv_X6_214 : kv_cV RX6 214 mX6_layAside 6 0 := ⟨yy_X6_layAside, (tb_t 903 (by decide +kernel) rfl), (tb_t 905 (by decide +kernel) rfl), by decide, _, rfl, (tb_s 51 (by decide +kernel) rfl)⟩
theorem cv_X6_217 : kv_cV RX6 217 mX6_putBack 6 0 := ⟨yy_X6_putBack, (tb_t 907 (by decide +kernel) rfl), (tb_t 909 (by decide +kernel) rfl), by decide, _, rfl, (tb_s 52 (by decide +kernel) rfl)⟩
theorem kl_X6_220 : Cond.constantLong RX6 220 (255) ∈ TB := (tb_t 915 (by decide +kernel) rfl)
theorem kf_X6_222 : kv_f RX6 222 6 9 := ⟨_, _, _, tyX6, rfl, by decide, (tb_t 579 (by decide +kernel) rfl), inX6, tyX6_ok, nmX6⟩
theorem cv_X6_225 : kv_cV RX6 225 mX6_readPlace 6 0 := ⟨yy_X6_readPlace, (tb_t 697 (by decide +kernel) rfl), (tb_t 699 (by decide +kernel) rfl), by decide, _, rfl, (tb_s 19 (by decide +kernel) rfl)⟩
theorem ca_native : Cond.native arraycopyName ∈ TB := (tb_t 32 (by decide +kernel) rfl)
theorem ca_static : Cond.static arraycopyName ∈ TB := (tb_t 31 (by decide +kernel) rfl)
theorem ca_init : Cond.initialized "java/lang/System" ∈ TB := (tb_t 3 (by decide +kernel) rfl)
theorem co_inst : Cond.instanceMethod objectInit ∈ TB := (tb_t 18 (by decide +kernel) rfl)
theorem co_code : Cond.code objectInit ⟨#[0xb1]⟩ 1 none ∈ TB := (tb_t 19 (by decide +kernel) rfl)
theorem cm_max : Cond.static Lib.Math.max.name ∈ TB ∧ Cond.initialized "java/lang/Math" ∈ TB ∧ Cond.code Lib.Math.max.name Lib.Math.max.code 2 (some .int) ∈ TB := ⟨(tb_t 342 (by decide +kernel) rfl), (tb_t 10 (by decide +kernel) rfl), (tb_t 343 (by decide +kernel) rfl)⟩
theorem cm_abs : Cond.static Lib.Math.abs.name ∈ TB ∧ Cond.initialized "java/lang/Math" ∈ TB ∧ Cond.code Lib.Math.abs.name Lib.Math.abs.code 1 (some .int) ∈ TB := ⟨(tb_t 331 (by decide +kernel) rfl), (tb_t 10 (by decide +kernel) rfl), (tb_t 332 (by decide +kernel) rfl)⟩
theorem st_isFrom : Cond.static yX5_isFrom ∈ TB := (tb_t 213 (by decide +kernel) rfl)
theorem st_isPlace : Cond.static yX5_isPlace ∈ TB := (tb_t 238 (by decide +kernel) rfl)
theorem in_yX4_init : Cond.instanceMethod yX4_init ∈ TB := (tb_t 35 (by decide +kernel) rfl)
theorem in_yX0_init : Cond.instanceMethod yX0_init ∈ TB := (tb_t 104 (by decide +kernel) rfl)
theorem in_yX2_init : Cond.instanceMethod yX2_init ∈ TB := (tb_t 153 (by decide +kernel) rfl)
end
section
/-! Math.max, Math.abs -/
section PSX
variable {l : Launch} {E : EV} {D : va_G} {cA : Nat → ClassId} {N Z : Nat} {X : MT} {d : Nat} {fin : Option Value → List PE → Prop} {pc : Nat} {ls : List (Option Value)} {st : List Value} {M : List PE}
theorem pw_mmax {idx : Nat} {x y : Int32} (hd : decode X.2.2.1 pc = .ok (.invokestatic idx, 3)) (hl : Cond.methodLink X.1 idx Lib.Math.max.name ∈ TB) (hN : M.length ≤ N) (hZ : kv_sum M ≤ Z) (hw : (st.map fun v => v.category).sum ≤ 8) (kk : PW l E D cA N Z X (d + 1) fin (pc + 3) ls (.int (if x < y then y else x) :: st) M) : PW l E D cA N Z X (d + 1) fin pc ls (.int y :: .int x :: st) M := by
  intro p e R s m args below meth c Q n0 z0 H locs cells slots la B P
  have hcat : (((st.map (kv_v E)).map fun v => v.category).sum) ≤ 8 := by rw [List.map_map, show ((fun v : Value => v.category) ∘ kv_v E) = (fun v => v.category) from funext fun v => kv_cat E v]; exact hw
  have h1 := B.2.2.2.1
  have h2 := B.2.2.2.2.1
  have h3 := B.2.2.2.2.2.1
  have h4 := B.2.2.2.2.2.2.1
  have h5 := P.2.2.2.1
  have h6 := P.2.2.2.2
  exact va_mmax B.1.1 B.1.2.1 (B.1.2.2.1.trans P.2.2.1.1.symm) B.1.2.2.2.1 (B.1.2.2.2.2.1 _ hl) (B.1.2.2.2.2.1 _ cm_max.1) (B.1.2.2.2.2.1 _ cm_max.2.1) (B.1.2.2.2.2.1 _ cm_max.2.2) (by omega) (by omega) (by omega) (by omega) hd (kk B P)
theorem pw_mabs {idx : Nat} {x : Int32} (hd : decode X.2.2.1 pc = .ok (.invokestatic idx, 3)) (hl : Cond.methodLink X.1 idx Lib.Math.abs.name ∈ TB) (hN : M.length ≤ N) (hZ : kv_sum M ≤ Z) (hw : (st.map fun v => v.category).sum ≤ 8) (kk : PW l E D cA N Z X (d + 1) fin (pc + 3) ls (.int (if 0 ≤ x then x else 0 - x) :: st) M) : PW l E D cA N Z X (d + 1) fin pc ls (.int x :: st) M := by
  intro p e R s m args below meth c Q n0 z0 H locs cells slots la B P
  have hcat : (((st.map (kv_v E)).map fun v => v.category).sum) ≤ 8 := by rw [List.map_map, show ((fun v : Value => v.category) ∘ kv_v E) = (fun v => v.category) from funext fun v => kv_cat E v]; exact hw
  have h1 := B.2.2.2.1
  have h2 := B.2.2.2.2.1
  have h3 := B.2.2.2.2.2.1
  have h4 := B.2.2.2.2.2.2.1
  have h5 := P.2.2.2.1
  have h6 := P.2.2.2.2
  exact va_mabs B.1.1 B.1.2.1 (B.1.2.2.1.trans P.2.2.1.1.symm) B.1.2.2.2.1 (B.1.2.2.2.2.1 _ hl) (B.1.2.2.2.2.1 _ cm_abs.1) (B.1.2.2.2.2.1 _ cm_abs.2.1) (B.1.2.2.2.2.1 _ cm_abs.2.2) (by omega) (by omega) (by omega) (by omega) hd (kk B P)
end PSX
end
section
/-! the standing world: which slot is what, also at numbers that are not written out -/
def oka (i c n : Nat) : Bool := decide (i < 246) && (ly_k i == c) && (ly_n i == n) && (List.range n).all (fun k => ly_s i k == 0)
theorem ok_ar {i c n k : Nat} (h : oka i c n = true) (hk : k < n) : okk i k c 0 = true := by
  unfold oka at h
  simp only [Bool.and_eq_true, decide_eq_true_eq, beq_iff_eq, List.all_eq_true, List.mem_range] at h
  obtain ⟨⟨⟨h1, h2⟩, h3⟩, h4⟩ := h
  unfold okk
  simp [h1, h2, h3, hk, h4 k hk]
theorem oka_of {i c n : Nat} (h : oka i c n = true) : i < 246 ∧ ly_k i = c ∧ ly_n i = n ∧ ∀ k, k < n → ly_s i k = 0 := by
  unfold oka at h
  simp only [Bool.and_eq_true, decide_eq_true_eq, beq_iff_eq, List.all_eq_true, List.mem_range] at h
  exact ⟨h.1.1.1, h.1.1.2, h.1.2, h.2⟩
theorem ok_g {b t : Nat} (hb : b = 39 ∨ b = 46 ∨ b = 53 ∨ b = 60 ∨ b = 67) (ht : t < 6) : okk b t 103 (b + 1 + t + 2) = true := by
  have h : ∀ t, t < 6 → okk 39 t 103 (39 + 1 + t + 2) = true ∧ okk 46 t 103 (46 + 1 + t + 2) = true ∧ okk 53 t 103 (53 + 1 + t + 2) = true ∧ okk 60 t 103 (60 + 1 + t + 2) = true ∧ okk 67 t 103 (67 + 1 + t + 2) = true := by decide +kernel
  obtain ⟨h1, h2, h3, h4, h5⟩ := h t ht
  rcases hb with rfl | rfl | rfl | rfl | rfl <;> assumption
theorem ok_gr {b t : Nat} (hb : b = 39 ∨ b = 46 ∨ b = 53 ∨ b = 60 ∨ b = 67) (ht : t < 6) : oka (b + 1 + t) 100 8 = true := by
  have h : ∀ t, t < 6 → oka (39 + 1 + t) 100 8 = true ∧ oka (46 + 1 + t) 100 8 = true ∧ oka (53 + 1 + t) 100 8 = true ∧ oka (60 + 1 + t) 100 8 = true ∧ oka (67 + 1 + t) 100 8 = true := by decide +kernel
  obtain ⟨h1, h2, h3, h4, h5⟩ := h t ht
  rcases hb with rfl | rfl | rfl | rfl | rfl <;> assumption
/-- the places where a State stands -/
def isS (s : Nat) : Prop := s ∈ [1, 19, 81, 99, 117, 135, 153, 171, 191, 209]
theorem isS_le {s : Nat} (h : isS s) : 1 ≤ s ∧ s ≤ 209 := by
  have : ∀ s, s ∈ [1, 19, 81, 99, 117, 135, 153, 171, 191, 209] → 1 ≤ s ∧ s ≤ 209 := by decide
  exact this s h
theorem ok_S {s : Nat} (h : isS s) : okk s 0 3 (s + 1 + 2) = true ∧ okk s 1 3 (s + 2 + 2) = true ∧ okk s 2 3 (s + 3 + 2) = true ∧ okk s 3 3 (s + 4 + 2) = true ∧ okk s 4 3 0 = true ∧ okk s 5 3 (s + 5 + 2) = true ∧ okk s 6 3 0 = true ∧ oka (s + 1) 100 3 = true ∧ oka (s + 2) 100 8 = true ∧ oka (s + 3) 100 8 = true ∧ oka (s + 4) 100 8 = true := by
  have : ∀ s, s ∈ [1, 19, 81, 99, 117, 135, 153, 171, 191, 209] → okk s 0 3 (s + 1 + 2) = true ∧ okk s 1 3 (s + 2 + 2) = true ∧ okk s 2 3 (s + 3 + 2) = true ∧ okk s 3 3 (s + 4 + 2) = true ∧ okk s 4 3 0 = true ∧ okk s 5 3 (s + 5 + 2) = true ∧ okk s 6 3 0 = true ∧ oka (s + 1) 100 3 = true ∧ oka (s + 2) 100 8 = true ∧ oka (s + 3) 100 8 = true ∧ oka (s + 4) 100 8 = true := by decide +kernel
  exact this s h
theorem ok_T {s t : Nat} (h : isS s) (ht : t < 6) : okk (s + 5) t 105 (s + 6 + 2 * t + 2) = true ∧ okk (s + 6 + 2 * t) 0 4 (s + 7 + 2 * t + 2) = true ∧ okk (s + 6 + 2 * t) 1 4 0 = true ∧ okk (s + 6 + 2 * t) 2 4 0 = true ∧ okk (s + 6 + 2 * t) 3 4 0 = true ∧ okk (s + 6 + 2 * t) 4 4 0 = true ∧ oka (s + 7 + 2 * t) 100 8 = true := by
  have : ∀ s, s ∈ [1, 19, 81, 99, 117, 135, 153, 171, 191, 209] → ∀ t, t < 6 → okk (s + 5) t 105 (s + 6 + 2 * t + 2) = true ∧ okk (s + 6 + 2 * t) 0 4 (s + 7 + 2 * t + 2) = true ∧ okk (s + 6 + 2 * t) 1 4 0 = true ∧ okk (s + 6 + 2 * t) 2 4 0 = true ∧ okk (s + 6 + 2 * t) 3 4 0 = true ∧ okk (s + 6 + 2 * t) 4 4 0 = true ∧ oka (s + 7 + 2 * t) 100 8 = true := by decide +kernel
  exact this s h t ht
theorem ok_H {h : Nat} (hh : h < 6) : okk 80 h 104 (81 + 18 * h + 2) = true ∧ isS (81 + 18 * h) := by
  have : ∀ h, h < 6 → okk 80 h 104 (81 + 18 * h + 2) = true ∧ (81 + 18 * h) ∈ [1, 19, 81, 99, 117, 135, 153, 171, 191, 209] := by decide +kernel
  exact this h hh
theorem ok_L {j : Nat} (hj : j < 2) : okk 189 j 104 (191 + 18 * j + 2) = true ∧ isS (191 + 18 * j) := by
  have : ∀ h, h < 2 → okk 189 h 104 (191 + 18 * h + 2) = true ∧ (191 + 18 * h) ∈ [1, 19, 81, 99, 117, 135, 153, 171, 191, 209] := by decide +kernel
  exact this j hj
/-! memory: reads behind writes -/
theorem u2_s {μ : Mu} {i k : Nat} {x : Int32} : u2 μ i k x i k = x := by simp [u2]
theorem u2_a {μ : Mu} {i k a b : Nat} {x : Int32} (h : a ≠ i) : u2 μ i k x a b = μ a b := by simp [u2, h]
theorem u2_b {μ : Mu} {i k a b : Nat} {x : Int32} (h : b ≠ k) : u2 μ i k x a b = μ a b := by simp [u2, h]
theorem u2c_a {μ : Mu} {i j a b : Nat} (h : a ≠ j) : u2c μ j i a b = μ a b := by simp [u2c, h]
theorem u2c_s {μ : Mu} {i j b : Nat} : u2c μ j i j b = μ i b := by simp [u2c]
/-! loops over numbers -/
theorem ps_for {P : Nat → Prop} (b : Nat) (hend : P b) (hstep : ∀ i, i < b → P (i + 1) → P i) : ∀ i, i ≤ b → P i := by
  intro i hi
  obtain ⟨k, rfl⟩ : ∃ k, b = i + k := ⟨b - i, by omega⟩
  induction k generalizing i with
  | zero => exact hend
  | succ k ih =>
    refine hstep i (by omega) ?_
    refine ih (i + 1) ?_ (fun j hj => hstep j (by omega)) (by omega)
    rw [show i + 1 + k = i + (k + 1) by omega]
    exact hend
/-! branches over numbers -/
section PSB
variable {l : Launch} {E : EV} {D : va_G} {cA : Nat → ClassId} {N Z : Nat} {X : MT} {d : Nat} {fin : Option Value → List PE → Prop} {pc : Nat} {ls : List (Option Value)} {st : List Value} {M : List PE} {off : Int} {tgt : Nat}
theorem pn_eq {a b : Nat} (hd : decode X.2.2.1 pc = .ok (.if_icmp .eq off, 3)) (ht : (pc : Int) + off = (tgt : Int)) (ha : a < 2 ^ 31) (hb : b < 2 ^ 31) (k1 : a = b → PW l E D cA N Z X d fin tgt ls st M) (k2 : a ≠ b → PW l E D cA N Z X d fin (pc + 3) ls st M) : PW l E D cA N Z X d fin pc ls (.int (nI b) :: .int (nI a) :: st) M :=
  pw_icmp_eq hd ht (fun h => k1 ((nI_eq ha hb).mp h)) (fun h => k2 (fun q => h ((nI_eq ha hb).mpr q)))
theorem pn_ne {a b : Nat} (hd : decode X.2.2.1 pc = .ok (.if_icmp .ne off, 3)) (ht : (pc : Int) + off = (tgt : Int)) (ha : a < 2 ^ 31) (hb : b < 2 ^ 31) (k1 : a ≠ b → PW l E D cA N Z X d fin tgt ls st M) (k2 : a = b → PW l E D cA N Z X d fin (pc + 3) ls st M) : PW l E D cA N Z X d fin pc ls (.int (nI b) :: .int (nI a) :: st) M :=
  pw_icmp_ne hd ht (fun h => k1 (fun q => h ((nI_eq ha hb).mpr q))) (fun h => k2 ((nI_eq ha hb).mp h))
theorem pn_ge {a b : Nat} (hd : decode X.2.2.1 pc = .ok (.if_icmp .ge off, 3)) (ht : (pc : Int) + off = (tgt : Int)) (ha : a < 2 ^ 31) (hb : b < 2 ^ 31) (k1 : b ≤ a → PW l E D cA N Z X d fin tgt ls st M) (k2 : a < b → PW l E D cA N Z X d fin (pc + 3) ls st M) : PW l E D cA N Z X d fin pc ls (.int (nI b) :: .int (nI a) :: st) M :=
  pw_icmp_ge hd ht (fun h => k1 ((nI_leI hb ha).mp h)) (fun h => k2 (Nat.lt_of_not_le (fun q => h ((nI_leI hb ha).mpr q))))
theorem pn_lt {a b : Nat} (hd : decode X.2.2.1 pc = .ok (.if_icmp .lt off, 3)) (ht : (pc : Int) + off = (tgt : Int)) (ha : a < 2 ^ 31) (hb : b < 2 ^ 31) (k1 : a < b → PW l E D cA N Z X d fin tgt ls st M) (k2 : b ≤ a → PW l E D cA N Z X d fin (pc + 3) ls st M) : PW l E D cA N Z X d fin pc ls (.int (nI b) :: .int (nI a) :: st) M :=
  pw_icmp_lt hd ht (fun h => k1 ((nI_ltI ha hb).mp h)) (fun h => k2 (Nat.le_of_not_lt (fun q => h ((nI_ltI ha hb).mpr q))))
theorem pn_gt {a b : Nat} (hd : decode X.2.2.1 pc = .ok (.if_icmp .gt off, 3)) (ht : (pc : Int) + off = (tgt : Int)) (ha : a < 2 ^ 31) (hb : b < 2 ^ 31) (k1 : b < a → PW l E D cA N Z X d fin tgt ls st M) (k2 : a ≤ b → PW l E D cA N Z X d fin (pc + 3) ls st M) : PW l E D cA N Z X d fin pc ls (.int (nI b) :: .int (nI a) :: st) M :=
  pw_icmp_gt hd ht (fun h => k1 ((nI_ltI hb ha).mp h)) (fun h => k2 (Nat.le_of_not_lt (fun q => h ((nI_ltI hb ha).mpr q))))
theorem pn_le {a b : Nat} (hd : decode X.2.2.1 pc = .ok (.if_icmp .le off, 3)) (ht : (pc : Int) + off = (tgt : Int)) (ha : a < 2 ^ 31) (hb : b < 2 ^ 31) (k1 : a ≤ b → PW l E D cA N Z X d fin tgt ls st M) (k2 : b < a → PW l E D cA N Z X d fin (pc + 3) ls st M) : PW l E D cA N Z X d fin pc ls (.int (nI b) :: .int (nI a) :: st) M :=
  pw_icmp_le hd ht (fun h => k1 ((nI_leI ha hb).mp h)) (fun h => k2 (Nat.lt_of_not_le (fun q => h ((nI_leI ha hb).mpr q))))
theorem pn_iadd {a b : Nat} (hd : decode X.2.2.1 pc = .ok (.iadd, 1)) (kk : PW l E D cA N Z X d fin (pc + 1) ls (.int (nI (a + b)) :: st) M) : PW l E D cA N Z X d fin pc ls (.int (nI b) :: .int (nI a) :: st) M :=
  pw_iadd hd (by rw [nI_add]; exact kk)
theorem pn_imul {a b : Nat} (hd : decode X.2.2.1 pc = .ok (.imul, 1)) (kk : PW l E D cA N Z X d fin (pc + 1) ls (.int (nI (a * b)) :: st) M) : PW l E D cA N Z X d fin pc ls (.int (nI b) :: .int (nI a) :: st) M :=
  pw_imul hd (by rw [pk_mul]; exact kk)
theorem pn_isub {a b : Nat} (hab : b ≤ a) (hd : decode X.2.2.1 pc = .ok (.isub, 1)) (kk : PW l E D cA N Z X d fin (pc + 1) ls (.int (nI (a - b)) :: st) M) : PW l E D cA N Z X d fin pc ls (.int (nI b) :: .int (nI a) :: st) M :=
  pw_isub hd (by rw [pk_sub hab]; exact kk)
theorem pn_iinc {i a : Nat} {n : Nat} (hd : decode X.2.2.1 pc = .ok (.iinc i (n : Int), 3)) (hl : ls[i]? = some (some (.int (nI a)))) (hok : kv_ok ls i = true) (kk : PW l E D cA N Z X d fin (pc + 3) (ls.set i (some (.int (nI (a + n))))) st M) : PW l E D cA N Z X d fin pc ls st M :=
  pw_iinc hd hl (show nI a + Int32.ofInt (n : Int) = nI (a + n) from nI_add a n) hok kk
end PSB
section PSC
variable {l : Launch} {E : EV} {D : va_G} {cA : Nat → ClassId} {N Z : Nat} {X : MT} {d : Nat} {fin : Option Value → List PE → Prop} {pc : Nat} {ls ls' : List (Option Value)} {st : List Value} {M : List PE}
theorem px_istore_n {k : Fin 4} {x : Int32} (hd : decode X.2.2.1 pc = .ok (.istore_n k, 1)) (hs : ls.set (k : Nat) (some (.int x)) = ls') (hok : kv_ok ls (k : Nat) = true) (hi : (k : Nat) < X.2.2.2.1) (kk : PW l E D cA N Z X d fin (pc + 1) ls' st M) : PW l E D cA N Z X d fin pc ls (.int x :: st) M := by
  subst hs; exact pw_istore_n hd hok hi kk
theorem px_astore_n {k : Fin 4} {x : Nat} (hd : decode X.2.2.1 pc = .ok (.astore_n k, 1)) (hs : ls.set (k : Nat) (some (.ref x)) = ls') (hok : kv_ok ls (k : Nat) = true) (hi : (k : Nat) < X.2.2.2.1) (kk : PW l E D cA N Z X d fin (pc + 1) ls' st M) : PW l E D cA N Z X d fin pc ls (.ref x :: st) M := by
  subst hs; exact pw_astore_n hd hok hi kk
theorem px_istore {i : Nat} {x : Int32} (hd : decode X.2.2.1 pc = .ok (.istore i, 2)) (hs : ls.set i (some (.int x)) = ls') (hok : kv_ok ls i = true) (hi : i < X.2.2.2.1) (kk : PW l E D cA N Z X d fin (pc + 2) ls' st M) : PW l E D cA N Z X d fin pc ls (.int x :: st) M := by
  subst hs; exact pw_istore hd hok hi kk
theorem px_lstore_n {k : Fin 4} {x : Int64} (hd : decode X.2.2.1 pc = .ok (.lstore_n k, 1)) (hs : (ls.set (k : Nat) (some (.long x))).set ((k : Nat) + 1) none = ls') (hok : kv_ok ls (k : Nat) = true) (hi : (k : Nat) + 1 < X.2.2.2.1) (kk : PW l E D cA N Z X d fin (pc + 1) ls' st M) : PW l E D cA N Z X d fin pc ls (.long x :: st) M := by
  subst hs; exact pw_lstore_n hd hok hi kk
theorem px_iinc {i : Nat} {n : Int} {x v : Int32} (hd : decode X.2.2.1 pc = .ok (.iinc i n, 3)) (hl : ls[i]? = some (some (.int x))) (hv : x + Int32.ofInt n = v) (hs : ls.set i (some (.int v)) = ls') (hok : kv_ok ls i = true) (kk : PW l E D cA N Z X d fin (pc + 3) ls' st M) : PW l E D cA N Z X d fin pc ls st M := by
  subst hs; exact pw_iinc hd hl hv hok kk
theorem px_iincn {i a b n : Nat} (hd : decode X.2.2.1 pc = .ok (.iinc i (n : Int), 3)) (hl : ls[i]? = some (some (.int (nI a)))) (hs : ls.set i (some (.int (nI b))) = ls') (hok : kv_ok ls i = true) (hb : a + n = b) (kk : PW l E D cA N Z X d fin (pc + 3) ls' st M) : PW l E D cA N Z X d fin pc ls st M := by
  subst hs; subst hb; exact pn_iinc hd hl hok kk
theorem px_iaddn {a b c : Nat} (hd : decode X.2.2.1 pc = .ok (.iadd, 1)) (hc : a + b = c) (kk : PW l E D cA N Z X d fin (pc + 1) ls (.int (nI c) :: st) M) : PW l E D cA N Z X d fin pc ls (.int (nI b) :: .int (nI a) :: st) M := by
  subst hc; exact pn_iadd hd kk
theorem px_imuln {a b c : Nat} (hd : decode X.2.2.1 pc = .ok (.imul, 1)) (hc : a * b = c) (kk : PW l E D cA N Z X d fin (pc + 1) ls (.int (nI c) :: st) M) : PW l E D cA N Z X d fin pc ls (.int (nI b) :: .int (nI a) :: st) M := by
  subst hc; exact pn_imul hd kk
end PSC
end
section
/-! leaves: ranges, places, teams; reads and writes of the row -/
/-- a Java boolean -/
def kb (p : Prop) [Decidable p] : Int32 := if p then nI 1 else nI 0
theorem kb_t {p : Prop} [Decidable p] (h : p) : kb p = nI 1 := if_pos h
theorem kb_f {p : Prop} [Decidable p] (h : ¬ p) : kb p = nI 0 := if_neg h
theorem kb_nar {p : Prop} [Decidable p] : narrow .boolean (.int (kb p)) = .int (kb p) := by
  by_cases h : p
  · rw [kb_t h]; decide
  · rw [kb_f h]; decide
/-- in a range from 0: one of its numbers, or below, or above -/
theorem rg_nat {x : Int32} {n : Nat} (hn : n < 2 ^ 30) : (¬ x < nI 0 ∧ ¬ nI n - nI 1 < x) ↔ ∃ t : Nat, t < n ∧ x = nI t := by
  constructor
  · rintro ⟨h1, h2⟩
    rcases pk_ix x (n := n) (by omega) with h | h | h
    · exact absurd h h1
    · exfalso
      apply h2
      rw [Int32.lt_iff_toInt_lt]
      have e : (nI n - nI 1).toInt = (n : Int) - 1 := pk_sub_toInt hn (by decide)
      rw [e]
      have := Int32.le_iff_toInt_le.mp h
      rw [nI_toInt (by omega)] at this
      omega
    · exact h
  · rintro ⟨t, ht, rfl⟩
    refine ⟨fun h => nI_pos (by omega : t < 2 ^ 31) h, fun h => ?_⟩
    rw [Int32.lt_iff_toInt_lt] at h
    have e : (nI n - nI 1).toInt = (n : Int) - 1 := pk_sub_toInt hn (by decide)
    rw [e, nI_toInt (by omega)] at h
    omega
theorem rg_to {x : Int32} {m : Nat} (hm : m < 2 ^ 30) : (¬ x < nI 0 ∧ ¬ nI m < x) ↔ ∃ t : Nat, t ≤ m ∧ x = nI t := by
  constructor
  · rintro ⟨h1, h2⟩
    rcases pk_ix x (n := m + 1) (by omega) with h | h | h
    · exact absurd h h1
    · exfalso
      apply h2
      rw [Int32.lt_iff_toInt_lt, nI_toInt (by omega)]
      have := Int32.le_iff_toInt_le.mp h
      rw [nI_toInt (by omega)] at this
      omega
    · obtain ⟨j, hj, rfl⟩ := h
      exact ⟨j, by omega, rfl⟩
  · rintro ⟨t, ht, rfl⟩
    exact ⟨nI_pos (by omega), nI_nlt ht (by omega)⟩
section LEAF
variable {l : Launch} {E : EV} {D : va_G} {cA : Nat → ClassId} {fin : Option Value → Mu → Prop} {μ : Mu} {d : Nat}
set_option maxRecDepth 100000 in
set_option maxHeartbeats 4000000 in
theorem c_isFrom {v a b : Int32} (hf : fin (some (.int (kb (¬ v < a ∧ ¬ b < v)))) μ) : PS l E D cA mX5_isFrom d fin 0 [some (.int v), some (.int a), some (.int b)] [] μ := by
  refine pw_iload_n dX5_isFrom_0 rfl ?_
  refine pw_iload_n dX5_isFrom_1 rfl ?_
  refine pw_icmp_lt (tgt := 14) dX5_isFrom_2 (by decide) (fun h1 => ?_) (fun h1 => ?_)
  · refine pw_iconst_ (v := nI 0) dX5_isFrom_14 (by decide) ?_
    exact ps_iret dX5_isFrom_15 rfl (by decide) (by rw [kb_f (fun q => q.1 h1)] at hf; exact hf)
  · refine pw_iload_n dX5_isFrom_5 rfl ?_
    refine pw_iload_n dX5_isFrom_6 rfl ?_
    refine pw_icmp_gt (tgt := 14) dX5_isFrom_7 (by decide) (fun h2 => ?_) (fun h2 => ?_)
    · refine pw_iconst_ (v := nI 0) dX5_isFrom_14 (by decide) ?_
      exact ps_iret dX5_isFrom_15 rfl (by decide) (by rw [kb_f (fun q => q.2 h2)] at hf; exact hf)
    · refine pw_iconst_ (v := nI 1) dX5_isFrom_10 (by decide) ?_
      refine pw_goto (tgt := 15) dX5_isFrom_11 (by decide) ?_
      exact ps_iret dX5_isFrom_15 rfl (by decide) (by rw [kb_t ⟨h1, h2⟩] at hf; exact hf)
set_option maxRecDepth 100000 in
set_option maxHeartbeats 4000000 in
theorem c_isPlace {v : Int32} (hf : fin (some (.int (kb (¬ v < nI 0 ∧ ¬ nI 7 < v)))) μ) : PS l E D cA mX5_isPlace (d + 1) fin 0 [some (.int v)] [] μ := by
  refine pw_iload_n dX5_isPlace_0 rfl ?_
  refine pw_iconst_ (v := nI 0) dX5_isPlace_1 (by decide) ?_
  refine pw_bipush (v := nI 7) dX5_isPlace_2 (by decide) ?_
  refine ps_callS (As := [.int v, .int (nI 0), .int (nI 7)]) (st := []) dX5_isPlace_4 cs_X5_48 rfl (Nat.le_of_ble_eq_true rfl) (Nat.le_of_ble_eq_true rfl) ?_
  refine c_isFrom ?_
  show PS l E D cA mX5_isPlace (d + 1) fin 7 [some (.int v)] [.int (kb (¬ v < nI 0 ∧ ¬ nI 7 < v))] μ
  exact ps_iret dX5_isPlace_7 rfl (kb_nar) hf
set_option maxRecDepth 100000 in
set_option maxHeartbeats 4000000 in
theorem c_isTeam {v : Int32} {n : Nat} (hn : μ 1 6 = nI n) (hf : fin (some (.int (kb (¬ v < nI 0 ∧ ¬ nI n - nI 1 < v)))) μ) : PS l E D cA mX5_isTeam (d + 1) fin 0 [some (.ref 0), some (.int v)] [] μ := by
  refine pw_iload_n dX5_isTeam_0 rfl ?_
  refine pw_iconst_ (v := nI 0) dX5_isTeam_1 (by decide) ?_
  refine pw_aload_n dX5_isTeam_2 rfl ?_
  refine ps_getr (r := 1) dX5_isTeam_3 kf_X5_10 (by decide) (by decide +kernel) ?_
  refine ps_geti (x := nI n) dX5_isTeam_6 kf_X5_98 (by decide) (by decide +kernel) hn ?_
  refine pw_iconst_ (v := nI 1) dX5_isTeam_9 (by decide) ?_
  refine pw_isub dX5_isTeam_10 ?_
  refine ps_callS (As := [.int v, .int (nI 0), .int ((nI n) - (nI 1))]) (st := []) dX5_isTeam_11 cs_X5_48 rfl (Nat.le_of_ble_eq_true rfl) (Nat.le_of_ble_eq_true rfl) ?_
  refine c_isFrom ?_
  show PS l E D cA mX5_isTeam (d + 1) fin 14 [some (.ref 0), some (.int v)] [.int (kb (¬ v < nI 0 ∧ ¬ nI n - nI 1 < v))] μ
  exact ps_iret dX5_isTeam_14 rfl (kb_nar) hf
end LEAF
end
section
/-! Team and State: copies, bits, looks -/
theorem px_copy {l : Launch} {E : EV} {D : va_G} {cA : Nat → ClassId} {X : MT} {d : Nat} {fin : Option Value → Mu → Prop} {pc : Nat} {ls : List (Option Value)} {st : List Value} {μ : Mu} {idx i j n : Nat} (hd : decode X.2.2.1 pc = .ok (.invokestatic idx, 3)) (hl : Cond.methodLink X.1 idx arraycopyName ∈ TB) (hi : oka i 100 n = true) (hj : oka j 100 n = true) {m : Int32} (hm : m = nI n) (hw : (st.map fun v => v.category).sum ≤ 8) (kk : PS l E D cA X (d + 1) fin (pc + 3) ls st (u2c μ j i)) : PS l E D cA X (d + 1) fin pc ls (.int m :: .int (nI 0) :: .ref j :: .int (nI 0) :: .ref i :: st) μ := by
  obtain ⟨h1, h2, h3, h4⟩ := oka_of hi
  obtain ⟨g1, g2, g3, g4⟩ := oka_of hj
  rw [nI_0]
  exact ps_copy hd hl ca_native ca_static ca_init h1 g1 h2 g2 h3 g3 (fun k hk => ⟨h4 k hk, g4 k hk⟩) hm hw kk
/-! THE ABSTRACT STATE: the model's row of 108, in natural numbers -/
abbrev AS : Type := Nat → Nat
/-- a Team object w with its route's row v holds team t of a -/
def RT (μ : Mu) (w v : Nat) (a : AS) (t : Nat) : Prop := μ w 1 = nI (a (39 + 12 * t)) ∧ μ w 2 = nI (a (36 + 12 * t)) ∧ μ w 3 = nI (a (37 + 12 * t)) ∧ μ w 4 = nI (a (38 + 12 * t)) - nI 1 ∧ ∀ k, k < a (39 + 12 * t) → μ v k = nI (a (40 + 12 * t + k))
/-- a State object s holds a -/
def RS (μ : Mu) (s : Nat) (a : AS) : Prop := (∀ k, k < 3 → μ (s + 1) k = nI (a k)) ∧ μ s 6 = nI (a 3) ∧ (∀ p, p < 8 → μ (s + 2) p = nI (a (4 + 4 * p)) ∧ μ (s + 3) p = nI (a (5 + 4 * p)) ∧ μ (s + 4) p = nI (a (6 + 4 * p))) ∧ (∃ m, m < 256 ∧ μ s 4 = nI m ∧ ∀ p, p < 8 → m / 2 ^ p % 2 = a (7 + 4 * p)) ∧ ∀ t, t < a 3 → RT μ (s + 6 + 2 * t) (s + 7 + 2 * t) a t
/-- what holds of every state that comes -/
def Wf (a : AS) : Prop := a 0 ≤ 50 ∧ a 1 ≤ 500 ∧ (1 ≤ a 2 ∧ a 2 ≤ 5) ∧ a 3 ≤ 6 ∧ (∀ p, p < 8 → a (4 + 4 * p) ≤ 20 ∧ a (5 + 4 * p) ≤ 20 ∧ (1 ≤ a (6 + 4 * p) ∧ a (6 + 4 * p) ≤ 15) ∧ a (7 + 4 * p) ≤ 1) ∧ ∀ t, t < a 3 → a (36 + 12 * t) ≤ 200 ∧ a (37 + 12 * t) < 256 ∧ a (38 + 12 * t) ≤ 8 ∧ (1 ≤ a (39 + 12 * t) ∧ a (39 + 12 * t) ≤ 8) ∧ ∀ k, k < a (39 + 12 * t) → a (40 + 12 * t + k) < 8
theorem isS_odd {s : Nat} (h : isS s) : s % 2 = 1 ∧ 1 ≤ s ∧ s ≤ 209 := by
  have : ∀ s, s ∈ [1, 19, 81, 99, 117, 135, 153, 171, 191, 209] → s % 2 = 1 ∧ 1 ≤ s ∧ s ≤ 209 := by decide
  exact this s h
theorem bit_shr : ∀ m, m < 256 → ∀ p, p < 8 → (nI m >>> (nI p &&& 31)) &&& nI 1 = nI (m / 2 ^ p % 2) := by decide +kernel
theorem bit_01 (m p : Nat) : m / 2 ^ p % 2 = 0 ∨ m / 2 ^ p % 2 = 1 := by omega
/-- outside of the cells from s on, n of them, nothing is changed -/
def sameOff (ν μ : Mu) (s n : Nat) : Prop := ∀ i k, ¬ (s ≤ i ∧ i < s + n) → ν i k = μ i k
/-- the State at s is as that at o was -/
def CPS (ν μ : Mu) (s o : Nat) : Prop := sameOff ν μ s 18 ∧ ν s 4 = μ o 4 ∧ ν s 6 = μ o 6 ∧ (∀ j k, 1 ≤ j → j < 5 → ν (s + j) k = μ (o + j) k) ∧ ∀ t, t < 6 → (∀ k, 1 ≤ k → k < 5 → ν (s + 6 + 2 * t) k = μ (o + 6 + 2 * t) k) ∧ ∀ k, ν (s + 7 + 2 * t) k = μ (o + 7 + 2 * t) k
theorem RT.of {ν μ : Mu} {w v w2 v2 : Nat} {a : AS} {t : Nat} (h : RT μ w2 v2 a t) (h1 : ∀ k, 1 ≤ k → k < 5 → ν w k = μ w2 k) (h2 : ∀ k, ν v k = μ v2 k) : RT ν w v a t := by
  obtain ⟨g1, g2, g3, g4, g5⟩ := h
  exact ⟨(h1 1 (by decide) (by decide)).trans g1, (h1 2 (by decide) (by decide)).trans g2, (h1 3 (by decide) (by decide)).trans g3, (h1 4 (by decide) (by decide)).trans g4, fun k hk => (h2 k).trans (g5 k hk)⟩
theorem CPS.RS {ν μ : Mu} {s o : Nat} {a : AS} (h : CPS ν μ s o) (ha : a 3 ≤ 6) (hr : RS μ o a) : RS ν s a := by
  obtain ⟨-, h1, h2, h3, h4⟩ := h
  obtain ⟨g1, g2, g3, ⟨m, g4, g5, g6⟩, g7⟩ := hr
  refine ⟨fun k hk => (h3 1 k (by decide) (by decide)).trans (g1 k hk), h2.trans g2, fun p hp => ⟨(h3 2 p (by decide) (by decide)).trans (g3 p hp).1, (h3 3 p (by decide) (by decide)).trans (g3 p hp).2.1, (h3 4 p (by decide) (by decide)).trans (g3 p hp).2.2⟩, ⟨m, g4, h1.trans g5, g6⟩, fun t ht => ?_⟩
  exact (g7 t ht).of (h4 t (by omega)).1 (h4 t (by omega)).2
theorem RS.same {ν μ : Mu} {s : Nat} {a : AS} (ha : a 3 ≤ 6) (h : ∀ i k, s ≤ i → i < s + 18 → ν i k = μ i k) (hr : RS μ s a) : RS ν s a := by
  obtain ⟨g1, g2, g3, ⟨m, g4, g5, g6⟩, g7⟩ := hr
  refine ⟨fun k hk => (h _ _ (by omega) (by omega)).trans (g1 k hk), (h _ _ (by omega) (by omega)).trans g2, fun p hp => ⟨(h _ _ (by omega) (by omega)).trans (g3 p hp).1, (h _ _ (by omega) (by omega)).trans (g3 p hp).2.1, (h _ _ (by omega) (by omega)).trans (g3 p hp).2.2⟩, ⟨m, g4, (h _ _ (by omega) (by omega)).trans g5, g6⟩, fun t ht => ?_⟩
  exact (g7 t ht).of (fun k _ _ => h _ _ (by omega) (by omega)) (fun k => h _ _ (by omega) (by omega))
section STATE
variable {l : Launch} {E : EV} {D : va_G} {cA : Nat → ClassId} {fin : Option Value → Mu → Prop} {μ : Mu} {d : Nat}
/-! copies -/
set_option maxRecDepth 100000 in
set_option maxHeartbeats 4000000 in
theorem c_T_copyFrom {s t o t2 : Nat} (hs : isS s) (ht : t < 6) (ho : isS o) (ht2 : t2 < 6) (hf : ∀ ν : Mu, (∀ i k, i ≠ s + 6 + 2 * t → i ≠ s + 7 + 2 * t → ν i k = μ i k) → (∀ k, 1 ≤ k → k < 5 → ν (s + 6 + 2 * t) k = μ (o + 6 + 2 * t2) k) → (∀ k, ν (s + 7 + 2 * t) k = μ (o + 7 + 2 * t2) k) → fin none ν) : PS l E D cA mX4_copyFrom (d + 1) fin 0 [some (.ref (s + 6 + 2 * t)), some (.ref (o + 6 + 2 * t2))] [] μ := by
  have q1 := isS_odd hs
  have q2 := isS_odd ho
  refine pw_aload_n dX4_copyFrom_0 rfl ?_
  refine ps_getr (r := o + 7 + 2 * t2) dX4_copyFrom_1 kf_X4_9 (by decide) ((ok_T ho ht2).2.1) ?_
  refine pw_iconst_ (v := nI 0) dX4_copyFrom_4 (by decide) ?_
  refine pw_aload_n dX4_copyFrom_5 rfl ?_
  refine ps_getr (r := s + 7 + 2 * t) dX4_copyFrom_6 kf_X4_9 (by decide) ((ok_T hs ht).2.1) ?_
  refine pw_iconst_ (v := nI 0) dX4_copyFrom_9 (by decide) ?_
  refine pw_bipush (v := nI 8) dX4_copyFrom_10 (by decide) ?_
  refine px_copy (n := 8) dX4_copyFrom_12 ca_X4_19 ((ok_T ho ht2).2.2.2.2.2.2) ((ok_T hs ht).2.2.2.2.2.2) rfl (Nat.le_of_ble_eq_true rfl) ?_
  refine pw_aload_n dX4_copyFrom_15 rfl ?_
  refine pw_aload_n dX4_copyFrom_16 rfl ?_
  refine ps_geti (x := μ (o + 6 + 2 * t2) 1) dX4_copyFrom_17 kf_X4_25 (by decide) ((ok_T ho ht2).2.2.1) (u2c_a (by omega)) ?_
  refine ps_puti dX4_copyFrom_20 kf_X4_25 (by decide) rfl ((ok_T hs ht).2.2.1) ?_
  refine pw_aload_n dX4_copyFrom_23 rfl ?_
  refine pw_aload_n dX4_copyFrom_24 rfl ?_
  refine ps_geti (x := μ (o + 6 + 2 * t2) 2) dX4_copyFrom_25 kf_X4_28 (by decide) ((ok_T ho ht2).2.2.2.1) ((u2_b (by decide)).trans (u2c_a (by omega))) ?_
  refine ps_puti dX4_copyFrom_28 kf_X4_28 (by decide) rfl ((ok_T hs ht).2.2.2.1) ?_
  refine pw_aload_n dX4_copyFrom_31 rfl ?_
  refine pw_aload_n dX4_copyFrom_32 rfl ?_
  refine ps_geti (x := μ (o + 6 + 2 * t2) 3) dX4_copyFrom_33 kf_X4_31 (by decide) ((ok_T ho ht2).2.2.2.2.1) ((u2_b (by decide)).trans ((u2_b (by decide)).trans (u2c_a (by omega)))) ?_
  refine ps_puti dX4_copyFrom_36 kf_X4_31 (by decide) rfl ((ok_T hs ht).2.2.2.2.1) ?_
  refine pw_aload_n dX4_copyFrom_39 rfl ?_
  refine pw_aload_n dX4_copyFrom_40 rfl ?_
  refine ps_geti (x := μ (o + 6 + 2 * t2) 4) dX4_copyFrom_41 kf_X4_15 (by decide) ((ok_T ho ht2).2.2.2.2.2.1) ((u2_b (by decide)).trans ((u2_b (by decide)).trans ((u2_b (by decide)).trans (u2c_a (by omega))))) ?_
  refine ps_puti dX4_copyFrom_44 kf_X4_15 (by decide) rfl ((ok_T hs ht).2.2.2.2.2.1) ?_
  refine ps_ret dX4_copyFrom_47 rfl (hf _ ?_ ?_ ?_)
  · intro i k h1 h2
    rw [u2_a h1, u2_a h1, u2_a h1, u2_a h1, u2c_a h2]
  · intro k h1 h2
    rcases (show k = 1 ∨ k = 2 ∨ k = 3 ∨ k = 4 by omega) with rfl | rfl | rfl | rfl
    · rw [u2_b (by decide), u2_b (by decide), u2_b (by decide), u2_s]
    · rw [u2_b (by decide), u2_b (by decide), u2_s]
    · rw [u2_b (by decide), u2_s]
    · rw [u2_s]
  · intro k
    rw [u2_a (by omega), u2_a (by omega), u2_a (by omega), u2_a (by omega), u2c_s]
end STATE
end
section
/-! State and Team: copies of states, bits, trails -/
theorem px_idivn {l : Launch} {E : EV} {D : va_G} {cA : Nat → ClassId} {N Z : Nat} {X : MT} {d : Nat} {fin : Option Value → List PE → Prop} {pc : Nat} {ls : List (Option Value)} {st : List Value} {M : List PE} {a b : Nat} (hd : decode X.2.2.1 pc = .ok (.idiv, 1)) (ha : a < 2 ^ 31) (h0 : 0 < b) (hb : b < 2 ^ 31) (kk : PW l E D cA N Z X d fin (pc + 1) ls (.int (nI (a / b)) :: st) M) : PW l E D cA N Z X d fin pc ls (.int (nI b) :: .int (nI a) :: st) M :=
  pw_idiv hd (fun h => absurd h (nI_ne0 h0 hb)) (by rw [pk_div ha h0 hb]; exact kk)
/-- how many of eight bits -/
def pop8 (m : Nat) : Nat := m / 1 % 2 + m / 2 % 2 + m / 4 % 2 + m / 8 % 2 + m / 16 % 2 + m / 32 % 2 + m / 64 % 2 + m / 128 % 2
/-- the places of the first i of a team's route that are open -/
def trp (a : AS) (t i : Nat) : List Nat := ((List.range i).map (fun k => a (40 + 12 * t + k))).filter (fun p => a (7 + 4 * p) == 0)
def tr (a : AS) (t : Nat) : List Nat := trp a t (a (39 + 12 * t))
theorem trp_0 (a : AS) (t : Nat) : trp a t 0 = [] := rfl
theorem trp_s (a : AS) (t i : Nat) : trp a t (i + 1) = trp a t i ++ (if a (7 + 4 * a (40 + 12 * t + i)) = 0 then [a (40 + 12 * t + i)] else []) := by
  unfold trp
  rw [List.range_succ, List.map_append, List.filter_append]
  congr 1
  by_cases h : a (7 + 4 * a (40 + 12 * t + i)) = 0
  · simp [h]
  · simp [h]
theorem trp_len (a : AS) (t i : Nat) : (trp a t i).length ≤ i := by
  unfold trp
  refine Nat.le_trans (List.length_filter_le _ _) ?_
  simp
section STATE2
variable {l : Launch} {E : EV} {D : va_G} {cA : Nat → ClassId} {fin : Option Value → Mu → Prop} {μ : Mu} {d : Nat}
set_option maxRecDepth 100000 in
set_option maxHeartbeats 4000000 in
theorem c_T_hasHint {s t h p : Nat} (hs : isS s) (ht : t < 6) (hh : h < 256) (hp : p < 8) (hv : μ (s + 6 + 2 * t) 3 = nI h) (hf : fin (some (.int (kb (h / 2 ^ p % 2 = 1)))) μ) : PS l E D cA mX4_hasHint d fin 0 [some (.ref (s + 6 + 2 * t)), some (.int (nI p))] [] μ := by
  refine pw_aload_n dX4_hasHint_0 rfl ?_
  refine ps_geti (x := nI h) dX4_hasHint_1 kf_X4_31 (by decide) ((ok_T hs ht).2.2.2.2.1) hv ?_
  refine pw_iload_n dX4_hasHint_4 rfl ?_
  refine pw_ishr dX4_hasHint_5 ?_
  refine pw_iconst_ (v := nI 1) dX4_hasHint_6 (by decide) ?_
  refine pw_iand dX4_hasHint_7 ?_
  refine pw_iconst_ (v := nI 1) dX4_hasHint_8 (by decide) ?_
  rw [bit_shr h hh p hp]
  have hb := bit_01 h p
  refine pn_ne (tgt := 16) dX4_hasHint_9 (by decide) (by omega) (by omega) (fun h1 => ?_) (fun h1 => ?_)
  · refine pw_iconst_ (v := nI 0) dX4_hasHint_16 (by decide) ?_
    exact ps_iret dX4_hasHint_17 rfl (by decide) (by rw [kb_f h1] at hf; exact hf)
  · refine pw_iconst_ (v := nI 1) dX4_hasHint_12 (by decide) ?_
    refine pw_goto (tgt := 17) dX4_hasHint_13 (by decide) ?_
    exact ps_iret dX4_hasHint_17 rfl (by decide) (by rw [kb_t h1] at hf; exact hf)
set_option maxRecDepth 100000 in
set_option maxHeartbeats 4000000 in
theorem c_S_isClosed {s h p : Nat} (hs : isS s) (hh : h < 256) (hp : p < 8) (hv : μ s 4 = nI h) (hf : fin (some (.int (kb (h / 2 ^ p % 2 = 1)))) μ) : PS l E D cA mX3_isClosed d fin 0 [some (.ref s), some (.int (nI p))] [] μ := by
  refine pw_aload_n dX3_isClosed_0 rfl ?_
  refine ps_geti (x := nI h) dX3_isClosed_1 kf_X3_40 (by decide) ((ok_S hs).2.2.2.2.1) hv ?_
  refine pw_iload_n dX3_isClosed_4 rfl ?_
  refine pw_ishr dX3_isClosed_5 ?_
  refine pw_iconst_ (v := nI 1) dX3_isClosed_6 (by decide) ?_
  refine pw_iand dX3_isClosed_7 ?_
  refine pw_iconst_ (v := nI 1) dX3_isClosed_8 (by decide) ?_
  rw [bit_shr h hh p hp]
  have hb := bit_01 h p
  refine pn_ne (tgt := 16) dX3_isClosed_9 (by decide) (by omega) (by omega) (fun h1 => ?_) (fun h1 => ?_)
  · refine pw_iconst_ (v := nI 0) dX3_isClosed_16 (by decide) ?_
    exact ps_iret dX3_isClosed_17 rfl (by decide) (by rw [kb_f h1] at hf; exact hf)
  · refine pw_iconst_ (v := nI 1) dX3_isClosed_12 (by decide) ?_
    refine pw_goto (tgt := 17) dX3_isClosed_13 (by decide) ?_
    exact ps_iret dX3_isClosed_17 rfl (by decide) (by rw [kb_t h1] at hf; exact hf)
set_option maxRecDepth 100000 in
theorem bc8 : ∀ m, m < 256 → ((((((((nI m) - ((((nI m).toUInt32 >>> ((nI 1).toUInt32 &&& Int32.toUInt32 31)).toInt32) &&& (1431655765))) &&& (858993459)) + (((((nI m) - ((((nI m).toUInt32 >>> ((nI 1).toUInt32 &&& Int32.toUInt32 31)).toInt32) &&& (1431655765))).toUInt32 >>> ((nI 2).toUInt32 &&& Int32.toUInt32 31)).toInt32) &&& (858993459))) + ((((((nI m) - ((((nI m).toUInt32 >>> ((nI 1).toUInt32 &&& Int32.toUInt32 31)).toInt32) &&& (1431655765))) &&& (858993459)) + (((((nI m) - ((((nI m).toUInt32 >>> ((nI 1).toUInt32 &&& Int32.toUInt32 31)).toInt32) &&& (1431655765))).toUInt32 >>> ((nI 2).toUInt32 &&& Int32.toUInt32 31)).toInt32) &&& (858993459))).toUInt32 >>> ((nI 4).toUInt32 &&& Int32.toUInt32 31)).toInt32)) &&& (252645135)) + ((((((((nI m) - ((((nI m).toUInt32 >>> ((nI 1).toUInt32 &&& Int32.toUInt32 31)).toInt32) &&& (1431655765))) &&& (858993459)) + (((((nI m) - ((((nI m).toUInt32 >>> ((nI 1).toUInt32 &&& Int32.toUInt32 31)).toInt32) &&& (1431655765))).toUInt32 >>> ((nI 2).toUInt32 &&& Int32.toUInt32 31)).toInt32) &&& (858993459))) + ((((((nI m) - ((((nI m).toUInt32 >>> ((nI 1).toUInt32 &&& Int32.toUInt32 31)).toInt32) &&& (1431655765))) &&& (858993459)) + (((((nI m) - ((((nI m).toUInt32 >>> ((nI 1).toUInt32 &&& Int32.toUInt32 31)).toInt32) &&& (1431655765))).toUInt32 >>> ((nI 2).toUInt32 &&& Int32.toUInt32 31)).toInt32) &&& (858993459))).toUInt32 >>> ((nI 4).toUInt32 &&& Int32.toUInt32 31)).toInt32)) &&& (252645135)).toUInt32 >>> ((nI 8).toUInt32 &&& Int32.toUInt32 31)).toInt32)) + (((((((((nI m) - ((((nI m).toUInt32 >>> ((nI 1).toUInt32 &&& Int32.toUInt32 31)).toInt32) &&& (1431655765))) &&& (858993459)) + (((((nI m) - ((((nI m).toUInt32 >>> ((nI 1).toUInt32 &&& Int32.toUInt32 31)).toInt32) &&& (1431655765))).toUInt32 >>> ((nI 2).toUInt32 &&& Int32.toUInt32 31)).toInt32) &&& (858993459))) + ((((((nI m) - ((((nI m).toUInt32 >>> ((nI 1).toUInt32 &&& Int32.toUInt32 31)).toInt32) &&& (1431655765))) &&& (858993459)) + (((((nI m) - ((((nI m).toUInt32 >>> ((nI 1).toUInt32 &&& Int32.toUInt32 31)).toInt32) &&& (1431655765))).toUInt32 >>> ((nI 2).toUInt32 &&& Int32.toUInt32 31)).toInt32) &&& (858993459))).toUInt32 >>> ((nI 4).toUInt32 &&& Int32.toUInt32 31)).toInt32)) &&& (252645135)) + ((((((((nI m) - ((((nI m).toUInt32 >>> ((nI 1).toUInt32 &&& Int32.toUInt32 31)).toInt32) &&& (1431655765))) &&& (858993459)) + (((((nI m) - ((((nI m).toUInt32 >>> ((nI 1).toUInt32 &&& Int32.toUInt32 31)).toInt32) &&& (1431655765))).toUInt32 >>> ((nI 2).toUInt32 &&& Int32.toUInt32 31)).toInt32) &&& (858993459))) + ((((((nI m) - ((((nI m).toUInt32 >>> ((nI 1).toUInt32 &&& Int32.toUInt32 31)).toInt32) &&& (1431655765))) &&& (858993459)) + (((((nI m) - ((((nI m).toUInt32 >>> ((nI 1).toUInt32 &&& Int32.toUInt32 31)).toInt32) &&& (1431655765))).toUInt32 >>> ((nI 2).toUInt32 &&& Int32.toUInt32 31)).toInt32) &&& (858993459))).toUInt32 >>> ((nI 4).toUInt32 &&& Int32.toUInt32 31)).toInt32)) &&& (252645135)).toUInt32 >>> ((nI 8).toUInt32 &&& Int32.toUInt32 31)).toInt32)).toUInt32 >>> ((nI 16).toUInt32 &&& Int32.toUInt32 31)).toInt32)) &&& (nI 63) = nI (pop8 m) := by decide +kernel
theorem pop8_le : ∀ m, pop8 m ≤ 8 := by
  intro m
  unfold pop8
  omega
set_option maxRecDepth 100000 in
set_option maxHeartbeats 4000000 in
theorem c_bitCount {m : Nat} (hm : m < 256) (hf : fin (some (.int (nI (pop8 m)))) μ) : PS l E D cA mJ6_bitCount_0f7a4 d fin 0 [some (.int (nI m))] [] μ := by
  refine pw_iload_n dJ6_bitCount_0f7a4_0 rfl ?_
  refine pw_iload_n dJ6_bitCount_0f7a4_1 rfl ?_
  refine pw_iconst_ (v := nI 1) dJ6_bitCount_0f7a4_2 (by decide) ?_
  refine pw_iushr dJ6_bitCount_0f7a4_3 rfl ?_
  refine pw_ldc_w dJ6_bitCount_0f7a4_4 kc_J6_265 ?_
  refine pw_iand dJ6_bitCount_0f7a4_7 ?_
  refine pw_isub dJ6_bitCount_0f7a4_8 ?_
  refine px_istore_n (ls' := [some (.int ((nI m) - ((((nI m).toUInt32 >>> ((nI 1).toUInt32 &&& Int32.toUInt32 31)).toInt32) &&& (1431655765))))]) dJ6_bitCount_0f7a4_9 rfl rfl (by decide) ?_
  refine pw_iload_n dJ6_bitCount_0f7a4_10 rfl ?_
  refine pw_ldc_w dJ6_bitCount_0f7a4_11 kc_J6_266 ?_
  refine pw_iand dJ6_bitCount_0f7a4_14 ?_
  refine pw_iload_n dJ6_bitCount_0f7a4_15 rfl ?_
  refine pw_iconst_ (v := nI 2) dJ6_bitCount_0f7a4_16 (by decide) ?_
  refine pw_iushr dJ6_bitCount_0f7a4_17 rfl ?_
  refine pw_ldc_w dJ6_bitCount_0f7a4_18 kc_J6_266 ?_
  refine pw_iand dJ6_bitCount_0f7a4_21 ?_
  refine pw_iadd dJ6_bitCount_0f7a4_22 ?_
  refine px_istore_n (ls' := [some (.int ((((nI m) - ((((nI m).toUInt32 >>> ((nI 1).toUInt32 &&& Int32.toUInt32 31)).toInt32) &&& (1431655765))) &&& (858993459)) + (((((nI m) - ((((nI m).toUInt32 >>> ((nI 1).toUInt32 &&& Int32.toUInt32 31)).toInt32) &&& (1431655765))).toUInt32 >>> ((nI 2).toUInt32 &&& Int32.toUInt32 31)).toInt32) &&& (858993459))))]) dJ6_bitCount_0f7a4_23 rfl rfl (by decide) ?_
  refine pw_iload_n dJ6_bitCount_0f7a4_24 rfl ?_
  refine pw_iload_n dJ6_bitCount_0f7a4_25 rfl ?_
  refine pw_iconst_ (v := nI 4) dJ6_bitCount_0f7a4_26 (by decide) ?_
  refine pw_iushr dJ6_bitCount_0f7a4_27 rfl ?_
  refine pw_iadd dJ6_bitCount_0f7a4_28 ?_
  refine pw_ldc_w dJ6_bitCount_0f7a4_29 kc_J6_267 ?_
  refine pw_iand dJ6_bitCount_0f7a4_32 ?_
  refine px_istore_n (ls' := [some (.int ((((((nI m) - ((((nI m).toUInt32 >>> ((nI 1).toUInt32 &&& Int32.toUInt32 31)).toInt32) &&& (1431655765))) &&& (858993459)) + (((((nI m) - ((((nI m).toUInt32 >>> ((nI 1).toUInt32 &&& Int32.toUInt32 31)).toInt32) &&& (1431655765))).toUInt32 >>> ((nI 2).toUInt32 &&& Int32.toUInt32 31)).toInt32) &&& (858993459))) + ((((((nI m) - ((((nI m).toUInt32 >>> ((nI 1).toUInt32 &&& Int32.toUInt32 31)).toInt32) &&& (1431655765))) &&& (858993459)) + (((((nI m) - ((((nI m).toUInt32 >>> ((nI 1).toUInt32 &&& Int32.toUInt32 31)).toInt32) &&& (1431655765))).toUInt32 >>> ((nI 2).toUInt32 &&& Int32.toUInt32 31)).toInt32) &&& (858993459))).toUInt32 >>> ((nI 4).toUInt32 &&& Int32.toUInt32 31)).toInt32)) &&& (252645135)))]) dJ6_bitCount_0f7a4_33 rfl rfl (by decide) ?_
  refine pw_iload_n dJ6_bitCount_0f7a4_34 rfl ?_
  refine pw_iload_n dJ6_bitCount_0f7a4_35 rfl ?_
  refine pw_bipush (v := nI 8) dJ6_bitCount_0f7a4_36 (by decide) ?_
  refine pw_iushr dJ6_bitCount_0f7a4_38 rfl ?_
  refine pw_iadd dJ6_bitCount_0f7a4_39 ?_
  refine px_istore_n (ls' := [some (.int (((((((nI m) - ((((nI m).toUInt32 >>> ((nI 1).toUInt32 &&& Int32.toUInt32 31)).toInt32) &&& (1431655765))) &&& (858993459)) + (((((nI m) - ((((nI m).toUInt32 >>> ((nI 1).toUInt32 &&& Int32.toUInt32 31)).toInt32) &&& (1431655765))).toUInt32 >>> ((nI 2).toUInt32 &&& Int32.toUInt32 31)).toInt32) &&& (858993459))) + ((((((nI m) - ((((nI m).toUInt32 >>> ((nI 1).toUInt32 &&& Int32.toUInt32 31)).toInt32) &&& (1431655765))) &&& (858993459)) + (((((nI m) - ((((nI m).toUInt32 >>> ((nI 1).toUInt32 &&& Int32.toUInt32 31)).toInt32) &&& (1431655765))).toUInt32 >>> ((nI 2).toUInt32 &&& Int32.toUInt32 31)).toInt32) &&& (858993459))).toUInt32 >>> ((nI 4).toUInt32 &&& Int32.toUInt32 31)).toInt32)) &&& (252645135)) + ((((((((nI m) - ((((nI m).toUInt32 >>> ((nI 1).toUInt32 &&& Int32.toUInt32 31)).toInt32) &&& (1431655765))) &&& (858993459)) + (((((nI m) - ((((nI m).toUInt32 >>> ((nI 1).toUInt32 &&& Int32.toUInt32 31)).toInt32) &&& (1431655765))).toUInt32 >>> ((nI 2).toUInt32 &&& Int32.toUInt32 31)).toInt32) &&& (858993459))) + ((((((nI m) - ((((nI m).toUInt32 >>> ((nI 1).toUInt32 &&& Int32.toUInt32 31)).toInt32) &&& (1431655765))) &&& (858993459)) + (((((nI m) - ((((nI m).toUInt32 >>> ((nI 1).toUInt32 &&& Int32.toUInt32 31)).toInt32) &&& (1431655765))).toUInt32 >>> ((nI 2).toUInt32 &&& Int32.toUInt32 31)).toInt32) &&& (858993459))).toUInt32 >>> ((nI 4).toUInt32 &&& Int32.toUInt32 31)).toInt32)) &&& (252645135)).toUInt32 >>> ((nI 8).toUInt32 &&& Int32.toUInt32 31)).toInt32)))]) dJ6_bitCount_0f7a4_40 rfl rfl (by decide) ?_
  refine pw_iload_n dJ6_bitCount_0f7a4_41 rfl ?_
  refine pw_iload_n dJ6_bitCount_0f7a4_42 rfl ?_
  refine pw_bipush (v := nI 16) dJ6_bitCount_0f7a4_43 (by decide) ?_
  refine pw_iushr dJ6_bitCount_0f7a4_45 rfl ?_
  refine pw_iadd dJ6_bitCount_0f7a4_46 ?_
  refine px_istore_n (ls' := [some (.int ((((((((nI m) - ((((nI m).toUInt32 >>> ((nI 1).toUInt32 &&& Int32.toUInt32 31)).toInt32) &&& (1431655765))) &&& (858993459)) + (((((nI m) - ((((nI m).toUInt32 >>> ((nI 1).toUInt32 &&& Int32.toUInt32 31)).toInt32) &&& (1431655765))).toUInt32 >>> ((nI 2).toUInt32 &&& Int32.toUInt32 31)).toInt32) &&& (858993459))) + ((((((nI m) - ((((nI m).toUInt32 >>> ((nI 1).toUInt32 &&& Int32.toUInt32 31)).toInt32) &&& (1431655765))) &&& (858993459)) + (((((nI m) - ((((nI m).toUInt32 >>> ((nI 1).toUInt32 &&& Int32.toUInt32 31)).toInt32) &&& (1431655765))).toUInt32 >>> ((nI 2).toUInt32 &&& Int32.toUInt32 31)).toInt32) &&& (858993459))).toUInt32 >>> ((nI 4).toUInt32 &&& Int32.toUInt32 31)).toInt32)) &&& (252645135)) + ((((((((nI m) - ((((nI m).toUInt32 >>> ((nI 1).toUInt32 &&& Int32.toUInt32 31)).toInt32) &&& (1431655765))) &&& (858993459)) + (((((nI m) - ((((nI m).toUInt32 >>> ((nI 1).toUInt32 &&& Int32.toUInt32 31)).toInt32) &&& (1431655765))).toUInt32 >>> ((nI 2).toUInt32 &&& Int32.toUInt32 31)).toInt32) &&& (858993459))) + ((((((nI m) - ((((nI m).toUInt32 >>> ((nI 1).toUInt32 &&& Int32.toUInt32 31)).toInt32) &&& (1431655765))) &&& (858993459)) + (((((nI m) - ((((nI m).toUInt32 >>> ((nI 1).toUInt32 &&& Int32.toUInt32 31)).toInt32) &&& (1431655765))).toUInt32 >>> ((nI 2).toUInt32 &&& Int32.toUInt32 31)).toInt32) &&& (858993459))).toUInt32 >>> ((nI 4).toUInt32 &&& Int32.toUInt32 31)).toInt32)) &&& (252645135)).toUInt32 >>> ((nI 8).toUInt32 &&& Int32.toUInt32 31)).toInt32)) + (((((((((nI m) - ((((nI m).toUInt32 >>> ((nI 1).toUInt32 &&& Int32.toUInt32 31)).toInt32) &&& (1431655765))) &&& (858993459)) + (((((nI m) - ((((nI m).toUInt32 >>> ((nI 1).toUInt32 &&& Int32.toUInt32 31)).toInt32) &&& (1431655765))).toUInt32 >>> ((nI 2).toUInt32 &&& Int32.toUInt32 31)).toInt32) &&& (858993459))) + ((((((nI m) - ((((nI m).toUInt32 >>> ((nI 1).toUInt32 &&& Int32.toUInt32 31)).toInt32) &&& (1431655765))) &&& (858993459)) + (((((nI m) - ((((nI m).toUInt32 >>> ((nI 1).toUInt32 &&& Int32.toUInt32 31)).toInt32) &&& (1431655765))).toUInt32 >>> ((nI 2).toUInt32 &&& Int32.toUInt32 31)).toInt32) &&& (858993459))).toUInt32 >>> ((nI 4).toUInt32 &&& Int32.toUInt32 31)).toInt32)) &&& (252645135)) + ((((((((nI m) - ((((nI m).toUInt32 >>> ((nI 1).toUInt32 &&& Int32.toUInt32 31)).toInt32) &&& (1431655765))) &&& (858993459)) + (((((nI m) - ((((nI m).toUInt32 >>> ((nI 1).toUInt32 &&& Int32.toUInt32 31)).toInt32) &&& (1431655765))).toUInt32 >>> ((nI 2).toUInt32 &&& Int32.toUInt32 31)).toInt32) &&& (858993459))) + ((((((nI m) - ((((nI m).toUInt32 >>> ((nI 1).toUInt32 &&& Int32.toUInt32 31)).toInt32) &&& (1431655765))) &&& (858993459)) + (((((nI m) - ((((nI m).toUInt32 >>> ((nI 1).toUInt32 &&& Int32.toUInt32 31)).toInt32) &&& (1431655765))).toUInt32 >>> ((nI 2).toUInt32 &&& Int32.toUInt32 31)).toInt32) &&& (858993459))).toUInt32 >>> ((nI 4).toUInt32 &&& Int32.toUInt32 31)).toInt32)) &&& (252645135)).toUInt32 >>> ((nI 8).toUInt32 &&& Int32.toUInt32 31)).toInt32)).toUInt32 >>> ((nI 16).toUInt32 &&& Int32.toUInt32 31)).toInt32)))]) dJ6_bitCount_0f7a4_47 rfl rfl (by decide) ?_
  refine pw_iload_n dJ6_bitCount_0f7a4_48 rfl ?_
  refine pw_bipush (v := nI 63) dJ6_bitCount_0f7a4_49 (by decide) ?_
  refine pw_iand dJ6_bitCount_0f7a4_51 ?_
  rw [bc8 m hm]
  exact ps_iret dJ6_bitCount_0f7a4_52 rfl (rfl) hf
set_option maxRecDepth 100000 in
set_option maxHeartbeats 4000000 in
theorem c_S_openPlaces {s m : Nat} (hs : isS s) (hm : m < 256) (hv : μ s 4 = nI m) (hf : fin (some (.int (nI (8 - pop8 m)))) μ) : PS l E D cA mX3_openPlaces (d + 1) fin 0 [some (.ref s)] [] μ := by
  refine pw_bipush (v := nI 8) dX3_openPlaces_0 (by decide) ?_
  refine pw_aload_n dX3_openPlaces_2 rfl ?_
  refine ps_geti (x := nI m) dX3_openPlaces_3 kf_X3_40 (by decide) ((ok_S hs).2.2.2.2.1) hv ?_
  refine ps_callS (As := [.int (nI m)]) (st := [.int (nI 8)]) dX3_openPlaces_6 cs_X3_51 rfl (Nat.le_of_ble_eq_true rfl) (Nat.le_of_ble_eq_true rfl) ?_
  refine c_bitCount hm ?_
  show PS l E D cA mX3_openPlaces (d + 1) fin 9 [some (.ref s)] [.int (nI (pop8 m)), .int (nI 8)] μ
  refine pn_isub (pop8_le m) dX3_openPlaces_9 ?_
  exact ps_iret dX3_openPlaces_10 rfl (rfl) hf
theorem nI1_ne : nI 1 ≠ 0 := by decide
set_option maxRecDepth 100000 in
set_option maxHeartbeats 4000000 in
theorem c_S_lookOf {s t p h k : Nat} (hs : isS s) (ht : t < 6) (hh : h < 256) (hp : p < 8) (hv : μ (s + 6 + 2 * t) 3 = nI h) (hk : μ (s + 4) p = nI k) (hks : k ≤ 15) (hf : fin (some (.int (nI (if h / 2 ^ p % 2 = 1 then (k + 1) / 2 else k)))) μ) : PS l E D cA mX3_lookOf (d + 1) fin 0 [some (.ref s), some (.int (nI t)), some (.int (nI p))] [] μ := by
  refine pw_aload_n dX3_lookOf_0 rfl ?_
  refine ps_getr (r := s + 5) dX3_lookOf_1 kf_X3_26 (by decide) ((ok_S hs).2.2.2.2.2.1) ?_
  refine pw_iload_n dX3_lookOf_4 rfl ?_
  refine ps_aald (t := 5) (j := t) (r := s + 6 + 2 * t) dX3_lookOf_5 rfl (ok_T hs ht).1 (by decide) ?_
  refine pw_iload_n dX3_lookOf_6 rfl ?_
  refine ps_callV (b := s + 6 + 2 * t) (As := [.int (nI p)]) (st := []) dX3_lookOf_7 cv_X3_67 rfl ⟨(okk_of (ok_T hs ht).2.1).1, (okk_of (ok_T hs ht).2.1).2.1⟩ (Nat.le_of_ble_eq_true rfl) (Nat.le_of_ble_eq_true rfl) ?_
  refine c_T_hasHint hs ht hh hp hv ?_
  show PS l E D cA mX3_lookOf (d + 1) fin 10 [some (.ref s), some (.int (nI t)), some (.int (nI p))] [.int (kb (h / 2 ^ p % 2 = 1))] μ
  by_cases hc : h / 2 ^ p % 2 = 1
  · rw [kb_t hc]
    refine pw_if_eq (tgt := 26) dX3_lookOf_10 (by decide) (fun h9 => absurd h9 nI1_ne) (fun _ => ?_)
    refine pw_aload_n dX3_lookOf_13 rfl ?_
    refine ps_getr (r := s + 4) dX3_lookOf_14 kf_X3_21 (by decide) ((ok_S hs).2.2.2.1) ?_
    refine pw_iload_n dX3_lookOf_17 rfl ?_
    refine ps_iald (j := p) (x := nI k) dX3_lookOf_18 rfl (ok_ar (n := 8) ((ok_S hs).2.2.2.2.2.2.2.2.2.2) (by omega)) hk ?_
    refine pw_iconst_ (v := nI 1) dX3_lookOf_19 (by decide) ?_
    refine px_iaddn (c := k + 1) dX3_lookOf_20 (by omega) ?_
    refine pw_iconst_ (v := nI 2) dX3_lookOf_21 (by decide) ?_
    refine px_idivn dX3_lookOf_22 (by omega) (by omega) (by omega) ?_
    refine pw_goto (tgt := 32) dX3_lookOf_23 (by decide) ?_
    exact ps_iret dX3_lookOf_32 rfl (rfl) (by rw [if_pos hc] at hf; exact hf)
  · rw [kb_f hc]
    refine pw_if_eq (tgt := 26) dX3_lookOf_10 (by decide) (fun _ => ?_) (fun h9 => absurd h9 (fun q => q nI_0))
    refine pw_aload_n dX3_lookOf_26 rfl ?_
    refine ps_getr (r := s + 4) dX3_lookOf_27 kf_X3_21 (by decide) ((ok_S hs).2.2.2.1) ?_
    refine pw_iload_n dX3_lookOf_30 rfl ?_
    refine ps_iald (j := p) (x := nI k) dX3_lookOf_31 rfl (ok_ar (n := 8) ((ok_S hs).2.2.2.2.2.2.2.2.2.2) (by omega)) hk ?_
    exact ps_iret dX3_lookOf_32 rfl (rfl) (by rw [if_neg hc] at hf; exact hf)
set_option maxRecDepth 100000 in
set_option maxHeartbeats 4000000 in
theorem c_S_trailLength {s t m : Nat} {a : AS} (hs : isS s) (ht : t < 6) (hm : m < 256) (hv : μ s 4 = nI m) (hb : ∀ p, p < 8 → m / 2 ^ p % 2 = a (7 + 4 * p)) (hT : RT μ (s + 6 + 2 * t) (s + 7 + 2 * t) a t) (hw : a (39 + 12 * t) ≤ 8 ∧ ∀ k, k < a (39 + 12 * t) → a (40 + 12 * t + k) < 8) (hz : ∀ p, p < 8 → a (7 + 4 * p) ≤ 1) (hf : fin (some (.int (nI (tr a t).length))) μ) : PS l E D cA mX3_trailLength (d + 1) fin 0 [some (.ref s), some (.int (nI t)), none, none] [] μ := by
  refine pw_iconst_ (v := nI 0) dX3_trailLength_0 (by decide) ?_
  refine px_istore_n (ls' := [some (.ref s), some (.int (nI t)), some (.int (nI 0)), none]) dX3_trailLength_1 rfl rfl (by decide) ?_
  refine pw_iconst_ (v := nI 0) dX3_trailLength_2 (by decide) ?_
  refine px_istore_n (ls' := [some (.ref s), some (.int (nI t)), some (.int (nI 0)), some (.int (nI 0))]) dX3_trailLength_3 rfl rfl (by decide) ?_
  have lp : ∀ i : Nat, i ≤ a (39 + 12 * t) → PS l E D cA mX3_trailLength (d + 1) fin 4 [some (.ref s), some (.int (nI t)), some (.int (nI ((trp a t i).length))), some (.int (nI i))] [] μ := by
    refine ps_for _ ?_ ?_
    · skip
      have hl9 := trp_len a t (a (39 + 12 * t))
      refine pw_iload_n dX3_trailLength_4 rfl ?_
      refine pw_aload_n dX3_trailLength_5 rfl ?_
      refine ps_getr (r := s + 5) dX3_trailLength_6 kf_X3_26 (by decide) ((ok_S hs).2.2.2.2.2.1) ?_
      refine pw_iload_n dX3_trailLength_9 rfl ?_
      refine ps_aald (t := 5) (j := t) (r := s + 6 + 2 * t) dX3_trailLength_10 rfl (ok_T hs ht).1 (by decide) ?_
      refine ps_geti (x := nI (a (39 + 12 * t))) dX3_trailLength_11 kf_X3_57 (by decide) ((ok_T hs ht).2.2.1) (hT.1) ?_
      refine pn_ge (tgt := 44) dX3_trailLength_14 (by decide) (by omega) (by omega) (fun _ => ?_) (fun h9 => absurd h9 (by omega))
      refine pw_iload_n dX3_trailLength_44 rfl ?_
      exact ps_iret dX3_trailLength_45 rfl (rfl) hf
    · intro i hi ih
      have hl9 := trp_len a t i
      have hr := (hw.2 i hi)
      refine pw_iload_n dX3_trailLength_4 rfl ?_
      refine pw_aload_n dX3_trailLength_5 rfl ?_
      refine ps_getr (r := s + 5) dX3_trailLength_6 kf_X3_26 (by decide) ((ok_S hs).2.2.2.2.2.1) ?_
      refine pw_iload_n dX3_trailLength_9 rfl ?_
      refine ps_aald (t := 5) (j := t) (r := s + 6 + 2 * t) dX3_trailLength_10 rfl (ok_T hs ht).1 (by decide) ?_
      refine ps_geti (x := nI (a (39 + 12 * t))) dX3_trailLength_11 kf_X3_57 (by decide) ((ok_T hs ht).2.2.1) (hT.1) ?_
      refine pn_ge (tgt := 44) dX3_trailLength_14 (by decide) (by omega) (by omega) (fun h9 => absurd h9 (by omega)) (fun _ => ?_)
      refine pw_aload_n dX3_trailLength_17 rfl ?_
      refine pw_aload_n dX3_trailLength_18 rfl ?_
      refine ps_getr (r := s + 5) dX3_trailLength_19 kf_X3_26 (by decide) ((ok_S hs).2.2.2.2.2.1) ?_
      refine pw_iload_n dX3_trailLength_22 rfl ?_
      refine ps_aald (t := 5) (j := t) (r := s + 6 + 2 * t) dX3_trailLength_23 rfl (ok_T hs ht).1 (by decide) ?_
      refine ps_getr (r := s + 7 + 2 * t) dX3_trailLength_24 kf_X3_60 (by decide) ((ok_T hs ht).2.1) ?_
      refine pw_iload_n dX3_trailLength_27 rfl ?_
      refine ps_iald (j := i) (x := nI (a (40 + 12 * t + i))) dX3_trailLength_28 rfl (ok_ar (n := 8) ((ok_T hs ht).2.2.2.2.2.2) (by omega)) (hT.2.2.2.2 i hi) ?_
      refine ps_callV (b := s) (As := [.int (nI (a (40 + 12 * t + i)))]) (st := []) dX3_trailLength_29 cv_X3_63 rfl ⟨(okk_of (ok_S hs).1).1, (okk_of (ok_S hs).1).2.1⟩ (Nat.le_of_ble_eq_true rfl) (Nat.le_of_ble_eq_true rfl) ?_
      refine c_S_isClosed hs hm hr hv ?_
      show PS l E D cA mX3_trailLength (d + 1) fin 32 [some (.ref s), some (.int (nI t)), some (.int (nI ((trp a t i).length))), some (.int (nI i))] [.int (kb (m / 2 ^ a (40 + 12 * t + i) % 2 = 1))] μ
      have hz8 := hz _ hr
      by_cases hc : a (7 + 4 * a (40 + 12 * t + i)) = 1
      · rw [kb_t ((hb _ hr).trans hc)]
        refine pw_if_ne (tgt := 38) dX3_trailLength_32 (by decide) (fun _ => ?_) (fun h9 => absurd h9 nI1_ne)
        refine px_iincn (n := 1) (a := i) (b := i + 1) (ls' := [some (.ref s), some (.int (nI t)), some (.int (nI ((trp a t i).length))), some (.int (nI (i + 1)))]) dX3_trailLength_38 rfl rfl rfl (by omega) ?_
        refine pw_goto (tgt := 4) dX3_trailLength_41 (by decide) ?_
        rw [show (trp a t i).length = (trp a t (i + 1)).length by rw [trp_s, if_neg (by omega), List.append_nil]]
        exact ih
      · rw [kb_f (fun q => hc ((hb _ hr).symm.trans q))]
        refine pw_if_ne (tgt := 38) dX3_trailLength_32 (by decide) (fun h9 => absurd h9 (fun q => q nI_0)) (fun _ => ?_)
        refine px_iincn (n := 1) (a := (trp a t i).length) (b := (trp a t i).length + 1) (ls' := [some (.ref s), some (.int (nI t)), some (.int (nI ((trp a t i).length + 1))), some (.int (nI i))]) dX3_trailLength_35 rfl rfl rfl (by omega) ?_
        refine px_iincn (n := 1) (a := i) (b := i + 1) (ls' := [some (.ref s), some (.int (nI t)), some (.int (nI ((trp a t i).length + 1))), some (.int (nI (i + 1)))]) dX3_trailLength_38 rfl rfl rfl (by omega) ?_
        refine pw_goto (tgt := 4) dX3_trailLength_41 (by decide) ?_
        rw [show (trp a t i).length + 1 = (trp a t (i + 1)).length by rw [trp_s, if_pos (by omega), List.length_append]; rfl]
        exact ih
  exact lp 0 (Nat.zero_le _)
end STATE2
end
section
/-! State.copyFrom; routes turned and exchanged; rows filled -/
theorem isS_apart {s o : Nat} (h : isS s) (g : isS o) (hne : s ≠ o) : s + 18 ≤ o ∨ o + 18 ≤ s := by
  have : ∀ s, s ∈ [1, 19, 81, 99, 117, 135, 153, 171, 191, 209] → ∀ o, o ∈ [1, 19, 81, 99, 117, 135, 153, 171, 191, 209] → s ≠ o → s + 18 ≤ o ∨ o + 18 ≤ s := by decide
  exact this s h o g hne
section COPY
variable {l : Launch} {E : EV} {D : va_G} {cA : Nat → ClassId} {fin : Option Value → Mu → Prop} {μ : Mu} {d : Nat}
set_option maxRecDepth 100000 in
set_option maxHeartbeats 4000000 in
theorem c_S_copyFrom {s o : Nat} (hs : isS s) (ho : isS o) (hne : s ≠ o) (hf : ∀ ν : Mu, CPS ν μ s o → fin none ν) : PS l E D cA mX3_copyFrom (d + 2) fin 0 [some (.ref s), some (.ref o), none] [] μ := by
  have hap := isS_apart hs ho hne
  refine pw_aload_n dX3_copyFrom_0 rfl ?_
  refine ps_getr (r := o + 1) dX3_copyFrom_1 kf_X3_9 (by decide) ((ok_S ho).1) ?_
  refine pw_iconst_ (v := nI 0) dX3_copyFrom_4 (by decide) ?_
  refine pw_aload_n dX3_copyFrom_5 rfl ?_
  refine ps_getr (r := s + 1) dX3_copyFrom_6 kf_X3_9 (by decide) ((ok_S hs).1) ?_
  refine pw_iconst_ (v := nI 0) dX3_copyFrom_9 (by decide) ?_
  refine pw_iconst_ (v := nI 3) dX3_copyFrom_10 (by decide) ?_
  refine px_copy (n := 3) dX3_copyFrom_11 ca_X3_33 ((ok_S ho).2.2.2.2.2.2.2.1) ((ok_S hs).2.2.2.2.2.2.2.1) rfl (Nat.le_of_ble_eq_true rfl) ?_
  refine pw_aload_n dX3_copyFrom_14 rfl ?_
  refine ps_getr (r := o + 2) dX3_copyFrom_15 kf_X3_15 (by decide) ((ok_S ho).2.1) ?_
  refine pw_iconst_ (v := nI 0) dX3_copyFrom_18 (by decide) ?_
  refine pw_aload_n dX3_copyFrom_19 rfl ?_
  refine ps_getr (r := s + 2) dX3_copyFrom_20 kf_X3_15 (by decide) ((ok_S hs).2.1) ?_
  refine pw_iconst_ (v := nI 0) dX3_copyFrom_23 (by decide) ?_
  refine pw_bipush (v := nI 8) dX3_copyFrom_24 (by decide) ?_
  refine px_copy (n := 8) dX3_copyFrom_26 ca_X3_33 ((ok_S ho).2.2.2.2.2.2.2.2.1) ((ok_S hs).2.2.2.2.2.2.2.2.1) rfl (Nat.le_of_ble_eq_true rfl) ?_
  refine pw_aload_n dX3_copyFrom_29 rfl ?_
  refine ps_getr (r := o + 3) dX3_copyFrom_30 kf_X3_18 (by decide) ((ok_S ho).2.2.1) ?_
  refine pw_iconst_ (v := nI 0) dX3_copyFrom_33 (by decide) ?_
  refine pw_aload_n dX3_copyFrom_34 rfl ?_
  refine ps_getr (r := s + 3) dX3_copyFrom_35 kf_X3_18 (by decide) ((ok_S hs).2.2.1) ?_
  refine pw_iconst_ (v := nI 0) dX3_copyFrom_38 (by decide) ?_
  refine pw_bipush (v := nI 8) dX3_copyFrom_39 (by decide) ?_
  refine px_copy (n := 8) dX3_copyFrom_41 ca_X3_33 ((ok_S ho).2.2.2.2.2.2.2.2.2.1) ((ok_S hs).2.2.2.2.2.2.2.2.2.1) rfl (Nat.le_of_ble_eq_true rfl) ?_
  refine pw_aload_n dX3_copyFrom_44 rfl ?_
  refine ps_getr (r := o + 4) dX3_copyFrom_45 kf_X3_21 (by decide) ((ok_S ho).2.2.2.1) ?_
  refine pw_iconst_ (v := nI 0) dX3_copyFrom_48 (by decide) ?_
  refine pw_aload_n dX3_copyFrom_49 rfl ?_
  refine ps_getr (r := s + 4) dX3_copyFrom_50 kf_X3_21 (by decide) ((ok_S hs).2.2.2.1) ?_
  refine pw_iconst_ (v := nI 0) dX3_copyFrom_53 (by decide) ?_
  refine pw_bipush (v := nI 8) dX3_copyFrom_54 (by decide) ?_
  refine px_copy (n := 8) dX3_copyFrom_56 ca_X3_33 ((ok_S ho).2.2.2.2.2.2.2.2.2.2) ((ok_S hs).2.2.2.2.2.2.2.2.2.2) rfl (Nat.le_of_ble_eq_true rfl) ?_
  refine pw_aload_n dX3_copyFrom_59 rfl ?_
  refine pw_aload_n dX3_copyFrom_60 rfl ?_
  refine ps_geti (x := μ o 4) dX3_copyFrom_61 kf_X3_40 (by decide) ((ok_S ho).2.2.2.2.1) ((u2c_a (by omega)).trans ((u2c_a (by omega)).trans ((u2c_a (by omega)).trans (u2c_a (by omega))))) ?_
  refine ps_puti dX3_copyFrom_64 kf_X3_40 (by decide) rfl ((ok_S hs).2.2.2.2.1) ?_
  refine pw_iconst_ (v := nI 0) dX3_copyFrom_67 (by decide) ?_
  refine px_istore_n (ls' := [some (.ref s), some (.ref o), some (.int (nI 0))]) dX3_copyFrom_68 rfl rfl (by decide) ?_
  have lp : ∀ i : Nat, i ≤ 6 → ∀ ν : Mu, ((∀ q k, ¬ (s ≤ q ∧ q < s + 18) → ν q k = μ q k) ∧ ν s 4 = μ o 4 ∧ (∀ j k, 1 ≤ j → j < 5 → ν (s + j) k = μ (o + j) k) ∧ ∀ t, t < i → (∀ k, 1 ≤ k → k < 5 → ν (s + 6 + 2 * t) k = μ (o + 6 + 2 * t) k) ∧ ∀ k, ν (s + 7 + 2 * t) k = μ (o + 7 + 2 * t) k) → PS l E D cA mX3_copyFrom (d + 2) fin 69 [some (.ref s), some (.ref o), some (.int (nI i))] [] ν := by
    refine ps_for 6 ?_ ?_
    · rintro ν ⟨h1, h2, h3, h4⟩
      refine pw_iload_n dX3_copyFrom_69 rfl ?_
      refine pw_bipush (v := nI 6) dX3_copyFrom_70 (by decide) ?_
      refine pn_ge (tgt := 96) dX3_copyFrom_72 (by decide) (by omega) (by omega) (fun _ => ?_) (fun h9 => absurd h9 (by omega))
      refine pw_aload_n dX3_copyFrom_96 rfl ?_
      refine pw_aload_n dX3_copyFrom_97 rfl ?_
      refine ps_geti (x := ν o 6) dX3_copyFrom_98 kf_X3_48 (by decide) ((ok_S ho).2.2.2.2.2.2.1) rfl ?_
      refine ps_puti dX3_copyFrom_101 kf_X3_48 (by decide) rfl ((ok_S hs).2.2.2.2.2.2.1) ?_
      refine ps_ret dX3_copyFrom_104 rfl (hf _ ⟨?_, ?_, ?_, ?_, ?_⟩)
      · intro q k hq
        rw [u2_a (by omega)]
        exact h1 q k hq
      · rw [u2_b (by decide)]
        exact h2
      · rw [u2_s]
        exact h1 o 6 (by omega)
      · intro j k g1 g2
        rw [u2_a (by omega)]
        exact h3 j k g1 g2
      · intro t ht
        refine ⟨fun k g1 g2 => ?_, fun k => ?_⟩
        · rw [u2_a (by omega)]
          exact (h4 t ht).1 k g1 g2
        · rw [u2_a (by omega)]
          exact (h4 t ht).2 k
    · rintro i hi ih ν ⟨h1, h2, h3, h4⟩
      refine pw_iload_n dX3_copyFrom_69 rfl ?_
      refine pw_bipush (v := nI 6) dX3_copyFrom_70 (by decide) ?_
      refine pn_ge (tgt := 96) dX3_copyFrom_72 (by decide) (by omega) (by omega) (fun h9 => absurd h9 (by omega)) (fun _ => ?_)
      refine pw_aload_n dX3_copyFrom_75 rfl ?_
      refine ps_getr (r := s + 5) dX3_copyFrom_76 kf_X3_26 (by decide) ((ok_S hs).2.2.2.2.2.1) ?_
      refine pw_iload_n dX3_copyFrom_79 rfl ?_
      refine ps_aald (t := 5) (j := i) (r := s + 6 + 2 * i) dX3_copyFrom_80 rfl (ok_T hs (by omega)).1 (by decide) ?_
      refine pw_aload_n dX3_copyFrom_81 rfl ?_
      refine ps_getr (r := o + 5) dX3_copyFrom_82 kf_X3_26 (by decide) ((ok_S ho).2.2.2.2.2.1) ?_
      refine pw_iload_n dX3_copyFrom_85 rfl ?_
      refine ps_aald (t := 5) (j := i) (r := o + 6 + 2 * i) dX3_copyFrom_86 rfl (ok_T ho (by omega)).1 (by decide) ?_
      refine ps_callV (b := s + 6 + 2 * i) (As := [.ref (o + 6 + 2 * i)]) (st := []) dX3_copyFrom_87 cv_X3_44 rfl ⟨(okk_of (ok_T hs (by omega)).2.1).1, (okk_of (ok_T hs (by omega)).2.1).2.1⟩ (Nat.le_of_ble_eq_true rfl) (Nat.le_of_ble_eq_true rfl) ?_
      refine c_T_copyFrom hs hi ho hi ?_
      intro ν2 g1 g2 g3
      show PS l E D cA mX3_copyFrom (d + 2) fin 90 [some (.ref s), some (.ref o), some (.int (nI i))] [] ν2
      refine px_iincn (n := 1) (a := i) (b := i + 1) (ls' := [some (.ref s), some (.ref o), some (.int (nI (i + 1)))]) dX3_copyFrom_90 rfl rfl rfl (by omega) ?_
      refine pw_goto (tgt := 69) dX3_copyFrom_93 (by decide) ?_
      refine ih ν2 ⟨fun q k hq => ?_, ?_, fun j k k1 k2 => ?_, fun t ht => ?_⟩
      · rw [g1 q k (by omega) (by omega)]
        exact h1 q k hq
      · rw [g1 s 4 (by omega) (by omega)]
        exact h2
      · rw [g1 (s + j) k (by omega) (by omega)]
        exact h3 j k k1 k2
      · rcases Nat.lt_or_eq_of_le (Nat.le_of_lt_succ ht) with h | rfl
        · refine ⟨fun k k1 k2 => ?_, fun k => ?_⟩
          · rw [g1 _ k (by omega) (by omega)]
            exact (h4 t h).1 k k1 k2
          · rw [g1 _ k (by omega) (by omega)]
            exact (h4 t h).2 k
        · refine ⟨fun k k1 k2 => ?_, fun k => ?_⟩
          · rw [g2 k k1 k2]
            exact h1 _ k (by omega)
          · rw [g3 k]
            exact h1 _ k (by omega)
  refine lp 0 (Nat.zero_le _) _ ⟨fun q k hq => ?_, ?_, fun j k k1 k2 => ?_, fun t ht => absurd ht (Nat.not_lt_zero _)⟩
  · simp only [u2, u2c]
    repeat (first | rw [if_pos (by omega)] | rw [if_neg (by omega)])
  · rw [u2_s]
  · rcases (show j = 1 ∨ j = 2 ∨ j = 3 ∨ j = 4 by omega) with rfl | rfl | rfl | rfl
    · rw [u2_a (by omega), u2c_a (by omega), u2c_a (by omega), u2c_a (by omega), u2c_s]
    · rw [u2_a (by omega), u2c_a (by omega), u2c_a (by omega), u2c_s, u2c_a (by omega)]
    · rw [u2_a (by omega), u2c_a (by omega), u2c_s, u2c_a (by omega), u2c_a (by omega)]
    · rw [u2_a (by omega), u2c_s, u2c_a (by omega), u2c_a (by omega), u2c_a (by omega)]
set_option maxRecDepth 100000 in
set_option maxHeartbeats 4000000 in
theorem c_T_exchange {s t i j x y : Nat} (hs : isS s) (ht : t < 6) (hi : i < 8) (hj : j < 8) (hx : μ (s + 7 + 2 * t) i = nI x) (hy : μ (s + 7 + 2 * t) j = nI y) (hf : fin none (u2 (u2 μ (s + 7 + 2 * t) i (nI y)) (s + 7 + 2 * t) j (nI x))) : PS l E D cA mX4_exchangePlaces d fin 0 [some (.ref (s + 6 + 2 * t)), some (.int (nI i)), some (.int (nI j)), none] [] μ := by
  refine pw_aload_n dX4_exchangePlaces_0 rfl ?_
  refine ps_getr (r := s + 7 + 2 * t) dX4_exchangePlaces_1 kf_X4_9 (by decide) ((ok_T hs ht).2.1) ?_
  refine pw_iload_n dX4_exchangePlaces_4 rfl ?_
  refine ps_iald (j := i) (x := nI x) dX4_exchangePlaces_5 rfl (ok_ar (n := 8) ((ok_T hs ht).2.2.2.2.2.2) (by omega)) hx ?_
  refine px_istore_n (ls' := [some (.ref (s + 6 + 2 * t)), some (.int (nI i)), some (.int (nI j)), some (.int (nI x))]) dX4_exchangePlaces_6 rfl rfl (by decide) ?_
  refine pw_aload_n dX4_exchangePlaces_7 rfl ?_
  refine ps_getr (r := s + 7 + 2 * t) dX4_exchangePlaces_8 kf_X4_9 (by decide) ((ok_T hs ht).2.1) ?_
  refine pw_iload_n dX4_exchangePlaces_11 rfl ?_
  refine pw_aload_n dX4_exchangePlaces_12 rfl ?_
  refine ps_getr (r := s + 7 + 2 * t) dX4_exchangePlaces_13 kf_X4_9 (by decide) ((ok_T hs ht).2.1) ?_
  refine pw_iload_n dX4_exchangePlaces_16 rfl ?_
  refine ps_iald (j := j) (x := nI y) dX4_exchangePlaces_17 rfl (ok_ar (n := 8) ((ok_T hs ht).2.2.2.2.2.2) (by omega)) hy ?_
  refine ps_iast (j := i) dX4_exchangePlaces_18 rfl (ok_ar (n := 8) ((ok_T hs ht).2.2.2.2.2.2) (by omega)) ?_
  refine pw_aload_n dX4_exchangePlaces_19 rfl ?_
  refine ps_getr (r := s + 7 + 2 * t) dX4_exchangePlaces_20 kf_X4_9 (by decide) ((ok_T hs ht).2.1) ?_
  refine pw_iload_n dX4_exchangePlaces_23 rfl ?_
  refine pw_iload_n dX4_exchangePlaces_24 rfl ?_
  refine ps_iast (j := j) dX4_exchangePlaces_25 rfl (ok_ar (n := 8) ((ok_T hs ht).2.2.2.2.2.2) (by omega)) ?_
  exact ps_ret dX4_exchangePlaces_26 rfl hf
set_option maxRecDepth 100000 in
set_option maxHeartbeats 4000000 in
theorem c_fill {b n : Nat} {x : Int32} (hb : oka b 100 n = true) (hf : ∀ ν : Mu, (∀ q k, q ≠ b → ν q k = μ q k) → (∀ k, k < n → ν b k = x) → fin none ν) : PS l E D cA mJ7_fill_53178 d fin 0 [some (.ref b), some (.int x), none, none] [] μ := by
  refine pw_iconst_ (v := nI 0) dJ7_fill_53178_0 (by decide) ?_
  refine px_istore_n (ls' := [some (.ref b), some (.int x), some (.int (nI 0)), none]) dJ7_fill_53178_1 rfl rfl (by decide) ?_
  refine pw_aload_n dJ7_fill_53178_2 rfl ?_
  refine ps_alen dJ7_fill_53178_3 (oka_of hb).1 (oka_of hb).2.1 (oka_of hb).2.2.1 ?_
  refine px_istore_n (ls' := [some (.ref b), some (.int x), some (.int (nI 0)), some (.int (nI n))]) dJ7_fill_53178_4 rfl rfl (by decide) ?_
  have hn9 : n < 2 ^ 31 := (oka_of hb).2.2.1 ▸ ly_small
  have lp : ∀ i : Nat, i ≤ n → ∀ ν : Mu, ((∀ q k, q ≠ b → ν q k = μ q k) ∧ ∀ k, k < i → ν b k = x) → PS l E D cA mJ7_fill_53178 d fin 5 [some (.ref b), some (.int x), some (.int (nI i)), some (.int (nI n))] [] ν := by
    refine ps_for n ?_ ?_
    · rintro ν ⟨h1, h2⟩
      refine pw_iload_n dJ7_fill_53178_5 rfl ?_
      refine pw_iload_n dJ7_fill_53178_6 rfl ?_
      refine pn_ge (tgt := 20) dJ7_fill_53178_7 (by decide) (by omega) (by omega) (fun _ => ?_) (fun h9 => absurd h9 (by omega))
      exact ps_ret dJ7_fill_53178_20 rfl (hf ν h1 h2)
    · rintro i hi ih ν ⟨h1, h2⟩
      refine pw_iload_n dJ7_fill_53178_5 rfl ?_
      refine pw_iload_n dJ7_fill_53178_6 rfl ?_
      refine pn_ge (tgt := 20) dJ7_fill_53178_7 (by decide) (by omega) (by omega) (fun h9 => absurd h9 (by omega)) (fun _ => ?_)
      refine pw_aload_n dJ7_fill_53178_10 rfl ?_
      refine pw_iload_n dJ7_fill_53178_11 rfl ?_
      refine pw_iload_n dJ7_fill_53178_12 rfl ?_
      refine ps_iast (j := i) dJ7_fill_53178_13 rfl (ok_ar (n := n) hb (by omega)) ?_
      refine px_iincn (n := 1) (a := i) (b := i + 1) (ls' := [some (.ref b), some (.int x), some (.int (nI (i + 1))), some (.int (nI n))]) dJ7_fill_53178_14 rfl rfl rfl (by omega) ?_
      refine pw_goto (tgt := 5) dJ7_fill_53178_17 (by decide) ?_
      refine ih _ ⟨fun q k hq => ?_, fun k hk => ?_⟩
      · rw [u2_a hq]
        exact h1 q k hq
      · rcases Nat.lt_or_eq_of_le (Nat.le_of_lt_succ hk) with h | rfl
        · rw [u2_b (by omega)]
          exact h2 k h
        · rw [u2_s]
  exact lp 0 (Nat.zero_le _) μ ⟨fun _ _ _ => rfl, fun k hk => absurd hk (Nat.not_lt_zero _)⟩
/-- a route's row turned by j -/
def TRN (μ ν : Mu) (v n j : Nat) (f : Nat → Nat) : Prop := (∀ q k, q ≠ v → ν q k = μ q k) ∧ ∀ k, k < n → ν v k = nI (f ((k + j) % n))
set_option maxRecDepth 100000 in
set_option maxHeartbeats 4000000 in
theorem c_T_turn {s t b n : Nat} {f : Nat → Nat} (hs : isS s) (ht : t < 6) (hb : b ≤ 8) (hn : μ (s + 6 + 2 * t) 1 = nI n) (hn1 : 1 ≤ n ∧ n ≤ 8) (hr : ∀ k, k < n → μ (s + 7 + 2 * t) k = nI (f k)) (hf : ∀ ν : Mu, (∀ q k, q ≠ s + 7 + 2 * t → ν q k = μ q k) → (∀ k, k < n → ν (s + 7 + 2 * t) k = nI (f ((k + b) % n))) → fin none ν) : PS l E D cA mX4_turnRoute d fin 0 [some (.ref (s + 6 + 2 * t)), some (.int (nI b)), none, none, none] [] μ := by
  have hs9 := isS_odd hs
  refine pw_iconst_ (v := nI 0) dX4_turnRoute_0 (by decide) ?_
  refine px_istore_n (ls' := [some (.ref (s + 6 + 2 * t)), some (.int (nI b)), some (.int (nI 0)), none, none]) dX4_turnRoute_1 rfl rfl (by decide) ?_
  have lp : ∀ j : Nat, j ≤ b → ∀ (l3 l4 : Option Value) (ν : Mu), TRN μ ν (s + 7 + 2 * t) n j f → PS l E D cA mX4_turnRoute d fin 2 [some (.ref (s + 6 + 2 * t)), some (.int (nI b)), some (.int (nI j)), l3, l4] [] ν := by
    refine ps_for b ?_ ?_
    · rintro l3 l4 ν ⟨h1, h2⟩
      refine pw_iload_n dX4_turnRoute_2 rfl ?_
      refine pw_iload_n dX4_turnRoute_3 rfl ?_
      refine pn_ge (tgt := 66) dX4_turnRoute_4 (by decide) (by omega) (by omega) (fun _ => ?_) (fun h9 => absurd h9 (by omega))
      exact ps_ret dX4_turnRoute_66 rfl (hf ν h1 h2)
    · rintro j hj ih l3 l4 ν ⟨h1, h2⟩
      refine pw_iload_n dX4_turnRoute_2 rfl ?_
      refine pw_iload_n dX4_turnRoute_3 rfl ?_
      refine pn_ge (tgt := 66) dX4_turnRoute_4 (by decide) (by omega) (by omega) (fun h9 => absurd h9 (by omega)) (fun _ => ?_)
      refine pw_aload_n dX4_turnRoute_7 rfl ?_
      refine ps_getr (r := s + 7 + 2 * t) dX4_turnRoute_8 kf_X4_9 (by decide) ((ok_T hs ht).2.1) ?_
      refine pw_iconst_ (v := nI 0) dX4_turnRoute_11 (by decide) ?_
      refine ps_iald (j := 0) (x := nI (f ((0 + j) % n))) dX4_turnRoute_12 rfl (ok_ar (n := 8) ((ok_T hs ht).2.2.2.2.2.2) (by decide)) (h2 0 (by omega)) ?_
      refine px_istore_n (ls' := [some (.ref (s + 6 + 2 * t)), some (.int (nI b)), some (.int (nI j)), some (.int (nI (f ((0 + j) % n)))), l4]) dX4_turnRoute_13 rfl rfl (by decide) ?_
      refine pw_iconst_ (v := nI 1) dX4_turnRoute_14 (by decide) ?_
      refine px_istore (ls' := [some (.ref (s + 6 + 2 * t)), some (.int (nI b)), some (.int (nI j)), some (.int (nI (f ((0 + j) % n)))), some (.int (nI 1))]) dX4_turnRoute_15 rfl rfl (by decide) ?_
      have lq : ∀ k : Nat, k ≤ n - 1 → ∀ η : Mu, ((∀ q k, q ≠ s + 7 + 2 * t → η q k = μ q k) ∧ (∀ m, m < k → η (s + 7 + 2 * t) m = ν (s + 7 + 2 * t) (m + 1)) ∧ ∀ m, k ≤ m → η (s + 7 + 2 * t) m = ν (s + 7 + 2 * t) m) → PS l E D cA mX4_turnRoute d fin 17 [some (.ref (s + 6 + 2 * t)), some (.int (nI b)), some (.int (nI j)), some (.int (nI (f ((0 + j) % n)))), some (.int (nI (k + 1)))] [] η := by
        refine ps_for _ ?_ ?_
        · rintro η ⟨g1, g2, g3⟩
          refine pw_iload dX4_turnRoute_17 rfl ?_
          refine pw_aload_n dX4_turnRoute_19 rfl ?_
          refine ps_geti (x := nI n) dX4_turnRoute_20 kf_X4_25 (by decide) ((ok_T hs ht).2.2.1) ((g1 _ _ (by omega)).trans hn) ?_
          refine pn_ge (tgt := 48) dX4_turnRoute_23 (by decide) (by omega) (by omega) (fun _ => ?_) (fun h9 => absurd h9 (by omega))
          refine pw_aload_n dX4_turnRoute_48 rfl ?_
          refine ps_getr (r := s + 7 + 2 * t) dX4_turnRoute_49 kf_X4_9 (by decide) ((ok_T hs ht).2.1) ?_
          refine pw_aload_n dX4_turnRoute_52 rfl ?_
          refine ps_geti (x := nI n) dX4_turnRoute_53 kf_X4_25 (by decide) ((ok_T hs ht).2.2.1) ((g1 _ _ (by omega)).trans hn) ?_
          refine pw_iconst_ (v := nI 1) dX4_turnRoute_56 (by decide) ?_
          refine pn_isub (by omega) dX4_turnRoute_57 ?_
          refine pw_iload_n dX4_turnRoute_58 rfl ?_
          refine ps_iast (j := n - 1) dX4_turnRoute_59 rfl (ok_ar (n := 8) ((ok_T hs ht).2.2.2.2.2.2) (by omega)) ?_
          refine px_iincn (n := 1) (a := j) (b := j + 1) (ls' := [some (.ref (s + 6 + 2 * t)), some (.int (nI b)), some (.int (nI (j + 1))), some (.int (nI (f ((0 + j) % n)))), some (.int (nI (n - 1 + 1)))]) dX4_turnRoute_60 rfl rfl rfl (by omega) ?_
          refine pw_goto (tgt := 2) dX4_turnRoute_63 (by decide) ?_
          refine ih _ _ _ ⟨fun q k hq => ?_, fun k hk => ?_⟩
          · rw [u2_a hq]
            exact g1 q k hq
          · by_cases hk2 : k = n - 1
            · subst hk2
              rw [u2_s, show n - 1 + (j + 1) = j + n by omega, Nat.add_mod_right, Nat.zero_add]
            · rw [u2_b hk2, g2 k (by omega), h2 (k + 1) (by omega), show k + 1 + j = k + (j + 1) by omega]
        · rintro k hk ihk η ⟨g1, g2, g3⟩
          refine pw_iload dX4_turnRoute_17 rfl ?_
          refine pw_aload_n dX4_turnRoute_19 rfl ?_
          refine ps_geti (x := nI n) dX4_turnRoute_20 kf_X4_25 (by decide) ((ok_T hs ht).2.2.1) ((g1 _ _ (by omega)).trans hn) ?_
          refine pn_ge (tgt := 48) dX4_turnRoute_23 (by decide) (by omega) (by omega) (fun h9 => absurd h9 (by omega)) (fun _ => ?_)
          refine pw_aload_n dX4_turnRoute_26 rfl ?_
          refine ps_getr (r := s + 7 + 2 * t) dX4_turnRoute_27 kf_X4_9 (by decide) ((ok_T hs ht).2.1) ?_
          refine pw_iload dX4_turnRoute_30 rfl ?_
          refine pw_iconst_ (v := nI 1) dX4_turnRoute_32 (by decide) ?_
          refine pn_isub (by omega) dX4_turnRoute_33 ?_
          rw [show k + 1 - 1 = k by omega]
          refine pw_aload_n dX4_turnRoute_34 rfl ?_
          refine ps_getr (r := s + 7 + 2 * t) dX4_turnRoute_35 kf_X4_9 (by decide) ((ok_T hs ht).2.1) ?_
          refine pw_iload dX4_turnRoute_38 rfl ?_
          refine ps_iald (j := k + 1) (x := ν (s + 7 + 2 * t) (k + 1)) dX4_turnRoute_40 rfl (ok_ar (n := 8) ((ok_T hs ht).2.2.2.2.2.2) (by omega)) (g3 _ (by omega)) ?_
          refine ps_iast (j := k) dX4_turnRoute_41 rfl (ok_ar (n := 8) ((ok_T hs ht).2.2.2.2.2.2) (by omega)) ?_
          refine px_iincn (n := 1) (a := k + 1) (b := k + 1 + 1) (ls' := [some (.ref (s + 6 + 2 * t)), some (.int (nI b)), some (.int (nI j)), some (.int (nI (f ((0 + j) % n)))), some (.int (nI (k + 1 + 1)))]) dX4_turnRoute_42 rfl rfl rfl (by omega) ?_
          refine pw_goto (tgt := 17) dX4_turnRoute_45 (by decide) ?_
          refine ihk _ ⟨fun q k hq => ?_, fun m hm => ?_, fun m hm => ?_⟩
          · rw [u2_a hq]
            exact g1 q k hq
          · rcases Nat.lt_or_eq_of_le (Nat.le_of_lt_succ hm) with h | rfl
            · rw [u2_b (by omega)]
              exact g2 m h
            · rw [u2_s]
          · rw [u2_b (by omega)]
            exact g3 m (by omega)
      exact lq 0 (Nat.zero_le _) ν ⟨h1, fun m hm => absurd hm (Nat.not_lt_zero _), fun _ _ => rfl⟩
  exact lp 0 (Nat.zero_le _) _ _ μ ⟨fun _ _ _ => rfl, fun k hk => by rw [show (k + 0) % n = k from Nat.mod_eq_of_lt hk]; exact hr k hk⟩
end COPY
end
section
/-! THE GAME, in natural numbers: trails, walks, who comes next, visits -/
def dist (x y : Nat) : Nat := (x - y) + (y - x)
def tl (a : AS) (t : Nat) : Nat := (tr a t).length
def trv (a : AS) (t v : Nat) : Nat := (tr a t).getD v 0
abbrev px (a : AS) (p : Nat) : Nat := a (4 + 4 * p)
abbrev py (a : AS) (p : Nat) : Nat := a (5 + 4 * p)
def pvx (a : AS) (t v : Nat) : Nat := if v = 0 then 0 else px a (trv a t (v - 1))
def pvy (a : AS) (t v : Nat) : Nat := if v = 0 then 0 else py a (trv a t (v - 1))
/-- is the map lost when the team walks to visit v? -/
def lob (a : AS) (t : Nat) : Nat → Bool
  | 0 => false
  | v + 1 => lob a t v || (trv a t v + 1 == a (38 + 12 * t))
def slo (a : AS) (t v : Nat) : Nat := if lob a t v = true then a 2 else 1
def wk (a : AS) (t v : Nat) : Nat := slo a t v * (dist (px a (trv a t v)) (pvx a t v) + dist (py a (trv a t v)) (pvy a t v))
def lk (a : AS) (t p : Nat) : Nat := if a (37 + 12 * t) / 2 ^ p % 2 = 1 then (a (6 + 4 * p) + 1) / 2 else a (6 + 4 * p)
/-- done, over, free, comes, begins, ends -/
abbrev GT : Type := (Nat → Nat) × (Nat → Nat) × (Nat → Nat) × (Nat → Nat → Nat) × (Nat → Nat → Nat) × (Nat → Nat → Nat)
abbrev dn (g : GT) : Nat → Nat := g.1
abbrev ov (g : GT) : Nat → Nat := g.2.1
abbrev fr (g : GT) : Nat → Nat := g.2.2.1
abbrev cm (g : GT) : Nat → Nat → Nat := g.2.2.2.1
abbrev bg (g : GT) : Nat → Nat → Nat := g.2.2.2.2.1
abbrev en (g : GT) : Nat → Nat → Nat := g.2.2.2.2.2
def up1 (f : Nat → Nat) (k x : Nat) : Nat → Nat := fun j => if j = k then x else f j
def up2 (f : Nat → Nat → Nat) (i k x : Nat) : Nat → Nat → Nat := fun b c => if b = i ∧ c = k then x else f b c
def come (a : AS) (g : GT) (t : Nat) : Nat := ov g t + wk a t (dn g t)
def nxp (a : AS) (g : GT) : Nat → Option Nat
  | 0 => none
  | i + 1 => if dn g i < tl a i then (match nxp a g i with
    | none => some i
    | some t => if come a g i < come a g t then some i else some t) else nxp a g i
def stp (a : AS) (g : GT) (t : Nat) : GT :=
  let v := dn g t
  let p := trv a t v
  let c := come a g t
  let b := if c < fr g p then fr g p else c
  let e := b + lk a t p
  (up1 (dn g) t (v + 1), up1 (ov g) t e, up1 (fr g) p e, up2 (cm g) t v c, up2 (bg g) t v b, up2 (en g) t v e)
def g0 (a : AS) : GT := (fun _ => 0, fun t => a (36 + 12 * t), fun _ => 0, fun _ _ => 0, fun _ _ => 0, fun _ _ => 0)
def gi (a : AS) (n : Nat) : Nat → GT
  | 0 => g0 a
  | k + 1 => match nxp a (gi a n k) n with
    | none => gi a n k
    | some t => stp a (gi a n k) t
def gf (a : AS) (n : Nat) : GT := gi a n 48
theorem up1_s {f : Nat → Nat} {k x : Nat} : up1 f k x k = x := by simp [up1]
theorem up1_n {f : Nat → Nat} {k j x : Nat} (h : j ≠ k) : up1 f k x j = f j := by simp [up1, h]
theorem up2_s {f : Nat → Nat → Nat} {i k x : Nat} : up2 f i k x i k = x := by simp [up2]
theorem up2_n {f : Nat → Nat → Nat} {i k b c x : Nat} (h : ¬ (b = i ∧ c = k)) : up2 f i k x b c = f b c := by simp [up2, h]
theorem nxp_lt {a : AS} {g : GT} : ∀ {n t : Nat}, nxp a g n = some t → t < n ∧ dn g t < tl a t
  | 0, t, h => by simp [nxp] at h
  | n + 1, t, h => by
    unfold nxp at h
    split at h
    next hd =>
      split at h
      next hn =>
        cases h
        exact ⟨Nat.lt_succ_self _, hd⟩
      next u hn =>
        have := nxp_lt hn
        split at h
        · cases h
          exact ⟨Nat.lt_succ_self _, hd⟩
        · cases h
          exact ⟨by omega, this.2⟩
    next hd =>
      have := nxp_lt h
      exact ⟨by omega, this.2⟩
theorem nxp_none {a : AS} {g : GT} : ∀ {n : Nat}, nxp a g n = none → ∀ t, t < n → tl a t ≤ dn g t
  | 0, h, t, ht => absurd ht (Nat.not_lt_zero _)
  | n + 1, h, t, ht => by
    unfold nxp at h
    split at h
    next hd =>
      split at h
      next hn => cases h
      next u hn => split at h <;> cases h
    next hd =>
      rcases Nat.lt_or_eq_of_le (Nat.le_of_lt_succ ht) with h1 | rfl
      · exact nxp_none h t h1
      · omega
theorem nxp_of {a : AS} {g : GT} : ∀ {n : Nat}, (∀ t, t < n → tl a t ≤ dn g t) → nxp a g n = none
  | 0, h => rfl
  | n + 1, h => by
    unfold nxp
    rw [if_neg (by have := h n (Nat.lt_succ_self _); omega)]
    exact nxp_of (fun t ht => h t (by omega))
theorem tr_lt {a : AS} (hw : Wf a) {t : Nat} (ht : t < a 3) {p : Nat} (hp : p ∈ tr a t) : p < 8 ∧ a (7 + 4 * p) = 0 := by
  unfold tr trp at hp
  obtain ⟨h1, h2⟩ := List.mem_filter.mp hp
  obtain ⟨k, hk, rfl⟩ := List.mem_map.mp h1
  exact ⟨(hw.2.2.2.2.2 t ht).2.2.2.2 k (List.mem_range.mp hk), by simpa using h2⟩
theorem trv_mem {a : AS} {t v : Nat} (h : v < tl a t) : trv a t v ∈ tr a t := by
  unfold trv tl at *
  rw [List.getD_eq_getElem?_getD, List.getElem?_eq_getElem h]
  exact List.getElem_mem h
theorem trv_lt {a : AS} (hw : Wf a) {t v : Nat} (ht : t < a 3) (h : v < tl a t) : trv a t v < 8 := (tr_lt hw ht (trv_mem h)).1
theorem tl_le {a : AS} (hw : Wf a) {t : Nat} (ht : t < a 3) : tl a t ≤ 8 := Nat.le_trans (trp_len a t _) (hw.2.2.2.2.2 t ht).2.2.2.1.2
theorem wk_le {a : AS} (hw : Wf a) {t v : Nat} (ht : t < a 3) (h : v < tl a t) : wk a t v ≤ 200 := by
  have hs : slo a t v ≤ 5 := by
    unfold slo
    split
    · exact hw.2.2.1.2
    · decide
  have h1 := hw.2.2.2.2.1 _ (trv_lt hw ht h)
  have hp : pvx a t v ≤ 20 ∧ pvy a t v ≤ 20 := by
    unfold pvx pvy
    split
    · exact ⟨Nat.zero_le _, Nat.zero_le _⟩
    · have h2 := hw.2.2.2.2.1 _ (trv_lt hw ht (v := v - 1) (by omega))
      exact ⟨h2.1, h2.2.1⟩
  have hd : dist (px a (trv a t v)) (pvx a t v) + dist (py a (trv a t v)) (pvy a t v) ≤ 40 := by
    simp only [dist, px, py]
    omega
  unfold wk
  exact Nat.le_trans (Nat.mul_le_mul hs hd) (by decide)
theorem lk_le {a : AS} (hw : Wf a) {t p : Nat} (hp : p < 8) : lk a t p ≤ 15 := by
  have h1 := hw.2.2.2.2.1 _ hp
  unfold lk
  split <;> omega
/-- the bounds that the game keeps -/
def GB (a : AS) (n k : Nat) (g : GT) : Prop := (∀ t, t < n → dn g t ≤ tl a t ∧ ov g t ≤ 200 + 215 * k) ∧ (∀ p, fr g p ≤ 200 + 215 * k) ∧ ∀ t v, t < n → v < dn g t → cm g t v ≤ bg g t v ∧ bg g t v ≤ en g t v ∧ en g t v ≤ 200 + 215 * k
theorem GB.mono {a : AS} {n k : Nat} {g : GT} (h : GB a n k g) : GB a n (k + 1) g :=
  ⟨fun t ht => ⟨(h.1 t ht).1, by have := (h.1 t ht).2; omega⟩, fun p => by have := h.2.1 p; omega, fun t v ht hv => by have := h.2.2 t v ht hv; omega⟩
theorem GB.stp {a : AS} (hw : Wf a) {n k : Nat} {g : GT} (hn : n ≤ a 3) (h : GB a n k g) {t : Nat} (ht : t < n) (hd : dn g t < tl a t) : GB a n (k + 1) (stp a g t) := by
  have h1 := wk_le hw (t := t) (v := dn g t) (by omega) hd
  have h2 := lk_le hw (t := t) (trv_lt hw (t := t) (v := dn g t) (by omega) hd)
  have h3 := h.1 t ht
  have h4 := h.2.1 (trv a t (dn g t))
  have hc : come a g t ≤ 400 + 215 * k := by unfold come; omega
  have hb : (if come a g t < fr g (trv a t (dn g t)) then fr g (trv a t (dn g t)) else come a g t) ≤ 400 + 215 * k ∧ come a g t ≤ (if come a g t < fr g (trv a t (dn g t)) then fr g (trv a t (dn g t)) else come a g t) := by
    split <;> omega
  refine ⟨fun u hu => ?_, fun p => ?_, fun u v hu hv => ?_⟩
  · show up1 (dn g) t _ u ≤ _ ∧ up1 (ov g) t _ u ≤ _
    by_cases e : u = t
    · subst e
      rw [up1_s, up1_s]
      omega
    · rw [up1_n e, up1_n e]
      have := h.1 u hu
      omega
  · show up1 (fr g) _ _ p ≤ _
    by_cases e : p = trv a t (dn g t)
    · subst e
      rw [up1_s]
      omega
    · rw [up1_n e]
      have := h.2.1 p
      omega
  · show up2 (cm g) t _ _ u v ≤ up2 (bg g) t _ _ u v ∧ up2 (bg g) t _ _ u v ≤ up2 (en g) t _ _ u v ∧ up2 (en g) t _ _ u v ≤ _
    have hv : v < up1 (dn g) t (dn g t + 1) u := hv
    by_cases e : u = t ∧ v = dn g t
    · obtain ⟨rfl, rfl⟩ := e
      rw [up2_s, up2_s, up2_s]
      omega
    · rw [up2_n e, up2_n e, up2_n e]
      have hv2 : v < dn g u := by
        by_cases e2 : u = t
        · subst e2
          rw [up1_s] at hv
          omega
        · rw [up1_n e2] at hv
          exact hv
      have := h.2.2 u v hu hv2
      omega
theorem gi_B {a : AS} (hw : Wf a) {n : Nat} (hn : n ≤ a 3) : ∀ k, GB a n k (gi a n k)
  | 0 => ⟨fun t ht => ⟨Nat.zero_le _, (hw.2.2.2.2.2 t (by omega)).1⟩, fun _ => Nat.zero_le _, fun _ _ _ hv => absurd hv (Nat.not_lt_zero _)⟩
  | k + 1 => by
    have ih := gi_B hw hn k
    unfold gi
    split
    next h => exact ih.mono
    next t h => exact ih.stp hw hn (nxp_lt h).1 (nxp_lt h).2
/-- how many visits are made -/
def dsum (g : GT) : Nat → Nat
  | 0 => 0
  | n + 1 => dsum g n + dn g n
theorem dsum_stp {a : AS} {g : GT} {t : Nat} : ∀ n, dsum (stp a g t) n = dsum g n + (if t < n then 1 else 0)
  | 0 => rfl
  | n + 1 => by
    have ih := dsum_stp (a := a) (g := g) (t := t) n
    show dsum (stp a g t) n + up1 (dn g) t (dn g t + 1) n = dsum g n + dn g n + _
    rw [ih]
    by_cases e : n = t
    · subst e
      rw [up1_s, if_neg (Nat.lt_irrefl _), if_pos (Nat.lt_succ_self _)]
      omega
    · rw [up1_n e]
      by_cases h : t < n
      · rw [if_pos h, if_pos (by omega)]
        omega
      · rw [if_neg h, if_neg (by omega)]
        omega
theorem dsum_le {a : AS} {g : GT} : ∀ {n : Nat}, (∀ t, t < n → dn g t ≤ 8) → dsum g n ≤ 8 * n
  | 0, _ => Nat.le_refl _
  | n + 1, h => by
    have h1 := dsum_le (a := a) (g := g) (n := n) (fun t ht => h t (by omega))
    have h2 := h n (Nat.lt_succ_self _)
    show dsum g n + dn g n ≤ _
    omega
/-- the game comes to its end within its 48 steps -/
theorem gi_end {a : AS} (hw : Wf a) {n : Nat} (hn : n ≤ a 3) : ∃ K, K ≤ 48 ∧ (∀ j, j < K → ∃ t, nxp a (gi a n j) n = some t) ∧ nxp a (gi a n K) n = none ∧ ∀ j, K ≤ j → gi a n j = gi a n K := by
  have hn6 : n ≤ 6 := Nat.le_trans hn hw.2.2.2.1
  have key : ∀ k, (∀ j, j < k → ∃ t, nxp a (gi a n j) n = some t) → dsum (gi a n k) n = k := by
    intro k
    induction k with
    | zero =>
      intro _
      have : ∀ m, dsum (gi a n 0) m = 0 := by
        intro m
        induction m with
        | zero => rfl
        | succ m ih => show dsum (gi a n 0) m + 0 = 0; rw [ih]
      exact this n
    | succ k ih =>
      intro h
      have h1 := ih (fun j hj => h j (by omega))
      obtain ⟨t, ht⟩ := h k (Nat.lt_succ_self _)
      have e : gi a n (k + 1) = stp a (gi a n k) t := by rw [gi, ht]
      rw [e, dsum_stp, h1, if_pos (nxp_lt ht).1]
  have hex : ∃ k, nxp a (gi a n k) n = none := by
    by_cases hc : ∀ j, j < 49 → ∃ t, nxp a (gi a n j) n = some t
    · exfalso
      have h1 := key 49 hc
      have hB := gi_B hw hn 49
      have h2 := dsum_le (a := a) (g := gi a n 49) (n := n) (fun t ht => Nat.le_trans (hB.1 t ht).1 (tl_le hw (by omega)))
      omega
    · obtain ⟨j, hj⟩ := Classical.not_forall.mp hc
      obtain ⟨h1, h2⟩ := Classical.not_imp.mp hj
      refine ⟨j, ?_⟩
      cases h3 : nxp a (gi a n j) n with
      | none => rfl
      | some t => exact absurd ⟨t, h3⟩ h2
  obtain ⟨K, hK, hmin⟩ := pk_least (fun k => nxp a (gi a n k) n = none) hex
  have hsome : ∀ j, j < K → ∃ t, nxp a (gi a n j) n = some t := by
    intro j hj
    cases h3 : nxp a (gi a n j) n with
    | none => exact absurd h3 (hmin j hj)
    | some t => exact ⟨t, rfl⟩
  have h1 := key K hsome
  have hB := gi_B hw hn K
  have h2 := dsum_le (a := a) (g := gi a n K) (n := n) (fun t ht => Nat.le_trans (hB.1 t ht).1 (tl_le hw (by omega)))
  refine ⟨K, by omega, hsome, hK, ?_⟩
  intro j hj
  obtain ⟨d, rfl⟩ : ∃ d, j = K + d := ⟨j - K, by omega⟩
  induction d with
  | zero => rfl
  | succ d ih =>
    have e : gi a n (K + d) = gi a n K := ih (by omega)
    show gi a n ((K + d) + 1) = _
    rw [gi, e, hK]
theorem gf_end {a : AS} (hw : Wf a) {n : Nat} (hn : n ≤ a 3) : nxp a (gf a n) n = none ∧ GB a n 48 (gf a n) ∧ ∀ t, t < n → dn (gf a n) t = tl a t := by
  obtain ⟨K, h1, h2, h3, h4⟩ := gi_end hw hn
  have hB : GB a n 48 (gf a n) := gi_B hw hn 48
  have e : gf a n = gi a n K := h4 48 h1
  have hN : nxp a (gf a n) n = none := by rw [e]; exact h3
  exact ⟨hN, hB, fun t ht => Nat.le_antisymm (hB.1 t ht).1 (nxp_none hN t ht)⟩
/-! prefixes of the trail -/
theorem trp_app (a : AS) (t i : Nat) : ∀ d, ∃ r, trp a t (i + d) = trp a t i ++ r
  | 0 => ⟨[], by simp⟩
  | d + 1 => by
    obtain ⟨r, hr⟩ := trp_app a t i d
    refine ⟨r ++ (if a (7 + 4 * a (40 + 12 * t + (i + d))) = 0 then [a (40 + 12 * t + (i + d))] else []), ?_⟩
    rw [← Nat.add_assoc, trp_s, hr, List.append_assoc]
theorem trv_at {a : AS} {t i : Nat} (hi : i < a (39 + 12 * t)) (ho : a (7 + 4 * a (40 + 12 * t + i)) = 0) : trv a t (trp a t i).length = a (40 + 12 * t + i) ∧ (trp a t i).length < tl a t := by
  obtain ⟨r, hr⟩ := trp_app a t (i + 1) (a (39 + 12 * t) - (i + 1))
  rw [show i + 1 + (a (39 + 12 * t) - (i + 1)) = a (39 + 12 * t) by omega, trp_s, if_pos ho] at hr
  have e : tr a t = trp a t i ++ [a (40 + 12 * t + i)] ++ r := hr
  constructor
  · unfold trv
    rw [e, List.append_assoc, List.getD_eq_getElem?_getD, List.getElem?_append_right (Nat.le_refl _), Nat.sub_self]
    rfl
  · unfold tl
    rw [e]
    simp
theorem trp_le_tl {a : AS} {t i : Nat} (hi : i ≤ a (39 + 12 * t)) : (trp a t i).length ≤ tl a t := by
  obtain ⟨r, hr⟩ := trp_app a t i (a (39 + 12 * t) - i)
  rw [show i + (a (39 + 12 * t) - i) = a (39 + 12 * t) by omega] at hr
  have e : tr a t = trp a t i ++ r := hr
  unfold tl
  rw [e]
  simp
theorem abs_nI {x y : Nat} (hx : x < 2 ^ 30) (hy : y < 2 ^ 30) : (if 0 ≤ nI x - nI y then nI x - nI y else 0 - (nI x - nI y)) = nI (dist x y) := by
  rcases Nat.le_total y x with h | h
  · rw [pk_sub h, if_pos (nI_pos' (by omega))]
    congr 1
    unfold dist
    omega
  · have hd : dist x y = y - x := by unfold dist; omega
    by_cases e : x = y
    · subst e
      rw [pk_sub (Nat.le_refl _), if_pos (nI_pos' (by omega))]
      congr 1
      unfold dist
      omega
    · have hneg : nI x - nI y < 0 := pk_sneg hy (by omega)
      rw [if_neg (fun q => absurd hneg (Int32.not_lt.mpr q)), hd]
      rw [show (0 : Int32) - (nI x - nI y) = nI y - nI x by rw [Int32.zero_sub, Int32.neg_sub], pk_sub h]
end
section
/-! Game: trails are laid, who comes next, visits -/
theorem isS_g {s : Nat} (h : isS s) : s + 18 ≤ 37 ∨ 81 ≤ s := by
  have : ∀ s, s ∈ [1, 19, 81, 99, 117, 135, 153, 171, 191, 209] → s + 18 ≤ 37 ∨ 81 ≤ s := by decide
  exact this s h
/-- what the Game's rows hold of a game g over the state a, n teams playing -/
def GX (μ : Mu) (a : AS) (n : Nat) (g : GT) : Prop := (∀ t, t < n → μ 38 t = nI (tl a t) ∧ μ 74 t = nI (dn g t) ∧ μ 75 t = nI (ov g t) ∧ (∀ v, v < tl a t → μ (40 + t) v = nI (trv a t v) ∧ μ (47 + t) v = nI (wk a t v)) ∧ ∀ v, v < dn g t → μ (54 + t) v = nI (cm g t v) ∧ μ (61 + t) v = nI (bg g t v) ∧ μ (68 + t) v = nI (en g t v)) ∧ ∀ p, p < 8 → μ 76 p = nI (fr g p)
theorem lost_iff {p q : Nat} (hp : p < 8) (hq : q ≤ 8) : nI p = nI q - nI 1 ↔ p + 1 = q := by
  have : ∀ p, p < 8 → ∀ q, q < 9 → (nI p = nI q - nI 1 ↔ p + 1 = q) := by decide +kernel
  exact this p hp q (by omega)
theorem pvx_0 (a : AS) (t : Nat) : pvx a t 0 = 0 := rfl
theorem pvy_0 (a : AS) (t : Nat) : pvy a t 0 = 0 := rfl
theorem slo_0 (a : AS) (t : Nat) : slo a t 0 = 1 := rfl
theorem pvx_s (a : AS) (t v : Nat) : pvx a t (v + 1) = px a (trv a t v) := rfl
theorem pvy_s (a : AS) (t v : Nat) : pvy a t (v + 1) = py a (trv a t v) := rfl
theorem slo_s {a : AS} {t v : Nat} : slo a t (v + 1) = if trv a t v + 1 = a (38 + 12 * t) then a 2 else slo a t v := by
  have hl : lob a t (v + 1) = (lob a t v || (trv a t v + 1 == a (38 + 12 * t))) := rfl
  unfold slo
  rw [hl]
  by_cases h : trv a t v + 1 = a (38 + 12 * t)
  · simp [h]
  · have h2 : (trv a t v + 1 == a (38 + 12 * t)) = false := by simp [h]
    rw [h2, Bool.or_false, if_neg h]
section PLAY
variable {l : Launch} {E : EV} {D : va_G} {cA : Nat → ClassId} {fin : Option Value → Mu → Prop} {μ : Mu} {d : Nat}
set_option maxRecDepth 100000 in
set_option maxHeartbeats 4000000 in
theorem c_layTrail {s n : Nat} {a : AS} (hs : isS s) (hw : Wf a) (hna : n ≤ a 3) (hst : μ 37 0 = nI s) (hn : μ 37 1 = nI n) (hR : RS μ s a) {t : Nat} (ht : t < n) (hf : ∀ ν : Mu, (∀ q k, (q = 38 → k ≠ t) → q ≠ 40 + t → q ≠ 47 + t → ν q k = μ q k) → ν 38 t = nI (tl a t) → (∀ v, v < tl a t → ν (40 + t) v = nI (trv a t v) ∧ ν (47 + t) v = nI (wk a t v)) → fin none ν) : PS l E D cA mX0_layTrail (d + 1) fin 0 [some (.ref 37), some (.int (nI t)), none, none, none, none, none, none, none] [] μ := by
  have hsg := isS_g hs
  have hs9 := isS_odd hs
  have hs31 : s < 2 ^ 31 := by omega
  have hn6 : n ≤ 6 := Nat.le_trans hna hw.2.2.2.1
  have htn : t < a 3 := by omega
  have hT := hR.2.2.2.2 t htn
  have hwt := hw.2.2.2.2.2 t htn
  obtain ⟨m, hm, hmv, hmb⟩ := hR.2.2.2.1
  refine pw_aload_n dX0_layTrail_0 rfl ?_
  refine ps_getd (r := s) dX0_layTrail_1 kf_X0_41 (by decide) (by decide +kernel) hs31 hst ?_
  refine ps_getr (r := s + 5) dX0_layTrail_4 kf_X0_59 (by decide) ((ok_S hs).2.2.2.2.2.1) ?_
  refine pw_iload_n dX0_layTrail_7 rfl ?_
  refine ps_aald (t := 5) (j := t) (r := s + 6 + 2 * t) dX0_layTrail_8 rfl (ok_T hs (by omega)).1 (by decide) ?_
  refine px_astore_n (ls' := [some (.ref 37), some (.int (nI t)), some (.ref (s + 6 + 2 * t)), none, none, none, none, none, none]) dX0_layTrail_9 rfl rfl (by decide) ?_
  refine pw_iconst_ (v := nI 0) dX0_layTrail_10 (by decide) ?_
  refine px_istore_n (ls' := [some (.ref 37), some (.int (nI t)), some (.ref (s + 6 + 2 * t)), some (.int (nI 0)), none, none, none, none, none]) dX0_layTrail_11 rfl rfl (by decide) ?_
  refine pw_iconst_ (v := nI 0) dX0_layTrail_12 (by decide) ?_
  refine px_istore (ls' := [some (.ref 37), some (.int (nI t)), some (.ref (s + 6 + 2 * t)), some (.int (nI 0)), some (.int (nI 0)), none, none, none, none]) dX0_layTrail_13 rfl rfl (by decide) ?_
  refine pw_iconst_ (v := nI 0) dX0_layTrail_15 (by decide) ?_
  refine px_istore (ls' := [some (.ref 37), some (.int (nI t)), some (.ref (s + 6 + 2 * t)), some (.int (nI 0)), some (.int (nI 0)), some (.int (nI 0)), none, none, none]) dX0_layTrail_16 rfl rfl (by decide) ?_
  refine pw_iconst_ (v := nI 1) dX0_layTrail_18 (by decide) ?_
  refine px_istore (ls' := [some (.ref 37), some (.int (nI t)), some (.ref (s + 6 + 2 * t)), some (.int (nI 0)), some (.int (nI 0)), some (.int (nI 0)), some (.int (nI 1)), none, none]) dX0_layTrail_19 rfl rfl (by decide) ?_
  refine pw_iconst_ (v := nI 0) dX0_layTrail_21 (by decide) ?_
  refine px_istore (ls' := [some (.ref 37), some (.int (nI t)), some (.ref (s + 6 + 2 * t)), some (.int (nI 0)), some (.int (nI 0)), some (.int (nI 0)), some (.int (nI 1)), some (.int (nI 0)), none]) dX0_layTrail_22 rfl rfl (by decide) ?_
  have lp : ∀ i : Nat, i ≤ a (39 + 12 * t) → ∀ (l8 : Option Value) (ν : Mu), ((∀ q k, q ≠ 40 + t → q ≠ 47 + t → ν q k = μ q k) ∧ ∀ v, v < (trp a t i).length → ν (40 + t) v = nI (trv a t v) ∧ ν (47 + t) v = nI (wk a t v)) → PS l E D cA mX0_layTrail (d + 1) fin 24 [some (.ref 37), some (.int (nI t)), some (.ref (s + 6 + 2 * t)), some (.int (nI ((trp a t i).length))), some (.int (nI (pvx a t (trp a t i).length))), some (.int (nI (pvy a t (trp a t i).length))), some (.int (nI (slo a t (trp a t i).length))), some (.int (nI i)), l8] [] ν := by
    refine ps_for _ ?_ ?_
    · rintro l8 ν ⟨h1, h2⟩
      refine pw_iload dX0_layTrail_24 rfl ?_
      refine pw_aload_n dX0_layTrail_26 rfl ?_
      refine ps_geti (x := nI (a (39 + 12 * t))) dX0_layTrail_27 kf_X0_77 (by decide) ((ok_T hs (by omega)).2.2.1) ((h1 _ _ (by omega) (by omega)).trans hT.1) ?_
      refine pn_ge (tgt := 164) dX0_layTrail_30 (by decide) (by omega) (by omega) (fun _ => ?_) (fun h9 => absurd h9 (by omega))
      refine pw_aload_n dX0_layTrail_164 rfl ?_
      refine ps_getr (r := 38) dX0_layTrail_165 kf_X0_9 (by decide) (by decide +kernel) ?_
      refine pw_iload_n dX0_layTrail_168 rfl ?_
      refine pw_iload_n dX0_layTrail_169 rfl ?_
      refine ps_iast (j := t) dX0_layTrail_170 rfl (ok_ar (n := 6) (by decide +kernel) (by omega)) ?_
      refine ps_ret dX0_layTrail_171 rfl (hf _ ?_ ?_ ?_)
      · intro q k g1 g2 g3
        by_cases e : q = 38
        · subst e
          rw [u2_b (fun h => g1 rfl h)]
          exact h1 _ _ g2 g3
        · rw [u2_a e]
          exact h1 _ _ g2 g3
      · rw [u2_s]
        rfl
      · intro v hv
        rw [u2_a (by omega), u2_a (by omega)]
        exact h2 v hv
    · rintro i hi ih l8 ν ⟨h1, h2⟩
      have hr := hwt.2.2.2.2 i hi
      have hpl := hw.2.2.2.2.1 _ hr
      have hll := trp_len a t i
      refine pw_iload dX0_layTrail_24 rfl ?_
      refine pw_aload_n dX0_layTrail_26 rfl ?_
      refine ps_geti (x := nI (a (39 + 12 * t))) dX0_layTrail_27 kf_X0_77 (by decide) ((ok_T hs (by omega)).2.2.1) ((h1 _ _ (by omega) (by omega)).trans hT.1) ?_
      refine pn_ge (tgt := 164) dX0_layTrail_30 (by decide) (by omega) (by omega) (fun h9 => absurd h9 (by omega)) (fun _ => ?_)
      refine pw_aload_n dX0_layTrail_33 rfl ?_
      refine ps_getr (r := s + 7 + 2 * t) dX0_layTrail_34 kf_X0_80 (by decide) ((ok_T hs (by omega)).2.1) ?_
      refine pw_iload dX0_layTrail_37 rfl ?_
      refine ps_iald (j := i) (x := nI (a (40 + 12 * t + i))) dX0_layTrail_39 rfl (ok_ar (n := 8) ((ok_T hs (by omega)).2.2.2.2.2.2) (by omega)) ((h1 _ _ (by omega) (by omega)).trans (hT.2.2.2.2 i hi)) ?_
      refine px_istore (ls' := [some (.ref 37), some (.int (nI t)), some (.ref (s + 6 + 2 * t)), some (.int (nI ((trp a t i).length))), some (.int (nI (pvx a t (trp a t i).length))), some (.int (nI (pvy a t (trp a t i).length))), some (.int (nI (slo a t (trp a t i).length))), some (.int (nI i)), some (.int (nI (a (40 + 12 * t + i))))]) dX0_layTrail_40 rfl rfl (by decide) ?_
      refine pw_aload_n dX0_layTrail_42 rfl ?_
      refine ps_getd (r := s) dX0_layTrail_43 kf_X0_41 (by decide) (by decide +kernel) hs31 ((h1 _ _ (by omega) (by omega)).trans hst) ?_
      refine pw_iload dX0_layTrail_46 rfl ?_
      refine ps_callV (b := s) (As := [.int (nI (a (40 + 12 * t + i)))]) (st := []) dX0_layTrail_48 cv_X0_83 rfl ⟨(okk_of (ok_S hs).1).1, (okk_of (ok_S hs).1).2.1⟩ (Nat.le_of_ble_eq_true rfl) (Nat.le_of_ble_eq_true rfl) ?_
      refine c_S_isClosed hs hm hr (((h1 _ _ (by omega) (by omega))).trans hmv) ?_
      show PS l E D cA mX0_layTrail (d + 1) fin 51 [some (.ref 37), some (.int (nI t)), some (.ref (s + 6 + 2 * t)), some (.int (nI ((trp a t i).length))), some (.int (nI (pvx a t (trp a t i).length))), some (.int (nI (pvy a t (trp a t i).length))), some (.int (nI (slo a t (trp a t i).length))), some (.int (nI i)), some (.int (nI (a (40 + 12 * t + i))))] [.int (kb (m / 2 ^ a (40 + 12 * t + i) % 2 = 1))] ν
      by_cases hc : a (7 + 4 * a (40 + 12 * t + i)) = 1
      · rw [kb_t ((hmb _ hr).trans hc)]
        refine pw_if_eq (tgt := 57) dX0_layTrail_51 (by decide) (fun h9 => absurd h9 nI1_ne) (fun _ => ?_)
        refine pw_goto (tgt := 158) dX0_layTrail_54 (by decide) ?_
        refine px_iincn (n := 1) (a := i) (b := i + 1) (ls' := [some (.ref 37), some (.int (nI t)), some (.ref (s + 6 + 2 * t)), some (.int (nI ((trp a t i).length))), some (.int (nI (pvx a t (trp a t i).length))), some (.int (nI (pvy a t (trp a t i).length))), some (.int (nI (slo a t (trp a t i).length))), some (.int (nI (i + 1))), some (.int (nI (a (40 + 12 * t + i))))]) dX0_layTrail_158 rfl rfl rfl (by omega) ?_
        refine pw_goto (tgt := 24) dX0_layTrail_161 (by decide) ?_
        have e9 : trp a t (i + 1) = trp a t i := by rw [trp_s, if_neg (by omega), List.append_nil]
        rw [e9] at ih
        exact ih _ ν ⟨h1, h2⟩
      · rw [kb_f (fun q => hc ((hmb _ hr).symm.trans q))]
        refine pw_if_eq (tgt := 57) dX0_layTrail_51 (by decide) (fun _ => ?_) (fun h9 => absurd h9 (fun q => q nI_0))
        have ho : a (7 + 4 * a (40 + 12 * t + i)) = 0 := by omega
        obtain ⟨hv1, hv2⟩ := trv_at hi ho
        have e9 : (trp a t (i + 1)).length = (trp a t i).length + 1 := by rw [trp_s, if_pos ho, List.length_append]; rfl
        have hpx : pvx a t (trp a t i).length ≤ 20 ∧ pvy a t (trp a t i).length ≤ 20 := by
          unfold pvx pvy
          split
          · exact ⟨Nat.zero_le _, Nat.zero_le _⟩
          · have h2 := hw.2.2.2.2.1 _ (trv_lt hw htn (v := (trp a t i).length - 1) (by omega))
            exact ⟨h2.1, h2.2.1⟩
        refine pw_aload_n dX0_layTrail_57 rfl ?_
        refine ps_getr (r := 39) dX0_layTrail_58 kf_X0_17 (by decide) (by decide +kernel) ?_
        refine pw_iload_n dX0_layTrail_61 rfl ?_
        refine ps_aald (t := 3) (j := t) (r := 40 + t) dX0_layTrail_62 rfl (ok_g (b := 39) (by decide) (by omega)) (by decide) ?_
        refine pw_iload_n dX0_layTrail_63 rfl ?_
        refine pw_iload dX0_layTrail_64 rfl ?_
        refine ps_iast (j := (trp a t i).length) dX0_layTrail_66 rfl (ok_ar (n := 8) (ok_gr (b := 39) (by decide) (by omega)) (by omega)) ?_
        refine pw_aload_n dX0_layTrail_67 rfl ?_
        refine ps_getr (r := 46) dX0_layTrail_68 kf_X0_20 (by decide) (by decide +kernel) ?_
        refine pw_iload_n dX0_layTrail_71 rfl ?_
        refine ps_aald (t := 3) (j := t) (r := 47 + t) dX0_layTrail_72 rfl (ok_g (b := 46) (by decide) (by omega)) (by decide) ?_
        refine pw_iload_n dX0_layTrail_73 rfl ?_
        refine pw_iload dX0_layTrail_74 rfl ?_
        refine pw_aload_n dX0_layTrail_76 rfl ?_
        refine ps_getd (r := s) dX0_layTrail_77 kf_X0_41 (by decide) (by decide +kernel) hs31 ((u2_a (by omega)).trans ((h1 _ _ (by omega) (by omega)).trans hst)) ?_
        refine ps_getr (r := s + 2) dX0_layTrail_80 kf_X0_87 (by decide) ((ok_S hs).2.1) ?_
        refine pw_iload dX0_layTrail_83 rfl ?_
        refine ps_iald (j := a (40 + 12 * t + i)) (x := nI (px a (a (40 + 12 * t + i)))) dX0_layTrail_85 rfl (ok_ar (n := 8) ((ok_S hs).2.2.2.2.2.2.2.2.1) (by omega)) ((u2_a (by omega)).trans ((h1 _ _ (by omega) (by omega)).trans (hR.2.2.1 _ hr).1)) ?_
        refine pw_iload dX0_layTrail_86 rfl ?_
        refine pw_isub dX0_layTrail_88 ?_
        refine pw_mabs dX0_layTrail_89 cm_X0_90 (by rw [em_len]; exact Nat.le_refl _) (by rw [em_sum]; exact Nat.le_refl _) (Nat.le_of_ble_eq_true rfl) ?_
        rw [abs_nI (by simp only [px]; omega) (by omega)]
        refine pw_aload_n dX0_layTrail_92 rfl ?_
        refine ps_getd (r := s) dX0_layTrail_93 kf_X0_41 (by decide) (by decide +kernel) hs31 ((u2_a (by omega)).trans ((h1 _ _ (by omega) (by omega)).trans hst)) ?_
        refine ps_getr (r := s + 3) dX0_layTrail_96 kf_X0_96 (by decide) ((ok_S hs).2.2.1) ?_
        refine pw_iload dX0_layTrail_99 rfl ?_
        refine ps_iald (j := a (40 + 12 * t + i)) (x := nI (py a (a (40 + 12 * t + i)))) dX0_layTrail_101 rfl (ok_ar (n := 8) ((ok_S hs).2.2.2.2.2.2.2.2.2.1) (by omega)) ((u2_a (by omega)).trans ((h1 _ _ (by omega) (by omega)).trans (hR.2.2.1 _ hr).2.1)) ?_
        refine pw_iload dX0_layTrail_102 rfl ?_
        refine pw_isub dX0_layTrail_104 ?_
        refine pw_mabs dX0_layTrail_105 cm_X0_90 (by rw [em_len]; exact Nat.le_refl _) (by rw [em_sum]; exact Nat.le_refl _) (Nat.le_of_ble_eq_true rfl) ?_
        rw [abs_nI (by simp only [py]; omega) (by omega)]
        refine px_iaddn (c := dist (px a (a (40 + 12 * t + i))) (pvx a t (trp a t i).length) + dist (py a (a (40 + 12 * t + i))) (pvy a t (trp a t i).length)) dX0_layTrail_108 rfl ?_
        refine px_imuln (c := wk a t (trp a t i).length) dX0_layTrail_109 (by unfold wk; rw [hv1]) ?_
        refine ps_iast (j := (trp a t i).length) dX0_layTrail_110 rfl (ok_ar (n := 8) (ok_gr (b := 46) (by decide) (by omega)) (by omega)) ?_
        refine px_iincn (n := 1) (a := (trp a t i).length) (b := (trp a t i).length + 1) (ls' := [some (.ref 37), some (.int (nI t)), some (.ref (s + 6 + 2 * t)), some (.int (nI ((trp a t i).length + 1))), some (.int (nI (pvx a t (trp a t i).length))), some (.int (nI (pvy a t (trp a t i).length))), some (.int (nI (slo a t (trp a t i).length))), some (.int (nI i)), some (.int (nI (a (40 + 12 * t + i))))]) dX0_layTrail_111 rfl rfl rfl (by omega) ?_
        refine pw_aload_n dX0_layTrail_114 rfl ?_
        refine ps_getd (r := s) dX0_layTrail_115 kf_X0_41 (by decide) (by decide +kernel) hs31 ((u2_a (by omega)).trans ((u2_a (by omega)).trans ((h1 _ _ (by omega) (by omega)).trans hst))) ?_
        refine ps_getr (r := s + 2) dX0_layTrail_118 kf_X0_87 (by decide) ((ok_S hs).2.1) ?_
        refine pw_iload dX0_layTrail_121 rfl ?_
        refine ps_iald (j := a (40 + 12 * t + i)) (x := nI (px a (a (40 + 12 * t + i)))) dX0_layTrail_123 rfl (ok_ar (n := 8) ((ok_S hs).2.2.2.2.2.2.2.2.1) (by omega)) ((u2_a (by omega)).trans ((u2_a (by omega)).trans ((h1 _ _ (by omega) (by omega)).trans (hR.2.2.1 _ hr).1))) ?_
        refine px_istore (ls' := [some (.ref 37), some (.int (nI t)), some (.ref (s + 6 + 2 * t)), some (.int (nI ((trp a t i).length + 1))), some (.int (nI (px a (a (40 + 12 * t + i))))), some (.int (nI (pvy a t (trp a t i).length))), some (.int (nI (slo a t (trp a t i).length))), some (.int (nI i)), some (.int (nI (a (40 + 12 * t + i))))]) dX0_layTrail_124 rfl rfl (by decide) ?_
        refine pw_aload_n dX0_layTrail_126 rfl ?_
        refine ps_getd (r := s) dX0_layTrail_127 kf_X0_41 (by decide) (by decide +kernel) hs31 ((u2_a (by omega)).trans ((u2_a (by omega)).trans ((h1 _ _ (by omega) (by omega)).trans hst))) ?_
        refine ps_getr (r := s + 3) dX0_layTrail_130 kf_X0_96 (by decide) ((ok_S hs).2.2.1) ?_
        refine pw_iload dX0_layTrail_133 rfl ?_
        refine ps_iald (j := a (40 + 12 * t + i)) (x := nI (py a (a (40 + 12 * t + i)))) dX0_layTrail_135 rfl (ok_ar (n := 8) ((ok_S hs).2.2.2.2.2.2.2.2.2.1) (by omega)) ((u2_a (by omega)).trans ((u2_a (by omega)).trans ((h1 _ _ (by omega) (by omega)).trans (hR.2.2.1 _ hr).2.1))) ?_
        refine px_istore (ls' := [some (.ref 37), some (.int (nI t)), some (.ref (s + 6 + 2 * t)), some (.int (nI ((trp a t i).length + 1))), some (.int (nI (px a (a (40 + 12 * t + i))))), some (.int (nI (py a (a (40 + 12 * t + i))))), some (.int (nI (slo a t (trp a t i).length))), some (.int (nI i)), some (.int (nI (a (40 + 12 * t + i))))]) dX0_layTrail_136 rfl rfl (by decide) ?_
        refine pw_iload dX0_layTrail_138 rfl ?_
        refine pw_aload_n dX0_layTrail_140 rfl ?_
        refine ps_geti (x := nI (a (38 + 12 * t)) - nI 1) dX0_layTrail_141 kf_X0_99 (by decide) ((ok_T hs (by omega)).2.2.2.2.2.1) ((u2_a (by omega)).trans ((u2_a (by omega)).trans ((h1 _ _ (by omega) (by omega)).trans hT.2.2.2.1))) ?_
        refine pw_icmp_ne (tgt := 158) dX0_layTrail_144 (by decide) (fun hc2 => ?_) (fun hc2 => ?_)
        · refine px_iincn (n := 1) (a := i) (b := i + 1) (ls' := [some (.ref 37), some (.int (nI t)), some (.ref (s + 6 + 2 * t)), some (.int (nI ((trp a t i).length + 1))), some (.int (nI (px a (a (40 + 12 * t + i))))), some (.int (nI (py a (a (40 + 12 * t + i))))), some (.int (nI (slo a t (trp a t i).length))), some (.int (nI (i + 1))), some (.int (nI (a (40 + 12 * t + i))))]) dX0_layTrail_158 rfl rfl rfl (by omega) ?_
          refine pw_goto (tgt := 24) dX0_layTrail_161 (by decide) ?_
          have E1 : pvx a t (trp a t (i + 1)).length = px a (a (40 + 12 * t + i)) := by rw [e9, pvx_s, hv1]
          have E2 : pvy a t (trp a t (i + 1)).length = py a (a (40 + 12 * t + i)) := by rw [e9, pvy_s, hv1]
          have E3 : slo a t (trp a t (i + 1)).length = slo a t (trp a t i).length := by rw [e9, slo_s, hv1, if_neg (fun q => hc2 ((lost_iff hr hwt.2.2.1).mpr q))]
          rw [E1, E2, E3, e9] at ih
          refine ih _ _ ⟨fun q k g1 g2 => ?_, fun v hv => ?_⟩
          · rw [u2_a g2, u2_a g1]
            exact h1 q k g1 g2
          · by_cases e : v = (trp a t i).length
            · subst e
              refine ⟨?_, ?_⟩
              · rw [u2_a (by omega), u2_s, hv1]
              · rw [u2_s]
            · refine ⟨?_, ?_⟩
              · rw [u2_a (by omega), u2_b e]
                exact (h2 v (by omega)).1
              · rw [u2_b e, u2_a (by omega)]
                exact (h2 v (by omega)).2
        · refine pw_aload_n dX0_layTrail_147 rfl ?_
          refine ps_getd (r := s) dX0_layTrail_148 kf_X0_41 (by decide) (by decide +kernel) hs31 ((u2_a (by omega)).trans ((u2_a (by omega)).trans ((h1 _ _ (by omega) (by omega)).trans hst))) ?_
          refine ps_getr (r := s + 1) dX0_layTrail_151 kf_X0_102 (by decide) ((ok_S hs).1) ?_
          refine pw_iconst_ (v := nI 2) dX0_layTrail_154 (by decide) ?_
          refine ps_iald (j := 2) (x := nI (a 2)) dX0_layTrail_155 rfl (ok_ar (n := 3) ((ok_S hs).2.2.2.2.2.2.2.1) (by decide)) ((u2_a (by omega)).trans ((u2_a (by omega)).trans ((h1 _ _ (by omega) (by omega)).trans (hR.1 2 (by decide))))) ?_
          refine px_istore (ls' := [some (.ref 37), some (.int (nI t)), some (.ref (s + 6 + 2 * t)), some (.int (nI ((trp a t i).length + 1))), some (.int (nI (px a (a (40 + 12 * t + i))))), some (.int (nI (py a (a (40 + 12 * t + i))))), some (.int (nI (a 2))), some (.int (nI i)), some (.int (nI (a (40 + 12 * t + i))))]) dX0_layTrail_156 rfl rfl (by decide) ?_
          refine px_iincn (n := 1) (a := i) (b := i + 1) (ls' := [some (.ref 37), some (.int (nI t)), some (.ref (s + 6 + 2 * t)), some (.int (nI ((trp a t i).length + 1))), some (.int (nI (px a (a (40 + 12 * t + i))))), some (.int (nI (py a (a (40 + 12 * t + i))))), some (.int (nI (a 2))), some (.int (nI (i + 1))), some (.int (nI (a (40 + 12 * t + i))))]) dX0_layTrail_158 rfl rfl rfl (by omega) ?_
          refine pw_goto (tgt := 24) dX0_layTrail_161 (by decide) ?_
          have E1 : pvx a t (trp a t (i + 1)).length = px a (a (40 + 12 * t + i)) := by rw [e9, pvx_s, hv1]
          have E2 : pvy a t (trp a t (i + 1)).length = py a (a (40 + 12 * t + i)) := by rw [e9, pvy_s, hv1]
          have E3 : slo a t (trp a t (i + 1)).length = a 2 := by rw [e9, slo_s, hv1, if_pos ((lost_iff hr hwt.2.2.1).mp hc2)]
          rw [E1, E2, E3, e9] at ih
          refine ih _ _ ⟨fun q k g1 g2 => ?_, fun v hv => ?_⟩
          · rw [u2_a g2, u2_a g1]
            exact h1 q k g1 g2
          · by_cases e : v = (trp a t i).length
            · subst e
              refine ⟨?_, ?_⟩
              · rw [u2_a (by omega), u2_s, hv1]
              · rw [u2_s]
            · refine ⟨?_, ?_⟩
              · rw [u2_a (by omega), u2_b e]
                exact (h2 v (by omega)).1
              · rw [u2_b e, u2_a (by omega)]
                exact (h2 v (by omega)).2
  exact lp 0 (Nat.zero_le _) _ μ ⟨fun _ _ _ _ => rfl, fun v hv => absurd hv (Nat.not_lt_zero _)⟩
end PLAY
end
section
/-! Game: who comes next, a visit, the whole game -/
def eN : Option Nat → Int32
  | none => -1
  | some u => nI u
def eC (a : AS) (g : GT) : Option Nat → Int32
  | none => nI 0
  | some u => nI (come a g u)
theorem nI_nm1 {u : Nat} (h : u < 2 ^ 31) : nI u ≠ -1 := fun q => by
  have h1 := nI_pos h
  rw [q] at h1
  exact h1 (by decide)
theorem max_nI {x y : Nat} (hx : x < 2 ^ 31) (hy : y < 2 ^ 31) : (if nI x < nI y then nI y else nI x) = nI (if x < y then y else x) := by
  by_cases h : x < y
  · rw [if_pos ((nI_ltI hx hy).mpr h), if_pos h]
  · rw [if_neg (fun q => h ((nI_ltI hx hy).mp q)), if_neg h]
theorem come_le {a : AS} (hw : Wf a) {n k : Nat} {g : GT} (hn : n ≤ a 3) (hk : k ≤ 48) (hB : GB a n k g) {t : Nat} (ht : t < n) (hd : dn g t < tl a t) : come a g t ≤ 11000 := by
  have h1 := wk_le hw (t := t) (v := dn g t) (by omega) hd
  have h2 := (hB.1 t ht).2
  unfold come
  omega
theorem gf_none {a : AS} {n i : Nat} (h : nxp a (gi a n i) n = none) (hi : i ≤ 48) : gf a n = gi a n i := by
  have : ∀ d, gi a n (i + d) = gi a n i := by
    intro d
    induction d with
    | zero => rfl
    | succ d ih => rw [← Nat.add_assoc, gi, ih, h]
  have h2 := this (48 - i)
  rw [show i + (48 - i) = 48 by omega] at h2
  exact h2
theorem gi_some {a : AS} {n i t : Nat} (h : nxp a (gi a n i) n = some t) : gi a n (i + 1) = stp a (gi a n i) t := by rw [gi, h]
section PLAY2
variable {l : Launch} {E : EV} {D : va_G} {cA : Nat → ClassId} {fin : Option Value → Mu → Prop} {μ : Mu} {d : Nat}
set_option maxRecDepth 100000 in
set_option maxHeartbeats 4000000 in
theorem c_nextToCome {n k : Nat} {a : AS} {g : GT} (hw : Wf a) (hna : n ≤ a 3) (hn : μ 37 1 = nI n) (hX : GX μ a n g) (hB : GB a n k g) (hk48 : k ≤ 48) (hf : fin (some (.int (eN (nxp a g n)))) μ) : PS l E D cA mX0_nextToCome d fin 0 [some (.ref 37), none, none, none, none] [] μ := by
  have hn6 : n ≤ 6 := Nat.le_trans hna hw.2.2.2.1
  refine pw_iconst_ (v := (-1)) dX0_nextToCome_0 (by decide) ?_
  refine px_istore_n (ls' := [some (.ref 37), some (.int (-1)), none, none, none]) dX0_nextToCome_1 rfl rfl (by decide) ?_
  refine pw_iconst_ (v := nI 0) dX0_nextToCome_2 (by decide) ?_
  refine px_istore_n (ls' := [some (.ref 37), some (.int (-1)), some (.int (nI 0)), none, none]) dX0_nextToCome_3 rfl rfl (by decide) ?_
  refine pw_iconst_ (v := nI 0) dX0_nextToCome_4 (by decide) ?_
  refine px_istore_n (ls' := [some (.ref 37), some (.int (-1)), some (.int (nI 0)), some (.int (nI 0)), none]) dX0_nextToCome_5 rfl rfl (by decide) ?_
  have lp : ∀ i : Nat, i ≤ n → ∀ (l4 : Option Value), PS l E D cA mX0_nextToCome d fin 6 [some (.ref 37), some (.int (eN (nxp a g i))), some (.int (eC a g (nxp a g i))), some (.int (nI i)), l4] [] μ := by
    refine ps_for n ?_ ?_
    · intro l4
      refine pw_iload_n dX0_nextToCome_6 rfl ?_
      refine pw_aload_n dX0_nextToCome_7 rfl ?_
      refine ps_geti (x := nI n) dX0_nextToCome_8 kf_X0_45 (by decide) (by decide +kernel) hn ?_
      refine pn_ge (tgt := 76) dX0_nextToCome_11 (by decide) (by omega) (by omega) (fun _ => ?_) (fun h9 => absurd h9 (by omega))
      refine pw_iload_n dX0_nextToCome_76 rfl ?_
      exact ps_iret dX0_nextToCome_77 rfl (rfl) hf
    · intro i hi ih l4
      have htl := tl_le hw (t := i) (by omega)
      have hd9 := (hB.1 i hi).1
      refine pw_iload_n dX0_nextToCome_6 rfl ?_
      refine pw_aload_n dX0_nextToCome_7 rfl ?_
      refine ps_geti (x := nI n) dX0_nextToCome_8 kf_X0_45 (by decide) (by decide +kernel) hn ?_
      refine pn_ge (tgt := 76) dX0_nextToCome_11 (by decide) (by omega) (by omega) (fun h9 => absurd h9 (by omega)) (fun _ => ?_)
      refine pw_aload_n dX0_nextToCome_14 rfl ?_
      refine ps_getr (r := 74) dX0_nextToCome_15 kf_X0_32 (by decide) (by decide +kernel) ?_
      refine pw_iload_n dX0_nextToCome_18 rfl ?_
      refine ps_iald (j := i) (x := nI (dn g i)) dX0_nextToCome_19 rfl (ok_ar (n := 6) (by decide +kernel) (by omega)) (hX.1 i hi).2.1 ?_
      refine pw_aload_n dX0_nextToCome_20 rfl ?_
      refine ps_getr (r := 38) dX0_nextToCome_21 kf_X0_9 (by decide) (by decide +kernel) ?_
      refine pw_iload_n dX0_nextToCome_24 rfl ?_
      refine ps_iald (j := i) (x := nI (tl a i)) dX0_nextToCome_25 rfl (ok_ar (n := 6) (by decide +kernel) (by omega)) (hX.1 i hi).1 ?_
      refine pn_lt (tgt := 32) dX0_nextToCome_26 (by decide) (by omega) (by omega) (fun hd => ?_) (fun hd => ?_)
      · have hcl := come_le hw hna hk48 hB hi hd
        have hd8 : dn g i < 8 := by omega
        refine pw_aload_n dX0_nextToCome_32 rfl ?_
        refine ps_getr (r := 75) dX0_nextToCome_33 kf_X0_35 (by decide) (by decide +kernel) ?_
        refine pw_iload_n dX0_nextToCome_36 rfl ?_
        refine ps_iald (j := i) (x := nI (ov g i)) dX0_nextToCome_37 rfl (ok_ar (n := 6) (by decide +kernel) (by omega)) (hX.1 i hi).2.2.1 ?_
        refine pw_aload_n dX0_nextToCome_38 rfl ?_
        refine ps_getr (r := 46) dX0_nextToCome_39 kf_X0_20 (by decide) (by decide +kernel) ?_
        refine pw_iload_n dX0_nextToCome_42 rfl ?_
        refine ps_aald (t := 3) (j := i) (r := 47 + i) dX0_nextToCome_43 rfl (ok_g (b := 46) (by decide) (by omega)) (by decide) ?_
        refine pw_aload_n dX0_nextToCome_44 rfl ?_
        refine ps_getr (r := 74) dX0_nextToCome_45 kf_X0_32 (by decide) (by decide +kernel) ?_
        refine pw_iload_n dX0_nextToCome_48 rfl ?_
        refine ps_iald (j := i) (x := nI (dn g i)) dX0_nextToCome_49 rfl (ok_ar (n := 6) (by decide +kernel) (by omega)) (hX.1 i hi).2.1 ?_
        refine ps_iald (j := dn g i) (x := nI (wk a i (dn g i))) dX0_nextToCome_50 rfl (ok_ar (n := 8) (ok_gr (b := 46) (by decide) (by omega)) (by omega)) ((hX.1 i hi).2.2.2.1 _ hd).2 ?_
        refine px_iaddn (c := come a g i) dX0_nextToCome_51 rfl ?_
        refine px_istore (ls' := [some (.ref 37), some (.int (eN (nxp a g i))), some (.int (eC a g (nxp a g i))), some (.int (nI i)), some (.int (nI (come a g i)))]) dX0_nextToCome_52 rfl rfl (by decide) ?_
        cases hN : nxp a g i with
        | none =>
          have e9 : nxp a g (i + 1) = some i := by rw [nxp, if_pos hd, hN]
          rw [e9] at ih
          show PS l E D cA mX0_nextToCome d fin 54 [some (.ref 37), some (.int (-1)), some (.int (nI 0)), some (.int (nI i)), some (.int (nI (come a g i)))] [] μ
          refine pw_iload_n dX0_nextToCome_54 rfl ?_
          refine pw_iconst_ (v := (-1)) dX0_nextToCome_55 (by decide) ?_
          refine pw_icmp_eq (tgt := 65) dX0_nextToCome_56 (by decide) (fun _ => ?_) (fun h9 => absurd rfl h9)
          refine pw_iload_n dX0_nextToCome_65 rfl ?_
          refine px_istore_n (ls' := [some (.ref 37), some (.int (nI i)), some (.int (nI 0)), some (.int (nI i)), some (.int (nI (come a g i)))]) dX0_nextToCome_66 rfl rfl (by decide) ?_
          refine pw_iload dX0_nextToCome_67 rfl ?_
          refine px_istore_n (ls' := [some (.ref 37), some (.int (nI i)), some (.int (nI (come a g i))), some (.int (nI i)), some (.int (nI (come a g i)))]) dX0_nextToCome_69 rfl rfl (by decide) ?_
          refine px_iincn (n := 1) (a := i) (b := i + 1) (ls' := [some (.ref 37), some (.int (nI i)), some (.int (nI (come a g i))), some (.int (nI (i + 1))), some (.int (nI (come a g i)))]) dX0_nextToCome_70 rfl rfl rfl (by omega) ?_
          refine pw_goto (tgt := 6) dX0_nextToCome_73 (by decide) ?_
          exact ih _
        | some u =>
          have hu := nxp_lt hN
          have hcu := come_le hw hna hk48 hB (show u < n by omega) hu.2
          show PS l E D cA mX0_nextToCome d fin 54 [some (.ref 37), some (.int (nI u)), some (.int (nI (come a g u))), some (.int (nI i)), some (.int (nI (come a g i)))] [] μ
          refine pw_iload_n dX0_nextToCome_54 rfl ?_
          refine pw_iconst_ (v := (-1)) dX0_nextToCome_55 (by decide) ?_
          refine pw_icmp_eq (tgt := 65) dX0_nextToCome_56 (by decide) (fun h9 => absurd h9 (nI_nm1 (by omega))) (fun _ => ?_)
          refine pw_iload dX0_nextToCome_59 rfl ?_
          refine pw_iload_n dX0_nextToCome_61 rfl ?_
          refine pn_ge (tgt := 70) dX0_nextToCome_62 (by decide) (by omega) (by omega) (fun hge => ?_) (fun hge => ?_)
          · refine px_iincn (n := 1) (a := i) (b := i + 1) (ls' := [some (.ref 37), some (.int (nI u)), some (.int (nI (come a g u))), some (.int (nI (i + 1))), some (.int (nI (come a g i)))]) dX0_nextToCome_70 rfl rfl rfl (by omega) ?_
            refine pw_goto (tgt := 6) dX0_nextToCome_73 (by decide) ?_
            rw [show nxp a g (i + 1) = some u by rw [nxp, if_pos hd, hN]; exact if_neg (by omega)] at ih
            exact ih _
          · refine pw_iload_n dX0_nextToCome_65 rfl ?_
            refine px_istore_n (ls' := [some (.ref 37), some (.int (nI i)), some (.int (nI (come a g u))), some (.int (nI i)), some (.int (nI (come a g i)))]) dX0_nextToCome_66 rfl rfl (by decide) ?_
            refine pw_iload dX0_nextToCome_67 rfl ?_
            refine px_istore_n (ls' := [some (.ref 37), some (.int (nI i)), some (.int (nI (come a g i))), some (.int (nI i)), some (.int (nI (come a g i)))]) dX0_nextToCome_69 rfl rfl (by decide) ?_
            refine px_iincn (n := 1) (a := i) (b := i + 1) (ls' := [some (.ref 37), some (.int (nI i)), some (.int (nI (come a g i))), some (.int (nI (i + 1))), some (.int (nI (come a g i)))]) dX0_nextToCome_70 rfl rfl rfl (by omega) ?_
            refine pw_goto (tgt := 6) dX0_nextToCome_73 (by decide) ?_
            rw [show nxp a g (i + 1) = some i by rw [nxp, if_pos hd, hN]; exact if_pos (by omega)] at ih
            exact ih _
      · refine pw_goto (tgt := 70) dX0_nextToCome_29 (by decide) ?_
        refine px_iincn (n := 1) (a := i) (b := i + 1) (ls' := [some (.ref 37), some (.int (eN (nxp a g i))), some (.int (eC a g (nxp a g i))), some (.int (nI (i + 1))), l4]) dX0_nextToCome_70 rfl rfl rfl (by omega) ?_
        refine pw_goto (tgt := 6) dX0_nextToCome_73 (by decide) ?_
        rw [show nxp a g (i + 1) = nxp a g i by rw [nxp, if_neg (by omega)]] at ih
        exact ih _
  exact lp 0 (Nat.zero_le _) _
set_option maxRecDepth 100000 in
set_option maxHeartbeats 4000000 in
theorem c_makeVisit {s n k t : Nat} {a : AS} {g : GT} (hs : isS s) (hw : Wf a) (hna : n ≤ a 3) (hst : μ 37 0 = nI s) (hR : RS μ s a) (hX : GX μ a n g) (hB : GB a n k g) (hk48 : k ≤ 48) (ht : t < n) (hd : dn g t < tl a t) (hf : ∀ ν : Mu, GX ν a n (stp a g t) → (∀ q k, ¬ (38 ≤ q ∧ q < 77) → ν q k = μ q k) → fin none ν) : PS l E D cA mX0_makeVisit (d + 2) fin 0 [some (.ref 37), some (.int (nI t)), none, none, none, none, none] [] μ := by
  have hsg := isS_g hs
  have hs9 := isS_odd hs
  have hs31 : s < 2 ^ 31 := by omega
  have hn6 : n ≤ 6 := Nat.le_trans hna hw.2.2.2.1
  have htn6 : t < 6 := by omega
  have hXt := hX.1 t ht
  have htn : t < a 3 := by omega
  have hT := hR.2.2.2.2 t htn
  have hwt := hw.2.2.2.2.2 t htn
  have htl := tl_le hw htn
  have hp8 := trv_lt hw htn hd
  have hcl := come_le hw hna hk48 hB ht hd
  have hfl := hB.2.1 (trv a t (dn g t))
  have hd8 : dn g t < 8 := by omega
  refine pw_aload_n dX0_makeVisit_0 rfl ?_
  refine ps_getr (r := 74) dX0_makeVisit_1 kf_X0_32 (by decide) (by decide +kernel) ?_
  refine pw_iload_n dX0_makeVisit_4 rfl ?_
  refine ps_iald (j := t) (x := nI (dn g t)) dX0_makeVisit_5 rfl (ok_ar (n := 6) (by decide +kernel) (by omega)) (hXt.2.1) ?_
  refine px_istore_n (ls' := [some (.ref 37), some (.int (nI t)), some (.int (nI (dn g t))), none, none, none, none]) dX0_makeVisit_6 rfl rfl (by decide) ?_
  refine pw_aload_n dX0_makeVisit_7 rfl ?_
  refine ps_getr (r := 39) dX0_makeVisit_8 kf_X0_17 (by decide) (by decide +kernel) ?_
  refine pw_iload_n dX0_makeVisit_11 rfl ?_
  refine ps_aald (t := 3) (j := t) (r := 40 + t) dX0_makeVisit_12 rfl (ok_g (b := 39) (by decide) (by omega)) (by decide) ?_
  refine pw_iload_n dX0_makeVisit_13 rfl ?_
  refine ps_iald (j := dn g t) (x := nI (trv a t (dn g t))) dX0_makeVisit_14 rfl (ok_ar (n := 8) (ok_gr (b := 39) (by decide) (by omega)) (by omega)) (hXt.2.2.2.1 _ hd).1 ?_
  refine px_istore_n (ls' := [some (.ref 37), some (.int (nI t)), some (.int (nI (dn g t))), some (.int (nI (trv a t (dn g t)))), none, none, none]) dX0_makeVisit_15 rfl rfl (by decide) ?_
  refine pw_aload_n dX0_makeVisit_16 rfl ?_
  refine ps_getr (r := 75) dX0_makeVisit_17 kf_X0_35 (by decide) (by decide +kernel) ?_
  refine pw_iload_n dX0_makeVisit_20 rfl ?_
  refine ps_iald (j := t) (x := nI (ov g t)) dX0_makeVisit_21 rfl (ok_ar (n := 6) (by decide +kernel) (by omega)) (hXt.2.2.1) ?_
  refine pw_aload_n dX0_makeVisit_22 rfl ?_
  refine ps_getr (r := 46) dX0_makeVisit_23 kf_X0_20 (by decide) (by decide +kernel) ?_
  refine pw_iload_n dX0_makeVisit_26 rfl ?_
  refine ps_aald (t := 3) (j := t) (r := 47 + t) dX0_makeVisit_27 rfl (ok_g (b := 46) (by decide) (by omega)) (by decide) ?_
  refine pw_iload_n dX0_makeVisit_28 rfl ?_
  refine ps_iald (j := dn g t) (x := nI (wk a t (dn g t))) dX0_makeVisit_29 rfl (ok_ar (n := 8) (ok_gr (b := 46) (by decide) (by omega)) (by omega)) (hXt.2.2.2.1 _ hd).2 ?_
  refine px_iaddn (c := come a g t) dX0_makeVisit_30 rfl ?_
  refine px_istore (ls' := [some (.ref 37), some (.int (nI t)), some (.int (nI (dn g t))), some (.int (nI (trv a t (dn g t)))), some (.int (nI (come a g t))), none, none]) dX0_makeVisit_31 rfl rfl (by decide) ?_
  refine pw_iload dX0_makeVisit_33 rfl ?_
  refine pw_aload_n dX0_makeVisit_35 rfl ?_
  refine ps_getr (r := 76) dX0_makeVisit_36 kf_X0_38 (by decide) (by decide +kernel) ?_
  refine pw_iload_n dX0_makeVisit_39 rfl ?_
  refine ps_iald (j := trv a t (dn g t)) (x := nI (fr g (trv a t (dn g t)))) dX0_makeVisit_40 rfl (ok_ar (n := 8) (by decide +kernel) (by omega)) (hX.2 _ hp8) ?_
  refine pw_mmax dX0_makeVisit_41 cm_X0_105 (by rw [em_len]; exact Nat.le_refl _) (by rw [em_sum]; exact Nat.le_refl _) (Nat.le_of_ble_eq_true rfl) ?_
  rw [max_nI (by omega) (by omega)]
  obtain ⟨B, hBd⟩ : ∃ B, B = (if come a g t < fr g (trv a t (dn g t)) then fr g (trv a t (dn g t)) else come a g t) := ⟨_, rfl⟩
  rw [← hBd]
  have hBl : B ≤ 11000 := by
    rw [hBd]
    split <;> omega
  refine px_istore (ls' := [some (.ref 37), some (.int (nI t)), some (.int (nI (dn g t))), some (.int (nI (trv a t (dn g t)))), some (.int (nI (come a g t))), some (.int (nI B)), none]) dX0_makeVisit_44 rfl rfl (by decide) ?_
  refine pw_iload dX0_makeVisit_46 rfl ?_
  refine pw_aload_n dX0_makeVisit_48 rfl ?_
  refine ps_getd (r := s) dX0_makeVisit_49 kf_X0_41 (by decide) (by decide +kernel) hs31 hst ?_
  refine pw_iload_n dX0_makeVisit_52 rfl ?_
  refine pw_iload_n dX0_makeVisit_53 rfl ?_
  refine ps_callV (b := s) (As := [.int (nI t), .int (nI (trv a t (dn g t)))]) (st := [.int (nI B)]) dX0_makeVisit_54 cv_X0_109 rfl ⟨(okk_of (ok_S hs).1).1, (okk_of (ok_S hs).1).2.1⟩ (Nat.le_of_ble_eq_true rfl) (Nat.le_of_ble_eq_true rfl) ?_
  refine c_S_lookOf hs htn6 hwt.2.1 hp8 hT.2.2.1 (hR.2.2.1 _ hp8).2.2 (hw.2.2.2.2.1 _ hp8).2.2.1.2 ?_
  show PS l E D cA mX0_makeVisit (d + 2) fin 57 [some (.ref 37), some (.int (nI t)), some (.int (nI (dn g t))), some (.int (nI (trv a t (dn g t)))), some (.int (nI (come a g t))), some (.int (nI B)), none] [.int (nI (lk a t (trv a t (dn g t)))), .int (nI B)] μ
  have hlk := lk_le hw (t := t) hp8
  obtain ⟨C, hC⟩ : ∃ C, C = B + lk a t (trv a t (dn g t)) := ⟨_, rfl⟩
  refine px_iaddn (c := C) dX0_makeVisit_57 hC.symm ?_
  refine px_istore (ls' := [some (.ref 37), some (.int (nI t)), some (.int (nI (dn g t))), some (.int (nI (trv a t (dn g t)))), some (.int (nI (come a g t))), some (.int (nI B)), some (.int (nI C))]) dX0_makeVisit_58 rfl rfl (by decide) ?_
  refine pw_aload_n dX0_makeVisit_60 rfl ?_
  refine ps_getr (r := 53) dX0_makeVisit_61 kf_X0_23 (by decide) (by decide +kernel) ?_
  refine pw_iload_n dX0_makeVisit_64 rfl ?_
  refine ps_aald (t := 3) (j := t) (r := 54 + t) dX0_makeVisit_65 rfl (ok_g (b := 53) (by decide) (by omega)) (by decide) ?_
  refine pw_iload_n dX0_makeVisit_66 rfl ?_
  refine pw_iload dX0_makeVisit_67 rfl ?_
  refine ps_iast (j := dn g t) dX0_makeVisit_69 rfl (ok_ar (n := 8) (ok_gr (b := 53) (by decide) (by omega)) (by omega)) ?_
  refine pw_aload_n dX0_makeVisit_70 rfl ?_
  refine ps_getr (r := 60) dX0_makeVisit_71 kf_X0_26 (by decide) (by decide +kernel) ?_
  refine pw_iload_n dX0_makeVisit_74 rfl ?_
  refine ps_aald (t := 3) (j := t) (r := 61 + t) dX0_makeVisit_75 rfl (ok_g (b := 60) (by decide) (by omega)) (by decide) ?_
  refine pw_iload_n dX0_makeVisit_76 rfl ?_
  refine pw_iload dX0_makeVisit_77 rfl ?_
  refine ps_iast (j := dn g t) dX0_makeVisit_79 rfl (ok_ar (n := 8) (ok_gr (b := 60) (by decide) (by omega)) (by omega)) ?_
  refine pw_aload_n dX0_makeVisit_80 rfl ?_
  refine ps_getr (r := 67) dX0_makeVisit_81 kf_X0_29 (by decide) (by decide +kernel) ?_
  refine pw_iload_n dX0_makeVisit_84 rfl ?_
  refine ps_aald (t := 3) (j := t) (r := 68 + t) dX0_makeVisit_85 rfl (ok_g (b := 67) (by decide) (by omega)) (by decide) ?_
  refine pw_iload_n dX0_makeVisit_86 rfl ?_
  refine pw_iload dX0_makeVisit_87 rfl ?_
  refine ps_iast (j := dn g t) dX0_makeVisit_89 rfl (ok_ar (n := 8) (ok_gr (b := 67) (by decide) (by omega)) (by omega)) ?_
  refine pw_aload_n dX0_makeVisit_90 rfl ?_
  refine ps_getr (r := 76) dX0_makeVisit_91 kf_X0_38 (by decide) (by decide +kernel) ?_
  refine pw_iload_n dX0_makeVisit_94 rfl ?_
  refine pw_iload dX0_makeVisit_95 rfl ?_
  refine ps_iast (j := trv a t (dn g t)) dX0_makeVisit_97 rfl (ok_ar (n := 8) (by decide +kernel) (by omega)) ?_
  refine pw_aload_n dX0_makeVisit_98 rfl ?_
  refine ps_getr (r := 75) dX0_makeVisit_99 kf_X0_35 (by decide) (by decide +kernel) ?_
  refine pw_iload_n dX0_makeVisit_102 rfl ?_
  refine pw_iload dX0_makeVisit_103 rfl ?_
  refine ps_iast (j := t) dX0_makeVisit_105 rfl (ok_ar (n := 6) (by decide +kernel) (by omega)) ?_
  refine pw_aload_n dX0_makeVisit_106 rfl ?_
  refine ps_getr (r := 74) dX0_makeVisit_107 kf_X0_32 (by decide) (by decide +kernel) ?_
  refine pw_iload_n dX0_makeVisit_110 rfl ?_
  refine pw_iload_n dX0_makeVisit_111 rfl ?_
  refine pw_iconst_ (v := nI 1) dX0_makeVisit_112 (by decide) ?_
  refine px_iaddn (c := dn g t + 1) dX0_makeVisit_113 (by omega) ?_
  refine ps_iast (j := t) dX0_makeVisit_114 rfl (ok_ar (n := 6) (by decide +kernel) (by omega)) ?_
  refine ps_ret dX0_makeVisit_115 rfl (hf _ ⟨?_, ?_⟩ ?_)
  · intro u hu
    have hXu := hX.1 u hu
    show _ ∧ _ = nI (up1 (dn g) t (dn g t + 1) u) ∧ _ = nI (up1 (ov g) t _ u) ∧ _ ∧ ∀ v, v < up1 (dn g) t (dn g t + 1) u → _ = nI (up2 (cm g) t (dn g t) (come a g t) u v) ∧ _ = nI (up2 (bg g) t (dn g t) _ u v) ∧ _ = nI (up2 (en g) t (dn g t) _ u v)
    rw [← hBd, ← hC]
    refine ⟨?_, ?_, ?_, fun v hv => ⟨?_, ?_⟩, fun v hv => ?_⟩
    · rw [u2_a (by omega), u2_a (by omega), u2_a (by omega), u2_a (by omega), u2_a (by omega), u2_a (by omega)]
      exact hXu.1
    · by_cases e : u = t
      · subst e
        rw [up1_s, u2_s]
      · rw [up1_n e, u2_b e, u2_a (by omega), u2_a (by omega), u2_a (by omega), u2_a (by omega), u2_a (by omega)]
        exact hXu.2.1
    · by_cases e : u = t
      · subst e
        rw [up1_s, u2_a (by omega), u2_s]
      · rw [up1_n e, u2_a (by omega), u2_b e, u2_a (by omega), u2_a (by omega), u2_a (by omega), u2_a (by omega)]
        exact hXu.2.2.1
    · rw [u2_a (by omega), u2_a (by omega), u2_a (by omega), u2_a (by omega), u2_a (by omega), u2_a (by omega)]
      exact (hXu.2.2.2.1 v hv).1
    · rw [u2_a (by omega), u2_a (by omega), u2_a (by omega), u2_a (by omega), u2_a (by omega), u2_a (by omega)]
      exact (hXu.2.2.2.1 v hv).2
    · have hv2 : ¬ (u = t ∧ v = dn g t) → v < dn g u := by
        intro e
        by_cases e2 : u = t
        · subst e2
          rw [up1_s] at hv
          omega
        · rw [up1_n e2] at hv
          exact hv
      refine ⟨?_, ?_, ?_⟩
      · rw [u2_a (by omega), u2_a (by omega), u2_a (by omega), u2_a (by omega), u2_a (by omega)]
        by_cases e : u = t ∧ v = dn g t
        · obtain ⟨rfl, rfl⟩ := e
          rw [up2_s, u2_s]
        · have h9 := (hXu.2.2.2.2 v (hv2 e)).1
          rw [up2_n e]
          by_cases e3 : u = t
          · rw [u2_b (fun q => e ⟨e3, q⟩)]
            exact h9
          · rw [u2_a (by omega)]
            exact h9
      · rw [u2_a (by omega), u2_a (by omega), u2_a (by omega), u2_a (by omega)]
        by_cases e : u = t ∧ v = dn g t
        · obtain ⟨rfl, rfl⟩ := e
          rw [up2_s, u2_s]
        · have h9 := (hXu.2.2.2.2 v (hv2 e)).2.1
          rw [up2_n e]
          by_cases e3 : u = t
          · rw [u2_b (fun q => e ⟨e3, q⟩), u2_a (by omega)]
            exact h9
          · rw [u2_a (by omega), u2_a (by omega)]
            exact h9
      · rw [u2_a (by omega), u2_a (by omega), u2_a (by omega)]
        by_cases e : u = t ∧ v = dn g t
        · obtain ⟨rfl, rfl⟩ := e
          rw [up2_s, u2_s]
        · have h9 := (hXu.2.2.2.2 v (hv2 e)).2.2
          rw [up2_n e]
          by_cases e3 : u = t
          · rw [u2_b (fun q => e ⟨e3, q⟩), u2_a (by omega), u2_a (by omega)]
            exact h9
          · rw [u2_a (by omega), u2_a (by omega), u2_a (by omega)]
            exact h9
  · intro p hp
    show _ = nI (up1 (fr g) (trv a t (dn g t)) _ p)
    rw [← hBd, ← hC, u2_a (by omega), u2_a (by omega)]
    by_cases e : p = trv a t (dn g t)
    · subst e
      rw [up1_s, u2_s]
    · rw [up1_n e, u2_b e, u2_a (by omega), u2_a (by omega), u2_a (by omega)]
      exact hX.2 p hp
  · intro q k hq
    rw [u2_a (by omega), u2_a (by omega), u2_a (by omega), u2_a (by omega), u2_a (by omega), u2_a (by omega)]
end PLAY2
end
section
/-! Game.play, playNow -/
/-- the Game holds the whole game of a, n teams playing -/
def PX (μ : Mu) (a : AS) (n : Nat) : Prop := GX μ a n (gf a n) ∧ μ 37 1 = nI n
theorem GX.same {μ ν : Mu} {a : AS} {n : Nat} {g : GT} (hn : n ≤ 6) (h : ∀ q k, 38 ≤ q → q < 77 → ν q k = μ q k) (hX : GX μ a n g) : GX ν a n g := by
  refine ⟨fun t ht => ?_, fun p hp => (h _ _ (by omega) (by omega)).trans (hX.2 p hp)⟩
  obtain ⟨h1, h2, h3, h4, h5⟩ := hX.1 t ht
  exact ⟨(h _ _ (by omega) (by omega)).trans h1, (h _ _ (by omega) (by omega)).trans h2, (h _ _ (by omega) (by omega)).trans h3, fun v hv => ⟨(h _ _ (by omega) (by omega)).trans (h4 v hv).1, (h _ _ (by omega) (by omega)).trans (h4 v hv).2⟩, fun v hv => ⟨(h _ _ (by omega) (by omega)).trans (h5 v hv).1, (h _ _ (by omega) (by omega)).trans (h5 v hv).2.1, (h _ _ (by omega) (by omega)).trans (h5 v hv).2.2⟩⟩
section PLAY3
variable {l : Launch} {E : EV} {D : va_G} {cA : Nat → ClassId} {fin : Option Value → Mu → Prop} {μ : Mu} {d : Nat}
set_option maxRecDepth 100000 in
set_option maxHeartbeats 4000000 in
theorem c_play {s n : Nat} {a : AS} (hs : isS s) (hw : Wf a) (hna : n ≤ a 3) (hR : RS μ s a) (hf : ∀ ν : Mu, PX ν a n → ν 37 0 = nI s → (∀ q k, ¬ (37 ≤ q ∧ q < 77) → ν q k = μ q k) → fin none ν) : PS l E D cA mX0_play (d + 3) fin 0 [some (.ref 37), some (.ref s), some (.int (nI n)), none, none] [] μ := by
  have hsg := isS_g hs
  have hs9 := isS_odd hs
  have hs31 : s < 2 ^ 31 := by omega
  have h36 := hw.2.2.2.1
  have hn6 : n ≤ 6 := Nat.le_trans hna hw.2.2.2.1
  refine pw_aload_n dX0_play_0 rfl ?_
  refine pw_aload_n dX0_play_1 rfl ?_
  refine ps_putd dX0_play_2 kf_X0_41 (by decide) (fun q hq => by cases hq; exact ⟨rfl, rfl⟩) (by decide +kernel) hs31 ?_
  refine pw_aload_n dX0_play_5 rfl ?_
  refine pw_iload_n dX0_play_6 rfl ?_
  refine ps_puti dX0_play_7 kf_X0_45 (by decide) rfl (by decide +kernel) ?_
  refine pw_aload_n dX0_play_10 rfl ?_
  refine ps_getr (r := 76) dX0_play_11 kf_X0_38 (by decide) (by decide +kernel) ?_
  refine pw_iconst_ (v := nI 0) dX0_play_14 (by decide) ?_
  refine ps_callS (As := [.ref 76, .int (nI 0)]) (st := []) dX0_play_15 cs_X0_49 rfl (Nat.le_of_ble_eq_true rfl) (Nat.le_of_ble_eq_true rfl) ?_
  refine c_fill (n := 8) (by decide +kernel) ?_
  intro ν0 f1 f2
  show PS l E D cA mX0_play (d + 3) fin 18 [some (.ref 37), some (.ref s), some (.int (nI n)), none, none] [] ν0
  refine pw_iconst_ (v := nI 0) dX0_play_18 (by decide) ?_
  refine px_istore_n (ls' := [some (.ref 37), some (.ref s), some (.int (nI n)), some (.int (nI 0)), none]) dX0_play_19 rfl rfl (by decide) ?_
  have lq : ∀ k : Nat, k ≤ 48 → ∀ (l4 : Option Value) (ν : Mu), ((∀ q k, ¬ (37 ≤ q ∧ q < 77) → ν q k = μ q k) ∧ ν 37 0 = nI s ∧ ν 37 1 = nI n ∧ GX ν a n (gi a n k)) → PS l E D cA mX0_play (d + 3) fin 66 [some (.ref 37), some (.ref s), some (.int (nI n)), some (.int (nI k)), l4] [] ν := by
    refine ps_for 48 ?_ ?_
    · rintro l4 ν ⟨h1, h2, h3, h4⟩
      refine pw_iload_n dX0_play_66 rfl ?_
      refine pw_bipush (v := nI 48) dX0_play_67 (by decide) ?_
      refine pn_ge (tgt := 99) dX0_play_69 (by decide) (by omega) (by omega) (fun _ => ?_) (fun h9 => absurd h9 (by omega))
      exact ps_ret dX0_play_99 rfl (hf ν ⟨h4, h3⟩ h2 h1)
    · rintro k hk ih l4 ν ⟨h1, h2, h3, h4⟩
      have hB := gi_B hw hna k
      refine pw_iload_n dX0_play_66 rfl ?_
      refine pw_bipush (v := nI 48) dX0_play_67 (by decide) ?_
      refine pn_ge (tgt := 99) dX0_play_69 (by decide) (by omega) (by omega) (fun h9 => absurd h9 (by omega)) (fun _ => ?_)
      refine pw_aload_n dX0_play_72 rfl ?_
      refine ps_callV (b := 37) (As := []) (st := []) dX0_play_73 cv_X0_70 rfl ⟨by decide, by decide +kernel⟩ (Nat.le_of_ble_eq_true rfl) (Nat.le_of_ble_eq_true rfl) ?_
      refine c_nextToCome hw hna h3 h4 hB (by omega) ?_
      show PS l E D cA mX0_play (d + 3) fin 76 [some (.ref 37), some (.ref s), some (.int (nI n)), some (.int (nI k)), l4] [.int (eN (nxp a (gi a n k) n))] ν
      cases hN : nxp a (gi a n k) n with
      | none =>
        show PS l E D cA mX0_play (d + 3) fin 76 [some (.ref 37), some (.ref s), some (.int (nI n)), some (.int (nI k)), l4] [.int (-1)] ν
        refine px_istore (ls' := [some (.ref 37), some (.ref s), some (.int (nI n)), some (.int (nI k)), some (.int (-1))]) dX0_play_76 rfl rfl (by decide) ?_
        refine pw_iload dX0_play_78 rfl ?_
        refine pw_iconst_ (v := (-1)) dX0_play_80 (by decide) ?_
        refine pw_icmp_ne (tgt := 87) dX0_play_81 (by decide) (fun h9 => absurd rfl h9) (fun _ => ?_)
        refine pw_goto (tgt := 99) dX0_play_84 (by decide) ?_
        exact ps_ret dX0_play_99 rfl (hf ν ⟨by rw [gf_none hN (by omega)]; exact h4, h3⟩ h2 h1)
      | some t =>
        have hu := nxp_lt hN
        show PS l E D cA mX0_play (d + 3) fin 76 [some (.ref 37), some (.ref s), some (.int (nI n)), some (.int (nI k)), l4] [.int (nI t)] ν
        refine px_istore (ls' := [some (.ref 37), some (.ref s), some (.int (nI n)), some (.int (nI k)), some (.int (nI t))]) dX0_play_76 rfl rfl (by decide) ?_
        refine pw_iload dX0_play_78 rfl ?_
        refine pw_iconst_ (v := (-1)) dX0_play_80 (by decide) ?_
        refine pw_icmp_ne (tgt := 87) dX0_play_81 (by decide) (fun _ => ?_) (fun h9 => absurd h9 (nI_nm1 (by omega)))
        refine pw_aload_n dX0_play_87 rfl ?_
        refine pw_iload dX0_play_88 rfl ?_
        refine ps_callV (b := 37) (As := [.int (nI t)]) (st := []) dX0_play_90 cv_X0_74 rfl ⟨by decide, by decide +kernel⟩ (Nat.le_of_ble_eq_true rfl) (Nat.le_of_ble_eq_true rfl) ?_
        refine c_makeVisit hs hw hna h2 (RS.same (by omega) (fun i k g1 g2 => h1 i k (by omega)) hR) h4 hB (by omega) hu.1 hu.2 ?_
        intro η g1 g2
        show PS l E D cA mX0_play (d + 3) fin 93 [some (.ref 37), some (.ref s), some (.int (nI n)), some (.int (nI k)), some (.int (nI t))] [] η
        refine px_iincn (n := 1) (a := k) (b := k + 1) (ls' := [some (.ref 37), some (.ref s), some (.int (nI n)), some (.int (nI (k + 1))), some (.int (nI t))]) dX0_play_93 rfl rfl rfl (by omega) ?_
        refine pw_goto (tgt := 66) dX0_play_96 (by decide) ?_
        exact ih _ η ⟨fun q k hq => (g2 q k (by omega)).trans (h1 q k hq), (g2 _ _ (by omega)).trans h2, (g2 _ _ (by omega)).trans h3, by rw [gi_some hN]; exact g1⟩
  have lp : ∀ i : Nat, i ≤ n → ∀ ν : Mu, ((∀ q k, ¬ (37 ≤ q ∧ q < 77) → ν q k = μ q k) ∧ ν 37 0 = nI s ∧ ν 37 1 = nI n ∧ (∀ p, p < 8 → ν 76 p = nI 0) ∧ ∀ t, t < i → ν 38 t = nI (tl a t) ∧ ν 74 t = nI 0 ∧ ν 75 t = nI (a (36 + 12 * t)) ∧ ∀ v, v < tl a t → ν (40 + t) v = nI (trv a t v) ∧ ν (47 + t) v = nI (wk a t v)) → PS l E D cA mX0_play (d + 3) fin 20 [some (.ref 37), some (.ref s), some (.int (nI n)), some (.int (nI i)), none] [] ν := by
    refine ps_for n ?_ ?_
    · rintro ν ⟨h1, h2, h3, h4, h5⟩
      refine pw_iload_n dX0_play_20 rfl ?_
      refine pw_aload_n dX0_play_21 rfl ?_
      refine ps_geti (x := nI n) dX0_play_22 kf_X0_45 (by decide) (by decide +kernel) h3 ?_
      refine pn_ge (tgt := 64) dX0_play_25 (by decide) (by omega) (by omega) (fun _ => ?_) (fun h9 => absurd h9 (by omega))
      refine pw_iconst_ (v := nI 0) dX0_play_64 (by decide) ?_
      refine px_istore_n (ls' := [some (.ref 37), some (.ref s), some (.int (nI n)), some (.int (nI 0)), none]) dX0_play_65 rfl rfl (by decide) ?_
      refine lq 0 (Nat.zero_le _) _ ν ⟨h1, h2, h3, fun t ht => ?_, h4⟩
      obtain ⟨k1, k2, k3, k4⟩ := h5 t ht
      exact ⟨k1, k2, k3, k4, fun v hv => absurd hv (Nat.not_lt_zero _)⟩
    · rintro i hi ih ν ⟨h1, h2, h3, h4, h5⟩
      have hT := hR.2.2.2.2 i (by omega)
      refine pw_iload_n dX0_play_20 rfl ?_
      refine pw_aload_n dX0_play_21 rfl ?_
      refine ps_geti (x := nI n) dX0_play_22 kf_X0_45 (by decide) (by decide +kernel) h3 ?_
      refine pn_ge (tgt := 64) dX0_play_25 (by decide) (by omega) (by omega) (fun h9 => absurd h9 (by omega)) (fun _ => ?_)
      refine pw_aload_n dX0_play_28 rfl ?_
      refine pw_iload_n dX0_play_29 rfl ?_
      refine ps_callV (b := 37) (As := [.int (nI i)]) (st := []) dX0_play_30 cv_X0_55 rfl ⟨by decide, by decide +kernel⟩ (Nat.le_of_ble_eq_true rfl) (Nat.le_of_ble_eq_true rfl) ?_
      refine c_layTrail hs hw hna h2 h3 (RS.same (by omega) (fun i k g1 g2 => h1 i k (by omega)) hR) hi ?_
      intro η g1 g2 g3
      show PS l E D cA mX0_play (d + 3) fin 33 [some (.ref 37), some (.ref s), some (.int (nI n)), some (.int (nI i)), none] [] η
      refine pw_aload_n dX0_play_33 rfl ?_
      refine ps_getr (r := 74) dX0_play_34 kf_X0_32 (by decide) (by decide +kernel) ?_
      refine pw_iload_n dX0_play_37 rfl ?_
      refine pw_iconst_ (v := nI 0) dX0_play_38 (by decide) ?_
      refine ps_iast (j := i) dX0_play_39 rfl (ok_ar (n := 6) (by decide +kernel) (by omega)) ?_
      refine pw_aload_n dX0_play_40 rfl ?_
      refine ps_getr (r := 75) dX0_play_41 kf_X0_35 (by decide) (by decide +kernel) ?_
      refine pw_iload_n dX0_play_44 rfl ?_
      refine pw_aload_n dX0_play_45 rfl ?_
      refine ps_getd (r := s) dX0_play_46 kf_X0_41 (by decide) (by decide +kernel) hs31 ((u2_a (by omega)).trans ((g1 _ _ (by omega) (by omega) (by omega)).trans h2)) ?_
      refine ps_getr (r := s + 5) dX0_play_49 kf_X0_59 (by decide) ((ok_S hs).2.2.2.2.2.1) ?_
      refine pw_iload_n dX0_play_52 rfl ?_
      refine ps_aald (t := 5) (j := i) (r := s + 6 + 2 * i) dX0_play_53 rfl (ok_T hs (by omega)).1 (by decide) ?_
      refine ps_geti (x := nI (a (36 + 12 * i))) dX0_play_54 kf_X0_65 (by decide) ((ok_T hs (by omega)).2.2.2.1) ((u2_a (by omega)).trans ((g1 _ _ (by omega) (by omega) (by omega)).trans ((h1 _ _ (by omega)).trans hT.2.1))) ?_
      refine ps_iast (j := i) dX0_play_57 rfl (ok_ar (n := 6) (by decide +kernel) (by omega)) ?_
      refine px_iincn (n := 1) (a := i) (b := i + 1) (ls' := [some (.ref 37), some (.ref s), some (.int (nI n)), some (.int (nI (i + 1))), none]) dX0_play_58 rfl rfl rfl (by omega) ?_
      refine pw_goto (tgt := 20) dX0_play_61 (by decide) ?_
      refine ih _ ⟨fun q k hq => ?_, ?_, ?_, fun p hp => ?_, fun t ht => ?_⟩
      · rw [u2_a (by omega), u2_a (by omega), g1 q k (by omega) (by omega) (by omega)]
        exact h1 q k hq
      · rw [u2_a (by omega), u2_a (by omega), g1 _ _ (by omega) (by omega) (by omega)]
        exact h2
      · rw [u2_a (by omega), u2_a (by omega), g1 _ _ (by omega) (by omega) (by omega)]
        exact h3
      · rw [u2_a (by omega), u2_a (by omega), g1 _ _ (by omega) (by omega) (by omega)]
        exact h4 p hp
      · by_cases e : t = i
        · subst e
          refine ⟨?_, ?_, ?_, fun v hv => ⟨?_, ?_⟩⟩
          · rw [u2_a (by omega), u2_a (by omega)]
            exact g2
          · rw [u2_a (by omega), u2_s]
          · rw [u2_s]
          · rw [u2_a (by omega), u2_a (by omega)]
            exact (g3 v hv).1
          · rw [u2_a (by omega), u2_a (by omega)]
            exact (g3 v hv).2
        · obtain ⟨k1, k2, k3, k4⟩ := h5 t (by omega)
          refine ⟨?_, ?_, ?_, fun v hv => ⟨?_, ?_⟩⟩
          · rw [u2_a (by omega), u2_a (by omega), g1 _ _ (fun _ => e) (by omega) (by omega)]
            exact k1
          · rw [u2_a (by omega), u2_b e, g1 _ _ (by omega) (by omega) (by omega)]
            exact k2
          · rw [u2_b e, u2_a (by omega), g1 _ _ (by omega) (by omega) (by omega)]
            exact k3
          · rw [u2_a (by omega), u2_a (by omega), g1 _ _ (by omega) (by omega) (by omega)]
            exact (k4 v hv).1
          · rw [u2_a (by omega), u2_a (by omega), g1 _ _ (by omega) (by omega) (by omega)]
            exact (k4 v hv).2
  refine lp 0 (Nat.zero_le _) ν0 ⟨fun q k hq => ?_, ?_, ?_, f2, fun t ht => absurd ht (Nat.not_lt_zero _)⟩
  · rw [f1 q k (by omega), u2_a (by omega), u2_a (by omega)]
  · rw [f1 _ _ (by omega), u2_b (by decide), u2_s]
  · rw [f1 _ _ (by omega), u2_s]
set_option maxRecDepth 100000 in
set_option maxHeartbeats 4000000 in
theorem c_playNow {a : AS} (hw : Wf a) (hR : RS μ 1 a) (hf : ∀ ν : Mu, PX ν a (a 3) → ν 37 0 = nI 1 → (∀ q k, ¬ (37 ≤ q ∧ q < 77) → ν q k = μ q k) → fin none ν) : PS l E D cA mX5_playNow (d + 4) fin 0 [some (.ref 0)] [] μ := by
  refine pw_aload_n dX5_playNow_0 rfl ?_
  refine ps_getr (r := 37) dX5_playNow_1 kf_X5_22 (by decide) (by decide +kernel) ?_
  refine pw_aload_n dX5_playNow_4 rfl ?_
  refine ps_getr (r := 1) dX5_playNow_5 kf_X5_10 (by decide) (by decide +kernel) ?_
  refine pw_aload_n dX5_playNow_8 rfl ?_
  refine ps_getr (r := 1) dX5_playNow_9 kf_X5_10 (by decide) (by decide +kernel) ?_
  refine ps_geti (x := nI (a 3)) dX5_playNow_12 kf_X5_98 (by decide) (by decide +kernel) (hR.2.1) ?_
  refine ps_callV (b := 37) (As := [.ref 1, .int (nI (a 3))]) (st := []) dX5_playNow_15 cv_X5_247 rfl ⟨by decide, by decide +kernel⟩ (Nat.le_of_ble_eq_true rfl) (Nat.le_of_ble_eq_true rfl) ?_
  refine c_play (by unfold isS; decide) hw (Nat.le_refl _) hR ?_
  intro ν h1 h2 h3
  show PS l E D cA mX5_playNow (d + 4) fin 18 [some (.ref 0)] [] ν
  exact ps_ret dX5_playNow_18 rfl (hf ν h1 h2 h3)
set_option maxRecDepth 100000 in
set_option maxHeartbeats 4000000 in
theorem c_endNow {a : AS} {t : Nat} (hw : Wf a) (hR : RS μ 1 a) (ht : t < a 3) (hf : ∀ ν : Mu, PX ν a (a 3) → ν 37 0 = nI 1 → (∀ q k, ¬ (37 ≤ q ∧ q < 77) → ν q k = μ q k) → fin (some (.int (nI (ov (gf a (a 3)) t)))) ν) : PS l E D cA mX5_endNow (d + 5) fin 0 [some (.ref 0), some (.int (nI t))] [] μ := by
  refine pw_aload_n dX5_endNow_0 rfl ?_
  refine ps_callV (b := 0) (As := []) (st := []) dX5_endNow_1 cv_X5_159 rfl ⟨by decide, by decide +kernel⟩ (Nat.le_of_ble_eq_true rfl) (Nat.le_of_ble_eq_true rfl) ?_
  refine c_playNow hw hR ?_
  intro ν h1 h2 h3
  show PS l E D cA mX5_endNow (d + 5) fin 4 [some (.ref 0), some (.int (nI t))] [] ν
  refine pw_aload_n dX5_endNow_4 rfl ?_
  refine ps_getr (r := 37) dX5_endNow_5 kf_X5_22 (by decide) (by decide +kernel) ?_
  refine ps_getr (r := 75) dX5_endNow_8 kf_X5_184 (by decide) (by decide +kernel) ?_
  refine pw_iload_n dX5_endNow_11 rfl ?_
  refine ps_iald (j := t) (x := nI (ov (gf a (a 3)) t)) dX5_endNow_12 rfl (ok_ar (n := 6) (by decide +kernel) (by have := hw.2.2.2.1; omega)) (h1.1.1 t ht).2.2.1 ?_
  exact ps_iret dX5_endNow_13 rfl (rfl) (hf ν h1 h2 h3)
end PLAY3
end
