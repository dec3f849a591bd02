section
-- ===== PART A: goes FIRST, ahead of the names: the tables' words, and 'selects' of the private methods out of them =====
/-- a private method of a class that the tables say can be made, by its rows of tables_1 -/
def lw_okq (q : MethodName × Nat) : Prop := (q.1.cls ≠ "java/lang/invoke/MethodHandle" ∧ q.1.cls ≠ "java/lang/invoke/VarHandle") ∧ Cond.instantiable q.1.cls q.2 ∈ tables_1 ∧ Cond.privateMethod q.1 ∈ tables_1 ∧ Cond.instanceMethod q.1 ∈ tables_1
theorem lw_p0 : lw_okq (⟨"MatchingService$Flow", "copyAssignment", "(I)V"⟩, 10) := ⟨⟨by decide +kernel, by decide +kernel⟩, List.mem_of_getElem? (i := 168) (by decide +kernel), List.mem_of_getElem? (i := 261) (by decide +kernel), List.mem_of_getElem? (i := 262) (by decide +kernel)⟩
theorem lw_p1 : lw_okq (⟨"MatchingService$Flow", "startOf", "(I)I"⟩, 10) := ⟨⟨by decide +kernel, by decide +kernel⟩, List.mem_of_getElem? (i := 168) (by decide +kernel), List.mem_of_getElem? (i := 265) (by decide +kernel), List.mem_of_getElem? (i := 266) (by decide +kernel)⟩
theorem lw_p2 : lw_okq (⟨"MatchingService$Flow", "augment", "()Z"⟩, 10) := ⟨⟨by decide +kernel, by decide +kernel⟩, List.mem_of_getElem? (i := 168) (by decide +kernel), List.mem_of_getElem? (i := 282) (by decide +kernel), List.mem_of_getElem? (i := 283) (by decide +kernel)⟩
theorem lw_p3 : lw_okq (⟨"MatchingService$Flow", "startAtGroups", "()V"⟩, 10) := ⟨⟨by decide +kernel, by decide +kernel⟩, List.mem_of_getElem? (i := 168) (by decide +kernel), List.mem_of_getElem? (i := 286) (by decide +kernel), List.mem_of_getElem? (i := 287) (by decide +kernel)⟩
theorem lw_p4 : lw_okq (⟨"MatchingService$Flow", "reach", "(III)V"⟩, 10) := ⟨⟨by decide +kernel, by decide +kernel⟩, List.mem_of_getElem? (i := 168) (by decide +kernel), List.mem_of_getElem? (i := 290) (by decide +kernel), List.mem_of_getElem? (i := 291) (by decide +kernel)⟩
theorem lw_p5 : lw_okq (⟨"MatchingService$Flow", "leave", "(I)I"⟩, 10) := ⟨⟨by decide +kernel, by decide +kernel⟩, List.mem_of_getElem? (i := 168) (by decide +kernel), List.mem_of_getElem? (i := 294) (by decide +kernel), List.mem_of_getElem? (i := 295) (by decide +kernel)⟩
theorem lw_p6 : lw_okq (⟨"MatchingService$Flow", "leaveWith", "(II)I"⟩, 10) := ⟨⟨by decide +kernel, by decide +kernel⟩, List.mem_of_getElem? (i := 168) (by decide +kernel), List.mem_of_getElem? (i := 298) (by decide +kernel), List.mem_of_getElem? (i := 299) (by decide +kernel)⟩
theorem lw_p7 : lw_okq (⟨"MatchingService$Flow", "shiftAlong", "(I)V"⟩, 10) := ⟨⟨by decide +kernel, by decide +kernel⟩, List.mem_of_getElem? (i := 168) (by decide +kernel), List.mem_of_getElem? (i := 305) (by decide +kernel), List.mem_of_getElem? (i := 306) (by decide +kernel)⟩
theorem lw_p8 : lw_okq (⟨"java/lang/Throwable", "fillInStackTrace", "(I)Ljava/lang/Throwable;"⟩, 6) := ⟨⟨by decide +kernel, by decide +kernel⟩, List.mem_of_getElem? (i := 380) (by decide +kernel), List.mem_of_getElem? (i := 378) (by decide +kernel), List.mem_of_getElem? (i := 379) (by decide +kernel)⟩
theorem lw_p9 : lw_okq (⟨"MatchingService$Placer", "nextToTry", "()I"⟩, 4) := ⟨⟨by decide +kernel, by decide +kernel⟩, List.mem_of_getElem? (i := 148) (by decide +kernel), List.mem_of_getElem? (i := 438) (by decide +kernel), List.mem_of_getElem? (i := 439) (by decide +kernel)⟩
theorem lw_p10 : lw_okq (⟨"MatchingService$Placer", "isServedBefore", "(II)Z"⟩, 4) := ⟨⟨by decide +kernel, by decide +kernel⟩, List.mem_of_getElem? (i := 148) (by decide +kernel), List.mem_of_getElem? (i := 443) (by decide +kernel), List.mem_of_getElem? (i := 444) (by decide +kernel)⟩
theorem lw_p11 : lw_okq (⟨"MatchingService$PathSearch", "collectSuccessors", "()V"⟩, 6) := ⟨⟨by decide +kernel, by decide +kernel⟩, List.mem_of_getElem? (i := 120) (by decide +kernel), List.mem_of_getElem? (i := 459) (by decide +kernel), List.mem_of_getElem? (i := 460) (by decide +kernel)⟩
theorem lw_p12 : lw_okq (⟨"MatchingService$PathSearch", "buildLayers", "()V"⟩, 6) := ⟨⟨by decide +kernel, by decide +kernel⟩, List.mem_of_getElem? (i := 120) (by decide +kernel), List.mem_of_getElem? (i := 467) (by decide +kernel), List.mem_of_getElem? (i := 468) (by decide +kernel)⟩
theorem lw_p13 : lw_okq (⟨"MatchingService$PathSearch", "leadingTo", "(I)I"⟩, 6) := ⟨⟨by decide +kernel, by decide +kernel⟩, List.mem_of_getElem? (i := 120) (by decide +kernel), List.mem_of_getElem? (i := 475) (by decide +kernel), List.mem_of_getElem? (i := 476) (by decide +kernel)⟩
theorem lw_p14 : lw_okq (⟨"MatchingService$PathSearch", "shortestFrom", "(I)I"⟩, 6) := ⟨⟨by decide +kernel, by decide +kernel⟩, List.mem_of_getElem? (i := 120) (by decide +kernel), List.mem_of_getElem? (i := 479) (by decide +kernel), List.mem_of_getElem? (i := 480) (by decide +kernel)⟩
theorem lw_p15 : lw_okq (⟨"MatchingService$PathSearch", "trace", "(I)Z"⟩, 6) := ⟨⟨by decide +kernel, by decide +kernel⟩, List.mem_of_getElem? (i := 120) (by decide +kernel), List.mem_of_getElem? (i := 483) (by decide +kernel), List.mem_of_getElem? (i := 484) (by decide +kernel)⟩
def lw_privs_1 : List (MethodName × Nat) := [(⟨"MatchingService$Flow", "copyAssignment", "(I)V"⟩, 10), (⟨"MatchingService$Flow", "startOf", "(I)I"⟩, 10), (⟨"MatchingService$Flow", "augment", "()Z"⟩, 10), (⟨"MatchingService$Flow", "startAtGroups", "()V"⟩, 10), (⟨"MatchingService$Flow", "reach", "(III)V"⟩, 10), (⟨"MatchingService$Flow", "leave", "(I)I"⟩, 10), (⟨"MatchingService$Flow", "leaveWith", "(II)I"⟩, 10), (⟨"MatchingService$Flow", "shiftAlong", "(I)V"⟩, 10), (⟨"java/lang/Throwable", "fillInStackTrace", "(I)Ljava/lang/Throwable;"⟩, 6), (⟨"MatchingService$Placer", "nextToTry", "()I"⟩, 4), (⟨"MatchingService$Placer", "isServedBefore", "(II)Z"⟩, 4), (⟨"MatchingService$PathSearch", "collectSuccessors", "()V"⟩, 6), (⟨"MatchingService$PathSearch", "buildLayers", "()V"⟩, 6), (⟨"MatchingService$PathSearch", "leadingTo", "(I)I"⟩, 6), (⟨"MatchingService$PathSearch", "shortestFrom", "(I)I"⟩, 6), (⟨"MatchingService$PathSearch", "trace", "(I)Z"⟩, 6)]
theorem lw_r1 : ∀ q ∈ lw_privs_1, lw_okq q := List.forall_mem_cons.mpr ⟨lw_p0, List.forall_mem_cons.mpr ⟨lw_p1, List.forall_mem_cons.mpr ⟨lw_p2, List.forall_mem_cons.mpr ⟨lw_p3, List.forall_mem_cons.mpr ⟨lw_p4, List.forall_mem_cons.mpr ⟨lw_p5, List.forall_mem_cons.mpr ⟨lw_p6, List.forall_mem_cons.mpr ⟨lw_p7, List.forall_mem_cons.mpr ⟨lw_p8, List.forall_mem_cons.mpr ⟨lw_p9, List.forall_mem_cons.mpr ⟨lw_p10, List.forall_mem_cons.mpr ⟨lw_p11, List.forall_mem_cons.mpr ⟨lw_p12, List.forall_mem_cons.mpr ⟨lw_p13, List.forall_mem_cons.mpr ⟨lw_p14, List.forall_mem_cons.mpr ⟨lw_p15, fun _ h => absurd h List.not_mem_nil⟩⟩⟩⟩⟩⟩⟩⟩⟩⟩⟩⟩⟩⟩⟩⟩
theorem lw_p16 : lw_okq (⟨"MatchingService$PathSearch", "firstMovable", "(II)I"⟩, 6) := ⟨⟨by decide +kernel, by decide +kernel⟩, List.mem_of_getElem? (i := 120) (by decide +kernel), List.mem_of_getElem? (i := 491) (by decide +kernel), List.mem_of_getElem? (i := 492) (by decide +kernel)⟩
theorem lw_p17 : lw_okq (⟨"MatchingService$Placer", "placeAlongPath", "(I)V"⟩, 4) := ⟨⟨by decide +kernel, by decide +kernel⟩, List.mem_of_getElem? (i := 148) (by decide +kernel), List.mem_of_getElem? (i := 495) (by decide +kernel), List.mem_of_getElem? (i := 496) (by decide +kernel)⟩
theorem lw_p18 : lw_okq (⟨"MatchingService", "requireResource", "(I)V"⟩, 5) := ⟨⟨by decide +kernel, by decide +kernel⟩, List.mem_of_getElem? (i := 17) (by decide +kernel), List.mem_of_getElem? (i := 524) (by decide +kernel), List.mem_of_getElem? (i := 525) (by decide +kernel)⟩
theorem lw_p19 : lw_okq (⟨"MatchingService", "requireGroup", "(I)V"⟩, 5) := ⟨⟨by decide +kernel, by decide +kernel⟩, List.mem_of_getElem? (i := 17) (by decide +kernel), List.mem_of_getElem? (i := 555) (by decide +kernel), List.mem_of_getElem? (i := 556) (by decide +kernel)⟩
theorem lw_p20 : lw_okq (⟨"MatchingService", "requireMask", "(I)V"⟩, 5) := ⟨⟨by decide +kernel, by decide +kernel⟩, List.mem_of_getElem? (i := 17) (by decide +kernel), List.mem_of_getElem? (i := 582) (by decide +kernel), List.mem_of_getElem? (i := 583) (by decide +kernel)⟩
theorem lw_p21 : lw_okq (⟨"MatchingService", "requirePresent", "(I)V"⟩, 5) := ⟨⟨by decide +kernel, by decide +kernel⟩, List.mem_of_getElem? (i := 17) (by decide +kernel), List.mem_of_getElem? (i := 602) (by decide +kernel), List.mem_of_getElem? (i := 603) (by decide +kernel)⟩
theorem lw_p22 : lw_okq (⟨"MatchingService", "requireRequest", "(I)V"⟩, 5) := ⟨⟨by decide +kernel, by decide +kernel⟩, List.mem_of_getElem? (i := 17) (by decide +kernel), List.mem_of_getElem? (i := 606) (by decide +kernel), List.mem_of_getElem? (i := 607) (by decide +kernel)⟩
theorem lw_p23 : lw_okq (⟨"MatchingService", "requireLogged", "(I)V"⟩, 5) := ⟨⟨by decide +kernel, by decide +kernel⟩, List.mem_of_getElem? (i := 17) (by decide +kernel), List.mem_of_getElem? (i := 687) (by decide +kernel), List.mem_of_getElem? (i := 688) (by decide +kernel)⟩
theorem lw_p24 : lw_okq (⟨"MatchingServiceModel", "fail", "(I)I"⟩, 20) := ⟨⟨by decide +kernel, by decide +kernel⟩, List.mem_of_getElem? (i := 716) (by decide +kernel), List.mem_of_getElem? (i := 791) (by decide +kernel), List.mem_of_getElem? (i := 792) (by decide +kernel)⟩
theorem lw_p25 : lw_okq (⟨"MatchingServiceModel", "run", "()I"⟩, 20) := ⟨⟨by decide +kernel, by decide +kernel⟩, List.mem_of_getElem? (i := 716) (by decide +kernel), List.mem_of_getElem? (i := 795) (by decide +kernel), List.mem_of_getElem? (i := 796) (by decide +kernel)⟩
theorem lw_p26 : lw_okq (⟨"MatchingServiceModel", "next", "()I"⟩, 20) := ⟨⟨by decide +kernel, by decide +kernel⟩, List.mem_of_getElem? (i := 716) (by decide +kernel), List.mem_of_getElem? (i := 799) (by decide +kernel), List.mem_of_getElem? (i := 800) (by decide +kernel)⟩
theorem lw_p27 : lw_okq (⟨"MatchingServiceModel", "firstIn", "(I)I"⟩, 20) := ⟨⟨by decide +kernel, by decide +kernel⟩, List.mem_of_getElem? (i := 716) (by decide +kernel), List.mem_of_getElem? (i := 803) (by decide +kernel), List.mem_of_getElem? (i := 804) (by decide +kernel)⟩
theorem lw_p28 : lw_okq (⟨"MatchingServiceModel", "assignedIn", "(I)I"⟩, 20) := ⟨⟨by decide +kernel, by decide +kernel⟩, List.mem_of_getElem? (i := 716) (by decide +kernel), List.mem_of_getElem? (i := 807) (by decide +kernel), List.mem_of_getElem? (i := 808) (by decide +kernel)⟩
theorem lw_p29 : lw_okq (⟨"MatchingServiceModel", "isPlaced", "(I)Z"⟩, 20) := ⟨⟨by decide +kernel, by decide +kernel⟩, List.mem_of_getElem? (i := 716) (by decide +kernel), List.mem_of_getElem? (i := 811) (by decide +kernel), List.mem_of_getElem? (i := 812) (by decide +kernel)⟩
theorem lw_p30 : lw_okq (⟨"MatchingServiceModel", "firstOf", "(I)I"⟩, 20) := ⟨⟨by decide +kernel, by decide +kernel⟩, List.mem_of_getElem? (i := 716) (by decide +kernel), List.mem_of_getElem? (i := 815) (by decide +kernel), List.mem_of_getElem? (i := 816) (by decide +kernel)⟩
theorem lw_p31 : lw_okq (⟨"MatchingServiceModel", "findFar", "()V"⟩, 20) := ⟨⟨by decide +kernel, by decide +kernel⟩, List.mem_of_getElem? (i := 716) (by decide +kernel), List.mem_of_getElem? (i := 819) (by decide +kernel), List.mem_of_getElem? (i := 820) (by decide +kernel)⟩
def lw_privs_2 : List (MethodName × Nat) := [(⟨"MatchingService$PathSearch", "firstMovable", "(II)I"⟩, 6), (⟨"MatchingService$Placer", "placeAlongPath", "(I)V"⟩, 4), (⟨"MatchingService", "requireResource", "(I)V"⟩, 5), (⟨"MatchingService", "requireGroup", "(I)V"⟩, 5), (⟨"MatchingService", "requireMask", "(I)V"⟩, 5), (⟨"MatchingService", "requirePresent", "(I)V"⟩, 5), (⟨"MatchingService", "requireRequest", "(I)V"⟩, 5), (⟨"MatchingService", "requireLogged", "(I)V"⟩, 5), (⟨"MatchingServiceModel", "fail", "(I)I"⟩, 20), (⟨"MatchingServiceModel", "run", "()I"⟩, 20), (⟨"MatchingServiceModel", "next", "()I"⟩, 20), (⟨"MatchingServiceModel", "firstIn", "(I)I"⟩, 20), (⟨"MatchingServiceModel", "assignedIn", "(I)I"⟩, 20), (⟨"MatchingServiceModel", "isPlaced", "(I)Z"⟩, 20), (⟨"MatchingServiceModel", "firstOf", "(I)I"⟩, 20), (⟨"MatchingServiceModel", "findFar", "()V"⟩, 20)]
theorem lw_r2 : ∀ q ∈ lw_privs_2, lw_okq q := List.forall_mem_cons.mpr ⟨lw_p16, List.forall_mem_cons.mpr ⟨lw_p17, List.forall_mem_cons.mpr ⟨lw_p18, List.forall_mem_cons.mpr ⟨lw_p19, List.forall_mem_cons.mpr ⟨lw_p20, List.forall_mem_cons.mpr ⟨lw_p21, List.forall_mem_cons.mpr ⟨lw_p22, List.forall_mem_cons.mpr ⟨lw_p23, List.forall_mem_cons.mpr ⟨lw_p24, List.forall_mem_cons.mpr ⟨lw_p25, List.forall_mem_cons.mpr ⟨lw_p26, List.forall_mem_cons.mpr ⟨lw_p27, List.forall_mem_cons.mpr ⟨lw_p28, List.forall_mem_cons.mpr ⟨lw_p29, List.forall_mem_cons.mpr ⟨lw_p30, List.forall_mem_cons.mpr ⟨lw_p31, fun _ h => absurd h List.not_mem_nil⟩⟩⟩⟩⟩⟩⟩⟩⟩⟩⟩⟩⟩⟩⟩⟩
theorem lw_p32 : lw_okq (⟨"MatchingServiceModel", "loadOf", "(I)I"⟩, 20) := ⟨⟨by decide +kernel, by decide +kernel⟩, List.mem_of_getElem? (i := 716) (by decide +kernel), List.mem_of_getElem? (i := 823) (by decide +kernel), List.mem_of_getElem? (i := 824) (by decide +kernel)⟩
theorem lw_p33 : lw_okq (⟨"MatchingServiceModel", "isAt", "(II)Z"⟩, 20) := ⟨⟨by decide +kernel, by decide +kernel⟩, List.mem_of_getElem? (i := 716) (by decide +kernel), List.mem_of_getElem? (i := 827) (by decide +kernel), List.mem_of_getElem? (i := 828) (by decide +kernel)⟩
theorem lw_p34 : lw_okq (⟨"MatchingServiceModel", "brings", "(II)Z"⟩, 20) := ⟨⟨by decide +kernel, by decide +kernel⟩, List.mem_of_getElem? (i := 716) (by decide +kernel), List.mem_of_getElem? (i := 831) (by decide +kernel), List.mem_of_getElem? (i := 832) (by decide +kernel)⟩
theorem lw_p35 : lw_okq (⟨"MatchingServiceModel", "canMove", "(II)Z"⟩, 20) := ⟨⟨by decide +kernel, by decide +kernel⟩, List.mem_of_getElem? (i := 716) (by decide +kernel), List.mem_of_getElem? (i := 835) (by decide +kernel), List.mem_of_getElem? (i := 836) (by decide +kernel)⟩
theorem lw_p36 : lw_okq (⟨"MatchingServiceModel", "accepts", "(II)Z"⟩, 20) := ⟨⟨by decide +kernel, by decide +kernel⟩, List.mem_of_getElem? (i := 716) (by decide +kernel), List.mem_of_getElem? (i := 839) (by decide +kernel), List.mem_of_getElem? (i := 840) (by decide +kernel)⟩
theorem lw_p37 : lw_okq (⟨"MatchingServiceModel", "movedFrom", "(I)I"⟩, 20) := ⟨⟨by decide +kernel, by decide +kernel⟩, List.mem_of_getElem? (i := 716) (by decide +kernel), List.mem_of_getElem? (i := 843) (by decide +kernel), List.mem_of_getElem? (i := 844) (by decide +kernel)⟩
theorem lw_p38 : lw_okq (⟨"MatchingServiceModel", "log", "(II)V"⟩, 20) := ⟨⟨by decide +kernel, by decide +kernel⟩, List.mem_of_getElem? (i := 716) (by decide +kernel), List.mem_of_getElem? (i := 847) (by decide +kernel), List.mem_of_getElem? (i := 848) (by decide +kernel)⟩
theorem lw_p39 : lw_okq (⟨"MatchingServiceModel", "isResource", "(I)Z"⟩, 20) := ⟨⟨by decide +kernel, by decide +kernel⟩, List.mem_of_getElem? (i := 716) (by decide +kernel), List.mem_of_getElem? (i := 855) (by decide +kernel), List.mem_of_getElem? (i := 856) (by decide +kernel)⟩
theorem lw_p40 : lw_okq (⟨"MatchingServiceModel", "isMask", "(I)Z"⟩, 20) := ⟨⟨by decide +kernel, by decide +kernel⟩, List.mem_of_getElem? (i := 716) (by decide +kernel), List.mem_of_getElem? (i := 874) (by decide +kernel), List.mem_of_getElem? (i := 875) (by decide +kernel)⟩
theorem lw_p41 : lw_okq (⟨"MatchingServiceModel", "isRequest", "(I)Z"⟩, 20) := ⟨⟨by decide +kernel, by decide +kernel⟩, List.mem_of_getElem? (i := 716) (by decide +kernel), List.mem_of_getElem? (i := 882) (by decide +kernel), List.mem_of_getElem? (i := 883) (by decide +kernel)⟩
theorem lw_p42 : lw_okq (⟨"MatchingServiceModel", "countOf", "(I)I"⟩, 20) := ⟨⟨by decide +kernel, by decide +kernel⟩, List.mem_of_getElem? (i := 716) (by decide +kernel), List.mem_of_getElem? (i := 902) (by decide +kernel), List.mem_of_getElem? (i := 903) (by decide +kernel)⟩
theorem lw_p43 : lw_okq (⟨"MatchingServiceModel", "possible", "()I"⟩, 20) := ⟨⟨by decide +kernel, by decide +kernel⟩, List.mem_of_getElem? (i := 716) (by decide +kernel), List.mem_of_getElem? (i := 950) (by decide +kernel), List.mem_of_getElem? (i := 951) (by decide +kernel)⟩
def lw_privs_3 : List (MethodName × Nat) := [(⟨"MatchingServiceModel", "loadOf", "(I)I"⟩, 20), (⟨"MatchingServiceModel", "isAt", "(II)Z"⟩, 20), (⟨"MatchingServiceModel", "brings", "(II)Z"⟩, 20), (⟨"MatchingServiceModel", "canMove", "(II)Z"⟩, 20), (⟨"MatchingServiceModel", "accepts", "(II)Z"⟩, 20), (⟨"MatchingServiceModel", "movedFrom", "(I)I"⟩, 20), (⟨"MatchingServiceModel", "log", "(II)V"⟩, 20), (⟨"MatchingServiceModel", "isResource", "(I)Z"⟩, 20), (⟨"MatchingServiceModel", "isMask", "(I)Z"⟩, 20), (⟨"MatchingServiceModel", "isRequest", "(I)Z"⟩, 20), (⟨"MatchingServiceModel", "countOf", "(I)I"⟩, 20), (⟨"MatchingServiceModel", "possible", "()I"⟩, 20)]
theorem lw_r3 : ∀ q ∈ lw_privs_3, lw_okq q := List.forall_mem_cons.mpr ⟨lw_p32, List.forall_mem_cons.mpr ⟨lw_p33, List.forall_mem_cons.mpr ⟨lw_p34, List.forall_mem_cons.mpr ⟨lw_p35, List.forall_mem_cons.mpr ⟨lw_p36, List.forall_mem_cons.mpr ⟨lw_p37, List.forall_mem_cons.mpr ⟨lw_p38, List.forall_mem_cons.mpr ⟨lw_p39, List.forall_mem_cons.mpr ⟨lw_p40, List.forall_mem_cons.mpr ⟨lw_p41, List.forall_mem_cons.mpr ⟨lw_p42, List.forall_mem_cons.mpr ⟨lw_p43, fun _ h => absurd h List.not_mem_nil⟩⟩⟩⟩⟩⟩⟩⟩⟩⟩⟩⟩
def lw_privs : List (MethodName × Nat) := lw_privs_1 ++ (lw_privs_2 ++ (lw_privs_3))
def lw_tbl : List Cond := k2_sels lw_privs ++ tables_1
theorem lw_privs_ok : ∀ q ∈ lw_privs, lw_okq q := by
  show ∀ q ∈ lw_privs_1 ++ (lw_privs_2 ++ (lw_privs_3)), lw_okq q
  exact List.forall_mem_append.mpr ⟨lw_r1, List.forall_mem_append.mpr ⟨lw_r2, lw_r3⟩⟩
/-- the streams that the claim lets the run draw from -/
abbrev lw_cs : List Choice := [Jvm.Choice.named "NaN.bits"]
theorem lw_bits : nanBits ∈ lw_cs := by first | decide | exact List.mem_cons_self | simp [lw_cs, nanBits]
-- ===== end of PART A; then your names; then what follows =====
end
section
/-! ===== BEGIN words of one list among another's, by their places ===== -/
theorem goodIn_r {big : List Cond} (ws : List Cond) (ps : List Nat) (hp : ws = ps.filterMap (fun i => big[i]?)) (h : ws.all goodWord = true) : GoodIn big ws := by
  intro w hw
  have h1 := List.all_eq_true.mp h w hw
  rw [hp] at hw
  obtain ⟨i, -, hi⟩ := List.mem_filterMap.mp hw
  have hm : w ∈ big := by first | exact List.mem_of_getElem? hi | exact List.getElem?_mem hi
  exact ⟨hm, good_of_word h1⟩
theorem goodIn_app {big a b : List Cond} (ha : GoodIn big a) (hb : GoodIn big b) : GoodIn big (a ++ b) := fun w h => (List.mem_append.mp h).elim (ha w) (hb w)
theorem goodIn_ca {big a b : List Cond} {c : Cond} (ha : GoodIn big (c :: a)) (hb : GoodIn big b) : GoodIn big (c :: (a ++ b)) := fun w h => (List.mem_cons.mp h).elim (fun e => ha w (List.mem_cons.mpr (Or.inl e))) (fun h => (List.mem_append.mp h).elim (fun h => ha w (List.mem_cons.mpr (Or.inr h))) (hb w))
theorem goodIn_sub {big ws : List Cond} (hm : ∀ w ∈ ws, w ∈ big) (h : ws.all goodWord = true) : GoodIn big ws := fun w hw => ⟨hm w hw, good_of_word (List.all_eq_true.mp h w hw)⟩
/-! ===== END ===== -/

/-! ===== BEGIN exceptions that leave a method, and their catching by the caller (launches without stack traces) ===== -/
section VXA
/-! The laws vx_back, vx_callV, vx_callS, vx_callSW, vx_throw0, vx_throwS follow proofs of the library, with one case more: JvmDerived/Free/Laws.lean (Back.of_free), Shelf42/LK1.lean (callV, callS), Shelf/KitTraced.lean (throwNew0V, throwNewS). -/
/-- where a method has thrown q: the class by its name, the cell, what was written, the world -/
def vx_T (XC : String → State → State → Prop) (st : State) (q : Addr) (t : State) (mc ms : Nat) (free : Addr → Prop) : Prop :=
  ∃ (E : String) (ce : Cell) (L : List Loc), XC E st t ∧ t.heap[q]? = some ce ∧ ce.vm = .none ∧ st.vm.findClass E = some ce.cls ∧ st.WarmedH t.vm ∧ st.sameButNew ({ t with vm := st.vm } : State) L mc ms ∧ ∀ z ∈ L, free z.base
def vx_Q (Qc : Array Value → State → Outcome → State → Prop) (XC : String → State → State → Prop) (mc ms : Nat) (free : Addr → Prop) : Array Value → State → Outcome → State → Prop := fun a st o t =>
  (Qc a st o t ∧ ∃ L, FrameEnd st o t L mc ms ∧ ∀ q ∈ L, free q.base) ∨ ∃ q, o = .threw q ∧ vx_T XC st q t mc ms free
/-- a callee that returns or throws -/
def vx_Met (l : Launch) (y : MethodName) (ws : List Cond) (rm : Room) (Pc : Array Value → State → Prop) (Qc : Array Value → State → Outcome → State → Prop) (XC : String → State → State → Prop) (mc ms : Nat) (free : Addr → Prop) : Prop :=
  MetFree l y (headSpec ws rm) Pc (fun _ _ _ _ _ => True) (vx_Q Qc XC mc ms free)
def vx_Post (XC : String → State → State → Prop) (mc ms : Nat) (free : Addr → Prop) : Pt → Array Value → Addr → Pt → Prop := fun A a q B =>
  ∃ (g : JFrame) (mk : MethodId) (t : State) (L : List Loc) (E : String) (ce : Cell), B.U.heap = t.heap ∧ B.U.vm = t.vm ∧ XC E (A.U.calling g mk a) t ∧ t.heap[q]? = some ce ∧ ce.vm = .none ∧ A.U.vm.findClass E = some ce.cls ∧ B.locs = A.locs ++ L ∧ (∀ z ∈ L, free z.base) ∧ B.cells = A.cells + mc ∧ B.slots = A.slots + ms
def vx_Back (l : Launch) (R : Room) (p : Program) (e : Env) (below : List Frame) (s : State) (sargs : Array Value) (y : MethodName) (len W9 : Nat)
    (Pre : Pt → Array Value → Prop) (Post : Pt → Array Value → Option Value → Pt → Prop) (PostX : Pt → Array Value → Addr → Pt → Prop) : Prop :=
  ∀ (m : MethodId) (meth : Method) (c : Code) (A : Pt) (g : JFrame) (ig : Instr) (mk : MethodId) (a : Array Value),
    Stand p l e R s m sargs below meth c A.U A.locs A.cells A.slots → g.method = m → g.locals.size = c.maxLocals → decode c.code g.pc = .ok (ig, len) →
    2 * g.monitorRoom + (g.stack.map fun v => v.category).sum ≤ W9 → A.U.methodNamed? y = some mk → Pre A a →
    (∃ (v : Option Value) (B : Pt), Stand p l e R s m sargs below meth c B.U B.locs B.cells B.slots ∧ Post A a v B ∧
      Steps p.tables e below (doInvoke e (A.U.setTop g) [] mk a).1 (B.U.setTop { g with pc := g.pc + len, stack := v.toList ++ g.stack })) ∨
    (∃ (q : Addr) (B : Pt), Stand p l e R s m sargs below meth c B.U B.locs B.cells B.slots ∧ PostX A a q B ∧
      Steps p.tables e below (doInvoke e (A.U.setTop g) [] mk a).1 ((B.U.setTop g).pushFrame (.throwing q)))
section Payer
variable {l : Launch} {R : Room} {p : Program} {e : Env} {below : List Frame} {s : State} {sargs : Array Value} {y : MethodName} {len W9 : Nat}
theorem vx_back {ws : List Cond} {rm : Room} {Pc : Array Value → State → Prop} {Qc : Array Value → State → Outcome → State → Prop} {XC : String → State → State → Prop} {mc ms : Nat} {free : Addr → Prop} {bytes : ByteArray} {maxL : Nat} {ret : Option FieldType}
    (hM : vx_Met l y ws rm Pc Qc XC mc ms free) (hblind : FrameBlind Pc) (hrc : rm.cells = mc) (hrs : rm.slots = ms)
    (hframes : rm.frames + 1 ≤ R.frames) (hlocals : W9 + (maxL + 11) + rm.locals ≤ R.locals)
    (hws : ∀ w ∈ ws, ∀ a' U, s.WarmedH U.vm → w.before a' U = true) (hcode : Cond.code y bytes maxL ret ∈ ws) (hinit : ∀ a' U, s.WarmedH U.vm → (Cond.initialized y.cls).before a' U = true) :
    vx_Back l R p e below s sargs y len W9 (PreOf R mc ms Pc) (PostOf Qc mc ms free) (vx_Post XC mc ms free) := by
  intro m meth c A g ig mk a X hg hsize hdg hW hn hp
  have h1 : (headSpec ws rm).pre.before a A.U = true := atoms_intro fun w hw => hws w hw _ _ X.warmed
  have h2 : (Cond.code y bytes maxL ret).before a A.U = true := hws _ hcode _ _ X.warmed
  have h3 : (Cond.initialized y.cls).before a A.U = true := hinit _ _ X.warmed
  have h4 : A.cells + (headSpec ws rm).room.cells ≤ R.cells := by rw [show (headSpec ws rm).room.cells = mc from hrc]; exact hp.1
  have h5 : A.slots + (headSpec ws rm).room.slots ≤ R.slots := by rw [show (headSpec ws rm).room.slots = ms from hrs]; exact hp.2.1
  have hPc : Pc a (A.U.calling g mk a) := hblind _ _ _ _ hp.2.2
  obtain ⟨U, Ls, c0, s0⟩ := A
  dsimp only [Pt.U, Pt.locs, Pt.cells, Pt.slots] at h1 h2 h3 h4 h5 X hn hPc ⊢
  obtain ⟨methY, cY, hmY, hcY, -, hlY, -, -, -, -⟩ := Cond.code_spec hn h2
  obtain ⟨kY, hkY, -⟩ := className_of_methodNamed hn
  have hinitY : kY.init = .initialized := Cond.initialized_spec (findClass_of_methodNamed hn) hkY h3
  have h : At U g.method c below := by rw [hg]; exact X.here
  have hlocals9 : W9 + (maxL + 11) + (headSpec ws rm).room.locals ≤ R.locals := hlocals
  have happ : (headSpec ws rm).appliesLoose y e.platform (U.calling g mk a) = true :=
    Spec.appliesLoose_calling (g := g) h hdg hn hkY hinitY
      (X.room_calling (g := g) (R' := (headSpec ws rm).room) hsize hmY hcY hframes (by rw [hlY]; omega) h4 h5) h1
  obtain ⟨mid, hmid⟩ := h.above
  have hfr : (U.setTop g).frames = (.java g :: mid) ++ below := by rw [State.frames_setTop' g h.top, hmid]; rfl
  obtain ⟨o, s₂, hsteps, -, hend, hq⟩ := Steps.callFree hM p X.admits X.cas X.clock (acts := []) hfr happ hPc trivial
  have hq' : vx_Q Qc XC mc ms free a (U.calling g mk a) o s₂ := hq
  rw [State.frames_setTop' g h.top] at hend
  obtain ⟨g₀, hg0⟩ := Option.isSome_iff_exists.mp h.top
  obtain ⟨r, hr⟩ := State.topJava?_eq_some.mp hg0
  have hr' : (({ U with heap := s₂.heap, slotsUsed := s₂.slotsUsed } : State).setVm s₂.vm).frames = .java g₀ :: r := hr
  rcases hq' with ⟨hqc, L, hfe, hL⟩ | ⟨q, rfl, E, ce, L, hx, hce, hcv, hcl, hW₂, hsm, hL⟩
  · obtain ⟨⟨v, rfl⟩, hW₂, e2, q2, q3, q4, q5, q6⟩ := id hfe
    have e3 : s₂ = ({ (U.calling g mk a).setFrames s₂.frames with heap := s₂.heap, slotsUsed := s₂.slotsUsed } : State).setVm s₂.vm := by
      have : s₂ = ({ s₂ with vm := (U.calling g mk a).vm } : State).setVm s₂.vm := rfl
      rw [e2] at this
      exact this
    obtain ⟨c₂, i₂, len₂, hc₂, hd₂, hf₂⟩ := hend
    have hW' : U.WarmedH s₂.vm := hW₂
    have hcc : c₂ = c := by
      have h1 : s₂.code? g.method = U.code? g.method := by
        rw [State.code?_eq, State.code?_eq, hW'.alike.method?]
      exact Option.some.inj (hc₂.symm.trans (h1.trans h.code))
    subst hcc
    have hlen : len₂ = len := by rw [hdg] at hd₂; cases hd₂; rfl
    subst hlen
    have hs₂ : s₂ = (({ U with heap := s₂.heap, slotsUsed := s₂.slotsUsed } : State).setVm s₂.vm).setTop { g with pc := g.pc + len₂, stack := v.toList ++ g.stack } := by
      refine e3.trans ?_
      rw [hf₂, State.calling_eq h.top, State.setFrames_setFrames, State.setTop_of_frames _ hr', hr]
      rfl
    have hsame : U.sameButNew ({ U with heap := s₂.heap, slotsUsed := s₂.slotsUsed } : State) L mc ms := by
      refine ⟨?_, q2, q3, q4, q5, q6⟩
      obtain ⟨t, ht, -⟩ := State.frames_cons hr
      show ({ U with heap := s₂.heap, slotsUsed := s₂.slotsUsed } : State) = { U.setFrames U.frames with heap := s₂.heap, slotsUsed := s₂.slotsUsed }
      rw [State.setFrames_self ht]
    subst hg
    refine Or.inl ⟨v, ⟨(({ U with heap := s₂.heap, slotsUsed := s₂.slotsUsed } : State).setVm s₂.vm), Ls ++ L, c0 + mc, s0 + ms⟩,
      ⟨X.admits, X.cas, X.clock, X.frames, X.room, X.hears, X.method, X.code, (X.here.setHeapUsed s₂.heap s₂.slotsUsed).setVm hW'.alike, X.tail, State.WarmedH.trans X.warmed hW', X.limits, X.bytes, X.same.trans (hsame.setVm s.vm)⟩,
      ⟨g, mk, s₂, L, rfl, rfl, hqc, rfl, hL, rfl, rfl⟩, ?_⟩
    show Steps p.tables e below _ ((({ U with heap := s₂.heap, slotsUsed := s₂.slotsUsed } : State).setVm s₂.vm).setTop { g with pc := g.pc + len₂, stack := v.toList ++ g.stack })
    rw [← hs₂]
    exact hsteps
  · obtain ⟨e2, q2, q3, q4, q5, q6⟩ := id hsm
    have e3 : s₂ = ({ (U.calling g mk a).setFrames s₂.frames with heap := s₂.heap, slotsUsed := s₂.slotsUsed } : State).setVm s₂.vm := by
      have : s₂ = ({ s₂ with vm := (U.calling g mk a).vm } : State).setVm s₂.vm := rfl
      rw [e2] at this
      exact this
    have hf₂ : s₂.frames = .throwing q :: .java g :: U.frames.tail := hend
    have hW' : U.WarmedH s₂.vm := hW₂
    have hs₂ : s₂ = ((({ U with heap := s₂.heap, slotsUsed := s₂.slotsUsed } : State).setVm s₂.vm).setTop g).pushFrame (.throwing q) := by
      refine e3.trans ?_
      rw [hf₂, State.calling_eq h.top, State.setFrames_setFrames, State.pushFrame, State.frames_setTop _ hr', State.setTop_of_frames _ hr', State.setFrames_setFrames, hr]
      rfl
    have hsame : U.sameButNew ({ U with heap := s₂.heap, slotsUsed := s₂.slotsUsed } : State) L mc ms := by
      refine ⟨?_, q2, q3, q4, q5, q6⟩
      obtain ⟨t, ht, -⟩ := State.frames_cons hr
      show ({ U with heap := s₂.heap, slotsUsed := s₂.slotsUsed } : State) = { U.setFrames U.frames with heap := s₂.heap, slotsUsed := s₂.slotsUsed }
      rw [State.setFrames_self ht]
    subst hg
    refine Or.inr ⟨q, ⟨(({ U with heap := s₂.heap, slotsUsed := s₂.slotsUsed } : State).setVm s₂.vm), Ls ++ L, c0 + mc, s0 + ms⟩,
      ⟨X.admits, X.cas, X.clock, X.frames, X.room, X.hears, X.method, X.code, (X.here.setHeapUsed s₂.heap s₂.slotsUsed).setVm hW'.alike, X.tail, State.WarmedH.trans X.warmed hW', X.limits, X.bytes, X.same.trans (hsame.setVm s.vm)⟩,
      ⟨g, mk, s₂, L, E, ce, rfl, rfl, hx, hce, hcv, hcl, rfl, hL, rfl, rfl⟩, ?_⟩
    show Steps p.tables e below _ (((({ U with heap := s₂.heap, slotsUsed := s₂.slotsUsed } : State).setVm s₂.vm).setTop g).pushFrame (.throwing q))
    rw [← hs₂]
    exact hsteps
end Payer
section Calls
variable {p : Program} {l : Launch} {e : Env} {R : Room} {s : State} {m : MethodId} {args : Array Value} {below : List Frame} {meth : Method} {c : Code} {T : State} {locs : List Loc} {cells slots : Nat}
theorem vx_callV (X : Stand p l e R s m args below meth c T locs cells slots) (hexec : p.tables.exec = Jvm.exec) {own C : String} {index : Nat} {y : MethodName} {bytes : ByteArray} {maxL : Nat} {ret : Option FieldType}
    (hown : s.vm.findClass own = some m.cls) (hlink : (Cond.methodLink own index y).before args s = true) (hinst : (Cond.instanceMethod y).before args s = true) (hsel : (Cond.selects C y y).before args s = true)
    (hcode : (Cond.code y bytes maxL ret).before args s = true) (hy : y.cls ≠ "java/lang/invoke/MethodHandle" ∧ y.cls ≠ "java/lang/invoke/VarHandle")
    {W9 : Nat} {Pre : Pt → Array Value → Prop} {Post : Pt → Array Value → Option Value → Pt → Prop} {PostX : Pt → Array Value → Addr → Pt → Prop} (hK : vx_Back l R p e below s args y 3 W9 Pre Post PostX)
    {b : Addr} {cellB : Cell} (hcell : T.heap[b]? = some cellB) (hobj : cellB.vm.isStatics = false) (hcls : s.vm.findClass C = some cellB.cls)
    {g : JFrame} (hg : g.method = m) (hsize : g.locals.size = c.maxLocals) {argsL rest : List Value} (hlen : ∀ sig, parseMethodDescriptor y.desc = some sig → argsL.length = sig.parameters.length)
    (hstack : g.stack = argsL.reverse ++ .ref b :: rest) (hW : 2 * g.monitorRoom + (rest.map fun v => v.category).sum ≤ W9) (hdg : decode c.code g.pc = .ok (.invokevirtual index, 3))
    (hpre : ∀ vm₁, s.WarmedH vm₁ → Pre ⟨T.setVm vm₁, locs, cells, slots⟩ (Value.ref b :: argsL).toArray) :
    (∃ (v : Option Value) (vm₁ : Vm) (B : Pt), s.WarmedH vm₁ ∧ Stand p l e R s m args below meth c B.U B.locs B.cells B.slots ∧ Post ⟨T.setVm vm₁, locs, cells, slots⟩ (Value.ref b :: argsL).toArray v B ∧
      ∀ target, Steps p.tables e below (B.U.setTop { g with pc := g.pc + 3, stack := v.toList ++ rest }) target → Steps p.tables e below (T.setTop g) target) ∨
    (∃ (q : Addr) (vm₁ : Vm) (B : Pt), s.WarmedH vm₁ ∧ Stand p l e R s m args below meth c B.U B.locs B.cells B.slots ∧ PostX ⟨T.setVm vm₁, locs, cells, slots⟩ (Value.ref b :: argsL).toArray q B ∧
      Steps p.tables e below (T.setTop g) ((B.U.setTop { g with stack := rest }).pushFrame (.throwing q))) := by
  obtain ⟨mk, methM, hnamed, hmethM, hstM, habM⟩ := Cond.instanceMethod_spec hinst
  obtain ⟨methM', cM, hmethM', -, -, -, -, -, -, hsigM⟩ := Cond.code_spec hnamed hcode
  cases hmethM.symm.trans hmethM'
  obtain ⟨c2, r2, m2, q1, q2, q3, q4, kP, hkP, hkPi⟩ := Cond.selects_spec hsel
  cases hcls.symm.trans q1
  cases (State.methodFound?_of_named hnamed hy).symm.trans q2
  cases hnamed.symm.trans q3
  have hselP : selectMethod e.platform s.vm cellB.cls mk = .method mk := by rw [Launch.admits_selectMethod X.admits]; exact q4
  obtain ⟨vm₁, X₁, hstep₁⟩ := X.invokevirtual hexec hown hlink hnamed hmethM hstM hkP hkPi hy (a := b) (cell := cellB) hcell
    (fun z h => by rw [h] at hobj; cases hobj) hselP hmethM habM hkP hkPi (g := g) hg (argsL := argsL) (rest := rest) (hlen _ hsigM) hstack hdg
  rcases hK m meth c ⟨T.setVm vm₁, locs, cells, slots⟩ { g with stack := rest } (.invokevirtual index) mk (Value.ref b :: argsL).toArray X₁ hg hsize hdg hW (X₁.named hnamed) (hpre vm₁ X₁.warmed) with ⟨v, B, X', hpost, hsteps⟩ | ⟨q, B, X', hpost, hsteps⟩
  · exact Or.inl ⟨v, vm₁, B, X₁.warmed, X', hpost, fun target h => hstep₁ _ fun acts => by rw [doInvoke_state]; exact hsteps.trans h⟩
  · exact Or.inr ⟨q, vm₁, B, X₁.warmed, X', hpost, hstep₁ _ fun acts => by rw [doInvoke_state]; exact hsteps⟩
theorem vx_callS (X : Stand p l e R s m args below meth c T locs cells slots) (hexec : p.tables.exec = Jvm.exec) {own : String} {index : Nat} {y : MethodName} {bytes : ByteArray} {maxL : Nat} {ret : Option FieldType}
    (hown : s.vm.findClass own = some m.cls) (hlink : (Cond.methodLink own index y).before args s = true) (hstat : (Cond.static y).before args s = true) (hinit : (Cond.initialized y.cls).before args s = true)
    (hcode : (Cond.code y bytes maxL ret).before args s = true) (hy : y.cls ≠ "java/lang/invoke/MethodHandle" ∧ y.cls ≠ "java/lang/invoke/VarHandle")
    {W9 : Nat} {Pre : Pt → Array Value → Prop} {Post : Pt → Array Value → Option Value → Pt → Prop} {PostX : Pt → Array Value → Addr → Pt → Prop} (hK : vx_Back l R p e below s args y 3 W9 Pre Post PostX)
    {g : JFrame} (hg : g.method = m) (hsize : g.locals.size = c.maxLocals) {argsL rest : List Value} (hlen : ∀ sig, parseMethodDescriptor y.desc = some sig → argsL.length = sig.parameters.length)
    (hstack : g.stack = argsL.reverse ++ rest) (hW : 2 * g.monitorRoom + (rest.map fun v => v.category).sum ≤ W9) (hdg : decode c.code g.pc = .ok (.invokestatic index, 3))
    (hpre : ∀ vm₁, s.WarmedH vm₁ → Pre ⟨T.setVm vm₁, locs, cells, slots⟩ argsL.toArray) :
    (∃ (v : Option Value) (vm₁ : Vm) (B : Pt), s.WarmedH vm₁ ∧ Stand p l e R s m args below meth c B.U B.locs B.cells B.slots ∧ Post ⟨T.setVm vm₁, locs, cells, slots⟩ argsL.toArray v B ∧
      ∀ target, Steps p.tables e below (B.U.setTop { g with pc := g.pc + 3, stack := v.toList ++ rest }) target → Steps p.tables e below (T.setTop g) target) ∨
    (∃ (q : Addr) (vm₁ : Vm) (B : Pt), s.WarmedH vm₁ ∧ Stand p l e R s m args below meth c B.U B.locs B.cells B.slots ∧ PostX ⟨T.setVm vm₁, locs, cells, slots⟩ argsL.toArray q B ∧
      Steps p.tables e below (T.setTop g) ((B.U.setTop { g with stack := rest }).pushFrame (.throwing q))) := by
  obtain ⟨mk, hnamed⟩ := Cond.code_named hcode
  obtain ⟨methM, cM, hmethM, -, -, -, -, -, -, hsigM⟩ := Cond.code_spec hnamed hcode
  have hstatic : methM.isStatic = true := Cond.static_spec hnamed hmethM hstat
  obtain ⟨kP, hkP, -⟩ := className_of_methodNamed hnamed
  have hinitP : kP.init = .initialized := Cond.initialized_spec (findClass_of_methodNamed hnamed) hkP hinit
  obtain ⟨vm₁, X₁, hstep₁⟩ := X.invokestatic hexec hown hlink hnamed hmethM hstatic hkP hinitP hy (g := g) hg (argsL := argsL) (rest := rest) (hlen _ hsigM) hstack hdg
  rcases hK m meth c ⟨T.setVm vm₁, locs, cells, slots⟩ { g with stack := rest } (.invokestatic index) mk argsL.toArray X₁ hg hsize hdg hW (X₁.named hnamed) (hpre vm₁ X₁.warmed) with ⟨v, B, X', hpost, hsteps⟩ | ⟨q, B, X', hpost, hsteps⟩
  · exact Or.inl ⟨v, vm₁, B, X₁.warmed, X', hpost, fun target h => hstep₁ _ fun acts => by rw [doInvoke_state]; exact hsteps.trans h⟩
  · exact Or.inr ⟨q, vm₁, B, X₁.warmed, X', hpost, hstep₁ _ fun acts => by rw [doInvoke_state]; exact hsteps⟩
end Calls
theorem vx_cls {s : State} {T : State} {vm₁ : Vm} {E : String} {k : ClassId} (hW : s.WarmedH vm₁) (h : (T.setVm vm₁).vm.findClass E = some k) : s.vm.findClass E = some k := by
  have h1 : vm₁.findClass E = some k := h
  rw [hW.alike.findClass] at h1
  exact h1
/-- the method's frame g, with q thrown over it -/
def vx_W (p : Program) (l : Launch) (e : Env) (R : Room) (s : State) (m : MethodId) (args : Array Value) (below : List Frame) (meth : Method) (c : Code) (H : Heap) (locs : List Loc) (cells slots : Nat) (Q : State → Prop) (g : JFrame) (q : Addr) : Prop :=
  ∀ T : State, T.heap = H → Stand p l e R s m args below meth c T locs cells slots → ∃ t, Steps p.tables e below ((T.setTop g).pushFrame (.throwing q)) t ∧ Q t
def vx_Run (p : Program) (l : Launch) (e : Env) (R : Room) (s : State) (m : MethodId) (args : Array Value) (below : List Frame) (meth : Method) (c : Code) (H : Heap) (locs : List Loc) (cells slots mc ms : Nat) (g : JFrame) (rest : List Value) (Qa : State → Outcome → State → Prop) (XC : String → State → State → Prop) (free : Addr → Prop) : Prop :=
  ∀ T : State, T.heap = H → Stand p l e R s m args below meth c T locs cells slots →
    (∃ (v : Option Value) (st₀ t T' : State) (L : List Loc), st₀.heap = H ∧ Stand p l e R s m args below meth c T' (locs ++ L) (cells + mc) (slots + ms) ∧ (∀ q ∈ L, free q.base) ∧ T'.heap = t.heap ∧ T'.vm = t.vm ∧ Qa st₀ (.returned v) t ∧
      Goes p e below T g T' { g with pc := g.pc + 3, stack := v.toList ++ rest }) ∨
    (∃ (q : Addr) (st₀ t T' : State) (L : List Loc) (E : String) (ce : Cell), st₀.heap = H ∧ Stand p l e R s m args below meth c T' (locs ++ L) (cells + mc) (slots + ms) ∧ (∀ z ∈ L, free z.base) ∧ T'.heap = t.heap ∧ T'.vm = t.vm ∧ XC E st₀ t ∧ t.heap[q]? = some ce ∧ ce.vm = .none ∧ s.vm.findClass E = some ce.cls ∧
      Steps p.tables e below (T.setTop g) ((T'.setTop { g with stack := rest }).pushFrame (.throwing q)))
def vx_X {S : Type} (px : S → Prop) (B : String → S → State → Prop) (A : Nat → Prop) : String → State → State → Prop := fun E st t => ∃ u : S, px u ∧ B E u t ∧ va_F A st t
section Runs
variable {p : Program} {l : Launch} {e : Env} {R : Room} {s : State} {m : MethodId} {args : Array Value} {below : List Frame} {meth : Method} {c : Code} {H : Heap} {locs : List Loc} {cells slots : Nat}
variable {y : MethodName} {bytes cc : ByteArray} {maxL nL mc ms n index : Nat} {ret : Option FieldType} {ws : List Cond} {rm : Room} {Pc : Array Value → State → Prop} {Qc : Array Value → State → Outcome → State → Prop} {XC : String → State → State → Prop} {free : Addr → Prop} {Ts : List Cond} {own C : String} {b : Addr} {As rest : List Value} {g : JFrame}
theorem vx_callBack (cb : CallB R s args own index y bytes maxL ret ws rm mc ms n) (hM : vx_Met l y ws rm Pc Qc XC mc ms free) (hbl : FrameBlind Pc) : vx_Back l R p e below s args y 3 8 (PreOf R mc ms Pc) (PostOf Qc mc ms free) (vx_Post XC mc ms free) := by
  obtain ⟨hrc, hrs, hfr, hlo, hws, hcw, -, hini, -⟩ := cb
  exact vx_back (bytes := bytes) (maxL := maxL) (ret := ret) hM hbl hrc hrs hfr hlo hws hcw (fun a' U hW => word_at hW (Or.inl (by first | rfl | simp [Cond.onTables, Cond.keeps, Cond.steady])) hini)
theorem vx_runV (S : CallFix p m c cc nL s args Ts own) (hM : vx_Met l y ws rm Pc Qc XC mc ms free) (cw : CallW R s args own C index y bytes maxL ret ws rm mc ms n) (hp : PreV s H C b Pc As)
    (hg : g.method = m) (hn : As.length = n) (hsize : g.locals.size = nL) (hstack : g.stack = As.reverse ++ .ref b :: rest) (hW : 2 * g.monitorRoom + (rest.map fun v => v.category).sum ≤ 8) (hdg : decode cc g.pc = .ok (.invokevirtual index, 3)) (hf : cells + mc ≤ R.cells ∧ slots + ms ≤ R.slots) :
    vx_Run p l e R s m args below meth c H locs cells slots mc ms g rest (Qc (Value.ref b :: As).toArray) XC free := by
  have hK : vx_Back l R p e below s args y 3 8 (PreOf R mc ms Pc) (PostOf Qc mc ms free) (vx_Post XC mc ms free) := vx_callBack cw.1 hM hp.1
  obtain ⟨⟨-, -, -, -, -, -, hcode, -, hy, hlen, hl⟩, hin, hse⟩ := cw
  obtain ⟨hx, hb, hml, ho, -⟩ := S
  obtain ⟨-, ⟨cellB, hcB, hoB, hclB⟩, hPc⟩ := hp
  intro T hT X
  rcases vx_callV X hx (C := C) (bytes := bytes) (maxL := maxL) (ret := ret) ho hl hin hse hcode hy hK (by rw [hT]; exact hcB) hoB hclB hg (hsize.trans hml.symm) (argsL := As) (rest := rest) (fun sig h => hn.trans (hlen sig h)) hstack hW (by rw [hb]; exact hdg)
    (fun vm₁ hW₁ => ⟨hf.1, hf.2, hPc (T.setVm vm₁) hT hW₁⟩) with ⟨v, vm₁, ⟨U', l2, c2, s2⟩, hW₁, X', ⟨g', mk, t, L, e1, e2, hq, h1, hL, h2, h3⟩, st⟩ | ⟨q, vm₁, ⟨U', l2, c2, s2⟩, hW₁, X', ⟨g', mk, t, L, E, ce, e1, e2, hq, hce, hcv, hcl, h1, hL, h2, h3⟩, st⟩
  · dsimp only [Pt.U, Pt.locs, Pt.cells, Pt.slots] at X' e1 e2 h1 h2 h3 st
    subst h1; subst h2; subst h3
    exact Or.inl ⟨v, (T.setVm vm₁).calling g' mk (Value.ref b :: As).toArray, t, U', L, hT, X', hL, e1, e2, hq, st⟩
  · dsimp only [Pt.U, Pt.locs, Pt.cells, Pt.slots] at X' e1 e2 h1 h2 h3 st hcl
    subst h1; subst h2; subst h3
    exact Or.inr ⟨q, (T.setVm vm₁).calling g' mk (Value.ref b :: As).toArray, t, U', L, E, ce, hT, X', hL, e1, e2, hq, hce, hcv, vx_cls hW₁ hcl, st⟩
theorem vx_runS (S : CallFix p m c cc nL s args Ts own) (hM : vx_Met l y ws rm Pc Qc XC mc ms free) (cw : CallB R s args own index y bytes maxL ret ws rm mc ms n ∧ (Cond.static y).before args s = true) (hp : PreS s H Pc As)
    (hg : g.method = m) (hn : As.length = n) (hsize : g.locals.size = nL) (hstack : g.stack = As.reverse ++ rest) (hW : 2 * g.monitorRoom + (rest.map fun v => v.category).sum ≤ 8) (hdg : decode cc g.pc = .ok (.invokestatic index, 3)) (hf : cells + mc ≤ R.cells ∧ slots + ms ≤ R.slots) :
    vx_Run p l e R s m args below meth c H locs cells slots mc ms g rest (Qc As.toArray) XC free := by
  have hK : vx_Back l R p e below s args y 3 8 (PreOf R mc ms Pc) (PostOf Qc mc ms free) (vx_Post XC mc ms free) := vx_callBack cw.1 hM hp.1
  obtain ⟨⟨-, -, -, -, -, -, hcode, hini, hy, hlen, hl⟩, hstt⟩ := cw
  obtain ⟨hx, hb, hml, ho, -⟩ := S
  intro T hT X
  rcases vx_callS X hx (bytes := bytes) (maxL := maxL) (ret := ret) ho hl hstt hini hcode hy hK hg (hsize.trans hml.symm) (argsL := As) (rest := rest) (fun sig h => hn.trans (hlen sig h)) hstack hW (by rw [hb]; exact hdg)
    (fun vm₁ hW₁ => ⟨hf.1, hf.2, hp.2 (T.setVm vm₁) hT hW₁⟩) with ⟨v, vm₁, ⟨U', l2, c2, s2⟩, hW₁, X', ⟨g', mk, t, L, e1, e2, hq, h1, hL, h2, h3⟩, st⟩ | ⟨q, vm₁, ⟨U', l2, c2, s2⟩, hW₁, X', ⟨g', mk, t, L, E, ce, e1, e2, hq, hce, hcv, hcl, h1, hL, h2, h3⟩, st⟩
  · dsimp only [Pt.U, Pt.locs, Pt.cells, Pt.slots] at X' e1 e2 h1 h2 h3 st
    subst h1; subst h2; subst h3
    exact Or.inl ⟨v, (T.setVm vm₁).calling g' mk As.toArray, t, U', L, hT, X', hL, e1, e2, hq, st⟩
  · dsimp only [Pt.U, Pt.locs, Pt.cells, Pt.slots] at X' e1 e2 h1 h2 h3 st hcl
    subst h1; subst h2; subst h3
    exact Or.inr ⟨q, (T.setVm vm₁).calling g' mk As.toArray, t, U', L, E, ce, hT, X', hL, e1, e2, hq, hce, hcv, vx_cls hW₁ hcl, st⟩
end Runs
section Rows
variable {p : Program} {l : Launch} {e : Env} {R : Room} {s : State} {m : MethodId} {args : Array Value} {below : List Frame} {meth : Method} {c : Code} {H : Heap} {locs : List Loc} {cells slots : Nat} {Q : State → Prop}
variable {mc ms : Nat} {free : Addr → Prop} {A0 A1 : Nat → Prop} {H0 : Heap} {a : Array Value} {pc : Nat} {ls : Array Slot} {st0 rest : List Value}
theorem vx_keep {st₀ t T' : State} {L : List Loc} (h0 : st₀.heap = H) (e1 : T'.heap = t.heap) (hS : va_S A0 H0 H locs) (hA : ∀ q, q < H.size → A1 q → A0 q) (hf : ∀ q, free q → A0 q) (hL : ∀ q ∈ L, free q.base) (hF : va_F A1 st₀ t) :
    H.size ≤ T'.heap.size ∧ (∀ q : Nat, q < H.size → ¬ A1 q → T'.heap[q]? = H[q]?) ∧ va_S A0 H0 T'.heap (locs ++ L) := by
  obtain ⟨hz, hk⟩ := hF
  rw [h0] at hz hk
  exact ⟨by rw [e1]; exact hz, fun q h1 h2 => by rw [e1]; exact hk q h1 h2,
    ⟨Nat.le_trans hS.1 (by rw [e1]; exact hz), fun q h1 h2 => by rw [e1, hk q (Nat.lt_of_lt_of_le h1 hS.1) (fun z => h2 (hA q (Nat.lt_of_lt_of_le h1 hS.1) z))]; exact hS.2.1 q h1 h2, fun q hq => by
      rcases List.mem_append.mp hq with h | h
      · exact hS.2.2 q h
      · exact hf _ (hL q h)⟩⟩
theorem vx_calli {S SX : Type} {post : Int32 → S → Prop} {px : SX → Prop} {B : S → State → Prop} {BX : String → SX → State → Prop} {AX : Nat → Prop} (hr : vx_Run p l e R s m args below meth c H locs cells slots mc ms (F0 m pc ls st0) rest (va_Qi post B A1 a) (vx_X px BX AX) free) (hS : va_S A0 H0 H locs) (hA : ∀ q, q < H.size → A1 q → A0 q) (hf : ∀ q, free q → A0 q) (hAX : ∀ q, q < H.size → AX q → A0 q)
    (kx : ∀ (E : String) (ce : Cell) (q9 : Addr) (u : SX) (t : State) (H1 : Heap) (locs1 : List Loc), t.heap = H1 → s.vm.Alike t.vm → px u → BX E u t → H.size ≤ H1.size → (∀ q : Nat, q < H.size → ¬ AX q → H1[q]? = H[q]?) → va_S A0 H0 H1 locs1 → H1[q9]? = some ce → ce.vm = .none → s.vm.findClass E = some ce.cls → vx_W p l e R s m args below meth c H1 locs1 (cells + mc) (slots + ms) Q (F0 m pc ls rest) q9)
    (kk : ∀ (r : Int32) (u : S) (t : State) (H1 : Heap) (locs1 : List Loc), t.heap = H1 → s.vm.Alike t.vm → post r u → B u t → H.size ≤ H1.size → (∀ q : Nat, q < H.size → ¬ A1 q → H1[q]? = H[q]?) → va_S A0 H0 H1 locs1 → W p l e R s m args below meth c H1 locs1 (cells + mc) (slots + ms) Q (F0 m (pc + 3) ls (.int r :: rest))) : W p l e R s m args below meth c H locs cells slots Q (F0 m pc ls st0) := by
  intro T hT X
  rcases hr T hT X with ⟨v, st₀, t, T', L, h0, X', hL, e1, e2, ⟨⟨r, u, hv, hp, hb⟩, hF⟩, st⟩ | ⟨q, st₀, t, T', L, E, ce, h0, X', hL, e1, e2, ⟨u, hp, hb, hF⟩, hce, hcv, hcl, st⟩
  · cases hv
    obtain ⟨k1, k2, k3⟩ := vx_keep h0 e1 hS hA hf hL hF
    obtain ⟨t2, a1, b1⟩ := kk r u t T'.heap (locs ++ L) e1.symm (by rw [← e2]; exact X'.warmed.alike) hp hb k1 k2 k3 T' rfl X'
    exact ⟨t2, st t2 a1, b1⟩
  · obtain ⟨k1, k2, k3⟩ := vx_keep h0 e1 hS hAX hf hL hF
    obtain ⟨t2, a1, b1⟩ := kx E ce q u t T'.heap (locs ++ L) e1.symm (by rw [← e2]; exact X'.warmed.alike) hp hb k1 k2 k3 (by rw [e1]; exact hce) hcv hcl T' rfl X'
    exact ⟨t2, st.trans a1, b1⟩
theorem vx_calll {S SX : Type} {post : Int64 → S → Prop} {px : SX → Prop} {B : S → State → Prop} {BX : String → SX → State → Prop} {AX : Nat → Prop} (hr : vx_Run p l e R s m args below meth c H locs cells slots mc ms (F0 m pc ls st0) rest (va_Ql post B A1 a) (vx_X px BX AX) free) (hS : va_S A0 H0 H locs) (hA : ∀ q, q < H.size → A1 q → A0 q) (hf : ∀ q, free q → A0 q) (hAX : ∀ q, q < H.size → AX q → A0 q)
    (kx : ∀ (E : String) (ce : Cell) (q9 : Addr) (u : SX) (t : State) (H1 : Heap) (locs1 : List Loc), t.heap = H1 → s.vm.Alike t.vm → px u → BX E u t → H.size ≤ H1.size → (∀ q : Nat, q < H.size → ¬ AX q → H1[q]? = H[q]?) → va_S A0 H0 H1 locs1 → H1[q9]? = some ce → ce.vm = .none → s.vm.findClass E = some ce.cls → vx_W p l e R s m args below meth c H1 locs1 (cells + mc) (slots + ms) Q (F0 m pc ls rest) q9)
    (kk : ∀ (r : Int64) (u : S) (t : State) (H1 : Heap) (locs1 : List Loc), t.heap = H1 → s.vm.Alike t.vm → post r u → B u t → H.size ≤ H1.size → (∀ q : Nat, q < H.size → ¬ A1 q → H1[q]? = H[q]?) → va_S A0 H0 H1 locs1 → W p l e R s m args below meth c H1 locs1 (cells + mc) (slots + ms) Q (F0 m (pc + 3) ls (.long r :: rest))) : W p l e R s m args below meth c H locs cells slots Q (F0 m pc ls st0) := by
  intro T hT X
  rcases hr T hT X with ⟨v, st₀, t, T', L, h0, X', hL, e1, e2, ⟨⟨r, u, hv, hp, hb⟩, hF⟩, st⟩ | ⟨q, st₀, t, T', L, E, ce, h0, X', hL, e1, e2, ⟨u, hp, hb, hF⟩, hce, hcv, hcl, st⟩
  · cases hv
    obtain ⟨k1, k2, k3⟩ := vx_keep h0 e1 hS hA hf hL hF
    obtain ⟨t2, a1, b1⟩ := kk r u t T'.heap (locs ++ L) e1.symm (by rw [← e2]; exact X'.warmed.alike) hp hb k1 k2 k3 T' rfl X'
    exact ⟨t2, st t2 a1, b1⟩
  · obtain ⟨k1, k2, k3⟩ := vx_keep h0 e1 hS hAX hf hL hF
    obtain ⟨t2, a1, b1⟩ := kx E ce q u t T'.heap (locs ++ L) e1.symm (by rw [← e2]; exact X'.warmed.alike) hp hb k1 k2 k3 (by rw [e1]; exact hce) hcv hcl T' rfl X'
    exact ⟨t2, st.trans a1, b1⟩
theorem vx_callf {S SX : Type} {post : UInt32 → S → Prop} {px : SX → Prop} {B : S → State → Prop} {BX : String → SX → State → Prop} {AX : Nat → Prop} (hr : vx_Run p l e R s m args below meth c H locs cells slots mc ms (F0 m pc ls st0) rest (va_Qf post B A1 a) (vx_X px BX AX) free) (hS : va_S A0 H0 H locs) (hA : ∀ q, q < H.size → A1 q → A0 q) (hf : ∀ q, free q → A0 q) (hAX : ∀ q, q < H.size → AX q → A0 q)
    (kx : ∀ (E : String) (ce : Cell) (q9 : Addr) (u : SX) (t : State) (H1 : Heap) (locs1 : List Loc), t.heap = H1 → s.vm.Alike t.vm → px u → BX E u t → H.size ≤ H1.size → (∀ q : Nat, q < H.size → ¬ AX q → H1[q]? = H[q]?) → va_S A0 H0 H1 locs1 → H1[q9]? = some ce → ce.vm = .none → s.vm.findClass E = some ce.cls → vx_W p l e R s m args below meth c H1 locs1 (cells + mc) (slots + ms) Q (F0 m pc ls rest) q9)
    (kk : ∀ (r : UInt32) (u : S) (t : State) (H1 : Heap) (locs1 : List Loc), t.heap = H1 → s.vm.Alike t.vm → post r u → B u t → H.size ≤ H1.size → (∀ q : Nat, q < H.size → ¬ A1 q → H1[q]? = H[q]?) → va_S A0 H0 H1 locs1 → W p l e R s m args below meth c H1 locs1 (cells + mc) (slots + ms) Q (F0 m (pc + 3) ls (.float r :: rest))) : W p l e R s m args below meth c H locs cells slots Q (F0 m pc ls st0) := by
  intro T hT X
  rcases hr T hT X with ⟨v, st₀, t, T', L, h0, X', hL, e1, e2, ⟨⟨r, u, hv, hp, hb⟩, hF⟩, st⟩ | ⟨q, st₀, t, T', L, E, ce, h0, X', hL, e1, e2, ⟨u, hp, hb, hF⟩, hce, hcv, hcl, st⟩
  · cases hv
    obtain ⟨k1, k2, k3⟩ := vx_keep h0 e1 hS hA hf hL hF
    obtain ⟨t2, a1, b1⟩ := kk r u t T'.heap (locs ++ L) e1.symm (by rw [← e2]; exact X'.warmed.alike) hp hb k1 k2 k3 T' rfl X'
    exact ⟨t2, st t2 a1, b1⟩
  · obtain ⟨k1, k2, k3⟩ := vx_keep h0 e1 hS hAX hf hL hF
    obtain ⟨t2, a1, b1⟩ := kx E ce q u t T'.heap (locs ++ L) e1.symm (by rw [← e2]; exact X'.warmed.alike) hp hb k1 k2 k3 (by rw [e1]; exact hce) hcv hcl T' rfl X'
    exact ⟨t2, st.trans a1, b1⟩
theorem vx_calld {S SX : Type} {post : UInt64 → S → Prop} {px : SX → Prop} {B : S → State → Prop} {BX : String → SX → State → Prop} {AX : Nat → Prop} (hr : vx_Run p l e R s m args below meth c H locs cells slots mc ms (F0 m pc ls st0) rest (va_Qd post B A1 a) (vx_X px BX AX) free) (hS : va_S A0 H0 H locs) (hA : ∀ q, q < H.size → A1 q → A0 q) (hf : ∀ q, free q → A0 q) (hAX : ∀ q, q < H.size → AX q → A0 q)
    (kx : ∀ (E : String) (ce : Cell) (q9 : Addr) (u : SX) (t : State) (H1 : Heap) (locs1 : List Loc), t.heap = H1 → s.vm.Alike t.vm → px u → BX E u t → H.size ≤ H1.size → (∀ q : Nat, q < H.size → ¬ AX q → H1[q]? = H[q]?) → va_S A0 H0 H1 locs1 → H1[q9]? = some ce → ce.vm = .none → s.vm.findClass E = some ce.cls → vx_W p l e R s m args below meth c H1 locs1 (cells + mc) (slots + ms) Q (F0 m pc ls rest) q9)
    (kk : ∀ (r : UInt64) (u : S) (t : State) (H1 : Heap) (locs1 : List Loc), t.heap = H1 → s.vm.Alike t.vm → post r u → B u t → H.size ≤ H1.size → (∀ q : Nat, q < H.size → ¬ A1 q → H1[q]? = H[q]?) → va_S A0 H0 H1 locs1 → W p l e R s m args below meth c H1 locs1 (cells + mc) (slots + ms) Q (F0 m (pc + 3) ls (.double r :: rest))) : W p l e R s m args below meth c H locs cells slots Q (F0 m pc ls st0) := by
  intro T hT X
  rcases hr T hT X with ⟨v, st₀, t, T', L, h0, X', hL, e1, e2, ⟨⟨r, u, hv, hp, hb⟩, hF⟩, st⟩ | ⟨q, st₀, t, T', L, E, ce, h0, X', hL, e1, e2, ⟨u, hp, hb, hF⟩, hce, hcv, hcl, st⟩
  · cases hv
    obtain ⟨k1, k2, k3⟩ := vx_keep h0 e1 hS hA hf hL hF
    obtain ⟨t2, a1, b1⟩ := kk r u t T'.heap (locs ++ L) e1.symm (by rw [← e2]; exact X'.warmed.alike) hp hb k1 k2 k3 T' rfl X'
    exact ⟨t2, st t2 a1, b1⟩
  · obtain ⟨k1, k2, k3⟩ := vx_keep h0 e1 hS hAX hf hL hF
    obtain ⟨t2, a1, b1⟩ := kx E ce q u t T'.heap (locs ++ L) e1.symm (by rw [← e2]; exact X'.warmed.alike) hp hb k1 k2 k3 (by rw [e1]; exact hce) hcv hcl T' rfl X'
    exact ⟨t2, st.trans a1, b1⟩
theorem vx_callv {S SX : Type} {post : S → Prop} {px : SX → Prop} {B : S → State → Prop} {BX : String → SX → State → Prop} {AX : Nat → Prop} (hr : vx_Run p l e R s m args below meth c H locs cells slots mc ms (F0 m pc ls st0) rest (va_Qv post B A1 a) (vx_X px BX AX) free) (hS : va_S A0 H0 H locs) (hA : ∀ q, q < H.size → A1 q → A0 q) (hf : ∀ q, free q → A0 q) (hAX : ∀ q, q < H.size → AX q → A0 q)
    (kx : ∀ (E : String) (ce : Cell) (q9 : Addr) (u : SX) (t : State) (H1 : Heap) (locs1 : List Loc), t.heap = H1 → s.vm.Alike t.vm → px u → BX E u t → H.size ≤ H1.size → (∀ q : Nat, q < H.size → ¬ AX q → H1[q]? = H[q]?) → va_S A0 H0 H1 locs1 → H1[q9]? = some ce → ce.vm = .none → s.vm.findClass E = some ce.cls → vx_W p l e R s m args below meth c H1 locs1 (cells + mc) (slots + ms) Q (F0 m pc ls rest) q9)
    (kk : ∀ (u : S) (t : State) (H1 : Heap) (locs1 : List Loc), t.heap = H1 → s.vm.Alike t.vm → post u → B u t → H.size ≤ H1.size → (∀ q : Nat, q < H.size → ¬ A1 q → H1[q]? = H[q]?) → va_S A0 H0 H1 locs1 → W p l e R s m args below meth c H1 locs1 (cells + mc) (slots + ms) Q (F0 m (pc + 3) ls (rest))) : W p l e R s m args below meth c H locs cells slots Q (F0 m pc ls st0) := by
  intro T hT X
  rcases hr T hT X with ⟨v, st₀, t, T', L, h0, X', hL, e1, e2, ⟨⟨u, hv, hp, hb⟩, hF⟩, st⟩ | ⟨q, st₀, t, T', L, E, ce, h0, X', hL, e1, e2, ⟨u, hp, hb, hF⟩, hce, hcv, hcl, st⟩
  · cases hv
    obtain ⟨k1, k2, k3⟩ := vx_keep h0 e1 hS hA hf hL hF
    obtain ⟨t2, a1, b1⟩ := kk u t T'.heap (locs ++ L) e1.symm (by rw [← e2]; exact X'.warmed.alike) hp hb k1 k2 k3 T' rfl X'
    exact ⟨t2, st t2 a1, b1⟩
  · obtain ⟨k1, k2, k3⟩ := vx_keep h0 e1 hS hAX hf hL hF
    obtain ⟨t2, a1, b1⟩ := kx E ce q u t T'.heap (locs ++ L) e1.symm (by rw [← e2]; exact X'.warmed.alike) hp hb k1 k2 k3 (by rw [e1]; exact hce) hcv hcl T' rfl X'
    exact ⟨t2, st.trans a1, b1⟩
/-- caught by the row x of this method's table; the rows ahead don't take it -/
theorem vx_catch {own name : String} {E : String} {ce : Cell} {q : Addr} (hown : s.vm.findClass own = some m.cls) (pre : List ExceptionTableEntry) (x : ExceptionTableEntry) (suf : List ExceptionTableEntry) (hsplit : c.exceptionTable.toList = pre ++ x :: suf)
    (hpass : ∀ z ∈ pre, covers z pc = false ∨ (z.catchType ≠ 0 ∧ ∃ nm : String, (Cond.classLink own z.catchType nm).before args s = true ∧ va_Nc E nm s)) (hx : covers x pc = true) (h0 : x.catchType ≠ 0)
    (hlink : (Cond.classLink own x.catchType name).before args s = true) (hcast : (Cond.castable E name).before args s = true) (hcell : H[q]? = some ce) (hv : ce.vm = .none) (hcl : s.vm.findClass E = some ce.cls)
    (kk : W p l e R s m args below meth c H locs cells slots Q (F0 m x.handlerPc ls [.ref q])) : vx_W p l e R s m args below meth c H locs cells slots Q (F0 m pc ls rest) q := by
  intro T hT X
  have hpl : e.platform.magicAccessors = ({} : Platform).magicAccessors := by rw [X.admits.platform]
  obtain ⟨c3, c4, hc3, hc4, hasg⟩ := Cond.castable_spec hcast
  cases Option.some.inj (hc3.symm.trans hcl)
  obtain ⟨c5, hc5, hcl5⟩ := Cond.classLink_spec hown hlink e.platform hpl
  cases Option.some.inj (hc4.symm.trans hc5)
  obtain ⟨vm', X', st⟩ := X.thenCaughtThrough q (g := F0 m pc ls rest) rfl (Steps.refl _) (by rw [hT]; exact hcell) (by rw [hv]; rfl) (by obtain ⟨k9, h9, -⟩ := Vm.findClass_spec hcl; exact ⟨k9, h9⟩) pre x suf hsplit
    (fun z hz => by
      rcases hpass z hz with h | ⟨hz0, nm, hl1, hn1⟩
      · exact Or.inl h
      · obtain ⟨c6, hc6, hcl6⟩ := Cond.classLink_spec hown hl1 e.platform hpl
        obtain ⟨a8, b8, h1, h2, h3⟩ := hn1
        cases Option.some.inj (h1.symm.trans hcl)
        cases Option.some.inj (h2.symm.trans hc6)
        exact Or.inr ⟨hz0, _, hcl6, h3⟩) hx (Or.inr ⟨h0, c4, hcl5, hasg⟩)
  obtain ⟨t, a1, b1⟩ := kk (T.setVm vm') hT X'
  exact ⟨t, st.trans a1, b1⟩
end Rows
section Ends
variable {p : Program} {l : Launch} {e : Env} {R : Room} {s : State} {m : MethodId} {args : Array Value} {below : List Frame} {meth : Method} {c : Code} {H : Heap} {locs : List Loc} {cells slots : Nat} {Q : State → Prop}
variable {mc ms : Nat} {free : Addr → Prop} {A0 A1 : Nat → Prop} {H0 : Heap} {a : Array Value} {ls : Array Slot} {st0 rest : List Value}
variable {Qc : Array Value → State → Outcome → State → Prop} {XC : String → State → State → Prop}
/-- what a body that may throw owes at its end -/
def vx_MQ (below : List Frame) (Qc : Array Value → State → Outcome → State → Prop) (XC : String → State → State → Prop) (a : Array Value) (s : State) (mc ms : Nat) (free : Addr → Prop) : State → Prop := fun t =>
  ∃ o, t.status = .running ∧ Ended t below o ∧ vx_Q Qc XC mc ms free a s o t
theorem vx_ret {g : JFrame} {mc ms : Nat} (k : W p l e R s m args below meth c H locs cells slots (MQ below Qc args s mc ms free) g) : W p l e R s m args below meth c H locs cells slots (vx_MQ below Qc XC args s mc ms free) g := by
  intro T hT X
  obtain ⟨t, a1, o, b1, b2, b3, b4⟩ := k T hT X
  exact ⟨t, a1, o, b1, b2, Or.inl ⟨b3, b4⟩⟩
/-- not caught here: it goes on to the caller -/
theorem vx_widen {g : JFrame} {q : Addr} {k n : Nat} (h1 : cells ≤ k) (h2 : slots ≤ n) (kk : vx_W p l e R s m args below meth c H locs k n Q g q) : vx_W p l e R s m args below meth c H locs cells slots Q g q := fun T hT X => kk T hT (stand_widen X h1 h2)
theorem vx_out {pc : Nat} {E : String} {ce : Cell} {q : Addr} {mc ms : Nat} (hout : ∀ x ∈ c.exceptionTable.toList, covers x pc = false) (hlocks : meth.locks = false) (hcell : H[q]? = some ce) (hv : ce.vm = .none) (hcl : s.vm.findClass E = some ce.cls)
    (hx : ∀ t : State, t.heap = H → s.vm.Alike t.vm → XC E s t) (hf : ∀ z ∈ locs, free z.base) (hc : cells ≤ mc) (hs : slots ≤ ms) :
    vx_W p l e R s m args below meth c H locs cells slots (vx_MQ below Qc XC args s mc ms free) (F0 m pc ls rest) q := by
  intro T hT X
  obtain ⟨st1, hrun, hend, hW, hsm⟩ := X.leaveThrown q (g := F0 m pc ls rest) rfl rfl rfl hout hlocks
  have hcell9 : (T.setFrames (.throwing q :: below)).heap[q]? = some ce := by
    show T.heap[q]? = some ce
    rw [hT]; exact hcell
  exact ⟨_, st1, .threw q, hrun, hend, Or.inr ⟨q, rfl, E, ce, locs, hx _ hT hW.alike, hcell9, hv, hcl, hW, hsm.mono hc hs, hf⟩⟩
theorem vx_frame {U : State} {k n : Nat} (h : s.sameButNew ({ U with vm := s.vm } : State) locs k n) : s.heap.size ≤ U.heap.size ∧ ∀ q : Nat, q < s.heap.size → (∀ z ∈ locs, z.base ≠ q) → U.heap[q]? = s.heap[q]? := by
  obtain ⟨-, h2, -, -, -, h6⟩ := h
  refine ⟨h2, fun q hq hz => ?_⟩
  obtain ⟨c9, e1, e2, e3, e4⟩ := h6 q _ (Array.getElem?_eq_getElem hq)
  have hs : c9.slots = (s.heap[q]).slots := Array.ext_getElem? fun i => e4 i fun hm => hz _ hm rfl
  have h9 : c9 = s.heap[q] := by
    rw [hs] at e2
    exact e2
  have e5 : U.heap[q]? = some c9 := e1
  rw [e5, h9, Array.getElem?_eq_getElem hq]
/-- the words of a throw but the four that speak of the heap -/
def vx_no (w : Cond) : Bool := decide (w ≠ .isRef (.static Bundle.tN "UNASSIGNED_STACK" Bundle.steD)) && decide (w ≠ .isRef (.static Bundle.tN "SUPPRESSED_SENTINEL" Bundle.listD)) && decide (w ≠ .laysStatic Bundle.tN "UNASSIGNED_STACK" Bundle.steD) && decide (w ≠ .laysStatic Bundle.tN "SUPPRESSED_SENTINEL" Bundle.listD)
def vx_at0 (own : String) (ic : Nat) (X : String) (names : List String) : List Cond := (Bundle.ownAtoms0 own ic X names).filter vx_no
def vx_atS (own : String) (ic : Nat) (X : String) (names : List String) : List Cond := (Bundle.ownAtoms own ic X names).filter vx_no
/-- a word that the tables alone decide, or a good one -/
def vx_ot (w : Cond) : Bool := w.onTables || goodWord w
theorem vx_ot_at {args a' : Array Value} {s U : State} {w : Cond} (hW : s.WarmedH U.vm) (hvm : s.vm = U.vm) (hg : vx_ot w = true) (h : w.before args s = true) : w.before a' U = true := by
  simp only [vx_ot, Bool.or_eq_true] at hg
  rcases hg with hg | hg
  · exact va_tabs hg hvm h
  · exact word_at hW (good_of_word hg) h
/-- a list's words: the good ones out of the method's own list, the others by premises of their own -/
theorem vx_hat {args : Array Value} {s : State} {L B : List Cond} (h1 : ∀ w ∈ L.filter goodWord, w.before args s = true) (h2 : ∀ w ∈ L.filter (fun w => !goodWord w), w ∈ B) (h3 : ∀ w ∈ B, w.before args s = true) : ∀ w ∈ L, w.before args s = true := by
  intro w hw
  by_cases g : goodWord w = true
  · exact h1 w (List.mem_filter.mpr ⟨hw, g⟩)
  · refine h3 w (h2 w (List.mem_filter.mpr ⟨hw, ?_⟩))
    show (!goodWord w) = true
    cases hgw : goodWord w
    · rfl
    · exact absurd hgw g
theorem vx_c {args : Array Value} {s : State} {w : Cond} {B : List Cond} (h : w.before args s = true) (t : ∀ w ∈ B, w.before args s = true) : ∀ w' ∈ w :: B, w'.before args s = true := fun w' h' => (List.mem_cons.mp h').elim (fun e => by rw [e]; exact h) (t w')
theorem vx_n {args : Array Value} {s : State} : ∀ w ∈ ([] : List Cond), w.before args s = true := fun _ h => nomatch h
theorem vx_own {args : Array Value} {s : State} {L : List Cond} (h1 : ∀ w ∈ L.filter vx_no, w.before args s = true)
    (hU : (Cond.isRef (.static Bundle.tN "UNASSIGNED_STACK" Bundle.steD)).before args s = true) (hN : (Cond.isRef (.static Bundle.tN "SUPPRESSED_SENTINEL" Bundle.listD)).before args s = true)
    (lU : (Cond.laysStatic Bundle.tN "UNASSIGNED_STACK" Bundle.steD).before args s = true) (lN : (Cond.laysStatic Bundle.tN "SUPPRESSED_SENTINEL" Bundle.listD).before args s = true) : ∀ w ∈ L, w.before args s = true := by
  intro w hw
  by_cases e1 : w = .isRef (.static Bundle.tN "UNASSIGNED_STACK" Bundle.steD)
  · rw [e1]; exact hU
  · by_cases e2 : w = .isRef (.static Bundle.tN "SUPPRESSED_SENTINEL" Bundle.listD)
    · rw [e2]; exact hN
    · by_cases e3 : w = .laysStatic Bundle.tN "UNASSIGNED_STACK" Bundle.steD
      · rw [e3]; exact lU
      · by_cases e4 : w = .laysStatic Bundle.tN "SUPPRESSED_SENTINEL" Bundle.listD
        · rw [e4]; exact lN
        · exact h1 w (List.mem_filter.mpr ⟨hw, by unfold vx_no; rw [decide_eq_true e1, decide_eq_true e2, decide_eq_true e3, decide_eq_true e4]; rfl⟩)
/-- where a static field lies, its class's statics cell in H -/
def vx_L (C n d : String) (A : Nat → Prop) (U : State) (H : Heap) : Prop := ∃ (c : ClassId) (k : Class) (i : Nat) (f : Field) (a : Nat) (cell : Cell), U.vm.findClass C = some c ∧ U.fieldFound? C n d = some (c, k, i, f) ∧ f.isStatic = true ∧ k.statics = some a ∧ H[a]? = some cell ∧ cell.vm.isStatics = true ∧ cell.cls = c ∧ f.slot < cell.slots.size ∧ k.staticTypes[f.slot]? = some f.type ∧ ¬ A a
theorem vx_L.moved {C n d : String} {A : Nat → Prop} {u U : State} {H : Heap} (hvm : u.vm.Alike U.vm) (h : vx_L C n d A u H) : vx_L C n d A U H := by
  obtain ⟨c, k, i, f, a, cell, h1, h2, h3, h4, h5, h6, h7, h8, h9, h10⟩ := h
  obtain ⟨k', hi', he⟩ := State.fieldFound?_setVm hvm h2
  exact ⟨c, k', i, f, a, cell, by rw [hvm.findClass]; exact h1, hi', h3, by rw [he]; exact h4, h5, h6, h7, h8, by rw [he]; exact h9, h10⟩
theorem vx_L.kept {C n d : String} {A : Nat → Prop} {U : State} {H H1 : Heap} (h : vx_L C n d A U H) (hq : ∀ a : Nat, a < H.size → ¬ A a → H1[a]? = H[a]?) : vx_L C n d A U H1 := by
  obtain ⟨c, k, i, f, a, cell, h1, h2, h3, h4, h5, h6, h7, h8, h9, h10⟩ := h
  exact ⟨c, k, i, f, a, cell, h1, h2, h3, h4, by rw [hq a (Array.getElem?_eq_some_iff.mp h5).1 h10]; exact h5, h6, h7, h8, h9, h10⟩
theorem vx_L.narrow {C n d : String} {A B : Nat → Prop} {U : State} {H : Heap} (h : vx_L C n d A U H) (hAB : ∀ q, B q → A q) : vx_L C n d B U H := by
  obtain ⟨c, k, i, f, a, cell, h1, h2, h3, h4, h5, h6, h7, h8, h9, h10⟩ := h
  exact ⟨c, k, i, f, a, cell, h1, h2, h3, h4, h5, h6, h7, h8, h9, fun z => h10 (hAB _ z)⟩
theorem vx_L.word {C n d : String} {A : Nat → Prop} {s : State} {args : Array Value} (h : vx_L C n d A s s.heap) : (Cond.laysStatic C n d).before args s = true := by
  obtain ⟨c, k, i, f, a, cell, h1, h2, h3, h4, h5, h6, h7, h8, h9, -⟩ := h
  show (Cond.laysStatic C n d).holds args s none s [] = true
  exact Cond.laysStatic_of h1 h2 h3 h4 h5 h6 h7 h8 h9
/-- .. and what it holds: null or some reference -/
def vx_Zq (C n d : String) (A : Nat → Prop) (U : State) (H : Heap) : Prop := va_Zq C n d A U H ∧ vx_L C n d A U H
theorem vx_Zq.moved {C n d : String} {A : Nat → Prop} {u U : State} {H : Heap} (hvm : u.vm.Alike U.vm) (h : vx_Zq C n d A u H) : vx_Zq C n d A U H := ⟨va_Zq.moved hvm h.1, vx_L.moved hvm h.2⟩
theorem vx_Zq.kept {C n d : String} {A : Nat → Prop} {U : State} {H H1 : Heap} (h : vx_Zq C n d A U H) (hq : ∀ a : Nat, a < H.size → ¬ A a → H1[a]? = H[a]?) : vx_Zq C n d A U H1 := ⟨va_Zq.kept h.1 hq, vx_L.kept h.2 hq⟩
theorem vx_Zq.narrow {C n d : String} {A B : Nat → Prop} {U : State} {H : Heap} (h : vx_Zq C n d A U H) (hAB : ∀ q, B q → A q) : vx_Zq C n d B U H := ⟨va_Zq.narrow h.1 hAB, vx_L.narrow h.2 hAB⟩
theorem vx_Zqof {args : Array Value} {s : State} {C n d : String} {A : Nat → Prop} (hl : (Cond.laysStatic C n d).before args s = true) (hini : (Cond.initialized C).before args s = true) (h : (Cond.isRef (.static C n d)).before args s = true) (hA : ∀ a : Nat, a < s.heap.size → ¬ A a) : vx_Zq C n d A s s.heap := by
  refine ⟨va_Zqof hl hini h hA, ?_⟩
  obtain ⟨c, k, i, f, a, cell, h1, h2, h3, h4, h5, h6, h7, h8, h9⟩ := Cond.laysStatic_spec hl
  exact ⟨c, k, i, f, a, cell, h1, h2, h3, h4, h5, h6, h7, h8, h9, hA a (Array.getElem?_eq_some_iff.mp h5).1⟩
theorem vx_isRef {C n d : String} {v : Value} {A : Nat → Prop} {s : State} {args : Array Value} (h : va_Z C n d v A s s.heap) (hv : v.isRef = true) : (Cond.isRef (.static C n d)).before args s = true := by
  obtain ⟨cf, kf, fi, f, a, cell, h1, h2, h3, h4, h5, h6, h7, -⟩ := h
  have he : (Term.static C n d).eval args s none [] s = some v := by
    simp [Term.eval, State.fieldNamed?, h1, h2, h4, h5, h6, h7]
  simp only [Cond.before, Cond.holds, Cond.value, he]
  cases v <;> simp_all [Value.isRef]
theorem vx_isRefq {C n d : String} {A : Nat → Prop} {s : State} {args : Array Value} (h : va_Zq C n d A s s.heap) : (Cond.isRef (.static C n d)).before args s = true := by
  rcases h with h | ⟨t, h⟩
  · exact vx_isRef h rfl
  · exact vx_isRef h rfl
/-- the same frame, seen from here: as if the method were called anew in this heap -/
theorem vx_rebase {T : State} (X : Stand p l e R s m args below meth c T locs cells slots) {R' : Room} (hf : R'.frames ≤ R.frames) (hl : R'.locals ≤ R.locals) (hc : cells + R'.cells ≤ R.cells) (hs : slots + R'.slots ≤ R.slots) :
    Stand p l e R' ((T.setVm s.vm).setFrames (.invoking m args :: below)) m args below meth c T [] 0 0 := by
  have htop : (T.setVm s.vm).topJava?.isSome := X.here.top
  have hF : ((T.setVm s.vm).setFrames (.invoking m args :: below)).frames = .invoking m args :: below := State.frames_setFrames _ (State.cur_lt_of_top htop)
  obtain ⟨g₀, hg0⟩ := Option.isSome_iff_exists.mp htop
  obtain ⟨r, hr⟩ := State.topJava?_eq_some.mp hg0
  have hl9 : e.platform.stackLimits (T.setVm s.vm).me = e.platform.stackLimits s.me := X.limits
  have hb9 : (T.setVm s.vm).me.stackBytes = s.me.stackBytes := X.bytes
  refine ⟨X.admits, X.cas, X.clock, hF, ?_, X.hears, X.method, X.code, X.here, X.tail, X.warmed, ?_, ?_, ?_⟩
  · have h := X.room
    have hU : ((T.setVm s.vm).setFrames (.invoking m args :: below)).localsInUse = s.localsInUse := by
      rw [State.localsInUse_invoking hF (meth := meth) (c := c) X.method X.code, State.localsInUse_invoking X.frames X.method X.code]
    simp only [State.hasRoom, Bool.and_eq_true, decide_eq_true_eq] at h ⊢
    obtain ⟨⟨⟨⟨h1, h2, h3, h4, h5, h6⟩, h7⟩, h8⟩, h9⟩ := h
    rw [X.frames, List.length_cons] at h2 h3
    have q1 := X.heapSize
    have q2 := X.used
    simp only [hF, hU, List.length_cons, State.stackLimits_setFrames, State.stackBytes_setFrames, hl9, hb9]
    refine ⟨⟨⟨⟨by omega, by omega, by omega, by omega, by omega, h6⟩, ?_⟩, ?_⟩, X.book⟩
    · show T.heap.size + R'.cells ≤ e.platform.maxCells
      omega
    · show T.slotsUsed + R'.slots ≤ e.platform.maxSlots
      omega
  · rw [State.stackLimits_setFrames]; rfl
  · rw [State.stackBytes_setFrames]; rfl
  · refine ⟨?_, Nat.le_refl _, Nat.le_refl _, ?_, ?_, fun a c9 h9 => ⟨c9, h9, rfl, rfl, fun _ _ => rfl⟩⟩
    · obtain ⟨t, ht, -⟩ := State.frames_cons hr
      show T.setVm s.vm = { ((T.setVm s.vm).setFrames (.invoking m args :: below)).setFrames (T.setVm s.vm).frames with heap := T.heap, slotsUsed := T.slotsUsed }
      rw [State.setFrames_setFrames, State.setFrames_self ht]
      rfl
    · show T.slotsUsed = T.slotsUsed + ((T.heap.toList.drop T.heap.size).map (·.slots.size)).sum
      rw [List.drop_eq_nil_of_le (Nat.le_of_eq Array.length_toList)]
      rfl
    · show ((T.heap.toList.drop T.heap.size).map (·.slots.size)).sum ≤ 0
      rw [List.drop_eq_nil_of_le (Nat.le_of_eq Array.length_toList)]
      exact Nat.le_refl _
/-- 'throw new E()': new; dup; invokespecial; athrow -/
theorem vx_throw0 {cc : ByteArray} {pc : Nat} (hexec : p.tables.exec = Jvm.exec) (hb : c.code = cc) (hl : l.stackTraces = false) {own cls : String} {names : List String} {ik ic mc ms : Nat} {A : Nat → Prop}
    (hown : s.vm.findClass own = some m.cls) (hcls : Bundle.fit cls = true) (hnames : ∀ n ∈ names, Bundle.fit n = true)
    (hk : (Cond.classLink own ik cls).before args s = true) (hini : (Cond.initialized cls).before args s = true) (hat : ∀ w ∈ vx_at0 own ic cls names, w.before args s = true)
    (hgood : ∀ w ∈ Cond.classLink own ik cls :: Cond.initialized cls :: vx_at0 own ic cls names, vx_ot w = true)
    (hU : vx_Zq Bundle.tN "UNASSIGNED_STACK" Bundle.steD A s s.heap) (hN : vx_Zq Bundle.tN "SUPPRESSED_SENTINEL" Bundle.listD A s s.heap) (hS : va_S A s.heap H locs) (hsize : ls.size = c.maxLocals)
    (d0 : decode cc pc = .ok (.new ik, 3)) (d3 : decode cc (pc + 3) = .ok (.dup, 1)) (d4 : decode cc (pc + 4) = .ok (.invokespecial ic, 3)) (d7 : decode cc (pc + 7) = .ok (.athrow, 1))
    (hout : ∀ x ∈ c.exceptionTable.toList, covers x (pc + 7) = false)
    (hRframes : names.length + 3 < R.frames) (hRlocals : (rest.map fun v => v.category).sum + (13 * (names.length + 1) + 42) ≤ R.locals) (hRcells : cells + 1 ≤ R.cells) (hRslots : slots + 6 ≤ R.slots) (hlocks : meth.locks = false)
    (hx : ∀ t : State, s.vm.Alike t.vm → H.size ≤ t.heap.size → (∀ q : Nat, q < H.size → t.heap[q]? = H[q]?) → XC cls s t)
    (hf : ∀ z ∈ locs, free z.base) (hc : cells + 1 ≤ mc) (hs : slots + 6 ≤ ms) :
    W p l e R s m args below meth c H locs cells slots (vx_MQ below Qc XC args s mc ms free) (F0 m pc ls rest) := by
  intro T hT X
  have htr : e.platform.stackTraces = false := (show e.platform.stackTraces = l.stackTraces by rw [X.admits.platform]).trans hl
  have Y := vx_rebase X (R' := { frames := R.frames, locals := R.locals, cells := 1, slots := 6 }) (Nat.le_refl _) (Nat.le_refl _) hRcells hRslots
  obtain ⟨s', hA⟩ : ∃ z, z = (T.setVm s.vm).setFrames (.invoking m args :: below) := ⟨_, rfl⟩
  rw [← hA] at Y
  have hvm : s'.vm = s.vm := by rw [hA]; rfl
  have hhp : s'.heap = H := by rw [hA]; exact hT
  have hW0 : s.WarmedH s'.vm := by rw [hvm]; exact State.WarmedH.refl s
  have hat' : ∀ w ∈ vx_at0 own ic cls names, w.before args s' = true := fun w hw => vx_ot_at hW0 hvm.symm (hgood w (List.mem_cons_of_mem _ (List.mem_cons_of_mem _ hw))) (hat w hw)
  have hk' : (Cond.classLink own ik cls).before args s' = true := vx_ot_at hW0 hvm.symm (hgood _ List.mem_cons_self) hk
  have hini' : (Cond.initialized cls).before args s' = true := vx_ot_at hW0 hvm.symm (hgood _ (List.mem_cons_of_mem _ List.mem_cons_self)) hini
  have hU' : vx_Zq Bundle.tN "UNASSIGNED_STACK" Bundle.steD A s' s'.heap := by rw [hhp]; exact vx_Zq.moved hW0.alike (hU.kept hS.2.1)
  have hN' : vx_Zq Bundle.tN "SUPPRESSED_SENTINEL" Bundle.listD A s' s'.heap := by rw [hhp]; exact vx_Zq.moved hW0.alike (hN.kept hS.2.1)
  have h : ∀ w ∈ Bundle.ownAtoms0 own ic cls names, w.before args s' = true := vx_own hat' (vx_isRefq hU'.1) (vx_isRefq hN'.1) hU'.2.word hN'.2.word
  have hown' : s'.vm.findClass own = some m.cls := by rw [hvm]; exact hown
  have hins : (Cond.instantiable cls 6).before args s' = true := h _ (by simp [Bundle.ownAtoms0])
  obtain ⟨vm₁, cX, kX, hfX, hkX, -, -, X₁, st1⟩ := Y.newCold hexec (own := own) (C := cls) (index := ik) (n := 6) hown' hk' hins hini'
    (g := F0 m pc ls rest) rfl (by rw [hb]; exact d0) (Nat.le_refl _) (Nat.le_refl _)
  generalize hT1 : (T.setVm vm₁).pushCell { cls := cX, slots := kX.instanceTypes.map defaultValue, vm := .none } = T1 at X₁ st1
  have hcat : (Value.ref T.heap.size).category = 1 := rfl
  have hcellA : T1.heap[T.heap.size]? = some (freshCell cX kX) := by rw [← hT1]; exact State.heap_pushCell_size _ _
  have d3' : decode c.code (pc + 3) = .ok (.dup, 1) := by rw [hb]; exact d3
  obtain ⟨U, hsteps, hrun, hend, hW, hsame, ce, hce, hO⟩ := X₁.ctorThrow0 hexec htr (own := own) (cls := cls) (names := names) (ic := ic) hown' hcls hnames h (fun x hx => nomatch hx) hfX hkX hcellA (by rw [hhp, hT]; exact Nat.le_refl _)
    (g := { method := m, pc := pc + 4, locals := ls, stack := .ref T.heap.size :: .ref T.heap.size :: rest, locked := none }) rfl hsize rfl rfl (rest := rest) rfl
    (by rw [hb]; exact d4) (by rw [hb]; exact d7) hout hRframes (by simp only [List.map_cons, List.sum_cons, hcat]; omega) hlocks
  obtain ⟨f1, f2⟩ := vx_frame hsame
  rw [hhp] at f1 f2
  have hWs : s.WarmedH U.vm := State.WarmedH.trans hW0 hW
  have hcl : s.vm.findClass cls = some ce.cls := by
    have h9 := hO.cls
    rw [hvm] at h9
    exact h9
  have hall : s.sameButNew ({ U with vm := s.vm } : State) locs mc ms := by
    subst hA
    obtain ⟨e1, e2⟩ := hsame
    rw [State.setFrames_setFrames] at e1
    have h2 : (T.setVm s.vm).sameButNew ({ U with vm := s.vm } : State) [] (0 + 1) (0 + 6) := ⟨e1, e2⟩
    have h3 := X.same.trans h2
    rw [List.append_nil] at h3
    exact h3.mono hc hs
  refine ⟨U, ?_, .threw T.heap.size, hrun, hend, Or.inr ⟨T.heap.size, rfl, cls, ce, locs, hx U hWs.alike f1 (fun q hq => f2 q hq (fun z hz => nomatch hz)), hce, hO.vm, hcl, hWs, hall, hf⟩⟩
  refine st1 _ ?_
  show Steps p.tables e below (T1.setTop { method := m, pc := pc + 3, locals := ls, stack := .ref T.heap.size :: rest, locked := none }) _
  jvm_step X₁.here [X₁.here.top, hexec, d3', Value.category]
  exact hsteps
/-- 'throw new E("text")': new; dup; ldc; invokespecial; athrow -/
theorem vx_throwS {cc : ByteArray} {pc : Nat} (hexec : p.tables.exec = Jvm.exec) (hb : c.code = cc) (hl : l.stackTraces = false) {own cls text : String} {names : List String} {ik is ic mc ms sa : Nat} {A : Nat → Prop}
    (hown : s.vm.findClass own = some m.cls) (hcls : Bundle.fit cls = true) (hnames : ∀ n ∈ names, Bundle.fit n = true)
    (hk : (Cond.classLink own ik cls).before args s = true) (hini : (Cond.initialized cls).before args s = true) (hstr : vk_R own is text sa s) (hat : ∀ w ∈ vx_atS own ic cls names, w.before args s = true)
    (hgood : ∀ w ∈ Cond.classLink own ik cls :: Cond.initialized cls :: vx_atS own ic cls names, vx_ot w = true)
    (hU : vx_Zq Bundle.tN "UNASSIGNED_STACK" Bundle.steD A s s.heap) (hN : vx_Zq Bundle.tN "SUPPRESSED_SENTINEL" Bundle.listD A s s.heap) (hS : va_S A s.heap H locs) (hsize : ls.size = c.maxLocals)
    (d0 : decode cc pc = .ok (.new ik, 3)) (d3 : decode cc (pc + 3) = .ok (.dup, 1)) (d4 : decode cc (pc + 4) = .ok (.ldc is, 2)) (d6 : decode cc (pc + 6) = .ok (.invokespecial ic, 3)) (d9 : decode cc (pc + 9) = .ok (.athrow, 1))
    (hout : ∀ x ∈ c.exceptionTable.toList, covers x (pc + 9) = false)
    (hRframes : names.length + 3 < R.frames) (hRlocals : (rest.map fun v => v.category).sum + (13 * (names.length + 1) + 43) ≤ R.locals) (hRcells : cells + 1 ≤ R.cells) (hRslots : slots + 6 ≤ R.slots) (hlocks : meth.locks = false)
    (hx : ∀ t : State, s.vm.Alike t.vm → H.size ≤ t.heap.size → (∀ q : Nat, q < H.size → t.heap[q]? = H[q]?) → XC cls s t)
    (hf : ∀ z ∈ locs, free z.base) (hc : cells + 1 ≤ mc) (hs : slots + 6 ≤ ms) :
    W p l e R s m args below meth c H locs cells slots (vx_MQ below Qc XC args s mc ms free) (F0 m pc ls rest) := by
  intro T hT X
  have htr : e.platform.stackTraces = false := (show e.platform.stackTraces = l.stackTraces by rw [X.admits.platform]).trans hl
  have Y := vx_rebase X (R' := { frames := R.frames, locals := R.locals, cells := 1, slots := 6 }) (Nat.le_refl _) (Nat.le_refl _) hRcells hRslots
  obtain ⟨s', hA⟩ : ∃ z, z = (T.setVm s.vm).setFrames (.invoking m args :: below) := ⟨_, rfl⟩
  rw [← hA] at Y
  have hvm : s'.vm = s.vm := by rw [hA]; rfl
  have hhp : s'.heap = H := by rw [hA]; exact hT
  have hW0 : s.WarmedH s'.vm := by rw [hvm]; exact State.WarmedH.refl s
  have hat' : ∀ w ∈ vx_atS own ic cls names, w.before args s' = true := fun w hw => vx_ot_at hW0 hvm.symm (hgood w (List.mem_cons_of_mem _ (List.mem_cons_of_mem _ hw))) (hat w hw)
  have hk' : (Cond.classLink own ik cls).before args s' = true := vx_ot_at hW0 hvm.symm (hgood _ List.mem_cons_self) hk
  have hini' : (Cond.initialized cls).before args s' = true := vx_ot_at hW0 hvm.symm (hgood _ (List.mem_cons_of_mem _ List.mem_cons_self)) hini
  have hU' : vx_Zq Bundle.tN "UNASSIGNED_STACK" Bundle.steD A s' s'.heap := by rw [hhp]; exact vx_Zq.moved hW0.alike (hU.kept hS.2.1)
  have hN' : vx_Zq Bundle.tN "SUPPRESSED_SENTINEL" Bundle.listD A s' s'.heap := by rw [hhp]; exact vx_Zq.moved hW0.alike (hN.kept hS.2.1)
  have h : ∀ w ∈ Bundle.ownAtoms own ic cls names, w.before args s' = true := vx_own hat' (vx_isRefq hU'.1) (vx_isRefq hN'.1) hU'.2.word hN'.2.word
  have hown' : s'.vm.findClass own = some m.cls := by rw [hvm]; exact hown
  have hins : (Cond.instantiable cls 6).before args s' = true := h _ (by simp [Bundle.ownAtoms])
  obtain ⟨vm₁, cX, kX, hfX, hkX, -, -, X₁, st1⟩ := Y.newCold hexec (own := own) (C := cls) (index := ik) (n := 6) hown' hk' hins hini'
    (g := F0 m pc ls rest) rfl (by rw [hb]; exact d0) (Nat.le_refl _) (Nat.le_refl _)
  generalize hT1 : (T.setVm vm₁).pushCell { cls := cX, slots := kX.instanceTypes.map defaultValue, vm := .none } = T1 at X₁ st1
  have hcat : (Value.ref T.heap.size).category = 1 := rfl
  have hcellA : T1.heap[T.heap.size]? = some (freshCell cX kX) := by rw [← hT1]; exact State.heap_pushCell_size _ _
  have d3' : decode c.code (pc + 3) = .ok (.dup, 1) := by rw [hb]; exact d3
  have d4' : decode c.code (pc + 4) = .ok (.ldc is, 2) := by rw [hb]; exact d4
  have hstr' : vk_R own is text sa s' := vk_R.warm hW0 hstr
  obtain ⟨U, hsteps, hrun, hend, hW, hsame, ce, hce, hO⟩ := X₁.ctorThrowS hexec htr (own := own) (cls := cls) (names := names) (ic := ic) hown' hcls hnames h (fun x hx => nomatch hx) hfX hkX hcellA (by rw [hhp, hT]; exact Nat.le_refl _) (msg := .ref sa) rfl
    (g := { method := m, pc := pc + 6, locals := ls, stack := .ref sa :: .ref T.heap.size :: .ref T.heap.size :: rest, locked := none }) rfl hsize rfl rfl (rest := rest) rfl
    (by rw [hb]; exact d6) (by rw [hb]; exact d9) hout hRframes (by simp only [List.map_cons, List.sum_cons, hcat]; omega) hlocks
  obtain ⟨f1, f2⟩ := vx_frame hsame
  rw [hhp] at f1 f2
  have hWs : s.WarmedH U.vm := State.WarmedH.trans hW0 hW
  have hcl : s.vm.findClass cls = some ce.cls := by
    have h9 := hO.cls
    rw [hvm] at h9
    exact h9
  have hall : s.sameButNew ({ U with vm := s.vm } : State) locs mc ms := by
    subst hA
    obtain ⟨e1, e2⟩ := hsame
    rw [State.setFrames_setFrames] at e1
    have h2 : (T.setVm s.vm).sameButNew ({ U with vm := s.vm } : State) [] (0 + 1) (0 + 6) := ⟨e1, e2⟩
    have h3 := X.same.trans h2
    rw [List.append_nil] at h3
    exact h3.mono hc hs
  refine ⟨U, ?_, .threw T.heap.size, hrun, hend, Or.inr ⟨T.heap.size, rfl, cls, ce, locs, hx U hWs.alike f1 (fun q hq => f2 q hq (fun z hz => nomatch hz)), hce, hO.vm, hcl, hWs, hall, hf⟩⟩
  refine st1 _ ?_
  show Steps p.tables e below (T1.setTop { method := m, pc := pc + 3, locals := ls, stack := .ref T.heap.size :: rest, locked := none }) _
  jvm_step X₁.here [X₁.here.top, hexec, d3', Value.category]
  exact X₁.ldcString hexec (own := own) (text := text) (index := is) (a := sa) hown' hstr'.1 hstr'.2
    (g := { method := m, pc := pc + 4, locals := ls, stack := .ref T.heap.size :: .ref T.heap.size :: rest, locked := none }) rfl d4' _ hsteps
/-- 'throw new E("text")', the text by a wide index -/
theorem vx_throwSW {cc : ByteArray} {pc : Nat} (hexec : p.tables.exec = Jvm.exec) (hb : c.code = cc) (hl : l.stackTraces = false) {own cls text : String} {names : List String} {ik is ic mc ms sa : Nat} {A : Nat → Prop}
    (hown : s.vm.findClass own = some m.cls) (hcls : Bundle.fit cls = true) (hnames : ∀ n ∈ names, Bundle.fit n = true)
    (hk : (Cond.classLink own ik cls).before args s = true) (hini : (Cond.initialized cls).before args s = true) (hstr : vk_R own is text sa s) (hat : ∀ w ∈ vx_atS own ic cls names, w.before args s = true)
    (hgood : ∀ w ∈ Cond.classLink own ik cls :: Cond.initialized cls :: vx_atS own ic cls names, vx_ot w = true)
    (hU : vx_Zq Bundle.tN "UNASSIGNED_STACK" Bundle.steD A s s.heap) (hN : vx_Zq Bundle.tN "SUPPRESSED_SENTINEL" Bundle.listD A s s.heap) (hS : va_S A s.heap H locs) (hsize : ls.size = c.maxLocals)
    (d0 : decode cc pc = .ok (.new ik, 3)) (d3 : decode cc (pc + 3) = .ok (.dup, 1)) (d4 : decode cc (pc + 4) = .ok (.ldc_w is, 3)) (d7 : decode cc (pc + 7) = .ok (.invokespecial ic, 3)) (d10 : decode cc (pc + 10) = .ok (.athrow, 1))
    (hout : ∀ x ∈ c.exceptionTable.toList, covers x (pc + 10) = false)
    (hRframes : names.length + 3 < R.frames) (hRlocals : (rest.map fun v => v.category).sum + (13 * (names.length + 1) + 43) ≤ R.locals) (hRcells : cells + 1 ≤ R.cells) (hRslots : slots + 6 ≤ R.slots) (hlocks : meth.locks = false)
    (hx : ∀ t : State, s.vm.Alike t.vm → H.size ≤ t.heap.size → (∀ q : Nat, q < H.size → t.heap[q]? = H[q]?) → XC cls s t)
    (hf : ∀ z ∈ locs, free z.base) (hc : cells + 1 ≤ mc) (hs : slots + 6 ≤ ms) :
    W p l e R s m args below meth c H locs cells slots (vx_MQ below Qc XC args s mc ms free) (F0 m pc ls rest) := by
  intro T hT X
  have htr : e.platform.stackTraces = false := (show e.platform.stackTraces = l.stackTraces by rw [X.admits.platform]).trans hl
  have Y := vx_rebase X (R' := { frames := R.frames, locals := R.locals, cells := 1, slots := 6 }) (Nat.le_refl _) (Nat.le_refl _) hRcells hRslots
  obtain ⟨s', hA⟩ : ∃ z, z = (T.setVm s.vm).setFrames (.invoking m args :: below) := ⟨_, rfl⟩
  rw [← hA] at Y
  have hvm : s'.vm = s.vm := by rw [hA]; rfl
  have hhp : s'.heap = H := by rw [hA]; exact hT
  have hW0 : s.WarmedH s'.vm := by rw [hvm]; exact State.WarmedH.refl s
  have hat' : ∀ w ∈ vx_atS own ic cls names, w.before args s' = true := fun w hw => vx_ot_at hW0 hvm.symm (hgood w (List.mem_cons_of_mem _ (List.mem_cons_of_mem _ hw))) (hat w hw)
  have hk' : (Cond.classLink own ik cls).before args s' = true := vx_ot_at hW0 hvm.symm (hgood _ List.mem_cons_self) hk
  have hini' : (Cond.initialized cls).before args s' = true := vx_ot_at hW0 hvm.symm (hgood _ (List.mem_cons_of_mem _ List.mem_cons_self)) hini
  have hU' : vx_Zq Bundle.tN "UNASSIGNED_STACK" Bundle.steD A s' s'.heap := by rw [hhp]; exact vx_Zq.moved hW0.alike (hU.kept hS.2.1)
  have hN' : vx_Zq Bundle.tN "SUPPRESSED_SENTINEL" Bundle.listD A s' s'.heap := by rw [hhp]; exact vx_Zq.moved hW0.alike (hN.kept hS.2.1)
  have h : ∀ w ∈ Bundle.ownAtoms own ic cls names, w.before args s' = true := vx_own hat' (vx_isRefq hU'.1) (vx_isRefq hN'.1) hU'.2.word hN'.2.word
  have hown' : s'.vm.findClass own = some m.cls := by rw [hvm]; exact hown
  have hins : (Cond.instantiable cls 6).before args s' = true := h _ (by simp [Bundle.ownAtoms])
  obtain ⟨vm₁, cX, kX, hfX, hkX, -, -, X₁, st1⟩ := Y.newCold hexec (own := own) (C := cls) (index := ik) (n := 6) hown' hk' hins hini'
    (g := F0 m pc ls rest) rfl (by rw [hb]; exact d0) (Nat.le_refl _) (Nat.le_refl _)
  generalize hT1 : (T.setVm vm₁).pushCell { cls := cX, slots := kX.instanceTypes.map defaultValue, vm := .none } = T1 at X₁ st1
  have hcat : (Value.ref T.heap.size).category = 1 := rfl
  have hcellA : T1.heap[T.heap.size]? = some (freshCell cX kX) := by rw [← hT1]; exact State.heap_pushCell_size _ _
  have d3' : decode c.code (pc + 3) = .ok (.dup, 1) := by rw [hb]; exact d3
  have d4' : decode c.code (pc + 4) = .ok (.ldc_w is, 3) := by rw [hb]; exact d4
  have hstr' : vk_R own is text sa s' := vk_R.warm hW0 hstr
  obtain ⟨U, hsteps, hrun, hend, hW, hsame, ce, hce, hO⟩ := X₁.ctorThrowS hexec htr (own := own) (cls := cls) (names := names) (ic := ic) hown' hcls hnames h (fun x hx => nomatch hx) hfX hkX hcellA (by rw [hhp, hT]; exact Nat.le_refl _) (msg := .ref sa) rfl
    (g := { method := m, pc := pc + 7, locals := ls, stack := .ref sa :: .ref T.heap.size :: .ref T.heap.size :: rest, locked := none }) rfl hsize rfl rfl (rest := rest) rfl
    (by rw [hb]; exact d7) (by rw [hb]; exact d10) hout hRframes (by simp only [List.map_cons, List.sum_cons, hcat]; omega) hlocks
  obtain ⟨f1, f2⟩ := vx_frame hsame
  rw [hhp] at f1 f2
  have hWs : s.WarmedH U.vm := State.WarmedH.trans hW0 hW
  have hcl : s.vm.findClass cls = some ce.cls := by
    have h9 := hO.cls
    rw [hvm] at h9
    exact h9
  have hall : s.sameButNew ({ U with vm := s.vm } : State) locs mc ms := by
    subst hA
    obtain ⟨e1, e2⟩ := hsame
    rw [State.setFrames_setFrames] at e1
    have h2 : (T.setVm s.vm).sameButNew ({ U with vm := s.vm } : State) [] (0 + 1) (0 + 6) := ⟨e1, e2⟩
    have h3 := X.same.trans h2
    rw [List.append_nil] at h3
    exact h3.mono hc hs
  refine ⟨U, ?_, .threw T.heap.size, hrun, hend, Or.inr ⟨T.heap.size, rfl, cls, ce, locs, hx U hWs.alike f1 (fun q hq => f2 q hq (fun z hz => nomatch hz)), hce, hO.vm, hcl, hWs, hall, hf⟩⟩
  refine st1 _ ?_
  show Steps p.tables e below (T1.setTop { method := m, pc := pc + 3, locals := ls, stack := .ref T.heap.size :: rest, locked := none }) _
  jvm_step X₁.here [X₁.here.top, hexec, d3', Value.category]
  exact X₁.ldcStringW hexec (own := own) (text := text) (index := is) (a := sa) hown' hstr'.1 hstr'.2
    (g := { method := m, pc := pc + 4, locals := ls, stack := .ref T.heap.size :: .ref T.heap.size :: rest, locked := none }) rfl d4' _ hsteps
end Ends
section Bodies
variable {l : Launch}
theorem vx_ofW {y : MethodName} {ws ws' : List Cond} {rm : Room} {Pc : Array Value → State → Prop} {Qc : Array Value → State → Outcome → State → Prop} {XC : String → State → State → Prop} {mc ms : Nat} {free : Addr → Prop} {cc : ByteArray} {maxL : Nat} {ret : Option FieldType}
    (hy : plainName y.cls = true) (hw : ws = Cond.code y cc maxL ret :: ws')
    (body : ∀ p e s m args below meth c s₁, BodyLoose p l y (headSpec ws rm) cc maxL ret e s m args below meth c s₁ → c.maxLocals = maxL → (∀ x ∈ c.exceptionTable.toList, False) → Pc args s →
      W p l e (headSpec ws rm).room s m args below meth c s.heap [] 0 0 (vx_MQ below Qc XC args s mc ms free) (entryFrame m args maxL)) : vx_Met l y ws rm Pc Qc XC mc ms free := by
  refine MetFree.of_bodyS (code := cc) (maxLocals := maxL) (ret := ret) hy ?_ ?_
  · intro args s m h hn
    obtain ⟨meth, c, h1, h2, h3, h4, h5, h6, -, -⟩ := Cond.code_spec hn (atoms_spec (ws := ws) h _ (by rw [hw]; exact List.mem_cons_self))
    exact ⟨meth, c, h1, h2, h3, h4, h5, h6⟩
  · intro p e s m args below meth c s₁ B hml hP _
    have hh0 : s₁.heap = s.heap := by rw [B.state]; rfl
    have ht : ∀ x ∈ c.exceptionTable.toList, False := by
      obtain ⟨meth9, c9, h1, h2, -, -, -, -, h7, -⟩ := Cond.code_spec B.named (atoms_spec (ws := ws) B.pre _ (by rw [hw]; exact List.mem_cons_self))
      cases Option.some.inj (h1.symm.trans B.method)
      cases Option.some.inj (h2.symm.trans (Stand.of_body B).code)
      intro x hx
      rw [Array.isEmpty_iff.mp h7] at hx
      cases hx
    obtain ⟨t, a1, o, b1, b2, b3⟩ := body p e s m args below meth c s₁ B hml ht hP s₁ hh0 (Stand.of_body B)
    exact ⟨t, o, a1, b1, b2, b3⟩
/-- the table of a body with handlers -/
theorem vx_table {p : Program} {x y : MethodName} {S : Spec} {cc bytes : ByteArray} {maxL maxL' : Nat} {ret ret' : Option FieldType} {e : Env} {s s₁ : State} {m : MethodId} {args : Array Value} {below : List Frame} {meth : Method} {c : Code} {hh : List (Nat × Nat × Nat × Nat)}
    (B : BodyLoose p l y S cc maxL ret e s m args below meth c s₁) (h : (Cond.codeWith y bytes maxL' ret' hh).before args s = true) : c.exceptionTable.toList = tableOf hh := by
  obtain ⟨m9, meth9, c9, hn9, h1, h2, -, -, h6, -⟩ := Cond.codeWith_spec h
  cases Option.some.inj (hn9.symm.trans B.named)
  cases Option.some.inj (h1.symm.trans B.method)
  cases Option.some.inj (h2.symm.trans (Stand.of_body B).code)
  rw [← h6, table_eq]
end Bodies
end VXA
/-! ===== END ===== -/
/-! ===== BEGIN a static call of a method with an exception table ===== -/
section VXS
variable {p : Program} {l : Launch} {e : Env} {R : Room} {s : State} {m : MethodId} {args : Array Value} {below : List Frame} {meth : Method} {c : Code} {T : State} {H : Heap} {locs : List Loc} {cells slots : Nat}
abbrev vx_CSW (R : Room) (s : State) (args : Array Value) (own : String) (index : Nat) (y : MethodName) (bytes : ByteArray) (maxL : Nat) (ret : Option FieldType) (hh : List (Nat × Nat × Nat × Nat)) (ws : List Cond) (rm : Room) (mc ms n : Nat) : Prop :=
  (rm.cells = mc ∧ rm.slots = ms ∧ rm.frames + 1 ≤ R.frames ∧ 8 + (maxL + 11) + rm.locals ≤ R.locals ∧ (∀ w ∈ ws, ∀ (a' : Array Value) (U : State), s.WarmedH U.vm → w.before a' U = true) ∧ Cond.codeWith y bytes maxL ret hh ∈ ws) ∧
  (Cond.codeWith y bytes maxL ret hh).before args s = true ∧ (Cond.initialized y.cls).before args s = true ∧ (y.cls ≠ "java/lang/invoke/MethodHandle" ∧ y.cls ≠ "java/lang/invoke/VarHandle") ∧
  (∀ sig, parseMethodDescriptor y.desc = some sig → n = sig.parameters.length) ∧ (Cond.methodLink own index y).before args s = true ∧ (Cond.static y).before args s = true
theorem vx_cwSW {own : String} {index maxL mc ms : Nat} {y : MethodName} {bytes : ByteArray} {ret : Option FieldType} {hh : List (Nat × Nat × Nat × Nat)} {Ts ws ws' : List Cond} {rm : Room} (n : Nat) (ht : ∀ w ∈ Ts, w.before args s = true) (hT : GoodIn Ts (va_wsS own index y ws)) (hw : ws = Cond.codeWith y bytes maxL ret hh :: ws') (hrc : rm.cells = mc) (hrs : rm.slots = ms)
    (hd : y.cls ≠ "java/lang/invoke/MethodHandle" ∧ y.cls ≠ "java/lang/invoke/VarHandle" ∧ (parseMethodDescriptor y.desc).map (fun d => d.parameters.length) = some n) (hR : rm.frames + 1 ≤ R.frames ∧ 8 + (maxL + 11) + rm.locals ≤ R.locals) :
    vx_CSW R s args own index y bytes maxL ret hh ws rm mc ms n := by
  have ok : ∀ w ∈ va_wsS own index y ws, w.before args s = true := fun w h => ht w (hT w h).1
  have hG : GoodIn Ts ws := fun w h => hT w (by unfold va_wsS; exact List.mem_append_right _ h)
  have hc : Cond.codeWith y bytes maxL ret hh ∈ ws := by rw [hw]; exact List.mem_cons_self
  refine ⟨⟨hrc, hrs, hR.1, hR.2, pay_in ht hG, hc⟩, ht _ (hG _ hc).1, ok _ (by simp [va_wsS]), ⟨hd.1, hd.2.1⟩, fun sig h => ?_, ok _ (by simp [va_wsS]), ok _ (by simp [va_wsS])⟩
  have h2 := hd.2.2
  rw [h] at h2
  exact (Option.some.inj h2).symm
theorem vx_callSW (X : Stand p l e R s m args below meth c T locs cells slots) (hexec : p.tables.exec = Jvm.exec) {own : String} {index : Nat} {y : MethodName} {bytes : ByteArray} {maxL : Nat} {ret : Option FieldType} {hh : List (Nat × Nat × Nat × Nat)}
    (hown : s.vm.findClass own = some m.cls) (hlink : (Cond.methodLink own index y).before args s = true) (hstat : (Cond.static y).before args s = true) (hinit : (Cond.initialized y.cls).before args s = true)
    (hcode : (Cond.codeWith y bytes maxL ret hh).before args s = true) (hy : y.cls ≠ "java/lang/invoke/MethodHandle" ∧ y.cls ≠ "java/lang/invoke/VarHandle")
    {W9 : Nat} {Pre : Pt → Array Value → Prop} {Post : Pt → Array Value → Option Value → Pt → Prop} (hK : Back l R p e below s args y 3 W9 Pre Post)
    {g : JFrame} (hg : g.method = m) (hsize : g.locals.size = c.maxLocals) {argsL rest : List Value} (hlen : ∀ sig, parseMethodDescriptor y.desc = some sig → argsL.length = sig.parameters.length)
    (hstack : g.stack = argsL.reverse ++ rest) (hW : 2 * g.monitorRoom + (rest.map fun v => v.category).sum ≤ W9) (hdg : decode c.code g.pc = .ok (.invokestatic index, 3))
    (hpre : ∀ vm₁, s.WarmedH vm₁ → Pre ⟨T.setVm vm₁, locs, cells, slots⟩ argsL.toArray) :
    ∃ (v : Option Value) (vm₁ : Vm) (B : Pt), s.WarmedH vm₁ ∧ Stand p l e R s m args below meth c B.U B.locs B.cells B.slots ∧ Post ⟨T.setVm vm₁, locs, cells, slots⟩ argsL.toArray v B ∧
      ∀ target, Steps p.tables e below (B.U.setTop { g with pc := g.pc + 3, stack := v.toList ++ rest }) target → Steps p.tables e below (T.setTop g) target := by
  obtain ⟨mk, methM, cM, hnamed, hmethM, -, -, -, -, -, -, hsigM⟩ := Cond.codeWith_spec hcode
  have hstatic : methM.isStatic = true := Cond.static_spec hnamed hmethM hstat
  obtain ⟨kP, hkP, -⟩ := className_of_methodNamed hnamed
  have hinitP : kP.init = .initialized := Cond.initialized_spec (findClass_of_methodNamed hnamed) hkP hinit
  obtain ⟨vm₁, X₁, hstep₁⟩ := X.invokestatic hexec hown hlink hnamed hmethM hstatic hkP hinitP hy (g := g) hg (argsL := argsL) (rest := rest) (hlen _ hsigM) hstack hdg
  obtain ⟨v, B, X', hpost, hsteps⟩ := hK m meth c ⟨T.setVm vm₁, locs, cells, slots⟩ { g with stack := rest } (.invokestatic index) mk argsL.toArray X₁ hg hsize hdg hW (X₁.named hnamed) (hpre vm₁ X₁.warmed)
  exact ⟨v, vm₁, B, X₁.warmed, X', hpost, fun target h => hstep₁ _ fun acts => by rw [doInvoke_state]; exact hsteps.trans h⟩
theorem vx_runSW {y : MethodName} {bytes cc : ByteArray} {maxL nL mc ms n index : Nat} {ret : Option FieldType} {hh : List (Nat × Nat × Nat × Nat)} {ws : List Cond} {rm : Room} {Pc : Array Value → State → Prop} {Qc : Array Value → State → Outcome → State → Prop} {free : Addr → Prop} {Ts : List Cond} {own : String} {As rest : List Value} {g : JFrame}
    (S : CallFix p m c cc nL s args Ts own) (hM : Met l y ws rm Pc Qc mc ms free) (cw : vx_CSW R s args own index y bytes maxL ret hh ws rm mc ms n) (hp : PreS s H Pc As)
    (hg : g.method = m) (hn : As.length = n) (hsize : g.locals.size = nL) (hstack : g.stack = As.reverse ++ rest) (hW : 2 * g.monitorRoom + (rest.map fun v => v.category).sum ≤ 8) (hdg : decode cc g.pc = .ok (.invokestatic index, 3)) (hf : cells + mc ≤ R.cells ∧ slots + ms ≤ R.slots) :
    va_Run p l e R s m args below meth c H locs cells slots mc ms g rest (Qc As.toArray) (free) := by
  obtain ⟨⟨hrc, hrs, hfr, hlo, hws, hcw⟩, hcode, hini, hy, hlen, hl, hstt⟩ := cw
  have hK : Back l R p e below s args y 3 8 (PreOf R mc ms Pc) (PostOf Qc mc ms free) := va_backW (hh := hh) (bytes := bytes) (maxL := maxL) (ret := ret) hM hp.1 hrc hrs hfr hlo hws hcw (fun a' U hW => word_at hW (Or.inl (by first | rfl | simp [Cond.onTables, Cond.keeps, Cond.steady])) hini)
  obtain ⟨hx, hb, hml, ho, -⟩ := S
  intro T hT X
  obtain ⟨v, vm₁, ⟨U', l2, c2, s2⟩, hW₁, X', ⟨g', mk, t, L, e1, e2, hq, h1, hL, h2, h3⟩, st⟩ := vx_callSW X hx (hh := hh) (bytes := bytes) (maxL := maxL) (ret := ret) ho hl hstt hini hcode hy hK hg (hsize.trans hml.symm) (argsL := As) (rest := rest) (fun sig h => hn.trans (hlen sig h)) hstack hW (by rw [hb]; exact hdg)
    (fun vm₁ hW₁ => ⟨hf.1, hf.2, hp.2 (T.setVm vm₁) hT hW₁⟩)
  dsimp only [Pt.U, Pt.locs, Pt.cells, Pt.slots] at X' e1 e2 h1 h2 h3 st
  subst h1; subst h2; subst h3
  exact ⟨v, (T.setVm vm₁).calling g' mk As.toArray, t, U', L, hT, X', hL, e1, e2, hq, st⟩
/-- not caught here, past rows that name other classes: it goes on to the caller -/
theorem vx_outP {p : Program} {l : Launch} {e : Env} {R : Room} {s : State} {m : MethodId} {args : Array Value} {below : List Frame} {meth : Method} {c : Code} {H : Heap} {locs : List Loc} {cells slots : Nat} {free : Addr → Prop} {ls : Array Slot} {rest : List Value} {Qc : Array Value → State → Outcome → State → Prop} {XC : String → State → State → Prop}
    {pc : Nat} {own E : String} {ce : Cell} {q : Addr} {mc ms : Nat} (hown : s.vm.findClass own = some m.cls) (hlocks : meth.locks = false)
    (hpass : ∀ z ∈ c.exceptionTable.toList, covers z pc = false ∨ (z.catchType ≠ 0 ∧ ∃ nm : String, (Cond.classLink own z.catchType nm).before args s = true ∧ va_Nc E nm s)) (hcell : H[q]? = some ce) (hv : ce.vm = .none) (hcl : s.vm.findClass E = some ce.cls)
    (hx : ∀ t : State, t.heap = H → s.vm.Alike t.vm → XC E s t) (hf : ∀ z ∈ locs, free z.base) (hc : cells ≤ mc) (hs : slots ≤ ms) :
    vx_W p l e R s m args below meth c H locs cells slots (vx_MQ below Qc XC args s mc ms free) (F0 m pc ls rest) q := by
  intro T hT X
  have hpl : e.platform.magicAccessors = ({} : Platform).magicAccessors := by rw [X.admits.platform]
  obtain ⟨vm', hW', X', st⟩ := X.outThrough hlocks q (g := F0 m pc ls rest) rfl rfl rfl (cell := ce) (by rw [hT]; exact hcell) (by rw [hv]; rfl)
    (by obtain ⟨k9, h9, -⟩ := Vm.findClass_spec hcl; exact ⟨k9, h9⟩) (fun z hz => by
      rcases hpass z hz with h | ⟨hz0, nm, hl1, hn1⟩
      · exact Or.inl h
      · obtain ⟨c6, hc6, hcl6⟩ := Cond.classLink_spec hown hl1 e.platform hpl
        obtain ⟨a8, b8, h1, h2, h3⟩ := hn1
        cases Option.some.inj (h1.symm.trans hcl)
        cases Option.some.inj (h2.symm.trans hc6)
        exact Or.inr ⟨hz0, _, hcl6, h3⟩)
  obtain ⟨g₀, hfr⟩ := X'.frames_eq
  have hcell9 : ((T.setVm vm').setFrames (.throwing q :: below)).heap[q]? = some ce := by
    show T.heap[q]? = some ce
    rw [hT]; exact hcell
  have hend : Ended ((T.setVm vm').setFrames (.throwing q :: below)) below (.threw q) := State.frames_setFrames _ (State.cur_lt_of_frames hfr)
  refine ⟨(T.setVm vm').setFrames (.throwing q :: below), ?_, .threw q, X'.here.running, hend, Or.inr ⟨q, rfl, E, ce, locs, hx _ hT (X'.ends _).1.alike, hcell9, hv, hcl, (X'.ends _).1, (X'.ends _).2.mono hc hs, hf⟩⟩
  rw [X.pushThrowing_eq]
  exact st
/-- a thing of a world lies in the heap -/
theorem vx_lt {D : va_G} {cl : List vw_C} {ws : va_W} {H1 : Heap} (h : va_P D cl ws H1) {k : Nat} {q : Nat × va_E} (hk : ws[k]? = some q) : q.1 < H1.size := (h k q hk).lt
end VXS
/-! ===== END ===== -/
/-! ===== BEGIN methods with a table of their own: called by a name, returning or throwing ===== -/
section VXH
/-! vx_backW, vx_callVX, vx_callSX, vx_callVW, vx_runVW, vx_runVX, vx_runSX, vx_ofWH follow the same proofs as their sisters above (Free/Laws.lean, Shelf42/LK1.lean); vx_outP calls Shelf42/NT130.lean (outThrough). -/
section
variable {l : Launch} {R : Room} {p : Program} {e : Env} {below : List Frame} {s : State} {sargs : Array Value} {y : MethodName} {len W9 : Nat}
theorem vx_backW {ws : List Cond} {rm : Room} {Pc : Array Value → State → Prop} {Qc : Array Value → State → Outcome → State → Prop} {XC : String → State → State → Prop} {mc ms : Nat} {free : Addr → Prop} {bytes : ByteArray} {maxL : Nat} {ret : Option FieldType} {hh : List (Nat × Nat × Nat × Nat)}
    (hM : vx_Met l y ws rm Pc Qc XC mc ms free) (hblind : FrameBlind Pc) (hrc : rm.cells = mc) (hrs : rm.slots = ms)
    (hframes : rm.frames + 1 ≤ R.frames) (hlocals : W9 + (maxL + 11) + rm.locals ≤ R.locals)
    (hws : ∀ w ∈ ws, ∀ a' U, s.WarmedH U.vm → w.before a' U = true) (hcode : Cond.codeWith y bytes maxL ret hh ∈ ws) (hinit : ∀ a' U, s.WarmedH U.vm → (Cond.initialized y.cls).before a' U = true) :
    vx_Back l R p e below s sargs y len W9 (PreOf R mc ms Pc) (PostOf Qc mc ms free) (vx_Post XC mc ms free) := by
  intro m meth c A g ig mk a X hg hsize hdg hW hn hp
  have h1 : (headSpec ws rm).pre.before a A.U = true := atoms_intro fun w hw => hws w hw _ _ X.warmed
  have h2 : (Cond.codeWith y bytes maxL ret hh).before a A.U = true := hws _ hcode _ _ X.warmed
  have h3 : (Cond.initialized y.cls).before a A.U = true := hinit _ _ X.warmed
  have h4 : A.cells + (headSpec ws rm).room.cells ≤ R.cells := by rw [show (headSpec ws rm).room.cells = mc from hrc]; exact hp.1
  have h5 : A.slots + (headSpec ws rm).room.slots ≤ R.slots := by rw [show (headSpec ws rm).room.slots = ms from hrs]; exact hp.2.1
  have hPc : Pc a (A.U.calling g mk a) := hblind _ _ _ _ hp.2.2
  obtain ⟨U, Ls, c0, s0⟩ := A
  dsimp only [Pt.U, Pt.locs, Pt.cells, Pt.slots] at h1 h2 h3 h4 h5 X hn hPc ⊢
  obtain ⟨m9, methY, cY, hn9, hmY, hcY, -, hlY, -⟩ := Cond.codeWith_spec h2
  cases Option.some.inj (hn9.symm.trans hn)
  obtain ⟨kY, hkY, -⟩ := className_of_methodNamed hn
  have hinitY : kY.init = .initialized := Cond.initialized_spec (findClass_of_methodNamed hn) hkY h3
  have h : At U g.method c below := by rw [hg]; exact X.here
  have hlocals9 : W9 + (maxL + 11) + (headSpec ws rm).room.locals ≤ R.locals := hlocals
  have happ : (headSpec ws rm).appliesLoose y e.platform (U.calling g mk a) = true :=
    Spec.appliesLoose_calling (g := g) h hdg hn hkY hinitY
      (X.room_calling (g := g) (R' := (headSpec ws rm).room) hsize hmY hcY hframes (by rw [hlY]; omega) h4 h5) h1
  obtain ⟨mid, hmid⟩ := h.above
  have hfr : (U.setTop g).frames = (.java g :: mid) ++ below := by rw [State.frames_setTop' g h.top, hmid]; rfl
  obtain ⟨o, s₂, hsteps, -, hend, hq⟩ := Steps.callFree hM p X.admits X.cas X.clock (acts := []) hfr happ hPc trivial
  have hq' : vx_Q Qc XC mc ms free a (U.calling g mk a) o s₂ := hq
  rw [State.frames_setTop' g h.top] at hend
  obtain ⟨g₀, hg0⟩ := Option.isSome_iff_exists.mp h.top
  obtain ⟨r, hr⟩ := State.topJava?_eq_some.mp hg0
  have hr' : (({ U with heap := s₂.heap, slotsUsed := s₂.slotsUsed } : State).setVm s₂.vm).frames = .java g₀ :: r := hr
  rcases hq' with ⟨hqc, L, hfe, hL⟩ | ⟨q, rfl, E, ce, L, hx, hce, hcv, hcl, hW₂, hsm, hL⟩
  · obtain ⟨⟨v, rfl⟩, hW₂, e2, q2, q3, q4, q5, q6⟩ := id hfe
    have e3 : s₂ = ({ (U.calling g mk a).setFrames s₂.frames with heap := s₂.heap, slotsUsed := s₂.slotsUsed } : State).setVm s₂.vm := by
      have : s₂ = ({ s₂ with vm := (U.calling g mk a).vm } : State).setVm s₂.vm := rfl
      rw [e2] at this
      exact this
    obtain ⟨c₂, i₂, len₂, hc₂, hd₂, hf₂⟩ := hend
    have hW' : U.WarmedH s₂.vm := hW₂
    have hcc : c₂ = c := by
      have h1 : s₂.code? g.method = U.code? g.method := by
        rw [State.code?_eq, State.code?_eq, hW'.alike.method?]
      exact Option.some.inj (hc₂.symm.trans (h1.trans h.code))
    subst hcc
    have hlen : len₂ = len := by rw [hdg] at hd₂; cases hd₂; rfl
    subst hlen
    have hs₂ : s₂ = (({ U with heap := s₂.heap, slotsUsed := s₂.slotsUsed } : State).setVm s₂.vm).setTop { g with pc := g.pc + len₂, stack := v.toList ++ g.stack } := by
      refine e3.trans ?_
      rw [hf₂, State.calling_eq h.top, State.setFrames_setFrames, State.setTop_of_frames _ hr', hr]
      rfl
    have hsame : U.sameButNew ({ U with heap := s₂.heap, slotsUsed := s₂.slotsUsed } : State) L mc ms := by
      refine ⟨?_, q2, q3, q4, q5, q6⟩
      obtain ⟨t, ht, -⟩ := State.frames_cons hr
      show ({ U with heap := s₂.heap, slotsUsed := s₂.slotsUsed } : State) = { U.setFrames U.frames with heap := s₂.heap, slotsUsed := s₂.slotsUsed }
      rw [State.setFrames_self ht]
    subst hg
    refine Or.inl ⟨v, ⟨(({ U with heap := s₂.heap, slotsUsed := s₂.slotsUsed } : State).setVm s₂.vm), Ls ++ L, c0 + mc, s0 + ms⟩,
      ⟨X.admits, X.cas, X.clock, X.frames, X.room, X.hears, X.method, X.code, (X.here.setHeapUsed s₂.heap s₂.slotsUsed).setVm hW'.alike, X.tail, State.WarmedH.trans X.warmed hW', X.limits, X.bytes, X.same.trans (hsame.setVm s.vm)⟩,
      ⟨g, mk, s₂, L, rfl, rfl, hqc, rfl, hL, rfl, rfl⟩, ?_⟩
    show Steps p.tables e below _ ((({ U with heap := s₂.heap, slotsUsed := s₂.slotsUsed } : State).setVm s₂.vm).setTop { g with pc := g.pc + len₂, stack := v.toList ++ g.stack })
    rw [← hs₂]
    exact hsteps
  · obtain ⟨e2, q2, q3, q4, q5, q6⟩ := id hsm
    have e3 : s₂ = ({ (U.calling g mk a).setFrames s₂.frames with heap := s₂.heap, slotsUsed := s₂.slotsUsed } : State).setVm s₂.vm := by
      have : s₂ = ({ s₂ with vm := (U.calling g mk a).vm } : State).setVm s₂.vm := rfl
      rw [e2] at this
      exact this
    have hf₂ : s₂.frames = .throwing q :: .java g :: U.frames.tail := hend
    have hW' : U.WarmedH s₂.vm := hW₂
    have hs₂ : s₂ = ((({ U with heap := s₂.heap, slotsUsed := s₂.slotsUsed } : State).setVm s₂.vm).setTop g).pushFrame (.throwing q) := by
      refine e3.trans ?_
      rw [hf₂, State.calling_eq h.top, State.setFrames_setFrames, State.pushFrame, State.frames_setTop _ hr', State.setTop_of_frames _ hr', State.setFrames_setFrames, hr]
      rfl
    have hsame : U.sameButNew ({ U with heap := s₂.heap, slotsUsed := s₂.slotsUsed } : State) L mc ms := by
      refine ⟨?_, q2, q3, q4, q5, q6⟩
      obtain ⟨t, ht, -⟩ := State.frames_cons hr
      show ({ U with heap := s₂.heap, slotsUsed := s₂.slotsUsed } : State) = { U.setFrames U.frames with heap := s₂.heap, slotsUsed := s₂.slotsUsed }
      rw [State.setFrames_self ht]
    subst hg
    refine Or.inr ⟨q, ⟨(({ U with heap := s₂.heap, slotsUsed := s₂.slotsUsed } : State).setVm s₂.vm), Ls ++ L, c0 + mc, s0 + ms⟩,
      ⟨X.admits, X.cas, X.clock, X.frames, X.room, X.hears, X.method, X.code, (X.here.setHeapUsed s₂.heap s₂.slotsUsed).setVm hW'.alike, X.tail, State.WarmedH.trans X.warmed hW', X.limits, X.bytes, X.same.trans (hsame.setVm s.vm)⟩,
      ⟨g, mk, s₂, L, E, ce, rfl, rfl, hx, hce, hcv, hcl, rfl, hL, rfl, rfl⟩, ?_⟩
    show Steps p.tables e below _ (((({ U with heap := s₂.heap, slotsUsed := s₂.slotsUsed } : State).setVm s₂.vm).setTop g).pushFrame (.throwing q))
    rw [← hs₂]
    exact hsteps
end
variable {p : Program} {l : Launch} {e : Env} {R : Room} {s : State} {m : MethodId} {args : Array Value} {below : List Frame} {meth : Method} {c : Code} {T : State} {H : Heap} {locs : List Loc} {cells slots : Nat}
theorem vx_callVX (X : Stand p l e R s m args below meth c T locs cells slots) (hexec : p.tables.exec = Jvm.exec) {own C : String} {index : Nat} {y : MethodName} {bytes : ByteArray} {maxL : Nat} {ret : Option FieldType} {hh : List (Nat × Nat × Nat × Nat)}
    (hown : s.vm.findClass own = some m.cls) (hlink : (Cond.methodLink own index y).before args s = true) (hinst : (Cond.instanceMethod y).before args s = true) (hsel : (Cond.selects C y y).before args s = true)
    (hcode : (Cond.codeWith y bytes maxL ret hh).before args s = true) (hy : y.cls ≠ "java/lang/invoke/MethodHandle" ∧ y.cls ≠ "java/lang/invoke/VarHandle")
    {W9 : Nat} {Pre : Pt → Array Value → Prop} {Post : Pt → Array Value → Option Value → Pt → Prop} {PostX : Pt → Array Value → Addr → Pt → Prop} (hK : vx_Back l R p e below s args y 3 W9 Pre Post PostX)
    {b : Addr} {cellB : Cell} (hcell : T.heap[b]? = some cellB) (hobj : cellB.vm.isStatics = false) (hcls : s.vm.findClass C = some cellB.cls)
    {g : JFrame} (hg : g.method = m) (hsize : g.locals.size = c.maxLocals) {argsL rest : List Value} (hlen : ∀ sig, parseMethodDescriptor y.desc = some sig → argsL.length = sig.parameters.length)
    (hstack : g.stack = argsL.reverse ++ .ref b :: rest) (hW : 2 * g.monitorRoom + (rest.map fun v => v.category).sum ≤ W9) (hdg : decode c.code g.pc = .ok (.invokevirtual index, 3))
    (hpre : ∀ vm₁, s.WarmedH vm₁ → Pre ⟨T.setVm vm₁, locs, cells, slots⟩ (Value.ref b :: argsL).toArray) :
    (∃ (v : Option Value) (vm₁ : Vm) (B : Pt), s.WarmedH vm₁ ∧ Stand p l e R s m args below meth c B.U B.locs B.cells B.slots ∧ Post ⟨T.setVm vm₁, locs, cells, slots⟩ (Value.ref b :: argsL).toArray v B ∧
      ∀ target, Steps p.tables e below (B.U.setTop { g with pc := g.pc + 3, stack := v.toList ++ rest }) target → Steps p.tables e below (T.setTop g) target) ∨
    (∃ (q : Addr) (vm₁ : Vm) (B : Pt), s.WarmedH vm₁ ∧ Stand p l e R s m args below meth c B.U B.locs B.cells B.slots ∧ PostX ⟨T.setVm vm₁, locs, cells, slots⟩ (Value.ref b :: argsL).toArray q B ∧
      Steps p.tables e below (T.setTop g) ((B.U.setTop { g with stack := rest }).pushFrame (.throwing q))) := by
  obtain ⟨mk, methM, hnamed, hmethM, hstM, habM⟩ := Cond.instanceMethod_spec hinst
  obtain ⟨m8, methM', cM, hn8, hmethM', -, -, -, -, -, -, hsigM⟩ := Cond.codeWith_spec hcode
  cases Option.some.inj (hn8.symm.trans hnamed)
  cases hmethM.symm.trans hmethM'
  obtain ⟨c2, r2, m2, q1, q2, q3, q4, kP, hkP, hkPi⟩ := Cond.selects_spec hsel
  cases hcls.symm.trans q1
  cases (State.methodFound?_of_named hnamed hy).symm.trans q2
  cases hnamed.symm.trans q3
  have hselP : selectMethod e.platform s.vm cellB.cls mk = .method mk := by rw [Launch.admits_selectMethod X.admits]; exact q4
  obtain ⟨vm₁, X₁, hstep₁⟩ := X.invokevirtual hexec hown hlink hnamed hmethM hstM hkP hkPi hy (a := b) (cell := cellB) hcell
    (fun z h => by rw [h] at hobj; cases hobj) hselP hmethM habM hkP hkPi (g := g) hg (argsL := argsL) (rest := rest) (hlen _ hsigM) hstack hdg
  rcases hK m meth c ⟨T.setVm vm₁, locs, cells, slots⟩ { g with stack := rest } (.invokevirtual index) mk (Value.ref b :: argsL).toArray X₁ hg hsize hdg hW (X₁.named hnamed) (hpre vm₁ X₁.warmed) with ⟨v, B, X', hpost, hsteps⟩ | ⟨q, B, X', hpost, hsteps⟩
  · exact Or.inl ⟨v, vm₁, B, X₁.warmed, X', hpost, fun target h => hstep₁ _ fun acts => by rw [doInvoke_state]; exact hsteps.trans h⟩
  · exact Or.inr ⟨q, vm₁, B, X₁.warmed, X', hpost, hstep₁ _ fun acts => by rw [doInvoke_state]; exact hsteps⟩
theorem vx_callSX (X : Stand p l e R s m args below meth c T locs cells slots) (hexec : p.tables.exec = Jvm.exec) {own : String} {index : Nat} {y : MethodName} {bytes : ByteArray} {maxL : Nat} {ret : Option FieldType} {hh : List (Nat × Nat × Nat × Nat)}
    (hown : s.vm.findClass own = some m.cls) (hlink : (Cond.methodLink own index y).before args s = true) (hstat : (Cond.static y).before args s = true) (hinit : (Cond.initialized y.cls).before args s = true)
    (hcode : (Cond.codeWith y bytes maxL ret hh).before args s = true) (hy : y.cls ≠ "java/lang/invoke/MethodHandle" ∧ y.cls ≠ "java/lang/invoke/VarHandle")
    {W9 : Nat} {Pre : Pt → Array Value → Prop} {Post : Pt → Array Value → Option Value → Pt → Prop} {PostX : Pt → Array Value → Addr → Pt → Prop} (hK : vx_Back l R p e below s args y 3 W9 Pre Post PostX)
    {g : JFrame} (hg : g.method = m) (hsize : g.locals.size = c.maxLocals) {argsL rest : List Value} (hlen : ∀ sig, parseMethodDescriptor y.desc = some sig → argsL.length = sig.parameters.length)
    (hstack : g.stack = argsL.reverse ++ rest) (hW : 2 * g.monitorRoom + (rest.map fun v => v.category).sum ≤ W9) (hdg : decode c.code g.pc = .ok (.invokestatic index, 3))
    (hpre : ∀ vm₁, s.WarmedH vm₁ → Pre ⟨T.setVm vm₁, locs, cells, slots⟩ argsL.toArray) :
    (∃ (v : Option Value) (vm₁ : Vm) (B : Pt), s.WarmedH vm₁ ∧ Stand p l e R s m args below meth c B.U B.locs B.cells B.slots ∧ Post ⟨T.setVm vm₁, locs, cells, slots⟩ argsL.toArray v B ∧
      ∀ target, Steps p.tables e below (B.U.setTop { g with pc := g.pc + 3, stack := v.toList ++ rest }) target → Steps p.tables e below (T.setTop g) target) ∨
    (∃ (q : Addr) (vm₁ : Vm) (B : Pt), s.WarmedH vm₁ ∧ Stand p l e R s m args below meth c B.U B.locs B.cells B.slots ∧ PostX ⟨T.setVm vm₁, locs, cells, slots⟩ argsL.toArray q B ∧
      Steps p.tables e below (T.setTop g) ((B.U.setTop { g with stack := rest }).pushFrame (.throwing q))) := by
  obtain ⟨mk, methM, cM, hnamed, hmethM, -, -, -, -, -, -, hsigM⟩ := Cond.codeWith_spec hcode
  have hstatic : methM.isStatic = true := Cond.static_spec hnamed hmethM hstat
  obtain ⟨kP, hkP, -⟩ := className_of_methodNamed hnamed
  have hinitP : kP.init = .initialized := Cond.initialized_spec (findClass_of_methodNamed hnamed) hkP hinit
  obtain ⟨vm₁, X₁, hstep₁⟩ := X.invokestatic hexec hown hlink hnamed hmethM hstatic hkP hinitP hy (g := g) hg (argsL := argsL) (rest := rest) (hlen _ hsigM) hstack hdg
  rcases hK m meth c ⟨T.setVm vm₁, locs, cells, slots⟩ { g with stack := rest } (.invokestatic index) mk argsL.toArray X₁ hg hsize hdg hW (X₁.named hnamed) (hpre vm₁ X₁.warmed) with ⟨v, B, X', hpost, hsteps⟩ | ⟨q, B, X', hpost, hsteps⟩
  · exact Or.inl ⟨v, vm₁, B, X₁.warmed, X', hpost, fun target h => hstep₁ _ fun acts => by rw [doInvoke_state]; exact hsteps.trans h⟩
  · exact Or.inr ⟨q, vm₁, B, X₁.warmed, X', hpost, hstep₁ _ fun acts => by rw [doInvoke_state]; exact hsteps⟩
theorem vx_callVW (X : Stand p l e R s m args below meth c T locs cells slots) (hexec : p.tables.exec = Jvm.exec) {own C : String} {index : Nat} {y : MethodName} {bytes : ByteArray} {maxL : Nat} {ret : Option FieldType} {hh : List (Nat × Nat × Nat × Nat)}
    (hown : s.vm.findClass own = some m.cls) (hlink : (Cond.methodLink own index y).before args s = true) (hinst : (Cond.instanceMethod y).before args s = true) (hsel : (Cond.selects C y y).before args s = true)
    (hcode : (Cond.codeWith y bytes maxL ret hh).before args s = true) (hy : y.cls ≠ "java/lang/invoke/MethodHandle" ∧ y.cls ≠ "java/lang/invoke/VarHandle")
    {W9 : Nat} {Pre : Pt → Array Value → Prop} {Post : Pt → Array Value → Option Value → Pt → Prop} (hK : Back l R p e below s args y 3 W9 Pre Post)
    {b : Addr} {cellB : Cell} (hcell : T.heap[b]? = some cellB) (hobj : cellB.vm.isStatics = false) (hcls : s.vm.findClass C = some cellB.cls)
    {g : JFrame} (hg : g.method = m) (hsize : g.locals.size = c.maxLocals) {argsL rest : List Value} (hlen : ∀ sig, parseMethodDescriptor y.desc = some sig → argsL.length = sig.parameters.length)
    (hstack : g.stack = argsL.reverse ++ .ref b :: rest) (hW : 2 * g.monitorRoom + (rest.map fun v => v.category).sum ≤ W9) (hdg : decode c.code g.pc = .ok (.invokevirtual index, 3))
    (hpre : ∀ vm₁, s.WarmedH vm₁ → Pre ⟨T.setVm vm₁, locs, cells, slots⟩ (Value.ref b :: argsL).toArray) :
    ∃ (v : Option Value) (vm₁ : Vm) (B : Pt), s.WarmedH vm₁ ∧ Stand p l e R s m args below meth c B.U B.locs B.cells B.slots ∧ Post ⟨T.setVm vm₁, locs, cells, slots⟩ (Value.ref b :: argsL).toArray v B ∧
      ∀ target, Steps p.tables e below (B.U.setTop { g with pc := g.pc + 3, stack := v.toList ++ rest }) target → Steps p.tables e below (T.setTop g) target := by
  obtain ⟨mk, methM, hnamed, hmethM, hstM, habM⟩ := Cond.instanceMethod_spec hinst
  obtain ⟨m8, methM', cM, hn8, hmethM', -, -, -, -, -, -, hsigM⟩ := Cond.codeWith_spec hcode
  cases Option.some.inj (hn8.symm.trans hnamed)
  cases hmethM.symm.trans hmethM'
  obtain ⟨c2, r2, m2, q1, q2, q3, q4, kP, hkP, hkPi⟩ := Cond.selects_spec hsel
  cases hcls.symm.trans q1
  cases (State.methodFound?_of_named hnamed hy).symm.trans q2
  cases hnamed.symm.trans q3
  have hselP : selectMethod e.platform s.vm cellB.cls mk = .method mk := by rw [Launch.admits_selectMethod X.admits]; exact q4
  obtain ⟨vm₁, X₁, hstep₁⟩ := X.invokevirtual hexec hown hlink hnamed hmethM hstM hkP hkPi hy (a := b) (cell := cellB) hcell
    (fun z h => by rw [h] at hobj; cases hobj) hselP hmethM habM hkP hkPi (g := g) hg (argsL := argsL) (rest := rest) (hlen _ hsigM) hstack hdg
  obtain ⟨v, B, X', hpost, hsteps⟩ := hK m meth c ⟨T.setVm vm₁, locs, cells, slots⟩ { g with stack := rest } (.invokevirtual index) mk (Value.ref b :: argsL).toArray X₁ hg hsize hdg hW (X₁.named hnamed) (hpre vm₁ X₁.warmed)
  exact ⟨v, vm₁, B, X₁.warmed, X', hpost, fun target h => hstep₁ _ fun acts => by rw [doInvoke_state]; exact hsteps.trans h⟩
abbrev vx_CVW (R : Room) (s : State) (args : Array Value) (own C : String) (index : Nat) (y : MethodName) (bytes : ByteArray) (maxL : Nat) (ret : Option FieldType) (hh : List (Nat × Nat × Nat × Nat)) (ws : List Cond) (rm : Room) (mc ms n : Nat) : Prop :=
  (rm.cells = mc ∧ rm.slots = ms ∧ rm.frames + 1 ≤ R.frames ∧ 8 + (maxL + 11) + rm.locals ≤ R.locals ∧ (∀ w ∈ ws, ∀ (a' : Array Value) (U : State), s.WarmedH U.vm → w.before a' U = true) ∧ Cond.codeWith y bytes maxL ret hh ∈ ws) ∧
  (Cond.codeWith y bytes maxL ret hh).before args s = true ∧ (Cond.initialized y.cls).before args s = true ∧ (y.cls ≠ "java/lang/invoke/MethodHandle" ∧ y.cls ≠ "java/lang/invoke/VarHandle") ∧
  (∀ sig, parseMethodDescriptor y.desc = some sig → n = sig.parameters.length) ∧ (Cond.methodLink own index y).before args s = true ∧ (Cond.instanceMethod y).before args s = true ∧ (Cond.selects C y y).before args s = true
theorem vx_cwVW {own C : String} {index maxL mc ms : Nat} {y : MethodName} {bytes : ByteArray} {ret : Option FieldType} {hh : List (Nat × Nat × Nat × Nat)} {Ts ws ws' : List Cond} {rm : Room} (n : Nat) (ht : ∀ w ∈ Ts, w.before args s = true) (hT : GoodIn Ts (wsV own index C y ws)) (hw : ws = Cond.codeWith y bytes maxL ret hh :: ws') (hrc : rm.cells = mc) (hrs : rm.slots = ms)
    (hd : y.cls = C ∧ y.cls ≠ "java/lang/invoke/MethodHandle" ∧ y.cls ≠ "java/lang/invoke/VarHandle" ∧ (parseMethodDescriptor y.desc).map (fun d => d.parameters.length) = some n) (hR : rm.frames + 1 ≤ R.frames ∧ 8 + (maxL + 11) + rm.locals ≤ R.locals) :
    vx_CVW R s args own C index y bytes maxL ret hh ws rm mc ms n := by
  obtain ⟨hC, hd⟩ := hd
  subst hC
  have ok : ∀ w ∈ wsV own index y.cls y ws, w.before args s = true := fun w h => ht w (hT w h).1
  have hG : GoodIn Ts ws := fun w h => hT w (by unfold wsV; exact List.mem_append_right _ h)
  have hc : Cond.codeWith y bytes maxL ret hh ∈ ws := by rw [hw]; exact List.mem_cons_self
  refine ⟨⟨hrc, hrs, hR.1, hR.2, pay_in ht hG, hc⟩, ht _ (hG _ hc).1, ok _ (by simp [wsV]), ⟨hd.1, hd.2.1⟩, fun sig h => ?_, ok _ (by simp [wsV]), ok _ (by simp [wsV]), ok _ (by simp [wsV])⟩
  have h2 := hd.2.2
  rw [h] at h2
  exact (Option.some.inj h2).symm
theorem vx_runVW {y : MethodName} {bytes cc : ByteArray} {maxL nL mc ms n index : Nat} {ret : Option FieldType} {hh : List (Nat × Nat × Nat × Nat)} {ws : List Cond} {rm : Room} {Pc : Array Value → State → Prop} {Qc : Array Value → State → Outcome → State → Prop} {free : Addr → Prop} {Ts : List Cond} {own C : String} {b : Addr} {As rest : List Value} {g : JFrame}
    (S : CallFix p m c cc nL s args Ts own) (hM : Met l y ws rm Pc Qc mc ms free) (cw : vx_CVW R s args own C index y bytes maxL ret hh ws rm mc ms n) (hp : PreV s H C b Pc As)
    (hg : g.method = m) (hn : As.length = n) (hsize : g.locals.size = nL) (hstack : g.stack = As.reverse ++ .ref b :: rest) (hW : 2 * g.monitorRoom + (rest.map fun v => v.category).sum ≤ 8) (hdg : decode cc g.pc = .ok (.invokevirtual index, 3)) (hf : cells + mc ≤ R.cells ∧ slots + ms ≤ R.slots) :
    va_Run p l e R s m args below meth c H locs cells slots mc ms g rest (Qc (Value.ref b :: As).toArray) free := by
  obtain ⟨⟨hrc, hrs, hfr, hlo, hws, hcw⟩, hcode, hini, hy, hlen, hl, hin, hse⟩ := cw
  have hK : Back l R p e below s args y 3 8 (PreOf R mc ms Pc) (PostOf Qc mc ms free) := va_backW (hh := hh) (bytes := bytes) (maxL := maxL) (ret := ret) hM hp.1 hrc hrs hfr hlo hws hcw (fun a' U hW => word_at hW (Or.inl (by first | rfl | simp [Cond.onTables, Cond.keeps, Cond.steady])) hini)
  obtain ⟨hx, hb, hml, ho, -⟩ := S
  obtain ⟨-, ⟨cellB, hcB, hoB, hclB⟩, hPc⟩ := hp
  intro T hT X
  obtain ⟨v, vm₁, ⟨U', l2, c2, s2⟩, hW₁, X', ⟨g', mk, t, L, e1, e2, hq, h1, hL, h2, h3⟩, st⟩ := vx_callVW X hx (C := C) (hh := hh) (bytes := bytes) (maxL := maxL) (ret := ret) ho hl hin hse hcode hy hK (by rw [hT]; exact hcB) hoB hclB hg (hsize.trans hml.symm) (argsL := As) (rest := rest) (fun sig h => hn.trans (hlen sig h)) hstack hW (by rw [hb]; exact hdg)
    (fun vm₁ hW₁ => ⟨hf.1, hf.2, hPc (T.setVm vm₁) hT hW₁⟩)
  dsimp only [Pt.U, Pt.locs, Pt.cells, Pt.slots] at X' e1 e2 h1 h2 h3 st
  subst h1; subst h2; subst h3
  exact ⟨v, (T.setVm vm₁).calling g' mk (Value.ref b :: As).toArray, t, U', L, hT, X', hL, e1, e2, hq, st⟩
section
variable {y : MethodName} {bytes cc : ByteArray} {maxL nL mc ms n index : Nat} {ret : Option FieldType} {ws : List Cond} {rm : Room} {Pc : Array Value → State → Prop} {Qc : Array Value → State → Outcome → State → Prop} {XC : String → State → State → Prop} {free : Addr → Prop} {Ts : List Cond} {own C : String} {b : Addr} {As rest : List Value} {g : JFrame}
theorem vx_runVX {hh : List (Nat × Nat × Nat × Nat)} (S : CallFix p m c cc nL s args Ts own) (hM : vx_Met l y ws rm Pc Qc XC mc ms free) (cw : vx_CVW R s args own C index y bytes maxL ret hh ws rm mc ms n) (hp : PreV s H C b Pc As)
    (hg : g.method = m) (hn : As.length = n) (hsize : g.locals.size = nL) (hstack : g.stack = As.reverse ++ .ref b :: rest) (hW : 2 * g.monitorRoom + (rest.map fun v => v.category).sum ≤ 8) (hdg : decode cc g.pc = .ok (.invokevirtual index, 3)) (hf : cells + mc ≤ R.cells ∧ slots + ms ≤ R.slots) :
    vx_Run p l e R s m args below meth c H locs cells slots mc ms g rest (Qc (Value.ref b :: As).toArray) XC free := by
  obtain ⟨⟨hrc, hrs, hfr, hlo, hws, hcw⟩, hcode, hini, hy, hlen, hl, hin, hse⟩ := cw
  have hK : vx_Back l R p e below s args y 3 8 (PreOf R mc ms Pc) (PostOf Qc mc ms free) (vx_Post XC mc ms free) := vx_backW (hh := hh) (bytes := bytes) (maxL := maxL) (ret := ret) hM hp.1 hrc hrs hfr hlo hws hcw (fun a' U hW => word_at hW (Or.inl (by first | rfl | simp [Cond.onTables, Cond.keeps, Cond.steady])) hini)
  obtain ⟨hx, hb, hml, ho, -⟩ := S
  obtain ⟨-, ⟨cellB, hcB, hoB, hclB⟩, hPc⟩ := hp
  intro T hT X
  rcases vx_callVX X hx (C := C) (hh := hh) (bytes := bytes) (maxL := maxL) (ret := ret) ho hl hin hse hcode hy hK (by rw [hT]; exact hcB) hoB hclB hg (hsize.trans hml.symm) (argsL := As) (rest := rest) (fun sig h => hn.trans (hlen sig h)) hstack hW (by rw [hb]; exact hdg)
    (fun vm₁ hW₁ => ⟨hf.1, hf.2, hPc (T.setVm vm₁) hT hW₁⟩) with ⟨v, vm₁, ⟨U', l2, c2, s2⟩, hW₁, X', ⟨g', mk, t, L, e1, e2, hq, h1, hL, h2, h3⟩, st⟩ | ⟨q, vm₁, ⟨U', l2, c2, s2⟩, hW₁, X', ⟨g', mk, t, L, E, ce, e1, e2, hq, hce, hcv, hcl, h1, hL, h2, h3⟩, st⟩
  · dsimp only [Pt.U, Pt.locs, Pt.cells, Pt.slots] at X' e1 e2 h1 h2 h3 st
    subst h1; subst h2; subst h3
    exact Or.inl ⟨v, (T.setVm vm₁).calling g' mk (Value.ref b :: As).toArray, t, U', L, hT, X', hL, e1, e2, hq, st⟩
  · dsimp only [Pt.U, Pt.locs, Pt.cells, Pt.slots] at X' e1 e2 h1 h2 h3 st hcl
    subst h1; subst h2; subst h3
    exact Or.inr ⟨q, (T.setVm vm₁).calling g' mk (Value.ref b :: As).toArray, t, U', L, E, ce, hT, X', hL, e1, e2, hq, hce, hcv, vx_cls hW₁ hcl, st⟩
theorem vx_runSX {hh : List (Nat × Nat × Nat × Nat)} (S : CallFix p m c cc nL s args Ts own) (hM : vx_Met l y ws rm Pc Qc XC mc ms free) (cw : vx_CSW R s args own index y bytes maxL ret hh ws rm mc ms n) (hp : PreS s H Pc As)
    (hg : g.method = m) (hn : As.length = n) (hsize : g.locals.size = nL) (hstack : g.stack = As.reverse ++ rest) (hW : 2 * g.monitorRoom + (rest.map fun v => v.category).sum ≤ 8) (hdg : decode cc g.pc = .ok (.invokestatic index, 3)) (hf : cells + mc ≤ R.cells ∧ slots + ms ≤ R.slots) :
    vx_Run p l e R s m args below meth c H locs cells slots mc ms g rest (Qc As.toArray) XC free := by
  obtain ⟨⟨hrc, hrs, hfr, hlo, hws, hcw⟩, hcode, hini, hy, hlen, hl, hstt⟩ := cw
  have hK : vx_Back l R p e below s args y 3 8 (PreOf R mc ms Pc) (PostOf Qc mc ms free) (vx_Post XC mc ms free) := vx_backW (hh := hh) (bytes := bytes) (maxL := maxL) (ret := ret) hM hp.1 hrc hrs hfr hlo hws hcw (fun a' U hW => word_at hW (Or.inl (by first | rfl | simp [Cond.onTables, Cond.keeps, Cond.steady])) hini)
  obtain ⟨hx, hb, hml, ho, -⟩ := S
  intro T hT X
  rcases vx_callSX X hx (hh := hh) (bytes := bytes) (maxL := maxL) (ret := ret) ho hl hstt hini hcode hy hK hg (hsize.trans hml.symm) (argsL := As) (rest := rest) (fun sig h => hn.trans (hlen sig h)) hstack hW (by rw [hb]; exact hdg)
    (fun vm₁ hW₁ => ⟨hf.1, hf.2, hp.2 (T.setVm vm₁) hT hW₁⟩) with ⟨v, vm₁, ⟨U', l2, c2, s2⟩, hW₁, X', ⟨g', mk, t, L, e1, e2, hq, h1, hL, h2, h3⟩, st⟩ | ⟨q, vm₁, ⟨U', l2, c2, s2⟩, hW₁, X', ⟨g', mk, t, L, E, ce, e1, e2, hq, hce, hcv, hcl, h1, hL, h2, h3⟩, st⟩
  · dsimp only [Pt.U, Pt.locs, Pt.cells, Pt.slots] at X' e1 e2 h1 h2 h3 st
    subst h1; subst h2; subst h3
    exact Or.inl ⟨v, (T.setVm vm₁).calling g' mk As.toArray, t, U', L, hT, X', hL, e1, e2, hq, st⟩
  · dsimp only [Pt.U, Pt.locs, Pt.cells, Pt.slots] at X' e1 e2 h1 h2 h3 st hcl
    subst h1; subst h2; subst h3
    exact Or.inr ⟨q, (T.setVm vm₁).calling g' mk As.toArray, t, U', L, E, ce, hT, X', hL, e1, e2, hq, hce, hcv, vx_cls hW₁ hcl, st⟩
end
end VXH
theorem vx_ofWH {l : Launch} {y : MethodName} {ws ws' : List Cond} {rm : Room} {Pc : Array Value → State → Prop} {Qc : Array Value → State → Outcome → State → Prop} {XC : String → State → State → Prop} {mc ms : Nat} {free : Addr → Prop} {cc : ByteArray} {maxL : Nat} {ret : Option FieldType} {hh : List (Nat × Nat × Nat × Nat)}
    (hy : plainName y.cls = true) (hw : ws = Cond.codeWith y cc maxL ret hh :: ws')
    (body : ∀ p e s m args below meth c s₁, BodyLoose p l y (headSpec ws rm) cc maxL ret e s m args below meth c s₁ → c.maxLocals = maxL → Pc args s →
      W p l e (headSpec ws rm).room s m args below meth c s.heap [] 0 0 (vx_MQ below Qc XC args s mc ms free) (entryFrame m args maxL)) : vx_Met l y ws rm Pc Qc XC mc ms free := by
  refine MetFree.of_bodyS (code := cc) (maxLocals := maxL) (ret := ret) hy ?_ ?_
  · intro args s m h hn
    obtain ⟨m9, meth, c, hn9, h1, h2, h3, h4, -, h5, h6, -⟩ := Cond.codeWith_spec (atoms_spec (ws := ws) h _ (by rw [hw]; exact List.mem_cons_self))
    cases hn.symm.trans hn9
    exact ⟨meth, c, h1, h2, h3, h4, h5, h6⟩
  · intro p e s m args below meth c s₁ B hml hP _
    have hh0 : s₁.heap = s.heap := by rw [B.state]; rfl
    obtain ⟨t, a1, o, b1, b2, b3⟩ := body p e s m args below meth c s₁ B hml hP s₁ hh0 (Stand.of_body B)
    exact ⟨t, o, a1, b1, b2, b3⟩
/-! ===== END ===== -/
end
section
/-! ===== BEGIN printed: names, fields, word lists, decode rows ===== -/
def RX0 : String := "MatchingService$Flow"
def TX0 : u_T := fun k => match k with
  | 0 => ("MatchingService$Flow", "pool", "LMatchingService$Pool;", true)
  | 1 => ("MatchingService$Flow", "node", "[I", true)
  | 2 => ("MatchingService$Flow", "accepted", "[I", true)
  | 3 => ("MatchingService$Flow", "load", "[I", true)
  | 4 => ("MatchingService$Flow", "used", "[I", true)
  | 5 => ("MatchingService$Flow", "queue", "[I", true)
  | 6 => ("MatchingService$Flow", "queued", "I", false)
  | 7 => ("MatchingService$Flow", "seen", "[Z", true)
  | 8 => ("MatchingService$Flow", "before", "[I", true)
  | _ => ("MatchingService$Flow", "carried", "[I", true)
def tyX0 : Nat → FieldType := fun k => match k with
  | 0 => .object "MatchingService$Pool"
  | 1 => .array .int
  | 2 => .array .int
  | 3 => .array .int
  | 4 => .array .int
  | 5 => .array .int
  | 6 => .int
  | 7 => .array .boolean
  | 8 => .array .int
  | _ => .array .int
abbrev wsX00 : List Cond := u_ws RX0 TX0 10
theorem nmX0 : ∀ a, a < 10 → ∀ b, b < 10 → a ≠ b → (TX0 a).2.1 ≠ (TX0 b).2.1 := by decide +kernel
theorem tyX0_ok : ∀ k, k < 10 → parseFieldDescriptor (TX0 k).2.2.1 = some (tyX0 k) := by decide +kernel
abbrev cX0_init : ByteArray := prog_2_method_1_code
def yX0_init : MethodName := ⟨RX0, "<init>", "(LMatchingService$Pool;)V"⟩
abbrev cX0_greatest : ByteArray := prog_2_method_2_code
def yX0_greatest : MethodName := ⟨RX0, "greatest", "(I)I"⟩
abbrev cX0_copyAssignment : ByteArray := prog_2_method_3_code
def yX0_copyAssignment : MethodName := ⟨RX0, "copyAssignment", "(I)V"⟩
abbrev cX0_startOf : ByteArray := prog_2_method_4_code
def yX0_startOf : MethodName := ⟨RX0, "startOf", "(I)I"⟩
abbrev cX0_augment : ByteArray := prog_2_method_5_code
def yX0_augment : MethodName := ⟨RX0, "augment", "()Z"⟩
abbrev cX0_startAtGroups : ByteArray := prog_2_method_6_code
def yX0_startAtGroups : MethodName := ⟨RX0, "startAtGroups", "()V"⟩
abbrev cX0_reach : ByteArray := prog_2_method_7_code
def yX0_reach : MethodName := ⟨RX0, "reach", "(III)V"⟩
abbrev cX0_leave : ByteArray := prog_2_method_8_code
def yX0_leave : MethodName := ⟨RX0, "leave", "(I)I"⟩
abbrev cX0_leaveWith : ByteArray := prog_2_method_9_code
def yX0_leaveWith : MethodName := ⟨RX0, "leaveWith", "(II)I"⟩
abbrev cX0_shiftAlong : ByteArray := prog_2_method_10_code
def yX0_shiftAlong : MethodName := ⟨RX0, "shiftAlong", "(I)V"⟩
def RX1 : String := "MatchingService$MoveLog"
def TX1 : u_T := fun k => match k with
  | 0 => ("MatchingService$MoveLog", "request", "[I", true)
  | 1 => ("MatchingService$MoveLog", "target", "[I", true)
  | _ => ("MatchingService$MoveLog", "size", "I", false)
def tyX1 : Nat → FieldType := fun k => match k with
  | 0 => .array .int
  | 1 => .array .int
  | _ => .int
abbrev wsX10 : List Cond := u_ws RX1 TX1 3
theorem nmX1 : ∀ a, a < 3 → ∀ b, b < 3 → a ≠ b → (TX1 a).2.1 ≠ (TX1 b).2.1 := by decide +kernel
theorem tyX1_ok : ∀ k, k < 3 → parseFieldDescriptor (TX1 k).2.2.1 = some (tyX1 k) := by decide +kernel
abbrev cX1_init : ByteArray := prog_3_method_1_code
def yX1_init : MethodName := ⟨RX1, "<init>", "()V"⟩
abbrev cX1_clear : ByteArray := prog_3_method_2_code
def yX1_clear : MethodName := ⟨RX1, "clear", "()V"⟩
abbrev cX1_add : ByteArray := prog_3_method_3_code
def yX1_add : MethodName := ⟨RX1, "add", "(II)V"⟩
def RX2 : String := "MatchingService$PathSearch"
def TX2 : u_T := fun k => match k with
  | 0 => ("MatchingService$PathSearch", "pool", "LMatchingService$Pool;", true)
  | 1 => ("MatchingService$PathSearch", "successors", "[I", true)
  | 2 => ("MatchingService$PathSearch", "layer", "[I", true)
  | 3 => ("MatchingService$PathSearch", "resource", "[I", true)
  | 4 => ("MatchingService$PathSearch", "request", "[I", true)
  | _ => ("MatchingService$PathSearch", "length", "I", false)
def tyX2 : Nat → FieldType := fun k => match k with
  | 0 => .object "MatchingService$Pool"
  | 1 => .array .int
  | 2 => .array .int
  | 3 => .array .int
  | 4 => .array .int
  | _ => .int
abbrev wsX20 : List Cond := u_ws RX2 TX2 6
theorem nmX2 : ∀ a, a < 6 → ∀ b, b < 6 → a ≠ b → (TX2 a).2.1 ≠ (TX2 b).2.1 := by decide +kernel
theorem tyX2_ok : ∀ k, k < 6 → parseFieldDescriptor (TX2 k).2.2.1 = some (tyX2 k) := by decide +kernel
abbrev cX2_init : ByteArray := prog_4_method_1_code
def yX2_init : MethodName := ⟨RX2, "<init>", "(LMatchingService$Pool;)V"⟩
abbrev cX2_search : ByteArray := prog_4_method_2_code
def yX2_search : MethodName := ⟨RX2, "search", "(I)I"⟩
abbrev cX2_collectSuccessors : ByteArray := prog_4_method_3_code
def yX2_collectSuccessors : MethodName := ⟨RX2, "collectSuccessors", "()V"⟩
abbrev cX2_buildLayers : ByteArray := prog_4_method_4_code
def yX2_buildLayers : MethodName := ⟨RX2, "buildLayers", "()V"⟩
abbrev cX2_leadingTo : ByteArray := prog_4_method_5_code
def yX2_leadingTo : MethodName := ⟨RX2, "leadingTo", "(I)I"⟩
abbrev cX2_shortestFrom : ByteArray := prog_4_method_6_code
def yX2_shortestFrom : MethodName := ⟨RX2, "shortestFrom", "(I)I"⟩
abbrev cX2_trace : ByteArray := prog_4_method_7_code
def yX2_trace : MethodName := ⟨RX2, "trace", "(I)Z"⟩
abbrev cX2_firstMovable : ByteArray := prog_4_method_8_code
def yX2_firstMovable : MethodName := ⟨RX2, "firstMovable", "(II)I"⟩
def RX3 : String := "MatchingService$Placer"
def TX3 : u_T := fun k => match k with
  | 0 => ("MatchingService$Placer", "pool", "LMatchingService$Pool;", true)
  | 1 => ("MatchingService$Placer", "paths", "LMatchingService$PathSearch;", true)
  | 2 => ("MatchingService$Placer", "log", "LMatchingService$MoveLog;", true)
  | _ => ("MatchingService$Placer", "tried", "[Z", true)
def tyX3 : Nat → FieldType := fun k => match k with
  | 0 => .object "MatchingService$Pool"
  | 1 => .object "MatchingService$PathSearch"
  | 2 => .object "MatchingService$MoveLog"
  | _ => .array .boolean
abbrev wsX30 : List Cond := u_ws RX3 TX3 4
theorem nmX3 : ∀ a, a < 4 → ∀ b, b < 4 → a ≠ b → (TX3 a).2.1 ≠ (TX3 b).2.1 := by decide +kernel
theorem tyX3_ok : ∀ k, k < 4 → parseFieldDescriptor (TX3 k).2.2.1 = some (tyX3 k) := by decide +kernel
abbrev cX3_init : ByteArray := prog_5_method_1_code
def yX3_init : MethodName := ⟨RX3, "<init>", "(LMatchingService$Pool;LMatchingService$PathSearch;LMatchingService$MoveLog;)V"⟩
abbrev cX3_runOnce : ByteArray := prog_5_method_2_code
def yX3_runOnce : MethodName := ⟨RX3, "runOnce", "()I"⟩
abbrev cX3_nextToTry : ByteArray := prog_5_method_3_code
def yX3_nextToTry : MethodName := ⟨RX3, "nextToTry", "()I"⟩
abbrev cX3_isServedBefore : ByteArray := prog_5_method_4_code
def yX3_isServedBefore : MethodName := ⟨RX3, "isServedBefore", "(II)Z"⟩
abbrev cX3_tryToPlace : ByteArray := prog_5_method_5_code
def yX3_tryToPlace : MethodName := ⟨RX3, "tryToPlace", "(I)Z"⟩
abbrev cX3_placeAlongPath : ByteArray := prog_5_method_6_code
def yX3_placeAlongPath : MethodName := ⟨RX3, "placeAlongPath", "(I)V"⟩
def RX4 : String := "MatchingService$Pool"
def TX4 : u_T := fun k => match k with
  | 0 => ("MatchingService$Pool", "resources", "I", false)
  | 1 => ("MatchingService$Pool", "capacity", "[I", true)
  | 2 => ("MatchingService$Pool", "load", "[I", true)
  | 3 => ("MatchingService$Pool", "quota", "[I", true)
  | 4 => ("MatchingService$Pool", "weight", "[I", true)
  | 5 => ("MatchingService$Pool", "assigned", "[I", true)
  | 6 => ("MatchingService$Pool", "requests", "I", false)
  | 7 => ("MatchingService$Pool", "group", "[I", true)
  | 8 => ("MatchingService$Pool", "accepted", "[I", true)
  | 9 => ("MatchingService$Pool", "place", "[I", true)
  | 10 => ("MatchingService$Pool", "moves", "[I", true)
  | 11 => ("MatchingService$Pool", "pathLimit", "I", false)
  | _ => ("MatchingService$Pool", "moveLimit", "I", false)
def tyX4 : Nat → FieldType := fun k => match k with
  | 0 => .int
  | 1 => .array .int
  | 2 => .array .int
  | 3 => .array .int
  | 4 => .array .int
  | 5 => .array .int
  | 6 => .int
  | 7 => .array .int
  | 8 => .array .int
  | 9 => .array .int
  | 10 => .array .int
  | 11 => .int
  | _ => .int
abbrev wsX40 : List Cond := u_ws RX4 TX4 13
theorem nmX4 : ∀ a, a < 13 → ∀ b, b < 13 → a ≠ b → (TX4 a).2.1 ≠ (TX4 b).2.1 := by decide +kernel
theorem tyX4_ok : ∀ k, k < 13 → parseFieldDescriptor (TX4 k).2.2.1 = some (tyX4 k) := by decide +kernel
abbrev cX4_init : ByteArray := prog_6_method_1_code
def yX4_init : MethodName := ⟨RX4, "<init>", "()V"⟩
abbrev cX4_maskOfAll : ByteArray := prog_6_method_2_code
def yX4_maskOfAll : MethodName := ⟨RX4, "maskOfAll", "()I"⟩
abbrev cX4_isWaiting : ByteArray := prog_6_method_3_code
def yX4_isWaiting : MethodName := ⟨RX4, "isWaiting", "(I)Z"⟩
abbrev cX4_isAssigned : ByteArray := prog_6_method_4_code
def yX4_isAssigned : MethodName := ⟨RX4, "isAssigned", "(I)Z"⟩
abbrev cX4_isDeparted : ByteArray := prog_6_method_5_code
def yX4_isDeparted : MethodName := ⟨RX4, "isDeparted", "(I)Z"⟩
abbrev cX4_stateNumber : ByteArray := prog_6_method_6_code
def yX4_stateNumber : MethodName := ⟨RX4, "stateNumber", "(I)I"⟩
abbrev cX4_canBeMoved : ByteArray := prog_6_method_7_code
def yX4_canBeMoved : MethodName := ⟨RX4, "canBeMoved", "(I)Z"⟩
abbrev cX4_resourceHasRoom : ByteArray := prog_6_method_8_code
def yX4_resourceHasRoom : MethodName := ⟨RX4, "resourceHasRoom", "(I)Z"⟩
abbrev cX4_groupHasRoom : ByteArray := prog_6_method_9_code
def yX4_groupHasRoom : MethodName := ⟨RX4, "groupHasRoom", "(I)Z"⟩
abbrev cX4_countAssigned : ByteArray := prog_6_method_10_code
def yX4_countAssigned : MethodName := ⟨RX4, "countAssigned", "()I"⟩
abbrev cX4_countWaiting : ByteArray := prog_6_method_11_code
def yX4_countWaiting : MethodName := ⟨RX4, "countWaiting", "()I"⟩
abbrev cX4_openResource : ByteArray := prog_6_method_12_code
def yX4_openResource : MethodName := ⟨RX4, "openResource", "(I)I"⟩
abbrev cX4_admit : ByteArray := prog_6_method_13_code
def yX4_admit : MethodName := ⟨RX4, "admit", "(II)I"⟩
abbrev cX4_dismiss : ByteArray := prog_6_method_14_code
def yX4_dismiss : MethodName := ⟨RX4, "dismiss", "(I)V"⟩
abbrev cX4_accept : ByteArray := prog_6_method_15_code
def yX4_accept : MethodName := ⟨RX4, "accept", "(II)V"⟩
abbrev cX4_assign : ByteArray := prog_6_method_16_code
def yX4_assign : MethodName := ⟨RX4, "assign", "(II)V"⟩
abbrev cX4_move : ByteArray := prog_6_method_17_code
def yX4_move : MethodName := ⟨RX4, "move", "(II)V"⟩
abbrev cX4_putBack : ByteArray := prog_6_method_18_code
def yX4_putBack : MethodName := ⟨RX4, "putBack", "(I)V"⟩
abbrev cX4_putBackBeyondCapacity : ByteArray := prog_6_method_19_code
def yX4_putBackBeyondCapacity : MethodName := ⟨RX4, "putBackBeyondCapacity", "(I)I"⟩
abbrev cX4_putBackBeyondQuota : ByteArray := prog_6_method_20_code
def yX4_putBackBeyondQuota : MethodName := ⟨RX4, "putBackBeyondQuota", "(I)I"⟩
def RX5 : String := "MatchingService"
def TX5 : u_T := fun k => match k with
  | 0 => ("MatchingService", "pool", "LMatchingService$Pool;", true)
  | 1 => ("MatchingService", "log", "LMatchingService$MoveLog;", true)
  | 2 => ("MatchingService", "paths", "LMatchingService$PathSearch;", true)
  | 3 => ("MatchingService", "placer", "LMatchingService$Placer;", true)
  | _ => ("MatchingService", "flow", "LMatchingService$Flow;", true)
def tyX5 : Nat → FieldType := fun k => match k with
  | 0 => .object "MatchingService$Pool"
  | 1 => .object "MatchingService$MoveLog"
  | 2 => .object "MatchingService$PathSearch"
  | 3 => .object "MatchingService$Placer"
  | _ => .object "MatchingService$Flow"
abbrev wsX50 : List Cond := u_ws RX5 TX5 5
theorem nmX5 : ∀ a, a < 5 → ∀ b, b < 5 → a ≠ b → (TX5 a).2.1 ≠ (TX5 b).2.1 := by decide +kernel
theorem tyX5_ok : ∀ k, k < 5 → parseFieldDescriptor (TX5 k).2.2.1 = some (tyX5 k) := by decide +kernel
abbrev cX5_init : ByteArray := prog_1_method_1_code
def yX5_init : MethodName := ⟨RX5, "<init>", "()V"⟩
abbrev cX5_addResource : ByteArray := prog_1_method_2_code
def yX5_addResource : MethodName := ⟨RX5, "addResource", "(I)I"⟩
abbrev cX5_setCapacity : ByteArray := prog_1_method_3_code
def yX5_setCapacity : MethodName := ⟨RX5, "setCapacity", "(II)I"⟩
abbrev cX5_setGroup : ByteArray := prog_1_method_4_code
def yX5_setGroup : MethodName := ⟨RX5, "setGroup", "(III)I"⟩
abbrev cX5_setLimits : ByteArray := prog_1_method_5_code
def yX5_setLimits : MethodName := ⟨RX5, "setLimits", "(II)I"⟩
abbrev cX5_arrive : ByteArray := prog_1_method_6_code
def yX5_arrive : MethodName := ⟨RX5, "arrive", "(II)I"⟩
abbrev cX5_depart : ByteArray := prog_1_method_7_code
def yX5_depart : MethodName := ⟨RX5, "depart", "(I)I"⟩
abbrev cX5_setAccepts : ByteArray := prog_1_method_8_code
def yX5_setAccepts : MethodName := ⟨RX5, "setAccepts", "(II)Z"⟩
abbrev cX5_resourceCount : ByteArray := prog_1_method_9_code
def yX5_resourceCount : MethodName := ⟨RX5, "resourceCount", "()I"⟩
abbrev cX5_arrivedCount : ByteArray := prog_1_method_10_code
def yX5_arrivedCount : MethodName := ⟨RX5, "arrivedCount", "()I"⟩
abbrev cX5_assignedCount : ByteArray := prog_1_method_11_code
def yX5_assignedCount : MethodName := ⟨RX5, "assignedCount", "()I"⟩
abbrev cX5_waitingCount : ByteArray := prog_1_method_12_code
def yX5_waitingCount : MethodName := ⟨RX5, "waitingCount", "()I"⟩
abbrev cX5_assignedOf : ByteArray := prog_1_method_13_code
def yX5_assignedOf : MethodName := ⟨RX5, "assignedOf", "(I)I"⟩
abbrev cX5_load : ByteArray := prog_1_method_14_code
def yX5_load : MethodName := ⟨RX5, "load", "(I)I"⟩
abbrev cX5_state : ByteArray := prog_1_method_15_code
def yX5_state : MethodName := ⟨RX5, "state", "(I)I"⟩
abbrev cX5_resourceOf : ByteArray := prog_1_method_16_code
def yX5_resourceOf : MethodName := ⟨RX5, "resourceOf", "(I)I"⟩
abbrev cX5_movesOf : ByteArray := prog_1_method_17_code
def yX5_movesOf : MethodName := ⟨RX5, "movesOf", "(I)I"⟩
abbrev cX5_moveCount : ByteArray := prog_1_method_18_code
def yX5_moveCount : MethodName := ⟨RX5, "moveCount", "()I"⟩
abbrev cX5_movedRequest : ByteArray := prog_1_method_19_code
def yX5_movedRequest : MethodName := ⟨RX5, "movedRequest", "(I)I"⟩
abbrev cX5_movedTo : ByteArray := prog_1_method_20_code
def yX5_movedTo : MethodName := ⟨RX5, "movedTo", "(I)I"⟩
abbrev cX5_movesNeeded : ByteArray := prog_1_method_21_code
def yX5_movesNeeded : MethodName := ⟨RX5, "movesNeeded", "(I)I"⟩
abbrev cX5_greatestPossible : ByteArray := prog_1_method_22_code
def yX5_greatestPossible : MethodName := ⟨RX5, "greatestPossible", "()I"⟩
abbrev cX5_gainBy : ByteArray := prog_1_method_23_code
def yX5_gainBy : MethodName := ⟨RX5, "gainBy", "(I)I"⟩
abbrev cX5_fairness : ByteArray := prog_1_method_24_code
def yX5_fairness : MethodName := ⟨RX5, "fairness", "()D"⟩
abbrev cX5_digest : ByteArray := prog_1_method_25_code
def yX5_digest : MethodName := ⟨RX5, "digest", "()J"⟩
abbrev cX5_requireResource : ByteArray := prog_1_method_26_code
def yX5_requireResource : MethodName := ⟨RX5, "requireResource", "(I)V"⟩
abbrev cX5_requireGroup : ByteArray := prog_1_method_27_code
def yX5_requireGroup : MethodName := ⟨RX5, "requireGroup", "(I)V"⟩
abbrev cX5_requireRequest : ByteArray := prog_1_method_28_code
def yX5_requireRequest : MethodName := ⟨RX5, "requireRequest", "(I)V"⟩
abbrev cX5_requirePresent : ByteArray := prog_1_method_29_code
def yX5_requirePresent : MethodName := ⟨RX5, "requirePresent", "(I)V"⟩
abbrev cX5_requireMask : ByteArray := prog_1_method_30_code
def yX5_requireMask : MethodName := ⟨RX5, "requireMask", "(I)V"⟩
abbrev cX5_requireLogged : ByteArray := prog_1_method_31_code
def yX5_requireLogged : MethodName := ⟨RX5, "requireLogged", "(I)V"⟩
abbrev cX5_isWithin : ByteArray := prog_1_method_32_code
def yX5_isWithin : MethodName := ⟨RX5, "isWithin", "(III)Z"⟩
abbrev cX5_hasBit : ByteArray := prog_1_method_33_code
def yX5_hasBit : MethodName := ⟨RX5, "hasBit", "(II)Z"⟩
abbrev cX5_lowestResource : ByteArray := prog_1_method_34_code
def yX5_lowestResource : MethodName := ⟨RX5, "lowestResource", "(I)I"⟩
abbrev cX5_mix : ByteArray := prog_1_method_35_code
def yX5_mix : MethodName := ⟨RX5, "mix", "(JI)J"⟩
def RX6 : String := "MatchingServiceModel"
def TX6 : u_T := fun k => match k with
  | 0 => ("MatchingServiceModel", "thrown", "I", false)
  | 1 => ("MatchingServiceModel", "resources", "I", false)
  | 2 => ("MatchingServiceModel", "capacities", "[I", true)
  | 3 => ("MatchingServiceModel", "quotas", "[I", true)
  | 4 => ("MatchingServiceModel", "weights", "[I", true)
  | 5 => ("MatchingServiceModel", "requests", "I", false)
  | 6 => ("MatchingServiceModel", "groups", "[I", true)
  | 7 => ("MatchingServiceModel", "masks", "[I", true)
  | 8 => ("MatchingServiceModel", "states", "[I", true)
  | 9 => ("MatchingServiceModel", "places", "[I", true)
  | 10 => ("MatchingServiceModel", "moves", "[I", true)
  | 11 => ("MatchingServiceModel", "pathLimit", "I", false)
  | 12 => ("MatchingServiceModel", "moveLimit", "I", false)
  | 13 => ("MatchingServiceModel", "logged", "I", false)
  | 14 => ("MatchingServiceModel", "loggedRequests", "[I", true)
  | 15 => ("MatchingServiceModel", "loggedPlaces", "[I", true)
  | 16 => ("MatchingServiceModel", "far", "[I", true)
  | 17 => ("MatchingServiceModel", "isTried", "[Z", true)
  | 18 => ("MatchingServiceModel", "pathRequests", "[I", true)
  | _ => ("MatchingServiceModel", "pathPlaces", "[I", true)
def tyX6 : Nat → FieldType := fun k => match k with
  | 0 => .int
  | 1 => .int
  | 2 => .array .int
  | 3 => .array .int
  | 4 => .array .int
  | 5 => .int
  | 6 => .array .int
  | 7 => .array .int
  | 8 => .array .int
  | 9 => .array .int
  | 10 => .array .int
  | 11 => .int
  | 12 => .int
  | 13 => .int
  | 14 => .array .int
  | 15 => .array .int
  | 16 => .array .int
  | 17 => .array .boolean
  | 18 => .array .int
  | _ => .array .int
abbrev wsX60 : List Cond := u_ws RX6 TX6 20
theorem nmX6 : ∀ a, a < 20 → ∀ b, b < 20 → a ≠ b → (TX6 a).2.1 ≠ (TX6 b).2.1 := by decide +kernel
theorem tyX6_ok : ∀ k, k < 20 → parseFieldDescriptor (TX6 k).2.2.1 = some (tyX6 k) := by decide +kernel
abbrev cX6_init : ByteArray := prog_8_method_1_code
def yX6_init : MethodName := ⟨RX6, "<init>", "()V"⟩
abbrev cX6_thrown : ByteArray := prog_8_method_2_code
def yX6_thrown : MethodName := ⟨RX6, "thrown", "()I"⟩
abbrev cX6_fail : ByteArray := prog_8_method_3_code
def yX6_fail : MethodName := ⟨RX6, "fail", "(I)I"⟩
abbrev cX6_isResource : ByteArray := prog_8_method_4_code
def yX6_isResource : MethodName := ⟨RX6, "isResource", "(I)Z"⟩
abbrev cX6_isRequest : ByteArray := prog_8_method_5_code
def yX6_isRequest : MethodName := ⟨RX6, "isRequest", "(I)Z"⟩
abbrev cX6_isGroup : ByteArray := prog_8_method_6_code
def yX6_isGroup : MethodName := ⟨RX6, "isGroup", "(I)Z"⟩
abbrev cX6_isMask : ByteArray := prog_8_method_7_code
def yX6_isMask : MethodName := ⟨RX6, "isMask", "(I)Z"⟩
abbrev cX6_accepts : ByteArray := prog_8_method_8_code
def yX6_accepts : MethodName := ⟨RX6, "accepts", "(II)Z"⟩
abbrev cX6_isAt : ByteArray := prog_8_method_9_code
def yX6_isAt : MethodName := ⟨RX6, "isAt", "(II)Z"⟩
abbrev cX6_loadOf : ByteArray := prog_8_method_10_code
def yX6_loadOf : MethodName := ⟨RX6, "loadOf", "(I)I"⟩
abbrev cX6_assignedIn : ByteArray := prog_8_method_11_code
def yX6_assignedIn : MethodName := ⟨RX6, "assignedIn", "(I)I"⟩
abbrev cX6_findFar : ByteArray := prog_8_method_12_code
def yX6_findFar : MethodName := ⟨RX6, "findFar", "()V"⟩
abbrev cX6_brings : ByteArray := prog_8_method_13_code
def yX6_brings : MethodName := ⟨RX6, "brings", "(II)Z"⟩
abbrev cX6_canMove : ByteArray := prog_8_method_14_code
def yX6_canMove : MethodName := ⟨RX6, "canMove", "(II)Z"⟩
abbrev cX6_firstOf : ByteArray := prog_8_method_15_code
def yX6_firstOf : MethodName := ⟨RX6, "firstOf", "(I)I"⟩
abbrev cX6_isPlaced : ByteArray := prog_8_method_16_code
def yX6_isPlaced : MethodName := ⟨RX6, "isPlaced", "(I)Z"⟩
abbrev cX6_movedFrom : ByteArray := prog_8_method_17_code
def yX6_movedFrom : MethodName := ⟨RX6, "movedFrom", "(I)I"⟩
abbrev cX6_log : ByteArray := prog_8_method_18_code
def yX6_log : MethodName := ⟨RX6, "log", "(II)V"⟩
abbrev cX6_run : ByteArray := prog_8_method_19_code
def yX6_run : MethodName := ⟨RX6, "run", "()I"⟩
abbrev cX6_next : ByteArray := prog_8_method_20_code
def yX6_next : MethodName := ⟨RX6, "next", "()I"⟩
abbrev cX6_firstIn : ByteArray := prog_8_method_21_code
def yX6_firstIn : MethodName := ⟨RX6, "firstIn", "(I)I"⟩
abbrev cX6_addResource : ByteArray := prog_8_method_22_code
def yX6_addResource : MethodName := ⟨RX6, "addResource", "(I)I"⟩
abbrev cX6_setCapacity : ByteArray := prog_8_method_23_code
def yX6_setCapacity : MethodName := ⟨RX6, "setCapacity", "(II)I"⟩
abbrev cX6_setGroup : ByteArray := prog_8_method_24_code
def yX6_setGroup : MethodName := ⟨RX6, "setGroup", "(III)I"⟩
abbrev cX6_setLimits : ByteArray := prog_8_method_25_code
def yX6_setLimits : MethodName := ⟨RX6, "setLimits", "(II)I"⟩
abbrev cX6_arrive : ByteArray := prog_8_method_26_code
def yX6_arrive : MethodName := ⟨RX6, "arrive", "(II)I"⟩
abbrev cX6_depart : ByteArray := prog_8_method_27_code
def yX6_depart : MethodName := ⟨RX6, "depart", "(I)I"⟩
abbrev cX6_setAccepts : ByteArray := prog_8_method_28_code
def yX6_setAccepts : MethodName := ⟨RX6, "setAccepts", "(II)Z"⟩
abbrev cX6_resourceCount : ByteArray := prog_8_method_29_code
def yX6_resourceCount : MethodName := ⟨RX6, "resourceCount", "()I"⟩
abbrev cX6_arrivedCount : ByteArray := prog_8_method_30_code
def yX6_arrivedCount : MethodName := ⟨RX6, "arrivedCount", "()I"⟩
abbrev cX6_countOf : ByteArray := prog_8_method_31_code
def yX6_countOf : MethodName := ⟨RX6, "countOf", "(I)I"⟩
abbrev cX6_assignedCount : ByteArray := prog_8_method_32_code
def yX6_assignedCount : MethodName := ⟨RX6, "assignedCount", "()I"⟩
abbrev cX6_waitingCount : ByteArray := prog_8_method_33_code
def yX6_waitingCount : MethodName := ⟨RX6, "waitingCount", "()I"⟩
abbrev cX6_assignedOf : ByteArray := prog_8_method_34_code
def yX6_assignedOf : MethodName := ⟨RX6, "assignedOf", "(I)I"⟩
abbrev cX6_load : ByteArray := prog_8_method_35_code
def yX6_load : MethodName := ⟨RX6, "load", "(I)I"⟩
abbrev cX6_state : ByteArray := prog_8_method_36_code
def yX6_state : MethodName := ⟨RX6, "state", "(I)I"⟩
abbrev cX6_resourceOf : ByteArray := prog_8_method_37_code
def yX6_resourceOf : MethodName := ⟨RX6, "resourceOf", "(I)I"⟩
abbrev cX6_movesOf : ByteArray := prog_8_method_38_code
def yX6_movesOf : MethodName := ⟨RX6, "movesOf", "(I)I"⟩
abbrev cX6_moveCount : ByteArray := prog_8_method_39_code
def yX6_moveCount : MethodName := ⟨RX6, "moveCount", "()I"⟩
abbrev cX6_movedRequest : ByteArray := prog_8_method_40_code
def yX6_movedRequest : MethodName := ⟨RX6, "movedRequest", "(I)I"⟩
abbrev cX6_movedTo : ByteArray := prog_8_method_41_code
def yX6_movedTo : MethodName := ⟨RX6, "movedTo", "(I)I"⟩
abbrev cX6_movesNeeded : ByteArray := prog_8_method_42_code
def yX6_movesNeeded : MethodName := ⟨RX6, "movesNeeded", "(I)I"⟩
abbrev cX6_possible : ByteArray := prog_8_method_43_code
def yX6_possible : MethodName := ⟨RX6, "possible", "()I"⟩
abbrev cX6_greatestPossible : ByteArray := prog_8_method_44_code
def yX6_greatestPossible : MethodName := ⟨RX6, "greatestPossible", "()I"⟩
abbrev cX6_gainBy : ByteArray := prog_8_method_45_code
def yX6_gainBy : MethodName := ⟨RX6, "gainBy", "(I)I"⟩
abbrev cX6_fairness : ByteArray := prog_8_method_46_code
def yX6_fairness : MethodName := ⟨RX6, "fairness", "()D"⟩
abbrev cX6_digest : ByteArray := prog_8_method_47_code
def yX6_digest : MethodName := ⟨RX6, "digest", "()J"⟩
def RJx145de : String := "java/io/Serializable"
def TJx145de : u_T := fun k => match k with
  | _ => ("", "", "", false)
def tyJx145de : Nat → FieldType := fun k => match k with
  | _ => .int
abbrev wsJx145de0 : List Cond := u_ws RJx145de TJx145de 0
theorem nmJx145de : ∀ a, a < 0 → ∀ b, b < 0 → a ≠ b → (TJx145de a).2.1 ≠ (TJx145de b).2.1 := by decide +kernel
theorem tyJx145de_ok : ∀ k, k < 0 → parseFieldDescriptor (TJx145de k).2.2.1 = some (tyJx145de k) := by decide +kernel
def RJ9 : String := "java/lang/Math"
def TJ9 : u_T := fun k => match k with
  | _ => ("", "", "", false)
def tyJ9 : Nat → FieldType := fun k => match k with
  | _ => .int
abbrev wsJ90 : List Cond := u_ws RJ9 TJ9 0
theorem nmJ9 : ∀ a, a < 0 → ∀ b, b < 0 → a ≠ b → (TJ9 a).2.1 ≠ (TJ9 b).2.1 := by decide +kernel
theorem tyJ9_ok : ∀ k, k < 0 → parseFieldDescriptor (TJ9 k).2.2.1 = some (tyJ9 k) := by decide +kernel
abbrev cJ9_min_7cf53 : ByteArray := prog_14_method_69_code
def yJ9_min_7cf53 : MethodName := ⟨RJ9, "min", "(II)I"⟩
def RJ0 : String := "java/lang/String"
def TJ0 : u_T := fun k => match k with
  | _ => ("", "", "", false)
def tyJ0 : Nat → FieldType := fun k => match k with
  | _ => .int
abbrev wsJ00 : List Cond := u_ws RJ0 TJ0 0
theorem nmJ0 : ∀ a, a < 0 → ∀ b, b < 0 → a ≠ b → (TJ0 a).2.1 ≠ (TJ0 b).2.1 := by decide +kernel
theorem tyJ0_ok : ∀ k, k < 0 → parseFieldDescriptor (TJ0 k).2.2.1 = some (tyJ0 k) := by decide +kernel
def RL : String := "MatchingServiceLaw"
abbrev cL_addResource : ByteArray := method_3_code
def yL_addResource : MethodName := ⟨RL, "addResource", "(LMatchingService;I[J)I"⟩
abbrev cL_setCapacity : ByteArray := method_4_code
def yL_setCapacity : MethodName := ⟨RL, "setCapacity", "(LMatchingService;II[J)I"⟩
abbrev cL_setGroup : ByteArray := method_5_code
def yL_setGroup : MethodName := ⟨RL, "setGroup", "(LMatchingService;III[J)I"⟩
abbrev cL_setLimits : ByteArray := method_6_code
def yL_setLimits : MethodName := ⟨RL, "setLimits", "(LMatchingService;II[J)I"⟩
abbrev cL_arrive : ByteArray := method_7_code
def yL_arrive : MethodName := ⟨RL, "arrive", "(LMatchingService;II[J)I"⟩
abbrev cL_depart : ByteArray := method_8_code
def yL_depart : MethodName := ⟨RL, "depart", "(LMatchingService;I[J)I"⟩
abbrev cL_setAccepts : ByteArray := method_9_code
def yL_setAccepts : MethodName := ⟨RL, "setAccepts", "(LMatchingService;II[J)I"⟩
abbrev cL_assignedOf : ByteArray := method_10_code
def yL_assignedOf : MethodName := ⟨RL, "assignedOf", "(LMatchingService;I[J)I"⟩
abbrev cL_load : ByteArray := method_11_code
def yL_load : MethodName := ⟨RL, "load", "(LMatchingService;I[J)I"⟩
abbrev cL_state : ByteArray := method_12_code
def yL_state : MethodName := ⟨RL, "state", "(LMatchingService;I[J)I"⟩
abbrev cL_resourceOf : ByteArray := method_13_code
def yL_resourceOf : MethodName := ⟨RL, "resourceOf", "(LMatchingService;I[J)I"⟩
abbrev cL_movesOf : ByteArray := method_14_code
def yL_movesOf : MethodName := ⟨RL, "movesOf", "(LMatchingService;I[J)I"⟩
abbrev cL_movedRequest : ByteArray := method_15_code
def yL_movedRequest : MethodName := ⟨RL, "movedRequest", "(LMatchingService;I[J)I"⟩
abbrev cL_movedTo : ByteArray := method_16_code
def yL_movedTo : MethodName := ⟨RL, "movedTo", "(LMatchingService;I[J)I"⟩
abbrev cL_movesNeeded : ByteArray := method_17_code
def yL_movesNeeded : MethodName := ⟨RL, "movesNeeded", "(LMatchingService;I[J)I"⟩
abbrev cL_gainBy : ByteArray := method_18_code
def yL_gainBy : MethodName := ⟨RL, "gainBy", "(LMatchingService;I[J)I"⟩
abbrev cL_law : ByteArray := code
def yL_law : MethodName := ⟨RL, "law", "([I)Z"⟩
abbrev vwCl : List vw_C := [(RX0, TX0, 10), (RX1, TX1, 3), (RX2, TX2, 6), (RX3, TX3, 4), (RX4, TX4, 13), (RX5, TX5, 5), (RX6, TX6, 20)]
end
section
/-! THE WORDS: jAll, the good ones of the tables; each by its place. (From the printed Statement, by gen_words.py) -/
def jAll : List Cond := lw_tbl.filter goodWord
theorem jAll_tbl : ∀ w ∈ jAll, w ∈ lw_tbl := fun _ h => (List.mem_filter.mp h).1
theorem jAll_good : ∀ w ∈ jAll, goodWord w = true := fun _ h => (List.mem_filter.mp h).2
theorem jM1 {w : Cond} (h : w ∈ tables_1_1) : w ∈ lw_tbl := List.mem_append_right _ (List.mem_append_left _ h)
theorem jM2 {w : Cond} (h : w ∈ tables_1_2) : w ∈ lw_tbl := List.mem_append_right _ (List.mem_append_right _ (List.mem_append_left _ h))
theorem jM3 {w : Cond} (h : w ∈ tables_1_3) : w ∈ lw_tbl := List.mem_append_right _ (List.mem_append_right _ (List.mem_append_right _ (List.mem_append_left _ h)))
theorem jM4 {w : Cond} (h : w ∈ tables_1_4) : w ∈ lw_tbl := List.mem_append_right _ (List.mem_append_right _ (List.mem_append_right _ (List.mem_append_right _ (List.mem_append_left _ h))))
theorem jM5 {w : Cond} (h : w ∈ tables_1_5) : w ∈ lw_tbl := List.mem_append_right _ (List.mem_append_right _ (List.mem_append_right _ (List.mem_append_right _ (List.mem_append_right _ h))))
theorem jMp {w : Cond} (h : w ∈ k2_sels lw_privs) : w ∈ lw_tbl := List.mem_append_left _ h
def jIsNest : Cond → Bool
  | .fieldLinkNest .. => true
  | .methodLinkNest .. => true
  | _ => false
def jNest : List Cond := lw_tbl.filter jIsNest
theorem jNest_tbl : ∀ w ∈ jNest, w ∈ lw_tbl := fun _ h => (List.mem_filter.mp h).1
theorem jH {w : Cond} (h : w ∈ lw_tbl) (g : jIsNest w = true) : w ∈ jNest := List.mem_filter.mpr ⟨h, g⟩
theorem jNest_on {w : Cond} (h : w ∈ jNest) : w.onTables = true := by
  have h2 := (List.mem_filter.mp h).2
  cases w <;> first | rfl | (simp [jIsNest] at h2)
theorem jNest_warm {w : Cond} (h : w ∈ jNest) {s U : State} (hW : s.WarmedH U.vm) (hZ : va_Nw w s) : va_Nw w U := by
  have h2 := (List.mem_filter.mp h).2
  cases w <;> first | exact va_Nw.warmF hW hZ | exact va_Nw.warmM hW hZ | (simp [jIsNest] at h2)
theorem jgd {w : Cond} (h : w ∈ lw_tbl) (g : goodWord w = true) : w ∈ jAll := List.mem_filter.mpr ⟨h, g⟩
theorem kini_L : Cond.initialized RL ∈ jAll := jgd (jM1 (List.mem_of_getElem? (i := 0) rfl)) rfl
theorem kini_X5 : Cond.initialized RX5 ∈ jAll := jgd (jM1 (List.mem_of_getElem? (i := 1) rfl)) rfl
theorem kini_X4 : Cond.initialized RX4 ∈ jAll := jgd (jM1 (List.mem_of_getElem? (i := 2) rfl)) rfl
theorem kini_X1 : Cond.initialized RX1 ∈ jAll := jgd (jM1 (List.mem_of_getElem? (i := 3) rfl)) rfl
theorem kini_X2 : Cond.initialized RX2 ∈ jAll := jgd (jM1 (List.mem_of_getElem? (i := 4) rfl)) rfl
theorem kini_X3 : Cond.initialized RX3 ∈ jAll := jgd (jM1 (List.mem_of_getElem? (i := 5) rfl)) rfl
theorem kini_X0 : Cond.initialized RX0 ∈ jAll := jgd (jM1 (List.mem_of_getElem? (i := 6) rfl)) rfl
theorem kini_X6 : Cond.initialized RX6 ∈ jAll := jgd (jM1 (List.mem_of_getElem? (i := 7) rfl)) rfl
theorem kini__java_lang_Throwable_ : Cond.initialized "java/lang/Throwable" ∈ jAll := jgd (jM1 (List.mem_of_getElem? (i := 8) rfl)) rfl
theorem kini__java_lang_Exception_ : Cond.initialized "java/lang/Exception" ∈ jAll := jgd (jM1 (List.mem_of_getElem? (i := 9) rfl)) rfl
theorem kini__java_lang_RuntimeException_ : Cond.initialized "java/lang/RuntimeException" ∈ jAll := jgd (jM1 (List.mem_of_getElem? (i := 10) rfl)) rfl
theorem kini__java_lang_IllegalArgumentException_ : Cond.initialized "java/lang/IllegalArgumentException" ∈ jAll := jgd (jM1 (List.mem_of_getElem? (i := 11) rfl)) rfl
theorem kini__java_lang_IllegalStateException_ : Cond.initialized "java/lang/IllegalStateException" ∈ jAll := jgd (jM1 (List.mem_of_getElem? (i := 12) rfl)) rfl
theorem kini__java_lang_IndexOutOfBoundsException_ : Cond.initialized "java/lang/IndexOutOfBoundsException" ∈ jAll := jgd (jM1 (List.mem_of_getElem? (i := 13) rfl)) rfl
theorem kini__java_util_NoSuchElementException_ : Cond.initialized "java/util/NoSuchElementException" ∈ jAll := jgd (jM1 (List.mem_of_getElem? (i := 14) rfl)) rfl
theorem kini_J9 : Cond.initialized RJ9 ∈ jAll := jgd (jM1 (List.mem_of_getElem? (i := 15) rfl)) rfl
theorem kcl_L_8 : Cond.classLink RL 8 RX5 ∈ jAll := jgd (jM1 (List.mem_of_getElem? (i := 16) rfl)) rfl
theorem kin_X5 : Cond.instantiable RX5 5 ∈ jAll := jgd (jM1 (List.mem_of_getElem? (i := 17) rfl)) rfl
theorem kml_L_69 : Cond.methodLink RL 69 yX5_init ∈ jAll := jgd (jM1 (List.mem_of_getElem? (i := 18) rfl)) rfl
theorem kim_X5_init : Cond.instanceMethod yX5_init ∈ jAll := jgd (jM1 (List.mem_of_getElem? (i := 19) rfl)) rfl
theorem kco_X5_init : Cond.code yX5_init cX5_init 1 none ∈ jAll := jgd (jM1 (List.mem_of_getElem? (i := 20) rfl)) rfl
theorem kml_X5_1 : Cond.methodLink RX5 1 objectInit ∈ jAll := jgd (jM1 (List.mem_of_getElem? (i := 21) rfl)) rfl
theorem kim_Object__init___V : Cond.instanceMethod objectInit ∈ jAll := jgd (jM1 (List.mem_of_getElem? (i := 22) rfl)) rfl
theorem kco_objectInit : Cond.code objectInit ⟨#[0xb1]⟩ 1 none ∈ jAll := jgd (jM1 (List.mem_of_getElem? (i := 23) rfl)) rfl
theorem kcl_X5_7 : Cond.classLink RX5 7 RX4 ∈ jAll := jgd (jM1 (List.mem_of_getElem? (i := 24) rfl)) rfl
theorem kin_X4 : Cond.instantiable RX4 13 ∈ jAll := jgd (jM1 (List.mem_of_getElem? (i := 25) rfl)) rfl
theorem kml_X5_9 : Cond.methodLink RX5 9 yX4_init ∈ jAll := jgd (jM1 (List.mem_of_getElem? (i := 26) rfl)) rfl
theorem kim_X4_init : Cond.instanceMethod yX4_init ∈ jAll := jgd (jM1 (List.mem_of_getElem? (i := 27) rfl)) rfl
theorem kco_X4_init : Cond.code yX4_init cX4_init 2 none ∈ jAll := jgd (jM1 (List.mem_of_getElem? (i := 28) rfl)) rfl
theorem kml_X4_3 : Cond.methodLink RX4 3 objectInit ∈ jAll := jgd (jM1 (List.mem_of_getElem? (i := 29) rfl)) rfl
theorem kfl_X4_46 : Cond.fieldLink RX4 46 "MatchingService$Pool" "resources" "I" ∈ jAll := jgd (jM1 (List.mem_of_getElem? (i := 30) rfl)) rfl
theorem kfn_X5_59 : Cond.fieldLinkNest RX5 59 "MatchingService$Pool" "resources" "I" "MatchingService" ∈ jNest := jH (jM1 (List.mem_of_getElem? (i := 31) rfl)) rfl
theorem kfn_X2_51 : Cond.fieldLinkNest RX2 51 "MatchingService$Pool" "resources" "I" "MatchingService" ∈ jNest := jH (jM1 (List.mem_of_getElem? (i := 32) rfl)) rfl
theorem kfn_X0_59 : Cond.fieldLinkNest RX0 59 "MatchingService$Pool" "resources" "I" "MatchingService" ∈ jNest := jH (jM1 (List.mem_of_getElem? (i := 33) rfl)) rfl
theorem kfl_X4_9 : Cond.fieldLink RX4 9 "MatchingService$Pool" "capacity" "[I" ∈ jAll := jgd (jM1 (List.mem_of_getElem? (i := 34) rfl)) rfl
theorem kfn_X5_83 : Cond.fieldLinkNest RX5 83 "MatchingService$Pool" "capacity" "[I" "MatchingService" ∈ jNest := jH (jM1 (List.mem_of_getElem? (i := 35) rfl)) rfl
theorem kfn_X0_114 : Cond.fieldLinkNest RX0 114 "MatchingService$Pool" "capacity" "[I" "MatchingService" ∈ jNest := jH (jM1 (List.mem_of_getElem? (i := 36) rfl)) rfl
theorem kfl_X4_15 : Cond.fieldLink RX4 15 "MatchingService$Pool" "load" "[I" ∈ jAll := jgd (jM1 (List.mem_of_getElem? (i := 37) rfl)) rfl
theorem kfn_X0_62 : Cond.fieldLinkNest RX0 62 "MatchingService$Pool" "load" "[I" "MatchingService" ∈ jNest := jH (jM1 (List.mem_of_getElem? (i := 38) rfl)) rfl
theorem kfn_X5_154 : Cond.fieldLinkNest RX5 154 "MatchingService$Pool" "load" "[I" "MatchingService" ∈ jNest := jH (jM1 (List.mem_of_getElem? (i := 39) rfl)) rfl
theorem kfl_X4_18 : Cond.fieldLink RX4 18 "MatchingService$Pool" "quota" "[I" ∈ jAll := jgd (jM1 (List.mem_of_getElem? (i := 40) rfl)) rfl
theorem kfn_X5_97 : Cond.fieldLinkNest RX5 97 "MatchingService$Pool" "quota" "[I" "MatchingService" ∈ jNest := jH (jM1 (List.mem_of_getElem? (i := 41) rfl)) rfl
theorem kfn_X0_99 : Cond.fieldLinkNest RX0 99 "MatchingService$Pool" "quota" "[I" "MatchingService" ∈ jNest := jH (jM1 (List.mem_of_getElem? (i := 42) rfl)) rfl
theorem kfl_X4_21 : Cond.fieldLink RX4 21 "MatchingService$Pool" "weight" "[I" ∈ jAll := jgd (jM1 (List.mem_of_getElem? (i := 43) rfl)) rfl
theorem kfn_X3_55 : Cond.fieldLinkNest RX3 55 "MatchingService$Pool" "weight" "[I" "MatchingService" ∈ jNest := jH (jM1 (List.mem_of_getElem? (i := 44) rfl)) rfl
theorem kfn_X5_100 : Cond.fieldLinkNest RX5 100 "MatchingService$Pool" "weight" "[I" "MatchingService" ∈ jNest := jH (jM1 (List.mem_of_getElem? (i := 45) rfl)) rfl
theorem kfl_X4_24 : Cond.fieldLink RX4 24 "MatchingService$Pool" "assigned" "[I" ∈ jAll := jgd (jM1 (List.mem_of_getElem? (i := 46) rfl)) rfl
theorem kfn_X0_63 : Cond.fieldLinkNest RX0 63 "MatchingService$Pool" "assigned" "[I" "MatchingService" ∈ jNest := jH (jM1 (List.mem_of_getElem? (i := 47) rfl)) rfl
theorem kfn_X3_52 : Cond.fieldLinkNest RX3 52 "MatchingService$Pool" "assigned" "[I" "MatchingService" ∈ jNest := jH (jM1 (List.mem_of_getElem? (i := 48) rfl)) rfl
theorem kfn_X5_151 : Cond.fieldLinkNest RX5 151 "MatchingService$Pool" "assigned" "[I" "MatchingService" ∈ jNest := jH (jM1 (List.mem_of_getElem? (i := 49) rfl)) rfl
theorem kfn_X3_27 : Cond.fieldLinkNest RX3 27 "MatchingService$Pool" "requests" "I" "MatchingService" ∈ jNest := jH (jM1 (List.mem_of_getElem? (i := 50) rfl)) rfl
theorem kfn_X0_51 : Cond.fieldLinkNest RX0 51 "MatchingService$Pool" "requests" "I" "MatchingService" ∈ jNest := jH (jM1 (List.mem_of_getElem? (i := 51) rfl)) rfl
theorem kfn_X2_54 : Cond.fieldLinkNest RX2 54 "MatchingService$Pool" "requests" "I" "MatchingService" ∈ jNest := jH (jM1 (List.mem_of_getElem? (i := 52) rfl)) rfl
theorem kfn_X5_119 : Cond.fieldLinkNest RX5 119 "MatchingService$Pool" "requests" "I" "MatchingService" ∈ jNest := jH (jM1 (List.mem_of_getElem? (i := 53) rfl)) rfl
theorem kfl_X4_56 : Cond.fieldLink RX4 56 "MatchingService$Pool" "requests" "I" ∈ jAll := jgd (jM1 (List.mem_of_getElem? (i := 54) rfl)) rfl
theorem kfl_X4_27 : Cond.fieldLink RX4 27 "MatchingService$Pool" "group" "[I" ∈ jAll := jgd (jM1 (List.mem_of_getElem? (i := 55) rfl)) rfl
theorem kfn_X3_44 : Cond.fieldLinkNest RX3 44 "MatchingService$Pool" "group" "[I" "MatchingService" ∈ jNest := jH (jM1 (List.mem_of_getElem? (i := 56) rfl)) rfl
theorem kfn_X0_84 : Cond.fieldLinkNest RX0 84 "MatchingService$Pool" "group" "[I" "MatchingService" ∈ jNest := jH (jM1 (List.mem_of_getElem? (i := 57) rfl)) rfl
theorem kfl_X4_30 : Cond.fieldLink RX4 30 "MatchingService$Pool" "accepted" "[I" ∈ jAll := jgd (jM1 (List.mem_of_getElem? (i := 58) rfl)) rfl
theorem kfn_X2_34 : Cond.fieldLinkNest RX2 34 "MatchingService$Pool" "accepted" "[I" "MatchingService" ∈ jNest := jH (jM1 (List.mem_of_getElem? (i := 59) rfl)) rfl
theorem kfn_X0_73 : Cond.fieldLinkNest RX0 73 "MatchingService$Pool" "accepted" "[I" "MatchingService" ∈ jNest := jH (jM1 (List.mem_of_getElem? (i := 60) rfl)) rfl
theorem kfl_X4_33 : Cond.fieldLink RX4 33 "MatchingService$Pool" "place" "[I" ∈ jAll := jgd (jM1 (List.mem_of_getElem? (i := 61) rfl)) rfl
theorem kfn_X2_60 : Cond.fieldLinkNest RX2 60 "MatchingService$Pool" "place" "[I" "MatchingService" ∈ jNest := jH (jM1 (List.mem_of_getElem? (i := 62) rfl)) rfl
theorem kfn_X0_81 : Cond.fieldLinkNest RX0 81 "MatchingService$Pool" "place" "[I" "MatchingService" ∈ jNest := jH (jM1 (List.mem_of_getElem? (i := 63) rfl)) rfl
theorem kfn_X5_168 : Cond.fieldLinkNest RX5 168 "MatchingService$Pool" "place" "[I" "MatchingService" ∈ jNest := jH (jM1 (List.mem_of_getElem? (i := 64) rfl)) rfl
theorem kfl_X4_36 : Cond.fieldLink RX4 36 "MatchingService$Pool" "moves" "[I" ∈ jAll := jgd (jM1 (List.mem_of_getElem? (i := 65) rfl)) rfl
theorem kfn_X5_171 : Cond.fieldLinkNest RX5 171 "MatchingService$Pool" "moves" "[I" "MatchingService" ∈ jNest := jH (jM1 (List.mem_of_getElem? (i := 66) rfl)) rfl
theorem kfl_X4_39 : Cond.fieldLink RX4 39 "MatchingService$Pool" "pathLimit" "I" ∈ jAll := jgd (jM1 (List.mem_of_getElem? (i := 67) rfl)) rfl
theorem kfn_X3_67 : Cond.fieldLinkNest RX3 67 "MatchingService$Pool" "pathLimit" "I" "MatchingService" ∈ jNest := jH (jM1 (List.mem_of_getElem? (i := 68) rfl)) rfl
theorem kfn_X5_110 : Cond.fieldLinkNest RX5 110 "MatchingService$Pool" "pathLimit" "I" "MatchingService" ∈ jNest := jH (jM1 (List.mem_of_getElem? (i := 69) rfl)) rfl
theorem kfl_X4_43 : Cond.fieldLink RX4 43 "MatchingService$Pool" "moveLimit" "I" ∈ jAll := jgd (jM1 (List.mem_of_getElem? (i := 70) rfl)) rfl
theorem kfn_X5_113 : Cond.fieldLinkNest RX5 113 "MatchingService$Pool" "moveLimit" "I" "MatchingService" ∈ jNest := jH (jM1 (List.mem_of_getElem? (i := 71) rfl)) rfl
theorem kac_int : Cond.arrayClass .int ∈ jAll := jgd (jM1 (List.mem_of_getElem? (i := 99) rfl)) rfl
theorem kcl_X5_16 : Cond.classLink RX5 16 RX1 ∈ jAll := jgd (jM1 (List.mem_of_getElem? (i := 100) rfl)) rfl
theorem kin_X1 : Cond.instantiable RX1 3 ∈ jAll := jgd (jM1 (List.mem_of_getElem? (i := 101) rfl)) rfl
theorem kmn_X5_18 : Cond.methodLinkNest RX5 18 yX1_init "MatchingService" ∈ jNest := jH (jM1 (List.mem_of_getElem? (i := 102) rfl)) rfl
theorem kim_X1_init : Cond.instanceMethod yX1_init ∈ jAll := jgd (jM1 (List.mem_of_getElem? (i := 103) rfl)) rfl
theorem kco_X1_init : Cond.code yX1_init cX1_init 1 none ∈ jAll := jgd (jM1 (List.mem_of_getElem? (i := 104) rfl)) rfl
theorem kml_X1_3 : Cond.methodLink RX1 3 objectInit ∈ jAll := jgd (jM1 (List.mem_of_getElem? (i := 105) rfl)) rfl
theorem kfl_X1_11 : Cond.fieldLink RX1 11 "MatchingService$MoveLog" "request" "[I" ∈ jAll := jgd (jM1 (List.mem_of_getElem? (i := 106) rfl)) rfl
theorem kfn_X5_180 : Cond.fieldLinkNest RX5 180 "MatchingService$MoveLog" "request" "[I" "MatchingService" ∈ jNest := jH (jM1 (List.mem_of_getElem? (i := 107) rfl)) rfl
theorem kfl_X1_15 : Cond.fieldLink RX1 15 "MatchingService$MoveLog" "target" "[I" ∈ jAll := jgd (jM1 (List.mem_of_getElem? (i := 108) rfl)) rfl
theorem kfn_X5_183 : Cond.fieldLinkNest RX5 183 "MatchingService$MoveLog" "target" "[I" "MatchingService" ∈ jNest := jH (jM1 (List.mem_of_getElem? (i := 109) rfl)) rfl
theorem kfl_X1_18 : Cond.fieldLink RX1 18 "MatchingService$MoveLog" "size" "I" ∈ jAll := jgd (jM1 (List.mem_of_getElem? (i := 110) rfl)) rfl
theorem kfn_X5_174 : Cond.fieldLinkNest RX5 174 "MatchingService$MoveLog" "size" "I" "MatchingService" ∈ jNest := jH (jM1 (List.mem_of_getElem? (i := 111) rfl)) rfl
theorem kcl_X5_23 : Cond.classLink RX5 23 RX2 ∈ jAll := jgd (jM1 (List.mem_of_getElem? (i := 119) rfl)) rfl
theorem kin_X2 : Cond.instantiable RX2 6 ∈ jAll := jgd (jM1 (List.mem_of_getElem? (i := 120) rfl)) rfl
theorem kml_X5_25 : Cond.methodLink RX5 25 yX2_init ∈ jAll := jgd (jM1 (List.mem_of_getElem? (i := 121) rfl)) rfl
theorem kim_X2_init : Cond.instanceMethod yX2_init ∈ jAll := jgd (jM1 (List.mem_of_getElem? (i := 122) rfl)) rfl
theorem kco_X2_init : Cond.code yX2_init cX2_init 2 none ∈ jAll := jgd (jM1 (List.mem_of_getElem? (i := 123) rfl)) rfl
theorem kml_X2_3 : Cond.methodLink RX2 3 objectInit ∈ jAll := jgd (jM1 (List.mem_of_getElem? (i := 124) rfl)) rfl
theorem kfl_X2_24 : Cond.fieldLink RX2 24 "MatchingService$PathSearch" "pool" "LMatchingService$Pool;" ∈ jAll := jgd (jM1 (List.mem_of_getElem? (i := 125) rfl)) rfl
theorem kfl_X2_9 : Cond.fieldLink RX2 9 "MatchingService$PathSearch" "successors" "[I" ∈ jAll := jgd (jM1 (List.mem_of_getElem? (i := 126) rfl)) rfl
theorem kfl_X2_15 : Cond.fieldLink RX2 15 "MatchingService$PathSearch" "layer" "[I" ∈ jAll := jgd (jM1 (List.mem_of_getElem? (i := 127) rfl)) rfl
theorem kfl_X2_18 : Cond.fieldLink RX2 18 "MatchingService$PathSearch" "resource" "[I" ∈ jAll := jgd (jM1 (List.mem_of_getElem? (i := 128) rfl)) rfl
theorem kfn_X3_74 : Cond.fieldLinkNest RX3 74 "MatchingService$PathSearch" "resource" "[I" "MatchingService" ∈ jNest := jH (jM1 (List.mem_of_getElem? (i := 129) rfl)) rfl
theorem kfl_X2_21 : Cond.fieldLink RX2 21 "MatchingService$PathSearch" "request" "[I" ∈ jAll := jgd (jM1 (List.mem_of_getElem? (i := 130) rfl)) rfl
theorem kfn_X3_84 : Cond.fieldLinkNest RX3 84 "MatchingService$PathSearch" "request" "[I" "MatchingService" ∈ jNest := jH (jM1 (List.mem_of_getElem? (i := 131) rfl)) rfl
theorem kfl_X2_43 : Cond.fieldLink RX2 43 "MatchingService$PathSearch" "length" "I" ∈ jAll := jgd (jM1 (List.mem_of_getElem? (i := 132) rfl)) rfl
theorem kfn_X3_81 : Cond.fieldLinkNest RX3 81 "MatchingService$PathSearch" "length" "I" "MatchingService" ∈ jNest := jH (jM1 (List.mem_of_getElem? (i := 133) rfl)) rfl
theorem kcl_X5_32 : Cond.classLink RX5 32 RX3 ∈ jAll := jgd (jM1 (List.mem_of_getElem? (i := 147) rfl)) rfl
theorem kin_X3 : Cond.instantiable RX3 4 ∈ jAll := jgd (jM1 (List.mem_of_getElem? (i := 148) rfl)) rfl
theorem kml_X5_34 : Cond.methodLink RX5 34 yX3_init ∈ jAll := jgd (jM1 (List.mem_of_getElem? (i := 149) rfl)) rfl
theorem kim_X3_init : Cond.instanceMethod yX3_init ∈ jAll := jgd (jM1 (List.mem_of_getElem? (i := 150) rfl)) rfl
theorem kco_X3_init : Cond.code yX3_init cX3_init 4 none ∈ jAll := jgd (jM1 (List.mem_of_getElem? (i := 151) rfl)) rfl
theorem kml_X3_3 : Cond.methodLink RX3 3 objectInit ∈ jAll := jgd (jM1 (List.mem_of_getElem? (i := 152) rfl)) rfl
theorem kfl_X3_15 : Cond.fieldLink RX3 15 "MatchingService$Placer" "pool" "LMatchingService$Pool;" ∈ jAll := jgd (jM1 (List.mem_of_getElem? (i := 153) rfl)) rfl
theorem kfl_X3_19 : Cond.fieldLink RX3 19 "MatchingService$Placer" "paths" "LMatchingService$PathSearch;" ∈ jAll := jgd (jM1 (List.mem_of_getElem? (i := 154) rfl)) rfl
theorem kfl_X3_23 : Cond.fieldLink RX3 23 "MatchingService$Placer" "log" "LMatchingService$MoveLog;" ∈ jAll := jgd (jM1 (List.mem_of_getElem? (i := 155) rfl)) rfl
theorem kfl_X3_9 : Cond.fieldLink RX3 9 "MatchingService$Placer" "tried" "[Z" ∈ jAll := jgd (jM1 (List.mem_of_getElem? (i := 156) rfl)) rfl
theorem kac_boolean : Cond.arrayClass .boolean ∈ jAll := jgd (jM1 (List.mem_of_getElem? (i := 166) rfl)) rfl
theorem kcl_X5_41 : Cond.classLink RX5 41 RX0 ∈ jAll := jgd (jM1 (List.mem_of_getElem? (i := 167) rfl)) rfl
theorem kin_X0 : Cond.instantiable RX0 10 ∈ jAll := jgd (jM1 (List.mem_of_getElem? (i := 168) rfl)) rfl
theorem kml_X5_43 : Cond.methodLink RX5 43 yX0_init ∈ jAll := jgd (jM1 (List.mem_of_getElem? (i := 169) rfl)) rfl
theorem kim_X0_init : Cond.instanceMethod yX0_init ∈ jAll := jgd (jM1 (List.mem_of_getElem? (i := 170) rfl)) rfl
theorem kco_X0_init : Cond.code yX0_init cX0_init 2 none ∈ jAll := jgd (jM1 (List.mem_of_getElem? (i := 171) rfl)) rfl
theorem kml_X0_3 : Cond.methodLink RX0 3 objectInit ∈ jAll := jgd (jM1 (List.mem_of_getElem? (i := 172) rfl)) rfl
theorem kfl_X0_37 : Cond.fieldLink RX0 37 "MatchingService$Flow" "pool" "LMatchingService$Pool;" ∈ jAll := jgd (jM1 (List.mem_of_getElem? (i := 173) rfl)) rfl
theorem kfl_X0_9 : Cond.fieldLink RX0 9 "MatchingService$Flow" "node" "[I" ∈ jAll := jgd (jM1 (List.mem_of_getElem? (i := 174) rfl)) rfl
theorem kfl_X0_15 : Cond.fieldLink RX0 15 "MatchingService$Flow" "accepted" "[I" ∈ jAll := jgd (jM1 (List.mem_of_getElem? (i := 175) rfl)) rfl
theorem kfl_X0_18 : Cond.fieldLink RX0 18 "MatchingService$Flow" "load" "[I" ∈ jAll := jgd (jM1 (List.mem_of_getElem? (i := 176) rfl)) rfl
theorem kfl_X0_21 : Cond.fieldLink RX0 21 "MatchingService$Flow" "used" "[I" ∈ jAll := jgd (jM1 (List.mem_of_getElem? (i := 177) rfl)) rfl
theorem kfl_X0_24 : Cond.fieldLink RX0 24 "MatchingService$Flow" "queue" "[I" ∈ jAll := jgd (jM1 (List.mem_of_getElem? (i := 178) rfl)) rfl
theorem kfl_X0_90 : Cond.fieldLink RX0 90 "MatchingService$Flow" "queued" "I" ∈ jAll := jgd (jM1 (List.mem_of_getElem? (i := 179) rfl)) rfl
theorem kfl_X0_27 : Cond.fieldLink RX0 27 "MatchingService$Flow" "seen" "[Z" ∈ jAll := jgd (jM1 (List.mem_of_getElem? (i := 180) rfl)) rfl
theorem kfl_X0_31 : Cond.fieldLink RX0 31 "MatchingService$Flow" "before" "[I" ∈ jAll := jgd (jM1 (List.mem_of_getElem? (i := 181) rfl)) rfl
theorem kfl_X0_34 : Cond.fieldLink RX0 34 "MatchingService$Flow" "carried" "[I" ∈ jAll := jgd (jM1 (List.mem_of_getElem? (i := 182) rfl)) rfl
theorem kfl_X5_10 : Cond.fieldLink RX5 10 "MatchingService" "pool" "LMatchingService$Pool;" ∈ jAll := jgd (jM1 (List.mem_of_getElem? (i := 204) rfl)) rfl
theorem kfl_X5_19 : Cond.fieldLink RX5 19 "MatchingService" "log" "LMatchingService$MoveLog;" ∈ jAll := jgd (jM1 (List.mem_of_getElem? (i := 205) rfl)) rfl
theorem kfl_X5_28 : Cond.fieldLink RX5 28 "MatchingService" "paths" "LMatchingService$PathSearch;" ∈ jAll := jgd (jM1 (List.mem_of_getElem? (i := 206) rfl)) rfl
theorem kfl_X5_37 : Cond.fieldLink RX5 37 "MatchingService" "placer" "LMatchingService$Placer;" ∈ jAll := jgd (jM1 (List.mem_of_getElem? (i := 207) rfl)) rfl
theorem kfl_X5_44 : Cond.fieldLink RX5 44 "MatchingService" "flow" "LMatchingService$Flow;" ∈ jAll := jgd (jM1 (List.mem_of_getElem? (i := 208) rfl)) rfl
theorem kml_L_103 : Cond.methodLink RL 103 yX5_resourceCount ∈ jAll := jgd (jM1 (List.mem_of_getElem? (i := 220) rfl)) rfl
theorem kim_X5_resourceCount : Cond.instanceMethod yX5_resourceCount ∈ jAll := jgd (jM1 (List.mem_of_getElem? (i := 221) rfl)) rfl
theorem kse_X5_resourceCount : Cond.selects RX5 yX5_resourceCount yX5_resourceCount ∈ jAll := jgd (jM1 (List.mem_of_getElem? (i := 222) rfl)) rfl
theorem kco_X5_resourceCount : Cond.code yX5_resourceCount cX5_resourceCount 1 (some .int) ∈ jAll := jgd (jM1 (List.mem_of_getElem? (i := 223) rfl)) rfl
theorem kml_L_107 : Cond.methodLink RL 107 yX5_arrivedCount ∈ jAll := jgd (jM1 (List.mem_of_getElem? (i := 224) rfl)) rfl
theorem kim_X5_arrivedCount : Cond.instanceMethod yX5_arrivedCount ∈ jAll := jgd (jM1 (List.mem_of_getElem? (i := 225) rfl)) rfl
theorem kse_X5_arrivedCount : Cond.selects RX5 yX5_arrivedCount yX5_arrivedCount ∈ jAll := jgd (jM1 (List.mem_of_getElem? (i := 226) rfl)) rfl
theorem kco_X5_arrivedCount : Cond.code yX5_arrivedCount cX5_arrivedCount 1 (some .int) ∈ jAll := jgd (jM1 (List.mem_of_getElem? (i := 227) rfl)) rfl
theorem kml_L_111 : Cond.methodLink RL 111 yX5_assignedCount ∈ jAll := jgd (jM1 (List.mem_of_getElem? (i := 228) rfl)) rfl
theorem kim_X5_assignedCount : Cond.instanceMethod yX5_assignedCount ∈ jAll := jgd (jM1 (List.mem_of_getElem? (i := 229) rfl)) rfl
theorem kse_X5_assignedCount : Cond.selects RX5 yX5_assignedCount yX5_assignedCount ∈ jAll := jgd (jM1 (List.mem_of_getElem? (i := 230) rfl)) rfl
theorem kco_X5_assignedCount : Cond.code yX5_assignedCount cX5_assignedCount 1 (some .int) ∈ jAll := jgd (jM1 (List.mem_of_getElem? (i := 231) rfl)) rfl
theorem kml_X5_145 : Cond.methodLink RX5 145 yX4_countAssigned ∈ jAll := jgd (jM1 (List.mem_of_getElem? (i := 232) rfl)) rfl
theorem kim_X4_countAssigned : Cond.instanceMethod yX4_countAssigned ∈ jAll := jgd (jM1 (List.mem_of_getElem? (i := 233) rfl)) rfl
theorem kse_X4_countAssigned : Cond.selects RX4 yX4_countAssigned yX4_countAssigned ∈ jAll := jgd (jM1 (List.mem_of_getElem? (i := 234) rfl)) rfl
theorem kco_X4_countAssigned : Cond.code yX4_countAssigned cX4_countAssigned 3 (some .int) ∈ jAll := jgd (jM1 (List.mem_of_getElem? (i := 235) rfl)) rfl
theorem kml_L_115 : Cond.methodLink RL 115 yX5_waitingCount ∈ jAll := jgd (jM1 (List.mem_of_getElem? (i := 236) rfl)) rfl
theorem kim_X5_waitingCount : Cond.instanceMethod yX5_waitingCount ∈ jAll := jgd (jM1 (List.mem_of_getElem? (i := 237) rfl)) rfl
theorem kse_X5_waitingCount : Cond.selects RX5 yX5_waitingCount yX5_waitingCount ∈ jAll := jgd (jM1 (List.mem_of_getElem? (i := 238) rfl)) rfl
theorem kco_X5_waitingCount : Cond.code yX5_waitingCount cX5_waitingCount 1 (some .int) ∈ jAll := jgd (jM1 (List.mem_of_getElem? (i := 239) rfl)) rfl
theorem kml_X5_148 : Cond.methodLink RX5 148 yX4_countWaiting ∈ jAll := jgd (jM2 (List.mem_of_getElem? (i := 0) rfl)) rfl
theorem kim_X4_countWaiting : Cond.instanceMethod yX4_countWaiting ∈ jAll := jgd (jM2 (List.mem_of_getElem? (i := 1) rfl)) rfl
theorem kse_X4_countWaiting : Cond.selects RX4 yX4_countWaiting yX4_countWaiting ∈ jAll := jgd (jM2 (List.mem_of_getElem? (i := 2) rfl)) rfl
theorem kco_X4_countWaiting : Cond.code yX4_countWaiting cX4_countWaiting 3 (some .int) ∈ jAll := jgd (jM2 (List.mem_of_getElem? (i := 3) rfl)) rfl
theorem kml_X4_49 : Cond.methodLink RX4 49 yX4_isWaiting ∈ jAll := jgd (jM2 (List.mem_of_getElem? (i := 4) rfl)) rfl
theorem kim_X4_isWaiting : Cond.instanceMethod yX4_isWaiting ∈ jAll := jgd (jM2 (List.mem_of_getElem? (i := 5) rfl)) rfl
theorem kse_X4_isWaiting : Cond.selects RX4 yX4_isWaiting yX4_isWaiting ∈ jAll := jgd (jM2 (List.mem_of_getElem? (i := 6) rfl)) rfl
theorem kco_X4_isWaiting : Cond.code yX4_isWaiting cX4_isWaiting 2 (some .boolean) ∈ jAll := jgd (jM2 (List.mem_of_getElem? (i := 7) rfl)) rfl
theorem kml_L_134 : Cond.methodLink RL 134 yX5_moveCount ∈ jAll := jgd (jM2 (List.mem_of_getElem? (i := 8) rfl)) rfl
theorem kim_X5_moveCount : Cond.instanceMethod yX5_moveCount ∈ jAll := jgd (jM2 (List.mem_of_getElem? (i := 9) rfl)) rfl
theorem kse_X5_moveCount : Cond.selects RX5 yX5_moveCount yX5_moveCount ∈ jAll := jgd (jM2 (List.mem_of_getElem? (i := 10) rfl)) rfl
theorem kco_X5_moveCount : Cond.code yX5_moveCount cX5_moveCount 1 (some .int) ∈ jAll := jgd (jM2 (List.mem_of_getElem? (i := 11) rfl)) rfl
theorem kml_L_147 : Cond.methodLink RL 147 yX5_greatestPossible ∈ jAll := jgd (jM2 (List.mem_of_getElem? (i := 12) rfl)) rfl
theorem kim_X5_greatestPossible : Cond.instanceMethod yX5_greatestPossible ∈ jAll := jgd (jM2 (List.mem_of_getElem? (i := 13) rfl)) rfl
theorem kse_X5_greatestPossible : Cond.selects RX5 yX5_greatestPossible yX5_greatestPossible ∈ jAll := jgd (jM2 (List.mem_of_getElem? (i := 14) rfl)) rfl
theorem kco_X5_greatestPossible : Cond.code yX5_greatestPossible cX5_greatestPossible 1 (some .int) ∈ jAll := jgd (jM2 (List.mem_of_getElem? (i := 15) rfl)) rfl
theorem kml_X5_194 : Cond.methodLink RX5 194 yX0_greatest ∈ jAll := jgd (jM2 (List.mem_of_getElem? (i := 16) rfl)) rfl
theorem kim_X0_greatest : Cond.instanceMethod yX0_greatest ∈ jAll := jgd (jM2 (List.mem_of_getElem? (i := 17) rfl)) rfl
theorem kse_X0_greatest : Cond.selects RX0 yX0_greatest yX0_greatest ∈ jAll := jgd (jM2 (List.mem_of_getElem? (i := 18) rfl)) rfl
theorem kco_X0_greatest : Cond.code yX0_greatest cX0_greatest 4 (some .int) ∈ jAll := jgd (jM2 (List.mem_of_getElem? (i := 19) rfl)) rfl
theorem kml_X0_41 : Cond.methodLink RX0 41 yX0_copyAssignment ∈ jAll := jgd (jM2 (List.mem_of_getElem? (i := 20) rfl)) rfl
theorem kim_X0_copyAssignment : Cond.instanceMethod yX0_copyAssignment ∈ jAll := jgd (jM2 (List.mem_of_getElem? (i := 22) rfl)) rfl
theorem kco_X0_copyAssignment : Cond.code yX0_copyAssignment cX0_copyAssignment 3 none ∈ jAll := jgd (jM2 (List.mem_of_getElem? (i := 23) rfl)) rfl
theorem kml_X0_66 : Cond.methodLink RX0 66 yX0_startOf ∈ jAll := jgd (jM2 (List.mem_of_getElem? (i := 24) rfl)) rfl
theorem kim_X0_startOf : Cond.instanceMethod yX0_startOf ∈ jAll := jgd (jM2 (List.mem_of_getElem? (i := 26) rfl)) rfl
theorem kco_X0_startOf : Cond.code yX0_startOf cX0_startOf 2 (some .int) ∈ jAll := jgd (jM2 (List.mem_of_getElem? (i := 27) rfl)) rfl
theorem kml_X0_74 : Cond.methodLink RX0 74 yX4_isDeparted ∈ jAll := jgd (jM2 (List.mem_of_getElem? (i := 28) rfl)) rfl
theorem kim_X4_isDeparted : Cond.instanceMethod yX4_isDeparted ∈ jAll := jgd (jM2 (List.mem_of_getElem? (i := 29) rfl)) rfl
theorem kse_X4_isDeparted : Cond.selects RX4 yX4_isDeparted yX4_isDeparted ∈ jAll := jgd (jM2 (List.mem_of_getElem? (i := 30) rfl)) rfl
theorem kco_X4_isDeparted : Cond.code yX4_isDeparted cX4_isDeparted 2 (some .boolean) ∈ jAll := jgd (jM2 (List.mem_of_getElem? (i := 31) rfl)) rfl
theorem kml_X0_78 : Cond.methodLink RX0 78 yX4_isAssigned ∈ jAll := jgd (jM2 (List.mem_of_getElem? (i := 32) rfl)) rfl
theorem kim_X4_isAssigned : Cond.instanceMethod yX4_isAssigned ∈ jAll := jgd (jM2 (List.mem_of_getElem? (i := 33) rfl)) rfl
theorem kse_X4_isAssigned : Cond.selects RX4 yX4_isAssigned yX4_isAssigned ∈ jAll := jgd (jM2 (List.mem_of_getElem? (i := 34) rfl)) rfl
theorem kco_X4_isAssigned : Cond.code yX4_isAssigned cX4_isAssigned 2 (some .boolean) ∈ jAll := jgd (jM2 (List.mem_of_getElem? (i := 35) rfl)) rfl
theorem kml_X0_70 : Cond.methodLink RX0 70 yX4_maskOfAll ∈ jAll := jgd (jM2 (List.mem_of_getElem? (i := 36) rfl)) rfl
theorem kim_X4_maskOfAll : Cond.instanceMethod yX4_maskOfAll ∈ jAll := jgd (jM2 (List.mem_of_getElem? (i := 37) rfl)) rfl
theorem kse_X4_maskOfAll : Cond.selects RX4 yX4_maskOfAll yX4_maskOfAll ∈ jAll := jgd (jM2 (List.mem_of_getElem? (i := 38) rfl)) rfl
theorem kco_X4_maskOfAll : Cond.code yX4_maskOfAll cX4_maskOfAll 1 (some .int) ∈ jAll := jgd (jM2 (List.mem_of_getElem? (i := 39) rfl)) rfl
theorem kml_X0_45 : Cond.methodLink RX0 45 yX4_countAssigned ∈ jAll := jgd (jM2 (List.mem_of_getElem? (i := 40) rfl)) rfl
theorem kml_X0_55 : Cond.methodLink RX0 55 yX0_augment ∈ jAll := jgd (jM2 (List.mem_of_getElem? (i := 41) rfl)) rfl
theorem kim_X0_augment : Cond.instanceMethod yX0_augment ∈ jAll := jgd (jM2 (List.mem_of_getElem? (i := 43) rfl)) rfl
theorem kco_X0_augment : Cond.code yX0_augment cX0_augment 3 (some .boolean) ∈ jAll := jgd (jM2 (List.mem_of_getElem? (i := 44) rfl)) rfl
theorem kml_X0_87 : Cond.methodLink RX0 87 yX0_startAtGroups ∈ jAll := jgd (jM2 (List.mem_of_getElem? (i := 45) rfl)) rfl
theorem kim_X0_startAtGroups : Cond.instanceMethod yX0_startAtGroups ∈ jAll := jgd (jM2 (List.mem_of_getElem? (i := 47) rfl)) rfl
theorem kco_X0_startAtGroups : Cond.code yX0_startAtGroups cX0_startAtGroups 2 none ∈ jAll := jgd (jM2 (List.mem_of_getElem? (i := 48) rfl)) rfl
theorem kml_X0_102 : Cond.methodLink RX0 102 yX0_reach ∈ jAll := jgd (jM2 (List.mem_of_getElem? (i := 49) rfl)) rfl
theorem kim_X0_reach : Cond.instanceMethod yX0_reach ∈ jAll := jgd (jM2 (List.mem_of_getElem? (i := 51) rfl)) rfl
theorem kco_X0_reach : Cond.code yX0_reach cX0_reach 4 none ∈ jAll := jgd (jM2 (List.mem_of_getElem? (i := 52) rfl)) rfl
theorem kml_X0_93 : Cond.methodLink RX0 93 yX0_leave ∈ jAll := jgd (jM2 (List.mem_of_getElem? (i := 53) rfl)) rfl
theorem kim_X0_leave : Cond.instanceMethod yX0_leave ∈ jAll := jgd (jM2 (List.mem_of_getElem? (i := 55) rfl)) rfl
theorem kco_X0_leave : Cond.code yX0_leave cX0_leave 4 (some .int) ∈ jAll := jgd (jM2 (List.mem_of_getElem? (i := 56) rfl)) rfl
theorem kml_X0_106 : Cond.methodLink RX0 106 yX0_leaveWith ∈ jAll := jgd (jM2 (List.mem_of_getElem? (i := 57) rfl)) rfl
theorem kim_X0_leaveWith : Cond.instanceMethod yX0_leaveWith ∈ jAll := jgd (jM2 (List.mem_of_getElem? (i := 59) rfl)) rfl
theorem kco_X0_leaveWith : Cond.code yX0_leaveWith cX0_leaveWith 4 (some .int) ∈ jAll := jgd (jM2 (List.mem_of_getElem? (i := 60) rfl)) rfl
theorem kmn_X0_110 : Cond.methodLinkNest RX0 110 yX5_hasBit "MatchingService" ∈ jNest := jH (jM2 (List.mem_of_getElem? (i := 61) rfl)) rfl
theorem kst_X5_hasBit : Cond.static yX5_hasBit ∈ jAll := jgd (jM2 (List.mem_of_getElem? (i := 62) rfl)) rfl
theorem kco_X5_hasBit : Cond.code yX5_hasBit cX5_hasBit 2 (some .boolean) ∈ jAll := jgd (jM2 (List.mem_of_getElem? (i := 63) rfl)) rfl
theorem kml_X0_96 : Cond.methodLink RX0 96 yX0_shiftAlong ∈ jAll := jgd (jM2 (List.mem_of_getElem? (i := 64) rfl)) rfl
theorem kim_X0_shiftAlong : Cond.instanceMethod yX0_shiftAlong ∈ jAll := jgd (jM2 (List.mem_of_getElem? (i := 66) rfl)) rfl
theorem kco_X0_shiftAlong : Cond.code yX0_shiftAlong cX0_shiftAlong 4 none ∈ jAll := jgd (jM2 (List.mem_of_getElem? (i := 67) rfl)) rfl
theorem kml_L_154 : Cond.methodLink RL 154 yX5_fairness ∈ jAll := jgd (jM2 (List.mem_of_getElem? (i := 68) rfl)) rfl
theorem kim_X5_fairness : Cond.instanceMethod yX5_fairness ∈ jAll := jgd (jM2 (List.mem_of_getElem? (i := 69) rfl)) rfl
theorem kse_X5_fairness : Cond.selects RX5 yX5_fairness yX5_fairness ∈ jAll := jgd (jM2 (List.mem_of_getElem? (i := 70) rfl)) rfl
theorem kco_X5_fairness : Cond.code yX5_fairness cX5_fairness 8 (some .double) ∈ jAll := jgd (jM2 (List.mem_of_getElem? (i := 71) rfl)) rfl
theorem kcn_X5_200 : Cond.constantDouble RX5 200 (4616189618054758400 : UInt64) ∈ jAll := jgd (jM2 (List.mem_of_getElem? (i := 72) rfl)) rfl
theorem kml_L_159 : Cond.methodLink RL 159 yX5_digest ∈ jAll := jgd (jM2 (List.mem_of_getElem? (i := 73) rfl)) rfl
theorem kim_X5_digest : Cond.instanceMethod yX5_digest ∈ jAll := jgd (jM2 (List.mem_of_getElem? (i := 74) rfl)) rfl
theorem kse_X5_digest : Cond.selects RX5 yX5_digest yX5_digest ∈ jAll := jgd (jM2 (List.mem_of_getElem? (i := 75) rfl)) rfl
theorem kco_X5_digest : Cond.code yX5_digest cX5_digest 4 (some .long) ∈ jAll := jgd (jM2 (List.mem_of_getElem? (i := 76) rfl)) rfl
theorem kcn_X5_202 : Cond.constantLong RX5 202 (43 : Int64) ∈ jAll := jgd (jM2 (List.mem_of_getElem? (i := 77) rfl)) rfl
theorem kml_X5_204 : Cond.methodLink RX5 204 yX5_mix ∈ jAll := jgd (jM2 (List.mem_of_getElem? (i := 78) rfl)) rfl
theorem kst_X5_mix : Cond.static yX5_mix ∈ jAll := jgd (jM2 (List.mem_of_getElem? (i := 79) rfl)) rfl
theorem kco_X5_mix : Cond.code yX5_mix cX5_mix 3 (some .long) ∈ jAll := jgd (jM2 (List.mem_of_getElem? (i := 80) rfl)) rfl
theorem kcn_X5_230 : Cond.constantLong RX5 230 (31 : Int64) ∈ jAll := jgd (jM2 (List.mem_of_getElem? (i := 81) rfl)) rfl
theorem kml_X5_160 : Cond.methodLink RX5 160 yX4_stateNumber ∈ jAll := jgd (jM2 (List.mem_of_getElem? (i := 82) rfl)) rfl
theorem kim_X4_stateNumber : Cond.instanceMethod yX4_stateNumber ∈ jAll := jgd (jM2 (List.mem_of_getElem? (i := 83) rfl)) rfl
theorem kse_X4_stateNumber : Cond.selects RX4 yX4_stateNumber yX4_stateNumber ∈ jAll := jgd (jM2 (List.mem_of_getElem? (i := 84) rfl)) rfl
theorem kco_X4_stateNumber : Cond.code yX4_stateNumber cX4_stateNumber 2 (some .int) ∈ jAll := jgd (jM2 (List.mem_of_getElem? (i := 85) rfl)) rfl
theorem kml_X4_53 : Cond.methodLink RX4 53 yX4_isAssigned ∈ jAll := jgd (jM2 (List.mem_of_getElem? (i := 86) rfl)) rfl
theorem kml_X5_142 : Cond.methodLink RX5 142 yX4_isAssigned ∈ jAll := jgd (jM2 (List.mem_of_getElem? (i := 87) rfl)) rfl
theorem kml_L_73 : Cond.methodLink RL 73 yL_addResource ∈ jAll := jgd (jM2 (List.mem_of_getElem? (i := 88) rfl)) rfl
theorem kst_L_addResource : Cond.static yL_addResource ∈ jAll := jgd (jM2 (List.mem_of_getElem? (i := 89) rfl)) rfl
theorem kco_L_addResource : Cond.codeWith yL_addResource cL_addResource 4 (some .int) [(0, 9, 12, 13), (0, 9, 15, 15)] ∈ jAll := jgd (jM2 (List.mem_of_getElem? (i := 90) rfl)) rfl
theorem kcl_L_13 : Cond.classLink RL 13 "java/lang/IllegalArgumentException" ∈ jAll := jgd (jM2 (List.mem_of_getElem? (i := 91) rfl)) rfl
theorem kcl_L_15 : Cond.classLink RL 15 "java/lang/IllegalStateException" ∈ jAll := jgd (jM2 (List.mem_of_getElem? (i := 92) rfl)) rfl
theorem kml_L_7 : Cond.methodLink RL 7 yX5_addResource ∈ jAll := jgd (jM2 (List.mem_of_getElem? (i := 93) rfl)) rfl
theorem kim_X5_addResource : Cond.instanceMethod yX5_addResource ∈ jAll := jgd (jM2 (List.mem_of_getElem? (i := 94) rfl)) rfl
theorem kse_X5_addResource : Cond.selects RX5 yX5_addResource yX5_addResource ∈ jAll := jgd (jM2 (List.mem_of_getElem? (i := 95) rfl)) rfl
theorem kco_X5_addResource : Cond.code yX5_addResource cX5_addResource 3 (some .int) ∈ jAll := jgd (jM2 (List.mem_of_getElem? (i := 96) rfl)) rfl
theorem kml_X5_48 : Cond.methodLink RX5 48 yX5_isWithin ∈ jAll := jgd (jM2 (List.mem_of_getElem? (i := 97) rfl)) rfl
theorem kst_X5_isWithin : Cond.static yX5_isWithin ∈ jAll := jgd (jM2 (List.mem_of_getElem? (i := 98) rfl)) rfl
theorem kco_X5_isWithin : Cond.code yX5_isWithin cX5_isWithin 3 (some .boolean) ∈ jAll := jgd (jM2 (List.mem_of_getElem? (i := 99) rfl)) rfl
theorem kcl_X5_52 : Cond.classLink RX5 52 "java/lang/IllegalArgumentException" ∈ jAll := jgd (jM2 (List.mem_of_getElem? (i := 100) rfl)) rfl
theorem kin__java_lang_IllegalArgumentException_ : Cond.instantiable "java/lang/IllegalArgumentException" 6 ∈ jAll := jgd (jM2 (List.mem_of_getElem? (i := 101) rfl)) rfl
theorem kfl__java_lang_Throwable__198 : Cond.fieldLink "java/lang/Throwable" 198 "java/lang/Throwable" "backtrace" "Ljava/lang/Object;" ∈ jAll := jgd (jM2 (List.mem_of_getElem? (i := 121) rfl)) rfl
theorem kim_Throwable__init___V : Cond.instanceMethod ⟨"java/lang/Throwable", "<init>", "()V"⟩ ∈ jAll := jgd (jM2 (List.mem_of_getElem? (i := 123) rfl)) rfl
theorem kml__java_lang_Throwable__1 : Cond.methodLink "java/lang/Throwable" 1 objectInit ∈ jAll := jgd (jM2 (List.mem_of_getElem? (i := 125) rfl)) rfl
theorem kfl__java_lang_Throwable__13 : Cond.fieldLink "java/lang/Throwable" 13 "java/lang/Throwable" "UNASSIGNED_STACK" "[Ljava/lang/StackTraceElement;" ∈ jAll := jgd (jM2 (List.mem_of_getElem? (i := 126) rfl)) rfl
theorem kfl__java_lang_Throwable__20 : Cond.fieldLink "java/lang/Throwable" 20 "java/lang/Throwable" "SUPPRESSED_SENTINEL" "Ljava/util/List;" ∈ jAll := jgd (jM2 (List.mem_of_getElem? (i := 128) rfl)) rfl
theorem kml__java_lang_Throwable__27 : Cond.methodLink "java/lang/Throwable" 27 ⟨"java/lang/Throwable", "fillInStackTrace", "()Ljava/lang/Throwable;"⟩ ∈ jAll := jgd (jM2 (List.mem_of_getElem? (i := 130) rfl)) rfl
theorem kim_Throwable_fillInStackTrace__Ljava_lang_Throwable_ : Cond.instanceMethod ⟨"java/lang/Throwable", "fillInStackTrace", "()Ljava/lang/Throwable;"⟩ ∈ jAll := jgd (jM2 (List.mem_of_getElem? (i := 131) rfl)) rfl
theorem kml__java_lang_Throwable__202 : Cond.methodLink "java/lang/Throwable" 202 ⟨"java/lang/Throwable", "fillInStackTrace", "(I)Ljava/lang/Throwable;"⟩ ∈ jAll := jgd (jM2 (List.mem_of_getElem? (i := 137) rfl)) rfl
theorem kim_Throwable_fillInStackTrace_I_Ljava_lang_Throwable_ : Cond.instanceMethod ⟨"java/lang/Throwable", "fillInStackTrace", "(I)Ljava/lang/Throwable;"⟩ ∈ jAll := jgd (jM2 (List.mem_of_getElem? (i := 139) rfl)) rfl
theorem kin__java_lang_Throwable_ : Cond.instantiable "java/lang/Throwable" 6 ∈ jAll := jgd (jM2 (List.mem_of_getElem? (i := 140) rfl)) rfl
theorem kml_X5_56 : Cond.methodLink RX5 56 ⟨"java/lang/IllegalArgumentException", "<init>", "(Ljava/lang/String;)V"⟩ ∈ jAll := jgd (jM2 (List.mem_of_getElem? (i := 143) rfl)) rfl
theorem kim_IllegalArgumentException__init__Ljava_lang_String__V : Cond.instanceMethod ⟨"java/lang/IllegalArgumentException", "<init>", "(Ljava/lang/String;)V"⟩ ∈ jAll := jgd (jM2 (List.mem_of_getElem? (i := 144) rfl)) rfl
theorem kml__java_lang_IllegalArgumentException__7 : Cond.methodLink "java/lang/IllegalArgumentException" 7 ⟨"java/lang/RuntimeException", "<init>", "(Ljava/lang/String;)V"⟩ ∈ jAll := jgd (jM2 (List.mem_of_getElem? (i := 146) rfl)) rfl
theorem kim_RuntimeException__init__Ljava_lang_String__V : Cond.instanceMethod ⟨"java/lang/RuntimeException", "<init>", "(Ljava/lang/String;)V"⟩ ∈ jAll := jgd (jM2 (List.mem_of_getElem? (i := 147) rfl)) rfl
theorem kml__java_lang_RuntimeException__7 : Cond.methodLink "java/lang/RuntimeException" 7 ⟨"java/lang/Exception", "<init>", "(Ljava/lang/String;)V"⟩ ∈ jAll := jgd (jM2 (List.mem_of_getElem? (i := 149) rfl)) rfl
theorem kim_Exception__init__Ljava_lang_String__V : Cond.instanceMethod ⟨"java/lang/Exception", "<init>", "(Ljava/lang/String;)V"⟩ ∈ jAll := jgd (jM2 (List.mem_of_getElem? (i := 150) rfl)) rfl
theorem kml__java_lang_Exception__7 : Cond.methodLink "java/lang/Exception" 7 ⟨"java/lang/Throwable", "<init>", "(Ljava/lang/String;)V"⟩ ∈ jAll := jgd (jM2 (List.mem_of_getElem? (i := 152) rfl)) rfl
theorem kim_Throwable__init__Ljava_lang_String__V : Cond.instanceMethod ⟨"java/lang/Throwable", "<init>", "(Ljava/lang/String;)V"⟩ ∈ jAll := jgd (jM2 (List.mem_of_getElem? (i := 153) rfl)) rfl
theorem kfl__java_lang_Throwable__31 : Cond.fieldLink "java/lang/Throwable" 31 "java/lang/Throwable" "detailMessage" "Ljava/lang/String;" ∈ jAll := jgd (jM2 (List.mem_of_getElem? (i := 156) rfl)) rfl
theorem kfl__java_lang_Throwable__7 : Cond.fieldLink "java/lang/Throwable" 7 "java/lang/Throwable" "cause" "Ljava/lang/Throwable;" ∈ jAll := jgd (jM2 (List.mem_of_getElem? (i := 157) rfl)) rfl
theorem kfl__java_lang_Throwable__17 : Cond.fieldLink "java/lang/Throwable" 17 "java/lang/Throwable" "stackTrace" "[Ljava/lang/StackTraceElement;" ∈ jAll := jgd (jM2 (List.mem_of_getElem? (i := 158) rfl)) rfl
theorem kfl__java_lang_Throwable__24 : Cond.fieldLink "java/lang/Throwable" 24 "java/lang/Throwable" "suppressedExceptions" "Ljava/util/List;" ∈ jAll := jgd (jM2 (List.mem_of_getElem? (i := 159) rfl)) rfl
theorem kac_byte : Cond.arrayClass .byte ∈ jAll := jgd (jM2 (List.mem_of_getElem? (i := 168) rfl)) rfl
theorem kcl_X5_63 : Cond.classLink RX5 63 "java/lang/IllegalStateException" ∈ jAll := jgd (jM2 (List.mem_of_getElem? (i := 169) rfl)) rfl
theorem kin__java_lang_IllegalStateException_ : Cond.instantiable "java/lang/IllegalStateException" 6 ∈ jAll := jgd (jM2 (List.mem_of_getElem? (i := 170) rfl)) rfl
theorem kml_X5_67 : Cond.methodLink RX5 67 ⟨"java/lang/IllegalStateException", "<init>", "(Ljava/lang/String;)V"⟩ ∈ jAll := jgd (jM2 (List.mem_of_getElem? (i := 179) rfl)) rfl
theorem kim_IllegalStateException__init__Ljava_lang_String__V : Cond.instanceMethod ⟨"java/lang/IllegalStateException", "<init>", "(Ljava/lang/String;)V"⟩ ∈ jAll := jgd (jM2 (List.mem_of_getElem? (i := 180) rfl)) rfl
theorem kml__java_lang_IllegalStateException__7 : Cond.methodLink "java/lang/IllegalStateException" 7 ⟨"java/lang/RuntimeException", "<init>", "(Ljava/lang/String;)V"⟩ ∈ jAll := jgd (jM2 (List.mem_of_getElem? (i := 182) rfl)) rfl
theorem kml_X5_68 : Cond.methodLink RX5 68 yX1_clear ∈ jAll := jgd (jM2 (List.mem_of_getElem? (i := 185) rfl)) rfl
theorem kim_X1_clear : Cond.instanceMethod yX1_clear ∈ jAll := jgd (jM2 (List.mem_of_getElem? (i := 186) rfl)) rfl
theorem kse_X1_clear : Cond.selects RX1 yX1_clear yX1_clear ∈ jAll := jgd (jM2 (List.mem_of_getElem? (i := 187) rfl)) rfl
theorem kco_X1_clear : Cond.code yX1_clear cX1_clear 1 none ∈ jAll := jgd (jM2 (List.mem_of_getElem? (i := 188) rfl)) rfl
theorem kml_X5_71 : Cond.methodLink RX5 71 yX4_openResource ∈ jAll := jgd (jM2 (List.mem_of_getElem? (i := 189) rfl)) rfl
theorem kim_X4_openResource : Cond.instanceMethod yX4_openResource ∈ jAll := jgd (jM2 (List.mem_of_getElem? (i := 190) rfl)) rfl
theorem kse_X4_openResource : Cond.selects RX4 yX4_openResource yX4_openResource ∈ jAll := jgd (jM2 (List.mem_of_getElem? (i := 191) rfl)) rfl
theorem kco_X4_openResource : Cond.code yX4_openResource cX4_openResource 3 (some .int) ∈ jAll := jgd (jM2 (List.mem_of_getElem? (i := 192) rfl)) rfl
theorem kml_X5_75 : Cond.methodLink RX5 75 yX3_runOnce ∈ jAll := jgd (jM2 (List.mem_of_getElem? (i := 193) rfl)) rfl
theorem kim_X3_runOnce : Cond.instanceMethod yX3_runOnce ∈ jAll := jgd (jM2 (List.mem_of_getElem? (i := 194) rfl)) rfl
theorem kse_X3_runOnce : Cond.selects RX3 yX3_runOnce yX3_runOnce ∈ jAll := jgd (jM2 (List.mem_of_getElem? (i := 195) rfl)) rfl
theorem kco_X3_runOnce : Cond.code yX3_runOnce cX3_runOnce 4 (some .int) ∈ jAll := jgd (jM2 (List.mem_of_getElem? (i := 196) rfl)) rfl
theorem kml_X3_33 : Cond.methodLink RX3 33 yX3_nextToTry ∈ jAll := jgd (jM2 (List.mem_of_getElem? (i := 197) rfl)) rfl
theorem kim_X3_nextToTry : Cond.instanceMethod yX3_nextToTry ∈ jAll := jgd (jM2 (List.mem_of_getElem? (i := 199) rfl)) rfl
theorem kco_X3_nextToTry : Cond.code yX3_nextToTry cX3_nextToTry 3 (some .int) ∈ jAll := jgd (jM2 (List.mem_of_getElem? (i := 200) rfl)) rfl
theorem kml_X3_41 : Cond.methodLink RX3 41 yX4_isWaiting ∈ jAll := jgd (jM2 (List.mem_of_getElem? (i := 201) rfl)) rfl
theorem kml_X3_48 : Cond.methodLink RX3 48 yX3_isServedBefore ∈ jAll := jgd (jM2 (List.mem_of_getElem? (i := 202) rfl)) rfl
theorem kim_X3_isServedBefore : Cond.instanceMethod yX3_isServedBefore ∈ jAll := jgd (jM2 (List.mem_of_getElem? (i := 204) rfl)) rfl
theorem kco_X3_isServedBefore : Cond.code yX3_isServedBefore cX3_isServedBefore 5 (some .boolean) ∈ jAll := jgd (jM2 (List.mem_of_getElem? (i := 205) rfl)) rfl
theorem kml_X3_37 : Cond.methodLink RX3 37 yX3_tryToPlace ∈ jAll := jgd (jM2 (List.mem_of_getElem? (i := 206) rfl)) rfl
theorem kim_X3_tryToPlace : Cond.instanceMethod yX3_tryToPlace ∈ jAll := jgd (jM2 (List.mem_of_getElem? (i := 207) rfl)) rfl
theorem kse_X3_tryToPlace : Cond.selects RX3 yX3_tryToPlace yX3_tryToPlace ∈ jAll := jgd (jM2 (List.mem_of_getElem? (i := 208) rfl)) rfl
theorem kco_X3_tryToPlace : Cond.code yX3_tryToPlace cX3_tryToPlace 3 (some .boolean) ∈ jAll := jgd (jM2 (List.mem_of_getElem? (i := 209) rfl)) rfl
theorem kml_X3_58 : Cond.methodLink RX3 58 yX4_groupHasRoom ∈ jAll := jgd (jM2 (List.mem_of_getElem? (i := 210) rfl)) rfl
theorem kim_X4_groupHasRoom : Cond.instanceMethod yX4_groupHasRoom ∈ jAll := jgd (jM2 (List.mem_of_getElem? (i := 211) rfl)) rfl
theorem kse_X4_groupHasRoom : Cond.selects RX4 yX4_groupHasRoom yX4_groupHasRoom ∈ jAll := jgd (jM2 (List.mem_of_getElem? (i := 212) rfl)) rfl
theorem kco_X4_groupHasRoom : Cond.code yX4_groupHasRoom cX4_groupHasRoom 2 (some .boolean) ∈ jAll := jgd (jM2 (List.mem_of_getElem? (i := 213) rfl)) rfl
theorem kml_X3_61 : Cond.methodLink RX3 61 yX2_search ∈ jAll := jgd (jM2 (List.mem_of_getElem? (i := 214) rfl)) rfl
theorem kim_X2_search : Cond.instanceMethod yX2_search ∈ jAll := jgd (jM2 (List.mem_of_getElem? (i := 215) rfl)) rfl
theorem kse_X2_search : Cond.selects RX2 yX2_search yX2_search ∈ jAll := jgd (jM2 (List.mem_of_getElem? (i := 216) rfl)) rfl
theorem kco_X2_search : Cond.code yX2_search cX2_search 2 (some .int) ∈ jAll := jgd (jM2 (List.mem_of_getElem? (i := 217) rfl)) rfl
theorem kml_X2_28 : Cond.methodLink RX2 28 yX2_collectSuccessors ∈ jAll := jgd (jM2 (List.mem_of_getElem? (i := 218) rfl)) rfl
theorem kim_X2_collectSuccessors : Cond.instanceMethod yX2_collectSuccessors ∈ jAll := jgd (jM2 (List.mem_of_getElem? (i := 220) rfl)) rfl
theorem kco_X2_collectSuccessors : Cond.code yX2_collectSuccessors cX2_collectSuccessors 2 none ∈ jAll := jgd (jM2 (List.mem_of_getElem? (i := 221) rfl)) rfl
theorem kml_X2_57 : Cond.methodLink RX2 57 yX4_canBeMoved ∈ jAll := jgd (jM2 (List.mem_of_getElem? (i := 222) rfl)) rfl
theorem kim_X4_canBeMoved : Cond.instanceMethod yX4_canBeMoved ∈ jAll := jgd (jM2 (List.mem_of_getElem? (i := 223) rfl)) rfl
theorem kse_X4_canBeMoved : Cond.selects RX4 yX4_canBeMoved yX4_canBeMoved ∈ jAll := jgd (jM2 (List.mem_of_getElem? (i := 224) rfl)) rfl
theorem kco_X4_canBeMoved : Cond.code yX4_canBeMoved cX4_canBeMoved 2 (some .boolean) ∈ jAll := jgd (jM2 (List.mem_of_getElem? (i := 225) rfl)) rfl
theorem kml_X2_31 : Cond.methodLink RX2 31 yX2_buildLayers ∈ jAll := jgd (jM2 (List.mem_of_getElem? (i := 226) rfl)) rfl
theorem kim_X2_buildLayers : Cond.instanceMethod yX2_buildLayers ∈ jAll := jgd (jM2 (List.mem_of_getElem? (i := 228) rfl)) rfl
theorem kco_X2_buildLayers : Cond.code yX2_buildLayers cX2_buildLayers 3 none ∈ jAll := jgd (jM2 (List.mem_of_getElem? (i := 229) rfl)) rfl
theorem kml_X2_63 : Cond.methodLink RX2 63 yX4_resourceHasRoom ∈ jAll := jgd (jM2 (List.mem_of_getElem? (i := 230) rfl)) rfl
theorem kim_X4_resourceHasRoom : Cond.instanceMethod yX4_resourceHasRoom ∈ jAll := jgd (jM2 (List.mem_of_getElem? (i := 231) rfl)) rfl
theorem kse_X4_resourceHasRoom : Cond.selects RX4 yX4_resourceHasRoom yX4_resourceHasRoom ∈ jAll := jgd (jM2 (List.mem_of_getElem? (i := 232) rfl)) rfl
theorem kco_X4_resourceHasRoom : Cond.code yX4_resourceHasRoom cX4_resourceHasRoom 2 (some .boolean) ∈ jAll := jgd (jM2 (List.mem_of_getElem? (i := 233) rfl)) rfl
theorem kml_X2_66 : Cond.methodLink RX2 66 yX2_leadingTo ∈ jAll := jgd (jM2 (List.mem_of_getElem? (i := 234) rfl)) rfl
theorem kim_X2_leadingTo : Cond.instanceMethod yX2_leadingTo ∈ jAll := jgd (jM2 (List.mem_of_getElem? (i := 236) rfl)) rfl
theorem kco_X2_leadingTo : Cond.code yX2_leadingTo cX2_leadingTo 4 (some .int) ∈ jAll := jgd (jM2 (List.mem_of_getElem? (i := 237) rfl)) rfl
theorem kml_X2_39 : Cond.methodLink RX2 39 yX2_shortestFrom ∈ jAll := jgd (jM2 (List.mem_of_getElem? (i := 238) rfl)) rfl
theorem kim_X2_shortestFrom : Cond.instanceMethod yX2_shortestFrom ∈ jAll := jgd (jM3 (List.mem_of_getElem? (i := 0) rfl)) rfl
theorem kco_X2_shortestFrom : Cond.code yX2_shortestFrom cX2_shortestFrom 3 (some .int) ∈ jAll := jgd (jM3 (List.mem_of_getElem? (i := 1) rfl)) rfl
theorem kml_X2_47 : Cond.methodLink RX2 47 yX2_trace ∈ jAll := jgd (jM3 (List.mem_of_getElem? (i := 2) rfl)) rfl
theorem kim_X2_trace : Cond.instanceMethod yX2_trace ∈ jAll := jgd (jM3 (List.mem_of_getElem? (i := 4) rfl)) rfl
theorem kco_X2_trace : Cond.code yX2_trace cX2_trace 6 (some .boolean) ∈ jAll := jgd (jM3 (List.mem_of_getElem? (i := 5) rfl)) rfl
theorem kmn_X2_69 : Cond.methodLinkNest RX2 69 yX5_lowestResource "MatchingService" ∈ jNest := jH (jM3 (List.mem_of_getElem? (i := 6) rfl)) rfl
theorem kst_X5_lowestResource : Cond.static yX5_lowestResource ∈ jAll := jgd (jM3 (List.mem_of_getElem? (i := 7) rfl)) rfl
theorem kco_X5_lowestResource : Cond.code yX5_lowestResource cX5_lowestResource 2 (some .int) ∈ jAll := jgd (jM3 (List.mem_of_getElem? (i := 8) rfl)) rfl
theorem kml_X5_226 : Cond.methodLink RX5 226 yX5_hasBit ∈ jAll := jgd (jM3 (List.mem_of_getElem? (i := 9) rfl)) rfl
theorem kml_X2_72 : Cond.methodLink RX2 72 yX2_firstMovable ∈ jAll := jgd (jM3 (List.mem_of_getElem? (i := 10) rfl)) rfl
theorem kim_X2_firstMovable : Cond.instanceMethod yX2_firstMovable ∈ jAll := jgd (jM3 (List.mem_of_getElem? (i := 12) rfl)) rfl
theorem kco_X2_firstMovable : Cond.code yX2_firstMovable cX2_firstMovable 4 (some .int) ∈ jAll := jgd (jM3 (List.mem_of_getElem? (i := 13) rfl)) rfl
theorem kml_X3_70 : Cond.methodLink RX3 70 yX3_placeAlongPath ∈ jAll := jgd (jM3 (List.mem_of_getElem? (i := 14) rfl)) rfl
theorem kim_X3_placeAlongPath : Cond.instanceMethod yX3_placeAlongPath ∈ jAll := jgd (jM3 (List.mem_of_getElem? (i := 16) rfl)) rfl
theorem kco_X3_placeAlongPath : Cond.code yX3_placeAlongPath cX3_placeAlongPath 5 none ∈ jAll := jgd (jM3 (List.mem_of_getElem? (i := 17) rfl)) rfl
theorem kml_X3_77 : Cond.methodLink RX3 77 yX4_assign ∈ jAll := jgd (jM3 (List.mem_of_getElem? (i := 18) rfl)) rfl
theorem kim_X4_assign : Cond.instanceMethod yX4_assign ∈ jAll := jgd (jM3 (List.mem_of_getElem? (i := 19) rfl)) rfl
theorem kse_X4_assign : Cond.selects RX4 yX4_assign yX4_assign ∈ jAll := jgd (jM3 (List.mem_of_getElem? (i := 20) rfl)) rfl
theorem kco_X4_assign : Cond.code yX4_assign cX4_assign 3 none ∈ jAll := jgd (jM3 (List.mem_of_getElem? (i := 21) rfl)) rfl
theorem kml_X3_87 : Cond.methodLink RX3 87 yX4_move ∈ jAll := jgd (jM3 (List.mem_of_getElem? (i := 22) rfl)) rfl
theorem kim_X4_move : Cond.instanceMethod yX4_move ∈ jAll := jgd (jM3 (List.mem_of_getElem? (i := 23) rfl)) rfl
theorem kse_X4_move : Cond.selects RX4 yX4_move yX4_move ∈ jAll := jgd (jM3 (List.mem_of_getElem? (i := 24) rfl)) rfl
theorem kco_X4_move : Cond.code yX4_move cX4_move 3 none ∈ jAll := jgd (jM3 (List.mem_of_getElem? (i := 25) rfl)) rfl
theorem kml_X4_59 : Cond.methodLink RX4 59 yX4_putBack ∈ jAll := jgd (jM3 (List.mem_of_getElem? (i := 26) rfl)) rfl
theorem kim_X4_putBack : Cond.instanceMethod yX4_putBack ∈ jAll := jgd (jM3 (List.mem_of_getElem? (i := 27) rfl)) rfl
theorem kse_X4_putBack : Cond.selects RX4 yX4_putBack yX4_putBack ∈ jAll := jgd (jM3 (List.mem_of_getElem? (i := 28) rfl)) rfl
theorem kco_X4_putBack : Cond.code yX4_putBack cX4_putBack 2 none ∈ jAll := jgd (jM3 (List.mem_of_getElem? (i := 29) rfl)) rfl
theorem kml_X4_67 : Cond.methodLink RX4 67 yX4_assign ∈ jAll := jgd (jM3 (List.mem_of_getElem? (i := 30) rfl)) rfl
theorem kml_X3_90 : Cond.methodLink RX3 90 yX1_add ∈ jAll := jgd (jM3 (List.mem_of_getElem? (i := 31) rfl)) rfl
theorem kim_X1_add : Cond.instanceMethod yX1_add ∈ jAll := jgd (jM3 (List.mem_of_getElem? (i := 32) rfl)) rfl
theorem kse_X1_add : Cond.selects RX1 yX1_add yX1_add ∈ jAll := jgd (jM3 (List.mem_of_getElem? (i := 33) rfl)) rfl
theorem kco_X1_add : Cond.code yX1_add cX1_add 3 none ∈ jAll := jgd (jM3 (List.mem_of_getElem? (i := 34) rfl)) rfl
theorem kml_L_83 : Cond.methodLink RL 83 yL_setCapacity ∈ jAll := jgd (jM3 (List.mem_of_getElem? (i := 35) rfl)) rfl
theorem kst_L_setCapacity : Cond.static yL_setCapacity ∈ jAll := jgd (jM3 (List.mem_of_getElem? (i := 36) rfl)) rfl
theorem kco_L_setCapacity : Cond.codeWith yL_setCapacity cL_setCapacity 5 (some .int) [(0, 10, 13, 21), (0, 10, 17, 13)] ∈ jAll := jgd (jM3 (List.mem_of_getElem? (i := 37) rfl)) rfl
theorem kcl_L_21 : Cond.classLink RL 21 "java/lang/IndexOutOfBoundsException" ∈ jAll := jgd (jM3 (List.mem_of_getElem? (i := 38) rfl)) rfl
theorem kml_L_17 : Cond.methodLink RL 17 yX5_setCapacity ∈ jAll := jgd (jM3 (List.mem_of_getElem? (i := 39) rfl)) rfl
theorem kim_X5_setCapacity : Cond.instanceMethod yX5_setCapacity ∈ jAll := jgd (jM3 (List.mem_of_getElem? (i := 40) rfl)) rfl
theorem kse_X5_setCapacity : Cond.selects RX5 yX5_setCapacity yX5_setCapacity ∈ jAll := jgd (jM3 (List.mem_of_getElem? (i := 41) rfl)) rfl
theorem kco_X5_setCapacity : Cond.code yX5_setCapacity cX5_setCapacity 4 (some .int) ∈ jAll := jgd (jM3 (List.mem_of_getElem? (i := 42) rfl)) rfl
theorem kml_X5_79 : Cond.methodLink RX5 79 yX5_requireResource ∈ jAll := jgd (jM3 (List.mem_of_getElem? (i := 43) rfl)) rfl
theorem kim_X5_requireResource : Cond.instanceMethod yX5_requireResource ∈ jAll := jgd (jM3 (List.mem_of_getElem? (i := 45) rfl)) rfl
theorem kco_X5_requireResource : Cond.code yX5_requireResource cX5_requireResource 2 none ∈ jAll := jgd (jM3 (List.mem_of_getElem? (i := 46) rfl)) rfl
theorem kcl_X5_208 : Cond.classLink RX5 208 "java/lang/IndexOutOfBoundsException" ∈ jAll := jgd (jM3 (List.mem_of_getElem? (i := 47) rfl)) rfl
theorem kin__java_lang_IndexOutOfBoundsException_ : Cond.instantiable "java/lang/IndexOutOfBoundsException" 6 ∈ jAll := jgd (jM3 (List.mem_of_getElem? (i := 48) rfl)) rfl
theorem kml_X5_212 : Cond.methodLink RX5 212 ⟨"java/lang/IndexOutOfBoundsException", "<init>", "(Ljava/lang/String;)V"⟩ ∈ jAll := jgd (jM3 (List.mem_of_getElem? (i := 57) rfl)) rfl
theorem kim_IndexOutOfBoundsException__init__Ljava_lang_String__V : Cond.instanceMethod ⟨"java/lang/IndexOutOfBoundsException", "<init>", "(Ljava/lang/String;)V"⟩ ∈ jAll := jgd (jM3 (List.mem_of_getElem? (i := 58) rfl)) rfl
theorem kml__java_lang_IndexOutOfBoundsException__7 : Cond.methodLink "java/lang/IndexOutOfBoundsException" 7 ⟨"java/lang/RuntimeException", "<init>", "(Ljava/lang/String;)V"⟩ ∈ jAll := jgd (jM3 (List.mem_of_getElem? (i := 60) rfl)) rfl
theorem kml_X5_87 : Cond.methodLink RX5 87 yX4_putBackBeyondCapacity ∈ jAll := jgd (jM3 (List.mem_of_getElem? (i := 63) rfl)) rfl
theorem kim_X4_putBackBeyondCapacity : Cond.instanceMethod yX4_putBackBeyondCapacity ∈ jAll := jgd (jM3 (List.mem_of_getElem? (i := 64) rfl)) rfl
theorem kse_X4_putBackBeyondCapacity : Cond.selects RX4 yX4_putBackBeyondCapacity yX4_putBackBeyondCapacity ∈ jAll := jgd (jM3 (List.mem_of_getElem? (i := 65) rfl)) rfl
theorem kco_X4_putBackBeyondCapacity : Cond.code yX4_putBackBeyondCapacity cX4_putBackBeyondCapacity 4 (some .int) ∈ jAll := jgd (jM3 (List.mem_of_getElem? (i := 66) rfl)) rfl
theorem kml_L_87 : Cond.methodLink RL 87 yL_setGroup ∈ jAll := jgd (jM3 (List.mem_of_getElem? (i := 67) rfl)) rfl
theorem kst_L_setGroup : Cond.static yL_setGroup ∈ jAll := jgd (jM3 (List.mem_of_getElem? (i := 68) rfl)) rfl
theorem kco_L_setGroup : Cond.codeWith yL_setGroup cL_setGroup 6 (some .int) [(0, 12, 15, 21), (0, 12, 19, 13)] ∈ jAll := jgd (jM3 (List.mem_of_getElem? (i := 69) rfl)) rfl
theorem kml_L_23 : Cond.methodLink RL 23 yX5_setGroup ∈ jAll := jgd (jM3 (List.mem_of_getElem? (i := 70) rfl)) rfl
theorem kim_X5_setGroup : Cond.instanceMethod yX5_setGroup ∈ jAll := jgd (jM3 (List.mem_of_getElem? (i := 71) rfl)) rfl
theorem kse_X5_setGroup : Cond.selects RX5 yX5_setGroup yX5_setGroup ∈ jAll := jgd (jM3 (List.mem_of_getElem? (i := 72) rfl)) rfl
theorem kco_X5_setGroup : Cond.code yX5_setGroup cX5_setGroup 5 (some .int) ∈ jAll := jgd (jM3 (List.mem_of_getElem? (i := 73) rfl)) rfl
theorem kml_X5_90 : Cond.methodLink RX5 90 yX5_requireGroup ∈ jAll := jgd (jM3 (List.mem_of_getElem? (i := 74) rfl)) rfl
theorem kim_X5_requireGroup : Cond.instanceMethod yX5_requireGroup ∈ jAll := jgd (jM3 (List.mem_of_getElem? (i := 76) rfl)) rfl
theorem kco_X5_requireGroup : Cond.code yX5_requireGroup cX5_requireGroup 2 none ∈ jAll := jgd (jM3 (List.mem_of_getElem? (i := 77) rfl)) rfl
theorem kml_X5_103 : Cond.methodLink RX5 103 yX4_putBackBeyondQuota ∈ jAll := jgd (jM3 (List.mem_of_getElem? (i := 81) rfl)) rfl
theorem kim_X4_putBackBeyondQuota : Cond.instanceMethod yX4_putBackBeyondQuota ∈ jAll := jgd (jM3 (List.mem_of_getElem? (i := 82) rfl)) rfl
theorem kse_X4_putBackBeyondQuota : Cond.selects RX4 yX4_putBackBeyondQuota yX4_putBackBeyondQuota ∈ jAll := jgd (jM3 (List.mem_of_getElem? (i := 83) rfl)) rfl
theorem kco_X4_putBackBeyondQuota : Cond.code yX4_putBackBeyondQuota cX4_putBackBeyondQuota 4 (some .int) ∈ jAll := jgd (jM3 (List.mem_of_getElem? (i := 84) rfl)) rfl
theorem kml_L_91 : Cond.methodLink RL 91 yL_setLimits ∈ jAll := jgd (jM3 (List.mem_of_getElem? (i := 85) rfl)) rfl
theorem kst_L_setLimits : Cond.static yL_setLimits ∈ jAll := jgd (jM3 (List.mem_of_getElem? (i := 86) rfl)) rfl
theorem kco_L_setLimits : Cond.codeWith yL_setLimits cL_setLimits 5 (some .int) [(0, 10, 13, 13)] ∈ jAll := jgd (jM3 (List.mem_of_getElem? (i := 87) rfl)) rfl
theorem kml_L_27 : Cond.methodLink RL 27 yX5_setLimits ∈ jAll := jgd (jM3 (List.mem_of_getElem? (i := 88) rfl)) rfl
theorem kim_X5_setLimits : Cond.instanceMethod yX5_setLimits ∈ jAll := jgd (jM3 (List.mem_of_getElem? (i := 89) rfl)) rfl
theorem kse_X5_setLimits : Cond.selects RX5 yX5_setLimits yX5_setLimits ∈ jAll := jgd (jM3 (List.mem_of_getElem? (i := 90) rfl)) rfl
theorem kco_X5_setLimits : Cond.code yX5_setLimits cX5_setLimits 3 (some .int) ∈ jAll := jgd (jM3 (List.mem_of_getElem? (i := 91) rfl)) rfl
theorem kml_L_94 : Cond.methodLink RL 94 yL_arrive ∈ jAll := jgd (jM3 (List.mem_of_getElem? (i := 94) rfl)) rfl
theorem kst_L_arrive : Cond.static yL_arrive ∈ jAll := jgd (jM3 (List.mem_of_getElem? (i := 95) rfl)) rfl
theorem kco_L_arrive : Cond.codeWith yL_arrive cL_arrive 5 (some .int) [(0, 10, 13, 21), (0, 10, 17, 13), (0, 10, 21, 15)] ∈ jAll := jgd (jM3 (List.mem_of_getElem? (i := 96) rfl)) rfl
theorem kml_L_30 : Cond.methodLink RL 30 yX5_arrive ∈ jAll := jgd (jM3 (List.mem_of_getElem? (i := 97) rfl)) rfl
theorem kim_X5_arrive : Cond.instanceMethod yX5_arrive ∈ jAll := jgd (jM3 (List.mem_of_getElem? (i := 98) rfl)) rfl
theorem kse_X5_arrive : Cond.selects RX5 yX5_arrive yX5_arrive ∈ jAll := jgd (jM3 (List.mem_of_getElem? (i := 99) rfl)) rfl
theorem kco_X5_arrive : Cond.code yX5_arrive cX5_arrive 4 (some .int) ∈ jAll := jgd (jM3 (List.mem_of_getElem? (i := 100) rfl)) rfl
theorem kml_X5_116 : Cond.methodLink RX5 116 yX5_requireMask ∈ jAll := jgd (jM3 (List.mem_of_getElem? (i := 101) rfl)) rfl
theorem kim_X5_requireMask : Cond.instanceMethod yX5_requireMask ∈ jAll := jgd (jM3 (List.mem_of_getElem? (i := 103) rfl)) rfl
theorem kco_X5_requireMask : Cond.code yX5_requireMask cX5_requireMask 2 none ∈ jAll := jgd (jM3 (List.mem_of_getElem? (i := 104) rfl)) rfl
theorem kml_X5_219 : Cond.methodLink RX5 219 yX4_maskOfAll ∈ jAll := jgd (jM3 (List.mem_of_getElem? (i := 105) rfl)) rfl
theorem kml_X5_124 : Cond.methodLink RX5 124 yX4_admit ∈ jAll := jgd (jM3 (List.mem_of_getElem? (i := 108) rfl)) rfl
theorem kim_X4_admit : Cond.instanceMethod yX4_admit ∈ jAll := jgd (jM3 (List.mem_of_getElem? (i := 109) rfl)) rfl
theorem kse_X4_admit : Cond.selects RX4 yX4_admit yX4_admit ∈ jAll := jgd (jM3 (List.mem_of_getElem? (i := 110) rfl)) rfl
theorem kco_X4_admit : Cond.code yX4_admit cX4_admit 4 (some .int) ∈ jAll := jgd (jM3 (List.mem_of_getElem? (i := 111) rfl)) rfl
theorem kml_X5_128 : Cond.methodLink RX5 128 yX3_tryToPlace ∈ jAll := jgd (jM3 (List.mem_of_getElem? (i := 112) rfl)) rfl
theorem kml_L_97 : Cond.methodLink RL 97 yL_depart ∈ jAll := jgd (jM3 (List.mem_of_getElem? (i := 113) rfl)) rfl
theorem kst_L_depart : Cond.static yL_depart ∈ jAll := jgd (jM3 (List.mem_of_getElem? (i := 114) rfl)) rfl
theorem kco_L_depart : Cond.codeWith yL_depart cL_depart 4 (some .int) [(0, 9, 12, 21), (0, 9, 15, 36)] ∈ jAll := jgd (jM3 (List.mem_of_getElem? (i := 115) rfl)) rfl
theorem kcl_L_36 : Cond.classLink RL 36 "java/util/NoSuchElementException" ∈ jAll := jgd (jM3 (List.mem_of_getElem? (i := 116) rfl)) rfl
theorem kml_L_33 : Cond.methodLink RL 33 yX5_depart ∈ jAll := jgd (jM3 (List.mem_of_getElem? (i := 117) rfl)) rfl
theorem kim_X5_depart : Cond.instanceMethod yX5_depart ∈ jAll := jgd (jM3 (List.mem_of_getElem? (i := 118) rfl)) rfl
theorem kse_X5_depart : Cond.selects RX5 yX5_depart yX5_depart ∈ jAll := jgd (jM3 (List.mem_of_getElem? (i := 119) rfl)) rfl
theorem kco_X5_depart : Cond.code yX5_depart cX5_depart 2 (some .int) ∈ jAll := jgd (jM3 (List.mem_of_getElem? (i := 120) rfl)) rfl
theorem kml_X5_132 : Cond.methodLink RX5 132 yX5_requirePresent ∈ jAll := jgd (jM3 (List.mem_of_getElem? (i := 121) rfl)) rfl
theorem kim_X5_requirePresent : Cond.instanceMethod yX5_requirePresent ∈ jAll := jgd (jM3 (List.mem_of_getElem? (i := 123) rfl)) rfl
theorem kco_X5_requirePresent : Cond.code yX5_requirePresent cX5_requirePresent 2 none ∈ jAll := jgd (jM3 (List.mem_of_getElem? (i := 124) rfl)) rfl
theorem kml_X5_157 : Cond.methodLink RX5 157 yX5_requireRequest ∈ jAll := jgd (jM3 (List.mem_of_getElem? (i := 125) rfl)) rfl
theorem kim_X5_requireRequest : Cond.instanceMethod yX5_requireRequest ∈ jAll := jgd (jM3 (List.mem_of_getElem? (i := 127) rfl)) rfl
theorem kco_X5_requireRequest : Cond.code yX5_requireRequest cX5_requireRequest 2 none ∈ jAll := jgd (jM3 (List.mem_of_getElem? (i := 128) rfl)) rfl
theorem kml_X5_197 : Cond.methodLink RX5 197 yX4_isDeparted ∈ jAll := jgd (jM3 (List.mem_of_getElem? (i := 130) rfl)) rfl
theorem kcl_X5_163 : Cond.classLink RX5 163 "java/util/NoSuchElementException" ∈ jAll := jgd (jM3 (List.mem_of_getElem? (i := 131) rfl)) rfl
theorem kin__java_util_NoSuchElementException_ : Cond.instantiable "java/util/NoSuchElementException" 6 ∈ jAll := jgd (jM3 (List.mem_of_getElem? (i := 132) rfl)) rfl
theorem kml_X5_167 : Cond.methodLink RX5 167 ⟨"java/util/NoSuchElementException", "<init>", "(Ljava/lang/String;)V"⟩ ∈ jAll := jgd (jM3 (List.mem_of_getElem? (i := 141) rfl)) rfl
theorem kim_NoSuchElementException__init__Ljava_lang_String__V : Cond.instanceMethod ⟨"java/util/NoSuchElementException", "<init>", "(Ljava/lang/String;)V"⟩ ∈ jAll := jgd (jM3 (List.mem_of_getElem? (i := 142) rfl)) rfl
theorem kml__java_util_NoSuchElementException__13 : Cond.methodLink "java/util/NoSuchElementException" 13 ⟨"java/lang/RuntimeException", "<init>", "(Ljava/lang/String;)V"⟩ ∈ jAll := jgd (jM3 (List.mem_of_getElem? (i := 144) rfl)) rfl
theorem kml_X5_135 : Cond.methodLink RX5 135 yX4_dismiss ∈ jAll := jgd (jM3 (List.mem_of_getElem? (i := 147) rfl)) rfl
theorem kim_X4_dismiss : Cond.instanceMethod yX4_dismiss ∈ jAll := jgd (jM3 (List.mem_of_getElem? (i := 148) rfl)) rfl
theorem kse_X4_dismiss : Cond.selects RX4 yX4_dismiss yX4_dismiss ∈ jAll := jgd (jM3 (List.mem_of_getElem? (i := 149) rfl)) rfl
theorem kco_X4_dismiss : Cond.code yX4_dismiss cX4_dismiss 2 none ∈ jAll := jgd (jM3 (List.mem_of_getElem? (i := 150) rfl)) rfl
theorem kml_L_100 : Cond.methodLink RL 100 yL_setAccepts ∈ jAll := jgd (jM3 (List.mem_of_getElem? (i := 151) rfl)) rfl
theorem kst_L_setAccepts : Cond.static yL_setAccepts ∈ jAll := jgd (jM3 (List.mem_of_getElem? (i := 152) rfl)) rfl
theorem kco_L_setAccepts : Cond.codeWith yL_setAccepts cL_setAccepts 5 (some .int) [(0, 17, 20, 21), (0, 17, 24, 36), (0, 17, 28, 13)] ∈ jAll := jgd (jM3 (List.mem_of_getElem? (i := 153) rfl)) rfl
theorem kml_L_38 : Cond.methodLink RL 38 yX5_setAccepts ∈ jAll := jgd (jM3 (List.mem_of_getElem? (i := 154) rfl)) rfl
theorem kim_X5_setAccepts : Cond.instanceMethod yX5_setAccepts ∈ jAll := jgd (jM3 (List.mem_of_getElem? (i := 155) rfl)) rfl
theorem kse_X5_setAccepts : Cond.selects RX5 yX5_setAccepts yX5_setAccepts ∈ jAll := jgd (jM3 (List.mem_of_getElem? (i := 156) rfl)) rfl
theorem kco_X5_setAccepts : Cond.code yX5_setAccepts cX5_setAccepts 3 (some .boolean) ∈ jAll := jgd (jM3 (List.mem_of_getElem? (i := 157) rfl)) rfl
theorem kml_X5_138 : Cond.methodLink RX5 138 yX4_accept ∈ jAll := jgd (jM3 (List.mem_of_getElem? (i := 158) rfl)) rfl
theorem kim_X4_accept : Cond.instanceMethod yX4_accept ∈ jAll := jgd (jM3 (List.mem_of_getElem? (i := 159) rfl)) rfl
theorem kse_X4_accept : Cond.selects RX4 yX4_accept yX4_accept ∈ jAll := jgd (jM3 (List.mem_of_getElem? (i := 160) rfl)) rfl
theorem kco_X4_accept : Cond.code yX4_accept cX4_accept 3 none ∈ jAll := jgd (jM3 (List.mem_of_getElem? (i := 161) rfl)) rfl
theorem kmn_X4_63 : Cond.methodLinkNest RX4 63 yX5_hasBit "MatchingService" ∈ jNest := jH (jM3 (List.mem_of_getElem? (i := 162) rfl)) rfl
theorem kml_L_119 : Cond.methodLink RL 119 yL_assignedOf ∈ jAll := jgd (jM3 (List.mem_of_getElem? (i := 163) rfl)) rfl
theorem kst_L_assignedOf : Cond.static yL_assignedOf ∈ jAll := jgd (jM3 (List.mem_of_getElem? (i := 164) rfl)) rfl
theorem kco_L_assignedOf : Cond.codeWith yL_assignedOf cL_assignedOf 4 (some .int) [(0, 9, 12, 21)] ∈ jAll := jgd (jM3 (List.mem_of_getElem? (i := 165) rfl)) rfl
theorem kml_L_42 : Cond.methodLink RL 42 yX5_assignedOf ∈ jAll := jgd (jM3 (List.mem_of_getElem? (i := 166) rfl)) rfl
theorem kim_X5_assignedOf : Cond.instanceMethod yX5_assignedOf ∈ jAll := jgd (jM3 (List.mem_of_getElem? (i := 167) rfl)) rfl
theorem kse_X5_assignedOf : Cond.selects RX5 yX5_assignedOf yX5_assignedOf ∈ jAll := jgd (jM3 (List.mem_of_getElem? (i := 168) rfl)) rfl
theorem kco_X5_assignedOf : Cond.code yX5_assignedOf cX5_assignedOf 2 (some .int) ∈ jAll := jgd (jM3 (List.mem_of_getElem? (i := 169) rfl)) rfl
theorem kml_L_122 : Cond.methodLink RL 122 yL_load ∈ jAll := jgd (jM3 (List.mem_of_getElem? (i := 170) rfl)) rfl
theorem kst_L_load : Cond.static yL_load ∈ jAll := jgd (jM3 (List.mem_of_getElem? (i := 171) rfl)) rfl
theorem kco_L_load : Cond.codeWith yL_load cL_load 4 (some .int) [(0, 9, 12, 21)] ∈ jAll := jgd (jM3 (List.mem_of_getElem? (i := 172) rfl)) rfl
theorem kml_L_45 : Cond.methodLink RL 45 yX5_load ∈ jAll := jgd (jM3 (List.mem_of_getElem? (i := 173) rfl)) rfl
theorem kim_X5_load : Cond.instanceMethod yX5_load ∈ jAll := jgd (jM3 (List.mem_of_getElem? (i := 174) rfl)) rfl
theorem kse_X5_load : Cond.selects RX5 yX5_load yX5_load ∈ jAll := jgd (jM3 (List.mem_of_getElem? (i := 175) rfl)) rfl
theorem kco_X5_load : Cond.code yX5_load cX5_load 2 (some .int) ∈ jAll := jgd (jM3 (List.mem_of_getElem? (i := 176) rfl)) rfl
theorem kml_L_125 : Cond.methodLink RL 125 yL_state ∈ jAll := jgd (jM3 (List.mem_of_getElem? (i := 177) rfl)) rfl
theorem kst_L_state : Cond.static yL_state ∈ jAll := jgd (jM3 (List.mem_of_getElem? (i := 178) rfl)) rfl
theorem kco_L_state : Cond.codeWith yL_state cL_state 4 (some .int) [(0, 9, 12, 21)] ∈ jAll := jgd (jM3 (List.mem_of_getElem? (i := 179) rfl)) rfl
theorem kml_L_48 : Cond.methodLink RL 48 yX5_state ∈ jAll := jgd (jM3 (List.mem_of_getElem? (i := 180) rfl)) rfl
theorem kim_X5_state : Cond.instanceMethod yX5_state ∈ jAll := jgd (jM3 (List.mem_of_getElem? (i := 181) rfl)) rfl
theorem kse_X5_state : Cond.selects RX5 yX5_state yX5_state ∈ jAll := jgd (jM3 (List.mem_of_getElem? (i := 182) rfl)) rfl
theorem kco_X5_state : Cond.code yX5_state cX5_state 2 (some .int) ∈ jAll := jgd (jM3 (List.mem_of_getElem? (i := 183) rfl)) rfl
theorem kml_L_128 : Cond.methodLink RL 128 yL_resourceOf ∈ jAll := jgd (jM3 (List.mem_of_getElem? (i := 184) rfl)) rfl
theorem kst_L_resourceOf : Cond.static yL_resourceOf ∈ jAll := jgd (jM3 (List.mem_of_getElem? (i := 185) rfl)) rfl
theorem kco_L_resourceOf : Cond.codeWith yL_resourceOf cL_resourceOf 4 (some .int) [(0, 9, 12, 21), (0, 9, 15, 36)] ∈ jAll := jgd (jM3 (List.mem_of_getElem? (i := 186) rfl)) rfl
theorem kml_L_51 : Cond.methodLink RL 51 yX5_resourceOf ∈ jAll := jgd (jM3 (List.mem_of_getElem? (i := 187) rfl)) rfl
theorem kim_X5_resourceOf : Cond.instanceMethod yX5_resourceOf ∈ jAll := jgd (jM3 (List.mem_of_getElem? (i := 188) rfl)) rfl
theorem kse_X5_resourceOf : Cond.selects RX5 yX5_resourceOf yX5_resourceOf ∈ jAll := jgd (jM3 (List.mem_of_getElem? (i := 189) rfl)) rfl
theorem kco_X5_resourceOf : Cond.code yX5_resourceOf cX5_resourceOf 2 (some .int) ∈ jAll := jgd (jM3 (List.mem_of_getElem? (i := 190) rfl)) rfl
theorem kml_L_131 : Cond.methodLink RL 131 yL_movesOf ∈ jAll := jgd (jM3 (List.mem_of_getElem? (i := 192) rfl)) rfl
theorem kst_L_movesOf : Cond.static yL_movesOf ∈ jAll := jgd (jM3 (List.mem_of_getElem? (i := 193) rfl)) rfl
theorem kco_L_movesOf : Cond.codeWith yL_movesOf cL_movesOf 4 (some .int) [(0, 9, 12, 21)] ∈ jAll := jgd (jM3 (List.mem_of_getElem? (i := 194) rfl)) rfl
theorem kml_L_54 : Cond.methodLink RL 54 yX5_movesOf ∈ jAll := jgd (jM3 (List.mem_of_getElem? (i := 195) rfl)) rfl
theorem kim_X5_movesOf : Cond.instanceMethod yX5_movesOf ∈ jAll := jgd (jM3 (List.mem_of_getElem? (i := 196) rfl)) rfl
theorem kse_X5_movesOf : Cond.selects RX5 yX5_movesOf yX5_movesOf ∈ jAll := jgd (jM3 (List.mem_of_getElem? (i := 197) rfl)) rfl
theorem kco_X5_movesOf : Cond.code yX5_movesOf cX5_movesOf 2 (some .int) ∈ jAll := jgd (jM3 (List.mem_of_getElem? (i := 198) rfl)) rfl
theorem kml_L_138 : Cond.methodLink RL 138 yL_movedRequest ∈ jAll := jgd (jM3 (List.mem_of_getElem? (i := 199) rfl)) rfl
theorem kst_L_movedRequest : Cond.static yL_movedRequest ∈ jAll := jgd (jM3 (List.mem_of_getElem? (i := 200) rfl)) rfl
theorem kco_L_movedRequest : Cond.codeWith yL_movedRequest cL_movedRequest 4 (some .int) [(0, 9, 12, 21)] ∈ jAll := jgd (jM3 (List.mem_of_getElem? (i := 201) rfl)) rfl
theorem kml_L_57 : Cond.methodLink RL 57 yX5_movedRequest ∈ jAll := jgd (jM3 (List.mem_of_getElem? (i := 202) rfl)) rfl
theorem kim_X5_movedRequest : Cond.instanceMethod yX5_movedRequest ∈ jAll := jgd (jM3 (List.mem_of_getElem? (i := 203) rfl)) rfl
theorem kse_X5_movedRequest : Cond.selects RX5 yX5_movedRequest yX5_movedRequest ∈ jAll := jgd (jM3 (List.mem_of_getElem? (i := 204) rfl)) rfl
theorem kco_X5_movedRequest : Cond.code yX5_movedRequest cX5_movedRequest 2 (some .int) ∈ jAll := jgd (jM3 (List.mem_of_getElem? (i := 205) rfl)) rfl
theorem kml_X5_177 : Cond.methodLink RX5 177 yX5_requireLogged ∈ jAll := jgd (jM3 (List.mem_of_getElem? (i := 206) rfl)) rfl
theorem kim_X5_requireLogged : Cond.instanceMethod yX5_requireLogged ∈ jAll := jgd (jM3 (List.mem_of_getElem? (i := 208) rfl)) rfl
theorem kco_X5_requireLogged : Cond.code yX5_requireLogged cX5_requireLogged 2 none ∈ jAll := jgd (jM3 (List.mem_of_getElem? (i := 209) rfl)) rfl
theorem kml_L_141 : Cond.methodLink RL 141 yL_movedTo ∈ jAll := jgd (jM3 (List.mem_of_getElem? (i := 211) rfl)) rfl
theorem kst_L_movedTo : Cond.static yL_movedTo ∈ jAll := jgd (jM3 (List.mem_of_getElem? (i := 212) rfl)) rfl
theorem kco_L_movedTo : Cond.codeWith yL_movedTo cL_movedTo 4 (some .int) [(0, 9, 12, 21)] ∈ jAll := jgd (jM3 (List.mem_of_getElem? (i := 213) rfl)) rfl
theorem kml_L_60 : Cond.methodLink RL 60 yX5_movedTo ∈ jAll := jgd (jM3 (List.mem_of_getElem? (i := 214) rfl)) rfl
theorem kim_X5_movedTo : Cond.instanceMethod yX5_movedTo ∈ jAll := jgd (jM3 (List.mem_of_getElem? (i := 215) rfl)) rfl
theorem kse_X5_movedTo : Cond.selects RX5 yX5_movedTo yX5_movedTo ∈ jAll := jgd (jM3 (List.mem_of_getElem? (i := 216) rfl)) rfl
theorem kco_X5_movedTo : Cond.code yX5_movedTo cX5_movedTo 2 (some .int) ∈ jAll := jgd (jM3 (List.mem_of_getElem? (i := 217) rfl)) rfl
theorem kml_L_144 : Cond.methodLink RL 144 yL_movesNeeded ∈ jAll := jgd (jM3 (List.mem_of_getElem? (i := 218) rfl)) rfl
theorem kst_L_movesNeeded : Cond.static yL_movesNeeded ∈ jAll := jgd (jM3 (List.mem_of_getElem? (i := 219) rfl)) rfl
theorem kco_L_movesNeeded : Cond.codeWith yL_movesNeeded cL_movesNeeded 4 (some .int) [(0, 9, 12, 21), (0, 9, 15, 36)] ∈ jAll := jgd (jM3 (List.mem_of_getElem? (i := 220) rfl)) rfl
theorem kml_L_63 : Cond.methodLink RL 63 yX5_movesNeeded ∈ jAll := jgd (jM3 (List.mem_of_getElem? (i := 221) rfl)) rfl
theorem kim_X5_movesNeeded : Cond.instanceMethod yX5_movesNeeded ∈ jAll := jgd (jM3 (List.mem_of_getElem? (i := 222) rfl)) rfl
theorem kse_X5_movesNeeded : Cond.selects RX5 yX5_movesNeeded yX5_movesNeeded ∈ jAll := jgd (jM3 (List.mem_of_getElem? (i := 223) rfl)) rfl
theorem kco_X5_movesNeeded : Cond.code yX5_movesNeeded cX5_movesNeeded 2 (some .int) ∈ jAll := jgd (jM3 (List.mem_of_getElem? (i := 224) rfl)) rfl
theorem kml_X5_186 : Cond.methodLink RX5 186 yX4_isWaiting ∈ jAll := jgd (jM3 (List.mem_of_getElem? (i := 225) rfl)) rfl
theorem kml_X5_191 : Cond.methodLink RX5 191 yX2_search ∈ jAll := jgd (jM3 (List.mem_of_getElem? (i := 227) rfl)) rfl
theorem kml_L_151 : Cond.methodLink RL 151 yL_gainBy ∈ jAll := jgd (jM3 (List.mem_of_getElem? (i := 228) rfl)) rfl
theorem kst_L_gainBy : Cond.static yL_gainBy ∈ jAll := jgd (jM3 (List.mem_of_getElem? (i := 229) rfl)) rfl
theorem kco_L_gainBy : Cond.codeWith yL_gainBy cL_gainBy 4 (some .int) [(0, 9, 12, 21)] ∈ jAll := jgd (jM3 (List.mem_of_getElem? (i := 230) rfl)) rfl
theorem kml_L_66 : Cond.methodLink RL 66 yX5_gainBy ∈ jAll := jgd (jM3 (List.mem_of_getElem? (i := 231) rfl)) rfl
theorem kim_X5_gainBy : Cond.instanceMethod yX5_gainBy ∈ jAll := jgd (jM3 (List.mem_of_getElem? (i := 232) rfl)) rfl
theorem kse_X5_gainBy : Cond.selects RX5 yX5_gainBy yX5_gainBy ∈ jAll := jgd (jM3 (List.mem_of_getElem? (i := 233) rfl)) rfl
theorem kco_X5_gainBy : Cond.code yX5_gainBy cX5_gainBy 2 (some .int) ∈ jAll := jgd (jM3 (List.mem_of_getElem? (i := 234) rfl)) rfl
theorem kcl_L_70 : Cond.classLink RL 70 RX6 ∈ jAll := jgd (jM3 (List.mem_of_getElem? (i := 235) rfl)) rfl
theorem kin_X6 : Cond.instantiable RX6 20 ∈ jAll := jgd (jM3 (List.mem_of_getElem? (i := 236) rfl)) rfl
theorem kml_L_72 : Cond.methodLink RL 72 yX6_init ∈ jAll := jgd (jM3 (List.mem_of_getElem? (i := 237) rfl)) rfl
theorem kim_X6_init : Cond.instanceMethod yX6_init ∈ jAll := jgd (jM3 (List.mem_of_getElem? (i := 238) rfl)) rfl
theorem kco_X6_init : Cond.code yX6_init cX6_init 1 none ∈ jAll := jgd (jM3 (List.mem_of_getElem? (i := 239) rfl)) rfl
theorem kml_X6_1 : Cond.methodLink RX6 1 objectInit ∈ jAll := jgd (jM4 (List.mem_of_getElem? (i := 0) rfl)) rfl
theorem kfl_X6_60 : Cond.fieldLink RX6 60 "MatchingServiceModel" "thrown" "I" ∈ jAll := jgd (jM4 (List.mem_of_getElem? (i := 1) rfl)) rfl
theorem kfl_X6_63 : Cond.fieldLink RX6 63 "MatchingServiceModel" "resources" "I" ∈ jAll := jgd (jM4 (List.mem_of_getElem? (i := 2) rfl)) rfl
theorem kfl_X6_9 : Cond.fieldLink RX6 9 "MatchingServiceModel" "capacities" "[I" ∈ jAll := jgd (jM4 (List.mem_of_getElem? (i := 3) rfl)) rfl
theorem kfl_X6_13 : Cond.fieldLink RX6 13 "MatchingServiceModel" "quotas" "[I" ∈ jAll := jgd (jM4 (List.mem_of_getElem? (i := 4) rfl)) rfl
theorem kfl_X6_16 : Cond.fieldLink RX6 16 "MatchingServiceModel" "weights" "[I" ∈ jAll := jgd (jM4 (List.mem_of_getElem? (i := 5) rfl)) rfl
theorem kfl_X6_66 : Cond.fieldLink RX6 66 "MatchingServiceModel" "requests" "I" ∈ jAll := jgd (jM4 (List.mem_of_getElem? (i := 6) rfl)) rfl
theorem kfl_X6_19 : Cond.fieldLink RX6 19 "MatchingServiceModel" "groups" "[I" ∈ jAll := jgd (jM4 (List.mem_of_getElem? (i := 7) rfl)) rfl
theorem kfl_X6_22 : Cond.fieldLink RX6 22 "MatchingServiceModel" "masks" "[I" ∈ jAll := jgd (jM4 (List.mem_of_getElem? (i := 8) rfl)) rfl
theorem kfl_X6_25 : Cond.fieldLink RX6 25 "MatchingServiceModel" "states" "[I" ∈ jAll := jgd (jM4 (List.mem_of_getElem? (i := 9) rfl)) rfl
theorem kfl_X6_28 : Cond.fieldLink RX6 28 "MatchingServiceModel" "places" "[I" ∈ jAll := jgd (jM4 (List.mem_of_getElem? (i := 10) rfl)) rfl
theorem kfl_X6_31 : Cond.fieldLink RX6 31 "MatchingServiceModel" "moves" "[I" ∈ jAll := jgd (jM4 (List.mem_of_getElem? (i := 11) rfl)) rfl
theorem kfl_X6_34 : Cond.fieldLink RX6 34 "MatchingServiceModel" "pathLimit" "I" ∈ jAll := jgd (jM4 (List.mem_of_getElem? (i := 12) rfl)) rfl
theorem kfl_X6_38 : Cond.fieldLink RX6 38 "MatchingServiceModel" "moveLimit" "I" ∈ jAll := jgd (jM4 (List.mem_of_getElem? (i := 13) rfl)) rfl
theorem kfl_X6_102 : Cond.fieldLink RX6 102 "MatchingServiceModel" "logged" "I" ∈ jAll := jgd (jM4 (List.mem_of_getElem? (i := 14) rfl)) rfl
theorem kfl_X6_41 : Cond.fieldLink RX6 41 "MatchingServiceModel" "loggedRequests" "[I" ∈ jAll := jgd (jM4 (List.mem_of_getElem? (i := 15) rfl)) rfl
theorem kfl_X6_44 : Cond.fieldLink RX6 44 "MatchingServiceModel" "loggedPlaces" "[I" ∈ jAll := jgd (jM4 (List.mem_of_getElem? (i := 16) rfl)) rfl
theorem kfl_X6_47 : Cond.fieldLink RX6 47 "MatchingServiceModel" "far" "[I" ∈ jAll := jgd (jM4 (List.mem_of_getElem? (i := 17) rfl)) rfl
theorem kfl_X6_50 : Cond.fieldLink RX6 50 "MatchingServiceModel" "isTried" "[Z" ∈ jAll := jgd (jM4 (List.mem_of_getElem? (i := 18) rfl)) rfl
theorem kfl_X6_54 : Cond.fieldLink RX6 54 "MatchingServiceModel" "pathRequests" "[I" ∈ jAll := jgd (jM4 (List.mem_of_getElem? (i := 19) rfl)) rfl
theorem kfl_X6_57 : Cond.fieldLink RX6 57 "MatchingServiceModel" "pathPlaces" "[I" ∈ jAll := jgd (jM4 (List.mem_of_getElem? (i := 20) rfl)) rfl
theorem kml_L_79 : Cond.methodLink RL 79 yX6_thrown ∈ jAll := jgd (jM4 (List.mem_of_getElem? (i := 62) rfl)) rfl
theorem kim_X6_thrown : Cond.instanceMethod yX6_thrown ∈ jAll := jgd (jM4 (List.mem_of_getElem? (i := 63) rfl)) rfl
theorem kse_X6_thrown : Cond.selects RX6 yX6_thrown yX6_thrown ∈ jAll := jgd (jM4 (List.mem_of_getElem? (i := 64) rfl)) rfl
theorem kco_X6_thrown : Cond.code yX6_thrown cX6_thrown 1 (some .int) ∈ jAll := jgd (jM4 (List.mem_of_getElem? (i := 65) rfl)) rfl
theorem kml_L_78 : Cond.methodLink RL 78 yX6_addResource ∈ jAll := jgd (jM4 (List.mem_of_getElem? (i := 66) rfl)) rfl
theorem kim_X6_addResource : Cond.instanceMethod yX6_addResource ∈ jAll := jgd (jM4 (List.mem_of_getElem? (i := 67) rfl)) rfl
theorem kse_X6_addResource : Cond.selects RX6 yX6_addResource yX6_addResource ∈ jAll := jgd (jM4 (List.mem_of_getElem? (i := 68) rfl)) rfl
theorem kco_X6_addResource : Cond.code yX6_addResource cX6_addResource 2 (some .int) ∈ jAll := jgd (jM4 (List.mem_of_getElem? (i := 69) rfl)) rfl
theorem kml_X6_116 : Cond.methodLink RX6 116 yX6_fail ∈ jAll := jgd (jM4 (List.mem_of_getElem? (i := 70) rfl)) rfl
theorem kim_X6_fail : Cond.instanceMethod yX6_fail ∈ jAll := jgd (jM4 (List.mem_of_getElem? (i := 72) rfl)) rfl
theorem kco_X6_fail : Cond.code yX6_fail cX6_fail 2 (some .int) ∈ jAll := jgd (jM4 (List.mem_of_getElem? (i := 73) rfl)) rfl
theorem kml_X6_119 : Cond.methodLink RX6 119 yX6_run ∈ jAll := jgd (jM4 (List.mem_of_getElem? (i := 74) rfl)) rfl
theorem kim_X6_run : Cond.instanceMethod yX6_run ∈ jAll := jgd (jM4 (List.mem_of_getElem? (i := 76) rfl)) rfl
theorem kco_X6_run : Cond.code yX6_run cX6_run 3 (some .int) ∈ jAll := jgd (jM4 (List.mem_of_getElem? (i := 77) rfl)) rfl
theorem kml_X6_105 : Cond.methodLink RX6 105 yX6_next ∈ jAll := jgd (jM4 (List.mem_of_getElem? (i := 78) rfl)) rfl
theorem kim_X6_next : Cond.instanceMethod yX6_next ∈ jAll := jgd (jM4 (List.mem_of_getElem? (i := 80) rfl)) rfl
theorem kco_X6_next : Cond.code yX6_next cX6_next 4 (some .int) ∈ jAll := jgd (jM4 (List.mem_of_getElem? (i := 81) rfl)) rfl
theorem kml_X6_113 : Cond.methodLink RX6 113 yX6_firstIn ∈ jAll := jgd (jM4 (List.mem_of_getElem? (i := 82) rfl)) rfl
theorem kim_X6_firstIn : Cond.instanceMethod yX6_firstIn ∈ jAll := jgd (jM4 (List.mem_of_getElem? (i := 84) rfl)) rfl
theorem kco_X6_firstIn : Cond.code yX6_firstIn cX6_firstIn 3 (some .int) ∈ jAll := jgd (jM4 (List.mem_of_getElem? (i := 85) rfl)) rfl
theorem kml_X6_89 : Cond.methodLink RX6 89 yX6_assignedIn ∈ jAll := jgd (jM4 (List.mem_of_getElem? (i := 86) rfl)) rfl
theorem kim_X6_assignedIn : Cond.instanceMethod yX6_assignedIn ∈ jAll := jgd (jM4 (List.mem_of_getElem? (i := 88) rfl)) rfl
theorem kco_X6_assignedIn : Cond.code yX6_assignedIn cX6_assignedIn 4 (some .int) ∈ jAll := jgd (jM4 (List.mem_of_getElem? (i := 89) rfl)) rfl
theorem kml_X6_109 : Cond.methodLink RX6 109 yX6_isPlaced ∈ jAll := jgd (jM4 (List.mem_of_getElem? (i := 90) rfl)) rfl
theorem kim_X6_isPlaced : Cond.instanceMethod yX6_isPlaced ∈ jAll := jgd (jM4 (List.mem_of_getElem? (i := 92) rfl)) rfl
theorem kco_X6_isPlaced : Cond.code yX6_isPlaced cX6_isPlaced 7 (some .boolean) ∈ jAll := jgd (jM4 (List.mem_of_getElem? (i := 93) rfl)) rfl
theorem kml_X6_92 : Cond.methodLink RX6 92 yX6_firstOf ∈ jAll := jgd (jM4 (List.mem_of_getElem? (i := 94) rfl)) rfl
theorem kim_X6_firstOf : Cond.instanceMethod yX6_firstOf ∈ jAll := jgd (jM4 (List.mem_of_getElem? (i := 96) rfl)) rfl
theorem kco_X6_firstOf : Cond.code yX6_firstOf cX6_firstOf 4 (some .int) ∈ jAll := jgd (jM4 (List.mem_of_getElem? (i := 97) rfl)) rfl
theorem kml_X6_86 : Cond.methodLink RX6 86 yX6_findFar ∈ jAll := jgd (jM4 (List.mem_of_getElem? (i := 98) rfl)) rfl
theorem kim_X6_findFar : Cond.instanceMethod yX6_findFar ∈ jAll := jgd (jM4 (List.mem_of_getElem? (i := 100) rfl)) rfl
theorem kco_X6_findFar : Cond.code yX6_findFar cX6_findFar 4 none ∈ jAll := jgd (jM4 (List.mem_of_getElem? (i := 101) rfl)) rfl
theorem kml_X6_73 : Cond.methodLink RX6 73 yX6_loadOf ∈ jAll := jgd (jM4 (List.mem_of_getElem? (i := 102) rfl)) rfl
theorem kim_X6_loadOf : Cond.instanceMethod yX6_loadOf ∈ jAll := jgd (jM4 (List.mem_of_getElem? (i := 104) rfl)) rfl
theorem kco_X6_loadOf : Cond.code yX6_loadOf cX6_loadOf 4 (some .int) ∈ jAll := jgd (jM4 (List.mem_of_getElem? (i := 105) rfl)) rfl
theorem kml_X6_69 : Cond.methodLink RX6 69 yX6_isAt ∈ jAll := jgd (jM4 (List.mem_of_getElem? (i := 106) rfl)) rfl
theorem kim_X6_isAt : Cond.instanceMethod yX6_isAt ∈ jAll := jgd (jM4 (List.mem_of_getElem? (i := 108) rfl)) rfl
theorem kco_X6_isAt : Cond.code yX6_isAt cX6_isAt 3 (some .boolean) ∈ jAll := jgd (jM4 (List.mem_of_getElem? (i := 109) rfl)) rfl
theorem kml_X6_77 : Cond.methodLink RX6 77 yX6_brings ∈ jAll := jgd (jM4 (List.mem_of_getElem? (i := 110) rfl)) rfl
theorem kim_X6_brings : Cond.instanceMethod yX6_brings ∈ jAll := jgd (jM4 (List.mem_of_getElem? (i := 112) rfl)) rfl
theorem kco_X6_brings : Cond.code yX6_brings cX6_brings 3 (some .boolean) ∈ jAll := jgd (jM4 (List.mem_of_getElem? (i := 113) rfl)) rfl
theorem kml_X6_80 : Cond.methodLink RX6 80 yX6_canMove ∈ jAll := jgd (jM4 (List.mem_of_getElem? (i := 114) rfl)) rfl
theorem kim_X6_canMove : Cond.instanceMethod yX6_canMove ∈ jAll := jgd (jM4 (List.mem_of_getElem? (i := 116) rfl)) rfl
theorem kco_X6_canMove : Cond.code yX6_canMove cX6_canMove 3 (some .boolean) ∈ jAll := jgd (jM4 (List.mem_of_getElem? (i := 117) rfl)) rfl
theorem kml_X6_83 : Cond.methodLink RX6 83 yX6_accepts ∈ jAll := jgd (jM4 (List.mem_of_getElem? (i := 118) rfl)) rfl
theorem kim_X6_accepts : Cond.instanceMethod yX6_accepts ∈ jAll := jgd (jM4 (List.mem_of_getElem? (i := 120) rfl)) rfl
theorem kco_X6_accepts : Cond.code yX6_accepts cX6_accepts 3 (some .boolean) ∈ jAll := jgd (jM4 (List.mem_of_getElem? (i := 121) rfl)) rfl
theorem kml_X6_95 : Cond.methodLink RX6 95 yX6_movedFrom ∈ jAll := jgd (jM4 (List.mem_of_getElem? (i := 122) rfl)) rfl
theorem kim_X6_movedFrom : Cond.instanceMethod yX6_movedFrom ∈ jAll := jgd (jM4 (List.mem_of_getElem? (i := 124) rfl)) rfl
theorem kco_X6_movedFrom : Cond.code yX6_movedFrom cX6_movedFrom 5 (some .int) ∈ jAll := jgd (jM4 (List.mem_of_getElem? (i := 125) rfl)) rfl
theorem kml_X6_98 : Cond.methodLink RX6 98 yX6_log ∈ jAll := jgd (jM4 (List.mem_of_getElem? (i := 126) rfl)) rfl
theorem kim_X6_log : Cond.instanceMethod yX6_log ∈ jAll := jgd (jM4 (List.mem_of_getElem? (i := 128) rfl)) rfl
theorem kco_X6_log : Cond.code yX6_log cX6_log 3 none ∈ jAll := jgd (jM4 (List.mem_of_getElem? (i := 129) rfl)) rfl
theorem kml_L_86 : Cond.methodLink RL 86 yX6_setCapacity ∈ jAll := jgd (jM4 (List.mem_of_getElem? (i := 130) rfl)) rfl
theorem kim_X6_setCapacity : Cond.instanceMethod yX6_setCapacity ∈ jAll := jgd (jM4 (List.mem_of_getElem? (i := 131) rfl)) rfl
theorem kse_X6_setCapacity : Cond.selects RX6 yX6_setCapacity yX6_setCapacity ∈ jAll := jgd (jM4 (List.mem_of_getElem? (i := 132) rfl)) rfl
theorem kco_X6_setCapacity : Cond.code yX6_setCapacity cX6_setCapacity 5 (some .int) ∈ jAll := jgd (jM4 (List.mem_of_getElem? (i := 133) rfl)) rfl
theorem kml_X6_122 : Cond.methodLink RX6 122 yX6_isResource ∈ jAll := jgd (jM4 (List.mem_of_getElem? (i := 134) rfl)) rfl
theorem kim_X6_isResource : Cond.instanceMethod yX6_isResource ∈ jAll := jgd (jM4 (List.mem_of_getElem? (i := 136) rfl)) rfl
theorem kco_X6_isResource : Cond.code yX6_isResource cX6_isResource 2 (some .boolean) ∈ jAll := jgd (jM4 (List.mem_of_getElem? (i := 137) rfl)) rfl
theorem kml_L_90 : Cond.methodLink RL 90 yX6_setGroup ∈ jAll := jgd (jM4 (List.mem_of_getElem? (i := 138) rfl)) rfl
theorem kim_X6_setGroup : Cond.instanceMethod yX6_setGroup ∈ jAll := jgd (jM4 (List.mem_of_getElem? (i := 139) rfl)) rfl
theorem kse_X6_setGroup : Cond.selects RX6 yX6_setGroup yX6_setGroup ∈ jAll := jgd (jM4 (List.mem_of_getElem? (i := 140) rfl)) rfl
theorem kco_X6_setGroup : Cond.code yX6_setGroup cX6_setGroup 6 (some .int) ∈ jAll := jgd (jM4 (List.mem_of_getElem? (i := 141) rfl)) rfl
theorem kml_X6_125 : Cond.methodLink RX6 125 yX6_isGroup ∈ jAll := jgd (jM4 (List.mem_of_getElem? (i := 142) rfl)) rfl
theorem kst_X6_isGroup : Cond.static yX6_isGroup ∈ jAll := jgd (jM4 (List.mem_of_getElem? (i := 143) rfl)) rfl
theorem kco_X6_isGroup : Cond.code yX6_isGroup cX6_isGroup 1 (some .boolean) ∈ jAll := jgd (jM4 (List.mem_of_getElem? (i := 144) rfl)) rfl
theorem kml_L_93 : Cond.methodLink RL 93 yX6_setLimits ∈ jAll := jgd (jM4 (List.mem_of_getElem? (i := 145) rfl)) rfl
theorem kim_X6_setLimits : Cond.instanceMethod yX6_setLimits ∈ jAll := jgd (jM4 (List.mem_of_getElem? (i := 146) rfl)) rfl
theorem kse_X6_setLimits : Cond.selects RX6 yX6_setLimits yX6_setLimits ∈ jAll := jgd (jM4 (List.mem_of_getElem? (i := 147) rfl)) rfl
theorem kco_X6_setLimits : Cond.code yX6_setLimits cX6_setLimits 3 (some .int) ∈ jAll := jgd (jM4 (List.mem_of_getElem? (i := 148) rfl)) rfl
theorem kml_L_96 : Cond.methodLink RL 96 yX6_arrive ∈ jAll := jgd (jM4 (List.mem_of_getElem? (i := 149) rfl)) rfl
theorem kim_X6_arrive : Cond.instanceMethod yX6_arrive ∈ jAll := jgd (jM4 (List.mem_of_getElem? (i := 150) rfl)) rfl
theorem kse_X6_arrive : Cond.selects RX6 yX6_arrive yX6_arrive ∈ jAll := jgd (jM4 (List.mem_of_getElem? (i := 151) rfl)) rfl
theorem kco_X6_arrive : Cond.code yX6_arrive cX6_arrive 4 (some .int) ∈ jAll := jgd (jM4 (List.mem_of_getElem? (i := 152) rfl)) rfl
theorem kml_X6_128 : Cond.methodLink RX6 128 yX6_isMask ∈ jAll := jgd (jM4 (List.mem_of_getElem? (i := 153) rfl)) rfl
theorem kim_X6_isMask : Cond.instanceMethod yX6_isMask ∈ jAll := jgd (jM4 (List.mem_of_getElem? (i := 155) rfl)) rfl
theorem kco_X6_isMask : Cond.code yX6_isMask cX6_isMask 2 (some .boolean) ∈ jAll := jgd (jM4 (List.mem_of_getElem? (i := 156) rfl)) rfl
theorem kml_L_99 : Cond.methodLink RL 99 yX6_depart ∈ jAll := jgd (jM4 (List.mem_of_getElem? (i := 157) rfl)) rfl
theorem kim_X6_depart : Cond.instanceMethod yX6_depart ∈ jAll := jgd (jM4 (List.mem_of_getElem? (i := 158) rfl)) rfl
theorem kse_X6_depart : Cond.selects RX6 yX6_depart yX6_depart ∈ jAll := jgd (jM4 (List.mem_of_getElem? (i := 159) rfl)) rfl
theorem kco_X6_depart : Cond.code yX6_depart cX6_depart 2 (some .int) ∈ jAll := jgd (jM4 (List.mem_of_getElem? (i := 160) rfl)) rfl
theorem kml_X6_131 : Cond.methodLink RX6 131 yX6_isRequest ∈ jAll := jgd (jM4 (List.mem_of_getElem? (i := 161) rfl)) rfl
theorem kim_X6_isRequest : Cond.instanceMethod yX6_isRequest ∈ jAll := jgd (jM4 (List.mem_of_getElem? (i := 163) rfl)) rfl
theorem kco_X6_isRequest : Cond.code yX6_isRequest cX6_isRequest 2 (some .boolean) ∈ jAll := jgd (jM4 (List.mem_of_getElem? (i := 164) rfl)) rfl
theorem kml_L_102 : Cond.methodLink RL 102 yX6_setAccepts ∈ jAll := jgd (jM4 (List.mem_of_getElem? (i := 165) rfl)) rfl
theorem kim_X6_setAccepts : Cond.instanceMethod yX6_setAccepts ∈ jAll := jgd (jM4 (List.mem_of_getElem? (i := 166) rfl)) rfl
theorem kse_X6_setAccepts : Cond.selects RX6 yX6_setAccepts yX6_setAccepts ∈ jAll := jgd (jM4 (List.mem_of_getElem? (i := 167) rfl)) rfl
theorem kco_X6_setAccepts : Cond.code yX6_setAccepts cX6_setAccepts 3 (some .boolean) ∈ jAll := jgd (jM4 (List.mem_of_getElem? (i := 168) rfl)) rfl
theorem kml_L_106 : Cond.methodLink RL 106 yX6_resourceCount ∈ jAll := jgd (jM4 (List.mem_of_getElem? (i := 169) rfl)) rfl
theorem kim_X6_resourceCount : Cond.instanceMethod yX6_resourceCount ∈ jAll := jgd (jM4 (List.mem_of_getElem? (i := 170) rfl)) rfl
theorem kse_X6_resourceCount : Cond.selects RX6 yX6_resourceCount yX6_resourceCount ∈ jAll := jgd (jM4 (List.mem_of_getElem? (i := 171) rfl)) rfl
theorem kco_X6_resourceCount : Cond.code yX6_resourceCount cX6_resourceCount 1 (some .int) ∈ jAll := jgd (jM4 (List.mem_of_getElem? (i := 172) rfl)) rfl
theorem kml_L_110 : Cond.methodLink RL 110 yX6_arrivedCount ∈ jAll := jgd (jM4 (List.mem_of_getElem? (i := 173) rfl)) rfl
theorem kim_X6_arrivedCount : Cond.instanceMethod yX6_arrivedCount ∈ jAll := jgd (jM4 (List.mem_of_getElem? (i := 174) rfl)) rfl
theorem kse_X6_arrivedCount : Cond.selects RX6 yX6_arrivedCount yX6_arrivedCount ∈ jAll := jgd (jM4 (List.mem_of_getElem? (i := 175) rfl)) rfl
theorem kco_X6_arrivedCount : Cond.code yX6_arrivedCount cX6_arrivedCount 1 (some .int) ∈ jAll := jgd (jM4 (List.mem_of_getElem? (i := 176) rfl)) rfl
theorem kml_L_114 : Cond.methodLink RL 114 yX6_assignedCount ∈ jAll := jgd (jM4 (List.mem_of_getElem? (i := 177) rfl)) rfl
theorem kim_X6_assignedCount : Cond.instanceMethod yX6_assignedCount ∈ jAll := jgd (jM4 (List.mem_of_getElem? (i := 178) rfl)) rfl
theorem kse_X6_assignedCount : Cond.selects RX6 yX6_assignedCount yX6_assignedCount ∈ jAll := jgd (jM4 (List.mem_of_getElem? (i := 179) rfl)) rfl
theorem kco_X6_assignedCount : Cond.code yX6_assignedCount cX6_assignedCount 1 (some .int) ∈ jAll := jgd (jM4 (List.mem_of_getElem? (i := 180) rfl)) rfl
theorem kml_X6_134 : Cond.methodLink RX6 134 yX6_countOf ∈ jAll := jgd (jM4 (List.mem_of_getElem? (i := 181) rfl)) rfl
theorem kim_X6_countOf : Cond.instanceMethod yX6_countOf ∈ jAll := jgd (jM4 (List.mem_of_getElem? (i := 183) rfl)) rfl
theorem kco_X6_countOf : Cond.code yX6_countOf cX6_countOf 4 (some .int) ∈ jAll := jgd (jM4 (List.mem_of_getElem? (i := 184) rfl)) rfl
theorem kml_L_118 : Cond.methodLink RL 118 yX6_waitingCount ∈ jAll := jgd (jM4 (List.mem_of_getElem? (i := 185) rfl)) rfl
theorem kim_X6_waitingCount : Cond.instanceMethod yX6_waitingCount ∈ jAll := jgd (jM4 (List.mem_of_getElem? (i := 186) rfl)) rfl
theorem kse_X6_waitingCount : Cond.selects RX6 yX6_waitingCount yX6_waitingCount ∈ jAll := jgd (jM4 (List.mem_of_getElem? (i := 187) rfl)) rfl
theorem kco_X6_waitingCount : Cond.code yX6_waitingCount cX6_waitingCount 1 (some .int) ∈ jAll := jgd (jM4 (List.mem_of_getElem? (i := 188) rfl)) rfl
theorem kml_L_121 : Cond.methodLink RL 121 yX6_assignedOf ∈ jAll := jgd (jM4 (List.mem_of_getElem? (i := 189) rfl)) rfl
theorem kim_X6_assignedOf : Cond.instanceMethod yX6_assignedOf ∈ jAll := jgd (jM4 (List.mem_of_getElem? (i := 190) rfl)) rfl
theorem kse_X6_assignedOf : Cond.selects RX6 yX6_assignedOf yX6_assignedOf ∈ jAll := jgd (jM4 (List.mem_of_getElem? (i := 191) rfl)) rfl
theorem kco_X6_assignedOf : Cond.code yX6_assignedOf cX6_assignedOf 2 (some .int) ∈ jAll := jgd (jM4 (List.mem_of_getElem? (i := 192) rfl)) rfl
theorem kml_L_124 : Cond.methodLink RL 124 yX6_load ∈ jAll := jgd (jM4 (List.mem_of_getElem? (i := 193) rfl)) rfl
theorem kim_X6_load : Cond.instanceMethod yX6_load ∈ jAll := jgd (jM4 (List.mem_of_getElem? (i := 194) rfl)) rfl
theorem kse_X6_load : Cond.selects RX6 yX6_load yX6_load ∈ jAll := jgd (jM4 (List.mem_of_getElem? (i := 195) rfl)) rfl
theorem kco_X6_load : Cond.code yX6_load cX6_load 2 (some .int) ∈ jAll := jgd (jM4 (List.mem_of_getElem? (i := 196) rfl)) rfl
theorem kml_L_127 : Cond.methodLink RL 127 yX6_state ∈ jAll := jgd (jM4 (List.mem_of_getElem? (i := 197) rfl)) rfl
theorem kim_X6_state : Cond.instanceMethod yX6_state ∈ jAll := jgd (jM4 (List.mem_of_getElem? (i := 198) rfl)) rfl
theorem kse_X6_state : Cond.selects RX6 yX6_state yX6_state ∈ jAll := jgd (jM4 (List.mem_of_getElem? (i := 199) rfl)) rfl
theorem kco_X6_state : Cond.code yX6_state cX6_state 2 (some .int) ∈ jAll := jgd (jM4 (List.mem_of_getElem? (i := 200) rfl)) rfl
theorem kml_L_130 : Cond.methodLink RL 130 yX6_resourceOf ∈ jAll := jgd (jM4 (List.mem_of_getElem? (i := 201) rfl)) rfl
theorem kim_X6_resourceOf : Cond.instanceMethod yX6_resourceOf ∈ jAll := jgd (jM4 (List.mem_of_getElem? (i := 202) rfl)) rfl
theorem kse_X6_resourceOf : Cond.selects RX6 yX6_resourceOf yX6_resourceOf ∈ jAll := jgd (jM4 (List.mem_of_getElem? (i := 203) rfl)) rfl
theorem kco_X6_resourceOf : Cond.code yX6_resourceOf cX6_resourceOf 2 (some .int) ∈ jAll := jgd (jM4 (List.mem_of_getElem? (i := 204) rfl)) rfl
theorem kml_L_133 : Cond.methodLink RL 133 yX6_movesOf ∈ jAll := jgd (jM4 (List.mem_of_getElem? (i := 205) rfl)) rfl
theorem kim_X6_movesOf : Cond.instanceMethod yX6_movesOf ∈ jAll := jgd (jM4 (List.mem_of_getElem? (i := 206) rfl)) rfl
theorem kse_X6_movesOf : Cond.selects RX6 yX6_movesOf yX6_movesOf ∈ jAll := jgd (jM4 (List.mem_of_getElem? (i := 207) rfl)) rfl
theorem kco_X6_movesOf : Cond.code yX6_movesOf cX6_movesOf 2 (some .int) ∈ jAll := jgd (jM4 (List.mem_of_getElem? (i := 208) rfl)) rfl
theorem kml_L_137 : Cond.methodLink RL 137 yX6_moveCount ∈ jAll := jgd (jM4 (List.mem_of_getElem? (i := 209) rfl)) rfl
theorem kim_X6_moveCount : Cond.instanceMethod yX6_moveCount ∈ jAll := jgd (jM4 (List.mem_of_getElem? (i := 210) rfl)) rfl
theorem kse_X6_moveCount : Cond.selects RX6 yX6_moveCount yX6_moveCount ∈ jAll := jgd (jM4 (List.mem_of_getElem? (i := 211) rfl)) rfl
theorem kco_X6_moveCount : Cond.code yX6_moveCount cX6_moveCount 1 (some .int) ∈ jAll := jgd (jM4 (List.mem_of_getElem? (i := 212) rfl)) rfl
theorem kml_L_140 : Cond.methodLink RL 140 yX6_movedRequest ∈ jAll := jgd (jM4 (List.mem_of_getElem? (i := 213) rfl)) rfl
theorem kim_X6_movedRequest : Cond.instanceMethod yX6_movedRequest ∈ jAll := jgd (jM4 (List.mem_of_getElem? (i := 214) rfl)) rfl
theorem kse_X6_movedRequest : Cond.selects RX6 yX6_movedRequest yX6_movedRequest ∈ jAll := jgd (jM4 (List.mem_of_getElem? (i := 215) rfl)) rfl
theorem kco_X6_movedRequest : Cond.code yX6_movedRequest cX6_movedRequest 2 (some .int) ∈ jAll := jgd (jM4 (List.mem_of_getElem? (i := 216) rfl)) rfl
theorem kml_L_143 : Cond.methodLink RL 143 yX6_movedTo ∈ jAll := jgd (jM4 (List.mem_of_getElem? (i := 217) rfl)) rfl
theorem kim_X6_movedTo : Cond.instanceMethod yX6_movedTo ∈ jAll := jgd (jM4 (List.mem_of_getElem? (i := 218) rfl)) rfl
theorem kse_X6_movedTo : Cond.selects RX6 yX6_movedTo yX6_movedTo ∈ jAll := jgd (jM4 (List.mem_of_getElem? (i := 219) rfl)) rfl
theorem kco_X6_movedTo : Cond.code yX6_movedTo cX6_movedTo 2 (some .int) ∈ jAll := jgd (jM4 (List.mem_of_getElem? (i := 220) rfl)) rfl
theorem kml_L_146 : Cond.methodLink RL 146 yX6_movesNeeded ∈ jAll := jgd (jM4 (List.mem_of_getElem? (i := 221) rfl)) rfl
theorem kim_X6_movesNeeded : Cond.instanceMethod yX6_movesNeeded ∈ jAll := jgd (jM4 (List.mem_of_getElem? (i := 222) rfl)) rfl
theorem kse_X6_movesNeeded : Cond.selects RX6 yX6_movesNeeded yX6_movesNeeded ∈ jAll := jgd (jM4 (List.mem_of_getElem? (i := 223) rfl)) rfl
theorem kco_X6_movesNeeded : Cond.code yX6_movesNeeded cX6_movesNeeded 3 (some .int) ∈ jAll := jgd (jM4 (List.mem_of_getElem? (i := 224) rfl)) rfl
theorem kml_L_150 : Cond.methodLink RL 150 yX6_greatestPossible ∈ jAll := jgd (jM4 (List.mem_of_getElem? (i := 225) rfl)) rfl
theorem kim_X6_greatestPossible : Cond.instanceMethod yX6_greatestPossible ∈ jAll := jgd (jM4 (List.mem_of_getElem? (i := 226) rfl)) rfl
theorem kse_X6_greatestPossible : Cond.selects RX6 yX6_greatestPossible yX6_greatestPossible ∈ jAll := jgd (jM4 (List.mem_of_getElem? (i := 227) rfl)) rfl
theorem kco_X6_greatestPossible : Cond.code yX6_greatestPossible cX6_greatestPossible 1 (some .int) ∈ jAll := jgd (jM4 (List.mem_of_getElem? (i := 228) rfl)) rfl
theorem kml_X6_143 : Cond.methodLink RX6 143 yX6_possible ∈ jAll := jgd (jM4 (List.mem_of_getElem? (i := 229) rfl)) rfl
theorem kim_X6_possible : Cond.instanceMethod yX6_possible ∈ jAll := jgd (jM4 (List.mem_of_getElem? (i := 231) rfl)) rfl
theorem kco_X6_possible : Cond.code yX6_possible cX6_possible 6 (some .int) ∈ jAll := jgd (jM4 (List.mem_of_getElem? (i := 232) rfl)) rfl
theorem kml_X6_137 : Cond.methodLink RX6 137 yJ9_min_7cf53 ∈ jAll := jgd (jM4 (List.mem_of_getElem? (i := 233) rfl)) rfl
theorem kst_J9_min_7cf53 : Cond.static yJ9_min_7cf53 ∈ jAll := jgd (jM4 (List.mem_of_getElem? (i := 234) rfl)) rfl
theorem kco_J9_min_7cf53 : Cond.code yJ9_min_7cf53 cJ9_min_7cf53 2 (some .int) ∈ jAll := jgd (jM4 (List.mem_of_getElem? (i := 235) rfl)) rfl
theorem kml_L_153 : Cond.methodLink RL 153 yX6_gainBy ∈ jAll := jgd (jM4 (List.mem_of_getElem? (i := 236) rfl)) rfl
theorem kim_X6_gainBy : Cond.instanceMethod yX6_gainBy ∈ jAll := jgd (jM4 (List.mem_of_getElem? (i := 237) rfl)) rfl
theorem kse_X6_gainBy : Cond.selects RX6 yX6_gainBy yX6_gainBy ∈ jAll := jgd (jM4 (List.mem_of_getElem? (i := 238) rfl)) rfl
theorem kco_X6_gainBy : Cond.code yX6_gainBy cX6_gainBy 5 (some .int) ∈ jAll := jgd (jM4 (List.mem_of_getElem? (i := 239) rfl)) rfl
theorem kml_L_158 : Cond.methodLink RL 158 yX6_fairness ∈ jAll := jgd (jM5 (List.mem_of_getElem? (i := 0) rfl)) rfl
theorem kim_X6_fairness : Cond.instanceMethod yX6_fairness ∈ jAll := jgd (jM5 (List.mem_of_getElem? (i := 1) rfl)) rfl
theorem kse_X6_fairness : Cond.selects RX6 yX6_fairness yX6_fairness ∈ jAll := jgd (jM5 (List.mem_of_getElem? (i := 2) rfl)) rfl
theorem kco_X6_fairness : Cond.code yX6_fairness cX6_fairness 8 (some .double) ∈ jAll := jgd (jM5 (List.mem_of_getElem? (i := 3) rfl)) rfl
theorem kcn_X6_146 : Cond.constantDouble RX6 146 (4616189618054758400 : UInt64) ∈ jAll := jgd (jM5 (List.mem_of_getElem? (i := 4) rfl)) rfl
theorem kml_L_163 : Cond.methodLink RL 163 yX6_digest ∈ jAll := jgd (jM5 (List.mem_of_getElem? (i := 5) rfl)) rfl
theorem kim_X6_digest : Cond.instanceMethod yX6_digest ∈ jAll := jgd (jM5 (List.mem_of_getElem? (i := 6) rfl)) rfl
theorem kse_X6_digest : Cond.selects RX6 yX6_digest yX6_digest ∈ jAll := jgd (jM5 (List.mem_of_getElem? (i := 7) rfl)) rfl
theorem kco_X6_digest : Cond.code yX6_digest cX6_digest 4 (some .long) ∈ jAll := jgd (jM5 (List.mem_of_getElem? (i := 8) rfl)) rfl
theorem kcn_X6_148 : Cond.constantLong RX6 148 (1333 : Int64) ∈ jAll := jgd (jM5 (List.mem_of_getElem? (i := 9) rfl)) rfl
theorem kcn_X6_150 : Cond.constantLong RX6 150 (31 : Int64) ∈ jAll := jgd (jM5 (List.mem_of_getElem? (i := 10) rfl)) rfl
theorem kac_long : Cond.arrayClass .long ∈ jAll := jgd (jM5 (List.mem_of_getElem? (i := 11) rfl)) rfl
theorem kse_X0_copyAssignment : Cond.selects RX0 yX0_copyAssignment yX0_copyAssignment ∈ jAll := jgd (jMp (List.mem_of_getElem? (i := 0) rfl)) rfl
theorem kse_X0_startOf : Cond.selects RX0 yX0_startOf yX0_startOf ∈ jAll := jgd (jMp (List.mem_of_getElem? (i := 1) rfl)) rfl
theorem kse_X0_augment : Cond.selects RX0 yX0_augment yX0_augment ∈ jAll := jgd (jMp (List.mem_of_getElem? (i := 2) rfl)) rfl
theorem kse_X0_startAtGroups : Cond.selects RX0 yX0_startAtGroups yX0_startAtGroups ∈ jAll := jgd (jMp (List.mem_of_getElem? (i := 3) rfl)) rfl
theorem kse_X0_reach : Cond.selects RX0 yX0_reach yX0_reach ∈ jAll := jgd (jMp (List.mem_of_getElem? (i := 4) rfl)) rfl
theorem kse_X0_leave : Cond.selects RX0 yX0_leave yX0_leave ∈ jAll := jgd (jMp (List.mem_of_getElem? (i := 5) rfl)) rfl
theorem kse_X0_leaveWith : Cond.selects RX0 yX0_leaveWith yX0_leaveWith ∈ jAll := jgd (jMp (List.mem_of_getElem? (i := 6) rfl)) rfl
theorem kse_X0_shiftAlong : Cond.selects RX0 yX0_shiftAlong yX0_shiftAlong ∈ jAll := jgd (jMp (List.mem_of_getElem? (i := 7) rfl)) rfl
theorem kse_X3_nextToTry : Cond.selects RX3 yX3_nextToTry yX3_nextToTry ∈ jAll := jgd (jMp (List.mem_of_getElem? (i := 9) rfl)) rfl
theorem kse_X3_isServedBefore : Cond.selects RX3 yX3_isServedBefore yX3_isServedBefore ∈ jAll := jgd (jMp (List.mem_of_getElem? (i := 10) rfl)) rfl
theorem kse_X2_collectSuccessors : Cond.selects RX2 yX2_collectSuccessors yX2_collectSuccessors ∈ jAll := jgd (jMp (List.mem_of_getElem? (i := 11) rfl)) rfl
theorem kse_X2_buildLayers : Cond.selects RX2 yX2_buildLayers yX2_buildLayers ∈ jAll := jgd (jMp (List.mem_of_getElem? (i := 12) rfl)) rfl
theorem kse_X2_leadingTo : Cond.selects RX2 yX2_leadingTo yX2_leadingTo ∈ jAll := jgd (jMp (List.mem_of_getElem? (i := 13) rfl)) rfl
theorem kse_X2_shortestFrom : Cond.selects RX2 yX2_shortestFrom yX2_shortestFrom ∈ jAll := jgd (jMp (List.mem_of_getElem? (i := 14) rfl)) rfl
theorem kse_X2_trace : Cond.selects RX2 yX2_trace yX2_trace ∈ jAll := jgd (jMp (List.mem_of_getElem? (i := 15) rfl)) rfl
theorem kse_X2_firstMovable : Cond.selects RX2 yX2_firstMovable yX2_firstMovable ∈ jAll := jgd (jMp (List.mem_of_getElem? (i := 16) rfl)) rfl
theorem kse_X3_placeAlongPath : Cond.selects RX3 yX3_placeAlongPath yX3_placeAlongPath ∈ jAll := jgd (jMp (List.mem_of_getElem? (i := 17) rfl)) rfl
theorem kse_X5_requireResource : Cond.selects RX5 yX5_requireResource yX5_requireResource ∈ jAll := jgd (jMp (List.mem_of_getElem? (i := 18) rfl)) rfl
theorem kse_X5_requireGroup : Cond.selects RX5 yX5_requireGroup yX5_requireGroup ∈ jAll := jgd (jMp (List.mem_of_getElem? (i := 19) rfl)) rfl
theorem kse_X5_requireMask : Cond.selects RX5 yX5_requireMask yX5_requireMask ∈ jAll := jgd (jMp (List.mem_of_getElem? (i := 20) rfl)) rfl
theorem kse_X5_requirePresent : Cond.selects RX5 yX5_requirePresent yX5_requirePresent ∈ jAll := jgd (jMp (List.mem_of_getElem? (i := 21) rfl)) rfl
theorem kse_X5_requireRequest : Cond.selects RX5 yX5_requireRequest yX5_requireRequest ∈ jAll := jgd (jMp (List.mem_of_getElem? (i := 22) rfl)) rfl
theorem kse_X5_requireLogged : Cond.selects RX5 yX5_requireLogged yX5_requireLogged ∈ jAll := jgd (jMp (List.mem_of_getElem? (i := 23) rfl)) rfl
theorem kse_X6_fail : Cond.selects RX6 yX6_fail yX6_fail ∈ jAll := jgd (jMp (List.mem_of_getElem? (i := 24) rfl)) rfl
theorem kse_X6_run : Cond.selects RX6 yX6_run yX6_run ∈ jAll := jgd (jMp (List.mem_of_getElem? (i := 25) rfl)) rfl
theorem kse_X6_next : Cond.selects RX6 yX6_next yX6_next ∈ jAll := jgd (jMp (List.mem_of_getElem? (i := 26) rfl)) rfl
theorem kse_X6_firstIn : Cond.selects RX6 yX6_firstIn yX6_firstIn ∈ jAll := jgd (jMp (List.mem_of_getElem? (i := 27) rfl)) rfl
theorem kse_X6_assignedIn : Cond.selects RX6 yX6_assignedIn yX6_assignedIn ∈ jAll := jgd (jMp (List.mem_of_getElem? (i := 28) rfl)) rfl
theorem kse_X6_isPlaced : Cond.selects RX6 yX6_isPlaced yX6_isPlaced ∈ jAll := jgd (jMp (List.mem_of_getElem? (i := 29) rfl)) rfl
theorem kse_X6_firstOf : Cond.selects RX6 yX6_firstOf yX6_firstOf ∈ jAll := jgd (jMp (List.mem_of_getElem? (i := 30) rfl)) rfl
theorem kse_X6_findFar : Cond.selects RX6 yX6_findFar yX6_findFar ∈ jAll := jgd (jMp (List.mem_of_getElem? (i := 31) rfl)) rfl
theorem kse_X6_loadOf : Cond.selects RX6 yX6_loadOf yX6_loadOf ∈ jAll := jgd (jMp (List.mem_of_getElem? (i := 32) rfl)) rfl
theorem kse_X6_isAt : Cond.selects RX6 yX6_isAt yX6_isAt ∈ jAll := jgd (jMp (List.mem_of_getElem? (i := 33) rfl)) rfl
theorem kse_X6_brings : Cond.selects RX6 yX6_brings yX6_brings ∈ jAll := jgd (jMp (List.mem_of_getElem? (i := 34) rfl)) rfl
theorem kse_X6_canMove : Cond.selects RX6 yX6_canMove yX6_canMove ∈ jAll := jgd (jMp (List.mem_of_getElem? (i := 35) rfl)) rfl
theorem kse_X6_accepts : Cond.selects RX6 yX6_accepts yX6_accepts ∈ jAll := jgd (jMp (List.mem_of_getElem? (i := 36) rfl)) rfl
theorem kse_X6_movedFrom : Cond.selects RX6 yX6_movedFrom yX6_movedFrom ∈ jAll := jgd (jMp (List.mem_of_getElem? (i := 37) rfl)) rfl
theorem kse_X6_log : Cond.selects RX6 yX6_log yX6_log ∈ jAll := jgd (jMp (List.mem_of_getElem? (i := 38) rfl)) rfl
theorem kse_X6_isResource : Cond.selects RX6 yX6_isResource yX6_isResource ∈ jAll := jgd (jMp (List.mem_of_getElem? (i := 39) rfl)) rfl
theorem kse_X6_isMask : Cond.selects RX6 yX6_isMask yX6_isMask ∈ jAll := jgd (jMp (List.mem_of_getElem? (i := 40) rfl)) rfl
theorem kse_X6_isRequest : Cond.selects RX6 yX6_isRequest yX6_isRequest ∈ jAll := jgd (jMp (List.mem_of_getElem? (i := 41) rfl)) rfl
theorem kse_X6_countOf : Cond.selects RX6 yX6_countOf yX6_countOf ∈ jAll := jgd (jMp (List.mem_of_getElem? (i := 42) rfl)) rfl
theorem kse_X6_possible : Cond.selects RX6 yX6_possible yX6_possible ∈ jAll := jgd (jMp (List.mem_of_getElem? (i := 43) rfl)) rfl
theorem jU_X0 : ∀ w ∈ u_ws RX0 TX0 10, w ∈ jAll := by
  intro w h
  obtain ⟨k, hk, rfl⟩ := List.mem_map.mp h
  have hk := List.mem_range.mp hk
  match k, hk with
  | 0, _ => exact jgd (jM1 (List.mem_of_getElem? (i := 183) rfl)) rfl
  | 1, _ => exact jgd (jM1 (List.mem_of_getElem? (i := 185) rfl)) rfl
  | 2, _ => exact jgd (jM1 (List.mem_of_getElem? (i := 187) rfl)) rfl
  | 3, _ => exact jgd (jM1 (List.mem_of_getElem? (i := 189) rfl)) rfl
  | 4, _ => exact jgd (jM1 (List.mem_of_getElem? (i := 191) rfl)) rfl
  | 5, _ => exact jgd (jM1 (List.mem_of_getElem? (i := 193) rfl)) rfl
  | 6, _ => exact jgd (jM1 (List.mem_of_getElem? (i := 195) rfl)) rfl
  | 7, _ => exact jgd (jM1 (List.mem_of_getElem? (i := 197) rfl)) rfl
  | 8, _ => exact jgd (jM1 (List.mem_of_getElem? (i := 199) rfl)) rfl
  | 9, _ => exact jgd (jM1 (List.mem_of_getElem? (i := 201) rfl)) rfl
  | k + 10, hk => exact absurd hk (by omega)
theorem jU_X1 : ∀ w ∈ u_ws RX1 TX1 3, w ∈ jAll := by
  intro w h
  obtain ⟨k, hk, rfl⟩ := List.mem_map.mp h
  have hk := List.mem_range.mp hk
  match k, hk with
  | 0, _ => exact jgd (jM1 (List.mem_of_getElem? (i := 112) rfl)) rfl
  | 1, _ => exact jgd (jM1 (List.mem_of_getElem? (i := 114) rfl)) rfl
  | 2, _ => exact jgd (jM1 (List.mem_of_getElem? (i := 116) rfl)) rfl
  | k + 3, hk => exact absurd hk (by omega)
theorem jU_X2 : ∀ w ∈ u_ws RX2 TX2 6, w ∈ jAll := by
  intro w h
  obtain ⟨k, hk, rfl⟩ := List.mem_map.mp h
  have hk := List.mem_range.mp hk
  match k, hk with
  | 0, _ => exact jgd (jM1 (List.mem_of_getElem? (i := 134) rfl)) rfl
  | 1, _ => exact jgd (jM1 (List.mem_of_getElem? (i := 136) rfl)) rfl
  | 2, _ => exact jgd (jM1 (List.mem_of_getElem? (i := 138) rfl)) rfl
  | 3, _ => exact jgd (jM1 (List.mem_of_getElem? (i := 140) rfl)) rfl
  | 4, _ => exact jgd (jM1 (List.mem_of_getElem? (i := 142) rfl)) rfl
  | 5, _ => exact jgd (jM1 (List.mem_of_getElem? (i := 144) rfl)) rfl
  | k + 6, hk => exact absurd hk (by omega)
theorem jU_X3 : ∀ w ∈ u_ws RX3 TX3 4, w ∈ jAll := by
  intro w h
  obtain ⟨k, hk, rfl⟩ := List.mem_map.mp h
  have hk := List.mem_range.mp hk
  match k, hk with
  | 0, _ => exact jgd (jM1 (List.mem_of_getElem? (i := 157) rfl)) rfl
  | 1, _ => exact jgd (jM1 (List.mem_of_getElem? (i := 159) rfl)) rfl
  | 2, _ => exact jgd (jM1 (List.mem_of_getElem? (i := 161) rfl)) rfl
  | 3, _ => exact jgd (jM1 (List.mem_of_getElem? (i := 163) rfl)) rfl
  | k + 4, hk => exact absurd hk (by omega)
theorem jU_X4 : ∀ w ∈ u_ws RX4 TX4 13, w ∈ jAll := by
  intro w h
  obtain ⟨k, hk, rfl⟩ := List.mem_map.mp h
  have hk := List.mem_range.mp hk
  match k, hk with
  | 0, _ => exact jgd (jM1 (List.mem_of_getElem? (i := 72) rfl)) rfl
  | 1, _ => exact jgd (jM1 (List.mem_of_getElem? (i := 74) rfl)) rfl
  | 2, _ => exact jgd (jM1 (List.mem_of_getElem? (i := 76) rfl)) rfl
  | 3, _ => exact jgd (jM1 (List.mem_of_getElem? (i := 78) rfl)) rfl
  | 4, _ => exact jgd (jM1 (List.mem_of_getElem? (i := 80) rfl)) rfl
  | 5, _ => exact jgd (jM1 (List.mem_of_getElem? (i := 82) rfl)) rfl
  | 6, _ => exact jgd (jM1 (List.mem_of_getElem? (i := 84) rfl)) rfl
  | 7, _ => exact jgd (jM1 (List.mem_of_getElem? (i := 86) rfl)) rfl
  | 8, _ => exact jgd (jM1 (List.mem_of_getElem? (i := 88) rfl)) rfl
  | 9, _ => exact jgd (jM1 (List.mem_of_getElem? (i := 90) rfl)) rfl
  | 10, _ => exact jgd (jM1 (List.mem_of_getElem? (i := 92) rfl)) rfl
  | 11, _ => exact jgd (jM1 (List.mem_of_getElem? (i := 94) rfl)) rfl
  | 12, _ => exact jgd (jM1 (List.mem_of_getElem? (i := 96) rfl)) rfl
  | k + 13, hk => exact absurd hk (by omega)
theorem jU_X5 : ∀ w ∈ u_ws RX5 TX5 5, w ∈ jAll := by
  intro w h
  obtain ⟨k, hk, rfl⟩ := List.mem_map.mp h
  have hk := List.mem_range.mp hk
  match k, hk with
  | 0, _ => exact jgd (jM1 (List.mem_of_getElem? (i := 209) rfl)) rfl
  | 1, _ => exact jgd (jM1 (List.mem_of_getElem? (i := 211) rfl)) rfl
  | 2, _ => exact jgd (jM1 (List.mem_of_getElem? (i := 213) rfl)) rfl
  | 3, _ => exact jgd (jM1 (List.mem_of_getElem? (i := 215) rfl)) rfl
  | 4, _ => exact jgd (jM1 (List.mem_of_getElem? (i := 217) rfl)) rfl
  | k + 5, hk => exact absurd hk (by omega)
theorem jU_X6 : ∀ w ∈ u_ws RX6 TX6 20, w ∈ jAll := by
  intro w h
  obtain ⟨k, hk, rfl⟩ := List.mem_map.mp h
  have hk := List.mem_range.mp hk
  match k, hk with
  | 0, _ => exact jgd (jM4 (List.mem_of_getElem? (i := 21) rfl)) rfl
  | 1, _ => exact jgd (jM4 (List.mem_of_getElem? (i := 23) rfl)) rfl
  | 2, _ => exact jgd (jM4 (List.mem_of_getElem? (i := 25) rfl)) rfl
  | 3, _ => exact jgd (jM4 (List.mem_of_getElem? (i := 27) rfl)) rfl
  | 4, _ => exact jgd (jM4 (List.mem_of_getElem? (i := 29) rfl)) rfl
  | 5, _ => exact jgd (jM4 (List.mem_of_getElem? (i := 31) rfl)) rfl
  | 6, _ => exact jgd (jM4 (List.mem_of_getElem? (i := 33) rfl)) rfl
  | 7, _ => exact jgd (jM4 (List.mem_of_getElem? (i := 35) rfl)) rfl
  | 8, _ => exact jgd (jM4 (List.mem_of_getElem? (i := 37) rfl)) rfl
  | 9, _ => exact jgd (jM4 (List.mem_of_getElem? (i := 39) rfl)) rfl
  | 10, _ => exact jgd (jM4 (List.mem_of_getElem? (i := 41) rfl)) rfl
  | 11, _ => exact jgd (jM4 (List.mem_of_getElem? (i := 43) rfl)) rfl
  | 12, _ => exact jgd (jM4 (List.mem_of_getElem? (i := 45) rfl)) rfl
  | 13, _ => exact jgd (jM4 (List.mem_of_getElem? (i := 47) rfl)) rfl
  | 14, _ => exact jgd (jM4 (List.mem_of_getElem? (i := 49) rfl)) rfl
  | 15, _ => exact jgd (jM4 (List.mem_of_getElem? (i := 51) rfl)) rfl
  | 16, _ => exact jgd (jM4 (List.mem_of_getElem? (i := 53) rfl)) rfl
  | 17, _ => exact jgd (jM4 (List.mem_of_getElem? (i := 55) rfl)) rfl
  | 18, _ => exact jgd (jM4 (List.mem_of_getElem? (i := 57) rfl)) rfl
  | 19, _ => exact jgd (jM4 (List.mem_of_getElem? (i := 59) rfl)) rfl
  | k + 20, hk => exact absurd hk (by omega)
end
section
/-! THE JUDGEMENT JW: from this point of the method (world, pc, locals, stack) the machine comes to Q. Rows turn it instruction by instruction; heaps, written places and locals' arrays are hidden in it. -/
abbrev jG : Type := va_G × (Nat → ClassId)
def jT (G : jG) : List (ClassId × FieldType) := [(G.2 0, .int), (G.2 1, .boolean), (G.2 2, .long)]
abbrev JX : Type := Program × Launch × Env × Room × State × MethodId × Array Value × List Frame × Method × Code × (State → Prop) × (Nat → Prop)
def jl0 : Nat → List (Option Value) → List (Nat × Value)
  | _, [] => []
  | k, some v :: t => (k, v) :: jl0 (k + 1) t
  | k, none :: t => jl0 (k + 1) t
theorem jl0_mem : ∀ (L : List (Option Value)) (k : Nat) (q : Nat × Value), q ∈ jl0 k L ↔ ∃ j, L[j]? = some (some q.2) ∧ q.1 = k + j
  | [], k, q => by simp [jl0]
  | some v :: t, k, q => by
    simp only [jl0, List.mem_cons, jl0_mem t (k + 1) q]
    constructor
    · rintro (rfl | ⟨j, h1, h2⟩)
      · exact ⟨0, rfl, rfl⟩
      · exact ⟨j + 1, by simpa using h1, by omega⟩
    · rintro ⟨j, h1, h2⟩
      cases j with
      | zero =>
        left
        simp at h1
        obtain ⟨a, b⟩ := q
        simp_all
      | succ j => right; exact ⟨j, by simpa using h1, by omega⟩
  | none :: t, k, q => by
    simp only [jl0, jl0_mem t (k + 1) q]
    constructor
    · rintro ⟨j, h1, h2⟩
      exact ⟨j + 1, by simpa using h1, by omega⟩
    · rintro ⟨j, h1, h2⟩
      cases j with
      | zero => simp at h1
      | succ j => exact ⟨j, by simpa using h1, by omega⟩
def JW (G : jG) (X : JX) (k n : Nat) (w : va_W) (pc : Nat) (L : List (Option Value)) (st : List Value) : Prop :=
  match X with
  | (p, l, e, R, s, m, args, below, meth, c, Q, A) => ∀ (H : Heap) (locs : List Loc) (ls : Array Slot), va_P G.1 vwCl w H → va_D A w → va_S A s.heap H locs → lv_has ls L.length (jl0 0 L) → W p l e R s m args below meth c H locs k n Q (F0 m pc ls st)
/-- what stays the same in a method's body -/
def JC (G : jG) (X : JX) (rm : Room) (cc : ByteArray) (own : String) (nL : Nat) : Prop :=
  match X with
  | (p, _l, _e, R, s, m, args, _below, meth, c, _Q, A) => p.tables.exec = Jvm.exec ∧ c.code = cc ∧ c.maxLocals = nL ∧ s.vm.findClass own = some m.cls ∧ (∀ w ∈ jAll, w.before args s = true) ∧ (∀ w ∈ jNest, va_Nw w s) ∧ va_K G.1 vwCl (jT G) s ∧ meth.locks = false ∧ (∀ q : Nat, s.heap.size ≤ q → A q) ∧ R = rm
/-- an int by its number; a boolean; rows of them -/
def iI (z : Int) : Int32 := Int32.ofInt z
def jb (b : Bool) : Int32 := if b then iI 1 else iI 0
def jiI (f : Nat → Int) : Nat → Int32 := fun j => iI (f j)
def jbF (f : Nat → Bool) : Nat → Int32 := fun j => jb (f j)
def updf {α : Type} (f : Nat → α) (k : Nat) (v : α) : Nat → α := fun j => if j = k then v else f j
abbrev jr (a : Int) : Prop := -2147483648 ≤ a ∧ a < 2147483648
theorem iI_add (a b : Int) : iI a + iI b = iI (a + b) := (Int32.ofInt_add a b).symm
theorem iI_sub (a b : Int) : iI a - iI b = iI (a - b) := (Int32.ofInt_sub a b).symm
theorem iI_mul (a b : Int) : iI a * iI b = iI (a * b) := (Int32.ofInt_mul a b).symm
theorem iI_toInt {a : Int} (h : jr a) : (iI a).toInt = a := Int32.toInt_ofInt_of_le (by have := h.1; omega) (by have := h.2; omega)
theorem iI_lt {a b : Int} (ha : jr a) (hb : jr b) : iI a < iI b ↔ a < b := by rw [Int32.lt_iff_toInt_lt, iI_toInt ha, iI_toInt hb]
theorem iI_le {a b : Int} (ha : jr a) (hb : jr b) : iI a ≤ iI b ↔ a ≤ b := by rw [Int32.le_iff_toInt_le, iI_toInt ha, iI_toInt hb]
theorem iI_eq {a b : Int} (ha : jr a) (hb : jr b) : iI a = iI b ↔ a = b := by
  constructor
  · intro h
    have h2 := congrArg Int32.toInt h
    rwa [iI_toInt ha, iI_toInt hb] at h2
  · intro h; rw [h]
theorem iI_0 : (0 : Int32) = iI 0 := rfl
theorem iI_self (x : Int32) : iI x.toInt = x := Int32.ofInt_toInt x
theorem jr_self (x : Int32) : jr x.toInt := ⟨by have := Int32.le_toInt x; omega, by have := Int32.toInt_lt x; omega⟩
theorem iI_in {k n : Nat} (h : k < n) (hn : n < 1000000) : vp_in (iI (k : Int)) n := by
  rw [vp_in_iff, iI_toInt ⟨by omega, by omega⟩]
  omega
theorem iI_clamp {k : Nat} (h : k < 1000000) : (iI (k : Int)).toNatClampNeg = k := by
  show (iI (k : Int)).toInt.toNat = k
  rw [iI_toInt ⟨by omega, by omega⟩]
  omega
theorem jiI_upd (f : Nat → Int) (k : Nat) (v : Int) : upd (jiI f) k (iI v) = jiI (updf f k v) := by
  funext j
  simp only [upd, jiI, updf]
  split <;> rfl
theorem raw_upd (f : Nat → Int32) (k : Nat) (v : Int32) : upd f k v = updf f k v := by
  funext j
  simp only [upd, updf]
theorem jbF_upd (f : Nat → Bool) (k : Nat) (v : Bool) : upd (jbF f) k (vp_nar .boolean (jb v)) = jbF (updf f k v) := by
  have e : vp_nar .boolean (jb v) = jb v := by cases v <;> rfl
  rw [e]
  funext j
  simp only [upd, jbF, updf]
  split <;> rfl
theorem updL_upd (f : Nat → Int64) (k : Nat) (v : Int64) : vp_updL f k v = updf f k v := by
  funext j
  simp only [vp_updL, updf]
def jc1 : Option Value → Bool
  | none => true
  | some v => v.category == 1
theorem jl_store1 {ls : Array Slot} {n i : Nat} {L : List (Option Value)} {v : Value} (hi : i < L.length) (hc : ∀ a, 0 < i → L[i - 1]? = some a → jc1 a = true)
    (h : lv_has ls n ((i, v) :: (jl0 0 L).filter (fun q => !(q.1 == i) && !(q.1 + 1 == i && q.2.category == 2)))) : lv_has ls n (jl0 0 (L.set i (some v))) := by
  refine ⟨h.1, h.2.1, fun q hq => h.2.2 q ?_⟩
  obtain ⟨j, h1, h2⟩ := (jl0_mem _ _ _).mp hq
  rw [Nat.zero_add] at h2
  by_cases hij : j = i
  · subst hij
    rw [List.getElem?_set_self hi] at h1
    simp only [Option.some.injEq] at h1
    obtain ⟨a, b⟩ := q
    simp only at h1 h2
    subst h1; subst h2
    exact List.mem_cons_self
  · rw [List.getElem?_set_ne (Ne.symm hij)] at h1
    refine List.mem_cons_of_mem _ (List.mem_filter.mpr ⟨(jl0_mem _ _ _).mpr ⟨j, h1, by omega⟩, ?_⟩)
    simp only [h2, Bool.and_eq_true, Bool.not_eq_true', beq_eq_false_iff_ne, ne_eq, hij, not_false_eq_true, true_and, Bool.and_eq_false_imp, beq_iff_eq]
    intro h3 h4
    have h5 := hc (some q.2) (by omega) (by rw [← h3]; simpa using h1)
    simp [jc1, h4] at h5
theorem jl_store2 {ls : Array Slot} {n i : Nat} {L : List (Option Value)} {v : Value} (hi : i + 1 < L.length) (hc : ∀ a, 0 < i → L[i - 1]? = some a → jc1 a = true)
    (h : lv_has ls n ((i, v) :: (jl0 0 L).filter (fun q => !(q.1 == i) && (!(q.1 == i + 1) && !(q.1 + 1 == i && q.2.category == 2))))) : lv_has ls n (jl0 0 ((L.set i (some v)).set (i + 1) none)) := by
  refine ⟨h.1, h.2.1, fun q hq => h.2.2 q ?_⟩
  obtain ⟨j, h1, h2⟩ := (jl0_mem _ _ _).mp hq
  rw [Nat.zero_add] at h2
  by_cases hij1 : j = i + 1
  · subst hij1
    rw [List.getElem?_set_self (by rw [List.length_set]; exact hi)] at h1
    cases h1
  · rw [List.getElem?_set_ne (Ne.symm hij1)] at h1
    by_cases hij : j = i
    · subst hij
      rw [List.getElem?_set_self (by omega)] at h1
      simp only [Option.some.injEq] at h1
      obtain ⟨a, b⟩ := q
      simp only at h1 h2
      subst h1; subst h2
      exact List.mem_cons_self
    · rw [List.getElem?_set_ne (Ne.symm hij)] at h1
      refine List.mem_cons_of_mem _ (List.mem_filter.mpr ⟨(jl0_mem _ _ _).mpr ⟨j, h1, by omega⟩, ?_⟩)
      simp only [h2, Bool.and_eq_true, Bool.not_eq_true', beq_eq_false_iff_ne, ne_eq, hij, hij1, not_false_eq_true, true_and, Bool.and_eq_false_imp, beq_iff_eq]
      intro h3 h4
      have h5 := hc (some q.2) (by omega) (by rw [← h3]; simpa using h1)
      simp [jc1, h4] at h5
section JR
variable {G : jG} {X : JX} {k n pc : Nat} {w : va_W} {L : List (Option Value)} {rest : List Value} {rm : Room} {cc : ByteArray} {own : String} {nL : Nat}
theorem jw_iconst {z : Int} (C : JC G X rm cc own nL) (d : decode cc pc = .ok (.iconst z, 1))  (kk : JW G X k n w (pc + 1) L (.int (iI z) :: rest)) : JW G X k n w (pc) L (rest) := by
  obtain ⟨p, l, e, R, s, m, args, below, meth, c, Q, A⟩ := X
  obtain ⟨hx, hb, hml, hown, hts, hnw, hK, hlk, hA, hR⟩ := C
  intro H locs ls hP hD hS hl
  refine lv_iconst (v := iI z) hx hb d rfl ?_
  exact kk H locs ls hP hD hS hl
theorem jw_bipush {z : Int} (C : JC G X rm cc own nL) (d : decode cc pc = .ok (.bipush z, 2)) (hz : (Int8.ofInt z).toInt32 = iI z) (kk : JW G X k n w (pc + 2) L (.int (iI z) :: rest)) : JW G X k n w (pc) L (rest) := by
  obtain ⟨p, l, e, R, s, m, args, below, meth, c, Q, A⟩ := X
  obtain ⟨hx, hb, hml, hown, hts, hnw, hK, hlk, hA, hR⟩ := C
  intro H locs ls hP hD hS hl
  refine lv_bipush (v := iI z) hx hb d hz ?_
  exact kk H locs ls hP hD hS hl
theorem jw_sipush {z : Int} (C : JC G X rm cc own nL) (d : decode cc pc = .ok (.sipush z, 3)) (hz : (Int16.ofInt z).toInt32 = iI z) (kk : JW G X k n w (pc + 3) L (.int (iI z) :: rest)) : JW G X k n w (pc) L (rest) := by
  obtain ⟨p, l, e, R, s, m, args, below, meth, c, Q, A⟩ := X
  obtain ⟨hx, hb, hml, hown, hts, hnw, hK, hlk, hA, hR⟩ := C
  intro H locs ls hP hD hS hl
  refine lv_sipush (v := iI z) hx hb d hz ?_
  exact kk H locs ls hP hD hS hl
theorem jw_lconst {z : Fin 2} (C : JC G X rm cc own nL) (d : decode cc pc = .ok (.lconst z, 1))  (kk : JW G X k n w (pc + 1) L (.long (Int64.ofNat (z : Nat)) :: rest)) : JW G X k n w (pc) L (rest) := by
  obtain ⟨p, l, e, R, s, m, args, below, meth, c, Q, A⟩ := X
  obtain ⟨hx, hb, hml, hown, hts, hnw, hK, hlk, hA, hR⟩ := C
  intro H locs ls hP hD hS hl
  refine lv_lconst hx hb d rfl ?_
  exact kk H locs ls hP hD hS hl
theorem jw_dconst0  (C : JC G X rm cc own nL) (d : decode cc pc = .ok (.dconst 0, 1))  (kk : JW G X k n w (pc + 1) L (.double FP.dconst0 :: rest)) : JW G X k n w (pc) L (rest) := by
  obtain ⟨p, l, e, R, s, m, args, below, meth, c, Q, A⟩ := X
  obtain ⟨hx, hb, hml, hown, hts, hnw, hK, hlk, hA, hR⟩ := C
  intro H locs ls hP hD hS hl
  refine lv_dconst0 hx hb d ?_
  exact kk H locs ls hP hD hS hl
theorem jw_dconst1  (C : JC G X rm cc own nL) (d : decode cc pc = .ok (.dconst 1, 1))  (kk : JW G X k n w (pc + 1) L (.double FP.dconst1 :: rest)) : JW G X k n w (pc) L (rest) := by
  obtain ⟨p, l, e, R, s, m, args, below, meth, c, Q, A⟩ := X
  obtain ⟨hx, hb, hml, hown, hts, hnw, hK, hlk, hA, hR⟩ := C
  intro H locs ls hP hD hS hl
  refine lv_dconst1 hx hb d ?_
  exact kk H locs ls hP hD hS hl
theorem jw_iadd {a b : Int} (C : JC G X rm cc own nL) (d : decode cc pc = .ok (.iadd, 1))  (kk : JW G X k n w (pc + 1) L (.int (iI (a + b)) :: rest)) : JW G X k n w (pc) L (.int (iI b) :: .int (iI a) :: rest) := by
  obtain ⟨p, l, e, R, s, m, args, below, meth, c, Q, A⟩ := X
  obtain ⟨hx, hb, hml, hown, hts, hnw, hK, hlk, hA, hR⟩ := C
  intro H locs ls hP hD hS hl
  refine lv_iadd hx hb d ?_
  rw [iI_add]
  exact kk H locs ls hP hD hS hl
theorem jw_isub {a b : Int} (C : JC G X rm cc own nL) (d : decode cc pc = .ok (.isub, 1))  (kk : JW G X k n w (pc + 1) L (.int (iI (a - b)) :: rest)) : JW G X k n w (pc) L (.int (iI b) :: .int (iI a) :: rest) := by
  obtain ⟨p, l, e, R, s, m, args, below, meth, c, Q, A⟩ := X
  obtain ⟨hx, hb, hml, hown, hts, hnw, hK, hlk, hA, hR⟩ := C
  intro H locs ls hP hD hS hl
  refine lv_isub hx hb d ?_
  rw [iI_sub]
  exact kk H locs ls hP hD hS hl
theorem jw_imul {a b : Int} (C : JC G X rm cc own nL) (d : decode cc pc = .ok (.imul, 1))  (kk : JW G X k n w (pc + 1) L (.int (iI (a * b)) :: rest)) : JW G X k n w (pc) L (.int (iI b) :: .int (iI a) :: rest) := by
  obtain ⟨p, l, e, R, s, m, args, below, meth, c, Q, A⟩ := X
  obtain ⟨hx, hb, hml, hown, hts, hnw, hK, hlk, hA, hR⟩ := C
  intro H locs ls hP hD hS hl
  refine lv_imul hx hb d ?_
  rw [iI_mul]
  exact kk H locs ls hP hD hS hl
theorem jw_iand {x y : Int32} (C : JC G X rm cc own nL) (d : decode cc pc = .ok (.iand, 1))  (kk : JW G X k n w (pc + 1) L (.int (x &&& y) :: rest)) : JW G X k n w (pc) L (.int y :: .int x :: rest) := by
  obtain ⟨p, l, e, R, s, m, args, below, meth, c, Q, A⟩ := X
  obtain ⟨hx, hb, hml, hown, hts, hnw, hK, hlk, hA, hR⟩ := C
  intro H locs ls hP hD hS hl
  refine lv_iand hx hb d ?_
  exact kk H locs ls hP hD hS hl
theorem jw_ior {x y : Int32} (C : JC G X rm cc own nL) (d : decode cc pc = .ok (.ior, 1))  (kk : JW G X k n w (pc + 1) L (.int (x ||| y) :: rest)) : JW G X k n w (pc) L (.int y :: .int x :: rest) := by
  obtain ⟨p, l, e, R, s, m, args, below, meth, c, Q, A⟩ := X
  obtain ⟨hx, hb, hml, hown, hts, hnw, hK, hlk, hA, hR⟩ := C
  intro H locs ls hP hD hS hl
  refine lv_ior hx hb d ?_
  exact kk H locs ls hP hD hS hl
theorem jw_ixor {x y : Int32} (C : JC G X rm cc own nL) (d : decode cc pc = .ok (.ixor, 1))  (kk : JW G X k n w (pc + 1) L (.int (x ^^^ y) :: rest)) : JW G X k n w (pc) L (.int y :: .int x :: rest) := by
  obtain ⟨p, l, e, R, s, m, args, below, meth, c, Q, A⟩ := X
  obtain ⟨hx, hb, hml, hown, hts, hnw, hK, hlk, hA, hR⟩ := C
  intro H locs ls hP hD hS hl
  refine lv_ixor hx hb d ?_
  exact kk H locs ls hP hD hS hl
theorem jw_ishl {x y : Int32} (C : JC G X rm cc own nL) (d : decode cc pc = .ok (.ishl, 1))  (kk : JW G X k n w (pc + 1) L (.int (x <<< (y &&& 31)) :: rest)) : JW G X k n w (pc) L (.int y :: .int x :: rest) := by
  obtain ⟨p, l, e, R, s, m, args, below, meth, c, Q, A⟩ := X
  obtain ⟨hx, hb, hml, hown, hts, hnw, hK, hlk, hA, hR⟩ := C
  intro H locs ls hP hD hS hl
  refine lv_ishl hx hb d ?_
  exact kk H locs ls hP hD hS hl
theorem jw_ishr {x y : Int32} (C : JC G X rm cc own nL) (d : decode cc pc = .ok (.ishr, 1))  (kk : JW G X k n w (pc + 1) L (.int (x >>> (y &&& 31)) :: rest)) : JW G X k n w (pc) L (.int y :: .int x :: rest) := by
  obtain ⟨p, l, e, R, s, m, args, below, meth, c, Q, A⟩ := X
  obtain ⟨hx, hb, hml, hown, hts, hnw, hK, hlk, hA, hR⟩ := C
  intro H locs ls hP hD hS hl
  refine lv_ishr hx hb d ?_
  exact kk H locs ls hP hD hS hl
theorem jw_ladd {x y : Int64} (C : JC G X rm cc own nL) (d : decode cc pc = .ok (.ladd, 1))  (kk : JW G X k n w (pc + 1) L (.long (x + y) :: rest)) : JW G X k n w (pc) L (.long y :: .long x :: rest) := by
  obtain ⟨p, l, e, R, s, m, args, below, meth, c, Q, A⟩ := X
  obtain ⟨hx, hb, hml, hown, hts, hnw, hK, hlk, hA, hR⟩ := C
  intro H locs ls hP hD hS hl
  refine lv_ladd hx hb d ?_
  exact kk H locs ls hP hD hS hl
theorem jw_lmul {x y : Int64} (C : JC G X rm cc own nL) (d : decode cc pc = .ok (.lmul, 1))  (kk : JW G X k n w (pc + 1) L (.long (x * y) :: rest)) : JW G X k n w (pc) L (.long y :: .long x :: rest) := by
  obtain ⟨p, l, e, R, s, m, args, below, meth, c, Q, A⟩ := X
  obtain ⟨hx, hb, hml, hown, hts, hnw, hK, hlk, hA, hR⟩ := C
  intro H locs ls hP hD hS hl
  refine lv_lmul hx hb d ?_
  exact kk H locs ls hP hD hS hl
theorem jw_lsub {x y : Int64} (C : JC G X rm cc own nL) (d : decode cc pc = .ok (.lsub, 1))  (kk : JW G X k n w (pc + 1) L (.long (x - y) :: rest)) : JW G X k n w (pc) L (.long y :: .long x :: rest) := by
  obtain ⟨p, l, e, R, s, m, args, below, meth, c, Q, A⟩ := X
  obtain ⟨hx, hb, hml, hown, hts, hnw, hK, hlk, hA, hR⟩ := C
  intro H locs ls hP hD hS hl
  refine lv_lsub hx hb d ?_
  exact kk H locs ls hP hD hS hl
theorem jw_i2l {x : Int32} (C : JC G X rm cc own nL) (d : decode cc pc = .ok (.i2l, 1))  (kk : JW G X k n w (pc + 1) L (.long x.toInt64 :: rest)) : JW G X k n w (pc) L (.int x :: rest) := by
  obtain ⟨p, l, e, R, s, m, args, below, meth, c, Q, A⟩ := X
  obtain ⟨hx, hb, hml, hown, hts, hnw, hK, hlk, hA, hR⟩ := C
  intro H locs ls hP hD hS hl
  refine lv_i2l hx hb d rfl ?_
  exact kk H locs ls hP hD hS hl
theorem jw_i2d {x : Int32} (C : JC G X rm cc own nL) (d : decode cc pc = .ok (.i2d, 1))  (kk : JW G X k n w (pc + 1) L (.double (FP.i2d x) :: rest)) : JW G X k n w (pc) L (.int x :: rest) := by
  obtain ⟨p, l, e, R, s, m, args, below, meth, c, Q, A⟩ := X
  obtain ⟨hx, hb, hml, hown, hts, hnw, hK, hlk, hA, hR⟩ := C
  intro H locs ls hP hD hS hl
  refine lv_i2d hx hb d ?_
  exact kk H locs ls hP hD hS hl
theorem jw_dadd {x y : UInt64} (C : JC G X rm cc own nL) (d : decode cc pc = .ok (.dadd, 1)) (hne : vf_n64 (FP.dadd x y)) (kk : JW G X k n w (pc + 1) L (.double (FP.dadd x y) :: rest)) : JW G X k n w (pc) L (.double y :: .double x :: rest) := by
  obtain ⟨p, l, e, R, s, m, args, below, meth, c, Q, A⟩ := X
  obtain ⟨hx, hb, hml, hown, hts, hnw, hK, hlk, hA, hR⟩ := C
  intro H locs ls hP hD hS hl
  refine lv_dadd hx hb d hne ?_
  exact kk H locs ls hP hD hS hl
theorem jw_dmul {x y : UInt64} (C : JC G X rm cc own nL) (d : decode cc pc = .ok (.dmul, 1)) (hne : vf_n64 (FP.dmul x y)) (kk : JW G X k n w (pc + 1) L (.double (FP.dmul x y) :: rest)) : JW G X k n w (pc) L (.double y :: .double x :: rest) := by
  obtain ⟨p, l, e, R, s, m, args, below, meth, c, Q, A⟩ := X
  obtain ⟨hx, hb, hml, hown, hts, hnw, hK, hlk, hA, hR⟩ := C
  intro H locs ls hP hD hS hl
  refine lv_dmul hx hb d hne ?_
  exact kk H locs ls hP hD hS hl
theorem jw_ddiv {x y : UInt64} (C : JC G X rm cc own nL) (d : decode cc pc = .ok (.ddiv, 1)) (hne : vf_n64 (FP.ddiv x y)) (kk : JW G X k n w (pc + 1) L (.double (FP.ddiv x y) :: rest)) : JW G X k n w (pc) L (.double y :: .double x :: rest) := by
  obtain ⟨p, l, e, R, s, m, args, below, meth, c, Q, A⟩ := X
  obtain ⟨hx, hb, hml, hown, hts, hnw, hK, hlk, hA, hR⟩ := C
  intro H locs ls hP hD hS hl
  refine lv_ddiv hx hb d hne ?_
  exact kk H locs ls hP hD hS hl
theorem jw_dcmp {x y : UInt64} {op : CmpOp} (C : JC G X rm cc own nL) (d : decode cc pc = .ok (.dcmp op, 1))  (kk : JW G X k n w (pc + 1) L (.int (Op.cmpValue (FP.dcmp x y) op) :: rest)) : JW G X k n w (pc) L (.double y :: .double x :: rest) := by
  obtain ⟨p, l, e, R, s, m, args, below, meth, c, Q, A⟩ := X
  obtain ⟨hx, hb, hml, hown, hts, hnw, hK, hlk, hA, hR⟩ := C
  intro H locs ls hP hD hS hl
  refine lv_dcmp hx hb d ?_
  exact kk H locs ls hP hD hS hl
theorem jw_lcmp {x y : Int64} (C : JC G X rm cc own nL) (d : decode cc pc = .ok (.lcmp, 1))  (kk : JW G X k n w (pc + 1) L (.int (lg_cmp x y) :: rest)) : JW G X k n w (pc) L (.long y :: .long x :: rest) := by
  obtain ⟨p, l, e, R, s, m, args, below, meth, c, Q, A⟩ := X
  obtain ⟨hx, hb, hml, hown, hts, hnw, hK, hlk, hA, hR⟩ := C
  intro H locs ls hP hD hS hl
  refine W.lcmp hx hb d ?_
  exact kk H locs ls hP hD hS hl
theorem jw_dup {v : Value} (C : JC G X rm cc own nL) (d : decode cc pc = .ok (.dup, 1)) (hv : v.category = 1) (kk : JW G X k n w (pc + 1) L (v :: v :: rest)) : JW G X k n w (pc) L (v :: rest) := by
  obtain ⟨p, l, e, R, s, m, args, below, meth, c, Q, A⟩ := X
  obtain ⟨hx, hb, hml, hown, hts, hnw, hK, hlk, hA, hR⟩ := C
  intro H locs ls hP hD hS hl
  refine lv_dup hx hb d hv ?_
  exact kk H locs ls hP hD hS hl
theorem jw_pop {v : Value} (C : JC G X rm cc own nL) (d : decode cc pc = .ok (.pop, 1)) (hv : v.category = 1) (kk : JW G X k n w (pc + 1) L (rest)) : JW G X k n w (pc) L (v :: rest) := by
  obtain ⟨p, l, e, R, s, m, args, below, meth, c, Q, A⟩ := X
  obtain ⟨hx, hb, hml, hown, hts, hnw, hK, hlk, hA, hR⟩ := C
  intro H locs ls hP hD hS hl
  refine lv_pop hx hb d hv ?_
  exact kk H locs ls hP hD hS hl
theorem jw_dup2 {v u : Value} (C : JC G X rm cc own nL) (d : decode cc pc = .ok (.dup2, 1)) (hv : v.category = 1) (hu : u.category = 1) (kk : JW G X k n w (pc + 1) L (v :: u :: v :: u :: rest)) : JW G X k n w (pc) L (v :: u :: rest) := by
  obtain ⟨p, l, e, R, s, m, args, below, meth, c, Q, A⟩ := X
  obtain ⟨hx, hb, hml, hown, hts, hnw, hK, hlk, hA, hR⟩ := C
  intro H locs ls hP hD hS hl
  refine lv_dup2_11 hx hb d hv hu ?_
  exact kk H locs ls hP hD hS hl
theorem jw_dup_x1 {v u : Value} (C : JC G X rm cc own nL) (d : decode cc pc = .ok (.dup_x1, 1)) (hv : v.category = 1) (hu : u.category = 1) (kk : JW G X k n w (pc + 1) L (v :: u :: v :: rest)) : JW G X k n w (pc) L (v :: u :: rest) := by
  obtain ⟨p, l, e, R, s, m, args, below, meth, c, Q, A⟩ := X
  obtain ⟨hx, hb, hml, hown, hts, hnw, hK, hlk, hA, hR⟩ := C
  intro H locs ls hP hD hS hl
  refine lv_dup_x1 hx hb d hv hu ?_
  exact kk H locs ls hP hD hS hl
theorem jw_ldc2d {idx : Nat} {v : UInt64} (C : JC G X rm cc own nL) (hw : Cond.constantDouble own idx v ∈ jAll) (d : decode cc pc = .ok (.ldc2_w idx, 3)) (kk : JW G X k n w (pc + 3) L (.double v :: rest)) : JW G X k n w (pc) L (rest) := by
  obtain ⟨p, l, e, R, s, m, args, below, meth, c, Q, A⟩ := X
  obtain ⟨hx, hb, hml, hown, hts, hnw, hK, hlk, hA, hR⟩ := C
  intro H locs ls hP hD hS hl
  refine lv_ldc2d hx hb hown (hts _ hw) d ?_
  exact kk H locs ls hP hD hS hl
theorem jw_ldc2l {idx : Nat} {v : Int64} (C : JC G X rm cc own nL) (hw : Cond.constantLong own idx v ∈ jAll) (d : decode cc pc = .ok (.ldc2_w idx, 3)) (kk : JW G X k n w (pc + 3) L (.long v :: rest)) : JW G X k n w (pc) L (rest) := by
  obtain ⟨p, l, e, R, s, m, args, below, meth, c, Q, A⟩ := X
  obtain ⟨hx, hb, hml, hown, hts, hnw, hK, hlk, hA, hR⟩ := C
  intro H locs ls hP hD hS hl
  refine lv_ldc2 hx hb hown (hts _ hw) d ?_
  exact kk H locs ls hP hD hS hl
theorem jw_goto {off : Int} {tgt : Nat} (C : JC G X rm cc own nL) (d : decode cc pc = .ok (.goto off, 3)) (ht : (pc : Int) + off = (tgt : Int)) (kk : JW G X k n w (tgt) L (rest)) : JW G X k n w (pc) L (rest) := by
  obtain ⟨p, l, e, R, s, m, args, below, meth, c, Q, A⟩ := X
  obtain ⟨hx, hb, hml, hown, hts, hnw, hK, hlk, hA, hR⟩ := C
  intro H locs ls hP hD hS hl
  refine lv_goto hx hb d ht ?_
  exact kk H locs ls hP hD hS hl
theorem jw_icmp_lt {a b : Int} {off : Int} {tgt : Nat} (C : JC G X rm cc own nL) (d : decode cc pc = .ok (.if_icmp .lt off, 3)) (ht : (pc : Int) + off = (tgt : Int)) (ra : jr a) (rb : jr b) (kt : a < b → JW G X k n w (tgt) L (rest)) (kf : ¬ (a < b) → JW G X k n w (pc + 3) L (rest)) : JW G X k n w (pc) L (.int (iI b) :: .int (iI a) :: rest) := by
  obtain ⟨p, l, e, R, s, m, args, below, meth, c, Q, A⟩ := X
  obtain ⟨hx, hb, hml, hown, hts, hnw, hK, hlk, hA, hR⟩ := C
  intro H locs ls hP hD hS hl
  refine lv_icmp_lt hx hb d ht (fun h => ?_) (fun h => ?_)
  · exact kt ((iI_lt ra rb).mp h) H locs ls hP hD hS hl
  · exact kf (fun e => h ((iI_lt ra rb).mpr e)) H locs ls hP hD hS hl
theorem jw_if_lt {a : Int} {off : Int} {tgt : Nat} (C : JC G X rm cc own nL) (d : decode cc pc = .ok (.ifCond .lt off, 3)) (ht : (pc : Int) + off = (tgt : Int)) (ra : jr a) (kt : a < 0 → JW G X k n w (tgt) L (rest)) (kf : ¬ (a < 0) → JW G X k n w (pc + 3) L (rest)) : JW G X k n w (pc) L (.int (iI a) :: rest) := by
  obtain ⟨p, l, e, R, s, m, args, below, meth, c, Q, A⟩ := X
  obtain ⟨hx, hb, hml, hown, hts, hnw, hK, hlk, hA, hR⟩ := C
  intro H locs ls hP hD hS hl
  refine lv_if_lt hx hb d ht (fun h => ?_) (fun h => ?_)
  · exact kt ((iI_lt ra ⟨by decide, by decide⟩).mp h) H locs ls hP hD hS hl
  · exact kf (fun e => h ((iI_lt ra ⟨by decide, by decide⟩).mpr e)) H locs ls hP hD hS hl
theorem jw_if_lt_r {x : Int32} {off : Int} {tgt : Nat} (C : JC G X rm cc own nL) (d : decode cc pc = .ok (.ifCond .lt off, 3)) (ht : (pc : Int) + off = (tgt : Int)) (kt : x < 0 → JW G X k n w (tgt) L (rest)) (kf : ¬ (x < 0) → JW G X k n w (pc + 3) L (rest)) : JW G X k n w (pc) L (.int x :: rest) := by
  obtain ⟨p, l, e, R, s, m, args, below, meth, c, Q, A⟩ := X
  obtain ⟨hx, hb, hml, hown, hts, hnw, hK, hlk, hA, hR⟩ := C
  intro H locs ls hP hD hS hl
  refine lv_if_lt hx hb d ht (fun h => ?_) (fun h => ?_)
  · exact kt h H locs ls hP hD hS hl
  · exact kf h H locs ls hP hD hS hl
theorem jw_icmp_lt_r {x y : Int32} {off : Int} {tgt : Nat} (C : JC G X rm cc own nL) (d : decode cc pc = .ok (.if_icmp .lt off, 3)) (ht : (pc : Int) + off = (tgt : Int)) (kt : x < y → JW G X k n w (tgt) L (rest)) (kf : ¬ (x < y) → JW G X k n w (pc + 3) L (rest)) : JW G X k n w (pc) L (.int y :: .int x :: rest) := by
  obtain ⟨p, l, e, R, s, m, args, below, meth, c, Q, A⟩ := X
  obtain ⟨hx, hb, hml, hown, hts, hnw, hK, hlk, hA, hR⟩ := C
  intro H locs ls hP hD hS hl
  refine lv_icmp_lt hx hb d ht (fun h => ?_) (fun h => ?_)
  · exact kt h H locs ls hP hD hS hl
  · exact kf h H locs ls hP hD hS hl
theorem jw_icmp_ge {a b : Int} {off : Int} {tgt : Nat} (C : JC G X rm cc own nL) (d : decode cc pc = .ok (.if_icmp .ge off, 3)) (ht : (pc : Int) + off = (tgt : Int)) (ra : jr a) (rb : jr b) (kt : b ≤ a → JW G X k n w (tgt) L (rest)) (kf : ¬ (b ≤ a) → JW G X k n w (pc + 3) L (rest)) : JW G X k n w (pc) L (.int (iI b) :: .int (iI a) :: rest) := by
  obtain ⟨p, l, e, R, s, m, args, below, meth, c, Q, A⟩ := X
  obtain ⟨hx, hb, hml, hown, hts, hnw, hK, hlk, hA, hR⟩ := C
  intro H locs ls hP hD hS hl
  refine lv_icmp_ge hx hb d ht (fun h => ?_) (fun h => ?_)
  · exact kt ((iI_le rb ra).mp h) H locs ls hP hD hS hl
  · exact kf (fun e => h ((iI_le rb ra).mpr e)) H locs ls hP hD hS hl
theorem jw_if_ge {a : Int} {off : Int} {tgt : Nat} (C : JC G X rm cc own nL) (d : decode cc pc = .ok (.ifCond .ge off, 3)) (ht : (pc : Int) + off = (tgt : Int)) (ra : jr a) (kt : 0 ≤ a → JW G X k n w (tgt) L (rest)) (kf : ¬ (0 ≤ a) → JW G X k n w (pc + 3) L (rest)) : JW G X k n w (pc) L (.int (iI a) :: rest) := by
  obtain ⟨p, l, e, R, s, m, args, below, meth, c, Q, A⟩ := X
  obtain ⟨hx, hb, hml, hown, hts, hnw, hK, hlk, hA, hR⟩ := C
  intro H locs ls hP hD hS hl
  refine lv_if_ge hx hb d ht (fun h => ?_) (fun h => ?_)
  · exact kt ((iI_le ⟨by decide, by decide⟩ ra).mp h) H locs ls hP hD hS hl
  · exact kf (fun e => h ((iI_le ⟨by decide, by decide⟩ ra).mpr e)) H locs ls hP hD hS hl
theorem jw_if_ge_r {x : Int32} {off : Int} {tgt : Nat} (C : JC G X rm cc own nL) (d : decode cc pc = .ok (.ifCond .ge off, 3)) (ht : (pc : Int) + off = (tgt : Int)) (kt : 0 ≤ x → JW G X k n w (tgt) L (rest)) (kf : ¬ (0 ≤ x) → JW G X k n w (pc + 3) L (rest)) : JW G X k n w (pc) L (.int x :: rest) := by
  obtain ⟨p, l, e, R, s, m, args, below, meth, c, Q, A⟩ := X
  obtain ⟨hx, hb, hml, hown, hts, hnw, hK, hlk, hA, hR⟩ := C
  intro H locs ls hP hD hS hl
  refine lv_if_ge hx hb d ht (fun h => ?_) (fun h => ?_)
  · exact kt h H locs ls hP hD hS hl
  · exact kf h H locs ls hP hD hS hl
theorem jw_icmp_ge_r {x y : Int32} {off : Int} {tgt : Nat} (C : JC G X rm cc own nL) (d : decode cc pc = .ok (.if_icmp .ge off, 3)) (ht : (pc : Int) + off = (tgt : Int)) (kt : y ≤ x → JW G X k n w (tgt) L (rest)) (kf : ¬ (y ≤ x) → JW G X k n w (pc + 3) L (rest)) : JW G X k n w (pc) L (.int y :: .int x :: rest) := by
  obtain ⟨p, l, e, R, s, m, args, below, meth, c, Q, A⟩ := X
  obtain ⟨hx, hb, hml, hown, hts, hnw, hK, hlk, hA, hR⟩ := C
  intro H locs ls hP hD hS hl
  refine lv_icmp_ge hx hb d ht (fun h => ?_) (fun h => ?_)
  · exact kt h H locs ls hP hD hS hl
  · exact kf h H locs ls hP hD hS hl
theorem jw_icmp_gt {a b : Int} {off : Int} {tgt : Nat} (C : JC G X rm cc own nL) (d : decode cc pc = .ok (.if_icmp .gt off, 3)) (ht : (pc : Int) + off = (tgt : Int)) (ra : jr a) (rb : jr b) (kt : b < a → JW G X k n w (tgt) L (rest)) (kf : ¬ (b < a) → JW G X k n w (pc + 3) L (rest)) : JW G X k n w (pc) L (.int (iI b) :: .int (iI a) :: rest) := by
  obtain ⟨p, l, e, R, s, m, args, below, meth, c, Q, A⟩ := X
  obtain ⟨hx, hb, hml, hown, hts, hnw, hK, hlk, hA, hR⟩ := C
  intro H locs ls hP hD hS hl
  refine lv_icmp_gt hx hb d ht (fun h => ?_) (fun h => ?_)
  · exact kt ((iI_lt rb ra).mp h) H locs ls hP hD hS hl
  · exact kf (fun e => h ((iI_lt rb ra).mpr e)) H locs ls hP hD hS hl
theorem jw_if_gt {a : Int} {off : Int} {tgt : Nat} (C : JC G X rm cc own nL) (d : decode cc pc = .ok (.ifCond .gt off, 3)) (ht : (pc : Int) + off = (tgt : Int)) (ra : jr a) (kt : 0 < a → JW G X k n w (tgt) L (rest)) (kf : ¬ (0 < a) → JW G X k n w (pc + 3) L (rest)) : JW G X k n w (pc) L (.int (iI a) :: rest) := by
  obtain ⟨p, l, e, R, s, m, args, below, meth, c, Q, A⟩ := X
  obtain ⟨hx, hb, hml, hown, hts, hnw, hK, hlk, hA, hR⟩ := C
  intro H locs ls hP hD hS hl
  refine lv_if_gt hx hb d ht (fun h => ?_) (fun h => ?_)
  · exact kt ((iI_lt ⟨by decide, by decide⟩ ra).mp h) H locs ls hP hD hS hl
  · exact kf (fun e => h ((iI_lt ⟨by decide, by decide⟩ ra).mpr e)) H locs ls hP hD hS hl
theorem jw_if_gt_r {x : Int32} {off : Int} {tgt : Nat} (C : JC G X rm cc own nL) (d : decode cc pc = .ok (.ifCond .gt off, 3)) (ht : (pc : Int) + off = (tgt : Int)) (kt : 0 < x → JW G X k n w (tgt) L (rest)) (kf : ¬ (0 < x) → JW G X k n w (pc + 3) L (rest)) : JW G X k n w (pc) L (.int x :: rest) := by
  obtain ⟨p, l, e, R, s, m, args, below, meth, c, Q, A⟩ := X
  obtain ⟨hx, hb, hml, hown, hts, hnw, hK, hlk, hA, hR⟩ := C
  intro H locs ls hP hD hS hl
  refine lv_if_gt hx hb d ht (fun h => ?_) (fun h => ?_)
  · exact kt h H locs ls hP hD hS hl
  · exact kf h H locs ls hP hD hS hl
theorem jw_icmp_gt_r {x y : Int32} {off : Int} {tgt : Nat} (C : JC G X rm cc own nL) (d : decode cc pc = .ok (.if_icmp .gt off, 3)) (ht : (pc : Int) + off = (tgt : Int)) (kt : y < x → JW G X k n w (tgt) L (rest)) (kf : ¬ (y < x) → JW G X k n w (pc + 3) L (rest)) : JW G X k n w (pc) L (.int y :: .int x :: rest) := by
  obtain ⟨p, l, e, R, s, m, args, below, meth, c, Q, A⟩ := X
  obtain ⟨hx, hb, hml, hown, hts, hnw, hK, hlk, hA, hR⟩ := C
  intro H locs ls hP hD hS hl
  refine lv_icmp_gt hx hb d ht (fun h => ?_) (fun h => ?_)
  · exact kt h H locs ls hP hD hS hl
  · exact kf h H locs ls hP hD hS hl
theorem jw_icmp_le {a b : Int} {off : Int} {tgt : Nat} (C : JC G X rm cc own nL) (d : decode cc pc = .ok (.if_icmp .le off, 3)) (ht : (pc : Int) + off = (tgt : Int)) (ra : jr a) (rb : jr b) (kt : a ≤ b → JW G X k n w (tgt) L (rest)) (kf : ¬ (a ≤ b) → JW G X k n w (pc + 3) L (rest)) : JW G X k n w (pc) L (.int (iI b) :: .int (iI a) :: rest) := by
  obtain ⟨p, l, e, R, s, m, args, below, meth, c, Q, A⟩ := X
  obtain ⟨hx, hb, hml, hown, hts, hnw, hK, hlk, hA, hR⟩ := C
  intro H locs ls hP hD hS hl
  refine lv_icmp_le hx hb d ht (fun h => ?_) (fun h => ?_)
  · exact kt ((iI_le ra rb).mp h) H locs ls hP hD hS hl
  · exact kf (fun e => h ((iI_le ra rb).mpr e)) H locs ls hP hD hS hl
theorem jw_if_le {a : Int} {off : Int} {tgt : Nat} (C : JC G X rm cc own nL) (d : decode cc pc = .ok (.ifCond .le off, 3)) (ht : (pc : Int) + off = (tgt : Int)) (ra : jr a) (kt : a ≤ 0 → JW G X k n w (tgt) L (rest)) (kf : ¬ (a ≤ 0) → JW G X k n w (pc + 3) L (rest)) : JW G X k n w (pc) L (.int (iI a) :: rest) := by
  obtain ⟨p, l, e, R, s, m, args, below, meth, c, Q, A⟩ := X
  obtain ⟨hx, hb, hml, hown, hts, hnw, hK, hlk, hA, hR⟩ := C
  intro H locs ls hP hD hS hl
  refine lv_if_le hx hb d ht (fun h => ?_) (fun h => ?_)
  · exact kt ((iI_le ra ⟨by decide, by decide⟩).mp h) H locs ls hP hD hS hl
  · exact kf (fun e => h ((iI_le ra ⟨by decide, by decide⟩).mpr e)) H locs ls hP hD hS hl
theorem jw_if_le_r {x : Int32} {off : Int} {tgt : Nat} (C : JC G X rm cc own nL) (d : decode cc pc = .ok (.ifCond .le off, 3)) (ht : (pc : Int) + off = (tgt : Int)) (kt : x ≤ 0 → JW G X k n w (tgt) L (rest)) (kf : ¬ (x ≤ 0) → JW G X k n w (pc + 3) L (rest)) : JW G X k n w (pc) L (.int x :: rest) := by
  obtain ⟨p, l, e, R, s, m, args, below, meth, c, Q, A⟩ := X
  obtain ⟨hx, hb, hml, hown, hts, hnw, hK, hlk, hA, hR⟩ := C
  intro H locs ls hP hD hS hl
  refine lv_if_le hx hb d ht (fun h => ?_) (fun h => ?_)
  · exact kt h H locs ls hP hD hS hl
  · exact kf h H locs ls hP hD hS hl
theorem jw_icmp_le_r {x y : Int32} {off : Int} {tgt : Nat} (C : JC G X rm cc own nL) (d : decode cc pc = .ok (.if_icmp .le off, 3)) (ht : (pc : Int) + off = (tgt : Int)) (kt : x ≤ y → JW G X k n w (tgt) L (rest)) (kf : ¬ (x ≤ y) → JW G X k n w (pc + 3) L (rest)) : JW G X k n w (pc) L (.int y :: .int x :: rest) := by
  obtain ⟨p, l, e, R, s, m, args, below, meth, c, Q, A⟩ := X
  obtain ⟨hx, hb, hml, hown, hts, hnw, hK, hlk, hA, hR⟩ := C
  intro H locs ls hP hD hS hl
  refine lv_icmp_le hx hb d ht (fun h => ?_) (fun h => ?_)
  · exact kt h H locs ls hP hD hS hl
  · exact kf h H locs ls hP hD hS hl
theorem jw_icmp_eq {a b : Int} {off : Int} {tgt : Nat} (C : JC G X rm cc own nL) (d : decode cc pc = .ok (.if_icmp .eq off, 3)) (ht : (pc : Int) + off = (tgt : Int)) (ra : jr a) (rb : jr b) (kt : a = b → JW G X k n w (tgt) L (rest)) (kf : ¬ (a = b) → JW G X k n w (pc + 3) L (rest)) : JW G X k n w (pc) L (.int (iI b) :: .int (iI a) :: rest) := by
  obtain ⟨p, l, e, R, s, m, args, below, meth, c, Q, A⟩ := X
  obtain ⟨hx, hb, hml, hown, hts, hnw, hK, hlk, hA, hR⟩ := C
  intro H locs ls hP hD hS hl
  refine lv_icmp_eq hx hb d ht (fun h => ?_) (fun h => ?_)
  · exact kt ((iI_eq ra rb).mp h) H locs ls hP hD hS hl
  · exact kf (fun e => h ((iI_eq ra rb).mpr e)) H locs ls hP hD hS hl
theorem jw_if_eq {a : Int} {off : Int} {tgt : Nat} (C : JC G X rm cc own nL) (d : decode cc pc = .ok (.ifCond .eq off, 3)) (ht : (pc : Int) + off = (tgt : Int)) (ra : jr a) (kt : a = 0 → JW G X k n w (tgt) L (rest)) (kf : ¬ (a = 0) → JW G X k n w (pc + 3) L (rest)) : JW G X k n w (pc) L (.int (iI a) :: rest) := by
  obtain ⟨p, l, e, R, s, m, args, below, meth, c, Q, A⟩ := X
  obtain ⟨hx, hb, hml, hown, hts, hnw, hK, hlk, hA, hR⟩ := C
  intro H locs ls hP hD hS hl
  refine lv_if_eq hx hb d ht (fun h => ?_) (fun h => ?_)
  · exact kt ((iI_eq ra ⟨by decide, by decide⟩).mp h) H locs ls hP hD hS hl
  · exact kf (fun e => h ((iI_eq ra ⟨by decide, by decide⟩).mpr e)) H locs ls hP hD hS hl
theorem jw_if_eq_r {x : Int32} {off : Int} {tgt : Nat} (C : JC G X rm cc own nL) (d : decode cc pc = .ok (.ifCond .eq off, 3)) (ht : (pc : Int) + off = (tgt : Int)) (kt : x = 0 → JW G X k n w (tgt) L (rest)) (kf : ¬ (x = 0) → JW G X k n w (pc + 3) L (rest)) : JW G X k n w (pc) L (.int x :: rest) := by
  obtain ⟨p, l, e, R, s, m, args, below, meth, c, Q, A⟩ := X
  obtain ⟨hx, hb, hml, hown, hts, hnw, hK, hlk, hA, hR⟩ := C
  intro H locs ls hP hD hS hl
  refine lv_if_eq hx hb d ht (fun h => ?_) (fun h => ?_)
  · exact kt h H locs ls hP hD hS hl
  · exact kf h H locs ls hP hD hS hl
theorem jw_icmp_eq_r {x y : Int32} {off : Int} {tgt : Nat} (C : JC G X rm cc own nL) (d : decode cc pc = .ok (.if_icmp .eq off, 3)) (ht : (pc : Int) + off = (tgt : Int)) (kt : x = y → JW G X k n w (tgt) L (rest)) (kf : ¬ (x = y) → JW G X k n w (pc + 3) L (rest)) : JW G X k n w (pc) L (.int y :: .int x :: rest) := by
  obtain ⟨p, l, e, R, s, m, args, below, meth, c, Q, A⟩ := X
  obtain ⟨hx, hb, hml, hown, hts, hnw, hK, hlk, hA, hR⟩ := C
  intro H locs ls hP hD hS hl
  refine lv_icmp_eq hx hb d ht (fun h => ?_) (fun h => ?_)
  · exact kt h H locs ls hP hD hS hl
  · exact kf h H locs ls hP hD hS hl
theorem jw_icmp_ne {a b : Int} {off : Int} {tgt : Nat} (C : JC G X rm cc own nL) (d : decode cc pc = .ok (.if_icmp .ne off, 3)) (ht : (pc : Int) + off = (tgt : Int)) (ra : jr a) (rb : jr b) (kt : ¬ a = b → JW G X k n w (tgt) L (rest)) (kf : a = b → JW G X k n w (pc + 3) L (rest)) : JW G X k n w (pc) L (.int (iI b) :: .int (iI a) :: rest) := by
  obtain ⟨p, l, e, R, s, m, args, below, meth, c, Q, A⟩ := X
  obtain ⟨hx, hb, hml, hown, hts, hnw, hK, hlk, hA, hR⟩ := C
  intro H locs ls hP hD hS hl
  refine lv_icmp_ne hx hb d ht (fun h => ?_) (fun h => ?_)
  · exact kt (fun e => absurd ((iI_eq ra rb).mpr e) (by first | exact h | (intro h2; exact h h2))) H locs ls hP hD hS hl
  · exact kf ((iI_eq ra rb).mp (by first | exact h | exact Decidable.not_not.mp h)) H locs ls hP hD hS hl
theorem jw_if_ne {a : Int} {off : Int} {tgt : Nat} (C : JC G X rm cc own nL) (d : decode cc pc = .ok (.ifCond .ne off, 3)) (ht : (pc : Int) + off = (tgt : Int)) (ra : jr a) (kt : ¬ a = 0 → JW G X k n w (tgt) L (rest)) (kf : a = 0 → JW G X k n w (pc + 3) L (rest)) : JW G X k n w (pc) L (.int (iI a) :: rest) := by
  obtain ⟨p, l, e, R, s, m, args, below, meth, c, Q, A⟩ := X
  obtain ⟨hx, hb, hml, hown, hts, hnw, hK, hlk, hA, hR⟩ := C
  intro H locs ls hP hD hS hl
  refine lv_if_ne hx hb d ht (fun h => ?_) (fun h => ?_)
  · exact kt (fun e => absurd ((iI_eq ra ⟨by decide, by decide⟩).mpr e) (by first | exact h | (intro h2; exact h h2))) H locs ls hP hD hS hl
  · exact kf ((iI_eq ra ⟨by decide, by decide⟩).mp (by first | exact h | exact Decidable.not_not.mp h)) H locs ls hP hD hS hl
theorem jw_if_ne_r {x : Int32} {off : Int} {tgt : Nat} (C : JC G X rm cc own nL) (d : decode cc pc = .ok (.ifCond .ne off, 3)) (ht : (pc : Int) + off = (tgt : Int)) (kt : ¬ x = 0 → JW G X k n w (tgt) L (rest)) (kf : x = 0 → JW G X k n w (pc + 3) L (rest)) : JW G X k n w (pc) L (.int x :: rest) := by
  obtain ⟨p, l, e, R, s, m, args, below, meth, c, Q, A⟩ := X
  obtain ⟨hx, hb, hml, hown, hts, hnw, hK, hlk, hA, hR⟩ := C
  intro H locs ls hP hD hS hl
  refine lv_if_ne hx hb d ht (fun h => ?_) (fun h => ?_)
  · exact kt (by first | exact h | (intro h2; exact h h2)) H locs ls hP hD hS hl
  · exact kf (by first | exact h | exact Decidable.not_not.mp h) H locs ls hP hD hS hl
theorem jw_icmp_ne_r {x y : Int32} {off : Int} {tgt : Nat} (C : JC G X rm cc own nL) (d : decode cc pc = .ok (.if_icmp .ne off, 3)) (ht : (pc : Int) + off = (tgt : Int)) (kt : ¬ x = y → JW G X k n w (tgt) L (rest)) (kf : x = y → JW G X k n w (pc + 3) L (rest)) : JW G X k n w (pc) L (.int y :: .int x :: rest) := by
  obtain ⟨p, l, e, R, s, m, args, below, meth, c, Q, A⟩ := X
  obtain ⟨hx, hb, hml, hown, hts, hnw, hK, hlk, hA, hR⟩ := C
  intro H locs ls hP hD hS hl
  refine lv_icmp_ne hx hb d ht (fun h => ?_) (fun h => ?_)
  · exact kt (by first | exact h | (intro h2; exact h h2)) H locs ls hP hD hS hl
  · exact kf (by first | exact h | exact Decidable.not_not.mp h) H locs ls hP hD hS hl
theorem jb_ne {b : Bool} : jb b = 0 ↔ b = false := by cases b <;> decide
theorem jw_if_eq_b {b : Bool} {off : Int} {tgt : Nat} (C : JC G X rm cc own nL) (d : decode cc pc = .ok (.ifCond .eq off, 3)) (ht : (pc : Int) + off = (tgt : Int)) (kt : b = false → JW G X k n w (tgt) L (rest)) (kf : b = true → JW G X k n w (pc + 3) L (rest)) : JW G X k n w (pc) L (.int (jb b) :: rest) := by
  obtain ⟨p, l, e, R, s, m, args, below, meth, c, Q, A⟩ := X
  obtain ⟨hx, hb, hml, hown, hts, hnw, hK, hlk, hA, hR⟩ := C
  intro H locs ls hP hD hS hl
  refine lv_if_eq hx hb d ht (fun h => ?_) (fun h => ?_)
  · exact kt (by cases b <;> first | rfl | exact absurd h (by decide)) H locs ls hP hD hS hl
  · exact kf (by cases b <;> first | rfl | exact absurd h (by decide)) H locs ls hP hD hS hl
theorem jw_if_ne_b {b : Bool} {off : Int} {tgt : Nat} (C : JC G X rm cc own nL) (d : decode cc pc = .ok (.ifCond .ne off, 3)) (ht : (pc : Int) + off = (tgt : Int)) (kt : b = true → JW G X k n w (tgt) L (rest)) (kf : b = false → JW G X k n w (pc + 3) L (rest)) : JW G X k n w (pc) L (.int (jb b) :: rest) := by
  obtain ⟨p, l, e, R, s, m, args, below, meth, c, Q, A⟩ := X
  obtain ⟨hx, hb, hml, hown, hts, hnw, hK, hlk, hA, hR⟩ := C
  intro H locs ls hP hD hS hl
  refine lv_if_ne hx hb d ht (fun h => ?_) (fun h => ?_)
  · exact kt (by cases b <;> first | rfl | exact absurd h (by decide)) H locs ls hP hD hS hl
  · exact kf (by cases b <;> first | rfl | exact absurd h (by decide)) H locs ls hP hD hS hl
theorem jw_iload_0 {x : Int32} {t : List (Option Value)} (C : JC G X rm cc own nL) (d : decode cc pc = .ok (.iload_n 0, 1)) (kk : JW G X k n w (pc + 1) (some (.int x) :: t) (.int x :: rest)) : JW G X k n w (pc) (some (.int x) :: t) (rest) := by
  obtain ⟨p, l, e, R, s, m, args, below, meth, c, Q, A⟩ := X
  obtain ⟨hx, hb, hml, hown, hts, hnw, hK, hlk, hA, hR⟩ := C
  intro H locs ls hP hD hS hl
  refine lv_iload_n hx hb d rfl (hl.2.2 (0, .int x) ((jl0_mem _ _ _).mpr ⟨0, rfl, by omega⟩)) ?_
  exact kk H locs ls hP hD hS hl
theorem jw_iload_1 {a0 : Option Value} {x : Int32} {t : List (Option Value)} (C : JC G X rm cc own nL) (d : decode cc pc = .ok (.iload_n 1, 1)) (kk : JW G X k n w (pc + 1) (a0 :: some (.int x) :: t) (.int x :: rest)) : JW G X k n w (pc) (a0 :: some (.int x) :: t) (rest) := by
  obtain ⟨p, l, e, R, s, m, args, below, meth, c, Q, A⟩ := X
  obtain ⟨hx, hb, hml, hown, hts, hnw, hK, hlk, hA, hR⟩ := C
  intro H locs ls hP hD hS hl
  refine lv_iload_n hx hb d rfl (hl.2.2 (1, .int x) ((jl0_mem _ _ _).mpr ⟨1, rfl, by omega⟩)) ?_
  exact kk H locs ls hP hD hS hl
theorem jw_iload_2 {a0 a1 : Option Value} {x : Int32} {t : List (Option Value)} (C : JC G X rm cc own nL) (d : decode cc pc = .ok (.iload_n 2, 1)) (kk : JW G X k n w (pc + 1) (a0 :: a1 :: some (.int x) :: t) (.int x :: rest)) : JW G X k n w (pc) (a0 :: a1 :: some (.int x) :: t) (rest) := by
  obtain ⟨p, l, e, R, s, m, args, below, meth, c, Q, A⟩ := X
  obtain ⟨hx, hb, hml, hown, hts, hnw, hK, hlk, hA, hR⟩ := C
  intro H locs ls hP hD hS hl
  refine lv_iload_n hx hb d rfl (hl.2.2 (2, .int x) ((jl0_mem _ _ _).mpr ⟨2, rfl, by omega⟩)) ?_
  exact kk H locs ls hP hD hS hl
theorem jw_iload_3 {a0 a1 a2 : Option Value} {x : Int32} {t : List (Option Value)} (C : JC G X rm cc own nL) (d : decode cc pc = .ok (.iload_n 3, 1)) (kk : JW G X k n w (pc + 1) (a0 :: a1 :: a2 :: some (.int x) :: t) (.int x :: rest)) : JW G X k n w (pc) (a0 :: a1 :: a2 :: some (.int x) :: t) (rest) := by
  obtain ⟨p, l, e, R, s, m, args, below, meth, c, Q, A⟩ := X
  obtain ⟨hx, hb, hml, hown, hts, hnw, hK, hlk, hA, hR⟩ := C
  intro H locs ls hP hD hS hl
  refine lv_iload_n hx hb d rfl (hl.2.2 (3, .int x) ((jl0_mem _ _ _).mpr ⟨3, rfl, by omega⟩)) ?_
  exact kk H locs ls hP hD hS hl
theorem jw_iload_4 {a0 a1 a2 a3 : Option Value} {x : Int32} {t : List (Option Value)} (C : JC G X rm cc own nL) (d : decode cc pc = .ok (.iload 4, 2)) (kk : JW G X k n w (pc + 2) (a0 :: a1 :: a2 :: a3 :: some (.int x) :: t) (.int x :: rest)) : JW G X k n w (pc) (a0 :: a1 :: a2 :: a3 :: some (.int x) :: t) (rest) := by
  obtain ⟨p, l, e, R, s, m, args, below, meth, c, Q, A⟩ := X
  obtain ⟨hx, hb, hml, hown, hts, hnw, hK, hlk, hA, hR⟩ := C
  intro H locs ls hP hD hS hl
  refine lv_iload hx hb d (hl.2.2 (4, .int x) ((jl0_mem _ _ _).mpr ⟨4, rfl, by omega⟩)) ?_
  exact kk H locs ls hP hD hS hl
theorem jw_iload_5 {a0 a1 a2 a3 a4 : Option Value} {x : Int32} {t : List (Option Value)} (C : JC G X rm cc own nL) (d : decode cc pc = .ok (.iload 5, 2)) (kk : JW G X k n w (pc + 2) (a0 :: a1 :: a2 :: a3 :: a4 :: some (.int x) :: t) (.int x :: rest)) : JW G X k n w (pc) (a0 :: a1 :: a2 :: a3 :: a4 :: some (.int x) :: t) (rest) := by
  obtain ⟨p, l, e, R, s, m, args, below, meth, c, Q, A⟩ := X
  obtain ⟨hx, hb, hml, hown, hts, hnw, hK, hlk, hA, hR⟩ := C
  intro H locs ls hP hD hS hl
  refine lv_iload hx hb d (hl.2.2 (5, .int x) ((jl0_mem _ _ _).mpr ⟨5, rfl, by omega⟩)) ?_
  exact kk H locs ls hP hD hS hl
theorem jw_iload_6 {a0 a1 a2 a3 a4 a5 : Option Value} {x : Int32} {t : List (Option Value)} (C : JC G X rm cc own nL) (d : decode cc pc = .ok (.iload 6, 2)) (kk : JW G X k n w (pc + 2) (a0 :: a1 :: a2 :: a3 :: a4 :: a5 :: some (.int x) :: t) (.int x :: rest)) : JW G X k n w (pc) (a0 :: a1 :: a2 :: a3 :: a4 :: a5 :: some (.int x) :: t) (rest) := by
  obtain ⟨p, l, e, R, s, m, args, below, meth, c, Q, A⟩ := X
  obtain ⟨hx, hb, hml, hown, hts, hnw, hK, hlk, hA, hR⟩ := C
  intro H locs ls hP hD hS hl
  refine lv_iload hx hb d (hl.2.2 (6, .int x) ((jl0_mem _ _ _).mpr ⟨6, rfl, by omega⟩)) ?_
  exact kk H locs ls hP hD hS hl
theorem jw_iload_7 {a0 a1 a2 a3 a4 a5 a6 : Option Value} {x : Int32} {t : List (Option Value)} (C : JC G X rm cc own nL) (d : decode cc pc = .ok (.iload 7, 2)) (kk : JW G X k n w (pc + 2) (a0 :: a1 :: a2 :: a3 :: a4 :: a5 :: a6 :: some (.int x) :: t) (.int x :: rest)) : JW G X k n w (pc) (a0 :: a1 :: a2 :: a3 :: a4 :: a5 :: a6 :: some (.int x) :: t) (rest) := by
  obtain ⟨p, l, e, R, s, m, args, below, meth, c, Q, A⟩ := X
  obtain ⟨hx, hb, hml, hown, hts, hnw, hK, hlk, hA, hR⟩ := C
  intro H locs ls hP hD hS hl
  refine lv_iload hx hb d (hl.2.2 (7, .int x) ((jl0_mem _ _ _).mpr ⟨7, rfl, by omega⟩)) ?_
  exact kk H locs ls hP hD hS hl
theorem jw_iload_8 {a0 a1 a2 a3 a4 a5 a6 a7 : Option Value} {x : Int32} {t : List (Option Value)} (C : JC G X rm cc own nL) (d : decode cc pc = .ok (.iload 8, 2)) (kk : JW G X k n w (pc + 2) (a0 :: a1 :: a2 :: a3 :: a4 :: a5 :: a6 :: a7 :: some (.int x) :: t) (.int x :: rest)) : JW G X k n w (pc) (a0 :: a1 :: a2 :: a3 :: a4 :: a5 :: a6 :: a7 :: some (.int x) :: t) (rest) := by
  obtain ⟨p, l, e, R, s, m, args, below, meth, c, Q, A⟩ := X
  obtain ⟨hx, hb, hml, hown, hts, hnw, hK, hlk, hA, hR⟩ := C
  intro H locs ls hP hD hS hl
  refine lv_iload hx hb d (hl.2.2 (8, .int x) ((jl0_mem _ _ _).mpr ⟨8, rfl, by omega⟩)) ?_
  exact kk H locs ls hP hD hS hl
theorem jw_istore_0 {b0 : Option Value} {x : Int32} {t : List (Option Value)} (C : JC G X rm cc own nL) (d : decode cc pc = .ok (.istore_n 0, 1)) (kk : JW G X k n w (pc + 1) (some (.int x) :: t) (rest)) : JW G X k n w (pc) (b0 :: t) (.int x :: rest) := by
  obtain ⟨p, l, e, R, s, m, args, below, meth, c, Q, A⟩ := X
  obtain ⟨hx, hb, hml, hown, hts, hnw, hK, hlk, hA, hR⟩ := C
  intro H locs ls hP hD hS hl
  refine lv_istore_n hx hb d rfl hl (by simp only [List.length_cons]; omega) rfl (fun ls2 h2 => ?_)
  exact kk H locs ls2 hP hD hS (by have h3 := jl_store1 (L := b0 :: t) (v := .int x) (by simp only [List.length_cons]; omega) (fun a h _ => absurd h (Nat.lt_irrefl 0)) h2; exact h3)
theorem jw_istore_1 {a0 b0 : Option Value} {x : Int32} {t : List (Option Value)} (C : JC G X rm cc own nL) (d : decode cc pc = .ok (.istore_n 1, 1)) (hc : jc1 a0 = true) (kk : JW G X k n w (pc + 1) (a0 :: some (.int x) :: t) (rest)) : JW G X k n w (pc) (a0 :: b0 :: t) (.int x :: rest) := by
  obtain ⟨p, l, e, R, s, m, args, below, meth, c, Q, A⟩ := X
  obtain ⟨hx, hb, hml, hown, hts, hnw, hK, hlk, hA, hR⟩ := C
  intro H locs ls hP hD hS hl
  refine lv_istore_n hx hb d rfl hl (by simp only [List.length_cons]; omega) rfl (fun ls2 h2 => ?_)
  exact kk H locs ls2 hP hD hS (by have h3 := jl_store1 (L := a0 :: b0 :: t) (v := .int x) (by simp only [List.length_cons]; omega) (fun a _ h => by cases h; exact hc) h2; exact h3)
theorem jw_istore_2 {a0 a1 b0 : Option Value} {x : Int32} {t : List (Option Value)} (C : JC G X rm cc own nL) (d : decode cc pc = .ok (.istore_n 2, 1)) (hc : jc1 a1 = true) (kk : JW G X k n w (pc + 1) (a0 :: a1 :: some (.int x) :: t) (rest)) : JW G X k n w (pc) (a0 :: a1 :: b0 :: t) (.int x :: rest) := by
  obtain ⟨p, l, e, R, s, m, args, below, meth, c, Q, A⟩ := X
  obtain ⟨hx, hb, hml, hown, hts, hnw, hK, hlk, hA, hR⟩ := C
  intro H locs ls hP hD hS hl
  refine lv_istore_n hx hb d rfl hl (by simp only [List.length_cons]; omega) rfl (fun ls2 h2 => ?_)
  exact kk H locs ls2 hP hD hS (by have h3 := jl_store1 (L := a0 :: a1 :: b0 :: t) (v := .int x) (by simp only [List.length_cons]; omega) (fun a _ h => by cases h; exact hc) h2; exact h3)
theorem jw_istore_3 {a0 a1 a2 b0 : Option Value} {x : Int32} {t : List (Option Value)} (C : JC G X rm cc own nL) (d : decode cc pc = .ok (.istore_n 3, 1)) (hc : jc1 a2 = true) (kk : JW G X k n w (pc + 1) (a0 :: a1 :: a2 :: some (.int x) :: t) (rest)) : JW G X k n w (pc) (a0 :: a1 :: a2 :: b0 :: t) (.int x :: rest) := by
  obtain ⟨p, l, e, R, s, m, args, below, meth, c, Q, A⟩ := X
  obtain ⟨hx, hb, hml, hown, hts, hnw, hK, hlk, hA, hR⟩ := C
  intro H locs ls hP hD hS hl
  refine lv_istore_n hx hb d rfl hl (by simp only [List.length_cons]; omega) rfl (fun ls2 h2 => ?_)
  exact kk H locs ls2 hP hD hS (by have h3 := jl_store1 (L := a0 :: a1 :: a2 :: b0 :: t) (v := .int x) (by simp only [List.length_cons]; omega) (fun a _ h => by cases h; exact hc) h2; exact h3)
theorem jw_istore_4 {a0 a1 a2 a3 b0 : Option Value} {x : Int32} {t : List (Option Value)} (C : JC G X rm cc own nL) (d : decode cc pc = .ok (.istore 4, 2)) (hc : jc1 a3 = true) (kk : JW G X k n w (pc + 2) (a0 :: a1 :: a2 :: a3 :: some (.int x) :: t) (rest)) : JW G X k n w (pc) (a0 :: a1 :: a2 :: a3 :: b0 :: t) (.int x :: rest) := by
  obtain ⟨p, l, e, R, s, m, args, below, meth, c, Q, A⟩ := X
  obtain ⟨hx, hb, hml, hown, hts, hnw, hK, hlk, hA, hR⟩ := C
  intro H locs ls hP hD hS hl
  refine lv_istore hx hb d hl (by simp only [List.length_cons]; omega) rfl (fun ls2 h2 => ?_)
  exact kk H locs ls2 hP hD hS (by have h3 := jl_store1 (L := a0 :: a1 :: a2 :: a3 :: b0 :: t) (v := .int x) (by simp only [List.length_cons]; omega) (fun a _ h => by cases h; exact hc) h2; exact h3)
theorem jw_istore_5 {a0 a1 a2 a3 a4 b0 : Option Value} {x : Int32} {t : List (Option Value)} (C : JC G X rm cc own nL) (d : decode cc pc = .ok (.istore 5, 2)) (hc : jc1 a4 = true) (kk : JW G X k n w (pc + 2) (a0 :: a1 :: a2 :: a3 :: a4 :: some (.int x) :: t) (rest)) : JW G X k n w (pc) (a0 :: a1 :: a2 :: a3 :: a4 :: b0 :: t) (.int x :: rest) := by
  obtain ⟨p, l, e, R, s, m, args, below, meth, c, Q, A⟩ := X
  obtain ⟨hx, hb, hml, hown, hts, hnw, hK, hlk, hA, hR⟩ := C
  intro H locs ls hP hD hS hl
  refine lv_istore hx hb d hl (by simp only [List.length_cons]; omega) rfl (fun ls2 h2 => ?_)
  exact kk H locs ls2 hP hD hS (by have h3 := jl_store1 (L := a0 :: a1 :: a2 :: a3 :: a4 :: b0 :: t) (v := .int x) (by simp only [List.length_cons]; omega) (fun a _ h => by cases h; exact hc) h2; exact h3)
theorem jw_istore_6 {a0 a1 a2 a3 a4 a5 b0 : Option Value} {x : Int32} {t : List (Option Value)} (C : JC G X rm cc own nL) (d : decode cc pc = .ok (.istore 6, 2)) (hc : jc1 a5 = true) (kk : JW G X k n w (pc + 2) (a0 :: a1 :: a2 :: a3 :: a4 :: a5 :: some (.int x) :: t) (rest)) : JW G X k n w (pc) (a0 :: a1 :: a2 :: a3 :: a4 :: a5 :: b0 :: t) (.int x :: rest) := by
  obtain ⟨p, l, e, R, s, m, args, below, meth, c, Q, A⟩ := X
  obtain ⟨hx, hb, hml, hown, hts, hnw, hK, hlk, hA, hR⟩ := C
  intro H locs ls hP hD hS hl
  refine lv_istore hx hb d hl (by simp only [List.length_cons]; omega) rfl (fun ls2 h2 => ?_)
  exact kk H locs ls2 hP hD hS (by have h3 := jl_store1 (L := a0 :: a1 :: a2 :: a3 :: a4 :: a5 :: b0 :: t) (v := .int x) (by simp only [List.length_cons]; omega) (fun a _ h => by cases h; exact hc) h2; exact h3)
theorem jw_istore_7 {a0 a1 a2 a3 a4 a5 a6 b0 : Option Value} {x : Int32} {t : List (Option Value)} (C : JC G X rm cc own nL) (d : decode cc pc = .ok (.istore 7, 2)) (hc : jc1 a6 = true) (kk : JW G X k n w (pc + 2) (a0 :: a1 :: a2 :: a3 :: a4 :: a5 :: a6 :: some (.int x) :: t) (rest)) : JW G X k n w (pc) (a0 :: a1 :: a2 :: a3 :: a4 :: a5 :: a6 :: b0 :: t) (.int x :: rest) := by
  obtain ⟨p, l, e, R, s, m, args, below, meth, c, Q, A⟩ := X
  obtain ⟨hx, hb, hml, hown, hts, hnw, hK, hlk, hA, hR⟩ := C
  intro H locs ls hP hD hS hl
  refine lv_istore hx hb d hl (by simp only [List.length_cons]; omega) rfl (fun ls2 h2 => ?_)
  exact kk H locs ls2 hP hD hS (by have h3 := jl_store1 (L := a0 :: a1 :: a2 :: a3 :: a4 :: a5 :: a6 :: b0 :: t) (v := .int x) (by simp only [List.length_cons]; omega) (fun a _ h => by cases h; exact hc) h2; exact h3)
theorem jw_istore_8 {a0 a1 a2 a3 a4 a5 a6 a7 b0 : Option Value} {x : Int32} {t : List (Option Value)} (C : JC G X rm cc own nL) (d : decode cc pc = .ok (.istore 8, 2)) (hc : jc1 a7 = true) (kk : JW G X k n w (pc + 2) (a0 :: a1 :: a2 :: a3 :: a4 :: a5 :: a6 :: a7 :: some (.int x) :: t) (rest)) : JW G X k n w (pc) (a0 :: a1 :: a2 :: a3 :: a4 :: a5 :: a6 :: a7 :: b0 :: t) (.int x :: rest) := by
  obtain ⟨p, l, e, R, s, m, args, below, meth, c, Q, A⟩ := X
  obtain ⟨hx, hb, hml, hown, hts, hnw, hK, hlk, hA, hR⟩ := C
  intro H locs ls hP hD hS hl
  refine lv_istore hx hb d hl (by simp only [List.length_cons]; omega) rfl (fun ls2 h2 => ?_)
  exact kk H locs ls2 hP hD hS (by have h3 := jl_store1 (L := a0 :: a1 :: a2 :: a3 :: a4 :: a5 :: a6 :: a7 :: b0 :: t) (v := .int x) (by simp only [List.length_cons]; omega) (fun a _ h => by cases h; exact hc) h2; exact h3)
theorem jw_aload_0 {x : Nat} {t : List (Option Value)} (C : JC G X rm cc own nL) (d : decode cc pc = .ok (.aload_n 0, 1)) (kk : JW G X k n w (pc + 1) (some (.ref x) :: t) (.ref x :: rest)) : JW G X k n w (pc) (some (.ref x) :: t) (rest) := by
  obtain ⟨p, l, e, R, s, m, args, below, meth, c, Q, A⟩ := X
  obtain ⟨hx, hb, hml, hown, hts, hnw, hK, hlk, hA, hR⟩ := C
  intro H locs ls hP hD hS hl
  refine lv_aload_n hx hb d rfl (hl.2.2 (0, .ref x) ((jl0_mem _ _ _).mpr ⟨0, rfl, by omega⟩)) ?_
  exact kk H locs ls hP hD hS hl
theorem jw_aload_1 {a0 : Option Value} {x : Nat} {t : List (Option Value)} (C : JC G X rm cc own nL) (d : decode cc pc = .ok (.aload_n 1, 1)) (kk : JW G X k n w (pc + 1) (a0 :: some (.ref x) :: t) (.ref x :: rest)) : JW G X k n w (pc) (a0 :: some (.ref x) :: t) (rest) := by
  obtain ⟨p, l, e, R, s, m, args, below, meth, c, Q, A⟩ := X
  obtain ⟨hx, hb, hml, hown, hts, hnw, hK, hlk, hA, hR⟩ := C
  intro H locs ls hP hD hS hl
  refine lv_aload_n hx hb d rfl (hl.2.2 (1, .ref x) ((jl0_mem _ _ _).mpr ⟨1, rfl, by omega⟩)) ?_
  exact kk H locs ls hP hD hS hl
theorem jw_aload_2 {a0 a1 : Option Value} {x : Nat} {t : List (Option Value)} (C : JC G X rm cc own nL) (d : decode cc pc = .ok (.aload_n 2, 1)) (kk : JW G X k n w (pc + 1) (a0 :: a1 :: some (.ref x) :: t) (.ref x :: rest)) : JW G X k n w (pc) (a0 :: a1 :: some (.ref x) :: t) (rest) := by
  obtain ⟨p, l, e, R, s, m, args, below, meth, c, Q, A⟩ := X
  obtain ⟨hx, hb, hml, hown, hts, hnw, hK, hlk, hA, hR⟩ := C
  intro H locs ls hP hD hS hl
  refine lv_aload_n hx hb d rfl (hl.2.2 (2, .ref x) ((jl0_mem _ _ _).mpr ⟨2, rfl, by omega⟩)) ?_
  exact kk H locs ls hP hD hS hl
theorem jw_aload_3 {a0 a1 a2 : Option Value} {x : Nat} {t : List (Option Value)} (C : JC G X rm cc own nL) (d : decode cc pc = .ok (.aload_n 3, 1)) (kk : JW G X k n w (pc + 1) (a0 :: a1 :: a2 :: some (.ref x) :: t) (.ref x :: rest)) : JW G X k n w (pc) (a0 :: a1 :: a2 :: some (.ref x) :: t) (rest) := by
  obtain ⟨p, l, e, R, s, m, args, below, meth, c, Q, A⟩ := X
  obtain ⟨hx, hb, hml, hown, hts, hnw, hK, hlk, hA, hR⟩ := C
  intro H locs ls hP hD hS hl
  refine lv_aload_n hx hb d rfl (hl.2.2 (3, .ref x) ((jl0_mem _ _ _).mpr ⟨3, rfl, by omega⟩)) ?_
  exact kk H locs ls hP hD hS hl
theorem jw_aload_4 {a0 a1 a2 a3 : Option Value} {x : Nat} {t : List (Option Value)} (C : JC G X rm cc own nL) (d : decode cc pc = .ok (.aload 4, 2)) (kk : JW G X k n w (pc + 2) (a0 :: a1 :: a2 :: a3 :: some (.ref x) :: t) (.ref x :: rest)) : JW G X k n w (pc) (a0 :: a1 :: a2 :: a3 :: some (.ref x) :: t) (rest) := by
  obtain ⟨p, l, e, R, s, m, args, below, meth, c, Q, A⟩ := X
  obtain ⟨hx, hb, hml, hown, hts, hnw, hK, hlk, hA, hR⟩ := C
  intro H locs ls hP hD hS hl
  refine lv_aload hx hb d (hl.2.2 (4, .ref x) ((jl0_mem _ _ _).mpr ⟨4, rfl, by omega⟩)) ?_
  exact kk H locs ls hP hD hS hl
theorem jw_aload_5 {a0 a1 a2 a3 a4 : Option Value} {x : Nat} {t : List (Option Value)} (C : JC G X rm cc own nL) (d : decode cc pc = .ok (.aload 5, 2)) (kk : JW G X k n w (pc + 2) (a0 :: a1 :: a2 :: a3 :: a4 :: some (.ref x) :: t) (.ref x :: rest)) : JW G X k n w (pc) (a0 :: a1 :: a2 :: a3 :: a4 :: some (.ref x) :: t) (rest) := by
  obtain ⟨p, l, e, R, s, m, args, below, meth, c, Q, A⟩ := X
  obtain ⟨hx, hb, hml, hown, hts, hnw, hK, hlk, hA, hR⟩ := C
  intro H locs ls hP hD hS hl
  refine lv_aload hx hb d (hl.2.2 (5, .ref x) ((jl0_mem _ _ _).mpr ⟨5, rfl, by omega⟩)) ?_
  exact kk H locs ls hP hD hS hl
theorem jw_aload_6 {a0 a1 a2 a3 a4 a5 : Option Value} {x : Nat} {t : List (Option Value)} (C : JC G X rm cc own nL) (d : decode cc pc = .ok (.aload 6, 2)) (kk : JW G X k n w (pc + 2) (a0 :: a1 :: a2 :: a3 :: a4 :: a5 :: some (.ref x) :: t) (.ref x :: rest)) : JW G X k n w (pc) (a0 :: a1 :: a2 :: a3 :: a4 :: a5 :: some (.ref x) :: t) (rest) := by
  obtain ⟨p, l, e, R, s, m, args, below, meth, c, Q, A⟩ := X
  obtain ⟨hx, hb, hml, hown, hts, hnw, hK, hlk, hA, hR⟩ := C
  intro H locs ls hP hD hS hl
  refine lv_aload hx hb d (hl.2.2 (6, .ref x) ((jl0_mem _ _ _).mpr ⟨6, rfl, by omega⟩)) ?_
  exact kk H locs ls hP hD hS hl
theorem jw_aload_7 {a0 a1 a2 a3 a4 a5 a6 : Option Value} {x : Nat} {t : List (Option Value)} (C : JC G X rm cc own nL) (d : decode cc pc = .ok (.aload 7, 2)) (kk : JW G X k n w (pc + 2) (a0 :: a1 :: a2 :: a3 :: a4 :: a5 :: a6 :: some (.ref x) :: t) (.ref x :: rest)) : JW G X k n w (pc) (a0 :: a1 :: a2 :: a3 :: a4 :: a5 :: a6 :: some (.ref x) :: t) (rest) := by
  obtain ⟨p, l, e, R, s, m, args, below, meth, c, Q, A⟩ := X
  obtain ⟨hx, hb, hml, hown, hts, hnw, hK, hlk, hA, hR⟩ := C
  intro H locs ls hP hD hS hl
  refine lv_aload hx hb d (hl.2.2 (7, .ref x) ((jl0_mem _ _ _).mpr ⟨7, rfl, by omega⟩)) ?_
  exact kk H locs ls hP hD hS hl
theorem jw_aload_8 {a0 a1 a2 a3 a4 a5 a6 a7 : Option Value} {x : Nat} {t : List (Option Value)} (C : JC G X rm cc own nL) (d : decode cc pc = .ok (.aload 8, 2)) (kk : JW G X k n w (pc + 2) (a0 :: a1 :: a2 :: a3 :: a4 :: a5 :: a6 :: a7 :: some (.ref x) :: t) (.ref x :: rest)) : JW G X k n w (pc) (a0 :: a1 :: a2 :: a3 :: a4 :: a5 :: a6 :: a7 :: some (.ref x) :: t) (rest) := by
  obtain ⟨p, l, e, R, s, m, args, below, meth, c, Q, A⟩ := X
  obtain ⟨hx, hb, hml, hown, hts, hnw, hK, hlk, hA, hR⟩ := C
  intro H locs ls hP hD hS hl
  refine lv_aload hx hb d (hl.2.2 (8, .ref x) ((jl0_mem _ _ _).mpr ⟨8, rfl, by omega⟩)) ?_
  exact kk H locs ls hP hD hS hl
theorem jw_astore_0 {b0 : Option Value} {x : Nat} {t : List (Option Value)} (C : JC G X rm cc own nL) (d : decode cc pc = .ok (.astore_n 0, 1)) (kk : JW G X k n w (pc + 1) (some (.ref x) :: t) (rest)) : JW G X k n w (pc) (b0 :: t) (.ref x :: rest) := by
  obtain ⟨p, l, e, R, s, m, args, below, meth, c, Q, A⟩ := X
  obtain ⟨hx, hb, hml, hown, hts, hnw, hK, hlk, hA, hR⟩ := C
  intro H locs ls hP hD hS hl
  refine lv_astore_n hx hb d rfl hl (by simp only [List.length_cons]; omega) rfl (fun ls2 h2 => ?_)
  exact kk H locs ls2 hP hD hS (by have h3 := jl_store1 (L := b0 :: t) (v := .ref x) (by simp only [List.length_cons]; omega) (fun a h _ => absurd h (Nat.lt_irrefl 0)) h2; exact h3)
theorem jw_astore_1 {a0 b0 : Option Value} {x : Nat} {t : List (Option Value)} (C : JC G X rm cc own nL) (d : decode cc pc = .ok (.astore_n 1, 1)) (hc : jc1 a0 = true) (kk : JW G X k n w (pc + 1) (a0 :: some (.ref x) :: t) (rest)) : JW G X k n w (pc) (a0 :: b0 :: t) (.ref x :: rest) := by
  obtain ⟨p, l, e, R, s, m, args, below, meth, c, Q, A⟩ := X
  obtain ⟨hx, hb, hml, hown, hts, hnw, hK, hlk, hA, hR⟩ := C
  intro H locs ls hP hD hS hl
  refine lv_astore_n hx hb d rfl hl (by simp only [List.length_cons]; omega) rfl (fun ls2 h2 => ?_)
  exact kk H locs ls2 hP hD hS (by have h3 := jl_store1 (L := a0 :: b0 :: t) (v := .ref x) (by simp only [List.length_cons]; omega) (fun a _ h => by cases h; exact hc) h2; exact h3)
theorem jw_astore_2 {a0 a1 b0 : Option Value} {x : Nat} {t : List (Option Value)} (C : JC G X rm cc own nL) (d : decode cc pc = .ok (.astore_n 2, 1)) (hc : jc1 a1 = true) (kk : JW G X k n w (pc + 1) (a0 :: a1 :: some (.ref x) :: t) (rest)) : JW G X k n w (pc) (a0 :: a1 :: b0 :: t) (.ref x :: rest) := by
  obtain ⟨p, l, e, R, s, m, args, below, meth, c, Q, A⟩ := X
  obtain ⟨hx, hb, hml, hown, hts, hnw, hK, hlk, hA, hR⟩ := C
  intro H locs ls hP hD hS hl
  refine lv_astore_n hx hb d rfl hl (by simp only [List.length_cons]; omega) rfl (fun ls2 h2 => ?_)
  exact kk H locs ls2 hP hD hS (by have h3 := jl_store1 (L := a0 :: a1 :: b0 :: t) (v := .ref x) (by simp only [List.length_cons]; omega) (fun a _ h => by cases h; exact hc) h2; exact h3)
theorem jw_astore_3 {a0 a1 a2 b0 : Option Value} {x : Nat} {t : List (Option Value)} (C : JC G X rm cc own nL) (d : decode cc pc = .ok (.astore_n 3, 1)) (hc : jc1 a2 = true) (kk : JW G X k n w (pc + 1) (a0 :: a1 :: a2 :: some (.ref x) :: t) (rest)) : JW G X k n w (pc) (a0 :: a1 :: a2 :: b0 :: t) (.ref x :: rest) := by
  obtain ⟨p, l, e, R, s, m, args, below, meth, c, Q, A⟩ := X
  obtain ⟨hx, hb, hml, hown, hts, hnw, hK, hlk, hA, hR⟩ := C
  intro H locs ls hP hD hS hl
  refine lv_astore_n hx hb d rfl hl (by simp only [List.length_cons]; omega) rfl (fun ls2 h2 => ?_)
  exact kk H locs ls2 hP hD hS (by have h3 := jl_store1 (L := a0 :: a1 :: a2 :: b0 :: t) (v := .ref x) (by simp only [List.length_cons]; omega) (fun a _ h => by cases h; exact hc) h2; exact h3)
theorem jw_astore_4 {a0 a1 a2 a3 b0 : Option Value} {x : Nat} {t : List (Option Value)} (C : JC G X rm cc own nL) (d : decode cc pc = .ok (.astore 4, 2)) (hc : jc1 a3 = true) (kk : JW G X k n w (pc + 2) (a0 :: a1 :: a2 :: a3 :: some (.ref x) :: t) (rest)) : JW G X k n w (pc) (a0 :: a1 :: a2 :: a3 :: b0 :: t) (.ref x :: rest) := by
  obtain ⟨p, l, e, R, s, m, args, below, meth, c, Q, A⟩ := X
  obtain ⟨hx, hb, hml, hown, hts, hnw, hK, hlk, hA, hR⟩ := C
  intro H locs ls hP hD hS hl
  refine lv_astore hx hb d hl (by simp only [List.length_cons]; omega) rfl (fun ls2 h2 => ?_)
  exact kk H locs ls2 hP hD hS (by have h3 := jl_store1 (L := a0 :: a1 :: a2 :: a3 :: b0 :: t) (v := .ref x) (by simp only [List.length_cons]; omega) (fun a _ h => by cases h; exact hc) h2; exact h3)
theorem jw_astore_5 {a0 a1 a2 a3 a4 b0 : Option Value} {x : Nat} {t : List (Option Value)} (C : JC G X rm cc own nL) (d : decode cc pc = .ok (.astore 5, 2)) (hc : jc1 a4 = true) (kk : JW G X k n w (pc + 2) (a0 :: a1 :: a2 :: a3 :: a4 :: some (.ref x) :: t) (rest)) : JW G X k n w (pc) (a0 :: a1 :: a2 :: a3 :: a4 :: b0 :: t) (.ref x :: rest) := by
  obtain ⟨p, l, e, R, s, m, args, below, meth, c, Q, A⟩ := X
  obtain ⟨hx, hb, hml, hown, hts, hnw, hK, hlk, hA, hR⟩ := C
  intro H locs ls hP hD hS hl
  refine lv_astore hx hb d hl (by simp only [List.length_cons]; omega) rfl (fun ls2 h2 => ?_)
  exact kk H locs ls2 hP hD hS (by have h3 := jl_store1 (L := a0 :: a1 :: a2 :: a3 :: a4 :: b0 :: t) (v := .ref x) (by simp only [List.length_cons]; omega) (fun a _ h => by cases h; exact hc) h2; exact h3)
theorem jw_astore_6 {a0 a1 a2 a3 a4 a5 b0 : Option Value} {x : Nat} {t : List (Option Value)} (C : JC G X rm cc own nL) (d : decode cc pc = .ok (.astore 6, 2)) (hc : jc1 a5 = true) (kk : JW G X k n w (pc + 2) (a0 :: a1 :: a2 :: a3 :: a4 :: a5 :: some (.ref x) :: t) (rest)) : JW G X k n w (pc) (a0 :: a1 :: a2 :: a3 :: a4 :: a5 :: b0 :: t) (.ref x :: rest) := by
  obtain ⟨p, l, e, R, s, m, args, below, meth, c, Q, A⟩ := X
  obtain ⟨hx, hb, hml, hown, hts, hnw, hK, hlk, hA, hR⟩ := C
  intro H locs ls hP hD hS hl
  refine lv_astore hx hb d hl (by simp only [List.length_cons]; omega) rfl (fun ls2 h2 => ?_)
  exact kk H locs ls2 hP hD hS (by have h3 := jl_store1 (L := a0 :: a1 :: a2 :: a3 :: a4 :: a5 :: b0 :: t) (v := .ref x) (by simp only [List.length_cons]; omega) (fun a _ h => by cases h; exact hc) h2; exact h3)
theorem jw_astore_7 {a0 a1 a2 a3 a4 a5 a6 b0 : Option Value} {x : Nat} {t : List (Option Value)} (C : JC G X rm cc own nL) (d : decode cc pc = .ok (.astore 7, 2)) (hc : jc1 a6 = true) (kk : JW G X k n w (pc + 2) (a0 :: a1 :: a2 :: a3 :: a4 :: a5 :: a6 :: some (.ref x) :: t) (rest)) : JW G X k n w (pc) (a0 :: a1 :: a2 :: a3 :: a4 :: a5 :: a6 :: b0 :: t) (.ref x :: rest) := by
  obtain ⟨p, l, e, R, s, m, args, below, meth, c, Q, A⟩ := X
  obtain ⟨hx, hb, hml, hown, hts, hnw, hK, hlk, hA, hR⟩ := C
  intro H locs ls hP hD hS hl
  refine lv_astore hx hb d hl (by simp only [List.length_cons]; omega) rfl (fun ls2 h2 => ?_)
  exact kk H locs ls2 hP hD hS (by have h3 := jl_store1 (L := a0 :: a1 :: a2 :: a3 :: a4 :: a5 :: a6 :: b0 :: t) (v := .ref x) (by simp only [List.length_cons]; omega) (fun a _ h => by cases h; exact hc) h2; exact h3)
theorem jw_astore_8 {a0 a1 a2 a3 a4 a5 a6 a7 b0 : Option Value} {x : Nat} {t : List (Option Value)} (C : JC G X rm cc own nL) (d : decode cc pc = .ok (.astore 8, 2)) (hc : jc1 a7 = true) (kk : JW G X k n w (pc + 2) (a0 :: a1 :: a2 :: a3 :: a4 :: a5 :: a6 :: a7 :: some (.ref x) :: t) (rest)) : JW G X k n w (pc) (a0 :: a1 :: a2 :: a3 :: a4 :: a5 :: a6 :: a7 :: b0 :: t) (.ref x :: rest) := by
  obtain ⟨p, l, e, R, s, m, args, below, meth, c, Q, A⟩ := X
  obtain ⟨hx, hb, hml, hown, hts, hnw, hK, hlk, hA, hR⟩ := C
  intro H locs ls hP hD hS hl
  refine lv_astore hx hb d hl (by simp only [List.length_cons]; omega) rfl (fun ls2 h2 => ?_)
  exact kk H locs ls2 hP hD hS (by have h3 := jl_store1 (L := a0 :: a1 :: a2 :: a3 :: a4 :: a5 :: a6 :: a7 :: b0 :: t) (v := .ref x) (by simp only [List.length_cons]; omega) (fun a _ h => by cases h; exact hc) h2; exact h3)
theorem jw_lload_0 {x : Int64} {t : List (Option Value)} (C : JC G X rm cc own nL) (d : decode cc pc = .ok (.lload_n 0, 1)) (kk : JW G X k n w (pc + 1) (some (.long x) :: t) (.long x :: rest)) : JW G X k n w (pc) (some (.long x) :: t) (rest) := by
  obtain ⟨p, l, e, R, s, m, args, below, meth, c, Q, A⟩ := X
  obtain ⟨hx, hb, hml, hown, hts, hnw, hK, hlk, hA, hR⟩ := C
  intro H locs ls hP hD hS hl
  refine lv_lload_n hx hb d rfl (hl.2.2 (0, .long x) ((jl0_mem _ _ _).mpr ⟨0, rfl, by omega⟩)) ?_
  exact kk H locs ls hP hD hS hl
theorem jw_lload_1 {a0 : Option Value} {x : Int64} {t : List (Option Value)} (C : JC G X rm cc own nL) (d : decode cc pc = .ok (.lload_n 1, 1)) (kk : JW G X k n w (pc + 1) (a0 :: some (.long x) :: t) (.long x :: rest)) : JW G X k n w (pc) (a0 :: some (.long x) :: t) (rest) := by
  obtain ⟨p, l, e, R, s, m, args, below, meth, c, Q, A⟩ := X
  obtain ⟨hx, hb, hml, hown, hts, hnw, hK, hlk, hA, hR⟩ := C
  intro H locs ls hP hD hS hl
  refine lv_lload_n hx hb d rfl (hl.2.2 (1, .long x) ((jl0_mem _ _ _).mpr ⟨1, rfl, by omega⟩)) ?_
  exact kk H locs ls hP hD hS hl
theorem jw_lload_2 {a0 a1 : Option Value} {x : Int64} {t : List (Option Value)} (C : JC G X rm cc own nL) (d : decode cc pc = .ok (.lload_n 2, 1)) (kk : JW G X k n w (pc + 1) (a0 :: a1 :: some (.long x) :: t) (.long x :: rest)) : JW G X k n w (pc) (a0 :: a1 :: some (.long x) :: t) (rest) := by
  obtain ⟨p, l, e, R, s, m, args, below, meth, c, Q, A⟩ := X
  obtain ⟨hx, hb, hml, hown, hts, hnw, hK, hlk, hA, hR⟩ := C
  intro H locs ls hP hD hS hl
  refine lv_lload_n hx hb d rfl (hl.2.2 (2, .long x) ((jl0_mem _ _ _).mpr ⟨2, rfl, by omega⟩)) ?_
  exact kk H locs ls hP hD hS hl
theorem jw_lload_3 {a0 a1 a2 : Option Value} {x : Int64} {t : List (Option Value)} (C : JC G X rm cc own nL) (d : decode cc pc = .ok (.lload_n 3, 1)) (kk : JW G X k n w (pc + 1) (a0 :: a1 :: a2 :: some (.long x) :: t) (.long x :: rest)) : JW G X k n w (pc) (a0 :: a1 :: a2 :: some (.long x) :: t) (rest) := by
  obtain ⟨p, l, e, R, s, m, args, below, meth, c, Q, A⟩ := X
  obtain ⟨hx, hb, hml, hown, hts, hnw, hK, hlk, hA, hR⟩ := C
  intro H locs ls hP hD hS hl
  refine lv_lload_n hx hb d rfl (hl.2.2 (3, .long x) ((jl0_mem _ _ _).mpr ⟨3, rfl, by omega⟩)) ?_
  exact kk H locs ls hP hD hS hl
theorem jw_lload_4 {a0 a1 a2 a3 : Option Value} {x : Int64} {t : List (Option Value)} (C : JC G X rm cc own nL) (d : decode cc pc = .ok (.lload 4, 2)) (kk : JW G X k n w (pc + 2) (a0 :: a1 :: a2 :: a3 :: some (.long x) :: t) (.long x :: rest)) : JW G X k n w (pc) (a0 :: a1 :: a2 :: a3 :: some (.long x) :: t) (rest) := by
  obtain ⟨p, l, e, R, s, m, args, below, meth, c, Q, A⟩ := X
  obtain ⟨hx, hb, hml, hown, hts, hnw, hK, hlk, hA, hR⟩ := C
  intro H locs ls hP hD hS hl
  refine lv_lload hx hb d (hl.2.2 (4, .long x) ((jl0_mem _ _ _).mpr ⟨4, rfl, by omega⟩)) ?_
  exact kk H locs ls hP hD hS hl
theorem jw_lload_5 {a0 a1 a2 a3 a4 : Option Value} {x : Int64} {t : List (Option Value)} (C : JC G X rm cc own nL) (d : decode cc pc = .ok (.lload 5, 2)) (kk : JW G X k n w (pc + 2) (a0 :: a1 :: a2 :: a3 :: a4 :: some (.long x) :: t) (.long x :: rest)) : JW G X k n w (pc) (a0 :: a1 :: a2 :: a3 :: a4 :: some (.long x) :: t) (rest) := by
  obtain ⟨p, l, e, R, s, m, args, below, meth, c, Q, A⟩ := X
  obtain ⟨hx, hb, hml, hown, hts, hnw, hK, hlk, hA, hR⟩ := C
  intro H locs ls hP hD hS hl
  refine lv_lload hx hb d (hl.2.2 (5, .long x) ((jl0_mem _ _ _).mpr ⟨5, rfl, by omega⟩)) ?_
  exact kk H locs ls hP hD hS hl
theorem jw_lload_6 {a0 a1 a2 a3 a4 a5 : Option Value} {x : Int64} {t : List (Option Value)} (C : JC G X rm cc own nL) (d : decode cc pc = .ok (.lload 6, 2)) (kk : JW G X k n w (pc + 2) (a0 :: a1 :: a2 :: a3 :: a4 :: a5 :: some (.long x) :: t) (.long x :: rest)) : JW G X k n w (pc) (a0 :: a1 :: a2 :: a3 :: a4 :: a5 :: some (.long x) :: t) (rest) := by
  obtain ⟨p, l, e, R, s, m, args, below, meth, c, Q, A⟩ := X
  obtain ⟨hx, hb, hml, hown, hts, hnw, hK, hlk, hA, hR⟩ := C
  intro H locs ls hP hD hS hl
  refine lv_lload hx hb d (hl.2.2 (6, .long x) ((jl0_mem _ _ _).mpr ⟨6, rfl, by omega⟩)) ?_
  exact kk H locs ls hP hD hS hl
theorem jw_lload_7 {a0 a1 a2 a3 a4 a5 a6 : Option Value} {x : Int64} {t : List (Option Value)} (C : JC G X rm cc own nL) (d : decode cc pc = .ok (.lload 7, 2)) (kk : JW G X k n w (pc + 2) (a0 :: a1 :: a2 :: a3 :: a4 :: a5 :: a6 :: some (.long x) :: t) (.long x :: rest)) : JW G X k n w (pc) (a0 :: a1 :: a2 :: a3 :: a4 :: a5 :: a6 :: some (.long x) :: t) (rest) := by
  obtain ⟨p, l, e, R, s, m, args, below, meth, c, Q, A⟩ := X
  obtain ⟨hx, hb, hml, hown, hts, hnw, hK, hlk, hA, hR⟩ := C
  intro H locs ls hP hD hS hl
  refine lv_lload hx hb d (hl.2.2 (7, .long x) ((jl0_mem _ _ _).mpr ⟨7, rfl, by omega⟩)) ?_
  exact kk H locs ls hP hD hS hl
theorem jw_lload_8 {a0 a1 a2 a3 a4 a5 a6 a7 : Option Value} {x : Int64} {t : List (Option Value)} (C : JC G X rm cc own nL) (d : decode cc pc = .ok (.lload 8, 2)) (kk : JW G X k n w (pc + 2) (a0 :: a1 :: a2 :: a3 :: a4 :: a5 :: a6 :: a7 :: some (.long x) :: t) (.long x :: rest)) : JW G X k n w (pc) (a0 :: a1 :: a2 :: a3 :: a4 :: a5 :: a6 :: a7 :: some (.long x) :: t) (rest) := by
  obtain ⟨p, l, e, R, s, m, args, below, meth, c, Q, A⟩ := X
  obtain ⟨hx, hb, hml, hown, hts, hnw, hK, hlk, hA, hR⟩ := C
  intro H locs ls hP hD hS hl
  refine lv_lload hx hb d (hl.2.2 (8, .long x) ((jl0_mem _ _ _).mpr ⟨8, rfl, by omega⟩)) ?_
  exact kk H locs ls hP hD hS hl
theorem jw_lstore_0 {b0 b1 : Option Value} {x : Int64} {t : List (Option Value)} (C : JC G X rm cc own nL) (d : decode cc pc = .ok (.lstore_n 0, 1)) (kk : JW G X k n w (pc + 1) (some (.long x) :: none :: t) (rest)) : JW G X k n w (pc) (b0 :: b1 :: t) (.long x :: rest) := by
  obtain ⟨p, l, e, R, s, m, args, below, meth, c, Q, A⟩ := X
  obtain ⟨hx, hb, hml, hown, hts, hnw, hK, hlk, hA, hR⟩ := C
  intro H locs ls hP hD hS hl
  refine lv_lstore_n hx hb d rfl hl (by simp only [List.length_cons]; omega) rfl (fun ls2 h2 => ?_)
  exact kk H locs ls2 hP hD hS (by have h3 := jl_store2 (L := b0 :: b1 :: t) (v := .long x) (by simp only [List.length_cons]; omega) (fun a h _ => absurd h (Nat.lt_irrefl 0)) h2; exact h3)
theorem jw_lstore_1 {a0 b0 b1 : Option Value} {x : Int64} {t : List (Option Value)} (C : JC G X rm cc own nL) (d : decode cc pc = .ok (.lstore_n 1, 1)) (hc : jc1 a0 = true) (kk : JW G X k n w (pc + 1) (a0 :: some (.long x) :: none :: t) (rest)) : JW G X k n w (pc) (a0 :: b0 :: b1 :: t) (.long x :: rest) := by
  obtain ⟨p, l, e, R, s, m, args, below, meth, c, Q, A⟩ := X
  obtain ⟨hx, hb, hml, hown, hts, hnw, hK, hlk, hA, hR⟩ := C
  intro H locs ls hP hD hS hl
  refine lv_lstore_n hx hb d rfl hl (by simp only [List.length_cons]; omega) rfl (fun ls2 h2 => ?_)
  exact kk H locs ls2 hP hD hS (by have h3 := jl_store2 (L := a0 :: b0 :: b1 :: t) (v := .long x) (by simp only [List.length_cons]; omega) (fun a _ h => by cases h; exact hc) h2; exact h3)
theorem jw_lstore_2 {a0 a1 b0 b1 : Option Value} {x : Int64} {t : List (Option Value)} (C : JC G X rm cc own nL) (d : decode cc pc = .ok (.lstore_n 2, 1)) (hc : jc1 a1 = true) (kk : JW G X k n w (pc + 1) (a0 :: a1 :: some (.long x) :: none :: t) (rest)) : JW G X k n w (pc) (a0 :: a1 :: b0 :: b1 :: t) (.long x :: rest) := by
  obtain ⟨p, l, e, R, s, m, args, below, meth, c, Q, A⟩ := X
  obtain ⟨hx, hb, hml, hown, hts, hnw, hK, hlk, hA, hR⟩ := C
  intro H locs ls hP hD hS hl
  refine lv_lstore_n hx hb d rfl hl (by simp only [List.length_cons]; omega) rfl (fun ls2 h2 => ?_)
  exact kk H locs ls2 hP hD hS (by have h3 := jl_store2 (L := a0 :: a1 :: b0 :: b1 :: t) (v := .long x) (by simp only [List.length_cons]; omega) (fun a _ h => by cases h; exact hc) h2; exact h3)
theorem jw_lstore_3 {a0 a1 a2 b0 b1 : Option Value} {x : Int64} {t : List (Option Value)} (C : JC G X rm cc own nL) (d : decode cc pc = .ok (.lstore_n 3, 1)) (hc : jc1 a2 = true) (kk : JW G X k n w (pc + 1) (a0 :: a1 :: a2 :: some (.long x) :: none :: t) (rest)) : JW G X k n w (pc) (a0 :: a1 :: a2 :: b0 :: b1 :: t) (.long x :: rest) := by
  obtain ⟨p, l, e, R, s, m, args, below, meth, c, Q, A⟩ := X
  obtain ⟨hx, hb, hml, hown, hts, hnw, hK, hlk, hA, hR⟩ := C
  intro H locs ls hP hD hS hl
  refine lv_lstore_n hx hb d rfl hl (by simp only [List.length_cons]; omega) rfl (fun ls2 h2 => ?_)
  exact kk H locs ls2 hP hD hS (by have h3 := jl_store2 (L := a0 :: a1 :: a2 :: b0 :: b1 :: t) (v := .long x) (by simp only [List.length_cons]; omega) (fun a _ h => by cases h; exact hc) h2; exact h3)
theorem jw_lstore_4 {a0 a1 a2 a3 b0 b1 : Option Value} {x : Int64} {t : List (Option Value)} (C : JC G X rm cc own nL) (d : decode cc pc = .ok (.lstore 4, 2)) (hc : jc1 a3 = true) (kk : JW G X k n w (pc + 2) (a0 :: a1 :: a2 :: a3 :: some (.long x) :: none :: t) (rest)) : JW G X k n w (pc) (a0 :: a1 :: a2 :: a3 :: b0 :: b1 :: t) (.long x :: rest) := by
  obtain ⟨p, l, e, R, s, m, args, below, meth, c, Q, A⟩ := X
  obtain ⟨hx, hb, hml, hown, hts, hnw, hK, hlk, hA, hR⟩ := C
  intro H locs ls hP hD hS hl
  refine lv_lstore hx hb d hl (by simp only [List.length_cons]; omega) rfl (fun ls2 h2 => ?_)
  exact kk H locs ls2 hP hD hS (by have h3 := jl_store2 (L := a0 :: a1 :: a2 :: a3 :: b0 :: b1 :: t) (v := .long x) (by simp only [List.length_cons]; omega) (fun a _ h => by cases h; exact hc) h2; exact h3)
theorem jw_lstore_5 {a0 a1 a2 a3 a4 b0 b1 : Option Value} {x : Int64} {t : List (Option Value)} (C : JC G X rm cc own nL) (d : decode cc pc = .ok (.lstore 5, 2)) (hc : jc1 a4 = true) (kk : JW G X k n w (pc + 2) (a0 :: a1 :: a2 :: a3 :: a4 :: some (.long x) :: none :: t) (rest)) : JW G X k n w (pc) (a0 :: a1 :: a2 :: a3 :: a4 :: b0 :: b1 :: t) (.long x :: rest) := by
  obtain ⟨p, l, e, R, s, m, args, below, meth, c, Q, A⟩ := X
  obtain ⟨hx, hb, hml, hown, hts, hnw, hK, hlk, hA, hR⟩ := C
  intro H locs ls hP hD hS hl
  refine lv_lstore hx hb d hl (by simp only [List.length_cons]; omega) rfl (fun ls2 h2 => ?_)
  exact kk H locs ls2 hP hD hS (by have h3 := jl_store2 (L := a0 :: a1 :: a2 :: a3 :: a4 :: b0 :: b1 :: t) (v := .long x) (by simp only [List.length_cons]; omega) (fun a _ h => by cases h; exact hc) h2; exact h3)
theorem jw_lstore_6 {a0 a1 a2 a3 a4 a5 b0 b1 : Option Value} {x : Int64} {t : List (Option Value)} (C : JC G X rm cc own nL) (d : decode cc pc = .ok (.lstore 6, 2)) (hc : jc1 a5 = true) (kk : JW G X k n w (pc + 2) (a0 :: a1 :: a2 :: a3 :: a4 :: a5 :: some (.long x) :: none :: t) (rest)) : JW G X k n w (pc) (a0 :: a1 :: a2 :: a3 :: a4 :: a5 :: b0 :: b1 :: t) (.long x :: rest) := by
  obtain ⟨p, l, e, R, s, m, args, below, meth, c, Q, A⟩ := X
  obtain ⟨hx, hb, hml, hown, hts, hnw, hK, hlk, hA, hR⟩ := C
  intro H locs ls hP hD hS hl
  refine lv_lstore hx hb d hl (by simp only [List.length_cons]; omega) rfl (fun ls2 h2 => ?_)
  exact kk H locs ls2 hP hD hS (by have h3 := jl_store2 (L := a0 :: a1 :: a2 :: a3 :: a4 :: a5 :: b0 :: b1 :: t) (v := .long x) (by simp only [List.length_cons]; omega) (fun a _ h => by cases h; exact hc) h2; exact h3)
theorem jw_lstore_7 {a0 a1 a2 a3 a4 a5 a6 b0 b1 : Option Value} {x : Int64} {t : List (Option Value)} (C : JC G X rm cc own nL) (d : decode cc pc = .ok (.lstore 7, 2)) (hc : jc1 a6 = true) (kk : JW G X k n w (pc + 2) (a0 :: a1 :: a2 :: a3 :: a4 :: a5 :: a6 :: some (.long x) :: none :: t) (rest)) : JW G X k n w (pc) (a0 :: a1 :: a2 :: a3 :: a4 :: a5 :: a6 :: b0 :: b1 :: t) (.long x :: rest) := by
  obtain ⟨p, l, e, R, s, m, args, below, meth, c, Q, A⟩ := X
  obtain ⟨hx, hb, hml, hown, hts, hnw, hK, hlk, hA, hR⟩ := C
  intro H locs ls hP hD hS hl
  refine lv_lstore hx hb d hl (by simp only [List.length_cons]; omega) rfl (fun ls2 h2 => ?_)
  exact kk H locs ls2 hP hD hS (by have h3 := jl_store2 (L := a0 :: a1 :: a2 :: a3 :: a4 :: a5 :: a6 :: b0 :: b1 :: t) (v := .long x) (by simp only [List.length_cons]; omega) (fun a _ h => by cases h; exact hc) h2; exact h3)
theorem jw_lstore_8 {a0 a1 a2 a3 a4 a5 a6 a7 b0 b1 : Option Value} {x : Int64} {t : List (Option Value)} (C : JC G X rm cc own nL) (d : decode cc pc = .ok (.lstore 8, 2)) (hc : jc1 a7 = true) (kk : JW G X k n w (pc + 2) (a0 :: a1 :: a2 :: a3 :: a4 :: a5 :: a6 :: a7 :: some (.long x) :: none :: t) (rest)) : JW G X k n w (pc) (a0 :: a1 :: a2 :: a3 :: a4 :: a5 :: a6 :: a7 :: b0 :: b1 :: t) (.long x :: rest) := by
  obtain ⟨p, l, e, R, s, m, args, below, meth, c, Q, A⟩ := X
  obtain ⟨hx, hb, hml, hown, hts, hnw, hK, hlk, hA, hR⟩ := C
  intro H locs ls hP hD hS hl
  refine lv_lstore hx hb d hl (by simp only [List.length_cons]; omega) rfl (fun ls2 h2 => ?_)
  exact kk H locs ls2 hP hD hS (by have h3 := jl_store2 (L := a0 :: a1 :: a2 :: a3 :: a4 :: a5 :: a6 :: a7 :: b0 :: b1 :: t) (v := .long x) (by simp only [List.length_cons]; omega) (fun a _ h => by cases h; exact hc) h2; exact h3)
theorem jw_dload_0 {x : UInt64} {t : List (Option Value)} (C : JC G X rm cc own nL) (d : decode cc pc = .ok (.dload_n 0, 1)) (kk : JW G X k n w (pc + 1) (some (.double x) :: t) (.double x :: rest)) : JW G X k n w (pc) (some (.double x) :: t) (rest) := by
  obtain ⟨p, l, e, R, s, m, args, below, meth, c, Q, A⟩ := X
  obtain ⟨hx, hb, hml, hown, hts, hnw, hK, hlk, hA, hR⟩ := C
  intro H locs ls hP hD hS hl
  refine lv_dload_n hx hb d rfl (hl.2.2 (0, .double x) ((jl0_mem _ _ _).mpr ⟨0, rfl, by omega⟩)) ?_
  exact kk H locs ls hP hD hS hl
theorem jw_dload_1 {a0 : Option Value} {x : UInt64} {t : List (Option Value)} (C : JC G X rm cc own nL) (d : decode cc pc = .ok (.dload_n 1, 1)) (kk : JW G X k n w (pc + 1) (a0 :: some (.double x) :: t) (.double x :: rest)) : JW G X k n w (pc) (a0 :: some (.double x) :: t) (rest) := by
  obtain ⟨p, l, e, R, s, m, args, below, meth, c, Q, A⟩ := X
  obtain ⟨hx, hb, hml, hown, hts, hnw, hK, hlk, hA, hR⟩ := C
  intro H locs ls hP hD hS hl
  refine lv_dload_n hx hb d rfl (hl.2.2 (1, .double x) ((jl0_mem _ _ _).mpr ⟨1, rfl, by omega⟩)) ?_
  exact kk H locs ls hP hD hS hl
theorem jw_dload_2 {a0 a1 : Option Value} {x : UInt64} {t : List (Option Value)} (C : JC G X rm cc own nL) (d : decode cc pc = .ok (.dload_n 2, 1)) (kk : JW G X k n w (pc + 1) (a0 :: a1 :: some (.double x) :: t) (.double x :: rest)) : JW G X k n w (pc) (a0 :: a1 :: some (.double x) :: t) (rest) := by
  obtain ⟨p, l, e, R, s, m, args, below, meth, c, Q, A⟩ := X
  obtain ⟨hx, hb, hml, hown, hts, hnw, hK, hlk, hA, hR⟩ := C
  intro H locs ls hP hD hS hl
  refine lv_dload_n hx hb d rfl (hl.2.2 (2, .double x) ((jl0_mem _ _ _).mpr ⟨2, rfl, by omega⟩)) ?_
  exact kk H locs ls hP hD hS hl
theorem jw_dload_3 {a0 a1 a2 : Option Value} {x : UInt64} {t : List (Option Value)} (C : JC G X rm cc own nL) (d : decode cc pc = .ok (.dload_n 3, 1)) (kk : JW G X k n w (pc + 1) (a0 :: a1 :: a2 :: some (.double x) :: t) (.double x :: rest)) : JW G X k n w (pc) (a0 :: a1 :: a2 :: some (.double x) :: t) (rest) := by
  obtain ⟨p, l, e, R, s, m, args, below, meth, c, Q, A⟩ := X
  obtain ⟨hx, hb, hml, hown, hts, hnw, hK, hlk, hA, hR⟩ := C
  intro H locs ls hP hD hS hl
  refine lv_dload_n hx hb d rfl (hl.2.2 (3, .double x) ((jl0_mem _ _ _).mpr ⟨3, rfl, by omega⟩)) ?_
  exact kk H locs ls hP hD hS hl
theorem jw_dload_4 {a0 a1 a2 a3 : Option Value} {x : UInt64} {t : List (Option Value)} (C : JC G X rm cc own nL) (d : decode cc pc = .ok (.dload 4, 2)) (kk : JW G X k n w (pc + 2) (a0 :: a1 :: a2 :: a3 :: some (.double x) :: t) (.double x :: rest)) : JW G X k n w (pc) (a0 :: a1 :: a2 :: a3 :: some (.double x) :: t) (rest) := by
  obtain ⟨p, l, e, R, s, m, args, below, meth, c, Q, A⟩ := X
  obtain ⟨hx, hb, hml, hown, hts, hnw, hK, hlk, hA, hR⟩ := C
  intro H locs ls hP hD hS hl
  refine lv_dload hx hb d (hl.2.2 (4, .double x) ((jl0_mem _ _ _).mpr ⟨4, rfl, by omega⟩)) ?_
  exact kk H locs ls hP hD hS hl
theorem jw_dload_5 {a0 a1 a2 a3 a4 : Option Value} {x : UInt64} {t : List (Option Value)} (C : JC G X rm cc own nL) (d : decode cc pc = .ok (.dload 5, 2)) (kk : JW G X k n w (pc + 2) (a0 :: a1 :: a2 :: a3 :: a4 :: some (.double x) :: t) (.double x :: rest)) : JW G X k n w (pc) (a0 :: a1 :: a2 :: a3 :: a4 :: some (.double x) :: t) (rest) := by
  obtain ⟨p, l, e, R, s, m, args, below, meth, c, Q, A⟩ := X
  obtain ⟨hx, hb, hml, hown, hts, hnw, hK, hlk, hA, hR⟩ := C
  intro H locs ls hP hD hS hl
  refine lv_dload hx hb d (hl.2.2 (5, .double x) ((jl0_mem _ _ _).mpr ⟨5, rfl, by omega⟩)) ?_
  exact kk H locs ls hP hD hS hl
theorem jw_dload_6 {a0 a1 a2 a3 a4 a5 : Option Value} {x : UInt64} {t : List (Option Value)} (C : JC G X rm cc own nL) (d : decode cc pc = .ok (.dload 6, 2)) (kk : JW G X k n w (pc + 2) (a0 :: a1 :: a2 :: a3 :: a4 :: a5 :: some (.double x) :: t) (.double x :: rest)) : JW G X k n w (pc) (a0 :: a1 :: a2 :: a3 :: a4 :: a5 :: some (.double x) :: t) (rest) := by
  obtain ⟨p, l, e, R, s, m, args, below, meth, c, Q, A⟩ := X
  obtain ⟨hx, hb, hml, hown, hts, hnw, hK, hlk, hA, hR⟩ := C
  intro H locs ls hP hD hS hl
  refine lv_dload hx hb d (hl.2.2 (6, .double x) ((jl0_mem _ _ _).mpr ⟨6, rfl, by omega⟩)) ?_
  exact kk H locs ls hP hD hS hl
theorem jw_dload_7 {a0 a1 a2 a3 a4 a5 a6 : Option Value} {x : UInt64} {t : List (Option Value)} (C : JC G X rm cc own nL) (d : decode cc pc = .ok (.dload 7, 2)) (kk : JW G X k n w (pc + 2) (a0 :: a1 :: a2 :: a3 :: a4 :: a5 :: a6 :: some (.double x) :: t) (.double x :: rest)) : JW G X k n w (pc) (a0 :: a1 :: a2 :: a3 :: a4 :: a5 :: a6 :: some (.double x) :: t) (rest) := by
  obtain ⟨p, l, e, R, s, m, args, below, meth, c, Q, A⟩ := X
  obtain ⟨hx, hb, hml, hown, hts, hnw, hK, hlk, hA, hR⟩ := C
  intro H locs ls hP hD hS hl
  refine lv_dload hx hb d (hl.2.2 (7, .double x) ((jl0_mem _ _ _).mpr ⟨7, rfl, by omega⟩)) ?_
  exact kk H locs ls hP hD hS hl
theorem jw_dload_8 {a0 a1 a2 a3 a4 a5 a6 a7 : Option Value} {x : UInt64} {t : List (Option Value)} (C : JC G X rm cc own nL) (d : decode cc pc = .ok (.dload 8, 2)) (kk : JW G X k n w (pc + 2) (a0 :: a1 :: a2 :: a3 :: a4 :: a5 :: a6 :: a7 :: some (.double x) :: t) (.double x :: rest)) : JW G X k n w (pc) (a0 :: a1 :: a2 :: a3 :: a4 :: a5 :: a6 :: a7 :: some (.double x) :: t) (rest) := by
  obtain ⟨p, l, e, R, s, m, args, below, meth, c, Q, A⟩ := X
  obtain ⟨hx, hb, hml, hown, hts, hnw, hK, hlk, hA, hR⟩ := C
  intro H locs ls hP hD hS hl
  refine lv_dload hx hb d (hl.2.2 (8, .double x) ((jl0_mem _ _ _).mpr ⟨8, rfl, by omega⟩)) ?_
  exact kk H locs ls hP hD hS hl
theorem jw_dstore_0 {b0 b1 : Option Value} {x : UInt64} {t : List (Option Value)} (C : JC G X rm cc own nL) (d : decode cc pc = .ok (.dstore_n 0, 1)) (kk : JW G X k n w (pc + 1) (some (.double x) :: none :: t) (rest)) : JW G X k n w (pc) (b0 :: b1 :: t) (.double x :: rest) := by
  obtain ⟨p, l, e, R, s, m, args, below, meth, c, Q, A⟩ := X
  obtain ⟨hx, hb, hml, hown, hts, hnw, hK, hlk, hA, hR⟩ := C
  intro H locs ls hP hD hS hl
  refine lv_dstore_n hx hb d rfl hl (by simp only [List.length_cons]; omega) rfl (fun ls2 h2 => ?_)
  exact kk H locs ls2 hP hD hS (by have h3 := jl_store2 (L := b0 :: b1 :: t) (v := .double x) (by simp only [List.length_cons]; omega) (fun a h _ => absurd h (Nat.lt_irrefl 0)) h2; exact h3)
theorem jw_dstore_1 {a0 b0 b1 : Option Value} {x : UInt64} {t : List (Option Value)} (C : JC G X rm cc own nL) (d : decode cc pc = .ok (.dstore_n 1, 1)) (hc : jc1 a0 = true) (kk : JW G X k n w (pc + 1) (a0 :: some (.double x) :: none :: t) (rest)) : JW G X k n w (pc) (a0 :: b0 :: b1 :: t) (.double x :: rest) := by
  obtain ⟨p, l, e, R, s, m, args, below, meth, c, Q, A⟩ := X
  obtain ⟨hx, hb, hml, hown, hts, hnw, hK, hlk, hA, hR⟩ := C
  intro H locs ls hP hD hS hl
  refine lv_dstore_n hx hb d rfl hl (by simp only [List.length_cons]; omega) rfl (fun ls2 h2 => ?_)
  exact kk H locs ls2 hP hD hS (by have h3 := jl_store2 (L := a0 :: b0 :: b1 :: t) (v := .double x) (by simp only [List.length_cons]; omega) (fun a _ h => by cases h; exact hc) h2; exact h3)
theorem jw_dstore_2 {a0 a1 b0 b1 : Option Value} {x : UInt64} {t : List (Option Value)} (C : JC G X rm cc own nL) (d : decode cc pc = .ok (.dstore_n 2, 1)) (hc : jc1 a1 = true) (kk : JW G X k n w (pc + 1) (a0 :: a1 :: some (.double x) :: none :: t) (rest)) : JW G X k n w (pc) (a0 :: a1 :: b0 :: b1 :: t) (.double x :: rest) := by
  obtain ⟨p, l, e, R, s, m, args, below, meth, c, Q, A⟩ := X
  obtain ⟨hx, hb, hml, hown, hts, hnw, hK, hlk, hA, hR⟩ := C
  intro H locs ls hP hD hS hl
  refine lv_dstore_n hx hb d rfl hl (by simp only [List.length_cons]; omega) rfl (fun ls2 h2 => ?_)
  exact kk H locs ls2 hP hD hS (by have h3 := jl_store2 (L := a0 :: a1 :: b0 :: b1 :: t) (v := .double x) (by simp only [List.length_cons]; omega) (fun a _ h => by cases h; exact hc) h2; exact h3)
theorem jw_dstore_3 {a0 a1 a2 b0 b1 : Option Value} {x : UInt64} {t : List (Option Value)} (C : JC G X rm cc own nL) (d : decode cc pc = .ok (.dstore_n 3, 1)) (hc : jc1 a2 = true) (kk : JW G X k n w (pc + 1) (a0 :: a1 :: a2 :: some (.double x) :: none :: t) (rest)) : JW G X k n w (pc) (a0 :: a1 :: a2 :: b0 :: b1 :: t) (.double x :: rest) := by
  obtain ⟨p, l, e, R, s, m, args, below, meth, c, Q, A⟩ := X
  obtain ⟨hx, hb, hml, hown, hts, hnw, hK, hlk, hA, hR⟩ := C
  intro H locs ls hP hD hS hl
  refine lv_dstore_n hx hb d rfl hl (by simp only [List.length_cons]; omega) rfl (fun ls2 h2 => ?_)
  exact kk H locs ls2 hP hD hS (by have h3 := jl_store2 (L := a0 :: a1 :: a2 :: b0 :: b1 :: t) (v := .double x) (by simp only [List.length_cons]; omega) (fun a _ h => by cases h; exact hc) h2; exact h3)
theorem jw_dstore_4 {a0 a1 a2 a3 b0 b1 : Option Value} {x : UInt64} {t : List (Option Value)} (C : JC G X rm cc own nL) (d : decode cc pc = .ok (.dstore 4, 2)) (hc : jc1 a3 = true) (kk : JW G X k n w (pc + 2) (a0 :: a1 :: a2 :: a3 :: some (.double x) :: none :: t) (rest)) : JW G X k n w (pc) (a0 :: a1 :: a2 :: a3 :: b0 :: b1 :: t) (.double x :: rest) := by
  obtain ⟨p, l, e, R, s, m, args, below, meth, c, Q, A⟩ := X
  obtain ⟨hx, hb, hml, hown, hts, hnw, hK, hlk, hA, hR⟩ := C
  intro H locs ls hP hD hS hl
  refine lv_dstore hx hb d hl (by simp only [List.length_cons]; omega) rfl (fun ls2 h2 => ?_)
  exact kk H locs ls2 hP hD hS (by have h3 := jl_store2 (L := a0 :: a1 :: a2 :: a3 :: b0 :: b1 :: t) (v := .double x) (by simp only [List.length_cons]; omega) (fun a _ h => by cases h; exact hc) h2; exact h3)
theorem jw_dstore_5 {a0 a1 a2 a3 a4 b0 b1 : Option Value} {x : UInt64} {t : List (Option Value)} (C : JC G X rm cc own nL) (d : decode cc pc = .ok (.dstore 5, 2)) (hc : jc1 a4 = true) (kk : JW G X k n w (pc + 2) (a0 :: a1 :: a2 :: a3 :: a4 :: some (.double x) :: none :: t) (rest)) : JW G X k n w (pc) (a0 :: a1 :: a2 :: a3 :: a4 :: b0 :: b1 :: t) (.double x :: rest) := by
  obtain ⟨p, l, e, R, s, m, args, below, meth, c, Q, A⟩ := X
  obtain ⟨hx, hb, hml, hown, hts, hnw, hK, hlk, hA, hR⟩ := C
  intro H locs ls hP hD hS hl
  refine lv_dstore hx hb d hl (by simp only [List.length_cons]; omega) rfl (fun ls2 h2 => ?_)
  exact kk H locs ls2 hP hD hS (by have h3 := jl_store2 (L := a0 :: a1 :: a2 :: a3 :: a4 :: b0 :: b1 :: t) (v := .double x) (by simp only [List.length_cons]; omega) (fun a _ h => by cases h; exact hc) h2; exact h3)
theorem jw_dstore_6 {a0 a1 a2 a3 a4 a5 b0 b1 : Option Value} {x : UInt64} {t : List (Option Value)} (C : JC G X rm cc own nL) (d : decode cc pc = .ok (.dstore 6, 2)) (hc : jc1 a5 = true) (kk : JW G X k n w (pc + 2) (a0 :: a1 :: a2 :: a3 :: a4 :: a5 :: some (.double x) :: none :: t) (rest)) : JW G X k n w (pc) (a0 :: a1 :: a2 :: a3 :: a4 :: a5 :: b0 :: b1 :: t) (.double x :: rest) := by
  obtain ⟨p, l, e, R, s, m, args, below, meth, c, Q, A⟩ := X
  obtain ⟨hx, hb, hml, hown, hts, hnw, hK, hlk, hA, hR⟩ := C
  intro H locs ls hP hD hS hl
  refine lv_dstore hx hb d hl (by simp only [List.length_cons]; omega) rfl (fun ls2 h2 => ?_)
  exact kk H locs ls2 hP hD hS (by have h3 := jl_store2 (L := a0 :: a1 :: a2 :: a3 :: a4 :: a5 :: b0 :: b1 :: t) (v := .double x) (by simp only [List.length_cons]; omega) (fun a _ h => by cases h; exact hc) h2; exact h3)
theorem jw_dstore_7 {a0 a1 a2 a3 a4 a5 a6 b0 b1 : Option Value} {x : UInt64} {t : List (Option Value)} (C : JC G X rm cc own nL) (d : decode cc pc = .ok (.dstore 7, 2)) (hc : jc1 a6 = true) (kk : JW G X k n w (pc + 2) (a0 :: a1 :: a2 :: a3 :: a4 :: a5 :: a6 :: some (.double x) :: none :: t) (rest)) : JW G X k n w (pc) (a0 :: a1 :: a2 :: a3 :: a4 :: a5 :: a6 :: b0 :: b1 :: t) (.double x :: rest) := by
  obtain ⟨p, l, e, R, s, m, args, below, meth, c, Q, A⟩ := X
  obtain ⟨hx, hb, hml, hown, hts, hnw, hK, hlk, hA, hR⟩ := C
  intro H locs ls hP hD hS hl
  refine lv_dstore hx hb d hl (by simp only [List.length_cons]; omega) rfl (fun ls2 h2 => ?_)
  exact kk H locs ls2 hP hD hS (by have h3 := jl_store2 (L := a0 :: a1 :: a2 :: a3 :: a4 :: a5 :: a6 :: b0 :: b1 :: t) (v := .double x) (by simp only [List.length_cons]; omega) (fun a _ h => by cases h; exact hc) h2; exact h3)
theorem jw_dstore_8 {a0 a1 a2 a3 a4 a5 a6 a7 b0 b1 : Option Value} {x : UInt64} {t : List (Option Value)} (C : JC G X rm cc own nL) (d : decode cc pc = .ok (.dstore 8, 2)) (hc : jc1 a7 = true) (kk : JW G X k n w (pc + 2) (a0 :: a1 :: a2 :: a3 :: a4 :: a5 :: a6 :: a7 :: some (.double x) :: none :: t) (rest)) : JW G X k n w (pc) (a0 :: a1 :: a2 :: a3 :: a4 :: a5 :: a6 :: a7 :: b0 :: b1 :: t) (.double x :: rest) := by
  obtain ⟨p, l, e, R, s, m, args, below, meth, c, Q, A⟩ := X
  obtain ⟨hx, hb, hml, hown, hts, hnw, hK, hlk, hA, hR⟩ := C
  intro H locs ls hP hD hS hl
  refine lv_dstore hx hb d hl (by simp only [List.length_cons]; omega) rfl (fun ls2 h2 => ?_)
  exact kk H locs ls2 hP hD hS (by have h3 := jl_store2 (L := a0 :: a1 :: a2 :: a3 :: a4 :: a5 :: a6 :: a7 :: b0 :: b1 :: t) (v := .double x) (by simp only [List.length_cons]; omega) (fun a _ h => by cases h; exact hc) h2; exact h3)
theorem jw_iinc_0 {a z : Int} {t : List (Option Value)} (C : JC G X rm cc own nL) (d : decode cc pc = .ok (.iinc 0 z, 3)) (kk : JW G X k n w (pc + 3) (some (.int (iI (a + z))) :: t) (rest)) : JW G X k n w (pc) (some (.int (iI a)) :: t) (rest) := by
  obtain ⟨p, l, e, R, s, m, args, below, meth, c, Q, A⟩ := X
  obtain ⟨hx, hb, hml, hown, hts, hnw, hK, hlk, hA, hR⟩ := C
  intro H locs ls hP hD hS hl
  obtain ⟨j, hj⟩ := List.getElem?_of_mem ((jl0_mem (some (.int (iI a)) :: t) 0 (0, Value.int (iI a))).mpr ⟨0, rfl, by omega⟩)
  refine lv_iinc (v := iI (a + z)) hx hb d hl (k := j) hj (by rw [← iI_add]; rfl) (by simp only [List.length_cons]; omega) rfl (fun ls2 h2 => ?_)
  exact kk H locs ls2 hP hD hS (by have h3 := jl_store1 (L := some (.int (iI a)) :: t) (v := .int (iI (a + z))) (by simp only [List.length_cons]; omega) (fun a h _ => absurd h (Nat.lt_irrefl 0)) h2; exact h3)
theorem jw_iinc_1 {a0 : Option Value} {a z : Int} {t : List (Option Value)} (C : JC G X rm cc own nL) (d : decode cc pc = .ok (.iinc 1 z, 3)) (hc : jc1 a0 = true) (kk : JW G X k n w (pc + 3) (a0 :: some (.int (iI (a + z))) :: t) (rest)) : JW G X k n w (pc) (a0 :: some (.int (iI a)) :: t) (rest) := by
  obtain ⟨p, l, e, R, s, m, args, below, meth, c, Q, A⟩ := X
  obtain ⟨hx, hb, hml, hown, hts, hnw, hK, hlk, hA, hR⟩ := C
  intro H locs ls hP hD hS hl
  obtain ⟨j, hj⟩ := List.getElem?_of_mem ((jl0_mem (a0 :: some (.int (iI a)) :: t) 0 (1, Value.int (iI a))).mpr ⟨1, rfl, by omega⟩)
  refine lv_iinc (v := iI (a + z)) hx hb d hl (k := j) hj (by rw [← iI_add]; rfl) (by simp only [List.length_cons]; omega) rfl (fun ls2 h2 => ?_)
  exact kk H locs ls2 hP hD hS (by have h3 := jl_store1 (L := a0 :: some (.int (iI a)) :: t) (v := .int (iI (a + z))) (by simp only [List.length_cons]; omega) (fun a _ h => by cases h; exact hc) h2; exact h3)
theorem jw_iinc_2 {a0 a1 : Option Value} {a z : Int} {t : List (Option Value)} (C : JC G X rm cc own nL) (d : decode cc pc = .ok (.iinc 2 z, 3)) (hc : jc1 a1 = true) (kk : JW G X k n w (pc + 3) (a0 :: a1 :: some (.int (iI (a + z))) :: t) (rest)) : JW G X k n w (pc) (a0 :: a1 :: some (.int (iI a)) :: t) (rest) := by
  obtain ⟨p, l, e, R, s, m, args, below, meth, c, Q, A⟩ := X
  obtain ⟨hx, hb, hml, hown, hts, hnw, hK, hlk, hA, hR⟩ := C
  intro H locs ls hP hD hS hl
  obtain ⟨j, hj⟩ := List.getElem?_of_mem ((jl0_mem (a0 :: a1 :: some (.int (iI a)) :: t) 0 (2, Value.int (iI a))).mpr ⟨2, rfl, by omega⟩)
  refine lv_iinc (v := iI (a + z)) hx hb d hl (k := j) hj (by rw [← iI_add]; rfl) (by simp only [List.length_cons]; omega) rfl (fun ls2 h2 => ?_)
  exact kk H locs ls2 hP hD hS (by have h3 := jl_store1 (L := a0 :: a1 :: some (.int (iI a)) :: t) (v := .int (iI (a + z))) (by simp only [List.length_cons]; omega) (fun a _ h => by cases h; exact hc) h2; exact h3)
theorem jw_iinc_3 {a0 a1 a2 : Option Value} {a z : Int} {t : List (Option Value)} (C : JC G X rm cc own nL) (d : decode cc pc = .ok (.iinc 3 z, 3)) (hc : jc1 a2 = true) (kk : JW G X k n w (pc + 3) (a0 :: a1 :: a2 :: some (.int (iI (a + z))) :: t) (rest)) : JW G X k n w (pc) (a0 :: a1 :: a2 :: some (.int (iI a)) :: t) (rest) := by
  obtain ⟨p, l, e, R, s, m, args, below, meth, c, Q, A⟩ := X
  obtain ⟨hx, hb, hml, hown, hts, hnw, hK, hlk, hA, hR⟩ := C
  intro H locs ls hP hD hS hl
  obtain ⟨j, hj⟩ := List.getElem?_of_mem ((jl0_mem (a0 :: a1 :: a2 :: some (.int (iI a)) :: t) 0 (3, Value.int (iI a))).mpr ⟨3, rfl, by omega⟩)
  refine lv_iinc (v := iI (a + z)) hx hb d hl (k := j) hj (by rw [← iI_add]; rfl) (by simp only [List.length_cons]; omega) rfl (fun ls2 h2 => ?_)
  exact kk H locs ls2 hP hD hS (by have h3 := jl_store1 (L := a0 :: a1 :: a2 :: some (.int (iI a)) :: t) (v := .int (iI (a + z))) (by simp only [List.length_cons]; omega) (fun a _ h => by cases h; exact hc) h2; exact h3)
theorem jw_iinc_4 {a0 a1 a2 a3 : Option Value} {a z : Int} {t : List (Option Value)} (C : JC G X rm cc own nL) (d : decode cc pc = .ok (.iinc 4 z, 3)) (hc : jc1 a3 = true) (kk : JW G X k n w (pc + 3) (a0 :: a1 :: a2 :: a3 :: some (.int (iI (a + z))) :: t) (rest)) : JW G X k n w (pc) (a0 :: a1 :: a2 :: a3 :: some (.int (iI a)) :: t) (rest) := by
  obtain ⟨p, l, e, R, s, m, args, below, meth, c, Q, A⟩ := X
  obtain ⟨hx, hb, hml, hown, hts, hnw, hK, hlk, hA, hR⟩ := C
  intro H locs ls hP hD hS hl
  obtain ⟨j, hj⟩ := List.getElem?_of_mem ((jl0_mem (a0 :: a1 :: a2 :: a3 :: some (.int (iI a)) :: t) 0 (4, Value.int (iI a))).mpr ⟨4, rfl, by omega⟩)
  refine lv_iinc (v := iI (a + z)) hx hb d hl (k := j) hj (by rw [← iI_add]; rfl) (by simp only [List.length_cons]; omega) rfl (fun ls2 h2 => ?_)
  exact kk H locs ls2 hP hD hS (by have h3 := jl_store1 (L := a0 :: a1 :: a2 :: a3 :: some (.int (iI a)) :: t) (v := .int (iI (a + z))) (by simp only [List.length_cons]; omega) (fun a _ h => by cases h; exact hc) h2; exact h3)
theorem jw_iinc_5 {a0 a1 a2 a3 a4 : Option Value} {a z : Int} {t : List (Option Value)} (C : JC G X rm cc own nL) (d : decode cc pc = .ok (.iinc 5 z, 3)) (hc : jc1 a4 = true) (kk : JW G X k n w (pc + 3) (a0 :: a1 :: a2 :: a3 :: a4 :: some (.int (iI (a + z))) :: t) (rest)) : JW G X k n w (pc) (a0 :: a1 :: a2 :: a3 :: a4 :: some (.int (iI a)) :: t) (rest) := by
  obtain ⟨p, l, e, R, s, m, args, below, meth, c, Q, A⟩ := X
  obtain ⟨hx, hb, hml, hown, hts, hnw, hK, hlk, hA, hR⟩ := C
  intro H locs ls hP hD hS hl
  obtain ⟨j, hj⟩ := List.getElem?_of_mem ((jl0_mem (a0 :: a1 :: a2 :: a3 :: a4 :: some (.int (iI a)) :: t) 0 (5, Value.int (iI a))).mpr ⟨5, rfl, by omega⟩)
  refine lv_iinc (v := iI (a + z)) hx hb d hl (k := j) hj (by rw [← iI_add]; rfl) (by simp only [List.length_cons]; omega) rfl (fun ls2 h2 => ?_)
  exact kk H locs ls2 hP hD hS (by have h3 := jl_store1 (L := a0 :: a1 :: a2 :: a3 :: a4 :: some (.int (iI a)) :: t) (v := .int (iI (a + z))) (by simp only [List.length_cons]; omega) (fun a _ h => by cases h; exact hc) h2; exact h3)
theorem jw_iinc_6 {a0 a1 a2 a3 a4 a5 : Option Value} {a z : Int} {t : List (Option Value)} (C : JC G X rm cc own nL) (d : decode cc pc = .ok (.iinc 6 z, 3)) (hc : jc1 a5 = true) (kk : JW G X k n w (pc + 3) (a0 :: a1 :: a2 :: a3 :: a4 :: a5 :: some (.int (iI (a + z))) :: t) (rest)) : JW G X k n w (pc) (a0 :: a1 :: a2 :: a3 :: a4 :: a5 :: some (.int (iI a)) :: t) (rest) := by
  obtain ⟨p, l, e, R, s, m, args, below, meth, c, Q, A⟩ := X
  obtain ⟨hx, hb, hml, hown, hts, hnw, hK, hlk, hA, hR⟩ := C
  intro H locs ls hP hD hS hl
  obtain ⟨j, hj⟩ := List.getElem?_of_mem ((jl0_mem (a0 :: a1 :: a2 :: a3 :: a4 :: a5 :: some (.int (iI a)) :: t) 0 (6, Value.int (iI a))).mpr ⟨6, rfl, by omega⟩)
  refine lv_iinc (v := iI (a + z)) hx hb d hl (k := j) hj (by rw [← iI_add]; rfl) (by simp only [List.length_cons]; omega) rfl (fun ls2 h2 => ?_)
  exact kk H locs ls2 hP hD hS (by have h3 := jl_store1 (L := a0 :: a1 :: a2 :: a3 :: a4 :: a5 :: some (.int (iI a)) :: t) (v := .int (iI (a + z))) (by simp only [List.length_cons]; omega) (fun a _ h => by cases h; exact hc) h2; exact h3)
theorem jw_iinc_7 {a0 a1 a2 a3 a4 a5 a6 : Option Value} {a z : Int} {t : List (Option Value)} (C : JC G X rm cc own nL) (d : decode cc pc = .ok (.iinc 7 z, 3)) (hc : jc1 a6 = true) (kk : JW G X k n w (pc + 3) (a0 :: a1 :: a2 :: a3 :: a4 :: a5 :: a6 :: some (.int (iI (a + z))) :: t) (rest)) : JW G X k n w (pc) (a0 :: a1 :: a2 :: a3 :: a4 :: a5 :: a6 :: some (.int (iI a)) :: t) (rest) := by
  obtain ⟨p, l, e, R, s, m, args, below, meth, c, Q, A⟩ := X
  obtain ⟨hx, hb, hml, hown, hts, hnw, hK, hlk, hA, hR⟩ := C
  intro H locs ls hP hD hS hl
  obtain ⟨j, hj⟩ := List.getElem?_of_mem ((jl0_mem (a0 :: a1 :: a2 :: a3 :: a4 :: a5 :: a6 :: some (.int (iI a)) :: t) 0 (7, Value.int (iI a))).mpr ⟨7, rfl, by omega⟩)
  refine lv_iinc (v := iI (a + z)) hx hb d hl (k := j) hj (by rw [← iI_add]; rfl) (by simp only [List.length_cons]; omega) rfl (fun ls2 h2 => ?_)
  exact kk H locs ls2 hP hD hS (by have h3 := jl_store1 (L := a0 :: a1 :: a2 :: a3 :: a4 :: a5 :: a6 :: some (.int (iI a)) :: t) (v := .int (iI (a + z))) (by simp only [List.length_cons]; omega) (fun a _ h => by cases h; exact hc) h2; exact h3)
theorem jw_iinc_8 {a0 a1 a2 a3 a4 a5 a6 a7 : Option Value} {a z : Int} {t : List (Option Value)} (C : JC G X rm cc own nL) (d : decode cc pc = .ok (.iinc 8 z, 3)) (hc : jc1 a7 = true) (kk : JW G X k n w (pc + 3) (a0 :: a1 :: a2 :: a3 :: a4 :: a5 :: a6 :: a7 :: some (.int (iI (a + z))) :: t) (rest)) : JW G X k n w (pc) (a0 :: a1 :: a2 :: a3 :: a4 :: a5 :: a6 :: a7 :: some (.int (iI a)) :: t) (rest) := by
  obtain ⟨p, l, e, R, s, m, args, below, meth, c, Q, A⟩ := X
  obtain ⟨hx, hb, hml, hown, hts, hnw, hK, hlk, hA, hR⟩ := C
  intro H locs ls hP hD hS hl
  obtain ⟨j, hj⟩ := List.getElem?_of_mem ((jl0_mem (a0 :: a1 :: a2 :: a3 :: a4 :: a5 :: a6 :: a7 :: some (.int (iI a)) :: t) 0 (8, Value.int (iI a))).mpr ⟨8, rfl, by omega⟩)
  refine lv_iinc (v := iI (a + z)) hx hb d hl (k := j) hj (by rw [← iI_add]; rfl) (by simp only [List.length_cons]; omega) rfl (fun ls2 h2 => ?_)
  exact kk H locs ls2 hP hD hS (by have h3 := jl_store1 (L := a0 :: a1 :: a2 :: a3 :: a4 :: a5 :: a6 :: a7 :: some (.int (iI a)) :: t) (v := .int (iI (a + z))) (by simp only [List.length_cons]; omega) (fun a _ h => by cases h; exact hc) h2; exact h3)
theorem jw_get {ref cls : String} {T : u_T} {N ci idx : Nat} {a : Nat} {fs : List Value} {v : Value} (hin : ∀ w ∈ u_ws cls T N, w ∈ jAll) (hc : vwCl[ci]? = some (cls, T, N)) (kf : Nat) (hk : kf < N) (hr : (T kf).1 = ref) (C : JC G X rm cc own nL) (hlink : Cond.fieldLink own idx ref (T kf).2.1 (T kf).2.2.1 ∈ jAll)
    (q0 : Nat) (he : w[q0]? = some (a, .inr (ci, fs))) (hv : fs[kf]? = some v) (d : decode cc pc = .ok (.getfield idx, 3)) (kk : JW G X k n w (pc + 3) L (v :: rest)) : JW G X k n w pc L (.ref a :: rest) := by
  obtain ⟨p, l, e, R, s, m, args, below, meth, c, Q, A⟩ := X
  obtain ⟨hx, hb, hml, hown, hts, hnw, hK, hlk, hA, hR⟩ := C
  intro H locs ls hP hD hS hl
  exact va_get hx hb hts hin hown hK hP q0 he hc kf hk (hts _ hlink) (fun x h => by rw [← hr]; exact h) hv d (kk H locs ls hP hD hS hl)
theorem jw_put {ref cls : String} {T : u_T} {N ci idx : Nat} {a : Nat} {fs : List Value} {v : Value} {ty0 : Nat → FieldType} {ty : FieldType} (hin : ∀ w ∈ u_ws cls T N, w ∈ jAll) (hty : ∀ k, k < N → parseFieldDescriptor (T k).2.2.1 = some (ty0 k)) (hnm : ∀ a, a < N → ∀ b, b < N → a ≠ b → (T a).2.1 ≠ (T b).2.1) (hc : vwCl[ci]? = some (cls, T, N)) (kf : Nat) (hk : kf < N) (hr : (T kf).1 = ref) (hfin : (T kf).2.2.2 = false) (hd : parseFieldDescriptor (T kf).2.2.1 = some ty) (C : JC G X rm cc own nL) (hlink : Cond.fieldLink own idx ref (T kf).2.1 (T kf).2.2.1 ∈ jAll)
    (q0 : Nat) (he : w[q0]? = some (a, .inr (ci, fs))) (hn : narrow ty v = v) (hfit : fits ty v = true) (hl : kf < fs.length) (d : decode cc pc = .ok (.putfield idx, 3)) (kk : JW G X k n (w.set q0 (a, .inr (ci, fs.set kf v))) (pc + 3) L rest) : JW G X k n w pc L (v :: .ref a :: rest) := by
  obtain ⟨p, l, e, R, s, m, args, below, meth, c, Q, A⟩ := X
  obtain ⟨hx, hb, hml, hown, hts, hnw, hK, hlk, hA, hR⟩ := C
  intro H locs ls hP hD hS hl2
  exact va_put hx hb hts hin ty0 hty hnm hown hK hP hD hS q0 he hc kf hk (hts _ hlink) (fun x h => by rw [← hr]; exact h) hfin hd hn hfit hl d (fun H1 locs1 hP1 hD1 hS1 => kk H1 locs1 ls hP1 hD1 hS1 hl2)
theorem jw_getN {ref cls host : String} {T : u_T} {N ci idx : Nat} {a : Nat} {fs : List Value} {v : Value} (hin : ∀ w ∈ u_ws cls T N, w ∈ jAll) (hc : vwCl[ci]? = some (cls, T, N)) (kf : Nat) (hk : kf < N) (hr : (T kf).1 = ref) (C : JC G X rm cc own nL) (hlink : Cond.fieldLinkNest own idx ref (T kf).2.1 (T kf).2.2.1 host ∈ jNest)
    (q0 : Nat) (he : w[q0]? = some (a, .inr (ci, fs))) (hv : fs[kf]? = some v) (d : decode cc pc = .ok (.getfield idx, 3)) (kk : JW G X k n w (pc + 3) L (v :: rest)) : JW G X k n w pc L (.ref a :: rest) := by
  obtain ⟨p, l, e, R, s, m, args, below, meth, c, Q, A⟩ := X
  obtain ⟨hx, hb, hml, hown, hts, hnw, hK, hlk, hA, hR⟩ := C
  intro H locs ls hP hD hS hl
  exact va_getN hx hb hts hin hown hK hP q0 he hc kf hk (va_Nw.use (jNest_on hlink) (hnw _ hlink)) (fun x h => by rw [← hr]; exact h) hv d (kk H locs ls hP hD hS hl)
theorem jw_putN {ref cls host : String} {T : u_T} {N ci idx : Nat} {a : Nat} {fs : List Value} {v : Value} {ty0 : Nat → FieldType} {ty : FieldType} (hin : ∀ w ∈ u_ws cls T N, w ∈ jAll) (hty : ∀ k, k < N → parseFieldDescriptor (T k).2.2.1 = some (ty0 k)) (hnm : ∀ a, a < N → ∀ b, b < N → a ≠ b → (T a).2.1 ≠ (T b).2.1) (hc : vwCl[ci]? = some (cls, T, N)) (kf : Nat) (hk : kf < N) (hr : (T kf).1 = ref) (hfin : (T kf).2.2.2 = false) (hd : parseFieldDescriptor (T kf).2.2.1 = some ty) (C : JC G X rm cc own nL) (hlink : Cond.fieldLinkNest own idx ref (T kf).2.1 (T kf).2.2.1 host ∈ jNest)
    (q0 : Nat) (he : w[q0]? = some (a, .inr (ci, fs))) (hn : narrow ty v = v) (hfit : fits ty v = true) (hl : kf < fs.length) (d : decode cc pc = .ok (.putfield idx, 3)) (kk : JW G X k n (w.set q0 (a, .inr (ci, fs.set kf v))) (pc + 3) L rest) : JW G X k n w pc L (v :: .ref a :: rest) := by
  obtain ⟨p, l, e, R, s, m, args, below, meth, c, Q, A⟩ := X
  obtain ⟨hx, hb, hml, hown, hts, hnw, hK, hlk, hA, hR⟩ := C
  intro H locs ls hP hD hS hl2
  exact va_putN hx hb hts hin ty0 hty hnm hown hK hP hD hS q0 he hc kf hk (va_Nw.use (jNest_on hlink) (hnw _ hlink)) (fun x h => by rw [← hr]; exact h) hfin hd hn hfit hl d (fun H1 locs1 hP1 hD1 hS1 => kk H1 locs1 ls hP1 hD1 hS1 hl2)
theorem jw_iald {a N : Nat} {cA : ClassId} {f : Nat → Int} {i : Int} (C : JC G X rm cc own nL) (q0 : Nat) (he : w[q0]? = some (a, .inl (G.2 0, N, .inl (jiI f)))) (j : Nat) (hj : i = (j : Int)) (hn : j < N) (hN : N < 1000000) (d : decode cc pc = .ok (.iaload, 1)) (kk : JW G X k n w (pc + 1) L (.int (iI (f j)) :: rest)) : JW G X k n w (pc) L (.int (iI i) :: .ref a :: rest) := by
  obtain ⟨p, l, e, R, s, m, args, below, meth, c, Q, A⟩ := X
  obtain ⟨hx, hb, hml, hown, hts, hnw, hK, hlk, hA, hR⟩ := C
  intro H locs ls hP hD hS hl
  subst hj
  refine va_iald hx hb hK hP q0 0 he rfl (iI_in hn hN) d ?_
  rw [iI_clamp (Nat.lt_trans hn hN)]
  exact kk H locs ls hP hD hS hl
theorem jw_iald_r {a N : Nat} {cA : ClassId} {f : Nat → Int32} {i : Int} (C : JC G X rm cc own nL) (q0 : Nat) (he : w[q0]? = some (a, .inl (G.2 0, N, .inl (f)))) (j : Nat) (hj : i = (j : Int)) (hn : j < N) (hN : N < 1000000) (d : decode cc pc = .ok (.iaload, 1)) (kk : JW G X k n w (pc + 1) L (.int (f j) :: rest)) : JW G X k n w (pc) L (.int (iI i) :: .ref a :: rest) := by
  obtain ⟨p, l, e, R, s, m, args, below, meth, c, Q, A⟩ := X
  obtain ⟨hx, hb, hml, hown, hts, hnw, hK, hlk, hA, hR⟩ := C
  intro H locs ls hP hD hS hl
  subst hj
  refine va_iald hx hb hK hP q0 0 he rfl (iI_in hn hN) d ?_
  rw [iI_clamp (Nat.lt_trans hn hN)]
  exact kk H locs ls hP hD hS hl
theorem jw_zald {a N : Nat} {cA : ClassId} {f : Nat → Bool} {i : Int} (C : JC G X rm cc own nL) (q0 : Nat) (he : w[q0]? = some (a, .inl (G.2 1, N, .inl (jbF f)))) (j : Nat) (hj : i = (j : Int)) (hn : j < N) (hN : N < 1000000) (d : decode cc pc = .ok (.baload, 1)) (kk : JW G X k n w (pc + 1) L (.int (jb (f j)) :: rest)) : JW G X k n w (pc) L (.int (iI i) :: .ref a :: rest) := by
  obtain ⟨p, l, e, R, s, m, args, below, meth, c, Q, A⟩ := X
  obtain ⟨hx, hb, hml, hown, hts, hnw, hK, hlk, hA, hR⟩ := C
  intro H locs ls hP hD hS hl
  subst hj
  refine va_zald hx hb hK hP q0 1 he rfl (iI_in hn hN) d ?_
  rw [iI_clamp (Nat.lt_trans hn hN)]
  exact kk H locs ls hP hD hS hl
theorem jw_lald {a N : Nat} {f : Nat → Int64} {i : Int} (C : JC G X rm cc own nL) (q0 : Nat) (he : w[q0]? = some (a, .inl (G.2 2, N, .inr (.inl f)))) (j : Nat) (hj : i = (j : Int)) (hn : j < N) (hN : N < 1000000) (d : decode cc pc = .ok (.laload, 1)) (kk : JW G X k n w (pc + 1) L (.long (f j) :: rest)) : JW G X k n w (pc) L (.int (iI i) :: .ref a :: rest) := by
  obtain ⟨p, l, e, R, s, m, args, below, meth, c, Q, A⟩ := X
  obtain ⟨hx, hb, hml, hown, hts, hnw, hK, hlk, hA, hR⟩ := C
  intro H locs ls hP hD hS hl
  subst hj
  refine va_lald hx hb hK hP q0 2 he rfl (iI_in hn hN) d ?_
  rw [iI_clamp (Nat.lt_trans hn hN)]
  exact kk H locs ls hP hD hS hl
theorem jw_iast {a N : Nat} {f : Nat → Int} {i : Int} {x : Int} (C : JC G X rm cc own nL) (q0 : Nat) (he : w[q0]? = some (a, .inl (G.2 0, N, .inl (jiI f)))) (j : Nat) (hj : i = (j : Int)) (hn : j < N) (hN : N < 1000000) (d : decode cc pc = .ok (.iastore, 1)) (kk : JW G X k n (w.set q0 (a, .inl (G.2 0, N, .inl (jiI (updf f j x))))) (pc + 1) L (rest)) : JW G X k n w (pc) L (.int (iI x) :: .int (iI i) :: .ref a :: rest) := by
  obtain ⟨p, l, e, R, s, m, args, below, meth, c, Q, A⟩ := X
  obtain ⟨hx, hb, hml, hown, hts, hnw, hK, hlk, hA, hR⟩ := C
  intro H locs ls hP hD hS hl
  subst hj
  refine va_iast hx hb hK hP hD hS q0 0 he rfl (iI_in hn hN) d (fun H1 locs1 hP1 hD1 hS1 => ?_)
  rw [iI_clamp (Nat.lt_trans hn hN), jiI_upd] at hP1 hD1
  exact kk H1 locs1 ls hP1 hD1 hS1 hl
theorem jw_iast_r {a N : Nat} {f : Nat → Int32} {i : Int} {x : Int32} (C : JC G X rm cc own nL) (q0 : Nat) (he : w[q0]? = some (a, .inl (G.2 0, N, .inl (f)))) (j : Nat) (hj : i = (j : Int)) (hn : j < N) (hN : N < 1000000) (d : decode cc pc = .ok (.iastore, 1)) (kk : JW G X k n (w.set q0 (a, .inl (G.2 0, N, .inl (updf f j x)))) (pc + 1) L (rest)) : JW G X k n w (pc) L (.int (x) :: .int (iI i) :: .ref a :: rest) := by
  obtain ⟨p, l, e, R, s, m, args, below, meth, c, Q, A⟩ := X
  obtain ⟨hx, hb, hml, hown, hts, hnw, hK, hlk, hA, hR⟩ := C
  intro H locs ls hP hD hS hl
  subst hj
  refine va_iast hx hb hK hP hD hS q0 0 he rfl (iI_in hn hN) d (fun H1 locs1 hP1 hD1 hS1 => ?_)
  rw [iI_clamp (Nat.lt_trans hn hN), raw_upd] at hP1 hD1
  exact kk H1 locs1 ls hP1 hD1 hS1 hl
theorem jw_zast {a N : Nat} {f : Nat → Bool} {i : Int} {x : Bool} (C : JC G X rm cc own nL) (q0 : Nat) (he : w[q0]? = some (a, .inl (G.2 1, N, .inl (jbF f)))) (j : Nat) (hj : i = (j : Int)) (hn : j < N) (hN : N < 1000000) (d : decode cc pc = .ok (.bastore, 1)) (kk : JW G X k n (w.set q0 (a, .inl (G.2 1, N, .inl (jbF (updf f j x))))) (pc + 1) L (rest)) : JW G X k n w (pc) L (.int (jb x) :: .int (iI i) :: .ref a :: rest) := by
  obtain ⟨p, l, e, R, s, m, args, below, meth, c, Q, A⟩ := X
  obtain ⟨hx, hb, hml, hown, hts, hnw, hK, hlk, hA, hR⟩ := C
  intro H locs ls hP hD hS hl
  subst hj
  refine va_zast hx hb hK hP hD hS q0 1 he rfl (iI_in hn hN) d (fun H1 locs1 hP1 hD1 hS1 => ?_)
  rw [iI_clamp (Nat.lt_trans hn hN), jbF_upd] at hP1 hD1
  exact kk H1 locs1 ls hP1 hD1 hS1 hl
theorem jw_last {a N : Nat} {f : Nat → Int64} {i : Int} {x : Int64} (C : JC G X rm cc own nL) (q0 : Nat) (he : w[q0]? = some (a, .inl (G.2 2, N, .inr (.inl f)))) (j : Nat) (hj : i = (j : Int)) (hn : j < N) (hN : N < 1000000) (d : decode cc pc = .ok (.lastore, 1)) (kk : JW G X k n (w.set q0 (a, .inl (G.2 2, N, .inr (.inl (updf f j x))))) (pc + 1) L (rest)) : JW G X k n w (pc) L (.long x :: .int (iI i) :: .ref a :: rest) := by
  obtain ⟨p, l, e, R, s, m, args, below, meth, c, Q, A⟩ := X
  obtain ⟨hx, hb, hml, hown, hts, hnw, hK, hlk, hA, hR⟩ := C
  intro H locs ls hP hD hS hl
  subst hj
  refine va_last hx hb hK hP hD hS q0 2 he rfl (iI_in hn hN) d (fun H1 locs1 hP1 hD1 hS1 => ?_)
  rw [iI_clamp (Nat.lt_trans hn hN), updL_upd] at hP1 hD1
  exact kk H1 locs1 ls hP1 hD1 hS1 hl
theorem jw_widen {k2 n2 : Nat} {st : List Value} (h1 : k ≤ k2) (h2 : n ≤ n2) (kk : JW G X k2 n2 w pc L st) : JW G X k n w pc L st := by
  obtain ⟨p, l, e, R, s, m, args, below, meth, c, Q, A⟩ := X
  intro H locs ls hP hD hS hl
  exact W.widen h1 h2 (kk H locs ls hP hD hS hl)
/-- fewer locals are known -/
theorem jw_forget {L2 : List (Option Value)} {st : List Value} (h1 : L2.length = L.length) (h2 : ∀ (j : Nat) (v : Value), L2[j]? = some (some v) → L[j]? = some (some v)) (kk : JW G X k n w pc L2 st) : JW G X k n w pc L st := by
  obtain ⟨p, l, e, R, s, m, args, below, meth, c, Q, A⟩ := X
  intro H locs ls hP hD hS hl
  refine kk H locs ls hP hD hS ⟨hl.1.trans h1.symm, hl.2.1, fun q hq => hl.2.2 q ?_⟩
  obtain ⟨j, h3, h4⟩ := (jl0_mem _ _ _).mp hq
  exact (jl0_mem _ _ _).mpr ⟨j, h2 j _ h3, h4⟩
/-- the world in another order, or a part of it -/
theorem jw_sub {w2 : va_W} {st : List Value} (is : List Nat) (hn : va_nd is = true) (hs : is.map (fun i => w[i]?) = w2.map some) (kk : JW G X k n w2 pc L st) : JW G X k n w pc L st := by
  obtain ⟨p, l, e, R, s, m, args, below, meth, c, Q, A⟩ := X
  intro H locs ls hP hD hS hl
  refine kk H locs ls (hP.sub is ?_) (hD.sub is hn hs) hS hl
  have h := congrArg (List.filterMap id) hs
  rw [List.filterMap_map, List.filterMap_map] at h
  simpa using h
end JR
end
section
/-! THE CLAIM OUT OF ONE WALK OF THE LAW'S BODY. Your part is whole_start (and what it stands on); all else here is the same for every law, but numbers. -/
def R_law : String := "MatchingServiceLaw"
def lw_P (b : Addr) (xs : List Int32) (args : Array Value) (s : State) : Prop := args = #[.ref b] ∧ s.IntsAt b xs ∧ xs.length ≤ 2048 ∧ (Jvm.Cond.and given_1 narrow_1).before args s = true
/-- what a walk over the start with the record d0 says of its end, said of the start itself -/
theorem lw_closed {s t : State} {o : Outcome} {d0 : Drawn} {L : List Loc} {k n : Nat} (hd0 : s.drawn.sameBut d0 lw_cs) (hv : ∃ v, o = .returned v) (hW : (s.setDrawn d0).WarmedH t.vm) (hs : (s.setDrawn d0).sameButNew ({ t with vm := s.vm } : State) L k n) : State.butDraws s t lw_cs (fun t1 => Framed s o t1 L k n) := by
  have h2 : t.drawn = d0 := congrArg State.drawn hs.1
  refine ⟨⟨hv, hW, State.sameButNew.setDrawn hs s.drawn⟩, ?_, by decide⟩
  rw [h2]
  exact hd0
def lw_Q (_ : Array Value) (s : State) (o : Outcome) (t : State) : Prop := o = .returned (some (.int 1)) ∧ State.butDraws s t lw_cs (fun t1 => Framed s o t1 [] 1086 10291)
def lw_Z (below : List Frame) (a : Array Value) (s : State) : State → Prop := fun t => ∃ o, t.status = .running ∧ Ended t below o ∧ lw_Q a s o t
/-- the law's own end, with 1 on the stack, nothing written that was there before, its room as the claim has it; d0: the record of draws at this point (at the entry s.drawn: begin with 'refine W.base ?_' and 'have hd0 := Drawn.sameBut.refl s.drawn lw_cs') -/
theorem lw_ret {p : Program} {l : Launch} {e : Env} {s : State} {m : MethodId} {below : List Frame} {meth : Method} {c : Code} {b : Nat} {d0 : Drawn} (hd0 : s.drawn.sameBut d0 lw_cs) (hx : p.tables.exec = Jvm.exec) (hb : c.code = code) (hr : meth.sig.returnType = ret) (hlocks : meth.locks = false) {pc : Nat} {H : Heap} {ls : Array Slot} (hdg : decode code pc = .ok (.ireturn, 1)) : W p l e room_1 (s.setDrawn d0) m #[Value.ref b] below meth c H [] 1086 10291 (lw_Z below #[Value.ref b] s) (F0 m pc ls [.int 1]) := by
  intro T hT X
  obtain ⟨fs, hret, hrun, hended, hW, hframe⟩ := X.leave (v := some (.int 1)) (hlocks := hlocks) (fun h => by rw [hr] at h; cases h)
  have hmeth' : T.vm.method? m = some meth := X.method'
  refine ⟨T.setFrames fs, ?_, .returned (some (.int 1)), hrun, hended, rfl, lw_closed hd0 ⟨_, rfl⟩ hW hframe⟩
  jvm_step X.here [X.here.top, hx, hb, hdg, hmeth', hr, ret, narrow_b1]
  (try refine ⟨rfl, ?_⟩); (try refine ⟨rfl, ?_⟩)
  first | (intro acts; rw [hret _ acts rfl rfl rfl]) | rw [hret _ _ rfl rfl rfl]
  exact Steps.refl _
/-- what holds at the law's entry: the machine, the code, the tables' words (any of lw_tbl by 'hts w (by decide +kernel)'), the script of L ints xs at the cell b, what the Statement gives of the start (any of its parts by flat_of_before) -/
def lw_At (p : Program) (s : State) (m : MethodId) (meth : Method) (c : Code) (b L : Nat) (xs : Nat → Int32) : Prop :=
  p.tables.exec = Jvm.exec ∧ c.code = code ∧ meth.sig.returnType = ret ∧ c.maxLocals = 9 ∧ s.vm.findClass R_law = some m.cls ∧ (∀ w ∈ lw_tbl, w.before #[Value.ref b] s = true) ∧ va_X b L xs s s.heap ∧ b < s.heap.size ∧ meth.locks = false ∧ (Jvm.Cond.and given_1 narrow_1).before #[Value.ref b] s = true
-- ===== YOUR PART BEGINS =====
/-- YOUR PART: from the entry, for every script of at most 2048 ints, the law comes to its end with true ('hflags': the launch's flags, for a law that throws: no stack traces) -/
theorem whole_start {p : Program} {e : Env} {s : State} {m : MethodId} {below : List Frame} {meth : Method} {c : Code} (l : Launch) (hflags : l.flags = flags0) {b L : Nat} {xs : Nat → Int32} (hL : L ≤ 2048) (C0 : lw_At p s m meth c b L xs) : W p l e room_1 s m #[Value.ref b] below meth c s.heap [] 0 0 (lw_Z below #[Value.ref b] s) (entryFrame m ([Value.ref b] : List Value).toArray 9) := by
  sorry
-- ===== YOUR PART ENDS =====
set_option maxHeartbeats 4000000 in
theorem lw_walk (l : Launch) (hflags : l.flags = flags0) (b : Addr) (xs : List Int32) : MetFree l x (headSpec (Jvm.Cond.code x code maxLocals ret :: tables_1) room_1) (lw_P b xs) (fun _ _ _ _ _ => True) lw_Q := by
  refine MetFree.of_bodyS (code := code) (maxLocals := maxLocals) (ret := ret) (by decide) ?_ ?_
  · intro args s m h hn
    obtain ⟨meth, c, h1, h2, h3, h4, h5, h6, -, -⟩ := Cond.code_spec hn (atoms_spec (ws := Jvm.Cond.code x code maxLocals ret :: tables_1) h _ List.mem_cons_self)
    exact ⟨meth, c, h1, h2, h3, h4, h5, h6⟩
  · intro p e s m args below meth c s₁ B hml0 hP _
    obtain ⟨rfl, hx, hbd, hgv⟩ := hP
    obtain ⟨scr, harrAt, hlist, hof, hsmall⟩ := hx
    obtain ⟨hcb, hkn, -, -⟩ := State.arrayAt?_spec harrAt
    have hown : s.vm.findClass R_law = some m.cls := findClass_of_methodNamed B.named
    have hts0 : ∀ c ∈ (Jvm.Cond.code x code maxLocals ret :: tables_1), c.before #[Value.ref b] s = true := atoms_spec (ws := Jvm.Cond.code x code maxLocals ret :: tables_1) B.pre
    have hts : ∀ w ∈ lw_tbl, w.before #[Value.ref b] s = true := k2_hts_sels lw_privs (fun w hw => hts0 w (List.mem_cons_of_mem _ hw)) lw_privs_ok
    have hml : c.maxLocals = 9 := B.maxLocals_eq (hts0 _ List.mem_cons_self)
    have X₀ : Stand p l e room_1 s m #[Value.ref b] below meth c s₁ [] 0 0 := Stand.of_body B
    have hh0 : s₁.heap = s.heap := by rw [B.state]; rfl
    have hsz : scr.slots.size = xs.length := by rw [← Array.length_toList, hlist, List.length_map]
    have hval : ∀ j : Nat, j < xs.length → scr.slots[j]? = some (.int (xs.getD j 0)) := fun j hj => by
      rw [← Array.getElem?_toList, hlist]
      simp [hj]
    have hbl : b < s.heap.size := (Array.getElem?_eq_some_iff.mp hcb).1
    have hX : va_X b xs.length (fun j => xs.getD j 0) s s.heap := ⟨scr, hcb, hof, hkn, hsz, hval⟩
    have K : W p l e room_1 s m #[Value.ref b] below meth c s₁.heap [] 0 0 (lw_Z below #[Value.ref b] s) (entryFrame m ([Value.ref b] : List Value).toArray 9) := by
      rw [hh0]
      exact whole_start l hflags hbd ⟨B.exec, B.bytes, B.returns, hml, hown, hts, hX, hbl, B.notSynchronized, hgv⟩
    obtain ⟨t, a1, o, b1, b2, b3⟩ := K s₁ rfl X₀
    exact ⟨t, o, a1, b1, b2, b3⟩
theorem lw_pre_spec {args : Array Value} {s : State} (h : (Jvm.Cond.and given_1 narrow_1).before args s = true) (hr : rest_1_c.before args s = true) : ∃ (b : Addr) (xs : List Int32), lw_P b xs args s := by
  have hs := flat_of_before _ h
  have hq := flat_of_before _ hr
  have hc : (Cond.count 1).before args s = true := hs _ (by decide +kernel)
  have harr : (Cond.arrayOf (.arg 0) .int).before args s = true := hs _ (by decide +kernel)
  have hle : (Cond.le (.length (.arg 0)) (.int 2048)).before args s = true := hs _ (by decide +kernel)
  have hlen : (Cond.isInt (.length (.arg 0))).before args s = true := hq _ (by decide +kernel)
  have hall : (Cond.all (.arg 0) (.isInt (.elem (.arg 0) (.index 0)))).before args s = true := hq _ (by decide +kernel)
  obtain ⟨b, xs, hb, hx⟩ := State.ints_of_pre rfl harr hlen hall
  have hsm : xs.length < 2 ^ 31 := hx.choose_spec.2.2.2
  have hev : (Term.length (.arg 0)).eval args s none [] s = some (.int xs.length.toInt32) := hx.length_eval hb
  have hv := Cond.le_ints hev (show (Term.int 2048).eval args s none [] s = some (.int 2048) from rfl)
  have hd : xs.length.toInt32 ≤ 2048 := by
    simpa [Cond.before, Cond.holds, hv] using hle
  have hN : xs.length ≤ 2048 := (Int32.ofNat_le_ofNat hsm (by decide)).mp (show Int32.ofNat xs.length ≤ Int32.ofNat 2048 from hd)
  exact ⟨b, xs, Cond.one_arg hc (show args[0]? = some (.ref b) from hb), hx, hN, h⟩
theorem lw_comes (l : Launch) (hflags : l.flags = flags0) : Comes l x (Jvm.Cond.code x code maxLocals ret :: tables_1) room_1 (fun tb e args s => Calls_1 tb e args s ∧ rest_1 tb e args s ∧ Pre_1 tb e args s)
    (fun _ _ args s o t => lw_Q args s o t) := by
  intro p e ha hc hk s m args below hf hfit hheap happ hpre
  obtain ⟨b, xs, hP⟩ := lw_pre_spec hpre.2.2 hpre.2.1
  obtain ⟨k, o, h1, h2, h3, hQ⟩ := lw_walk l hflags b xs p e ha hc hk s m args below hf ((Spec.applies_iff_loose hf).mp happ).1 hP trivial
  exact ⟨k, o, h1, h2, h3, hQ⟩
theorem lw_frame {s t : State} {o : Outcome} {args : Array Value} (h : State.butDraws s t lw_cs (fun t1 => Framed s o t1 [] 1086 10291)) :
    State.butDraws s t [Jvm.Choice.named "NaN.bits"] (fun t1 => Framed s o t1 (fieldLocs frame_1_writes args s ++ arrayLocs frame_1_arrays args s ++ staticLocs frame_1_statics s) 1086 10291) := h
theorem lw_limb (L : Cond) (hL : ∀ (args : Array Value) (s t : State), L.after args s (.returned (some (.int 1))) t = true) :
    ArmFor flags0 classFile x code maxLocals ret World_1 tables_1 room_1 Calls_1 rest_1 Pre_1
      (fun tb e a s o t => postC L tb e a s o t ∧ State.butDraws s t [Jvm.Choice.named "NaN.bits"] (fun t1 => Framed s o t1 (fieldLocs frame_1_writes a s ++ arrayLocs frame_1_arrays a s ++ staticLocs frame_1_statics s) 1086 10291)) := by
  intro l hflags _ _ p e ha hc hk s m args below hf hfit hheap happ hpre
  obtain ⟨k, o, h1, h2, h3, rfl, hF⟩ := lw_comes l hflags p e ha hc hk s m args below hf hfit hheap happ hpre
  exact ⟨k, _, h1, h2, h3, hL args s _, lw_frame hF⟩
theorem i_vc : Claimed_1_1 ∧ Claimed_1_2 := ⟨lw_limb limb_1_1 (fun args s t => by simp [limb_1_1, Cond.after, Cond.holds, Cond.value]), lw_limb limb_1_2 (fun args s t => Cond.after_iff.mpr (by
  first | (rw [show limb_1_2 = Cond.eq .result (.int 1) from rfl, Cond.eq_ints (x := 1) (y := 1) rfl rfl]; simp; done) | (simp [limb_1_2, Cond.value, Term.eval]; done)))⟩
end
