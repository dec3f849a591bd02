section
-- ===== PART A: goes FIRST, ahead of the names: the tables' words, and 'selects' of the private methods out of them =====
/-- a private method of a class that the tables say can be made, by its rows of tables_1 -/
def lw_okq (q : MethodName × Nat) : Prop := (q.1.cls ≠ "java/lang/invoke/MethodHandle" ∧ q.1.cls ≠ "java/lang/invoke/VarHandle") ∧ Cond.instantiable q.1.cls q.2 ∈ tables_1 ∧ Cond.privateMethod q.1 ∈ tables_1 ∧ Cond.instanceMethod q.1 ∈ tables_1
theorem lw_p0 : lw_okq (⟨"MatchingService$Flow", "copyAssignment", "(I)V"⟩, 10) := ⟨⟨by decide +kernel, by decide +kernel⟩, List.mem_of_getElem? (i := 168) (by decide +kernel), List.mem_of_getElem? (i := 261) (by decide +kernel), List.mem_of_getElem? (i := 262) (by decide +kernel)⟩
theorem lw_p1 : lw_okq (⟨"MatchingService$Flow", "startOf", "(I)I"⟩, 10) := ⟨⟨by decide +kernel, by decide +kernel⟩, List.mem_of_getElem? (i := 168) (by decide +kernel), List.mem_of_getElem? (i := 265) (by decide +kernel), List.mem_of_getElem? (i := 266) (by decide +kernel)⟩
theorem lw_p2 : lw_okq (⟨"MatchingService$Flow", "augment", "()Z"⟩, 10) := ⟨⟨by decide +kernel, by decide +kernel⟩, List.mem_of_getElem? (i := 168) (by decide +kernel), List.mem_of_getElem? (i := 282) (by decide +kernel), List.mem_of_getElem? (i := 283) (by decide +kernel)⟩
theorem lw_p3 : lw_okq (⟨"MatchingService$Flow", "startAtGroups", "()V"⟩, 10) := ⟨⟨by decide +kernel, by decide +kernel⟩, List.mem_of_getElem? (i := 168) (by decide +kernel), List.mem_of_getElem? (i := 286) (by decide +kernel), List.mem_of_getElem? (i := 287) (by decide +kernel)⟩
theorem lw_p4 : lw_okq (⟨"MatchingService$Flow", "reach", "(III)V"⟩, 10) := ⟨⟨by decide +kernel, by decide +kernel⟩, List.mem_of_getElem? (i := 168) (by decide +kernel), List.mem_of_getElem? (i := 290) (by decide +kernel), List.mem_of_getElem? (i := 291) (by decide +kernel)⟩
theorem lw_p5 : lw_okq (⟨"MatchingService$Flow", "leave", "(I)I"⟩, 10) := ⟨⟨by decide +kernel, by decide +kernel⟩, List.mem_of_getElem? (i := 168) (by decide +kernel), List.mem_of_getElem? (i := 294) (by decide +kernel), List.mem_of_getElem? (i := 295) (by decide +kernel)⟩
theorem lw_p6 : lw_okq (⟨"MatchingService$Flow", "leaveWith", "(II)I"⟩, 10) := ⟨⟨by decide +kernel, by decide +kernel⟩, List.mem_of_getElem? (i := 168) (by decide +kernel), List.mem_of_getElem? (i := 298) (by decide +kernel), List.mem_of_getElem? (i := 299) (by decide +kernel)⟩
theorem lw_p7 : lw_okq (⟨"MatchingService$Flow", "shiftAlong", "(I)V"⟩, 10) := ⟨⟨by decide +kernel, by decide +kernel⟩, List.mem_of_getElem? (i := 168) (by decide +kernel), List.mem_of_getElem? (i := 305) (by decide +kernel), List.mem_of_getElem? (i := 306) (by decide +kernel)⟩
theorem lw_p8 : lw_okq (⟨"java/lang/Throwable", "fillInStackTrace", "(I)Ljava/lang/Throwable;"⟩, 6) := ⟨⟨by decide +kernel, by decide +kernel⟩, List.mem_of_getElem? (i := 380) (by decide +kernel), List.mem_of_getElem? (i := 378) (by decide +kernel), List.mem_of_getElem? (i := 379) (by decide +kernel)⟩
theorem lw_p9 : lw_okq (⟨"MatchingService$Placer", "nextToTry", "()I"⟩, 4) := ⟨⟨by decide +kernel, by decide +kernel⟩, List.mem_of_getElem? (i := 148) (by decide +kernel), List.mem_of_getElem? (i := 438) (by decide +kernel), List.mem_of_getElem? (i := 439) (by decide +kernel)⟩
theorem lw_p10 : lw_okq (⟨"MatchingService$Placer", "isServedBefore", "(II)Z"⟩, 4) := ⟨⟨by decide +kernel, by decide +kernel⟩, List.mem_of_getElem? (i := 148) (by decide +kernel), List.mem_of_getElem? (i := 443) (by decide +kernel), List.mem_of_getElem? (i := 444) (by decide +kernel)⟩
theorem lw_p11 : lw_okq (⟨"MatchingService$PathSearch", "collectSuccessors", "()V"⟩, 6) := ⟨⟨by decide +kernel, by decide +kernel⟩, List.mem_of_getElem? (i := 120) (by decide +kernel), List.mem_of_getElem? (i := 459) (by decide +kernel), List.mem_of_getElem? (i := 460) (by decide +kernel)⟩
theorem lw_p12 : lw_okq (⟨"MatchingService$PathSearch", "buildLayers", "()V"⟩, 6) := ⟨⟨by decide +kernel, by decide +kernel⟩, List.mem_of_getElem? (i := 120) (by decide +kernel), List.mem_of_getElem? (i := 467) (by decide +kernel), List.mem_of_getElem? (i := 468) (by decide +kernel)⟩
theorem lw_p13 : lw_okq (⟨"MatchingService$PathSearch", "leadingTo", "(I)I"⟩, 6) := ⟨⟨by decide +kernel, by decide +kernel⟩, List.mem_of_getElem? (i := 120) (by decide +kernel), List.mem_of_getElem? (i := 475) (by decide +kernel), List.mem_of_getElem? (i := 476) (by decide +kernel)⟩
theorem lw_p14 : lw_okq (⟨"MatchingService$PathSearch", "shortestFrom", "(I)I"⟩, 6) := ⟨⟨by decide +kernel, by decide +kernel⟩, List.mem_of_getElem? (i := 120) (by decide +kernel), List.mem_of_getElem? (i := 479) (by decide +kernel), List.mem_of_getElem? (i := 480) (by decide +kernel)⟩
theorem lw_p15 : lw_okq (⟨"MatchingService$PathSearch", "trace", "(I)Z"⟩, 6) := ⟨⟨by decide +kernel, by decide +kernel⟩, List.mem_of_getElem? (i := 120) (by decide +kernel), List.mem_of_getElem? (i := 483) (by decide +kernel), List.mem_of_getElem? (i := 484) (by decide +kernel)⟩
def lw_privs_1 : List (MethodName × Nat) := [(⟨"MatchingService$Flow", "copyAssignment", "(I)V"⟩, 10), (⟨"MatchingService$Flow", "startOf", "(I)I"⟩, 10), (⟨"MatchingService$Flow", "augment", "()Z"⟩, 10), (⟨"MatchingService$Flow", "startAtGroups", "()V"⟩, 10), (⟨"MatchingService$Flow", "reach", "(III)V"⟩, 10), (⟨"MatchingService$Flow", "leave", "(I)I"⟩, 10), (⟨"MatchingService$Flow", "leaveWith", "(II)I"⟩, 10), (⟨"MatchingService$Flow", "shiftAlong", "(I)V"⟩, 10), (⟨"java/lang/Throwable", "fillInStackTrace", "(I)Ljava/lang/Throwable;"⟩, 6), (⟨"MatchingService$Placer", "nextToTry", "()I"⟩, 4), (⟨"MatchingService$Placer", "isServedBefore", "(II)Z"⟩, 4), (⟨"MatchingService$PathSearch", "collectSuccessors", "()V"⟩, 6), (⟨"MatchingService$PathSearch", "buildLayers", "()V"⟩, 6), (⟨"MatchingService$PathSearch", "leadingTo", "(I)I"⟩, 6), (⟨"MatchingService$PathSearch", "shortestFrom", "(I)I"⟩, 6), (⟨"MatchingService$PathSearch", "trace", "(I)Z"⟩, 6)]
theorem lw_r1 : ∀ q ∈ lw_privs_1, lw_okq q := List.forall_mem_cons.mpr ⟨lw_p0, List.forall_mem_cons.mpr ⟨lw_p1, List.forall_mem_cons.mpr ⟨lw_p2, List.forall_mem_cons.mpr ⟨lw_p3, List.forall_mem_cons.mpr ⟨lw_p4, List.forall_mem_cons.mpr ⟨lw_p5, List.forall_mem_cons.mpr ⟨lw_p6, List.forall_mem_cons.mpr ⟨lw_p7, List.forall_mem_cons.mpr ⟨lw_p8, List.forall_mem_cons.mpr ⟨lw_p9, List.forall_mem_cons.mpr ⟨lw_p10, List.forall_mem_cons.mpr ⟨lw_p11, List.forall_mem_cons.mpr ⟨lw_p12, List.forall_mem_cons.mpr ⟨lw_p13, List.forall_mem_cons.mpr ⟨lw_p14, List.forall_mem_cons.mpr ⟨lw_p15, fun _ h => absurd h List.not_mem_nil⟩⟩⟩⟩⟩⟩⟩⟩⟩⟩⟩⟩⟩⟩⟩⟩
theorem lw_p16 : lw_okq (⟨"MatchingService$PathSearch", "firstMovable", "(II)I"⟩, 6) := ⟨⟨by decide +kernel, by decide +kernel⟩, List.mem_of_getElem? (i := 120) (by decide +kernel), List.mem_of_getElem? (i := 491) (by decide +kernel), List.mem_of_getElem? (i := 492) (by decide +kernel)⟩
theorem lw_p17 : lw_okq (⟨"MatchingService$Placer", "placeAlongPath", "(I)V"⟩, 4) := ⟨⟨by decide +kernel, by decide +kernel⟩, List.mem_of_getElem? (i := 148) (by decide +kernel), List.mem_of_getElem? (i := 495) (by decide +kernel), List.mem_of_getElem? (i := 496) (by decide +kernel)⟩
theorem lw_p18 : lw_okq (⟨"MatchingService", "requireResource", "(I)V"⟩, 5) := ⟨⟨by decide +kernel, by decide +kernel⟩, List.mem_of_getElem? (i := 17) (by decide +kernel), List.mem_of_getElem? (i := 524) (by decide +kernel), List.mem_of_getElem? (i := 525) (by decide +kernel)⟩
theorem lw_p19 : lw_okq (⟨"MatchingService", "requireGroup", "(I)V"⟩, 5) := ⟨⟨by decide +kernel, by decide +kernel⟩, List.mem_of_getElem? (i := 17) (by decide +kernel), List.mem_of_getElem? (i := 555) (by decide +kernel), List.mem_of_getElem? (i := 556) (by decide +kernel)⟩
theorem lw_p20 : lw_okq (⟨"MatchingService", "requireMask", "(I)V"⟩, 5) := ⟨⟨by decide +kernel, by decide +kernel⟩, List.mem_of_getElem? (i := 17) (by decide +kernel), List.mem_of_getElem? (i := 582) (by decide +kernel), List.mem_of_getElem? (i := 583) (by decide +kernel)⟩
theorem lw_p21 : lw_okq (⟨"MatchingService", "requirePresent", "(I)V"⟩, 5) := ⟨⟨by decide +kernel, by decide +kernel⟩, List.mem_of_getElem? (i := 17) (by decide +kernel), List.mem_of_getElem? (i := 602) (by decide +kernel), List.mem_of_getElem? (i := 603) (by decide +kernel)⟩
theorem lw_p22 : lw_okq (⟨"MatchingService", "requireRequest", "(I)V"⟩, 5) := ⟨⟨by decide +kernel, by decide +kernel⟩, List.mem_of_getElem? (i := 17) (by decide +kernel), List.mem_of_getElem? (i := 606) (by decide +kernel), List.mem_of_getElem? (i := 607) (by decide +kernel)⟩
theorem lw_p23 : lw_okq (⟨"MatchingService", "requireLogged", "(I)V"⟩, 5) := ⟨⟨by decide +kernel, by decide +kernel⟩, List.mem_of_getElem? (i := 17) (by decide +kernel), List.mem_of_getElem? (i := 687) (by decide +kernel), List.mem_of_getElem? (i := 688) (by decide +kernel)⟩
theorem lw_p24 : lw_okq (⟨"MatchingServiceModel", "fail", "(I)I"⟩, 20) := ⟨⟨by decide +kernel, by decide +kernel⟩, List.mem_of_getElem? (i := 716) (by decide +kernel), List.mem_of_getElem? (i := 791) (by decide +kernel), List.mem_of_getElem? (i := 792) (by decide +kernel)⟩
theorem lw_p25 : lw_okq (⟨"MatchingServiceModel", "run", "()I"⟩, 20) := ⟨⟨by decide +kernel, by decide +kernel⟩, List.mem_of_getElem? (i := 716) (by decide +kernel), List.mem_of_getElem? (i := 795) (by decide +kernel), List.mem_of_getElem? (i := 796) (by decide +kernel)⟩
theorem lw_p26 : lw_okq (⟨"MatchingServiceModel", "next", "()I"⟩, 20) := ⟨⟨by decide +kernel, by decide +kernel⟩, List.mem_of_getElem? (i := 716) (by decide +kernel), List.mem_of_getElem? (i := 799) (by decide +kernel), List.mem_of_getElem? (i := 800) (by decide +kernel)⟩
theorem lw_p27 : lw_okq (⟨"MatchingServiceModel", "firstIn", "(I)I"⟩, 20) := ⟨⟨by decide +kernel, by decide +kernel⟩, List.mem_of_getElem? (i := 716) (by decide +kernel), List.mem_of_getElem? (i := 803) (by decide +kernel), List.mem_of_getElem? (i := 804) (by decide +kernel)⟩
theorem lw_p28 : lw_okq (⟨"MatchingServiceModel", "assignedIn", "(I)I"⟩, 20) := ⟨⟨by decide +kernel, by decide +kernel⟩, List.mem_of_getElem? (i := 716) (by decide +kernel), List.mem_of_getElem? (i := 807) (by decide +kernel), List.mem_of_getElem? (i := 808) (by decide +kernel)⟩
theorem lw_p29 : lw_okq (⟨"MatchingServiceModel", "isPlaced", "(I)Z"⟩, 20) := ⟨⟨by decide +kernel, by decide +kernel⟩, List.mem_of_getElem? (i := 716) (by decide +kernel), List.mem_of_getElem? (i := 811) (by decide +kernel), List.mem_of_getElem? (i := 812) (by decide +kernel)⟩
theorem lw_p30 : lw_okq (⟨"MatchingServiceModel", "firstOf", "(I)I"⟩, 20) := ⟨⟨by decide +kernel, by decide +kernel⟩, List.mem_of_getElem? (i := 716) (by decide +kernel), List.mem_of_getElem? (i := 815) (by decide +kernel), List.mem_of_getElem? (i := 816) (by decide +kernel)⟩
theorem lw_p31 : lw_okq (⟨"MatchingServiceModel", "findFar", "()V"⟩, 20) := ⟨⟨by decide +kernel, by decide +kernel⟩, List.mem_of_getElem? (i := 716) (by decide +kernel), List.mem_of_getElem? (i := 819) (by decide +kernel), List.mem_of_getElem? (i := 820) (by decide +kernel)⟩
def lw_privs_2 : List (MethodName × Nat) := [(⟨"MatchingService$PathSearch", "firstMovable", "(II)I"⟩, 6), (⟨"MatchingService$Placer", "placeAlongPath", "(I)V"⟩, 4), (⟨"MatchingService", "requireResource", "(I)V"⟩, 5), (⟨"MatchingService", "requireGroup", "(I)V"⟩, 5), (⟨"MatchingService", "requireMask", "(I)V"⟩, 5), (⟨"MatchingService", "requirePresent", "(I)V"⟩, 5), (⟨"MatchingService", "requireRequest", "(I)V"⟩, 5), (⟨"MatchingService", "requireLogged", "(I)V"⟩, 5), (⟨"MatchingServiceModel", "fail", "(I)I"⟩, 20), (⟨"MatchingServiceModel", "run", "()I"⟩, 20), (⟨"MatchingServiceModel", "next", "()I"⟩, 20), (⟨"MatchingServiceModel", "firstIn", "(I)I"⟩, 20), (⟨"MatchingServiceModel", "assignedIn", "(I)I"⟩, 20), (⟨"MatchingServiceModel", "isPlaced", "(I)Z"⟩, 20), (⟨"MatchingServiceModel", "firstOf", "(I)I"⟩, 20), (⟨"MatchingServiceModel", "findFar", "()V"⟩, 20)]
theorem lw_r2 : ∀ q ∈ lw_privs_2, lw_okq q := List.forall_mem_cons.mpr ⟨lw_p16, List.forall_mem_cons.mpr ⟨lw_p17, List.forall_mem_cons.mpr ⟨lw_p18, List.forall_mem_cons.mpr ⟨lw_p19, List.forall_mem_cons.mpr ⟨lw_p20, List.forall_mem_cons.mpr ⟨lw_p21, List.forall_mem_cons.mpr ⟨lw_p22, List.forall_mem_cons.mpr ⟨lw_p23, List.forall_mem_cons.mpr ⟨lw_p24, List.forall_mem_cons.mpr ⟨lw_p25, List.forall_mem_cons.mpr ⟨lw_p26, List.forall_mem_cons.mpr ⟨lw_p27, List.forall_mem_cons.mpr ⟨lw_p28, List.forall_mem_cons.mpr ⟨lw_p29, List.forall_mem_cons.mpr ⟨lw_p30, List.forall_mem_cons.mpr ⟨lw_p31, fun _ h => absurd h List.not_mem_nil⟩⟩⟩⟩⟩⟩⟩⟩⟩⟩⟩⟩⟩⟩⟩⟩
theorem lw_p32 : lw_okq (⟨"MatchingServiceModel", "loadOf", "(I)I"⟩, 20) := ⟨⟨by decide +kernel, by decide +kernel⟩, List.mem_of_getElem? (i := 716) (by decide +kernel), List.mem_of_getElem? (i := 823) (by decide +kernel), List.mem_of_getElem? (i := 824) (by decide +kernel)⟩
theorem lw_p33 : lw_okq (⟨"MatchingServiceModel", "isAt", "(II)Z"⟩, 20) := ⟨⟨by decide +kernel, by decide +kernel⟩, List.mem_of_getElem? (i := 716) (by decide +kernel), List.mem_of_getElem? (i := 827) (by decide +kernel), List.mem_of_getElem? (i := 828) (by decide +kernel)⟩
theorem lw_p34 : lw_okq (⟨"MatchingServiceModel", "brings", "(II)Z"⟩, 20) := ⟨⟨by decide +kernel, by decide +kernel⟩, List.mem_of_getElem? (i := 716) (by decide +kernel), List.mem_of_getElem? (i := 831) (by decide +kernel), List.mem_of_getElem? (i := 832) (by decide +kernel)⟩
theorem lw_p35 : lw_okq (⟨"MatchingServiceModel", "canMove", "(II)Z"⟩, 20) := ⟨⟨by decide +kernel, by decide +kernel⟩, List.mem_of_getElem? (i := 716) (by decide +kernel), List.mem_of_getElem? (i := 835) (by decide +kernel), List.mem_of_getElem? (i := 836) (by decide +kernel)⟩
theorem lw_p36 : lw_okq (⟨"MatchingServiceModel", "accepts", "(II)Z"⟩, 20) := ⟨⟨by decide +kernel, by decide +kernel⟩, List.mem_of_getElem? (i := 716) (by decide +kernel), List.mem_of_getElem? (i := 839) (by decide +kernel), List.mem_of_getElem? (i := 840) (by decide +kernel)⟩
theorem lw_p37 : lw_okq (⟨"MatchingServiceModel", "movedFrom", "(I)I"⟩, 20) := ⟨⟨by decide +kernel, by decide +kernel⟩, List.mem_of_getElem? (i := 716) (by decide +kernel), List.mem_of_getElem? (i := 843) (by decide +kernel), List.mem_of_getElem? (i := 844) (by decide +kernel)⟩
theorem lw_p38 : lw_okq (⟨"MatchingServiceModel", "log", "(II)V"⟩, 20) := ⟨⟨by decide +kernel, by decide +kernel⟩, List.mem_of_getElem? (i := 716) (by decide +kernel), List.mem_of_getElem? (i := 847) (by decide +kernel), List.mem_of_getElem? (i := 848) (by decide +kernel)⟩
theorem lw_p39 : lw_okq (⟨"MatchingServiceModel", "isResource", "(I)Z"⟩, 20) := ⟨⟨by decide +kernel, by decide +kernel⟩, List.mem_of_getElem? (i := 716) (by decide +kernel), List.mem_of_getElem? (i := 855) (by decide +kernel), List.mem_of_getElem? (i := 856) (by decide +kernel)⟩
theorem lw_p40 : lw_okq (⟨"MatchingServiceModel", "isMask", "(I)Z"⟩, 20) := ⟨⟨by decide +kernel, by decide +kernel⟩, List.mem_of_getElem? (i := 716) (by decide +kernel), List.mem_of_getElem? (i := 874) (by decide +kernel), List.mem_of_getElem? (i := 875) (by decide +kernel)⟩
theorem lw_p41 : lw_okq (⟨"MatchingServiceModel", "isRequest", "(I)Z"⟩, 20) := ⟨⟨by decide +kernel, by decide +kernel⟩, List.mem_of_getElem? (i := 716) (by decide +kernel), List.mem_of_getElem? (i := 882) (by decide +kernel), List.mem_of_getElem? (i := 883) (by decide +kernel)⟩
theorem lw_p42 : lw_okq (⟨"MatchingServiceModel", "countOf", "(I)I"⟩, 20) := ⟨⟨by decide +kernel, by decide +kernel⟩, List.mem_of_getElem? (i := 716) (by decide +kernel), List.mem_of_getElem? (i := 902) (by decide +kernel), List.mem_of_getElem? (i := 903) (by decide +kernel)⟩
theorem lw_p43 : lw_okq (⟨"MatchingServiceModel", "possible", "()I"⟩, 20) := ⟨⟨by decide +kernel, by decide +kernel⟩, List.mem_of_getElem? (i := 716) (by decide +kernel), List.mem_of_getElem? (i := 950) (by decide +kernel), List.mem_of_getElem? (i := 951) (by decide +kernel)⟩
def lw_privs_3 : List (MethodName × Nat) := [(⟨"MatchingServiceModel", "loadOf", "(I)I"⟩, 20), (⟨"MatchingServiceModel", "isAt", "(II)Z"⟩, 20), (⟨"MatchingServiceModel", "brings", "(II)Z"⟩, 20), (⟨"MatchingServiceModel", "canMove", "(II)Z"⟩, 20), (⟨"MatchingServiceModel", "accepts", "(II)Z"⟩, 20), (⟨"MatchingServiceModel", "movedFrom", "(I)I"⟩, 20), (⟨"MatchingServiceModel", "log", "(II)V"⟩, 20), (⟨"MatchingServiceModel", "isResource", "(I)Z"⟩, 20), (⟨"MatchingServiceModel", "isMask", "(I)Z"⟩, 20), (⟨"MatchingServiceModel", "isRequest", "(I)Z"⟩, 20), (⟨"MatchingServiceModel", "countOf", "(I)I"⟩, 20), (⟨"MatchingServiceModel", "possible", "()I"⟩, 20)]
theorem lw_r3 : ∀ q ∈ lw_privs_3, lw_okq q := List.forall_mem_cons.mpr ⟨lw_p32, List.forall_mem_cons.mpr ⟨lw_p33, List.forall_mem_cons.mpr ⟨lw_p34, List.forall_mem_cons.mpr ⟨lw_p35, List.forall_mem_cons.mpr ⟨lw_p36, List.forall_mem_cons.mpr ⟨lw_p37, List.forall_mem_cons.mpr ⟨lw_p38, List.forall_mem_cons.mpr ⟨lw_p39, List.forall_mem_cons.mpr ⟨lw_p40, List.forall_mem_cons.mpr ⟨lw_p41, List.forall_mem_cons.mpr ⟨lw_p42, List.forall_mem_cons.mpr ⟨lw_p43, fun _ h => absurd h List.not_mem_nil⟩⟩⟩⟩⟩⟩⟩⟩⟩⟩⟩⟩
def lw_privs : List (MethodName × Nat) := lw_privs_1 ++ (lw_privs_2 ++ (lw_privs_3))
def lw_tbl : List Cond := k2_sels lw_privs ++ tables_1
theorem lw_privs_ok : ∀ q ∈ lw_privs, lw_okq q := by
  show ∀ q ∈ lw_privs_1 ++ (lw_privs_2 ++ (lw_privs_3)), lw_okq q
  exact List.forall_mem_append.mpr ⟨lw_r1, List.forall_mem_append.mpr ⟨lw_r2, lw_r3⟩⟩
/-- the streams that the claim lets the run draw from -/
abbrev lw_cs : List Choice := [Jvm.Choice.named "NaN.bits"]
theorem lw_bits : nanBits ∈ lw_cs := by first | decide | exact List.mem_cons_self | simp [lw_cs, nanBits]
-- ===== end of PART A; then your names; then what follows =====
end
section
/-! ===== BEGIN words of one list among another's, by their places ===== -/
theorem goodIn_r {big : List Cond} (ws : List Cond) (ps : List Nat) (hp : ws = ps.filterMap (fun i => big[i]?)) (h : ws.all goodWord = true) : GoodIn big ws := by
  intro w hw
  have h1 := List.all_eq_true.mp h w hw
  rw [hp] at hw
  obtain ⟨i, -, hi⟩ := List.mem_filterMap.mp hw
  have hm : w ∈ big := by first | exact List.mem_of_getElem? hi | exact List.getElem?_mem hi
  exact ⟨hm, good_of_word h1⟩
theorem goodIn_app {big a b : List Cond} (ha : GoodIn big a) (hb : GoodIn big b) : GoodIn big (a ++ b) := fun w h => (List.mem_append.mp h).elim (ha w) (hb w)
theorem goodIn_ca {big a b : List Cond} {c : Cond} (ha : GoodIn big (c :: a)) (hb : GoodIn big b) : GoodIn big (c :: (a ++ b)) := fun w h => (List.mem_cons.mp h).elim (fun e => ha w (List.mem_cons.mpr (Or.inl e))) (fun h => (List.mem_append.mp h).elim (fun h => ha w (List.mem_cons.mpr (Or.inr h))) (hb w))
theorem goodIn_sub {big ws : List Cond} (hm : ∀ w ∈ ws, w ∈ big) (h : ws.all goodWord = true) : GoodIn big ws := fun w hw => ⟨hm w hw, good_of_word (List.all_eq_true.mp h w hw)⟩
/-! ===== END ===== -/

/-! ===== BEGIN exceptions that leave a method, and their catching by the caller (launches without stack traces) ===== -/
section VXA
/-! The laws vx_back, vx_callV, vx_callS, vx_callSW, vx_throw0, vx_throwS follow proofs of the library, with one case more: JvmDerived/Free/Laws.lean (Back.of_free), Shelf42/LK1.lean (callV, callS), Shelf/KitTraced.lean (throwNew0V, throwNewS). -/
/-- where a method has thrown q: the class by its name, the cell, what was written, the world -/
def vx_T (XC : String → State → State → Prop) (st : State) (q : Addr) (t : State) (mc ms : Nat) (free : Addr → Prop) : Prop :=
  ∃ (E : String) (ce : Cell) (L : List Loc), XC E st t ∧ t.heap[q]? = some ce ∧ ce.vm = .none ∧ st.vm.findClass E = some ce.cls ∧ st.WarmedH t.vm ∧ st.sameButNew ({ t with vm := st.vm } : State) L mc ms ∧ ∀ z ∈ L, free z.base
def vx_Q (Qc : Array Value → State → Outcome → State → Prop) (XC : String → State → State → Prop) (mc ms : Nat) (free : Addr → Prop) : Array Value → State → Outcome → State → Prop := fun a st o t =>
  (Qc a st o t ∧ ∃ L, FrameEnd st o t L mc ms ∧ ∀ q ∈ L, free q.base) ∨ ∃ q, o = .threw q ∧ vx_T XC st q t mc ms free
/-- a callee that returns or throws -/
def vx_Met (l : Launch) (y : MethodName) (ws : List Cond) (rm : Room) (Pc : Array Value → State → Prop) (Qc : Array Value → State → Outcome → State → Prop) (XC : String → State → State → Prop) (mc ms : Nat) (free : Addr → Prop) : Prop :=
  MetFree l y (headSpec ws rm) Pc (fun _ _ _ _ _ => True) (vx_Q Qc XC mc ms free)
def vx_Post (XC : String → State → State → Prop) (mc ms : Nat) (free : Addr → Prop) : Pt → Array Value → Addr → Pt → Prop := fun A a q B =>
  ∃ (g : JFrame) (mk : MethodId) (t : State) (L : List Loc) (E : String) (ce : Cell), B.U.heap = t.heap ∧ B.U.vm = t.vm ∧ XC E (A.U.calling g mk a) t ∧ t.heap[q]? = some ce ∧ ce.vm = .none ∧ A.U.vm.findClass E = some ce.cls ∧ B.locs = A.locs ++ L ∧ (∀ z ∈ L, free z.base) ∧ B.cells = A.cells + mc ∧ B.slots = A.slots + ms
def vx_Back (l : Launch) (R : Room) (p : Program) (e : Env) (below : List Frame) (s : State) (sargs : Array Value) (y : MethodName) (len W9 : Nat)
    (Pre : Pt → Array Value → Prop) (Post : Pt → Array Value → Option Value → Pt → Prop) (PostX : Pt → Array Value → Addr → Pt → Prop) : Prop :=
  ∀ (m : MethodId) (meth : Method) (c : Code) (A : Pt) (g : JFrame) (ig : Instr) (mk : MethodId) (a : Array Value),
    Stand p l e R s m sargs below meth c A.U A.locs A.cells A.slots → g.method = m → g.locals.size = c.maxLocals → decode c.code g.pc = .ok (ig, len) →
    2 * g.monitorRoom + (g.stack.map fun v => v.category).sum ≤ W9 → A.U.methodNamed? y = some mk → Pre A a →
    (∃ (v : Option Value) (B : Pt), Stand p l e R s m sargs below meth c B.U B.locs B.cells B.slots ∧ Post A a v B ∧
      Steps p.tables e below (doInvoke e (A.U.setTop g) [] mk a).1 (B.U.setTop { g with pc := g.pc + len, stack := v.toList ++ g.stack })) ∨
    (∃ (q : Addr) (B : Pt), Stand p l e R s m sargs below meth c B.U B.locs B.cells B.slots ∧ PostX A a q B ∧
      Steps p.tables e below (doInvoke e (A.U.setTop g) [] mk a).1 ((B.U.setTop g).pushFrame (.throwing q)))
section Payer
variable {l : Launch} {R : Room} {p : Program} {e : Env} {below : List Frame} {s : State} {sargs : Array Value} {y : MethodName} {len W9 : Nat}
theorem vx_back {ws : List Cond} {rm : Room} {Pc : Array Value → State → Prop} {Qc : Array Value → State → Outcome → State → Prop} {XC : String → State → State → Prop} {mc ms : Nat} {free : Addr → Prop} {bytes : ByteArray} {maxL : Nat} {ret : Option FieldType}
    (hM : vx_Met l y ws rm Pc Qc XC mc ms free) (hblind : FrameBlind Pc) (hrc : rm.cells = mc) (hrs : rm.slots = ms)
    (hframes : rm.frames + 1 ≤ R.frames) (hlocals : W9 + (maxL + 11) + rm.locals ≤ R.locals)
    (hws : ∀ w ∈ ws, ∀ a' U, s.WarmedH U.vm → w.before a' U = true) (hcode : Cond.code y bytes maxL ret ∈ ws) (hinit : ∀ a' U, s.WarmedH U.vm → (Cond.initialized y.cls).before a' U = true) :
    vx_Back l R p e below s sargs y len W9 (PreOf R mc ms Pc) (PostOf Qc mc ms free) (vx_Post XC mc ms free) := by
  intro m meth c A g ig mk a X hg hsize hdg hW hn hp
  have h1 : (headSpec ws rm).pre.before a A.U = true := atoms_intro fun w hw => hws w hw _ _ X.warmed
  have h2 : (Cond.code y bytes maxL ret).before a A.U = true := hws _ hcode _ _ X.warmed
  have h3 : (Cond.initialized y.cls).before a A.U = true := hinit _ _ X.warmed
  have h4 : A.cells + (headSpec ws rm).room.cells ≤ R.cells := by rw [show (headSpec ws rm).room.cells = mc from hrc]; exact hp.1
  have h5 : A.slots + (headSpec ws rm).room.slots ≤ R.slots := by rw [show (headSpec ws rm).room.slots = ms from hrs]; exact hp.2.1
  have hPc : Pc a (A.U.calling g mk a) := hblind _ _ _ _ hp.2.2
  obtain ⟨U, Ls, c0, s0⟩ := A
  dsimp only [Pt.U, Pt.locs, Pt.cells, Pt.slots] at h1 h2 h3 h4 h5 X hn hPc ⊢
  obtain ⟨methY, cY, hmY, hcY, -, hlY, -, -, -, -⟩ := Cond.code_spec hn h2
  obtain ⟨kY, hkY, -⟩ := className_of_methodNamed hn
  have hinitY : kY.init = .initialized := Cond.initialized_spec (findClass_of_methodNamed hn) hkY h3
  have h : At U g.method c below := by rw [hg]; exact X.here
  have hlocals9 : W9 + (maxL + 11) + (headSpec ws rm).room.locals ≤ R.locals := hlocals
  have happ : (headSpec ws rm).appliesLoose y e.platform (U.calling g mk a) = true :=
    Spec.appliesLoose_calling (g := g) h hdg hn hkY hinitY
      (X.room_calling (g := g) (R' := (headSpec ws rm).room) hsize hmY hcY hframes (by rw [hlY]; omega) h4 h5) h1
  obtain ⟨mid, hmid⟩ := h.above
  have hfr : (U.setTop g).frames = (.java g :: mid) ++ below := by rw [State.frames_setTop' g h.top, hmid]; rfl
  obtain ⟨o, s₂, hsteps, -, hend, hq⟩ := Steps.callFree hM p X.admits X.cas X.clock (acts := []) hfr happ hPc trivial
  have hq' : vx_Q Qc XC mc ms free a (U.calling g mk a) o s₂ := hq
  rw [State.frames_setTop' g h.top] at hend
  obtain ⟨g₀, hg0⟩ := Option.isSome_iff_exists.mp h.top
  obtain ⟨r, hr⟩ := State.topJava?_eq_some.mp hg0
  have hr' : (({ U with heap := s₂.heap, slotsUsed := s₂.slotsUsed } : State).setVm s₂.vm).frames = .java g₀ :: r := hr
  rcases hq' with ⟨hqc, L, hfe, hL⟩ | ⟨q, rfl, E, ce, L, hx, hce, hcv, hcl, hW₂, hsm, hL⟩
  · obtain ⟨⟨v, rfl⟩, hW₂, e2, q2, q3, q4, q5, q6⟩ := id hfe
    have e3 : s₂ = ({ (U.calling g mk a).setFrames s₂.frames with heap := s₂.heap, slotsUsed := s₂.slotsUsed } : State).setVm s₂.vm := by
      have : s₂ = ({ s₂ with vm := (U.calling g mk a).vm } : State).setVm s₂.vm := rfl
      rw [e2] at this
      exact this
    obtain ⟨c₂, i₂, len₂, hc₂, hd₂, hf₂⟩ := hend
    have hW' : U.WarmedH s₂.vm := hW₂
    have hcc : c₂ = c := by
      have h1 : s₂.code? g.method = U.code? g.method := by
        rw [State.code?_eq, State.code?_eq, hW'.alike.method?]
      exact Option.some.inj (hc₂.symm.trans (h1.trans h.code))
    subst hcc
    have hlen : len₂ = len := by rw [hdg] at hd₂; cases hd₂; rfl
    subst hlen
    have hs₂ : s₂ = (({ U with heap := s₂.heap, slotsUsed := s₂.slotsUsed } : State).setVm s₂.vm).setTop { g with pc := g.pc + len₂, stack := v.toList ++ g.stack } := by
      refine e3.trans ?_
      rw [hf₂, State.calling_eq h.top, State.setFrames_setFrames, State.setTop_of_frames _ hr', hr]
      rfl
    have hsame : U.sameButNew ({ U with heap := s₂.heap, slotsUsed := s₂.slotsUsed } : State) L mc ms := by
      refine ⟨?_, q2, q3, q4, q5, q6⟩
      obtain ⟨t, ht, -⟩ := State.frames_cons hr
      show ({ U with heap := s₂.heap, slotsUsed := s₂.slotsUsed } : State) = { U.setFrames U.frames with heap := s₂.heap, slotsUsed := s₂.slotsUsed }
      rw [State.setFrames_self ht]
    subst hg
    refine Or.inl ⟨v, ⟨(({ U with heap := s₂.heap, slotsUsed := s₂.slotsUsed } : State).setVm s₂.vm), Ls ++ L, c0 + mc, s0 + ms⟩,
      ⟨X.admits, X.cas, X.clock, X.frames, X.room, X.hears, X.method, X.code, (X.here.setHeapUsed s₂.heap s₂.slotsUsed).setVm hW'.alike, X.tail, State.WarmedH.trans X.warmed hW', X.limits, X.bytes, X.same.trans (hsame.setVm s.vm)⟩,
      ⟨g, mk, s₂, L, rfl, rfl, hqc, rfl, hL, rfl, rfl⟩, ?_⟩
    show Steps p.tables e below _ ((({ U with heap := s₂.heap, slotsUsed := s₂.slotsUsed } : State).setVm s₂.vm).setTop { g with pc := g.pc + len₂, stack := v.toList ++ g.stack })
    rw [← hs₂]
    exact hsteps
  · obtain ⟨e2, q2, q3, q4, q5, q6⟩ := id hsm
    have e3 : s₂ = ({ (U.calling g mk a).setFrames s₂.frames with heap := s₂.heap, slotsUsed := s₂.slotsUsed } : State).setVm s₂.vm := by
      have : s₂ = ({ s₂ with vm := (U.calling g mk a).vm } : State).setVm s₂.vm := rfl
      rw [e2] at this
      exact this
    have hf₂ : s₂.frames = .throwing q :: .java g :: U.frames.tail := hend
    have hW' : U.WarmedH s₂.vm := hW₂
    have hs₂ : s₂ = ((({ U with heap := s₂.heap, slotsUsed := s₂.slotsUsed } : State).setVm s₂.vm).setTop g).pushFrame (.throwing q) := by
      refine e3.trans ?_
      rw [hf₂, State.calling_eq h.top, State.setFrames_setFrames, State.pushFrame, State.frames_setTop _ hr', State.setTop_of_frames _ hr', State.setFrames_setFrames, hr]
      rfl
    have hsame : U.sameButNew ({ U with heap := s₂.heap, slotsUsed := s₂.slotsUsed } : State) L mc ms := by
      refine ⟨?_, q2, q3, q4, q5, q6⟩
      obtain ⟨t, ht, -⟩ := State.frames_cons hr
      show ({ U with heap := s₂.heap, slotsUsed := s₂.slotsUsed } : State) = { U.setFrames U.frames with heap := s₂.heap, slotsUsed := s₂.slotsUsed }
      rw [State.setFrames_self ht]
    subst hg
    refine Or.inr ⟨q, ⟨(({ U with heap := s₂.heap, slotsUsed := s₂.slotsUsed } : State).setVm s₂.vm), Ls ++ L, c0 + mc, s0 + ms⟩,
      ⟨X.admits, X.cas, X.clock, X.frames, X.room, X.hears, X.method, X.code, (X.here.setHeapUsed s₂.heap s₂.slotsUsed).setVm hW'.alike, X.tail, State.WarmedH.trans X.warmed hW', X.limits, X.bytes, X.same.trans (hsame.setVm s.vm)⟩,
      ⟨g, mk, s₂, L, E, ce, rfl, rfl, hx, hce, hcv, hcl, rfl, hL, rfl, rfl⟩, ?_⟩
    show Steps p.tables e below _ (((({ U with heap := s₂.heap, slotsUsed := s₂.slotsUsed } : State).setVm s₂.vm).setTop g).pushFrame (.throwing q))
    rw [← hs₂]
    exact hsteps
end Payer
section Calls
variable {p : Program} {l : Launch} {e : Env} {R : Room} {s : State} {m : MethodId} {args : Array Value} {below : List Frame} {meth : Method} {c : Code} {T : State} {locs : List Loc} {cells slots : Nat}
theorem vx_callV (X : Stand p l e R s m args below meth c T locs cells slots) (hexec : p.tables.exec = Jvm.exec) {own C : String} {index : Nat} {y : MethodName} {bytes : ByteArray} {maxL : Nat} {ret : Option FieldType}
    (hown : s.vm.findClass own = some m.cls) (hlink : (Cond.methodLink own index y).before args s = true) (hinst : (Cond.instanceMethod y).before args s = true) (hsel : (Cond.selects C y y).before args s = true)
    (hcode : (Cond.code y bytes maxL ret).before args s = true) (hy : y.cls ≠ "java/lang/invoke/MethodHandle" ∧ y.cls ≠ "java/lang/invoke/VarHandle")
    {W9 : Nat} {Pre : Pt → Array Value → Prop} {Post : Pt → Array Value → Option Value → Pt → Prop} {PostX : Pt → Array Value → Addr → Pt → Prop} (hK : vx_Back l R p e below s args y 3 W9 Pre Post PostX)
    {b : Addr} {cellB : Cell} (hcell : T.heap[b]? = some cellB) (hobj : cellB.vm.isStatics = false) (hcls : s.vm.findClass C = some cellB.cls)
    {g : JFrame} (hg : g.method = m) (hsize : g.locals.size = c.maxLocals) {argsL rest : List Value} (hlen : ∀ sig, parseMethodDescriptor y.desc = some sig → argsL.length = sig.parameters.length)
    (hstack : g.stack = argsL.reverse ++ .ref b :: rest) (hW : 2 * g.monitorRoom + (rest.map fun v => v.category).sum ≤ W9) (hdg : decode c.code g.pc = .ok (.invokevirtual index, 3))
    (hpre : ∀ vm₁, s.WarmedH vm₁ → Pre ⟨T.setVm vm₁, locs, cells, slots⟩ (Value.ref b :: argsL).toArray) :
    (∃ (v : Option Value) (vm₁ : Vm) (B : Pt), s.WarmedH vm₁ ∧ Stand p l e R s m args below meth c B.U B.locs B.cells B.slots ∧ Post ⟨T.setVm vm₁, locs, cells, slots⟩ (Value.ref b :: argsL).toArray v B ∧
      ∀ target, Steps p.tables e below (B.U.setTop { g with pc := g.pc + 3, stack := v.toList ++ rest }) target → Steps p.tables e below (T.setTop g) target) ∨
    (∃ (q : Addr) (vm₁ : Vm) (B : Pt), s.WarmedH vm₁ ∧ Stand p l e R s m args below meth c B.U B.locs B.cells B.slots ∧ PostX ⟨T.setVm vm₁, locs, cells, slots⟩ (Value.ref b :: argsL).toArray q B ∧
      Steps p.tables e below (T.setTop g) ((B.U.setTop { g with stack := rest }).pushFrame (.throwing q))) := by
  obtain ⟨mk, methM, hnamed, hmethM, hstM, habM⟩ := Cond.instanceMethod_spec hinst
  obtain ⟨methM', cM, hmethM', -, -, -, -, -, -, hsigM⟩ := Cond.code_spec hnamed hcode
  cases hmethM.symm.trans hmethM'
  obtain ⟨c2, r2, m2, q1, q2, q3, q4, kP, hkP, hkPi⟩ := Cond.selects_spec hsel
  cases hcls.symm.trans q1
  cases (State.methodFound?_of_named hnamed hy).symm.trans q2
  cases hnamed.symm.trans q3
  have hselP : selectMethod e.platform s.vm cellB.cls mk = .method mk := by rw [Launch.admits_selectMethod X.admits]; exact q4
  obtain ⟨vm₁, X₁, hstep₁⟩ := X.invokevirtual hexec hown hlink hnamed hmethM hstM hkP hkPi hy (a := b) (cell := cellB) hcell
    (fun z h => by rw [h] at hobj; cases hobj) hselP hmethM habM hkP hkPi (g := g) hg (argsL := argsL) (rest := rest) (hlen _ hsigM) hstack hdg
  rcases hK m meth c ⟨T.setVm vm₁, locs, cells, slots⟩ { g with stack := rest } (.invokevirtual index) mk (Value.ref b :: argsL).toArray X₁ hg hsize hdg hW (X₁.named hnamed) (hpre vm₁ X₁.warmed) with ⟨v, B, X', hpost, hsteps⟩ | ⟨q, B, X', hpost, hsteps⟩
  · exact Or.inl ⟨v, vm₁, B, X₁.warmed, X', hpost, fun target h => hstep₁ _ fun acts => by rw [doInvoke_state]; exact hsteps.trans h⟩
  · exact Or.inr ⟨q, vm₁, B, X₁.warmed, X', hpost, hstep₁ _ fun acts => by rw [doInvoke_state]; exact hsteps⟩
theorem vx_callS (X : Stand p l e R s m args below meth c T locs cells slots) (hexec : p.tables.exec = Jvm.exec) {own : String} {index : Nat} {y : MethodName} {bytes : ByteArray} {maxL : Nat} {ret : Option FieldType}
    (hown : s.vm.findClass own = some m.cls) (hlink : (Cond.methodLink own index y).before args s = true) (hstat : (Cond.static y).before args s = true) (hinit : (Cond.initialized y.cls).before args s = true)
    (hcode : (Cond.code y bytes maxL ret).before args s = true) (hy : y.cls ≠ "java/lang/invoke/MethodHandle" ∧ y.cls ≠ "java/lang/invoke/VarHandle")
    {W9 : Nat} {Pre : Pt → Array Value → Prop} {Post : Pt → Array Value → Option Value → Pt → Prop} {PostX : Pt → Array Value → Addr → Pt → Prop} (hK : vx_Back l R p e below s args y 3 W9 Pre Post PostX)
    {g : JFrame} (hg : g.method = m) (hsize : g.locals.size = c.maxLocals) {argsL rest : List Value} (hlen : ∀ sig, parseMethodDescriptor y.desc = some sig → argsL.length = sig.parameters.length)
    (hstack : g.stack = argsL.reverse ++ rest) (hW : 2 * g.monitorRoom + (rest.map fun v => v.category).sum ≤ W9) (hdg : decode c.code g.pc = .ok (.invokestatic index, 3))
    (hpre : ∀ vm₁, s.WarmedH vm₁ → Pre ⟨T.setVm vm₁, locs, cells, slots⟩ argsL.toArray) :
    (∃ (v : Option Value) (vm₁ : Vm) (B : Pt), s.WarmedH vm₁ ∧ Stand p l e R s m args below meth c B.U B.locs B.cells B.slots ∧ Post ⟨T.setVm vm₁, locs, cells, slots⟩ argsL.toArray v B ∧
      ∀ target, Steps p.tables e below (B.U.setTop { g with pc := g.pc + 3, stack := v.toList ++ rest }) target → Steps p.tables e below (T.setTop g) target) ∨
    (∃ (q : Addr) (vm₁ : Vm) (B : Pt), s.WarmedH vm₁ ∧ Stand p l e R s m args below meth c B.U B.locs B.cells B.slots ∧ PostX ⟨T.setVm vm₁, locs, cells, slots⟩ argsL.toArray q B ∧
      Steps p.tables e below (T.setTop g) ((B.U.setTop { g with stack := rest }).pushFrame (.throwing q))) := by
  obtain ⟨mk, hnamed⟩ := Cond.code_named hcode
  obtain ⟨methM, cM, hmethM, -, -, -, -, -, -, hsigM⟩ := Cond.code_spec hnamed hcode
  have hstatic : methM.isStatic = true := Cond.static_spec hnamed hmethM hstat
  obtain ⟨kP, hkP, -⟩ := className_of_methodNamed hnamed
  have hinitP : kP.init = .initialized := Cond.initialized_spec (findClass_of_methodNamed hnamed) hkP hinit
  obtain ⟨vm₁, X₁, hstep₁⟩ := X.invokestatic hexec hown hlink hnamed hmethM hstatic hkP hinitP hy (g := g) hg (argsL := argsL) (rest := rest) (hlen _ hsigM) hstack hdg
  rcases hK m meth c ⟨T.setVm vm₁, locs, cells, slots⟩ { g with stack := rest } (.invokestatic index) mk argsL.toArray X₁ hg hsize hdg hW (X₁.named hnamed) (hpre vm₁ X₁.warmed) with ⟨v, B, X', hpost, hsteps⟩ | ⟨q, B, X', hpost, hsteps⟩
  · exact Or.inl ⟨v, vm₁, B, X₁.warmed, X', hpost, fun target h => hstep₁ _ fun acts => by rw [doInvoke_state]; exact hsteps.trans h⟩
  · exact Or.inr ⟨q, vm₁, B, X₁.warmed, X', hpost, hstep₁ _ fun acts => by rw [doInvoke_state]; exact hsteps⟩
end Calls
theorem vx_cls {s : State} {T : State} {vm₁ : Vm} {E : String} {k : ClassId} (hW : s.WarmedH vm₁) (h : (T.setVm vm₁).vm.findClass E = some k) : s.vm.findClass E = some k := by
  have h1 : vm₁.findClass E = some k := h
  rw [hW.alike.findClass] at h1
  exact h1
/-- the method's frame g, with q thrown over it -/
def vx_W (p : Program) (l : Launch) (e : Env) (R : Room) (s : State) (m : MethodId) (args : Array Value) (below : List Frame) (meth : Method) (c : Code) (H : Heap) (locs : List Loc) (cells slots : Nat) (Q : State → Prop) (g : JFrame) (q : Addr) : Prop :=
  ∀ T : State, T.heap = H → Stand p l e R s m args below meth c T locs cells slots → ∃ t, Steps p.tables e below ((T.setTop g).pushFrame (.throwing q)) t ∧ Q t
def vx_Run (p : Program) (l : Launch) (e : Env) (R : Room) (s : State) (m : MethodId) (args : Array Value) (below : List Frame) (meth : Method) (c : Code) (H : Heap) (locs : List Loc) (cells slots mc ms : Nat) (g : JFrame) (rest : List Value) (Qa : State → Outcome → State → Prop) (XC : String → State → State → Prop) (free : Addr → Prop) : Prop :=
  ∀ T : State, T.heap = H → Stand p l e R s m args below meth c T locs cells slots →
    (∃ (v : Option Value) (st₀ t T' : State) (L : List Loc), st₀.heap = H ∧ Stand p l e R s m args below meth c T' (locs ++ L) (cells + mc) (slots + ms) ∧ (∀ q ∈ L, free q.base) ∧ T'.heap = t.heap ∧ T'.vm = t.vm ∧ Qa st₀ (.returned v) t ∧
      Goes p e below T g T' { g with pc := g.pc + 3, stack := v.toList ++ rest }) ∨
    (∃ (q : Addr) (st₀ t T' : State) (L : List Loc) (E : String) (ce : Cell), st₀.heap = H ∧ Stand p l e R s m args below meth c T' (locs ++ L) (cells + mc) (slots + ms) ∧ (∀ z ∈ L, free z.base) ∧ T'.heap = t.heap ∧ T'.vm = t.vm ∧ XC E st₀ t ∧ t.heap[q]? = some ce ∧ ce.vm = .none ∧ s.vm.findClass E = some ce.cls ∧
      Steps p.tables e below (T.setTop g) ((T'.setTop { g with stack := rest }).pushFrame (.throwing q)))
def vx_X {S : Type} (px : S → Prop) (B : String → S → State → Prop) (A : Nat → Prop) : String → State → State → Prop := fun E st t => ∃ u : S, px u ∧ B E u t ∧ va_F A st t
section Runs
variable {p : Program} {l : Launch} {e : Env} {R : Room} {s : State} {m : MethodId} {args : Array Value} {below : List Frame} {meth : Method} {c : Code} {H : Heap} {locs : List Loc} {cells slots : Nat}
variable {y : MethodName} {bytes cc : ByteArray} {maxL nL mc ms n index : Nat} {ret : Option FieldType} {ws : List Cond} {rm : Room} {Pc : Array Value → State → Prop} {Qc : Array Value → State → Outcome → State → Prop} {XC : String → State → State → Prop} {free : Addr → Prop} {Ts : List Cond} {own C : String} {b : Addr} {As rest : List Value} {g : JFrame}
theorem vx_callBack (cb : CallB R s args own index y bytes maxL ret ws rm mc ms n) (hM : vx_Met l y ws rm Pc Qc XC mc ms free) (hbl : FrameBlind Pc) : vx_Back l R p e below s args y 3 8 (PreOf R mc ms Pc) (PostOf Qc mc ms free) (vx_Post XC mc ms free) := by
  obtain ⟨hrc, hrs, hfr, hlo, hws, hcw, -, hini, -⟩ := cb
  exact vx_back (bytes := bytes) (maxL := maxL) (ret := ret) hM hbl hrc hrs hfr hlo hws hcw (fun a' U hW => word_at hW (Or.inl (by first | rfl | simp [Cond.onTables, Cond.keeps, Cond.steady])) hini)
theorem vx_runV (S : CallFix p m c cc nL s args Ts own) (hM : vx_Met l y ws rm Pc Qc XC mc ms free) (cw : CallW R s args own C index y bytes maxL ret ws rm mc ms n) (hp : PreV s H C b Pc As)
    (hg : g.method = m) (hn : As.length = n) (hsize : g.locals.size = nL) (hstack : g.stack = As.reverse ++ .ref b :: rest) (hW : 2 * g.monitorRoom + (rest.map fun v => v.category).sum ≤ 8) (hdg : decode cc g.pc = .ok (.invokevirtual index, 3)) (hf : cells + mc ≤ R.cells ∧ slots + ms ≤ R.slots) :
    vx_Run p l e R s m args below meth c H locs cells slots mc ms g rest (Qc (Value.ref b :: As).toArray) XC free := by
  have hK : vx_Back l R p e below s args y 3 8 (PreOf R mc ms Pc) (PostOf Qc mc ms free) (vx_Post XC mc ms free) := vx_callBack cw.1 hM hp.1
  obtain ⟨⟨-, -, -, -, -, -, hcode, -, hy, hlen, hl⟩, hin, hse⟩ := cw
  obtain ⟨hx, hb, hml, ho, -⟩ := S
  obtain ⟨-, ⟨cellB, hcB, hoB, hclB⟩, hPc⟩ := hp
  intro T hT X
  rcases vx_callV X hx (C := C) (bytes := bytes) (maxL := maxL) (ret := ret) ho hl hin hse hcode hy hK (by rw [hT]; exact hcB) hoB hclB hg (hsize.trans hml.symm) (argsL := As) (rest := rest) (fun sig h => hn.trans (hlen sig h)) hstack hW (by rw [hb]; exact hdg)
    (fun vm₁ hW₁ => ⟨hf.1, hf.2, hPc (T.setVm vm₁) hT hW₁⟩) with ⟨v, vm₁, ⟨U', l2, c2, s2⟩, hW₁, X', ⟨g', mk, t, L, e1, e2, hq, h1, hL, h2, h3⟩, st⟩ | ⟨q, vm₁, ⟨U', l2, c2, s2⟩, hW₁, X', ⟨g', mk, t, L, E, ce, e1, e2, hq, hce, hcv, hcl, h1, hL, h2, h3⟩, st⟩
  · dsimp only [Pt.U, Pt.locs, Pt.cells, Pt.slots] at X' e1 e2 h1 h2 h3 st
    subst h1; subst h2; subst h3
    exact Or.inl ⟨v, (T.setVm vm₁).calling g' mk (Value.ref b :: As).toArray, t, U', L, hT, X', hL, e1, e2, hq, st⟩
  · dsimp only [Pt.U, Pt.locs, Pt.cells, Pt.slots] at X' e1 e2 h1 h2 h3 st hcl
    subst h1; subst h2; subst h3
    exact Or.inr ⟨q, (T.setVm vm₁).calling g' mk (Value.ref b :: As).toArray, t, U', L, E, ce, hT, X', hL, e1, e2, hq, hce, hcv, vx_cls hW₁ hcl, st⟩
theorem vx_runS (S : CallFix p m c cc nL s args Ts own) (hM : vx_Met l y ws rm Pc Qc XC mc ms free) (cw : CallB R s args own index y bytes maxL ret ws rm mc ms n ∧ (Cond.static y).before args s = true) (hp : PreS s H Pc As)
    (hg : g.method = m) (hn : As.length = n) (hsize : g.locals.size = nL) (hstack : g.stack = As.reverse ++ rest) (hW : 2 * g.monitorRoom + (rest.map fun v => v.category).sum ≤ 8) (hdg : decode cc g.pc = .ok (.invokestatic index, 3)) (hf : cells + mc ≤ R.cells ∧ slots + ms ≤ R.slots) :
    vx_Run p l e R s m args below meth c H locs cells slots mc ms g rest (Qc As.toArray) XC free := by
  have hK : vx_Back l R p e below s args y 3 8 (PreOf R mc ms Pc) (PostOf Qc mc ms free) (vx_Post XC mc ms free) := vx_callBack cw.1 hM hp.1
  obtain ⟨⟨-, -, -, -, -, -, hcode, hini, hy, hlen, hl⟩, hstt⟩ := cw
  obtain ⟨hx, hb, hml, ho, -⟩ := S
  intro T hT X
  rcases vx_callS X hx (bytes := bytes) (maxL := maxL) (ret := ret) ho hl hstt hini hcode hy hK hg (hsize.trans hml.symm) (argsL := As) (rest := rest) (fun sig h => hn.trans (hlen sig h)) hstack hW (by rw [hb]; exact hdg)
    (fun vm₁ hW₁ => ⟨hf.1, hf.2, hp.2 (T.setVm vm₁) hT hW₁⟩) with ⟨v, vm₁, ⟨U', l2, c2, s2⟩, hW₁, X', ⟨g', mk, t, L, e1, e2, hq, h1, hL, h2, h3⟩, st⟩ | ⟨q, vm₁, ⟨U', l2, c2, s2⟩, hW₁, X', ⟨g', mk, t, L, E, ce, e1, e2, hq, hce, hcv, hcl, h1, hL, h2, h3⟩, st⟩
  · dsimp only [Pt.U, Pt.locs, Pt.cells, Pt.slots] at X' e1 e2 h1 h2 h3 st
    subst h1; subst h2; subst h3
    exact Or.inl ⟨v, (T.setVm vm₁).calling g' mk As.toArray, t, U', L, hT, X', hL, e1, e2, hq, st⟩
  · dsimp only [Pt.U, Pt.locs, Pt.cells, Pt.slots] at X' e1 e2 h1 h2 h3 st hcl
    subst h1; subst h2; subst h3
    exact Or.inr ⟨q, (T.setVm vm₁).calling g' mk As.toArray, t, U', L, E, ce, hT, X', hL, e1, e2, hq, hce, hcv, vx_cls hW₁ hcl, st⟩
end Runs
section Rows
variable {p : Program} {l : Launch} {e : Env} {R : Room} {s : State} {m : MethodId} {args : Array Value} {below : List Frame} {meth : Method} {c : Code} {H : Heap} {locs : List Loc} {cells slots : Nat} {Q : State → Prop}
variable {mc ms : Nat} {free : Addr → Prop} {A0 A1 : Nat → Prop} {H0 : Heap} {a : Array Value} {pc : Nat} {ls : Array Slot} {st0 rest : List Value}
theorem vx_keep {st₀ t T' : State} {L : List Loc} (h0 : st₀.heap = H) (e1 : T'.heap = t.heap) (hS : va_S A0 H0 H locs) (hA : ∀ q, q < H.size → A1 q → A0 q) (hf : ∀ q, free q → A0 q) (hL : ∀ q ∈ L, free q.base) (hF : va_F A1 st₀ t) :
    H.size ≤ T'.heap.size ∧ (∀ q : Nat, q < H.size → ¬ A1 q → T'.heap[q]? = H[q]?) ∧ va_S A0 H0 T'.heap (locs ++ L) := by
  obtain ⟨hz, hk⟩ := hF
  rw [h0] at hz hk
  exact ⟨by rw [e1]; exact hz, fun q h1 h2 => by rw [e1]; exact hk q h1 h2,
    ⟨Nat.le_trans hS.1 (by rw [e1]; exact hz), fun q h1 h2 => by rw [e1, hk q (Nat.lt_of_lt_of_le h1 hS.1) (fun z => h2 (hA q (Nat.lt_of_lt_of_le h1 hS.1) z))]; exact hS.2.1 q h1 h2, fun q hq => by
      rcases List.mem_append.mp hq with h | h
      · exact hS.2.2 q h
      · exact hf _ (hL q h)⟩⟩
theorem vx_calli {S SX : Type} {post : Int32 → S → Prop} {px : SX → Prop} {B : S → State → Prop} {BX : String → SX → State → Prop} {AX : Nat → Prop} (hr : vx_Run p l e R s m args below meth c H locs cells slots mc ms (F0 m pc ls st0) rest (va_Qi post B A1 a) (vx_X px BX AX) free) (hS : va_S A0 H0 H locs) (hA : ∀ q, q < H.size → A1 q → A0 q) (hf : ∀ q, free q → A0 q) (hAX : ∀ q, q < H.size → AX q → A0 q)
    (kx : ∀ (E : String) (ce : Cell) (q9 : Addr) (u : SX) (t : State) (H1 : Heap) (locs1 : List Loc), t.heap = H1 → s.vm.Alike t.vm → px u → BX E u t → H.size ≤ H1.size → (∀ q : Nat, q < H.size → ¬ AX q → H1[q]? = H[q]?) → va_S A0 H0 H1 locs1 → H1[q9]? = some ce → ce.vm = .none → s.vm.findClass E = some ce.cls → vx_W p l e R s m args below meth c H1 locs1 (cells + mc) (slots + ms) Q (F0 m pc ls rest) q9)
    (kk : ∀ (r : Int32) (u : S) (t : State) (H1 : Heap) (locs1 : List Loc), t.heap = H1 → s.vm.Alike t.vm → post r u → B u t → H.size ≤ H1.size → (∀ q : Nat, q < H.size → ¬ A1 q → H1[q]? = H[q]?) → va_S A0 H0 H1 locs1 → W p l e R s m args below meth c H1 locs1 (cells + mc) (slots + ms) Q (F0 m (pc + 3) ls (.int r :: rest))) : W p l e R s m args below meth c H locs cells slots Q (F0 m pc ls st0) := by
  intro T hT X
  rcases hr T hT X with ⟨v, st₀, t, T', L, h0, X', hL, e1, e2, ⟨⟨r, u, hv, hp, hb⟩, hF⟩, st⟩ | ⟨q, st₀, t, T', L, E, ce, h0, X', hL, e1, e2, ⟨u, hp, hb, hF⟩, hce, hcv, hcl, st⟩
  · cases hv
    obtain ⟨k1, k2, k3⟩ := vx_keep h0 e1 hS hA hf hL hF
    obtain ⟨t2, a1, b1⟩ := kk r u t T'.heap (locs ++ L) e1.symm (by rw [← e2]; exact X'.warmed.alike) hp hb k1 k2 k3 T' rfl X'
    exact ⟨t2, st t2 a1, b1⟩
  · obtain ⟨k1, k2, k3⟩ := vx_keep h0 e1 hS hAX hf hL hF
    obtain ⟨t2, a1, b1⟩ := kx E ce q u t T'.heap (locs ++ L) e1.symm (by rw [← e2]; exact X'.warmed.alike) hp hb k1 k2 k3 (by rw [e1]; exact hce) hcv hcl T' rfl X'
    exact ⟨t2, st.trans a1, b1⟩
theorem vx_calll {S SX : Type} {post : Int64 → S → Prop} {px : SX → Prop} {B : S → State → Prop} {BX : String → SX → State → Prop} {AX : Nat → Prop} (hr : vx_Run p l e R s m args below meth c H locs cells slots mc ms (F0 m pc ls st0) rest (va_Ql post B A1 a) (vx_X px BX AX) free) (hS : va_S A0 H0 H locs) (hA : ∀ q, q < H.size → A1 q → A0 q) (hf : ∀ q, free q → A0 q) (hAX : ∀ q, q < H.size → AX q → A0 q)
    (kx : ∀ (E : String) (ce : Cell) (q9 : Addr) (u : SX) (t : State) (H1 : Heap) (locs1 : List Loc), t.heap = H1 → s.vm.Alike t.vm → px u → BX E u t → H.size ≤ H1.size → (∀ q : Nat, q < H.size → ¬ AX q → H1[q]? = H[q]?) → va_S A0 H0 H1 locs1 → H1[q9]? = some ce → ce.vm = .none → s.vm.findClass E = some ce.cls → vx_W p l e R s m args below meth c H1 locs1 (cells + mc) (slots + ms) Q (F0 m pc ls rest) q9)
    (kk : ∀ (r : Int64) (u : S) (t : State) (H1 : Heap) (locs1 : List Loc), t.heap = H1 → s.vm.Alike t.vm → post r u → B u t → H.size ≤ H1.size → (∀ q : Nat, q < H.size → ¬ A1 q → H1[q]? = H[q]?) → va_S A0 H0 H1 locs1 → W p l e R s m args below meth c H1 locs1 (cells + mc) (slots + ms) Q (F0 m (pc + 3) ls (.long r :: rest))) : W p l e R s m args below meth c H locs cells slots Q (F0 m pc ls st0) := by
  intro T hT X
  rcases hr T hT X with ⟨v, st₀, t, T', L, h0, X', hL, e1, e2, ⟨⟨r, u, hv, hp, hb⟩, hF⟩, st⟩ | ⟨q, st₀, t, T', L, E, ce, h0, X', hL, e1, e2, ⟨u, hp, hb, hF⟩, hce, hcv, hcl, st⟩
  · cases hv
    obtain ⟨k1, k2, k3⟩ := vx_keep h0 e1 hS hA hf hL hF
    obtain ⟨t2, a1, b1⟩ := kk r u t T'.heap (locs ++ L) e1.symm (by rw [← e2]; exact X'.warmed.alike) hp hb k1 k2 k3 T' rfl X'
    exact ⟨t2, st t2 a1, b1⟩
  · obtain ⟨k1, k2, k3⟩ := vx_keep h0 e1 hS hAX hf hL hF
    obtain ⟨t2, a1, b1⟩ := kx E ce q u t T'.heap (locs ++ L) e1.symm (by rw [← e2]; exact X'.warmed.alike) hp hb k1 k2 k3 (by rw [e1]; exact hce) hcv hcl T' rfl X'
    exact ⟨t2, st.trans a1, b1⟩
theorem vx_callf {S SX : Type} {post : UInt32 → S → Prop} {px : SX → Prop} {B : S → State → Prop} {BX : String → SX → State → Prop} {AX : Nat → Prop} (hr : vx_Run p l e R s m args below meth c H locs cells slots mc ms (F0 m pc ls st0) rest (va_Qf post B A1 a) (vx_X px BX AX) free) (hS : va_S A0 H0 H locs) (hA : ∀ q, q < H.size → A1 q → A0 q) (hf : ∀ q, free q → A0 q) (hAX : ∀ q, q < H.size → AX q → A0 q)
    (kx : ∀ (E : String) (ce : Cell) (q9 : Addr) (u : SX) (t : State) (H1 : Heap) (locs1 : List Loc), t.heap = H1 → s.vm.Alike t.vm → px u → BX E u t → H.size ≤ H1.size → (∀ q : Nat, q < H.size → ¬ AX q → H1[q]? = H[q]?) → va_S A0 H0 H1 locs1 → H1[q9]? = some ce → ce.vm = .none → s.vm.findClass E = some ce.cls → vx_W p l e R s m args below meth c H1 locs1 (cells + mc) (slots + ms) Q (F0 m pc ls rest) q9)
    (kk : ∀ (r : UInt32) (u : S) (t : State) (H1 : Heap) (locs1 : List Loc), t.heap = H1 → s.vm.Alike t.vm → post r u → B u t → H.size ≤ H1.size → (∀ q : Nat, q < H.size → ¬ A1 q → H1[q]? = H[q]?) → va_S A0 H0 H1 locs1 → W p l e R s m args below meth c H1 locs1 (cells + mc) (slots + ms) Q (F0 m (pc + 3) ls (.float r :: rest))) : W p l e R s m args below meth c H locs cells slots Q (F0 m pc ls st0) := by
  intro T hT X
  rcases hr T hT X with ⟨v, st₀, t, T', L, h0, X', hL, e1, e2, ⟨⟨r, u, hv, hp, hb⟩, hF⟩, st⟩ | ⟨q, st₀, t, T', L, E, ce, h0, X', hL, e1, e2, ⟨u, hp, hb, hF⟩, hce, hcv, hcl, st⟩
  · cases hv
    obtain ⟨k1, k2, k3⟩ := vx_keep h0 e1 hS hA hf hL hF
    obtain ⟨t2, a1, b1⟩ := kk r u t T'.heap (locs ++ L) e1.symm (by rw [← e2]; exact X'.warmed.alike) hp hb k1 k2 k3 T' rfl X'
    exact ⟨t2, st t2 a1, b1⟩
  · obtain ⟨k1, k2, k3⟩ := vx_keep h0 e1 hS hAX hf hL hF
    obtain ⟨t2, a1, b1⟩ := kx E ce q u t T'.heap (locs ++ L) e1.symm (by rw [← e2]; exact X'.warmed.alike) hp hb k1 k2 k3 (by rw [e1]; exact hce) hcv hcl T' rfl X'
    exact ⟨t2, st.trans a1, b1⟩
theorem vx_calld {S SX : Type} {post : UInt64 → S → Prop} {px : SX → Prop} {B : S → State → Prop} {BX : String → SX → State → Prop} {AX : Nat → Prop} (hr : vx_Run p l e R s m args below meth c H locs cells slots mc ms (F0 m pc ls st0) rest (va_Qd post B A1 a) (vx_X px BX AX) free) (hS : va_S A0 H0 H locs) (hA : ∀ q, q < H.size → A1 q → A0 q) (hf : ∀ q, free q → A0 q) (hAX : ∀ q, q < H.size → AX q → A0 q)
    (kx : ∀ (E : String) (ce : Cell) (q9 : Addr) (u : SX) (t : State) (H1 : Heap) (locs1 : List Loc), t.heap = H1 → s.vm.Alike t.vm → px u → BX E u t → H.size ≤ H1.size → (∀ q : Nat, q < H.size → ¬ AX q → H1[q]? = H[q]?) → va_S A0 H0 H1 locs1 → H1[q9]? = some ce → ce.vm = .none → s.vm.findClass E = some ce.cls → vx_W p l e R s m args below meth c H1 locs1 (cells + mc) (slots + ms) Q (F0 m pc ls rest) q9)
    (kk : ∀ (r : UInt64) (u : S) (t : State) (H1 : Heap) (locs1 : List Loc), t.heap = H1 → s.vm.Alike t.vm → post r u → B u t → H.size ≤ H1.size → (∀ q : Nat, q < H.size → ¬ A1 q → H1[q]? = H[q]?) → va_S A0 H0 H1 locs1 → W p l e R s m args below meth c H1 locs1 (cells + mc) (slots + ms) Q (F0 m (pc + 3) ls (.double r :: rest))) : W p l e R s m args below meth c H locs cells slots Q (F0 m pc ls st0) := by
  intro T hT X
  rcases hr T hT X with ⟨v, st₀, t, T', L, h0, X', hL, e1, e2, ⟨⟨r, u, hv, hp, hb⟩, hF⟩, st⟩ | ⟨q, st₀, t, T', L, E, ce, h0, X', hL, e1, e2, ⟨u, hp, hb, hF⟩, hce, hcv, hcl, st⟩
  · cases hv
    obtain ⟨k1, k2, k3⟩ := vx_keep h0 e1 hS hA hf hL hF
    obtain ⟨t2, a1, b1⟩ := kk r u t T'.heap (locs ++ L) e1.symm (by rw [← e2]; exact X'.warmed.alike) hp hb k1 k2 k3 T' rfl X'
    exact ⟨t2, st t2 a1, b1⟩
  · obtain ⟨k1, k2, k3⟩ := vx_keep h0 e1 hS hAX hf hL hF
    obtain ⟨t2, a1, b1⟩ := kx E ce q u t T'.heap (locs ++ L) e1.symm (by rw [← e2]; exact X'.warmed.alike) hp hb k1 k2 k3 (by rw [e1]; exact hce) hcv hcl T' rfl X'
    exact ⟨t2, st.trans a1, b1⟩
theorem vx_callv {S SX : Type} {post : S → Prop} {px : SX → Prop} {B : S → State → Prop} {BX : String → SX → State → Prop} {AX : Nat → Prop} (hr : vx_Run p l e R s m args below meth c H locs cells slots mc ms (F0 m pc ls st0) rest (va_Qv post B A1 a) (vx_X px BX AX) free) (hS : va_S A0 H0 H locs) (hA : ∀ q, q < H.size → A1 q → A0 q) (hf : ∀ q, free q → A0 q) (hAX : ∀ q, q < H.size → AX q → A0 q)
    (kx : ∀ (E : String) (ce : Cell) (q9 : Addr) (u : SX) (t : State) (H1 : Heap) (locs1 : List Loc), t.heap = H1 → s.vm.Alike t.vm → px u → BX E u t → H.size ≤ H1.size → (∀ q : Nat, q < H.size → ¬ AX q → H1[q]? = H[q]?) → va_S A0 H0 H1 locs1 → H1[q9]? = some ce → ce.vm = .none → s.vm.findClass E = some ce.cls → vx_W p l e R s m args below meth c H1 locs1 (cells + mc) (slots + ms) Q (F0 m pc ls rest) q9)
    (kk : ∀ (u : S) (t : State) (H1 : Heap) (locs1 : List Loc), t.heap = H1 → s.vm.Alike t.vm → post u → B u t → H.size ≤ H1.size → (∀ q : Nat, q < H.size → ¬ A1 q → H1[q]? = H[q]?) → va_S A0 H0 H1 locs1 → W p l e R s m args below meth c H1 locs1 (cells + mc) (slots + ms) Q (F0 m (pc + 3) ls (rest))) : W p l e R s m args below meth c H locs cells slots Q (F0 m pc ls st0) := by
  intro T hT X
  rcases hr T hT X with ⟨v, st₀, t, T', L, h0, X', hL, e1, e2, ⟨⟨u, hv, hp, hb⟩, hF⟩, st⟩ | ⟨q, st₀, t, T', L, E, ce, h0, X', hL, e1, e2, ⟨u, hp, hb, hF⟩, hce, hcv, hcl, st⟩
  · cases hv
    obtain ⟨k1, k2, k3⟩ := vx_keep h0 e1 hS hA hf hL hF
    obtain ⟨t2, a1, b1⟩ := kk u t T'.heap (locs ++ L) e1.symm (by rw [← e2]; exact X'.warmed.alike) hp hb k1 k2 k3 T' rfl X'
    exact ⟨t2, st t2 a1, b1⟩
  · obtain ⟨k1, k2, k3⟩ := vx_keep h0 e1 hS hAX hf hL hF
    obtain ⟨t2, a1, b1⟩ := kx E ce q u t T'.heap (locs ++ L) e1.symm (by rw [← e2]; exact X'.warmed.alike) hp hb k1 k2 k3 (by rw [e1]; exact hce) hcv hcl T' rfl X'
    exact ⟨t2, st.trans a1, b1⟩
/-- caught by the row x of this method's table; the rows ahead don't take it -/
theorem vx_catch {own name : String} {E : String} {ce : Cell} {q : Addr} (hown : s.vm.findClass own = some m.cls) (pre : List ExceptionTableEntry) (x : ExceptionTableEntry) (suf : List ExceptionTableEntry) (hsplit : c.exceptionTable.toList = pre ++ x :: suf)
    (hpass : ∀ z ∈ pre, covers z pc = false ∨ (z.catchType ≠ 0 ∧ ∃ nm : String, (Cond.classLink own z.catchType nm).before args s = true ∧ va_Nc E nm s)) (hx : covers x pc = true) (h0 : x.catchType ≠ 0)
    (hlink : (Cond.classLink own x.catchType name).before args s = true) (hcast : (Cond.castable E name).before args s = true) (hcell : H[q]? = some ce) (hv : ce.vm = .none) (hcl : s.vm.findClass E = some ce.cls)
    (kk : W p l e R s m args below meth c H locs cells slots Q (F0 m x.handlerPc ls [.ref q])) : vx_W p l e R s m args below meth c H locs cells slots Q (F0 m pc ls rest) q := by
  intro T hT X
  have hpl : e.platform.magicAccessors = ({} : Platform).magicAccessors := by rw [X.admits.platform]
  obtain ⟨c3, c4, hc3, hc4, hasg⟩ := Cond.castable_spec hcast
  cases Option.some.inj (hc3.symm.trans hcl)
  obtain ⟨c5, hc5, hcl5⟩ := Cond.classLink_spec hown hlink e.platform hpl
  cases Option.some.inj (hc4.symm.trans hc5)
  obtain ⟨vm', X', st⟩ := X.thenCaughtThrough q (g := F0 m pc ls rest) rfl (Steps.refl _) (by rw [hT]; exact hcell) (by rw [hv]; rfl) (by obtain ⟨k9, h9, -⟩ := Vm.findClass_spec hcl; exact ⟨k9, h9⟩) pre x suf hsplit
    (fun z hz => by
      rcases hpass z hz with h | ⟨hz0, nm, hl1, hn1⟩
      · exact Or.inl h
      · obtain ⟨c6, hc6, hcl6⟩ := Cond.classLink_spec hown hl1 e.platform hpl
        obtain ⟨a8, b8, h1, h2, h3⟩ := hn1
        cases Option.some.inj (h1.symm.trans hcl)
        cases Option.some.inj (h2.symm.trans hc6)
        exact Or.inr ⟨hz0, _, hcl6, h3⟩) hx (Or.inr ⟨h0, c4, hcl5, hasg⟩)
  obtain ⟨t, a1, b1⟩ := kk (T.setVm vm') hT X'
  exact ⟨t, st.trans a1, b1⟩
end Rows
section Ends
variable {p : Program} {l : Launch} {e : Env} {R : Room} {s : State} {m : MethodId} {args : Array Value} {below : List Frame} {meth : Method} {c : Code} {H : Heap} {locs : List Loc} {cells slots : Nat} {Q : State → Prop}
variable {mc ms : Nat} {free : Addr → Prop} {A0 A1 : Nat → Prop} {H0 : Heap} {a : Array Value} {ls : Array Slot} {st0 rest : List Value}
variable {Qc : Array Value → State → Outcome → State → Prop} {XC : String → State → State → Prop}
/-- what a body that may throw owes at its end -/
def vx_MQ (below : List Frame) (Qc : Array Value → State → Outcome → State → Prop) (XC : String → State → State → Prop) (a : Array Value) (s : State) (mc ms : Nat) (free : Addr → Prop) : State → Prop := fun t =>
  ∃ o, t.status = .running ∧ Ended t below o ∧ vx_Q Qc XC mc ms free a s o t
theorem vx_ret {g : JFrame} {mc ms : Nat} (k : W p l e R s m args below meth c H locs cells slots (MQ below Qc args s mc ms free) g) : W p l e R s m args below meth c H locs cells slots (vx_MQ below Qc XC args s mc ms free) g := by
  intro T hT X
  obtain ⟨t, a1, o, b1, b2, b3, b4⟩ := k T hT X
  exact ⟨t, a1, o, b1, b2, Or.inl ⟨b3, b4⟩⟩
/-- not caught here: it goes on to the caller -/
theorem vx_widen {g : JFrame} {q : Addr} {k n : Nat} (h1 : cells ≤ k) (h2 : slots ≤ n) (kk : vx_W p l e R s m args below meth c H locs k n Q g q) : vx_W p l e R s m args below meth c H locs cells slots Q g q := fun T hT X => kk T hT (stand_widen X h1 h2)
theorem vx_out {pc : Nat} {E : String} {ce : Cell} {q : Addr} {mc ms : Nat} (hout : ∀ x ∈ c.exceptionTable.toList, covers x pc = false) (hlocks : meth.locks = false) (hcell : H[q]? = some ce) (hv : ce.vm = .none) (hcl : s.vm.findClass E = some ce.cls)
    (hx : ∀ t : State, t.heap = H → s.vm.Alike t.vm → XC E s t) (hf : ∀ z ∈ locs, free z.base) (hc : cells ≤ mc) (hs : slots ≤ ms) :
    vx_W p l e R s m args below meth c H locs cells slots (vx_MQ below Qc XC args s mc ms free) (F0 m pc ls rest) q := by
  intro T hT X
  obtain ⟨st1, hrun, hend, hW, hsm⟩ := X.leaveThrown q (g := F0 m pc ls rest) rfl rfl rfl hout hlocks
  have hcell9 : (T.setFrames (.throwing q :: below)).heap[q]? = some ce := by
    show T.heap[q]? = some ce
    rw [hT]; exact hcell
  exact ⟨_, st1, .threw q, hrun, hend, Or.inr ⟨q, rfl, E, ce, locs, hx _ hT hW.alike, hcell9, hv, hcl, hW, hsm.mono hc hs, hf⟩⟩
theorem vx_frame {U : State} {k n : Nat} (h : s.sameButNew ({ U with vm := s.vm } : State) locs k n) : s.heap.size ≤ U.heap.size ∧ ∀ q : Nat, q < s.heap.size → (∀ z ∈ locs, z.base ≠ q) → U.heap[q]? = s.heap[q]? := by
  obtain ⟨-, h2, -, -, -, h6⟩ := h
  refine ⟨h2, fun q hq hz => ?_⟩
  obtain ⟨c9, e1, e2, e3, e4⟩ := h6 q _ (Array.getElem?_eq_getElem hq)
  have hs : c9.slots = (s.heap[q]).slots := Array.ext_getElem? fun i => e4 i fun hm => hz _ hm rfl
  have h9 : c9 = s.heap[q] := by
    rw [hs] at e2
    exact e2
  have e5 : U.heap[q]? = some c9 := e1
  rw [e5, h9, Array.getElem?_eq_getElem hq]
/-- the words of a throw but the four that speak of the heap -/
def vx_no (w : Cond) : Bool := decide (w ≠ .isRef (.static Bundle.tN "UNASSIGNED_STACK" Bundle.steD)) && decide (w ≠ .isRef (.static Bundle.tN "SUPPRESSED_SENTINEL" Bundle.listD)) && decide (w ≠ .laysStatic Bundle.tN "UNASSIGNED_STACK" Bundle.steD) && decide (w ≠ .laysStatic Bundle.tN "SUPPRESSED_SENTINEL" Bundle.listD)
def vx_at0 (own : String) (ic : Nat) (X : String) (names : List String) : List Cond := (Bundle.ownAtoms0 own ic X names).filter vx_no
def vx_atS (own : String) (ic : Nat) (X : String) (names : List String) : List Cond := (Bundle.ownAtoms own ic X names).filter vx_no
/-- a word that the tables alone decide, or a good one -/
def vx_ot (w : Cond) : Bool := w.onTables || goodWord w
theorem vx_ot_at {args a' : Array Value} {s U : State} {w : Cond} (hW : s.WarmedH U.vm) (hvm : s.vm = U.vm) (hg : vx_ot w = true) (h : w.before args s = true) : w.before a' U = true := by
  simp only [vx_ot, Bool.or_eq_true] at hg
  rcases hg with hg | hg
  · exact va_tabs hg hvm h
  · exact word_at hW (good_of_word hg) h
/-- a list's words: the good ones out of the method's own list, the others by premises of their own -/
theorem vx_hat {args : Array Value} {s : State} {L B : List Cond} (h1 : ∀ w ∈ L.filter goodWord, w.before args s = true) (h2 : ∀ w ∈ L.filter (fun w => !goodWord w), w ∈ B) (h3 : ∀ w ∈ B, w.before args s = true) : ∀ w ∈ L, w.before args s = true := by
  intro w hw
  by_cases g : goodWord w = true
  · exact h1 w (List.mem_filter.mpr ⟨hw, g⟩)
  · refine h3 w (h2 w (List.mem_filter.mpr ⟨hw, ?_⟩))
    show (!goodWord w) = true
    cases hgw : goodWord w
    · rfl
    · exact absurd hgw g
theorem vx_c {args : Array Value} {s : State} {w : Cond} {B : List Cond} (h : w.before args s = true) (t : ∀ w ∈ B, w.before args s = true) : ∀ w' ∈ w :: B, w'.before args s = true := fun w' h' => (List.mem_cons.mp h').elim (fun e => by rw [e]; exact h) (t w')
theorem vx_n {args : Array Value} {s : State} : ∀ w ∈ ([] : List Cond), w.before args s = true := fun _ h => nomatch h
theorem vx_own {args : Array Value} {s : State} {L : List Cond} (h1 : ∀ w ∈ L.filter vx_no, w.before args s = true)
    (hU : (Cond.isRef (.static Bundle.tN "UNASSIGNED_STACK" Bundle.steD)).before args s = true) (hN : (Cond.isRef (.static Bundle.tN "SUPPRESSED_SENTINEL" Bundle.listD)).before args s = true)
    (lU : (Cond.laysStatic Bundle.tN "UNASSIGNED_STACK" Bundle.steD).before args s = true) (lN : (Cond.laysStatic Bundle.tN "SUPPRESSED_SENTINEL" Bundle.listD).before args s = true) : ∀ w ∈ L, w.before args s = true := by
  intro w hw
  by_cases e1 : w = .isRef (.static Bundle.tN "UNASSIGNED_STACK" Bundle.steD)
  · rw [e1]; exact hU
  · by_cases e2 : w = .isRef (.static Bundle.tN "SUPPRESSED_SENTINEL" Bundle.listD)
    · rw [e2]; exact hN
    · by_cases e3 : w = .laysStatic Bundle.tN "UNASSIGNED_STACK" Bundle.steD
      · rw [e3]; exact lU
      · by_cases e4 : w = .laysStatic Bundle.tN "SUPPRESSED_SENTINEL" Bundle.listD
        · rw [e4]; exact lN
        · exact h1 w (List.mem_filter.mpr ⟨hw, by unfold vx_no; rw [decide_eq_true e1, decide_eq_true e2, decide_eq_true e3, decide_eq_true e4]; rfl⟩)
/-- where a static field lies, its class's statics cell in H -/
def vx_L (C n d : String) (A : Nat → Prop) (U : State) (H : Heap) : Prop := ∃ (c : ClassId) (k : Class) (i : Nat) (f : Field) (a : Nat) (cell : Cell), U.vm.findClass C = some c ∧ U.fieldFound? C n d = some (c, k, i, f) ∧ f.isStatic = true ∧ k.statics = some a ∧ H[a]? = some cell ∧ cell.vm.isStatics = true ∧ cell.cls = c ∧ f.slot < cell.slots.size ∧ k.staticTypes[f.slot]? = some f.type ∧ ¬ A a
theorem vx_L.moved {C n d : String} {A : Nat → Prop} {u U : State} {H : Heap} (hvm : u.vm.Alike U.vm) (h : vx_L C n d A u H) : vx_L C n d A U H := by
  obtain ⟨c, k, i, f, a, cell, h1, h2, h3, h4, h5, h6, h7, h8, h9, h10⟩ := h
  obtain ⟨k', hi', he⟩ := State.fieldFound?_setVm hvm h2
  exact ⟨c, k', i, f, a, cell, by rw [hvm.findClass]; exact h1, hi', h3, by rw [he]; exact h4, h5, h6, h7, h8, by rw [he]; exact h9, h10⟩
theorem vx_L.kept {C n d : String} {A : Nat → Prop} {U : State} {H H1 : Heap} (h : vx_L C n d A U H) (hq : ∀ a : Nat, a < H.size → ¬ A a → H1[a]? = H[a]?) : vx_L C n d A U H1 := by
  obtain ⟨c, k, i, f, a, cell, h1, h2, h3, h4, h5, h6, h7, h8, h9, h10⟩ := h
  exact ⟨c, k, i, f, a, cell, h1, h2, h3, h4, by rw [hq a (Array.getElem?_eq_some_iff.mp h5).1 h10]; exact h5, h6, h7, h8, h9, h10⟩
theorem vx_L.narrow {C n d : String} {A B : Nat → Prop} {U : State} {H : Heap} (h : vx_L C n d A U H) (hAB : ∀ q, B q → A q) : vx_L C n d B U H := by
  obtain ⟨c, k, i, f, a, cell, h1, h2, h3, h4, h5, h6, h7, h8, h9, h10⟩ := h
  exact ⟨c, k, i, f, a, cell, h1, h2, h3, h4, h5, h6, h7, h8, h9, fun z => h10 (hAB _ z)⟩
theorem vx_L.word {C n d : String} {A : Nat → Prop} {s : State} {args : Array Value} (h : vx_L C n d A s s.heap) : (Cond.laysStatic C n d).before args s = true := by
  obtain ⟨c, k, i, f, a, cell, h1, h2, h3, h4, h5, h6, h7, h8, h9, -⟩ := h
  show (Cond.laysStatic C n d).holds args s none s [] = true
  exact Cond.laysStatic_of h1 h2 h3 h4 h5 h6 h7 h8 h9
/-- .. and what it holds: null or some reference -/
def vx_Zq (C n d : String) (A : Nat → Prop) (U : State) (H : Heap) : Prop := va_Zq C n d A U H ∧ vx_L C n d A U H
theorem vx_Zq.moved {C n d : String} {A : Nat → Prop} {u U : State} {H : Heap} (hvm : u.vm.Alike U.vm) (h : vx_Zq C n d A u H) : vx_Zq C n d A U H := ⟨va_Zq.moved hvm h.1, vx_L.moved hvm h.2⟩
theorem vx_Zq.kept {C n d : String} {A : Nat → Prop} {U : State} {H H1 : Heap} (h : vx_Zq C n d A U H) (hq : ∀ a : Nat, a < H.size → ¬ A a → H1[a]? = H[a]?) : vx_Zq C n d A U H1 := ⟨va_Zq.kept h.1 hq, vx_L.kept h.2 hq⟩
theorem vx_Zq.narrow {C n d : String} {A B : Nat → Prop} {U : State} {H : Heap} (h : vx_Zq C n d A U H) (hAB : ∀ q, B q → A q) : vx_Zq C n d B U H := ⟨va_Zq.narrow h.1 hAB, vx_L.narrow h.2 hAB⟩
theorem vx_Zqof {args : Array Value} {s : State} {C n d : String} {A : Nat → Prop} (hl : (Cond.laysStatic C n d).before args s = true) (hini : (Cond.initialized C).before args s = true) (h : (Cond.isRef (.static C n d)).before args s = true) (hA : ∀ a : Nat, a < s.heap.size → ¬ A a) : vx_Zq C n d A s s.heap := by
  refine ⟨va_Zqof hl hini h hA, ?_⟩
  obtain ⟨c, k, i, f, a, cell, h1, h2, h3, h4, h5, h6, h7, h8, h9⟩ := Cond.laysStatic_spec hl
  exact ⟨c, k, i, f, a, cell, h1, h2, h3, h4, h5, h6, h7, h8, h9, hA a (Array.getElem?_eq_some_iff.mp h5).1⟩
theorem vx_isRef {C n d : String} {v : Value} {A : Nat → Prop} {s : State} {args : Array Value} (h : va_Z C n d v A s s.heap) (hv : v.isRef = true) : (Cond.isRef (.static C n d)).before args s = true := by
  obtain ⟨cf, kf, fi, f, a, cell, h1, h2, h3, h4, h5, h6, h7, -⟩ := h
  have he : (Term.static C n d).eval args s none [] s = some v := by
    simp [Term.eval, State.fieldNamed?, h1, h2, h4, h5, h6, h7]
  simp only [Cond.before, Cond.holds, Cond.value, he]
  cases v <;> simp_all [Value.isRef]
theorem vx_isRefq {C n d : String} {A : Nat → Prop} {s : State} {args : Array Value} (h : va_Zq C n d A s s.heap) : (Cond.isRef (.static C n d)).before args s = true := by
  rcases h with h | ⟨t, h⟩
  · exact vx_isRef h rfl
  · exact vx_isRef h rfl
/-- the same frame, seen from here: as if the method were called anew in this heap -/
theorem vx_rebase {T : State} (X : Stand p l e R s m args below meth c T locs cells slots) {R' : Room} (hf : R'.frames ≤ R.frames) (hl : R'.locals ≤ R.locals) (hc : cells + R'.cells ≤ R.cells) (hs : slots + R'.slots ≤ R.slots) :
    Stand p l e R' ((T.setVm s.vm).setFrames (.invoking m args :: below)) m args below meth c T [] 0 0 := by
  have htop : (T.setVm s.vm).topJava?.isSome := X.here.top
  have hF : ((T.setVm s.vm).setFrames (.invoking m args :: below)).frames = .invoking m args :: below := State.frames_setFrames _ (State.cur_lt_of_top htop)
  obtain ⟨g₀, hg0⟩ := Option.isSome_iff_exists.mp htop
  obtain ⟨r, hr⟩ := State.topJava?_eq_some.mp hg0
  have hl9 : e.platform.stackLimits (T.setVm s.vm).me = e.platform.stackLimits s.me := X.limits
  have hb9 : (T.setVm s.vm).me.stackBytes = s.me.stackBytes := X.bytes
  refine ⟨X.admits, X.cas, X.clock, hF, ?_, X.hears, X.method, X.code, X.here, X.tail, X.warmed, ?_, ?_, ?_⟩
  · have h := X.room
    have hU : ((T.setVm s.vm).setFrames (.invoking m args :: below)).localsInUse = s.localsInUse := by
      rw [State.localsInUse_invoking hF (meth := meth) (c := c) X.method X.code, State.localsInUse_invoking X.frames X.method X.code]
    simp only [State.hasRoom, Bool.and_eq_true, decide_eq_true_eq] at h ⊢
    obtain ⟨⟨⟨⟨h1, h2, h3, h4, h5, h6⟩, h7⟩, h8⟩, h9⟩ := h
    rw [X.frames, List.length_cons] at h2 h3
    have q1 := X.heapSize
    have q2 := X.used
    simp only [hF, hU, List.length_cons, State.stackLimits_setFrames, State.stackBytes_setFrames, hl9, hb9]
    refine ⟨⟨⟨⟨by omega, by omega, by omega, by omega, by omega, h6⟩, ?_⟩, ?_⟩, X.book⟩
    · show T.heap.size + R'.cells ≤ e.platform.maxCells
      omega
    · show T.slotsUsed + R'.slots ≤ e.platform.maxSlots
      omega
  · rw [State.stackLimits_setFrames]; rfl
  · rw [State.stackBytes_setFrames]; rfl
  · refine ⟨?_, Nat.le_refl _, Nat.le_refl _, ?_, ?_, fun a c9 h9 => ⟨c9, h9, rfl, rfl, fun _ _ => rfl⟩⟩
    · obtain ⟨t, ht, -⟩ := State.frames_cons hr
      show T.setVm s.vm = { ((T.setVm s.vm).setFrames (.invoking m args :: below)).setFrames (T.setVm s.vm).frames with heap := T.heap, slotsUsed := T.slotsUsed }
      rw [State.setFrames_setFrames, State.setFrames_self ht]
      rfl
    · show T.slotsUsed = T.slotsUsed + ((T.heap.toList.drop T.heap.size).map (·.slots.size)).sum
      rw [List.drop_eq_nil_of_le (Nat.le_of_eq Array.length_toList)]
      rfl
    · show ((T.heap.toList.drop T.heap.size).map (·.slots.size)).sum ≤ 0
      rw [List.drop_eq_nil_of_le (Nat.le_of_eq Array.length_toList)]
      exact Nat.le_refl _
/-- 'throw new E()': new; dup; invokespecial; athrow -/
theorem vx_throw0 {cc : ByteArray} {pc : Nat} (hexec : p.tables.exec = Jvm.exec) (hb : c.code = cc) (hl : l.stackTraces = false) {own cls : String} {names : List String} {ik ic mc ms : Nat} {A : Nat → Prop}
    (hown : s.vm.findClass own = some m.cls) (hcls : Bundle.fit cls = true) (hnames : ∀ n ∈ names, Bundle.fit n = true)
    (hk : (Cond.classLink own ik cls).before args s = true) (hini : (Cond.initialized cls).before args s = true) (hat : ∀ w ∈ vx_at0 own ic cls names, w.before args s = true)
    (hgood : ∀ w ∈ Cond.classLink own ik cls :: Cond.initialized cls :: vx_at0 own ic cls names, vx_ot w = true)
    (hU : vx_Zq Bundle.tN "UNASSIGNED_STACK" Bundle.steD A s s.heap) (hN : vx_Zq Bundle.tN "SUPPRESSED_SENTINEL" Bundle.listD A s s.heap) (hS : va_S A s.heap H locs) (hsize : ls.size = c.maxLocals)
    (d0 : decode cc pc = .ok (.new ik, 3)) (d3 : decode cc (pc + 3) = .ok (.dup, 1)) (d4 : decode cc (pc + 4) = .ok (.invokespecial ic, 3)) (d7 : decode cc (pc + 7) = .ok (.athrow, 1))
    (hout : ∀ x ∈ c.exceptionTable.toList, covers x (pc + 7) = false)
    (hRframes : names.length + 3 < R.frames) (hRlocals : (rest.map fun v => v.category).sum + (13 * (names.length + 1) + 42) ≤ R.locals) (hRcells : cells + 1 ≤ R.cells) (hRslots : slots + 6 ≤ R.slots) (hlocks : meth.locks = false)
    (hx : ∀ t : State, s.vm.Alike t.vm → H.size ≤ t.heap.size → (∀ q : Nat, q < H.size → t.heap[q]? = H[q]?) → XC cls s t)
    (hf : ∀ z ∈ locs, free z.base) (hc : cells + 1 ≤ mc) (hs : slots + 6 ≤ ms) :
    W p l e R s m args below meth c H locs cells slots (vx_MQ below Qc XC args s mc ms free) (F0 m pc ls rest) := by
  intro T hT X
  have htr : e.platform.stackTraces = false := (show e.platform.stackTraces = l.stackTraces by rw [X.admits.platform]).trans hl
  have Y := vx_rebase X (R' := { frames := R.frames, locals := R.locals, cells := 1, slots := 6 }) (Nat.le_refl _) (Nat.le_refl _) hRcells hRslots
  obtain ⟨s', hA⟩ : ∃ z, z = (T.setVm s.vm).setFrames (.invoking m args :: below) := ⟨_, rfl⟩
  rw [← hA] at Y
  have hvm : s'.vm = s.vm := by rw [hA]; rfl
  have hhp : s'.heap = H := by rw [hA]; exact hT
  have hW0 : s.WarmedH s'.vm := by rw [hvm]; exact State.WarmedH.refl s
  have hat' : ∀ w ∈ vx_at0 own ic cls names, w.before args s' = true := fun w hw => vx_ot_at hW0 hvm.symm (hgood w (List.mem_cons_of_mem _ (List.mem_cons_of_mem _ hw))) (hat w hw)
  have hk' : (Cond.classLink own ik cls).before args s' = true := vx_ot_at hW0 hvm.symm (hgood _ List.mem_cons_self) hk
  have hini' : (Cond.initialized cls).before args s' = true := vx_ot_at hW0 hvm.symm (hgood _ (List.mem_cons_of_mem _ List.mem_cons_self)) hini
  have hU' : vx_Zq Bundle.tN "UNASSIGNED_STACK" Bundle.steD A s' s'.heap := by rw [hhp]; exact vx_Zq.moved hW0.alike (hU.kept hS.2.1)
  have hN' : vx_Zq Bundle.tN "SUPPRESSED_SENTINEL" Bundle.listD A s' s'.heap := by rw [hhp]; exact vx_Zq.moved hW0.alike (hN.kept hS.2.1)
  have h : ∀ w ∈ Bundle.ownAtoms0 own ic cls names, w.before args s' = true := vx_own hat' (vx_isRefq hU'.1) (vx_isRefq hN'.1) hU'.2.word hN'.2.word
  have hown' : s'.vm.findClass own = some m.cls := by rw [hvm]; exact hown
  have hins : (Cond.instantiable cls 6).before args s' = true := h _ (by simp [Bundle.ownAtoms0])
  obtain ⟨vm₁, cX, kX, hfX, hkX, -, -, X₁, st1⟩ := Y.newCold hexec (own := own) (C := cls) (index := ik) (n := 6) hown' hk' hins hini'
    (g := F0 m pc ls rest) rfl (by rw [hb]; exact d0) (Nat.le_refl _) (Nat.le_refl _)
  generalize hT1 : (T.setVm vm₁).pushCell { cls := cX, slots := kX.instanceTypes.map defaultValue, vm := .none } = T1 at X₁ st1
  have hcat : (Value.ref T.heap.size).category = 1 := rfl
  have hcellA : T1.heap[T.heap.size]? = some (freshCell cX kX) := by rw [← hT1]; exact State.heap_pushCell_size _ _
  have d3' : decode c.code (pc + 3) = .ok (.dup, 1) := by rw [hb]; exact d3
  obtain ⟨U, hsteps, hrun, hend, hW, hsame, ce, hce, hO⟩ := X₁.ctorThrow0 hexec htr (own := own) (cls := cls) (names := names) (ic := ic) hown' hcls hnames h (fun x hx => nomatch hx) hfX hkX hcellA (by rw [hhp, hT]; exact Nat.le_refl _)
    (g := { method := m, pc := pc + 4, locals := ls, stack := .ref T.heap.size :: .ref T.heap.size :: rest, locked := none }) rfl hsize rfl rfl (rest := rest) rfl
    (by rw [hb]; exact d4) (by rw [hb]; exact d7) hout hRframes (by simp only [List.map_cons, List.sum_cons, hcat]; omega) hlocks
  obtain ⟨f1, f2⟩ := vx_frame hsame
  rw [hhp] at f1 f2
  have hWs : s.WarmedH U.vm := State.WarmedH.trans hW0 hW
  have hcl : s.vm.findClass cls = some ce.cls := by
    have h9 := hO.cls
    rw [hvm] at h9
    exact h9
  have hall : s.sameButNew ({ U with vm := s.vm } : State) locs mc ms := by
    subst hA
    obtain ⟨e1, e2⟩ := hsame
    rw [State.setFrames_setFrames] at e1
    have h2 : (T.setVm s.vm).sameButNew ({ U with vm := s.vm } : State) [] (0 + 1) (0 + 6) := ⟨e1, e2⟩
    have h3 := X.same.trans h2
    rw [List.append_nil] at h3
    exact h3.mono hc hs
  refine ⟨U, ?_, .threw T.heap.size, hrun, hend, Or.inr ⟨T.heap.size, rfl, cls, ce, locs, hx U hWs.alike f1 (fun q hq => f2 q hq (fun z hz => nomatch hz)), hce, hO.vm, hcl, hWs, hall, hf⟩⟩
  refine st1 _ ?_
  show Steps p.tables e below (T1.setTop { method := m, pc := pc + 3, locals := ls, stack := .ref T.heap.size :: rest, locked := none }) _
  jvm_step X₁.here [X₁.here.top, hexec, d3', Value.category]
  exact hsteps
/-- 'throw new E("text")': new; dup; ldc; invokespecial; athrow -/
theorem vx_throwS {cc : ByteArray} {pc : Nat} (hexec : p.tables.exec = Jvm.exec) (hb : c.code = cc) (hl : l.stackTraces = false) {own cls text : String} {names : List String} {ik is ic mc ms sa : Nat} {A : Nat → Prop}
    (hown : s.vm.findClass own = some m.cls) (hcls : Bundle.fit cls = true) (hnames : ∀ n ∈ names, Bundle.fit n = true)
    (hk : (Cond.classLink own ik cls).before args s = true) (hini : (Cond.initialized cls).before args s = true) (hstr : vk_R own is text sa s) (hat : ∀ w ∈ vx_atS own ic cls names, w.before args s = true)
    (hgood : ∀ w ∈ Cond.classLink own ik cls :: Cond.initialized cls :: vx_atS own ic cls names, vx_ot w = true)
    (hU : vx_Zq Bundle.tN "UNASSIGNED_STACK" Bundle.steD A s s.heap) (hN : vx_Zq Bundle.tN "SUPPRESSED_SENTINEL" Bundle.listD A s s.heap) (hS : va_S A s.heap H locs) (hsize : ls.size = c.maxLocals)
    (d0 : decode cc pc = .ok (.new ik, 3)) (d3 : decode cc (pc + 3) = .ok (.dup, 1)) (d4 : decode cc (pc + 4) = .ok (.ldc is, 2)) (d6 : decode cc (pc + 6) = .ok (.invokespecial ic, 3)) (d9 : decode cc (pc + 9) = .ok (.athrow, 1))
    (hout : ∀ x ∈ c.exceptionTable.toList, covers x (pc + 9) = false)
    (hRframes : names.length + 3 < R.frames) (hRlocals : (rest.map fun v => v.category).sum + (13 * (names.length + 1) + 43) ≤ R.locals) (hRcells : cells + 1 ≤ R.cells) (hRslots : slots + 6 ≤ R.slots) (hlocks : meth.locks = false)
    (hx : ∀ t : State, s.vm.Alike t.vm → H.size ≤ t.heap.size → (∀ q : Nat, q < H.size → t.heap[q]? = H[q]?) → XC cls s t)
    (hf : ∀ z ∈ locs, free z.base) (hc : cells + 1 ≤ mc) (hs : slots + 6 ≤ ms) :
    W p l e R s m args below meth c H locs cells slots (vx_MQ below Qc XC args s mc ms free) (F0 m pc ls rest) := by
  intro T hT X
  have htr : e.platform.stackTraces = false := (show e.platform.stackTraces = l.stackTraces by rw [X.admits.platform]).trans hl
  have Y := vx_rebase X (R' := { frames := R.frames, locals := R.locals, cells := 1, slots := 6 }) (Nat.le_refl _) (Nat.le_refl _) hRcells hRslots
  obtain ⟨s', hA⟩ : ∃ z, z = (T.setVm s.vm).setFrames (.invoking m args :: below) := ⟨_, rfl⟩
  rw [← hA] at Y
  have hvm : s'.vm = s.vm := by rw [hA]; rfl
  have hhp : s'.heap = H := by rw [hA]; exact hT
  have hW0 : s.WarmedH s'.vm := by rw [hvm]; exact State.WarmedH.refl s
  have hat' : ∀ w ∈ vx_atS own ic cls names, w.before args s' = true := fun w hw => vx_ot_at hW0 hvm.symm (hgood w (List.mem_cons_of_mem _ (List.mem_cons_of_mem _ hw))) (hat w hw)
  have hk' : (Cond.classLink own ik cls).before args s' = true := vx_ot_at hW0 hvm.symm (hgood _ List.mem_cons_self) hk
  have hini' : (Cond.initialized cls).before args s' = true := vx_ot_at hW0 hvm.symm (hgood _ (List.mem_cons_of_mem _ List.mem_cons_self)) hini
  have hU' : vx_Zq Bundle.tN "UNASSIGNED_STACK" Bundle.steD A s' s'.heap := by rw [hhp]; exact vx_Zq.moved hW0.alike (hU.kept hS.2.1)
  have hN' : vx_Zq Bundle.tN "SUPPRESSED_SENTINEL" Bundle.listD A s' s'.heap := by rw [hhp]; exact vx_Zq.moved hW0.alike (hN.kept hS.2.1)
  have h : ∀ w ∈ Bundle.ownAtoms own ic cls names, w.before args s' = true := vx_own hat' (vx_isRefq hU'.1) (vx_isRefq hN'.1) hU'.2.word hN'.2.word
  have hown' : s'.vm.findClass own = some m.cls := by rw [hvm]; exact hown
  have hins : (Cond.instantiable cls 6).before args s' = true := h _ (by simp [Bundle.ownAtoms])
  obtain ⟨vm₁, cX, kX, hfX, hkX, -, -, X₁, st1⟩ := Y.newCold hexec (own := own) (C := cls) (index := ik) (n := 6) hown' hk' hins hini'
    (g := F0 m pc ls rest) rfl (by rw [hb]; exact d0) (Nat.le_refl _) (Nat.le_refl _)
  generalize hT1 : (T.setVm vm₁).pushCell { cls := cX, slots := kX.instanceTypes.map defaultValue, vm := .none } = T1 at X₁ st1
  have hcat : (Value.ref T.heap.size).category = 1 := rfl
  have hcellA : T1.heap[T.heap.size]? = some (freshCell cX kX) := by rw [← hT1]; exact State.heap_pushCell_size _ _
  have d3' : decode c.code (pc + 3) = .ok (.dup, 1) := by rw [hb]; exact d3
  have d4' : decode c.code (pc + 4) = .ok (.ldc is, 2) := by rw [hb]; exact d4
  have hstr' : vk_R own is text sa s' := vk_R.warm hW0 hstr
  obtain ⟨U, hsteps, hrun, hend, hW, hsame, ce, hce, hO⟩ := X₁.ctorThrowS hexec htr (own := own) (cls := cls) (names := names) (ic := ic) hown' hcls hnames h (fun x hx => nomatch hx) hfX hkX hcellA (by rw [hhp, hT]; exact Nat.le_refl _) (msg := .ref sa) rfl
    (g := { method := m, pc := pc + 6, locals := ls, stack := .ref sa :: .ref T.heap.size :: .ref T.heap.size :: rest, locked := none }) rfl hsize rfl rfl (rest := rest) rfl
    (by rw [hb]; exact d6) (by rw [hb]; exact d9) hout hRframes (by simp only [List.map_cons, List.sum_cons, hcat]; omega) hlocks
  obtain ⟨f1, f2⟩ := vx_frame hsame
  rw [hhp] at f1 f2
  have hWs : s.WarmedH U.vm := State.WarmedH.trans hW0 hW
  have hcl : s.vm.findClass cls = some ce.cls := by
    have h9 := hO.cls
    rw [hvm] at h9
    exact h9
  have hall : s.sameButNew ({ U with vm := s.vm } : State) locs mc ms := by
    subst hA
    obtain ⟨e1, e2⟩ := hsame
    rw [State.setFrames_setFrames] at e1
    have h2 : (T.setVm s.vm).sameButNew ({ U with vm := s.vm } : State) [] (0 + 1) (0 + 6) := ⟨e1, e2⟩
    have h3 := X.same.trans h2
    rw [List.append_nil] at h3
    exact h3.mono hc hs
  refine ⟨U, ?_, .threw T.heap.size, hrun, hend, Or.inr ⟨T.heap.size, rfl, cls, ce, locs, hx U hWs.alike f1 (fun q hq => f2 q hq (fun z hz => nomatch hz)), hce, hO.vm, hcl, hWs, hall, hf⟩⟩
  refine st1 _ ?_
  show Steps p.tables e below (T1.setTop { method := m, pc := pc + 3, locals := ls, stack := .ref T.heap.size :: rest, locked := none }) _
  jvm_step X₁.here [X₁.here.top, hexec, d3', Value.category]
  exact X₁.ldcString hexec (own := own) (text := text) (index := is) (a := sa) hown' hstr'.1 hstr'.2
    (g := { method := m, pc := pc + 4, locals := ls, stack := .ref T.heap.size :: .ref T.heap.size :: rest, locked := none }) rfl d4' _ hsteps
/-- 'throw new E("text")', the text by a wide index -/
theorem vx_throwSW {cc : ByteArray} {pc : Nat} (hexec : p.tables.exec = Jvm.exec) (hb : c.code = cc) (hl : l.stackTraces = false) {own cls text : String} {names : List String} {ik is ic mc ms sa : Nat} {A : Nat → Prop}
    (hown : s.vm.findClass own = some m.cls) (hcls : Bundle.fit cls = true) (hnames : ∀ n ∈ names, Bundle.fit n = true)
    (hk : (Cond.classLink own ik cls).before args s = true) (hini : (Cond.initialized cls).before args s = true) (hstr : vk_R own is text sa s) (hat : ∀ w ∈ vx_atS own ic cls names, w.before args s = true)
    (hgood : ∀ w ∈ Cond.classLink own ik cls :: Cond.initialized cls :: vx_atS own ic cls names, vx_ot w = true)
    (hU : vx_Zq Bundle.tN "UNASSIGNED_STACK" Bundle.steD A s s.heap) (hN : vx_Zq Bundle.tN "SUPPRESSED_SENTINEL" Bundle.listD A s s.heap) (hS : va_S A s.heap H locs) (hsize : ls.size = c.maxLocals)
    (d0 : decode cc pc = .ok (.new ik, 3)) (d3 : decode cc (pc + 3) = .ok (.dup, 1)) (d4 : decode cc (pc + 4) = .ok (.ldc_w is, 3)) (d7 : decode cc (pc + 7) = .ok (.invokespecial ic, 3)) (d10 : decode cc (pc + 10) = .ok (.athrow, 1))
    (hout : ∀ x ∈ c.exceptionTable.toList, covers x (pc + 10) = false)
    (hRframes : names.length + 3 < R.frames) (hRlocals : (rest.map fun v => v.category).sum + (13 * (names.length + 1) + 43) ≤ R.locals) (hRcells : cells + 1 ≤ R.cells) (hRslots : slots + 6 ≤ R.slots) (hlocks : meth.locks = false)
    (hx : ∀ t : State, s.vm.Alike t.vm → H.size ≤ t.heap.size → (∀ q : Nat, q < H.size → t.heap[q]? = H[q]?) → XC cls s t)
    (hf : ∀ z ∈ locs, free z.base) (hc : cells + 1 ≤ mc) (hs : slots + 6 ≤ ms) :
    W p l e R s m args below meth c H locs cells slots (vx_MQ below Qc XC args s mc ms free) (F0 m pc ls rest) := by
  intro T hT X
  have htr : e.platform.stackTraces = false := (show e.platform.stackTraces = l.stackTraces by rw [X.admits.platform]).trans hl
  have Y := vx_rebase X (R' := { frames := R.frames, locals := R.locals, cells := 1, slots := 6 }) (Nat.le_refl _) (Nat.le_refl _) hRcells hRslots
  obtain ⟨s', hA⟩ : ∃ z, z = (T.setVm s.vm).setFrames (.invoking m args :: below) := ⟨_, rfl⟩
  rw [← hA] at Y
  have hvm : s'.vm = s.vm := by rw [hA]; rfl
  have hhp : s'.heap = H := by rw [hA]; exact hT
  have hW0 : s.WarmedH s'.vm := by rw [hvm]; exact State.WarmedH.refl s
  have hat' : ∀ w ∈ vx_atS own ic cls names, w.before args s' = true := fun w hw => vx_ot_at hW0 hvm.symm (hgood w (List.mem_cons_of_mem _ (List.mem_cons_of_mem _ hw))) (hat w hw)
  have hk' : (Cond.classLink own ik cls).before args s' = true := vx_ot_at hW0 hvm.symm (hgood _ List.mem_cons_self) hk
  have hini' : (Cond.initialized cls).before args s' = true := vx_ot_at hW0 hvm.symm (hgood _ (List.mem_cons_of_mem _ List.mem_cons_self)) hini
  have hU' : vx_Zq Bundle.tN "UNASSIGNED_STACK" Bundle.steD A s' s'.heap := by rw [hhp]; exact vx_Zq.moved hW0.alike (hU.kept hS.2.1)
  have hN' : vx_Zq Bundle.tN "SUPPRESSED_SENTINEL" Bundle.listD A s' s'.heap := by rw [hhp]; exact vx_Zq.moved hW0.alike (hN.kept hS.2.1)
  have h : ∀ w ∈ Bundle.ownAtoms own ic cls names, w.before args s' = true := vx_own hat' (vx_isRefq hU'.1) (vx_isRefq hN'.1) hU'.2.word hN'.2.word
  have hown' : s'.vm.findClass own = some m.cls := by rw [hvm]; exact hown
  have hins : (Cond.instantiable cls 6).before args s' = true := h _ (by simp [Bundle.ownAtoms])
  obtain ⟨vm₁, cX, kX, hfX, hkX, -, -, X₁, st1⟩ := Y.newCold hexec (own := own) (C := cls) (index := ik) (n := 6) hown' hk' hins hini'
    (g := F0 m pc ls rest) rfl (by rw [hb]; exact d0) (Nat.le_refl _) (Nat.le_refl _)
  generalize hT1 : (T.setVm vm₁).pushCell { cls := cX, slots := kX.instanceTypes.map defaultValue, vm := .none } = T1 at X₁ st1
  have hcat : (Value.ref T.heap.size).category = 1 := rfl
  have hcellA : T1.heap[T.heap.size]? = some (freshCell cX kX) := by rw [← hT1]; exact State.heap_pushCell_size _ _
  have d3' : decode c.code (pc + 3) = .ok (.dup, 1) := by rw [hb]; exact d3
  have d4' : decode c.code (pc + 4) = .ok (.ldc_w is, 3) := by rw [hb]; exact d4
  have hstr' : vk_R own is text sa s' := vk_R.warm hW0 hstr
  obtain ⟨U, hsteps, hrun, hend, hW, hsame, ce, hce, hO⟩ := X₁.ctorThrowS hexec htr (own := own) (cls := cls) (names := names) (ic := ic) hown' hcls hnames h (fun x hx => nomatch hx) hfX hkX hcellA (by rw [hhp, hT]; exact Nat.le_refl _) (msg := .ref sa) rfl
    (g := { method := m, pc := pc + 7, locals := ls, stack := .ref sa :: .ref T.heap.size :: .ref T.heap.size :: rest, locked := none }) rfl hsize rfl rfl (rest := rest) rfl
    (by rw [hb]; exact d7) (by rw [hb]; exact d10) hout hRframes (by simp only [List.map_cons, List.sum_cons, hcat]; omega) hlocks
  obtain ⟨f1, f2⟩ := vx_frame hsame
  rw [hhp] at f1 f2
  have hWs : s.WarmedH U.vm := State.WarmedH.trans hW0 hW
  have hcl : s.vm.findClass cls = some ce.cls := by
    have h9 := hO.cls
    rw [hvm] at h9
    exact h9
  have hall : s.sameButNew ({ U with vm := s.vm } : State) locs mc ms := by
    subst hA
    obtain ⟨e1, e2⟩ := hsame
    rw [State.setFrames_setFrames] at e1
    have h2 : (T.setVm s.vm).sameButNew ({ U with vm := s.vm } : State) [] (0 + 1) (0 + 6) := ⟨e1, e2⟩
    have h3 := X.same.trans h2
    rw [List.append_nil] at h3
    exact h3.mono hc hs
  refine ⟨U, ?_, .threw T.heap.size, hrun, hend, Or.inr ⟨T.heap.size, rfl, cls, ce, locs, hx U hWs.alike f1 (fun q hq => f2 q hq (fun z hz => nomatch hz)), hce, hO.vm, hcl, hWs, hall, hf⟩⟩
  refine st1 _ ?_
  show Steps p.tables e below (T1.setTop { method := m, pc := pc + 3, locals := ls, stack := .ref T.heap.size :: rest, locked := none }) _
  jvm_step X₁.here [X₁.here.top, hexec, d3', Value.category]
  exact X₁.ldcStringW hexec (own := own) (text := text) (index := is) (a := sa) hown' hstr'.1 hstr'.2
    (g := { method := m, pc := pc + 4, locals := ls, stack := .ref T.heap.size :: .ref T.heap.size :: rest, locked := none }) rfl d4' _ hsteps
end Ends
section Bodies
variable {l : Launch}
theorem vx_ofW {y : MethodName} {ws ws' : List Cond} {rm : Room} {Pc : Array Value → State → Prop} {Qc : Array Value → State → Outcome → State → Prop} {XC : String → State → State → Prop} {mc ms : Nat} {free : Addr → Prop} {cc : ByteArray} {maxL : Nat} {ret : Option FieldType}
    (hy : plainName y.cls = true) (hw : ws = Cond.code y cc maxL ret :: ws')
    (body : ∀ p e s m args below meth c s₁, BodyLoose p l y (headSpec ws rm) cc maxL ret e s m args below meth c s₁ → c.maxLocals = maxL → (∀ x ∈ c.exceptionTable.toList, False) → Pc args s →
      W p l e (headSpec ws rm).room s m args below meth c s.heap [] 0 0 (vx_MQ below Qc XC args s mc ms free) (entryFrame m args maxL)) : vx_Met l y ws rm Pc Qc XC mc ms free := by
  refine MetFree.of_bodyS (code := cc) (maxLocals := maxL) (ret := ret) hy ?_ ?_
  · intro args s m h hn
    obtain ⟨meth, c, h1, h2, h3, h4, h5, h6, -, -⟩ := Cond.code_spec hn (atoms_spec (ws := ws) h _ (by rw [hw]; exact List.mem_cons_self))
    exact ⟨meth, c, h1, h2, h3, h4, h5, h6⟩
  · intro p e s m args below meth c s₁ B hml hP _
    have hh0 : s₁.heap = s.heap := by rw [B.state]; rfl
    have ht : ∀ x ∈ c.exceptionTable.toList, False := by
      obtain ⟨meth9, c9, h1, h2, -, -, -, -, h7, -⟩ := Cond.code_spec B.named (atoms_spec (ws := ws) B.pre _ (by rw [hw]; exact List.mem_cons_self))
      cases Option.some.inj (h1.symm.trans B.method)
      cases Option.some.inj (h2.symm.trans (Stand.of_body B).code)
      intro x hx
      rw [Array.isEmpty_iff.mp h7] at hx
      cases hx
    obtain ⟨t, a1, o, b1, b2, b3⟩ := body p e s m args below meth c s₁ B hml ht hP s₁ hh0 (Stand.of_body B)
    exact ⟨t, o, a1, b1, b2, b3⟩
/-- the table of a body with handlers -/
theorem vx_table {p : Program} {x y : MethodName} {S : Spec} {cc bytes : ByteArray} {maxL maxL' : Nat} {ret ret' : Option FieldType} {e : Env} {s s₁ : State} {m : MethodId} {args : Array Value} {below : List Frame} {meth : Method} {c : Code} {hh : List (Nat × Nat × Nat × Nat)}
    (B : BodyLoose p l y S cc maxL ret e s m args below meth c s₁) (h : (Cond.codeWith y bytes maxL' ret' hh).before args s = true) : c.exceptionTable.toList = tableOf hh := by
  obtain ⟨m9, meth9, c9, hn9, h1, h2, -, -, h6, -⟩ := Cond.codeWith_spec h
  cases Option.some.inj (hn9.symm.trans B.named)
  cases Option.some.inj (h1.symm.trans B.method)
  cases Option.some.inj (h2.symm.trans (Stand.of_body B).code)
  rw [← h6, table_eq]
end Bodies
end VXA
/-! ===== END ===== -/
/-! ===== BEGIN a static call of a method with an exception table ===== -/
section VXS
variable {p : Program} {l : Launch} {e : Env} {R : Room} {s : State} {m : MethodId} {args : Array Value} {below : List Frame} {meth : Method} {c : Code} {T : State} {H : Heap} {locs : List Loc} {cells slots : Nat}
abbrev vx_CSW (R : Room) (s : State) (args : Array Value) (own : String) (index : Nat) (y : MethodName) (bytes : ByteArray) (maxL : Nat) (ret : Option FieldType) (hh : List (Nat × Nat × Nat × Nat)) (ws : List Cond) (rm : Room) (mc ms n : Nat) : Prop :=
  (rm.cells = mc ∧ rm.slots = ms ∧ rm.frames + 1 ≤ R.frames ∧ 8 + (maxL + 11) + rm.locals ≤ R.locals ∧ (∀ w ∈ ws, ∀ (a' : Array Value) (U : State), s.WarmedH U.vm → w.before a' U = true) ∧ Cond.codeWith y bytes maxL ret hh ∈ ws) ∧
  (Cond.codeWith y bytes maxL ret hh).before args s = true ∧ (Cond.initialized y.cls).before args s = true ∧ (y.cls ≠ "java/lang/invoke/MethodHandle" ∧ y.cls ≠ "java/lang/invoke/VarHandle") ∧
  (∀ sig, parseMethodDescriptor y.desc = some sig → n = sig.parameters.length) ∧ (Cond.methodLink own index y).before args s = true ∧ (Cond.static y).before args s = true
theorem vx_cwSW {own : String} {index maxL mc ms : Nat} {y : MethodName} {bytes : ByteArray} {ret : Option FieldType} {hh : List (Nat × Nat × Nat × Nat)} {Ts ws ws' : List Cond} {rm : Room} (n : Nat) (ht : ∀ w ∈ Ts, w.before args s = true) (hT : GoodIn Ts (va_wsS own index y ws)) (hw : ws = Cond.codeWith y bytes maxL ret hh :: ws') (hrc : rm.cells = mc) (hrs : rm.slots = ms)
    (hd : y.cls ≠ "java/lang/invoke/MethodHandle" ∧ y.cls ≠ "java/lang/invoke/VarHandle" ∧ (parseMethodDescriptor y.desc).map (fun d => d.parameters.length) = some n) (hR : rm.frames + 1 ≤ R.frames ∧ 8 + (maxL + 11) + rm.locals ≤ R.locals) :
    vx_CSW R s args own index y bytes maxL ret hh ws rm mc ms n := by
  have ok : ∀ w ∈ va_wsS own index y ws, w.before args s = true := fun w h => ht w (hT w h).1
  have hG : GoodIn Ts ws := fun w h => hT w (by unfold va_wsS; exact List.mem_append_right _ h)
  have hc : Cond.codeWith y bytes maxL ret hh ∈ ws := by rw [hw]; exact List.mem_cons_self
  refine ⟨⟨hrc, hrs, hR.1, hR.2, pay_in ht hG, hc⟩, ht _ (hG _ hc).1, ok _ (by simp [va_wsS]), ⟨hd.1, hd.2.1⟩, fun sig h => ?_, ok _ (by simp [va_wsS]), ok _ (by simp [va_wsS])⟩
  have h2 := hd.2.2
  rw [h] at h2
  exact (Option.some.inj h2).symm
theorem vx_callSW (X : Stand p l e R s m args below meth c T locs cells slots) (hexec : p.tables.exec = Jvm.exec) {own : String} {index : Nat} {y : MethodName} {bytes : ByteArray} {maxL : Nat} {ret : Option FieldType} {hh : List (Nat × Nat × Nat × Nat)}
    (hown : s.vm.findClass own = some m.cls) (hlink : (Cond.methodLink own index y).before args s = true) (hstat : (Cond.static y).before args s = true) (hinit : (Cond.initialized y.cls).before args s = true)
    (hcode : (Cond.codeWith y bytes maxL ret hh).before args s = true) (hy : y.cls ≠ "java/lang/invoke/MethodHandle" ∧ y.cls ≠ "java/lang/invoke/VarHandle")
    {W9 : Nat} {Pre : Pt → Array Value → Prop} {Post : Pt → Array Value → Option Value → Pt → Prop} (hK : Back l R p e below s args y 3 W9 Pre Post)
    {g : JFrame} (hg : g.method = m) (hsize : g.locals.size = c.maxLocals) {argsL rest : List Value} (hlen : ∀ sig, parseMethodDescriptor y.desc = some sig → argsL.length = sig.parameters.length)
    (hstack : g.stack = argsL.reverse ++ rest) (hW : 2 * g.monitorRoom + (rest.map fun v => v.category).sum ≤ W9) (hdg : decode c.code g.pc = .ok (.invokestatic index, 3))
    (hpre : ∀ vm₁, s.WarmedH vm₁ → Pre ⟨T.setVm vm₁, locs, cells, slots⟩ argsL.toArray) :
    ∃ (v : Option Value) (vm₁ : Vm) (B : Pt), s.WarmedH vm₁ ∧ Stand p l e R s m args below meth c B.U B.locs B.cells B.slots ∧ Post ⟨T.setVm vm₁, locs, cells, slots⟩ argsL.toArray v B ∧
      ∀ target, Steps p.tables e below (B.U.setTop { g with pc := g.pc + 3, stack := v.toList ++ rest }) target → Steps p.tables e below (T.setTop g) target := by
  obtain ⟨mk, methM, cM, hnamed, hmethM, -, -, -, -, -, -, hsigM⟩ := Cond.codeWith_spec hcode
  have hstatic : methM.isStatic = true := Cond.static_spec hnamed hmethM hstat
  obtain ⟨kP, hkP, -⟩ := className_of_methodNamed hnamed
  have hinitP : kP.init = .initialized := Cond.initialized_spec (findClass_of_methodNamed hnamed) hkP hinit
  obtain ⟨vm₁, X₁, hstep₁⟩ := X.invokestatic hexec hown hlink hnamed hmethM hstatic hkP hinitP hy (g := g) hg (argsL := argsL) (rest := rest) (hlen _ hsigM) hstack hdg
  obtain ⟨v, B, X', hpost, hsteps⟩ := hK m meth c ⟨T.setVm vm₁, locs, cells, slots⟩ { g with stack := rest } (.invokestatic index) mk argsL.toArray X₁ hg hsize hdg hW (X₁.named hnamed) (hpre vm₁ X₁.warmed)
  exact ⟨v, vm₁, B, X₁.warmed, X', hpost, fun target h => hstep₁ _ fun acts => by rw [doInvoke_state]; exact hsteps.trans h⟩
theorem vx_runSW {y : MethodName} {bytes cc : ByteArray} {maxL nL mc ms n index : Nat} {ret : Option FieldType} {hh : List (Nat × Nat × Nat × Nat)} {ws : List Cond} {rm : Room} {Pc : Array Value → State → Prop} {Qc : Array Value → State → Outcome → State → Prop} {free : Addr → Prop} {Ts : List Cond} {own : String} {As rest : List Value} {g : JFrame}
    (S : CallFix p m c cc nL s args Ts own) (hM : Met l y ws rm Pc Qc mc ms free) (cw : vx_CSW R s args own index y bytes maxL ret hh ws rm mc ms n) (hp : PreS s H Pc As)
    (hg : g.method = m) (hn : As.length = n) (hsize : g.locals.size = nL) (hstack : g.stack = As.reverse ++ rest) (hW : 2 * g.monitorRoom + (rest.map fun v => v.category).sum ≤ 8) (hdg : decode cc g.pc = .ok (.invokestatic index, 3)) (hf : cells + mc ≤ R.cells ∧ slots + ms ≤ R.slots) :
    va_Run p l e R s m args below meth c H locs cells slots mc ms g rest (Qc As.toArray) (free) := by
  obtain ⟨⟨hrc, hrs, hfr, hlo, hws, hcw⟩, hcode, hini, hy, hlen, hl, hstt⟩ := cw
  have hK : Back l R p e below s args y 3 8 (PreOf R mc ms Pc) (PostOf Qc mc ms free) := va_backW (hh := hh) (bytes := bytes) (maxL := maxL) (ret := ret) hM hp.1 hrc hrs hfr hlo hws hcw (fun a' U hW => word_at hW (Or.inl (by first | rfl | simp [Cond.onTables, Cond.keeps, Cond.steady])) hini)
  obtain ⟨hx, hb, hml, ho, -⟩ := S
  intro T hT X
  obtain ⟨v, vm₁, ⟨U', l2, c2, s2⟩, hW₁, X', ⟨g', mk, t, L, e1, e2, hq, h1, hL, h2, h3⟩, st⟩ := vx_callSW X hx (hh := hh) (bytes := bytes) (maxL := maxL) (ret := ret) ho hl hstt hini hcode hy hK hg (hsize.trans hml.symm) (argsL := As) (rest := rest) (fun sig h => hn.trans (hlen sig h)) hstack hW (by rw [hb]; exact hdg)
    (fun vm₁ hW₁ => ⟨hf.1, hf.2, hp.2 (T.setVm vm₁) hT hW₁⟩)
  dsimp only [Pt.U, Pt.locs, Pt.cells, Pt.slots] at X' e1 e2 h1 h2 h3 st
  subst h1; subst h2; subst h3
  exact ⟨v, (T.setVm vm₁).calling g' mk As.toArray, t, U', L, hT, X', hL, e1, e2, hq, st⟩
/-- not caught here, past rows that name other classes: it goes on to the caller -/
theorem vx_outP {p : Program} {l : Launch} {e : Env} {R : Room} {s : State} {m : MethodId} {args : Array Value} {below : List Frame} {meth : Method} {c : Code} {H : Heap} {locs : List Loc} {cells slots : Nat} {free : Addr → Prop} {ls : Array Slot} {rest : List Value} {Qc : Array Value → State → Outcome → State → Prop} {XC : String → State → State → Prop}
    {pc : Nat} {own E : String} {ce : Cell} {q : Addr} {mc ms : Nat} (hown : s.vm.findClass own = some m.cls) (hlocks : meth.locks = false)
    (hpass : ∀ z ∈ c.exceptionTable.toList, covers z pc = false ∨ (z.catchType ≠ 0 ∧ ∃ nm : String, (Cond.classLink own z.catchType nm).before args s = true ∧ va_Nc E nm s)) (hcell : H[q]? = some ce) (hv : ce.vm = .none) (hcl : s.vm.findClass E = some ce.cls)
    (hx : ∀ t : State, t.heap = H → s.vm.Alike t.vm → XC E s t) (hf : ∀ z ∈ locs, free z.base) (hc : cells ≤ mc) (hs : slots ≤ ms) :
    vx_W p l e R s m args below meth c H locs cells slots (vx_MQ below Qc XC args s mc ms free) (F0 m pc ls rest) q := by
  intro T hT X
  have hpl : e.platform.magicAccessors = ({} : Platform).magicAccessors := by rw [X.admits.platform]
  obtain ⟨vm', hW', X', st⟩ := X.outThrough hlocks q (g := F0 m pc ls rest) rfl rfl rfl (cell := ce) (by rw [hT]; exact hcell) (by rw [hv]; rfl)
    (by obtain ⟨k9, h9, -⟩ := Vm.findClass_spec hcl; exact ⟨k9, h9⟩) (fun z hz => by
      rcases hpass z hz with h | ⟨hz0, nm, hl1, hn1⟩
      · exact Or.inl h
      · obtain ⟨c6, hc6, hcl6⟩ := Cond.classLink_spec hown hl1 e.platform hpl
        obtain ⟨a8, b8, h1, h2, h3⟩ := hn1
        cases Option.some.inj (h1.symm.trans hcl)
        cases Option.some.inj (h2.symm.trans hc6)
        exact Or.inr ⟨hz0, _, hcl6, h3⟩)
  obtain ⟨g₀, hfr⟩ := X'.frames_eq
  have hcell9 : ((T.setVm vm').setFrames (.throwing q :: below)).heap[q]? = some ce := by
    show T.heap[q]? = some ce
    rw [hT]; exact hcell
  have hend : Ended ((T.setVm vm').setFrames (.throwing q :: below)) below (.threw q) := State.frames_setFrames _ (State.cur_lt_of_frames hfr)
  refine ⟨(T.setVm vm').setFrames (.throwing q :: below), ?_, .threw q, X'.here.running, hend, Or.inr ⟨q, rfl, E, ce, locs, hx _ hT (X'.ends _).1.alike, hcell9, hv, hcl, (X'.ends _).1, (X'.ends _).2.mono hc hs, hf⟩⟩
  rw [X.pushThrowing_eq]
  exact st
/-- a thing of a world lies in the heap -/
theorem vx_lt {D : va_G} {cl : List vw_C} {ws : va_W} {H1 : Heap} (h : va_P D cl ws H1) {k : Nat} {q : Nat × va_E} (hk : ws[k]? = some q) : q.1 < H1.size := (h k q hk).lt
end VXS
/-! ===== END ===== -/
/-! ===== BEGIN methods with a table of their own: called by a name, returning or throwing ===== -/
section VXH
/-! vx_backW, vx_callVX, vx_callSX, vx_callVW, vx_runVW, vx_runVX, vx_runSX, vx_ofWH follow the same proofs as their sisters above (Free/Laws.lean, Shelf42/LK1.lean); vx_outP calls Shelf42/NT130.lean (outThrough). -/
section
variable {l : Launch} {R : Room} {p : Program} {e : Env} {below : List Frame} {s : State} {sargs : Array Value} {y : MethodName} {len W9 : Nat}
theorem vx_backW {ws : List Cond} {rm : Room} {Pc : Array Value → State → Prop} {Qc : Array Value → State → Outcome → State → Prop} {XC : String → State → State → Prop} {mc ms : Nat} {free : Addr → Prop} {bytes : ByteArray} {maxL : Nat} {ret : Option FieldType} {hh : List (Nat × Nat × Nat × Nat)}
    (hM : vx_Met l y ws rm Pc Qc XC mc ms free) (hblind : FrameBlind Pc) (hrc : rm.cells = mc) (hrs : rm.slots = ms)
    (hframes : rm.frames + 1 ≤ R.frames) (hlocals : W9 + (maxL + 11) + rm.locals ≤ R.locals)
    (hws : ∀ w ∈ ws, ∀ a' U, s.WarmedH U.vm → w.before a' U = true) (hcode : Cond.codeWith y bytes maxL ret hh ∈ ws) (hinit : ∀ a' U, s.WarmedH U.vm → (Cond.initialized y.cls).before a' U = true) :
    vx_Back l R p e below s sargs y len W9 (PreOf R mc ms Pc) (PostOf Qc mc ms free) (vx_Post XC mc ms free) := by
  intro m meth c A g ig mk a X hg hsize hdg hW hn hp
  have h1 : (headSpec ws rm).pre.before a A.U = true := atoms_intro fun w hw => hws w hw _ _ X.warmed
  have h2 : (Cond.codeWith y bytes maxL ret hh).before a A.U = true := hws _ hcode _ _ X.warmed
  have h3 : (Cond.initialized y.cls).before a A.U = true := hinit _ _ X.warmed
  have h4 : A.cells + (headSpec ws rm).room.cells ≤ R.cells := by rw [show (headSpec ws rm).room.cells = mc from hrc]; exact hp.1
  have h5 : A.slots + (headSpec ws rm).room.slots ≤ R.slots := by rw [show (headSpec ws rm).room.slots = ms from hrs]; exact hp.2.1
  have hPc : Pc a (A.U.calling g mk a) := hblind _ _ _ _ hp.2.2
  obtain ⟨U, Ls, c0, s0⟩ := A
  dsimp only [Pt.U, Pt.locs, Pt.cells, Pt.slots] at h1 h2 h3 h4 h5 X hn hPc ⊢
  obtain ⟨m9, methY, cY, hn9, hmY, hcY, -, hlY, -⟩ := Cond.codeWith_spec h2
  cases Option.some.inj (hn9.symm.trans hn)
  obtain ⟨kY, hkY, -⟩ := className_of_methodNamed hn
  have hinitY : kY.init = .initialized := Cond.initialized_spec (findClass_of_methodNamed hn) hkY h3
  have h : At U g.method c below := by rw [hg]; exact X.here
  have hlocals9 : W9 + (maxL + 11) + (headSpec ws rm).room.locals ≤ R.locals := hlocals
  have happ : (headSpec ws rm).appliesLoose y e.platform (U.calling g mk a) = true :=
    Spec.appliesLoose_calling (g := g) h hdg hn hkY hinitY
      (X.room_calling (g := g) (R' := (headSpec ws rm).room) hsize hmY hcY hframes (by rw [hlY]; omega) h4 h5) h1
  obtain ⟨mid, hmid⟩ := h.above
  have hfr : (U.setTop g).frames = (.java g :: mid) ++ below := by rw [State.frames_setTop' g h.top, hmid]; rfl
  obtain ⟨o, s₂, hsteps, -, hend, hq⟩ := Steps.callFree hM p X.admits X.cas X.clock (acts := []) hfr happ hPc trivial
  have hq' : vx_Q Qc XC mc ms free a (U.calling g mk a) o s₂ := hq
  rw [State.frames_setTop' g h.top] at hend
  obtain ⟨g₀, hg0⟩ := Option.isSome_iff_exists.mp h.top
  obtain ⟨r, hr⟩ := State.topJava?_eq_some.mp hg0
  have hr' : (({ U with heap := s₂.heap, slotsUsed := s₂.slotsUsed } : State).setVm s₂.vm).frames = .java g₀ :: r := hr
  rcases hq' with ⟨hqc, L, hfe, hL⟩ | ⟨q, rfl, E, ce, L, hx, hce, hcv, hcl, hW₂, hsm, hL⟩
  · obtain ⟨⟨v, rfl⟩, hW₂, e2, q2, q3, q4, q5, q6⟩ := id hfe
    have e3 : s₂ = ({ (U.calling g mk a).setFrames s₂.frames with heap := s₂.heap, slotsUsed := s₂.slotsUsed } : State).setVm s₂.vm := by
      have : s₂ = ({ s₂ with vm := (U.calling g mk a).vm } : State).setVm s₂.vm := rfl
      rw [e2] at this
      exact this
    obtain ⟨c₂, i₂, len₂, hc₂, hd₂, hf₂⟩ := hend
    have hW' : U.WarmedH s₂.vm := hW₂
    have hcc : c₂ = c := by
      have h1 : s₂.code? g.method = U.code? g.method := by
        rw [State.code?_eq, State.code?_eq, hW'.alike.method?]
      exact Option.some.inj (hc₂.symm.trans (h1.trans h.code))
    subst hcc
    have hlen : len₂ = len := by rw [hdg] at hd₂; cases hd₂; rfl
    subst hlen
    have hs₂ : s₂ = (({ U with heap := s₂.heap, slotsUsed := s₂.slotsUsed } : State).setVm s₂.vm).setTop { g with pc := g.pc + len₂, stack := v.toList ++ g.stack } := by
      refine e3.trans ?_
      rw [hf₂, State.calling_eq h.top, State.setFrames_setFrames, State.setTop_of_frames _ hr', hr]
      rfl
    have hsame : U.sameButNew ({ U with heap := s₂.heap, slotsUsed := s₂.slotsUsed } : State) L mc ms := by
      refine ⟨?_, q2, q3, q4, q5, q6⟩
      obtain ⟨t, ht, -⟩ := State.frames_cons hr
      show ({ U with heap := s₂.heap, slotsUsed := s₂.slotsUsed } : State) = { U.setFrames U.frames with heap := s₂.heap, slotsUsed := s₂.slotsUsed }
      rw [State.setFrames_self ht]
    subst hg
    refine Or.inl ⟨v, ⟨(({ U with heap := s₂.heap, slotsUsed := s₂.slotsUsed } : State).setVm s₂.vm), Ls ++ L, c0 + mc, s0 + ms⟩,
      ⟨X.admits, X.cas, X.clock, X.frames, X.room, X.hears, X.method, X.code, (X.here.setHeapUsed s₂.heap s₂.slotsUsed).setVm hW'.alike, X.tail, State.WarmedH.trans X.warmed hW', X.limits, X.bytes, X.same.trans (hsame.setVm s.vm)⟩,
      ⟨g, mk, s₂, L, rfl, rfl, hqc, rfl, hL, rfl, rfl⟩, ?_⟩
    show Steps p.tables e below _ ((({ U with heap := s₂.heap, slotsUsed := s₂.slotsUsed } : State).setVm s₂.vm).setTop { g with pc := g.pc + len₂, stack := v.toList ++ g.stack })
    rw [← hs₂]
    exact hsteps
  · obtain ⟨e2, q2, q3, q4, q5, q6⟩ := id hsm
    have e3 : s₂ = ({ (U.calling g mk a).setFrames s₂.frames with heap := s₂.heap, slotsUsed := s₂.slotsUsed } : State).setVm s₂.vm := by
      have : s₂ = ({ s₂ with vm := (U.calling g mk a).vm } : State).setVm s₂.vm := rfl
      rw [e2] at this
      exact this
    have hf₂ : s₂.frames = .throwing q :: .java g :: U.frames.tail := hend
    have hW' : U.WarmedH s₂.vm := hW₂
    have hs₂ : s₂ = ((({ U with heap := s₂.heap, slotsUsed := s₂.slotsUsed } : State).setVm s₂.vm).setTop g).pushFrame (.throwing q) := by
      refine e3.trans ?_
      rw [hf₂, State.calling_eq h.top, State.setFrames_setFrames, State.pushFrame, State.frames_setTop _ hr', State.setTop_of_frames _ hr', State.setFrames_setFrames, hr]
      rfl
    have hsame : U.sameButNew ({ U with heap := s₂.heap, slotsUsed := s₂.slotsUsed } : State) L mc ms := by
      refine ⟨?_, q2, q3, q4, q5, q6⟩
      obtain ⟨t, ht, -⟩ := State.frames_cons hr
      show ({ U with heap := s₂.heap, slotsUsed := s₂.slotsUsed } : State) = { U.setFrames U.frames with heap := s₂.heap, slotsUsed := s₂.slotsUsed }
      rw [State.setFrames_self ht]
    subst hg
    refine Or.inr ⟨q, ⟨(({ U with heap := s₂.heap, slotsUsed := s₂.slotsUsed } : State).setVm s₂.vm), Ls ++ L, c0 + mc, s0 + ms⟩,
      ⟨X.admits, X.cas, X.clock, X.frames, X.room, X.hears, X.method, X.code, (X.here.setHeapUsed s₂.heap s₂.slotsUsed).setVm hW'.alike, X.tail, State.WarmedH.trans X.warmed hW', X.limits, X.bytes, X.same.trans (hsame.setVm s.vm)⟩,
      ⟨g, mk, s₂, L, E, ce, rfl, rfl, hx, hce, hcv, hcl, rfl, hL, rfl, rfl⟩, ?_⟩
    show Steps p.tables e below _ (((({ U with heap := s₂.heap, slotsUsed := s₂.slotsUsed } : State).setVm s₂.vm).setTop g).pushFrame (.throwing q))
    rw [← hs₂]
    exact hsteps
end
variable {p : Program} {l : Launch} {e : Env} {R : Room} {s : State} {m : MethodId} {args : Array Value} {below : List Frame} {meth : Method} {c : Code} {T : State} {H : Heap} {locs : List Loc} {cells slots : Nat}
theorem vx_callVX (X : Stand p l e R s m args below meth c T locs cells slots) (hexec : p.tables.exec = Jvm.exec) {own C : String} {index : Nat} {y : MethodName} {bytes : ByteArray} {maxL : Nat} {ret : Option FieldType} {hh : List (Nat × Nat × Nat × Nat)}
    (hown : s.vm.findClass own = some m.cls) (hlink : (Cond.methodLink own index y).before args s = true) (hinst : (Cond.instanceMethod y).before args s = true) (hsel : (Cond.selects C y y).before args s = true)
    (hcode : (Cond.codeWith y bytes maxL ret hh).before args s = true) (hy : y.cls ≠ "java/lang/invoke/MethodHandle" ∧ y.cls ≠ "java/lang/invoke/VarHandle")
    {W9 : Nat} {Pre : Pt → Array Value → Prop} {Post : Pt → Array Value → Option Value → Pt → Prop} {PostX : Pt → Array Value → Addr → Pt → Prop} (hK : vx_Back l R p e below s args y 3 W9 Pre Post PostX)
    {b : Addr} {cellB : Cell} (hcell : T.heap[b]? = some cellB) (hobj : cellB.vm.isStatics = false) (hcls : s.vm.findClass C = some cellB.cls)
    {g : JFrame} (hg : g.method = m) (hsize : g.locals.size = c.maxLocals) {argsL rest : List Value} (hlen : ∀ sig, parseMethodDescriptor y.desc = some sig → argsL.length = sig.parameters.length)
    (hstack : g.stack = argsL.reverse ++ .ref b :: rest) (hW : 2 * g.monitorRoom + (rest.map fun v => v.category).sum ≤ W9) (hdg : decode c.code g.pc = .ok (.invokevirtual index, 3))
    (hpre : ∀ vm₁, s.WarmedH vm₁ → Pre ⟨T.setVm vm₁, locs, cells, slots⟩ (Value.ref b :: argsL).toArray) :
    (∃ (v : Option Value) (vm₁ : Vm) (B : Pt), s.WarmedH vm₁ ∧ Stand p l e R s m args below meth c B.U B.locs B.cells B.slots ∧ Post ⟨T.setVm vm₁, locs, cells, slots⟩ (Value.ref b :: argsL).toArray v B ∧
      ∀ target, Steps p.tables e below (B.U.setTop { g with pc := g.pc + 3, stack := v.toList ++ rest }) target → Steps p.tables e below (T.setTop g) target) ∨
    (∃ (q : Addr) (vm₁ : Vm) (B : Pt), s.WarmedH vm₁ ∧ Stand p l e R s m args below meth c B.U B.locs B.cells B.slots ∧ PostX ⟨T.setVm vm₁, locs, cells, slots⟩ (Value.ref b :: argsL).toArray q B ∧
      Steps p.tables e below (T.setTop g) ((B.U.setTop { g with stack := rest }).pushFrame (.throwing q))) := by
  obtain ⟨mk, methM, hnamed, hmethM, hstM, habM⟩ := Cond.instanceMethod_spec hinst
  obtain ⟨m8, methM', cM, hn8, hmethM', -, -, -, -, -, -, hsigM⟩ := Cond.codeWith_spec hcode
  cases Option.some.inj (hn8.symm.trans hnamed)
  cases hmethM.symm.trans hmethM'
  obtain ⟨c2, r2, m2, q1, q2, q3, q4, kP, hkP, hkPi⟩ := Cond.selects_spec hsel
  cases hcls.symm.trans q1
  cases (State.methodFound?_of_named hnamed hy).symm.trans q2
  cases hnamed.symm.trans q3
  have hselP : selectMethod e.platform s.vm cellB.cls mk = .method mk := by rw [Launch.admits_selectMethod X.admits]; exact q4
  obtain ⟨vm₁, X₁, hstep₁⟩ := X.invokevirtual hexec hown hlink hnamed hmethM hstM hkP hkPi hy (a := b) (cell := cellB) hcell
    (fun z h => by rw [h] at hobj; cases hobj) hselP hmethM habM hkP hkPi (g := g) hg (argsL := argsL) (rest := rest) (hlen _ hsigM) hstack hdg
  rcases hK m meth c ⟨T.setVm vm₁, locs, cells, slots⟩ { g with stack := rest } (.invokevirtual index) mk (Value.ref b :: argsL).toArray X₁ hg hsize hdg hW (X₁.named hnamed) (hpre vm₁ X₁.warmed) with ⟨v, B, X', hpost, hsteps⟩ | ⟨q, B, X', hpost, hsteps⟩
  · exact Or.inl ⟨v, vm₁, B, X₁.warmed, X', hpost, fun target h => hstep₁ _ fun acts => by rw [doInvoke_state]; exact hsteps.trans h⟩
  · exact Or.inr ⟨q, vm₁, B, X₁.warmed, X', hpost, hstep₁ _ fun acts => by rw [doInvoke_state]; exact hsteps⟩
theorem vx_callSX (X : Stand p l e R s m args below meth c T locs cells slots) (hexec : p.tables.exec = Jvm.exec) {own : String} {index : Nat} {y : MethodName} {bytes : ByteArray} {maxL : Nat} {ret : Option FieldType} {hh : List (Nat × Nat × Nat × Nat)}
    (hown : s.vm.findClass own = some m.cls) (hlink : (Cond.methodLink own index y).before args s = true) (hstat : (Cond.static y).before args s = true) (hinit : (Cond.initialized y.cls).before args s = true)
    (hcode : (Cond.codeWith y bytes maxL ret hh).before args s = true) (hy : y.cls ≠ "java/lang/invoke/MethodHandle" ∧ y.cls ≠ "java/lang/invoke/VarHandle")
    {W9 : Nat} {Pre : Pt → Array Value → Prop} {Post : Pt → Array Value → Option Value → Pt → Prop} {PostX : Pt → Array Value → Addr → Pt → Prop} (hK : vx_Back l R p e below s args y 3 W9 Pre Post PostX)
    {g : JFrame} (hg : g.method = m) (hsize : g.locals.size = c.maxLocals) {argsL rest : List Value} (hlen : ∀ sig, parseMethodDescriptor y.desc = some sig → argsL.length = sig.parameters.length)
    (hstack : g.stack = argsL.reverse ++ rest) (hW : 2 * g.monitorRoom + (rest.map fun v => v.category).sum ≤ W9) (hdg : decode c.code g.pc = .ok (.invokestatic index, 3))
    (hpre : ∀ vm₁, s.WarmedH vm₁ → Pre ⟨T.setVm vm₁, locs, cells, slots⟩ argsL.toArray) :
    (∃ (v : Option Value) (vm₁ : Vm) (B : Pt), s.WarmedH vm₁ ∧ Stand p l e R s m args below meth c B.U B.locs B.cells B.slots ∧ Post ⟨T.setVm vm₁, locs, cells, slots⟩ argsL.toArray v B ∧
      ∀ target, Steps p.tables e below (B.U.setTop { g with pc := g.pc + 3, stack := v.toList ++ rest }) target → Steps p.tables e below (T.setTop g) target) ∨
    (∃ (q : Addr) (vm₁ : Vm) (B : Pt), s.WarmedH vm₁ ∧ Stand p l e R s m args below meth c B.U B.locs B.cells B.slots ∧ PostX ⟨T.setVm vm₁, locs, cells, slots⟩ argsL.toArray q B ∧
      Steps p.tables e below (T.setTop g) ((B.U.setTop { g with stack := rest }).pushFrame (.throwing q))) := by
  obtain ⟨mk, methM, cM, hnamed, hmethM, -, -, -, -, -, -, hsigM⟩ := Cond.codeWith_spec hcode
  have hstatic : methM.isStatic = true := Cond.static_spec hnamed hmethM hstat
  obtain ⟨kP, hkP, -⟩ := className_of_methodNamed hnamed
  have hinitP : kP.init = .initialized := Cond.initialized_spec (findClass_of_methodNamed hnamed) hkP hinit
  obtain ⟨vm₁, X₁, hstep₁⟩ := X.invokestatic hexec hown hlink hnamed hmethM hstatic hkP hinitP hy (g := g) hg (argsL := argsL) (rest := rest) (hlen _ hsigM) hstack hdg
  rcases hK m meth c ⟨T.setVm vm₁, locs, cells, slots⟩ { g with stack := rest } (.invokestatic index) mk argsL.toArray X₁ hg hsize hdg hW (X₁.named hnamed) (hpre vm₁ X₁.warmed) with ⟨v, B, X', hpost, hsteps⟩ | ⟨q, B, X', hpost, hsteps⟩
  · exact Or.inl ⟨v, vm₁, B, X₁.warmed, X', hpost, fun target h => hstep₁ _ fun acts => by rw [doInvoke_state]; exact hsteps.trans h⟩
  · exact Or.inr ⟨q, vm₁, B, X₁.warmed, X', hpost, hstep₁ _ fun acts => by rw [doInvoke_state]; exact hsteps⟩
theorem vx_callVW (X : Stand p l e R s m args below meth c T locs cells slots) (hexec : p.tables.exec = Jvm.exec) {own C : String} {index : Nat} {y : MethodName} {bytes : ByteArray} {maxL : Nat} {ret : Option FieldType} {hh : List (Nat × Nat × Nat × Nat)}
    (hown : s.vm.findClass own = some m.cls) (hlink : (Cond.methodLink own index y).before args s = true) (hinst : (Cond.instanceMethod y).before args s = true) (hsel : (Cond.selects C y y).before args s = true)
    (hcode : (Cond.codeWith y bytes maxL ret hh).before args s = true) (hy : y.cls ≠ "java/lang/invoke/MethodHandle" ∧ y.cls ≠ "java/lang/invoke/VarHandle")
    {W9 : Nat} {Pre : Pt → Array Value → Prop} {Post : Pt → Array Value → Option Value → Pt → Prop} (hK : Back l R p e below s args y 3 W9 Pre Post)
    {b : Addr} {cellB : Cell} (hcell : T.heap[b]? = some cellB) (hobj : cellB.vm.isStatics = false) (hcls : s.vm.findClass C = some cellB.cls)
    {g : JFrame} (hg : g.method = m) (hsize : g.locals.size = c.maxLocals) {argsL rest : List Value} (hlen : ∀ sig, parseMethodDescriptor y.desc = some sig → argsL.length = sig.parameters.length)
    (hstack : g.stack = argsL.reverse ++ .ref b :: rest) (hW : 2 * g.monitorRoom + (rest.map fun v => v.category).sum ≤ W9) (hdg : decode c.code g.pc = .ok (.invokevirtual index, 3))
    (hpre : ∀ vm₁, s.WarmedH vm₁ → Pre ⟨T.setVm vm₁, locs, cells, slots⟩ (Value.ref b :: argsL).toArray) :
    ∃ (v : Option Value) (vm₁ : Vm) (B : Pt), s.WarmedH vm₁ ∧ Stand p l e R s m args below meth c B.U B.locs B.cells B.slots ∧ Post ⟨T.setVm vm₁, locs, cells, slots⟩ (Value.ref b :: argsL).toArray v B ∧
      ∀ target, Steps p.tables e below (B.U.setTop { g with pc := g.pc + 3, stack := v.toList ++ rest }) target → Steps p.tables e below (T.setTop g) target := by
  obtain ⟨mk, methM, hnamed, hmethM, hstM, habM⟩ := Cond.instanceMethod_spec hinst
  obtain ⟨m8, methM', cM, hn8, hmethM', -, -, -, -, -, -, hsigM⟩ := Cond.codeWith_spec hcode
  cases Option.some.inj (hn8.symm.trans hnamed)
  cases hmethM.symm.trans hmethM'
  obtain ⟨c2, r2, m2, q1, q2, q3, q4, kP, hkP, hkPi⟩ := Cond.selects_spec hsel
  cases hcls.symm.trans q1
  cases (State.methodFound?_of_named hnamed hy).symm.trans q2
  cases hnamed.symm.trans q3
  have hselP : selectMethod e.platform s.vm cellB.cls mk = .method mk := by rw [Launch.admits_selectMethod X.admits]; exact q4
  obtain ⟨vm₁, X₁, hstep₁⟩ := X.invokevirtual hexec hown hlink hnamed hmethM hstM hkP hkPi hy (a := b) (cell := cellB) hcell
    (fun z h => by rw [h] at hobj; cases hobj) hselP hmethM habM hkP hkPi (g := g) hg (argsL := argsL) (rest := rest) (hlen _ hsigM) hstack hdg
  obtain ⟨v, B, X', hpost, hsteps⟩ := hK m meth c ⟨T.setVm vm₁, locs, cells, slots⟩ { g with stack := rest } (.invokevirtual index) mk (Value.ref b :: argsL).toArray X₁ hg hsize hdg hW (X₁.named hnamed) (hpre vm₁ X₁.warmed)
  exact ⟨v, vm₁, B, X₁.warmed, X', hpost, fun target h => hstep₁ _ fun acts => by rw [doInvoke_state]; exact hsteps.trans h⟩
abbrev vx_CVW (R : Room) (s : State) (args : Array Value) (own C : String) (index : Nat) (y : MethodName) (bytes : ByteArray) (maxL : Nat) (ret : Option FieldType) (hh : List (Nat × Nat × Nat × Nat)) (ws : List Cond) (rm : Room) (mc ms n : Nat) : Prop :=
  (rm.cells = mc ∧ rm.slots = ms ∧ rm.frames + 1 ≤ R.frames ∧ 8 + (maxL + 11) + rm.locals ≤ R.locals ∧ (∀ w ∈ ws, ∀ (a' : Array Value) (U : State), s.WarmedH U.vm → w.before a' U = true) ∧ Cond.codeWith y bytes maxL ret hh ∈ ws) ∧
  (Cond.codeWith y bytes maxL ret hh).before args s = true ∧ (Cond.initialized y.cls).before args s = true ∧ (y.cls ≠ "java/lang/invoke/MethodHandle" ∧ y.cls ≠ "java/lang/invoke/VarHandle") ∧
  (∀ sig, parseMethodDescriptor y.desc = some sig → n = sig.parameters.length) ∧ (Cond.methodLink own index y).before args s = true ∧ (Cond.instanceMethod y).before args s = true ∧ (Cond.selects C y y).before args s = true
theorem vx_cwVW {own C : String} {index maxL mc ms : Nat} {y : MethodName} {bytes : ByteArray} {ret : Option FieldType} {hh : List (Nat × Nat × Nat × Nat)} {Ts ws ws' : List Cond} {rm : Room} (n : Nat) (ht : ∀ w ∈ Ts, w.before args s = true) (hT : GoodIn Ts (wsV own index C y ws)) (hw : ws = Cond.codeWith y bytes maxL ret hh :: ws') (hrc : rm.cells = mc) (hrs : rm.slots = ms)
    (hd : y.cls = C ∧ y.cls ≠ "java/lang/invoke/MethodHandle" ∧ y.cls ≠ "java/lang/invoke/VarHandle" ∧ (parseMethodDescriptor y.desc).map (fun d => d.parameters.length) = some n) (hR : rm.frames + 1 ≤ R.frames ∧ 8 + (maxL + 11) + rm.locals ≤ R.locals) :
    vx_CVW R s args own C index y bytes maxL ret hh ws rm mc ms n := by
  obtain ⟨hC, hd⟩ := hd
  subst hC
  have ok : ∀ w ∈ wsV own index y.cls y ws, w.before args s = true := fun w h => ht w (hT w h).1
  have hG : GoodIn Ts ws := fun w h => hT w (by unfold wsV; exact List.mem_append_right _ h)
  have hc : Cond.codeWith y bytes maxL ret hh ∈ ws := by rw [hw]; exact List.mem_cons_self
  refine ⟨⟨hrc, hrs, hR.1, hR.2, pay_in ht hG, hc⟩, ht _ (hG _ hc).1, ok _ (by simp [wsV]), ⟨hd.1, hd.2.1⟩, fun sig h => ?_, ok _ (by simp [wsV]), ok _ (by simp [wsV]), ok _ (by simp [wsV])⟩
  have h2 := hd.2.2
  rw [h] at h2
  exact (Option.some.inj h2).symm
theorem vx_runVW {y : MethodName} {bytes cc : ByteArray} {maxL nL mc ms n index : Nat} {ret : Option FieldType} {hh : List (Nat × Nat × Nat × Nat)} {ws : List Cond} {rm : Room} {Pc : Array Value → State → Prop} {Qc : Array Value → State → Outcome → State → Prop} {free : Addr → Prop} {Ts : List Cond} {own C : String} {b : Addr} {As rest : List Value} {g : JFrame}
    (S : CallFix p m c cc nL s args Ts own) (hM : Met l y ws rm Pc Qc mc ms free) (cw : vx_CVW R s args own C index y bytes maxL ret hh ws rm mc ms n) (hp : PreV s H C b Pc As)
    (hg : g.method = m) (hn : As.length = n) (hsize : g.locals.size = nL) (hstack : g.stack = As.reverse ++ .ref b :: rest) (hW : 2 * g.monitorRoom + (rest.map fun v => v.category).sum ≤ 8) (hdg : decode cc g.pc = .ok (.invokevirtual index, 3)) (hf : cells + mc ≤ R.cells ∧ slots + ms ≤ R.slots) :
    va_Run p l e R s m args below meth c H locs cells slots mc ms g rest (Qc (Value.ref b :: As).toArray) free := by
  obtain ⟨⟨hrc, hrs, hfr, hlo, hws, hcw⟩, hcode, hini, hy, hlen, hl, hin, hse⟩ := cw
  have hK : Back l R p e below s args y 3 8 (PreOf R mc ms Pc) (PostOf Qc mc ms free) := va_backW (hh := hh) (bytes := bytes) (maxL := maxL) (ret := ret) hM hp.1 hrc hrs hfr hlo hws hcw (fun a' U hW => word_at hW (Or.inl (by first | rfl | simp [Cond.onTables, Cond.keeps, Cond.steady])) hini)
  obtain ⟨hx, hb, hml, ho, -⟩ := S
  obtain ⟨-, ⟨cellB, hcB, hoB, hclB⟩, hPc⟩ := hp
  intro T hT X
  obtain ⟨v, vm₁, ⟨U', l2, c2, s2⟩, hW₁, X', ⟨g', mk, t, L, e1, e2, hq, h1, hL, h2, h3⟩, st⟩ := vx_callVW X hx (C := C) (hh := hh) (bytes := bytes) (maxL := maxL) (ret := ret) ho hl hin hse hcode hy hK (by rw [hT]; exact hcB) hoB hclB hg (hsize.trans hml.symm) (argsL := As) (rest := rest) (fun sig h => hn.trans (hlen sig h)) hstack hW (by rw [hb]; exact hdg)
    (fun vm₁ hW₁ => ⟨hf.1, hf.2, hPc (T.setVm vm₁) hT hW₁⟩)
  dsimp only [Pt.U, Pt.locs, Pt.cells, Pt.slots] at X' e1 e2 h1 h2 h3 st
  subst h1; subst h2; subst h3
  exact ⟨v, (T.setVm vm₁).calling g' mk (Value.ref b :: As).toArray, t, U', L, hT, X', hL, e1, e2, hq, st⟩
section
variable {y : MethodName} {bytes cc : ByteArray} {maxL nL mc ms n index : Nat} {ret : Option FieldType} {ws : List Cond} {rm : Room} {Pc : Array Value → State → Prop} {Qc : Array Value → State → Outcome → State → Prop} {XC : String → State → State → Prop} {free : Addr → Prop} {Ts : List Cond} {own C : String} {b : Addr} {As rest : List Value} {g : JFrame}
theorem vx_runVX {hh : List (Nat × Nat × Nat × Nat)} (S : CallFix p m c cc nL s args Ts own) (hM : vx_Met l y ws rm Pc Qc XC mc ms free) (cw : vx_CVW R s args own C index y bytes maxL ret hh ws rm mc ms n) (hp : PreV s H C b Pc As)
    (hg : g.method = m) (hn : As.length = n) (hsize : g.locals.size = nL) (hstack : g.stack = As.reverse ++ .ref b :: rest) (hW : 2 * g.monitorRoom + (rest.map fun v => v.category).sum ≤ 8) (hdg : decode cc g.pc = .ok (.invokevirtual index, 3)) (hf : cells + mc ≤ R.cells ∧ slots + ms ≤ R.slots) :
    vx_Run p l e R s m args below meth c H locs cells slots mc ms g rest (Qc (Value.ref b :: As).toArray) XC free := by
  obtain ⟨⟨hrc, hrs, hfr, hlo, hws, hcw⟩, hcode, hini, hy, hlen, hl, hin, hse⟩ := cw
  have hK : vx_Back l R p e below s args y 3 8 (PreOf R mc ms Pc) (PostOf Qc mc ms free) (vx_Post XC mc ms free) := vx_backW (hh := hh) (bytes := bytes) (maxL := maxL) (ret := ret) hM hp.1 hrc hrs hfr hlo hws hcw (fun a' U hW => word_at hW (Or.inl (by first | rfl | simp [Cond.onTables, Cond.keeps, Cond.steady])) hini)
  obtain ⟨hx, hb, hml, ho, -⟩ := S
  obtain ⟨-, ⟨cellB, hcB, hoB, hclB⟩, hPc⟩ := hp
  intro T hT X
  rcases vx_callVX X hx (C := C) (hh := hh) (bytes := bytes) (maxL := maxL) (ret := ret) ho hl hin hse hcode hy hK (by rw [hT]; exact hcB) hoB hclB hg (hsize.trans hml.symm) (argsL := As) (rest := rest) (fun sig h => hn.trans (hlen sig h)) hstack hW (by rw [hb]; exact hdg)
    (fun vm₁ hW₁ => ⟨hf.1, hf.2, hPc (T.setVm vm₁) hT hW₁⟩) with ⟨v, vm₁, ⟨U', l2, c2, s2⟩, hW₁, X', ⟨g', mk, t, L, e1, e2, hq, h1, hL, h2, h3⟩, st⟩ | ⟨q, vm₁, ⟨U', l2, c2, s2⟩, hW₁, X', ⟨g', mk, t, L, E, ce, e1, e2, hq, hce, hcv, hcl, h1, hL, h2, h3⟩, st⟩
  · dsimp only [Pt.U, Pt.locs, Pt.cells, Pt.slots] at X' e1 e2 h1 h2 h3 st
    subst h1; subst h2; subst h3
    exact Or.inl ⟨v, (T.setVm vm₁).calling g' mk (Value.ref b :: As).toArray, t, U', L, hT, X', hL, e1, e2, hq, st⟩
  · dsimp only [Pt.U, Pt.locs, Pt.cells, Pt.slots] at X' e1 e2 h1 h2 h3 st hcl
    subst h1; subst h2; subst h3
    exact Or.inr ⟨q, (T.setVm vm₁).calling g' mk (Value.ref b :: As).toArray, t, U', L, E, ce, hT, X', hL, e1, e2, hq, hce, hcv, vx_cls hW₁ hcl, st⟩
theorem vx_runSX {hh : List (Nat × Nat × Nat × Nat)} (S : CallFix p m c cc nL s args Ts own) (hM : vx_Met l y ws rm Pc Qc XC mc ms free) (cw : vx_CSW R s args own index y bytes maxL ret hh ws rm mc ms n) (hp : PreS s H Pc As)
    (hg : g.method = m) (hn : As.length = n) (hsize : g.locals.size = nL) (hstack : g.stack = As.reverse ++ rest) (hW : 2 * g.monitorRoom + (rest.map fun v => v.category).sum ≤ 8) (hdg : decode cc g.pc = .ok (.invokestatic index, 3)) (hf : cells + mc ≤ R.cells ∧ slots + ms ≤ R.slots) :
    vx_Run p l e R s m args below meth c H locs cells slots mc ms g rest (Qc As.toArray) XC free := by
  obtain ⟨⟨hrc, hrs, hfr, hlo, hws, hcw⟩, hcode, hini, hy, hlen, hl, hstt⟩ := cw
  have hK : vx_Back l R p e below s args y 3 8 (PreOf R mc ms Pc) (PostOf Qc mc ms free) (vx_Post XC mc ms free) := vx_backW (hh := hh) (bytes := bytes) (maxL := maxL) (ret := ret) hM hp.1 hrc hrs hfr hlo hws hcw (fun a' U hW => word_at hW (Or.inl (by first | rfl | simp [Cond.onTables, Cond.keeps, Cond.steady])) hini)
  obtain ⟨hx, hb, hml, ho, -⟩ := S
  intro T hT X
  rcases vx_callSX X hx (hh := hh) (bytes := bytes) (maxL := maxL) (ret := ret) ho hl hstt hini hcode hy hK hg (hsize.trans hml.symm) (argsL := As) (rest := rest) (fun sig h => hn.trans (hlen sig h)) hstack hW (by rw [hb]; exact hdg)
    (fun vm₁ hW₁ => ⟨hf.1, hf.2, hp.2 (T.setVm vm₁) hT hW₁⟩) with ⟨v, vm₁, ⟨U', l2, c2, s2⟩, hW₁, X', ⟨g', mk, t, L, e1, e2, hq, h1, hL, h2, h3⟩, st⟩ | ⟨q, vm₁, ⟨U', l2, c2, s2⟩, hW₁, X', ⟨g', mk, t, L, E, ce, e1, e2, hq, hce, hcv, hcl, h1, hL, h2, h3⟩, st⟩
  · dsimp only [Pt.U, Pt.locs, Pt.cells, Pt.slots] at X' e1 e2 h1 h2 h3 st
    subst h1; subst h2; subst h3
    exact Or.inl ⟨v, (T.setVm vm₁).calling g' mk As.toArray, t, U', L, hT, X', hL, e1, e2, hq, st⟩
  · dsimp only [Pt.U, Pt.locs, Pt.cells, Pt.slots] at X' e1 e2 h1 h2 h3 st hcl
    subst h1; subst h2; subst h3
    exact Or.inr ⟨q, (T.setVm vm₁).calling g' mk As.toArray, t, U', L, E, ce, hT, X', hL, e1, e2, hq, hce, hcv, vx_cls hW₁ hcl, st⟩
end
end VXH
theorem vx_ofWH {l : Launch} {y : MethodName} {ws ws' : List Cond} {rm : Room} {Pc : Array Value → State → Prop} {Qc : Array Value → State → Outcome → State → Prop} {XC : String → State → State → Prop} {mc ms : Nat} {free : Addr → Prop} {cc : ByteArray} {maxL : Nat} {ret : Option FieldType} {hh : List (Nat × Nat × Nat × Nat)}
    (hy : plainName y.cls = true) (hw : ws = Cond.codeWith y cc maxL ret hh :: ws')
    (body : ∀ p e s m args below meth c s₁, BodyLoose p l y (headSpec ws rm) cc maxL ret e s m args below meth c s₁ → c.maxLocals = maxL → Pc args s →
      W p l e (headSpec ws rm).room s m args below meth c s.heap [] 0 0 (vx_MQ below Qc XC args s mc ms free) (entryFrame m args maxL)) : vx_Met l y ws rm Pc Qc XC mc ms free := by
  refine MetFree.of_bodyS (code := cc) (maxLocals := maxL) (ret := ret) hy ?_ ?_
  · intro args s m h hn
    obtain ⟨m9, meth, c, hn9, h1, h2, h3, h4, -, h5, h6, -⟩ := Cond.codeWith_spec (atoms_spec (ws := ws) h _ (by rw [hw]; exact List.mem_cons_self))
    cases hn.symm.trans hn9
    exact ⟨meth, c, h1, h2, h3, h4, h5, h6⟩
  · intro p e s m args below meth c s₁ B hml hP _
    have hh0 : s₁.heap = s.heap := by rw [B.state]; rfl
    obtain ⟨t, a1, o, b1, b2, b3⟩ := body p e s m args below meth c s₁ B hml hP s₁ hh0 (Stand.of_body B)
    exact ⟨t, o, a1, b1, b2, b3⟩
/-! ===== END ===== -/
end
section
/-! ===== BEGIN printed: names, fields, word lists, decode rows ===== -/
def RX0 : String := "MatchingService$Flow"
def TX0 : u_T := fun k => match k with
  | 0 => ("MatchingService$Flow", "pool", "LMatchingService$Pool;", true)
  | 1 => ("MatchingService$Flow", "node", "[I", true)
  | 2 => ("MatchingService$Flow", "accepted", "[I", true)
  | 3 => ("MatchingService$Flow", "load", "[I", true)
  | 4 => ("MatchingService$Flow", "used", "[I", true)
  | 5 => ("MatchingService$Flow", "queue", "[I", true)
  | 6 => ("MatchingService$Flow", "queued", "I", false)
  | 7 => ("MatchingService$Flow", "seen", "[Z", true)
  | 8 => ("MatchingService$Flow", "before", "[I", true)
  | _ => ("MatchingService$Flow", "carried", "[I", true)
def tyX0 : Nat → FieldType := fun k => match k with
  | 0 => .object "MatchingService$Pool"
  | 1 => .array .int
  | 2 => .array .int
  | 3 => .array .int
  | 4 => .array .int
  | 5 => .array .int
  | 6 => .int
  | 7 => .array .boolean
  | 8 => .array .int
  | _ => .array .int
abbrev wsX00 : List Cond := u_ws RX0 TX0 10
theorem nmX0 : ∀ a, a < 10 → ∀ b, b < 10 → a ≠ b → (TX0 a).2.1 ≠ (TX0 b).2.1 := by decide +kernel
theorem tyX0_ok : ∀ k, k < 10 → parseFieldDescriptor (TX0 k).2.2.1 = some (tyX0 k) := by decide +kernel
abbrev cX0_init : ByteArray := prog_2_method_1_code
def yX0_init : MethodName := ⟨RX0, "<init>", "(LMatchingService$Pool;)V"⟩
abbrev cX0_greatest : ByteArray := prog_2_method_2_code
def yX0_greatest : MethodName := ⟨RX0, "greatest", "(I)I"⟩
abbrev cX0_copyAssignment : ByteArray := prog_2_method_3_code
def yX0_copyAssignment : MethodName := ⟨RX0, "copyAssignment", "(I)V"⟩
abbrev cX0_startOf : ByteArray := prog_2_method_4_code
def yX0_startOf : MethodName := ⟨RX0, "startOf", "(I)I"⟩
abbrev cX0_augment : ByteArray := prog_2_method_5_code
def yX0_augment : MethodName := ⟨RX0, "augment", "()Z"⟩
abbrev cX0_startAtGroups : ByteArray := prog_2_method_6_code
def yX0_startAtGroups : MethodName := ⟨RX0, "startAtGroups", "()V"⟩
abbrev cX0_reach : ByteArray := prog_2_method_7_code
def yX0_reach : MethodName := ⟨RX0, "reach", "(III)V"⟩
abbrev cX0_leave : ByteArray := prog_2_method_8_code
def yX0_leave : MethodName := ⟨RX0, "leave", "(I)I"⟩
abbrev cX0_leaveWith : ByteArray := prog_2_method_9_code
def yX0_leaveWith : MethodName := ⟨RX0, "leaveWith", "(II)I"⟩
abbrev cX0_shiftAlong : ByteArray := prog_2_method_10_code
def yX0_shiftAlong : MethodName := ⟨RX0, "shiftAlong", "(I)V"⟩
def RX1 : String := "MatchingService$MoveLog"
def TX1 : u_T := fun k => match k with
  | 0 => ("MatchingService$MoveLog", "request", "[I", true)
  | 1 => ("MatchingService$MoveLog", "target", "[I", true)
  | _ => ("MatchingService$MoveLog", "size", "I", false)
def tyX1 : Nat → FieldType := fun k => match k with
  | 0 => .array .int
  | 1 => .array .int
  | _ => .int
abbrev wsX10 : List Cond := u_ws RX1 TX1 3
theorem nmX1 : ∀ a, a < 3 → ∀ b, b < 3 → a ≠ b → (TX1 a).2.1 ≠ (TX1 b).2.1 := by decide +kernel
theorem tyX1_ok : ∀ k, k < 3 → parseFieldDescriptor (TX1 k).2.2.1 = some (tyX1 k) := by decide +kernel
abbrev cX1_init : ByteArray := prog_3_method_1_code
def yX1_init : MethodName := ⟨RX1, "<init>", "()V"⟩
abbrev cX1_clear : ByteArray := prog_3_method_2_code
def yX1_clear : MethodName := ⟨RX1, "clear", "()V"⟩
abbrev cX1_add : ByteArray := prog_3_method_3_code
def yX1_add : MethodName := ⟨RX1, "add", "(II)V"⟩
def RX2 : String := "MatchingService$PathSearch"
def TX2 : u_T := fun k => match k with
  | 0 => ("MatchingService$PathSearch", "pool", "LMatchingService$Pool;", true)
  | 1 => ("MatchingService$PathSearch", "successors", "[I", true)
  | 2 => ("MatchingService$PathSearch", "layer", "[I", true)
  | 3 => ("MatchingService$PathSearch", "resource", "[I", true)
  | 4 => ("MatchingService$PathSearch", "request", "[I", true)
  | _ => ("MatchingService$PathSearch", "length", "I", false)
def tyX2 : Nat → FieldType := fun k => match k with
  | 0 => .object "MatchingService$Pool"
  | 1 => .array .int
  | 2 => .array .int
  | 3 => .array .int
  | 4 => .array .int
  | _ => .int
abbrev wsX20 : List Cond := u_ws RX2 TX2 6
theorem nmX2 : ∀ a, a < 6 → ∀ b, b < 6 → a ≠ b → (TX2 a).2.1 ≠ (TX2 b).2.1 := by decide +kernel
theorem tyX2_ok : ∀ k, k < 6 → parseFieldDescriptor (TX2 k).2.2.1 = some (tyX2 k) := by decide +kernel
abbrev cX2_init : ByteArray := prog_4_method_1_code
def yX2_init : MethodName := ⟨RX2, "<init>", "(LMatchingService$Pool;)V"⟩
abbrev cX2_search : ByteArray := prog_4_method_2_code
def yX2_search : MethodName := ⟨RX2, "search", "(I)I"⟩
abbrev cX2_collectSuccessors : ByteArray := prog_4_method_3_code
def yX2_collectSuccessors : MethodName := ⟨RX2, "collectSuccessors", "()V"⟩
abbrev cX2_buildLayers : ByteArray := prog_4_method_4_code
def yX2_buildLayers : MethodName := ⟨RX2, "buildLayers", "()V"⟩
abbrev cX2_leadingTo : ByteArray := prog_4_method_5_code
def yX2_leadingTo : MethodName := ⟨RX2, "leadingTo", "(I)I"⟩
abbrev cX2_shortestFrom : ByteArray := prog_4_method_6_code
def yX2_shortestFrom : MethodName := ⟨RX2, "shortestFrom", "(I)I"⟩
abbrev cX2_trace : ByteArray := prog_4_method_7_code
def yX2_trace : MethodName := ⟨RX2, "trace", "(I)Z"⟩
abbrev cX2_firstMovable : ByteArray := prog_4_method_8_code
def yX2_firstMovable : MethodName := ⟨RX2, "firstMovable", "(II)I"⟩
def RX3 : String := "MatchingService$Placer"
def TX3 : u_T := fun k => match k with
  | 0 => ("MatchingService$Placer", "pool", "LMatchingService$Pool;", true)
  | 1 => ("MatchingService$Placer", "paths", "LMatchingService$PathSearch;", true)
  | 2 => ("MatchingService$Placer", "log", "LMatchingService$MoveLog;", true)
  | _ => ("MatchingService$Placer", "tried", "[Z", true)
def tyX3 : Nat → FieldType := fun k => match k with
  | 0 => .object "MatchingService$Pool"
  | 1 => .object "MatchingService$PathSearch"
  | 2 => .object "MatchingService$MoveLog"
  | _ => .array .boolean
abbrev wsX30 : List Cond := u_ws RX3 TX3 4
theorem nmX3 : ∀ a, a < 4 → ∀ b, b < 4 → a ≠ b → (TX3 a).2.1 ≠ (TX3 b).2.1 := by decide +kernel
theorem tyX3_ok : ∀ k, k < 4 → parseFieldDescriptor (TX3 k).2.2.1 = some (tyX3 k) := by decide +kernel
abbrev cX3_init : ByteArray := prog_5_method_1_code
def yX3_init : MethodName := ⟨RX3, "<init>", "(LMatchingService$Pool;LMatchingService$PathSearch;LMatchingService$MoveLog;)V"⟩
abbrev cX3_runOnce : ByteArray := prog_5_method_2_code
def yX3_runOnce : MethodName := ⟨RX3, "runOnce", "()I"⟩
abbrev cX3_nextToTry : ByteArray := prog_5_method_3_code
def yX3_nextToTry : MethodName := ⟨RX3, "nextToTry", "()I"⟩
abbrev cX3_isServedBefore : ByteArray := prog_5_method_4_code
def yX3_isServedBefore : MethodName := ⟨RX3, "isServedBefore", "(II)Z"⟩
abbrev cX3_tryToPlace : ByteArray := prog_5_method_5_code
def yX3_tryToPlace : MethodName := ⟨RX3, "tryToPlace", "(I)Z"⟩
abbrev cX3_placeAlongPath : ByteArray := prog_5_method_6_code
def yX3_placeAlongPath : MethodName := ⟨RX3, "placeAlongPath", "(I)V"⟩
def RX4 : String := "MatchingService$Pool"
def TX4 : u_T := fun k => match k with
  | 0 => ("MatchingService$Pool", "resources", "I", false)
  | 1 => ("MatchingService$Pool", "capacity", "[I", true)
  | 2 => ("MatchingService$Pool", "load", "[I", true)
  | 3 => ("MatchingService$Pool", "quota", "[I", true)
  | 4 => ("MatchingService$Pool", "weight", "[I", true)
  | 5 => ("MatchingService$Pool", "assigned", "[I", true)
  | 6 => ("MatchingService$Pool", "requests", "I", false)
  | 7 => ("MatchingService$Pool", "group", "[I", true)
  | 8 => ("MatchingService$Pool", "accepted", "[I", true)
  | 9 => ("MatchingService$Pool", "place", "[I", true)
  | 10 => ("MatchingService$Pool", "moves", "[I", true)
  | 11 => ("MatchingService$Pool", "pathLimit", "I", false)
  | _ => ("MatchingService$Pool", "moveLimit", "I", false)
def tyX4 : Nat → FieldType := fun k => match k with
  | 0 => .int
  | 1 => .array .int
  | 2 => .array .int
  | 3 => .array .int
  | 4 => .array .int
  | 5 => .array .int
  | 6 => .int
  | 7 => .array .int
  | 8 => .array .int
  | 9 => .array .int
  | 10 => .array .int
  | 11 => .int
  | _ => .int
abbrev wsX40 : List Cond := u_ws RX4 TX4 13
theorem nmX4 : ∀ a, a < 13 → ∀ b, b < 13 → a ≠ b → (TX4 a).2.1 ≠ (TX4 b).2.1 := by decide +kernel
theorem tyX4_ok : ∀ k, k < 13 → parseFieldDescriptor (TX4 k).2.2.1 = some (tyX4 k) := by decide +kernel
abbrev cX4_init : ByteArray := prog_6_method_1_code
def yX4_init : MethodName := ⟨RX4, "<init>", "()V"⟩
abbrev cX4_maskOfAll : ByteArray := prog_6_method_2_code
def yX4_maskOfAll : MethodName := ⟨RX4, "maskOfAll", "()I"⟩
abbrev cX4_isWaiting : ByteArray := prog_6_method_3_code
def yX4_isWaiting : MethodName := ⟨RX4, "isWaiting", "(I)Z"⟩
abbrev cX4_isAssigned : ByteArray := prog_6_method_4_code
def yX4_isAssigned : MethodName := ⟨RX4, "isAssigned", "(I)Z"⟩
abbrev cX4_isDeparted : ByteArray := prog_6_method_5_code
def yX4_isDeparted : MethodName := ⟨RX4, "isDeparted", "(I)Z"⟩
abbrev cX4_stateNumber : ByteArray := prog_6_method_6_code
def yX4_stateNumber : MethodName := ⟨RX4, "stateNumber", "(I)I"⟩
abbrev cX4_canBeMoved : ByteArray := prog_6_method_7_code
def yX4_canBeMoved : MethodName := ⟨RX4, "canBeMoved", "(I)Z"⟩
abbrev cX4_resourceHasRoom : ByteArray := prog_6_method_8_code
def yX4_resourceHasRoom : MethodName := ⟨RX4, "resourceHasRoom", "(I)Z"⟩
abbrev cX4_groupHasRoom : ByteArray := prog_6_method_9_code
def yX4_groupHasRoom : MethodName := ⟨RX4, "groupHasRoom", "(I)Z"⟩
abbrev cX4_countAssigned : ByteArray := prog_6_method_10_code
def yX4_countAssigned : MethodName := ⟨RX4, "countAssigned", "()I"⟩
abbrev cX4_countWaiting : ByteArray := prog_6_method_11_code
def yX4_countWaiting : MethodName := ⟨RX4, "countWaiting", "()I"⟩
abbrev cX4_openResource : ByteArray := prog_6_method_12_code
def yX4_openResource : MethodName := ⟨RX4, "openResource", "(I)I"⟩
abbrev cX4_admit : ByteArray := prog_6_method_13_code
def yX4_admit : MethodName := ⟨RX4, "admit", "(II)I"⟩
abbrev cX4_dismiss : ByteArray := prog_6_method_14_code
def yX4_dismiss : MethodName := ⟨RX4, "dismiss", "(I)V"⟩
abbrev cX4_accept : ByteArray := prog_6_method_15_code
def yX4_accept : MethodName := ⟨RX4, "accept", "(II)V"⟩
abbrev cX4_assign : ByteArray := prog_6_method_16_code
def yX4_assign : MethodName := ⟨RX4, "assign", "(II)V"⟩
abbrev cX4_move : ByteArray := prog_6_method_17_code
def yX4_move : MethodName := ⟨RX4, "move", "(II)V"⟩
abbrev cX4_putBack : ByteArray := prog_6_method_18_code
def yX4_putBack : MethodName := ⟨RX4, "putBack", "(I)V"⟩
abbrev cX4_putBackBeyondCapacity : ByteArray := prog_6_method_19_code
def yX4_putBackBeyondCapacity : MethodName := ⟨RX4, "putBackBeyondCapacity", "(I)I"⟩
abbrev cX4_putBackBeyondQuota : ByteArray := prog_6_method_20_code
def yX4_putBackBeyondQuota : MethodName := ⟨RX4, "putBackBeyondQuota", "(I)I"⟩
def RX5 : String := "MatchingService"
def TX5 : u_T := fun k => match k with
  | 0 => ("MatchingService", "pool", "LMatchingService$Pool;", true)
  | 1 => ("MatchingService", "log", "LMatchingService$MoveLog;", true)
  | 2 => ("MatchingService", "paths", "LMatchingService$PathSearch;", true)
  | 3 => ("MatchingService", "placer", "LMatchingService$Placer;", true)
  | _ => ("MatchingService", "flow", "LMatchingService$Flow;", true)
def tyX5 : Nat → FieldType := fun k => match k with
  | 0 => .object "MatchingService$Pool"
  | 1 => .object "MatchingService$MoveLog"
  | 2 => .object "MatchingService$PathSearch"
  | 3 => .object "MatchingService$Placer"
  | _ => .object "MatchingService$Flow"
abbrev wsX50 : List Cond := u_ws RX5 TX5 5
theorem nmX5 : ∀ a, a < 5 → ∀ b, b < 5 → a ≠ b → (TX5 a).2.1 ≠ (TX5 b).2.1 := by decide +kernel
theorem tyX5_ok : ∀ k, k < 5 → parseFieldDescriptor (TX5 k).2.2.1 = some (tyX5 k) := by decide +kernel
abbrev cX5_init : ByteArray := prog_1_method_1_code
def yX5_init : MethodName := ⟨RX5, "<init>", "()V"⟩
abbrev cX5_addResource : ByteArray := prog_1_method_2_code
def yX5_addResource : MethodName := ⟨RX5, "addResource", "(I)I"⟩
abbrev cX5_setCapacity : ByteArray := prog_1_method_3_code
def yX5_setCapacity : MethodName := ⟨RX5, "setCapacity", "(II)I"⟩
abbrev cX5_setGroup : ByteArray := prog_1_method_4_code
def yX5_setGroup : MethodName := ⟨RX5, "setGroup", "(III)I"⟩
abbrev cX5_setLimits : ByteArray := prog_1_method_5_code
def yX5_setLimits : MethodName := ⟨RX5, "setLimits", "(II)I"⟩
abbrev cX5_arrive : ByteArray := prog_1_method_6_code
def yX5_arrive : MethodName := ⟨RX5, "arrive", "(II)I"⟩
abbrev cX5_depart : ByteArray := prog_1_method_7_code
def yX5_depart : MethodName := ⟨RX5, "depart", "(I)I"⟩
abbrev cX5_setAccepts : ByteArray := prog_1_method_8_code
def yX5_setAccepts : MethodName := ⟨RX5, "setAccepts", "(II)Z"⟩
abbrev cX5_resourceCount : ByteArray := prog_1_method_9_code
def yX5_resourceCount : MethodName := ⟨RX5, "resourceCount", "()I"⟩
abbrev cX5_arrivedCount : ByteArray := prog_1_method_10_code
def yX5_arrivedCount : MethodName := ⟨RX5, "arrivedCount", "()I"⟩
abbrev cX5_assignedCount : ByteArray := prog_1_method_11_code
def yX5_assignedCount : MethodName := ⟨RX5, "assignedCount", "()I"⟩
abbrev cX5_waitingCount : ByteArray := prog_1_method_12_code
def yX5_waitingCount : MethodName := ⟨RX5, "waitingCount", "()I"⟩
abbrev cX5_assignedOf : ByteArray := prog_1_method_13_code
def yX5_assignedOf : MethodName := ⟨RX5, "assignedOf", "(I)I"⟩
abbrev cX5_load : ByteArray := prog_1_method_14_code
def yX5_load : MethodName := ⟨RX5, "load", "(I)I"⟩
abbrev cX5_state : ByteArray := prog_1_method_15_code
def yX5_state : MethodName := ⟨RX5, "state", "(I)I"⟩
abbrev cX5_resourceOf : ByteArray := prog_1_method_16_code
def yX5_resourceOf : MethodName := ⟨RX5, "resourceOf", "(I)I"⟩
abbrev cX5_movesOf : ByteArray := prog_1_method_17_code
def yX5_movesOf : MethodName := ⟨RX5, "movesOf", "(I)I"⟩
abbrev cX5_moveCount : ByteArray := prog_1_method_18_code
def yX5_moveCount : MethodName := ⟨RX5, "moveCount", "()I"⟩
abbrev cX5_movedRequest : ByteArray := prog_1_method_19_code
def yX5_movedRequest : MethodName := ⟨RX5, "movedRequest", "(I)I"⟩
abbrev cX5_movedTo : ByteArray := prog_1_method_20_code
def yX5_movedTo : MethodName := ⟨RX5, "movedTo", "(I)I"⟩
abbrev cX5_movesNeeded : ByteArray := prog_1_method_21_code
def yX5_movesNeeded : MethodName := ⟨RX5, "movesNeeded", "(I)I"⟩
abbrev cX5_greatestPossible : ByteArray := prog_1_method_22_code
def yX5_greatestPossible : MethodName := ⟨RX5, "greatestPossible", "()I"⟩
abbrev cX5_gainBy : ByteArray := prog_1_method_23_code
def yX5_gainBy : MethodName := ⟨RX5, "gainBy", "(I)I"⟩
abbrev cX5_fairness : ByteArray := prog_1_method_24_code
def yX5_fairness : MethodName := ⟨RX5, "fairness", "()D"⟩
abbrev cX5_digest : ByteArray := prog_1_method_25_code
def yX5_digest : MethodName := ⟨RX5, "digest", "()J"⟩
abbrev cX5_requireResource : ByteArray := prog_1_method_26_code
def yX5_requireResource : MethodName := ⟨RX5, "requireResource", "(I)V"⟩
abbrev cX5_requireGroup : ByteArray := prog_1_method_27_code
def yX5_requireGroup : MethodName := ⟨RX5, "requireGroup", "(I)V"⟩
abbrev cX5_requireRequest : ByteArray := prog_1_method_28_code
def yX5_requireRequest : MethodName := ⟨RX5, "requireRequest", "(I)V"⟩
abbrev cX5_requirePresent : ByteArray := prog_1_method_29_code
def yX5_requirePresent : MethodName := ⟨RX5, "requirePresent", "(I)V"⟩
abbrev cX5_requireMask : ByteArray := prog_1_method_30_code
def yX5_requireMask : MethodName := ⟨RX5, "requireMask", "(I)V"⟩
abbrev cX5_requireLogged : ByteArray := prog_1_method_31_code
def yX5_requireLogged : MethodName := ⟨RX5, "requireLogged", "(I)V"⟩
abbrev cX5_isWithin : ByteArray := prog_1_method_32_code
def yX5_isWithin : MethodName := ⟨RX5, "isWithin", "(III)Z"⟩
abbrev cX5_hasBit : ByteArray := prog_1_method_33_code
def yX5_hasBit : MethodName := ⟨RX5, "hasBit", "(II)Z"⟩
abbrev cX5_lowestResource : ByteArray := prog_1_method_34_code
def yX5_lowestResource : MethodName := ⟨RX5, "lowestResource", "(I)I"⟩
abbrev cX5_mix : ByteArray := prog_1_method_35_code
def yX5_mix : MethodName := ⟨RX5, "mix", "(JI)J"⟩
def RX6 : String := "MatchingServiceModel"
def TX6 : u_T := fun k => match k with
  | 0 => ("MatchingServiceModel", "thrown", "I", false)
  | 1 => ("MatchingServiceModel", "resources", "I", false)
  | 2 => ("MatchingServiceModel", "capacities", "[I", true)
  | 3 => ("MatchingServiceModel", "quotas", "[I", true)
  | 4 => ("MatchingServiceModel", "weights", "[I", true)
  | 5 => ("MatchingServiceModel", "requests", "I", false)
  | 6 => ("MatchingServiceModel", "groups", "[I", true)
  | 7 => ("MatchingServiceModel", "masks", "[I", true)
  | 8 => ("MatchingServiceModel", "states", "[I", true)
  | 9 => ("MatchingServiceModel", "places", "[I", true)
  | 10 => ("MatchingServiceModel", "moves", "[I", true)
  | 11 => ("MatchingServiceModel", "pathLimit", "I", false)
  | 12 => ("MatchingServiceModel", "moveLimit", "I", false)
  | 13 => ("MatchingServiceModel", "logged", "I", false)
  | 14 => ("MatchingServiceModel", "loggedRequests", "[I", true)
  | 15 => ("MatchingServiceModel", "loggedPlaces", "[I", true)
  | 16 => ("MatchingServiceModel", "far", "[I", true)
  | 17 => ("MatchingServiceModel", "isTried", "[Z", true)
  | 18 => ("MatchingServiceModel", "pathRequests", "[I", true)
  | _ => ("MatchingServiceModel", "pathPlaces", "[I", true)
def tyX6 : Nat → FieldType := fun k => match k with
  | 0 => .int
  | 1 => .int
  | 2 => .array .int
  | 3 => .array .int
  | 4 => .array .int
  | 5 => .int
  | 6 => .array .int
  | 7 => .array .int
  | 8 => .array .int
  | 9 => .array .int
  | 10 => .array .int
  | 11 => .int
  | 12 => .int
  | 13 => .int
  | 14 => .array .int
  | 15 => .array .int
  | 16 => .array .int
  | 17 => .array .boolean
  | 18 => .array .int
  | _ => .array .int
abbrev wsX60 : List Cond := u_ws RX6 TX6 20
theorem nmX6 : ∀ a, a < 20 → ∀ b, b < 20 → a ≠ b → (TX6 a).2.1 ≠ (TX6 b).2.1 := by decide +kernel
theorem tyX6_ok : ∀ k, k < 20 → parseFieldDescriptor (TX6 k).2.2.1 = some (tyX6 k) := by decide +kernel
abbrev cX6_init : ByteArray := prog_8_method_1_code
def yX6_init : MethodName := ⟨RX6, "<init>", "()V"⟩
abbrev cX6_thrown : ByteArray := prog_8_method_2_code
def yX6_thrown : MethodName := ⟨RX6, "thrown", "()I"⟩
abbrev cX6_fail : ByteArray := prog_8_method_3_code
def yX6_fail : MethodName := ⟨RX6, "fail", "(I)I"⟩
abbrev cX6_isResource : ByteArray := prog_8_method_4_code
def yX6_isResource : MethodName := ⟨RX6, "isResource", "(I)Z"⟩
abbrev cX6_isRequest : ByteArray := prog_8_method_5_code
def yX6_isRequest : MethodName := ⟨RX6, "isRequest", "(I)Z"⟩
abbrev cX6_isGroup : ByteArray := prog_8_method_6_code
def yX6_isGroup : MethodName := ⟨RX6, "isGroup", "(I)Z"⟩
abbrev cX6_isMask : ByteArray := prog_8_method_7_code
def yX6_isMask : MethodName := ⟨RX6, "isMask", "(I)Z"⟩
abbrev cX6_accepts : ByteArray := prog_8_method_8_code
def yX6_accepts : MethodName := ⟨RX6, "accepts", "(II)Z"⟩
abbrev cX6_isAt : ByteArray := prog_8_method_9_code
def yX6_isAt : MethodName := ⟨RX6, "isAt", "(II)Z"⟩
abbrev cX6_loadOf : ByteArray := prog_8_method_10_code
def yX6_loadOf : MethodName := ⟨RX6, "loadOf", "(I)I"⟩
abbrev cX6_assignedIn : ByteArray := prog_8_method_11_code
def yX6_assignedIn : MethodName := ⟨RX6, "assignedIn", "(I)I"⟩
abbrev cX6_findFar : ByteArray := prog_8_method_12_code
def yX6_findFar : MethodName := ⟨RX6, "findFar", "()V"⟩
abbrev cX6_brings : ByteArray := prog_8_method_13_code
def yX6_brings : MethodName := ⟨RX6, "brings", "(II)Z"⟩
abbrev cX6_canMove : ByteArray := prog_8_method_14_code
def yX6_canMove : MethodName := ⟨RX6, "canMove", "(II)Z"⟩
abbrev cX6_firstOf : ByteArray := prog_8_method_15_code
def yX6_firstOf : MethodName := ⟨RX6, "firstOf", "(I)I"⟩
abbrev cX6_isPlaced : ByteArray := prog_8_method_16_code
def yX6_isPlaced : MethodName := ⟨RX6, "isPlaced", "(I)Z"⟩
abbrev cX6_movedFrom : ByteArray := prog_8_method_17_code
def yX6_movedFrom : MethodName := ⟨RX6, "movedFrom", "(I)I"⟩
abbrev cX6_log : ByteArray := prog_8_method_18_code
def yX6_log : MethodName := ⟨RX6, "log", "(II)V"⟩
abbrev cX6_run : ByteArray := prog_8_method_19_code
def yX6_run : MethodName := ⟨RX6, "run", "()I"⟩
abbrev cX6_next : ByteArray := prog_8_method_20_code
def yX6_next : MethodName := ⟨RX6, "next", "()I"⟩
abbrev cX6_firstIn : ByteArray := prog_8_method_21_code
def yX6_firstIn : MethodName := ⟨RX6, "firstIn", "(I)I"⟩
abbrev cX6_addResource : ByteArray := prog_8_method_22_code
def yX6_addResource : MethodName := ⟨RX6, "addResource", "(I)I"⟩
abbrev cX6_setCapacity : ByteArray := prog_8_method_23_code
def yX6_setCapacity : MethodName := ⟨RX6, "setCapacity", "(II)I"⟩
abbrev cX6_setGroup : ByteArray := prog_8_method_24_code
def yX6_setGroup : MethodName := ⟨RX6, "setGroup", "(III)I"⟩
abbrev cX6_setLimits : ByteArray := prog_8_method_25_code
def yX6_setLimits : MethodName := ⟨RX6, "setLimits", "(II)I"⟩
abbrev cX6_arrive : ByteArray := prog_8_method_26_code
def yX6_arrive : MethodName := ⟨RX6, "arrive", "(II)I"⟩
abbrev cX6_depart : ByteArray := prog_8_method_27_code
def yX6_depart : MethodName := ⟨RX6, "depart", "(I)I"⟩
abbrev cX6_setAccepts : ByteArray := prog_8_method_28_code
def yX6_setAccepts : MethodName := ⟨RX6, "setAccepts", "(II)Z"⟩
abbrev cX6_resourceCount : ByteArray := prog_8_method_29_code
def yX6_resourceCount : MethodName := ⟨RX6, "resourceCount", "()I"⟩
abbrev cX6_arrivedCount : ByteArray := prog_8_method_30_code
def yX6_arrivedCount : MethodName := ⟨RX6, "arrivedCount", "()I"⟩
abbrev cX6_countOf : ByteArray := prog_8_method_31_code
def yX6_countOf : MethodName := ⟨RX6, "countOf", "(I)I"⟩
abbrev cX6_assignedCount : ByteArray := prog_8_method_32_code
def yX6_assignedCount : MethodName := ⟨RX6, "assignedCount", "()I"⟩
abbrev cX6_waitingCount : ByteArray := prog_8_method_33_code
def yX6_waitingCount : MethodName := ⟨RX6, "waitingCount", "()I"⟩
abbrev cX6_assignedOf : ByteArray := prog_8_method_34_code
def yX6_assignedOf : MethodName := ⟨RX6, "assignedOf", "(I)I"⟩
abbrev cX6_load : ByteArray := prog_8_method_35_code
def yX6_load : MethodName := ⟨RX6, "load", "(I)I"⟩
abbrev cX6_state : ByteArray := prog_8_method_36_code
def yX6_state : MethodName := ⟨RX6, "state", "(I)I"⟩
abbrev cX6_resourceOf : ByteArray := prog_8_method_37_code
def yX6_resourceOf : MethodName := ⟨RX6, "resourceOf", "(I)I"⟩
abbrev cX6_movesOf : ByteArray := prog_8_method_38_code
def yX6_movesOf : MethodName := ⟨RX6, "movesOf", "(I)I"⟩
abbrev cX6_moveCount : ByteArray := prog_8_method_39_code
def yX6_moveCount : MethodName := ⟨RX6, "moveCount", "()I"⟩
abbrev cX6_movedRequest : ByteArray := prog_8_method_40_code
def yX6_movedRequest : MethodName := ⟨RX6, "movedRequest", "(I)I"⟩
abbrev cX6_movedTo : ByteArray := prog_8_method_41_code
def yX6_movedTo : MethodName := ⟨RX6, "movedTo", "(I)I"⟩
abbrev cX6_movesNeeded : ByteArray := prog_8_method_42_code
def yX6_movesNeeded : MethodName := ⟨RX6, "movesNeeded", "(I)I"⟩
abbrev cX6_possible : ByteArray := prog_8_method_43_code
def yX6_possible : MethodName := ⟨RX6, "possible", "()I"⟩
abbrev cX6_greatestPossible : ByteArray := prog_8_method_44_code
def yX6_greatestPossible : MethodName := ⟨RX6, "greatestPossible", "()I"⟩
abbrev cX6_gainBy : ByteArray := prog_8_method_45_code
def yX6_gainBy : MethodName := ⟨RX6, "gainBy", "(I)I"⟩
abbrev cX6_fairness : ByteArray := prog_8_method_46_code
def yX6_fairness : MethodName := ⟨RX6, "fairness", "()D"⟩
abbrev cX6_digest : ByteArray := prog_8_method_47_code
def yX6_digest : MethodName := ⟨RX6, "digest", "()J"⟩
def RJx145de : String := "java/io/Serializable"
def TJx145de : u_T := fun k => match k with
  | _ => ("", "", "", false)
def tyJx145de : Nat → FieldType := fun k => match k with
  | _ => .int
abbrev wsJx145de0 : List Cond := u_ws RJx145de TJx145de 0
theorem nmJx145de : ∀ a, a < 0 → ∀ b, b < 0 → a ≠ b → (TJx145de a).2.1 ≠ (TJx145de b).2.1 := by decide +kernel
theorem tyJx145de_ok : ∀ k, k < 0 → parseFieldDescriptor (TJx145de k).2.2.1 = some (tyJx145de k) := by decide +kernel
def RJ9 : String := "java/lang/Math"
def TJ9 : u_T := fun k => match k with
  | _ => ("", "", "", false)
def tyJ9 : Nat → FieldType := fun k => match k with
  | _ => .int
abbrev wsJ90 : List Cond := u_ws RJ9 TJ9 0
theorem nmJ9 : ∀ a, a < 0 → ∀ b, b < 0 → a ≠ b → (TJ9 a).2.1 ≠ (TJ9 b).2.1 := by decide +kernel
theorem tyJ9_ok : ∀ k, k < 0 → parseFieldDescriptor (TJ9 k).2.2.1 = some (tyJ9 k) := by decide +kernel
abbrev cJ9_min_7cf53 : ByteArray := prog_14_method_69_code
def yJ9_min_7cf53 : MethodName := ⟨RJ9, "min", "(II)I"⟩
def RJ0 : String := "java/lang/String"
def TJ0 : u_T := fun k => match k with
  | _ => ("", "", "", false)
def tyJ0 : Nat → FieldType := fun k => match k with
  | _ => .int
abbrev wsJ00 : List Cond := u_ws RJ0 TJ0 0
theorem nmJ0 : ∀ a, a < 0 → ∀ b, b < 0 → a ≠ b → (TJ0 a).2.1 ≠ (TJ0 b).2.1 := by decide +kernel
theorem tyJ0_ok : ∀ k, k < 0 → parseFieldDescriptor (TJ0 k).2.2.1 = some (tyJ0 k) := by decide +kernel
def RL : String := "MatchingServiceLaw"
abbrev cL_addResource : ByteArray := method_3_code
def yL_addResource : MethodName := ⟨RL, "addResource", "(LMatchingService;I[J)I"⟩
abbrev cL_setCapacity : ByteArray := method_4_code
def yL_setCapacity : MethodName := ⟨RL, "setCapacity", "(LMatchingService;II[J)I"⟩
abbrev cL_setGroup : ByteArray := method_5_code
def yL_setGroup : MethodName := ⟨RL, "setGroup", "(LMatchingService;III[J)I"⟩
abbrev cL_setLimits : ByteArray := method_6_code
def yL_setLimits : MethodName := ⟨RL, "setLimits", "(LMatchingService;II[J)I"⟩
abbrev cL_arrive : ByteArray := method_7_code
def yL_arrive : MethodName := ⟨RL, "arrive", "(LMatchingService;II[J)I"⟩
abbrev cL_depart : ByteArray := method_8_code
def yL_depart : MethodName := ⟨RL, "depart", "(LMatchingService;I[J)I"⟩
abbrev cL_setAccepts : ByteArray := method_9_code
def yL_setAccepts : MethodName := ⟨RL, "setAccepts", "(LMatchingService;II[J)I"⟩
abbrev cL_assignedOf : ByteArray := method_10_code
def yL_assignedOf : MethodName := ⟨RL, "assignedOf", "(LMatchingService;I[J)I"⟩
abbrev cL_load : ByteArray := method_11_code
def yL_load : MethodName := ⟨RL, "load", "(LMatchingService;I[J)I"⟩
abbrev cL_state : ByteArray := method_12_code
def yL_state : MethodName := ⟨RL, "state", "(LMatchingService;I[J)I"⟩
abbrev cL_resourceOf : ByteArray := method_13_code
def yL_resourceOf : MethodName := ⟨RL, "resourceOf", "(LMatchingService;I[J)I"⟩
abbrev cL_movesOf : ByteArray := method_14_code
def yL_movesOf : MethodName := ⟨RL, "movesOf", "(LMatchingService;I[J)I"⟩
abbrev cL_movedRequest : ByteArray := method_15_code
def yL_movedRequest : MethodName := ⟨RL, "movedRequest", "(LMatchingService;I[J)I"⟩
abbrev cL_movedTo : ByteArray := method_16_code
def yL_movedTo : MethodName := ⟨RL, "movedTo", "(LMatchingService;I[J)I"⟩
abbrev cL_movesNeeded : ByteArray := method_17_code
def yL_movesNeeded : MethodName := ⟨RL, "movesNeeded", "(LMatchingService;I[J)I"⟩
abbrev cL_gainBy : ByteArray := method_18_code
def yL_gainBy : MethodName := ⟨RL, "gainBy", "(LMatchingService;I[J)I"⟩
abbrev cL_law : ByteArray := code
def yL_law : MethodName := ⟨RL, "law", "([I)Z"⟩
abbrev vwCl : List vw_C := [(RX0, TX0, 10), (RX1, TX1, 3), (RX2, TX2, 6), (RX3, TX3, 4), (RX4, TX4, 13), (RX5, TX5, 5), (RX6, TX6, 20)]
end
section
/-! THE WORDS: jAll, the good ones of the tables; each by its place. (From the printed Statement, by gen_words.py) -/
def jAll : List Cond := lw_tbl.filter goodWord
theorem jAll_tbl : ∀ w ∈ jAll, w ∈ lw_tbl := fun _ h => (List.mem_filter.mp h).1
theorem jAll_good : ∀ w ∈ jAll, goodWord w = true := fun _ h => (List.mem_filter.mp h).2
theorem jM1 {w : Cond} (h : w ∈ tables_1_1) : w ∈ lw_tbl := List.mem_append_right _ (List.mem_append_left _ h)
theorem jM2 {w : Cond} (h : w ∈ tables_1_2) : w ∈ lw_tbl := List.mem_append_right _ (List.mem_append_right _ (List.mem_append_left _ h))
theorem jM3 {w : Cond} (h : w ∈ tables_1_3) : w ∈ lw_tbl := List.mem_append_right _ (List.mem_append_right _ (List.mem_append_right _ (List.mem_append_left _ h)))
theorem jM4 {w : Cond} (h : w ∈ tables_1_4) : w ∈ lw_tbl := List.mem_append_right _ (List.mem_append_right _ (List.mem_append_right _ (List.mem_append_right _ (List.mem_append_left _ h))))
theorem jM5 {w : Cond} (h : w ∈ tables_1_5) : w ∈ lw_tbl := List.mem_append_right _ (List.mem_append_right _ (List.mem_append_right _ (List.mem_append_right _ (List.mem_append_right _ h))))
theorem jMp {w : Cond} (h : w ∈ k2_sels lw_privs) : w ∈ lw_tbl := List.mem_append_left _ h
def jIsNest : Cond → Bool
  | .fieldLinkNest .. => true
  | .methodLinkNest .. => true
  | _ => false
def jNest : List Cond := lw_tbl.filter jIsNest
theorem jNest_tbl : ∀ w ∈ jNest, w ∈ lw_tbl := fun _ h => (List.mem_filter.mp h).1
theorem jH {w : Cond} (h : w ∈ lw_tbl) (g : jIsNest w = true) : w ∈ jNest := List.mem_filter.mpr ⟨h, g⟩
theorem jNest_on {w : Cond} (h : w ∈ jNest) : w.onTables = true := by
  have h2 := (List.mem_filter.mp h).2
  cases w <;> first | rfl | (simp [jIsNest] at h2)
theorem jNest_warm {w : Cond} (h : w ∈ jNest) {s U : State} (hW : s.WarmedH U.vm) (hZ : va_Nw w s) : va_Nw w U := by
  have h2 := (List.mem_filter.mp h).2
  cases w <;> first | exact va_Nw.warmF hW hZ | exact va_Nw.warmM hW hZ | (simp [jIsNest] at h2)
theorem jgd {w : Cond} (h : w ∈ lw_tbl) (g : goodWord w = true) : w ∈ jAll := List.mem_filter.mpr ⟨h, g⟩
theorem kini_L : Cond.initialized RL ∈ jAll := jgd (jM1 (List.mem_of_getElem? (i := 0) rfl)) rfl
theorem kini_X5 : Cond.initialized RX5 ∈ jAll := jgd (jM1 (List.mem_of_getElem? (i := 1) rfl)) rfl
theorem kini_X4 : Cond.initialized RX4 ∈ jAll := jgd (jM1 (List.mem_of_getElem? (i := 2) rfl)) rfl
theorem kini_X1 : Cond.initialized RX1 ∈ jAll := jgd (jM1 (List.mem_of_getElem? (i := 3) rfl)) rfl
theorem kini_X2 : Cond.initialized RX2 ∈ jAll := jgd (jM1 (List.mem_of_getElem? (i := 4) rfl)) rfl
theorem kini_X3 : Cond.initialized RX3 ∈ jAll := jgd (jM1 (List.mem_of_getElem? (i := 5) rfl)) rfl
theorem kini_X0 : Cond.initialized RX0 ∈ jAll := jgd (jM1 (List.mem_of_getElem? (i := 6) rfl)) rfl
theorem kini_X6 : Cond.initialized RX6 ∈ jAll := jgd (jM1 (List.mem_of_getElem? (i := 7) rfl)) rfl
theorem kini__java_lang_Throwable_ : Cond.initialized "java/lang/Throwable" ∈ jAll := jgd (jM1 (List.mem_of_getElem? (i := 8) rfl)) rfl
theorem kini__java_lang_Exception_ : Cond.initialized "java/lang/Exception" ∈ jAll := jgd (jM1 (List.mem_of_getElem? (i := 9) rfl)) rfl
theorem kini__java_lang_RuntimeException_ : Cond.initialized "java/lang/RuntimeException" ∈ jAll := jgd (jM1 (List.mem_of_getElem? (i := 10) rfl)) rfl
theorem kini__java_lang_IllegalArgumentException_ : Cond.initialized "java/lang/IllegalArgumentException" ∈ jAll := jgd (jM1 (List.mem_of_getElem? (i := 11) rfl)) rfl
theorem kini__java_lang_IllegalStateException_ : Cond.initialized "java/lang/IllegalStateException" ∈ jAll := jgd (jM1 (List.mem_of_getElem? (i := 12) rfl)) rfl
theorem kini__java_lang_IndexOutOfBoundsException_ : Cond.initialized "java/lang/IndexOutOfBoundsException" ∈ jAll := jgd (jM1 (List.mem_of_getElem? (i := 13) rfl)) rfl
theorem kini__java_util_NoSuchElementException_ : Cond.initialized "java/util/NoSuchElementException" ∈ jAll := jgd (jM1 (List.mem_of_getElem? (i := 14) rfl)) rfl
theorem kini_J9 : Cond.initialized RJ9 ∈ jAll := jgd (jM1 (List.mem_of_getElem? (i := 15) rfl)) rfl
theorem kcl_L_8 : Cond.classLink RL 8 RX5 ∈ jAll := jgd (jM1 (List.mem_of_getElem? (i := 16) rfl)) rfl
theorem kin_X5 : Cond.instantiable RX5 5 ∈ jAll := jgd (jM1 (List.mem_of_getElem? (i := 17) rfl)) rfl
theorem kml_L_69 : Cond.methodLink RL 69 yX5_init ∈ jAll := jgd (jM1 (List.mem_of_getElem? (i := 18) rfl)) rfl
theorem kim_X5_init : Cond.instanceMethod yX5_init ∈ jAll := jgd (jM1 (List.mem_of_getElem? (i := 19) rfl)) rfl
theorem kco_X5_init : Cond.code yX5_init cX5_init 1 none ∈ jAll := jgd (jM1 (List.mem_of_getElem? (i := 20) rfl)) rfl
theorem kml_X5_1 : Cond.methodLink RX5 1 objectInit ∈ jAll := jgd (jM1 (List.mem_of_getElem? (i := 21) rfl)) rfl
theorem kim_Object__init___V : Cond.instanceMethod objectInit ∈ jAll := jgd (jM1 (List.mem_of_getElem? (i := 22) rfl)) rfl
theorem kco_objectInit : Cond.code objectInit ⟨#[0xb1]⟩ 1 none ∈ jAll := jgd (jM1 (List.mem_of_getElem? (i := 23) rfl)) rfl
theorem kcl_X5_7 : Cond.classLink RX5 7 RX4 ∈ jAll := jgd (jM1 (List.mem_of_getElem? (i := 24) rfl)) rfl
theorem kin_X4 : Cond.instantiable RX4 13 ∈ jAll := jgd (jM1 (List.mem_of_getElem? (i := 25) rfl)) rfl
theorem kml_X5_9 : Cond.methodLink RX5 9 yX4_init ∈ jAll := jgd (jM1 (List.mem_of_getElem? (i := 26) rfl)) rfl
theorem kim_X4_init : Cond.instanceMethod yX4_init ∈ jAll := jgd (jM1 (List.mem_of_getElem? (i := 27) rfl)) rfl
theorem kco_X4_init : Cond.code yX4_init cX4_init 2 none ∈ jAll := jgd (jM1 (List.mem_of_getElem? (i := 28) rfl)) rfl
theorem kml_X4_3 : Cond.methodLink RX4 3 objectInit ∈ jAll := jgd (jM1 (List.mem_of_getElem? (i := 29) rfl)) rfl
theorem kfl_X4_46 : Cond.fieldLink RX4 46 "MatchingService$Pool" "resources" "I" ∈ jAll := jgd (jM1 (List.mem_of_getElem? (i := 30) rfl)) rfl
theorem kfn_X5_59 : Cond.fieldLinkNest RX5 59 "MatchingService$Pool" "resources" "I" "MatchingService" ∈ jNest := jH (jM1 (List.mem_of_getElem? (i := 31) rfl)) rfl
theorem kfn_X2_51 : Cond.fieldLinkNest RX2 51 "MatchingService$Pool" "resources" "I" "MatchingService" ∈ jNest := jH (jM1 (List.mem_of_getElem? (i := 32) rfl)) rfl
theorem kfn_X0_59 : Cond.fieldLinkNest RX0 59 "MatchingService$Pool" "resources" "I" "MatchingService" ∈ jNest := jH (jM1 (List.mem_of_getElem? (i := 33) rfl)) rfl
theorem kfl_X4_9 : Cond.fieldLink RX4 9 "MatchingService$Pool" "capacity" "[I" ∈ jAll := jgd (jM1 (List.mem_of_getElem? (i := 34) rfl)) rfl
theorem kfn_X5_83 : Cond.fieldLinkNest RX5 83 "MatchingService$Pool" "capacity" "[I" "MatchingService" ∈ jNest := jH (jM1 (List.mem_of_getElem? (i := 35) rfl)) rfl
theorem kfn_X0_114 : Cond.fieldLinkNest RX0 114 "MatchingService$Pool" "capacity" "[I" "MatchingService" ∈ jNest := jH (jM1 (List.mem_of_getElem? (i := 36) rfl)) rfl
theorem kfl_X4_15 : Cond.fieldLink RX4 15 "MatchingService$Pool" "load" "[I" ∈ jAll := jgd (jM1 (List.mem_of_getElem? (i := 37) rfl)) rfl
theorem kfn_X0_62 : Cond.fieldLinkNest RX0 62 "MatchingService$Pool" "load" "[I" "MatchingService" ∈ jNest := jH (jM1 (List.mem_of_getElem? (i := 38) rfl)) rfl
theorem kfn_X5_154 : Cond.fieldLinkNest RX5 154 "MatchingService$Pool" "load" "[I" "MatchingService" ∈ jNest := jH (jM1 (List.mem_of_getElem? (i := 39) rfl)) rfl
theorem kfl_X4_18 : Cond.fieldLink RX4 18 "MatchingService$Pool" "quota" "[I" ∈ jAll := jgd (jM1 (List.mem_of_getElem? (i := 40) rfl)) rfl
theorem kfn_X5_97 : Cond.fieldLinkNest RX5 97 "MatchingService$Pool" "quota" "[I" "MatchingService" ∈ jNest := jH (jM1 (List.mem_of_getElem? (i := 41) rfl)) rfl
theorem kfn_X0_99 : Cond.fieldLinkNest RX0 99 "MatchingService$Pool" "quota" "[I" "MatchingService" ∈ jNest := jH (jM1 (List.mem_of_getElem? (i := 42) rfl)) rfl
theorem kfl_X4_21 : Cond.fieldLink RX4 21 "MatchingService$Pool" "weight" "[I" ∈ jAll := jgd (jM1 (List.mem_of_getElem? (i := 43) rfl)) rfl
theorem kfn_X3_55 : Cond.fieldLinkNest RX3 55 "MatchingService$Pool" "weight" "[I" "MatchingService" ∈ jNest := jH (jM1 (List.mem_of_getElem? (i := 44) rfl)) rfl
theorem kfn_X5_100 : Cond.fieldLinkNest RX5 100 "MatchingService$Pool" "weight" "[I" "MatchingService" ∈ jNest := jH (jM1 (List.mem_of_getElem? (i := 45) rfl)) rfl
theorem kfl_X4_24 : Cond.fieldLink RX4 24 "MatchingService$Pool" "assigned" "[I" ∈ jAll := jgd (jM1 (List.mem_of_getElem? (i := 46) rfl)) rfl
theorem kfn_X0_63 : Cond.fieldLinkNest RX0 63 "MatchingService$Pool" "assigned" "[I" "MatchingService" ∈ jNest := jH (jM1 (List.mem_of_getElem? (i := 47) rfl)) rfl
theorem kfn_X3_52 : Cond.fieldLinkNest RX3 52 "MatchingService$Pool" "assigned" "[I" "MatchingService" ∈ jNest := jH (jM1 (List.mem_of_getElem? (i := 48) rfl)) rfl
theorem kfn_X5_151 : Cond.fieldLinkNest RX5 151 "MatchingService$Pool" "assigned" "[I" "MatchingService" ∈ jNest := jH (jM1 (List.mem_of_getElem? (i := 49) rfl)) rfl
theorem kfn_X3_27 : Cond.fieldLinkNest RX3 27 "MatchingService$Pool" "requests" "I" "MatchingService" ∈ jNest := jH (jM1 (List.mem_of_getElem? (i := 50) rfl)) rfl
theorem kfn_X0_51 : Cond.fieldLinkNest RX0 51 "MatchingService$Pool" "requests" "I" "MatchingService" ∈ jNest := jH (jM1 (List.mem_of_getElem? (i := 51) rfl)) rfl
theorem kfn_X2_54 : Cond.fieldLinkNest RX2 54 "MatchingService$Pool" "requests" "I" "MatchingService" ∈ jNest := jH (jM1 (List.mem_of_getElem? (i := 52) rfl)) rfl
theorem kfn_X5_119 : Cond.fieldLinkNest RX5 119 "MatchingService$Pool" "requests" "I" "MatchingService" ∈ jNest := jH (jM1 (List.mem_of_getElem? (i := 53) rfl)) rfl
theorem kfl_X4_56 : Cond.fieldLink RX4 56 "MatchingService$Pool" "requests" "I" ∈ jAll := jgd (jM1 (List.mem_of_getElem? (i := 54) rfl)) rfl
theorem kfl_X4_27 : Cond.fieldLink RX4 27 "MatchingService$Pool" "group" "[I" ∈ jAll := jgd (jM1 (List.mem_of_getElem? (i := 55) rfl)) rfl
theorem kfn_X3_44 : Cond.fieldLinkNest RX3 44 "MatchingService$Pool" "group" "[I" "MatchingService" ∈ jNest := jH (jM1 (List.mem_of_getElem? (i := 56) rfl)) rfl
theorem kfn_X0_84 : Cond.fieldLinkNest RX0 84 "MatchingService$Pool" "group" "[I" "MatchingService" ∈ jNest := jH (jM1 (List.mem_of_getElem? (i := 57) rfl)) rfl
theorem kfl_X4_30 : Cond.fieldLink RX4 30 "MatchingService$Pool" "accepted" "[I" ∈ jAll := jgd (jM1 (List.mem_of_getElem? (i := 58) rfl)) rfl
theorem kfn_X2_34 : Cond.fieldLinkNest RX2 34 "MatchingService$Pool" "accepted" "[I" "MatchingService" ∈ jNest := jH (jM1 (List.mem_of_getElem? (i := 59) rfl)) rfl
theorem kfn_X0_73 : Cond.fieldLinkNest RX0 73 "MatchingService$Pool" "accepted" "[I" "MatchingService" ∈ jNest := jH (jM1 (List.mem_of_getElem? (i := 60) rfl)) rfl
theorem kfl_X4_33 : Cond.fieldLink RX4 33 "MatchingService$Pool" "place" "[I" ∈ jAll := jgd (jM1 (List.mem_of_getElem? (i := 61) rfl)) rfl
theorem kfn_X2_60 : Cond.fieldLinkNest RX2 60 "MatchingService$Pool" "place" "[I" "MatchingService" ∈ jNest := jH (jM1 (List.mem_of_getElem? (i := 62) rfl)) rfl
theorem kfn_X0_81 : Cond.fieldLinkNest RX0 81 "MatchingService$Pool" "place" "[I" "MatchingService" ∈ jNest := jH (jM1 (List.mem_of_getElem? (i := 63) rfl)) rfl
theorem kfn_X5_168 : Cond.fieldLinkNest RX5 168 "MatchingService$Pool" "place" "[I" "MatchingService" ∈ jNest := jH (jM1 (List.mem_of_getElem? (i := 64) rfl)) rfl
theorem kfl_X4_36 : Cond.fieldLink RX4 36 "MatchingService$Pool" "moves" "[I" ∈ jAll := jgd (jM1 (List.mem_of_getElem? (i := 65) rfl)) rfl
theorem kfn_X5_171 : Cond.fieldLinkNest RX5 171 "MatchingService$Pool" "moves" "[I" "MatchingService" ∈ jNest := jH (jM1 (List.mem_of_getElem? (i := 66) rfl)) rfl
theorem kfl_X4_39 : Cond.fieldLink RX4 39 "MatchingService$Pool" "pathLimit" "I" ∈ jAll := jgd (jM1 (List.mem_of_getElem? (i := 67) rfl)) rfl
theorem kfn_X3_67 : Cond.fieldLinkNest RX3 67 "MatchingService$Pool" "pathLimit" "I" "MatchingService" ∈ jNest := jH (jM1 (List.mem_of_getElem? (i := 68) rfl)) rfl
theorem kfn_X5_110 : Cond.fieldLinkNest RX5 110 "MatchingService$Pool" "pathLimit" "I" "MatchingService" ∈ jNest := jH (jM1 (List.mem_of_getElem? (i := 69) rfl)) rfl
theorem kfl_X4_43 : Cond.fieldLink RX4 43 "MatchingService$Pool" "moveLimit" "I" ∈ jAll := jgd (jM1 (List.mem_of_getElem? (i := 70) rfl)) rfl
theorem kfn_X5_113 : Cond.fieldLinkNest RX5 113 "MatchingService$Pool" "moveLimit" "I" "MatchingService" ∈ jNest := jH (jM1 (List.mem_of_getElem? (i := 71) rfl)) rfl
theorem kac_int : Cond.arrayClass .int ∈ jAll := jgd (jM1 (List.mem_of_getElem? (i := 99) rfl)) rfl
theorem kcl_X5_16 : Cond.classLink RX5 16 RX1 ∈ jAll := jgd (jM1 (List.mem_of_getElem? (i := 100) rfl)) rfl
theorem kin_X1 : Cond.instantiable RX1 3 ∈ jAll := jgd (jM1 (List.mem_of_getElem? (i := 101) rfl)) rfl
theorem kmn_X5_18 : Cond.methodLinkNest RX5 18 yX1_init "MatchingService" ∈ jNest := jH (jM1 (List.mem_of_getElem? (i := 102) rfl)) rfl
theorem kim_X1_init : Cond.instanceMethod yX1_init ∈ jAll := jgd (jM1 (List.mem_of_getElem? (i := 103) rfl)) rfl
theorem kco_X1_init : Cond.code yX1_init cX1_init 1 none ∈ jAll := jgd (jM1 (List.mem_of_getElem? (i := 104) rfl)) rfl
theorem kml_X1_3 : Cond.methodLink RX1 3 objectInit ∈ jAll := jgd (jM1 (List.mem_of_getElem? (i := 105) rfl)) rfl
theorem kfl_X1_11 : Cond.fieldLink RX1 11 "MatchingService$MoveLog" "request" "[I" ∈ jAll := jgd (jM1 (List.mem_of_getElem? (i := 106) rfl)) rfl
theorem kfn_X5_180 : Cond.fieldLinkNest RX5 180 "MatchingService$MoveLog" "request" "[I" "MatchingService" ∈ jNest := jH (jM1 (List.mem_of_getElem? (i := 107) rfl)) rfl
theorem kfl_X1_15 : Cond.fieldLink RX1 15 "MatchingService$MoveLog" "target" "[I" ∈ jAll := jgd (jM1 (List.mem_of_getElem? (i := 108) rfl)) rfl
theorem kfn_X5_183 : Cond.fieldLinkNest RX5 183 "MatchingService$MoveLog" "target" "[I" "MatchingService" ∈ jNest := jH (jM1 (List.mem_of_getElem? (i := 109) rfl)) rfl
theorem kfl_X1_18 : Cond.fieldLink RX1 18 "MatchingService$MoveLog" "size" "I" ∈ jAll := jgd (jM1 (List.mem_of_getElem? (i := 110) rfl)) rfl
theorem kfn_X5_174 : Cond.fieldLinkNest RX5 174 "MatchingService$MoveLog" "size" "I" "MatchingService" ∈ jNest := jH (jM1 (List.mem_of_getElem? (i := 111) rfl)) rfl
theorem kcl_X5_23 : Cond.classLink RX5 23 RX2 ∈ jAll := jgd (jM1 (List.mem_of_getElem? (i := 119) rfl)) rfl
theorem kin_X2 : Cond.instantiable RX2 6 ∈ jAll := jgd (jM1 (List.mem_of_getElem? (i := 120) rfl)) rfl
theorem kml_X5_25 : Cond.methodLink RX5 25 yX2_init ∈ jAll := jgd (jM1 (List.mem_of_getElem? (i := 121) rfl)) rfl
theorem kim_X2_init : Cond.instanceMethod yX2_init ∈ jAll := jgd (jM1 (List.mem_of_getElem? (i := 122) rfl)) rfl
theorem kco_X2_init : Cond.code yX2_init cX2_init 2 none ∈ jAll := jgd (jM1 (List.mem_of_getElem? (i := 123) rfl)) rfl
theorem kml_X2_3 : Cond.methodLink RX2 3 objectInit ∈ jAll := jgd (jM1 (List.mem_of_getElem? (i := 124) rfl)) rfl
theorem kfl_X2_24 : Cond.fieldLink RX2 24 "MatchingService$PathSearch" "pool" "LMatchingService$Pool;" ∈ jAll := jgd (jM1 (List.mem_of_getElem? (i := 125) rfl)) rfl
theorem kfl_X2_9 : Cond.fieldLink RX2 9 "MatchingService$PathSearch" "successors" "[I" ∈ jAll := jgd (jM1 (List.mem_of_getElem? (i := 126) rfl)) rfl
theorem kfl_X2_15 : Cond.fieldLink RX2 15 "MatchingService$PathSearch" "layer" "[I" ∈ jAll := jgd (jM1 (List.mem_of_getElem? (i := 127) rfl)) rfl
theorem kfl_X2_18 : Cond.fieldLink RX2 18 "MatchingService$PathSearch" "resource" "[I" ∈ jAll := jgd (jM1 (List.mem_of_getElem? (i := 128) rfl)) rfl
theorem kfn_X3_74 : Cond.fieldLinkNest RX3 74 "MatchingService$PathSearch" "resource" "[I" "MatchingService" ∈ jNest := jH (jM1 (List.mem_of_getElem? (i := 129) rfl)) rfl
theorem kfl_X2_21 : Cond.fieldLink RX2 21 "MatchingService$PathSearch" "request" "[I" ∈ jAll := jgd (jM1 (List.mem_of_getElem? (i := 130) rfl)) rfl
theorem kfn_X3_84 : Cond.fieldLinkNest RX3 84 "MatchingService$PathSearch" "request" "[I" "MatchingService" ∈ jNest := jH (jM1 (List.mem_of_getElem? (i := 131) rfl)) rfl
theorem kfl_X2_43 : Cond.fieldLink RX2 43 "MatchingService$PathSearch" "length" "I" ∈ jAll := jgd (jM1 (List.mem_of_getElem? (i := 132) rfl)) rfl
theorem kfn_X3_81 : Cond.fieldLinkNest RX3 81 "MatchingService$PathSearch" "length" "I" "MatchingService" ∈ jNest := jH (jM1 (List.mem_of_getElem? (i := 133) rfl)) rfl
theorem kcl_X5_32 : Cond.classLink RX5 32 RX3 ∈ jAll := jgd (jM1 (List.mem_of_getElem? (i := 147) rfl)) rfl
theorem kin_X3 : Cond.instantiable RX3 4 ∈ jAll := jgd (jM1 (List.mem_of_getElem? (i := 148) rfl)) rfl
theorem kml_X5_34 : Cond.methodLink RX5 34 yX3_init ∈ jAll := jgd (jM1 (List.mem_of_getElem? (i := 149) rfl)) rfl
theorem kim_X3_init : Cond.instanceMethod yX3_init ∈ jAll := jgd (jM1 (List.mem_of_getElem? (i := 150) rfl)) rfl
theorem kco_X3_init : Cond.code yX3_init cX3_init 4 none ∈ jAll := jgd (jM1 (List.mem_of_getElem? (i := 151) rfl)) rfl
theorem kml_X3_3 : Cond.methodLink RX3 3 objectInit ∈ jAll := jgd (jM1 (List.mem_of_getElem? (i := 152) rfl)) rfl
theorem kfl_X3_15 : Cond.fieldLink RX3 15 "MatchingService$Placer" "pool" "LMatchingService$Pool;" ∈ jAll := jgd (jM1 (List.mem_of_getElem? (i := 153) rfl)) rfl
theorem kfl_X3_19 : Cond.fieldLink RX3 19 "MatchingService$Placer" "paths" "LMatchingService$PathSearch;" ∈ jAll := jgd (jM1 (List.mem_of_getElem? (i := 154) rfl)) rfl
theorem kfl_X3_23 : Cond.fieldLink RX3 23 "MatchingService$Placer" "log" "LMatchingService$MoveLog;" ∈ jAll := jgd (jM1 (List.mem_of_getElem? (i := 155) rfl)) rfl
theorem kfl_X3_9 : Cond.fieldLink RX3 9 "MatchingService$Placer" "tried" "[Z" ∈ jAll := jgd (jM1 (List.mem_of_getElem? (i := 156) rfl)) rfl
theorem kac_boolean : Cond.arrayClass .boolean ∈ jAll := jgd (jM1 (List.mem_of_getElem? (i := 166) rfl)) rfl
theorem kcl_X5_41 : Cond.classLink RX5 41 RX0 ∈ jAll := jgd (jM1 (List.mem_of_getElem? (i := 167) rfl)) rfl
theorem kin_X0 : Cond.instantiable RX0 10 ∈ jAll := jgd (jM1 (List.mem_of_getElem? (i := 168) rfl)) rfl
theorem kml_X5_43 : Cond.methodLink RX5 43 yX0_init ∈ jAll := jgd (jM1 (List.mem_of_getElem? (i := 169) rfl)) rfl
theorem kim_X0_init : Cond.instanceMethod yX0_init ∈ jAll := jgd (jM1 (List.mem_of_getElem? (i := 170) rfl)) rfl
theorem kco_X0_init : Cond.code yX0_init cX0_init 2 none ∈ jAll := jgd (jM1 (List.mem_of_getElem? (i := 171) rfl)) rfl
theorem kml_X0_3 : Cond.methodLink RX0 3 objectInit ∈ jAll := jgd (jM1 (List.mem_of_getElem? (i := 172) rfl)) rfl
theorem kfl_X0_37 : Cond.fieldLink RX0 37 "MatchingService$Flow" "pool" "LMatchingService$Pool;" ∈ jAll := jgd (jM1 (List.mem_of_getElem? (i := 173) rfl)) rfl
theorem kfl_X0_9 : Cond.fieldLink RX0 9 "MatchingService$Flow" "node" "[I" ∈ jAll := jgd (jM1 (List.mem_of_getElem? (i := 174) rfl)) rfl
theorem kfl_X0_15 : Cond.fieldLink RX0 15 "MatchingService$Flow" "accepted" "[I" ∈ jAll := jgd (jM1 (List.mem_of_getElem? (i := 175) rfl)) rfl
theorem kfl_X0_18 : Cond.fieldLink RX0 18 "MatchingService$Flow" "load" "[I" ∈ jAll := jgd (jM1 (List.mem_of_getElem? (i := 176) rfl)) rfl
theorem kfl_X0_21 : Cond.fieldLink RX0 21 "MatchingService$Flow" "used" "[I" ∈ jAll := jgd (jM1 (List.mem_of_getElem? (i := 177) rfl)) rfl
theorem kfl_X0_24 : Cond.fieldLink RX0 24 "MatchingService$Flow" "queue" "[I" ∈ jAll := jgd (jM1 (List.mem_of_getElem? (i := 178) rfl)) rfl
theorem kfl_X0_90 : Cond.fieldLink RX0 90 "MatchingService$Flow" "queued" "I" ∈ jAll := jgd (jM1 (List.mem_of_getElem? (i := 179) rfl)) rfl
theorem kfl_X0_27 : Cond.fieldLink RX0 27 "MatchingService$Flow" "seen" "[Z" ∈ jAll := jgd (jM1 (List.mem_of_getElem? (i := 180) rfl)) rfl
theorem kfl_X0_31 : Cond.fieldLink RX0 31 "MatchingService$Flow" "before" "[I" ∈ jAll := jgd (jM1 (List.mem_of_getElem? (i := 181) rfl)) rfl
theorem kfl_X0_34 : Cond.fieldLink RX0 34 "MatchingService$Flow" "carried" "[I" ∈ jAll := jgd (jM1 (List.mem_of_getElem? (i := 182) rfl)) rfl
theorem kfl_X5_10 : Cond.fieldLink RX5 10 "MatchingService" "pool" "LMatchingService$Pool;" ∈ jAll := jgd (jM1 (List.mem_of_getElem? (i := 204) rfl)) rfl
theorem kfl_X5_19 : Cond.fieldLink RX5 19 "MatchingService" "log" "LMatchingService$MoveLog;" ∈ jAll := jgd (jM1 (List.mem_of_getElem? (i := 205) rfl)) rfl
theorem kfl_X5_28 : Cond.fieldLink RX5 28 "MatchingService" "paths" "LMatchingService$PathSearch;" ∈ jAll := jgd (jM1 (List.mem_of_getElem? (i := 206) rfl)) rfl
theorem kfl_X5_37 : Cond.fieldLink RX5 37 "MatchingService" "placer" "LMatchingService$Placer;" ∈ jAll := jgd (jM1 (List.mem_of_getElem? (i := 207) rfl)) rfl
theorem kfl_X5_44 : Cond.fieldLink RX5 44 "MatchingService" "flow" "LMatchingService$Flow;" ∈ jAll := jgd (jM1 (List.mem_of_getElem? (i := 208) rfl)) rfl
theorem kml_L_103 : Cond.methodLink RL 103 yX5_resourceCount ∈ jAll := jgd (jM1 (List.mem_of_getElem? (i := 220) rfl)) rfl
theorem kim_X5_resourceCount : Cond.instanceMethod yX5_resourceCount ∈ jAll := jgd (jM1 (List.mem_of_getElem? (i := 221) rfl)) rfl
theorem kse_X5_resourceCount : Cond.selects RX5 yX5_resourceCount yX5_resourceCount ∈ jAll := jgd (jM1 (List.mem_of_getElem? (i := 222) rfl)) rfl
theorem kco_X5_resourceCount : Cond.code yX5_resourceCount cX5_resourceCount 1 (some .int) ∈ jAll := jgd (jM1 (List.mem_of_getElem? (i := 223) rfl)) rfl
theorem kml_L_107 : Cond.methodLink RL 107 yX5_arrivedCount ∈ jAll := jgd (jM1 (List.mem_of_getElem? (i := 224) rfl)) rfl
theorem kim_X5_arrivedCount : Cond.instanceMethod yX5_arrivedCount ∈ jAll := jgd (jM1 (List.mem_of_getElem? (i := 225) rfl)) rfl
theorem kse_X5_arrivedCount : Cond.selects RX5 yX5_arrivedCount yX5_arrivedCount ∈ jAll := jgd (jM1 (List.mem_of_getElem? (i := 226) rfl)) rfl
theorem kco_X5_arrivedCount : Cond.code yX5_arrivedCount cX5_arrivedCount 1 (some .int) ∈ jAll := jgd (jM1 (List.mem_of_getElem? (i := 227) rfl)) rfl
theorem kml_L_111 : Cond.methodLink RL 111 yX5_assignedCount ∈ jAll := jgd (jM1 (List.mem_of_getElem? (i := 228) rfl)) rfl
theorem kim_X5_assignedCount : Cond.instanceMethod yX5_assignedCount ∈ jAll := jgd (jM1 (List.mem_of_getElem? (i := 229) rfl)) rfl
theorem kse_X5_assignedCount : Cond.selects RX5 yX5_assignedCount yX5_assignedCount ∈ jAll := jgd (jM1 (List.mem_of_getElem? (i := 230) rfl)) rfl
theorem kco_X5_assignedCount : Cond.code yX5_assignedCount cX5_assignedCount 1 (some .int) ∈ jAll := jgd (jM1 (List.mem_of_getElem? (i := 231) rfl)) rfl
theorem kml_X5_145 : Cond.methodLink RX5 145 yX4_countAssigned ∈ jAll := jgd (jM1 (List.mem_of_getElem? (i := 232) rfl)) rfl
theorem kim_X4_countAssigned : Cond.instanceMethod yX4_countAssigned ∈ jAll := jgd (jM1 (List.mem_of_getElem? (i := 233) rfl)) rfl
theorem kse_X4_countAssigned : Cond.selects RX4 yX4_countAssigned yX4_countAssigned ∈ jAll := jgd (jM1 (List.mem_of_getElem? (i := 234) rfl)) rfl
theorem kco_X4_countAssigned : Cond.code yX4_countAssigned cX4_countAssigned 3 (some .int) ∈ jAll := jgd (jM1 (List.mem_of_getElem? (i := 235) rfl)) rfl
theorem kml_L_115 : Cond.methodLink RL 115 yX5_waitingCount ∈ jAll := jgd (jM1 (List.mem_of_getElem? (i := 236) rfl)) rfl
theorem kim_X5_waitingCount : Cond.instanceMethod yX5_waitingCount ∈ jAll := jgd (jM1 (List.mem_of_getElem? (i := 237) rfl)) rfl
theorem kse_X5_waitingCount : Cond.selects RX5 yX5_waitingCount yX5_waitingCount ∈ jAll := jgd (jM1 (List.mem_of_getElem? (i := 238) rfl)) rfl
theorem kco_X5_waitingCount : Cond.code yX5_waitingCount cX5_waitingCount 1 (some .int) ∈ jAll := jgd (jM1 (List.mem_of_getElem? (i := 239) rfl)) rfl
theorem kml_X5_148 : Cond.methodLink RX5 148 yX4_countWaiting ∈ jAll := jgd (jM2 (List.mem_of_getElem? (i := 0) rfl)) rfl
theorem kim_X4_countWaiting : Cond.instanceMethod yX4_countWaiting ∈ jAll := jgd (jM2 (List.mem_of_getElem? (i := 1) rfl)) rfl
theorem kse_X4_countWaiting : Cond.selects RX4 yX4_countWaiting yX4_countWaiting ∈ jAll := jgd (jM2 (List.mem_of_getElem? (i := 2) rfl)) rfl
theorem kco_X4_countWaiting : Cond.code yX4_countWaiting cX4_countWaiting 3 (some .int) ∈ jAll := jgd (jM2 (List.mem_of_getElem? (i := 3) rfl)) rfl
theorem kml_X4_49 : Cond.methodLink RX4 49 yX4_isWaiting ∈ jAll := jgd (jM2 (List.mem_of_getElem? (i := 4) rfl)) rfl
theorem kim_X4_isWaiting : Cond.instanceMethod yX4_isWaiting ∈ jAll := jgd (jM2 (List.mem_of_getElem? (i := 5) rfl)) rfl
theorem kse_X4_isWaiting : Cond.selects RX4 yX4_isWaiting yX4_isWaiting ∈ jAll := jgd (jM2 (List.mem_of_getElem? (i := 6) rfl)) rfl
theorem kco_X4_isWaiting : Cond.code yX4_isWaiting cX4_isWaiting 2 (some .boolean) ∈ jAll := jgd (jM2 (List.mem_of_getElem? (i := 7) rfl)) rfl
theorem kml_L_134 : Cond.methodLink RL 134 yX5_moveCount ∈ jAll := jgd (jM2 (List.mem_of_getElem? (i := 8) rfl)) rfl
theorem kim_X5_moveCount : Cond.instanceMethod yX5_moveCount ∈ jAll := jgd (jM2 (List.mem_of_getElem? (i := 9) rfl)) rfl
theorem kse_X5_moveCount : Cond.selects RX5 yX5_moveCount yX5_moveCount ∈ jAll := jgd (jM2 (List.mem_of_getElem? (i := 10) rfl)) rfl
theorem kco_X5_moveCount : Cond.code yX5_moveCount cX5_moveCount 1 (some .int) ∈ jAll := jgd (jM2 (List.mem_of_getElem? (i := 11) rfl)) rfl
theorem kml_L_147 : Cond.methodLink RL 147 yX5_greatestPossible ∈ jAll := jgd (jM2 (List.mem_of_getElem? (i := 12) rfl)) rfl
theorem kim_X5_greatestPossible : Cond.instanceMethod yX5_greatestPossible ∈ jAll := jgd (jM2 (List.mem_of_getElem? (i := 13) rfl)) rfl
theorem kse_X5_greatestPossible : Cond.selects RX5 yX5_greatestPossible yX5_greatestPossible ∈ jAll := jgd (jM2 (List.mem_of_getElem? (i := 14) rfl)) rfl
theorem kco_X5_greatestPossible : Cond.code yX5_greatestPossible cX5_greatestPossible 1 (some .int) ∈ jAll := jgd (jM2 (List.mem_of_getElem? (i := 15) rfl)) rfl
theorem kml_X5_194 : Cond.methodLink RX5 194 yX0_greatest ∈ jAll := jgd (jM2 (List.mem_of_getElem? (i := 16) rfl)) rfl
theorem kim_X0_greatest : Cond.instanceMethod yX0_greatest ∈ jAll := jgd (jM2 (List.mem_of_getElem? (i := 17) rfl)) rfl
theorem kse_X0_greatest : Cond.selects RX0 yX0_greatest yX0_greatest ∈ jAll := jgd (jM2 (List.mem_of_getElem? (i := 18) rfl)) rfl
theorem kco_X0_greatest : Cond.code yX0_greatest cX0_greatest 4 (some .int) ∈ jAll := jgd (jM2 (List.mem_of_getElem? (i := 19) rfl)) rfl
theorem kml_X0_41 : Cond.methodLink RX0 41 yX0_copyAssignment ∈ jAll := jgd (jM2 (List.mem_of_getElem? (i := 20) rfl)) rfl
theorem kim_X0_copyAssignment : Cond.instanceMethod yX0_copyAssignment ∈ jAll := jgd (jM2 (List.mem_of_getElem? (i := 22) rfl)) rfl
theorem kco_X0_copyAssignment : Cond.code yX0_copyAssignment cX0_copyAssignment 3 none ∈ jAll := jgd (jM2 (List.mem_of_getElem? (i := 23) rfl)) rfl
theorem kml_X0_66 : Cond.methodLink RX0 66 yX0_startOf ∈ jAll := jgd (jM2 (List.mem_of_getElem? (i := 24) rfl)) rfl
theorem kim_X0_startOf : Cond.instanceMethod yX0_startOf ∈ jAll := jgd (jM2 (List.mem_of_getElem? (i := 26) rfl)) rfl
theorem kco_X0_startOf : Cond.code yX0_startOf cX0_startOf 2 (some .int) ∈ jAll := jgd (jM2 (List.mem_of_getElem? (i := 27) rfl)) rfl
theorem kml_X0_74 : Cond.methodLink RX0 74 yX4_isDeparted ∈ jAll := jgd (jM2 (List.mem_of_getElem? (i := 28) rfl)) rfl
theorem kim_X4_isDeparted : Cond.instanceMethod yX4_isDeparted ∈ jAll := jgd (jM2 (List.mem_of_getElem? (i := 29) rfl)) rfl
theorem kse_X4_isDeparted : Cond.selects RX4 yX4_isDeparted yX4_isDeparted ∈ jAll := jgd (jM2 (List.mem_of_getElem? (i := 30) rfl)) rfl
theorem kco_X4_isDeparted : Cond.code yX4_isDeparted cX4_isDeparted 2 (some .boolean) ∈ jAll := jgd (jM2 (List.mem_of_getElem? (i := 31) rfl)) rfl
theorem kml_X0_78 : Cond.methodLink RX0 78 yX4_isAssigned ∈ jAll := jgd (jM2 (List.mem_of_getElem? (i := 32) rfl)) rfl
theorem kim_X4_isAssigned : Cond.instanceMethod yX4_isAssigned ∈ jAll := jgd (jM2 (List.mem_of_getElem? (i := 33) rfl)) rfl
theorem kse_X4_isAssigned : Cond.selects RX4 yX4_isAssigned yX4_isAssigned ∈ jAll := jgd (jM2 (List.mem_of_getElem? (i := 34) rfl)) rfl
theorem kco_X4_isAssigned : Cond.code yX4_isAssigned cX4_isAssigned 2 (some .boolean) ∈ jAll := jgd (jM2 (List.mem_of_getElem? (i := 35) rfl)) rfl
theorem kml_X0_70 : Cond.methodLink RX0 70 yX4_maskOfAll ∈ jAll := jgd (jM2 (List.mem_of_getElem? (i := 36) rfl)) rfl
theorem kim_X4_maskOfAll : Cond.instanceMethod yX4_maskOfAll ∈ jAll := jgd (jM2 (List.mem_of_getElem? (i := 37) rfl)) rfl
theorem kse_X4_maskOfAll : Cond.selects RX4 yX4_maskOfAll yX4_maskOfAll ∈ jAll := jgd (jM2 (List.mem_of_getElem? (i := 38) rfl)) rfl
theorem kco_X4_maskOfAll : Cond.code yX4_maskOfAll cX4_maskOfAll 1 (some .int) ∈ jAll := jgd (jM2 (List.mem_of_getElem? (i := 39) rfl)) rfl
theorem kml_X0_45 : Cond.methodLink RX0 45 yX4_countAssigned ∈ jAll := jgd (jM2 (List.mem_of_getElem? (i := 40) rfl)) rfl
theorem kml_X0_55 : Cond.methodLink RX0 55 yX0_augment ∈ jAll := jgd (jM2 (List.mem_of_getElem? (i := 41) rfl)) rfl
theorem kim_X0_augment : Cond.instanceMethod yX0_augment ∈ jAll := jgd (jM2 (List.mem_of_getElem? (i := 43) rfl)) rfl
theorem kco_X0_augment : Cond.code yX0_augment cX0_augment 3 (some .boolean) ∈ jAll := jgd (jM2 (List.mem_of_getElem? (i := 44) rfl)) rfl
theorem kml_X0_87 : Cond.methodLink RX0 87 yX0_startAtGroups ∈ jAll := jgd (jM2 (List.mem_of_getElem? (i := 45) rfl)) rfl
theorem kim_X0_startAtGroups : Cond.instanceMethod yX0_startAtGroups ∈ jAll := jgd (jM2 (List.mem_of_getElem? (i := 47) rfl)) rfl
theorem kco_X0_startAtGroups : Cond.code yX0_startAtGroups cX0_startAtGroups 2 none ∈ jAll := jgd (jM2 (List.mem_of_getElem? (i := 48) rfl)) rfl
theorem kml_X0_102 : Cond.methodLink RX0 102 yX0_reach ∈ jAll := jgd (jM2 (List.mem_of_getElem? (i := 49) rfl)) rfl
theorem kim_X0_reach : Cond.instanceMethod yX0_reach ∈ jAll := jgd (jM2 (List.mem_of_getElem? (i := 51) rfl)) rfl
theorem kco_X0_reach : Cond.code yX0_reach cX0_reach 4 none ∈ jAll := jgd (jM2 (List.mem_of_getElem? (i := 52) rfl)) rfl
theorem kml_X0_93 : Cond.methodLink RX0 93 yX0_leave ∈ jAll := jgd (jM2 (List.mem_of_getElem? (i := 53) rfl)) rfl
theorem kim_X0_leave : Cond.instanceMethod yX0_leave ∈ jAll := jgd (jM2 (List.mem_of_getElem? (i := 55) rfl)) rfl
theorem kco_X0_leave : Cond.code yX0_leave cX0_leave 4 (some .int) ∈ jAll := jgd (jM2 (List.mem_of_getElem? (i := 56) rfl)) rfl
theorem kml_X0_106 : Cond.methodLink RX0 106 yX0_leaveWith ∈ jAll := jgd (jM2 (List.mem_of_getElem? (i := 57) rfl)) rfl
theorem kim_X0_leaveWith : Cond.instanceMethod yX0_leaveWith ∈ jAll := jgd (jM2 (List.mem_of_getElem? (i := 59) rfl)) rfl
theorem kco_X0_leaveWith : Cond.code yX0_leaveWith cX0_leaveWith 4 (some .int) ∈ jAll := jgd (jM2 (List.mem_of_getElem? (i := 60) rfl)) rfl
theorem kmn_X0_110 : Cond.methodLinkNest RX0 110 yX5_hasBit "MatchingService" ∈ jNest := jH (jM2 (List.mem_of_getElem? (i := 61) rfl)) rfl
theorem kst_X5_hasBit : Cond.static yX5_hasBit ∈ jAll := jgd (jM2 (List.mem_of_getElem? (i := 62) rfl)) rfl
theorem kco_X5_hasBit : Cond.code yX5_hasBit cX5_hasBit 2 (some .boolean) ∈ jAll := jgd (jM2 (List.mem_of_getElem? (i := 63) rfl)) rfl
theorem kml_X0_96 : Cond.methodLink RX0 96 yX0_shiftAlong ∈ jAll := jgd (jM2 (List.mem_of_getElem? (i := 64) rfl)) rfl
theorem kim_X0_shiftAlong : Cond.instanceMethod yX0_shiftAlong ∈ jAll := jgd (jM2 (List.mem_of_getElem? (i := 66) rfl)) rfl
theorem kco_X0_shiftAlong : Cond.code yX0_shiftAlong cX0_shiftAlong 4 none ∈ jAll := jgd (jM2 (List.mem_of_getElem? (i := 67) rfl)) rfl
theorem kml_L_154 : Cond.methodLink RL 154 yX5_fairness ∈ jAll := jgd (jM2 (List.mem_of_getElem? (i := 68) rfl)) rfl
theorem kim_X5_fairness : Cond.instanceMethod yX5_fairness ∈ jAll := jgd (jM2 (List.mem_of_getElem? (i := 69) rfl)) rfl
theorem kse_X5_fairness : Cond.selects RX5 yX5_fairness yX5_fairness ∈ jAll := jgd (jM2 (List.mem_of_getElem? (i := 70) rfl)) rfl
theorem kco_X5_fairness : Cond.code yX5_fairness cX5_fairness 8 (some .double) ∈ jAll := jgd (jM2 (List.mem_of_getElem? (i := 71) rfl)) rfl
theorem kcn_X5_200 : Cond.constantDouble RX5 200 (4616189618054758400 : UInt64) ∈ jAll := jgd (jM2 (List.mem_of_getElem? (i := 72) rfl)) rfl
theorem kml_L_159 : Cond.methodLink RL 159 yX5_digest ∈ jAll := jgd (jM2 (List.mem_of_getElem? (i := 73) rfl)) rfl
theorem kim_X5_digest : Cond.instanceMethod yX5_digest ∈ jAll := jgd (jM2 (List.mem_of_getElem? (i := 74) rfl)) rfl
theorem kse_X5_digest : Cond.selects RX5 yX5_digest yX5_digest ∈ jAll := jgd (jM2 (List.mem_of_getElem? (i := 75) rfl)) rfl
theorem kco_X5_digest : Cond.code yX5_digest cX5_digest 4 (some .long) ∈ jAll := jgd (jM2 (List.mem_of_getElem? (i := 76) rfl)) rfl
theorem kcn_X5_202 : Cond.constantLong RX5 202 (43 : Int64) ∈ jAll := jgd (jM2 (List.mem_of_getElem? (i := 77) rfl)) rfl
theorem kml_X5_204 : Cond.methodLink RX5 204 yX5_mix ∈ jAll := jgd (jM2 (List.mem_of_getElem? (i := 78) rfl)) rfl
theorem kst_X5_mix : Cond.static yX5_mix ∈ jAll := jgd (jM2 (List.mem_of_getElem? (i := 79) rfl)) rfl
theorem kco_X5_mix : Cond.code yX5_mix cX5_mix 3 (some .long) ∈ jAll := jgd (jM2 (List.mem_of_getElem? (i := 80) rfl)) rfl
theorem kcn_X5_230 : Cond.constantLong RX5 230 (31 : Int64) ∈ jAll := jgd (jM2 (List.mem_of_getElem? (i := 81) rfl)) rfl
theorem kml_X5_160 : Cond.methodLink RX5 160 yX4_stateNumber ∈ jAll := jgd (jM2 (List.mem_of_getElem? (i := 82) rfl)) rfl
theorem kim_X4_stateNumber : Cond.instanceMethod yX4_stateNumber ∈ jAll := jgd (jM2 (List.mem_of_getElem? (i := 83) rfl)) rfl
theorem kse_X4_stateNumber : Cond.selects RX4 yX4_stateNumber yX4_stateNumber ∈ jAll := jgd (jM2 (List.mem_of_getElem? (i := 84) rfl)) rfl
theorem kco_X4_stateNumber : Cond.code yX4_stateNumber cX4_stateNumber 2 (some .int) ∈ jAll := jgd (jM2 (List.mem_of_getElem? (i := 85) rfl)) rfl
theorem kml_X4_53 : Cond.methodLink RX4 53 yX4_isAssigned ∈ jAll := jgd (jM2 (List.mem_of_getElem? (i := 86) rfl)) rfl
theorem kml_X5_142 : Cond.methodLink RX5 142 yX4_isAssigned ∈ jAll := jgd (jM2 (List.mem_of_getElem? (i := 87) rfl)) rfl
theorem kml_L_73 : Cond.methodLink RL 73 yL_addResource ∈ jAll := jgd (jM2 (List.mem_of_getElem? (i := 88) rfl)) rfl
theorem kst_L_addResource : Cond.static yL_addResource ∈ jAll := jgd (jM2 (List.mem_of_getElem? (i := 89) rfl)) rfl
theorem kco_L_addResource : Cond.codeWith yL_addResource cL_addResource 4 (some .int) [(0, 9, 12, 13), (0, 9, 15, 15)] ∈ jAll := jgd (jM2 (List.mem_of_getElem? (i := 90) rfl)) rfl
theorem kcl_L_13 : Cond.classLink RL 13 "java/lang/IllegalArgumentException" ∈ jAll := jgd (jM2 (List.mem_of_getElem? (i := 91) rfl)) rfl
theorem kcl_L_15 : Cond.classLink RL 15 "java/lang/IllegalStateException" ∈ jAll := jgd (jM2 (List.mem_of_getElem? (i := 92) rfl)) rfl
theorem kml_L_7 : Cond.methodLink RL 7 yX5_addResource ∈ jAll := jgd (jM2 (List.mem_of_getElem? (i := 93) rfl)) rfl
theorem kim_X5_addResource : Cond.instanceMethod yX5_addResource ∈ jAll := jgd (jM2 (List.mem_of_getElem? (i := 94) rfl)) rfl
theorem kse_X5_addResource : Cond.selects RX5 yX5_addResource yX5_addResource ∈ jAll := jgd (jM2 (List.mem_of_getElem? (i := 95) rfl)) rfl
theorem kco_X5_addResource : Cond.code yX5_addResource cX5_addResource 3 (some .int) ∈ jAll := jgd (jM2 (List.mem_of_getElem? (i := 96) rfl)) rfl
theorem kml_X5_48 : Cond.methodLink RX5 48 yX5_isWithin ∈ jAll := jgd (jM2 (List.mem_of_getElem? (i := 97) rfl)) rfl
theorem kst_X5_isWithin : Cond.static yX5_isWithin ∈ jAll := jgd (jM2 (List.mem_of_getElem? (i := 98) rfl)) rfl
theorem kco_X5_isWithin : Cond.code yX5_isWithin cX5_isWithin 3 (some .boolean) ∈ jAll := jgd (jM2 (List.mem_of_getElem? (i := 99) rfl)) rfl
theorem kcl_X5_52 : Cond.classLink RX5 52 "java/lang/IllegalArgumentException" ∈ jAll := jgd (jM2 (List.mem_of_getElem? (i := 100) rfl)) rfl
theorem kin__java_lang_IllegalArgumentException_ : Cond.instantiable "java/lang/IllegalArgumentException" 6 ∈ jAll := jgd (jM2 (List.mem_of_getElem? (i := 101) rfl)) rfl
theorem kfl__java_lang_Throwable__198 : Cond.fieldLink "java/lang/Throwable" 198 "java/lang/Throwable" "backtrace" "Ljava/lang/Object;" ∈ jAll := jgd (jM2 (List.mem_of_getElem? (i := 121) rfl)) rfl
theorem kim_Throwable__init___V : Cond.instanceMethod ⟨"java/lang/Throwable", "<init>", "()V"⟩ ∈ jAll := jgd (jM2 (List.mem_of_getElem? (i := 123) rfl)) rfl
theorem kml__java_lang_Throwable__1 : Cond.methodLink "java/lang/Throwable" 1 objectInit ∈ jAll := jgd (jM2 (List.mem_of_getElem? (i := 125) rfl)) rfl
theorem kfl__java_lang_Throwable__13 : Cond.fieldLink "java/lang/Throwable" 13 "java/lang/Throwable" "UNASSIGNED_STACK" "[Ljava/lang/StackTraceElement;" ∈ jAll := jgd (jM2 (List.mem_of_getElem? (i := 126) rfl)) rfl
theorem kfl__java_lang_Throwable__20 : Cond.fieldLink "java/lang/Throwable" 20 "java/lang/Throwable" "SUPPRESSED_SENTINEL" "Ljava/util/List;" ∈ jAll := jgd (jM2 (List.mem_of_getElem? (i := 128) rfl)) rfl
theorem kml__java_lang_Throwable__27 : Cond.methodLink "java/lang/Throwable" 27 ⟨"java/lang/Throwable", "fillInStackTrace", "()Ljava/lang/Throwable;"⟩ ∈ jAll := jgd (jM2 (List.mem_of_getElem? (i := 130) rfl)) rfl
theorem kim_Throwable_fillInStackTrace__Ljava_lang_Throwable_ : Cond.instanceMethod ⟨"java/lang/Throwable", "fillInStackTrace", "()Ljava/lang/Throwable;"⟩ ∈ jAll := jgd (jM2 (List.mem_of_getElem? (i := 131) rfl)) rfl
theorem kml__java_lang_Throwable__202 : Cond.methodLink "java/lang/Throwable" 202 ⟨"java/lang/Throwable", "fillInStackTrace", "(I)Ljava/lang/Throwable;"⟩ ∈ jAll := jgd (jM2 (List.mem_of_getElem? (i := 137) rfl)) rfl
theorem kim_Throwable_fillInStackTrace_I_Ljava_lang_Throwable_ : Cond.instanceMethod ⟨"java/lang/Throwable", "fillInStackTrace", "(I)Ljava/lang/Throwable;"⟩ ∈ jAll := jgd (jM2 (List.mem_of_getElem? (i := 139) rfl)) rfl
theorem kin__java_lang_Throwable_ : Cond.instantiable "java/lang/Throwable" 6 ∈ jAll := jgd (jM2 (List.mem_of_getElem? (i := 140) rfl)) rfl
theorem kml_X5_56 : Cond.methodLink RX5 56 ⟨"java/lang/IllegalArgumentException", "<init>", "(Ljava/lang/String;)V"⟩ ∈ jAll := jgd (jM2 (List.mem_of_getElem? (i := 143) rfl)) rfl
theorem kim_IllegalArgumentException__init__Ljava_lang_String__V : Cond.instanceMethod ⟨"java/lang/IllegalArgumentException", "<init>", "(Ljava/lang/String;)V"⟩ ∈ jAll := jgd (jM2 (List.mem_of_getElem? (i := 144) rfl)) rfl
theorem kml__java_lang_IllegalArgumentException__7 : Cond.methodLink "java/lang/IllegalArgumentException" 7 ⟨"java/lang/RuntimeException", "<init>", "(Ljava/lang/String;)V"⟩ ∈ jAll := jgd (jM2 (List.mem_of_getElem? (i := 146) rfl)) rfl
theorem kim_RuntimeException__init__Ljava_lang_String__V : Cond.instanceMethod ⟨"java/lang/RuntimeException", "<init>", "(Ljava/lang/String;)V"⟩ ∈ jAll := jgd (jM2 (List.mem_of_getElem? (i := 147) rfl)) rfl
theorem kml__java_lang_RuntimeException__7 : Cond.methodLink "java/lang/RuntimeException" 7 ⟨"java/lang/Exception", "<init>", "(Ljava/lang/String;)V"⟩ ∈ jAll := jgd (jM2 (List.mem_of_getElem? (i := 149) rfl)) rfl
theorem kim_Exception__init__Ljava_lang_String__V : Cond.instanceMethod ⟨"java/lang/Exception", "<init>", "(Ljava/lang/String;)V"⟩ ∈ jAll := jgd (jM2 (List.mem_of_getElem? (i := 150) rfl)) rfl
theorem kml__java_lang_Exception__7 : Cond.methodLink "java/lang/Exception" 7 ⟨"java/lang/Throwable", "<init>", "(Ljava/lang/String;)V"⟩ ∈ jAll := jgd (jM2 (List.mem_of_getElem? (i := 152) rfl)) rfl
theorem kim_Throwable__init__Ljava_lang_String__V : Cond.instanceMethod ⟨"java/lang/Throwable", "<init>", "(Ljava/lang/String;)V"⟩ ∈ jAll := jgd (jM2 (List.mem_of_getElem? (i := 153) rfl)) rfl
theorem kfl__java_lang_Throwable__31 : Cond.fieldLink "java/lang/Throwable" 31 "java/lang/Throwable" "detailMessage" "Ljava/lang/String;" ∈ jAll := jgd (jM2 (List.mem_of_getElem? (i := 156) rfl)) rfl
theorem kfl__java_lang_Throwable__7 : Cond.fieldLink "java/lang/Throwable" 7 "java/lang/Throwable" "cause" "Ljava/lang/Throwable;" ∈ jAll := jgd (jM2 (List.mem_of_getElem? (i := 157) rfl)) rfl
theorem kfl__java_lang_Throwable__17 : Cond.fieldLink "java/lang/Throwable" 17 "java/lang/Throwable" "stackTrace" "[Ljava/lang/StackTraceElement;" ∈ jAll := jgd (jM2 (List.mem_of_getElem? (i := 158) rfl)) rfl
theorem kfl__java_lang_Throwable__24 : Cond.fieldLink "java/lang/Throwable" 24 "java/lang/Throwable" "suppressedExceptions" "Ljava/util/List;" ∈ jAll := jgd (jM2 (List.mem_of_getElem? (i := 159) rfl)) rfl
theorem kac_byte : Cond.arrayClass .byte ∈ jAll := jgd (jM2 (List.mem_of_getElem? (i := 168) rfl)) rfl
theorem kcl_X5_63 : Cond.classLink RX5 63 "java/lang/IllegalStateException" ∈ jAll := jgd (jM2 (List.mem_of_getElem? (i := 169) rfl)) rfl
theorem kin__java_lang_IllegalStateException_ : Cond.instantiable "java/lang/IllegalStateException" 6 ∈ jAll := jgd (jM2 (List.mem_of_getElem? (i := 170) rfl)) rfl
theorem kml_X5_67 : Cond.methodLink RX5 67 ⟨"java/lang/IllegalStateException", "<init>", "(Ljava/lang/String;)V"⟩ ∈ jAll := jgd (jM2 (List.mem_of_getElem? (i := 179) rfl)) rfl
theorem kim_IllegalStateException__init__Ljava_lang_String__V : Cond.instanceMethod ⟨"java/lang/IllegalStateException", "<init>", "(Ljava/lang/String;)V"⟩ ∈ jAll := jgd (jM2 (List.mem_of_getElem? (i := 180) rfl)) rfl
theorem kml__java_lang_IllegalStateException__7 : Cond.methodLink "java/lang/IllegalStateException" 7 ⟨"java/lang/RuntimeException", "<init>", "(Ljava/lang/String;)V"⟩ ∈ jAll := jgd (jM2 (List.mem_of_getElem? (i := 182) rfl)) rfl
theorem kml_X5_68 : Cond.methodLink RX5 68 yX1_clear ∈ jAll := jgd (jM2 (List.mem_of_getElem? (i := 185) rfl)) rfl
theorem kim_X1_clear : Cond.instanceMethod yX1_clear ∈ jAll := jgd (jM2 (List.mem_of_getElem? (i := 186) rfl)) rfl
theorem kse_X1_clear : Cond.selects RX1 yX1_clear yX1_clear ∈ jAll := jgd (jM2 (List.mem_of_getElem? (i := 187) rfl)) rfl
theorem kco_X1_clear : Cond.code yX1_clear cX1_clear 1 none ∈ jAll := jgd (jM2 (List.mem_of_getElem? (i := 188) rfl)) rfl
theorem kml_X5_71 : Cond.methodLink RX5 71 yX4_openResource ∈ jAll := jgd (jM2 (List.mem_of_getElem? (i := 189) rfl)) rfl
theorem kim_X4_openResource : Cond.instanceMethod yX4_openResource ∈ jAll := jgd (jM2 (List.mem_of_getElem? (i := 190) rfl)) rfl
theorem kse_X4_openResource : Cond.selects RX4 yX4_openResource yX4_openResource ∈ jAll := jgd (jM2 (List.mem_of_getElem? (i := 191) rfl)) rfl
theorem kco_X4_openResource : Cond.code yX4_openResource cX4_openResource 3 (some .int) ∈ jAll := jgd (jM2 (List.mem_of_getElem? (i := 192) rfl)) rfl
theorem kml_X5_75 : Cond.methodLink RX5 75 yX3_runOnce ∈ jAll := jgd (jM2 (List.mem_of_getElem? (i := 193) rfl)) rfl
theorem kim_X3_runOnce : Cond.instanceMethod yX3_runOnce ∈ jAll := jgd (jM2 (List.mem_of_getElem? (i := 194) rfl)) rfl
theorem kse_X3_runOnce : Cond.selects RX3 yX3_runOnce yX3_runOnce ∈ jAll := jgd (jM2 (List.mem_of_getElem? (i := 195) rfl)) rfl
theorem kco_X3_runOnce : Cond.code yX3_runOnce cX3_runOnce 4 (some .int) ∈ jAll := jgd (jM2 (List.mem_of_getElem? (i := 196) rfl)) rfl
theorem kml_X3_33 : Cond.methodLink RX3 33 yX3_nextToTry ∈ jAll := jgd (jM2 (List.mem_of_getElem? (i := 197) rfl)) rfl
theorem kim_X3_nextToTry : Cond.instanceMethod yX3_nextToTry ∈ jAll := jgd (jM2 (List.mem_of_getElem? (i := 199) rfl)) rfl
theorem kco_X3_nextToTry : Cond.code yX3_nextToTry cX3_nextToTry 3 (some .int) ∈ jAll := jgd (jM2 (List.mem_of_getElem? (i := 200) rfl)) rfl
theorem kml_X3_41 : Cond.methodLink RX3 41 yX4_isWaiting ∈ jAll := jgd (jM2 (List.mem_of_getElem? (i := 201) rfl)) rfl
theorem kml_X3_48 : Cond.methodLink RX3 48 yX3_isServedBefore ∈ jAll := jgd (jM2 (List.mem_of_getElem? (i := 202) rfl)) rfl
theorem kim_X3_isServedBefore : Cond.instanceMethod yX3_isServedBefore ∈ jAll := jgd (jM2 (List.mem_of_getElem? (i := 204) rfl)) rfl
theorem kco_X3_isServedBefore : Cond.code yX3_isServedBefore cX3_isServedBefore 5 (some .boolean) ∈ jAll := jgd (jM2 (List.mem_of_getElem? (i := 205) rfl)) rfl
theorem kml_X3_37 : Cond.methodLink RX3 37 yX3_tryToPlace ∈ jAll := jgd (jM2 (List.mem_of_getElem? (i := 206) rfl)) rfl
theorem kim_X3_tryToPlace : Cond.instanceMethod yX3_tryToPlace ∈ jAll := jgd (jM2 (List.mem_of_getElem? (i := 207) rfl)) rfl
theorem kse_X3_tryToPlace : Cond.selects RX3 yX3_tryToPlace yX3_tryToPlace ∈ jAll := jgd (jM2 (List.mem_of_getElem? (i := 208) rfl)) rfl
theorem kco_X3_tryToPlace : Cond.code yX3_tryToPlace cX3_tryToPlace 3 (some .boolean) ∈ jAll := jgd (jM2 (List.mem_of_getElem? (i := 209) rfl)) rfl
theorem kml_X3_58 : Cond.methodLink RX3 58 yX4_groupHasRoom ∈ jAll := jgd (jM2 (List.mem_of_getElem? (i := 210) rfl)) rfl
theorem kim_X4_groupHasRoom : Cond.instanceMethod yX4_groupHasRoom ∈ jAll := jgd (jM2 (List.mem_of_getElem? (i := 211) rfl)) rfl
theorem kse_X4_groupHasRoom : Cond.selects RX4 yX4_groupHasRoom yX4_groupHasRoom ∈ jAll := jgd (jM2 (List.mem_of_getElem? (i := 212) rfl)) rfl
theorem kco_X4_groupHasRoom : Cond.code yX4_groupHasRoom cX4_groupHasRoom 2 (some .boolean) ∈ jAll := jgd (jM2 (List.mem_of_getElem? (i := 213) rfl)) rfl
theorem kml_X3_61 : Cond.methodLink RX3 61 yX2_search ∈ jAll := jgd (jM2 (List.mem_of_getElem? (i := 214) rfl)) rfl
theorem kim_X2_search : Cond.instanceMethod yX2_search ∈ jAll := jgd (jM2 (List.mem_of_getElem? (i := 215) rfl)) rfl
theorem kse_X2_search : Cond.selects RX2 yX2_search yX2_search ∈ jAll := jgd (jM2 (List.mem_of_getElem? (i := 216) rfl)) rfl
theorem kco_X2_search : Cond.code yX2_search cX2_search 2 (some .int) ∈ jAll := jgd (jM2 (List.mem_of_getElem? (i := 217) rfl)) rfl
theorem kml_X2_28 : Cond.methodLink RX2 28 yX2_collectSuccessors ∈ jAll := jgd (jM2 (List.mem_of_getElem? (i := 218) rfl)) rfl
theorem kim_X2_collectSuccessors : Cond.instanceMethod yX2_collectSuccessors ∈ jAll := jgd (jM2 (List.mem_of_getElem? (i := 220) rfl)) rfl
theorem kco_X2_collectSuccessors : Cond.code yX2_collectSuccessors cX2_collectSuccessors 2 none ∈ jAll := jgd (jM2 (List.mem_of_getElem? (i := 221) rfl)) rfl
theorem kml_X2_57 : Cond.methodLink RX2 57 yX4_canBeMoved ∈ jAll := jgd (jM2 (List.mem_of_getElem? (i := 222) rfl)) rfl
theorem kim_X4_canBeMoved : Cond.instanceMethod yX4_canBeMoved ∈ jAll := jgd (jM2 (List.mem_of_getElem? (i := 223) rfl)) rfl
theorem kse_X4_canBeMoved : Cond.selects RX4 yX4_canBeMoved yX4_canBeMoved ∈ jAll := jgd (jM2 (List.mem_of_getElem? (i := 224) rfl)) rfl
theorem kco_X4_canBeMoved : Cond.code yX4_canBeMoved cX4_canBeMoved 2 (some .boolean) ∈ jAll := jgd (jM2 (List.mem_of_getElem? (i := 225) rfl)) rfl
theorem kml_X2_31 : Cond.methodLink RX2 31 yX2_buildLayers ∈ jAll := jgd (jM2 (List.mem_of_getElem? (i := 226) rfl)) rfl
theorem kim_X2_buildLayers : Cond.instanceMethod yX2_buildLayers ∈ jAll := jgd (jM2 (List.mem_of_getElem? (i := 228) rfl)) rfl
theorem kco_X2_buildLayers : Cond.code yX2_buildLayers cX2_buildLayers 3 none ∈ jAll := jgd (jM2 (List.mem_of_getElem? (i := 229) rfl)) rfl
theorem kml_X2_63 : Cond.methodLink RX2 63 yX4_resourceHasRoom ∈ jAll := jgd (jM2 (List.mem_of_getElem? (i := 230) rfl)) rfl
theorem kim_X4_resourceHasRoom : Cond.instanceMethod yX4_resourceHasRoom ∈ jAll := jgd (jM2 (List.mem_of_getElem? (i := 231) rfl)) rfl
theorem kse_X4_resourceHasRoom : Cond.selects RX4 yX4_resourceHasRoom yX4_resourceHasRoom ∈ jAll := jgd (jM2 (List.mem_of_getElem? (i := 232) rfl)) rfl
theorem kco_X4_resourceHasRoom : Cond.code yX4_resourceHasRoom cX4_resourceHasRoom 2 (some .boolean) ∈ jAll := jgd (jM2 (List.mem_of_getElem? (i := 233) rfl)) rfl
theorem kml_X2_66 : Cond.methodLink RX2 66 yX2_leadingTo ∈ jAll := jgd (jM2 (List.mem_of_getElem? (i := 234) rfl)) rfl
theorem kim_X2_leadingTo : Cond.instanceMethod yX2_leadingTo ∈ jAll := jgd (jM2 (List.mem_of_getElem? (i := 236) rfl)) rfl
theorem kco_X2_leadingTo : Cond.code yX2_leadingTo cX2_leadingTo 4 (some .int) ∈ jAll := jgd (jM2 (List.mem_of_getElem? (i := 237) rfl)) rfl
theorem kml_X2_39 : Cond.methodLink RX2 39 yX2_shortestFrom ∈ jAll := jgd (jM2 (List.mem_of_getElem? (i := 238) rfl)) rfl
theorem kim_X2_shortestFrom : Cond.instanceMethod yX2_shortestFrom ∈ jAll := jgd (jM3 (List.mem_of_getElem? (i := 0) rfl)) rfl
theorem kco_X2_shortestFrom : Cond.code yX2_shortestFrom cX2_shortestFrom 3 (some .int) ∈ jAll := jgd (jM3 (List.mem_of_getElem? (i := 1) rfl)) rfl
theorem kml_X2_47 : Cond.methodLink RX2 47 yX2_trace ∈ jAll := jgd (jM3 (List.mem_of_getElem? (i := 2) rfl)) rfl
theorem kim_X2_trace : Cond.instanceMethod yX2_trace ∈ jAll := jgd (jM3 (List.mem_of_getElem? (i := 4) rfl)) rfl
theorem kco_X2_trace : Cond.code yX2_trace cX2_trace 6 (some .boolean) ∈ jAll := jgd (jM3 (List.mem_of_getElem? (i := 5) rfl)) rfl
theorem kmn_X2_69 : Cond.methodLinkNest RX2 69 yX5_lowestResource "MatchingService" ∈ jNest := jH (jM3 (List.mem_of_getElem? (i := 6) rfl)) rfl
theorem kst_X5_lowestResource : Cond.static yX5_lowestResource ∈ jAll := jgd (jM3 (List.mem_of_getElem? (i := 7) rfl)) rfl
theorem kco_X5_lowestResource : Cond.code yX5_lowestResource cX5_lowestResource 2 (some .int) ∈ jAll := jgd (jM3 (List.mem_of_getElem? (i := 8) rfl)) rfl
theorem kml_X5_226 : Cond.methodLink RX5 226 yX5_hasBit ∈ jAll := jgd (jM3 (List.mem_of_getElem? (i := 9) rfl)) rfl
theorem kml_X2_72 : Cond.methodLink RX2 72 yX2_firstMovable ∈ jAll := jgd (jM3 (List.mem_of_getElem? (i := 10) rfl)) rfl
theorem kim_X2_firstMovable : Cond.instanceMethod yX2_firstMovable ∈ jAll := jgd (jM3 (List.mem_of_getElem? (i := 12) rfl)) rfl
theorem kco_X2_firstMovable : Cond.code yX2_firstMovable cX2_firstMovable 4 (some .int) ∈ jAll := jgd (jM3 (List.mem_of_getElem? (i := 13) rfl)) rfl
theorem kml_X3_70 : Cond.methodLink RX3 70 yX3_placeAlongPath ∈ jAll := jgd (jM3 (List.mem_of_getElem? (i := 14) rfl)) rfl
theorem kim_X3_placeAlongPath : Cond.instanceMethod yX3_placeAlongPath ∈ jAll := jgd (jM3 (List.mem_of_getElem? (i := 16) rfl)) rfl
theorem kco_X3_placeAlongPath : Cond.code yX3_placeAlongPath cX3_placeAlongPath 5 none ∈ jAll := jgd (jM3 (List.mem_of_getElem? (i := 17) rfl)) rfl
theorem kml_X3_77 : Cond.methodLink RX3 77 yX4_assign ∈ jAll := jgd (jM3 (List.mem_of_getElem? (i := 18) rfl)) rfl
theorem kim_X4_assign : Cond.instanceMethod yX4_assign ∈ jAll := jgd (jM3 (List.mem_of_getElem? (i := 19) rfl)) rfl
theorem kse_X4_assign : Cond.selects RX4 yX4_assign yX4_assign ∈ jAll := jgd (jM3 (List.mem_of_getElem? (i := 20) rfl)) rfl
theorem kco_X4_assign : Cond.code yX4_assign cX4_assign 3 none ∈ jAll := jgd (jM3 (List.mem_of_getElem? (i := 21) rfl)) rfl
theorem kml_X3_87 : Cond.methodLink RX3 87 yX4_move ∈ jAll := jgd (jM3 (List.mem_of_getElem? (i := 22) rfl)) rfl
theorem kim_X4_move : Cond.instanceMethod yX4_move ∈ jAll := jgd (jM3 (List.mem_of_getElem? (i := 23) rfl)) rfl
theorem kse_X4_move : Cond.selects RX4 yX4_move yX4_move ∈ jAll := jgd (jM3 (List.mem_of_getElem? (i := 24) rfl)) rfl
theorem kco_X4_move : Cond.code yX4_move cX4_move 3 none ∈ jAll := jgd (jM3 (List.mem_of_getElem? (i := 25) rfl)) rfl
theorem kml_X4_59 : Cond.methodLink RX4 59 yX4_putBack ∈ jAll := jgd (jM3 (List.mem_of_getElem? (i := 26) rfl)) rfl
theorem kim_X4_putBack : Cond.instanceMethod yX4_putBack ∈ jAll := jgd (jM3 (List.mem_of_getElem? (i := 27) rfl)) rfl
theorem kse_X4_putBack : Cond.selects RX4 yX4_putBack yX4_putBack ∈ jAll := jgd (jM3 (List.mem_of_getElem? (i := 28) rfl)) rfl
theorem kco_X4_putBack : Cond.code yX4_putBack cX4_putBack 2 none ∈ jAll := jgd (jM3 (List.mem_of_getElem? (i := 29) rfl)) rfl
theorem kml_X4_67 : Cond.methodLink RX4 67 yX4_assign ∈ jAll := jgd (jM3 (List.mem_of_getElem? (i := 30) rfl)) rfl
theorem kml_X3_90 : Cond.methodLink RX3 90 yX1_add ∈ jAll := jgd (jM3 (List.mem_of_getElem? (i := 31) rfl)) rfl
theorem kim_X1_add : Cond.instanceMethod yX1_add ∈ jAll := jgd (jM3 (List.mem_of_getElem? (i := 32) rfl)) rfl
theorem kse_X1_add : Cond.selects RX1 yX1_add yX1_add ∈ jAll := jgd (jM3 (List.mem_of_getElem? (i := 33) rfl)) rfl
theorem kco_X1_add : Cond.code yX1_add cX1_add 3 none ∈ jAll := jgd (jM3 (List.mem_of_getElem? (i := 34) rfl)) rfl
theorem kml_L_83 : Cond.methodLink RL 83 yL_setCapacity ∈ jAll := jgd (jM3 (List.mem_of_getElem? (i := 35) rfl)) rfl
theorem kst_L_setCapacity : Cond.static yL_setCapacity ∈ jAll := jgd (jM3 (List.mem_of_getElem? (i := 36) rfl)) rfl
theorem kco_L_setCapacity : Cond.codeWith yL_setCapacity cL_setCapacity 5 (some .int) [(0, 10, 13, 21), (0, 10, 17, 13)] ∈ jAll := jgd (jM3 (List.mem_of_getElem? (i := 37) rfl)) rfl
theorem kcl_L_21 : Cond.classLink RL 21 "java/lang/IndexOutOfBoundsException" ∈ jAll := jgd (jM3 (List.mem_of_getElem? (i := 38) rfl)) rfl
theorem kml_L_17 : Cond.methodLink RL 17 yX5_setCapacity ∈ jAll := jgd (jM3 (List.mem_of_getElem? (i := 39) rfl)) rfl
theorem kim_X5_setCapacity : Cond.instanceMethod yX5_setCapacity ∈ jAll := jgd (jM3 (List.mem_of_getElem? (i := 40) rfl)) rfl
theorem kse_X5_setCapacity : Cond.selects RX5 yX5_setCapacity yX5_setCapacity ∈ jAll := jgd (jM3 (List.mem_of_getElem? (i := 41) rfl)) rfl
theorem kco_X5_setCapacity : Cond.code yX5_setCapacity cX5_setCapacity 4 (some .int) ∈ jAll := jgd (jM3 (List.mem_of_getElem? (i := 42) rfl)) rfl
theorem kml_X5_79 : Cond.methodLink RX5 79 yX5_requireResource ∈ jAll := jgd (jM3 (List.mem_of_getElem? (i := 43) rfl)) rfl
theorem kim_X5_requireResource : Cond.instanceMethod yX5_requireResource ∈ jAll := jgd (jM3 (List.mem_of_getElem? (i := 45) rfl)) rfl
theorem kco_X5_requireResource : Cond.code yX5_requireResource cX5_requireResource 2 none ∈ jAll := jgd (jM3 (List.mem_of_getElem? (i := 46) rfl)) rfl
theorem kcl_X5_208 : Cond.classLink RX5 208 "java/lang/IndexOutOfBoundsException" ∈ jAll := jgd (jM3 (List.mem_of_getElem? (i := 47) rfl)) rfl
theorem kin__java_lang_IndexOutOfBoundsException_ : Cond.instantiable "java/lang/IndexOutOfBoundsException" 6 ∈ jAll := jgd (jM3 (List.mem_of_getElem? (i := 48) rfl)) rfl
theorem kml_X5_212 : Cond.methodLink RX5 212 ⟨"java/lang/IndexOutOfBoundsException", "<init>", "(Ljava/lang/String;)V"⟩ ∈ jAll := jgd (jM3 (List.mem_of_getElem? (i := 57) rfl)) rfl
theorem kim_IndexOutOfBoundsException__init__Ljava_lang_String__V : Cond.instanceMethod ⟨"java/lang/IndexOutOfBoundsException", "<init>", "(Ljava/lang/String;)V"⟩ ∈ jAll := jgd (jM3 (List.mem_of_getElem? (i := 58) rfl)) rfl
theorem kml__java_lang_IndexOutOfBoundsException__7 : Cond.methodLink "java/lang/IndexOutOfBoundsException" 7 ⟨"java/lang/RuntimeException", "<init>", "(Ljava/lang/String;)V"⟩ ∈ jAll := jgd (jM3 (List.mem_of_getElem? (i := 60) rfl)) rfl
theorem kml_X5_87 : Cond.methodLink RX5 87 yX4_putBackBeyondCapacity ∈ jAll := jgd (jM3 (List.mem_of_getElem? (i := 63) rfl)) rfl
theorem kim_X4_putBackBeyondCapacity : Cond.instanceMethod yX4_putBackBeyondCapacity ∈ jAll := jgd (jM3 (List.mem_of_getElem? (i := 64) rfl)) rfl
theorem kse_X4_putBackBeyondCapacity : Cond.selects RX4 yX4_putBackBeyondCapacity yX4_putBackBeyondCapacity ∈ jAll := jgd (jM3 (List.mem_of_getElem? (i := 65) rfl)) rfl
theorem kco_X4_putBackBeyondCapacity : Cond.code yX4_putBackBeyondCapacity cX4_putBackBeyondCapacity 4 (some .int) ∈ jAll := jgd (jM3 (List.mem_of_getElem? (i := 66) rfl)) rfl
theorem kml_L_87 : Cond.methodLink RL 87 yL_setGroup ∈ jAll := jgd (jM3 (List.mem_of_getElem? (i := 67) rfl)) rfl
theorem kst_L_setGroup : Cond.static yL_setGroup ∈ jAll := jgd (jM3 (List.mem_of_getElem? (i := 68) rfl)) rfl
theorem kco_L_setGroup : Cond.codeWith yL_setGroup cL_setGroup 6 (some .int) [(0, 12, 15, 21), (0, 12, 19, 13)] ∈ jAll := jgd (jM3 (List.mem_of_getElem? (i := 69) rfl)) rfl
theorem kml_L_23 : Cond.methodLink RL 23 yX5_setGroup ∈ jAll := jgd (jM3 (List.mem_of_getElem? (i := 70) rfl)) rfl
theorem kim_X5_setGroup : Cond.instanceMethod yX5_setGroup ∈ jAll := jgd (jM3 (List.mem_of_getElem? (i := 71) rfl)) rfl
theorem kse_X5_setGroup : Cond.selects RX5 yX5_setGroup yX5_setGroup ∈ jAll := jgd (jM3 (List.mem_of_getElem? (i := 72) rfl)) rfl
theorem kco_X5_setGroup : Cond.code yX5_setGroup cX5_setGroup 5 (some .int) ∈ jAll := jgd (jM3 (List.mem_of_getElem? (i := 73) rfl)) rfl
theorem kml_X5_90 : Cond.methodLink RX5 90 yX5_requireGroup ∈ jAll := jgd (jM3 (List.mem_of_getElem? (i := 74) rfl)) rfl
theorem kim_X5_requireGroup : Cond.instanceMethod yX5_requireGroup ∈ jAll := jgd (jM3 (List.mem_of_getElem? (i := 76) rfl)) rfl
theorem kco_X5_requireGroup : Cond.code yX5_requireGroup cX5_requireGroup 2 none ∈ jAll := jgd (jM3 (List.mem_of_getElem? (i := 77) rfl)) rfl
theorem kml_X5_103 : Cond.methodLink RX5 103 yX4_putBackBeyondQuota ∈ jAll := jgd (jM3 (List.mem_of_getElem? (i := 81) rfl)) rfl
theorem kim_X4_putBackBeyondQuota : Cond.instanceMethod yX4_putBackBeyondQuota ∈ jAll := jgd (jM3 (List.mem_of_getElem? (i := 82) rfl)) rfl
theorem kse_X4_putBackBeyondQuota : Cond.selects RX4 yX4_putBackBeyondQuota yX4_putBackBeyondQuota ∈ jAll := jgd (jM3 (List.mem_of_getElem? (i := 83) rfl)) rfl
theorem kco_X4_putBackBeyondQuota : Cond.code yX4_putBackBeyondQuota cX4_putBackBeyondQuota 4 (some .int) ∈ jAll := jgd (jM3 (List.mem_of_getElem? (i := 84) rfl)) rfl
theorem kml_L_91 : Cond.methodLink RL 91 yL_setLimits ∈ jAll := jgd (jM3 (List.mem_of_getElem? (i := 85) rfl)) rfl
theorem kst_L_setLimits : Cond.static yL_setLimits ∈ jAll := jgd (jM3 (List.mem_of_getElem? (i := 86) rfl)) rfl
theorem kco_L_setLimits : Cond.codeWith yL_setLimits cL_setLimits 5 (some .int) [(0, 10, 13, 13)] ∈ jAll := jgd (jM3 (List.mem_of_getElem? (i := 87) rfl)) rfl
theorem kml_L_27 : Cond.methodLink RL 27 yX5_setLimits ∈ jAll := jgd (jM3 (List.mem_of_getElem? (i := 88) rfl)) rfl
theorem kim_X5_setLimits : Cond.instanceMethod yX5_setLimits ∈ jAll := jgd (jM3 (List.mem_of_getElem? (i := 89) rfl)) rfl
theorem kse_X5_setLimits : Cond.selects RX5 yX5_setLimits yX5_setLimits ∈ jAll := jgd (jM3 (List.mem_of_getElem? (i := 90) rfl)) rfl
theorem kco_X5_setLimits : Cond.code yX5_setLimits cX5_setLimits 3 (some .int) ∈ jAll := jgd (jM3 (List.mem_of_getElem? (i := 91) rfl)) rfl
theorem kml_L_94 : Cond.methodLink RL 94 yL_arrive ∈ jAll := jgd (jM3 (List.mem_of_getElem? (i := 94) rfl)) rfl
theorem kst_L_arrive : Cond.static yL_arrive ∈ jAll := jgd (jM3 (List.mem_of_getElem? (i := 95) rfl)) rfl
theorem kco_L_arrive : Cond.codeWith yL_arrive cL_arrive 5 (some .int) [(0, 10, 13, 21), (0, 10, 17, 13), (0, 10, 21, 15)] ∈ jAll := jgd (jM3 (List.mem_of_getElem? (i := 96) rfl)) rfl
theorem kml_L_30 : Cond.methodLink RL 30 yX5_arrive ∈ jAll := jgd (jM3 (List.mem_of_getElem? (i := 97) rfl)) rfl
theorem kim_X5_arrive : Cond.instanceMethod yX5_arrive ∈ jAll := jgd (jM3 (List.mem_of_getElem? (i := 98) rfl)) rfl
theorem kse_X5_arrive : Cond.selects RX5 yX5_arrive yX5_arrive ∈ jAll := jgd (jM3 (List.mem_of_getElem? (i := 99) rfl)) rfl
theorem kco_X5_arrive : Cond.code yX5_arrive cX5_arrive 4 (some .int) ∈ jAll := jgd (jM3 (List.mem_of_getElem? (i := 100) rfl)) rfl
theorem kml_X5_116 : Cond.methodLink RX5 116 yX5_requireMask ∈ jAll := jgd (jM3 (List.mem_of_getElem? (i := 101) rfl)) rfl
theorem kim_X5_requireMask : Cond.instanceMethod yX5_requireMask ∈ jAll := jgd (jM3 (List.mem_of_getElem? (i := 103) rfl)) rfl
theorem kco_X5_requireMask : Cond.code yX5_requireMask cX5_requireMask 2 none ∈ jAll := jgd (jM3 (List.mem_of_getElem? (i := 104) rfl)) rfl
theorem kml_X5_219 : Cond.methodLink RX5 219 yX4_maskOfAll ∈ jAll := jgd (jM3 (List.mem_of_getElem? (i := 105) rfl)) rfl
theorem kml_X5_124 : Cond.methodLink RX5 124 yX4_admit ∈ jAll := jgd (jM3 (List.mem_of_getElem? (i := 108) rfl)) rfl
theorem kim_X4_admit : Cond.instanceMethod yX4_admit ∈ jAll := jgd (jM3 (List.mem_of_getElem? (i := 109) rfl)) rfl
theorem kse_X4_admit : Cond.selects RX4 yX4_admit yX4_admit ∈ jAll := jgd (jM3 (List.mem_of_getElem? (i := 110) rfl)) rfl
theorem kco_X4_admit : Cond.code yX4_admit cX4_admit 4 (some .int) ∈ jAll := jgd (jM3 (List.mem_of_getElem? (i := 111) rfl)) rfl
theorem kml_X5_128 : Cond.methodLink RX5 128 yX3_tryToPlace ∈ jAll := jgd (jM3 (List.mem_of_getElem? (i := 112) rfl)) rfl
theorem kml_L_97 : Cond.methodLink RL 97 yL_depart ∈ jAll := jgd (jM3 (List.mem_of_getElem? (i := 113) rfl)) rfl
theorem kst_L_depart : Cond.static yL_depart ∈ jAll := jgd (jM3 (List.mem_of_getElem? (i := 114) rfl)) rfl
theorem kco_L_depart : Cond.codeWith yL_depart cL_depart 4 (some .int) [(0, 9, 12, 21), (0, 9, 15, 36)] ∈ jAll := jgd (jM3 (List.mem_of_getElem? (i := 115) rfl)) rfl
theorem kcl_L_36 : Cond.classLink RL 36 "java/util/NoSuchElementException" ∈ jAll := jgd (jM3 (List.mem_of_getElem? (i := 116) rfl)) rfl
theorem kml_L_33 : Cond.methodLink RL 33 yX5_depart ∈ jAll := jgd (jM3 (List.mem_of_getElem? (i := 117) rfl)) rfl
theorem kim_X5_depart : Cond.instanceMethod yX5_depart ∈ jAll := jgd (jM3 (List.mem_of_getElem? (i := 118) rfl)) rfl
theorem kse_X5_depart : Cond.selects RX5 yX5_depart yX5_depart ∈ jAll := jgd (jM3 (List.mem_of_getElem? (i := 119) rfl)) rfl
theorem kco_X5_depart : Cond.code yX5_depart cX5_depart 2 (some .int) ∈ jAll := jgd (jM3 (List.mem_of_getElem? (i := 120) rfl)) rfl
theorem kml_X5_132 : Cond.methodLink RX5 132 yX5_requirePresent ∈ jAll := jgd (jM3 (List.mem_of_getElem? (i := 121) rfl)) rfl
theorem kim_X5_requirePresent : Cond.instanceMethod yX5_requirePresent ∈ jAll := jgd (jM3 (List.mem_of_getElem? (i := 123) rfl)) rfl
theorem kco_X5_requirePresent : Cond.code yX5_requirePresent cX5_requirePresent 2 none ∈ jAll := jgd (jM3 (List.mem_of_getElem? (i := 124) rfl)) rfl
theorem kml_X5_157 : Cond.methodLink RX5 157 yX5_requireRequest ∈ jAll := jgd (jM3 (List.mem_of_getElem? (i := 125) rfl)) rfl
theorem kim_X5_requireRequest : Cond.instanceMethod yX5_requireRequest ∈ jAll := jgd (jM3 (List.mem_of_getElem? (i := 127) rfl)) rfl
theorem kco_X5_requireRequest : Cond.code yX5_requireRequest cX5_requireRequest 2 none ∈ jAll := jgd (jM3 (List.mem_of_getElem? (i := 128) rfl)) rfl
theorem kml_X5_197 : Cond.methodLink RX5 197 yX4_isDeparted ∈ jAll := jgd (jM3 (List.mem_of_getElem? (i := 130) rfl)) rfl
theorem kcl_X5_163 : Cond.classLink RX5 163 "java/util/NoSuchElementException" ∈ jAll := jgd (jM3 (List.mem_of_getElem? (i := 131) rfl)) rfl
theorem kin__java_util_NoSuchElementException_ : Cond.instantiable "java/util/NoSuchElementException" 6 ∈ jAll := jgd (jM3 (List.mem_of_getElem? (i := 132) rfl)) rfl
theorem kml_X5_167 : Cond.methodLink RX5 167 ⟨"java/util/NoSuchElementException", "<init>", "(Ljava/lang/String;)V"⟩ ∈ jAll := jgd (jM3 (List.mem_of_getElem? (i := 141) rfl)) rfl
theorem kim_NoSuchElementException__init__Ljava_lang_String__V : Cond.instanceMethod ⟨"java/util/NoSuchElementException", "<init>", "(Ljava/lang/String;)V"⟩ ∈ jAll := jgd (jM3 (List.mem_of_getElem? (i := 142) rfl)) rfl
theorem kml__java_util_NoSuchElementException__13 : Cond.methodLink "java/util/NoSuchElementException" 13 ⟨"java/lang/RuntimeException", "<init>", "(Ljava/lang/String;)V"⟩ ∈ jAll := jgd (jM3 (List.mem_of_getElem? (i := 144) rfl)) rfl
theorem kml_X5_135 : Cond.methodLink RX5 135 yX4_dismiss ∈ jAll := jgd (jM3 (List.mem_of_getElem? (i := 147) rfl)) rfl
theorem kim_X4_dismiss : Cond.instanceMethod yX4_dismiss ∈ jAll := jgd (jM3 (List.mem_of_getElem? (i := 148) rfl)) rfl
theorem kse_X4_dismiss : Cond.selects RX4 yX4_dismiss yX4_dismiss ∈ jAll := jgd (jM3 (List.mem_of_getElem? (i := 149) rfl)) rfl
theorem kco_X4_dismiss : Cond.code yX4_dismiss cX4_dismiss 2 none ∈ jAll := jgd (jM3 (List.mem_of_getElem? (i := 150) rfl)) rfl
theorem kml_L_100 : Cond.methodLink RL 100 yL_setAccepts ∈ jAll := jgd (jM3 (List.mem_of_getElem? (i := 151) rfl)) rfl
theorem kst_L_setAccepts : Cond.static yL_setAccepts ∈ jAll := jgd (jM3 (List.mem_of_getElem? (i := 152) rfl)) rfl
theorem kco_L_setAccepts : Cond.codeWith yL_setAccepts cL_setAccepts 5 (some .int) [(0, 17, 20, 21), (0, 17, 24, 36), (0, 17, 28, 13)] ∈ jAll := jgd (jM3 (List.mem_of_getElem? (i := 153) rfl)) rfl
theorem kml_L_38 : Cond.methodLink RL 38 yX5_setAccepts ∈ jAll := jgd (jM3 (List.mem_of_getElem? (i := 154) rfl)) rfl
theorem kim_X5_setAccepts : Cond.instanceMethod yX5_setAccepts ∈ jAll := jgd (jM3 (List.mem_of_getElem? (i := 155) rfl)) rfl
theorem kse_X5_setAccepts : Cond.selects RX5 yX5_setAccepts yX5_setAccepts ∈ jAll := jgd (jM3 (List.mem_of_getElem? (i := 156) rfl)) rfl
theorem kco_X5_setAccepts : Cond.code yX5_setAccepts cX5_setAccepts 3 (some .boolean) ∈ jAll := jgd (jM3 (List.mem_of_getElem? (i := 157) rfl)) rfl
theorem kml_X5_138 : Cond.methodLink RX5 138 yX4_accept ∈ jAll := jgd (jM3 (List.mem_of_getElem? (i := 158) rfl)) rfl
theorem kim_X4_accept : Cond.instanceMethod yX4_accept ∈ jAll := jgd (jM3 (List.mem_of_getElem? (i := 159) rfl)) rfl
theorem kse_X4_accept : Cond.selects RX4 yX4_accept yX4_accept ∈ jAll := jgd (jM3 (List.mem_of_getElem? (i := 160) rfl)) rfl
theorem kco_X4_accept : Cond.code yX4_accept cX4_accept 3 none ∈ jAll := jgd (jM3 (List.mem_of_getElem? (i := 161) rfl)) rfl
theorem kmn_X4_63 : Cond.methodLinkNest RX4 63 yX5_hasBit "MatchingService" ∈ jNest := jH (jM3 (List.mem_of_getElem? (i := 162) rfl)) rfl
theorem kml_L_119 : Cond.methodLink RL 119 yL_assignedOf ∈ jAll := jgd (jM3 (List.mem_of_getElem? (i := 163) rfl)) rfl
theorem kst_L_assignedOf : Cond.static yL_assignedOf ∈ jAll := jgd (jM3 (List.mem_of_getElem? (i := 164) rfl)) rfl
theorem kco_L_assignedOf : Cond.codeWith yL_assignedOf cL_assignedOf 4 (some .int) [(0, 9, 12, 21)] ∈ jAll := jgd (jM3 (List.mem_of_getElem? (i := 165) rfl)) rfl
theorem kml_L_42 : Cond.methodLink RL 42 yX5_assignedOf ∈ jAll := jgd (jM3 (List.mem_of_getElem? (i := 166) rfl)) rfl
theorem kim_X5_assignedOf : Cond.instanceMethod yX5_assignedOf ∈ jAll := jgd (jM3 (List.mem_of_getElem? (i := 167) rfl)) rfl
theorem kse_X5_assignedOf : Cond.selects RX5 yX5_assignedOf yX5_assignedOf ∈ jAll := jgd (jM3 (List.mem_of_getElem? (i := 168) rfl)) rfl
theorem kco_X5_assignedOf : Cond.code yX5_assignedOf cX5_assignedOf 2 (some .int) ∈ jAll := jgd (jM3 (List.mem_of_getElem? (i := 169) rfl)) rfl
theorem kml_L_122 : Cond.methodLink RL 122 yL_load ∈ jAll := jgd (jM3 (List.mem_of_getElem? (i := 170) rfl)) rfl
theorem kst_L_load : Cond.static yL_load ∈ jAll := jgd (jM3 (List.mem_of_getElem? (i := 171) rfl)) rfl
theorem kco_L_load : Cond.codeWith yL_load cL_load 4 (some .int) [(0, 9, 12, 21)] ∈ jAll := jgd (jM3 (List.mem_of_getElem? (i := 172) rfl)) rfl
theorem kml_L_45 : Cond.methodLink RL 45 yX5_load ∈ jAll := jgd (jM3 (List.mem_of_getElem? (i := 173) rfl)) rfl
theorem kim_X5_load : Cond.instanceMethod yX5_load ∈ jAll := jgd (jM3 (List.mem_of_getElem? (i := 174) rfl)) rfl
theorem kse_X5_load : Cond.selects RX5 yX5_load yX5_load ∈ jAll := jgd (jM3 (List.mem_of_getElem? (i := 175) rfl)) rfl
theorem kco_X5_load : Cond.code yX5_load cX5_load 2 (some .int) ∈ jAll := jgd (jM3 (List.mem_of_getElem? (i := 176) rfl)) rfl
theorem kml_L_125 : Cond.methodLink RL 125 yL_state ∈ jAll := jgd (jM3 (List.mem_of_getElem? (i := 177) rfl)) rfl
theorem kst_L_state : Cond.static yL_state ∈ jAll := jgd (jM3 (List.mem_of_getElem? (i := 178) rfl)) rfl
theorem kco_L_state : Cond.codeWith yL_state cL_state 4 (some .int) [(0, 9, 12, 21)] ∈ jAll := jgd (jM3 (List.mem_of_getElem? (i := 179) rfl)) rfl
theorem kml_L_48 : Cond.methodLink RL 48 yX5_state ∈ jAll := jgd (jM3 (List.mem_of_getElem? (i := 180) rfl)) rfl
theorem kim_X5_state : Cond.instanceMethod yX5_state ∈ jAll := jgd (jM3 (List.mem_of_getElem? (i := 181) rfl)) rfl
theorem kse_X5_state : Cond.selects RX5 yX5_state yX5_state ∈ jAll := jgd (jM3 (List.mem_of_getElem? (i := 182) rfl)) rfl
theorem kco_X5_state : Cond.code yX5_state cX5_state 2 (some .int) ∈ jAll := jgd (jM3 (List.mem_of_getElem? (i := 183) rfl)) rfl
theorem kml_L_128 : Cond.methodLink RL 128 yL_resourceOf ∈ jAll := jgd (jM3 (List.mem_of_getElem? (i := 184) rfl)) rfl
theorem kst_L_resourceOf : Cond.static yL_resourceOf ∈ jAll := jgd (jM3 (List.mem_of_getElem? (i := 185) rfl)) rfl
theorem kco_L_resourceOf : Cond.codeWith yL_resourceOf cL_resourceOf 4 (some .int) [(0, 9, 12, 21), (0, 9, 15, 36)] ∈ jAll := jgd (jM3 (List.mem_of_getElem? (i := 186) rfl)) rfl
theorem kml_L_51 : Cond.methodLink RL 51 yX5_resourceOf ∈ jAll := jgd (jM3 (List.mem_of_getElem? (i := 187) rfl)) rfl
theorem kim_X5_resourceOf : Cond.instanceMethod yX5_resourceOf ∈ jAll := jgd (jM3 (List.mem_of_getElem? (i := 188) rfl)) rfl
theorem kse_X5_resourceOf : Cond.selects RX5 yX5_resourceOf yX5_resourceOf ∈ jAll := jgd (jM3 (List.mem_of_getElem? (i := 189) rfl)) rfl
theorem kco_X5_resourceOf : Cond.code yX5_resourceOf cX5_resourceOf 2 (some .int) ∈ jAll := jgd (jM3 (List.mem_of_getElem? (i := 190) rfl)) rfl
theorem kml_L_131 : Cond.methodLink RL 131 yL_movesOf ∈ jAll := jgd (jM3 (List.mem_of_getElem? (i := 192) rfl)) rfl
theorem kst_L_movesOf : Cond.static yL_movesOf ∈ jAll := jgd (jM3 (List.mem_of_getElem? (i := 193) rfl)) rfl
theorem kco_L_movesOf : Cond.codeWith yL_movesOf cL_movesOf 4 (some .int) [(0, 9, 12, 21)] ∈ jAll := jgd (jM3 (List.mem_of_getElem? (i := 194) rfl)) rfl
theorem kml_L_54 : Cond.methodLink RL 54 yX5_movesOf ∈ jAll := jgd (jM3 (List.mem_of_getElem? (i := 195) rfl)) rfl
theorem kim_X5_movesOf : Cond.instanceMethod yX5_movesOf ∈ jAll := jgd (jM3 (List.mem_of_getElem? (i := 196) rfl)) rfl
theorem kse_X5_movesOf : Cond.selects RX5 yX5_movesOf yX5_movesOf ∈ jAll := jgd (jM3 (List.mem_of_getElem? (i := 197) rfl)) rfl
theorem kco_X5_movesOf : Cond.code yX5_movesOf cX5_movesOf 2 (some .int) ∈ jAll := jgd (jM3 (List.mem_of_getElem? (i := 198) rfl)) rfl
theorem kml_L_138 : Cond.methodLink RL 138 yL_movedRequest ∈ jAll := jgd (jM3 (List.mem_of_getElem? (i := 199) rfl)) rfl
theorem kst_L_movedRequest : Cond.static yL_movedRequest ∈ jAll := jgd (jM3 (List.mem_of_getElem? (i := 200) rfl)) rfl
theorem kco_L_movedRequest : Cond.codeWith yL_movedRequest cL_movedRequest 4 (some .int) [(0, 9, 12, 21)] ∈ jAll := jgd (jM3 (List.mem_of_getElem? (i := 201) rfl)) rfl
theorem kml_L_57 : Cond.methodLink RL 57 yX5_movedRequest ∈ jAll := jgd (jM3 (List.mem_of_getElem? (i := 202) rfl)) rfl
theorem kim_X5_movedRequest : Cond.instanceMethod yX5_movedRequest ∈ jAll := jgd (jM3 (List.mem_of_getElem? (i := 203) rfl)) rfl
theorem kse_X5_movedRequest : Cond.selects RX5 yX5_movedRequest yX5_movedRequest ∈ jAll := jgd (jM3 (List.mem_of_getElem? (i := 204) rfl)) rfl
theorem kco_X5_movedRequest : Cond.code yX5_movedRequest cX5_movedRequest 2 (some .int) ∈ jAll := jgd (jM3 (List.mem_of_getElem? (i := 205) rfl)) rfl
theorem kml_X5_177 : Cond.methodLink RX5 177 yX5_requireLogged ∈ jAll := jgd (jM3 (List.mem_of_getElem? (i := 206) rfl)) rfl
theorem kim_X5_requireLogged : Cond.instanceMethod yX5_requireLogged ∈ jAll := jgd (jM3 (List.mem_of_getElem? (i := 208) rfl)) rfl
theorem kco_X5_requireLogged : Cond.code yX5_requireLogged cX5_requireLogged 2 none ∈ jAll := jgd (jM3 (List.mem_of_getElem? (i := 209) rfl)) rfl
theorem kml_L_141 : Cond.methodLink RL 141 yL_movedTo ∈ jAll := jgd (jM3 (List.mem_of_getElem? (i := 211) rfl)) rfl
theorem kst_L_movedTo : Cond.static yL_movedTo ∈ jAll := jgd (jM3 (List.mem_of_getElem? (i := 212) rfl)) rfl
theorem kco_L_movedTo : Cond.codeWith yL_movedTo cL_movedTo 4 (some .int) [(0, 9, 12, 21)] ∈ jAll := jgd (jM3 (List.mem_of_getElem? (i := 213) rfl)) rfl
theorem kml_L_60 : Cond.methodLink RL 60 yX5_movedTo ∈ jAll := jgd (jM3 (List.mem_of_getElem? (i := 214) rfl)) rfl
theorem kim_X5_movedTo : Cond.instanceMethod yX5_movedTo ∈ jAll := jgd (jM3 (List.mem_of_getElem? (i := 215) rfl)) rfl
theorem kse_X5_movedTo : Cond.selects RX5 yX5_movedTo yX5_movedTo ∈ jAll := jgd (jM3 (List.mem_of_getElem? (i := 216) rfl)) rfl
theorem kco_X5_movedTo : Cond.code yX5_movedTo cX5_movedTo 2 (some .int) ∈ jAll := jgd (jM3 (List.mem_of_getElem? (i := 217) rfl)) rfl
theorem kml_L_144 : Cond.methodLink RL 144 yL_movesNeeded ∈ jAll := jgd (jM3 (List.mem_of_getElem? (i := 218) rfl)) rfl
theorem kst_L_movesNeeded : Cond.static yL_movesNeeded ∈ jAll := jgd (jM3 (List.mem_of_getElem? (i := 219) rfl)) rfl
theorem kco_L_movesNeeded : Cond.codeWith yL_movesNeeded cL_movesNeeded 4 (some .int) [(0, 9, 12, 21), (0, 9, 15, 36)] ∈ jAll := jgd (jM3 (List.mem_of_getElem? (i := 220) rfl)) rfl
theorem kml_L_63 : Cond.methodLink RL 63 yX5_movesNeeded ∈ jAll := jgd (jM3 (List.mem_of_getElem? (i := 221) rfl)) rfl
theorem kim_X5_movesNeeded : Cond.instanceMethod yX5_movesNeeded ∈ jAll := jgd (jM3 (List.mem_of_getElem? (i := 222) rfl)) rfl
theorem kse_X5_movesNeeded : Cond.selects RX5 yX5_movesNeeded yX5_movesNeeded ∈ jAll := jgd (jM3 (List.mem_of_getElem? (i := 223) rfl)) rfl
theorem kco_X5_movesNeeded : Cond.code yX5_movesNeeded cX5_movesNeeded 2 (some .int) ∈ jAll := jgd (jM3 (List.mem_of_getElem? (i := 224) rfl)) rfl
theorem kml_X5_186 : Cond.methodLink RX5 186 yX4_isWaiting ∈ jAll := jgd (jM3 (List.mem_of_getElem? (i := 225) rfl)) rfl
theorem kml_X5_191 : Cond.methodLink RX5 191 yX2_search ∈ jAll := jgd (jM3 (List.mem_of_getElem? (i := 227) rfl)) rfl
theorem kml_L_151 : Cond.methodLink RL 151 yL_gainBy ∈ jAll := jgd (jM3 (List.mem_of_getElem? (i := 228) rfl)) rfl
theorem kst_L_gainBy : Cond.static yL_gainBy ∈ jAll := jgd (jM3 (List.mem_of_getElem? (i := 229) rfl)) rfl
theorem kco_L_gainBy : Cond.codeWith yL_gainBy cL_gainBy 4 (some .int) [(0, 9, 12, 21)] ∈ jAll := jgd (jM3 (List.mem_of_getElem? (i := 230) rfl)) rfl
theorem kml_L_66 : Cond.methodLink RL 66 yX5_gainBy ∈ jAll := jgd (jM3 (List.mem_of_getElem? (i := 231) rfl)) rfl
theorem kim_X5_gainBy : Cond.instanceMethod yX5_gainBy ∈ jAll := jgd (jM3 (List.mem_of_getElem? (i := 232) rfl)) rfl
theorem kse_X5_gainBy : Cond.selects RX5 yX5_gainBy yX5_gainBy ∈ jAll := jgd (jM3 (List.mem_of_getElem? (i := 233) rfl)) rfl
theorem kco_X5_gainBy : Cond.code yX5_gainBy cX5_gainBy 2 (some .int) ∈ jAll := jgd (jM3 (List.mem_of_getElem? (i := 234) rfl)) rfl
theorem kcl_L_70 : Cond.classLink RL 70 RX6 ∈ jAll := jgd (jM3 (List.mem_of_getElem? (i := 235) rfl)) rfl
theorem kin_X6 : Cond.instantiable RX6 20 ∈ jAll := jgd (jM3 (List.mem_of_getElem? (i := 236) rfl)) rfl
theorem kml_L_72 : Cond.methodLink RL 72 yX6_init ∈ jAll := jgd (jM3 (List.mem_of_getElem? (i := 237) rfl)) rfl
theorem kim_X6_init : Cond.instanceMethod yX6_init ∈ jAll := jgd (jM3 (List.mem_of_getElem? (i := 238) rfl)) rfl
theorem kco_X6_init : Cond.code yX6_init cX6_init 1 none ∈ jAll := jgd (jM3 (List.mem_of_getElem? (i := 239) rfl)) rfl
theorem kml_X6_1 : Cond.methodLink RX6 1 objectInit ∈ jAll := jgd (jM4 (List.mem_of_getElem? (i := 0) rfl)) rfl
theorem kfl_X6_60 : Cond.fieldLink RX6 60 "MatchingServiceModel" "thrown" "I" ∈ jAll := jgd (jM4 (List.mem_of_getElem? (i := 1) rfl)) rfl
theorem kfl_X6_63 : Cond.fieldLink RX6 63 "MatchingServiceModel" "resources" "I" ∈ jAll := jgd (jM4 (List.mem_of_getElem? (i := 2) rfl)) rfl
theorem kfl_X6_9 : Cond.fieldLink RX6 9 "MatchingServiceModel" "capacities" "[I" ∈ jAll := jgd (jM4 (List.mem_of_getElem? (i := 3) rfl)) rfl
theorem kfl_X6_13 : Cond.fieldLink RX6 13 "MatchingServiceModel" "quotas" "[I" ∈ jAll := jgd (jM4 (List.mem_of_getElem? (i := 4) rfl)) rfl
theorem kfl_X6_16 : Cond.fieldLink RX6 16 "MatchingServiceModel" "weights" "[I" ∈ jAll := jgd (jM4 (List.mem_of_getElem? (i := 5) rfl)) rfl
theorem kfl_X6_66 : Cond.fieldLink RX6 66 "MatchingServiceModel" "requests" "I" ∈ jAll := jgd (jM4 (List.mem_of_getElem? (i := 6) rfl)) rfl
theorem kfl_X6_19 : Cond.fieldLink RX6 19 "MatchingServiceModel" "groups" "[I" ∈ jAll := jgd (jM4 (List.mem_of_getElem? (i := 7) rfl)) rfl
theorem kfl_X6_22 : Cond.fieldLink RX6 22 "MatchingServiceModel" "masks" "[I" ∈ jAll := jgd (jM4 (List.mem_of_getElem? (i := 8) rfl)) rfl
theorem kfl_X6_25 : Cond.fieldLink RX6 25 "MatchingServiceModel" "states" "[I" ∈ jAll := jgd (jM4 (List.mem_of_getElem? (i := 9) rfl)) rfl
theorem kfl_X6_28 : Cond.fieldLink RX6 28 "MatchingServiceModel" "places" "[I" ∈ jAll := jgd (jM4 (List.mem_of_getElem? (i := 10) rfl)) rfl
theorem kfl_X6_31 : Cond.fieldLink RX6 31 "MatchingServiceModel" "moves" "[I" ∈ jAll := jgd (jM4 (List.mem_of_getElem? (i := 11) rfl)) rfl
theorem kfl_X6_34 : Cond.fieldLink RX6 34 "MatchingServiceModel" "pathLimit" "I" ∈ jAll := jgd (jM4 (List.mem_of_getElem? (i := 12) rfl)) rfl
theorem kfl_X6_38 : Cond.fieldLink RX6 38 "MatchingServiceModel" "moveLimit" "I" ∈ jAll := jgd (jM4 (List.mem_of_getElem? (i := 13) rfl)) rfl
theorem kfl_X6_102 : Cond.fieldLink RX6 102 "MatchingServiceModel" "logged" "I" ∈ jAll := jgd (jM4 (List.mem_of_getElem? (i := 14) rfl)) rfl
theorem kfl_X6_41 : Cond.fieldLink RX6 41 "MatchingServiceModel" "loggedRequests" "[I" ∈ jAll := jgd (jM4 (List.mem_of_getElem? (i := 15) rfl)) rfl
theorem kfl_X6_44 : Cond.fieldLink RX6 44 "MatchingServiceModel" "loggedPlaces" "[I" ∈ jAll := jgd (jM4 (List.mem_of_getElem? (i := 16) rfl)) rfl
theorem kfl_X6_47 : Cond.fieldLink RX6 47 "MatchingServiceModel" "far" "[I" ∈ jAll := jgd (jM4 (List.mem_of_getElem? (i := 17) rfl)) rfl
theorem kfl_X6_50 : Cond.fieldLink RX6 50 "MatchingServiceModel" "isTried" "[Z" ∈ jAll := jgd (jM4 (List.mem_of_getElem? (i := 18) rfl)) rfl
theorem kfl_X6_54 : Cond.fieldLink RX6 54 "MatchingServiceModel" "pathRequests" "[I" ∈ jAll := jgd (jM4 (List.mem_of_getElem? (i := 19) rfl)) rfl
theorem kfl_X6_57 : Cond.fieldLink RX6 57 "MatchingServiceModel" "pathPlaces" "[I" ∈ jAll := jgd (jM4 (List.mem_of_getElem? (i := 20) rfl)) rfl
theorem kml_L_79 : Cond.methodLink RL 79 yX6_thrown ∈ jAll := jgd (jM4 (List.mem_of_getElem? (i := 62) rfl)) rfl
theorem kim_X6_thrown : Cond.instanceMethod yX6_thrown ∈ jAll := jgd (jM4 (List.mem_of_getElem? (i := 63) rfl)) rfl
theorem kse_X6_thrown : Cond.selects RX6 yX6_thrown yX6_thrown ∈ jAll := jgd (jM4 (List.mem_of_getElem? (i := 64) rfl)) rfl
theorem kco_X6_thrown : Cond.code yX6_thrown cX6_thrown 1 (some .int) ∈ jAll := jgd (jM4 (List.mem_of_getElem? (i := 65) rfl)) rfl
theorem kml_L_78 : Cond.methodLink RL 78 yX6_addResource ∈ jAll := jgd (jM4 (List.mem_of_getElem? (i := 66) rfl)) rfl
theorem kim_X6_addResource : Cond.instanceMethod yX6_addResource ∈ jAll := jgd (jM4 (List.mem_of_getElem? (i := 67) rfl)) rfl
theorem kse_X6_addResource : Cond.selects RX6 yX6_addResource yX6_addResource ∈ jAll := jgd (jM4 (List.mem_of_getElem? (i := 68) rfl)) rfl
theorem kco_X6_addResource : Cond.code yX6_addResource cX6_addResource 2 (some .int) ∈ jAll := jgd (jM4 (List.mem_of_getElem? (i := 69) rfl)) rfl
theorem kml_X6_116 : Cond.methodLink RX6 116 yX6_fail ∈ jAll := jgd (jM4 (List.mem_of_getElem? (i := 70) rfl)) rfl
theorem kim_X6_fail : Cond.instanceMethod yX6_fail ∈ jAll := jgd (jM4 (List.mem_of_getElem? (i := 72) rfl)) rfl
theorem kco_X6_fail : Cond.code yX6_fail cX6_fail 2 (some .int) ∈ jAll := jgd (jM4 (List.mem_of_getElem? (i := 73) rfl)) rfl
theorem kml_X6_119 : Cond.methodLink RX6 119 yX6_run ∈ jAll := jgd (jM4 (List.mem_of_getElem? (i := 74) rfl)) rfl
theorem kim_X6_run : Cond.instanceMethod yX6_run ∈ jAll := jgd (jM4 (List.mem_of_getElem? (i := 76) rfl)) rfl
theorem kco_X6_run : Cond.code yX6_run cX6_run 3 (some .int) ∈ jAll := jgd (jM4 (List.mem_of_getElem? (i := 77) rfl)) rfl
theorem kml_X6_105 : Cond.methodLink RX6 105 yX6_next ∈ jAll := jgd (jM4 (List.mem_of_getElem? (i := 78) rfl)) rfl
theorem kim_X6_next : Cond.instanceMethod yX6_next ∈ jAll := jgd (jM4 (List.mem_of_getElem? (i := 80) rfl)) rfl
theorem kco_X6_next : Cond.code yX6_next cX6_next 4 (some .int) ∈ jAll := jgd (jM4 (List.mem_of_getElem? (i := 81) rfl)) rfl
theorem kml_X6_113 : Cond.methodLink RX6 113 yX6_firstIn ∈ jAll := jgd (jM4 (List.mem_of_getElem? (i := 82) rfl)) rfl
theorem kim_X6_firstIn : Cond.instanceMethod yX6_firstIn ∈ jAll := jgd (jM4 (List.mem_of_getElem? (i := 84) rfl)) rfl
theorem kco_X6_firstIn : Cond.code yX6_firstIn cX6_firstIn 3 (some .int) ∈ jAll := jgd (jM4 (List.mem_of_getElem? (i := 85) rfl)) rfl
theorem kml_X6_89 : Cond.methodLink RX6 89 yX6_assignedIn ∈ jAll := jgd (jM4 (List.mem_of_getElem? (i := 86) rfl)) rfl
theorem kim_X6_assignedIn : Cond.instanceMethod yX6_assignedIn ∈ jAll := jgd (jM4 (List.mem_of_getElem? (i := 88) rfl)) rfl
theorem kco_X6_assignedIn : Cond.code yX6_assignedIn cX6_assignedIn 4 (some .int) ∈ jAll := jgd (jM4 (List.mem_of_getElem? (i := 89) rfl)) rfl
theorem kml_X6_109 : Cond.methodLink RX6 109 yX6_isPlaced ∈ jAll := jgd (jM4 (List.mem_of_getElem? (i := 90) rfl)) rfl
theorem kim_X6_isPlaced : Cond.instanceMethod yX6_isPlaced ∈ jAll := jgd (jM4 (List.mem_of_getElem? (i := 92) rfl)) rfl
theorem kco_X6_isPlaced : Cond.code yX6_isPlaced cX6_isPlaced 7 (some .boolean) ∈ jAll := jgd (jM4 (List.mem_of_getElem? (i := 93) rfl)) rfl
theorem kml_X6_92 : Cond.methodLink RX6 92 yX6_firstOf ∈ jAll := jgd (jM4 (List.mem_of_getElem? (i := 94) rfl)) rfl
theorem kim_X6_firstOf : Cond.instanceMethod yX6_firstOf ∈ jAll := jgd (jM4 (List.mem_of_getElem? (i := 96) rfl)) rfl
theorem kco_X6_firstOf : Cond.code yX6_firstOf cX6_firstOf 4 (some .int) ∈ jAll := jgd (jM4 (List.mem_of_getElem? (i := 97) rfl)) rfl
theorem kml_X6_86 : Cond.methodLink RX6 86 yX6_findFar ∈ jAll := jgd (jM4 (List.mem_of_getElem? (i := 98) rfl)) rfl
theorem kim_X6_findFar : Cond.instanceMethod yX6_findFar ∈ jAll := jgd (jM4 (List.mem_of_getElem? (i := 100) rfl)) rfl
theorem kco_X6_findFar : Cond.code yX6_findFar cX6_findFar 4 none ∈ jAll := jgd (jM4 (List.mem_of_getElem? (i := 101) rfl)) rfl
theorem kml_X6_73 : Cond.methodLink RX6 73 yX6_loadOf ∈ jAll := jgd (jM4 (List.mem_of_getElem? (i := 102) rfl)) rfl
theorem kim_X6_loadOf : Cond.instanceMethod yX6_loadOf ∈ jAll := jgd (jM4 (List.mem_of_getElem? (i := 104) rfl)) rfl
theorem kco_X6_loadOf : Cond.code yX6_loadOf cX6_loadOf 4 (some .int) ∈ jAll := jgd (jM4 (List.mem_of_getElem? (i := 105) rfl)) rfl
theorem kml_X6_69 : Cond.methodLink RX6 69 yX6_isAt ∈ jAll := jgd (jM4 (List.mem_of_getElem? (i := 106) rfl)) rfl
theorem kim_X6_isAt : Cond.instanceMethod yX6_isAt ∈ jAll := jgd (jM4 (List.mem_of_getElem? (i := 108) rfl)) rfl
theorem kco_X6_isAt : Cond.code yX6_isAt cX6_isAt 3 (some .boolean) ∈ jAll := jgd (jM4 (List.mem_of_getElem? (i := 109) rfl)) rfl
theorem kml_X6_77 : Cond.methodLink RX6 77 yX6_brings ∈ jAll := jgd (jM4 (List.mem_of_getElem? (i := 110) rfl)) rfl
theorem kim_X6_brings : Cond.instanceMethod yX6_brings ∈ jAll := jgd (jM4 (List.mem_of_getElem? (i := 112) rfl)) rfl
theorem kco_X6_brings : Cond.code yX6_brings cX6_brings 3 (some .boolean) ∈ jAll := jgd (jM4 (List.mem_of_getElem? (i := 113) rfl)) rfl
theorem kml_X6_80 : Cond.methodLink RX6 80 yX6_canMove ∈ jAll := jgd (jM4 (List.mem_of_getElem? (i := 114) rfl)) rfl
theorem kim_X6_canMove : Cond.instanceMethod yX6_canMove ∈ jAll := jgd (jM4 (List.mem_of_getElem? (i := 116) rfl)) rfl
theorem kco_X6_canMove : Cond.code yX6_canMove cX6_canMove 3 (some .boolean) ∈ jAll := jgd (jM4 (List.mem_of_getElem? (i := 117) rfl)) rfl
theorem kml_X6_83 : Cond.methodLink RX6 83 yX6_accepts ∈ jAll := jgd (jM4 (List.mem_of_getElem? (i := 118) rfl)) rfl
theorem kim_X6_accepts : Cond.instanceMethod yX6_accepts ∈ jAll := jgd (jM4 (List.mem_of_getElem? (i := 120) rfl)) rfl
theorem kco_X6_accepts : Cond.code yX6_accepts cX6_accepts 3 (some .boolean) ∈ jAll := jgd (jM4 (List.mem_of_getElem? (i := 121) rfl)) rfl
theorem kml_X6_95 : Cond.methodLink RX6 95 yX6_movedFrom ∈ jAll := jgd (jM4 (List.mem_of_getElem? (i := 122) rfl)) rfl
theorem kim_X6_movedFrom : Cond.instanceMethod yX6_movedFrom ∈ jAll := jgd (jM4 (List.mem_of_getElem? (i := 124) rfl)) rfl
theorem kco_X6_movedFrom : Cond.code yX6_movedFrom cX6_movedFrom 5 (some .int) ∈ jAll := jgd (jM4 (List.mem_of_getElem? (i := 125) rfl)) rfl
theorem kml_X6_98 : Cond.methodLink RX6 98 yX6_log ∈ jAll := jgd (jM4 (List.mem_of_getElem? (i := 126) rfl)) rfl
theorem kim_X6_log : Cond.instanceMethod yX6_log ∈ jAll := jgd (jM4 (List.mem_of_getElem? (i := 128) rfl)) rfl
theorem kco_X6_log : Cond.code yX6_log cX6_log 3 none ∈ jAll := jgd (jM4 (List.mem_of_getElem? (i := 129) rfl)) rfl
theorem kml_L_86 : Cond.methodLink RL 86 yX6_setCapacity ∈ jAll := jgd (jM4 (List.mem_of_getElem? (i := 130) rfl)) rfl
theorem kim_X6_setCapacity : Cond.instanceMethod yX6_setCapacity ∈ jAll := jgd (jM4 (List.mem_of_getElem? (i := 131) rfl)) rfl
theorem kse_X6_setCapacity : Cond.selects RX6 yX6_setCapacity yX6_setCapacity ∈ jAll := jgd (jM4 (List.mem_of_getElem? (i := 132) rfl)) rfl
theorem kco_X6_setCapacity : Cond.code yX6_setCapacity cX6_setCapacity 5 (some .int) ∈ jAll := jgd (jM4 (List.mem_of_getElem? (i := 133) rfl)) rfl
theorem kml_X6_122 : Cond.methodLink RX6 122 yX6_isResource ∈ jAll := jgd (jM4 (List.mem_of_getElem? (i := 134) rfl)) rfl
theorem kim_X6_isResource : Cond.instanceMethod yX6_isResource ∈ jAll := jgd (jM4 (List.mem_of_getElem? (i := 136) rfl)) rfl
theorem kco_X6_isResource : Cond.code yX6_isResource cX6_isResource 2 (some .boolean) ∈ jAll := jgd (jM4 (List.mem_of_getElem? (i := 137) rfl)) rfl
theorem kml_L_90 : Cond.methodLink RL 90 yX6_setGroup ∈ jAll := jgd (jM4 (List.mem_of_getElem? (i := 138) rfl)) rfl
theorem kim_X6_setGroup : Cond.instanceMethod yX6_setGroup ∈ jAll := jgd (jM4 (List.mem_of_getElem? (i := 139) rfl)) rfl
theorem kse_X6_setGroup : Cond.selects RX6 yX6_setGroup yX6_setGroup ∈ jAll := jgd (jM4 (List.mem_of_getElem? (i := 140) rfl)) rfl
theorem kco_X6_setGroup : Cond.code yX6_setGroup cX6_setGroup 6 (some .int) ∈ jAll := jgd (jM4 (List.mem_of_getElem? (i := 141) rfl)) rfl
theorem kml_X6_125 : Cond.methodLink RX6 125 yX6_isGroup ∈ jAll := jgd (jM4 (List.mem_of_getElem? (i := 142) rfl)) rfl
theorem kst_X6_isGroup : Cond.static yX6_isGroup ∈ jAll := jgd (jM4 (List.mem_of_getElem? (i := 143) rfl)) rfl
theorem kco_X6_isGroup : Cond.code yX6_isGroup cX6_isGroup 1 (some .boolean) ∈ jAll := jgd (jM4 (List.mem_of_getElem? (i := 144) rfl)) rfl
theorem kml_L_93 : Cond.methodLink RL 93 yX6_setLimits ∈ jAll := jgd (jM4 (List.mem_of_getElem? (i := 145) rfl)) rfl
theorem kim_X6_setLimits : Cond.instanceMethod yX6_setLimits ∈ jAll := jgd (jM4 (List.mem_of_getElem? (i := 146) rfl)) rfl
theorem kse_X6_setLimits : Cond.selects RX6 yX6_setLimits yX6_setLimits ∈ jAll := jgd (jM4 (List.mem_of_getElem? (i := 147) rfl)) rfl
theorem kco_X6_setLimits : Cond.code yX6_setLimits cX6_setLimits 3 (some .int) ∈ jAll := jgd (jM4 (List.mem_of_getElem? (i := 148) rfl)) rfl
theorem kml_L_96 : Cond.methodLink RL 96 yX6_arrive ∈ jAll := jgd (jM4 (List.mem_of_getElem? (i := 149) rfl)) rfl
theorem kim_X6_arrive : Cond.instanceMethod yX6_arrive ∈ jAll := jgd (jM4 (List.mem_of_getElem? (i := 150) rfl)) rfl
theorem kse_X6_arrive : Cond.selects RX6 yX6_arrive yX6_arrive ∈ jAll := jgd (jM4 (List.mem_of_getElem? (i := 151) rfl)) rfl
theorem kco_X6_arrive : Cond.code yX6_arrive cX6_arrive 4 (some .int) ∈ jAll := jgd (jM4 (List.mem_of_getElem? (i := 152) rfl)) rfl
theorem kml_X6_128 : Cond.methodLink RX6 128 yX6_isMask ∈ jAll := jgd (jM4 (List.mem_of_getElem? (i := 153) rfl)) rfl
theorem kim_X6_isMask : Cond.instanceMethod yX6_isMask ∈ jAll := jgd (jM4 (List.mem_of_getElem? (i := 155) rfl)) rfl
theorem kco_X6_isMask : Cond.code yX6_isMask cX6_isMask 2 (some .boolean) ∈ jAll := jgd (jM4 (List.mem_of_getElem? (i := 156) rfl)) rfl
theorem kml_L_99 : Cond.methodLink RL 99 yX6_depart ∈ jAll := jgd (jM4 (List.mem_of_getElem? (i := 157) rfl)) rfl
theorem kim_X6_depart : Cond.instanceMethod yX6_depart ∈ jAll := jgd (jM4 (List.mem_of_getElem? (i := 158) rfl)) rfl
theorem kse_X6_depart : Cond.selects RX6 yX6_depart yX6_depart ∈ jAll := jgd (jM4 (List.mem_of_getElem? (i := 159) rfl)) rfl
theorem kco_X6_depart : Cond.code yX6_depart cX6_depart 2 (some .int) ∈ jAll := jgd (jM4 (List.mem_of_getElem? (i := 160) rfl)) rfl
theorem kml_X6_131 : Cond.methodLink RX6 131 yX6_isRequest ∈ jAll := jgd (jM4 (List.mem_of_getElem? (i := 161) rfl)) rfl
theorem kim_X6_isRequest : Cond.instanceMethod yX6_isRequest ∈ jAll := jgd (jM4 (List.mem_of_getElem? (i := 163) rfl)) rfl
theorem kco_X6_isRequest : Cond.code yX6_isRequest cX6_isRequest 2 (some .boolean) ∈ jAll := jgd (jM4 (List.mem_of_getElem? (i := 164) rfl)) rfl
theorem kml_L_102 : Cond.methodLink RL 102 yX6_setAccepts ∈ jAll := jgd (jM4 (List.mem_of_getElem? (i := 165) rfl)) rfl
theorem kim_X6_setAccepts : Cond.instanceMethod yX6_setAccepts ∈ jAll := jgd (jM4 (List.mem_of_getElem? (i := 166) rfl)) rfl
theorem kse_X6_setAccepts : Cond.selects RX6 yX6_setAccepts yX6_setAccepts ∈ jAll := jgd (jM4 (List.mem_of_getElem? (i := 167) rfl)) rfl
theorem kco_X6_setAccepts : Cond.code yX6_setAccepts cX6_setAccepts 3 (some .boolean) ∈ jAll := jgd (jM4 (List.mem_of_getElem? (i := 168) rfl)) rfl
theorem kml_L_106 : Cond.methodLink RL 106 yX6_resourceCount ∈ jAll := jgd (jM4 (List.mem_of_getElem? (i := 169) rfl)) rfl
theorem kim_X6_resourceCount : Cond.instanceMethod yX6_resourceCount ∈ jAll := jgd (jM4 (List.mem_of_getElem? (i := 170) rfl)) rfl
theorem kse_X6_resourceCount : Cond.selects RX6 yX6_resourceCount yX6_resourceCount ∈ jAll := jgd (jM4 (List.mem_of_getElem? (i := 171) rfl)) rfl
theorem kco_X6_resourceCount : Cond.code yX6_resourceCount cX6_resourceCount 1 (some .int) ∈ jAll := jgd (jM4 (List.mem_of_getElem? (i := 172) rfl)) rfl
theorem kml_L_110 : Cond.methodLink RL 110 yX6_arrivedCount ∈ jAll := jgd (jM4 (List.mem_of_getElem? (i := 173) rfl)) rfl
theorem kim_X6_arrivedCount : Cond.instanceMethod yX6_arrivedCount ∈ jAll := jgd (jM4 (List.mem_of_getElem? (i := 174) rfl)) rfl
theorem kse_X6_arrivedCount : Cond.selects RX6 yX6_arrivedCount yX6_arrivedCount ∈ jAll := jgd (jM4 (List.mem_of_getElem? (i := 175) rfl)) rfl
theorem kco_X6_arrivedCount : Cond.code yX6_arrivedCount cX6_arrivedCount 1 (some .int) ∈ jAll := jgd (jM4 (List.mem_of_getElem? (i := 176) rfl)) rfl
theorem kml_L_114 : Cond.methodLink RL 114 yX6_assignedCount ∈ jAll := jgd (jM4 (List.mem_of_getElem? (i := 177) rfl)) rfl
theorem kim_X6_assignedCount : Cond.instanceMethod yX6_assignedCount ∈ jAll := jgd (jM4 (List.mem_of_getElem? (i := 178) rfl)) rfl
theorem kse_X6_assignedCount : Cond.selects RX6 yX6_assignedCount yX6_assignedCount ∈ jAll := jgd (jM4 (List.mem_of_getElem? (i := 179) rfl)) rfl
theorem kco_X6_assignedCount : Cond.code yX6_assignedCount cX6_assignedCount 1 (some .int) ∈ jAll := jgd (jM4 (List.mem_of_getElem? (i := 180) rfl)) rfl
theorem kml_X6_134 : Cond.methodLink RX6 134 yX6_countOf ∈ jAll := jgd (jM4 (List.mem_of_getElem? (i := 181) rfl)) rfl
theorem kim_X6_countOf : Cond.instanceMethod yX6_countOf ∈ jAll := jgd (jM4 (List.mem_of_getElem? (i := 183) rfl)) rfl
theorem kco_X6_countOf : Cond.code yX6_countOf cX6_countOf 4 (some .int) ∈ jAll := jgd (jM4 (List.mem_of_getElem? (i := 184) rfl)) rfl
theorem kml_L_118 : Cond.methodLink RL 118 yX6_waitingCount ∈ jAll := jgd (jM4 (List.mem_of_getElem? (i := 185) rfl)) rfl
theorem kim_X6_waitingCount : Cond.instanceMethod yX6_waitingCount ∈ jAll := jgd (jM4 (List.mem_of_getElem? (i := 186) rfl)) rfl
theorem kse_X6_waitingCount : Cond.selects RX6 yX6_waitingCount yX6_waitingCount ∈ jAll := jgd (jM4 (List.mem_of_getElem? (i := 187) rfl)) rfl
theorem kco_X6_waitingCount : Cond.code yX6_waitingCount cX6_waitingCount 1 (some .int) ∈ jAll := jgd (jM4 (List.mem_of_getElem? (i := 188) rfl)) rfl
theorem kml_L_121 : Cond.methodLink RL 121 yX6_assignedOf ∈ jAll := jgd (jM4 (List.mem_of_getElem? (i := 189) rfl)) rfl
theorem kim_X6_assignedOf : Cond.instanceMethod yX6_assignedOf ∈ jAll := jgd (jM4 (List.mem_of_getElem? (i := 190) rfl)) rfl
theorem kse_X6_assignedOf : Cond.selects RX6 yX6_assignedOf yX6_assignedOf ∈ jAll := jgd (jM4 (List.mem_of_getElem? (i := 191) rfl)) rfl
theorem kco_X6_assignedOf : Cond.code yX6_assignedOf cX6_assignedOf 2 (some .int) ∈ jAll := jgd (jM4 (List.mem_of_getElem? (i := 192) rfl)) rfl
theorem kml_L_124 : Cond.methodLink RL 124 yX6_load ∈ jAll := jgd (jM4 (List.mem_of_getElem? (i := 193) rfl)) rfl
theorem kim_X6_load : Cond.instanceMethod yX6_load ∈ jAll := jgd (jM4 (List.mem_of_getElem? (i := 194) rfl)) rfl
theorem kse_X6_load : Cond.selects RX6 yX6_load yX6_load ∈ jAll := jgd (jM4 (List.mem_of_getElem? (i := 195) rfl)) rfl
theorem kco_X6_load : Cond.code yX6_load cX6_load 2 (some .int) ∈ jAll := jgd (jM4 (List.mem_of_getElem? (i := 196) rfl)) rfl
theorem kml_L_127 : Cond.methodLink RL 127 yX6_state ∈ jAll := jgd (jM4 (List.mem_of_getElem? (i := 197) rfl)) rfl
theorem kim_X6_state : Cond.instanceMethod yX6_state ∈ jAll := jgd (jM4 (List.mem_of_getElem? (i := 198) rfl)) rfl
theorem kse_X6_state : Cond.selects RX6 yX6_state yX6_state ∈ jAll := jgd (jM4 (List.mem_of_getElem? (i := 199) rfl)) rfl
theorem kco_X6_state : Cond.code yX6_state cX6_state 2 (some .int) ∈ jAll := jgd (jM4 (List.mem_of_getElem? (i := 200) rfl)) rfl
theorem kml_L_130 : Cond.methodLink RL 130 yX6_resourceOf ∈ jAll := jgd (jM4 (List.mem_of_getElem? (i := 201) rfl)) rfl
theorem kim_X6_resourceOf : Cond.instanceMethod yX6_resourceOf ∈ jAll := jgd (jM4 (List.mem_of_getElem? (i := 202) rfl)) rfl
theorem kse_X6_resourceOf : Cond.selects RX6 yX6_resourceOf yX6_resourceOf ∈ jAll := jgd (jM4 (List.mem_of_getElem? (i := 203) rfl)) rfl
theorem kco_X6_resourceOf : Cond.code yX6_resourceOf cX6_resourceOf 2 (some .int) ∈ jAll := jgd (jM4 (List.mem_of_getElem? (i := 204) rfl)) rfl
theorem kml_L_133 : Cond.methodLink RL 133 yX6_movesOf ∈ jAll := jgd (jM4 (List.mem_of_getElem? (i := 205) rfl)) rfl
theorem kim_X6_movesOf : Cond.instanceMethod yX6_movesOf ∈ jAll := jgd (jM4 (List.mem_of_getElem? (i := 206) rfl)) rfl
theorem kse_X6_movesOf : Cond.selects RX6 yX6_movesOf yX6_movesOf ∈ jAll := jgd (jM4 (List.mem_of_getElem? (i := 207) rfl)) rfl
theorem kco_X6_movesOf : Cond.code yX6_movesOf cX6_movesOf 2 (some .int) ∈ jAll := jgd (jM4 (List.mem_of_getElem? (i := 208) rfl)) rfl
theorem kml_L_137 : Cond.methodLink RL 137 yX6_moveCount ∈ jAll := jgd (jM4 (List.mem_of_getElem? (i := 209) rfl)) rfl
theorem kim_X6_moveCount : Cond.instanceMethod yX6_moveCount ∈ jAll := jgd (jM4 (List.mem_of_getElem? (i := 210) rfl)) rfl
theorem kse_X6_moveCount : Cond.selects RX6 yX6_moveCount yX6_moveCount ∈ jAll := jgd (jM4 (List.mem_of_getElem? (i := 211) rfl)) rfl
theorem kco_X6_moveCount : Cond.code yX6_moveCount cX6_moveCount 1 (some .int) ∈ jAll := jgd (jM4 (List.mem_of_getElem? (i := 212) rfl)) rfl
theorem kml_L_140 : Cond.methodLink RL 140 yX6_movedRequest ∈ jAll := jgd (jM4 (List.mem_of_getElem? (i := 213) rfl)) rfl
theorem kim_X6_movedRequest : Cond.instanceMethod yX6_movedRequest ∈ jAll := jgd (jM4 (List.mem_of_getElem? (i := 214) rfl)) rfl
theorem kse_X6_movedRequest : Cond.selects RX6 yX6_movedRequest yX6_movedRequest ∈ jAll := jgd (jM4 (List.mem_of_getElem? (i := 215) rfl)) rfl
theorem kco_X6_movedRequest : Cond.code yX6_movedRequest cX6_movedRequest 2 (some .int) ∈ jAll := jgd (jM4 (List.mem_of_getElem? (i := 216) rfl)) rfl
theorem kml_L_143 : Cond.methodLink RL 143 yX6_movedTo ∈ jAll := jgd (jM4 (List.mem_of_getElem? (i := 217) rfl)) rfl
theorem kim_X6_movedTo : Cond.instanceMethod yX6_movedTo ∈ jAll := jgd (jM4 (List.mem_of_getElem? (i := 218) rfl)) rfl
theorem kse_X6_movedTo : Cond.selects RX6 yX6_movedTo yX6_movedTo ∈ jAll := jgd (jM4 (List.mem_of_getElem? (i := 219) rfl)) rfl
theorem kco_X6_movedTo : Cond.code yX6_movedTo cX6_movedTo 2 (some .int) ∈ jAll := jgd (jM4 (List.mem_of_getElem? (i := 220) rfl)) rfl
theorem kml_L_146 : Cond.methodLink RL 146 yX6_movesNeeded ∈ jAll := jgd (jM4 (List.mem_of_getElem? (i := 221) rfl)) rfl
theorem kim_X6_movesNeeded : Cond.instanceMethod yX6_movesNeeded ∈ jAll := jgd (jM4 (List.mem_of_getElem? (i := 222) rfl)) rfl
theorem kse_X6_movesNeeded : Cond.selects RX6 yX6_movesNeeded yX6_movesNeeded ∈ jAll := jgd (jM4 (List.mem_of_getElem? (i := 223) rfl)) rfl
theorem kco_X6_movesNeeded : Cond.code yX6_movesNeeded cX6_movesNeeded 3 (some .int) ∈ jAll := jgd (jM4 (List.mem_of_getElem? (i := 224) rfl)) rfl
theorem kml_L_150 : Cond.methodLink RL 150 yX6_greatestPossible ∈ jAll := jgd (jM4 (List.mem_of_getElem? (i := 225) rfl)) rfl
theorem kim_X6_greatestPossible : Cond.instanceMethod yX6_greatestPossible ∈ jAll := jgd (jM4 (List.mem_of_getElem? (i := 226) rfl)) rfl
theorem kse_X6_greatestPossible : Cond.selects RX6 yX6_greatestPossible yX6_greatestPossible ∈ jAll := jgd (jM4 (List.mem_of_getElem? (i := 227) rfl)) rfl
theorem kco_X6_greatestPossible : Cond.code yX6_greatestPossible cX6_greatestPossible 1 (some .int) ∈ jAll := jgd (jM4 (List.mem_of_getElem? (i := 228) rfl)) rfl
theorem kml_X6_143 : Cond.methodLink RX6 143 yX6_possible ∈ jAll := jgd (jM4 (List.mem_of_getElem? (i := 229) rfl)) rfl
theorem kim_X6_possible : Cond.instanceMethod yX6_possible ∈ jAll := jgd (jM4 (List.mem_of_getElem? (i := 231) rfl)) rfl
theorem kco_X6_possible : Cond.code yX6_possible cX6_possible 6 (some .int) ∈ jAll := jgd (jM4 (List.mem_of_getElem? (i := 232) rfl)) rfl
theorem kml_X6_137 : Cond.methodLink RX6 137 yJ9_min_7cf53 ∈ jAll := jgd (jM4 (List.mem_of_getElem? (i := 233) rfl)) rfl
theorem kst_J9_min_7cf53 : Cond.static yJ9_min_7cf53 ∈ jAll := jgd (jM4 (List.mem_of_getElem? (i := 234) rfl)) rfl
theorem kco_J9_min_7cf53 : Cond.code yJ9_min_7cf53 cJ9_min_7cf53 2 (some .int) ∈ jAll := jgd (jM4 (List.mem_of_getElem? (i := 235) rfl)) rfl
theorem kml_L_153 : Cond.methodLink RL 153 yX6_gainBy ∈ jAll := jgd (jM4 (List.mem_of_getElem? (i := 236) rfl)) rfl
theorem kim_X6_gainBy : Cond.instanceMethod yX6_gainBy ∈ jAll := jgd (jM4 (List.mem_of_getElem? (i := 237) rfl)) rfl
theorem kse_X6_gainBy : Cond.selects RX6 yX6_gainBy yX6_gainBy ∈ jAll := jgd (jM4 (List.mem_of_getElem? (i := 238) rfl)) rfl
theorem kco_X6_gainBy : Cond.code yX6_gainBy cX6_gainBy 5 (some .int) ∈ jAll := jgd (jM4 (List.mem_of_getElem? (i := 239) rfl)) rfl
theorem kml_L_158 : Cond.methodLink RL 158 yX6_fairness ∈ jAll := jgd (jM5 (List.mem_of_getElem? (i := 0) rfl)) rfl
theorem kim_X6_fairness : Cond.instanceMethod yX6_fairness ∈ jAll := jgd (jM5 (List.mem_of_getElem? (i := 1) rfl)) rfl
theorem kse_X6_fairness : Cond.selects RX6 yX6_fairness yX6_fairness ∈ jAll := jgd (jM5 (List.mem_of_getElem? (i := 2) rfl)) rfl
theorem kco_X6_fairness : Cond.code yX6_fairness cX6_fairness 8 (some .double) ∈ jAll := jgd (jM5 (List.mem_of_getElem? (i := 3) rfl)) rfl
theorem kcn_X6_146 : Cond.constantDouble RX6 146 (4616189618054758400 : UInt64) ∈ jAll := jgd (jM5 (List.mem_of_getElem? (i := 4) rfl)) rfl
theorem kml_L_163 : Cond.methodLink RL 163 yX6_digest ∈ jAll := jgd (jM5 (List.mem_of_getElem? (i := 5) rfl)) rfl
theorem kim_X6_digest : Cond.instanceMethod yX6_digest ∈ jAll := jgd (jM5 (List.mem_of_getElem? (i := 6) rfl)) rfl
theorem kse_X6_digest : Cond.selects RX6 yX6_digest yX6_digest ∈ jAll := jgd (jM5 (List.mem_of_getElem? (i := 7) rfl)) rfl
theorem kco_X6_digest : Cond.code yX6_digest cX6_digest 4 (some .long) ∈ jAll := jgd (jM5 (List.mem_of_getElem? (i := 8) rfl)) rfl
theorem kcn_X6_148 : Cond.constantLong RX6 148 (1333 : Int64) ∈ jAll := jgd (jM5 (List.mem_of_getElem? (i := 9) rfl)) rfl
theorem kcn_X6_150 : Cond.constantLong RX6 150 (31 : Int64) ∈ jAll := jgd (jM5 (List.mem_of_getElem? (i := 10) rfl)) rfl
theorem kac_long : Cond.arrayClass .long ∈ jAll := jgd (jM5 (List.mem_of_getElem? (i := 11) rfl)) rfl
theorem kse_X0_copyAssignment : Cond.selects RX0 yX0_copyAssignment yX0_copyAssignment ∈ jAll := jgd (jMp (List.mem_of_getElem? (i := 0) rfl)) rfl
theorem kse_X0_startOf : Cond.selects RX0 yX0_startOf yX0_startOf ∈ jAll := jgd (jMp (List.mem_of_getElem? (i := 1) rfl)) rfl
theorem kse_X0_augment : Cond.selects RX0 yX0_augment yX0_augment ∈ jAll := jgd (jMp (List.mem_of_getElem? (i := 2) rfl)) rfl
theorem kse_X0_startAtGroups : Cond.selects RX0 yX0_startAtGroups yX0_startAtGroups ∈ jAll := jgd (jMp (List.mem_of_getElem? (i := 3) rfl)) rfl
theorem kse_X0_reach : Cond.selects RX0 yX0_reach yX0_reach ∈ jAll := jgd (jMp (List.mem_of_getElem? (i := 4) rfl)) rfl
theorem kse_X0_leave : Cond.selects RX0 yX0_leave yX0_leave ∈ jAll := jgd (jMp (List.mem_of_getElem? (i := 5) rfl)) rfl
theorem kse_X0_leaveWith : Cond.selects RX0 yX0_leaveWith yX0_leaveWith ∈ jAll := jgd (jMp (List.mem_of_getElem? (i := 6) rfl)) rfl
theorem kse_X0_shiftAlong : Cond.selects RX0 yX0_shiftAlong yX0_shiftAlong ∈ jAll := jgd (jMp (List.mem_of_getElem? (i := 7) rfl)) rfl
theorem kse_X3_nextToTry : Cond.selects RX3 yX3_nextToTry yX3_nextToTry ∈ jAll := jgd (jMp (List.mem_of_getElem? (i := 9) rfl)) rfl
theorem kse_X3_isServedBefore : Cond.selects RX3 yX3_isServedBefore yX3_isServedBefore ∈ jAll := jgd (jMp (List.mem_of_getElem? (i := 10) rfl)) rfl
theorem kse_X2_collectSuccessors : Cond.selects RX2 yX2_collectSuccessors yX2_collectSuccessors ∈ jAll := jgd (jMp (List.mem_of_getElem? (i := 11) rfl)) rfl
theorem kse_X2_buildLayers : Cond.selects RX2 yX2_buildLayers yX2_buildLayers ∈ jAll := jgd (jMp (List.mem_of_getElem? (i := 12) rfl)) rfl
theorem kse_X2_leadingTo : Cond.selects RX2 yX2_leadingTo yX2_leadingTo ∈ jAll := jgd (jMp (List.mem_of_getElem? (i := 13) rfl)) rfl
theorem kse_X2_shortestFrom : Cond.selects RX2 yX2_shortestFrom yX2_shortestFrom ∈ jAll := jgd (jMp (List.mem_of_getElem? (i := 14) rfl)) rfl
theorem kse_X2_trace : Cond.selects RX2 yX2_trace yX2_trace ∈ jAll := jgd (jMp (List.mem_of_getElem? (i := 15) rfl)) rfl
theorem kse_X2_firstMovable : Cond.selects RX2 yX2_firstMovable yX2_firstMovable ∈ jAll := jgd (jMp (List.mem_of_getElem? (i := 16) rfl)) rfl
theorem kse_X3_placeAlongPath : Cond.selects RX3 yX3_placeAlongPath yX3_placeAlongPath ∈ jAll := jgd (jMp (List.mem_of_getElem? (i := 17) rfl)) rfl
theorem kse_X5_requireResource : Cond.selects RX5 yX5_requireResource yX5_requireResource ∈ jAll := jgd (jMp (List.mem_of_getElem? (i := 18) rfl)) rfl
theorem kse_X5_requireGroup : Cond.selects RX5 yX5_requireGroup yX5_requireGroup ∈ jAll := jgd (jMp (List.mem_of_getElem? (i := 19) rfl)) rfl
theorem kse_X5_requireMask : Cond.selects RX5 yX5_requireMask yX5_requireMask ∈ jAll := jgd (jMp (List.mem_of_getElem? (i := 20) rfl)) rfl
theorem kse_X5_requirePresent : Cond.selects RX5 yX5_requirePresent yX5_requirePresent ∈ jAll := jgd (jMp (List.mem_of_getElem? (i := 21) rfl)) rfl
theorem kse_X5_requireRequest : Cond.selects RX5 yX5_requireRequest yX5_requireRequest ∈ jAll := jgd (jMp (List.mem_of_getElem? (i := 22) rfl)) rfl
theorem kse_X5_requireLogged : Cond.selects RX5 yX5_requireLogged yX5_requireLogged ∈ jAll := jgd (jMp (List.mem_of_getElem? (i := 23) rfl)) rfl
theorem kse_X6_fail : Cond.selects RX6 yX6_fail yX6_fail ∈ jAll := jgd (jMp (List.mem_of_getElem? (i := 24) rfl)) rfl
theorem kse_X6_run : Cond.selects RX6 yX6_run yX6_run ∈ jAll := jgd (jMp (List.mem_of_getElem? (i := 25) rfl)) rfl
theorem kse_X6_next : Cond.selects RX6 yX6_next yX6_next ∈ jAll := jgd (jMp (List.mem_of_getElem? (i := 26) rfl)) rfl
theorem kse_X6_firstIn : Cond.selects RX6 yX6_firstIn yX6_firstIn ∈ jAll := jgd (jMp (List.mem_of_getElem? (i := 27) rfl)) rfl
theorem kse_X6_assignedIn : Cond.selects RX6 yX6_assignedIn yX6_assignedIn ∈ jAll := jgd (jMp (List.mem_of_getElem? (i := 28) rfl)) rfl
theorem kse_X6_isPlaced : Cond.selects RX6 yX6_isPlaced yX6_isPlaced ∈ jAll := jgd (jMp (List.mem_of_getElem? (i := 29) rfl)) rfl
theorem kse_X6_firstOf : Cond.selects RX6 yX6_firstOf yX6_firstOf ∈ jAll := jgd (jMp (List.mem_of_getElem? (i := 30) rfl)) rfl
theorem kse_X6_findFar : Cond.selects RX6 yX6_findFar yX6_findFar ∈ jAll := jgd (jMp (List.mem_of_getElem? (i := 31) rfl)) rfl
theorem kse_X6_loadOf : Cond.selects RX6 yX6_loadOf yX6_loadOf ∈ jAll := jgd (jMp (List.mem_of_getElem? (i := 32) rfl)) rfl
theorem kse_X6_isAt : Cond.selects RX6 yX6_isAt yX6_isAt ∈ jAll := jgd (jMp (List.mem_of_getElem? (i := 33) rfl)) rfl
theorem kse_X6_brings : Cond.selects RX6 yX6_brings yX6_brings ∈ jAll := jgd (jMp (List.mem_of_getElem? (i := 34) rfl)) rfl
theorem kse_X6_canMove : Cond.selects RX6 yX6_canMove yX6_canMove ∈ jAll := jgd (jMp (List.mem_of_getElem? (i := 35) rfl)) rfl
theorem kse_X6_accepts : Cond.selects RX6 yX6_accepts yX6_accepts ∈ jAll := jgd (jMp (List.mem_of_getElem? (i := 36) rfl)) rfl
theorem kse_X6_movedFrom : Cond.selects RX6 yX6_movedFrom yX6_movedFrom ∈ jAll := jgd (jMp (List.mem_of_getElem? (i := 37) rfl)) rfl
theorem kse_X6_log : Cond.selects RX6 yX6_log yX6_log ∈ jAll := jgd (jMp (List.mem_of_getElem? (i := 38) rfl)) rfl
theorem kse_X6_isResource : Cond.selects RX6 yX6_isResource yX6_isResource ∈ jAll := jgd (jMp (List.mem_of_getElem? (i := 39) rfl)) rfl
theorem kse_X6_isMask : Cond.selects RX6 yX6_isMask yX6_isMask ∈ jAll := jgd (jMp (List.mem_of_getElem? (i := 40) rfl)) rfl
theorem kse_X6_isRequest : Cond.selects RX6 yX6_isRequest yX6_isRequest ∈ jAll := jgd (jMp (List.mem_of_getElem? (i := 41) rfl)) rfl
theorem kse_X6_countOf : Cond.selects RX6 yX6_countOf yX6_countOf ∈ jAll := jgd (jMp (List.mem_of_getElem? (i := 42) rfl)) rfl
theorem kse_X6_possible : Cond.selects RX6 yX6_possible yX6_possible ∈ jAll := jgd (jMp (List.mem_of_getElem? (i := 43) rfl)) rfl
theorem jU_X0 : ∀ w ∈ u_ws RX0 TX0 10, w ∈ jAll := by
  intro w h
  obtain ⟨k, hk, rfl⟩ := List.mem_map.mp h
  have hk := List.mem_range.mp hk
  match k, hk with
  | 0, _ => exact jgd (jM1 (List.mem_of_getElem? (i := 183) rfl)) rfl
  | 1, _ => exact jgd (jM1 (List.mem_of_getElem? (i := 185) rfl)) rfl
  | 2, _ => exact jgd (jM1 (List.mem_of_getElem? (i := 187) rfl)) rfl
  | 3, _ => exact jgd (jM1 (List.mem_of_getElem? (i := 189) rfl)) rfl
  | 4, _ => exact jgd (jM1 (List.mem_of_getElem? (i := 191) rfl)) rfl
  | 5, _ => exact jgd (jM1 (List.mem_of_getElem? (i := 193) rfl)) rfl
  | 6, _ => exact jgd (jM1 (List.mem_of_getElem? (i := 195) rfl)) rfl
  | 7, _ => exact jgd (jM1 (List.mem_of_getElem? (i := 197) rfl)) rfl
  | 8, _ => exact jgd (jM1 (List.mem_of_getElem? (i := 199) rfl)) rfl
  | 9, _ => exact jgd (jM1 (List.mem_of_getElem? (i := 201) rfl)) rfl
  | k + 10, hk => exact absurd hk (by omega)
theorem jU_X1 : ∀ w ∈ u_ws RX1 TX1 3, w ∈ jAll := by
  intro w h
  obtain ⟨k, hk, rfl⟩ := List.mem_map.mp h
  have hk := List.mem_range.mp hk
  match k, hk with
  | 0, _ => exact jgd (jM1 (List.mem_of_getElem? (i := 112) rfl)) rfl
  | 1, _ => exact jgd (jM1 (List.mem_of_getElem? (i := 114) rfl)) rfl
  | 2, _ => exact jgd (jM1 (List.mem_of_getElem? (i := 116) rfl)) rfl
  | k + 3, hk => exact absurd hk (by omega)
theorem jU_X2 : ∀ w ∈ u_ws RX2 TX2 6, w ∈ jAll := by
  intro w h
  obtain ⟨k, hk, rfl⟩ := List.mem_map.mp h
  have hk := List.mem_range.mp hk
  match k, hk with
  | 0, _ => exact jgd (jM1 (List.mem_of_getElem? (i := 134) rfl)) rfl
  | 1, _ => exact jgd (jM1 (List.mem_of_getElem? (i := 136) rfl)) rfl
  | 2, _ => exact jgd (jM1 (List.mem_of_getElem? (i := 138) rfl)) rfl
  | 3, _ => exact jgd (jM1 (List.mem_of_getElem? (i := 140) rfl)) rfl
  | 4, _ => exact jgd (jM1 (List.mem_of_getElem? (i := 142) rfl)) rfl
  | 5, _ => exact jgd (jM1 (List.mem_of_getElem? (i := 144) rfl)) rfl
  | k + 6, hk => exact absurd hk (by omega)
theorem jU_X3 : ∀ w ∈ u_ws RX3 TX3 4, w ∈ jAll := by
  intro w h
  obtain ⟨k, hk, rfl⟩ := List.mem_map.mp h
  have hk := List.mem_range.mp hk
  match k, hk with
  | 0, _ => exact jgd (jM1 (List.mem_of_getElem? (i := 157) rfl)) rfl
  | 1, _ => exact jgd (jM1 (List.mem_of_getElem? (i := 159) rfl)) rfl
  | 2, _ => exact jgd (jM1 (List.mem_of_getElem? (i := 161) rfl)) rfl
  | 3, _ => exact jgd (jM1 (List.mem_of_getElem? (i := 163) rfl)) rfl
  | k + 4, hk => exact absurd hk (by omega)
theorem jU_X4 : ∀ w ∈ u_ws RX4 TX4 13, w ∈ jAll := by
  intro w h
  obtain ⟨k, hk, rfl⟩ := List.mem_map.mp h
  have hk := List.mem_range.mp hk
  match k, hk with
  | 0, _ => exact jgd (jM1 (List.mem_of_getElem? (i := 72) rfl)) rfl
  | 1, _ => exact jgd (jM1 (List.mem_of_getElem? (i := 74) rfl)) rfl
  | 2, _ => exact jgd (jM1 (List.mem_of_getElem? (i := 76) rfl)) rfl
  | 3, _ => exact jgd (jM1 (List.mem_of_getElem? (i := 78) rfl)) rfl
  | 4, _ => exact jgd (jM1 (List.mem_of_getElem? (i := 80) rfl)) rfl
  | 5, _ => exact jgd (jM1 (List.mem_of_getElem? (i := 82) rfl)) rfl
  | 6, _ => exact jgd (jM1 (List.mem_of_getElem? (i := 84) rfl)) rfl
  | 7, _ => exact jgd (jM1 (List.mem_of_getElem? (i := 86) rfl)) rfl
  | 8, _ => exact jgd (jM1 (List.mem_of_getElem? (i := 88) rfl)) rfl
  | 9, _ => exact jgd (jM1 (List.mem_of_getElem? (i := 90) rfl)) rfl
  | 10, _ => exact jgd (jM1 (List.mem_of_getElem? (i := 92) rfl)) rfl
  | 11, _ => exact jgd (jM1 (List.mem_of_getElem? (i := 94) rfl)) rfl
  | 12, _ => exact jgd (jM1 (List.mem_of_getElem? (i := 96) rfl)) rfl
  | k + 13, hk => exact absurd hk (by omega)
theorem jU_X5 : ∀ w ∈ u_ws RX5 TX5 5, w ∈ jAll := by
  intro w h
  obtain ⟨k, hk, rfl⟩ := List.mem_map.mp h
  have hk := List.mem_range.mp hk
  match k, hk with
  | 0, _ => exact jgd (jM1 (List.mem_of_getElem? (i := 209) rfl)) rfl
  | 1, _ => exact jgd (jM1 (List.mem_of_getElem? (i := 211) rfl)) rfl
  | 2, _ => exact jgd (jM1 (List.mem_of_getElem? (i := 213) rfl)) rfl
  | 3, _ => exact jgd (jM1 (List.mem_of_getElem? (i := 215) rfl)) rfl
  | 4, _ => exact jgd (jM1 (List.mem_of_getElem? (i := 217) rfl)) rfl
  | k + 5, hk => exact absurd hk (by omega)
theorem jU_X6 : ∀ w ∈ u_ws RX6 TX6 20, w ∈ jAll := by
  intro w h
  obtain ⟨k, hk, rfl⟩ := List.mem_map.mp h
  have hk := List.mem_range.mp hk
  match k, hk with
  | 0, _ => exact jgd (jM4 (List.mem_of_getElem? (i := 21) rfl)) rfl
  | 1, _ => exact jgd (jM4 (List.mem_of_getElem? (i := 23) rfl)) rfl
  | 2, _ => exact jgd (jM4 (List.mem_of_getElem? (i := 25) rfl)) rfl
  | 3, _ => exact jgd (jM4 (List.mem_of_getElem? (i := 27) rfl)) rfl
  | 4, _ => exact jgd (jM4 (List.mem_of_getElem? (i := 29) rfl)) rfl
  | 5, _ => exact jgd (jM4 (List.mem_of_getElem? (i := 31) rfl)) rfl
  | 6, _ => exact jgd (jM4 (List.mem_of_getElem? (i := 33) rfl)) rfl
  | 7, _ => exact jgd (jM4 (List.mem_of_getElem? (i := 35) rfl)) rfl
  | 8, _ => exact jgd (jM4 (List.mem_of_getElem? (i := 37) rfl)) rfl
  | 9, _ => exact jgd (jM4 (List.mem_of_getElem? (i := 39) rfl)) rfl
  | 10, _ => exact jgd (jM4 (List.mem_of_getElem? (i := 41) rfl)) rfl
  | 11, _ => exact jgd (jM4 (List.mem_of_getElem? (i := 43) rfl)) rfl
  | 12, _ => exact jgd (jM4 (List.mem_of_getElem? (i := 45) rfl)) rfl
  | 13, _ => exact jgd (jM4 (List.mem_of_getElem? (i := 47) rfl)) rfl
  | 14, _ => exact jgd (jM4 (List.mem_of_getElem? (i := 49) rfl)) rfl
  | 15, _ => exact jgd (jM4 (List.mem_of_getElem? (i := 51) rfl)) rfl
  | 16, _ => exact jgd (jM4 (List.mem_of_getElem? (i := 53) rfl)) rfl
  | 17, _ => exact jgd (jM4 (List.mem_of_getElem? (i := 55) rfl)) rfl
  | 18, _ => exact jgd (jM4 (List.mem_of_getElem? (i := 57) rfl)) rfl
  | 19, _ => exact jgd (jM4 (List.mem_of_getElem? (i := 59) rfl)) rfl
  | k + 20, hk => exact absurd hk (by omega)
end
section
theorem dJ9_min_7cf53_0 : decode cJ9_min_7cf53 0 = .ok (.iload_n 0, 1) := by decide +kernel
theorem dJ9_min_7cf53_1 : decode cJ9_min_7cf53 1 = .ok (.iload_n 1, 1) := by decide +kernel
theorem dJ9_min_7cf53_2 : decode cJ9_min_7cf53 2 = .ok (.if_icmp .gt 7, 3) := by decide +kernel
theorem dJ9_min_7cf53_5 : decode cJ9_min_7cf53 5 = .ok (.iload_n 0, 1) := by decide +kernel
theorem dJ9_min_7cf53_6 : decode cJ9_min_7cf53 6 = .ok (.goto 4, 3) := by decide +kernel
theorem dJ9_min_7cf53_9 : decode cJ9_min_7cf53 9 = .ok (.iload_n 1, 1) := by decide +kernel
theorem dJ9_min_7cf53_10 : decode cJ9_min_7cf53 10 = .ok (.ireturn, 1) := by decide +kernel
end
section
theorem dL_addResource_0 : decode cL_addResource 0 = .ok (.aload_n 2, 1) := by decide +kernel
theorem dL_addResource_1 : decode cL_addResource 1 = .ok (.iconst 0, 1) := by decide +kernel
theorem dL_addResource_2 : decode cL_addResource 2 = .ok (.aload_n 0, 1) := by decide +kernel
theorem dL_addResource_3 : decode cL_addResource 3 = .ok (.iload_n 1, 1) := by decide +kernel
theorem dL_addResource_4 : decode cL_addResource 4 = .ok (.invokevirtual 7, 3) := by decide +kernel
theorem dL_addResource_7 : decode cL_addResource 7 = .ok (.i2l, 1) := by decide +kernel
theorem dL_addResource_8 : decode cL_addResource 8 = .ok (.lastore, 1) := by decide +kernel
theorem dL_addResource_9 : decode cL_addResource 9 = .ok (.goto 9, 3) := by decide +kernel
theorem dL_addResource_12 : decode cL_addResource 12 = .ok (.astore_n 3, 1) := by decide +kernel
theorem dL_addResource_13 : decode cL_addResource 13 = .ok (.iconst 1, 1) := by decide +kernel
theorem dL_addResource_14 : decode cL_addResource 14 = .ok (.ireturn, 1) := by decide +kernel
theorem dL_addResource_15 : decode cL_addResource 15 = .ok (.astore_n 3, 1) := by decide +kernel
theorem dL_addResource_16 : decode cL_addResource 16 = .ok (.iconst 2, 1) := by decide +kernel
theorem dL_addResource_17 : decode cL_addResource 17 = .ok (.ireturn, 1) := by decide +kernel
theorem dL_addResource_18 : decode cL_addResource 18 = .ok (.iconst 0, 1) := by decide +kernel
theorem dL_addResource_19 : decode cL_addResource 19 = .ok (.ireturn, 1) := by decide +kernel
theorem dL_setCapacity_0 : decode cL_setCapacity 0 = .ok (.aload_n 3, 1) := by decide +kernel
theorem dL_setCapacity_1 : decode cL_setCapacity 1 = .ok (.iconst 0, 1) := by decide +kernel
theorem dL_setCapacity_2 : decode cL_setCapacity 2 = .ok (.aload_n 0, 1) := by decide +kernel
theorem dL_setCapacity_3 : decode cL_setCapacity 3 = .ok (.iload_n 1, 1) := by decide +kernel
theorem dL_setCapacity_4 : decode cL_setCapacity 4 = .ok (.iload_n 2, 1) := by decide +kernel
theorem dL_setCapacity_5 : decode cL_setCapacity 5 = .ok (.invokevirtual 17, 3) := by decide +kernel
theorem dL_setCapacity_8 : decode cL_setCapacity 8 = .ok (.i2l, 1) := by decide +kernel
theorem dL_setCapacity_9 : decode cL_setCapacity 9 = .ok (.lastore, 1) := by decide +kernel
theorem dL_setCapacity_10 : decode cL_setCapacity 10 = .ok (.goto 11, 3) := by decide +kernel
theorem dL_setCapacity_13 : decode cL_setCapacity 13 = .ok (.astore 4, 2) := by decide +kernel
theorem dL_setCapacity_15 : decode cL_setCapacity 15 = .ok (.iconst 1, 1) := by decide +kernel
theorem dL_setCapacity_16 : decode cL_setCapacity 16 = .ok (.ireturn, 1) := by decide +kernel
theorem dL_setCapacity_17 : decode cL_setCapacity 17 = .ok (.astore 4, 2) := by decide +kernel
theorem dL_setCapacity_19 : decode cL_setCapacity 19 = .ok (.iconst 2, 1) := by decide +kernel
theorem dL_setCapacity_20 : decode cL_setCapacity 20 = .ok (.ireturn, 1) := by decide +kernel
theorem dL_setCapacity_21 : decode cL_setCapacity 21 = .ok (.iconst 0, 1) := by decide +kernel
theorem dL_setCapacity_22 : decode cL_setCapacity 22 = .ok (.ireturn, 1) := by decide +kernel
theorem dL_setGroup_0 : decode cL_setGroup 0 = .ok (.aload 4, 2) := by decide +kernel
theorem dL_setGroup_2 : decode cL_setGroup 2 = .ok (.iconst 0, 1) := by decide +kernel
theorem dL_setGroup_3 : decode cL_setGroup 3 = .ok (.aload_n 0, 1) := by decide +kernel
theorem dL_setGroup_4 : decode cL_setGroup 4 = .ok (.iload_n 1, 1) := by decide +kernel
theorem dL_setGroup_5 : decode cL_setGroup 5 = .ok (.iload_n 2, 1) := by decide +kernel
theorem dL_setGroup_6 : decode cL_setGroup 6 = .ok (.iload_n 3, 1) := by decide +kernel
theorem dL_setGroup_7 : decode cL_setGroup 7 = .ok (.invokevirtual 23, 3) := by decide +kernel
theorem dL_setGroup_10 : decode cL_setGroup 10 = .ok (.i2l, 1) := by decide +kernel
theorem dL_setGroup_11 : decode cL_setGroup 11 = .ok (.lastore, 1) := by decide +kernel
theorem dL_setGroup_12 : decode cL_setGroup 12 = .ok (.goto 11, 3) := by decide +kernel
theorem dL_setGroup_15 : decode cL_setGroup 15 = .ok (.astore 5, 2) := by decide +kernel
theorem dL_setGroup_17 : decode cL_setGroup 17 = .ok (.iconst 1, 1) := by decide +kernel
theorem dL_setGroup_18 : decode cL_setGroup 18 = .ok (.ireturn, 1) := by decide +kernel
theorem dL_setGroup_19 : decode cL_setGroup 19 = .ok (.astore 5, 2) := by decide +kernel
theorem dL_setGroup_21 : decode cL_setGroup 21 = .ok (.iconst 2, 1) := by decide +kernel
theorem dL_setGroup_22 : decode cL_setGroup 22 = .ok (.ireturn, 1) := by decide +kernel
theorem dL_setGroup_23 : decode cL_setGroup 23 = .ok (.iconst 0, 1) := by decide +kernel
theorem dL_setGroup_24 : decode cL_setGroup 24 = .ok (.ireturn, 1) := by decide +kernel
theorem dL_setLimits_0 : decode cL_setLimits 0 = .ok (.aload_n 3, 1) := by decide +kernel
theorem dL_setLimits_1 : decode cL_setLimits 1 = .ok (.iconst 0, 1) := by decide +kernel
theorem dL_setLimits_2 : decode cL_setLimits 2 = .ok (.aload_n 0, 1) := by decide +kernel
theorem dL_setLimits_3 : decode cL_setLimits 3 = .ok (.iload_n 1, 1) := by decide +kernel
theorem dL_setLimits_4 : decode cL_setLimits 4 = .ok (.iload_n 2, 1) := by decide +kernel
theorem dL_setLimits_5 : decode cL_setLimits 5 = .ok (.invokevirtual 27, 3) := by decide +kernel
theorem dL_setLimits_8 : decode cL_setLimits 8 = .ok (.i2l, 1) := by decide +kernel
theorem dL_setLimits_9 : decode cL_setLimits 9 = .ok (.lastore, 1) := by decide +kernel
theorem dL_setLimits_10 : decode cL_setLimits 10 = .ok (.goto 7, 3) := by decide +kernel
theorem dL_setLimits_13 : decode cL_setLimits 13 = .ok (.astore 4, 2) := by decide +kernel
theorem dL_setLimits_15 : decode cL_setLimits 15 = .ok (.iconst 1, 1) := by decide +kernel
theorem dL_setLimits_16 : decode cL_setLimits 16 = .ok (.ireturn, 1) := by decide +kernel
theorem dL_setLimits_17 : decode cL_setLimits 17 = .ok (.iconst 0, 1) := by decide +kernel
theorem dL_setLimits_18 : decode cL_setLimits 18 = .ok (.ireturn, 1) := by decide +kernel
theorem dL_arrive_0 : decode cL_arrive 0 = .ok (.aload_n 3, 1) := by decide +kernel
theorem dL_arrive_1 : decode cL_arrive 1 = .ok (.iconst 0, 1) := by decide +kernel
theorem dL_arrive_2 : decode cL_arrive 2 = .ok (.aload_n 0, 1) := by decide +kernel
theorem dL_arrive_3 : decode cL_arrive 3 = .ok (.iload_n 1, 1) := by decide +kernel
theorem dL_arrive_4 : decode cL_arrive 4 = .ok (.iload_n 2, 1) := by decide +kernel
theorem dL_arrive_5 : decode cL_arrive 5 = .ok (.invokevirtual 30, 3) := by decide +kernel
theorem dL_arrive_8 : decode cL_arrive 8 = .ok (.i2l, 1) := by decide +kernel
theorem dL_arrive_9 : decode cL_arrive 9 = .ok (.lastore, 1) := by decide +kernel
theorem dL_arrive_10 : decode cL_arrive 10 = .ok (.goto 15, 3) := by decide +kernel
theorem dL_arrive_13 : decode cL_arrive 13 = .ok (.astore 4, 2) := by decide +kernel
theorem dL_arrive_15 : decode cL_arrive 15 = .ok (.iconst 1, 1) := by decide +kernel
theorem dL_arrive_16 : decode cL_arrive 16 = .ok (.ireturn, 1) := by decide +kernel
theorem dL_arrive_17 : decode cL_arrive 17 = .ok (.astore 4, 2) := by decide +kernel
theorem dL_arrive_19 : decode cL_arrive 19 = .ok (.iconst 2, 1) := by decide +kernel
theorem dL_arrive_20 : decode cL_arrive 20 = .ok (.ireturn, 1) := by decide +kernel
theorem dL_arrive_21 : decode cL_arrive 21 = .ok (.astore 4, 2) := by decide +kernel
theorem dL_arrive_23 : decode cL_arrive 23 = .ok (.iconst 3, 1) := by decide +kernel
theorem dL_arrive_24 : decode cL_arrive 24 = .ok (.ireturn, 1) := by decide +kernel
theorem dL_arrive_25 : decode cL_arrive 25 = .ok (.iconst 0, 1) := by decide +kernel
theorem dL_arrive_26 : decode cL_arrive 26 = .ok (.ireturn, 1) := by decide +kernel
theorem dL_depart_0 : decode cL_depart 0 = .ok (.aload_n 2, 1) := by decide +kernel
theorem dL_depart_1 : decode cL_depart 1 = .ok (.iconst 0, 1) := by decide +kernel
theorem dL_depart_2 : decode cL_depart 2 = .ok (.aload_n 0, 1) := by decide +kernel
theorem dL_depart_3 : decode cL_depart 3 = .ok (.iload_n 1, 1) := by decide +kernel
theorem dL_depart_4 : decode cL_depart 4 = .ok (.invokevirtual 33, 3) := by decide +kernel
theorem dL_depart_7 : decode cL_depart 7 = .ok (.i2l, 1) := by decide +kernel
theorem dL_depart_8 : decode cL_depart 8 = .ok (.lastore, 1) := by decide +kernel
theorem dL_depart_9 : decode cL_depart 9 = .ok (.goto 9, 3) := by decide +kernel
theorem dL_depart_12 : decode cL_depart 12 = .ok (.astore_n 3, 1) := by decide +kernel
theorem dL_depart_13 : decode cL_depart 13 = .ok (.iconst 1, 1) := by decide +kernel
theorem dL_depart_14 : decode cL_depart 14 = .ok (.ireturn, 1) := by decide +kernel
theorem dL_depart_15 : decode cL_depart 15 = .ok (.astore_n 3, 1) := by decide +kernel
theorem dL_depart_16 : decode cL_depart 16 = .ok (.iconst 2, 1) := by decide +kernel
theorem dL_depart_17 : decode cL_depart 17 = .ok (.ireturn, 1) := by decide +kernel
theorem dL_depart_18 : decode cL_depart 18 = .ok (.iconst 0, 1) := by decide +kernel
theorem dL_depart_19 : decode cL_depart 19 = .ok (.ireturn, 1) := by decide +kernel
theorem dL_setAccepts_0 : decode cL_setAccepts 0 = .ok (.aload_n 3, 1) := by decide +kernel
theorem dL_setAccepts_1 : decode cL_setAccepts 1 = .ok (.iconst 0, 1) := by decide +kernel
theorem dL_setAccepts_2 : decode cL_setAccepts 2 = .ok (.aload_n 0, 1) := by decide +kernel
theorem dL_setAccepts_3 : decode cL_setAccepts 3 = .ok (.iload_n 1, 1) := by decide +kernel
theorem dL_setAccepts_4 : decode cL_setAccepts 4 = .ok (.iload_n 2, 1) := by decide +kernel
theorem dL_setAccepts_5 : decode cL_setAccepts 5 = .ok (.invokevirtual 38, 3) := by decide +kernel
theorem dL_setAccepts_8 : decode cL_setAccepts 8 = .ok (.ifCond .eq 7, 3) := by decide +kernel
theorem dL_setAccepts_11 : decode cL_setAccepts 11 = .ok (.lconst 1, 1) := by decide +kernel
theorem dL_setAccepts_12 : decode cL_setAccepts 12 = .ok (.goto 4, 3) := by decide +kernel
theorem dL_setAccepts_15 : decode cL_setAccepts 15 = .ok (.lconst 0, 1) := by decide +kernel
theorem dL_setAccepts_16 : decode cL_setAccepts 16 = .ok (.lastore, 1) := by decide +kernel
theorem dL_setAccepts_17 : decode cL_setAccepts 17 = .ok (.goto 15, 3) := by decide +kernel
theorem dL_setAccepts_20 : decode cL_setAccepts 20 = .ok (.astore 4, 2) := by decide +kernel
theorem dL_setAccepts_22 : decode cL_setAccepts 22 = .ok (.iconst 1, 1) := by decide +kernel
theorem dL_setAccepts_23 : decode cL_setAccepts 23 = .ok (.ireturn, 1) := by decide +kernel
theorem dL_setAccepts_24 : decode cL_setAccepts 24 = .ok (.astore 4, 2) := by decide +kernel
theorem dL_setAccepts_26 : decode cL_setAccepts 26 = .ok (.iconst 2, 1) := by decide +kernel
theorem dL_setAccepts_27 : decode cL_setAccepts 27 = .ok (.ireturn, 1) := by decide +kernel
theorem dL_setAccepts_28 : decode cL_setAccepts 28 = .ok (.astore 4, 2) := by decide +kernel
theorem dL_setAccepts_30 : decode cL_setAccepts 30 = .ok (.iconst 3, 1) := by decide +kernel
theorem dL_setAccepts_31 : decode cL_setAccepts 31 = .ok (.ireturn, 1) := by decide +kernel
theorem dL_setAccepts_32 : decode cL_setAccepts 32 = .ok (.iconst 0, 1) := by decide +kernel
theorem dL_setAccepts_33 : decode cL_setAccepts 33 = .ok (.ireturn, 1) := by decide +kernel
theorem dL_assignedOf_0 : decode cL_assignedOf 0 = .ok (.aload_n 2, 1) := by decide +kernel
theorem dL_assignedOf_1 : decode cL_assignedOf 1 = .ok (.iconst 0, 1) := by decide +kernel
theorem dL_assignedOf_2 : decode cL_assignedOf 2 = .ok (.aload_n 0, 1) := by decide +kernel
theorem dL_assignedOf_3 : decode cL_assignedOf 3 = .ok (.iload_n 1, 1) := by decide +kernel
theorem dL_assignedOf_4 : decode cL_assignedOf 4 = .ok (.invokevirtual 42, 3) := by decide +kernel
theorem dL_assignedOf_7 : decode cL_assignedOf 7 = .ok (.i2l, 1) := by decide +kernel
theorem dL_assignedOf_8 : decode cL_assignedOf 8 = .ok (.lastore, 1) := by decide +kernel
theorem dL_assignedOf_9 : decode cL_assignedOf 9 = .ok (.goto 6, 3) := by decide +kernel
theorem dL_assignedOf_12 : decode cL_assignedOf 12 = .ok (.astore_n 3, 1) := by decide +kernel
theorem dL_assignedOf_13 : decode cL_assignedOf 13 = .ok (.iconst 1, 1) := by decide +kernel
theorem dL_assignedOf_14 : decode cL_assignedOf 14 = .ok (.ireturn, 1) := by decide +kernel
theorem dL_assignedOf_15 : decode cL_assignedOf 15 = .ok (.iconst 0, 1) := by decide +kernel
theorem dL_assignedOf_16 : decode cL_assignedOf 16 = .ok (.ireturn, 1) := by decide +kernel
theorem dL_load_0 : decode cL_load 0 = .ok (.aload_n 2, 1) := by decide +kernel
theorem dL_load_1 : decode cL_load 1 = .ok (.iconst 0, 1) := by decide +kernel
theorem dL_load_2 : decode cL_load 2 = .ok (.aload_n 0, 1) := by decide +kernel
theorem dL_load_3 : decode cL_load 3 = .ok (.iload_n 1, 1) := by decide +kernel
theorem dL_load_4 : decode cL_load 4 = .ok (.invokevirtual 45, 3) := by decide +kernel
theorem dL_load_7 : decode cL_load 7 = .ok (.i2l, 1) := by decide +kernel
theorem dL_load_8 : decode cL_load 8 = .ok (.lastore, 1) := by decide +kernel
theorem dL_load_9 : decode cL_load 9 = .ok (.goto 6, 3) := by decide +kernel
theorem dL_load_12 : decode cL_load 12 = .ok (.astore_n 3, 1) := by decide +kernel
theorem dL_load_13 : decode cL_load 13 = .ok (.iconst 1, 1) := by decide +kernel
theorem dL_load_14 : decode cL_load 14 = .ok (.ireturn, 1) := by decide +kernel
theorem dL_load_15 : decode cL_load 15 = .ok (.iconst 0, 1) := by decide +kernel
theorem dL_load_16 : decode cL_load 16 = .ok (.ireturn, 1) := by decide +kernel
theorem dL_state_0 : decode cL_state 0 = .ok (.aload_n 2, 1) := by decide +kernel
theorem dL_state_1 : decode cL_state 1 = .ok (.iconst 0, 1) := by decide +kernel
theorem dL_state_2 : decode cL_state 2 = .ok (.aload_n 0, 1) := by decide +kernel
theorem dL_state_3 : decode cL_state 3 = .ok (.iload_n 1, 1) := by decide +kernel
theorem dL_state_4 : decode cL_state 4 = .ok (.invokevirtual 48, 3) := by decide +kernel
theorem dL_state_7 : decode cL_state 7 = .ok (.i2l, 1) := by decide +kernel
theorem dL_state_8 : decode cL_state 8 = .ok (.lastore, 1) := by decide +kernel
theorem dL_state_9 : decode cL_state 9 = .ok (.goto 6, 3) := by decide +kernel
theorem dL_state_12 : decode cL_state 12 = .ok (.astore_n 3, 1) := by decide +kernel
theorem dL_state_13 : decode cL_state 13 = .ok (.iconst 1, 1) := by decide +kernel
theorem dL_state_14 : decode cL_state 14 = .ok (.ireturn, 1) := by decide +kernel
theorem dL_state_15 : decode cL_state 15 = .ok (.iconst 0, 1) := by decide +kernel
theorem dL_state_16 : decode cL_state 16 = .ok (.ireturn, 1) := by decide +kernel
theorem dL_resourceOf_0 : decode cL_resourceOf 0 = .ok (.aload_n 2, 1) := by decide +kernel
theorem dL_resourceOf_1 : decode cL_resourceOf 1 = .ok (.iconst 0, 1) := by decide +kernel
theorem dL_resourceOf_2 : decode cL_resourceOf 2 = .ok (.aload_n 0, 1) := by decide +kernel
theorem dL_resourceOf_3 : decode cL_resourceOf 3 = .ok (.iload_n 1, 1) := by decide +kernel
theorem dL_resourceOf_4 : decode cL_resourceOf 4 = .ok (.invokevirtual 51, 3) := by decide +kernel
theorem dL_resourceOf_7 : decode cL_resourceOf 7 = .ok (.i2l, 1) := by decide +kernel
theorem dL_resourceOf_8 : decode cL_resourceOf 8 = .ok (.lastore, 1) := by decide +kernel
theorem dL_resourceOf_9 : decode cL_resourceOf 9 = .ok (.goto 9, 3) := by decide +kernel
theorem dL_resourceOf_12 : decode cL_resourceOf 12 = .ok (.astore_n 3, 1) := by decide +kernel
theorem dL_resourceOf_13 : decode cL_resourceOf 13 = .ok (.iconst 1, 1) := by decide +kernel
theorem dL_resourceOf_14 : decode cL_resourceOf 14 = .ok (.ireturn, 1) := by decide +kernel
theorem dL_resourceOf_15 : decode cL_resourceOf 15 = .ok (.astore_n 3, 1) := by decide +kernel
theorem dL_resourceOf_16 : decode cL_resourceOf 16 = .ok (.iconst 2, 1) := by decide +kernel
theorem dL_resourceOf_17 : decode cL_resourceOf 17 = .ok (.ireturn, 1) := by decide +kernel
theorem dL_resourceOf_18 : decode cL_resourceOf 18 = .ok (.iconst 0, 1) := by decide +kernel
theorem dL_resourceOf_19 : decode cL_resourceOf 19 = .ok (.ireturn, 1) := by decide +kernel
theorem dL_movesOf_0 : decode cL_movesOf 0 = .ok (.aload_n 2, 1) := by decide +kernel
theorem dL_movesOf_1 : decode cL_movesOf 1 = .ok (.iconst 0, 1) := by decide +kernel
theorem dL_movesOf_2 : decode cL_movesOf 2 = .ok (.aload_n 0, 1) := by decide +kernel
theorem dL_movesOf_3 : decode cL_movesOf 3 = .ok (.iload_n 1, 1) := by decide +kernel
theorem dL_movesOf_4 : decode cL_movesOf 4 = .ok (.invokevirtual 54, 3) := by decide +kernel
theorem dL_movesOf_7 : decode cL_movesOf 7 = .ok (.i2l, 1) := by decide +kernel
theorem dL_movesOf_8 : decode cL_movesOf 8 = .ok (.lastore, 1) := by decide +kernel
theorem dL_movesOf_9 : decode cL_movesOf 9 = .ok (.goto 6, 3) := by decide +kernel
theorem dL_movesOf_12 : decode cL_movesOf 12 = .ok (.astore_n 3, 1) := by decide +kernel
theorem dL_movesOf_13 : decode cL_movesOf 13 = .ok (.iconst 1, 1) := by decide +kernel
theorem dL_movesOf_14 : decode cL_movesOf 14 = .ok (.ireturn, 1) := by decide +kernel
theorem dL_movesOf_15 : decode cL_movesOf 15 = .ok (.iconst 0, 1) := by decide +kernel
theorem dL_movesOf_16 : decode cL_movesOf 16 = .ok (.ireturn, 1) := by decide +kernel
theorem dL_movedRequest_0 : decode cL_movedRequest 0 = .ok (.aload_n 2, 1) := by decide +kernel
theorem dL_movedRequest_1 : decode cL_movedRequest 1 = .ok (.iconst 0, 1) := by decide +kernel
theorem dL_movedRequest_2 : decode cL_movedRequest 2 = .ok (.aload_n 0, 1) := by decide +kernel
theorem dL_movedRequest_3 : decode cL_movedRequest 3 = .ok (.iload_n 1, 1) := by decide +kernel
theorem dL_movedRequest_4 : decode cL_movedRequest 4 = .ok (.invokevirtual 57, 3) := by decide +kernel
theorem dL_movedRequest_7 : decode cL_movedRequest 7 = .ok (.i2l, 1) := by decide +kernel
theorem dL_movedRequest_8 : decode cL_movedRequest 8 = .ok (.lastore, 1) := by decide +kernel
theorem dL_movedRequest_9 : decode cL_movedRequest 9 = .ok (.goto 6, 3) := by decide +kernel
theorem dL_movedRequest_12 : decode cL_movedRequest 12 = .ok (.astore_n 3, 1) := by decide +kernel
theorem dL_movedRequest_13 : decode cL_movedRequest 13 = .ok (.iconst 1, 1) := by decide +kernel
theorem dL_movedRequest_14 : decode cL_movedRequest 14 = .ok (.ireturn, 1) := by decide +kernel
theorem dL_movedRequest_15 : decode cL_movedRequest 15 = .ok (.iconst 0, 1) := by decide +kernel
theorem dL_movedRequest_16 : decode cL_movedRequest 16 = .ok (.ireturn, 1) := by decide +kernel
theorem dL_movedTo_0 : decode cL_movedTo 0 = .ok (.aload_n 2, 1) := by decide +kernel
theorem dL_movedTo_1 : decode cL_movedTo 1 = .ok (.iconst 0, 1) := by decide +kernel
theorem dL_movedTo_2 : decode cL_movedTo 2 = .ok (.aload_n 0, 1) := by decide +kernel
theorem dL_movedTo_3 : decode cL_movedTo 3 = .ok (.iload_n 1, 1) := by decide +kernel
theorem dL_movedTo_4 : decode cL_movedTo 4 = .ok (.invokevirtual 60, 3) := by decide +kernel
theorem dL_movedTo_7 : decode cL_movedTo 7 = .ok (.i2l, 1) := by decide +kernel
theorem dL_movedTo_8 : decode cL_movedTo 8 = .ok (.lastore, 1) := by decide +kernel
theorem dL_movedTo_9 : decode cL_movedTo 9 = .ok (.goto 6, 3) := by decide +kernel
theorem dL_movedTo_12 : decode cL_movedTo 12 = .ok (.astore_n 3, 1) := by decide +kernel
theorem dL_movedTo_13 : decode cL_movedTo 13 = .ok (.iconst 1, 1) := by decide +kernel
theorem dL_movedTo_14 : decode cL_movedTo 14 = .ok (.ireturn, 1) := by decide +kernel
theorem dL_movedTo_15 : decode cL_movedTo 15 = .ok (.iconst 0, 1) := by decide +kernel
theorem dL_movedTo_16 : decode cL_movedTo 16 = .ok (.ireturn, 1) := by decide +kernel
theorem dL_movesNeeded_0 : decode cL_movesNeeded 0 = .ok (.aload_n 2, 1) := by decide +kernel
theorem dL_movesNeeded_1 : decode cL_movesNeeded 1 = .ok (.iconst 0, 1) := by decide +kernel
theorem dL_movesNeeded_2 : decode cL_movesNeeded 2 = .ok (.aload_n 0, 1) := by decide +kernel
theorem dL_movesNeeded_3 : decode cL_movesNeeded 3 = .ok (.iload_n 1, 1) := by decide +kernel
theorem dL_movesNeeded_4 : decode cL_movesNeeded 4 = .ok (.invokevirtual 63, 3) := by decide +kernel
theorem dL_movesNeeded_7 : decode cL_movesNeeded 7 = .ok (.i2l, 1) := by decide +kernel
theorem dL_movesNeeded_8 : decode cL_movesNeeded 8 = .ok (.lastore, 1) := by decide +kernel
theorem dL_movesNeeded_9 : decode cL_movesNeeded 9 = .ok (.goto 9, 3) := by decide +kernel
theorem dL_movesNeeded_12 : decode cL_movesNeeded 12 = .ok (.astore_n 3, 1) := by decide +kernel
theorem dL_movesNeeded_13 : decode cL_movesNeeded 13 = .ok (.iconst 1, 1) := by decide +kernel
theorem dL_movesNeeded_14 : decode cL_movesNeeded 14 = .ok (.ireturn, 1) := by decide +kernel
theorem dL_movesNeeded_15 : decode cL_movesNeeded 15 = .ok (.astore_n 3, 1) := by decide +kernel
theorem dL_movesNeeded_16 : decode cL_movesNeeded 16 = .ok (.iconst 2, 1) := by decide +kernel
theorem dL_movesNeeded_17 : decode cL_movesNeeded 17 = .ok (.ireturn, 1) := by decide +kernel
theorem dL_movesNeeded_18 : decode cL_movesNeeded 18 = .ok (.iconst 0, 1) := by decide +kernel
theorem dL_movesNeeded_19 : decode cL_movesNeeded 19 = .ok (.ireturn, 1) := by decide +kernel
theorem dL_gainBy_0 : decode cL_gainBy 0 = .ok (.aload_n 2, 1) := by decide +kernel
theorem dL_gainBy_1 : decode cL_gainBy 1 = .ok (.iconst 0, 1) := by decide +kernel
theorem dL_gainBy_2 : decode cL_gainBy 2 = .ok (.aload_n 0, 1) := by decide +kernel
theorem dL_gainBy_3 : decode cL_gainBy 3 = .ok (.iload_n 1, 1) := by decide +kernel
theorem dL_gainBy_4 : decode cL_gainBy 4 = .ok (.invokevirtual 66, 3) := by decide +kernel
theorem dL_gainBy_7 : decode cL_gainBy 7 = .ok (.i2l, 1) := by decide +kernel
theorem dL_gainBy_8 : decode cL_gainBy 8 = .ok (.lastore, 1) := by decide +kernel
theorem dL_gainBy_9 : decode cL_gainBy 9 = .ok (.goto 6, 3) := by decide +kernel
theorem dL_gainBy_12 : decode cL_gainBy 12 = .ok (.astore_n 3, 1) := by decide +kernel
theorem dL_gainBy_13 : decode cL_gainBy 13 = .ok (.iconst 1, 1) := by decide +kernel
theorem dL_gainBy_14 : decode cL_gainBy 14 = .ok (.ireturn, 1) := by decide +kernel
theorem dL_gainBy_15 : decode cL_gainBy 15 = .ok (.iconst 0, 1) := by decide +kernel
theorem dL_gainBy_16 : decode cL_gainBy 16 = .ok (.ireturn, 1) := by decide +kernel
theorem dL_law_0 : decode cL_law 0 = .ok (.new 8, 3) := by decide +kernel
theorem dL_law_3 : decode cL_law 3 = .ok (.dup, 1) := by decide +kernel
theorem dL_law_4 : decode cL_law 4 = .ok (.invokespecial 69, 3) := by decide +kernel
end
section
theorem dL_law_7 : decode cL_law 7 = .ok (.astore_n 1, 1) := by decide +kernel
theorem dL_law_8 : decode cL_law 8 = .ok (.new 70, 3) := by decide +kernel
theorem dL_law_11 : decode cL_law 11 = .ok (.dup, 1) := by decide +kernel
theorem dL_law_12 : decode cL_law 12 = .ok (.invokespecial 72, 3) := by decide +kernel
theorem dL_law_15 : decode cL_law 15 = .ok (.astore_n 2, 1) := by decide +kernel
theorem dL_law_16 : decode cL_law 16 = .ok (.iconst 1, 1) := by decide +kernel
theorem dL_law_17 : decode cL_law 17 = .ok (.newarray .long, 2) := by decide +kernel
theorem dL_law_19 : decode cL_law 19 = .ok (.astore_n 3, 1) := by decide +kernel
theorem dL_law_20 : decode cL_law 20 = .ok (.iconst 0, 1) := by decide +kernel
theorem dL_law_21 : decode cL_law 21 = .ok (.istore 4, 2) := by decide +kernel
theorem dL_law_23 : decode cL_law 23 = .ok (.iload 4, 2) := by decide +kernel
theorem dL_law_25 : decode cL_law 25 = .ok (.aload_n 0, 1) := by decide +kernel
theorem dL_law_26 : decode cL_law 26 = .ok (.arraylength, 1) := by decide +kernel
theorem dL_law_27 : decode cL_law 27 = .ok (.iconst 4, 1) := by decide +kernel
theorem dL_law_28 : decode cL_law 28 = .ok (.isub, 1) := by decide +kernel
theorem dL_law_29 : decode cL_law 29 = .ok (.if_icmp .gt 1233, 3) := by decide +kernel
theorem dL_law_32 : decode cL_law 32 = .ok (.aload_n 0, 1) := by decide +kernel
theorem dL_law_33 : decode cL_law 33 = .ok (.iload 4, 2) := by decide +kernel
theorem dL_law_35 : decode cL_law 35 = .ok (.iaload, 1) := by decide +kernel
theorem dL_law_36 : decode cL_law 36 = .ok (.bipush 31, 2) := by decide +kernel
theorem dL_law_38 : decode cL_law 38 = .ok (.iand, 1) := by decide +kernel
theorem dL_law_39 : decode cL_law 39 = .ok (.tableswitch 1217 0 23 #[109, 165, 233, 313, 381, 449, 505, 580, 593, 606, 619, 632, 688, 744, 800, 856, 912, 925, 981, 1037, 1093, 1106, 1162, 1203], 109) := by decide +kernel
theorem dL_law_148 : decode cL_law 148 = .ok (.aload_n 1, 1) := by decide +kernel
theorem dL_law_149 : decode cL_law 149 = .ok (.aload_n 0, 1) := by decide +kernel
theorem dL_law_150 : decode cL_law 150 = .ok (.iload 4, 2) := by decide +kernel
theorem dL_law_152 : decode cL_law 152 = .ok (.iconst 1, 1) := by decide +kernel
theorem dL_law_153 : decode cL_law 153 = .ok (.iadd, 1) := by decide +kernel
theorem dL_law_154 : decode cL_law 154 = .ok (.iaload, 1) := by decide +kernel
theorem dL_law_155 : decode cL_law 155 = .ok (.aload_n 3, 1) := by decide +kernel
theorem dL_law_156 : decode cL_law 156 = .ok (.invokestatic 73, 3) := by decide +kernel
theorem dL_law_159 : decode cL_law 159 = .ok (.istore 5, 2) := by decide +kernel
theorem dL_law_161 : decode cL_law 161 = .ok (.aload_n 2, 1) := by decide +kernel
theorem dL_law_162 : decode cL_law 162 = .ok (.aload_n 0, 1) := by decide +kernel
theorem dL_law_163 : decode cL_law 163 = .ok (.iload 4, 2) := by decide +kernel
theorem dL_law_165 : decode cL_law 165 = .ok (.iconst 1, 1) := by decide +kernel
theorem dL_law_166 : decode cL_law 166 = .ok (.iadd, 1) := by decide +kernel
theorem dL_law_167 : decode cL_law 167 = .ok (.iaload, 1) := by decide +kernel
theorem dL_law_168 : decode cL_law 168 = .ok (.invokevirtual 78, 3) := by decide +kernel
theorem dL_law_171 : decode cL_law 171 = .ok (.istore 6, 2) := by decide +kernel
theorem dL_law_173 : decode cL_law 173 = .ok (.aload_n 2, 1) := by decide +kernel
theorem dL_law_174 : decode cL_law 174 = .ok (.invokevirtual 79, 3) := by decide +kernel
theorem dL_law_177 : decode cL_law 177 = .ok (.iload 5, 2) := by decide +kernel
theorem dL_law_179 : decode cL_law 179 = .ok (.if_icmp .eq 5, 3) := by decide +kernel
theorem dL_law_182 : decode cL_law 182 = .ok (.iconst 0, 1) := by decide +kernel
theorem dL_law_183 : decode cL_law 183 = .ok (.ireturn, 1) := by decide +kernel
theorem dL_law_184 : decode cL_law 184 = .ok (.iload 5, 2) := by decide +kernel
theorem dL_law_186 : decode cL_law 186 = .ok (.ifCond .ne 15, 3) := by decide +kernel
theorem dL_law_189 : decode cL_law 189 = .ok (.aload_n 3, 1) := by decide +kernel
theorem dL_law_190 : decode cL_law 190 = .ok (.iconst 0, 1) := by decide +kernel
theorem dL_law_191 : decode cL_law 191 = .ok (.laload, 1) := by decide +kernel
theorem dL_law_192 : decode cL_law 192 = .ok (.iload 6, 2) := by decide +kernel
theorem dL_law_194 : decode cL_law 194 = .ok (.i2l, 1) := by decide +kernel
theorem dL_law_195 : decode cL_law 195 = .ok (.lcmp, 1) := by decide +kernel
theorem dL_law_196 : decode cL_law 196 = .ok (.ifCond .eq 5, 3) := by decide +kernel
theorem dL_law_199 : decode cL_law 199 = .ok (.iconst 0, 1) := by decide +kernel
theorem dL_law_200 : decode cL_law 200 = .ok (.ireturn, 1) := by decide +kernel
theorem dL_law_201 : decode cL_law 201 = .ok (.goto 1055, 3) := by decide +kernel
theorem dL_law_204 : decode cL_law 204 = .ok (.aload_n 1, 1) := by decide +kernel
theorem dL_law_205 : decode cL_law 205 = .ok (.aload_n 0, 1) := by decide +kernel
theorem dL_law_206 : decode cL_law 206 = .ok (.iload 4, 2) := by decide +kernel
theorem dL_law_208 : decode cL_law 208 = .ok (.iconst 1, 1) := by decide +kernel
theorem dL_law_209 : decode cL_law 209 = .ok (.iadd, 1) := by decide +kernel
theorem dL_law_210 : decode cL_law 210 = .ok (.iaload, 1) := by decide +kernel
theorem dL_law_211 : decode cL_law 211 = .ok (.aload_n 0, 1) := by decide +kernel
theorem dL_law_212 : decode cL_law 212 = .ok (.iload 4, 2) := by decide +kernel
theorem dL_law_214 : decode cL_law 214 = .ok (.iconst 2, 1) := by decide +kernel
theorem dL_law_215 : decode cL_law 215 = .ok (.iadd, 1) := by decide +kernel
theorem dL_law_216 : decode cL_law 216 = .ok (.iaload, 1) := by decide +kernel
theorem dL_law_217 : decode cL_law 217 = .ok (.aload_n 3, 1) := by decide +kernel
theorem dL_law_218 : decode cL_law 218 = .ok (.invokestatic 83, 3) := by decide +kernel
theorem dL_law_221 : decode cL_law 221 = .ok (.istore 5, 2) := by decide +kernel
theorem dL_law_223 : decode cL_law 223 = .ok (.aload_n 2, 1) := by decide +kernel
theorem dL_law_224 : decode cL_law 224 = .ok (.aload_n 0, 1) := by decide +kernel
theorem dL_law_225 : decode cL_law 225 = .ok (.iload 4, 2) := by decide +kernel
theorem dL_law_227 : decode cL_law 227 = .ok (.iconst 1, 1) := by decide +kernel
theorem dL_law_228 : decode cL_law 228 = .ok (.iadd, 1) := by decide +kernel
theorem dL_law_229 : decode cL_law 229 = .ok (.iaload, 1) := by decide +kernel
theorem dL_law_230 : decode cL_law 230 = .ok (.aload_n 0, 1) := by decide +kernel
theorem dL_law_231 : decode cL_law 231 = .ok (.iload 4, 2) := by decide +kernel
theorem dL_law_233 : decode cL_law 233 = .ok (.iconst 2, 1) := by decide +kernel
theorem dL_law_234 : decode cL_law 234 = .ok (.iadd, 1) := by decide +kernel
theorem dL_law_235 : decode cL_law 235 = .ok (.iaload, 1) := by decide +kernel
theorem dL_law_236 : decode cL_law 236 = .ok (.invokevirtual 86, 3) := by decide +kernel
theorem dL_law_239 : decode cL_law 239 = .ok (.istore 6, 2) := by decide +kernel
theorem dL_law_241 : decode cL_law 241 = .ok (.aload_n 2, 1) := by decide +kernel
theorem dL_law_242 : decode cL_law 242 = .ok (.invokevirtual 79, 3) := by decide +kernel
theorem dL_law_245 : decode cL_law 245 = .ok (.iload 5, 2) := by decide +kernel
theorem dL_law_247 : decode cL_law 247 = .ok (.if_icmp .eq 5, 3) := by decide +kernel
theorem dL_law_250 : decode cL_law 250 = .ok (.iconst 0, 1) := by decide +kernel
theorem dL_law_251 : decode cL_law 251 = .ok (.ireturn, 1) := by decide +kernel
theorem dL_law_252 : decode cL_law 252 = .ok (.iload 5, 2) := by decide +kernel
theorem dL_law_254 : decode cL_law 254 = .ok (.ifCond .ne 15, 3) := by decide +kernel
theorem dL_law_257 : decode cL_law 257 = .ok (.aload_n 3, 1) := by decide +kernel
theorem dL_law_258 : decode cL_law 258 = .ok (.iconst 0, 1) := by decide +kernel
theorem dL_law_259 : decode cL_law 259 = .ok (.laload, 1) := by decide +kernel
theorem dL_law_260 : decode cL_law 260 = .ok (.iload 6, 2) := by decide +kernel
theorem dL_law_262 : decode cL_law 262 = .ok (.i2l, 1) := by decide +kernel
theorem dL_law_263 : decode cL_law 263 = .ok (.lcmp, 1) := by decide +kernel
theorem dL_law_264 : decode cL_law 264 = .ok (.ifCond .eq 5, 3) := by decide +kernel
theorem dL_law_267 : decode cL_law 267 = .ok (.iconst 0, 1) := by decide +kernel
theorem dL_law_268 : decode cL_law 268 = .ok (.ireturn, 1) := by decide +kernel
theorem dL_law_269 : decode cL_law 269 = .ok (.goto 987, 3) := by decide +kernel
theorem dL_law_272 : decode cL_law 272 = .ok (.aload_n 1, 1) := by decide +kernel
theorem dL_law_273 : decode cL_law 273 = .ok (.aload_n 0, 1) := by decide +kernel
theorem dL_law_274 : decode cL_law 274 = .ok (.iload 4, 2) := by decide +kernel
theorem dL_law_276 : decode cL_law 276 = .ok (.iconst 1, 1) := by decide +kernel
theorem dL_law_277 : decode cL_law 277 = .ok (.iadd, 1) := by decide +kernel
theorem dL_law_278 : decode cL_law 278 = .ok (.iaload, 1) := by decide +kernel
theorem dL_law_279 : decode cL_law 279 = .ok (.aload_n 0, 1) := by decide +kernel
theorem dL_law_280 : decode cL_law 280 = .ok (.iload 4, 2) := by decide +kernel
theorem dL_law_282 : decode cL_law 282 = .ok (.iconst 2, 1) := by decide +kernel
theorem dL_law_283 : decode cL_law 283 = .ok (.iadd, 1) := by decide +kernel
theorem dL_law_284 : decode cL_law 284 = .ok (.iaload, 1) := by decide +kernel
theorem dL_law_285 : decode cL_law 285 = .ok (.aload_n 0, 1) := by decide +kernel
theorem dL_law_286 : decode cL_law 286 = .ok (.iload 4, 2) := by decide +kernel
theorem dL_law_288 : decode cL_law 288 = .ok (.iconst 3, 1) := by decide +kernel
theorem dL_law_289 : decode cL_law 289 = .ok (.iadd, 1) := by decide +kernel
theorem dL_law_290 : decode cL_law 290 = .ok (.iaload, 1) := by decide +kernel
theorem dL_law_291 : decode cL_law 291 = .ok (.aload_n 3, 1) := by decide +kernel
theorem dL_law_292 : decode cL_law 292 = .ok (.invokestatic 87, 3) := by decide +kernel
theorem dL_law_295 : decode cL_law 295 = .ok (.istore 5, 2) := by decide +kernel
theorem dL_law_297 : decode cL_law 297 = .ok (.aload_n 2, 1) := by decide +kernel
theorem dL_law_298 : decode cL_law 298 = .ok (.aload_n 0, 1) := by decide +kernel
theorem dL_law_299 : decode cL_law 299 = .ok (.iload 4, 2) := by decide +kernel
theorem dL_law_301 : decode cL_law 301 = .ok (.iconst 1, 1) := by decide +kernel
theorem dL_law_302 : decode cL_law 302 = .ok (.iadd, 1) := by decide +kernel
theorem dL_law_303 : decode cL_law 303 = .ok (.iaload, 1) := by decide +kernel
theorem dL_law_304 : decode cL_law 304 = .ok (.aload_n 0, 1) := by decide +kernel
theorem dL_law_305 : decode cL_law 305 = .ok (.iload 4, 2) := by decide +kernel
theorem dL_law_307 : decode cL_law 307 = .ok (.iconst 2, 1) := by decide +kernel
theorem dL_law_308 : decode cL_law 308 = .ok (.iadd, 1) := by decide +kernel
theorem dL_law_309 : decode cL_law 309 = .ok (.iaload, 1) := by decide +kernel
theorem dL_law_310 : decode cL_law 310 = .ok (.aload_n 0, 1) := by decide +kernel
theorem dL_law_311 : decode cL_law 311 = .ok (.iload 4, 2) := by decide +kernel
theorem dL_law_313 : decode cL_law 313 = .ok (.iconst 3, 1) := by decide +kernel
theorem dL_law_314 : decode cL_law 314 = .ok (.iadd, 1) := by decide +kernel
theorem dL_law_315 : decode cL_law 315 = .ok (.iaload, 1) := by decide +kernel
theorem dL_law_316 : decode cL_law 316 = .ok (.invokevirtual 90, 3) := by decide +kernel
theorem dL_law_319 : decode cL_law 319 = .ok (.istore 6, 2) := by decide +kernel
theorem dL_law_321 : decode cL_law 321 = .ok (.aload_n 2, 1) := by decide +kernel
theorem dL_law_322 : decode cL_law 322 = .ok (.invokevirtual 79, 3) := by decide +kernel
theorem dL_law_325 : decode cL_law 325 = .ok (.iload 5, 2) := by decide +kernel
theorem dL_law_327 : decode cL_law 327 = .ok (.if_icmp .eq 5, 3) := by decide +kernel
theorem dL_law_330 : decode cL_law 330 = .ok (.iconst 0, 1) := by decide +kernel
theorem dL_law_331 : decode cL_law 331 = .ok (.ireturn, 1) := by decide +kernel
theorem dL_law_332 : decode cL_law 332 = .ok (.iload 5, 2) := by decide +kernel
theorem dL_law_334 : decode cL_law 334 = .ok (.ifCond .ne 15, 3) := by decide +kernel
theorem dL_law_337 : decode cL_law 337 = .ok (.aload_n 3, 1) := by decide +kernel
theorem dL_law_338 : decode cL_law 338 = .ok (.iconst 0, 1) := by decide +kernel
theorem dL_law_339 : decode cL_law 339 = .ok (.laload, 1) := by decide +kernel
theorem dL_law_340 : decode cL_law 340 = .ok (.iload 6, 2) := by decide +kernel
theorem dL_law_342 : decode cL_law 342 = .ok (.i2l, 1) := by decide +kernel
theorem dL_law_343 : decode cL_law 343 = .ok (.lcmp, 1) := by decide +kernel
theorem dL_law_344 : decode cL_law 344 = .ok (.ifCond .eq 5, 3) := by decide +kernel
theorem dL_law_347 : decode cL_law 347 = .ok (.iconst 0, 1) := by decide +kernel
theorem dL_law_348 : decode cL_law 348 = .ok (.ireturn, 1) := by decide +kernel
theorem dL_law_349 : decode cL_law 349 = .ok (.goto 907, 3) := by decide +kernel
theorem dL_law_352 : decode cL_law 352 = .ok (.aload_n 1, 1) := by decide +kernel
theorem dL_law_353 : decode cL_law 353 = .ok (.aload_n 0, 1) := by decide +kernel
theorem dL_law_354 : decode cL_law 354 = .ok (.iload 4, 2) := by decide +kernel
theorem dL_law_356 : decode cL_law 356 = .ok (.iconst 1, 1) := by decide +kernel
theorem dL_law_357 : decode cL_law 357 = .ok (.iadd, 1) := by decide +kernel
theorem dL_law_358 : decode cL_law 358 = .ok (.iaload, 1) := by decide +kernel
theorem dL_law_359 : decode cL_law 359 = .ok (.aload_n 0, 1) := by decide +kernel
theorem dL_law_360 : decode cL_law 360 = .ok (.iload 4, 2) := by decide +kernel
theorem dL_law_362 : decode cL_law 362 = .ok (.iconst 2, 1) := by decide +kernel
theorem dL_law_363 : decode cL_law 363 = .ok (.iadd, 1) := by decide +kernel
theorem dL_law_364 : decode cL_law 364 = .ok (.iaload, 1) := by decide +kernel
theorem dL_law_365 : decode cL_law 365 = .ok (.aload_n 3, 1) := by decide +kernel
theorem dL_law_366 : decode cL_law 366 = .ok (.invokestatic 91, 3) := by decide +kernel
theorem dL_law_369 : decode cL_law 369 = .ok (.istore 5, 2) := by decide +kernel
theorem dL_law_371 : decode cL_law 371 = .ok (.aload_n 2, 1) := by decide +kernel
theorem dL_law_372 : decode cL_law 372 = .ok (.aload_n 0, 1) := by decide +kernel
theorem dL_law_373 : decode cL_law 373 = .ok (.iload 4, 2) := by decide +kernel
theorem dL_law_375 : decode cL_law 375 = .ok (.iconst 1, 1) := by decide +kernel
theorem dL_law_376 : decode cL_law 376 = .ok (.iadd, 1) := by decide +kernel
theorem dL_law_377 : decode cL_law 377 = .ok (.iaload, 1) := by decide +kernel
theorem dL_law_378 : decode cL_law 378 = .ok (.aload_n 0, 1) := by decide +kernel
theorem dL_law_379 : decode cL_law 379 = .ok (.iload 4, 2) := by decide +kernel
theorem dL_law_381 : decode cL_law 381 = .ok (.iconst 2, 1) := by decide +kernel
theorem dL_law_382 : decode cL_law 382 = .ok (.iadd, 1) := by decide +kernel
theorem dL_law_383 : decode cL_law 383 = .ok (.iaload, 1) := by decide +kernel
theorem dL_law_384 : decode cL_law 384 = .ok (.invokevirtual 93, 3) := by decide +kernel
theorem dL_law_387 : decode cL_law 387 = .ok (.istore 6, 2) := by decide +kernel
theorem dL_law_389 : decode cL_law 389 = .ok (.aload_n 2, 1) := by decide +kernel
theorem dL_law_390 : decode cL_law 390 = .ok (.invokevirtual 79, 3) := by decide +kernel
theorem dL_law_393 : decode cL_law 393 = .ok (.iload 5, 2) := by decide +kernel
theorem dL_law_395 : decode cL_law 395 = .ok (.if_icmp .eq 5, 3) := by decide +kernel
theorem dL_law_398 : decode cL_law 398 = .ok (.iconst 0, 1) := by decide +kernel
theorem dL_law_399 : decode cL_law 399 = .ok (.ireturn, 1) := by decide +kernel
theorem dL_law_400 : decode cL_law 400 = .ok (.iload 5, 2) := by decide +kernel
theorem dL_law_402 : decode cL_law 402 = .ok (.ifCond .ne 15, 3) := by decide +kernel
theorem dL_law_405 : decode cL_law 405 = .ok (.aload_n 3, 1) := by decide +kernel
theorem dL_law_406 : decode cL_law 406 = .ok (.iconst 0, 1) := by decide +kernel
theorem dL_law_407 : decode cL_law 407 = .ok (.laload, 1) := by decide +kernel
theorem dL_law_408 : decode cL_law 408 = .ok (.iload 6, 2) := by decide +kernel
theorem dL_law_410 : decode cL_law 410 = .ok (.i2l, 1) := by decide +kernel
theorem dL_law_411 : decode cL_law 411 = .ok (.lcmp, 1) := by decide +kernel
theorem dL_law_412 : decode cL_law 412 = .ok (.ifCond .eq 5, 3) := by decide +kernel
theorem dL_law_415 : decode cL_law 415 = .ok (.iconst 0, 1) := by decide +kernel
theorem dL_law_416 : decode cL_law 416 = .ok (.ireturn, 1) := by decide +kernel
theorem dL_law_417 : decode cL_law 417 = .ok (.goto 839, 3) := by decide +kernel
theorem dL_law_420 : decode cL_law 420 = .ok (.aload_n 1, 1) := by decide +kernel
theorem dL_law_421 : decode cL_law 421 = .ok (.aload_n 0, 1) := by decide +kernel
theorem dL_law_422 : decode cL_law 422 = .ok (.iload 4, 2) := by decide +kernel
theorem dL_law_424 : decode cL_law 424 = .ok (.iconst 1, 1) := by decide +kernel
theorem dL_law_425 : decode cL_law 425 = .ok (.iadd, 1) := by decide +kernel
theorem dL_law_426 : decode cL_law 426 = .ok (.iaload, 1) := by decide +kernel
theorem dL_law_427 : decode cL_law 427 = .ok (.aload_n 0, 1) := by decide +kernel
theorem dL_law_428 : decode cL_law 428 = .ok (.iload 4, 2) := by decide +kernel
theorem dL_law_430 : decode cL_law 430 = .ok (.iconst 2, 1) := by decide +kernel
theorem dL_law_431 : decode cL_law 431 = .ok (.iadd, 1) := by decide +kernel
theorem dL_law_432 : decode cL_law 432 = .ok (.iaload, 1) := by decide +kernel
theorem dL_law_433 : decode cL_law 433 = .ok (.aload_n 3, 1) := by decide +kernel
theorem dL_law_434 : decode cL_law 434 = .ok (.invokestatic 94, 3) := by decide +kernel
theorem dL_law_437 : decode cL_law 437 = .ok (.istore 5, 2) := by decide +kernel
theorem dL_law_439 : decode cL_law 439 = .ok (.aload_n 2, 1) := by decide +kernel
theorem dL_law_440 : decode cL_law 440 = .ok (.aload_n 0, 1) := by decide +kernel
theorem dL_law_441 : decode cL_law 441 = .ok (.iload 4, 2) := by decide +kernel
theorem dL_law_443 : decode cL_law 443 = .ok (.iconst 1, 1) := by decide +kernel
theorem dL_law_444 : decode cL_law 444 = .ok (.iadd, 1) := by decide +kernel
theorem dL_law_445 : decode cL_law 445 = .ok (.iaload, 1) := by decide +kernel
theorem dL_law_446 : decode cL_law 446 = .ok (.aload_n 0, 1) := by decide +kernel
theorem dL_law_447 : decode cL_law 447 = .ok (.iload 4, 2) := by decide +kernel
theorem dL_law_449 : decode cL_law 449 = .ok (.iconst 2, 1) := by decide +kernel
theorem dL_law_450 : decode cL_law 450 = .ok (.iadd, 1) := by decide +kernel
theorem dL_law_451 : decode cL_law 451 = .ok (.iaload, 1) := by decide +kernel
theorem dL_law_452 : decode cL_law 452 = .ok (.invokevirtual 96, 3) := by decide +kernel
theorem dL_law_455 : decode cL_law 455 = .ok (.istore 6, 2) := by decide +kernel
theorem dL_law_457 : decode cL_law 457 = .ok (.aload_n 2, 1) := by decide +kernel
theorem dL_law_458 : decode cL_law 458 = .ok (.invokevirtual 79, 3) := by decide +kernel
theorem dL_law_461 : decode cL_law 461 = .ok (.iload 5, 2) := by decide +kernel
theorem dL_law_463 : decode cL_law 463 = .ok (.if_icmp .eq 5, 3) := by decide +kernel
theorem dL_law_466 : decode cL_law 466 = .ok (.iconst 0, 1) := by decide +kernel
theorem dL_law_467 : decode cL_law 467 = .ok (.ireturn, 1) := by decide +kernel
theorem dL_law_468 : decode cL_law 468 = .ok (.iload 5, 2) := by decide +kernel
theorem dL_law_470 : decode cL_law 470 = .ok (.ifCond .ne 15, 3) := by decide +kernel
theorem dL_law_473 : decode cL_law 473 = .ok (.aload_n 3, 1) := by decide +kernel
theorem dL_law_474 : decode cL_law 474 = .ok (.iconst 0, 1) := by decide +kernel
theorem dL_law_475 : decode cL_law 475 = .ok (.laload, 1) := by decide +kernel
theorem dL_law_476 : decode cL_law 476 = .ok (.iload 6, 2) := by decide +kernel
theorem dL_law_478 : decode cL_law 478 = .ok (.i2l, 1) := by decide +kernel
theorem dL_law_479 : decode cL_law 479 = .ok (.lcmp, 1) := by decide +kernel
theorem dL_law_480 : decode cL_law 480 = .ok (.ifCond .eq 5, 3) := by decide +kernel
theorem dL_law_483 : decode cL_law 483 = .ok (.iconst 0, 1) := by decide +kernel
theorem dL_law_484 : decode cL_law 484 = .ok (.ireturn, 1) := by decide +kernel
theorem dL_law_485 : decode cL_law 485 = .ok (.goto 771, 3) := by decide +kernel
theorem dL_law_488 : decode cL_law 488 = .ok (.aload_n 1, 1) := by decide +kernel
theorem dL_law_489 : decode cL_law 489 = .ok (.aload_n 0, 1) := by decide +kernel
theorem dL_law_490 : decode cL_law 490 = .ok (.iload 4, 2) := by decide +kernel
end
section
theorem dL_law_492 : decode cL_law 492 = .ok (.iconst 1, 1) := by decide +kernel
theorem dL_law_493 : decode cL_law 493 = .ok (.iadd, 1) := by decide +kernel
theorem dL_law_494 : decode cL_law 494 = .ok (.iaload, 1) := by decide +kernel
theorem dL_law_495 : decode cL_law 495 = .ok (.aload_n 3, 1) := by decide +kernel
theorem dL_law_496 : decode cL_law 496 = .ok (.invokestatic 97, 3) := by decide +kernel
theorem dL_law_499 : decode cL_law 499 = .ok (.istore 5, 2) := by decide +kernel
theorem dL_law_501 : decode cL_law 501 = .ok (.aload_n 2, 1) := by decide +kernel
theorem dL_law_502 : decode cL_law 502 = .ok (.aload_n 0, 1) := by decide +kernel
theorem dL_law_503 : decode cL_law 503 = .ok (.iload 4, 2) := by decide +kernel
theorem dL_law_505 : decode cL_law 505 = .ok (.iconst 1, 1) := by decide +kernel
theorem dL_law_506 : decode cL_law 506 = .ok (.iadd, 1) := by decide +kernel
theorem dL_law_507 : decode cL_law 507 = .ok (.iaload, 1) := by decide +kernel
theorem dL_law_508 : decode cL_law 508 = .ok (.invokevirtual 99, 3) := by decide +kernel
theorem dL_law_511 : decode cL_law 511 = .ok (.istore 6, 2) := by decide +kernel
theorem dL_law_513 : decode cL_law 513 = .ok (.aload_n 2, 1) := by decide +kernel
theorem dL_law_514 : decode cL_law 514 = .ok (.invokevirtual 79, 3) := by decide +kernel
theorem dL_law_517 : decode cL_law 517 = .ok (.iload 5, 2) := by decide +kernel
theorem dL_law_519 : decode cL_law 519 = .ok (.if_icmp .eq 5, 3) := by decide +kernel
theorem dL_law_522 : decode cL_law 522 = .ok (.iconst 0, 1) := by decide +kernel
theorem dL_law_523 : decode cL_law 523 = .ok (.ireturn, 1) := by decide +kernel
theorem dL_law_524 : decode cL_law 524 = .ok (.iload 5, 2) := by decide +kernel
theorem dL_law_526 : decode cL_law 526 = .ok (.ifCond .ne 15, 3) := by decide +kernel
theorem dL_law_529 : decode cL_law 529 = .ok (.aload_n 3, 1) := by decide +kernel
theorem dL_law_530 : decode cL_law 530 = .ok (.iconst 0, 1) := by decide +kernel
theorem dL_law_531 : decode cL_law 531 = .ok (.laload, 1) := by decide +kernel
theorem dL_law_532 : decode cL_law 532 = .ok (.iload 6, 2) := by decide +kernel
theorem dL_law_534 : decode cL_law 534 = .ok (.i2l, 1) := by decide +kernel
theorem dL_law_535 : decode cL_law 535 = .ok (.lcmp, 1) := by decide +kernel
theorem dL_law_536 : decode cL_law 536 = .ok (.ifCond .eq 5, 3) := by decide +kernel
theorem dL_law_539 : decode cL_law 539 = .ok (.iconst 0, 1) := by decide +kernel
theorem dL_law_540 : decode cL_law 540 = .ok (.ireturn, 1) := by decide +kernel
theorem dL_law_541 : decode cL_law 541 = .ok (.goto 715, 3) := by decide +kernel
theorem dL_law_544 : decode cL_law 544 = .ok (.aload_n 1, 1) := by decide +kernel
theorem dL_law_545 : decode cL_law 545 = .ok (.aload_n 0, 1) := by decide +kernel
theorem dL_law_546 : decode cL_law 546 = .ok (.iload 4, 2) := by decide +kernel
theorem dL_law_548 : decode cL_law 548 = .ok (.iconst 1, 1) := by decide +kernel
theorem dL_law_549 : decode cL_law 549 = .ok (.iadd, 1) := by decide +kernel
theorem dL_law_550 : decode cL_law 550 = .ok (.iaload, 1) := by decide +kernel
theorem dL_law_551 : decode cL_law 551 = .ok (.aload_n 0, 1) := by decide +kernel
theorem dL_law_552 : decode cL_law 552 = .ok (.iload 4, 2) := by decide +kernel
theorem dL_law_554 : decode cL_law 554 = .ok (.iconst 2, 1) := by decide +kernel
theorem dL_law_555 : decode cL_law 555 = .ok (.iadd, 1) := by decide +kernel
theorem dL_law_556 : decode cL_law 556 = .ok (.iaload, 1) := by decide +kernel
theorem dL_law_557 : decode cL_law 557 = .ok (.aload_n 3, 1) := by decide +kernel
theorem dL_law_558 : decode cL_law 558 = .ok (.invokestatic 100, 3) := by decide +kernel
theorem dL_law_561 : decode cL_law 561 = .ok (.istore 5, 2) := by decide +kernel
theorem dL_law_563 : decode cL_law 563 = .ok (.aload_n 2, 1) := by decide +kernel
theorem dL_law_564 : decode cL_law 564 = .ok (.aload_n 0, 1) := by decide +kernel
theorem dL_law_565 : decode cL_law 565 = .ok (.iload 4, 2) := by decide +kernel
theorem dL_law_567 : decode cL_law 567 = .ok (.iconst 1, 1) := by decide +kernel
theorem dL_law_568 : decode cL_law 568 = .ok (.iadd, 1) := by decide +kernel
theorem dL_law_569 : decode cL_law 569 = .ok (.iaload, 1) := by decide +kernel
theorem dL_law_570 : decode cL_law 570 = .ok (.aload_n 0, 1) := by decide +kernel
theorem dL_law_571 : decode cL_law 571 = .ok (.iload 4, 2) := by decide +kernel
theorem dL_law_573 : decode cL_law 573 = .ok (.iconst 2, 1) := by decide +kernel
theorem dL_law_574 : decode cL_law 574 = .ok (.iadd, 1) := by decide +kernel
theorem dL_law_575 : decode cL_law 575 = .ok (.iaload, 1) := by decide +kernel
theorem dL_law_576 : decode cL_law 576 = .ok (.invokevirtual 102, 3) := by decide +kernel
theorem dL_law_579 : decode cL_law 579 = .ok (.istore 6, 2) := by decide +kernel
theorem dL_law_581 : decode cL_law 581 = .ok (.aload_n 2, 1) := by decide +kernel
theorem dL_law_582 : decode cL_law 582 = .ok (.invokevirtual 79, 3) := by decide +kernel
theorem dL_law_585 : decode cL_law 585 = .ok (.iload 5, 2) := by decide +kernel
theorem dL_law_587 : decode cL_law 587 = .ok (.if_icmp .eq 5, 3) := by decide +kernel
theorem dL_law_590 : decode cL_law 590 = .ok (.iconst 0, 1) := by decide +kernel
theorem dL_law_591 : decode cL_law 591 = .ok (.ireturn, 1) := by decide +kernel
theorem dL_law_592 : decode cL_law 592 = .ok (.iload 5, 2) := by decide +kernel
theorem dL_law_594 : decode cL_law 594 = .ok (.ifCond .ne 22, 3) := by decide +kernel
theorem dL_law_597 : decode cL_law 597 = .ok (.aload_n 3, 1) := by decide +kernel
theorem dL_law_598 : decode cL_law 598 = .ok (.iconst 0, 1) := by decide +kernel
theorem dL_law_599 : decode cL_law 599 = .ok (.laload, 1) := by decide +kernel
theorem dL_law_600 : decode cL_law 600 = .ok (.iload 6, 2) := by decide +kernel
theorem dL_law_602 : decode cL_law 602 = .ok (.ifCond .eq 7, 3) := by decide +kernel
theorem dL_law_605 : decode cL_law 605 = .ok (.lconst 1, 1) := by decide +kernel
theorem dL_law_606 : decode cL_law 606 = .ok (.goto 4, 3) := by decide +kernel
theorem dL_law_609 : decode cL_law 609 = .ok (.lconst 0, 1) := by decide +kernel
theorem dL_law_610 : decode cL_law 610 = .ok (.lcmp, 1) := by decide +kernel
theorem dL_law_611 : decode cL_law 611 = .ok (.ifCond .eq 5, 3) := by decide +kernel
theorem dL_law_614 : decode cL_law 614 = .ok (.iconst 0, 1) := by decide +kernel
theorem dL_law_615 : decode cL_law 615 = .ok (.ireturn, 1) := by decide +kernel
theorem dL_law_616 : decode cL_law 616 = .ok (.goto 640, 3) := by decide +kernel
theorem dL_law_619 : decode cL_law 619 = .ok (.aload_n 1, 1) := by decide +kernel
theorem dL_law_620 : decode cL_law 620 = .ok (.invokevirtual 103, 3) := by decide +kernel
theorem dL_law_623 : decode cL_law 623 = .ok (.aload_n 2, 1) := by decide +kernel
theorem dL_law_624 : decode cL_law 624 = .ok (.invokevirtual 106, 3) := by decide +kernel
theorem dL_law_627 : decode cL_law 627 = .ok (.if_icmp .eq 629, 3) := by decide +kernel
theorem dL_law_630 : decode cL_law 630 = .ok (.iconst 0, 1) := by decide +kernel
theorem dL_law_631 : decode cL_law 631 = .ok (.ireturn, 1) := by decide +kernel
theorem dL_law_632 : decode cL_law 632 = .ok (.aload_n 1, 1) := by decide +kernel
theorem dL_law_633 : decode cL_law 633 = .ok (.invokevirtual 107, 3) := by decide +kernel
theorem dL_law_636 : decode cL_law 636 = .ok (.aload_n 2, 1) := by decide +kernel
theorem dL_law_637 : decode cL_law 637 = .ok (.invokevirtual 110, 3) := by decide +kernel
theorem dL_law_640 : decode cL_law 640 = .ok (.if_icmp .eq 616, 3) := by decide +kernel
theorem dL_law_643 : decode cL_law 643 = .ok (.iconst 0, 1) := by decide +kernel
theorem dL_law_644 : decode cL_law 644 = .ok (.ireturn, 1) := by decide +kernel
theorem dL_law_645 : decode cL_law 645 = .ok (.aload_n 1, 1) := by decide +kernel
theorem dL_law_646 : decode cL_law 646 = .ok (.invokevirtual 111, 3) := by decide +kernel
theorem dL_law_649 : decode cL_law 649 = .ok (.aload_n 2, 1) := by decide +kernel
theorem dL_law_650 : decode cL_law 650 = .ok (.invokevirtual 114, 3) := by decide +kernel
theorem dL_law_653 : decode cL_law 653 = .ok (.if_icmp .eq 603, 3) := by decide +kernel
theorem dL_law_656 : decode cL_law 656 = .ok (.iconst 0, 1) := by decide +kernel
theorem dL_law_657 : decode cL_law 657 = .ok (.ireturn, 1) := by decide +kernel
theorem dL_law_658 : decode cL_law 658 = .ok (.aload_n 1, 1) := by decide +kernel
theorem dL_law_659 : decode cL_law 659 = .ok (.invokevirtual 115, 3) := by decide +kernel
theorem dL_law_662 : decode cL_law 662 = .ok (.aload_n 2, 1) := by decide +kernel
theorem dL_law_663 : decode cL_law 663 = .ok (.invokevirtual 118, 3) := by decide +kernel
theorem dL_law_666 : decode cL_law 666 = .ok (.if_icmp .eq 590, 3) := by decide +kernel
theorem dL_law_669 : decode cL_law 669 = .ok (.iconst 0, 1) := by decide +kernel
theorem dL_law_670 : decode cL_law 670 = .ok (.ireturn, 1) := by decide +kernel
theorem dL_law_671 : decode cL_law 671 = .ok (.aload_n 1, 1) := by decide +kernel
theorem dL_law_672 : decode cL_law 672 = .ok (.aload_n 0, 1) := by decide +kernel
theorem dL_law_673 : decode cL_law 673 = .ok (.iload 4, 2) := by decide +kernel
theorem dL_law_675 : decode cL_law 675 = .ok (.iconst 1, 1) := by decide +kernel
theorem dL_law_676 : decode cL_law 676 = .ok (.iadd, 1) := by decide +kernel
theorem dL_law_677 : decode cL_law 677 = .ok (.iaload, 1) := by decide +kernel
theorem dL_law_678 : decode cL_law 678 = .ok (.aload_n 3, 1) := by decide +kernel
theorem dL_law_679 : decode cL_law 679 = .ok (.invokestatic 119, 3) := by decide +kernel
theorem dL_law_682 : decode cL_law 682 = .ok (.istore 5, 2) := by decide +kernel
theorem dL_law_684 : decode cL_law 684 = .ok (.aload_n 2, 1) := by decide +kernel
theorem dL_law_685 : decode cL_law 685 = .ok (.aload_n 0, 1) := by decide +kernel
theorem dL_law_686 : decode cL_law 686 = .ok (.iload 4, 2) := by decide +kernel
theorem dL_law_688 : decode cL_law 688 = .ok (.iconst 1, 1) := by decide +kernel
theorem dL_law_689 : decode cL_law 689 = .ok (.iadd, 1) := by decide +kernel
theorem dL_law_690 : decode cL_law 690 = .ok (.iaload, 1) := by decide +kernel
theorem dL_law_691 : decode cL_law 691 = .ok (.invokevirtual 121, 3) := by decide +kernel
theorem dL_law_694 : decode cL_law 694 = .ok (.istore 6, 2) := by decide +kernel
theorem dL_law_696 : decode cL_law 696 = .ok (.aload_n 2, 1) := by decide +kernel
theorem dL_law_697 : decode cL_law 697 = .ok (.invokevirtual 79, 3) := by decide +kernel
theorem dL_law_700 : decode cL_law 700 = .ok (.iload 5, 2) := by decide +kernel
theorem dL_law_702 : decode cL_law 702 = .ok (.if_icmp .eq 5, 3) := by decide +kernel
theorem dL_law_705 : decode cL_law 705 = .ok (.iconst 0, 1) := by decide +kernel
theorem dL_law_706 : decode cL_law 706 = .ok (.ireturn, 1) := by decide +kernel
theorem dL_law_707 : decode cL_law 707 = .ok (.iload 5, 2) := by decide +kernel
theorem dL_law_709 : decode cL_law 709 = .ok (.ifCond .ne 15, 3) := by decide +kernel
theorem dL_law_712 : decode cL_law 712 = .ok (.aload_n 3, 1) := by decide +kernel
theorem dL_law_713 : decode cL_law 713 = .ok (.iconst 0, 1) := by decide +kernel
theorem dL_law_714 : decode cL_law 714 = .ok (.laload, 1) := by decide +kernel
theorem dL_law_715 : decode cL_law 715 = .ok (.iload 6, 2) := by decide +kernel
theorem dL_law_717 : decode cL_law 717 = .ok (.i2l, 1) := by decide +kernel
theorem dL_law_718 : decode cL_law 718 = .ok (.lcmp, 1) := by decide +kernel
theorem dL_law_719 : decode cL_law 719 = .ok (.ifCond .eq 5, 3) := by decide +kernel
theorem dL_law_722 : decode cL_law 722 = .ok (.iconst 0, 1) := by decide +kernel
theorem dL_law_723 : decode cL_law 723 = .ok (.ireturn, 1) := by decide +kernel
theorem dL_law_724 : decode cL_law 724 = .ok (.goto 532, 3) := by decide +kernel
theorem dL_law_727 : decode cL_law 727 = .ok (.aload_n 1, 1) := by decide +kernel
theorem dL_law_728 : decode cL_law 728 = .ok (.aload_n 0, 1) := by decide +kernel
theorem dL_law_729 : decode cL_law 729 = .ok (.iload 4, 2) := by decide +kernel
theorem dL_law_731 : decode cL_law 731 = .ok (.iconst 1, 1) := by decide +kernel
theorem dL_law_732 : decode cL_law 732 = .ok (.iadd, 1) := by decide +kernel
theorem dL_law_733 : decode cL_law 733 = .ok (.iaload, 1) := by decide +kernel
theorem dL_law_734 : decode cL_law 734 = .ok (.aload_n 3, 1) := by decide +kernel
theorem dL_law_735 : decode cL_law 735 = .ok (.invokestatic 122, 3) := by decide +kernel
theorem dL_law_738 : decode cL_law 738 = .ok (.istore 5, 2) := by decide +kernel
theorem dL_law_740 : decode cL_law 740 = .ok (.aload_n 2, 1) := by decide +kernel
theorem dL_law_741 : decode cL_law 741 = .ok (.aload_n 0, 1) := by decide +kernel
theorem dL_law_742 : decode cL_law 742 = .ok (.iload 4, 2) := by decide +kernel
theorem dL_law_744 : decode cL_law 744 = .ok (.iconst 1, 1) := by decide +kernel
theorem dL_law_745 : decode cL_law 745 = .ok (.iadd, 1) := by decide +kernel
theorem dL_law_746 : decode cL_law 746 = .ok (.iaload, 1) := by decide +kernel
theorem dL_law_747 : decode cL_law 747 = .ok (.invokevirtual 124, 3) := by decide +kernel
theorem dL_law_750 : decode cL_law 750 = .ok (.istore 6, 2) := by decide +kernel
theorem dL_law_752 : decode cL_law 752 = .ok (.aload_n 2, 1) := by decide +kernel
theorem dL_law_753 : decode cL_law 753 = .ok (.invokevirtual 79, 3) := by decide +kernel
theorem dL_law_756 : decode cL_law 756 = .ok (.iload 5, 2) := by decide +kernel
theorem dL_law_758 : decode cL_law 758 = .ok (.if_icmp .eq 5, 3) := by decide +kernel
theorem dL_law_761 : decode cL_law 761 = .ok (.iconst 0, 1) := by decide +kernel
theorem dL_law_762 : decode cL_law 762 = .ok (.ireturn, 1) := by decide +kernel
theorem dL_law_763 : decode cL_law 763 = .ok (.iload 5, 2) := by decide +kernel
theorem dL_law_765 : decode cL_law 765 = .ok (.ifCond .ne 15, 3) := by decide +kernel
theorem dL_law_768 : decode cL_law 768 = .ok (.aload_n 3, 1) := by decide +kernel
theorem dL_law_769 : decode cL_law 769 = .ok (.iconst 0, 1) := by decide +kernel
theorem dL_law_770 : decode cL_law 770 = .ok (.laload, 1) := by decide +kernel
theorem dL_law_771 : decode cL_law 771 = .ok (.iload 6, 2) := by decide +kernel
theorem dL_law_773 : decode cL_law 773 = .ok (.i2l, 1) := by decide +kernel
theorem dL_law_774 : decode cL_law 774 = .ok (.lcmp, 1) := by decide +kernel
theorem dL_law_775 : decode cL_law 775 = .ok (.ifCond .eq 5, 3) := by decide +kernel
theorem dL_law_778 : decode cL_law 778 = .ok (.iconst 0, 1) := by decide +kernel
theorem dL_law_779 : decode cL_law 779 = .ok (.ireturn, 1) := by decide +kernel
theorem dL_law_780 : decode cL_law 780 = .ok (.goto 476, 3) := by decide +kernel
theorem dL_law_783 : decode cL_law 783 = .ok (.aload_n 1, 1) := by decide +kernel
theorem dL_law_784 : decode cL_law 784 = .ok (.aload_n 0, 1) := by decide +kernel
theorem dL_law_785 : decode cL_law 785 = .ok (.iload 4, 2) := by decide +kernel
theorem dL_law_787 : decode cL_law 787 = .ok (.iconst 1, 1) := by decide +kernel
theorem dL_law_788 : decode cL_law 788 = .ok (.iadd, 1) := by decide +kernel
theorem dL_law_789 : decode cL_law 789 = .ok (.iaload, 1) := by decide +kernel
theorem dL_law_790 : decode cL_law 790 = .ok (.aload_n 3, 1) := by decide +kernel
theorem dL_law_791 : decode cL_law 791 = .ok (.invokestatic 125, 3) := by decide +kernel
theorem dL_law_794 : decode cL_law 794 = .ok (.istore 5, 2) := by decide +kernel
theorem dL_law_796 : decode cL_law 796 = .ok (.aload_n 2, 1) := by decide +kernel
theorem dL_law_797 : decode cL_law 797 = .ok (.aload_n 0, 1) := by decide +kernel
theorem dL_law_798 : decode cL_law 798 = .ok (.iload 4, 2) := by decide +kernel
theorem dL_law_800 : decode cL_law 800 = .ok (.iconst 1, 1) := by decide +kernel
theorem dL_law_801 : decode cL_law 801 = .ok (.iadd, 1) := by decide +kernel
theorem dL_law_802 : decode cL_law 802 = .ok (.iaload, 1) := by decide +kernel
theorem dL_law_803 : decode cL_law 803 = .ok (.invokevirtual 127, 3) := by decide +kernel
theorem dL_law_806 : decode cL_law 806 = .ok (.istore 6, 2) := by decide +kernel
theorem dL_law_808 : decode cL_law 808 = .ok (.aload_n 2, 1) := by decide +kernel
theorem dL_law_809 : decode cL_law 809 = .ok (.invokevirtual 79, 3) := by decide +kernel
theorem dL_law_812 : decode cL_law 812 = .ok (.iload 5, 2) := by decide +kernel
theorem dL_law_814 : decode cL_law 814 = .ok (.if_icmp .eq 5, 3) := by decide +kernel
theorem dL_law_817 : decode cL_law 817 = .ok (.iconst 0, 1) := by decide +kernel
theorem dL_law_818 : decode cL_law 818 = .ok (.ireturn, 1) := by decide +kernel
theorem dL_law_819 : decode cL_law 819 = .ok (.iload 5, 2) := by decide +kernel
theorem dL_law_821 : decode cL_law 821 = .ok (.ifCond .ne 15, 3) := by decide +kernel
theorem dL_law_824 : decode cL_law 824 = .ok (.aload_n 3, 1) := by decide +kernel
theorem dL_law_825 : decode cL_law 825 = .ok (.iconst 0, 1) := by decide +kernel
theorem dL_law_826 : decode cL_law 826 = .ok (.laload, 1) := by decide +kernel
theorem dL_law_827 : decode cL_law 827 = .ok (.iload 6, 2) := by decide +kernel
theorem dL_law_829 : decode cL_law 829 = .ok (.i2l, 1) := by decide +kernel
theorem dL_law_830 : decode cL_law 830 = .ok (.lcmp, 1) := by decide +kernel
theorem dL_law_831 : decode cL_law 831 = .ok (.ifCond .eq 5, 3) := by decide +kernel
theorem dL_law_834 : decode cL_law 834 = .ok (.iconst 0, 1) := by decide +kernel
theorem dL_law_835 : decode cL_law 835 = .ok (.ireturn, 1) := by decide +kernel
theorem dL_law_836 : decode cL_law 836 = .ok (.goto 420, 3) := by decide +kernel
theorem dL_law_839 : decode cL_law 839 = .ok (.aload_n 1, 1) := by decide +kernel
theorem dL_law_840 : decode cL_law 840 = .ok (.aload_n 0, 1) := by decide +kernel
theorem dL_law_841 : decode cL_law 841 = .ok (.iload 4, 2) := by decide +kernel
theorem dL_law_843 : decode cL_law 843 = .ok (.iconst 1, 1) := by decide +kernel
theorem dL_law_844 : decode cL_law 844 = .ok (.iadd, 1) := by decide +kernel
theorem dL_law_845 : decode cL_law 845 = .ok (.iaload, 1) := by decide +kernel
theorem dL_law_846 : decode cL_law 846 = .ok (.aload_n 3, 1) := by decide +kernel
theorem dL_law_847 : decode cL_law 847 = .ok (.invokestatic 128, 3) := by decide +kernel
theorem dL_law_850 : decode cL_law 850 = .ok (.istore 5, 2) := by decide +kernel
theorem dL_law_852 : decode cL_law 852 = .ok (.aload_n 2, 1) := by decide +kernel
theorem dL_law_853 : decode cL_law 853 = .ok (.aload_n 0, 1) := by decide +kernel
theorem dL_law_854 : decode cL_law 854 = .ok (.iload 4, 2) := by decide +kernel
theorem dL_law_856 : decode cL_law 856 = .ok (.iconst 1, 1) := by decide +kernel
theorem dL_law_857 : decode cL_law 857 = .ok (.iadd, 1) := by decide +kernel
theorem dL_law_858 : decode cL_law 858 = .ok (.iaload, 1) := by decide +kernel
theorem dL_law_859 : decode cL_law 859 = .ok (.invokevirtual 130, 3) := by decide +kernel
theorem dL_law_862 : decode cL_law 862 = .ok (.istore 6, 2) := by decide +kernel
theorem dL_law_864 : decode cL_law 864 = .ok (.aload_n 2, 1) := by decide +kernel
theorem dL_law_865 : decode cL_law 865 = .ok (.invokevirtual 79, 3) := by decide +kernel
theorem dL_law_868 : decode cL_law 868 = .ok (.iload 5, 2) := by decide +kernel
theorem dL_law_870 : decode cL_law 870 = .ok (.if_icmp .eq 5, 3) := by decide +kernel
theorem dL_law_873 : decode cL_law 873 = .ok (.iconst 0, 1) := by decide +kernel
theorem dL_law_874 : decode cL_law 874 = .ok (.ireturn, 1) := by decide +kernel
theorem dL_law_875 : decode cL_law 875 = .ok (.iload 5, 2) := by decide +kernel
theorem dL_law_877 : decode cL_law 877 = .ok (.ifCond .ne 15, 3) := by decide +kernel
theorem dL_law_880 : decode cL_law 880 = .ok (.aload_n 3, 1) := by decide +kernel
theorem dL_law_881 : decode cL_law 881 = .ok (.iconst 0, 1) := by decide +kernel
theorem dL_law_882 : decode cL_law 882 = .ok (.laload, 1) := by decide +kernel
theorem dL_law_883 : decode cL_law 883 = .ok (.iload 6, 2) := by decide +kernel
theorem dL_law_885 : decode cL_law 885 = .ok (.i2l, 1) := by decide +kernel
theorem dL_law_886 : decode cL_law 886 = .ok (.lcmp, 1) := by decide +kernel
theorem dL_law_887 : decode cL_law 887 = .ok (.ifCond .eq 5, 3) := by decide +kernel
theorem dL_law_890 : decode cL_law 890 = .ok (.iconst 0, 1) := by decide +kernel
theorem dL_law_891 : decode cL_law 891 = .ok (.ireturn, 1) := by decide +kernel
theorem dL_law_892 : decode cL_law 892 = .ok (.goto 364, 3) := by decide +kernel
theorem dL_law_895 : decode cL_law 895 = .ok (.aload_n 1, 1) := by decide +kernel
theorem dL_law_896 : decode cL_law 896 = .ok (.aload_n 0, 1) := by decide +kernel
end
section
theorem dL_law_897 : decode cL_law 897 = .ok (.iload 4, 2) := by decide +kernel
theorem dL_law_899 : decode cL_law 899 = .ok (.iconst 1, 1) := by decide +kernel
theorem dL_law_900 : decode cL_law 900 = .ok (.iadd, 1) := by decide +kernel
theorem dL_law_901 : decode cL_law 901 = .ok (.iaload, 1) := by decide +kernel
theorem dL_law_902 : decode cL_law 902 = .ok (.aload_n 3, 1) := by decide +kernel
theorem dL_law_903 : decode cL_law 903 = .ok (.invokestatic 131, 3) := by decide +kernel
theorem dL_law_906 : decode cL_law 906 = .ok (.istore 5, 2) := by decide +kernel
theorem dL_law_908 : decode cL_law 908 = .ok (.aload_n 2, 1) := by decide +kernel
theorem dL_law_909 : decode cL_law 909 = .ok (.aload_n 0, 1) := by decide +kernel
theorem dL_law_910 : decode cL_law 910 = .ok (.iload 4, 2) := by decide +kernel
theorem dL_law_912 : decode cL_law 912 = .ok (.iconst 1, 1) := by decide +kernel
theorem dL_law_913 : decode cL_law 913 = .ok (.iadd, 1) := by decide +kernel
theorem dL_law_914 : decode cL_law 914 = .ok (.iaload, 1) := by decide +kernel
theorem dL_law_915 : decode cL_law 915 = .ok (.invokevirtual 133, 3) := by decide +kernel
theorem dL_law_918 : decode cL_law 918 = .ok (.istore 6, 2) := by decide +kernel
theorem dL_law_920 : decode cL_law 920 = .ok (.aload_n 2, 1) := by decide +kernel
theorem dL_law_921 : decode cL_law 921 = .ok (.invokevirtual 79, 3) := by decide +kernel
theorem dL_law_924 : decode cL_law 924 = .ok (.iload 5, 2) := by decide +kernel
theorem dL_law_926 : decode cL_law 926 = .ok (.if_icmp .eq 5, 3) := by decide +kernel
theorem dL_law_929 : decode cL_law 929 = .ok (.iconst 0, 1) := by decide +kernel
theorem dL_law_930 : decode cL_law 930 = .ok (.ireturn, 1) := by decide +kernel
theorem dL_law_931 : decode cL_law 931 = .ok (.iload 5, 2) := by decide +kernel
theorem dL_law_933 : decode cL_law 933 = .ok (.ifCond .ne 15, 3) := by decide +kernel
theorem dL_law_936 : decode cL_law 936 = .ok (.aload_n 3, 1) := by decide +kernel
theorem dL_law_937 : decode cL_law 937 = .ok (.iconst 0, 1) := by decide +kernel
theorem dL_law_938 : decode cL_law 938 = .ok (.laload, 1) := by decide +kernel
theorem dL_law_939 : decode cL_law 939 = .ok (.iload 6, 2) := by decide +kernel
theorem dL_law_941 : decode cL_law 941 = .ok (.i2l, 1) := by decide +kernel
theorem dL_law_942 : decode cL_law 942 = .ok (.lcmp, 1) := by decide +kernel
theorem dL_law_943 : decode cL_law 943 = .ok (.ifCond .eq 5, 3) := by decide +kernel
theorem dL_law_946 : decode cL_law 946 = .ok (.iconst 0, 1) := by decide +kernel
theorem dL_law_947 : decode cL_law 947 = .ok (.ireturn, 1) := by decide +kernel
theorem dL_law_948 : decode cL_law 948 = .ok (.goto 308, 3) := by decide +kernel
theorem dL_law_951 : decode cL_law 951 = .ok (.aload_n 1, 1) := by decide +kernel
theorem dL_law_952 : decode cL_law 952 = .ok (.invokevirtual 134, 3) := by decide +kernel
theorem dL_law_955 : decode cL_law 955 = .ok (.aload_n 2, 1) := by decide +kernel
theorem dL_law_956 : decode cL_law 956 = .ok (.invokevirtual 137, 3) := by decide +kernel
theorem dL_law_959 : decode cL_law 959 = .ok (.if_icmp .eq 297, 3) := by decide +kernel
theorem dL_law_962 : decode cL_law 962 = .ok (.iconst 0, 1) := by decide +kernel
theorem dL_law_963 : decode cL_law 963 = .ok (.ireturn, 1) := by decide +kernel
theorem dL_law_964 : decode cL_law 964 = .ok (.aload_n 1, 1) := by decide +kernel
theorem dL_law_965 : decode cL_law 965 = .ok (.aload_n 0, 1) := by decide +kernel
theorem dL_law_966 : decode cL_law 966 = .ok (.iload 4, 2) := by decide +kernel
theorem dL_law_968 : decode cL_law 968 = .ok (.iconst 1, 1) := by decide +kernel
theorem dL_law_969 : decode cL_law 969 = .ok (.iadd, 1) := by decide +kernel
theorem dL_law_970 : decode cL_law 970 = .ok (.iaload, 1) := by decide +kernel
theorem dL_law_971 : decode cL_law 971 = .ok (.aload_n 3, 1) := by decide +kernel
theorem dL_law_972 : decode cL_law 972 = .ok (.invokestatic 138, 3) := by decide +kernel
theorem dL_law_975 : decode cL_law 975 = .ok (.istore 5, 2) := by decide +kernel
theorem dL_law_977 : decode cL_law 977 = .ok (.aload_n 2, 1) := by decide +kernel
theorem dL_law_978 : decode cL_law 978 = .ok (.aload_n 0, 1) := by decide +kernel
theorem dL_law_979 : decode cL_law 979 = .ok (.iload 4, 2) := by decide +kernel
theorem dL_law_981 : decode cL_law 981 = .ok (.iconst 1, 1) := by decide +kernel
theorem dL_law_982 : decode cL_law 982 = .ok (.iadd, 1) := by decide +kernel
theorem dL_law_983 : decode cL_law 983 = .ok (.iaload, 1) := by decide +kernel
theorem dL_law_984 : decode cL_law 984 = .ok (.invokevirtual 140, 3) := by decide +kernel
theorem dL_law_987 : decode cL_law 987 = .ok (.istore 6, 2) := by decide +kernel
theorem dL_law_989 : decode cL_law 989 = .ok (.aload_n 2, 1) := by decide +kernel
theorem dL_law_990 : decode cL_law 990 = .ok (.invokevirtual 79, 3) := by decide +kernel
theorem dL_law_993 : decode cL_law 993 = .ok (.iload 5, 2) := by decide +kernel
theorem dL_law_995 : decode cL_law 995 = .ok (.if_icmp .eq 5, 3) := by decide +kernel
theorem dL_law_998 : decode cL_law 998 = .ok (.iconst 0, 1) := by decide +kernel
theorem dL_law_999 : decode cL_law 999 = .ok (.ireturn, 1) := by decide +kernel
theorem dL_law_1000 : decode cL_law 1000 = .ok (.iload 5, 2) := by decide +kernel
theorem dL_law_1002 : decode cL_law 1002 = .ok (.ifCond .ne 15, 3) := by decide +kernel
theorem dL_law_1005 : decode cL_law 1005 = .ok (.aload_n 3, 1) := by decide +kernel
theorem dL_law_1006 : decode cL_law 1006 = .ok (.iconst 0, 1) := by decide +kernel
theorem dL_law_1007 : decode cL_law 1007 = .ok (.laload, 1) := by decide +kernel
theorem dL_law_1008 : decode cL_law 1008 = .ok (.iload 6, 2) := by decide +kernel
theorem dL_law_1010 : decode cL_law 1010 = .ok (.i2l, 1) := by decide +kernel
theorem dL_law_1011 : decode cL_law 1011 = .ok (.lcmp, 1) := by decide +kernel
theorem dL_law_1012 : decode cL_law 1012 = .ok (.ifCond .eq 5, 3) := by decide +kernel
theorem dL_law_1015 : decode cL_law 1015 = .ok (.iconst 0, 1) := by decide +kernel
theorem dL_law_1016 : decode cL_law 1016 = .ok (.ireturn, 1) := by decide +kernel
theorem dL_law_1017 : decode cL_law 1017 = .ok (.goto 239, 3) := by decide +kernel
theorem dL_law_1020 : decode cL_law 1020 = .ok (.aload_n 1, 1) := by decide +kernel
theorem dL_law_1021 : decode cL_law 1021 = .ok (.aload_n 0, 1) := by decide +kernel
theorem dL_law_1022 : decode cL_law 1022 = .ok (.iload 4, 2) := by decide +kernel
theorem dL_law_1024 : decode cL_law 1024 = .ok (.iconst 1, 1) := by decide +kernel
theorem dL_law_1025 : decode cL_law 1025 = .ok (.iadd, 1) := by decide +kernel
theorem dL_law_1026 : decode cL_law 1026 = .ok (.iaload, 1) := by decide +kernel
theorem dL_law_1027 : decode cL_law 1027 = .ok (.aload_n 3, 1) := by decide +kernel
theorem dL_law_1028 : decode cL_law 1028 = .ok (.invokestatic 141, 3) := by decide +kernel
theorem dL_law_1031 : decode cL_law 1031 = .ok (.istore 5, 2) := by decide +kernel
theorem dL_law_1033 : decode cL_law 1033 = .ok (.aload_n 2, 1) := by decide +kernel
theorem dL_law_1034 : decode cL_law 1034 = .ok (.aload_n 0, 1) := by decide +kernel
theorem dL_law_1035 : decode cL_law 1035 = .ok (.iload 4, 2) := by decide +kernel
theorem dL_law_1037 : decode cL_law 1037 = .ok (.iconst 1, 1) := by decide +kernel
theorem dL_law_1038 : decode cL_law 1038 = .ok (.iadd, 1) := by decide +kernel
theorem dL_law_1039 : decode cL_law 1039 = .ok (.iaload, 1) := by decide +kernel
theorem dL_law_1040 : decode cL_law 1040 = .ok (.invokevirtual 143, 3) := by decide +kernel
theorem dL_law_1043 : decode cL_law 1043 = .ok (.istore 6, 2) := by decide +kernel
theorem dL_law_1045 : decode cL_law 1045 = .ok (.aload_n 2, 1) := by decide +kernel
theorem dL_law_1046 : decode cL_law 1046 = .ok (.invokevirtual 79, 3) := by decide +kernel
theorem dL_law_1049 : decode cL_law 1049 = .ok (.iload 5, 2) := by decide +kernel
theorem dL_law_1051 : decode cL_law 1051 = .ok (.if_icmp .eq 5, 3) := by decide +kernel
theorem dL_law_1054 : decode cL_law 1054 = .ok (.iconst 0, 1) := by decide +kernel
theorem dL_law_1055 : decode cL_law 1055 = .ok (.ireturn, 1) := by decide +kernel
theorem dL_law_1056 : decode cL_law 1056 = .ok (.iload 5, 2) := by decide +kernel
theorem dL_law_1058 : decode cL_law 1058 = .ok (.ifCond .ne 15, 3) := by decide +kernel
theorem dL_law_1061 : decode cL_law 1061 = .ok (.aload_n 3, 1) := by decide +kernel
theorem dL_law_1062 : decode cL_law 1062 = .ok (.iconst 0, 1) := by decide +kernel
theorem dL_law_1063 : decode cL_law 1063 = .ok (.laload, 1) := by decide +kernel
theorem dL_law_1064 : decode cL_law 1064 = .ok (.iload 6, 2) := by decide +kernel
theorem dL_law_1066 : decode cL_law 1066 = .ok (.i2l, 1) := by decide +kernel
theorem dL_law_1067 : decode cL_law 1067 = .ok (.lcmp, 1) := by decide +kernel
theorem dL_law_1068 : decode cL_law 1068 = .ok (.ifCond .eq 5, 3) := by decide +kernel
theorem dL_law_1071 : decode cL_law 1071 = .ok (.iconst 0, 1) := by decide +kernel
theorem dL_law_1072 : decode cL_law 1072 = .ok (.ireturn, 1) := by decide +kernel
theorem dL_law_1073 : decode cL_law 1073 = .ok (.goto 183, 3) := by decide +kernel
theorem dL_law_1076 : decode cL_law 1076 = .ok (.aload_n 1, 1) := by decide +kernel
theorem dL_law_1077 : decode cL_law 1077 = .ok (.aload_n 0, 1) := by decide +kernel
theorem dL_law_1078 : decode cL_law 1078 = .ok (.iload 4, 2) := by decide +kernel
theorem dL_law_1080 : decode cL_law 1080 = .ok (.iconst 1, 1) := by decide +kernel
theorem dL_law_1081 : decode cL_law 1081 = .ok (.iadd, 1) := by decide +kernel
theorem dL_law_1082 : decode cL_law 1082 = .ok (.iaload, 1) := by decide +kernel
theorem dL_law_1083 : decode cL_law 1083 = .ok (.aload_n 3, 1) := by decide +kernel
theorem dL_law_1084 : decode cL_law 1084 = .ok (.invokestatic 144, 3) := by decide +kernel
theorem dL_law_1087 : decode cL_law 1087 = .ok (.istore 5, 2) := by decide +kernel
theorem dL_law_1089 : decode cL_law 1089 = .ok (.aload_n 2, 1) := by decide +kernel
theorem dL_law_1090 : decode cL_law 1090 = .ok (.aload_n 0, 1) := by decide +kernel
theorem dL_law_1091 : decode cL_law 1091 = .ok (.iload 4, 2) := by decide +kernel
theorem dL_law_1093 : decode cL_law 1093 = .ok (.iconst 1, 1) := by decide +kernel
theorem dL_law_1094 : decode cL_law 1094 = .ok (.iadd, 1) := by decide +kernel
theorem dL_law_1095 : decode cL_law 1095 = .ok (.iaload, 1) := by decide +kernel
theorem dL_law_1096 : decode cL_law 1096 = .ok (.invokevirtual 146, 3) := by decide +kernel
theorem dL_law_1099 : decode cL_law 1099 = .ok (.istore 6, 2) := by decide +kernel
theorem dL_law_1101 : decode cL_law 1101 = .ok (.aload_n 2, 1) := by decide +kernel
theorem dL_law_1102 : decode cL_law 1102 = .ok (.invokevirtual 79, 3) := by decide +kernel
theorem dL_law_1105 : decode cL_law 1105 = .ok (.iload 5, 2) := by decide +kernel
theorem dL_law_1107 : decode cL_law 1107 = .ok (.if_icmp .eq 5, 3) := by decide +kernel
theorem dL_law_1110 : decode cL_law 1110 = .ok (.iconst 0, 1) := by decide +kernel
theorem dL_law_1111 : decode cL_law 1111 = .ok (.ireturn, 1) := by decide +kernel
theorem dL_law_1112 : decode cL_law 1112 = .ok (.iload 5, 2) := by decide +kernel
theorem dL_law_1114 : decode cL_law 1114 = .ok (.ifCond .ne 15, 3) := by decide +kernel
theorem dL_law_1117 : decode cL_law 1117 = .ok (.aload_n 3, 1) := by decide +kernel
theorem dL_law_1118 : decode cL_law 1118 = .ok (.iconst 0, 1) := by decide +kernel
theorem dL_law_1119 : decode cL_law 1119 = .ok (.laload, 1) := by decide +kernel
theorem dL_law_1120 : decode cL_law 1120 = .ok (.iload 6, 2) := by decide +kernel
theorem dL_law_1122 : decode cL_law 1122 = .ok (.i2l, 1) := by decide +kernel
theorem dL_law_1123 : decode cL_law 1123 = .ok (.lcmp, 1) := by decide +kernel
theorem dL_law_1124 : decode cL_law 1124 = .ok (.ifCond .eq 5, 3) := by decide +kernel
theorem dL_law_1127 : decode cL_law 1127 = .ok (.iconst 0, 1) := by decide +kernel
theorem dL_law_1128 : decode cL_law 1128 = .ok (.ireturn, 1) := by decide +kernel
theorem dL_law_1129 : decode cL_law 1129 = .ok (.goto 127, 3) := by decide +kernel
theorem dL_law_1132 : decode cL_law 1132 = .ok (.aload_n 1, 1) := by decide +kernel
theorem dL_law_1133 : decode cL_law 1133 = .ok (.invokevirtual 147, 3) := by decide +kernel
theorem dL_law_1136 : decode cL_law 1136 = .ok (.aload_n 2, 1) := by decide +kernel
theorem dL_law_1137 : decode cL_law 1137 = .ok (.invokevirtual 150, 3) := by decide +kernel
theorem dL_law_1140 : decode cL_law 1140 = .ok (.if_icmp .eq 116, 3) := by decide +kernel
theorem dL_law_1143 : decode cL_law 1143 = .ok (.iconst 0, 1) := by decide +kernel
theorem dL_law_1144 : decode cL_law 1144 = .ok (.ireturn, 1) := by decide +kernel
theorem dL_law_1145 : decode cL_law 1145 = .ok (.aload_n 1, 1) := by decide +kernel
theorem dL_law_1146 : decode cL_law 1146 = .ok (.aload_n 0, 1) := by decide +kernel
theorem dL_law_1147 : decode cL_law 1147 = .ok (.iload 4, 2) := by decide +kernel
theorem dL_law_1149 : decode cL_law 1149 = .ok (.iconst 1, 1) := by decide +kernel
theorem dL_law_1150 : decode cL_law 1150 = .ok (.iadd, 1) := by decide +kernel
theorem dL_law_1151 : decode cL_law 1151 = .ok (.iaload, 1) := by decide +kernel
theorem dL_law_1152 : decode cL_law 1152 = .ok (.aload_n 3, 1) := by decide +kernel
theorem dL_law_1153 : decode cL_law 1153 = .ok (.invokestatic 151, 3) := by decide +kernel
theorem dL_law_1156 : decode cL_law 1156 = .ok (.istore 5, 2) := by decide +kernel
theorem dL_law_1158 : decode cL_law 1158 = .ok (.aload_n 2, 1) := by decide +kernel
theorem dL_law_1159 : decode cL_law 1159 = .ok (.aload_n 0, 1) := by decide +kernel
theorem dL_law_1160 : decode cL_law 1160 = .ok (.iload 4, 2) := by decide +kernel
theorem dL_law_1162 : decode cL_law 1162 = .ok (.iconst 1, 1) := by decide +kernel
theorem dL_law_1163 : decode cL_law 1163 = .ok (.iadd, 1) := by decide +kernel
theorem dL_law_1164 : decode cL_law 1164 = .ok (.iaload, 1) := by decide +kernel
theorem dL_law_1165 : decode cL_law 1165 = .ok (.invokevirtual 153, 3) := by decide +kernel
theorem dL_law_1168 : decode cL_law 1168 = .ok (.istore 6, 2) := by decide +kernel
theorem dL_law_1170 : decode cL_law 1170 = .ok (.aload_n 2, 1) := by decide +kernel
theorem dL_law_1171 : decode cL_law 1171 = .ok (.invokevirtual 79, 3) := by decide +kernel
theorem dL_law_1174 : decode cL_law 1174 = .ok (.iload 5, 2) := by decide +kernel
theorem dL_law_1176 : decode cL_law 1176 = .ok (.if_icmp .eq 5, 3) := by decide +kernel
theorem dL_law_1179 : decode cL_law 1179 = .ok (.iconst 0, 1) := by decide +kernel
theorem dL_law_1180 : decode cL_law 1180 = .ok (.ireturn, 1) := by decide +kernel
theorem dL_law_1181 : decode cL_law 1181 = .ok (.iload 5, 2) := by decide +kernel
theorem dL_law_1183 : decode cL_law 1183 = .ok (.ifCond .ne 15, 3) := by decide +kernel
theorem dL_law_1186 : decode cL_law 1186 = .ok (.aload_n 3, 1) := by decide +kernel
theorem dL_law_1187 : decode cL_law 1187 = .ok (.iconst 0, 1) := by decide +kernel
theorem dL_law_1188 : decode cL_law 1188 = .ok (.laload, 1) := by decide +kernel
theorem dL_law_1189 : decode cL_law 1189 = .ok (.iload 6, 2) := by decide +kernel
theorem dL_law_1191 : decode cL_law 1191 = .ok (.i2l, 1) := by decide +kernel
theorem dL_law_1192 : decode cL_law 1192 = .ok (.lcmp, 1) := by decide +kernel
theorem dL_law_1193 : decode cL_law 1193 = .ok (.ifCond .eq 5, 3) := by decide +kernel
theorem dL_law_1196 : decode cL_law 1196 = .ok (.iconst 0, 1) := by decide +kernel
theorem dL_law_1197 : decode cL_law 1197 = .ok (.ireturn, 1) := by decide +kernel
theorem dL_law_1198 : decode cL_law 1198 = .ok (.goto 58, 3) := by decide +kernel
theorem dL_law_1201 : decode cL_law 1201 = .ok (.aload_n 1, 1) := by decide +kernel
theorem dL_law_1202 : decode cL_law 1202 = .ok (.invokevirtual 154, 3) := by decide +kernel
theorem dL_law_1205 : decode cL_law 1205 = .ok (.dstore 5, 2) := by decide +kernel
theorem dL_law_1207 : decode cL_law 1207 = .ok (.aload_n 2, 1) := by decide +kernel
theorem dL_law_1208 : decode cL_law 1208 = .ok (.invokevirtual 158, 3) := by decide +kernel
theorem dL_law_1211 : decode cL_law 1211 = .ok (.dstore 7, 2) := by decide +kernel
theorem dL_law_1213 : decode cL_law 1213 = .ok (.dload 5, 2) := by decide +kernel
theorem dL_law_1215 : decode cL_law 1215 = .ok (.dload 7, 2) := by decide +kernel
theorem dL_law_1217 : decode cL_law 1217 = .ok (.dcmp .l, 1) := by decide +kernel
theorem dL_law_1218 : decode cL_law 1218 = .ok (.ifCond .eq 21, 3) := by decide +kernel
theorem dL_law_1221 : decode cL_law 1221 = .ok (.dload 5, 2) := by decide +kernel
theorem dL_law_1223 : decode cL_law 1223 = .ok (.dload 5, 2) := by decide +kernel
theorem dL_law_1225 : decode cL_law 1225 = .ok (.dcmp .l, 1) := by decide +kernel
theorem dL_law_1226 : decode cL_law 1226 = .ok (.ifCond .eq 11, 3) := by decide +kernel
theorem dL_law_1229 : decode cL_law 1229 = .ok (.dload 7, 2) := by decide +kernel
theorem dL_law_1231 : decode cL_law 1231 = .ok (.dload 7, 2) := by decide +kernel
theorem dL_law_1233 : decode cL_law 1233 = .ok (.dcmp .l, 1) := by decide +kernel
theorem dL_law_1234 : decode cL_law 1234 = .ok (.ifCond .ne 5, 3) := by decide +kernel
theorem dL_law_1237 : decode cL_law 1237 = .ok (.iconst 0, 1) := by decide +kernel
theorem dL_law_1238 : decode cL_law 1238 = .ok (.ireturn, 1) := by decide +kernel
theorem dL_law_1239 : decode cL_law 1239 = .ok (.goto 17, 3) := by decide +kernel
theorem dL_law_1242 : decode cL_law 1242 = .ok (.aload_n 1, 1) := by decide +kernel
theorem dL_law_1243 : decode cL_law 1243 = .ok (.invokevirtual 159, 3) := by decide +kernel
theorem dL_law_1246 : decode cL_law 1246 = .ok (.aload_n 2, 1) := by decide +kernel
theorem dL_law_1247 : decode cL_law 1247 = .ok (.invokevirtual 163, 3) := by decide +kernel
theorem dL_law_1250 : decode cL_law 1250 = .ok (.lcmp, 1) := by decide +kernel
theorem dL_law_1251 : decode cL_law 1251 = .ok (.ifCond .eq 5, 3) := by decide +kernel
theorem dL_law_1254 : decode cL_law 1254 = .ok (.iconst 0, 1) := by decide +kernel
theorem dL_law_1255 : decode cL_law 1255 = .ok (.ireturn, 1) := by decide +kernel
theorem dL_law_1256 : decode cL_law 1256 = .ok (.iinc 4 4, 3) := by decide +kernel
theorem dL_law_1259 : decode cL_law 1259 = .ok (.goto (-1236), 3) := by decide +kernel
theorem dL_law_1262 : decode cL_law 1262 = .ok (.iconst 1, 1) := by decide +kernel
theorem dL_law_1263 : decode cL_law 1263 = .ok (.ireturn, 1) := by decide +kernel
end
section
theorem dX0_init_0 : decode cX0_init 0 = .ok (.aload_n 0, 1) := by decide +kernel
theorem dX0_init_1 : decode cX0_init 1 = .ok (.invokespecial 3, 3) := by decide +kernel
theorem dX0_init_4 : decode cX0_init 4 = .ok (.aload_n 0, 1) := by decide +kernel
theorem dX0_init_5 : decode cX0_init 5 = .ok (.bipush 40, 2) := by decide +kernel
theorem dX0_init_7 : decode cX0_init 7 = .ok (.newarray .int, 2) := by decide +kernel
theorem dX0_init_9 : decode cX0_init 9 = .ok (.putfield 9, 3) := by decide +kernel
theorem dX0_init_12 : decode cX0_init 12 = .ok (.aload_n 0, 1) := by decide +kernel
theorem dX0_init_13 : decode cX0_init 13 = .ok (.bipush 40, 2) := by decide +kernel
theorem dX0_init_15 : decode cX0_init 15 = .ok (.newarray .int, 2) := by decide +kernel
theorem dX0_init_17 : decode cX0_init 17 = .ok (.putfield 15, 3) := by decide +kernel
theorem dX0_init_20 : decode cX0_init 20 = .ok (.aload_n 0, 1) := by decide +kernel
theorem dX0_init_21 : decode cX0_init 21 = .ok (.bipush 12, 2) := by decide +kernel
theorem dX0_init_23 : decode cX0_init 23 = .ok (.newarray .int, 2) := by decide +kernel
theorem dX0_init_25 : decode cX0_init 25 = .ok (.putfield 18, 3) := by decide +kernel
theorem dX0_init_28 : decode cX0_init 28 = .ok (.aload_n 0, 1) := by decide +kernel
theorem dX0_init_29 : decode cX0_init 29 = .ok (.iconst 4, 1) := by decide +kernel
theorem dX0_init_30 : decode cX0_init 30 = .ok (.newarray .int, 2) := by decide +kernel
theorem dX0_init_32 : decode cX0_init 32 = .ok (.putfield 21, 3) := by decide +kernel
theorem dX0_init_35 : decode cX0_init 35 = .ok (.aload_n 0, 1) := by decide +kernel
theorem dX0_init_36 : decode cX0_init 36 = .ok (.bipush 16, 2) := by decide +kernel
theorem dX0_init_38 : decode cX0_init 38 = .ok (.newarray .int, 2) := by decide +kernel
theorem dX0_init_40 : decode cX0_init 40 = .ok (.putfield 24, 3) := by decide +kernel
theorem dX0_init_43 : decode cX0_init 43 = .ok (.aload_n 0, 1) := by decide +kernel
theorem dX0_init_44 : decode cX0_init 44 = .ok (.bipush 16, 2) := by decide +kernel
theorem dX0_init_46 : decode cX0_init 46 = .ok (.newarray .boolean, 2) := by decide +kernel
theorem dX0_init_48 : decode cX0_init 48 = .ok (.putfield 27, 3) := by decide +kernel
theorem dX0_init_51 : decode cX0_init 51 = .ok (.aload_n 0, 1) := by decide +kernel
theorem dX0_init_52 : decode cX0_init 52 = .ok (.bipush 16, 2) := by decide +kernel
theorem dX0_init_54 : decode cX0_init 54 = .ok (.newarray .int, 2) := by decide +kernel
theorem dX0_init_56 : decode cX0_init 56 = .ok (.putfield 31, 3) := by decide +kernel
theorem dX0_init_59 : decode cX0_init 59 = .ok (.aload_n 0, 1) := by decide +kernel
theorem dX0_init_60 : decode cX0_init 60 = .ok (.bipush 16, 2) := by decide +kernel
theorem dX0_init_62 : decode cX0_init 62 = .ok (.newarray .int, 2) := by decide +kernel
theorem dX0_init_64 : decode cX0_init 64 = .ok (.putfield 34, 3) := by decide +kernel
theorem dX0_init_67 : decode cX0_init 67 = .ok (.aload_n 0, 1) := by decide +kernel
theorem dX0_init_68 : decode cX0_init 68 = .ok (.aload_n 1, 1) := by decide +kernel
theorem dX0_init_69 : decode cX0_init 69 = .ok (.putfield 37, 3) := by decide +kernel
theorem dX0_init_72 : decode cX0_init 72 = .ok (.return_, 1) := by decide +kernel
theorem dX0_greatest_0 : decode cX0_greatest 0 = .ok (.aload_n 0, 1) := by decide +kernel
theorem dX0_greatest_1 : decode cX0_greatest 1 = .ok (.iload_n 1, 1) := by decide +kernel
theorem dX0_greatest_2 : decode cX0_greatest 2 = .ok (.invokevirtual 41, 3) := by decide +kernel
theorem dX0_greatest_5 : decode cX0_greatest 5 = .ok (.aload_n 0, 1) := by decide +kernel
theorem dX0_greatest_6 : decode cX0_greatest 6 = .ok (.getfield 37, 3) := by decide +kernel
theorem dX0_greatest_9 : decode cX0_greatest 9 = .ok (.invokevirtual 45, 3) := by decide +kernel
theorem dX0_greatest_12 : decode cX0_greatest 12 = .ok (.istore_n 2, 1) := by decide +kernel
theorem dX0_greatest_13 : decode cX0_greatest 13 = .ok (.iconst 0, 1) := by decide +kernel
theorem dX0_greatest_14 : decode cX0_greatest 14 = .ok (.istore_n 3, 1) := by decide +kernel
theorem dX0_greatest_15 : decode cX0_greatest 15 = .ok (.iload_n 3, 1) := by decide +kernel
theorem dX0_greatest_16 : decode cX0_greatest 16 = .ok (.aload_n 0, 1) := by decide +kernel
theorem dX0_greatest_17 : decode cX0_greatest 17 = .ok (.getfield 37, 3) := by decide +kernel
theorem dX0_greatest_20 : decode cX0_greatest 20 = .ok (.getfield 51, 3) := by decide +kernel
theorem dX0_greatest_23 : decode cX0_greatest 23 = .ok (.if_icmp .ge 22, 3) := by decide +kernel
theorem dX0_greatest_26 : decode cX0_greatest 26 = .ok (.aload_n 0, 1) := by decide +kernel
theorem dX0_greatest_27 : decode cX0_greatest 27 = .ok (.invokevirtual 55, 3) := by decide +kernel
theorem dX0_greatest_30 : decode cX0_greatest 30 = .ok (.ifCond .ne 6, 3) := by decide +kernel
theorem dX0_greatest_33 : decode cX0_greatest 33 = .ok (.goto 12, 3) := by decide +kernel
theorem dX0_greatest_36 : decode cX0_greatest 36 = .ok (.iinc 2 1, 3) := by decide +kernel
theorem dX0_greatest_39 : decode cX0_greatest 39 = .ok (.iinc 3 1, 3) := by decide +kernel
theorem dX0_greatest_42 : decode cX0_greatest 42 = .ok (.goto (-27), 3) := by decide +kernel
theorem dX0_greatest_45 : decode cX0_greatest 45 = .ok (.iload_n 2, 1) := by decide +kernel
theorem dX0_greatest_46 : decode cX0_greatest 46 = .ok (.ireturn, 1) := by decide +kernel
theorem dX0_copyAssignment_0 : decode cX0_copyAssignment 0 = .ok (.iconst 0, 1) := by decide +kernel
theorem dX0_copyAssignment_1 : decode cX0_copyAssignment 1 = .ok (.istore_n 2, 1) := by decide +kernel
theorem dX0_copyAssignment_2 : decode cX0_copyAssignment 2 = .ok (.iload_n 2, 1) := by decide +kernel
theorem dX0_copyAssignment_3 : decode cX0_copyAssignment 3 = .ok (.aload_n 0, 1) := by decide +kernel
theorem dX0_copyAssignment_4 : decode cX0_copyAssignment 4 = .ok (.getfield 37, 3) := by decide +kernel
theorem dX0_copyAssignment_7 : decode cX0_copyAssignment 7 = .ok (.getfield 59, 3) := by decide +kernel
theorem dX0_copyAssignment_10 : decode cX0_copyAssignment 10 = .ok (.if_icmp .ge 24, 3) := by decide +kernel
theorem dX0_copyAssignment_13 : decode cX0_copyAssignment 13 = .ok (.aload_n 0, 1) := by decide +kernel
theorem dX0_copyAssignment_14 : decode cX0_copyAssignment 14 = .ok (.getfield 18, 3) := by decide +kernel
theorem dX0_copyAssignment_17 : decode cX0_copyAssignment 17 = .ok (.iload_n 2, 1) := by decide +kernel
theorem dX0_copyAssignment_18 : decode cX0_copyAssignment 18 = .ok (.aload_n 0, 1) := by decide +kernel
theorem dX0_copyAssignment_19 : decode cX0_copyAssignment 19 = .ok (.getfield 37, 3) := by decide +kernel
theorem dX0_copyAssignment_22 : decode cX0_copyAssignment 22 = .ok (.getfield 62, 3) := by decide +kernel
theorem dX0_copyAssignment_25 : decode cX0_copyAssignment 25 = .ok (.iload_n 2, 1) := by decide +kernel
theorem dX0_copyAssignment_26 : decode cX0_copyAssignment 26 = .ok (.iaload, 1) := by decide +kernel
theorem dX0_copyAssignment_27 : decode cX0_copyAssignment 27 = .ok (.iastore, 1) := by decide +kernel
theorem dX0_copyAssignment_28 : decode cX0_copyAssignment 28 = .ok (.iinc 2 1, 3) := by decide +kernel
theorem dX0_copyAssignment_31 : decode cX0_copyAssignment 31 = .ok (.goto (-29), 3) := by decide +kernel
theorem dX0_copyAssignment_34 : decode cX0_copyAssignment 34 = .ok (.iconst 0, 1) := by decide +kernel
theorem dX0_copyAssignment_35 : decode cX0_copyAssignment 35 = .ok (.istore_n 2, 1) := by decide +kernel
theorem dX0_copyAssignment_36 : decode cX0_copyAssignment 36 = .ok (.iload_n 2, 1) := by decide +kernel
theorem dX0_copyAssignment_37 : decode cX0_copyAssignment 37 = .ok (.iconst 4, 1) := by decide +kernel
theorem dX0_copyAssignment_38 : decode cX0_copyAssignment 38 = .ok (.if_icmp .ge 24, 3) := by decide +kernel
theorem dX0_copyAssignment_41 : decode cX0_copyAssignment 41 = .ok (.aload_n 0, 1) := by decide +kernel
theorem dX0_copyAssignment_42 : decode cX0_copyAssignment 42 = .ok (.getfield 21, 3) := by decide +kernel
theorem dX0_copyAssignment_45 : decode cX0_copyAssignment 45 = .ok (.iload_n 2, 1) := by decide +kernel
theorem dX0_copyAssignment_46 : decode cX0_copyAssignment 46 = .ok (.aload_n 0, 1) := by decide +kernel
theorem dX0_copyAssignment_47 : decode cX0_copyAssignment 47 = .ok (.getfield 37, 3) := by decide +kernel
theorem dX0_copyAssignment_50 : decode cX0_copyAssignment 50 = .ok (.getfield 63, 3) := by decide +kernel
theorem dX0_copyAssignment_53 : decode cX0_copyAssignment 53 = .ok (.iload_n 2, 1) := by decide +kernel
theorem dX0_copyAssignment_54 : decode cX0_copyAssignment 54 = .ok (.iaload, 1) := by decide +kernel
theorem dX0_copyAssignment_55 : decode cX0_copyAssignment 55 = .ok (.iastore, 1) := by decide +kernel
theorem dX0_copyAssignment_56 : decode cX0_copyAssignment 56 = .ok (.iinc 2 1, 3) := by decide +kernel
theorem dX0_copyAssignment_59 : decode cX0_copyAssignment 59 = .ok (.goto (-23), 3) := by decide +kernel
theorem dX0_copyAssignment_62 : decode cX0_copyAssignment 62 = .ok (.iconst 0, 1) := by decide +kernel
theorem dX0_copyAssignment_63 : decode cX0_copyAssignment 63 = .ok (.istore_n 2, 1) := by decide +kernel
theorem dX0_copyAssignment_64 : decode cX0_copyAssignment 64 = .ok (.iload_n 2, 1) := by decide +kernel
theorem dX0_copyAssignment_65 : decode cX0_copyAssignment 65 = .ok (.aload_n 0, 1) := by decide +kernel
theorem dX0_copyAssignment_66 : decode cX0_copyAssignment 66 = .ok (.getfield 37, 3) := by decide +kernel
theorem dX0_copyAssignment_69 : decode cX0_copyAssignment 69 = .ok (.getfield 51, 3) := by decide +kernel
theorem dX0_copyAssignment_72 : decode cX0_copyAssignment 72 = .ok (.if_icmp .ge 50, 3) := by decide +kernel
theorem dX0_copyAssignment_75 : decode cX0_copyAssignment 75 = .ok (.aload_n 0, 1) := by decide +kernel
theorem dX0_copyAssignment_76 : decode cX0_copyAssignment 76 = .ok (.getfield 9, 3) := by decide +kernel
theorem dX0_copyAssignment_79 : decode cX0_copyAssignment 79 = .ok (.iload_n 2, 1) := by decide +kernel
theorem dX0_copyAssignment_80 : decode cX0_copyAssignment 80 = .ok (.aload_n 0, 1) := by decide +kernel
theorem dX0_copyAssignment_81 : decode cX0_copyAssignment 81 = .ok (.iload_n 2, 1) := by decide +kernel
theorem dX0_copyAssignment_82 : decode cX0_copyAssignment 82 = .ok (.invokevirtual 66, 3) := by decide +kernel
theorem dX0_copyAssignment_85 : decode cX0_copyAssignment 85 = .ok (.iastore, 1) := by decide +kernel
theorem dX0_copyAssignment_86 : decode cX0_copyAssignment 86 = .ok (.aload_n 0, 1) := by decide +kernel
theorem dX0_copyAssignment_87 : decode cX0_copyAssignment 87 = .ok (.getfield 15, 3) := by decide +kernel
theorem dX0_copyAssignment_90 : decode cX0_copyAssignment 90 = .ok (.iload_n 2, 1) := by decide +kernel
theorem dX0_copyAssignment_91 : decode cX0_copyAssignment 91 = .ok (.iload_n 2, 1) := by decide +kernel
theorem dX0_copyAssignment_92 : decode cX0_copyAssignment 92 = .ok (.iload_n 1, 1) := by decide +kernel
theorem dX0_copyAssignment_93 : decode cX0_copyAssignment 93 = .ok (.if_icmp .ne 13, 3) := by decide +kernel
theorem dX0_copyAssignment_96 : decode cX0_copyAssignment 96 = .ok (.aload_n 0, 1) := by decide +kernel
theorem dX0_copyAssignment_97 : decode cX0_copyAssignment 97 = .ok (.getfield 37, 3) := by decide +kernel
theorem dX0_copyAssignment_100 : decode cX0_copyAssignment 100 = .ok (.invokevirtual 70, 3) := by decide +kernel
theorem dX0_copyAssignment_103 : decode cX0_copyAssignment 103 = .ok (.goto 12, 3) := by decide +kernel
theorem dX0_copyAssignment_106 : decode cX0_copyAssignment 106 = .ok (.aload_n 0, 1) := by decide +kernel
theorem dX0_copyAssignment_107 : decode cX0_copyAssignment 107 = .ok (.getfield 37, 3) := by decide +kernel
theorem dX0_copyAssignment_110 : decode cX0_copyAssignment 110 = .ok (.getfield 73, 3) := by decide +kernel
theorem dX0_copyAssignment_113 : decode cX0_copyAssignment 113 = .ok (.iload_n 2, 1) := by decide +kernel
theorem dX0_copyAssignment_114 : decode cX0_copyAssignment 114 = .ok (.iaload, 1) := by decide +kernel
theorem dX0_copyAssignment_115 : decode cX0_copyAssignment 115 = .ok (.iastore, 1) := by decide +kernel
theorem dX0_copyAssignment_116 : decode cX0_copyAssignment 116 = .ok (.iinc 2 1, 3) := by decide +kernel
theorem dX0_copyAssignment_119 : decode cX0_copyAssignment 119 = .ok (.goto (-55), 3) := by decide +kernel
theorem dX0_copyAssignment_122 : decode cX0_copyAssignment 122 = .ok (.return_, 1) := by decide +kernel
theorem dX0_startOf_0 : decode cX0_startOf 0 = .ok (.aload_n 0, 1) := by decide +kernel
theorem dX0_startOf_1 : decode cX0_startOf 1 = .ok (.getfield 37, 3) := by decide +kernel
theorem dX0_startOf_4 : decode cX0_startOf 4 = .ok (.iload_n 1, 1) := by decide +kernel
theorem dX0_startOf_5 : decode cX0_startOf 5 = .ok (.invokevirtual 74, 3) := by decide +kernel
theorem dX0_startOf_8 : decode cX0_startOf 8 = .ok (.ifCond .eq 5, 3) := by decide +kernel
theorem dX0_startOf_11 : decode cX0_startOf 11 = .ok (.iconst (-1), 1) := by decide +kernel
theorem dX0_startOf_12 : decode cX0_startOf 12 = .ok (.ireturn, 1) := by decide +kernel
theorem dX0_startOf_13 : decode cX0_startOf 13 = .ok (.aload_n 0, 1) := by decide +kernel
theorem dX0_startOf_14 : decode cX0_startOf 14 = .ok (.getfield 37, 3) := by decide +kernel
theorem dX0_startOf_17 : decode cX0_startOf 17 = .ok (.iload_n 1, 1) := by decide +kernel
theorem dX0_startOf_18 : decode cX0_startOf 18 = .ok (.invokevirtual 78, 3) := by decide +kernel
theorem dX0_startOf_21 : decode cX0_startOf 21 = .ok (.ifCond .eq 17, 3) := by decide +kernel
theorem dX0_startOf_24 : decode cX0_startOf 24 = .ok (.iconst 4, 1) := by decide +kernel
theorem dX0_startOf_25 : decode cX0_startOf 25 = .ok (.aload_n 0, 1) := by decide +kernel
theorem dX0_startOf_26 : decode cX0_startOf 26 = .ok (.getfield 37, 3) := by decide +kernel
theorem dX0_startOf_29 : decode cX0_startOf 29 = .ok (.getfield 81, 3) := by decide +kernel
theorem dX0_startOf_32 : decode cX0_startOf 32 = .ok (.iload_n 1, 1) := by decide +kernel
theorem dX0_startOf_33 : decode cX0_startOf 33 = .ok (.iaload, 1) := by decide +kernel
theorem dX0_startOf_34 : decode cX0_startOf 34 = .ok (.iadd, 1) := by decide +kernel
theorem dX0_startOf_35 : decode cX0_startOf 35 = .ok (.goto 12, 3) := by decide +kernel
theorem dX0_startOf_38 : decode cX0_startOf 38 = .ok (.aload_n 0, 1) := by decide +kernel
theorem dX0_startOf_39 : decode cX0_startOf 39 = .ok (.getfield 37, 3) := by decide +kernel
theorem dX0_startOf_42 : decode cX0_startOf 42 = .ok (.getfield 84, 3) := by decide +kernel
theorem dX0_startOf_45 : decode cX0_startOf 45 = .ok (.iload_n 1, 1) := by decide +kernel
theorem dX0_startOf_46 : decode cX0_startOf 46 = .ok (.iaload, 1) := by decide +kernel
theorem dX0_startOf_47 : decode cX0_startOf 47 = .ok (.ireturn, 1) := by decide +kernel
theorem dX0_augment_0 : decode cX0_augment 0 = .ok (.aload_n 0, 1) := by decide +kernel
theorem dX0_augment_1 : decode cX0_augment 1 = .ok (.invokevirtual 87, 3) := by decide +kernel
theorem dX0_augment_4 : decode cX0_augment 4 = .ok (.iconst 0, 1) := by decide +kernel
theorem dX0_augment_5 : decode cX0_augment 5 = .ok (.istore_n 1, 1) := by decide +kernel
theorem dX0_augment_6 : decode cX0_augment 6 = .ok (.iload_n 1, 1) := by decide +kernel
theorem dX0_augment_7 : decode cX0_augment 7 = .ok (.aload_n 0, 1) := by decide +kernel
theorem dX0_augment_8 : decode cX0_augment 8 = .ok (.getfield 90, 3) := by decide +kernel
theorem dX0_augment_11 : decode cX0_augment 11 = .ok (.if_icmp .ge 38, 3) := by decide +kernel
theorem dX0_augment_14 : decode cX0_augment 14 = .ok (.iload_n 1, 1) := by decide +kernel
theorem dX0_augment_15 : decode cX0_augment 15 = .ok (.bipush 16, 2) := by decide +kernel
theorem dX0_augment_17 : decode cX0_augment 17 = .ok (.if_icmp .ge 32, 3) := by decide +kernel
theorem dX0_augment_20 : decode cX0_augment 20 = .ok (.aload_n 0, 1) := by decide +kernel
theorem dX0_augment_21 : decode cX0_augment 21 = .ok (.aload_n 0, 1) := by decide +kernel
theorem dX0_augment_22 : decode cX0_augment 22 = .ok (.getfield 24, 3) := by decide +kernel
theorem dX0_augment_25 : decode cX0_augment 25 = .ok (.iload_n 1, 1) := by decide +kernel
theorem dX0_augment_26 : decode cX0_augment 26 = .ok (.iaload, 1) := by decide +kernel
theorem dX0_augment_27 : decode cX0_augment 27 = .ok (.invokevirtual 93, 3) := by decide +kernel
theorem dX0_augment_30 : decode cX0_augment 30 = .ok (.istore_n 2, 1) := by decide +kernel
theorem dX0_augment_31 : decode cX0_augment 31 = .ok (.iload_n 2, 1) := by decide +kernel
theorem dX0_augment_32 : decode cX0_augment 32 = .ok (.iconst (-1), 1) := by decide +kernel
theorem dX0_augment_33 : decode cX0_augment 33 = .ok (.if_icmp .eq 10, 3) := by decide +kernel
theorem dX0_augment_36 : decode cX0_augment 36 = .ok (.aload_n 0, 1) := by decide +kernel
theorem dX0_augment_37 : decode cX0_augment 37 = .ok (.iload_n 2, 1) := by decide +kernel
theorem dX0_augment_38 : decode cX0_augment 38 = .ok (.invokevirtual 96, 3) := by decide +kernel
theorem dX0_augment_41 : decode cX0_augment 41 = .ok (.iconst 1, 1) := by decide +kernel
theorem dX0_augment_42 : decode cX0_augment 42 = .ok (.ireturn, 1) := by decide +kernel
theorem dX0_augment_43 : decode cX0_augment 43 = .ok (.iinc 1 1, 3) := by decide +kernel
theorem dX0_augment_46 : decode cX0_augment 46 = .ok (.goto (-40), 3) := by decide +kernel
theorem dX0_augment_49 : decode cX0_augment 49 = .ok (.iconst 0, 1) := by decide +kernel
theorem dX0_augment_50 : decode cX0_augment 50 = .ok (.ireturn, 1) := by decide +kernel
theorem dX0_startAtGroups_0 : decode cX0_startAtGroups 0 = .ok (.aload_n 0, 1) := by decide +kernel
theorem dX0_startAtGroups_1 : decode cX0_startAtGroups 1 = .ok (.iconst 0, 1) := by decide +kernel
theorem dX0_startAtGroups_2 : decode cX0_startAtGroups 2 = .ok (.putfield 90, 3) := by decide +kernel
theorem dX0_startAtGroups_5 : decode cX0_startAtGroups 5 = .ok (.iconst 0, 1) := by decide +kernel
theorem dX0_startAtGroups_6 : decode cX0_startAtGroups 6 = .ok (.istore_n 1, 1) := by decide +kernel
theorem dX0_startAtGroups_7 : decode cX0_startAtGroups 7 = .ok (.iload_n 1, 1) := by decide +kernel
theorem dX0_startAtGroups_8 : decode cX0_startAtGroups 8 = .ok (.bipush 16, 2) := by decide +kernel
theorem dX0_startAtGroups_10 : decode cX0_startAtGroups 10 = .ok (.if_icmp .ge 16, 3) := by decide +kernel
theorem dX0_startAtGroups_13 : decode cX0_startAtGroups 13 = .ok (.aload_n 0, 1) := by decide +kernel
theorem dX0_startAtGroups_14 : decode cX0_startAtGroups 14 = .ok (.getfield 27, 3) := by decide +kernel
theorem dX0_startAtGroups_17 : decode cX0_startAtGroups 17 = .ok (.iload_n 1, 1) := by decide +kernel
theorem dX0_startAtGroups_18 : decode cX0_startAtGroups 18 = .ok (.iconst 0, 1) := by decide +kernel
theorem dX0_startAtGroups_19 : decode cX0_startAtGroups 19 = .ok (.bastore, 1) := by decide +kernel
theorem dX0_startAtGroups_20 : decode cX0_startAtGroups 20 = .ok (.iinc 1 1, 3) := by decide +kernel
theorem dX0_startAtGroups_23 : decode cX0_startAtGroups 23 = .ok (.goto (-16), 3) := by decide +kernel
theorem dX0_startAtGroups_26 : decode cX0_startAtGroups 26 = .ok (.iconst 0, 1) := by decide +kernel
theorem dX0_startAtGroups_27 : decode cX0_startAtGroups 27 = .ok (.istore_n 1, 1) := by decide +kernel
theorem dX0_startAtGroups_28 : decode cX0_startAtGroups 28 = .ok (.iload_n 1, 1) := by decide +kernel
theorem dX0_startAtGroups_29 : decode cX0_startAtGroups 29 = .ok (.iconst 4, 1) := by decide +kernel
theorem dX0_startAtGroups_30 : decode cX0_startAtGroups 30 = .ok (.if_icmp .ge 34, 3) := by decide +kernel
theorem dX0_startAtGroups_33 : decode cX0_startAtGroups 33 = .ok (.aload_n 0, 1) := by decide +kernel
theorem dX0_startAtGroups_34 : decode cX0_startAtGroups 34 = .ok (.getfield 21, 3) := by decide +kernel
theorem dX0_startAtGroups_37 : decode cX0_startAtGroups 37 = .ok (.iload_n 1, 1) := by decide +kernel
theorem dX0_startAtGroups_38 : decode cX0_startAtGroups 38 = .ok (.iaload, 1) := by decide +kernel
theorem dX0_startAtGroups_39 : decode cX0_startAtGroups 39 = .ok (.aload_n 0, 1) := by decide +kernel
theorem dX0_startAtGroups_40 : decode cX0_startAtGroups 40 = .ok (.getfield 37, 3) := by decide +kernel
theorem dX0_startAtGroups_43 : decode cX0_startAtGroups 43 = .ok (.getfield 99, 3) := by decide +kernel
theorem dX0_startAtGroups_46 : decode cX0_startAtGroups 46 = .ok (.iload_n 1, 1) := by decide +kernel
theorem dX0_startAtGroups_47 : decode cX0_startAtGroups 47 = .ok (.iaload, 1) := by decide +kernel
theorem dX0_startAtGroups_48 : decode cX0_startAtGroups 48 = .ok (.if_icmp .ge 10, 3) := by decide +kernel
theorem dX0_startAtGroups_51 : decode cX0_startAtGroups 51 = .ok (.aload_n 0, 1) := by decide +kernel
theorem dX0_startAtGroups_52 : decode cX0_startAtGroups 52 = .ok (.iload_n 1, 1) := by decide +kernel
theorem dX0_startAtGroups_53 : decode cX0_startAtGroups 53 = .ok (.iconst (-1), 1) := by decide +kernel
theorem dX0_startAtGroups_54 : decode cX0_startAtGroups 54 = .ok (.iconst (-1), 1) := by decide +kernel
theorem dX0_startAtGroups_55 : decode cX0_startAtGroups 55 = .ok (.invokevirtual 102, 3) := by decide +kernel
theorem dX0_startAtGroups_58 : decode cX0_startAtGroups 58 = .ok (.iinc 1 1, 3) := by decide +kernel
theorem dX0_startAtGroups_61 : decode cX0_startAtGroups 61 = .ok (.goto (-33), 3) := by decide +kernel
theorem dX0_startAtGroups_64 : decode cX0_startAtGroups 64 = .ok (.return_, 1) := by decide +kernel
theorem dX0_reach_0 : decode cX0_reach 0 = .ok (.aload_n 0, 1) := by decide +kernel
theorem dX0_reach_1 : decode cX0_reach 1 = .ok (.getfield 27, 3) := by decide +kernel
theorem dX0_reach_4 : decode cX0_reach 4 = .ok (.iload_n 1, 1) := by decide +kernel
theorem dX0_reach_5 : decode cX0_reach 5 = .ok (.baload, 1) := by decide +kernel
theorem dX0_reach_6 : decode cX0_reach 6 = .ok (.ifCond .ne 53, 3) := by decide +kernel
theorem dX0_reach_9 : decode cX0_reach 9 = .ok (.aload_n 0, 1) := by decide +kernel
theorem dX0_reach_10 : decode cX0_reach 10 = .ok (.getfield 90, 3) := by decide +kernel
theorem dX0_reach_13 : decode cX0_reach 13 = .ok (.bipush 16, 2) := by decide +kernel
theorem dX0_reach_15 : decode cX0_reach 15 = .ok (.if_icmp .ge 44, 3) := by decide +kernel
theorem dX0_reach_18 : decode cX0_reach 18 = .ok (.aload_n 0, 1) := by decide +kernel
theorem dX0_reach_19 : decode cX0_reach 19 = .ok (.getfield 27, 3) := by decide +kernel
theorem dX0_reach_22 : decode cX0_reach 22 = .ok (.iload_n 1, 1) := by decide +kernel
theorem dX0_reach_23 : decode cX0_reach 23 = .ok (.iconst 1, 1) := by decide +kernel
theorem dX0_reach_24 : decode cX0_reach 24 = .ok (.bastore, 1) := by decide +kernel
theorem dX0_reach_25 : decode cX0_reach 25 = .ok (.aload_n 0, 1) := by decide +kernel
theorem dX0_reach_26 : decode cX0_reach 26 = .ok (.getfield 31, 3) := by decide +kernel
theorem dX0_reach_29 : decode cX0_reach 29 = .ok (.iload_n 1, 1) := by decide +kernel
theorem dX0_reach_30 : decode cX0_reach 30 = .ok (.iload_n 2, 1) := by decide +kernel
theorem dX0_reach_31 : decode cX0_reach 31 = .ok (.iastore, 1) := by decide +kernel
theorem dX0_reach_32 : decode cX0_reach 32 = .ok (.aload_n 0, 1) := by decide +kernel
theorem dX0_reach_33 : decode cX0_reach 33 = .ok (.getfield 34, 3) := by decide +kernel
theorem dX0_reach_36 : decode cX0_reach 36 = .ok (.iload_n 1, 1) := by decide +kernel
theorem dX0_reach_37 : decode cX0_reach 37 = .ok (.iload_n 3, 1) := by decide +kernel
theorem dX0_reach_38 : decode cX0_reach 38 = .ok (.iastore, 1) := by decide +kernel
theorem dX0_reach_39 : decode cX0_reach 39 = .ok (.aload_n 0, 1) := by decide +kernel
theorem dX0_reach_40 : decode cX0_reach 40 = .ok (.getfield 24, 3) := by decide +kernel
theorem dX0_reach_43 : decode cX0_reach 43 = .ok (.aload_n 0, 1) := by decide +kernel
theorem dX0_reach_44 : decode cX0_reach 44 = .ok (.getfield 90, 3) := by decide +kernel
theorem dX0_reach_47 : decode cX0_reach 47 = .ok (.iload_n 1, 1) := by decide +kernel
theorem dX0_reach_48 : decode cX0_reach 48 = .ok (.iastore, 1) := by decide +kernel
theorem dX0_reach_49 : decode cX0_reach 49 = .ok (.aload_n 0, 1) := by decide +kernel
theorem dX0_reach_50 : decode cX0_reach 50 = .ok (.dup, 1) := by decide +kernel
theorem dX0_reach_51 : decode cX0_reach 51 = .ok (.getfield 90, 3) := by decide +kernel
theorem dX0_reach_54 : decode cX0_reach 54 = .ok (.iconst 1, 1) := by decide +kernel
theorem dX0_reach_55 : decode cX0_reach 55 = .ok (.iadd, 1) := by decide +kernel
theorem dX0_reach_56 : decode cX0_reach 56 = .ok (.putfield 90, 3) := by decide +kernel
theorem dX0_reach_59 : decode cX0_reach 59 = .ok (.return_, 1) := by decide +kernel
theorem dX0_leave_0 : decode cX0_leave 0 = .ok (.iconst 0, 1) := by decide +kernel
theorem dX0_leave_1 : decode cX0_leave 1 = .ok (.istore_n 2, 1) := by decide +kernel
theorem dX0_leave_2 : decode cX0_leave 2 = .ok (.iload_n 2, 1) := by decide +kernel
theorem dX0_leave_3 : decode cX0_leave 3 = .ok (.aload_n 0, 1) := by decide +kernel
theorem dX0_leave_4 : decode cX0_leave 4 = .ok (.getfield 37, 3) := by decide +kernel
theorem dX0_leave_7 : decode cX0_leave 7 = .ok (.getfield 51, 3) := by decide +kernel
theorem dX0_leave_10 : decode cX0_leave 10 = .ok (.if_icmp .ge 33, 3) := by decide +kernel
theorem dX0_leave_13 : decode cX0_leave 13 = .ok (.aload_n 0, 1) := by decide +kernel
theorem dX0_leave_14 : decode cX0_leave 14 = .ok (.getfield 9, 3) := by decide +kernel
theorem dX0_leave_17 : decode cX0_leave 17 = .ok (.iload_n 2, 1) := by decide +kernel
theorem dX0_leave_18 : decode cX0_leave 18 = .ok (.iaload, 1) := by decide +kernel
theorem dX0_leave_19 : decode cX0_leave 19 = .ok (.iload_n 1, 1) := by decide +kernel
theorem dX0_leave_20 : decode cX0_leave 20 = .ok (.if_icmp .ne 17, 3) := by decide +kernel
theorem dX0_leave_23 : decode cX0_leave 23 = .ok (.aload_n 0, 1) := by decide +kernel
theorem dX0_leave_24 : decode cX0_leave 24 = .ok (.iload_n 1, 1) := by decide +kernel
theorem dX0_leave_25 : decode cX0_leave 25 = .ok (.iload_n 2, 1) := by decide +kernel
theorem dX0_leave_26 : decode cX0_leave 26 = .ok (.invokevirtual 106, 3) := by decide +kernel
theorem dX0_leave_29 : decode cX0_leave 29 = .ok (.istore_n 3, 1) := by decide +kernel
theorem dX0_leave_30 : decode cX0_leave 30 = .ok (.iload_n 3, 1) := by decide +kernel
theorem dX0_leave_31 : decode cX0_leave 31 = .ok (.iconst (-1), 1) := by decide +kernel
theorem dX0_leave_32 : decode cX0_leave 32 = .ok (.if_icmp .eq 5, 3) := by decide +kernel
theorem dX0_leave_35 : decode cX0_leave 35 = .ok (.iload_n 3, 1) := by decide +kernel
theorem dX0_leave_36 : decode cX0_leave 36 = .ok (.ireturn, 1) := by decide +kernel
theorem dX0_leave_37 : decode cX0_leave 37 = .ok (.iinc 2 1, 3) := by decide +kernel
theorem dX0_leave_40 : decode cX0_leave 40 = .ok (.goto (-38), 3) := by decide +kernel
theorem dX0_leave_43 : decode cX0_leave 43 = .ok (.iconst (-1), 1) := by decide +kernel
theorem dX0_leave_44 : decode cX0_leave 44 = .ok (.ireturn, 1) := by decide +kernel
theorem dX0_leaveWith_0 : decode cX0_leaveWith 0 = .ok (.iconst 0, 1) := by decide +kernel
theorem dX0_leaveWith_1 : decode cX0_leaveWith 1 = .ok (.istore_n 3, 1) := by decide +kernel
theorem dX0_leaveWith_2 : decode cX0_leaveWith 2 = .ok (.iload_n 3, 1) := by decide +kernel
theorem dX0_leaveWith_3 : decode cX0_leaveWith 3 = .ok (.aload_n 0, 1) := by decide +kernel
theorem dX0_leaveWith_4 : decode cX0_leaveWith 4 = .ok (.getfield 37, 3) := by decide +kernel
theorem dX0_leaveWith_7 : decode cX0_leaveWith 7 = .ok (.getfield 59, 3) := by decide +kernel
theorem dX0_leaveWith_10 : decode cX0_leaveWith 10 = .ok (.if_icmp .ge 53, 3) := by decide +kernel
theorem dX0_leaveWith_13 : decode cX0_leaveWith 13 = .ok (.aload_n 0, 1) := by decide +kernel
theorem dX0_leaveWith_14 : decode cX0_leaveWith 14 = .ok (.getfield 15, 3) := by decide +kernel
theorem dX0_leaveWith_17 : decode cX0_leaveWith 17 = .ok (.iload_n 2, 1) := by decide +kernel
theorem dX0_leaveWith_18 : decode cX0_leaveWith 18 = .ok (.iaload, 1) := by decide +kernel
theorem dX0_leaveWith_19 : decode cX0_leaveWith 19 = .ok (.iload_n 3, 1) := by decide +kernel
theorem dX0_leaveWith_20 : decode cX0_leaveWith 20 = .ok (.invokestatic 110, 3) := by decide +kernel
theorem dX0_leaveWith_23 : decode cX0_leaveWith 23 = .ok (.ifCond .eq 34, 3) := by decide +kernel
theorem dX0_leaveWith_26 : decode cX0_leaveWith 26 = .ok (.aload_n 0, 1) := by decide +kernel
theorem dX0_leaveWith_27 : decode cX0_leaveWith 27 = .ok (.iconst 4, 1) := by decide +kernel
theorem dX0_leaveWith_28 : decode cX0_leaveWith 28 = .ok (.iload_n 3, 1) := by decide +kernel
theorem dX0_leaveWith_29 : decode cX0_leaveWith 29 = .ok (.iadd, 1) := by decide +kernel
theorem dX0_leaveWith_30 : decode cX0_leaveWith 30 = .ok (.iload_n 1, 1) := by decide +kernel
theorem dX0_leaveWith_31 : decode cX0_leaveWith 31 = .ok (.iload_n 2, 1) := by decide +kernel
theorem dX0_leaveWith_32 : decode cX0_leaveWith 32 = .ok (.invokevirtual 102, 3) := by decide +kernel
theorem dX0_leaveWith_35 : decode cX0_leaveWith 35 = .ok (.aload_n 0, 1) := by decide +kernel
theorem dX0_leaveWith_36 : decode cX0_leaveWith 36 = .ok (.getfield 18, 3) := by decide +kernel
theorem dX0_leaveWith_39 : decode cX0_leaveWith 39 = .ok (.iload_n 3, 1) := by decide +kernel
theorem dX0_leaveWith_40 : decode cX0_leaveWith 40 = .ok (.iaload, 1) := by decide +kernel
theorem dX0_leaveWith_41 : decode cX0_leaveWith 41 = .ok (.aload_n 0, 1) := by decide +kernel
theorem dX0_leaveWith_42 : decode cX0_leaveWith 42 = .ok (.getfield 37, 3) := by decide +kernel
theorem dX0_leaveWith_45 : decode cX0_leaveWith 45 = .ok (.getfield 114, 3) := by decide +kernel
theorem dX0_leaveWith_48 : decode cX0_leaveWith 48 = .ok (.iload_n 3, 1) := by decide +kernel
theorem dX0_leaveWith_49 : decode cX0_leaveWith 49 = .ok (.iaload, 1) := by decide +kernel
theorem dX0_leaveWith_50 : decode cX0_leaveWith 50 = .ok (.if_icmp .ge 7, 3) := by decide +kernel
theorem dX0_leaveWith_53 : decode cX0_leaveWith 53 = .ok (.iconst 4, 1) := by decide +kernel
theorem dX0_leaveWith_54 : decode cX0_leaveWith 54 = .ok (.iload_n 3, 1) := by decide +kernel
theorem dX0_leaveWith_55 : decode cX0_leaveWith 55 = .ok (.iadd, 1) := by decide +kernel
theorem dX0_leaveWith_56 : decode cX0_leaveWith 56 = .ok (.ireturn, 1) := by decide +kernel
theorem dX0_leaveWith_57 : decode cX0_leaveWith 57 = .ok (.iinc 3 1, 3) := by decide +kernel
theorem dX0_leaveWith_60 : decode cX0_leaveWith 60 = .ok (.goto (-58), 3) := by decide +kernel
theorem dX0_leaveWith_63 : decode cX0_leaveWith 63 = .ok (.iload_n 1, 1) := by decide +kernel
theorem dX0_leaveWith_64 : decode cX0_leaveWith 64 = .ok (.iconst 4, 1) := by decide +kernel
theorem dX0_leaveWith_65 : decode cX0_leaveWith 65 = .ok (.if_icmp .lt 18, 3) := by decide +kernel
theorem dX0_leaveWith_68 : decode cX0_leaveWith 68 = .ok (.aload_n 0, 1) := by decide +kernel
theorem dX0_leaveWith_69 : decode cX0_leaveWith 69 = .ok (.aload_n 0, 1) := by decide +kernel
theorem dX0_leaveWith_70 : decode cX0_leaveWith 70 = .ok (.getfield 37, 3) := by decide +kernel
theorem dX0_leaveWith_73 : decode cX0_leaveWith 73 = .ok (.getfield 84, 3) := by decide +kernel
theorem dX0_leaveWith_76 : decode cX0_leaveWith 76 = .ok (.iload_n 2, 1) := by decide +kernel
theorem dX0_leaveWith_77 : decode cX0_leaveWith 77 = .ok (.iaload, 1) := by decide +kernel
theorem dX0_leaveWith_78 : decode cX0_leaveWith 78 = .ok (.iload_n 1, 1) := by decide +kernel
theorem dX0_leaveWith_79 : decode cX0_leaveWith 79 = .ok (.iload_n 2, 1) := by decide +kernel
theorem dX0_leaveWith_80 : decode cX0_leaveWith 80 = .ok (.invokevirtual 102, 3) := by decide +kernel
theorem dX0_leaveWith_83 : decode cX0_leaveWith 83 = .ok (.iconst (-1), 1) := by decide +kernel
theorem dX0_leaveWith_84 : decode cX0_leaveWith 84 = .ok (.ireturn, 1) := by decide +kernel
theorem dX0_shiftAlong_0 : decode cX0_shiftAlong 0 = .ok (.aload_n 0, 1) := by decide +kernel
theorem dX0_shiftAlong_1 : decode cX0_shiftAlong 1 = .ok (.getfield 18, 3) := by decide +kernel
theorem dX0_shiftAlong_4 : decode cX0_shiftAlong 4 = .ok (.iload_n 1, 1) := by decide +kernel
theorem dX0_shiftAlong_5 : decode cX0_shiftAlong 5 = .ok (.iconst 4, 1) := by decide +kernel
theorem dX0_shiftAlong_6 : decode cX0_shiftAlong 6 = .ok (.isub, 1) := by decide +kernel
theorem dX0_shiftAlong_7 : decode cX0_shiftAlong 7 = .ok (.dup2, 1) := by decide +kernel
theorem dX0_shiftAlong_8 : decode cX0_shiftAlong 8 = .ok (.iaload, 1) := by decide +kernel
theorem dX0_shiftAlong_9 : decode cX0_shiftAlong 9 = .ok (.iconst 1, 1) := by decide +kernel
theorem dX0_shiftAlong_10 : decode cX0_shiftAlong 10 = .ok (.iadd, 1) := by decide +kernel
theorem dX0_shiftAlong_11 : decode cX0_shiftAlong 11 = .ok (.iastore, 1) := by decide +kernel
theorem dX0_shiftAlong_12 : decode cX0_shiftAlong 12 = .ok (.iload_n 1, 1) := by decide +kernel
theorem dX0_shiftAlong_13 : decode cX0_shiftAlong 13 = .ok (.istore_n 2, 1) := by decide +kernel
theorem dX0_shiftAlong_14 : decode cX0_shiftAlong 14 = .ok (.iconst 0, 1) := by decide +kernel
theorem dX0_shiftAlong_15 : decode cX0_shiftAlong 15 = .ok (.istore_n 3, 1) := by decide +kernel
theorem dX0_shiftAlong_16 : decode cX0_shiftAlong 16 = .ok (.iload_n 3, 1) := by decide +kernel
theorem dX0_shiftAlong_17 : decode cX0_shiftAlong 17 = .ok (.bipush 16, 2) := by decide +kernel
theorem dX0_shiftAlong_19 : decode cX0_shiftAlong 19 = .ok (.if_icmp .ge 38, 3) := by decide +kernel
theorem dX0_shiftAlong_22 : decode cX0_shiftAlong 22 = .ok (.aload_n 0, 1) := by decide +kernel
theorem dX0_shiftAlong_23 : decode cX0_shiftAlong 23 = .ok (.getfield 31, 3) := by decide +kernel
theorem dX0_shiftAlong_26 : decode cX0_shiftAlong 26 = .ok (.iload_n 2, 1) := by decide +kernel
theorem dX0_shiftAlong_27 : decode cX0_shiftAlong 27 = .ok (.iaload, 1) := by decide +kernel
theorem dX0_shiftAlong_28 : decode cX0_shiftAlong 28 = .ok (.iconst (-1), 1) := by decide +kernel
theorem dX0_shiftAlong_29 : decode cX0_shiftAlong 29 = .ok (.if_icmp .eq 28, 3) := by decide +kernel
theorem dX0_shiftAlong_32 : decode cX0_shiftAlong 32 = .ok (.aload_n 0, 1) := by decide +kernel
theorem dX0_shiftAlong_33 : decode cX0_shiftAlong 33 = .ok (.getfield 9, 3) := by decide +kernel
theorem dX0_shiftAlong_36 : decode cX0_shiftAlong 36 = .ok (.aload_n 0, 1) := by decide +kernel
theorem dX0_shiftAlong_37 : decode cX0_shiftAlong 37 = .ok (.getfield 34, 3) := by decide +kernel
theorem dX0_shiftAlong_40 : decode cX0_shiftAlong 40 = .ok (.iload_n 2, 1) := by decide +kernel
theorem dX0_shiftAlong_41 : decode cX0_shiftAlong 41 = .ok (.iaload, 1) := by decide +kernel
theorem dX0_shiftAlong_42 : decode cX0_shiftAlong 42 = .ok (.iload_n 2, 1) := by decide +kernel
theorem dX0_shiftAlong_43 : decode cX0_shiftAlong 43 = .ok (.iastore, 1) := by decide +kernel
theorem dX0_shiftAlong_44 : decode cX0_shiftAlong 44 = .ok (.aload_n 0, 1) := by decide +kernel
theorem dX0_shiftAlong_45 : decode cX0_shiftAlong 45 = .ok (.getfield 31, 3) := by decide +kernel
theorem dX0_shiftAlong_48 : decode cX0_shiftAlong 48 = .ok (.iload_n 2, 1) := by decide +kernel
theorem dX0_shiftAlong_49 : decode cX0_shiftAlong 49 = .ok (.iaload, 1) := by decide +kernel
theorem dX0_shiftAlong_50 : decode cX0_shiftAlong 50 = .ok (.istore_n 2, 1) := by decide +kernel
theorem dX0_shiftAlong_51 : decode cX0_shiftAlong 51 = .ok (.iinc 3 1, 3) := by decide +kernel
theorem dX0_shiftAlong_54 : decode cX0_shiftAlong 54 = .ok (.goto (-38), 3) := by decide +kernel
theorem dX0_shiftAlong_57 : decode cX0_shiftAlong 57 = .ok (.aload_n 0, 1) := by decide +kernel
theorem dX0_shiftAlong_58 : decode cX0_shiftAlong 58 = .ok (.getfield 21, 3) := by decide +kernel
theorem dX0_shiftAlong_61 : decode cX0_shiftAlong 61 = .ok (.iload_n 2, 1) := by decide +kernel
theorem dX0_shiftAlong_62 : decode cX0_shiftAlong 62 = .ok (.dup2, 1) := by decide +kernel
theorem dX0_shiftAlong_63 : decode cX0_shiftAlong 63 = .ok (.iaload, 1) := by decide +kernel
theorem dX0_shiftAlong_64 : decode cX0_shiftAlong 64 = .ok (.iconst 1, 1) := by decide +kernel
theorem dX0_shiftAlong_65 : decode cX0_shiftAlong 65 = .ok (.iadd, 1) := by decide +kernel
theorem dX0_shiftAlong_66 : decode cX0_shiftAlong 66 = .ok (.iastore, 1) := by decide +kernel
theorem dX0_shiftAlong_67 : decode cX0_shiftAlong 67 = .ok (.return_, 1) := by decide +kernel
end
section
theorem dX1_init_0 : decode cX1_init 0 = .ok (.aload_n 0, 1) := by decide +kernel
theorem dX1_init_1 : decode cX1_init 1 = .ok (.invokespecial 3, 3) := by decide +kernel
theorem dX1_init_4 : decode cX1_init 4 = .ok (.aload_n 0, 1) := by decide +kernel
theorem dX1_init_5 : decode cX1_init 5 = .ok (.sipush 200, 3) := by decide +kernel
theorem dX1_init_8 : decode cX1_init 8 = .ok (.newarray .int, 2) := by decide +kernel
theorem dX1_init_10 : decode cX1_init 10 = .ok (.putfield 11, 3) := by decide +kernel
theorem dX1_init_13 : decode cX1_init 13 = .ok (.aload_n 0, 1) := by decide +kernel
theorem dX1_init_14 : decode cX1_init 14 = .ok (.sipush 200, 3) := by decide +kernel
theorem dX1_init_17 : decode cX1_init 17 = .ok (.newarray .int, 2) := by decide +kernel
theorem dX1_init_19 : decode cX1_init 19 = .ok (.putfield 15, 3) := by decide +kernel
theorem dX1_init_22 : decode cX1_init 22 = .ok (.return_, 1) := by decide +kernel
theorem dX1_clear_0 : decode cX1_clear 0 = .ok (.aload_n 0, 1) := by decide +kernel
theorem dX1_clear_1 : decode cX1_clear 1 = .ok (.iconst 0, 1) := by decide +kernel
theorem dX1_clear_2 : decode cX1_clear 2 = .ok (.putfield 18, 3) := by decide +kernel
theorem dX1_clear_5 : decode cX1_clear 5 = .ok (.return_, 1) := by decide +kernel
theorem dX1_add_0 : decode cX1_add 0 = .ok (.aload_n 0, 1) := by decide +kernel
theorem dX1_add_1 : decode cX1_add 1 = .ok (.getfield 18, 3) := by decide +kernel
theorem dX1_add_4 : decode cX1_add 4 = .ok (.sipush 200, 3) := by decide +kernel
theorem dX1_add_7 : decode cX1_add 7 = .ok (.if_icmp .ge 33, 3) := by decide +kernel
theorem dX1_add_10 : decode cX1_add 10 = .ok (.aload_n 0, 1) := by decide +kernel
theorem dX1_add_11 : decode cX1_add 11 = .ok (.getfield 11, 3) := by decide +kernel
theorem dX1_add_14 : decode cX1_add 14 = .ok (.aload_n 0, 1) := by decide +kernel
theorem dX1_add_15 : decode cX1_add 15 = .ok (.getfield 18, 3) := by decide +kernel
theorem dX1_add_18 : decode cX1_add 18 = .ok (.iload_n 1, 1) := by decide +kernel
theorem dX1_add_19 : decode cX1_add 19 = .ok (.iastore, 1) := by decide +kernel
theorem dX1_add_20 : decode cX1_add 20 = .ok (.aload_n 0, 1) := by decide +kernel
theorem dX1_add_21 : decode cX1_add 21 = .ok (.getfield 15, 3) := by decide +kernel
theorem dX1_add_24 : decode cX1_add 24 = .ok (.aload_n 0, 1) := by decide +kernel
theorem dX1_add_25 : decode cX1_add 25 = .ok (.getfield 18, 3) := by decide +kernel
theorem dX1_add_28 : decode cX1_add 28 = .ok (.iload_n 2, 1) := by decide +kernel
theorem dX1_add_29 : decode cX1_add 29 = .ok (.iastore, 1) := by decide +kernel
theorem dX1_add_30 : decode cX1_add 30 = .ok (.aload_n 0, 1) := by decide +kernel
theorem dX1_add_31 : decode cX1_add 31 = .ok (.dup, 1) := by decide +kernel
theorem dX1_add_32 : decode cX1_add 32 = .ok (.getfield 18, 3) := by decide +kernel
theorem dX1_add_35 : decode cX1_add 35 = .ok (.iconst 1, 1) := by decide +kernel
theorem dX1_add_36 : decode cX1_add 36 = .ok (.iadd, 1) := by decide +kernel
theorem dX1_add_37 : decode cX1_add 37 = .ok (.putfield 18, 3) := by decide +kernel
theorem dX1_add_40 : decode cX1_add 40 = .ok (.return_, 1) := by decide +kernel
end
section
theorem dX2_init_0 : decode cX2_init 0 = .ok (.aload_n 0, 1) := by decide +kernel
theorem dX2_init_1 : decode cX2_init 1 = .ok (.invokespecial 3, 3) := by decide +kernel
theorem dX2_init_4 : decode cX2_init 4 = .ok (.aload_n 0, 1) := by decide +kernel
theorem dX2_init_5 : decode cX2_init 5 = .ok (.bipush 12, 2) := by decide +kernel
theorem dX2_init_7 : decode cX2_init 7 = .ok (.newarray .int, 2) := by decide +kernel
theorem dX2_init_9 : decode cX2_init 9 = .ok (.putfield 9, 3) := by decide +kernel
theorem dX2_init_12 : decode cX2_init 12 = .ok (.aload_n 0, 1) := by decide +kernel
theorem dX2_init_13 : decode cX2_init 13 = .ok (.bipush 13, 2) := by decide +kernel
theorem dX2_init_15 : decode cX2_init 15 = .ok (.newarray .int, 2) := by decide +kernel
theorem dX2_init_17 : decode cX2_init 17 = .ok (.putfield 15, 3) := by decide +kernel
theorem dX2_init_20 : decode cX2_init 20 = .ok (.aload_n 0, 1) := by decide +kernel
theorem dX2_init_21 : decode cX2_init 21 = .ok (.bipush 12, 2) := by decide +kernel
theorem dX2_init_23 : decode cX2_init 23 = .ok (.newarray .int, 2) := by decide +kernel
theorem dX2_init_25 : decode cX2_init 25 = .ok (.putfield 18, 3) := by decide +kernel
theorem dX2_init_28 : decode cX2_init 28 = .ok (.aload_n 0, 1) := by decide +kernel
theorem dX2_init_29 : decode cX2_init 29 = .ok (.bipush 12, 2) := by decide +kernel
theorem dX2_init_31 : decode cX2_init 31 = .ok (.newarray .int, 2) := by decide +kernel
theorem dX2_init_33 : decode cX2_init 33 = .ok (.putfield 21, 3) := by decide +kernel
theorem dX2_init_36 : decode cX2_init 36 = .ok (.aload_n 0, 1) := by decide +kernel
theorem dX2_init_37 : decode cX2_init 37 = .ok (.aload_n 1, 1) := by decide +kernel
theorem dX2_init_38 : decode cX2_init 38 = .ok (.putfield 24, 3) := by decide +kernel
theorem dX2_init_41 : decode cX2_init 41 = .ok (.return_, 1) := by decide +kernel
theorem dX2_search_0 : decode cX2_search 0 = .ok (.aload_n 0, 1) := by decide +kernel
theorem dX2_search_1 : decode cX2_search 1 = .ok (.invokevirtual 28, 3) := by decide +kernel
theorem dX2_search_4 : decode cX2_search 4 = .ok (.aload_n 0, 1) := by decide +kernel
theorem dX2_search_5 : decode cX2_search 5 = .ok (.invokevirtual 31, 3) := by decide +kernel
theorem dX2_search_8 : decode cX2_search 8 = .ok (.aload_n 0, 1) := by decide +kernel
theorem dX2_search_9 : decode cX2_search 9 = .ok (.aload_n 0, 1) := by decide +kernel
theorem dX2_search_10 : decode cX2_search 10 = .ok (.aload_n 0, 1) := by decide +kernel
theorem dX2_search_11 : decode cX2_search 11 = .ok (.getfield 24, 3) := by decide +kernel
theorem dX2_search_14 : decode cX2_search 14 = .ok (.getfield 34, 3) := by decide +kernel
theorem dX2_search_17 : decode cX2_search 17 = .ok (.iload_n 1, 1) := by decide +kernel
theorem dX2_search_18 : decode cX2_search 18 = .ok (.iaload, 1) := by decide +kernel
theorem dX2_search_19 : decode cX2_search 19 = .ok (.invokevirtual 39, 3) := by decide +kernel
theorem dX2_search_22 : decode cX2_search 22 = .ok (.putfield 43, 3) := by decide +kernel
theorem dX2_search_25 : decode cX2_search 25 = .ok (.aload_n 0, 1) := by decide +kernel
theorem dX2_search_26 : decode cX2_search 26 = .ok (.aload_n 0, 1) := by decide +kernel
theorem dX2_search_27 : decode cX2_search 27 = .ok (.getfield 24, 3) := by decide +kernel
theorem dX2_search_30 : decode cX2_search 30 = .ok (.getfield 34, 3) := by decide +kernel
theorem dX2_search_33 : decode cX2_search 33 = .ok (.iload_n 1, 1) := by decide +kernel
theorem dX2_search_34 : decode cX2_search 34 = .ok (.iaload, 1) := by decide +kernel
theorem dX2_search_35 : decode cX2_search 35 = .ok (.invokevirtual 47, 3) := by decide +kernel
theorem dX2_search_38 : decode cX2_search 38 = .ok (.ifCond .ne 8, 3) := by decide +kernel
theorem dX2_search_41 : decode cX2_search 41 = .ok (.aload_n 0, 1) := by decide +kernel
theorem dX2_search_42 : decode cX2_search 42 = .ok (.iconst 0, 1) := by decide +kernel
theorem dX2_search_43 : decode cX2_search 43 = .ok (.putfield 43, 3) := by decide +kernel
theorem dX2_search_46 : decode cX2_search 46 = .ok (.aload_n 0, 1) := by decide +kernel
theorem dX2_search_47 : decode cX2_search 47 = .ok (.getfield 43, 3) := by decide +kernel
theorem dX2_search_50 : decode cX2_search 50 = .ok (.ireturn, 1) := by decide +kernel
theorem dX2_collectSuccessors_0 : decode cX2_collectSuccessors 0 = .ok (.iconst 0, 1) := by decide +kernel
theorem dX2_collectSuccessors_1 : decode cX2_collectSuccessors 1 = .ok (.istore_n 1, 1) := by decide +kernel
theorem dX2_collectSuccessors_2 : decode cX2_collectSuccessors 2 = .ok (.iload_n 1, 1) := by decide +kernel
theorem dX2_collectSuccessors_3 : decode cX2_collectSuccessors 3 = .ok (.aload_n 0, 1) := by decide +kernel
theorem dX2_collectSuccessors_4 : decode cX2_collectSuccessors 4 = .ok (.getfield 24, 3) := by decide +kernel
theorem dX2_collectSuccessors_7 : decode cX2_collectSuccessors 7 = .ok (.getfield 51, 3) := by decide +kernel
theorem dX2_collectSuccessors_10 : decode cX2_collectSuccessors 10 = .ok (.if_icmp .ge 16, 3) := by decide +kernel
theorem dX2_collectSuccessors_13 : decode cX2_collectSuccessors 13 = .ok (.aload_n 0, 1) := by decide +kernel
theorem dX2_collectSuccessors_14 : decode cX2_collectSuccessors 14 = .ok (.getfield 9, 3) := by decide +kernel
theorem dX2_collectSuccessors_17 : decode cX2_collectSuccessors 17 = .ok (.iload_n 1, 1) := by decide +kernel
theorem dX2_collectSuccessors_18 : decode cX2_collectSuccessors 18 = .ok (.iconst 0, 1) := by decide +kernel
theorem dX2_collectSuccessors_19 : decode cX2_collectSuccessors 19 = .ok (.iastore, 1) := by decide +kernel
theorem dX2_collectSuccessors_20 : decode cX2_collectSuccessors 20 = .ok (.iinc 1 1, 3) := by decide +kernel
theorem dX2_collectSuccessors_23 : decode cX2_collectSuccessors 23 = .ok (.goto (-21), 3) := by decide +kernel
theorem dX2_collectSuccessors_26 : decode cX2_collectSuccessors 26 = .ok (.iconst 0, 1) := by decide +kernel
theorem dX2_collectSuccessors_27 : decode cX2_collectSuccessors 27 = .ok (.istore_n 1, 1) := by decide +kernel
theorem dX2_collectSuccessors_28 : decode cX2_collectSuccessors 28 = .ok (.iload_n 1, 1) := by decide +kernel
theorem dX2_collectSuccessors_29 : decode cX2_collectSuccessors 29 = .ok (.aload_n 0, 1) := by decide +kernel
theorem dX2_collectSuccessors_30 : decode cX2_collectSuccessors 30 = .ok (.getfield 24, 3) := by decide +kernel
theorem dX2_collectSuccessors_33 : decode cX2_collectSuccessors 33 = .ok (.getfield 54, 3) := by decide +kernel
theorem dX2_collectSuccessors_36 : decode cX2_collectSuccessors 36 = .ok (.if_icmp .ge 46, 3) := by decide +kernel
theorem dX2_collectSuccessors_39 : decode cX2_collectSuccessors 39 = .ok (.aload_n 0, 1) := by decide +kernel
theorem dX2_collectSuccessors_40 : decode cX2_collectSuccessors 40 = .ok (.getfield 24, 3) := by decide +kernel
theorem dX2_collectSuccessors_43 : decode cX2_collectSuccessors 43 = .ok (.iload_n 1, 1) := by decide +kernel
theorem dX2_collectSuccessors_44 : decode cX2_collectSuccessors 44 = .ok (.invokevirtual 57, 3) := by decide +kernel
theorem dX2_collectSuccessors_47 : decode cX2_collectSuccessors 47 = .ok (.ifCond .eq 29, 3) := by decide +kernel
theorem dX2_collectSuccessors_50 : decode cX2_collectSuccessors 50 = .ok (.aload_n 0, 1) := by decide +kernel
theorem dX2_collectSuccessors_51 : decode cX2_collectSuccessors 51 = .ok (.getfield 9, 3) := by decide +kernel
theorem dX2_collectSuccessors_54 : decode cX2_collectSuccessors 54 = .ok (.aload_n 0, 1) := by decide +kernel
theorem dX2_collectSuccessors_55 : decode cX2_collectSuccessors 55 = .ok (.getfield 24, 3) := by decide +kernel
theorem dX2_collectSuccessors_58 : decode cX2_collectSuccessors 58 = .ok (.getfield 60, 3) := by decide +kernel
theorem dX2_collectSuccessors_61 : decode cX2_collectSuccessors 61 = .ok (.iload_n 1, 1) := by decide +kernel
theorem dX2_collectSuccessors_62 : decode cX2_collectSuccessors 62 = .ok (.iaload, 1) := by decide +kernel
theorem dX2_collectSuccessors_63 : decode cX2_collectSuccessors 63 = .ok (.dup2, 1) := by decide +kernel
theorem dX2_collectSuccessors_64 : decode cX2_collectSuccessors 64 = .ok (.iaload, 1) := by decide +kernel
theorem dX2_collectSuccessors_65 : decode cX2_collectSuccessors 65 = .ok (.aload_n 0, 1) := by decide +kernel
theorem dX2_collectSuccessors_66 : decode cX2_collectSuccessors 66 = .ok (.getfield 24, 3) := by decide +kernel
theorem dX2_collectSuccessors_69 : decode cX2_collectSuccessors 69 = .ok (.getfield 34, 3) := by decide +kernel
theorem dX2_collectSuccessors_72 : decode cX2_collectSuccessors 72 = .ok (.iload_n 1, 1) := by decide +kernel
theorem dX2_collectSuccessors_73 : decode cX2_collectSuccessors 73 = .ok (.iaload, 1) := by decide +kernel
theorem dX2_collectSuccessors_74 : decode cX2_collectSuccessors 74 = .ok (.ior, 1) := by decide +kernel
theorem dX2_collectSuccessors_75 : decode cX2_collectSuccessors 75 = .ok (.iastore, 1) := by decide +kernel
theorem dX2_collectSuccessors_76 : decode cX2_collectSuccessors 76 = .ok (.iinc 1 1, 3) := by decide +kernel
theorem dX2_collectSuccessors_79 : decode cX2_collectSuccessors 79 = .ok (.goto (-51), 3) := by decide +kernel
theorem dX2_collectSuccessors_82 : decode cX2_collectSuccessors 82 = .ok (.return_, 1) := by decide +kernel
theorem dX2_buildLayers_0 : decode cX2_buildLayers 0 = .ok (.aload_n 0, 1) := by decide +kernel
theorem dX2_buildLayers_1 : decode cX2_buildLayers 1 = .ok (.getfield 15, 3) := by decide +kernel
theorem dX2_buildLayers_4 : decode cX2_buildLayers 4 = .ok (.iconst 1, 1) := by decide +kernel
theorem dX2_buildLayers_5 : decode cX2_buildLayers 5 = .ok (.iconst 0, 1) := by decide +kernel
theorem dX2_buildLayers_6 : decode cX2_buildLayers 6 = .ok (.iastore, 1) := by decide +kernel
theorem dX2_buildLayers_7 : decode cX2_buildLayers 7 = .ok (.iconst 0, 1) := by decide +kernel
theorem dX2_buildLayers_8 : decode cX2_buildLayers 8 = .ok (.istore_n 1, 1) := by decide +kernel
theorem dX2_buildLayers_9 : decode cX2_buildLayers 9 = .ok (.iload_n 1, 1) := by decide +kernel
theorem dX2_buildLayers_10 : decode cX2_buildLayers 10 = .ok (.aload_n 0, 1) := by decide +kernel
theorem dX2_buildLayers_11 : decode cX2_buildLayers 11 = .ok (.getfield 24, 3) := by decide +kernel
theorem dX2_buildLayers_14 : decode cX2_buildLayers 14 = .ok (.getfield 51, 3) := by decide +kernel
theorem dX2_buildLayers_17 : decode cX2_buildLayers 17 = .ok (.if_icmp .ge 32, 3) := by decide +kernel
theorem dX2_buildLayers_20 : decode cX2_buildLayers 20 = .ok (.aload_n 0, 1) := by decide +kernel
theorem dX2_buildLayers_21 : decode cX2_buildLayers 21 = .ok (.getfield 24, 3) := by decide +kernel
theorem dX2_buildLayers_24 : decode cX2_buildLayers 24 = .ok (.iload_n 1, 1) := by decide +kernel
theorem dX2_buildLayers_25 : decode cX2_buildLayers 25 = .ok (.invokevirtual 63, 3) := by decide +kernel
theorem dX2_buildLayers_28 : decode cX2_buildLayers 28 = .ok (.ifCond .eq 15, 3) := by decide +kernel
theorem dX2_buildLayers_31 : decode cX2_buildLayers 31 = .ok (.aload_n 0, 1) := by decide +kernel
theorem dX2_buildLayers_32 : decode cX2_buildLayers 32 = .ok (.getfield 15, 3) := by decide +kernel
theorem dX2_buildLayers_35 : decode cX2_buildLayers 35 = .ok (.iconst 1, 1) := by decide +kernel
theorem dX2_buildLayers_36 : decode cX2_buildLayers 36 = .ok (.dup2, 1) := by decide +kernel
theorem dX2_buildLayers_37 : decode cX2_buildLayers 37 = .ok (.iaload, 1) := by decide +kernel
theorem dX2_buildLayers_38 : decode cX2_buildLayers 38 = .ok (.iconst 1, 1) := by decide +kernel
theorem dX2_buildLayers_39 : decode cX2_buildLayers 39 = .ok (.iload_n 1, 1) := by decide +kernel
theorem dX2_buildLayers_40 : decode cX2_buildLayers 40 = .ok (.ishl, 1) := by decide +kernel
theorem dX2_buildLayers_41 : decode cX2_buildLayers 41 = .ok (.ior, 1) := by decide +kernel
theorem dX2_buildLayers_42 : decode cX2_buildLayers 42 = .ok (.iastore, 1) := by decide +kernel
theorem dX2_buildLayers_43 : decode cX2_buildLayers 43 = .ok (.iinc 1 1, 3) := by decide +kernel
theorem dX2_buildLayers_46 : decode cX2_buildLayers 46 = .ok (.goto (-37), 3) := by decide +kernel
theorem dX2_buildLayers_49 : decode cX2_buildLayers 49 = .ok (.aload_n 0, 1) := by decide +kernel
theorem dX2_buildLayers_50 : decode cX2_buildLayers 50 = .ok (.getfield 15, 3) := by decide +kernel
theorem dX2_buildLayers_53 : decode cX2_buildLayers 53 = .ok (.iconst 1, 1) := by decide +kernel
theorem dX2_buildLayers_54 : decode cX2_buildLayers 54 = .ok (.iaload, 1) := by decide +kernel
theorem dX2_buildLayers_55 : decode cX2_buildLayers 55 = .ok (.istore_n 1, 1) := by decide +kernel
theorem dX2_buildLayers_56 : decode cX2_buildLayers 56 = .ok (.iconst 2, 1) := by decide +kernel
theorem dX2_buildLayers_57 : decode cX2_buildLayers 57 = .ok (.istore_n 2, 1) := by decide +kernel
theorem dX2_buildLayers_58 : decode cX2_buildLayers 58 = .ok (.iload_n 2, 1) := by decide +kernel
theorem dX2_buildLayers_59 : decode cX2_buildLayers 59 = .ok (.aload_n 0, 1) := by decide +kernel
theorem dX2_buildLayers_60 : decode cX2_buildLayers 60 = .ok (.getfield 24, 3) := by decide +kernel
theorem dX2_buildLayers_63 : decode cX2_buildLayers 63 = .ok (.getfield 51, 3) := by decide +kernel
theorem dX2_buildLayers_66 : decode cX2_buildLayers 66 = .ok (.if_icmp .gt 40, 3) := by decide +kernel
theorem dX2_buildLayers_69 : decode cX2_buildLayers 69 = .ok (.aload_n 0, 1) := by decide +kernel
theorem dX2_buildLayers_70 : decode cX2_buildLayers 70 = .ok (.getfield 15, 3) := by decide +kernel
theorem dX2_buildLayers_73 : decode cX2_buildLayers 73 = .ok (.iload_n 2, 1) := by decide +kernel
theorem dX2_buildLayers_74 : decode cX2_buildLayers 74 = .ok (.aload_n 0, 1) := by decide +kernel
theorem dX2_buildLayers_75 : decode cX2_buildLayers 75 = .ok (.aload_n 0, 1) := by decide +kernel
theorem dX2_buildLayers_76 : decode cX2_buildLayers 76 = .ok (.getfield 15, 3) := by decide +kernel
theorem dX2_buildLayers_79 : decode cX2_buildLayers 79 = .ok (.iload_n 2, 1) := by decide +kernel
theorem dX2_buildLayers_80 : decode cX2_buildLayers 80 = .ok (.iconst 1, 1) := by decide +kernel
theorem dX2_buildLayers_81 : decode cX2_buildLayers 81 = .ok (.isub, 1) := by decide +kernel
theorem dX2_buildLayers_82 : decode cX2_buildLayers 82 = .ok (.iaload, 1) := by decide +kernel
theorem dX2_buildLayers_83 : decode cX2_buildLayers 83 = .ok (.invokevirtual 66, 3) := by decide +kernel
theorem dX2_buildLayers_86 : decode cX2_buildLayers 86 = .ok (.iload_n 1, 1) := by decide +kernel
theorem dX2_buildLayers_87 : decode cX2_buildLayers 87 = .ok (.iconst (-1), 1) := by decide +kernel
theorem dX2_buildLayers_88 : decode cX2_buildLayers 88 = .ok (.ixor, 1) := by decide +kernel
theorem dX2_buildLayers_89 : decode cX2_buildLayers 89 = .ok (.iand, 1) := by decide +kernel
theorem dX2_buildLayers_90 : decode cX2_buildLayers 90 = .ok (.iastore, 1) := by decide +kernel
theorem dX2_buildLayers_91 : decode cX2_buildLayers 91 = .ok (.iload_n 1, 1) := by decide +kernel
theorem dX2_buildLayers_92 : decode cX2_buildLayers 92 = .ok (.aload_n 0, 1) := by decide +kernel
theorem dX2_buildLayers_93 : decode cX2_buildLayers 93 = .ok (.getfield 15, 3) := by decide +kernel
theorem dX2_buildLayers_96 : decode cX2_buildLayers 96 = .ok (.iload_n 2, 1) := by decide +kernel
theorem dX2_buildLayers_97 : decode cX2_buildLayers 97 = .ok (.iaload, 1) := by decide +kernel
theorem dX2_buildLayers_98 : decode cX2_buildLayers 98 = .ok (.ior, 1) := by decide +kernel
theorem dX2_buildLayers_99 : decode cX2_buildLayers 99 = .ok (.istore_n 1, 1) := by decide +kernel
theorem dX2_buildLayers_100 : decode cX2_buildLayers 100 = .ok (.iinc 2 1, 3) := by decide +kernel
theorem dX2_buildLayers_103 : decode cX2_buildLayers 103 = .ok (.goto (-45), 3) := by decide +kernel
theorem dX2_buildLayers_106 : decode cX2_buildLayers 106 = .ok (.return_, 1) := by decide +kernel
theorem dX2_leadingTo_0 : decode cX2_leadingTo 0 = .ok (.iconst 0, 1) := by decide +kernel
theorem dX2_leadingTo_1 : decode cX2_leadingTo 1 = .ok (.istore_n 2, 1) := by decide +kernel
theorem dX2_leadingTo_2 : decode cX2_leadingTo 2 = .ok (.iconst 0, 1) := by decide +kernel
theorem dX2_leadingTo_3 : decode cX2_leadingTo 3 = .ok (.istore_n 3, 1) := by decide +kernel
theorem dX2_leadingTo_4 : decode cX2_leadingTo 4 = .ok (.iload_n 3, 1) := by decide +kernel
theorem dX2_leadingTo_5 : decode cX2_leadingTo 5 = .ok (.aload_n 0, 1) := by decide +kernel
theorem dX2_leadingTo_6 : decode cX2_leadingTo 6 = .ok (.getfield 24, 3) := by decide +kernel
theorem dX2_leadingTo_9 : decode cX2_leadingTo 9 = .ok (.getfield 51, 3) := by decide +kernel
theorem dX2_leadingTo_12 : decode cX2_leadingTo 12 = .ok (.if_icmp .ge 26, 3) := by decide +kernel
theorem dX2_leadingTo_15 : decode cX2_leadingTo 15 = .ok (.aload_n 0, 1) := by decide +kernel
theorem dX2_leadingTo_16 : decode cX2_leadingTo 16 = .ok (.getfield 9, 3) := by decide +kernel
theorem dX2_leadingTo_19 : decode cX2_leadingTo 19 = .ok (.iload_n 3, 1) := by decide +kernel
theorem dX2_leadingTo_20 : decode cX2_leadingTo 20 = .ok (.iaload, 1) := by decide +kernel
theorem dX2_leadingTo_21 : decode cX2_leadingTo 21 = .ok (.iload_n 1, 1) := by decide +kernel
theorem dX2_leadingTo_22 : decode cX2_leadingTo 22 = .ok (.iand, 1) := by decide +kernel
theorem dX2_leadingTo_23 : decode cX2_leadingTo 23 = .ok (.ifCond .eq 9, 3) := by decide +kernel
theorem dX2_leadingTo_26 : decode cX2_leadingTo 26 = .ok (.iload_n 2, 1) := by decide +kernel
theorem dX2_leadingTo_27 : decode cX2_leadingTo 27 = .ok (.iconst 1, 1) := by decide +kernel
theorem dX2_leadingTo_28 : decode cX2_leadingTo 28 = .ok (.iload_n 3, 1) := by decide +kernel
theorem dX2_leadingTo_29 : decode cX2_leadingTo 29 = .ok (.ishl, 1) := by decide +kernel
theorem dX2_leadingTo_30 : decode cX2_leadingTo 30 = .ok (.ior, 1) := by decide +kernel
theorem dX2_leadingTo_31 : decode cX2_leadingTo 31 = .ok (.istore_n 2, 1) := by decide +kernel
theorem dX2_leadingTo_32 : decode cX2_leadingTo 32 = .ok (.iinc 3 1, 3) := by decide +kernel
theorem dX2_leadingTo_35 : decode cX2_leadingTo 35 = .ok (.goto (-31), 3) := by decide +kernel
theorem dX2_leadingTo_38 : decode cX2_leadingTo 38 = .ok (.iload_n 2, 1) := by decide +kernel
theorem dX2_leadingTo_39 : decode cX2_leadingTo 39 = .ok (.ireturn, 1) := by decide +kernel
theorem dX2_shortestFrom_0 : decode cX2_shortestFrom 0 = .ok (.iconst 1, 1) := by decide +kernel
theorem dX2_shortestFrom_1 : decode cX2_shortestFrom 1 = .ok (.istore_n 2, 1) := by decide +kernel
theorem dX2_shortestFrom_2 : decode cX2_shortestFrom 2 = .ok (.iload_n 2, 1) := by decide +kernel
theorem dX2_shortestFrom_3 : decode cX2_shortestFrom 3 = .ok (.aload_n 0, 1) := by decide +kernel
theorem dX2_shortestFrom_4 : decode cX2_shortestFrom 4 = .ok (.getfield 24, 3) := by decide +kernel
theorem dX2_shortestFrom_7 : decode cX2_shortestFrom 7 = .ok (.getfield 51, 3) := by decide +kernel
theorem dX2_shortestFrom_10 : decode cX2_shortestFrom 10 = .ok (.if_icmp .gt 22, 3) := by decide +kernel
theorem dX2_shortestFrom_13 : decode cX2_shortestFrom 13 = .ok (.aload_n 0, 1) := by decide +kernel
theorem dX2_shortestFrom_14 : decode cX2_shortestFrom 14 = .ok (.getfield 15, 3) := by decide +kernel
theorem dX2_shortestFrom_17 : decode cX2_shortestFrom 17 = .ok (.iload_n 2, 1) := by decide +kernel
theorem dX2_shortestFrom_18 : decode cX2_shortestFrom 18 = .ok (.iaload, 1) := by decide +kernel
theorem dX2_shortestFrom_19 : decode cX2_shortestFrom 19 = .ok (.iload_n 1, 1) := by decide +kernel
theorem dX2_shortestFrom_20 : decode cX2_shortestFrom 20 = .ok (.iand, 1) := by decide +kernel
theorem dX2_shortestFrom_21 : decode cX2_shortestFrom 21 = .ok (.ifCond .eq 5, 3) := by decide +kernel
theorem dX2_shortestFrom_24 : decode cX2_shortestFrom 24 = .ok (.iload_n 2, 1) := by decide +kernel
theorem dX2_shortestFrom_25 : decode cX2_shortestFrom 25 = .ok (.ireturn, 1) := by decide +kernel
theorem dX2_shortestFrom_26 : decode cX2_shortestFrom 26 = .ok (.iinc 2 1, 3) := by decide +kernel
theorem dX2_shortestFrom_29 : decode cX2_shortestFrom 29 = .ok (.goto (-27), 3) := by decide +kernel
theorem dX2_shortestFrom_32 : decode cX2_shortestFrom 32 = .ok (.iconst 0, 1) := by decide +kernel
theorem dX2_shortestFrom_33 : decode cX2_shortestFrom 33 = .ok (.ireturn, 1) := by decide +kernel
theorem dX2_trace_0 : decode cX2_trace 0 = .ok (.iload_n 1, 1) := by decide +kernel
theorem dX2_trace_1 : decode cX2_trace 1 = .ok (.aload_n 0, 1) := by decide +kernel
theorem dX2_trace_2 : decode cX2_trace 2 = .ok (.getfield 15, 3) := by decide +kernel
theorem dX2_trace_5 : decode cX2_trace 5 = .ok (.aload_n 0, 1) := by decide +kernel
theorem dX2_trace_6 : decode cX2_trace 6 = .ok (.getfield 43, 3) := by decide +kernel
theorem dX2_trace_9 : decode cX2_trace 9 = .ok (.iaload, 1) := by decide +kernel
theorem dX2_trace_10 : decode cX2_trace 10 = .ok (.iand, 1) := by decide +kernel
theorem dX2_trace_11 : decode cX2_trace 11 = .ok (.invokestatic 69, 3) := by decide +kernel
theorem dX2_trace_14 : decode cX2_trace 14 = .ok (.istore_n 2, 1) := by decide +kernel
theorem dX2_trace_15 : decode cX2_trace 15 = .ok (.iconst 0, 1) := by decide +kernel
theorem dX2_trace_16 : decode cX2_trace 16 = .ok (.istore_n 3, 1) := by decide +kernel
theorem dX2_trace_17 : decode cX2_trace 17 = .ok (.iload_n 3, 1) := by decide +kernel
theorem dX2_trace_18 : decode cX2_trace 18 = .ok (.aload_n 0, 1) := by decide +kernel
theorem dX2_trace_19 : decode cX2_trace 19 = .ok (.getfield 43, 3) := by decide +kernel
theorem dX2_trace_22 : decode cX2_trace 22 = .ok (.iconst 1, 1) := by decide +kernel
theorem dX2_trace_23 : decode cX2_trace 23 = .ok (.isub, 1) := by decide +kernel
theorem dX2_trace_24 : decode cX2_trace 24 = .ok (.if_icmp .ge 78, 3) := by decide +kernel
theorem dX2_trace_27 : decode cX2_trace 27 = .ok (.iload_n 2, 1) := by decide +kernel
theorem dX2_trace_28 : decode cX2_trace 28 = .ok (.iconst (-1), 1) := by decide +kernel
theorem dX2_trace_29 : decode cX2_trace 29 = .ok (.if_icmp .eq 73, 3) := by decide +kernel
theorem dX2_trace_32 : decode cX2_trace 32 = .ok (.aload_n 0, 1) := by decide +kernel
theorem dX2_trace_33 : decode cX2_trace 33 = .ok (.getfield 15, 3) := by decide +kernel
theorem dX2_trace_36 : decode cX2_trace 36 = .ok (.aload_n 0, 1) := by decide +kernel
theorem dX2_trace_37 : decode cX2_trace 37 = .ok (.getfield 43, 3) := by decide +kernel
theorem dX2_trace_40 : decode cX2_trace 40 = .ok (.iload_n 3, 1) := by decide +kernel
theorem dX2_trace_41 : decode cX2_trace 41 = .ok (.isub, 1) := by decide +kernel
theorem dX2_trace_42 : decode cX2_trace 42 = .ok (.iconst 1, 1) := by decide +kernel
theorem dX2_trace_43 : decode cX2_trace 43 = .ok (.isub, 1) := by decide +kernel
theorem dX2_trace_44 : decode cX2_trace 44 = .ok (.iaload, 1) := by decide +kernel
theorem dX2_trace_45 : decode cX2_trace 45 = .ok (.istore 4, 2) := by decide +kernel
theorem dX2_trace_47 : decode cX2_trace 47 = .ok (.aload_n 0, 1) := by decide +kernel
theorem dX2_trace_48 : decode cX2_trace 48 = .ok (.iload_n 2, 1) := by decide +kernel
theorem dX2_trace_49 : decode cX2_trace 49 = .ok (.iload 4, 2) := by decide +kernel
theorem dX2_trace_51 : decode cX2_trace 51 = .ok (.invokevirtual 72, 3) := by decide +kernel
theorem dX2_trace_54 : decode cX2_trace 54 = .ok (.istore 5, 2) := by decide +kernel
theorem dX2_trace_56 : decode cX2_trace 56 = .ok (.iload 5, 2) := by decide +kernel
theorem dX2_trace_58 : decode cX2_trace 58 = .ok (.iconst (-1), 1) := by decide +kernel
theorem dX2_trace_59 : decode cX2_trace 59 = .ok (.if_icmp .ne 5, 3) := by decide +kernel
theorem dX2_trace_62 : decode cX2_trace 62 = .ok (.iconst 0, 1) := by decide +kernel
theorem dX2_trace_63 : decode cX2_trace 63 = .ok (.ireturn, 1) := by decide +kernel
theorem dX2_trace_64 : decode cX2_trace 64 = .ok (.aload_n 0, 1) := by decide +kernel
theorem dX2_trace_65 : decode cX2_trace 65 = .ok (.getfield 18, 3) := by decide +kernel
theorem dX2_trace_68 : decode cX2_trace 68 = .ok (.iload_n 3, 1) := by decide +kernel
theorem dX2_trace_69 : decode cX2_trace 69 = .ok (.iload_n 2, 1) := by decide +kernel
theorem dX2_trace_70 : decode cX2_trace 70 = .ok (.iastore, 1) := by decide +kernel
theorem dX2_trace_71 : decode cX2_trace 71 = .ok (.aload_n 0, 1) := by decide +kernel
theorem dX2_trace_72 : decode cX2_trace 72 = .ok (.getfield 21, 3) := by decide +kernel
theorem dX2_trace_75 : decode cX2_trace 75 = .ok (.iload_n 3, 1) := by decide +kernel
theorem dX2_trace_76 : decode cX2_trace 76 = .ok (.iload 5, 2) := by decide +kernel
theorem dX2_trace_78 : decode cX2_trace 78 = .ok (.iastore, 1) := by decide +kernel
theorem dX2_trace_79 : decode cX2_trace 79 = .ok (.aload_n 0, 1) := by decide +kernel
theorem dX2_trace_80 : decode cX2_trace 80 = .ok (.getfield 24, 3) := by decide +kernel
theorem dX2_trace_83 : decode cX2_trace 83 = .ok (.getfield 34, 3) := by decide +kernel
theorem dX2_trace_86 : decode cX2_trace 86 = .ok (.iload 5, 2) := by decide +kernel
theorem dX2_trace_88 : decode cX2_trace 88 = .ok (.iaload, 1) := by decide +kernel
theorem dX2_trace_89 : decode cX2_trace 89 = .ok (.iload 4, 2) := by decide +kernel
theorem dX2_trace_91 : decode cX2_trace 91 = .ok (.iand, 1) := by decide +kernel
theorem dX2_trace_92 : decode cX2_trace 92 = .ok (.invokestatic 69, 3) := by decide +kernel
theorem dX2_trace_95 : decode cX2_trace 95 = .ok (.istore_n 2, 1) := by decide +kernel
theorem dX2_trace_96 : decode cX2_trace 96 = .ok (.iinc 3 1, 3) := by decide +kernel
theorem dX2_trace_99 : decode cX2_trace 99 = .ok (.goto (-82), 3) := by decide +kernel
theorem dX2_trace_102 : decode cX2_trace 102 = .ok (.aload_n 0, 1) := by decide +kernel
theorem dX2_trace_103 : decode cX2_trace 103 = .ok (.getfield 43, 3) := by decide +kernel
theorem dX2_trace_106 : decode cX2_trace 106 = .ok (.ifCond .eq 8, 3) := by decide +kernel
theorem dX2_trace_109 : decode cX2_trace 109 = .ok (.iload_n 2, 1) := by decide +kernel
theorem dX2_trace_110 : decode cX2_trace 110 = .ok (.iconst (-1), 1) := by decide +kernel
theorem dX2_trace_111 : decode cX2_trace 111 = .ok (.if_icmp .ne 5, 3) := by decide +kernel
theorem dX2_trace_114 : decode cX2_trace 114 = .ok (.iconst 0, 1) := by decide +kernel
theorem dX2_trace_115 : decode cX2_trace 115 = .ok (.ireturn, 1) := by decide +kernel
theorem dX2_trace_116 : decode cX2_trace 116 = .ok (.aload_n 0, 1) := by decide +kernel
theorem dX2_trace_117 : decode cX2_trace 117 = .ok (.getfield 18, 3) := by decide +kernel
theorem dX2_trace_120 : decode cX2_trace 120 = .ok (.aload_n 0, 1) := by decide +kernel
theorem dX2_trace_121 : decode cX2_trace 121 = .ok (.getfield 43, 3) := by decide +kernel
theorem dX2_trace_124 : decode cX2_trace 124 = .ok (.iconst 1, 1) := by decide +kernel
theorem dX2_trace_125 : decode cX2_trace 125 = .ok (.isub, 1) := by decide +kernel
theorem dX2_trace_126 : decode cX2_trace 126 = .ok (.iload_n 2, 1) := by decide +kernel
theorem dX2_trace_127 : decode cX2_trace 127 = .ok (.iastore, 1) := by decide +kernel
theorem dX2_trace_128 : decode cX2_trace 128 = .ok (.iconst 1, 1) := by decide +kernel
theorem dX2_trace_129 : decode cX2_trace 129 = .ok (.ireturn, 1) := by decide +kernel
theorem dX2_firstMovable_0 : decode cX2_firstMovable 0 = .ok (.iconst 0, 1) := by decide +kernel
theorem dX2_firstMovable_1 : decode cX2_firstMovable 1 = .ok (.istore_n 3, 1) := by decide +kernel
theorem dX2_firstMovable_2 : decode cX2_firstMovable 2 = .ok (.iload_n 3, 1) := by decide +kernel
theorem dX2_firstMovable_3 : decode cX2_firstMovable 3 = .ok (.aload_n 0, 1) := by decide +kernel
theorem dX2_firstMovable_4 : decode cX2_firstMovable 4 = .ok (.getfield 24, 3) := by decide +kernel
theorem dX2_firstMovable_7 : decode cX2_firstMovable 7 = .ok (.getfield 54, 3) := by decide +kernel
theorem dX2_firstMovable_10 : decode cX2_firstMovable 10 = .ok (.if_icmp .ge 49, 3) := by decide +kernel
theorem dX2_firstMovable_13 : decode cX2_firstMovable 13 = .ok (.aload_n 0, 1) := by decide +kernel
theorem dX2_firstMovable_14 : decode cX2_firstMovable 14 = .ok (.getfield 24, 3) := by decide +kernel
theorem dX2_firstMovable_17 : decode cX2_firstMovable 17 = .ok (.getfield 60, 3) := by decide +kernel
theorem dX2_firstMovable_20 : decode cX2_firstMovable 20 = .ok (.iload_n 3, 1) := by decide +kernel
theorem dX2_firstMovable_21 : decode cX2_firstMovable 21 = .ok (.iaload, 1) := by decide +kernel
theorem dX2_firstMovable_22 : decode cX2_firstMovable 22 = .ok (.iload_n 1, 1) := by decide +kernel
theorem dX2_firstMovable_23 : decode cX2_firstMovable 23 = .ok (.if_icmp .ne 30, 3) := by decide +kernel
theorem dX2_firstMovable_26 : decode cX2_firstMovable 26 = .ok (.aload_n 0, 1) := by decide +kernel
theorem dX2_firstMovable_27 : decode cX2_firstMovable 27 = .ok (.getfield 24, 3) := by decide +kernel
theorem dX2_firstMovable_30 : decode cX2_firstMovable 30 = .ok (.iload_n 3, 1) := by decide +kernel
theorem dX2_firstMovable_31 : decode cX2_firstMovable 31 = .ok (.invokevirtual 57, 3) := by decide +kernel
theorem dX2_firstMovable_34 : decode cX2_firstMovable 34 = .ok (.ifCond .eq 19, 3) := by decide +kernel
theorem dX2_firstMovable_37 : decode cX2_firstMovable 37 = .ok (.aload_n 0, 1) := by decide +kernel
theorem dX2_firstMovable_38 : decode cX2_firstMovable 38 = .ok (.getfield 24, 3) := by decide +kernel
theorem dX2_firstMovable_41 : decode cX2_firstMovable 41 = .ok (.getfield 34, 3) := by decide +kernel
theorem dX2_firstMovable_44 : decode cX2_firstMovable 44 = .ok (.iload_n 3, 1) := by decide +kernel
theorem dX2_firstMovable_45 : decode cX2_firstMovable 45 = .ok (.iaload, 1) := by decide +kernel
theorem dX2_firstMovable_46 : decode cX2_firstMovable 46 = .ok (.iload_n 2, 1) := by decide +kernel
theorem dX2_firstMovable_47 : decode cX2_firstMovable 47 = .ok (.iand, 1) := by decide +kernel
theorem dX2_firstMovable_48 : decode cX2_firstMovable 48 = .ok (.ifCond .eq 5, 3) := by decide +kernel
theorem dX2_firstMovable_51 : decode cX2_firstMovable 51 = .ok (.iload_n 3, 1) := by decide +kernel
theorem dX2_firstMovable_52 : decode cX2_firstMovable 52 = .ok (.ireturn, 1) := by decide +kernel
theorem dX2_firstMovable_53 : decode cX2_firstMovable 53 = .ok (.iinc 3 1, 3) := by decide +kernel
theorem dX2_firstMovable_56 : decode cX2_firstMovable 56 = .ok (.goto (-54), 3) := by decide +kernel
theorem dX2_firstMovable_59 : decode cX2_firstMovable 59 = .ok (.iconst (-1), 1) := by decide +kernel
theorem dX2_firstMovable_60 : decode cX2_firstMovable 60 = .ok (.ireturn, 1) := by decide +kernel
end
section
theorem dX3_init_0 : decode cX3_init 0 = .ok (.aload_n 0, 1) := by decide +kernel
theorem dX3_init_1 : decode cX3_init 1 = .ok (.invokespecial 3, 3) := by decide +kernel
theorem dX3_init_4 : decode cX3_init 4 = .ok (.aload_n 0, 1) := by decide +kernel
theorem dX3_init_5 : decode cX3_init 5 = .ok (.bipush 40, 2) := by decide +kernel
theorem dX3_init_7 : decode cX3_init 7 = .ok (.newarray .boolean, 2) := by decide +kernel
theorem dX3_init_9 : decode cX3_init 9 = .ok (.putfield 9, 3) := by decide +kernel
theorem dX3_init_12 : decode cX3_init 12 = .ok (.aload_n 0, 1) := by decide +kernel
theorem dX3_init_13 : decode cX3_init 13 = .ok (.aload_n 1, 1) := by decide +kernel
theorem dX3_init_14 : decode cX3_init 14 = .ok (.putfield 15, 3) := by decide +kernel
theorem dX3_init_17 : decode cX3_init 17 = .ok (.aload_n 0, 1) := by decide +kernel
theorem dX3_init_18 : decode cX3_init 18 = .ok (.aload_n 2, 1) := by decide +kernel
theorem dX3_init_19 : decode cX3_init 19 = .ok (.putfield 19, 3) := by decide +kernel
theorem dX3_init_22 : decode cX3_init 22 = .ok (.aload_n 0, 1) := by decide +kernel
theorem dX3_init_23 : decode cX3_init 23 = .ok (.aload_n 3, 1) := by decide +kernel
theorem dX3_init_24 : decode cX3_init 24 = .ok (.putfield 23, 3) := by decide +kernel
theorem dX3_init_27 : decode cX3_init 27 = .ok (.return_, 1) := by decide +kernel
theorem dX3_runOnce_0 : decode cX3_runOnce 0 = .ok (.iconst 0, 1) := by decide +kernel
theorem dX3_runOnce_1 : decode cX3_runOnce 1 = .ok (.istore_n 1, 1) := by decide +kernel
theorem dX3_runOnce_2 : decode cX3_runOnce 2 = .ok (.iload_n 1, 1) := by decide +kernel
theorem dX3_runOnce_3 : decode cX3_runOnce 3 = .ok (.aload_n 0, 1) := by decide +kernel
theorem dX3_runOnce_4 : decode cX3_runOnce 4 = .ok (.getfield 15, 3) := by decide +kernel
theorem dX3_runOnce_7 : decode cX3_runOnce 7 = .ok (.getfield 27, 3) := by decide +kernel
theorem dX3_runOnce_10 : decode cX3_runOnce 10 = .ok (.if_icmp .ge 16, 3) := by decide +kernel
theorem dX3_runOnce_13 : decode cX3_runOnce 13 = .ok (.aload_n 0, 1) := by decide +kernel
theorem dX3_runOnce_14 : decode cX3_runOnce 14 = .ok (.getfield 9, 3) := by decide +kernel
theorem dX3_runOnce_17 : decode cX3_runOnce 17 = .ok (.iload_n 1, 1) := by decide +kernel
theorem dX3_runOnce_18 : decode cX3_runOnce 18 = .ok (.iconst 0, 1) := by decide +kernel
theorem dX3_runOnce_19 : decode cX3_runOnce 19 = .ok (.bastore, 1) := by decide +kernel
theorem dX3_runOnce_20 : decode cX3_runOnce 20 = .ok (.iinc 1 1, 3) := by decide +kernel
theorem dX3_runOnce_23 : decode cX3_runOnce 23 = .ok (.goto (-21), 3) := by decide +kernel
theorem dX3_runOnce_26 : decode cX3_runOnce 26 = .ok (.iconst 0, 1) := by decide +kernel
theorem dX3_runOnce_27 : decode cX3_runOnce 27 = .ok (.istore_n 1, 1) := by decide +kernel
theorem dX3_runOnce_28 : decode cX3_runOnce 28 = .ok (.iconst 0, 1) := by decide +kernel
theorem dX3_runOnce_29 : decode cX3_runOnce 29 = .ok (.istore_n 2, 1) := by decide +kernel
theorem dX3_runOnce_30 : decode cX3_runOnce 30 = .ok (.iload_n 2, 1) := by decide +kernel
theorem dX3_runOnce_31 : decode cX3_runOnce 31 = .ok (.aload_n 0, 1) := by decide +kernel
theorem dX3_runOnce_32 : decode cX3_runOnce 32 = .ok (.getfield 15, 3) := by decide +kernel
theorem dX3_runOnce_35 : decode cX3_runOnce 35 = .ok (.getfield 27, 3) := by decide +kernel
theorem dX3_runOnce_38 : decode cX3_runOnce 38 = .ok (.if_icmp .ge 40, 3) := by decide +kernel
theorem dX3_runOnce_41 : decode cX3_runOnce 41 = .ok (.aload_n 0, 1) := by decide +kernel
theorem dX3_runOnce_42 : decode cX3_runOnce 42 = .ok (.invokevirtual 33, 3) := by decide +kernel
theorem dX3_runOnce_45 : decode cX3_runOnce 45 = .ok (.istore_n 3, 1) := by decide +kernel
theorem dX3_runOnce_46 : decode cX3_runOnce 46 = .ok (.iload_n 3, 1) := by decide +kernel
theorem dX3_runOnce_47 : decode cX3_runOnce 47 = .ok (.iconst (-1), 1) := by decide +kernel
theorem dX3_runOnce_48 : decode cX3_runOnce 48 = .ok (.if_icmp .ne 6, 3) := by decide +kernel
theorem dX3_runOnce_51 : decode cX3_runOnce 51 = .ok (.goto 27, 3) := by decide +kernel
theorem dX3_runOnce_54 : decode cX3_runOnce 54 = .ok (.aload_n 0, 1) := by decide +kernel
theorem dX3_runOnce_55 : decode cX3_runOnce 55 = .ok (.getfield 9, 3) := by decide +kernel
theorem dX3_runOnce_58 : decode cX3_runOnce 58 = .ok (.iload_n 3, 1) := by decide +kernel
theorem dX3_runOnce_59 : decode cX3_runOnce 59 = .ok (.iconst 1, 1) := by decide +kernel
theorem dX3_runOnce_60 : decode cX3_runOnce 60 = .ok (.bastore, 1) := by decide +kernel
theorem dX3_runOnce_61 : decode cX3_runOnce 61 = .ok (.aload_n 0, 1) := by decide +kernel
theorem dX3_runOnce_62 : decode cX3_runOnce 62 = .ok (.iload_n 3, 1) := by decide +kernel
theorem dX3_runOnce_63 : decode cX3_runOnce 63 = .ok (.invokevirtual 37, 3) := by decide +kernel
theorem dX3_runOnce_66 : decode cX3_runOnce 66 = .ok (.ifCond .eq 6, 3) := by decide +kernel
theorem dX3_runOnce_69 : decode cX3_runOnce 69 = .ok (.iinc 1 1, 3) := by decide +kernel
theorem dX3_runOnce_72 : decode cX3_runOnce 72 = .ok (.iinc 2 1, 3) := by decide +kernel
theorem dX3_runOnce_75 : decode cX3_runOnce 75 = .ok (.goto (-45), 3) := by decide +kernel
theorem dX3_runOnce_78 : decode cX3_runOnce 78 = .ok (.iload_n 1, 1) := by decide +kernel
theorem dX3_runOnce_79 : decode cX3_runOnce 79 = .ok (.ireturn, 1) := by decide +kernel
theorem dX3_nextToTry_0 : decode cX3_nextToTry 0 = .ok (.iconst (-1), 1) := by decide +kernel
theorem dX3_nextToTry_1 : decode cX3_nextToTry 1 = .ok (.istore_n 1, 1) := by decide +kernel
theorem dX3_nextToTry_2 : decode cX3_nextToTry 2 = .ok (.iconst 0, 1) := by decide +kernel
theorem dX3_nextToTry_3 : decode cX3_nextToTry 3 = .ok (.istore_n 2, 1) := by decide +kernel
theorem dX3_nextToTry_4 : decode cX3_nextToTry 4 = .ok (.iload_n 2, 1) := by decide +kernel
theorem dX3_nextToTry_5 : decode cX3_nextToTry 5 = .ok (.aload_n 0, 1) := by decide +kernel
theorem dX3_nextToTry_6 : decode cX3_nextToTry 6 = .ok (.getfield 15, 3) := by decide +kernel
theorem dX3_nextToTry_9 : decode cX3_nextToTry 9 = .ok (.getfield 27, 3) := by decide +kernel
theorem dX3_nextToTry_12 : decode cX3_nextToTry 12 = .ok (.if_icmp .ge 61, 3) := by decide +kernel
theorem dX3_nextToTry_15 : decode cX3_nextToTry 15 = .ok (.aload_n 0, 1) := by decide +kernel
theorem dX3_nextToTry_16 : decode cX3_nextToTry 16 = .ok (.getfield 15, 3) := by decide +kernel
theorem dX3_nextToTry_19 : decode cX3_nextToTry 19 = .ok (.iload_n 2, 1) := by decide +kernel
theorem dX3_nextToTry_20 : decode cX3_nextToTry 20 = .ok (.invokevirtual 41, 3) := by decide +kernel
theorem dX3_nextToTry_23 : decode cX3_nextToTry 23 = .ok (.ifCond .eq 44, 3) := by decide +kernel
theorem dX3_nextToTry_26 : decode cX3_nextToTry 26 = .ok (.aload_n 0, 1) := by decide +kernel
theorem dX3_nextToTry_27 : decode cX3_nextToTry 27 = .ok (.getfield 9, 3) := by decide +kernel
theorem dX3_nextToTry_30 : decode cX3_nextToTry 30 = .ok (.iload_n 2, 1) := by decide +kernel
theorem dX3_nextToTry_31 : decode cX3_nextToTry 31 = .ok (.baload, 1) := by decide +kernel
theorem dX3_nextToTry_32 : decode cX3_nextToTry 32 = .ok (.ifCond .ne 35, 3) := by decide +kernel
theorem dX3_nextToTry_35 : decode cX3_nextToTry 35 = .ok (.iload_n 1, 1) := by decide +kernel
theorem dX3_nextToTry_36 : decode cX3_nextToTry 36 = .ok (.iconst (-1), 1) := by decide +kernel
theorem dX3_nextToTry_37 : decode cX3_nextToTry 37 = .ok (.if_icmp .eq 28, 3) := by decide +kernel
theorem dX3_nextToTry_40 : decode cX3_nextToTry 40 = .ok (.aload_n 0, 1) := by decide +kernel
theorem dX3_nextToTry_41 : decode cX3_nextToTry 41 = .ok (.aload_n 0, 1) := by decide +kernel
theorem dX3_nextToTry_42 : decode cX3_nextToTry 42 = .ok (.getfield 15, 3) := by decide +kernel
theorem dX3_nextToTry_45 : decode cX3_nextToTry 45 = .ok (.getfield 44, 3) := by decide +kernel
theorem dX3_nextToTry_48 : decode cX3_nextToTry 48 = .ok (.iload_n 2, 1) := by decide +kernel
theorem dX3_nextToTry_49 : decode cX3_nextToTry 49 = .ok (.iaload, 1) := by decide +kernel
theorem dX3_nextToTry_50 : decode cX3_nextToTry 50 = .ok (.aload_n 0, 1) := by decide +kernel
theorem dX3_nextToTry_51 : decode cX3_nextToTry 51 = .ok (.getfield 15, 3) := by decide +kernel
theorem dX3_nextToTry_54 : decode cX3_nextToTry 54 = .ok (.getfield 44, 3) := by decide +kernel
theorem dX3_nextToTry_57 : decode cX3_nextToTry 57 = .ok (.iload_n 1, 1) := by decide +kernel
theorem dX3_nextToTry_58 : decode cX3_nextToTry 58 = .ok (.iaload, 1) := by decide +kernel
theorem dX3_nextToTry_59 : decode cX3_nextToTry 59 = .ok (.invokevirtual 48, 3) := by decide +kernel
theorem dX3_nextToTry_62 : decode cX3_nextToTry 62 = .ok (.ifCond .eq 5, 3) := by decide +kernel
theorem dX3_nextToTry_65 : decode cX3_nextToTry 65 = .ok (.iload_n 2, 1) := by decide +kernel
theorem dX3_nextToTry_66 : decode cX3_nextToTry 66 = .ok (.istore_n 1, 1) := by decide +kernel
theorem dX3_nextToTry_67 : decode cX3_nextToTry 67 = .ok (.iinc 2 1, 3) := by decide +kernel
theorem dX3_nextToTry_70 : decode cX3_nextToTry 70 = .ok (.goto (-66), 3) := by decide +kernel
theorem dX3_nextToTry_73 : decode cX3_nextToTry 73 = .ok (.iload_n 1, 1) := by decide +kernel
theorem dX3_nextToTry_74 : decode cX3_nextToTry 74 = .ok (.ireturn, 1) := by decide +kernel
theorem dX3_isServedBefore_0 : decode cX3_isServedBefore 0 = .ok (.aload_n 0, 1) := by decide +kernel
theorem dX3_isServedBefore_1 : decode cX3_isServedBefore 1 = .ok (.getfield 15, 3) := by decide +kernel
theorem dX3_isServedBefore_4 : decode cX3_isServedBefore 4 = .ok (.getfield 52, 3) := by decide +kernel
theorem dX3_isServedBefore_7 : decode cX3_isServedBefore 7 = .ok (.iload_n 1, 1) := by decide +kernel
theorem dX3_isServedBefore_8 : decode cX3_isServedBefore 8 = .ok (.iaload, 1) := by decide +kernel
theorem dX3_isServedBefore_9 : decode cX3_isServedBefore 9 = .ok (.aload_n 0, 1) := by decide +kernel
theorem dX3_isServedBefore_10 : decode cX3_isServedBefore 10 = .ok (.getfield 15, 3) := by decide +kernel
theorem dX3_isServedBefore_13 : decode cX3_isServedBefore 13 = .ok (.getfield 55, 3) := by decide +kernel
theorem dX3_isServedBefore_16 : decode cX3_isServedBefore 16 = .ok (.iload_n 2, 1) := by decide +kernel
theorem dX3_isServedBefore_17 : decode cX3_isServedBefore 17 = .ok (.iaload, 1) := by decide +kernel
theorem dX3_isServedBefore_18 : decode cX3_isServedBefore 18 = .ok (.imul, 1) := by decide +kernel
theorem dX3_isServedBefore_19 : decode cX3_isServedBefore 19 = .ok (.istore_n 3, 1) := by decide +kernel
theorem dX3_isServedBefore_20 : decode cX3_isServedBefore 20 = .ok (.aload_n 0, 1) := by decide +kernel
theorem dX3_isServedBefore_21 : decode cX3_isServedBefore 21 = .ok (.getfield 15, 3) := by decide +kernel
theorem dX3_isServedBefore_24 : decode cX3_isServedBefore 24 = .ok (.getfield 52, 3) := by decide +kernel
theorem dX3_isServedBefore_27 : decode cX3_isServedBefore 27 = .ok (.iload_n 2, 1) := by decide +kernel
theorem dX3_isServedBefore_28 : decode cX3_isServedBefore 28 = .ok (.iaload, 1) := by decide +kernel
theorem dX3_isServedBefore_29 : decode cX3_isServedBefore 29 = .ok (.aload_n 0, 1) := by decide +kernel
theorem dX3_isServedBefore_30 : decode cX3_isServedBefore 30 = .ok (.getfield 15, 3) := by decide +kernel
theorem dX3_isServedBefore_33 : decode cX3_isServedBefore 33 = .ok (.getfield 55, 3) := by decide +kernel
theorem dX3_isServedBefore_36 : decode cX3_isServedBefore 36 = .ok (.iload_n 1, 1) := by decide +kernel
theorem dX3_isServedBefore_37 : decode cX3_isServedBefore 37 = .ok (.iaload, 1) := by decide +kernel
theorem dX3_isServedBefore_38 : decode cX3_isServedBefore 38 = .ok (.imul, 1) := by decide +kernel
theorem dX3_isServedBefore_39 : decode cX3_isServedBefore 39 = .ok (.istore 4, 2) := by decide +kernel
theorem dX3_isServedBefore_41 : decode cX3_isServedBefore 41 = .ok (.iload_n 3, 1) := by decide +kernel
theorem dX3_isServedBefore_42 : decode cX3_isServedBefore 42 = .ok (.iload 4, 2) := by decide +kernel
theorem dX3_isServedBefore_44 : decode cX3_isServedBefore 44 = .ok (.if_icmp .lt 14, 3) := by decide +kernel
theorem dX3_isServedBefore_47 : decode cX3_isServedBefore 47 = .ok (.iload_n 3, 1) := by decide +kernel
theorem dX3_isServedBefore_48 : decode cX3_isServedBefore 48 = .ok (.iload 4, 2) := by decide +kernel
theorem dX3_isServedBefore_50 : decode cX3_isServedBefore 50 = .ok (.if_icmp .ne 12, 3) := by decide +kernel
theorem dX3_isServedBefore_53 : decode cX3_isServedBefore 53 = .ok (.iload_n 1, 1) := by decide +kernel
theorem dX3_isServedBefore_54 : decode cX3_isServedBefore 54 = .ok (.iload_n 2, 1) := by decide +kernel
theorem dX3_isServedBefore_55 : decode cX3_isServedBefore 55 = .ok (.if_icmp .ge 7, 3) := by decide +kernel
theorem dX3_isServedBefore_58 : decode cX3_isServedBefore 58 = .ok (.iconst 1, 1) := by decide +kernel
theorem dX3_isServedBefore_59 : decode cX3_isServedBefore 59 = .ok (.goto 4, 3) := by decide +kernel
theorem dX3_isServedBefore_62 : decode cX3_isServedBefore 62 = .ok (.iconst 0, 1) := by decide +kernel
theorem dX3_isServedBefore_63 : decode cX3_isServedBefore 63 = .ok (.ireturn, 1) := by decide +kernel
theorem dX3_tryToPlace_0 : decode cX3_tryToPlace 0 = .ok (.aload_n 0, 1) := by decide +kernel
theorem dX3_tryToPlace_1 : decode cX3_tryToPlace 1 = .ok (.getfield 15, 3) := by decide +kernel
theorem dX3_tryToPlace_4 : decode cX3_tryToPlace 4 = .ok (.aload_n 0, 1) := by decide +kernel
theorem dX3_tryToPlace_5 : decode cX3_tryToPlace 5 = .ok (.getfield 15, 3) := by decide +kernel
theorem dX3_tryToPlace_8 : decode cX3_tryToPlace 8 = .ok (.getfield 44, 3) := by decide +kernel
theorem dX3_tryToPlace_11 : decode cX3_tryToPlace 11 = .ok (.iload_n 1, 1) := by decide +kernel
theorem dX3_tryToPlace_12 : decode cX3_tryToPlace 12 = .ok (.iaload, 1) := by decide +kernel
theorem dX3_tryToPlace_13 : decode cX3_tryToPlace 13 = .ok (.invokevirtual 58, 3) := by decide +kernel
theorem dX3_tryToPlace_16 : decode cX3_tryToPlace 16 = .ok (.ifCond .ne 5, 3) := by decide +kernel
theorem dX3_tryToPlace_19 : decode cX3_tryToPlace 19 = .ok (.iconst 0, 1) := by decide +kernel
theorem dX3_tryToPlace_20 : decode cX3_tryToPlace 20 = .ok (.ireturn, 1) := by decide +kernel
theorem dX3_tryToPlace_21 : decode cX3_tryToPlace 21 = .ok (.aload_n 0, 1) := by decide +kernel
theorem dX3_tryToPlace_22 : decode cX3_tryToPlace 22 = .ok (.getfield 19, 3) := by decide +kernel
theorem dX3_tryToPlace_25 : decode cX3_tryToPlace 25 = .ok (.iload_n 1, 1) := by decide +kernel
theorem dX3_tryToPlace_26 : decode cX3_tryToPlace 26 = .ok (.invokevirtual 61, 3) := by decide +kernel
theorem dX3_tryToPlace_29 : decode cX3_tryToPlace 29 = .ok (.istore_n 2, 1) := by decide +kernel
theorem dX3_tryToPlace_30 : decode cX3_tryToPlace 30 = .ok (.iload_n 2, 1) := by decide +kernel
theorem dX3_tryToPlace_31 : decode cX3_tryToPlace 31 = .ok (.ifCond .eq 16, 3) := by decide +kernel
theorem dX3_tryToPlace_34 : decode cX3_tryToPlace 34 = .ok (.iload_n 2, 1) := by decide +kernel
theorem dX3_tryToPlace_35 : decode cX3_tryToPlace 35 = .ok (.iconst 1, 1) := by decide +kernel
theorem dX3_tryToPlace_36 : decode cX3_tryToPlace 36 = .ok (.isub, 1) := by decide +kernel
theorem dX3_tryToPlace_37 : decode cX3_tryToPlace 37 = .ok (.aload_n 0, 1) := by decide +kernel
theorem dX3_tryToPlace_38 : decode cX3_tryToPlace 38 = .ok (.getfield 15, 3) := by decide +kernel
theorem dX3_tryToPlace_41 : decode cX3_tryToPlace 41 = .ok (.getfield 67, 3) := by decide +kernel
theorem dX3_tryToPlace_44 : decode cX3_tryToPlace 44 = .ok (.if_icmp .le 5, 3) := by decide +kernel
theorem dX3_tryToPlace_47 : decode cX3_tryToPlace 47 = .ok (.iconst 0, 1) := by decide +kernel
theorem dX3_tryToPlace_48 : decode cX3_tryToPlace 48 = .ok (.ireturn, 1) := by decide +kernel
theorem dX3_tryToPlace_49 : decode cX3_tryToPlace 49 = .ok (.aload_n 0, 1) := by decide +kernel
theorem dX3_tryToPlace_50 : decode cX3_tryToPlace 50 = .ok (.iload_n 1, 1) := by decide +kernel
theorem dX3_tryToPlace_51 : decode cX3_tryToPlace 51 = .ok (.invokevirtual 70, 3) := by decide +kernel
theorem dX3_tryToPlace_54 : decode cX3_tryToPlace 54 = .ok (.iconst 1, 1) := by decide +kernel
theorem dX3_tryToPlace_55 : decode cX3_tryToPlace 55 = .ok (.ireturn, 1) := by decide +kernel
theorem dX3_placeAlongPath_0 : decode cX3_placeAlongPath 0 = .ok (.aload_n 0, 1) := by decide +kernel
theorem dX3_placeAlongPath_1 : decode cX3_placeAlongPath 1 = .ok (.getfield 15, 3) := by decide +kernel
theorem dX3_placeAlongPath_4 : decode cX3_placeAlongPath 4 = .ok (.iload_n 1, 1) := by decide +kernel
theorem dX3_placeAlongPath_5 : decode cX3_placeAlongPath 5 = .ok (.aload_n 0, 1) := by decide +kernel
theorem dX3_placeAlongPath_6 : decode cX3_placeAlongPath 6 = .ok (.getfield 19, 3) := by decide +kernel
theorem dX3_placeAlongPath_9 : decode cX3_placeAlongPath 9 = .ok (.getfield 74, 3) := by decide +kernel
theorem dX3_placeAlongPath_12 : decode cX3_placeAlongPath 12 = .ok (.iconst 0, 1) := by decide +kernel
theorem dX3_placeAlongPath_13 : decode cX3_placeAlongPath 13 = .ok (.iaload, 1) := by decide +kernel
theorem dX3_placeAlongPath_14 : decode cX3_placeAlongPath 14 = .ok (.invokevirtual 77, 3) := by decide +kernel
theorem dX3_placeAlongPath_17 : decode cX3_placeAlongPath 17 = .ok (.iconst 0, 1) := by decide +kernel
theorem dX3_placeAlongPath_18 : decode cX3_placeAlongPath 18 = .ok (.istore_n 2, 1) := by decide +kernel
theorem dX3_placeAlongPath_19 : decode cX3_placeAlongPath 19 = .ok (.iload_n 2, 1) := by decide +kernel
theorem dX3_placeAlongPath_20 : decode cX3_placeAlongPath 20 = .ok (.aload_n 0, 1) := by decide +kernel
theorem dX3_placeAlongPath_21 : decode cX3_placeAlongPath 21 = .ok (.getfield 19, 3) := by decide +kernel
theorem dX3_placeAlongPath_24 : decode cX3_placeAlongPath 24 = .ok (.getfield 81, 3) := by decide +kernel
theorem dX3_placeAlongPath_27 : decode cX3_placeAlongPath 27 = .ok (.iconst 1, 1) := by decide +kernel
theorem dX3_placeAlongPath_28 : decode cX3_placeAlongPath 28 = .ok (.isub, 1) := by decide +kernel
theorem dX3_placeAlongPath_29 : decode cX3_placeAlongPath 29 = .ok (.if_icmp .ge 52, 3) := by decide +kernel
theorem dX3_placeAlongPath_32 : decode cX3_placeAlongPath 32 = .ok (.aload_n 0, 1) := by decide +kernel
theorem dX3_placeAlongPath_33 : decode cX3_placeAlongPath 33 = .ok (.getfield 19, 3) := by decide +kernel
theorem dX3_placeAlongPath_36 : decode cX3_placeAlongPath 36 = .ok (.getfield 84, 3) := by decide +kernel
theorem dX3_placeAlongPath_39 : decode cX3_placeAlongPath 39 = .ok (.iload_n 2, 1) := by decide +kernel
theorem dX3_placeAlongPath_40 : decode cX3_placeAlongPath 40 = .ok (.iaload, 1) := by decide +kernel
theorem dX3_placeAlongPath_41 : decode cX3_placeAlongPath 41 = .ok (.istore_n 3, 1) := by decide +kernel
theorem dX3_placeAlongPath_42 : decode cX3_placeAlongPath 42 = .ok (.aload_n 0, 1) := by decide +kernel
theorem dX3_placeAlongPath_43 : decode cX3_placeAlongPath 43 = .ok (.getfield 19, 3) := by decide +kernel
theorem dX3_placeAlongPath_46 : decode cX3_placeAlongPath 46 = .ok (.getfield 74, 3) := by decide +kernel
theorem dX3_placeAlongPath_49 : decode cX3_placeAlongPath 49 = .ok (.iload_n 2, 1) := by decide +kernel
theorem dX3_placeAlongPath_50 : decode cX3_placeAlongPath 50 = .ok (.iconst 1, 1) := by decide +kernel
theorem dX3_placeAlongPath_51 : decode cX3_placeAlongPath 51 = .ok (.iadd, 1) := by decide +kernel
theorem dX3_placeAlongPath_52 : decode cX3_placeAlongPath 52 = .ok (.iaload, 1) := by decide +kernel
theorem dX3_placeAlongPath_53 : decode cX3_placeAlongPath 53 = .ok (.istore 4, 2) := by decide +kernel
theorem dX3_placeAlongPath_55 : decode cX3_placeAlongPath 55 = .ok (.aload_n 0, 1) := by decide +kernel
theorem dX3_placeAlongPath_56 : decode cX3_placeAlongPath 56 = .ok (.getfield 15, 3) := by decide +kernel
theorem dX3_placeAlongPath_59 : decode cX3_placeAlongPath 59 = .ok (.iload_n 3, 1) := by decide +kernel
theorem dX3_placeAlongPath_60 : decode cX3_placeAlongPath 60 = .ok (.iload 4, 2) := by decide +kernel
theorem dX3_placeAlongPath_62 : decode cX3_placeAlongPath 62 = .ok (.invokevirtual 87, 3) := by decide +kernel
theorem dX3_placeAlongPath_65 : decode cX3_placeAlongPath 65 = .ok (.aload_n 0, 1) := by decide +kernel
theorem dX3_placeAlongPath_66 : decode cX3_placeAlongPath 66 = .ok (.getfield 23, 3) := by decide +kernel
theorem dX3_placeAlongPath_69 : decode cX3_placeAlongPath 69 = .ok (.iload_n 3, 1) := by decide +kernel
theorem dX3_placeAlongPath_70 : decode cX3_placeAlongPath 70 = .ok (.iload 4, 2) := by decide +kernel
theorem dX3_placeAlongPath_72 : decode cX3_placeAlongPath 72 = .ok (.invokevirtual 90, 3) := by decide +kernel
theorem dX3_placeAlongPath_75 : decode cX3_placeAlongPath 75 = .ok (.iinc 2 1, 3) := by decide +kernel
theorem dX3_placeAlongPath_78 : decode cX3_placeAlongPath 78 = .ok (.goto (-59), 3) := by decide +kernel
theorem dX3_placeAlongPath_81 : decode cX3_placeAlongPath 81 = .ok (.return_, 1) := by decide +kernel
end
section
theorem dX4_init_0 : decode cX4_init 0 = .ok (.aload_n 0, 1) := by decide +kernel
theorem dX4_init_1 : decode cX4_init 1 = .ok (.invokespecial 3, 3) := by decide +kernel
theorem dX4_init_4 : decode cX4_init 4 = .ok (.aload_n 0, 1) := by decide +kernel
theorem dX4_init_5 : decode cX4_init 5 = .ok (.bipush 12, 2) := by decide +kernel
theorem dX4_init_7 : decode cX4_init 7 = .ok (.newarray .int, 2) := by decide +kernel
theorem dX4_init_9 : decode cX4_init 9 = .ok (.putfield 9, 3) := by decide +kernel
theorem dX4_init_12 : decode cX4_init 12 = .ok (.aload_n 0, 1) := by decide +kernel
theorem dX4_init_13 : decode cX4_init 13 = .ok (.bipush 12, 2) := by decide +kernel
theorem dX4_init_15 : decode cX4_init 15 = .ok (.newarray .int, 2) := by decide +kernel
theorem dX4_init_17 : decode cX4_init 17 = .ok (.putfield 15, 3) := by decide +kernel
theorem dX4_init_20 : decode cX4_init 20 = .ok (.aload_n 0, 1) := by decide +kernel
theorem dX4_init_21 : decode cX4_init 21 = .ok (.iconst 4, 1) := by decide +kernel
theorem dX4_init_22 : decode cX4_init 22 = .ok (.newarray .int, 2) := by decide +kernel
theorem dX4_init_24 : decode cX4_init 24 = .ok (.putfield 18, 3) := by decide +kernel
theorem dX4_init_27 : decode cX4_init 27 = .ok (.aload_n 0, 1) := by decide +kernel
theorem dX4_init_28 : decode cX4_init 28 = .ok (.iconst 4, 1) := by decide +kernel
theorem dX4_init_29 : decode cX4_init 29 = .ok (.newarray .int, 2) := by decide +kernel
theorem dX4_init_31 : decode cX4_init 31 = .ok (.putfield 21, 3) := by decide +kernel
theorem dX4_init_34 : decode cX4_init 34 = .ok (.aload_n 0, 1) := by decide +kernel
theorem dX4_init_35 : decode cX4_init 35 = .ok (.iconst 4, 1) := by decide +kernel
theorem dX4_init_36 : decode cX4_init 36 = .ok (.newarray .int, 2) := by decide +kernel
theorem dX4_init_38 : decode cX4_init 38 = .ok (.putfield 24, 3) := by decide +kernel
theorem dX4_init_41 : decode cX4_init 41 = .ok (.aload_n 0, 1) := by decide +kernel
theorem dX4_init_42 : decode cX4_init 42 = .ok (.bipush 40, 2) := by decide +kernel
theorem dX4_init_44 : decode cX4_init 44 = .ok (.newarray .int, 2) := by decide +kernel
theorem dX4_init_46 : decode cX4_init 46 = .ok (.putfield 27, 3) := by decide +kernel
theorem dX4_init_49 : decode cX4_init 49 = .ok (.aload_n 0, 1) := by decide +kernel
theorem dX4_init_50 : decode cX4_init 50 = .ok (.bipush 40, 2) := by decide +kernel
theorem dX4_init_52 : decode cX4_init 52 = .ok (.newarray .int, 2) := by decide +kernel
theorem dX4_init_54 : decode cX4_init 54 = .ok (.putfield 30, 3) := by decide +kernel
theorem dX4_init_57 : decode cX4_init 57 = .ok (.aload_n 0, 1) := by decide +kernel
theorem dX4_init_58 : decode cX4_init 58 = .ok (.bipush 40, 2) := by decide +kernel
theorem dX4_init_60 : decode cX4_init 60 = .ok (.newarray .int, 2) := by decide +kernel
theorem dX4_init_62 : decode cX4_init 62 = .ok (.putfield 33, 3) := by decide +kernel
theorem dX4_init_65 : decode cX4_init 65 = .ok (.aload_n 0, 1) := by decide +kernel
theorem dX4_init_66 : decode cX4_init 66 = .ok (.bipush 40, 2) := by decide +kernel
theorem dX4_init_68 : decode cX4_init 68 = .ok (.newarray .int, 2) := by decide +kernel
theorem dX4_init_70 : decode cX4_init 70 = .ok (.putfield 36, 3) := by decide +kernel
theorem dX4_init_73 : decode cX4_init 73 = .ok (.aload_n 0, 1) := by decide +kernel
theorem dX4_init_74 : decode cX4_init 74 = .ok (.iconst 2, 1) := by decide +kernel
theorem dX4_init_75 : decode cX4_init 75 = .ok (.putfield 39, 3) := by decide +kernel
theorem dX4_init_78 : decode cX4_init 78 = .ok (.aload_n 0, 1) := by decide +kernel
theorem dX4_init_79 : decode cX4_init 79 = .ok (.iconst 3, 1) := by decide +kernel
theorem dX4_init_80 : decode cX4_init 80 = .ok (.putfield 43, 3) := by decide +kernel
theorem dX4_init_83 : decode cX4_init 83 = .ok (.iconst 0, 1) := by decide +kernel
theorem dX4_init_84 : decode cX4_init 84 = .ok (.istore_n 1, 1) := by decide +kernel
theorem dX4_init_85 : decode cX4_init 85 = .ok (.iload_n 1, 1) := by decide +kernel
theorem dX4_init_86 : decode cX4_init 86 = .ok (.iconst 4, 1) := by decide +kernel
theorem dX4_init_87 : decode cX4_init 87 = .ok (.if_icmp .ge 24, 3) := by decide +kernel
theorem dX4_init_90 : decode cX4_init 90 = .ok (.aload_n 0, 1) := by decide +kernel
theorem dX4_init_91 : decode cX4_init 91 = .ok (.getfield 18, 3) := by decide +kernel
theorem dX4_init_94 : decode cX4_init 94 = .ok (.iload_n 1, 1) := by decide +kernel
theorem dX4_init_95 : decode cX4_init 95 = .ok (.bipush 40, 2) := by decide +kernel
theorem dX4_init_97 : decode cX4_init 97 = .ok (.iastore, 1) := by decide +kernel
theorem dX4_init_98 : decode cX4_init 98 = .ok (.aload_n 0, 1) := by decide +kernel
theorem dX4_init_99 : decode cX4_init 99 = .ok (.getfield 21, 3) := by decide +kernel
theorem dX4_init_102 : decode cX4_init 102 = .ok (.iload_n 1, 1) := by decide +kernel
theorem dX4_init_103 : decode cX4_init 103 = .ok (.iconst 1, 1) := by decide +kernel
theorem dX4_init_104 : decode cX4_init 104 = .ok (.iastore, 1) := by decide +kernel
theorem dX4_init_105 : decode cX4_init 105 = .ok (.iinc 1 1, 3) := by decide +kernel
theorem dX4_init_108 : decode cX4_init 108 = .ok (.goto (-23), 3) := by decide +kernel
theorem dX4_init_111 : decode cX4_init 111 = .ok (.return_, 1) := by decide +kernel
theorem dX4_maskOfAll_0 : decode cX4_maskOfAll 0 = .ok (.iconst 1, 1) := by decide +kernel
theorem dX4_maskOfAll_1 : decode cX4_maskOfAll 1 = .ok (.aload_n 0, 1) := by decide +kernel
theorem dX4_maskOfAll_2 : decode cX4_maskOfAll 2 = .ok (.getfield 46, 3) := by decide +kernel
theorem dX4_maskOfAll_5 : decode cX4_maskOfAll 5 = .ok (.ishl, 1) := by decide +kernel
theorem dX4_maskOfAll_6 : decode cX4_maskOfAll 6 = .ok (.iconst 1, 1) := by decide +kernel
theorem dX4_maskOfAll_7 : decode cX4_maskOfAll 7 = .ok (.isub, 1) := by decide +kernel
theorem dX4_maskOfAll_8 : decode cX4_maskOfAll 8 = .ok (.ireturn, 1) := by decide +kernel
theorem dX4_isWaiting_0 : decode cX4_isWaiting 0 = .ok (.aload_n 0, 1) := by decide +kernel
theorem dX4_isWaiting_1 : decode cX4_isWaiting 1 = .ok (.getfield 33, 3) := by decide +kernel
theorem dX4_isWaiting_4 : decode cX4_isWaiting 4 = .ok (.iload_n 1, 1) := by decide +kernel
theorem dX4_isWaiting_5 : decode cX4_isWaiting 5 = .ok (.iaload, 1) := by decide +kernel
theorem dX4_isWaiting_6 : decode cX4_isWaiting 6 = .ok (.iconst (-1), 1) := by decide +kernel
theorem dX4_isWaiting_7 : decode cX4_isWaiting 7 = .ok (.if_icmp .ne 7, 3) := by decide +kernel
theorem dX4_isWaiting_10 : decode cX4_isWaiting 10 = .ok (.iconst 1, 1) := by decide +kernel
theorem dX4_isWaiting_11 : decode cX4_isWaiting 11 = .ok (.goto 4, 3) := by decide +kernel
theorem dX4_isWaiting_14 : decode cX4_isWaiting 14 = .ok (.iconst 0, 1) := by decide +kernel
theorem dX4_isWaiting_15 : decode cX4_isWaiting 15 = .ok (.ireturn, 1) := by decide +kernel
theorem dX4_isAssigned_0 : decode cX4_isAssigned 0 = .ok (.aload_n 0, 1) := by decide +kernel
theorem dX4_isAssigned_1 : decode cX4_isAssigned 1 = .ok (.getfield 33, 3) := by decide +kernel
theorem dX4_isAssigned_4 : decode cX4_isAssigned 4 = .ok (.iload_n 1, 1) := by decide +kernel
theorem dX4_isAssigned_5 : decode cX4_isAssigned 5 = .ok (.iaload, 1) := by decide +kernel
theorem dX4_isAssigned_6 : decode cX4_isAssigned 6 = .ok (.ifCond .lt 7, 3) := by decide +kernel
theorem dX4_isAssigned_9 : decode cX4_isAssigned 9 = .ok (.iconst 1, 1) := by decide +kernel
theorem dX4_isAssigned_10 : decode cX4_isAssigned 10 = .ok (.goto 4, 3) := by decide +kernel
theorem dX4_isAssigned_13 : decode cX4_isAssigned 13 = .ok (.iconst 0, 1) := by decide +kernel
theorem dX4_isAssigned_14 : decode cX4_isAssigned 14 = .ok (.ireturn, 1) := by decide +kernel
theorem dX4_isDeparted_0 : decode cX4_isDeparted 0 = .ok (.aload_n 0, 1) := by decide +kernel
theorem dX4_isDeparted_1 : decode cX4_isDeparted 1 = .ok (.getfield 33, 3) := by decide +kernel
theorem dX4_isDeparted_4 : decode cX4_isDeparted 4 = .ok (.iload_n 1, 1) := by decide +kernel
theorem dX4_isDeparted_5 : decode cX4_isDeparted 5 = .ok (.iaload, 1) := by decide +kernel
theorem dX4_isDeparted_6 : decode cX4_isDeparted 6 = .ok (.bipush (-2), 2) := by decide +kernel
theorem dX4_isDeparted_8 : decode cX4_isDeparted 8 = .ok (.if_icmp .ne 7, 3) := by decide +kernel
theorem dX4_isDeparted_11 : decode cX4_isDeparted 11 = .ok (.iconst 1, 1) := by decide +kernel
theorem dX4_isDeparted_12 : decode cX4_isDeparted 12 = .ok (.goto 4, 3) := by decide +kernel
theorem dX4_isDeparted_15 : decode cX4_isDeparted 15 = .ok (.iconst 0, 1) := by decide +kernel
theorem dX4_isDeparted_16 : decode cX4_isDeparted 16 = .ok (.ireturn, 1) := by decide +kernel
theorem dX4_stateNumber_0 : decode cX4_stateNumber 0 = .ok (.aload_n 0, 1) := by decide +kernel
theorem dX4_stateNumber_1 : decode cX4_stateNumber 1 = .ok (.iload_n 1, 1) := by decide +kernel
theorem dX4_stateNumber_2 : decode cX4_stateNumber 2 = .ok (.invokevirtual 49, 3) := by decide +kernel
theorem dX4_stateNumber_5 : decode cX4_stateNumber 5 = .ok (.ifCond .eq 5, 3) := by decide +kernel
theorem dX4_stateNumber_8 : decode cX4_stateNumber 8 = .ok (.iconst 0, 1) := by decide +kernel
theorem dX4_stateNumber_9 : decode cX4_stateNumber 9 = .ok (.ireturn, 1) := by decide +kernel
theorem dX4_stateNumber_10 : decode cX4_stateNumber 10 = .ok (.aload_n 0, 1) := by decide +kernel
theorem dX4_stateNumber_11 : decode cX4_stateNumber 11 = .ok (.iload_n 1, 1) := by decide +kernel
theorem dX4_stateNumber_12 : decode cX4_stateNumber 12 = .ok (.invokevirtual 53, 3) := by decide +kernel
theorem dX4_stateNumber_15 : decode cX4_stateNumber 15 = .ok (.ifCond .eq 7, 3) := by decide +kernel
theorem dX4_stateNumber_18 : decode cX4_stateNumber 18 = .ok (.iconst 1, 1) := by decide +kernel
theorem dX4_stateNumber_19 : decode cX4_stateNumber 19 = .ok (.goto 4, 3) := by decide +kernel
theorem dX4_stateNumber_22 : decode cX4_stateNumber 22 = .ok (.iconst 2, 1) := by decide +kernel
theorem dX4_stateNumber_23 : decode cX4_stateNumber 23 = .ok (.ireturn, 1) := by decide +kernel
theorem dX4_canBeMoved_0 : decode cX4_canBeMoved 0 = .ok (.aload_n 0, 1) := by decide +kernel
theorem dX4_canBeMoved_1 : decode cX4_canBeMoved 1 = .ok (.getfield 33, 3) := by decide +kernel
theorem dX4_canBeMoved_4 : decode cX4_canBeMoved 4 = .ok (.iload_n 1, 1) := by decide +kernel
theorem dX4_canBeMoved_5 : decode cX4_canBeMoved 5 = .ok (.iaload, 1) := by decide +kernel
theorem dX4_canBeMoved_6 : decode cX4_canBeMoved 6 = .ok (.ifCond .lt 20, 3) := by decide +kernel
theorem dX4_canBeMoved_9 : decode cX4_canBeMoved 9 = .ok (.aload_n 0, 1) := by decide +kernel
theorem dX4_canBeMoved_10 : decode cX4_canBeMoved 10 = .ok (.getfield 36, 3) := by decide +kernel
theorem dX4_canBeMoved_13 : decode cX4_canBeMoved 13 = .ok (.iload_n 1, 1) := by decide +kernel
theorem dX4_canBeMoved_14 : decode cX4_canBeMoved 14 = .ok (.iaload, 1) := by decide +kernel
theorem dX4_canBeMoved_15 : decode cX4_canBeMoved 15 = .ok (.aload_n 0, 1) := by decide +kernel
theorem dX4_canBeMoved_16 : decode cX4_canBeMoved 16 = .ok (.getfield 43, 3) := by decide +kernel
theorem dX4_canBeMoved_19 : decode cX4_canBeMoved 19 = .ok (.if_icmp .ge 7, 3) := by decide +kernel
theorem dX4_canBeMoved_22 : decode cX4_canBeMoved 22 = .ok (.iconst 1, 1) := by decide +kernel
theorem dX4_canBeMoved_23 : decode cX4_canBeMoved 23 = .ok (.goto 4, 3) := by decide +kernel
theorem dX4_canBeMoved_26 : decode cX4_canBeMoved 26 = .ok (.iconst 0, 1) := by decide +kernel
theorem dX4_canBeMoved_27 : decode cX4_canBeMoved 27 = .ok (.ireturn, 1) := by decide +kernel
theorem dX4_resourceHasRoom_0 : decode cX4_resourceHasRoom 0 = .ok (.aload_n 0, 1) := by decide +kernel
theorem dX4_resourceHasRoom_1 : decode cX4_resourceHasRoom 1 = .ok (.getfield 15, 3) := by decide +kernel
theorem dX4_resourceHasRoom_4 : decode cX4_resourceHasRoom 4 = .ok (.iload_n 1, 1) := by decide +kernel
theorem dX4_resourceHasRoom_5 : decode cX4_resourceHasRoom 5 = .ok (.iaload, 1) := by decide +kernel
theorem dX4_resourceHasRoom_6 : decode cX4_resourceHasRoom 6 = .ok (.aload_n 0, 1) := by decide +kernel
theorem dX4_resourceHasRoom_7 : decode cX4_resourceHasRoom 7 = .ok (.getfield 9, 3) := by decide +kernel
theorem dX4_resourceHasRoom_10 : decode cX4_resourceHasRoom 10 = .ok (.iload_n 1, 1) := by decide +kernel
theorem dX4_resourceHasRoom_11 : decode cX4_resourceHasRoom 11 = .ok (.iaload, 1) := by decide +kernel
theorem dX4_resourceHasRoom_12 : decode cX4_resourceHasRoom 12 = .ok (.if_icmp .ge 7, 3) := by decide +kernel
theorem dX4_resourceHasRoom_15 : decode cX4_resourceHasRoom 15 = .ok (.iconst 1, 1) := by decide +kernel
theorem dX4_resourceHasRoom_16 : decode cX4_resourceHasRoom 16 = .ok (.goto 4, 3) := by decide +kernel
theorem dX4_resourceHasRoom_19 : decode cX4_resourceHasRoom 19 = .ok (.iconst 0, 1) := by decide +kernel
theorem dX4_resourceHasRoom_20 : decode cX4_resourceHasRoom 20 = .ok (.ireturn, 1) := by decide +kernel
theorem dX4_groupHasRoom_0 : decode cX4_groupHasRoom 0 = .ok (.aload_n 0, 1) := by decide +kernel
theorem dX4_groupHasRoom_1 : decode cX4_groupHasRoom 1 = .ok (.getfield 24, 3) := by decide +kernel
theorem dX4_groupHasRoom_4 : decode cX4_groupHasRoom 4 = .ok (.iload_n 1, 1) := by decide +kernel
theorem dX4_groupHasRoom_5 : decode cX4_groupHasRoom 5 = .ok (.iaload, 1) := by decide +kernel
theorem dX4_groupHasRoom_6 : decode cX4_groupHasRoom 6 = .ok (.aload_n 0, 1) := by decide +kernel
theorem dX4_groupHasRoom_7 : decode cX4_groupHasRoom 7 = .ok (.getfield 18, 3) := by decide +kernel
theorem dX4_groupHasRoom_10 : decode cX4_groupHasRoom 10 = .ok (.iload_n 1, 1) := by decide +kernel
theorem dX4_groupHasRoom_11 : decode cX4_groupHasRoom 11 = .ok (.iaload, 1) := by decide +kernel
theorem dX4_groupHasRoom_12 : decode cX4_groupHasRoom 12 = .ok (.if_icmp .ge 7, 3) := by decide +kernel
theorem dX4_groupHasRoom_15 : decode cX4_groupHasRoom 15 = .ok (.iconst 1, 1) := by decide +kernel
theorem dX4_groupHasRoom_16 : decode cX4_groupHasRoom 16 = .ok (.goto 4, 3) := by decide +kernel
theorem dX4_groupHasRoom_19 : decode cX4_groupHasRoom 19 = .ok (.iconst 0, 1) := by decide +kernel
theorem dX4_groupHasRoom_20 : decode cX4_groupHasRoom 20 = .ok (.ireturn, 1) := by decide +kernel
theorem dX4_countAssigned_0 : decode cX4_countAssigned 0 = .ok (.iconst 0, 1) := by decide +kernel
theorem dX4_countAssigned_1 : decode cX4_countAssigned 1 = .ok (.istore_n 1, 1) := by decide +kernel
theorem dX4_countAssigned_2 : decode cX4_countAssigned 2 = .ok (.iconst 0, 1) := by decide +kernel
theorem dX4_countAssigned_3 : decode cX4_countAssigned 3 = .ok (.istore_n 2, 1) := by decide +kernel
theorem dX4_countAssigned_4 : decode cX4_countAssigned 4 = .ok (.iload_n 2, 1) := by decide +kernel
theorem dX4_countAssigned_5 : decode cX4_countAssigned 5 = .ok (.iconst 4, 1) := by decide +kernel
theorem dX4_countAssigned_6 : decode cX4_countAssigned 6 = .ok (.if_icmp .ge 18, 3) := by decide +kernel
theorem dX4_countAssigned_9 : decode cX4_countAssigned 9 = .ok (.iload_n 1, 1) := by decide +kernel
theorem dX4_countAssigned_10 : decode cX4_countAssigned 10 = .ok (.aload_n 0, 1) := by decide +kernel
theorem dX4_countAssigned_11 : decode cX4_countAssigned 11 = .ok (.getfield 24, 3) := by decide +kernel
theorem dX4_countAssigned_14 : decode cX4_countAssigned 14 = .ok (.iload_n 2, 1) := by decide +kernel
theorem dX4_countAssigned_15 : decode cX4_countAssigned 15 = .ok (.iaload, 1) := by decide +kernel
theorem dX4_countAssigned_16 : decode cX4_countAssigned 16 = .ok (.iadd, 1) := by decide +kernel
theorem dX4_countAssigned_17 : decode cX4_countAssigned 17 = .ok (.istore_n 1, 1) := by decide +kernel
theorem dX4_countAssigned_18 : decode cX4_countAssigned 18 = .ok (.iinc 2 1, 3) := by decide +kernel
theorem dX4_countAssigned_21 : decode cX4_countAssigned 21 = .ok (.goto (-17), 3) := by decide +kernel
theorem dX4_countAssigned_24 : decode cX4_countAssigned 24 = .ok (.iload_n 1, 1) := by decide +kernel
theorem dX4_countAssigned_25 : decode cX4_countAssigned 25 = .ok (.ireturn, 1) := by decide +kernel
theorem dX4_countWaiting_0 : decode cX4_countWaiting 0 = .ok (.iconst 0, 1) := by decide +kernel
theorem dX4_countWaiting_1 : decode cX4_countWaiting 1 = .ok (.istore_n 1, 1) := by decide +kernel
theorem dX4_countWaiting_2 : decode cX4_countWaiting 2 = .ok (.iconst 0, 1) := by decide +kernel
theorem dX4_countWaiting_3 : decode cX4_countWaiting 3 = .ok (.istore_n 2, 1) := by decide +kernel
theorem dX4_countWaiting_4 : decode cX4_countWaiting 4 = .ok (.iload_n 2, 1) := by decide +kernel
theorem dX4_countWaiting_5 : decode cX4_countWaiting 5 = .ok (.aload_n 0, 1) := by decide +kernel
theorem dX4_countWaiting_6 : decode cX4_countWaiting 6 = .ok (.getfield 56, 3) := by decide +kernel
theorem dX4_countWaiting_9 : decode cX4_countWaiting 9 = .ok (.if_icmp .ge 20, 3) := by decide +kernel
theorem dX4_countWaiting_12 : decode cX4_countWaiting 12 = .ok (.aload_n 0, 1) := by decide +kernel
theorem dX4_countWaiting_13 : decode cX4_countWaiting 13 = .ok (.iload_n 2, 1) := by decide +kernel
theorem dX4_countWaiting_14 : decode cX4_countWaiting 14 = .ok (.invokevirtual 49, 3) := by decide +kernel
theorem dX4_countWaiting_17 : decode cX4_countWaiting 17 = .ok (.ifCond .eq 6, 3) := by decide +kernel
theorem dX4_countWaiting_20 : decode cX4_countWaiting 20 = .ok (.iinc 1 1, 3) := by decide +kernel
theorem dX4_countWaiting_23 : decode cX4_countWaiting 23 = .ok (.iinc 2 1, 3) := by decide +kernel
theorem dX4_countWaiting_26 : decode cX4_countWaiting 26 = .ok (.goto (-22), 3) := by decide +kernel
theorem dX4_countWaiting_29 : decode cX4_countWaiting 29 = .ok (.iload_n 1, 1) := by decide +kernel
theorem dX4_countWaiting_30 : decode cX4_countWaiting 30 = .ok (.ireturn, 1) := by decide +kernel
theorem dX4_openResource_0 : decode cX4_openResource 0 = .ok (.aload_n 0, 1) := by decide +kernel
theorem dX4_openResource_1 : decode cX4_openResource 1 = .ok (.getfield 46, 3) := by decide +kernel
theorem dX4_openResource_4 : decode cX4_openResource 4 = .ok (.istore_n 2, 1) := by decide +kernel
theorem dX4_openResource_5 : decode cX4_openResource 5 = .ok (.aload_n 0, 1) := by decide +kernel
theorem dX4_openResource_6 : decode cX4_openResource 6 = .ok (.getfield 9, 3) := by decide +kernel
theorem dX4_openResource_9 : decode cX4_openResource 9 = .ok (.iload_n 2, 1) := by decide +kernel
theorem dX4_openResource_10 : decode cX4_openResource 10 = .ok (.iload_n 1, 1) := by decide +kernel
theorem dX4_openResource_11 : decode cX4_openResource 11 = .ok (.iastore, 1) := by decide +kernel
theorem dX4_openResource_12 : decode cX4_openResource 12 = .ok (.aload_n 0, 1) := by decide +kernel
theorem dX4_openResource_13 : decode cX4_openResource 13 = .ok (.dup, 1) := by decide +kernel
theorem dX4_openResource_14 : decode cX4_openResource 14 = .ok (.getfield 46, 3) := by decide +kernel
theorem dX4_openResource_17 : decode cX4_openResource 17 = .ok (.iconst 1, 1) := by decide +kernel
theorem dX4_openResource_18 : decode cX4_openResource 18 = .ok (.iadd, 1) := by decide +kernel
theorem dX4_openResource_19 : decode cX4_openResource 19 = .ok (.putfield 46, 3) := by decide +kernel
theorem dX4_openResource_22 : decode cX4_openResource 22 = .ok (.iload_n 2, 1) := by decide +kernel
theorem dX4_openResource_23 : decode cX4_openResource 23 = .ok (.ireturn, 1) := by decide +kernel
theorem dX4_admit_0 : decode cX4_admit 0 = .ok (.aload_n 0, 1) := by decide +kernel
theorem dX4_admit_1 : decode cX4_admit 1 = .ok (.getfield 56, 3) := by decide +kernel
theorem dX4_admit_4 : decode cX4_admit 4 = .ok (.istore_n 3, 1) := by decide +kernel
theorem dX4_admit_5 : decode cX4_admit 5 = .ok (.aload_n 0, 1) := by decide +kernel
theorem dX4_admit_6 : decode cX4_admit 6 = .ok (.getfield 27, 3) := by decide +kernel
theorem dX4_admit_9 : decode cX4_admit 9 = .ok (.iload_n 3, 1) := by decide +kernel
theorem dX4_admit_10 : decode cX4_admit 10 = .ok (.iload_n 1, 1) := by decide +kernel
theorem dX4_admit_11 : decode cX4_admit 11 = .ok (.iastore, 1) := by decide +kernel
theorem dX4_admit_12 : decode cX4_admit 12 = .ok (.aload_n 0, 1) := by decide +kernel
theorem dX4_admit_13 : decode cX4_admit 13 = .ok (.getfield 30, 3) := by decide +kernel
theorem dX4_admit_16 : decode cX4_admit 16 = .ok (.iload_n 3, 1) := by decide +kernel
theorem dX4_admit_17 : decode cX4_admit 17 = .ok (.iload_n 2, 1) := by decide +kernel
theorem dX4_admit_18 : decode cX4_admit 18 = .ok (.iastore, 1) := by decide +kernel
theorem dX4_admit_19 : decode cX4_admit 19 = .ok (.aload_n 0, 1) := by decide +kernel
theorem dX4_admit_20 : decode cX4_admit 20 = .ok (.getfield 33, 3) := by decide +kernel
theorem dX4_admit_23 : decode cX4_admit 23 = .ok (.iload_n 3, 1) := by decide +kernel
theorem dX4_admit_24 : decode cX4_admit 24 = .ok (.iconst (-1), 1) := by decide +kernel
theorem dX4_admit_25 : decode cX4_admit 25 = .ok (.iastore, 1) := by decide +kernel
theorem dX4_admit_26 : decode cX4_admit 26 = .ok (.aload_n 0, 1) := by decide +kernel
theorem dX4_admit_27 : decode cX4_admit 27 = .ok (.dup, 1) := by decide +kernel
theorem dX4_admit_28 : decode cX4_admit 28 = .ok (.getfield 56, 3) := by decide +kernel
theorem dX4_admit_31 : decode cX4_admit 31 = .ok (.iconst 1, 1) := by decide +kernel
theorem dX4_admit_32 : decode cX4_admit 32 = .ok (.iadd, 1) := by decide +kernel
theorem dX4_admit_33 : decode cX4_admit 33 = .ok (.putfield 56, 3) := by decide +kernel
theorem dX4_admit_36 : decode cX4_admit 36 = .ok (.iload_n 3, 1) := by decide +kernel
theorem dX4_admit_37 : decode cX4_admit 37 = .ok (.ireturn, 1) := by decide +kernel
theorem dX4_dismiss_0 : decode cX4_dismiss 0 = .ok (.aload_n 0, 1) := by decide +kernel
theorem dX4_dismiss_1 : decode cX4_dismiss 1 = .ok (.iload_n 1, 1) := by decide +kernel
theorem dX4_dismiss_2 : decode cX4_dismiss 2 = .ok (.invokevirtual 59, 3) := by decide +kernel
theorem dX4_dismiss_5 : decode cX4_dismiss 5 = .ok (.aload_n 0, 1) := by decide +kernel
theorem dX4_dismiss_6 : decode cX4_dismiss 6 = .ok (.getfield 33, 3) := by decide +kernel
theorem dX4_dismiss_9 : decode cX4_dismiss 9 = .ok (.iload_n 1, 1) := by decide +kernel
theorem dX4_dismiss_10 : decode cX4_dismiss 10 = .ok (.bipush (-2), 2) := by decide +kernel
theorem dX4_dismiss_12 : decode cX4_dismiss 12 = .ok (.iastore, 1) := by decide +kernel
theorem dX4_dismiss_13 : decode cX4_dismiss 13 = .ok (.return_, 1) := by decide +kernel
theorem dX4_accept_0 : decode cX4_accept 0 = .ok (.aload_n 0, 1) := by decide +kernel
theorem dX4_accept_1 : decode cX4_accept 1 = .ok (.getfield 30, 3) := by decide +kernel
theorem dX4_accept_4 : decode cX4_accept 4 = .ok (.iload_n 1, 1) := by decide +kernel
theorem dX4_accept_5 : decode cX4_accept 5 = .ok (.iload_n 2, 1) := by decide +kernel
theorem dX4_accept_6 : decode cX4_accept 6 = .ok (.iastore, 1) := by decide +kernel
theorem dX4_accept_7 : decode cX4_accept 7 = .ok (.aload_n 0, 1) := by decide +kernel
theorem dX4_accept_8 : decode cX4_accept 8 = .ok (.iload_n 1, 1) := by decide +kernel
theorem dX4_accept_9 : decode cX4_accept 9 = .ok (.invokevirtual 53, 3) := by decide +kernel
theorem dX4_accept_12 : decode cX4_accept 12 = .ok (.ifCond .eq 21, 3) := by decide +kernel
theorem dX4_accept_15 : decode cX4_accept 15 = .ok (.iload_n 2, 1) := by decide +kernel
theorem dX4_accept_16 : decode cX4_accept 16 = .ok (.aload_n 0, 1) := by decide +kernel
theorem dX4_accept_17 : decode cX4_accept 17 = .ok (.getfield 33, 3) := by decide +kernel
theorem dX4_accept_20 : decode cX4_accept 20 = .ok (.iload_n 1, 1) := by decide +kernel
theorem dX4_accept_21 : decode cX4_accept 21 = .ok (.iaload, 1) := by decide +kernel
theorem dX4_accept_22 : decode cX4_accept 22 = .ok (.invokestatic 63, 3) := by decide +kernel
theorem dX4_accept_25 : decode cX4_accept 25 = .ok (.ifCond .ne 8, 3) := by decide +kernel
theorem dX4_accept_28 : decode cX4_accept 28 = .ok (.aload_n 0, 1) := by decide +kernel
theorem dX4_accept_29 : decode cX4_accept 29 = .ok (.iload_n 1, 1) := by decide +kernel
theorem dX4_accept_30 : decode cX4_accept 30 = .ok (.invokevirtual 59, 3) := by decide +kernel
theorem dX4_accept_33 : decode cX4_accept 33 = .ok (.return_, 1) := by decide +kernel
theorem dX4_assign_0 : decode cX4_assign 0 = .ok (.aload_n 0, 1) := by decide +kernel
theorem dX4_assign_1 : decode cX4_assign 1 = .ok (.getfield 33, 3) := by decide +kernel
theorem dX4_assign_4 : decode cX4_assign 4 = .ok (.iload_n 1, 1) := by decide +kernel
theorem dX4_assign_5 : decode cX4_assign 5 = .ok (.iload_n 2, 1) := by decide +kernel
theorem dX4_assign_6 : decode cX4_assign 6 = .ok (.iastore, 1) := by decide +kernel
theorem dX4_assign_7 : decode cX4_assign 7 = .ok (.aload_n 0, 1) := by decide +kernel
theorem dX4_assign_8 : decode cX4_assign 8 = .ok (.getfield 15, 3) := by decide +kernel
theorem dX4_assign_11 : decode cX4_assign 11 = .ok (.iload_n 2, 1) := by decide +kernel
theorem dX4_assign_12 : decode cX4_assign 12 = .ok (.dup2, 1) := by decide +kernel
theorem dX4_assign_13 : decode cX4_assign 13 = .ok (.iaload, 1) := by decide +kernel
theorem dX4_assign_14 : decode cX4_assign 14 = .ok (.iconst 1, 1) := by decide +kernel
theorem dX4_assign_15 : decode cX4_assign 15 = .ok (.iadd, 1) := by decide +kernel
theorem dX4_assign_16 : decode cX4_assign 16 = .ok (.iastore, 1) := by decide +kernel
theorem dX4_assign_17 : decode cX4_assign 17 = .ok (.aload_n 0, 1) := by decide +kernel
theorem dX4_assign_18 : decode cX4_assign 18 = .ok (.getfield 24, 3) := by decide +kernel
theorem dX4_assign_21 : decode cX4_assign 21 = .ok (.aload_n 0, 1) := by decide +kernel
theorem dX4_assign_22 : decode cX4_assign 22 = .ok (.getfield 27, 3) := by decide +kernel
theorem dX4_assign_25 : decode cX4_assign 25 = .ok (.iload_n 1, 1) := by decide +kernel
theorem dX4_assign_26 : decode cX4_assign 26 = .ok (.iaload, 1) := by decide +kernel
theorem dX4_assign_27 : decode cX4_assign 27 = .ok (.dup2, 1) := by decide +kernel
theorem dX4_assign_28 : decode cX4_assign 28 = .ok (.iaload, 1) := by decide +kernel
theorem dX4_assign_29 : decode cX4_assign 29 = .ok (.iconst 1, 1) := by decide +kernel
theorem dX4_assign_30 : decode cX4_assign 30 = .ok (.iadd, 1) := by decide +kernel
theorem dX4_assign_31 : decode cX4_assign 31 = .ok (.iastore, 1) := by decide +kernel
theorem dX4_assign_32 : decode cX4_assign 32 = .ok (.return_, 1) := by decide +kernel
theorem dX4_move_0 : decode cX4_move 0 = .ok (.aload_n 0, 1) := by decide +kernel
theorem dX4_move_1 : decode cX4_move 1 = .ok (.iload_n 1, 1) := by decide +kernel
theorem dX4_move_2 : decode cX4_move 2 = .ok (.invokevirtual 59, 3) := by decide +kernel
theorem dX4_move_5 : decode cX4_move 5 = .ok (.aload_n 0, 1) := by decide +kernel
theorem dX4_move_6 : decode cX4_move 6 = .ok (.iload_n 1, 1) := by decide +kernel
theorem dX4_move_7 : decode cX4_move 7 = .ok (.iload_n 2, 1) := by decide +kernel
theorem dX4_move_8 : decode cX4_move 8 = .ok (.invokevirtual 67, 3) := by decide +kernel
theorem dX4_move_11 : decode cX4_move 11 = .ok (.aload_n 0, 1) := by decide +kernel
theorem dX4_move_12 : decode cX4_move 12 = .ok (.getfield 36, 3) := by decide +kernel
theorem dX4_move_15 : decode cX4_move 15 = .ok (.iload_n 1, 1) := by decide +kernel
theorem dX4_move_16 : decode cX4_move 16 = .ok (.dup2, 1) := by decide +kernel
theorem dX4_move_17 : decode cX4_move 17 = .ok (.iaload, 1) := by decide +kernel
theorem dX4_move_18 : decode cX4_move 18 = .ok (.iconst 1, 1) := by decide +kernel
theorem dX4_move_19 : decode cX4_move 19 = .ok (.iadd, 1) := by decide +kernel
theorem dX4_move_20 : decode cX4_move 20 = .ok (.iastore, 1) := by decide +kernel
theorem dX4_move_21 : decode cX4_move 21 = .ok (.return_, 1) := by decide +kernel
theorem dX4_putBack_0 : decode cX4_putBack 0 = .ok (.aload_n 0, 1) := by decide +kernel
theorem dX4_putBack_1 : decode cX4_putBack 1 = .ok (.iload_n 1, 1) := by decide +kernel
theorem dX4_putBack_2 : decode cX4_putBack 2 = .ok (.invokevirtual 53, 3) := by decide +kernel
theorem dX4_putBack_5 : decode cX4_putBack 5 = .ok (.ifCond .eq 40, 3) := by decide +kernel
theorem dX4_putBack_8 : decode cX4_putBack 8 = .ok (.aload_n 0, 1) := by decide +kernel
theorem dX4_putBack_9 : decode cX4_putBack 9 = .ok (.getfield 15, 3) := by decide +kernel
theorem dX4_putBack_12 : decode cX4_putBack 12 = .ok (.aload_n 0, 1) := by decide +kernel
theorem dX4_putBack_13 : decode cX4_putBack 13 = .ok (.getfield 33, 3) := by decide +kernel
theorem dX4_putBack_16 : decode cX4_putBack 16 = .ok (.iload_n 1, 1) := by decide +kernel
theorem dX4_putBack_17 : decode cX4_putBack 17 = .ok (.iaload, 1) := by decide +kernel
theorem dX4_putBack_18 : decode cX4_putBack 18 = .ok (.dup2, 1) := by decide +kernel
theorem dX4_putBack_19 : decode cX4_putBack 19 = .ok (.iaload, 1) := by decide +kernel
theorem dX4_putBack_20 : decode cX4_putBack 20 = .ok (.iconst 1, 1) := by decide +kernel
theorem dX4_putBack_21 : decode cX4_putBack 21 = .ok (.isub, 1) := by decide +kernel
theorem dX4_putBack_22 : decode cX4_putBack 22 = .ok (.iastore, 1) := by decide +kernel
theorem dX4_putBack_23 : decode cX4_putBack 23 = .ok (.aload_n 0, 1) := by decide +kernel
theorem dX4_putBack_24 : decode cX4_putBack 24 = .ok (.getfield 24, 3) := by decide +kernel
theorem dX4_putBack_27 : decode cX4_putBack 27 = .ok (.aload_n 0, 1) := by decide +kernel
theorem dX4_putBack_28 : decode cX4_putBack 28 = .ok (.getfield 27, 3) := by decide +kernel
theorem dX4_putBack_31 : decode cX4_putBack 31 = .ok (.iload_n 1, 1) := by decide +kernel
theorem dX4_putBack_32 : decode cX4_putBack 32 = .ok (.iaload, 1) := by decide +kernel
theorem dX4_putBack_33 : decode cX4_putBack 33 = .ok (.dup2, 1) := by decide +kernel
theorem dX4_putBack_34 : decode cX4_putBack 34 = .ok (.iaload, 1) := by decide +kernel
theorem dX4_putBack_35 : decode cX4_putBack 35 = .ok (.iconst 1, 1) := by decide +kernel
theorem dX4_putBack_36 : decode cX4_putBack 36 = .ok (.isub, 1) := by decide +kernel
theorem dX4_putBack_37 : decode cX4_putBack 37 = .ok (.iastore, 1) := by decide +kernel
theorem dX4_putBack_38 : decode cX4_putBack 38 = .ok (.aload_n 0, 1) := by decide +kernel
theorem dX4_putBack_39 : decode cX4_putBack 39 = .ok (.getfield 33, 3) := by decide +kernel
theorem dX4_putBack_42 : decode cX4_putBack 42 = .ok (.iload_n 1, 1) := by decide +kernel
theorem dX4_putBack_43 : decode cX4_putBack 43 = .ok (.iconst (-1), 1) := by decide +kernel
theorem dX4_putBack_44 : decode cX4_putBack 44 = .ok (.iastore, 1) := by decide +kernel
theorem dX4_putBack_45 : decode cX4_putBack 45 = .ok (.return_, 1) := by decide +kernel
theorem dX4_putBackBeyondCapacity_0 : decode cX4_putBackBeyondCapacity 0 = .ok (.iconst 0, 1) := by decide +kernel
theorem dX4_putBackBeyondCapacity_1 : decode cX4_putBackBeyondCapacity 1 = .ok (.istore_n 2, 1) := by decide +kernel
theorem dX4_putBackBeyondCapacity_2 : decode cX4_putBackBeyondCapacity 2 = .ok (.aload_n 0, 1) := by decide +kernel
theorem dX4_putBackBeyondCapacity_3 : decode cX4_putBackBeyondCapacity 3 = .ok (.getfield 56, 3) := by decide +kernel
theorem dX4_putBackBeyondCapacity_6 : decode cX4_putBackBeyondCapacity 6 = .ok (.iconst 1, 1) := by decide +kernel
theorem dX4_putBackBeyondCapacity_7 : decode cX4_putBackBeyondCapacity 7 = .ok (.isub, 1) := by decide +kernel
theorem dX4_putBackBeyondCapacity_8 : decode cX4_putBackBeyondCapacity 8 = .ok (.istore_n 3, 1) := by decide +kernel
theorem dX4_putBackBeyondCapacity_9 : decode cX4_putBackBeyondCapacity 9 = .ok (.iload_n 3, 1) := by decide +kernel
theorem dX4_putBackBeyondCapacity_10 : decode cX4_putBackBeyondCapacity 10 = .ok (.ifCond .lt 42, 3) := by decide +kernel
theorem dX4_putBackBeyondCapacity_13 : decode cX4_putBackBeyondCapacity 13 = .ok (.aload_n 0, 1) := by decide +kernel
theorem dX4_putBackBeyondCapacity_14 : decode cX4_putBackBeyondCapacity 14 = .ok (.getfield 15, 3) := by decide +kernel
theorem dX4_putBackBeyondCapacity_17 : decode cX4_putBackBeyondCapacity 17 = .ok (.iload_n 1, 1) := by decide +kernel
theorem dX4_putBackBeyondCapacity_18 : decode cX4_putBackBeyondCapacity 18 = .ok (.iaload, 1) := by decide +kernel
theorem dX4_putBackBeyondCapacity_19 : decode cX4_putBackBeyondCapacity 19 = .ok (.aload_n 0, 1) := by decide +kernel
theorem dX4_putBackBeyondCapacity_20 : decode cX4_putBackBeyondCapacity 20 = .ok (.getfield 9, 3) := by decide +kernel
theorem dX4_putBackBeyondCapacity_23 : decode cX4_putBackBeyondCapacity 23 = .ok (.iload_n 1, 1) := by decide +kernel
theorem dX4_putBackBeyondCapacity_24 : decode cX4_putBackBeyondCapacity 24 = .ok (.iaload, 1) := by decide +kernel
theorem dX4_putBackBeyondCapacity_25 : decode cX4_putBackBeyondCapacity 25 = .ok (.if_icmp .le 27, 3) := by decide +kernel
theorem dX4_putBackBeyondCapacity_28 : decode cX4_putBackBeyondCapacity 28 = .ok (.aload_n 0, 1) := by decide +kernel
theorem dX4_putBackBeyondCapacity_29 : decode cX4_putBackBeyondCapacity 29 = .ok (.getfield 33, 3) := by decide +kernel
theorem dX4_putBackBeyondCapacity_32 : decode cX4_putBackBeyondCapacity 32 = .ok (.iload_n 3, 1) := by decide +kernel
theorem dX4_putBackBeyondCapacity_33 : decode cX4_putBackBeyondCapacity 33 = .ok (.iaload, 1) := by decide +kernel
theorem dX4_putBackBeyondCapacity_34 : decode cX4_putBackBeyondCapacity 34 = .ok (.iload_n 1, 1) := by decide +kernel
theorem dX4_putBackBeyondCapacity_35 : decode cX4_putBackBeyondCapacity 35 = .ok (.if_icmp .ne 11, 3) := by decide +kernel
theorem dX4_putBackBeyondCapacity_38 : decode cX4_putBackBeyondCapacity 38 = .ok (.aload_n 0, 1) := by decide +kernel
theorem dX4_putBackBeyondCapacity_39 : decode cX4_putBackBeyondCapacity 39 = .ok (.iload_n 3, 1) := by decide +kernel
theorem dX4_putBackBeyondCapacity_40 : decode cX4_putBackBeyondCapacity 40 = .ok (.invokevirtual 59, 3) := by decide +kernel
theorem dX4_putBackBeyondCapacity_43 : decode cX4_putBackBeyondCapacity 43 = .ok (.iinc 2 1, 3) := by decide +kernel
theorem dX4_putBackBeyondCapacity_46 : decode cX4_putBackBeyondCapacity 46 = .ok (.iinc 3 (-1), 3) := by decide +kernel
theorem dX4_putBackBeyondCapacity_49 : decode cX4_putBackBeyondCapacity 49 = .ok (.goto (-40), 3) := by decide +kernel
theorem dX4_putBackBeyondCapacity_52 : decode cX4_putBackBeyondCapacity 52 = .ok (.iload_n 2, 1) := by decide +kernel
theorem dX4_putBackBeyondCapacity_53 : decode cX4_putBackBeyondCapacity 53 = .ok (.ireturn, 1) := by decide +kernel
theorem dX4_putBackBeyondQuota_0 : decode cX4_putBackBeyondQuota 0 = .ok (.iconst 0, 1) := by decide +kernel
theorem dX4_putBackBeyondQuota_1 : decode cX4_putBackBeyondQuota 1 = .ok (.istore_n 2, 1) := by decide +kernel
theorem dX4_putBackBeyondQuota_2 : decode cX4_putBackBeyondQuota 2 = .ok (.aload_n 0, 1) := by decide +kernel
theorem dX4_putBackBeyondQuota_3 : decode cX4_putBackBeyondQuota 3 = .ok (.getfield 56, 3) := by decide +kernel
theorem dX4_putBackBeyondQuota_6 : decode cX4_putBackBeyondQuota 6 = .ok (.iconst 1, 1) := by decide +kernel
theorem dX4_putBackBeyondQuota_7 : decode cX4_putBackBeyondQuota 7 = .ok (.isub, 1) := by decide +kernel
theorem dX4_putBackBeyondQuota_8 : decode cX4_putBackBeyondQuota 8 = .ok (.istore_n 3, 1) := by decide +kernel
theorem dX4_putBackBeyondQuota_9 : decode cX4_putBackBeyondQuota 9 = .ok (.iload_n 3, 1) := by decide +kernel
theorem dX4_putBackBeyondQuota_10 : decode cX4_putBackBeyondQuota 10 = .ok (.ifCond .lt 50, 3) := by decide +kernel
theorem dX4_putBackBeyondQuota_13 : decode cX4_putBackBeyondQuota 13 = .ok (.aload_n 0, 1) := by decide +kernel
theorem dX4_putBackBeyondQuota_14 : decode cX4_putBackBeyondQuota 14 = .ok (.getfield 24, 3) := by decide +kernel
theorem dX4_putBackBeyondQuota_17 : decode cX4_putBackBeyondQuota 17 = .ok (.iload_n 1, 1) := by decide +kernel
theorem dX4_putBackBeyondQuota_18 : decode cX4_putBackBeyondQuota 18 = .ok (.iaload, 1) := by decide +kernel
theorem dX4_putBackBeyondQuota_19 : decode cX4_putBackBeyondQuota 19 = .ok (.aload_n 0, 1) := by decide +kernel
theorem dX4_putBackBeyondQuota_20 : decode cX4_putBackBeyondQuota 20 = .ok (.getfield 18, 3) := by decide +kernel
theorem dX4_putBackBeyondQuota_23 : decode cX4_putBackBeyondQuota 23 = .ok (.iload_n 1, 1) := by decide +kernel
theorem dX4_putBackBeyondQuota_24 : decode cX4_putBackBeyondQuota 24 = .ok (.iaload, 1) := by decide +kernel
theorem dX4_putBackBeyondQuota_25 : decode cX4_putBackBeyondQuota 25 = .ok (.if_icmp .le 35, 3) := by decide +kernel
theorem dX4_putBackBeyondQuota_28 : decode cX4_putBackBeyondQuota 28 = .ok (.aload_n 0, 1) := by decide +kernel
theorem dX4_putBackBeyondQuota_29 : decode cX4_putBackBeyondQuota 29 = .ok (.getfield 27, 3) := by decide +kernel
theorem dX4_putBackBeyondQuota_32 : decode cX4_putBackBeyondQuota 32 = .ok (.iload_n 3, 1) := by decide +kernel
theorem dX4_putBackBeyondQuota_33 : decode cX4_putBackBeyondQuota 33 = .ok (.iaload, 1) := by decide +kernel
theorem dX4_putBackBeyondQuota_34 : decode cX4_putBackBeyondQuota 34 = .ok (.iload_n 1, 1) := by decide +kernel
theorem dX4_putBackBeyondQuota_35 : decode cX4_putBackBeyondQuota 35 = .ok (.if_icmp .ne 19, 3) := by decide +kernel
theorem dX4_putBackBeyondQuota_38 : decode cX4_putBackBeyondQuota 38 = .ok (.aload_n 0, 1) := by decide +kernel
theorem dX4_putBackBeyondQuota_39 : decode cX4_putBackBeyondQuota 39 = .ok (.iload_n 3, 1) := by decide +kernel
theorem dX4_putBackBeyondQuota_40 : decode cX4_putBackBeyondQuota 40 = .ok (.invokevirtual 53, 3) := by decide +kernel
theorem dX4_putBackBeyondQuota_43 : decode cX4_putBackBeyondQuota 43 = .ok (.ifCond .eq 11, 3) := by decide +kernel
theorem dX4_putBackBeyondQuota_46 : decode cX4_putBackBeyondQuota 46 = .ok (.aload_n 0, 1) := by decide +kernel
theorem dX4_putBackBeyondQuota_47 : decode cX4_putBackBeyondQuota 47 = .ok (.iload_n 3, 1) := by decide +kernel
theorem dX4_putBackBeyondQuota_48 : decode cX4_putBackBeyondQuota 48 = .ok (.invokevirtual 59, 3) := by decide +kernel
theorem dX4_putBackBeyondQuota_51 : decode cX4_putBackBeyondQuota 51 = .ok (.iinc 2 1, 3) := by decide +kernel
theorem dX4_putBackBeyondQuota_54 : decode cX4_putBackBeyondQuota 54 = .ok (.iinc 3 (-1), 3) := by decide +kernel
theorem dX4_putBackBeyondQuota_57 : decode cX4_putBackBeyondQuota 57 = .ok (.goto (-48), 3) := by decide +kernel
theorem dX4_putBackBeyondQuota_60 : decode cX4_putBackBeyondQuota 60 = .ok (.iload_n 2, 1) := by decide +kernel
theorem dX4_putBackBeyondQuota_61 : decode cX4_putBackBeyondQuota 61 = .ok (.ireturn, 1) := by decide +kernel
end
section
theorem dX5_init_0 : decode cX5_init 0 = .ok (.aload_n 0, 1) := by decide +kernel
theorem dX5_init_1 : decode cX5_init 1 = .ok (.invokespecial 1, 3) := by decide +kernel
theorem dX5_init_4 : decode cX5_init 4 = .ok (.aload_n 0, 1) := by decide +kernel
theorem dX5_init_5 : decode cX5_init 5 = .ok (.new 7, 3) := by decide +kernel
theorem dX5_init_8 : decode cX5_init 8 = .ok (.dup, 1) := by decide +kernel
theorem dX5_init_9 : decode cX5_init 9 = .ok (.invokespecial 9, 3) := by decide +kernel
theorem dX5_init_12 : decode cX5_init 12 = .ok (.putfield 10, 3) := by decide +kernel
theorem dX5_init_15 : decode cX5_init 15 = .ok (.aload_n 0, 1) := by decide +kernel
theorem dX5_init_16 : decode cX5_init 16 = .ok (.new 16, 3) := by decide +kernel
theorem dX5_init_19 : decode cX5_init 19 = .ok (.dup, 1) := by decide +kernel
theorem dX5_init_20 : decode cX5_init 20 = .ok (.invokespecial 18, 3) := by decide +kernel
theorem dX5_init_23 : decode cX5_init 23 = .ok (.putfield 19, 3) := by decide +kernel
theorem dX5_init_26 : decode cX5_init 26 = .ok (.aload_n 0, 1) := by decide +kernel
theorem dX5_init_27 : decode cX5_init 27 = .ok (.new 23, 3) := by decide +kernel
theorem dX5_init_30 : decode cX5_init 30 = .ok (.dup, 1) := by decide +kernel
theorem dX5_init_31 : decode cX5_init 31 = .ok (.aload_n 0, 1) := by decide +kernel
theorem dX5_init_32 : decode cX5_init 32 = .ok (.getfield 10, 3) := by decide +kernel
theorem dX5_init_35 : decode cX5_init 35 = .ok (.invokespecial 25, 3) := by decide +kernel
theorem dX5_init_38 : decode cX5_init 38 = .ok (.putfield 28, 3) := by decide +kernel
theorem dX5_init_41 : decode cX5_init 41 = .ok (.aload_n 0, 1) := by decide +kernel
theorem dX5_init_42 : decode cX5_init 42 = .ok (.new 32, 3) := by decide +kernel
theorem dX5_init_45 : decode cX5_init 45 = .ok (.dup, 1) := by decide +kernel
theorem dX5_init_46 : decode cX5_init 46 = .ok (.aload_n 0, 1) := by decide +kernel
theorem dX5_init_47 : decode cX5_init 47 = .ok (.getfield 10, 3) := by decide +kernel
theorem dX5_init_50 : decode cX5_init 50 = .ok (.aload_n 0, 1) := by decide +kernel
theorem dX5_init_51 : decode cX5_init 51 = .ok (.getfield 28, 3) := by decide +kernel
theorem dX5_init_54 : decode cX5_init 54 = .ok (.aload_n 0, 1) := by decide +kernel
theorem dX5_init_55 : decode cX5_init 55 = .ok (.getfield 19, 3) := by decide +kernel
theorem dX5_init_58 : decode cX5_init 58 = .ok (.invokespecial 34, 3) := by decide +kernel
theorem dX5_init_61 : decode cX5_init 61 = .ok (.putfield 37, 3) := by decide +kernel
theorem dX5_init_64 : decode cX5_init 64 = .ok (.aload_n 0, 1) := by decide +kernel
theorem dX5_init_65 : decode cX5_init 65 = .ok (.new 41, 3) := by decide +kernel
theorem dX5_init_68 : decode cX5_init 68 = .ok (.dup, 1) := by decide +kernel
theorem dX5_init_69 : decode cX5_init 69 = .ok (.aload_n 0, 1) := by decide +kernel
theorem dX5_init_70 : decode cX5_init 70 = .ok (.getfield 10, 3) := by decide +kernel
theorem dX5_init_73 : decode cX5_init 73 = .ok (.invokespecial 43, 3) := by decide +kernel
theorem dX5_init_76 : decode cX5_init 76 = .ok (.putfield 44, 3) := by decide +kernel
theorem dX5_init_79 : decode cX5_init 79 = .ok (.return_, 1) := by decide +kernel
theorem dX5_addResource_0 : decode cX5_addResource 0 = .ok (.iload_n 1, 1) := by decide +kernel
theorem dX5_addResource_1 : decode cX5_addResource 1 = .ok (.iconst 0, 1) := by decide +kernel
theorem dX5_addResource_2 : decode cX5_addResource 2 = .ok (.iconst 4, 1) := by decide +kernel
theorem dX5_addResource_3 : decode cX5_addResource 3 = .ok (.invokestatic 48, 3) := by decide +kernel
theorem dX5_addResource_6 : decode cX5_addResource 6 = .ok (.ifCond .ne 13, 3) := by decide +kernel
theorem dX5_addResource_9 : decode cX5_addResource 9 = .ok (.new 52, 3) := by decide +kernel
theorem dX5_addResource_12 : decode cX5_addResource 12 = .ok (.dup, 1) := by decide +kernel
theorem dX5_addResource_13 : decode cX5_addResource 13 = .ok (.ldc 54, 2) := by decide +kernel
theorem dX5_addResource_15 : decode cX5_addResource 15 = .ok (.invokespecial 56, 3) := by decide +kernel
theorem dX5_addResource_18 : decode cX5_addResource 18 = .ok (.athrow, 1) := by decide +kernel
theorem dX5_addResource_19 : decode cX5_addResource 19 = .ok (.aload_n 0, 1) := by decide +kernel
theorem dX5_addResource_20 : decode cX5_addResource 20 = .ok (.getfield 10, 3) := by decide +kernel
theorem dX5_addResource_23 : decode cX5_addResource 23 = .ok (.getfield 59, 3) := by decide +kernel
theorem dX5_addResource_26 : decode cX5_addResource 26 = .ok (.bipush 12, 2) := by decide +kernel
theorem dX5_addResource_28 : decode cX5_addResource 28 = .ok (.if_icmp .lt 13, 3) := by decide +kernel
theorem dX5_addResource_31 : decode cX5_addResource 31 = .ok (.new 63, 3) := by decide +kernel
theorem dX5_addResource_34 : decode cX5_addResource 34 = .ok (.dup, 1) := by decide +kernel
theorem dX5_addResource_35 : decode cX5_addResource 35 = .ok (.ldc 65, 2) := by decide +kernel
theorem dX5_addResource_37 : decode cX5_addResource 37 = .ok (.invokespecial 67, 3) := by decide +kernel
theorem dX5_addResource_40 : decode cX5_addResource 40 = .ok (.athrow, 1) := by decide +kernel
theorem dX5_addResource_41 : decode cX5_addResource 41 = .ok (.aload_n 0, 1) := by decide +kernel
theorem dX5_addResource_42 : decode cX5_addResource 42 = .ok (.getfield 19, 3) := by decide +kernel
theorem dX5_addResource_45 : decode cX5_addResource 45 = .ok (.invokevirtual 68, 3) := by decide +kernel
theorem dX5_addResource_48 : decode cX5_addResource 48 = .ok (.aload_n 0, 1) := by decide +kernel
theorem dX5_addResource_49 : decode cX5_addResource 49 = .ok (.getfield 10, 3) := by decide +kernel
theorem dX5_addResource_52 : decode cX5_addResource 52 = .ok (.iload_n 1, 1) := by decide +kernel
theorem dX5_addResource_53 : decode cX5_addResource 53 = .ok (.invokevirtual 71, 3) := by decide +kernel
theorem dX5_addResource_56 : decode cX5_addResource 56 = .ok (.istore_n 2, 1) := by decide +kernel
theorem dX5_addResource_57 : decode cX5_addResource 57 = .ok (.aload_n 0, 1) := by decide +kernel
theorem dX5_addResource_58 : decode cX5_addResource 58 = .ok (.getfield 37, 3) := by decide +kernel
theorem dX5_addResource_61 : decode cX5_addResource 61 = .ok (.invokevirtual 75, 3) := by decide +kernel
theorem dX5_addResource_64 : decode cX5_addResource 64 = .ok (.pop, 1) := by decide +kernel
theorem dX5_addResource_65 : decode cX5_addResource 65 = .ok (.iload_n 2, 1) := by decide +kernel
theorem dX5_addResource_66 : decode cX5_addResource 66 = .ok (.ireturn, 1) := by decide +kernel
theorem dX5_setCapacity_0 : decode cX5_setCapacity 0 = .ok (.aload_n 0, 1) := by decide +kernel
theorem dX5_setCapacity_1 : decode cX5_setCapacity 1 = .ok (.iload_n 1, 1) := by decide +kernel
theorem dX5_setCapacity_2 : decode cX5_setCapacity 2 = .ok (.invokevirtual 79, 3) := by decide +kernel
theorem dX5_setCapacity_5 : decode cX5_setCapacity 5 = .ok (.iload_n 2, 1) := by decide +kernel
theorem dX5_setCapacity_6 : decode cX5_setCapacity 6 = .ok (.iconst 0, 1) := by decide +kernel
theorem dX5_setCapacity_7 : decode cX5_setCapacity 7 = .ok (.iconst 4, 1) := by decide +kernel
theorem dX5_setCapacity_8 : decode cX5_setCapacity 8 = .ok (.invokestatic 48, 3) := by decide +kernel
theorem dX5_setCapacity_11 : decode cX5_setCapacity 11 = .ok (.ifCond .ne 13, 3) := by decide +kernel
theorem dX5_setCapacity_14 : decode cX5_setCapacity 14 = .ok (.new 52, 3) := by decide +kernel
theorem dX5_setCapacity_17 : decode cX5_setCapacity 17 = .ok (.dup, 1) := by decide +kernel
theorem dX5_setCapacity_18 : decode cX5_setCapacity 18 = .ok (.ldc 54, 2) := by decide +kernel
theorem dX5_setCapacity_20 : decode cX5_setCapacity 20 = .ok (.invokespecial 56, 3) := by decide +kernel
theorem dX5_setCapacity_23 : decode cX5_setCapacity 23 = .ok (.athrow, 1) := by decide +kernel
theorem dX5_setCapacity_24 : decode cX5_setCapacity 24 = .ok (.aload_n 0, 1) := by decide +kernel
theorem dX5_setCapacity_25 : decode cX5_setCapacity 25 = .ok (.getfield 19, 3) := by decide +kernel
theorem dX5_setCapacity_28 : decode cX5_setCapacity 28 = .ok (.invokevirtual 68, 3) := by decide +kernel
theorem dX5_setCapacity_31 : decode cX5_setCapacity 31 = .ok (.aload_n 0, 1) := by decide +kernel
theorem dX5_setCapacity_32 : decode cX5_setCapacity 32 = .ok (.getfield 10, 3) := by decide +kernel
theorem dX5_setCapacity_35 : decode cX5_setCapacity 35 = .ok (.getfield 83, 3) := by decide +kernel
theorem dX5_setCapacity_38 : decode cX5_setCapacity 38 = .ok (.iload_n 1, 1) := by decide +kernel
theorem dX5_setCapacity_39 : decode cX5_setCapacity 39 = .ok (.iload_n 2, 1) := by decide +kernel
theorem dX5_setCapacity_40 : decode cX5_setCapacity 40 = .ok (.iastore, 1) := by decide +kernel
theorem dX5_setCapacity_41 : decode cX5_setCapacity 41 = .ok (.aload_n 0, 1) := by decide +kernel
theorem dX5_setCapacity_42 : decode cX5_setCapacity 42 = .ok (.getfield 10, 3) := by decide +kernel
theorem dX5_setCapacity_45 : decode cX5_setCapacity 45 = .ok (.iload_n 1, 1) := by decide +kernel
theorem dX5_setCapacity_46 : decode cX5_setCapacity 46 = .ok (.invokevirtual 87, 3) := by decide +kernel
theorem dX5_setCapacity_49 : decode cX5_setCapacity 49 = .ok (.istore_n 3, 1) := by decide +kernel
theorem dX5_setCapacity_50 : decode cX5_setCapacity 50 = .ok (.aload_n 0, 1) := by decide +kernel
theorem dX5_setCapacity_51 : decode cX5_setCapacity 51 = .ok (.getfield 37, 3) := by decide +kernel
theorem dX5_setCapacity_54 : decode cX5_setCapacity 54 = .ok (.invokevirtual 75, 3) := by decide +kernel
theorem dX5_setCapacity_57 : decode cX5_setCapacity 57 = .ok (.pop, 1) := by decide +kernel
theorem dX5_setCapacity_58 : decode cX5_setCapacity 58 = .ok (.iload_n 3, 1) := by decide +kernel
theorem dX5_setCapacity_59 : decode cX5_setCapacity 59 = .ok (.ireturn, 1) := by decide +kernel
theorem dX5_setGroup_0 : decode cX5_setGroup 0 = .ok (.aload_n 0, 1) := by decide +kernel
theorem dX5_setGroup_1 : decode cX5_setGroup 1 = .ok (.iload_n 1, 1) := by decide +kernel
theorem dX5_setGroup_2 : decode cX5_setGroup 2 = .ok (.invokevirtual 90, 3) := by decide +kernel
theorem dX5_setGroup_5 : decode cX5_setGroup 5 = .ok (.iload_n 2, 1) := by decide +kernel
theorem dX5_setGroup_6 : decode cX5_setGroup 6 = .ok (.iconst 0, 1) := by decide +kernel
theorem dX5_setGroup_7 : decode cX5_setGroup 7 = .ok (.bipush 40, 2) := by decide +kernel
theorem dX5_setGroup_9 : decode cX5_setGroup 9 = .ok (.invokestatic 48, 3) := by decide +kernel
theorem dX5_setGroup_12 : decode cX5_setGroup 12 = .ok (.ifCond .ne 13, 3) := by decide +kernel
theorem dX5_setGroup_15 : decode cX5_setGroup 15 = .ok (.new 52, 3) := by decide +kernel
theorem dX5_setGroup_18 : decode cX5_setGroup 18 = .ok (.dup, 1) := by decide +kernel
theorem dX5_setGroup_19 : decode cX5_setGroup 19 = .ok (.ldc 93, 2) := by decide +kernel
theorem dX5_setGroup_21 : decode cX5_setGroup 21 = .ok (.invokespecial 56, 3) := by decide +kernel
theorem dX5_setGroup_24 : decode cX5_setGroup 24 = .ok (.athrow, 1) := by decide +kernel
theorem dX5_setGroup_25 : decode cX5_setGroup 25 = .ok (.iload_n 3, 1) := by decide +kernel
theorem dX5_setGroup_26 : decode cX5_setGroup 26 = .ok (.iconst 1, 1) := by decide +kernel
theorem dX5_setGroup_27 : decode cX5_setGroup 27 = .ok (.bipush 10, 2) := by decide +kernel
theorem dX5_setGroup_29 : decode cX5_setGroup 29 = .ok (.invokestatic 48, 3) := by decide +kernel
theorem dX5_setGroup_32 : decode cX5_setGroup 32 = .ok (.ifCond .ne 13, 3) := by decide +kernel
theorem dX5_setGroup_35 : decode cX5_setGroup 35 = .ok (.new 52, 3) := by decide +kernel
theorem dX5_setGroup_38 : decode cX5_setGroup 38 = .ok (.dup, 1) := by decide +kernel
theorem dX5_setGroup_39 : decode cX5_setGroup 39 = .ok (.ldc 95, 2) := by decide +kernel
theorem dX5_setGroup_41 : decode cX5_setGroup 41 = .ok (.invokespecial 56, 3) := by decide +kernel
theorem dX5_setGroup_44 : decode cX5_setGroup 44 = .ok (.athrow, 1) := by decide +kernel
theorem dX5_setGroup_45 : decode cX5_setGroup 45 = .ok (.aload_n 0, 1) := by decide +kernel
theorem dX5_setGroup_46 : decode cX5_setGroup 46 = .ok (.getfield 19, 3) := by decide +kernel
theorem dX5_setGroup_49 : decode cX5_setGroup 49 = .ok (.invokevirtual 68, 3) := by decide +kernel
theorem dX5_setGroup_52 : decode cX5_setGroup 52 = .ok (.aload_n 0, 1) := by decide +kernel
theorem dX5_setGroup_53 : decode cX5_setGroup 53 = .ok (.getfield 10, 3) := by decide +kernel
theorem dX5_setGroup_56 : decode cX5_setGroup 56 = .ok (.getfield 97, 3) := by decide +kernel
theorem dX5_setGroup_59 : decode cX5_setGroup 59 = .ok (.iload_n 1, 1) := by decide +kernel
theorem dX5_setGroup_60 : decode cX5_setGroup 60 = .ok (.iload_n 2, 1) := by decide +kernel
theorem dX5_setGroup_61 : decode cX5_setGroup 61 = .ok (.iastore, 1) := by decide +kernel
theorem dX5_setGroup_62 : decode cX5_setGroup 62 = .ok (.aload_n 0, 1) := by decide +kernel
theorem dX5_setGroup_63 : decode cX5_setGroup 63 = .ok (.getfield 10, 3) := by decide +kernel
theorem dX5_setGroup_66 : decode cX5_setGroup 66 = .ok (.getfield 100, 3) := by decide +kernel
theorem dX5_setGroup_69 : decode cX5_setGroup 69 = .ok (.iload_n 1, 1) := by decide +kernel
theorem dX5_setGroup_70 : decode cX5_setGroup 70 = .ok (.iload_n 3, 1) := by decide +kernel
theorem dX5_setGroup_71 : decode cX5_setGroup 71 = .ok (.iastore, 1) := by decide +kernel
theorem dX5_setGroup_72 : decode cX5_setGroup 72 = .ok (.aload_n 0, 1) := by decide +kernel
theorem dX5_setGroup_73 : decode cX5_setGroup 73 = .ok (.getfield 10, 3) := by decide +kernel
theorem dX5_setGroup_76 : decode cX5_setGroup 76 = .ok (.iload_n 1, 1) := by decide +kernel
theorem dX5_setGroup_77 : decode cX5_setGroup 77 = .ok (.invokevirtual 103, 3) := by decide +kernel
theorem dX5_setGroup_80 : decode cX5_setGroup 80 = .ok (.istore 4, 2) := by decide +kernel
theorem dX5_setGroup_82 : decode cX5_setGroup 82 = .ok (.aload_n 0, 1) := by decide +kernel
theorem dX5_setGroup_83 : decode cX5_setGroup 83 = .ok (.getfield 37, 3) := by decide +kernel
theorem dX5_setGroup_86 : decode cX5_setGroup 86 = .ok (.invokevirtual 75, 3) := by decide +kernel
theorem dX5_setGroup_89 : decode cX5_setGroup 89 = .ok (.pop, 1) := by decide +kernel
theorem dX5_setGroup_90 : decode cX5_setGroup 90 = .ok (.iload 4, 2) := by decide +kernel
theorem dX5_setGroup_92 : decode cX5_setGroup 92 = .ok (.ireturn, 1) := by decide +kernel
theorem dX5_setLimits_0 : decode cX5_setLimits 0 = .ok (.iload_n 1, 1) := by decide +kernel
theorem dX5_setLimits_1 : decode cX5_setLimits 1 = .ok (.iconst 0, 1) := by decide +kernel
theorem dX5_setLimits_2 : decode cX5_setLimits 2 = .ok (.iconst 5, 1) := by decide +kernel
theorem dX5_setLimits_3 : decode cX5_setLimits 3 = .ok (.invokestatic 48, 3) := by decide +kernel
theorem dX5_setLimits_6 : decode cX5_setLimits 6 = .ok (.ifCond .ne 13, 3) := by decide +kernel
theorem dX5_setLimits_9 : decode cX5_setLimits 9 = .ok (.new 52, 3) := by decide +kernel
theorem dX5_setLimits_12 : decode cX5_setLimits 12 = .ok (.dup, 1) := by decide +kernel
theorem dX5_setLimits_13 : decode cX5_setLimits 13 = .ok (.ldc 106, 2) := by decide +kernel
theorem dX5_setLimits_15 : decode cX5_setLimits 15 = .ok (.invokespecial 56, 3) := by decide +kernel
theorem dX5_setLimits_18 : decode cX5_setLimits 18 = .ok (.athrow, 1) := by decide +kernel
theorem dX5_setLimits_19 : decode cX5_setLimits 19 = .ok (.iload_n 2, 1) := by decide +kernel
theorem dX5_setLimits_20 : decode cX5_setLimits 20 = .ok (.iconst 0, 1) := by decide +kernel
theorem dX5_setLimits_21 : decode cX5_setLimits 21 = .ok (.bipush 20, 2) := by decide +kernel
theorem dX5_setLimits_23 : decode cX5_setLimits 23 = .ok (.invokestatic 48, 3) := by decide +kernel
theorem dX5_setLimits_26 : decode cX5_setLimits 26 = .ok (.ifCond .ne 13, 3) := by decide +kernel
theorem dX5_setLimits_29 : decode cX5_setLimits 29 = .ok (.new 52, 3) := by decide +kernel
theorem dX5_setLimits_32 : decode cX5_setLimits 32 = .ok (.dup, 1) := by decide +kernel
theorem dX5_setLimits_33 : decode cX5_setLimits 33 = .ok (.ldc 108, 2) := by decide +kernel
theorem dX5_setLimits_35 : decode cX5_setLimits 35 = .ok (.invokespecial 56, 3) := by decide +kernel
theorem dX5_setLimits_38 : decode cX5_setLimits 38 = .ok (.athrow, 1) := by decide +kernel
theorem dX5_setLimits_39 : decode cX5_setLimits 39 = .ok (.aload_n 0, 1) := by decide +kernel
theorem dX5_setLimits_40 : decode cX5_setLimits 40 = .ok (.getfield 19, 3) := by decide +kernel
theorem dX5_setLimits_43 : decode cX5_setLimits 43 = .ok (.invokevirtual 68, 3) := by decide +kernel
theorem dX5_setLimits_46 : decode cX5_setLimits 46 = .ok (.aload_n 0, 1) := by decide +kernel
theorem dX5_setLimits_47 : decode cX5_setLimits 47 = .ok (.getfield 10, 3) := by decide +kernel
theorem dX5_setLimits_50 : decode cX5_setLimits 50 = .ok (.iload_n 1, 1) := by decide +kernel
theorem dX5_setLimits_51 : decode cX5_setLimits 51 = .ok (.putfield 110, 3) := by decide +kernel
theorem dX5_setLimits_54 : decode cX5_setLimits 54 = .ok (.aload_n 0, 1) := by decide +kernel
theorem dX5_setLimits_55 : decode cX5_setLimits 55 = .ok (.getfield 10, 3) := by decide +kernel
theorem dX5_setLimits_58 : decode cX5_setLimits 58 = .ok (.iload_n 2, 1) := by decide +kernel
theorem dX5_setLimits_59 : decode cX5_setLimits 59 = .ok (.putfield 113, 3) := by decide +kernel
theorem dX5_setLimits_62 : decode cX5_setLimits 62 = .ok (.aload_n 0, 1) := by decide +kernel
theorem dX5_setLimits_63 : decode cX5_setLimits 63 = .ok (.getfield 37, 3) := by decide +kernel
theorem dX5_setLimits_66 : decode cX5_setLimits 66 = .ok (.invokevirtual 75, 3) := by decide +kernel
theorem dX5_setLimits_69 : decode cX5_setLimits 69 = .ok (.ireturn, 1) := by decide +kernel
theorem dX5_arrive_0 : decode cX5_arrive 0 = .ok (.aload_n 0, 1) := by decide +kernel
theorem dX5_arrive_1 : decode cX5_arrive 1 = .ok (.iload_n 1, 1) := by decide +kernel
theorem dX5_arrive_2 : decode cX5_arrive 2 = .ok (.invokevirtual 90, 3) := by decide +kernel
theorem dX5_arrive_5 : decode cX5_arrive 5 = .ok (.aload_n 0, 1) := by decide +kernel
theorem dX5_arrive_6 : decode cX5_arrive 6 = .ok (.iload_n 2, 1) := by decide +kernel
theorem dX5_arrive_7 : decode cX5_arrive 7 = .ok (.invokevirtual 116, 3) := by decide +kernel
theorem dX5_arrive_10 : decode cX5_arrive 10 = .ok (.aload_n 0, 1) := by decide +kernel
theorem dX5_arrive_11 : decode cX5_arrive 11 = .ok (.getfield 10, 3) := by decide +kernel
theorem dX5_arrive_14 : decode cX5_arrive 14 = .ok (.getfield 119, 3) := by decide +kernel
theorem dX5_arrive_17 : decode cX5_arrive 17 = .ok (.bipush 40, 2) := by decide +kernel
theorem dX5_arrive_19 : decode cX5_arrive 19 = .ok (.if_icmp .lt 13, 3) := by decide +kernel
theorem dX5_arrive_22 : decode cX5_arrive 22 = .ok (.new 63, 3) := by decide +kernel
theorem dX5_arrive_25 : decode cX5_arrive 25 = .ok (.dup, 1) := by decide +kernel
theorem dX5_arrive_26 : decode cX5_arrive 26 = .ok (.ldc 122, 2) := by decide +kernel
theorem dX5_arrive_28 : decode cX5_arrive 28 = .ok (.invokespecial 67, 3) := by decide +kernel
theorem dX5_arrive_31 : decode cX5_arrive 31 = .ok (.athrow, 1) := by decide +kernel
theorem dX5_arrive_32 : decode cX5_arrive 32 = .ok (.aload_n 0, 1) := by decide +kernel
theorem dX5_arrive_33 : decode cX5_arrive 33 = .ok (.getfield 19, 3) := by decide +kernel
theorem dX5_arrive_36 : decode cX5_arrive 36 = .ok (.invokevirtual 68, 3) := by decide +kernel
theorem dX5_arrive_39 : decode cX5_arrive 39 = .ok (.aload_n 0, 1) := by decide +kernel
theorem dX5_arrive_40 : decode cX5_arrive 40 = .ok (.getfield 10, 3) := by decide +kernel
theorem dX5_arrive_43 : decode cX5_arrive 43 = .ok (.iload_n 1, 1) := by decide +kernel
theorem dX5_arrive_44 : decode cX5_arrive 44 = .ok (.iload_n 2, 1) := by decide +kernel
theorem dX5_arrive_45 : decode cX5_arrive 45 = .ok (.invokevirtual 124, 3) := by decide +kernel
theorem dX5_arrive_48 : decode cX5_arrive 48 = .ok (.istore_n 3, 1) := by decide +kernel
theorem dX5_arrive_49 : decode cX5_arrive 49 = .ok (.aload_n 0, 1) := by decide +kernel
theorem dX5_arrive_50 : decode cX5_arrive 50 = .ok (.getfield 37, 3) := by decide +kernel
theorem dX5_arrive_53 : decode cX5_arrive 53 = .ok (.iload_n 3, 1) := by decide +kernel
theorem dX5_arrive_54 : decode cX5_arrive 54 = .ok (.invokevirtual 128, 3) := by decide +kernel
theorem dX5_arrive_57 : decode cX5_arrive 57 = .ok (.pop, 1) := by decide +kernel
theorem dX5_arrive_58 : decode cX5_arrive 58 = .ok (.iload_n 3, 1) := by decide +kernel
theorem dX5_arrive_59 : decode cX5_arrive 59 = .ok (.ireturn, 1) := by decide +kernel
theorem dX5_depart_0 : decode cX5_depart 0 = .ok (.aload_n 0, 1) := by decide +kernel
theorem dX5_depart_1 : decode cX5_depart 1 = .ok (.iload_n 1, 1) := by decide +kernel
theorem dX5_depart_2 : decode cX5_depart 2 = .ok (.invokevirtual 132, 3) := by decide +kernel
theorem dX5_depart_5 : decode cX5_depart 5 = .ok (.aload_n 0, 1) := by decide +kernel
theorem dX5_depart_6 : decode cX5_depart 6 = .ok (.getfield 19, 3) := by decide +kernel
theorem dX5_depart_9 : decode cX5_depart 9 = .ok (.invokevirtual 68, 3) := by decide +kernel
theorem dX5_depart_12 : decode cX5_depart 12 = .ok (.aload_n 0, 1) := by decide +kernel
theorem dX5_depart_13 : decode cX5_depart 13 = .ok (.getfield 10, 3) := by decide +kernel
theorem dX5_depart_16 : decode cX5_depart 16 = .ok (.iload_n 1, 1) := by decide +kernel
theorem dX5_depart_17 : decode cX5_depart 17 = .ok (.invokevirtual 135, 3) := by decide +kernel
theorem dX5_depart_20 : decode cX5_depart 20 = .ok (.aload_n 0, 1) := by decide +kernel
theorem dX5_depart_21 : decode cX5_depart 21 = .ok (.getfield 37, 3) := by decide +kernel
theorem dX5_depart_24 : decode cX5_depart 24 = .ok (.invokevirtual 75, 3) := by decide +kernel
theorem dX5_depart_27 : decode cX5_depart 27 = .ok (.ireturn, 1) := by decide +kernel
theorem dX5_setAccepts_0 : decode cX5_setAccepts 0 = .ok (.aload_n 0, 1) := by decide +kernel
theorem dX5_setAccepts_1 : decode cX5_setAccepts 1 = .ok (.iload_n 1, 1) := by decide +kernel
theorem dX5_setAccepts_2 : decode cX5_setAccepts 2 = .ok (.invokevirtual 132, 3) := by decide +kernel
theorem dX5_setAccepts_5 : decode cX5_setAccepts 5 = .ok (.aload_n 0, 1) := by decide +kernel
theorem dX5_setAccepts_6 : decode cX5_setAccepts 6 = .ok (.iload_n 2, 1) := by decide +kernel
theorem dX5_setAccepts_7 : decode cX5_setAccepts 7 = .ok (.invokevirtual 116, 3) := by decide +kernel
theorem dX5_setAccepts_10 : decode cX5_setAccepts 10 = .ok (.aload_n 0, 1) := by decide +kernel
theorem dX5_setAccepts_11 : decode cX5_setAccepts 11 = .ok (.getfield 19, 3) := by decide +kernel
theorem dX5_setAccepts_14 : decode cX5_setAccepts 14 = .ok (.invokevirtual 68, 3) := by decide +kernel
theorem dX5_setAccepts_17 : decode cX5_setAccepts 17 = .ok (.aload_n 0, 1) := by decide +kernel
theorem dX5_setAccepts_18 : decode cX5_setAccepts 18 = .ok (.getfield 10, 3) := by decide +kernel
theorem dX5_setAccepts_21 : decode cX5_setAccepts 21 = .ok (.iload_n 1, 1) := by decide +kernel
theorem dX5_setAccepts_22 : decode cX5_setAccepts 22 = .ok (.iload_n 2, 1) := by decide +kernel
theorem dX5_setAccepts_23 : decode cX5_setAccepts 23 = .ok (.invokevirtual 138, 3) := by decide +kernel
theorem dX5_setAccepts_26 : decode cX5_setAccepts 26 = .ok (.aload_n 0, 1) := by decide +kernel
theorem dX5_setAccepts_27 : decode cX5_setAccepts 27 = .ok (.getfield 37, 3) := by decide +kernel
theorem dX5_setAccepts_30 : decode cX5_setAccepts 30 = .ok (.invokevirtual 75, 3) := by decide +kernel
theorem dX5_setAccepts_33 : decode cX5_setAccepts 33 = .ok (.pop, 1) := by decide +kernel
theorem dX5_setAccepts_34 : decode cX5_setAccepts 34 = .ok (.aload_n 0, 1) := by decide +kernel
theorem dX5_setAccepts_35 : decode cX5_setAccepts 35 = .ok (.getfield 10, 3) := by decide +kernel
theorem dX5_setAccepts_38 : decode cX5_setAccepts 38 = .ok (.iload_n 1, 1) := by decide +kernel
theorem dX5_setAccepts_39 : decode cX5_setAccepts 39 = .ok (.invokevirtual 142, 3) := by decide +kernel
theorem dX5_setAccepts_42 : decode cX5_setAccepts 42 = .ok (.ireturn, 1) := by decide +kernel
theorem dX5_resourceCount_0 : decode cX5_resourceCount 0 = .ok (.aload_n 0, 1) := by decide +kernel
theorem dX5_resourceCount_1 : decode cX5_resourceCount 1 = .ok (.getfield 10, 3) := by decide +kernel
theorem dX5_resourceCount_4 : decode cX5_resourceCount 4 = .ok (.getfield 59, 3) := by decide +kernel
theorem dX5_resourceCount_7 : decode cX5_resourceCount 7 = .ok (.ireturn, 1) := by decide +kernel
theorem dX5_arrivedCount_0 : decode cX5_arrivedCount 0 = .ok (.aload_n 0, 1) := by decide +kernel
theorem dX5_arrivedCount_1 : decode cX5_arrivedCount 1 = .ok (.getfield 10, 3) := by decide +kernel
theorem dX5_arrivedCount_4 : decode cX5_arrivedCount 4 = .ok (.getfield 119, 3) := by decide +kernel
theorem dX5_arrivedCount_7 : decode cX5_arrivedCount 7 = .ok (.ireturn, 1) := by decide +kernel
theorem dX5_assignedCount_0 : decode cX5_assignedCount 0 = .ok (.aload_n 0, 1) := by decide +kernel
theorem dX5_assignedCount_1 : decode cX5_assignedCount 1 = .ok (.getfield 10, 3) := by decide +kernel
theorem dX5_assignedCount_4 : decode cX5_assignedCount 4 = .ok (.invokevirtual 145, 3) := by decide +kernel
theorem dX5_assignedCount_7 : decode cX5_assignedCount 7 = .ok (.ireturn, 1) := by decide +kernel
theorem dX5_waitingCount_0 : decode cX5_waitingCount 0 = .ok (.aload_n 0, 1) := by decide +kernel
theorem dX5_waitingCount_1 : decode cX5_waitingCount 1 = .ok (.getfield 10, 3) := by decide +kernel
theorem dX5_waitingCount_4 : decode cX5_waitingCount 4 = .ok (.invokevirtual 148, 3) := by decide +kernel
theorem dX5_waitingCount_7 : decode cX5_waitingCount 7 = .ok (.ireturn, 1) := by decide +kernel
theorem dX5_assignedOf_0 : decode cX5_assignedOf 0 = .ok (.aload_n 0, 1) := by decide +kernel
theorem dX5_assignedOf_1 : decode cX5_assignedOf 1 = .ok (.iload_n 1, 1) := by decide +kernel
theorem dX5_assignedOf_2 : decode cX5_assignedOf 2 = .ok (.invokevirtual 90, 3) := by decide +kernel
theorem dX5_assignedOf_5 : decode cX5_assignedOf 5 = .ok (.aload_n 0, 1) := by decide +kernel
theorem dX5_assignedOf_6 : decode cX5_assignedOf 6 = .ok (.getfield 10, 3) := by decide +kernel
theorem dX5_assignedOf_9 : decode cX5_assignedOf 9 = .ok (.getfield 151, 3) := by decide +kernel
theorem dX5_assignedOf_12 : decode cX5_assignedOf 12 = .ok (.iload_n 1, 1) := by decide +kernel
theorem dX5_assignedOf_13 : decode cX5_assignedOf 13 = .ok (.iaload, 1) := by decide +kernel
theorem dX5_assignedOf_14 : decode cX5_assignedOf 14 = .ok (.ireturn, 1) := by decide +kernel
theorem dX5_load_0 : decode cX5_load 0 = .ok (.aload_n 0, 1) := by decide +kernel
theorem dX5_load_1 : decode cX5_load 1 = .ok (.iload_n 1, 1) := by decide +kernel
theorem dX5_load_2 : decode cX5_load 2 = .ok (.invokevirtual 79, 3) := by decide +kernel
theorem dX5_load_5 : decode cX5_load 5 = .ok (.aload_n 0, 1) := by decide +kernel
theorem dX5_load_6 : decode cX5_load 6 = .ok (.getfield 10, 3) := by decide +kernel
theorem dX5_load_9 : decode cX5_load 9 = .ok (.getfield 154, 3) := by decide +kernel
theorem dX5_load_12 : decode cX5_load 12 = .ok (.iload_n 1, 1) := by decide +kernel
theorem dX5_load_13 : decode cX5_load 13 = .ok (.iaload, 1) := by decide +kernel
theorem dX5_load_14 : decode cX5_load 14 = .ok (.ireturn, 1) := by decide +kernel
theorem dX5_state_0 : decode cX5_state 0 = .ok (.aload_n 0, 1) := by decide +kernel
theorem dX5_state_1 : decode cX5_state 1 = .ok (.iload_n 1, 1) := by decide +kernel
theorem dX5_state_2 : decode cX5_state 2 = .ok (.invokevirtual 157, 3) := by decide +kernel
theorem dX5_state_5 : decode cX5_state 5 = .ok (.aload_n 0, 1) := by decide +kernel
theorem dX5_state_6 : decode cX5_state 6 = .ok (.getfield 10, 3) := by decide +kernel
theorem dX5_state_9 : decode cX5_state 9 = .ok (.iload_n 1, 1) := by decide +kernel
theorem dX5_state_10 : decode cX5_state 10 = .ok (.invokevirtual 160, 3) := by decide +kernel
theorem dX5_state_13 : decode cX5_state 13 = .ok (.ireturn, 1) := by decide +kernel
theorem dX5_resourceOf_0 : decode cX5_resourceOf 0 = .ok (.aload_n 0, 1) := by decide +kernel
theorem dX5_resourceOf_1 : decode cX5_resourceOf 1 = .ok (.iload_n 1, 1) := by decide +kernel
theorem dX5_resourceOf_2 : decode cX5_resourceOf 2 = .ok (.invokevirtual 157, 3) := by decide +kernel
theorem dX5_resourceOf_5 : decode cX5_resourceOf 5 = .ok (.aload_n 0, 1) := by decide +kernel
theorem dX5_resourceOf_6 : decode cX5_resourceOf 6 = .ok (.getfield 10, 3) := by decide +kernel
theorem dX5_resourceOf_9 : decode cX5_resourceOf 9 = .ok (.iload_n 1, 1) := by decide +kernel
theorem dX5_resourceOf_10 : decode cX5_resourceOf 10 = .ok (.invokevirtual 142, 3) := by decide +kernel
theorem dX5_resourceOf_13 : decode cX5_resourceOf 13 = .ok (.ifCond .ne 13, 3) := by decide +kernel
theorem dX5_resourceOf_16 : decode cX5_resourceOf 16 = .ok (.new 163, 3) := by decide +kernel
theorem dX5_resourceOf_19 : decode cX5_resourceOf 19 = .ok (.dup, 1) := by decide +kernel
theorem dX5_resourceOf_20 : decode cX5_resourceOf 20 = .ok (.ldc 165, 2) := by decide +kernel
theorem dX5_resourceOf_22 : decode cX5_resourceOf 22 = .ok (.invokespecial 167, 3) := by decide +kernel
theorem dX5_resourceOf_25 : decode cX5_resourceOf 25 = .ok (.athrow, 1) := by decide +kernel
theorem dX5_resourceOf_26 : decode cX5_resourceOf 26 = .ok (.aload_n 0, 1) := by decide +kernel
theorem dX5_resourceOf_27 : decode cX5_resourceOf 27 = .ok (.getfield 10, 3) := by decide +kernel
theorem dX5_resourceOf_30 : decode cX5_resourceOf 30 = .ok (.getfield 168, 3) := by decide +kernel
theorem dX5_resourceOf_33 : decode cX5_resourceOf 33 = .ok (.iload_n 1, 1) := by decide +kernel
theorem dX5_resourceOf_34 : decode cX5_resourceOf 34 = .ok (.iaload, 1) := by decide +kernel
theorem dX5_resourceOf_35 : decode cX5_resourceOf 35 = .ok (.ireturn, 1) := by decide +kernel
theorem dX5_movesOf_0 : decode cX5_movesOf 0 = .ok (.aload_n 0, 1) := by decide +kernel
theorem dX5_movesOf_1 : decode cX5_movesOf 1 = .ok (.iload_n 1, 1) := by decide +kernel
theorem dX5_movesOf_2 : decode cX5_movesOf 2 = .ok (.invokevirtual 157, 3) := by decide +kernel
theorem dX5_movesOf_5 : decode cX5_movesOf 5 = .ok (.aload_n 0, 1) := by decide +kernel
theorem dX5_movesOf_6 : decode cX5_movesOf 6 = .ok (.getfield 10, 3) := by decide +kernel
theorem dX5_movesOf_9 : decode cX5_movesOf 9 = .ok (.getfield 171, 3) := by decide +kernel
theorem dX5_movesOf_12 : decode cX5_movesOf 12 = .ok (.iload_n 1, 1) := by decide +kernel
theorem dX5_movesOf_13 : decode cX5_movesOf 13 = .ok (.iaload, 1) := by decide +kernel
theorem dX5_movesOf_14 : decode cX5_movesOf 14 = .ok (.ireturn, 1) := by decide +kernel
theorem dX5_moveCount_0 : decode cX5_moveCount 0 = .ok (.aload_n 0, 1) := by decide +kernel
theorem dX5_moveCount_1 : decode cX5_moveCount 1 = .ok (.getfield 19, 3) := by decide +kernel
theorem dX5_moveCount_4 : decode cX5_moveCount 4 = .ok (.getfield 174, 3) := by decide +kernel
theorem dX5_moveCount_7 : decode cX5_moveCount 7 = .ok (.ireturn, 1) := by decide +kernel
theorem dX5_movedRequest_0 : decode cX5_movedRequest 0 = .ok (.aload_n 0, 1) := by decide +kernel
theorem dX5_movedRequest_1 : decode cX5_movedRequest 1 = .ok (.iload_n 1, 1) := by decide +kernel
theorem dX5_movedRequest_2 : decode cX5_movedRequest 2 = .ok (.invokevirtual 177, 3) := by decide +kernel
theorem dX5_movedRequest_5 : decode cX5_movedRequest 5 = .ok (.aload_n 0, 1) := by decide +kernel
theorem dX5_movedRequest_6 : decode cX5_movedRequest 6 = .ok (.getfield 19, 3) := by decide +kernel
theorem dX5_movedRequest_9 : decode cX5_movedRequest 9 = .ok (.getfield 180, 3) := by decide +kernel
theorem dX5_movedRequest_12 : decode cX5_movedRequest 12 = .ok (.iload_n 1, 1) := by decide +kernel
theorem dX5_movedRequest_13 : decode cX5_movedRequest 13 = .ok (.iaload, 1) := by decide +kernel
theorem dX5_movedRequest_14 : decode cX5_movedRequest 14 = .ok (.ireturn, 1) := by decide +kernel
theorem dX5_movedTo_0 : decode cX5_movedTo 0 = .ok (.aload_n 0, 1) := by decide +kernel
theorem dX5_movedTo_1 : decode cX5_movedTo 1 = .ok (.iload_n 1, 1) := by decide +kernel
theorem dX5_movedTo_2 : decode cX5_movedTo 2 = .ok (.invokevirtual 177, 3) := by decide +kernel
theorem dX5_movedTo_5 : decode cX5_movedTo 5 = .ok (.aload_n 0, 1) := by decide +kernel
theorem dX5_movedTo_6 : decode cX5_movedTo 6 = .ok (.getfield 19, 3) := by decide +kernel
theorem dX5_movedTo_9 : decode cX5_movedTo 9 = .ok (.getfield 183, 3) := by decide +kernel
theorem dX5_movedTo_12 : decode cX5_movedTo 12 = .ok (.iload_n 1, 1) := by decide +kernel
theorem dX5_movedTo_13 : decode cX5_movedTo 13 = .ok (.iaload, 1) := by decide +kernel
theorem dX5_movedTo_14 : decode cX5_movedTo 14 = .ok (.ireturn, 1) := by decide +kernel
theorem dX5_movesNeeded_0 : decode cX5_movesNeeded 0 = .ok (.aload_n 0, 1) := by decide +kernel
theorem dX5_movesNeeded_1 : decode cX5_movesNeeded 1 = .ok (.iload_n 1, 1) := by decide +kernel
theorem dX5_movesNeeded_2 : decode cX5_movesNeeded 2 = .ok (.invokevirtual 157, 3) := by decide +kernel
theorem dX5_movesNeeded_5 : decode cX5_movesNeeded 5 = .ok (.aload_n 0, 1) := by decide +kernel
theorem dX5_movesNeeded_6 : decode cX5_movesNeeded 6 = .ok (.getfield 10, 3) := by decide +kernel
theorem dX5_movesNeeded_9 : decode cX5_movesNeeded 9 = .ok (.iload_n 1, 1) := by decide +kernel
theorem dX5_movesNeeded_10 : decode cX5_movesNeeded 10 = .ok (.invokevirtual 186, 3) := by decide +kernel
theorem dX5_movesNeeded_13 : decode cX5_movesNeeded 13 = .ok (.ifCond .ne 13, 3) := by decide +kernel
theorem dX5_movesNeeded_16 : decode cX5_movesNeeded 16 = .ok (.new 163, 3) := by decide +kernel
theorem dX5_movesNeeded_19 : decode cX5_movesNeeded 19 = .ok (.dup, 1) := by decide +kernel
theorem dX5_movesNeeded_20 : decode cX5_movesNeeded 20 = .ok (.ldc 189, 2) := by decide +kernel
theorem dX5_movesNeeded_22 : decode cX5_movesNeeded 22 = .ok (.invokespecial 167, 3) := by decide +kernel
theorem dX5_movesNeeded_25 : decode cX5_movesNeeded 25 = .ok (.athrow, 1) := by decide +kernel
theorem dX5_movesNeeded_26 : decode cX5_movesNeeded 26 = .ok (.aload_n 0, 1) := by decide +kernel
theorem dX5_movesNeeded_27 : decode cX5_movesNeeded 27 = .ok (.getfield 28, 3) := by decide +kernel
theorem dX5_movesNeeded_30 : decode cX5_movesNeeded 30 = .ok (.iload_n 1, 1) := by decide +kernel
theorem dX5_movesNeeded_31 : decode cX5_movesNeeded 31 = .ok (.invokevirtual 191, 3) := by decide +kernel
theorem dX5_movesNeeded_34 : decode cX5_movesNeeded 34 = .ok (.iconst 1, 1) := by decide +kernel
theorem dX5_movesNeeded_35 : decode cX5_movesNeeded 35 = .ok (.isub, 1) := by decide +kernel
theorem dX5_movesNeeded_36 : decode cX5_movesNeeded 36 = .ok (.ireturn, 1) := by decide +kernel
theorem dX5_greatestPossible_0 : decode cX5_greatestPossible 0 = .ok (.aload_n 0, 1) := by decide +kernel
theorem dX5_greatestPossible_1 : decode cX5_greatestPossible 1 = .ok (.getfield 44, 3) := by decide +kernel
theorem dX5_greatestPossible_4 : decode cX5_greatestPossible 4 = .ok (.iconst (-1), 1) := by decide +kernel
theorem dX5_greatestPossible_5 : decode cX5_greatestPossible 5 = .ok (.invokevirtual 194, 3) := by decide +kernel
theorem dX5_greatestPossible_8 : decode cX5_greatestPossible 8 = .ok (.ireturn, 1) := by decide +kernel
theorem dX5_gainBy_0 : decode cX5_gainBy 0 = .ok (.aload_n 0, 1) := by decide +kernel
theorem dX5_gainBy_1 : decode cX5_gainBy 1 = .ok (.iload_n 1, 1) := by decide +kernel
theorem dX5_gainBy_2 : decode cX5_gainBy 2 = .ok (.invokevirtual 157, 3) := by decide +kernel
theorem dX5_gainBy_5 : decode cX5_gainBy 5 = .ok (.aload_n 0, 1) := by decide +kernel
theorem dX5_gainBy_6 : decode cX5_gainBy 6 = .ok (.getfield 10, 3) := by decide +kernel
theorem dX5_gainBy_9 : decode cX5_gainBy 9 = .ok (.iload_n 1, 1) := by decide +kernel
theorem dX5_gainBy_10 : decode cX5_gainBy 10 = .ok (.invokevirtual 197, 3) := by decide +kernel
theorem dX5_gainBy_13 : decode cX5_gainBy 13 = .ok (.ifCond .eq 5, 3) := by decide +kernel
theorem dX5_gainBy_16 : decode cX5_gainBy 16 = .ok (.iconst 0, 1) := by decide +kernel
theorem dX5_gainBy_17 : decode cX5_gainBy 17 = .ok (.ireturn, 1) := by decide +kernel
theorem dX5_gainBy_18 : decode cX5_gainBy 18 = .ok (.aload_n 0, 1) := by decide +kernel
theorem dX5_gainBy_19 : decode cX5_gainBy 19 = .ok (.getfield 44, 3) := by decide +kernel
theorem dX5_gainBy_22 : decode cX5_gainBy 22 = .ok (.iload_n 1, 1) := by decide +kernel
theorem dX5_gainBy_23 : decode cX5_gainBy 23 = .ok (.invokevirtual 194, 3) := by decide +kernel
theorem dX5_gainBy_26 : decode cX5_gainBy 26 = .ok (.aload_n 0, 1) := by decide +kernel
theorem dX5_gainBy_27 : decode cX5_gainBy 27 = .ok (.getfield 44, 3) := by decide +kernel
theorem dX5_gainBy_30 : decode cX5_gainBy 30 = .ok (.iconst (-1), 1) := by decide +kernel
theorem dX5_gainBy_31 : decode cX5_gainBy 31 = .ok (.invokevirtual 194, 3) := by decide +kernel
theorem dX5_gainBy_34 : decode cX5_gainBy 34 = .ok (.isub, 1) := by decide +kernel
theorem dX5_gainBy_35 : decode cX5_gainBy 35 = .ok (.ireturn, 1) := by decide +kernel
theorem dX5_fairness_0 : decode cX5_fairness 0 = .ok (.dconst 0, 1) := by decide +kernel
theorem dX5_fairness_1 : decode cX5_fairness 1 = .ok (.dstore_n 1, 1) := by decide +kernel
theorem dX5_fairness_2 : decode cX5_fairness 2 = .ok (.dconst 0, 1) := by decide +kernel
theorem dX5_fairness_3 : decode cX5_fairness 3 = .ok (.dstore_n 3, 1) := by decide +kernel
theorem dX5_fairness_4 : decode cX5_fairness 4 = .ok (.iconst 0, 1) := by decide +kernel
theorem dX5_fairness_5 : decode cX5_fairness 5 = .ok (.istore 5, 2) := by decide +kernel
theorem dX5_fairness_7 : decode cX5_fairness 7 = .ok (.iload 5, 2) := by decide +kernel
theorem dX5_fairness_9 : decode cX5_fairness 9 = .ok (.iconst 4, 1) := by decide +kernel
theorem dX5_fairness_10 : decode cX5_fairness 10 = .ok (.if_icmp .ge 47, 3) := by decide +kernel
theorem dX5_fairness_13 : decode cX5_fairness 13 = .ok (.aload_n 0, 1) := by decide +kernel
theorem dX5_fairness_14 : decode cX5_fairness 14 = .ok (.getfield 10, 3) := by decide +kernel
theorem dX5_fairness_17 : decode cX5_fairness 17 = .ok (.getfield 151, 3) := by decide +kernel
theorem dX5_fairness_20 : decode cX5_fairness 20 = .ok (.iload 5, 2) := by decide +kernel
theorem dX5_fairness_22 : decode cX5_fairness 22 = .ok (.iaload, 1) := by decide +kernel
theorem dX5_fairness_23 : decode cX5_fairness 23 = .ok (.i2d, 1) := by decide +kernel
theorem dX5_fairness_24 : decode cX5_fairness 24 = .ok (.aload_n 0, 1) := by decide +kernel
theorem dX5_fairness_25 : decode cX5_fairness 25 = .ok (.getfield 10, 3) := by decide +kernel
theorem dX5_fairness_28 : decode cX5_fairness 28 = .ok (.getfield 100, 3) := by decide +kernel
theorem dX5_fairness_31 : decode cX5_fairness 31 = .ok (.iload 5, 2) := by decide +kernel
theorem dX5_fairness_33 : decode cX5_fairness 33 = .ok (.iaload, 1) := by decide +kernel
theorem dX5_fairness_34 : decode cX5_fairness 34 = .ok (.i2d, 1) := by decide +kernel
theorem dX5_fairness_35 : decode cX5_fairness 35 = .ok (.ddiv, 1) := by decide +kernel
theorem dX5_fairness_36 : decode cX5_fairness 36 = .ok (.dstore 6, 2) := by decide +kernel
theorem dX5_fairness_38 : decode cX5_fairness 38 = .ok (.dload_n 1, 1) := by decide +kernel
theorem dX5_fairness_39 : decode cX5_fairness 39 = .ok (.dload 6, 2) := by decide +kernel
theorem dX5_fairness_41 : decode cX5_fairness 41 = .ok (.dadd, 1) := by decide +kernel
theorem dX5_fairness_42 : decode cX5_fairness 42 = .ok (.dstore_n 1, 1) := by decide +kernel
theorem dX5_fairness_43 : decode cX5_fairness 43 = .ok (.dload_n 3, 1) := by decide +kernel
theorem dX5_fairness_44 : decode cX5_fairness 44 = .ok (.dload 6, 2) := by decide +kernel
theorem dX5_fairness_46 : decode cX5_fairness 46 = .ok (.dload 6, 2) := by decide +kernel
theorem dX5_fairness_48 : decode cX5_fairness 48 = .ok (.dmul, 1) := by decide +kernel
theorem dX5_fairness_49 : decode cX5_fairness 49 = .ok (.dadd, 1) := by decide +kernel
theorem dX5_fairness_50 : decode cX5_fairness 50 = .ok (.dstore_n 3, 1) := by decide +kernel
theorem dX5_fairness_51 : decode cX5_fairness 51 = .ok (.iinc 5 1, 3) := by decide +kernel
theorem dX5_fairness_54 : decode cX5_fairness 54 = .ok (.goto (-47), 3) := by decide +kernel
theorem dX5_fairness_57 : decode cX5_fairness 57 = .ok (.dload_n 3, 1) := by decide +kernel
theorem dX5_fairness_58 : decode cX5_fairness 58 = .ok (.dconst 0, 1) := by decide +kernel
theorem dX5_fairness_59 : decode cX5_fairness 59 = .ok (.dcmp .l, 1) := by decide +kernel
theorem dX5_fairness_60 : decode cX5_fairness 60 = .ok (.ifCond .le 15, 3) := by decide +kernel
theorem dX5_fairness_63 : decode cX5_fairness 63 = .ok (.dload_n 1, 1) := by decide +kernel
theorem dX5_fairness_64 : decode cX5_fairness 64 = .ok (.dload_n 1, 1) := by decide +kernel
theorem dX5_fairness_65 : decode cX5_fairness 65 = .ok (.dmul, 1) := by decide +kernel
theorem dX5_fairness_66 : decode cX5_fairness 66 = .ok (.ldc2_w 200, 3) := by decide +kernel
theorem dX5_fairness_69 : decode cX5_fairness 69 = .ok (.dload_n 3, 1) := by decide +kernel
theorem dX5_fairness_70 : decode cX5_fairness 70 = .ok (.dmul, 1) := by decide +kernel
theorem dX5_fairness_71 : decode cX5_fairness 71 = .ok (.ddiv, 1) := by decide +kernel
theorem dX5_fairness_72 : decode cX5_fairness 72 = .ok (.goto 4, 3) := by decide +kernel
theorem dX5_fairness_75 : decode cX5_fairness 75 = .ok (.dconst 1, 1) := by decide +kernel
theorem dX5_fairness_76 : decode cX5_fairness 76 = .ok (.dreturn, 1) := by decide +kernel
theorem dX5_digest_0 : decode cX5_digest 0 = .ok (.ldc2_w 202, 3) := by decide +kernel
theorem dX5_digest_3 : decode cX5_digest 3 = .ok (.aload_n 0, 1) := by decide +kernel
theorem dX5_digest_4 : decode cX5_digest 4 = .ok (.getfield 10, 3) := by decide +kernel
theorem dX5_digest_7 : decode cX5_digest 7 = .ok (.getfield 59, 3) := by decide +kernel
theorem dX5_digest_10 : decode cX5_digest 10 = .ok (.invokestatic 204, 3) := by decide +kernel
theorem dX5_digest_13 : decode cX5_digest 13 = .ok (.lstore_n 1, 1) := by decide +kernel
theorem dX5_digest_14 : decode cX5_digest 14 = .ok (.lload_n 1, 1) := by decide +kernel
theorem dX5_digest_15 : decode cX5_digest 15 = .ok (.aload_n 0, 1) := by decide +kernel
theorem dX5_digest_16 : decode cX5_digest 16 = .ok (.getfield 10, 3) := by decide +kernel
theorem dX5_digest_19 : decode cX5_digest 19 = .ok (.getfield 119, 3) := by decide +kernel
theorem dX5_digest_22 : decode cX5_digest 22 = .ok (.invokestatic 204, 3) := by decide +kernel
theorem dX5_digest_25 : decode cX5_digest 25 = .ok (.lstore_n 1, 1) := by decide +kernel
theorem dX5_digest_26 : decode cX5_digest 26 = .ok (.iconst 0, 1) := by decide +kernel
theorem dX5_digest_27 : decode cX5_digest 27 = .ok (.istore_n 3, 1) := by decide +kernel
theorem dX5_digest_28 : decode cX5_digest 28 = .ok (.iload_n 3, 1) := by decide +kernel
theorem dX5_digest_29 : decode cX5_digest 29 = .ok (.aload_n 0, 1) := by decide +kernel
theorem dX5_digest_30 : decode cX5_digest 30 = .ok (.getfield 10, 3) := by decide +kernel
theorem dX5_digest_33 : decode cX5_digest 33 = .ok (.getfield 59, 3) := by decide +kernel
theorem dX5_digest_36 : decode cX5_digest 36 = .ok (.if_icmp .ge 37, 3) := by decide +kernel
theorem dX5_digest_39 : decode cX5_digest 39 = .ok (.lload_n 1, 1) := by decide +kernel
theorem dX5_digest_40 : decode cX5_digest 40 = .ok (.aload_n 0, 1) := by decide +kernel
theorem dX5_digest_41 : decode cX5_digest 41 = .ok (.getfield 10, 3) := by decide +kernel
theorem dX5_digest_44 : decode cX5_digest 44 = .ok (.getfield 83, 3) := by decide +kernel
theorem dX5_digest_47 : decode cX5_digest 47 = .ok (.iload_n 3, 1) := by decide +kernel
theorem dX5_digest_48 : decode cX5_digest 48 = .ok (.iaload, 1) := by decide +kernel
theorem dX5_digest_49 : decode cX5_digest 49 = .ok (.invokestatic 204, 3) := by decide +kernel
theorem dX5_digest_52 : decode cX5_digest 52 = .ok (.lstore_n 1, 1) := by decide +kernel
theorem dX5_digest_53 : decode cX5_digest 53 = .ok (.lload_n 1, 1) := by decide +kernel
theorem dX5_digest_54 : decode cX5_digest 54 = .ok (.aload_n 0, 1) := by decide +kernel
theorem dX5_digest_55 : decode cX5_digest 55 = .ok (.getfield 10, 3) := by decide +kernel
theorem dX5_digest_58 : decode cX5_digest 58 = .ok (.getfield 154, 3) := by decide +kernel
theorem dX5_digest_61 : decode cX5_digest 61 = .ok (.iload_n 3, 1) := by decide +kernel
theorem dX5_digest_62 : decode cX5_digest 62 = .ok (.iaload, 1) := by decide +kernel
theorem dX5_digest_63 : decode cX5_digest 63 = .ok (.invokestatic 204, 3) := by decide +kernel
theorem dX5_digest_66 : decode cX5_digest 66 = .ok (.lstore_n 1, 1) := by decide +kernel
theorem dX5_digest_67 : decode cX5_digest 67 = .ok (.iinc 3 1, 3) := by decide +kernel
theorem dX5_digest_70 : decode cX5_digest 70 = .ok (.goto (-42), 3) := by decide +kernel
theorem dX5_digest_73 : decode cX5_digest 73 = .ok (.iconst 0, 1) := by decide +kernel
theorem dX5_digest_74 : decode cX5_digest 74 = .ok (.istore_n 3, 1) := by decide +kernel
theorem dX5_digest_75 : decode cX5_digest 75 = .ok (.iload_n 3, 1) := by decide +kernel
theorem dX5_digest_76 : decode cX5_digest 76 = .ok (.aload_n 0, 1) := by decide +kernel
theorem dX5_digest_77 : decode cX5_digest 77 = .ok (.getfield 10, 3) := by decide +kernel
theorem dX5_digest_80 : decode cX5_digest 80 = .ok (.getfield 119, 3) := by decide +kernel
theorem dX5_digest_83 : decode cX5_digest 83 = .ok (.if_icmp .ge 61, 3) := by decide +kernel
theorem dX5_digest_86 : decode cX5_digest 86 = .ok (.lload_n 1, 1) := by decide +kernel
theorem dX5_digest_87 : decode cX5_digest 87 = .ok (.aload_n 0, 1) := by decide +kernel
theorem dX5_digest_88 : decode cX5_digest 88 = .ok (.getfield 10, 3) := by decide +kernel
theorem dX5_digest_91 : decode cX5_digest 91 = .ok (.iload_n 3, 1) := by decide +kernel
theorem dX5_digest_92 : decode cX5_digest 92 = .ok (.invokevirtual 160, 3) := by decide +kernel
theorem dX5_digest_95 : decode cX5_digest 95 = .ok (.invokestatic 204, 3) := by decide +kernel
theorem dX5_digest_98 : decode cX5_digest 98 = .ok (.lstore_n 1, 1) := by decide +kernel
theorem dX5_digest_99 : decode cX5_digest 99 = .ok (.lload_n 1, 1) := by decide +kernel
theorem dX5_digest_100 : decode cX5_digest 100 = .ok (.aload_n 0, 1) := by decide +kernel
theorem dX5_digest_101 : decode cX5_digest 101 = .ok (.getfield 10, 3) := by decide +kernel
theorem dX5_digest_104 : decode cX5_digest 104 = .ok (.getfield 171, 3) := by decide +kernel
theorem dX5_digest_107 : decode cX5_digest 107 = .ok (.iload_n 3, 1) := by decide +kernel
theorem dX5_digest_108 : decode cX5_digest 108 = .ok (.iaload, 1) := by decide +kernel
theorem dX5_digest_109 : decode cX5_digest 109 = .ok (.invokestatic 204, 3) := by decide +kernel
theorem dX5_digest_112 : decode cX5_digest 112 = .ok (.lstore_n 1, 1) := by decide +kernel
theorem dX5_digest_113 : decode cX5_digest 113 = .ok (.aload_n 0, 1) := by decide +kernel
theorem dX5_digest_114 : decode cX5_digest 114 = .ok (.getfield 10, 3) := by decide +kernel
theorem dX5_digest_117 : decode cX5_digest 117 = .ok (.iload_n 3, 1) := by decide +kernel
theorem dX5_digest_118 : decode cX5_digest 118 = .ok (.invokevirtual 142, 3) := by decide +kernel
theorem dX5_digest_121 : decode cX5_digest 121 = .ok (.ifCond .eq 17, 3) := by decide +kernel
theorem dX5_digest_124 : decode cX5_digest 124 = .ok (.lload_n 1, 1) := by decide +kernel
theorem dX5_digest_125 : decode cX5_digest 125 = .ok (.aload_n 0, 1) := by decide +kernel
theorem dX5_digest_126 : decode cX5_digest 126 = .ok (.getfield 10, 3) := by decide +kernel
theorem dX5_digest_129 : decode cX5_digest 129 = .ok (.getfield 168, 3) := by decide +kernel
theorem dX5_digest_132 : decode cX5_digest 132 = .ok (.iload_n 3, 1) := by decide +kernel
theorem dX5_digest_133 : decode cX5_digest 133 = .ok (.iaload, 1) := by decide +kernel
theorem dX5_digest_134 : decode cX5_digest 134 = .ok (.invokestatic 204, 3) := by decide +kernel
theorem dX5_digest_137 : decode cX5_digest 137 = .ok (.lstore_n 1, 1) := by decide +kernel
theorem dX5_digest_138 : decode cX5_digest 138 = .ok (.iinc 3 1, 3) := by decide +kernel
theorem dX5_digest_141 : decode cX5_digest 141 = .ok (.goto (-66), 3) := by decide +kernel
theorem dX5_digest_144 : decode cX5_digest 144 = .ok (.lload_n 1, 1) := by decide +kernel
theorem dX5_digest_145 : decode cX5_digest 145 = .ok (.aload_n 0, 1) := by decide +kernel
theorem dX5_digest_146 : decode cX5_digest 146 = .ok (.getfield 19, 3) := by decide +kernel
theorem dX5_digest_149 : decode cX5_digest 149 = .ok (.getfield 174, 3) := by decide +kernel
theorem dX5_digest_152 : decode cX5_digest 152 = .ok (.invokestatic 204, 3) := by decide +kernel
theorem dX5_digest_155 : decode cX5_digest 155 = .ok (.lreturn, 1) := by decide +kernel
theorem dX5_requireResource_0 : decode cX5_requireResource 0 = .ok (.iload_n 1, 1) := by decide +kernel
theorem dX5_requireResource_1 : decode cX5_requireResource 1 = .ok (.iconst 0, 1) := by decide +kernel
theorem dX5_requireResource_2 : decode cX5_requireResource 2 = .ok (.aload_n 0, 1) := by decide +kernel
theorem dX5_requireResource_3 : decode cX5_requireResource 3 = .ok (.getfield 10, 3) := by decide +kernel
theorem dX5_requireResource_6 : decode cX5_requireResource 6 = .ok (.getfield 59, 3) := by decide +kernel
theorem dX5_requireResource_9 : decode cX5_requireResource 9 = .ok (.iconst 1, 1) := by decide +kernel
theorem dX5_requireResource_10 : decode cX5_requireResource 10 = .ok (.isub, 1) := by decide +kernel
theorem dX5_requireResource_11 : decode cX5_requireResource 11 = .ok (.invokestatic 48, 3) := by decide +kernel
theorem dX5_requireResource_14 : decode cX5_requireResource 14 = .ok (.ifCond .ne 13, 3) := by decide +kernel
theorem dX5_requireResource_17 : decode cX5_requireResource 17 = .ok (.new 208, 3) := by decide +kernel
theorem dX5_requireResource_20 : decode cX5_requireResource 20 = .ok (.dup, 1) := by decide +kernel
theorem dX5_requireResource_21 : decode cX5_requireResource 21 = .ok (.ldc 210, 2) := by decide +kernel
theorem dX5_requireResource_23 : decode cX5_requireResource 23 = .ok (.invokespecial 212, 3) := by decide +kernel
theorem dX5_requireResource_26 : decode cX5_requireResource 26 = .ok (.athrow, 1) := by decide +kernel
theorem dX5_requireResource_27 : decode cX5_requireResource 27 = .ok (.return_, 1) := by decide +kernel
theorem dX5_requireGroup_0 : decode cX5_requireGroup 0 = .ok (.iload_n 1, 1) := by decide +kernel
theorem dX5_requireGroup_1 : decode cX5_requireGroup 1 = .ok (.iconst 0, 1) := by decide +kernel
theorem dX5_requireGroup_2 : decode cX5_requireGroup 2 = .ok (.iconst 3, 1) := by decide +kernel
theorem dX5_requireGroup_3 : decode cX5_requireGroup 3 = .ok (.invokestatic 48, 3) := by decide +kernel
theorem dX5_requireGroup_6 : decode cX5_requireGroup 6 = .ok (.ifCond .ne 13, 3) := by decide +kernel
theorem dX5_requireGroup_9 : decode cX5_requireGroup 9 = .ok (.new 208, 3) := by decide +kernel
theorem dX5_requireGroup_12 : decode cX5_requireGroup 12 = .ok (.dup, 1) := by decide +kernel
theorem dX5_requireGroup_13 : decode cX5_requireGroup 13 = .ok (.ldc 213, 2) := by decide +kernel
theorem dX5_requireGroup_15 : decode cX5_requireGroup 15 = .ok (.invokespecial 212, 3) := by decide +kernel
theorem dX5_requireGroup_18 : decode cX5_requireGroup 18 = .ok (.athrow, 1) := by decide +kernel
theorem dX5_requireGroup_19 : decode cX5_requireGroup 19 = .ok (.return_, 1) := by decide +kernel
theorem dX5_requireRequest_0 : decode cX5_requireRequest 0 = .ok (.iload_n 1, 1) := by decide +kernel
theorem dX5_requireRequest_1 : decode cX5_requireRequest 1 = .ok (.iconst 0, 1) := by decide +kernel
theorem dX5_requireRequest_2 : decode cX5_requireRequest 2 = .ok (.aload_n 0, 1) := by decide +kernel
theorem dX5_requireRequest_3 : decode cX5_requireRequest 3 = .ok (.getfield 10, 3) := by decide +kernel
theorem dX5_requireRequest_6 : decode cX5_requireRequest 6 = .ok (.getfield 119, 3) := by decide +kernel
theorem dX5_requireRequest_9 : decode cX5_requireRequest 9 = .ok (.iconst 1, 1) := by decide +kernel
theorem dX5_requireRequest_10 : decode cX5_requireRequest 10 = .ok (.isub, 1) := by decide +kernel
theorem dX5_requireRequest_11 : decode cX5_requireRequest 11 = .ok (.invokestatic 48, 3) := by decide +kernel
theorem dX5_requireRequest_14 : decode cX5_requireRequest 14 = .ok (.ifCond .ne 13, 3) := by decide +kernel
theorem dX5_requireRequest_17 : decode cX5_requireRequest 17 = .ok (.new 208, 3) := by decide +kernel
theorem dX5_requireRequest_20 : decode cX5_requireRequest 20 = .ok (.dup, 1) := by decide +kernel
theorem dX5_requireRequest_21 : decode cX5_requireRequest 21 = .ok (.ldc 215, 2) := by decide +kernel
theorem dX5_requireRequest_23 : decode cX5_requireRequest 23 = .ok (.invokespecial 212, 3) := by decide +kernel
theorem dX5_requireRequest_26 : decode cX5_requireRequest 26 = .ok (.athrow, 1) := by decide +kernel
theorem dX5_requireRequest_27 : decode cX5_requireRequest 27 = .ok (.return_, 1) := by decide +kernel
theorem dX5_requirePresent_0 : decode cX5_requirePresent 0 = .ok (.aload_n 0, 1) := by decide +kernel
theorem dX5_requirePresent_1 : decode cX5_requirePresent 1 = .ok (.iload_n 1, 1) := by decide +kernel
theorem dX5_requirePresent_2 : decode cX5_requirePresent 2 = .ok (.invokevirtual 157, 3) := by decide +kernel
theorem dX5_requirePresent_5 : decode cX5_requirePresent 5 = .ok (.aload_n 0, 1) := by decide +kernel
theorem dX5_requirePresent_6 : decode cX5_requirePresent 6 = .ok (.getfield 10, 3) := by decide +kernel
theorem dX5_requirePresent_9 : decode cX5_requirePresent 9 = .ok (.iload_n 1, 1) := by decide +kernel
theorem dX5_requirePresent_10 : decode cX5_requirePresent 10 = .ok (.invokevirtual 197, 3) := by decide +kernel
theorem dX5_requirePresent_13 : decode cX5_requirePresent 13 = .ok (.ifCond .eq 13, 3) := by decide +kernel
theorem dX5_requirePresent_16 : decode cX5_requirePresent 16 = .ok (.new 163, 3) := by decide +kernel
theorem dX5_requirePresent_19 : decode cX5_requirePresent 19 = .ok (.dup, 1) := by decide +kernel
theorem dX5_requirePresent_20 : decode cX5_requirePresent 20 = .ok (.ldc 217, 2) := by decide +kernel
theorem dX5_requirePresent_22 : decode cX5_requirePresent 22 = .ok (.invokespecial 167, 3) := by decide +kernel
theorem dX5_requirePresent_25 : decode cX5_requirePresent 25 = .ok (.athrow, 1) := by decide +kernel
theorem dX5_requirePresent_26 : decode cX5_requirePresent 26 = .ok (.return_, 1) := by decide +kernel
theorem dX5_requireMask_0 : decode cX5_requireMask 0 = .ok (.iload_n 1, 1) := by decide +kernel
theorem dX5_requireMask_1 : decode cX5_requireMask 1 = .ok (.ifCond .lt 17, 3) := by decide +kernel
theorem dX5_requireMask_4 : decode cX5_requireMask 4 = .ok (.iload_n 1, 1) := by decide +kernel
theorem dX5_requireMask_5 : decode cX5_requireMask 5 = .ok (.aload_n 0, 1) := by decide +kernel
theorem dX5_requireMask_6 : decode cX5_requireMask 6 = .ok (.getfield 10, 3) := by decide +kernel
theorem dX5_requireMask_9 : decode cX5_requireMask 9 = .ok (.invokevirtual 219, 3) := by decide +kernel
theorem dX5_requireMask_12 : decode cX5_requireMask 12 = .ok (.iconst (-1), 1) := by decide +kernel
theorem dX5_requireMask_13 : decode cX5_requireMask 13 = .ok (.ixor, 1) := by decide +kernel
theorem dX5_requireMask_14 : decode cX5_requireMask 14 = .ok (.iand, 1) := by decide +kernel
theorem dX5_requireMask_15 : decode cX5_requireMask 15 = .ok (.ifCond .eq 13, 3) := by decide +kernel
theorem dX5_requireMask_18 : decode cX5_requireMask 18 = .ok (.new 52, 3) := by decide +kernel
theorem dX5_requireMask_21 : decode cX5_requireMask 21 = .ok (.dup, 1) := by decide +kernel
theorem dX5_requireMask_22 : decode cX5_requireMask 22 = .ok (.ldc 222, 2) := by decide +kernel
theorem dX5_requireMask_24 : decode cX5_requireMask 24 = .ok (.invokespecial 56, 3) := by decide +kernel
theorem dX5_requireMask_27 : decode cX5_requireMask 27 = .ok (.athrow, 1) := by decide +kernel
theorem dX5_requireMask_28 : decode cX5_requireMask 28 = .ok (.return_, 1) := by decide +kernel
theorem dX5_requireLogged_0 : decode cX5_requireLogged 0 = .ok (.iload_n 1, 1) := by decide +kernel
theorem dX5_requireLogged_1 : decode cX5_requireLogged 1 = .ok (.iconst 0, 1) := by decide +kernel
theorem dX5_requireLogged_2 : decode cX5_requireLogged 2 = .ok (.aload_n 0, 1) := by decide +kernel
theorem dX5_requireLogged_3 : decode cX5_requireLogged 3 = .ok (.getfield 19, 3) := by decide +kernel
theorem dX5_requireLogged_6 : decode cX5_requireLogged 6 = .ok (.getfield 174, 3) := by decide +kernel
theorem dX5_requireLogged_9 : decode cX5_requireLogged 9 = .ok (.iconst 1, 1) := by decide +kernel
theorem dX5_requireLogged_10 : decode cX5_requireLogged 10 = .ok (.isub, 1) := by decide +kernel
theorem dX5_requireLogged_11 : decode cX5_requireLogged 11 = .ok (.invokestatic 48, 3) := by decide +kernel
theorem dX5_requireLogged_14 : decode cX5_requireLogged 14 = .ok (.ifCond .ne 13, 3) := by decide +kernel
theorem dX5_requireLogged_17 : decode cX5_requireLogged 17 = .ok (.new 208, 3) := by decide +kernel
theorem dX5_requireLogged_20 : decode cX5_requireLogged 20 = .ok (.dup, 1) := by decide +kernel
theorem dX5_requireLogged_21 : decode cX5_requireLogged 21 = .ok (.ldc 224, 2) := by decide +kernel
theorem dX5_requireLogged_23 : decode cX5_requireLogged 23 = .ok (.invokespecial 212, 3) := by decide +kernel
theorem dX5_requireLogged_26 : decode cX5_requireLogged 26 = .ok (.athrow, 1) := by decide +kernel
theorem dX5_requireLogged_27 : decode cX5_requireLogged 27 = .ok (.return_, 1) := by decide +kernel
theorem dX5_isWithin_0 : decode cX5_isWithin 0 = .ok (.iload_n 0, 1) := by decide +kernel
theorem dX5_isWithin_1 : decode cX5_isWithin 1 = .ok (.iload_n 1, 1) := by decide +kernel
theorem dX5_isWithin_2 : decode cX5_isWithin 2 = .ok (.if_icmp .lt 12, 3) := by decide +kernel
theorem dX5_isWithin_5 : decode cX5_isWithin 5 = .ok (.iload_n 0, 1) := by decide +kernel
theorem dX5_isWithin_6 : decode cX5_isWithin 6 = .ok (.iload_n 2, 1) := by decide +kernel
theorem dX5_isWithin_7 : decode cX5_isWithin 7 = .ok (.if_icmp .gt 7, 3) := by decide +kernel
theorem dX5_isWithin_10 : decode cX5_isWithin 10 = .ok (.iconst 1, 1) := by decide +kernel
theorem dX5_isWithin_11 : decode cX5_isWithin 11 = .ok (.goto 4, 3) := by decide +kernel
theorem dX5_isWithin_14 : decode cX5_isWithin 14 = .ok (.iconst 0, 1) := by decide +kernel
theorem dX5_isWithin_15 : decode cX5_isWithin 15 = .ok (.ireturn, 1) := by decide +kernel
theorem dX5_hasBit_0 : decode cX5_hasBit 0 = .ok (.iload_n 0, 1) := by decide +kernel
theorem dX5_hasBit_1 : decode cX5_hasBit 1 = .ok (.iload_n 1, 1) := by decide +kernel
theorem dX5_hasBit_2 : decode cX5_hasBit 2 = .ok (.ishr, 1) := by decide +kernel
theorem dX5_hasBit_3 : decode cX5_hasBit 3 = .ok (.iconst 1, 1) := by decide +kernel
theorem dX5_hasBit_4 : decode cX5_hasBit 4 = .ok (.iand, 1) := by decide +kernel
theorem dX5_hasBit_5 : decode cX5_hasBit 5 = .ok (.ifCond .eq 7, 3) := by decide +kernel
theorem dX5_hasBit_8 : decode cX5_hasBit 8 = .ok (.iconst 1, 1) := by decide +kernel
theorem dX5_hasBit_9 : decode cX5_hasBit 9 = .ok (.goto 4, 3) := by decide +kernel
theorem dX5_hasBit_12 : decode cX5_hasBit 12 = .ok (.iconst 0, 1) := by decide +kernel
theorem dX5_hasBit_13 : decode cX5_hasBit 13 = .ok (.ireturn, 1) := by decide +kernel
theorem dX5_lowestResource_0 : decode cX5_lowestResource 0 = .ok (.iconst 0, 1) := by decide +kernel
theorem dX5_lowestResource_1 : decode cX5_lowestResource 1 = .ok (.istore_n 1, 1) := by decide +kernel
theorem dX5_lowestResource_2 : decode cX5_lowestResource 2 = .ok (.iload_n 1, 1) := by decide +kernel
theorem dX5_lowestResource_3 : decode cX5_lowestResource 3 = .ok (.bipush 12, 2) := by decide +kernel
theorem dX5_lowestResource_5 : decode cX5_lowestResource 5 = .ok (.if_icmp .ge 19, 3) := by decide +kernel
theorem dX5_lowestResource_8 : decode cX5_lowestResource 8 = .ok (.iload_n 0, 1) := by decide +kernel
theorem dX5_lowestResource_9 : decode cX5_lowestResource 9 = .ok (.iload_n 1, 1) := by decide +kernel
theorem dX5_lowestResource_10 : decode cX5_lowestResource 10 = .ok (.invokestatic 226, 3) := by decide +kernel
theorem dX5_lowestResource_13 : decode cX5_lowestResource 13 = .ok (.ifCond .eq 5, 3) := by decide +kernel
theorem dX5_lowestResource_16 : decode cX5_lowestResource 16 = .ok (.iload_n 1, 1) := by decide +kernel
theorem dX5_lowestResource_17 : decode cX5_lowestResource 17 = .ok (.ireturn, 1) := by decide +kernel
theorem dX5_lowestResource_18 : decode cX5_lowestResource 18 = .ok (.iinc 1 1, 3) := by decide +kernel
theorem dX5_lowestResource_21 : decode cX5_lowestResource 21 = .ok (.goto (-19), 3) := by decide +kernel
theorem dX5_lowestResource_24 : decode cX5_lowestResource 24 = .ok (.iconst (-1), 1) := by decide +kernel
theorem dX5_lowestResource_25 : decode cX5_lowestResource 25 = .ok (.ireturn, 1) := by decide +kernel
theorem dX5_mix_0 : decode cX5_mix 0 = .ok (.lload_n 0, 1) := by decide +kernel
theorem dX5_mix_1 : decode cX5_mix 1 = .ok (.ldc2_w 230, 3) := by decide +kernel
theorem dX5_mix_4 : decode cX5_mix 4 = .ok (.lmul, 1) := by decide +kernel
theorem dX5_mix_5 : decode cX5_mix 5 = .ok (.iload_n 2, 1) := by decide +kernel
theorem dX5_mix_6 : decode cX5_mix 6 = .ok (.i2l, 1) := by decide +kernel
theorem dX5_mix_7 : decode cX5_mix 7 = .ok (.ladd, 1) := by decide +kernel
theorem dX5_mix_8 : decode cX5_mix 8 = .ok (.lreturn, 1) := by decide +kernel
end
section
theorem dX6_init_0 : decode cX6_init 0 = .ok (.aload_n 0, 1) := by decide +kernel
theorem dX6_init_1 : decode cX6_init 1 = .ok (.invokespecial 1, 3) := by decide +kernel
theorem dX6_init_4 : decode cX6_init 4 = .ok (.aload_n 0, 1) := by decide +kernel
theorem dX6_init_5 : decode cX6_init 5 = .ok (.bipush 12, 2) := by decide +kernel
theorem dX6_init_7 : decode cX6_init 7 = .ok (.newarray .int, 2) := by decide +kernel
theorem dX6_init_9 : decode cX6_init 9 = .ok (.putfield 9, 3) := by decide +kernel
theorem dX6_init_12 : decode cX6_init 12 = .ok (.aload_n 0, 1) := by decide +kernel
theorem dX6_init_13 : decode cX6_init 13 = .ok (.iconst 4, 1) := by decide +kernel
theorem dX6_init_14 : decode cX6_init 14 = .ok (.newarray .int, 2) := by decide +kernel
theorem dX6_init_16 : decode cX6_init 16 = .ok (.dup, 1) := by decide +kernel
theorem dX6_init_17 : decode cX6_init 17 = .ok (.iconst 0, 1) := by decide +kernel
theorem dX6_init_18 : decode cX6_init 18 = .ok (.bipush 40, 2) := by decide +kernel
theorem dX6_init_20 : decode cX6_init 20 = .ok (.iastore, 1) := by decide +kernel
theorem dX6_init_21 : decode cX6_init 21 = .ok (.dup, 1) := by decide +kernel
theorem dX6_init_22 : decode cX6_init 22 = .ok (.iconst 1, 1) := by decide +kernel
theorem dX6_init_23 : decode cX6_init 23 = .ok (.bipush 40, 2) := by decide +kernel
theorem dX6_init_25 : decode cX6_init 25 = .ok (.iastore, 1) := by decide +kernel
theorem dX6_init_26 : decode cX6_init 26 = .ok (.dup, 1) := by decide +kernel
theorem dX6_init_27 : decode cX6_init 27 = .ok (.iconst 2, 1) := by decide +kernel
theorem dX6_init_28 : decode cX6_init 28 = .ok (.bipush 40, 2) := by decide +kernel
theorem dX6_init_30 : decode cX6_init 30 = .ok (.iastore, 1) := by decide +kernel
theorem dX6_init_31 : decode cX6_init 31 = .ok (.dup, 1) := by decide +kernel
theorem dX6_init_32 : decode cX6_init 32 = .ok (.iconst 3, 1) := by decide +kernel
theorem dX6_init_33 : decode cX6_init 33 = .ok (.bipush 40, 2) := by decide +kernel
theorem dX6_init_35 : decode cX6_init 35 = .ok (.iastore, 1) := by decide +kernel
theorem dX6_init_36 : decode cX6_init 36 = .ok (.putfield 13, 3) := by decide +kernel
theorem dX6_init_39 : decode cX6_init 39 = .ok (.aload_n 0, 1) := by decide +kernel
theorem dX6_init_40 : decode cX6_init 40 = .ok (.iconst 4, 1) := by decide +kernel
theorem dX6_init_41 : decode cX6_init 41 = .ok (.newarray .int, 2) := by decide +kernel
theorem dX6_init_43 : decode cX6_init 43 = .ok (.dup, 1) := by decide +kernel
theorem dX6_init_44 : decode cX6_init 44 = .ok (.iconst 0, 1) := by decide +kernel
theorem dX6_init_45 : decode cX6_init 45 = .ok (.iconst 1, 1) := by decide +kernel
theorem dX6_init_46 : decode cX6_init 46 = .ok (.iastore, 1) := by decide +kernel
theorem dX6_init_47 : decode cX6_init 47 = .ok (.dup, 1) := by decide +kernel
theorem dX6_init_48 : decode cX6_init 48 = .ok (.iconst 1, 1) := by decide +kernel
theorem dX6_init_49 : decode cX6_init 49 = .ok (.iconst 1, 1) := by decide +kernel
theorem dX6_init_50 : decode cX6_init 50 = .ok (.iastore, 1) := by decide +kernel
theorem dX6_init_51 : decode cX6_init 51 = .ok (.dup, 1) := by decide +kernel
theorem dX6_init_52 : decode cX6_init 52 = .ok (.iconst 2, 1) := by decide +kernel
theorem dX6_init_53 : decode cX6_init 53 = .ok (.iconst 1, 1) := by decide +kernel
theorem dX6_init_54 : decode cX6_init 54 = .ok (.iastore, 1) := by decide +kernel
theorem dX6_init_55 : decode cX6_init 55 = .ok (.dup, 1) := by decide +kernel
theorem dX6_init_56 : decode cX6_init 56 = .ok (.iconst 3, 1) := by decide +kernel
theorem dX6_init_57 : decode cX6_init 57 = .ok (.iconst 1, 1) := by decide +kernel
theorem dX6_init_58 : decode cX6_init 58 = .ok (.iastore, 1) := by decide +kernel
theorem dX6_init_59 : decode cX6_init 59 = .ok (.putfield 16, 3) := by decide +kernel
theorem dX6_init_62 : decode cX6_init 62 = .ok (.aload_n 0, 1) := by decide +kernel
theorem dX6_init_63 : decode cX6_init 63 = .ok (.bipush 40, 2) := by decide +kernel
theorem dX6_init_65 : decode cX6_init 65 = .ok (.newarray .int, 2) := by decide +kernel
theorem dX6_init_67 : decode cX6_init 67 = .ok (.putfield 19, 3) := by decide +kernel
theorem dX6_init_70 : decode cX6_init 70 = .ok (.aload_n 0, 1) := by decide +kernel
theorem dX6_init_71 : decode cX6_init 71 = .ok (.bipush 40, 2) := by decide +kernel
theorem dX6_init_73 : decode cX6_init 73 = .ok (.newarray .int, 2) := by decide +kernel
theorem dX6_init_75 : decode cX6_init 75 = .ok (.putfield 22, 3) := by decide +kernel
theorem dX6_init_78 : decode cX6_init 78 = .ok (.aload_n 0, 1) := by decide +kernel
theorem dX6_init_79 : decode cX6_init 79 = .ok (.bipush 40, 2) := by decide +kernel
theorem dX6_init_81 : decode cX6_init 81 = .ok (.newarray .int, 2) := by decide +kernel
theorem dX6_init_83 : decode cX6_init 83 = .ok (.putfield 25, 3) := by decide +kernel
theorem dX6_init_86 : decode cX6_init 86 = .ok (.aload_n 0, 1) := by decide +kernel
theorem dX6_init_87 : decode cX6_init 87 = .ok (.bipush 40, 2) := by decide +kernel
theorem dX6_init_89 : decode cX6_init 89 = .ok (.newarray .int, 2) := by decide +kernel
theorem dX6_init_91 : decode cX6_init 91 = .ok (.putfield 28, 3) := by decide +kernel
theorem dX6_init_94 : decode cX6_init 94 = .ok (.aload_n 0, 1) := by decide +kernel
theorem dX6_init_95 : decode cX6_init 95 = .ok (.bipush 40, 2) := by decide +kernel
theorem dX6_init_97 : decode cX6_init 97 = .ok (.newarray .int, 2) := by decide +kernel
theorem dX6_init_99 : decode cX6_init 99 = .ok (.putfield 31, 3) := by decide +kernel
theorem dX6_init_102 : decode cX6_init 102 = .ok (.aload_n 0, 1) := by decide +kernel
theorem dX6_init_103 : decode cX6_init 103 = .ok (.iconst 2, 1) := by decide +kernel
theorem dX6_init_104 : decode cX6_init 104 = .ok (.putfield 34, 3) := by decide +kernel
theorem dX6_init_107 : decode cX6_init 107 = .ok (.aload_n 0, 1) := by decide +kernel
theorem dX6_init_108 : decode cX6_init 108 = .ok (.iconst 3, 1) := by decide +kernel
theorem dX6_init_109 : decode cX6_init 109 = .ok (.putfield 38, 3) := by decide +kernel
theorem dX6_init_112 : decode cX6_init 112 = .ok (.aload_n 0, 1) := by decide +kernel
theorem dX6_init_113 : decode cX6_init 113 = .ok (.sipush 400, 3) := by decide +kernel
theorem dX6_init_116 : decode cX6_init 116 = .ok (.newarray .int, 2) := by decide +kernel
theorem dX6_init_118 : decode cX6_init 118 = .ok (.putfield 41, 3) := by decide +kernel
theorem dX6_init_121 : decode cX6_init 121 = .ok (.aload_n 0, 1) := by decide +kernel
theorem dX6_init_122 : decode cX6_init 122 = .ok (.sipush 400, 3) := by decide +kernel
theorem dX6_init_125 : decode cX6_init 125 = .ok (.newarray .int, 2) := by decide +kernel
theorem dX6_init_127 : decode cX6_init 127 = .ok (.putfield 44, 3) := by decide +kernel
theorem dX6_init_130 : decode cX6_init 130 = .ok (.aload_n 0, 1) := by decide +kernel
theorem dX6_init_131 : decode cX6_init 131 = .ok (.bipush 12, 2) := by decide +kernel
theorem dX6_init_133 : decode cX6_init 133 = .ok (.newarray .int, 2) := by decide +kernel
theorem dX6_init_135 : decode cX6_init 135 = .ok (.putfield 47, 3) := by decide +kernel
theorem dX6_init_138 : decode cX6_init 138 = .ok (.aload_n 0, 1) := by decide +kernel
theorem dX6_init_139 : decode cX6_init 139 = .ok (.bipush 40, 2) := by decide +kernel
theorem dX6_init_141 : decode cX6_init 141 = .ok (.newarray .boolean, 2) := by decide +kernel
theorem dX6_init_143 : decode cX6_init 143 = .ok (.putfield 50, 3) := by decide +kernel
theorem dX6_init_146 : decode cX6_init 146 = .ok (.aload_n 0, 1) := by decide +kernel
theorem dX6_init_147 : decode cX6_init 147 = .ok (.bipush 12, 2) := by decide +kernel
theorem dX6_init_149 : decode cX6_init 149 = .ok (.newarray .int, 2) := by decide +kernel
theorem dX6_init_151 : decode cX6_init 151 = .ok (.putfield 54, 3) := by decide +kernel
theorem dX6_init_154 : decode cX6_init 154 = .ok (.aload_n 0, 1) := by decide +kernel
theorem dX6_init_155 : decode cX6_init 155 = .ok (.bipush 12, 2) := by decide +kernel
theorem dX6_init_157 : decode cX6_init 157 = .ok (.newarray .int, 2) := by decide +kernel
theorem dX6_init_159 : decode cX6_init 159 = .ok (.putfield 57, 3) := by decide +kernel
theorem dX6_init_162 : decode cX6_init 162 = .ok (.return_, 1) := by decide +kernel
theorem dX6_thrown_0 : decode cX6_thrown 0 = .ok (.aload_n 0, 1) := by decide +kernel
theorem dX6_thrown_1 : decode cX6_thrown 1 = .ok (.getfield 60, 3) := by decide +kernel
theorem dX6_thrown_4 : decode cX6_thrown 4 = .ok (.ireturn, 1) := by decide +kernel
theorem dX6_fail_0 : decode cX6_fail 0 = .ok (.aload_n 0, 1) := by decide +kernel
theorem dX6_fail_1 : decode cX6_fail 1 = .ok (.iload_n 1, 1) := by decide +kernel
theorem dX6_fail_2 : decode cX6_fail 2 = .ok (.putfield 60, 3) := by decide +kernel
theorem dX6_fail_5 : decode cX6_fail 5 = .ok (.iconst 0, 1) := by decide +kernel
theorem dX6_fail_6 : decode cX6_fail 6 = .ok (.ireturn, 1) := by decide +kernel
theorem dX6_isResource_0 : decode cX6_isResource 0 = .ok (.iload_n 1, 1) := by decide +kernel
theorem dX6_isResource_1 : decode cX6_isResource 1 = .ok (.ifCond .lt 15, 3) := by decide +kernel
theorem dX6_isResource_4 : decode cX6_isResource 4 = .ok (.iload_n 1, 1) := by decide +kernel
theorem dX6_isResource_5 : decode cX6_isResource 5 = .ok (.aload_n 0, 1) := by decide +kernel
theorem dX6_isResource_6 : decode cX6_isResource 6 = .ok (.getfield 63, 3) := by decide +kernel
theorem dX6_isResource_9 : decode cX6_isResource 9 = .ok (.if_icmp .ge 7, 3) := by decide +kernel
theorem dX6_isResource_12 : decode cX6_isResource 12 = .ok (.iconst 1, 1) := by decide +kernel
theorem dX6_isResource_13 : decode cX6_isResource 13 = .ok (.goto 4, 3) := by decide +kernel
theorem dX6_isResource_16 : decode cX6_isResource 16 = .ok (.iconst 0, 1) := by decide +kernel
theorem dX6_isResource_17 : decode cX6_isResource 17 = .ok (.ireturn, 1) := by decide +kernel
theorem dX6_isRequest_0 : decode cX6_isRequest 0 = .ok (.iload_n 1, 1) := by decide +kernel
theorem dX6_isRequest_1 : decode cX6_isRequest 1 = .ok (.ifCond .lt 15, 3) := by decide +kernel
theorem dX6_isRequest_4 : decode cX6_isRequest 4 = .ok (.iload_n 1, 1) := by decide +kernel
theorem dX6_isRequest_5 : decode cX6_isRequest 5 = .ok (.aload_n 0, 1) := by decide +kernel
theorem dX6_isRequest_6 : decode cX6_isRequest 6 = .ok (.getfield 66, 3) := by decide +kernel
theorem dX6_isRequest_9 : decode cX6_isRequest 9 = .ok (.if_icmp .ge 7, 3) := by decide +kernel
theorem dX6_isRequest_12 : decode cX6_isRequest 12 = .ok (.iconst 1, 1) := by decide +kernel
theorem dX6_isRequest_13 : decode cX6_isRequest 13 = .ok (.goto 4, 3) := by decide +kernel
theorem dX6_isRequest_16 : decode cX6_isRequest 16 = .ok (.iconst 0, 1) := by decide +kernel
theorem dX6_isRequest_17 : decode cX6_isRequest 17 = .ok (.ireturn, 1) := by decide +kernel
theorem dX6_isGroup_0 : decode cX6_isGroup 0 = .ok (.iload_n 0, 1) := by decide +kernel
theorem dX6_isGroup_1 : decode cX6_isGroup 1 = .ok (.ifCond .lt 12, 3) := by decide +kernel
theorem dX6_isGroup_4 : decode cX6_isGroup 4 = .ok (.iload_n 0, 1) := by decide +kernel
theorem dX6_isGroup_5 : decode cX6_isGroup 5 = .ok (.iconst 4, 1) := by decide +kernel
theorem dX6_isGroup_6 : decode cX6_isGroup 6 = .ok (.if_icmp .ge 7, 3) := by decide +kernel
theorem dX6_isGroup_9 : decode cX6_isGroup 9 = .ok (.iconst 1, 1) := by decide +kernel
theorem dX6_isGroup_10 : decode cX6_isGroup 10 = .ok (.goto 4, 3) := by decide +kernel
theorem dX6_isGroup_13 : decode cX6_isGroup 13 = .ok (.iconst 0, 1) := by decide +kernel
theorem dX6_isGroup_14 : decode cX6_isGroup 14 = .ok (.ireturn, 1) := by decide +kernel
theorem dX6_isMask_0 : decode cX6_isMask 0 = .ok (.iload_n 1, 1) := by decide +kernel
theorem dX6_isMask_1 : decode cX6_isMask 1 = .ok (.ifCond .lt 17, 3) := by decide +kernel
theorem dX6_isMask_4 : decode cX6_isMask 4 = .ok (.iload_n 1, 1) := by decide +kernel
theorem dX6_isMask_5 : decode cX6_isMask 5 = .ok (.iconst 1, 1) := by decide +kernel
theorem dX6_isMask_6 : decode cX6_isMask 6 = .ok (.aload_n 0, 1) := by decide +kernel
theorem dX6_isMask_7 : decode cX6_isMask 7 = .ok (.getfield 63, 3) := by decide +kernel
theorem dX6_isMask_10 : decode cX6_isMask 10 = .ok (.ishl, 1) := by decide +kernel
theorem dX6_isMask_11 : decode cX6_isMask 11 = .ok (.if_icmp .ge 7, 3) := by decide +kernel
theorem dX6_isMask_14 : decode cX6_isMask 14 = .ok (.iconst 1, 1) := by decide +kernel
theorem dX6_isMask_15 : decode cX6_isMask 15 = .ok (.goto 4, 3) := by decide +kernel
theorem dX6_isMask_18 : decode cX6_isMask 18 = .ok (.iconst 0, 1) := by decide +kernel
theorem dX6_isMask_19 : decode cX6_isMask 19 = .ok (.ireturn, 1) := by decide +kernel
theorem dX6_accepts_0 : decode cX6_accepts 0 = .ok (.aload_n 0, 1) := by decide +kernel
theorem dX6_accepts_1 : decode cX6_accepts 1 = .ok (.getfield 22, 3) := by decide +kernel
theorem dX6_accepts_4 : decode cX6_accepts 4 = .ok (.iload_n 1, 1) := by decide +kernel
theorem dX6_accepts_5 : decode cX6_accepts 5 = .ok (.iaload, 1) := by decide +kernel
theorem dX6_accepts_6 : decode cX6_accepts 6 = .ok (.iload_n 2, 1) := by decide +kernel
theorem dX6_accepts_7 : decode cX6_accepts 7 = .ok (.ishr, 1) := by decide +kernel
theorem dX6_accepts_8 : decode cX6_accepts 8 = .ok (.iconst 1, 1) := by decide +kernel
theorem dX6_accepts_9 : decode cX6_accepts 9 = .ok (.iand, 1) := by decide +kernel
theorem dX6_accepts_10 : decode cX6_accepts 10 = .ok (.iconst 1, 1) := by decide +kernel
theorem dX6_accepts_11 : decode cX6_accepts 11 = .ok (.if_icmp .ne 7, 3) := by decide +kernel
theorem dX6_accepts_14 : decode cX6_accepts 14 = .ok (.iconst 1, 1) := by decide +kernel
theorem dX6_accepts_15 : decode cX6_accepts 15 = .ok (.goto 4, 3) := by decide +kernel
theorem dX6_accepts_18 : decode cX6_accepts 18 = .ok (.iconst 0, 1) := by decide +kernel
theorem dX6_accepts_19 : decode cX6_accepts 19 = .ok (.ireturn, 1) := by decide +kernel
theorem dX6_isAt_0 : decode cX6_isAt 0 = .ok (.aload_n 0, 1) := by decide +kernel
theorem dX6_isAt_1 : decode cX6_isAt 1 = .ok (.getfield 25, 3) := by decide +kernel
theorem dX6_isAt_4 : decode cX6_isAt 4 = .ok (.iload_n 1, 1) := by decide +kernel
theorem dX6_isAt_5 : decode cX6_isAt 5 = .ok (.iaload, 1) := by decide +kernel
theorem dX6_isAt_6 : decode cX6_isAt 6 = .ok (.iconst 1, 1) := by decide +kernel
theorem dX6_isAt_7 : decode cX6_isAt 7 = .ok (.if_icmp .ne 17, 3) := by decide +kernel
theorem dX6_isAt_10 : decode cX6_isAt 10 = .ok (.aload_n 0, 1) := by decide +kernel
theorem dX6_isAt_11 : decode cX6_isAt 11 = .ok (.getfield 28, 3) := by decide +kernel
theorem dX6_isAt_14 : decode cX6_isAt 14 = .ok (.iload_n 1, 1) := by decide +kernel
theorem dX6_isAt_15 : decode cX6_isAt 15 = .ok (.iaload, 1) := by decide +kernel
theorem dX6_isAt_16 : decode cX6_isAt 16 = .ok (.iload_n 2, 1) := by decide +kernel
theorem dX6_isAt_17 : decode cX6_isAt 17 = .ok (.if_icmp .ne 7, 3) := by decide +kernel
theorem dX6_isAt_20 : decode cX6_isAt 20 = .ok (.iconst 1, 1) := by decide +kernel
theorem dX6_isAt_21 : decode cX6_isAt 21 = .ok (.goto 4, 3) := by decide +kernel
theorem dX6_isAt_24 : decode cX6_isAt 24 = .ok (.iconst 0, 1) := by decide +kernel
theorem dX6_isAt_25 : decode cX6_isAt 25 = .ok (.ireturn, 1) := by decide +kernel
theorem dX6_loadOf_0 : decode cX6_loadOf 0 = .ok (.iconst 0, 1) := by decide +kernel
theorem dX6_loadOf_1 : decode cX6_loadOf 1 = .ok (.istore_n 2, 1) := by decide +kernel
theorem dX6_loadOf_2 : decode cX6_loadOf 2 = .ok (.iconst 0, 1) := by decide +kernel
theorem dX6_loadOf_3 : decode cX6_loadOf 3 = .ok (.istore_n 3, 1) := by decide +kernel
theorem dX6_loadOf_4 : decode cX6_loadOf 4 = .ok (.iload_n 3, 1) := by decide +kernel
theorem dX6_loadOf_5 : decode cX6_loadOf 5 = .ok (.aload_n 0, 1) := by decide +kernel
theorem dX6_loadOf_6 : decode cX6_loadOf 6 = .ok (.getfield 66, 3) := by decide +kernel
theorem dX6_loadOf_9 : decode cX6_loadOf 9 = .ok (.if_icmp .ge 26, 3) := by decide +kernel
theorem dX6_loadOf_12 : decode cX6_loadOf 12 = .ok (.iload_n 2, 1) := by decide +kernel
theorem dX6_loadOf_13 : decode cX6_loadOf 13 = .ok (.aload_n 0, 1) := by decide +kernel
theorem dX6_loadOf_14 : decode cX6_loadOf 14 = .ok (.iload_n 3, 1) := by decide +kernel
theorem dX6_loadOf_15 : decode cX6_loadOf 15 = .ok (.iload_n 1, 1) := by decide +kernel
theorem dX6_loadOf_16 : decode cX6_loadOf 16 = .ok (.invokevirtual 69, 3) := by decide +kernel
theorem dX6_loadOf_19 : decode cX6_loadOf 19 = .ok (.ifCond .eq 7, 3) := by decide +kernel
theorem dX6_loadOf_22 : decode cX6_loadOf 22 = .ok (.iconst 1, 1) := by decide +kernel
theorem dX6_loadOf_23 : decode cX6_loadOf 23 = .ok (.goto 4, 3) := by decide +kernel
theorem dX6_loadOf_26 : decode cX6_loadOf 26 = .ok (.iconst 0, 1) := by decide +kernel
theorem dX6_loadOf_27 : decode cX6_loadOf 27 = .ok (.iadd, 1) := by decide +kernel
theorem dX6_loadOf_28 : decode cX6_loadOf 28 = .ok (.istore_n 2, 1) := by decide +kernel
theorem dX6_loadOf_29 : decode cX6_loadOf 29 = .ok (.iinc 3 1, 3) := by decide +kernel
theorem dX6_loadOf_32 : decode cX6_loadOf 32 = .ok (.goto (-28), 3) := by decide +kernel
theorem dX6_loadOf_35 : decode cX6_loadOf 35 = .ok (.iload_n 2, 1) := by decide +kernel
theorem dX6_loadOf_36 : decode cX6_loadOf 36 = .ok (.ireturn, 1) := by decide +kernel
theorem dX6_assignedIn_0 : decode cX6_assignedIn 0 = .ok (.iconst 0, 1) := by decide +kernel
theorem dX6_assignedIn_1 : decode cX6_assignedIn 1 = .ok (.istore_n 2, 1) := by decide +kernel
theorem dX6_assignedIn_2 : decode cX6_assignedIn 2 = .ok (.iconst 0, 1) := by decide +kernel
theorem dX6_assignedIn_3 : decode cX6_assignedIn 3 = .ok (.istore_n 3, 1) := by decide +kernel
theorem dX6_assignedIn_4 : decode cX6_assignedIn 4 = .ok (.iload_n 3, 1) := by decide +kernel
theorem dX6_assignedIn_5 : decode cX6_assignedIn 5 = .ok (.aload_n 0, 1) := by decide +kernel
theorem dX6_assignedIn_6 : decode cX6_assignedIn 6 = .ok (.getfield 66, 3) := by decide +kernel
theorem dX6_assignedIn_9 : decode cX6_assignedIn 9 = .ok (.if_icmp .ge 37, 3) := by decide +kernel
theorem dX6_assignedIn_12 : decode cX6_assignedIn 12 = .ok (.iload_n 2, 1) := by decide +kernel
theorem dX6_assignedIn_13 : decode cX6_assignedIn 13 = .ok (.aload_n 0, 1) := by decide +kernel
theorem dX6_assignedIn_14 : decode cX6_assignedIn 14 = .ok (.getfield 25, 3) := by decide +kernel
theorem dX6_assignedIn_17 : decode cX6_assignedIn 17 = .ok (.iload_n 3, 1) := by decide +kernel
theorem dX6_assignedIn_18 : decode cX6_assignedIn 18 = .ok (.iaload, 1) := by decide +kernel
theorem dX6_assignedIn_19 : decode cX6_assignedIn 19 = .ok (.iconst 1, 1) := by decide +kernel
theorem dX6_assignedIn_20 : decode cX6_assignedIn 20 = .ok (.if_icmp .ne 17, 3) := by decide +kernel
theorem dX6_assignedIn_23 : decode cX6_assignedIn 23 = .ok (.aload_n 0, 1) := by decide +kernel
theorem dX6_assignedIn_24 : decode cX6_assignedIn 24 = .ok (.getfield 19, 3) := by decide +kernel
theorem dX6_assignedIn_27 : decode cX6_assignedIn 27 = .ok (.iload_n 3, 1) := by decide +kernel
theorem dX6_assignedIn_28 : decode cX6_assignedIn 28 = .ok (.iaload, 1) := by decide +kernel
theorem dX6_assignedIn_29 : decode cX6_assignedIn 29 = .ok (.iload_n 1, 1) := by decide +kernel
theorem dX6_assignedIn_30 : decode cX6_assignedIn 30 = .ok (.if_icmp .ne 7, 3) := by decide +kernel
theorem dX6_assignedIn_33 : decode cX6_assignedIn 33 = .ok (.iconst 1, 1) := by decide +kernel
theorem dX6_assignedIn_34 : decode cX6_assignedIn 34 = .ok (.goto 4, 3) := by decide +kernel
theorem dX6_assignedIn_37 : decode cX6_assignedIn 37 = .ok (.iconst 0, 1) := by decide +kernel
theorem dX6_assignedIn_38 : decode cX6_assignedIn 38 = .ok (.iadd, 1) := by decide +kernel
theorem dX6_assignedIn_39 : decode cX6_assignedIn 39 = .ok (.istore_n 2, 1) := by decide +kernel
theorem dX6_assignedIn_40 : decode cX6_assignedIn 40 = .ok (.iinc 3 1, 3) := by decide +kernel
theorem dX6_assignedIn_43 : decode cX6_assignedIn 43 = .ok (.goto (-39), 3) := by decide +kernel
theorem dX6_assignedIn_46 : decode cX6_assignedIn 46 = .ok (.iload_n 2, 1) := by decide +kernel
theorem dX6_assignedIn_47 : decode cX6_assignedIn 47 = .ok (.ireturn, 1) := by decide +kernel
theorem dX6_findFar_0 : decode cX6_findFar 0 = .ok (.iconst 0, 1) := by decide +kernel
theorem dX6_findFar_1 : decode cX6_findFar 1 = .ok (.istore_n 1, 1) := by decide +kernel
theorem dX6_findFar_2 : decode cX6_findFar 2 = .ok (.iload_n 1, 1) := by decide +kernel
theorem dX6_findFar_3 : decode cX6_findFar 3 = .ok (.aload_n 0, 1) := by decide +kernel
theorem dX6_findFar_4 : decode cX6_findFar 4 = .ok (.getfield 63, 3) := by decide +kernel
theorem dX6_findFar_7 : decode cX6_findFar 7 = .ok (.if_icmp .ge 35, 3) := by decide +kernel
theorem dX6_findFar_10 : decode cX6_findFar 10 = .ok (.aload_n 0, 1) := by decide +kernel
theorem dX6_findFar_11 : decode cX6_findFar 11 = .ok (.getfield 47, 3) := by decide +kernel
theorem dX6_findFar_14 : decode cX6_findFar 14 = .ok (.iload_n 1, 1) := by decide +kernel
theorem dX6_findFar_15 : decode cX6_findFar 15 = .ok (.aload_n 0, 1) := by decide +kernel
theorem dX6_findFar_16 : decode cX6_findFar 16 = .ok (.iload_n 1, 1) := by decide +kernel
theorem dX6_findFar_17 : decode cX6_findFar 17 = .ok (.invokevirtual 73, 3) := by decide +kernel
theorem dX6_findFar_20 : decode cX6_findFar 20 = .ok (.aload_n 0, 1) := by decide +kernel
theorem dX6_findFar_21 : decode cX6_findFar 21 = .ok (.getfield 9, 3) := by decide +kernel
theorem dX6_findFar_24 : decode cX6_findFar 24 = .ok (.iload_n 1, 1) := by decide +kernel
theorem dX6_findFar_25 : decode cX6_findFar 25 = .ok (.iaload, 1) := by decide +kernel
theorem dX6_findFar_26 : decode cX6_findFar 26 = .ok (.if_icmp .ge 7, 3) := by decide +kernel
theorem dX6_findFar_29 : decode cX6_findFar 29 = .ok (.iconst 1, 1) := by decide +kernel
theorem dX6_findFar_30 : decode cX6_findFar 30 = .ok (.goto 5, 3) := by decide +kernel
theorem dX6_findFar_33 : decode cX6_findFar 33 = .ok (.bipush 100, 2) := by decide +kernel
theorem dX6_findFar_35 : decode cX6_findFar 35 = .ok (.iastore, 1) := by decide +kernel
theorem dX6_findFar_36 : decode cX6_findFar 36 = .ok (.iinc 1 1, 3) := by decide +kernel
theorem dX6_findFar_39 : decode cX6_findFar 39 = .ok (.goto (-37), 3) := by decide +kernel
theorem dX6_findFar_42 : decode cX6_findFar 42 = .ok (.iconst 1, 1) := by decide +kernel
theorem dX6_findFar_43 : decode cX6_findFar 43 = .ok (.istore_n 1, 1) := by decide +kernel
theorem dX6_findFar_44 : decode cX6_findFar 44 = .ok (.iload_n 1, 1) := by decide +kernel
theorem dX6_findFar_45 : decode cX6_findFar 45 = .ok (.ifCond .eq 59, 3) := by decide +kernel
theorem dX6_findFar_48 : decode cX6_findFar 48 = .ok (.iconst 0, 1) := by decide +kernel
theorem dX6_findFar_49 : decode cX6_findFar 49 = .ok (.istore_n 1, 1) := by decide +kernel
theorem dX6_findFar_50 : decode cX6_findFar 50 = .ok (.iconst 0, 1) := by decide +kernel
theorem dX6_findFar_51 : decode cX6_findFar 51 = .ok (.istore_n 2, 1) := by decide +kernel
theorem dX6_findFar_52 : decode cX6_findFar 52 = .ok (.iload_n 2, 1) := by decide +kernel
theorem dX6_findFar_53 : decode cX6_findFar 53 = .ok (.aload_n 0, 1) := by decide +kernel
theorem dX6_findFar_54 : decode cX6_findFar 54 = .ok (.getfield 66, 3) := by decide +kernel
theorem dX6_findFar_57 : decode cX6_findFar 57 = .ok (.if_icmp .ge 44, 3) := by decide +kernel
theorem dX6_findFar_60 : decode cX6_findFar 60 = .ok (.iconst 0, 1) := by decide +kernel
theorem dX6_findFar_61 : decode cX6_findFar 61 = .ok (.istore_n 3, 1) := by decide +kernel
theorem dX6_findFar_62 : decode cX6_findFar 62 = .ok (.iload_n 3, 1) := by decide +kernel
theorem dX6_findFar_63 : decode cX6_findFar 63 = .ok (.aload_n 0, 1) := by decide +kernel
theorem dX6_findFar_64 : decode cX6_findFar 64 = .ok (.getfield 63, 3) := by decide +kernel
theorem dX6_findFar_67 : decode cX6_findFar 67 = .ok (.if_icmp .ge 28, 3) := by decide +kernel
theorem dX6_findFar_70 : decode cX6_findFar 70 = .ok (.aload_n 0, 1) := by decide +kernel
theorem dX6_findFar_71 : decode cX6_findFar 71 = .ok (.iload_n 2, 1) := by decide +kernel
theorem dX6_findFar_72 : decode cX6_findFar 72 = .ok (.iload_n 3, 1) := by decide +kernel
theorem dX6_findFar_73 : decode cX6_findFar 73 = .ok (.invokevirtual 77, 3) := by decide +kernel
theorem dX6_findFar_76 : decode cX6_findFar 76 = .ok (.ifCond .ne 7, 3) := by decide +kernel
theorem dX6_findFar_79 : decode cX6_findFar 79 = .ok (.iload_n 1, 1) := by decide +kernel
theorem dX6_findFar_80 : decode cX6_findFar 80 = .ok (.ifCond .eq 7, 3) := by decide +kernel
theorem dX6_findFar_83 : decode cX6_findFar 83 = .ok (.iconst 1, 1) := by decide +kernel
theorem dX6_findFar_84 : decode cX6_findFar 84 = .ok (.goto 4, 3) := by decide +kernel
theorem dX6_findFar_87 : decode cX6_findFar 87 = .ok (.iconst 0, 1) := by decide +kernel
theorem dX6_findFar_88 : decode cX6_findFar 88 = .ok (.istore_n 1, 1) := by decide +kernel
theorem dX6_findFar_89 : decode cX6_findFar 89 = .ok (.iinc 3 1, 3) := by decide +kernel
theorem dX6_findFar_92 : decode cX6_findFar 92 = .ok (.goto (-30), 3) := by decide +kernel
theorem dX6_findFar_95 : decode cX6_findFar 95 = .ok (.iinc 2 1, 3) := by decide +kernel
theorem dX6_findFar_98 : decode cX6_findFar 98 = .ok (.goto (-46), 3) := by decide +kernel
theorem dX6_findFar_101 : decode cX6_findFar 101 = .ok (.goto (-57), 3) := by decide +kernel
theorem dX6_findFar_104 : decode cX6_findFar 104 = .ok (.return_, 1) := by decide +kernel
theorem dX6_brings_0 : decode cX6_brings 0 = .ok (.aload_n 0, 1) := by decide +kernel
theorem dX6_brings_1 : decode cX6_brings 1 = .ok (.iload_n 1, 1) := by decide +kernel
theorem dX6_brings_2 : decode cX6_brings 2 = .ok (.iload_n 2, 1) := by decide +kernel
theorem dX6_brings_3 : decode cX6_brings 3 = .ok (.invokevirtual 80, 3) := by decide +kernel
theorem dX6_brings_6 : decode cX6_brings 6 = .ok (.ifCond .eq 25, 3) := by decide +kernel
theorem dX6_brings_9 : decode cX6_brings 9 = .ok (.aload_n 0, 1) := by decide +kernel
theorem dX6_brings_10 : decode cX6_brings 10 = .ok (.getfield 47, 3) := by decide +kernel
theorem dX6_brings_13 : decode cX6_brings 13 = .ok (.iload_n 2, 1) := by decide +kernel
theorem dX6_brings_14 : decode cX6_brings 14 = .ok (.iaload, 1) := by decide +kernel
theorem dX6_brings_15 : decode cX6_brings 15 = .ok (.iconst 1, 1) := by decide +kernel
theorem dX6_brings_16 : decode cX6_brings 16 = .ok (.iadd, 1) := by decide +kernel
theorem dX6_brings_17 : decode cX6_brings 17 = .ok (.aload_n 0, 1) := by decide +kernel
theorem dX6_brings_18 : decode cX6_brings 18 = .ok (.getfield 47, 3) := by decide +kernel
theorem dX6_brings_21 : decode cX6_brings 21 = .ok (.aload_n 0, 1) := by decide +kernel
theorem dX6_brings_22 : decode cX6_brings 22 = .ok (.getfield 28, 3) := by decide +kernel
theorem dX6_brings_25 : decode cX6_brings 25 = .ok (.iload_n 1, 1) := by decide +kernel
theorem dX6_brings_26 : decode cX6_brings 26 = .ok (.iaload, 1) := by decide +kernel
theorem dX6_brings_27 : decode cX6_brings 27 = .ok (.iaload, 1) := by decide +kernel
theorem dX6_brings_28 : decode cX6_brings 28 = .ok (.if_icmp .lt 5, 3) := by decide +kernel
theorem dX6_brings_31 : decode cX6_brings 31 = .ok (.iconst 0, 1) := by decide +kernel
theorem dX6_brings_32 : decode cX6_brings 32 = .ok (.ireturn, 1) := by decide +kernel
theorem dX6_brings_33 : decode cX6_brings 33 = .ok (.aload_n 0, 1) := by decide +kernel
theorem dX6_brings_34 : decode cX6_brings 34 = .ok (.getfield 47, 3) := by decide +kernel
theorem dX6_brings_37 : decode cX6_brings 37 = .ok (.aload_n 0, 1) := by decide +kernel
theorem dX6_brings_38 : decode cX6_brings 38 = .ok (.getfield 28, 3) := by decide +kernel
theorem dX6_brings_41 : decode cX6_brings 41 = .ok (.iload_n 1, 1) := by decide +kernel
theorem dX6_brings_42 : decode cX6_brings 42 = .ok (.iaload, 1) := by decide +kernel
theorem dX6_brings_43 : decode cX6_brings 43 = .ok (.aload_n 0, 1) := by decide +kernel
theorem dX6_brings_44 : decode cX6_brings 44 = .ok (.getfield 47, 3) := by decide +kernel
theorem dX6_brings_47 : decode cX6_brings 47 = .ok (.iload_n 2, 1) := by decide +kernel
theorem dX6_brings_48 : decode cX6_brings 48 = .ok (.iaload, 1) := by decide +kernel
theorem dX6_brings_49 : decode cX6_brings 49 = .ok (.iconst 1, 1) := by decide +kernel
theorem dX6_brings_50 : decode cX6_brings 50 = .ok (.iadd, 1) := by decide +kernel
theorem dX6_brings_51 : decode cX6_brings 51 = .ok (.iastore, 1) := by decide +kernel
theorem dX6_brings_52 : decode cX6_brings 52 = .ok (.iconst 1, 1) := by decide +kernel
theorem dX6_brings_53 : decode cX6_brings 53 = .ok (.ireturn, 1) := by decide +kernel
theorem dX6_canMove_0 : decode cX6_canMove 0 = .ok (.aload_n 0, 1) := by decide +kernel
theorem dX6_canMove_1 : decode cX6_canMove 1 = .ok (.getfield 25, 3) := by decide +kernel
theorem dX6_canMove_4 : decode cX6_canMove 4 = .ok (.iload_n 1, 1) := by decide +kernel
theorem dX6_canMove_5 : decode cX6_canMove 5 = .ok (.iaload, 1) := by decide +kernel
theorem dX6_canMove_6 : decode cX6_canMove 6 = .ok (.iconst 1, 1) := by decide +kernel
theorem dX6_canMove_7 : decode cX6_canMove 7 = .ok (.if_icmp .ne 39, 3) := by decide +kernel
theorem dX6_canMove_10 : decode cX6_canMove 10 = .ok (.aload_n 0, 1) := by decide +kernel
theorem dX6_canMove_11 : decode cX6_canMove 11 = .ok (.getfield 31, 3) := by decide +kernel
theorem dX6_canMove_14 : decode cX6_canMove 14 = .ok (.iload_n 1, 1) := by decide +kernel
theorem dX6_canMove_15 : decode cX6_canMove 15 = .ok (.iaload, 1) := by decide +kernel
theorem dX6_canMove_16 : decode cX6_canMove 16 = .ok (.aload_n 0, 1) := by decide +kernel
theorem dX6_canMove_17 : decode cX6_canMove 17 = .ok (.getfield 38, 3) := by decide +kernel
theorem dX6_canMove_20 : decode cX6_canMove 20 = .ok (.if_icmp .ge 26, 3) := by decide +kernel
theorem dX6_canMove_23 : decode cX6_canMove 23 = .ok (.iload_n 2, 1) := by decide +kernel
theorem dX6_canMove_24 : decode cX6_canMove 24 = .ok (.aload_n 0, 1) := by decide +kernel
theorem dX6_canMove_25 : decode cX6_canMove 25 = .ok (.getfield 28, 3) := by decide +kernel
theorem dX6_canMove_28 : decode cX6_canMove 28 = .ok (.iload_n 1, 1) := by decide +kernel
theorem dX6_canMove_29 : decode cX6_canMove 29 = .ok (.iaload, 1) := by decide +kernel
theorem dX6_canMove_30 : decode cX6_canMove 30 = .ok (.if_icmp .eq 16, 3) := by decide +kernel
theorem dX6_canMove_33 : decode cX6_canMove 33 = .ok (.aload_n 0, 1) := by decide +kernel
theorem dX6_canMove_34 : decode cX6_canMove 34 = .ok (.iload_n 1, 1) := by decide +kernel
theorem dX6_canMove_35 : decode cX6_canMove 35 = .ok (.iload_n 2, 1) := by decide +kernel
theorem dX6_canMove_36 : decode cX6_canMove 36 = .ok (.invokevirtual 83, 3) := by decide +kernel
theorem dX6_canMove_39 : decode cX6_canMove 39 = .ok (.ifCond .eq 7, 3) := by decide +kernel
theorem dX6_canMove_42 : decode cX6_canMove 42 = .ok (.iconst 1, 1) := by decide +kernel
theorem dX6_canMove_43 : decode cX6_canMove 43 = .ok (.goto 4, 3) := by decide +kernel
theorem dX6_canMove_46 : decode cX6_canMove 46 = .ok (.iconst 0, 1) := by decide +kernel
theorem dX6_canMove_47 : decode cX6_canMove 47 = .ok (.ireturn, 1) := by decide +kernel
theorem dX6_firstOf_0 : decode cX6_firstOf 0 = .ok (.aload_n 0, 1) := by decide +kernel
theorem dX6_firstOf_1 : decode cX6_firstOf 1 = .ok (.invokevirtual 86, 3) := by decide +kernel
theorem dX6_firstOf_4 : decode cX6_firstOf 4 = .ok (.iconst (-1), 1) := by decide +kernel
theorem dX6_firstOf_5 : decode cX6_firstOf 5 = .ok (.istore_n 2, 1) := by decide +kernel
theorem dX6_firstOf_6 : decode cX6_firstOf 6 = .ok (.iconst 0, 1) := by decide +kernel
theorem dX6_firstOf_7 : decode cX6_firstOf 7 = .ok (.istore_n 3, 1) := by decide +kernel
theorem dX6_firstOf_8 : decode cX6_firstOf 8 = .ok (.iload_n 3, 1) := by decide +kernel
theorem dX6_firstOf_9 : decode cX6_firstOf 9 = .ok (.aload_n 0, 1) := by decide +kernel
theorem dX6_firstOf_10 : decode cX6_firstOf 10 = .ok (.getfield 63, 3) := by decide +kernel
theorem dX6_firstOf_13 : decode cX6_firstOf 13 = .ok (.if_icmp .ge 51, 3) := by decide +kernel
theorem dX6_firstOf_16 : decode cX6_firstOf 16 = .ok (.aload_n 0, 1) := by decide +kernel
theorem dX6_firstOf_17 : decode cX6_firstOf 17 = .ok (.iload_n 1, 1) := by decide +kernel
theorem dX6_firstOf_18 : decode cX6_firstOf 18 = .ok (.iload_n 3, 1) := by decide +kernel
theorem dX6_firstOf_19 : decode cX6_firstOf 19 = .ok (.invokevirtual 83, 3) := by decide +kernel
theorem dX6_firstOf_22 : decode cX6_firstOf 22 = .ok (.ifCond .eq 36, 3) := by decide +kernel
theorem dX6_firstOf_25 : decode cX6_firstOf 25 = .ok (.aload_n 0, 1) := by decide +kernel
theorem dX6_firstOf_26 : decode cX6_firstOf 26 = .ok (.getfield 47, 3) := by decide +kernel
theorem dX6_firstOf_29 : decode cX6_firstOf 29 = .ok (.iload_n 3, 1) := by decide +kernel
theorem dX6_firstOf_30 : decode cX6_firstOf 30 = .ok (.iaload, 1) := by decide +kernel
theorem dX6_firstOf_31 : decode cX6_firstOf 31 = .ok (.bipush 100, 2) := by decide +kernel
theorem dX6_firstOf_33 : decode cX6_firstOf 33 = .ok (.if_icmp .ge 25, 3) := by decide +kernel
theorem dX6_firstOf_36 : decode cX6_firstOf 36 = .ok (.iload_n 2, 1) := by decide +kernel
theorem dX6_firstOf_37 : decode cX6_firstOf 37 = .ok (.iconst (-1), 1) := by decide +kernel
theorem dX6_firstOf_38 : decode cX6_firstOf 38 = .ok (.if_icmp .eq 18, 3) := by decide +kernel
theorem dX6_firstOf_41 : decode cX6_firstOf 41 = .ok (.aload_n 0, 1) := by decide +kernel
theorem dX6_firstOf_42 : decode cX6_firstOf 42 = .ok (.getfield 47, 3) := by decide +kernel
theorem dX6_firstOf_45 : decode cX6_firstOf 45 = .ok (.iload_n 3, 1) := by decide +kernel
theorem dX6_firstOf_46 : decode cX6_firstOf 46 = .ok (.iaload, 1) := by decide +kernel
theorem dX6_firstOf_47 : decode cX6_firstOf 47 = .ok (.aload_n 0, 1) := by decide +kernel
theorem dX6_firstOf_48 : decode cX6_firstOf 48 = .ok (.getfield 47, 3) := by decide +kernel
theorem dX6_firstOf_51 : decode cX6_firstOf 51 = .ok (.iload_n 2, 1) := by decide +kernel
theorem dX6_firstOf_52 : decode cX6_firstOf 52 = .ok (.iaload, 1) := by decide +kernel
theorem dX6_firstOf_53 : decode cX6_firstOf 53 = .ok (.if_icmp .ge 5, 3) := by decide +kernel
theorem dX6_firstOf_56 : decode cX6_firstOf 56 = .ok (.iload_n 3, 1) := by decide +kernel
theorem dX6_firstOf_57 : decode cX6_firstOf 57 = .ok (.istore_n 2, 1) := by decide +kernel
theorem dX6_firstOf_58 : decode cX6_firstOf 58 = .ok (.iinc 3 1, 3) := by decide +kernel
theorem dX6_firstOf_61 : decode cX6_firstOf 61 = .ok (.goto (-53), 3) := by decide +kernel
theorem dX6_firstOf_64 : decode cX6_firstOf 64 = .ok (.iload_n 2, 1) := by decide +kernel
theorem dX6_firstOf_65 : decode cX6_firstOf 65 = .ok (.ireturn, 1) := by decide +kernel
theorem dX6_isPlaced_0 : decode cX6_isPlaced 0 = .ok (.aload_n 0, 1) := by decide +kernel
theorem dX6_isPlaced_1 : decode cX6_isPlaced 1 = .ok (.aload_n 0, 1) := by decide +kernel
theorem dX6_isPlaced_2 : decode cX6_isPlaced 2 = .ok (.getfield 19, 3) := by decide +kernel
theorem dX6_isPlaced_5 : decode cX6_isPlaced 5 = .ok (.iload_n 1, 1) := by decide +kernel
theorem dX6_isPlaced_6 : decode cX6_isPlaced 6 = .ok (.iaload, 1) := by decide +kernel
theorem dX6_isPlaced_7 : decode cX6_isPlaced 7 = .ok (.invokevirtual 89, 3) := by decide +kernel
theorem dX6_isPlaced_10 : decode cX6_isPlaced 10 = .ok (.aload_n 0, 1) := by decide +kernel
theorem dX6_isPlaced_11 : decode cX6_isPlaced 11 = .ok (.getfield 13, 3) := by decide +kernel
theorem dX6_isPlaced_14 : decode cX6_isPlaced 14 = .ok (.aload_n 0, 1) := by decide +kernel
theorem dX6_isPlaced_15 : decode cX6_isPlaced 15 = .ok (.getfield 19, 3) := by decide +kernel
theorem dX6_isPlaced_18 : decode cX6_isPlaced 18 = .ok (.iload_n 1, 1) := by decide +kernel
theorem dX6_isPlaced_19 : decode cX6_isPlaced 19 = .ok (.iaload, 1) := by decide +kernel
theorem dX6_isPlaced_20 : decode cX6_isPlaced 20 = .ok (.iaload, 1) := by decide +kernel
theorem dX6_isPlaced_21 : decode cX6_isPlaced 21 = .ok (.if_icmp .lt 5, 3) := by decide +kernel
theorem dX6_isPlaced_24 : decode cX6_isPlaced 24 = .ok (.iconst 0, 1) := by decide +kernel
theorem dX6_isPlaced_25 : decode cX6_isPlaced 25 = .ok (.ireturn, 1) := by decide +kernel
theorem dX6_isPlaced_26 : decode cX6_isPlaced 26 = .ok (.aload_n 0, 1) := by decide +kernel
theorem dX6_isPlaced_27 : decode cX6_isPlaced 27 = .ok (.iload_n 1, 1) := by decide +kernel
theorem dX6_isPlaced_28 : decode cX6_isPlaced 28 = .ok (.invokevirtual 92, 3) := by decide +kernel
theorem dX6_isPlaced_31 : decode cX6_isPlaced 31 = .ok (.istore_n 2, 1) := by decide +kernel
theorem dX6_isPlaced_32 : decode cX6_isPlaced 32 = .ok (.iload_n 2, 1) := by decide +kernel
theorem dX6_isPlaced_33 : decode cX6_isPlaced 33 = .ok (.iconst (-1), 1) := by decide +kernel
theorem dX6_isPlaced_34 : decode cX6_isPlaced 34 = .ok (.if_icmp .eq 18, 3) := by decide +kernel
theorem dX6_isPlaced_37 : decode cX6_isPlaced 37 = .ok (.aload_n 0, 1) := by decide +kernel
theorem dX6_isPlaced_38 : decode cX6_isPlaced 38 = .ok (.getfield 47, 3) := by decide +kernel
theorem dX6_isPlaced_41 : decode cX6_isPlaced 41 = .ok (.iload_n 2, 1) := by decide +kernel
theorem dX6_isPlaced_42 : decode cX6_isPlaced 42 = .ok (.iaload, 1) := by decide +kernel
theorem dX6_isPlaced_43 : decode cX6_isPlaced 43 = .ok (.iconst 1, 1) := by decide +kernel
theorem dX6_isPlaced_44 : decode cX6_isPlaced 44 = .ok (.isub, 1) := by decide +kernel
theorem dX6_isPlaced_45 : decode cX6_isPlaced 45 = .ok (.aload_n 0, 1) := by decide +kernel
theorem dX6_isPlaced_46 : decode cX6_isPlaced 46 = .ok (.getfield 34, 3) := by decide +kernel
theorem dX6_isPlaced_49 : decode cX6_isPlaced 49 = .ok (.if_icmp .le 5, 3) := by decide +kernel
theorem dX6_isPlaced_52 : decode cX6_isPlaced 52 = .ok (.iconst 0, 1) := by decide +kernel
theorem dX6_isPlaced_53 : decode cX6_isPlaced 53 = .ok (.ireturn, 1) := by decide +kernel
theorem dX6_isPlaced_54 : decode cX6_isPlaced 54 = .ok (.iconst 0, 1) := by decide +kernel
theorem dX6_isPlaced_55 : decode cX6_isPlaced 55 = .ok (.istore_n 3, 1) := by decide +kernel
theorem dX6_isPlaced_56 : decode cX6_isPlaced 56 = .ok (.iload_n 2, 1) := by decide +kernel
theorem dX6_isPlaced_57 : decode cX6_isPlaced 57 = .ok (.istore 4, 2) := by decide +kernel
theorem dX6_isPlaced_59 : decode cX6_isPlaced 59 = .ok (.aload_n 0, 1) := by decide +kernel
theorem dX6_isPlaced_60 : decode cX6_isPlaced 60 = .ok (.getfield 47, 3) := by decide +kernel
theorem dX6_isPlaced_63 : decode cX6_isPlaced 63 = .ok (.iload 4, 2) := by decide +kernel
theorem dX6_isPlaced_65 : decode cX6_isPlaced 65 = .ok (.iaload, 1) := by decide +kernel
theorem dX6_isPlaced_66 : decode cX6_isPlaced 66 = .ok (.iconst 1, 1) := by decide +kernel
theorem dX6_isPlaced_67 : decode cX6_isPlaced 67 = .ok (.if_icmp .le 82, 3) := by decide +kernel
theorem dX6_isPlaced_70 : decode cX6_isPlaced 70 = .ok (.aload_n 0, 1) := by decide +kernel
theorem dX6_isPlaced_71 : decode cX6_isPlaced 71 = .ok (.iload 4, 2) := by decide +kernel
theorem dX6_isPlaced_73 : decode cX6_isPlaced 73 = .ok (.invokevirtual 95, 3) := by decide +kernel
theorem dX6_isPlaced_76 : decode cX6_isPlaced 76 = .ok (.istore 5, 2) := by decide +kernel
theorem dX6_isPlaced_78 : decode cX6_isPlaced 78 = .ok (.iconst 0, 1) := by decide +kernel
theorem dX6_isPlaced_79 : decode cX6_isPlaced 79 = .ok (.istore 6, 2) := by decide +kernel
theorem dX6_isPlaced_81 : decode cX6_isPlaced 81 = .ok (.aload_n 0, 1) := by decide +kernel
theorem dX6_isPlaced_82 : decode cX6_isPlaced 82 = .ok (.iload 5, 2) := by decide +kernel
theorem dX6_isPlaced_84 : decode cX6_isPlaced 84 = .ok (.iload 6, 2) := by decide +kernel
theorem dX6_isPlaced_86 : decode cX6_isPlaced 86 = .ok (.invokevirtual 80, 3) := by decide +kernel
theorem dX6_isPlaced_89 : decode cX6_isPlaced 89 = .ok (.ifCond .eq 22, 3) := by decide +kernel
theorem dX6_isPlaced_92 : decode cX6_isPlaced 92 = .ok (.aload_n 0, 1) := by decide +kernel
theorem dX6_isPlaced_93 : decode cX6_isPlaced 93 = .ok (.getfield 47, 3) := by decide +kernel
theorem dX6_isPlaced_96 : decode cX6_isPlaced 96 = .ok (.iload 6, 2) := by decide +kernel
theorem dX6_isPlaced_98 : decode cX6_isPlaced 98 = .ok (.iaload, 1) := by decide +kernel
theorem dX6_isPlaced_99 : decode cX6_isPlaced 99 = .ok (.aload_n 0, 1) := by decide +kernel
theorem dX6_isPlaced_100 : decode cX6_isPlaced 100 = .ok (.getfield 47, 3) := by decide +kernel
theorem dX6_isPlaced_103 : decode cX6_isPlaced 103 = .ok (.iload 4, 2) := by decide +kernel
theorem dX6_isPlaced_105 : decode cX6_isPlaced 105 = .ok (.iaload, 1) := by decide +kernel
theorem dX6_isPlaced_106 : decode cX6_isPlaced 106 = .ok (.iconst 1, 1) := by decide +kernel
theorem dX6_isPlaced_107 : decode cX6_isPlaced 107 = .ok (.isub, 1) := by decide +kernel
theorem dX6_isPlaced_108 : decode cX6_isPlaced 108 = .ok (.if_icmp .eq 9, 3) := by decide +kernel
theorem dX6_isPlaced_111 : decode cX6_isPlaced 111 = .ok (.iinc 6 1, 3) := by decide +kernel
theorem dX6_isPlaced_114 : decode cX6_isPlaced 114 = .ok (.goto (-33), 3) := by decide +kernel
theorem dX6_isPlaced_117 : decode cX6_isPlaced 117 = .ok (.aload_n 0, 1) := by decide +kernel
theorem dX6_isPlaced_118 : decode cX6_isPlaced 118 = .ok (.getfield 54, 3) := by decide +kernel
theorem dX6_isPlaced_121 : decode cX6_isPlaced 121 = .ok (.iload_n 3, 1) := by decide +kernel
theorem dX6_isPlaced_122 : decode cX6_isPlaced 122 = .ok (.iload 5, 2) := by decide +kernel
theorem dX6_isPlaced_124 : decode cX6_isPlaced 124 = .ok (.iastore, 1) := by decide +kernel
theorem dX6_isPlaced_125 : decode cX6_isPlaced 125 = .ok (.aload_n 0, 1) := by decide +kernel
theorem dX6_isPlaced_126 : decode cX6_isPlaced 126 = .ok (.getfield 57, 3) := by decide +kernel
theorem dX6_isPlaced_129 : decode cX6_isPlaced 129 = .ok (.iload_n 3, 1) := by decide +kernel
theorem dX6_isPlaced_130 : decode cX6_isPlaced 130 = .ok (.iload 6, 2) := by decide +kernel
theorem dX6_isPlaced_132 : decode cX6_isPlaced 132 = .ok (.iastore, 1) := by decide +kernel
theorem dX6_isPlaced_133 : decode cX6_isPlaced 133 = .ok (.iinc 3 1, 3) := by decide +kernel
theorem dX6_isPlaced_136 : decode cX6_isPlaced 136 = .ok (.aload_n 0, 1) := by decide +kernel
theorem dX6_isPlaced_137 : decode cX6_isPlaced 137 = .ok (.getfield 57, 3) := by decide +kernel
theorem dX6_isPlaced_140 : decode cX6_isPlaced 140 = .ok (.iload_n 3, 1) := by decide +kernel
theorem dX6_isPlaced_141 : decode cX6_isPlaced 141 = .ok (.iconst 1, 1) := by decide +kernel
theorem dX6_isPlaced_142 : decode cX6_isPlaced 142 = .ok (.isub, 1) := by decide +kernel
theorem dX6_isPlaced_143 : decode cX6_isPlaced 143 = .ok (.iaload, 1) := by decide +kernel
theorem dX6_isPlaced_144 : decode cX6_isPlaced 144 = .ok (.istore 4, 2) := by decide +kernel
theorem dX6_isPlaced_146 : decode cX6_isPlaced 146 = .ok (.goto (-87), 3) := by decide +kernel
theorem dX6_isPlaced_149 : decode cX6_isPlaced 149 = .ok (.iconst 0, 1) := by decide +kernel
theorem dX6_isPlaced_150 : decode cX6_isPlaced 150 = .ok (.istore 4, 2) := by decide +kernel
theorem dX6_isPlaced_152 : decode cX6_isPlaced 152 = .ok (.iload 4, 2) := by decide +kernel
theorem dX6_isPlaced_154 : decode cX6_isPlaced 154 = .ok (.iload_n 3, 1) := by decide +kernel
theorem dX6_isPlaced_155 : decode cX6_isPlaced 155 = .ok (.if_icmp .ge 27, 3) := by decide +kernel
theorem dX6_isPlaced_158 : decode cX6_isPlaced 158 = .ok (.aload_n 0, 1) := by decide +kernel
theorem dX6_isPlaced_159 : decode cX6_isPlaced 159 = .ok (.aload_n 0, 1) := by decide +kernel
theorem dX6_isPlaced_160 : decode cX6_isPlaced 160 = .ok (.getfield 54, 3) := by decide +kernel
theorem dX6_isPlaced_163 : decode cX6_isPlaced 163 = .ok (.iload 4, 2) := by decide +kernel
theorem dX6_isPlaced_165 : decode cX6_isPlaced 165 = .ok (.iaload, 1) := by decide +kernel
theorem dX6_isPlaced_166 : decode cX6_isPlaced 166 = .ok (.aload_n 0, 1) := by decide +kernel
theorem dX6_isPlaced_167 : decode cX6_isPlaced 167 = .ok (.getfield 57, 3) := by decide +kernel
theorem dX6_isPlaced_170 : decode cX6_isPlaced 170 = .ok (.iload 4, 2) := by decide +kernel
theorem dX6_isPlaced_172 : decode cX6_isPlaced 172 = .ok (.iaload, 1) := by decide +kernel
theorem dX6_isPlaced_173 : decode cX6_isPlaced 173 = .ok (.invokevirtual 98, 3) := by decide +kernel
theorem dX6_isPlaced_176 : decode cX6_isPlaced 176 = .ok (.iinc 4 1, 3) := by decide +kernel
theorem dX6_isPlaced_179 : decode cX6_isPlaced 179 = .ok (.goto (-27), 3) := by decide +kernel
theorem dX6_isPlaced_182 : decode cX6_isPlaced 182 = .ok (.aload_n 0, 1) := by decide +kernel
theorem dX6_isPlaced_183 : decode cX6_isPlaced 183 = .ok (.getfield 25, 3) := by decide +kernel
theorem dX6_isPlaced_186 : decode cX6_isPlaced 186 = .ok (.iload_n 1, 1) := by decide +kernel
theorem dX6_isPlaced_187 : decode cX6_isPlaced 187 = .ok (.iconst 1, 1) := by decide +kernel
theorem dX6_isPlaced_188 : decode cX6_isPlaced 188 = .ok (.iastore, 1) := by decide +kernel
theorem dX6_isPlaced_189 : decode cX6_isPlaced 189 = .ok (.aload_n 0, 1) := by decide +kernel
theorem dX6_isPlaced_190 : decode cX6_isPlaced 190 = .ok (.getfield 28, 3) := by decide +kernel
theorem dX6_isPlaced_193 : decode cX6_isPlaced 193 = .ok (.iload_n 1, 1) := by decide +kernel
theorem dX6_isPlaced_194 : decode cX6_isPlaced 194 = .ok (.iload_n 2, 1) := by decide +kernel
theorem dX6_isPlaced_195 : decode cX6_isPlaced 195 = .ok (.iastore, 1) := by decide +kernel
theorem dX6_isPlaced_196 : decode cX6_isPlaced 196 = .ok (.iconst 1, 1) := by decide +kernel
theorem dX6_isPlaced_197 : decode cX6_isPlaced 197 = .ok (.ireturn, 1) := by decide +kernel
theorem dX6_movedFrom_0 : decode cX6_movedFrom 0 = .ok (.iconst 0, 1) := by decide +kernel
theorem dX6_movedFrom_1 : decode cX6_movedFrom 1 = .ok (.istore_n 2, 1) := by decide +kernel
theorem dX6_movedFrom_2 : decode cX6_movedFrom 2 = .ok (.iconst 0, 1) := by decide +kernel
theorem dX6_movedFrom_3 : decode cX6_movedFrom 3 = .ok (.istore_n 3, 1) := by decide +kernel
theorem dX6_movedFrom_4 : decode cX6_movedFrom 4 = .ok (.iload_n 3, 1) := by decide +kernel
theorem dX6_movedFrom_5 : decode cX6_movedFrom 5 = .ok (.ifCond .ne 74, 3) := by decide +kernel
theorem dX6_movedFrom_8 : decode cX6_movedFrom 8 = .ok (.iconst 0, 1) := by decide +kernel
theorem dX6_movedFrom_9 : decode cX6_movedFrom 9 = .ok (.istore 4, 2) := by decide +kernel
theorem dX6_movedFrom_11 : decode cX6_movedFrom 11 = .ok (.iload 4, 2) := by decide +kernel
theorem dX6_movedFrom_13 : decode cX6_movedFrom 13 = .ok (.aload_n 0, 1) := by decide +kernel
theorem dX6_movedFrom_14 : decode cX6_movedFrom 14 = .ok (.getfield 63, 3) := by decide +kernel
theorem dX6_movedFrom_17 : decode cX6_movedFrom 17 = .ok (.if_icmp .ge 56, 3) := by decide +kernel
theorem dX6_movedFrom_20 : decode cX6_movedFrom 20 = .ok (.aload_n 0, 1) := by decide +kernel
theorem dX6_movedFrom_21 : decode cX6_movedFrom 21 = .ok (.iload_n 2, 1) := by decide +kernel
theorem dX6_movedFrom_22 : decode cX6_movedFrom 22 = .ok (.iload_n 1, 1) := by decide +kernel
theorem dX6_movedFrom_23 : decode cX6_movedFrom 23 = .ok (.invokevirtual 69, 3) := by decide +kernel
theorem dX6_movedFrom_26 : decode cX6_movedFrom 26 = .ok (.ifCond .eq 47, 3) := by decide +kernel
theorem dX6_movedFrom_29 : decode cX6_movedFrom 29 = .ok (.iload_n 3, 1) := by decide +kernel
theorem dX6_movedFrom_30 : decode cX6_movedFrom 30 = .ok (.ifCond .ne 31, 3) := by decide +kernel
theorem dX6_movedFrom_33 : decode cX6_movedFrom 33 = .ok (.aload_n 0, 1) := by decide +kernel
theorem dX6_movedFrom_34 : decode cX6_movedFrom 34 = .ok (.iload_n 2, 1) := by decide +kernel
theorem dX6_movedFrom_35 : decode cX6_movedFrom 35 = .ok (.iload 4, 2) := by decide +kernel
theorem dX6_movedFrom_37 : decode cX6_movedFrom 37 = .ok (.invokevirtual 80, 3) := by decide +kernel
theorem dX6_movedFrom_40 : decode cX6_movedFrom 40 = .ok (.ifCond .eq 25, 3) := by decide +kernel
theorem dX6_movedFrom_43 : decode cX6_movedFrom 43 = .ok (.aload_n 0, 1) := by decide +kernel
theorem dX6_movedFrom_44 : decode cX6_movedFrom 44 = .ok (.getfield 47, 3) := by decide +kernel
theorem dX6_movedFrom_47 : decode cX6_movedFrom 47 = .ok (.iload 4, 2) := by decide +kernel
theorem dX6_movedFrom_49 : decode cX6_movedFrom 49 = .ok (.iaload, 1) := by decide +kernel
theorem dX6_movedFrom_50 : decode cX6_movedFrom 50 = .ok (.aload_n 0, 1) := by decide +kernel
theorem dX6_movedFrom_51 : decode cX6_movedFrom 51 = .ok (.getfield 47, 3) := by decide +kernel
theorem dX6_movedFrom_54 : decode cX6_movedFrom 54 = .ok (.iload_n 1, 1) := by decide +kernel
theorem dX6_movedFrom_55 : decode cX6_movedFrom 55 = .ok (.iaload, 1) := by decide +kernel
theorem dX6_movedFrom_56 : decode cX6_movedFrom 56 = .ok (.iconst 1, 1) := by decide +kernel
theorem dX6_movedFrom_57 : decode cX6_movedFrom 57 = .ok (.isub, 1) := by decide +kernel
theorem dX6_movedFrom_58 : decode cX6_movedFrom 58 = .ok (.if_icmp .ne 7, 3) := by decide +kernel
theorem dX6_movedFrom_61 : decode cX6_movedFrom 61 = .ok (.iconst 1, 1) := by decide +kernel
theorem dX6_movedFrom_62 : decode cX6_movedFrom 62 = .ok (.goto 4, 3) := by decide +kernel
theorem dX6_movedFrom_65 : decode cX6_movedFrom 65 = .ok (.iconst 0, 1) := by decide +kernel
theorem dX6_movedFrom_66 : decode cX6_movedFrom 66 = .ok (.istore_n 3, 1) := by decide +kernel
theorem dX6_movedFrom_67 : decode cX6_movedFrom 67 = .ok (.iinc 4 1, 3) := by decide +kernel
theorem dX6_movedFrom_70 : decode cX6_movedFrom 70 = .ok (.goto (-59), 3) := by decide +kernel
theorem dX6_movedFrom_73 : decode cX6_movedFrom 73 = .ok (.iinc 2 1, 3) := by decide +kernel
theorem dX6_movedFrom_76 : decode cX6_movedFrom 76 = .ok (.goto (-72), 3) := by decide +kernel
theorem dX6_movedFrom_79 : decode cX6_movedFrom 79 = .ok (.iload_n 2, 1) := by decide +kernel
theorem dX6_movedFrom_80 : decode cX6_movedFrom 80 = .ok (.iconst 1, 1) := by decide +kernel
theorem dX6_movedFrom_81 : decode cX6_movedFrom 81 = .ok (.isub, 1) := by decide +kernel
theorem dX6_movedFrom_82 : decode cX6_movedFrom 82 = .ok (.ireturn, 1) := by decide +kernel
theorem dX6_log_0 : decode cX6_log 0 = .ok (.aload_n 0, 1) := by decide +kernel
theorem dX6_log_1 : decode cX6_log 1 = .ok (.getfield 28, 3) := by decide +kernel
theorem dX6_log_4 : decode cX6_log 4 = .ok (.iload_n 1, 1) := by decide +kernel
theorem dX6_log_5 : decode cX6_log 5 = .ok (.iload_n 2, 1) := by decide +kernel
theorem dX6_log_6 : decode cX6_log 6 = .ok (.iastore, 1) := by decide +kernel
theorem dX6_log_7 : decode cX6_log 7 = .ok (.aload_n 0, 1) := by decide +kernel
theorem dX6_log_8 : decode cX6_log 8 = .ok (.getfield 31, 3) := by decide +kernel
theorem dX6_log_11 : decode cX6_log 11 = .ok (.iload_n 1, 1) := by decide +kernel
theorem dX6_log_12 : decode cX6_log 12 = .ok (.dup2, 1) := by decide +kernel
theorem dX6_log_13 : decode cX6_log 13 = .ok (.iaload, 1) := by decide +kernel
theorem dX6_log_14 : decode cX6_log 14 = .ok (.iconst 1, 1) := by decide +kernel
theorem dX6_log_15 : decode cX6_log 15 = .ok (.iadd, 1) := by decide +kernel
theorem dX6_log_16 : decode cX6_log 16 = .ok (.iastore, 1) := by decide +kernel
theorem dX6_log_17 : decode cX6_log 17 = .ok (.aload_n 0, 1) := by decide +kernel
theorem dX6_log_18 : decode cX6_log 18 = .ok (.getfield 41, 3) := by decide +kernel
theorem dX6_log_21 : decode cX6_log 21 = .ok (.aload_n 0, 1) := by decide +kernel
theorem dX6_log_22 : decode cX6_log 22 = .ok (.getfield 102, 3) := by decide +kernel
theorem dX6_log_25 : decode cX6_log 25 = .ok (.iload_n 1, 1) := by decide +kernel
theorem dX6_log_26 : decode cX6_log 26 = .ok (.iastore, 1) := by decide +kernel
theorem dX6_log_27 : decode cX6_log 27 = .ok (.aload_n 0, 1) := by decide +kernel
theorem dX6_log_28 : decode cX6_log 28 = .ok (.getfield 44, 3) := by decide +kernel
theorem dX6_log_31 : decode cX6_log 31 = .ok (.aload_n 0, 1) := by decide +kernel
theorem dX6_log_32 : decode cX6_log 32 = .ok (.getfield 102, 3) := by decide +kernel
theorem dX6_log_35 : decode cX6_log 35 = .ok (.iload_n 2, 1) := by decide +kernel
theorem dX6_log_36 : decode cX6_log 36 = .ok (.iastore, 1) := by decide +kernel
theorem dX6_log_37 : decode cX6_log 37 = .ok (.aload_n 0, 1) := by decide +kernel
theorem dX6_log_38 : decode cX6_log 38 = .ok (.dup, 1) := by decide +kernel
theorem dX6_log_39 : decode cX6_log 39 = .ok (.getfield 102, 3) := by decide +kernel
theorem dX6_log_42 : decode cX6_log 42 = .ok (.iconst 1, 1) := by decide +kernel
theorem dX6_log_43 : decode cX6_log 43 = .ok (.iadd, 1) := by decide +kernel
theorem dX6_log_44 : decode cX6_log 44 = .ok (.putfield 102, 3) := by decide +kernel
theorem dX6_log_47 : decode cX6_log 47 = .ok (.return_, 1) := by decide +kernel
theorem dX6_run_0 : decode cX6_run 0 = .ok (.iconst 0, 1) := by decide +kernel
theorem dX6_run_1 : decode cX6_run 1 = .ok (.istore_n 1, 1) := by decide +kernel
theorem dX6_run_2 : decode cX6_run 2 = .ok (.iload_n 1, 1) := by decide +kernel
theorem dX6_run_3 : decode cX6_run 3 = .ok (.bipush 40, 2) := by decide +kernel
theorem dX6_run_5 : decode cX6_run 5 = .ok (.if_icmp .ge 16, 3) := by decide +kernel
theorem dX6_run_8 : decode cX6_run 8 = .ok (.aload_n 0, 1) := by decide +kernel
theorem dX6_run_9 : decode cX6_run 9 = .ok (.getfield 50, 3) := by decide +kernel
theorem dX6_run_12 : decode cX6_run 12 = .ok (.iload_n 1, 1) := by decide +kernel
theorem dX6_run_13 : decode cX6_run 13 = .ok (.iconst 0, 1) := by decide +kernel
theorem dX6_run_14 : decode cX6_run 14 = .ok (.bastore, 1) := by decide +kernel
theorem dX6_run_15 : decode cX6_run 15 = .ok (.iinc 1 1, 3) := by decide +kernel
theorem dX6_run_18 : decode cX6_run 18 = .ok (.goto (-16), 3) := by decide +kernel
theorem dX6_run_21 : decode cX6_run 21 = .ok (.iconst 0, 1) := by decide +kernel
theorem dX6_run_22 : decode cX6_run 22 = .ok (.istore_n 1, 1) := by decide +kernel
theorem dX6_run_23 : decode cX6_run 23 = .ok (.aload_n 0, 1) := by decide +kernel
end
section
theorem dX6_run_24 : decode cX6_run 24 = .ok (.invokevirtual 105, 3) := by decide +kernel
theorem dX6_run_27 : decode cX6_run 27 = .ok (.istore_n 2, 1) := by decide +kernel
theorem dX6_run_28 : decode cX6_run 28 = .ok (.iload_n 2, 1) := by decide +kernel
theorem dX6_run_29 : decode cX6_run 29 = .ok (.iconst (-1), 1) := by decide +kernel
theorem dX6_run_30 : decode cX6_run 30 = .ok (.if_icmp .eq 34, 3) := by decide +kernel
theorem dX6_run_33 : decode cX6_run 33 = .ok (.aload_n 0, 1) := by decide +kernel
theorem dX6_run_34 : decode cX6_run 34 = .ok (.getfield 50, 3) := by decide +kernel
theorem dX6_run_37 : decode cX6_run 37 = .ok (.iload_n 2, 1) := by decide +kernel
theorem dX6_run_38 : decode cX6_run 38 = .ok (.iconst 1, 1) := by decide +kernel
theorem dX6_run_39 : decode cX6_run 39 = .ok (.bastore, 1) := by decide +kernel
theorem dX6_run_40 : decode cX6_run 40 = .ok (.iload_n 1, 1) := by decide +kernel
theorem dX6_run_41 : decode cX6_run 41 = .ok (.aload_n 0, 1) := by decide +kernel
theorem dX6_run_42 : decode cX6_run 42 = .ok (.iload_n 2, 1) := by decide +kernel
theorem dX6_run_43 : decode cX6_run 43 = .ok (.invokevirtual 109, 3) := by decide +kernel
theorem dX6_run_46 : decode cX6_run 46 = .ok (.ifCond .eq 7, 3) := by decide +kernel
theorem dX6_run_49 : decode cX6_run 49 = .ok (.iconst 1, 1) := by decide +kernel
theorem dX6_run_50 : decode cX6_run 50 = .ok (.goto 4, 3) := by decide +kernel
theorem dX6_run_53 : decode cX6_run 53 = .ok (.iconst 0, 1) := by decide +kernel
theorem dX6_run_54 : decode cX6_run 54 = .ok (.iadd, 1) := by decide +kernel
theorem dX6_run_55 : decode cX6_run 55 = .ok (.istore_n 1, 1) := by decide +kernel
theorem dX6_run_56 : decode cX6_run 56 = .ok (.aload_n 0, 1) := by decide +kernel
theorem dX6_run_57 : decode cX6_run 57 = .ok (.invokevirtual 105, 3) := by decide +kernel
theorem dX6_run_60 : decode cX6_run 60 = .ok (.istore_n 2, 1) := by decide +kernel
theorem dX6_run_61 : decode cX6_run 61 = .ok (.goto (-33), 3) := by decide +kernel
theorem dX6_run_64 : decode cX6_run 64 = .ok (.iload_n 1, 1) := by decide +kernel
theorem dX6_run_65 : decode cX6_run 65 = .ok (.ireturn, 1) := by decide +kernel
theorem dX6_next_0 : decode cX6_next 0 = .ok (.iconst (-1), 1) := by decide +kernel
theorem dX6_next_1 : decode cX6_next 1 = .ok (.istore_n 1, 1) := by decide +kernel
theorem dX6_next_2 : decode cX6_next 2 = .ok (.iconst 0, 1) := by decide +kernel
theorem dX6_next_3 : decode cX6_next 3 = .ok (.istore_n 2, 1) := by decide +kernel
theorem dX6_next_4 : decode cX6_next 4 = .ok (.iload_n 2, 1) := by decide +kernel
theorem dX6_next_5 : decode cX6_next 5 = .ok (.iconst 4, 1) := by decide +kernel
theorem dX6_next_6 : decode cX6_next 6 = .ok (.if_icmp .ge 67, 3) := by decide +kernel
theorem dX6_next_9 : decode cX6_next 9 = .ok (.aload_n 0, 1) := by decide +kernel
theorem dX6_next_10 : decode cX6_next 10 = .ok (.iload_n 2, 1) := by decide +kernel
theorem dX6_next_11 : decode cX6_next 11 = .ok (.invokevirtual 113, 3) := by decide +kernel
theorem dX6_next_14 : decode cX6_next 14 = .ok (.istore_n 3, 1) := by decide +kernel
theorem dX6_next_15 : decode cX6_next 15 = .ok (.iload_n 3, 1) := by decide +kernel
theorem dX6_next_16 : decode cX6_next 16 = .ok (.iconst (-1), 1) := by decide +kernel
theorem dX6_next_17 : decode cX6_next 17 = .ok (.if_icmp .eq 50, 3) := by decide +kernel
theorem dX6_next_20 : decode cX6_next 20 = .ok (.iload_n 1, 1) := by decide +kernel
theorem dX6_next_21 : decode cX6_next 21 = .ok (.iconst (-1), 1) := by decide +kernel
theorem dX6_next_22 : decode cX6_next 22 = .ok (.if_icmp .eq 43, 3) := by decide +kernel
theorem dX6_next_25 : decode cX6_next 25 = .ok (.aload_n 0, 1) := by decide +kernel
theorem dX6_next_26 : decode cX6_next 26 = .ok (.iload_n 2, 1) := by decide +kernel
theorem dX6_next_27 : decode cX6_next 27 = .ok (.invokevirtual 89, 3) := by decide +kernel
theorem dX6_next_30 : decode cX6_next 30 = .ok (.aload_n 0, 1) := by decide +kernel
theorem dX6_next_31 : decode cX6_next 31 = .ok (.getfield 16, 3) := by decide +kernel
theorem dX6_next_34 : decode cX6_next 34 = .ok (.aload_n 0, 1) := by decide +kernel
theorem dX6_next_35 : decode cX6_next 35 = .ok (.getfield 19, 3) := by decide +kernel
theorem dX6_next_38 : decode cX6_next 38 = .ok (.iload_n 1, 1) := by decide +kernel
theorem dX6_next_39 : decode cX6_next 39 = .ok (.iaload, 1) := by decide +kernel
theorem dX6_next_40 : decode cX6_next 40 = .ok (.iaload, 1) := by decide +kernel
theorem dX6_next_41 : decode cX6_next 41 = .ok (.imul, 1) := by decide +kernel
theorem dX6_next_42 : decode cX6_next 42 = .ok (.aload_n 0, 1) := by decide +kernel
theorem dX6_next_43 : decode cX6_next 43 = .ok (.aload_n 0, 1) := by decide +kernel
theorem dX6_next_44 : decode cX6_next 44 = .ok (.getfield 19, 3) := by decide +kernel
theorem dX6_next_47 : decode cX6_next 47 = .ok (.iload_n 1, 1) := by decide +kernel
theorem dX6_next_48 : decode cX6_next 48 = .ok (.iaload, 1) := by decide +kernel
theorem dX6_next_49 : decode cX6_next 49 = .ok (.invokevirtual 89, 3) := by decide +kernel
theorem dX6_next_52 : decode cX6_next 52 = .ok (.aload_n 0, 1) := by decide +kernel
theorem dX6_next_53 : decode cX6_next 53 = .ok (.getfield 16, 3) := by decide +kernel
theorem dX6_next_56 : decode cX6_next 56 = .ok (.iload_n 2, 1) := by decide +kernel
theorem dX6_next_57 : decode cX6_next 57 = .ok (.iaload, 1) := by decide +kernel
theorem dX6_next_58 : decode cX6_next 58 = .ok (.imul, 1) := by decide +kernel
theorem dX6_next_59 : decode cX6_next 59 = .ok (.if_icmp .lt 6, 3) := by decide +kernel
theorem dX6_next_62 : decode cX6_next 62 = .ok (.goto 5, 3) := by decide +kernel
theorem dX6_next_65 : decode cX6_next 65 = .ok (.iload_n 3, 1) := by decide +kernel
theorem dX6_next_66 : decode cX6_next 66 = .ok (.istore_n 1, 1) := by decide +kernel
theorem dX6_next_67 : decode cX6_next 67 = .ok (.iinc 2 1, 3) := by decide +kernel
theorem dX6_next_70 : decode cX6_next 70 = .ok (.goto (-66), 3) := by decide +kernel
theorem dX6_next_73 : decode cX6_next 73 = .ok (.iload_n 1, 1) := by decide +kernel
theorem dX6_next_74 : decode cX6_next 74 = .ok (.ireturn, 1) := by decide +kernel
theorem dX6_firstIn_0 : decode cX6_firstIn 0 = .ok (.iconst 0, 1) := by decide +kernel
theorem dX6_firstIn_1 : decode cX6_firstIn 1 = .ok (.istore_n 2, 1) := by decide +kernel
theorem dX6_firstIn_2 : decode cX6_firstIn 2 = .ok (.iload_n 2, 1) := by decide +kernel
theorem dX6_firstIn_3 : decode cX6_firstIn 3 = .ok (.aload_n 0, 1) := by decide +kernel
theorem dX6_firstIn_4 : decode cX6_firstIn 4 = .ok (.getfield 66, 3) := by decide +kernel
theorem dX6_firstIn_7 : decode cX6_firstIn 7 = .ok (.if_icmp .ge 39, 3) := by decide +kernel
theorem dX6_firstIn_10 : decode cX6_firstIn 10 = .ok (.aload_n 0, 1) := by decide +kernel
theorem dX6_firstIn_11 : decode cX6_firstIn 11 = .ok (.getfield 19, 3) := by decide +kernel
theorem dX6_firstIn_14 : decode cX6_firstIn 14 = .ok (.iload_n 2, 1) := by decide +kernel
theorem dX6_firstIn_15 : decode cX6_firstIn 15 = .ok (.iaload, 1) := by decide +kernel
theorem dX6_firstIn_16 : decode cX6_firstIn 16 = .ok (.iload_n 1, 1) := by decide +kernel
theorem dX6_firstIn_17 : decode cX6_firstIn 17 = .ok (.if_icmp .ne 23, 3) := by decide +kernel
theorem dX6_firstIn_20 : decode cX6_firstIn 20 = .ok (.aload_n 0, 1) := by decide +kernel
theorem dX6_firstIn_21 : decode cX6_firstIn 21 = .ok (.getfield 25, 3) := by decide +kernel
theorem dX6_firstIn_24 : decode cX6_firstIn 24 = .ok (.iload_n 2, 1) := by decide +kernel
theorem dX6_firstIn_25 : decode cX6_firstIn 25 = .ok (.iaload, 1) := by decide +kernel
theorem dX6_firstIn_26 : decode cX6_firstIn 26 = .ok (.ifCond .ne 14, 3) := by decide +kernel
theorem dX6_firstIn_29 : decode cX6_firstIn 29 = .ok (.aload_n 0, 1) := by decide +kernel
theorem dX6_firstIn_30 : decode cX6_firstIn 30 = .ok (.getfield 50, 3) := by decide +kernel
theorem dX6_firstIn_33 : decode cX6_firstIn 33 = .ok (.iload_n 2, 1) := by decide +kernel
theorem dX6_firstIn_34 : decode cX6_firstIn 34 = .ok (.baload, 1) := by decide +kernel
theorem dX6_firstIn_35 : decode cX6_firstIn 35 = .ok (.ifCond .ne 5, 3) := by decide +kernel
theorem dX6_firstIn_38 : decode cX6_firstIn 38 = .ok (.iload_n 2, 1) := by decide +kernel
theorem dX6_firstIn_39 : decode cX6_firstIn 39 = .ok (.ireturn, 1) := by decide +kernel
theorem dX6_firstIn_40 : decode cX6_firstIn 40 = .ok (.iinc 2 1, 3) := by decide +kernel
theorem dX6_firstIn_43 : decode cX6_firstIn 43 = .ok (.goto (-41), 3) := by decide +kernel
theorem dX6_firstIn_46 : decode cX6_firstIn 46 = .ok (.iconst (-1), 1) := by decide +kernel
theorem dX6_firstIn_47 : decode cX6_firstIn 47 = .ok (.ireturn, 1) := by decide +kernel
theorem dX6_addResource_0 : decode cX6_addResource 0 = .ok (.aload_n 0, 1) := by decide +kernel
theorem dX6_addResource_1 : decode cX6_addResource 1 = .ok (.iconst 0, 1) := by decide +kernel
theorem dX6_addResource_2 : decode cX6_addResource 2 = .ok (.putfield 60, 3) := by decide +kernel
theorem dX6_addResource_5 : decode cX6_addResource 5 = .ok (.iload_n 1, 1) := by decide +kernel
theorem dX6_addResource_6 : decode cX6_addResource 6 = .ok (.ifCond .lt 8, 3) := by decide +kernel
theorem dX6_addResource_9 : decode cX6_addResource 9 = .ok (.iload_n 1, 1) := by decide +kernel
theorem dX6_addResource_10 : decode cX6_addResource 10 = .ok (.iconst 4, 1) := by decide +kernel
theorem dX6_addResource_11 : decode cX6_addResource 11 = .ok (.if_icmp .le 9, 3) := by decide +kernel
theorem dX6_addResource_14 : decode cX6_addResource 14 = .ok (.aload_n 0, 1) := by decide +kernel
theorem dX6_addResource_15 : decode cX6_addResource 15 = .ok (.iconst 1, 1) := by decide +kernel
theorem dX6_addResource_16 : decode cX6_addResource 16 = .ok (.invokevirtual 116, 3) := by decide +kernel
theorem dX6_addResource_19 : decode cX6_addResource 19 = .ok (.ireturn, 1) := by decide +kernel
theorem dX6_addResource_20 : decode cX6_addResource 20 = .ok (.aload_n 0, 1) := by decide +kernel
theorem dX6_addResource_21 : decode cX6_addResource 21 = .ok (.getfield 63, 3) := by decide +kernel
theorem dX6_addResource_24 : decode cX6_addResource 24 = .ok (.bipush 12, 2) := by decide +kernel
theorem dX6_addResource_26 : decode cX6_addResource 26 = .ok (.if_icmp .ne 9, 3) := by decide +kernel
theorem dX6_addResource_29 : decode cX6_addResource 29 = .ok (.aload_n 0, 1) := by decide +kernel
theorem dX6_addResource_30 : decode cX6_addResource 30 = .ok (.iconst 2, 1) := by decide +kernel
theorem dX6_addResource_31 : decode cX6_addResource 31 = .ok (.invokevirtual 116, 3) := by decide +kernel
theorem dX6_addResource_34 : decode cX6_addResource 34 = .ok (.ireturn, 1) := by decide +kernel
theorem dX6_addResource_35 : decode cX6_addResource 35 = .ok (.aload_n 0, 1) := by decide +kernel
theorem dX6_addResource_36 : decode cX6_addResource 36 = .ok (.iconst 0, 1) := by decide +kernel
theorem dX6_addResource_37 : decode cX6_addResource 37 = .ok (.putfield 102, 3) := by decide +kernel
theorem dX6_addResource_40 : decode cX6_addResource 40 = .ok (.aload_n 0, 1) := by decide +kernel
theorem dX6_addResource_41 : decode cX6_addResource 41 = .ok (.getfield 9, 3) := by decide +kernel
theorem dX6_addResource_44 : decode cX6_addResource 44 = .ok (.aload_n 0, 1) := by decide +kernel
theorem dX6_addResource_45 : decode cX6_addResource 45 = .ok (.getfield 63, 3) := by decide +kernel
theorem dX6_addResource_48 : decode cX6_addResource 48 = .ok (.iload_n 1, 1) := by decide +kernel
theorem dX6_addResource_49 : decode cX6_addResource 49 = .ok (.iastore, 1) := by decide +kernel
theorem dX6_addResource_50 : decode cX6_addResource 50 = .ok (.aload_n 0, 1) := by decide +kernel
theorem dX6_addResource_51 : decode cX6_addResource 51 = .ok (.dup, 1) := by decide +kernel
theorem dX6_addResource_52 : decode cX6_addResource 52 = .ok (.getfield 63, 3) := by decide +kernel
theorem dX6_addResource_55 : decode cX6_addResource 55 = .ok (.iconst 1, 1) := by decide +kernel
theorem dX6_addResource_56 : decode cX6_addResource 56 = .ok (.iadd, 1) := by decide +kernel
theorem dX6_addResource_57 : decode cX6_addResource 57 = .ok (.putfield 63, 3) := by decide +kernel
theorem dX6_addResource_60 : decode cX6_addResource 60 = .ok (.aload_n 0, 1) := by decide +kernel
theorem dX6_addResource_61 : decode cX6_addResource 61 = .ok (.invokevirtual 119, 3) := by decide +kernel
theorem dX6_addResource_64 : decode cX6_addResource 64 = .ok (.ifCond .ge 7, 3) := by decide +kernel
theorem dX6_addResource_67 : decode cX6_addResource 67 = .ok (.iconst (-1), 1) := by decide +kernel
theorem dX6_addResource_68 : decode cX6_addResource 68 = .ok (.goto 9, 3) := by decide +kernel
theorem dX6_addResource_71 : decode cX6_addResource 71 = .ok (.aload_n 0, 1) := by decide +kernel
theorem dX6_addResource_72 : decode cX6_addResource 72 = .ok (.getfield 63, 3) := by decide +kernel
theorem dX6_addResource_75 : decode cX6_addResource 75 = .ok (.iconst 1, 1) := by decide +kernel
theorem dX6_addResource_76 : decode cX6_addResource 76 = .ok (.isub, 1) := by decide +kernel
theorem dX6_addResource_77 : decode cX6_addResource 77 = .ok (.ireturn, 1) := by decide +kernel
theorem dX6_setCapacity_0 : decode cX6_setCapacity 0 = .ok (.aload_n 0, 1) := by decide +kernel
theorem dX6_setCapacity_1 : decode cX6_setCapacity 1 = .ok (.iconst 0, 1) := by decide +kernel
theorem dX6_setCapacity_2 : decode cX6_setCapacity 2 = .ok (.putfield 60, 3) := by decide +kernel
theorem dX6_setCapacity_5 : decode cX6_setCapacity 5 = .ok (.aload_n 0, 1) := by decide +kernel
theorem dX6_setCapacity_6 : decode cX6_setCapacity 6 = .ok (.iload_n 1, 1) := by decide +kernel
theorem dX6_setCapacity_7 : decode cX6_setCapacity 7 = .ok (.invokevirtual 122, 3) := by decide +kernel
theorem dX6_setCapacity_10 : decode cX6_setCapacity 10 = .ok (.ifCond .ne 9, 3) := by decide +kernel
theorem dX6_setCapacity_13 : decode cX6_setCapacity 13 = .ok (.aload_n 0, 1) := by decide +kernel
theorem dX6_setCapacity_14 : decode cX6_setCapacity 14 = .ok (.iconst 1, 1) := by decide +kernel
theorem dX6_setCapacity_15 : decode cX6_setCapacity 15 = .ok (.invokevirtual 116, 3) := by decide +kernel
theorem dX6_setCapacity_18 : decode cX6_setCapacity 18 = .ok (.ireturn, 1) := by decide +kernel
theorem dX6_setCapacity_19 : decode cX6_setCapacity 19 = .ok (.iload_n 2, 1) := by decide +kernel
theorem dX6_setCapacity_20 : decode cX6_setCapacity 20 = .ok (.ifCond .lt 8, 3) := by decide +kernel
theorem dX6_setCapacity_23 : decode cX6_setCapacity 23 = .ok (.iload_n 2, 1) := by decide +kernel
theorem dX6_setCapacity_24 : decode cX6_setCapacity 24 = .ok (.iconst 4, 1) := by decide +kernel
theorem dX6_setCapacity_25 : decode cX6_setCapacity 25 = .ok (.if_icmp .le 9, 3) := by decide +kernel
theorem dX6_setCapacity_28 : decode cX6_setCapacity 28 = .ok (.aload_n 0, 1) := by decide +kernel
theorem dX6_setCapacity_29 : decode cX6_setCapacity 29 = .ok (.iconst 2, 1) := by decide +kernel
theorem dX6_setCapacity_30 : decode cX6_setCapacity 30 = .ok (.invokevirtual 116, 3) := by decide +kernel
theorem dX6_setCapacity_33 : decode cX6_setCapacity 33 = .ok (.ireturn, 1) := by decide +kernel
theorem dX6_setCapacity_34 : decode cX6_setCapacity 34 = .ok (.aload_n 0, 1) := by decide +kernel
theorem dX6_setCapacity_35 : decode cX6_setCapacity 35 = .ok (.iconst 0, 1) := by decide +kernel
theorem dX6_setCapacity_36 : decode cX6_setCapacity 36 = .ok (.putfield 102, 3) := by decide +kernel
theorem dX6_setCapacity_39 : decode cX6_setCapacity 39 = .ok (.aload_n 0, 1) := by decide +kernel
theorem dX6_setCapacity_40 : decode cX6_setCapacity 40 = .ok (.getfield 9, 3) := by decide +kernel
theorem dX6_setCapacity_43 : decode cX6_setCapacity 43 = .ok (.iload_n 1, 1) := by decide +kernel
theorem dX6_setCapacity_44 : decode cX6_setCapacity 44 = .ok (.iload_n 2, 1) := by decide +kernel
theorem dX6_setCapacity_45 : decode cX6_setCapacity 45 = .ok (.iastore, 1) := by decide +kernel
theorem dX6_setCapacity_46 : decode cX6_setCapacity 46 = .ok (.iconst 0, 1) := by decide +kernel
theorem dX6_setCapacity_47 : decode cX6_setCapacity 47 = .ok (.istore_n 3, 1) := by decide +kernel
theorem dX6_setCapacity_48 : decode cX6_setCapacity 48 = .ok (.aload_n 0, 1) := by decide +kernel
theorem dX6_setCapacity_49 : decode cX6_setCapacity 49 = .ok (.getfield 66, 3) := by decide +kernel
theorem dX6_setCapacity_52 : decode cX6_setCapacity 52 = .ok (.iconst 1, 1) := by decide +kernel
theorem dX6_setCapacity_53 : decode cX6_setCapacity 53 = .ok (.isub, 1) := by decide +kernel
theorem dX6_setCapacity_54 : decode cX6_setCapacity 54 = .ok (.istore 4, 2) := by decide +kernel
theorem dX6_setCapacity_56 : decode cX6_setCapacity 56 = .ok (.iload 4, 2) := by decide +kernel
theorem dX6_setCapacity_58 : decode cX6_setCapacity 58 = .ok (.ifCond .lt 42, 3) := by decide +kernel
theorem dX6_setCapacity_61 : decode cX6_setCapacity 61 = .ok (.aload_n 0, 1) := by decide +kernel
theorem dX6_setCapacity_62 : decode cX6_setCapacity 62 = .ok (.iload 4, 2) := by decide +kernel
theorem dX6_setCapacity_64 : decode cX6_setCapacity 64 = .ok (.iload_n 1, 1) := by decide +kernel
theorem dX6_setCapacity_65 : decode cX6_setCapacity 65 = .ok (.invokevirtual 69, 3) := by decide +kernel
theorem dX6_setCapacity_68 : decode cX6_setCapacity 68 = .ok (.ifCond .eq 26, 3) := by decide +kernel
theorem dX6_setCapacity_71 : decode cX6_setCapacity 71 = .ok (.aload_n 0, 1) := by decide +kernel
theorem dX6_setCapacity_72 : decode cX6_setCapacity 72 = .ok (.iload_n 1, 1) := by decide +kernel
theorem dX6_setCapacity_73 : decode cX6_setCapacity 73 = .ok (.invokevirtual 73, 3) := by decide +kernel
theorem dX6_setCapacity_76 : decode cX6_setCapacity 76 = .ok (.iload_n 2, 1) := by decide +kernel
theorem dX6_setCapacity_77 : decode cX6_setCapacity 77 = .ok (.if_icmp .gt 6, 3) := by decide +kernel
theorem dX6_setCapacity_80 : decode cX6_setCapacity 80 = .ok (.goto 14, 3) := by decide +kernel
theorem dX6_setCapacity_83 : decode cX6_setCapacity 83 = .ok (.aload_n 0, 1) := by decide +kernel
theorem dX6_setCapacity_84 : decode cX6_setCapacity 84 = .ok (.getfield 25, 3) := by decide +kernel
theorem dX6_setCapacity_87 : decode cX6_setCapacity 87 = .ok (.iload 4, 2) := by decide +kernel
theorem dX6_setCapacity_89 : decode cX6_setCapacity 89 = .ok (.iconst 0, 1) := by decide +kernel
theorem dX6_setCapacity_90 : decode cX6_setCapacity 90 = .ok (.iastore, 1) := by decide +kernel
theorem dX6_setCapacity_91 : decode cX6_setCapacity 91 = .ok (.iinc 3 1, 3) := by decide +kernel
theorem dX6_setCapacity_94 : decode cX6_setCapacity 94 = .ok (.iinc 4 (-1), 3) := by decide +kernel
theorem dX6_setCapacity_97 : decode cX6_setCapacity 97 = .ok (.goto (-41), 3) := by decide +kernel
theorem dX6_setCapacity_100 : decode cX6_setCapacity 100 = .ok (.aload_n 0, 1) := by decide +kernel
theorem dX6_setCapacity_101 : decode cX6_setCapacity 101 = .ok (.invokevirtual 119, 3) := by decide +kernel
theorem dX6_setCapacity_104 : decode cX6_setCapacity 104 = .ok (.ifCond .ge 7, 3) := by decide +kernel
theorem dX6_setCapacity_107 : decode cX6_setCapacity 107 = .ok (.iconst (-1), 1) := by decide +kernel
theorem dX6_setCapacity_108 : decode cX6_setCapacity 108 = .ok (.goto 4, 3) := by decide +kernel
theorem dX6_setCapacity_111 : decode cX6_setCapacity 111 = .ok (.iload_n 3, 1) := by decide +kernel
theorem dX6_setCapacity_112 : decode cX6_setCapacity 112 = .ok (.ireturn, 1) := by decide +kernel
theorem dX6_setGroup_0 : decode cX6_setGroup 0 = .ok (.aload_n 0, 1) := by decide +kernel
theorem dX6_setGroup_1 : decode cX6_setGroup 1 = .ok (.iconst 0, 1) := by decide +kernel
theorem dX6_setGroup_2 : decode cX6_setGroup 2 = .ok (.putfield 60, 3) := by decide +kernel
theorem dX6_setGroup_5 : decode cX6_setGroup 5 = .ok (.iload_n 1, 1) := by decide +kernel
theorem dX6_setGroup_6 : decode cX6_setGroup 6 = .ok (.invokestatic 125, 3) := by decide +kernel
theorem dX6_setGroup_9 : decode cX6_setGroup 9 = .ok (.ifCond .ne 9, 3) := by decide +kernel
theorem dX6_setGroup_12 : decode cX6_setGroup 12 = .ok (.aload_n 0, 1) := by decide +kernel
theorem dX6_setGroup_13 : decode cX6_setGroup 13 = .ok (.iconst 1, 1) := by decide +kernel
theorem dX6_setGroup_14 : decode cX6_setGroup 14 = .ok (.invokevirtual 116, 3) := by decide +kernel
theorem dX6_setGroup_17 : decode cX6_setGroup 17 = .ok (.ireturn, 1) := by decide +kernel
theorem dX6_setGroup_18 : decode cX6_setGroup 18 = .ok (.iload_n 2, 1) := by decide +kernel
theorem dX6_setGroup_19 : decode cX6_setGroup 19 = .ok (.ifCond .lt 20, 3) := by decide +kernel
theorem dX6_setGroup_22 : decode cX6_setGroup 22 = .ok (.iload_n 2, 1) := by decide +kernel
theorem dX6_setGroup_23 : decode cX6_setGroup 23 = .ok (.bipush 40, 2) := by decide +kernel
theorem dX6_setGroup_25 : decode cX6_setGroup 25 = .ok (.if_icmp .gt 14, 3) := by decide +kernel
theorem dX6_setGroup_28 : decode cX6_setGroup 28 = .ok (.iload_n 3, 1) := by decide +kernel
theorem dX6_setGroup_29 : decode cX6_setGroup 29 = .ok (.iconst 1, 1) := by decide +kernel
theorem dX6_setGroup_30 : decode cX6_setGroup 30 = .ok (.if_icmp .lt 9, 3) := by decide +kernel
theorem dX6_setGroup_33 : decode cX6_setGroup 33 = .ok (.iload_n 3, 1) := by decide +kernel
theorem dX6_setGroup_34 : decode cX6_setGroup 34 = .ok (.bipush 10, 2) := by decide +kernel
theorem dX6_setGroup_36 : decode cX6_setGroup 36 = .ok (.if_icmp .le 9, 3) := by decide +kernel
theorem dX6_setGroup_39 : decode cX6_setGroup 39 = .ok (.aload_n 0, 1) := by decide +kernel
theorem dX6_setGroup_40 : decode cX6_setGroup 40 = .ok (.iconst 2, 1) := by decide +kernel
theorem dX6_setGroup_41 : decode cX6_setGroup 41 = .ok (.invokevirtual 116, 3) := by decide +kernel
theorem dX6_setGroup_44 : decode cX6_setGroup 44 = .ok (.ireturn, 1) := by decide +kernel
theorem dX6_setGroup_45 : decode cX6_setGroup 45 = .ok (.aload_n 0, 1) := by decide +kernel
theorem dX6_setGroup_46 : decode cX6_setGroup 46 = .ok (.iconst 0, 1) := by decide +kernel
theorem dX6_setGroup_47 : decode cX6_setGroup 47 = .ok (.putfield 102, 3) := by decide +kernel
theorem dX6_setGroup_50 : decode cX6_setGroup 50 = .ok (.aload_n 0, 1) := by decide +kernel
theorem dX6_setGroup_51 : decode cX6_setGroup 51 = .ok (.getfield 13, 3) := by decide +kernel
theorem dX6_setGroup_54 : decode cX6_setGroup 54 = .ok (.iload_n 1, 1) := by decide +kernel
theorem dX6_setGroup_55 : decode cX6_setGroup 55 = .ok (.iload_n 2, 1) := by decide +kernel
theorem dX6_setGroup_56 : decode cX6_setGroup 56 = .ok (.iastore, 1) := by decide +kernel
theorem dX6_setGroup_57 : decode cX6_setGroup 57 = .ok (.aload_n 0, 1) := by decide +kernel
theorem dX6_setGroup_58 : decode cX6_setGroup 58 = .ok (.getfield 16, 3) := by decide +kernel
theorem dX6_setGroup_61 : decode cX6_setGroup 61 = .ok (.iload_n 1, 1) := by decide +kernel
theorem dX6_setGroup_62 : decode cX6_setGroup 62 = .ok (.iload_n 3, 1) := by decide +kernel
theorem dX6_setGroup_63 : decode cX6_setGroup 63 = .ok (.iastore, 1) := by decide +kernel
theorem dX6_setGroup_64 : decode cX6_setGroup 64 = .ok (.iconst 0, 1) := by decide +kernel
theorem dX6_setGroup_65 : decode cX6_setGroup 65 = .ok (.istore 4, 2) := by decide +kernel
theorem dX6_setGroup_67 : decode cX6_setGroup 67 = .ok (.aload_n 0, 1) := by decide +kernel
theorem dX6_setGroup_68 : decode cX6_setGroup 68 = .ok (.getfield 66, 3) := by decide +kernel
theorem dX6_setGroup_71 : decode cX6_setGroup 71 = .ok (.iconst 1, 1) := by decide +kernel
theorem dX6_setGroup_72 : decode cX6_setGroup 72 = .ok (.isub, 1) := by decide +kernel
theorem dX6_setGroup_73 : decode cX6_setGroup 73 = .ok (.istore 5, 2) := by decide +kernel
theorem dX6_setGroup_75 : decode cX6_setGroup 75 = .ok (.iload 5, 2) := by decide +kernel
theorem dX6_setGroup_77 : decode cX6_setGroup 77 = .ok (.ifCond .lt 54, 3) := by decide +kernel
theorem dX6_setGroup_80 : decode cX6_setGroup 80 = .ok (.aload_n 0, 1) := by decide +kernel
theorem dX6_setGroup_81 : decode cX6_setGroup 81 = .ok (.getfield 25, 3) := by decide +kernel
theorem dX6_setGroup_84 : decode cX6_setGroup 84 = .ok (.iload 5, 2) := by decide +kernel
theorem dX6_setGroup_86 : decode cX6_setGroup 86 = .ok (.iaload, 1) := by decide +kernel
theorem dX6_setGroup_87 : decode cX6_setGroup 87 = .ok (.iconst 1, 1) := by decide +kernel
theorem dX6_setGroup_88 : decode cX6_setGroup 88 = .ok (.if_icmp .ne 37, 3) := by decide +kernel
theorem dX6_setGroup_91 : decode cX6_setGroup 91 = .ok (.aload_n 0, 1) := by decide +kernel
theorem dX6_setGroup_92 : decode cX6_setGroup 92 = .ok (.getfield 19, 3) := by decide +kernel
theorem dX6_setGroup_95 : decode cX6_setGroup 95 = .ok (.iload 5, 2) := by decide +kernel
theorem dX6_setGroup_97 : decode cX6_setGroup 97 = .ok (.iaload, 1) := by decide +kernel
theorem dX6_setGroup_98 : decode cX6_setGroup 98 = .ok (.iload_n 1, 1) := by decide +kernel
theorem dX6_setGroup_99 : decode cX6_setGroup 99 = .ok (.if_icmp .ne 26, 3) := by decide +kernel
theorem dX6_setGroup_102 : decode cX6_setGroup 102 = .ok (.aload_n 0, 1) := by decide +kernel
theorem dX6_setGroup_103 : decode cX6_setGroup 103 = .ok (.iload_n 1, 1) := by decide +kernel
theorem dX6_setGroup_104 : decode cX6_setGroup 104 = .ok (.invokevirtual 89, 3) := by decide +kernel
theorem dX6_setGroup_107 : decode cX6_setGroup 107 = .ok (.iload_n 2, 1) := by decide +kernel
theorem dX6_setGroup_108 : decode cX6_setGroup 108 = .ok (.if_icmp .gt 6, 3) := by decide +kernel
theorem dX6_setGroup_111 : decode cX6_setGroup 111 = .ok (.goto 14, 3) := by decide +kernel
theorem dX6_setGroup_114 : decode cX6_setGroup 114 = .ok (.aload_n 0, 1) := by decide +kernel
theorem dX6_setGroup_115 : decode cX6_setGroup 115 = .ok (.getfield 25, 3) := by decide +kernel
theorem dX6_setGroup_118 : decode cX6_setGroup 118 = .ok (.iload 5, 2) := by decide +kernel
theorem dX6_setGroup_120 : decode cX6_setGroup 120 = .ok (.iconst 0, 1) := by decide +kernel
theorem dX6_setGroup_121 : decode cX6_setGroup 121 = .ok (.iastore, 1) := by decide +kernel
theorem dX6_setGroup_122 : decode cX6_setGroup 122 = .ok (.iinc 4 1, 3) := by decide +kernel
theorem dX6_setGroup_125 : decode cX6_setGroup 125 = .ok (.iinc 5 (-1), 3) := by decide +kernel
theorem dX6_setGroup_128 : decode cX6_setGroup 128 = .ok (.goto (-53), 3) := by decide +kernel
theorem dX6_setGroup_131 : decode cX6_setGroup 131 = .ok (.aload_n 0, 1) := by decide +kernel
theorem dX6_setGroup_132 : decode cX6_setGroup 132 = .ok (.invokevirtual 119, 3) := by decide +kernel
theorem dX6_setGroup_135 : decode cX6_setGroup 135 = .ok (.ifCond .ge 7, 3) := by decide +kernel
theorem dX6_setGroup_138 : decode cX6_setGroup 138 = .ok (.iconst (-1), 1) := by decide +kernel
theorem dX6_setGroup_139 : decode cX6_setGroup 139 = .ok (.goto 5, 3) := by decide +kernel
theorem dX6_setGroup_142 : decode cX6_setGroup 142 = .ok (.iload 4, 2) := by decide +kernel
theorem dX6_setGroup_144 : decode cX6_setGroup 144 = .ok (.ireturn, 1) := by decide +kernel
theorem dX6_setLimits_0 : decode cX6_setLimits 0 = .ok (.aload_n 0, 1) := by decide +kernel
theorem dX6_setLimits_1 : decode cX6_setLimits 1 = .ok (.iconst 0, 1) := by decide +kernel
theorem dX6_setLimits_2 : decode cX6_setLimits 2 = .ok (.putfield 60, 3) := by decide +kernel
theorem dX6_setLimits_5 : decode cX6_setLimits 5 = .ok (.iload_n 1, 1) := by decide +kernel
theorem dX6_setLimits_6 : decode cX6_setLimits 6 = .ok (.ifCond .lt 18, 3) := by decide +kernel
theorem dX6_setLimits_9 : decode cX6_setLimits 9 = .ok (.iload_n 1, 1) := by decide +kernel
theorem dX6_setLimits_10 : decode cX6_setLimits 10 = .ok (.iconst 5, 1) := by decide +kernel
theorem dX6_setLimits_11 : decode cX6_setLimits 11 = .ok (.if_icmp .gt 13, 3) := by decide +kernel
theorem dX6_setLimits_14 : decode cX6_setLimits 14 = .ok (.iload_n 2, 1) := by decide +kernel
theorem dX6_setLimits_15 : decode cX6_setLimits 15 = .ok (.ifCond .lt 9, 3) := by decide +kernel
theorem dX6_setLimits_18 : decode cX6_setLimits 18 = .ok (.iload_n 2, 1) := by decide +kernel
theorem dX6_setLimits_19 : decode cX6_setLimits 19 = .ok (.bipush 20, 2) := by decide +kernel
theorem dX6_setLimits_21 : decode cX6_setLimits 21 = .ok (.if_icmp .le 9, 3) := by decide +kernel
theorem dX6_setLimits_24 : decode cX6_setLimits 24 = .ok (.aload_n 0, 1) := by decide +kernel
theorem dX6_setLimits_25 : decode cX6_setLimits 25 = .ok (.iconst 1, 1) := by decide +kernel
theorem dX6_setLimits_26 : decode cX6_setLimits 26 = .ok (.invokevirtual 116, 3) := by decide +kernel
theorem dX6_setLimits_29 : decode cX6_setLimits 29 = .ok (.ireturn, 1) := by decide +kernel
theorem dX6_setLimits_30 : decode cX6_setLimits 30 = .ok (.aload_n 0, 1) := by decide +kernel
theorem dX6_setLimits_31 : decode cX6_setLimits 31 = .ok (.iconst 0, 1) := by decide +kernel
theorem dX6_setLimits_32 : decode cX6_setLimits 32 = .ok (.putfield 102, 3) := by decide +kernel
theorem dX6_setLimits_35 : decode cX6_setLimits 35 = .ok (.aload_n 0, 1) := by decide +kernel
theorem dX6_setLimits_36 : decode cX6_setLimits 36 = .ok (.iload_n 1, 1) := by decide +kernel
theorem dX6_setLimits_37 : decode cX6_setLimits 37 = .ok (.putfield 34, 3) := by decide +kernel
theorem dX6_setLimits_40 : decode cX6_setLimits 40 = .ok (.aload_n 0, 1) := by decide +kernel
theorem dX6_setLimits_41 : decode cX6_setLimits 41 = .ok (.iload_n 2, 1) := by decide +kernel
theorem dX6_setLimits_42 : decode cX6_setLimits 42 = .ok (.putfield 38, 3) := by decide +kernel
theorem dX6_setLimits_45 : decode cX6_setLimits 45 = .ok (.aload_n 0, 1) := by decide +kernel
theorem dX6_setLimits_46 : decode cX6_setLimits 46 = .ok (.invokevirtual 119, 3) := by decide +kernel
theorem dX6_setLimits_49 : decode cX6_setLimits 49 = .ok (.ireturn, 1) := by decide +kernel
theorem dX6_arrive_0 : decode cX6_arrive 0 = .ok (.aload_n 0, 1) := by decide +kernel
theorem dX6_arrive_1 : decode cX6_arrive 1 = .ok (.iconst 0, 1) := by decide +kernel
theorem dX6_arrive_2 : decode cX6_arrive 2 = .ok (.putfield 60, 3) := by decide +kernel
theorem dX6_arrive_5 : decode cX6_arrive 5 = .ok (.iload_n 1, 1) := by decide +kernel
theorem dX6_arrive_6 : decode cX6_arrive 6 = .ok (.invokestatic 125, 3) := by decide +kernel
theorem dX6_arrive_9 : decode cX6_arrive 9 = .ok (.ifCond .ne 9, 3) := by decide +kernel
theorem dX6_arrive_12 : decode cX6_arrive 12 = .ok (.aload_n 0, 1) := by decide +kernel
theorem dX6_arrive_13 : decode cX6_arrive 13 = .ok (.iconst 1, 1) := by decide +kernel
theorem dX6_arrive_14 : decode cX6_arrive 14 = .ok (.invokevirtual 116, 3) := by decide +kernel
theorem dX6_arrive_17 : decode cX6_arrive 17 = .ok (.ireturn, 1) := by decide +kernel
theorem dX6_arrive_18 : decode cX6_arrive 18 = .ok (.aload_n 0, 1) := by decide +kernel
theorem dX6_arrive_19 : decode cX6_arrive 19 = .ok (.iload_n 2, 1) := by decide +kernel
theorem dX6_arrive_20 : decode cX6_arrive 20 = .ok (.invokevirtual 128, 3) := by decide +kernel
theorem dX6_arrive_23 : decode cX6_arrive 23 = .ok (.ifCond .ne 9, 3) := by decide +kernel
theorem dX6_arrive_26 : decode cX6_arrive 26 = .ok (.aload_n 0, 1) := by decide +kernel
theorem dX6_arrive_27 : decode cX6_arrive 27 = .ok (.iconst 2, 1) := by decide +kernel
theorem dX6_arrive_28 : decode cX6_arrive 28 = .ok (.invokevirtual 116, 3) := by decide +kernel
theorem dX6_arrive_31 : decode cX6_arrive 31 = .ok (.ireturn, 1) := by decide +kernel
theorem dX6_arrive_32 : decode cX6_arrive 32 = .ok (.aload_n 0, 1) := by decide +kernel
theorem dX6_arrive_33 : decode cX6_arrive 33 = .ok (.getfield 66, 3) := by decide +kernel
theorem dX6_arrive_36 : decode cX6_arrive 36 = .ok (.bipush 40, 2) := by decide +kernel
theorem dX6_arrive_38 : decode cX6_arrive 38 = .ok (.if_icmp .ne 9, 3) := by decide +kernel
theorem dX6_arrive_41 : decode cX6_arrive 41 = .ok (.aload_n 0, 1) := by decide +kernel
theorem dX6_arrive_42 : decode cX6_arrive 42 = .ok (.iconst 3, 1) := by decide +kernel
theorem dX6_arrive_43 : decode cX6_arrive 43 = .ok (.invokevirtual 116, 3) := by decide +kernel
theorem dX6_arrive_46 : decode cX6_arrive 46 = .ok (.ireturn, 1) := by decide +kernel
theorem dX6_arrive_47 : decode cX6_arrive 47 = .ok (.aload_n 0, 1) := by decide +kernel
theorem dX6_arrive_48 : decode cX6_arrive 48 = .ok (.iconst 0, 1) := by decide +kernel
theorem dX6_arrive_49 : decode cX6_arrive 49 = .ok (.putfield 102, 3) := by decide +kernel
theorem dX6_arrive_52 : decode cX6_arrive 52 = .ok (.aload_n 0, 1) := by decide +kernel
theorem dX6_arrive_53 : decode cX6_arrive 53 = .ok (.getfield 66, 3) := by decide +kernel
theorem dX6_arrive_56 : decode cX6_arrive 56 = .ok (.istore_n 3, 1) := by decide +kernel
theorem dX6_arrive_57 : decode cX6_arrive 57 = .ok (.aload_n 0, 1) := by decide +kernel
theorem dX6_arrive_58 : decode cX6_arrive 58 = .ok (.getfield 19, 3) := by decide +kernel
theorem dX6_arrive_61 : decode cX6_arrive 61 = .ok (.iload_n 3, 1) := by decide +kernel
theorem dX6_arrive_62 : decode cX6_arrive 62 = .ok (.iload_n 1, 1) := by decide +kernel
theorem dX6_arrive_63 : decode cX6_arrive 63 = .ok (.iastore, 1) := by decide +kernel
theorem dX6_arrive_64 : decode cX6_arrive 64 = .ok (.aload_n 0, 1) := by decide +kernel
theorem dX6_arrive_65 : decode cX6_arrive 65 = .ok (.getfield 22, 3) := by decide +kernel
theorem dX6_arrive_68 : decode cX6_arrive 68 = .ok (.iload_n 3, 1) := by decide +kernel
theorem dX6_arrive_69 : decode cX6_arrive 69 = .ok (.iload_n 2, 1) := by decide +kernel
theorem dX6_arrive_70 : decode cX6_arrive 70 = .ok (.iastore, 1) := by decide +kernel
theorem dX6_arrive_71 : decode cX6_arrive 71 = .ok (.aload_n 0, 1) := by decide +kernel
theorem dX6_arrive_72 : decode cX6_arrive 72 = .ok (.getfield 25, 3) := by decide +kernel
theorem dX6_arrive_75 : decode cX6_arrive 75 = .ok (.iload_n 3, 1) := by decide +kernel
theorem dX6_arrive_76 : decode cX6_arrive 76 = .ok (.iconst 0, 1) := by decide +kernel
theorem dX6_arrive_77 : decode cX6_arrive 77 = .ok (.iastore, 1) := by decide +kernel
theorem dX6_arrive_78 : decode cX6_arrive 78 = .ok (.aload_n 0, 1) := by decide +kernel
theorem dX6_arrive_79 : decode cX6_arrive 79 = .ok (.dup, 1) := by decide +kernel
theorem dX6_arrive_80 : decode cX6_arrive 80 = .ok (.getfield 66, 3) := by decide +kernel
theorem dX6_arrive_83 : decode cX6_arrive 83 = .ok (.iconst 1, 1) := by decide +kernel
theorem dX6_arrive_84 : decode cX6_arrive 84 = .ok (.iadd, 1) := by decide +kernel
theorem dX6_arrive_85 : decode cX6_arrive 85 = .ok (.putfield 66, 3) := by decide +kernel
theorem dX6_arrive_88 : decode cX6_arrive 88 = .ok (.aload_n 0, 1) := by decide +kernel
theorem dX6_arrive_89 : decode cX6_arrive 89 = .ok (.iload_n 3, 1) := by decide +kernel
theorem dX6_arrive_90 : decode cX6_arrive 90 = .ok (.invokevirtual 109, 3) := by decide +kernel
theorem dX6_arrive_93 : decode cX6_arrive 93 = .ok (.ifCond .eq 12, 3) := by decide +kernel
theorem dX6_arrive_96 : decode cX6_arrive 96 = .ok (.aload_n 0, 1) := by decide +kernel
theorem dX6_arrive_97 : decode cX6_arrive 97 = .ok (.getfield 66, 3) := by decide +kernel
theorem dX6_arrive_100 : decode cX6_arrive 100 = .ok (.iconst 1, 1) := by decide +kernel
theorem dX6_arrive_101 : decode cX6_arrive 101 = .ok (.isub, 1) := by decide +kernel
theorem dX6_arrive_102 : decode cX6_arrive 102 = .ok (.goto 4, 3) := by decide +kernel
theorem dX6_arrive_105 : decode cX6_arrive 105 = .ok (.iload_n 3, 1) := by decide +kernel
theorem dX6_arrive_106 : decode cX6_arrive 106 = .ok (.ireturn, 1) := by decide +kernel
theorem dX6_depart_0 : decode cX6_depart 0 = .ok (.aload_n 0, 1) := by decide +kernel
theorem dX6_depart_1 : decode cX6_depart 1 = .ok (.iconst 0, 1) := by decide +kernel
theorem dX6_depart_2 : decode cX6_depart 2 = .ok (.putfield 60, 3) := by decide +kernel
theorem dX6_depart_5 : decode cX6_depart 5 = .ok (.aload_n 0, 1) := by decide +kernel
theorem dX6_depart_6 : decode cX6_depart 6 = .ok (.iload_n 1, 1) := by decide +kernel
theorem dX6_depart_7 : decode cX6_depart 7 = .ok (.invokevirtual 131, 3) := by decide +kernel
theorem dX6_depart_10 : decode cX6_depart 10 = .ok (.ifCond .ne 9, 3) := by decide +kernel
theorem dX6_depart_13 : decode cX6_depart 13 = .ok (.aload_n 0, 1) := by decide +kernel
theorem dX6_depart_14 : decode cX6_depart 14 = .ok (.iconst 1, 1) := by decide +kernel
theorem dX6_depart_15 : decode cX6_depart 15 = .ok (.invokevirtual 116, 3) := by decide +kernel
theorem dX6_depart_18 : decode cX6_depart 18 = .ok (.ireturn, 1) := by decide +kernel
theorem dX6_depart_19 : decode cX6_depart 19 = .ok (.aload_n 0, 1) := by decide +kernel
theorem dX6_depart_20 : decode cX6_depart 20 = .ok (.getfield 25, 3) := by decide +kernel
theorem dX6_depart_23 : decode cX6_depart 23 = .ok (.iload_n 1, 1) := by decide +kernel
theorem dX6_depart_24 : decode cX6_depart 24 = .ok (.iaload, 1) := by decide +kernel
theorem dX6_depart_25 : decode cX6_depart 25 = .ok (.iconst 2, 1) := by decide +kernel
theorem dX6_depart_26 : decode cX6_depart 26 = .ok (.if_icmp .ne 9, 3) := by decide +kernel
theorem dX6_depart_29 : decode cX6_depart 29 = .ok (.aload_n 0, 1) := by decide +kernel
theorem dX6_depart_30 : decode cX6_depart 30 = .ok (.iconst 2, 1) := by decide +kernel
theorem dX6_depart_31 : decode cX6_depart 31 = .ok (.invokevirtual 116, 3) := by decide +kernel
theorem dX6_depart_34 : decode cX6_depart 34 = .ok (.ireturn, 1) := by decide +kernel
theorem dX6_depart_35 : decode cX6_depart 35 = .ok (.aload_n 0, 1) := by decide +kernel
theorem dX6_depart_36 : decode cX6_depart 36 = .ok (.iconst 0, 1) := by decide +kernel
theorem dX6_depart_37 : decode cX6_depart 37 = .ok (.putfield 102, 3) := by decide +kernel
theorem dX6_depart_40 : decode cX6_depart 40 = .ok (.aload_n 0, 1) := by decide +kernel
theorem dX6_depart_41 : decode cX6_depart 41 = .ok (.getfield 25, 3) := by decide +kernel
theorem dX6_depart_44 : decode cX6_depart 44 = .ok (.iload_n 1, 1) := by decide +kernel
theorem dX6_depart_45 : decode cX6_depart 45 = .ok (.iconst 2, 1) := by decide +kernel
theorem dX6_depart_46 : decode cX6_depart 46 = .ok (.iastore, 1) := by decide +kernel
theorem dX6_depart_47 : decode cX6_depart 47 = .ok (.aload_n 0, 1) := by decide +kernel
theorem dX6_depart_48 : decode cX6_depart 48 = .ok (.invokevirtual 119, 3) := by decide +kernel
theorem dX6_depart_51 : decode cX6_depart 51 = .ok (.ireturn, 1) := by decide +kernel
theorem dX6_setAccepts_0 : decode cX6_setAccepts 0 = .ok (.aload_n 0, 1) := by decide +kernel
theorem dX6_setAccepts_1 : decode cX6_setAccepts 1 = .ok (.iconst 0, 1) := by decide +kernel
theorem dX6_setAccepts_2 : decode cX6_setAccepts 2 = .ok (.putfield 60, 3) := by decide +kernel
theorem dX6_setAccepts_5 : decode cX6_setAccepts 5 = .ok (.aload_n 0, 1) := by decide +kernel
theorem dX6_setAccepts_6 : decode cX6_setAccepts 6 = .ok (.iload_n 1, 1) := by decide +kernel
theorem dX6_setAccepts_7 : decode cX6_setAccepts 7 = .ok (.invokevirtual 131, 3) := by decide +kernel
theorem dX6_setAccepts_10 : decode cX6_setAccepts 10 = .ok (.ifCond .ne 17, 3) := by decide +kernel
theorem dX6_setAccepts_13 : decode cX6_setAccepts 13 = .ok (.aload_n 0, 1) := by decide +kernel
theorem dX6_setAccepts_14 : decode cX6_setAccepts 14 = .ok (.iconst 1, 1) := by decide +kernel
theorem dX6_setAccepts_15 : decode cX6_setAccepts 15 = .ok (.invokevirtual 116, 3) := by decide +kernel
theorem dX6_setAccepts_18 : decode cX6_setAccepts 18 = .ok (.ifCond .eq 7, 3) := by decide +kernel
theorem dX6_setAccepts_21 : decode cX6_setAccepts 21 = .ok (.iconst 1, 1) := by decide +kernel
theorem dX6_setAccepts_22 : decode cX6_setAccepts 22 = .ok (.goto 4, 3) := by decide +kernel
theorem dX6_setAccepts_25 : decode cX6_setAccepts 25 = .ok (.iconst 0, 1) := by decide +kernel
theorem dX6_setAccepts_26 : decode cX6_setAccepts 26 = .ok (.ireturn, 1) := by decide +kernel
theorem dX6_setAccepts_27 : decode cX6_setAccepts 27 = .ok (.aload_n 0, 1) := by decide +kernel
theorem dX6_setAccepts_28 : decode cX6_setAccepts 28 = .ok (.getfield 25, 3) := by decide +kernel
theorem dX6_setAccepts_31 : decode cX6_setAccepts 31 = .ok (.iload_n 1, 1) := by decide +kernel
theorem dX6_setAccepts_32 : decode cX6_setAccepts 32 = .ok (.iaload, 1) := by decide +kernel
theorem dX6_setAccepts_33 : decode cX6_setAccepts 33 = .ok (.iconst 2, 1) := by decide +kernel
theorem dX6_setAccepts_34 : decode cX6_setAccepts 34 = .ok (.if_icmp .ne 17, 3) := by decide +kernel
theorem dX6_setAccepts_37 : decode cX6_setAccepts 37 = .ok (.aload_n 0, 1) := by decide +kernel
theorem dX6_setAccepts_38 : decode cX6_setAccepts 38 = .ok (.iconst 2, 1) := by decide +kernel
theorem dX6_setAccepts_39 : decode cX6_setAccepts 39 = .ok (.invokevirtual 116, 3) := by decide +kernel
theorem dX6_setAccepts_42 : decode cX6_setAccepts 42 = .ok (.ifCond .eq 7, 3) := by decide +kernel
theorem dX6_setAccepts_45 : decode cX6_setAccepts 45 = .ok (.iconst 1, 1) := by decide +kernel
theorem dX6_setAccepts_46 : decode cX6_setAccepts 46 = .ok (.goto 4, 3) := by decide +kernel
theorem dX6_setAccepts_49 : decode cX6_setAccepts 49 = .ok (.iconst 0, 1) := by decide +kernel
theorem dX6_setAccepts_50 : decode cX6_setAccepts 50 = .ok (.ireturn, 1) := by decide +kernel
theorem dX6_setAccepts_51 : decode cX6_setAccepts 51 = .ok (.aload_n 0, 1) := by decide +kernel
theorem dX6_setAccepts_52 : decode cX6_setAccepts 52 = .ok (.iload_n 2, 1) := by decide +kernel
theorem dX6_setAccepts_53 : decode cX6_setAccepts 53 = .ok (.invokevirtual 128, 3) := by decide +kernel
theorem dX6_setAccepts_56 : decode cX6_setAccepts 56 = .ok (.ifCond .ne 17, 3) := by decide +kernel
theorem dX6_setAccepts_59 : decode cX6_setAccepts 59 = .ok (.aload_n 0, 1) := by decide +kernel
theorem dX6_setAccepts_60 : decode cX6_setAccepts 60 = .ok (.iconst 3, 1) := by decide +kernel
theorem dX6_setAccepts_61 : decode cX6_setAccepts 61 = .ok (.invokevirtual 116, 3) := by decide +kernel
theorem dX6_setAccepts_64 : decode cX6_setAccepts 64 = .ok (.ifCond .eq 7, 3) := by decide +kernel
theorem dX6_setAccepts_67 : decode cX6_setAccepts 67 = .ok (.iconst 1, 1) := by decide +kernel
theorem dX6_setAccepts_68 : decode cX6_setAccepts 68 = .ok (.goto 4, 3) := by decide +kernel
theorem dX6_setAccepts_71 : decode cX6_setAccepts 71 = .ok (.iconst 0, 1) := by decide +kernel
theorem dX6_setAccepts_72 : decode cX6_setAccepts 72 = .ok (.ireturn, 1) := by decide +kernel
theorem dX6_setAccepts_73 : decode cX6_setAccepts 73 = .ok (.aload_n 0, 1) := by decide +kernel
theorem dX6_setAccepts_74 : decode cX6_setAccepts 74 = .ok (.iconst 0, 1) := by decide +kernel
theorem dX6_setAccepts_75 : decode cX6_setAccepts 75 = .ok (.putfield 102, 3) := by decide +kernel
theorem dX6_setAccepts_78 : decode cX6_setAccepts 78 = .ok (.aload_n 0, 1) := by decide +kernel
theorem dX6_setAccepts_79 : decode cX6_setAccepts 79 = .ok (.getfield 22, 3) := by decide +kernel
theorem dX6_setAccepts_82 : decode cX6_setAccepts 82 = .ok (.iload_n 1, 1) := by decide +kernel
theorem dX6_setAccepts_83 : decode cX6_setAccepts 83 = .ok (.iload_n 2, 1) := by decide +kernel
theorem dX6_setAccepts_84 : decode cX6_setAccepts 84 = .ok (.iastore, 1) := by decide +kernel
theorem dX6_setAccepts_85 : decode cX6_setAccepts 85 = .ok (.aload_n 0, 1) := by decide +kernel
theorem dX6_setAccepts_86 : decode cX6_setAccepts 86 = .ok (.getfield 25, 3) := by decide +kernel
theorem dX6_setAccepts_89 : decode cX6_setAccepts 89 = .ok (.iload_n 1, 1) := by decide +kernel
theorem dX6_setAccepts_90 : decode cX6_setAccepts 90 = .ok (.iaload, 1) := by decide +kernel
theorem dX6_setAccepts_91 : decode cX6_setAccepts 91 = .ok (.iconst 1, 1) := by decide +kernel
theorem dX6_setAccepts_92 : decode cX6_setAccepts 92 = .ok (.if_icmp .ne 24, 3) := by decide +kernel
theorem dX6_setAccepts_95 : decode cX6_setAccepts 95 = .ok (.aload_n 0, 1) := by decide +kernel
theorem dX6_setAccepts_96 : decode cX6_setAccepts 96 = .ok (.iload_n 1, 1) := by decide +kernel
theorem dX6_setAccepts_97 : decode cX6_setAccepts 97 = .ok (.aload_n 0, 1) := by decide +kernel
theorem dX6_setAccepts_98 : decode cX6_setAccepts 98 = .ok (.getfield 28, 3) := by decide +kernel
theorem dX6_setAccepts_101 : decode cX6_setAccepts 101 = .ok (.iload_n 1, 1) := by decide +kernel
theorem dX6_setAccepts_102 : decode cX6_setAccepts 102 = .ok (.iaload, 1) := by decide +kernel
theorem dX6_setAccepts_103 : decode cX6_setAccepts 103 = .ok (.invokevirtual 83, 3) := by decide +kernel
theorem dX6_setAccepts_106 : decode cX6_setAccepts 106 = .ok (.ifCond .ne 10, 3) := by decide +kernel
theorem dX6_setAccepts_109 : decode cX6_setAccepts 109 = .ok (.aload_n 0, 1) := by decide +kernel
theorem dX6_setAccepts_110 : decode cX6_setAccepts 110 = .ok (.getfield 25, 3) := by decide +kernel
theorem dX6_setAccepts_113 : decode cX6_setAccepts 113 = .ok (.iload_n 1, 1) := by decide +kernel
theorem dX6_setAccepts_114 : decode cX6_setAccepts 114 = .ok (.iconst 0, 1) := by decide +kernel
theorem dX6_setAccepts_115 : decode cX6_setAccepts 115 = .ok (.iastore, 1) := by decide +kernel
theorem dX6_setAccepts_116 : decode cX6_setAccepts 116 = .ok (.aload_n 0, 1) := by decide +kernel
theorem dX6_setAccepts_117 : decode cX6_setAccepts 117 = .ok (.invokevirtual 119, 3) := by decide +kernel
theorem dX6_setAccepts_120 : decode cX6_setAccepts 120 = .ok (.ifCond .lt 17, 3) := by decide +kernel
theorem dX6_setAccepts_123 : decode cX6_setAccepts 123 = .ok (.aload_n 0, 1) := by decide +kernel
theorem dX6_setAccepts_124 : decode cX6_setAccepts 124 = .ok (.getfield 25, 3) := by decide +kernel
theorem dX6_setAccepts_127 : decode cX6_setAccepts 127 = .ok (.iload_n 1, 1) := by decide +kernel
theorem dX6_setAccepts_128 : decode cX6_setAccepts 128 = .ok (.iaload, 1) := by decide +kernel
theorem dX6_setAccepts_129 : decode cX6_setAccepts 129 = .ok (.iconst 1, 1) := by decide +kernel
theorem dX6_setAccepts_130 : decode cX6_setAccepts 130 = .ok (.if_icmp .ne 7, 3) := by decide +kernel
theorem dX6_setAccepts_133 : decode cX6_setAccepts 133 = .ok (.iconst 1, 1) := by decide +kernel
theorem dX6_setAccepts_134 : decode cX6_setAccepts 134 = .ok (.goto 4, 3) := by decide +kernel
theorem dX6_setAccepts_137 : decode cX6_setAccepts 137 = .ok (.iconst 0, 1) := by decide +kernel
theorem dX6_setAccepts_138 : decode cX6_setAccepts 138 = .ok (.ireturn, 1) := by decide +kernel
theorem dX6_resourceCount_0 : decode cX6_resourceCount 0 = .ok (.aload_n 0, 1) := by decide +kernel
theorem dX6_resourceCount_1 : decode cX6_resourceCount 1 = .ok (.iconst 0, 1) := by decide +kernel
theorem dX6_resourceCount_2 : decode cX6_resourceCount 2 = .ok (.putfield 60, 3) := by decide +kernel
theorem dX6_resourceCount_5 : decode cX6_resourceCount 5 = .ok (.aload_n 0, 1) := by decide +kernel
theorem dX6_resourceCount_6 : decode cX6_resourceCount 6 = .ok (.getfield 63, 3) := by decide +kernel
theorem dX6_resourceCount_9 : decode cX6_resourceCount 9 = .ok (.ireturn, 1) := by decide +kernel
theorem dX6_arrivedCount_0 : decode cX6_arrivedCount 0 = .ok (.aload_n 0, 1) := by decide +kernel
theorem dX6_arrivedCount_1 : decode cX6_arrivedCount 1 = .ok (.iconst 0, 1) := by decide +kernel
theorem dX6_arrivedCount_2 : decode cX6_arrivedCount 2 = .ok (.putfield 60, 3) := by decide +kernel
theorem dX6_arrivedCount_5 : decode cX6_arrivedCount 5 = .ok (.aload_n 0, 1) := by decide +kernel
theorem dX6_arrivedCount_6 : decode cX6_arrivedCount 6 = .ok (.getfield 66, 3) := by decide +kernel
theorem dX6_arrivedCount_9 : decode cX6_arrivedCount 9 = .ok (.ireturn, 1) := by decide +kernel
theorem dX6_countOf_0 : decode cX6_countOf 0 = .ok (.iconst 0, 1) := by decide +kernel
theorem dX6_countOf_1 : decode cX6_countOf 1 = .ok (.istore_n 2, 1) := by decide +kernel
theorem dX6_countOf_2 : decode cX6_countOf 2 = .ok (.iconst 0, 1) := by decide +kernel
theorem dX6_countOf_3 : decode cX6_countOf 3 = .ok (.istore_n 3, 1) := by decide +kernel
theorem dX6_countOf_4 : decode cX6_countOf 4 = .ok (.iload_n 3, 1) := by decide +kernel
theorem dX6_countOf_5 : decode cX6_countOf 5 = .ok (.aload_n 0, 1) := by decide +kernel
theorem dX6_countOf_6 : decode cX6_countOf 6 = .ok (.getfield 66, 3) := by decide +kernel
theorem dX6_countOf_9 : decode cX6_countOf 9 = .ok (.if_icmp .ge 27, 3) := by decide +kernel
theorem dX6_countOf_12 : decode cX6_countOf 12 = .ok (.iload_n 2, 1) := by decide +kernel
theorem dX6_countOf_13 : decode cX6_countOf 13 = .ok (.aload_n 0, 1) := by decide +kernel
theorem dX6_countOf_14 : decode cX6_countOf 14 = .ok (.getfield 25, 3) := by decide +kernel
theorem dX6_countOf_17 : decode cX6_countOf 17 = .ok (.iload_n 3, 1) := by decide +kernel
theorem dX6_countOf_18 : decode cX6_countOf 18 = .ok (.iaload, 1) := by decide +kernel
theorem dX6_countOf_19 : decode cX6_countOf 19 = .ok (.iload_n 1, 1) := by decide +kernel
theorem dX6_countOf_20 : decode cX6_countOf 20 = .ok (.if_icmp .ne 7, 3) := by decide +kernel
theorem dX6_countOf_23 : decode cX6_countOf 23 = .ok (.iconst 1, 1) := by decide +kernel
theorem dX6_countOf_24 : decode cX6_countOf 24 = .ok (.goto 4, 3) := by decide +kernel
theorem dX6_countOf_27 : decode cX6_countOf 27 = .ok (.iconst 0, 1) := by decide +kernel
theorem dX6_countOf_28 : decode cX6_countOf 28 = .ok (.iadd, 1) := by decide +kernel
theorem dX6_countOf_29 : decode cX6_countOf 29 = .ok (.istore_n 2, 1) := by decide +kernel
theorem dX6_countOf_30 : decode cX6_countOf 30 = .ok (.iinc 3 1, 3) := by decide +kernel
theorem dX6_countOf_33 : decode cX6_countOf 33 = .ok (.goto (-29), 3) := by decide +kernel
theorem dX6_countOf_36 : decode cX6_countOf 36 = .ok (.iload_n 2, 1) := by decide +kernel
theorem dX6_countOf_37 : decode cX6_countOf 37 = .ok (.ireturn, 1) := by decide +kernel
theorem dX6_assignedCount_0 : decode cX6_assignedCount 0 = .ok (.aload_n 0, 1) := by decide +kernel
theorem dX6_assignedCount_1 : decode cX6_assignedCount 1 = .ok (.iconst 0, 1) := by decide +kernel
theorem dX6_assignedCount_2 : decode cX6_assignedCount 2 = .ok (.putfield 60, 3) := by decide +kernel
theorem dX6_assignedCount_5 : decode cX6_assignedCount 5 = .ok (.aload_n 0, 1) := by decide +kernel
theorem dX6_assignedCount_6 : decode cX6_assignedCount 6 = .ok (.iconst 1, 1) := by decide +kernel
theorem dX6_assignedCount_7 : decode cX6_assignedCount 7 = .ok (.invokevirtual 134, 3) := by decide +kernel
theorem dX6_assignedCount_10 : decode cX6_assignedCount 10 = .ok (.ireturn, 1) := by decide +kernel
theorem dX6_waitingCount_0 : decode cX6_waitingCount 0 = .ok (.aload_n 0, 1) := by decide +kernel
theorem dX6_waitingCount_1 : decode cX6_waitingCount 1 = .ok (.iconst 0, 1) := by decide +kernel
theorem dX6_waitingCount_2 : decode cX6_waitingCount 2 = .ok (.putfield 60, 3) := by decide +kernel
theorem dX6_waitingCount_5 : decode cX6_waitingCount 5 = .ok (.aload_n 0, 1) := by decide +kernel
theorem dX6_waitingCount_6 : decode cX6_waitingCount 6 = .ok (.iconst 0, 1) := by decide +kernel
theorem dX6_waitingCount_7 : decode cX6_waitingCount 7 = .ok (.invokevirtual 134, 3) := by decide +kernel
theorem dX6_waitingCount_10 : decode cX6_waitingCount 10 = .ok (.ireturn, 1) := by decide +kernel
theorem dX6_assignedOf_0 : decode cX6_assignedOf 0 = .ok (.aload_n 0, 1) := by decide +kernel
theorem dX6_assignedOf_1 : decode cX6_assignedOf 1 = .ok (.iconst 0, 1) := by decide +kernel
theorem dX6_assignedOf_2 : decode cX6_assignedOf 2 = .ok (.putfield 60, 3) := by decide +kernel
theorem dX6_assignedOf_5 : decode cX6_assignedOf 5 = .ok (.iload_n 1, 1) := by decide +kernel
theorem dX6_assignedOf_6 : decode cX6_assignedOf 6 = .ok (.invokestatic 125, 3) := by decide +kernel
theorem dX6_assignedOf_9 : decode cX6_assignedOf 9 = .ok (.ifCond .eq 11, 3) := by decide +kernel
theorem dX6_assignedOf_12 : decode cX6_assignedOf 12 = .ok (.aload_n 0, 1) := by decide +kernel
theorem dX6_assignedOf_13 : decode cX6_assignedOf 13 = .ok (.iload_n 1, 1) := by decide +kernel
theorem dX6_assignedOf_14 : decode cX6_assignedOf 14 = .ok (.invokevirtual 89, 3) := by decide +kernel
theorem dX6_assignedOf_17 : decode cX6_assignedOf 17 = .ok (.goto 8, 3) := by decide +kernel
theorem dX6_assignedOf_20 : decode cX6_assignedOf 20 = .ok (.aload_n 0, 1) := by decide +kernel
theorem dX6_assignedOf_21 : decode cX6_assignedOf 21 = .ok (.iconst 1, 1) := by decide +kernel
theorem dX6_assignedOf_22 : decode cX6_assignedOf 22 = .ok (.invokevirtual 116, 3) := by decide +kernel
theorem dX6_assignedOf_25 : decode cX6_assignedOf 25 = .ok (.ireturn, 1) := by decide +kernel
theorem dX6_load_0 : decode cX6_load 0 = .ok (.aload_n 0, 1) := by decide +kernel
theorem dX6_load_1 : decode cX6_load 1 = .ok (.iconst 0, 1) := by decide +kernel
theorem dX6_load_2 : decode cX6_load 2 = .ok (.putfield 60, 3) := by decide +kernel
theorem dX6_load_5 : decode cX6_load 5 = .ok (.aload_n 0, 1) := by decide +kernel
theorem dX6_load_6 : decode cX6_load 6 = .ok (.iload_n 1, 1) := by decide +kernel
theorem dX6_load_7 : decode cX6_load 7 = .ok (.invokevirtual 122, 3) := by decide +kernel
theorem dX6_load_10 : decode cX6_load 10 = .ok (.ifCond .eq 11, 3) := by decide +kernel
theorem dX6_load_13 : decode cX6_load 13 = .ok (.aload_n 0, 1) := by decide +kernel
theorem dX6_load_14 : decode cX6_load 14 = .ok (.iload_n 1, 1) := by decide +kernel
theorem dX6_load_15 : decode cX6_load 15 = .ok (.invokevirtual 73, 3) := by decide +kernel
theorem dX6_load_18 : decode cX6_load 18 = .ok (.goto 8, 3) := by decide +kernel
theorem dX6_load_21 : decode cX6_load 21 = .ok (.aload_n 0, 1) := by decide +kernel
theorem dX6_load_22 : decode cX6_load 22 = .ok (.iconst 1, 1) := by decide +kernel
theorem dX6_load_23 : decode cX6_load 23 = .ok (.invokevirtual 116, 3) := by decide +kernel
theorem dX6_load_26 : decode cX6_load 26 = .ok (.ireturn, 1) := by decide +kernel
theorem dX6_state_0 : decode cX6_state 0 = .ok (.aload_n 0, 1) := by decide +kernel
theorem dX6_state_1 : decode cX6_state 1 = .ok (.iconst 0, 1) := by decide +kernel
theorem dX6_state_2 : decode cX6_state 2 = .ok (.putfield 60, 3) := by decide +kernel
theorem dX6_state_5 : decode cX6_state 5 = .ok (.aload_n 0, 1) := by decide +kernel
theorem dX6_state_6 : decode cX6_state 6 = .ok (.iload_n 1, 1) := by decide +kernel
theorem dX6_state_7 : decode cX6_state 7 = .ok (.invokevirtual 131, 3) := by decide +kernel
theorem dX6_state_10 : decode cX6_state 10 = .ok (.ifCond .eq 12, 3) := by decide +kernel
theorem dX6_state_13 : decode cX6_state 13 = .ok (.aload_n 0, 1) := by decide +kernel
theorem dX6_state_14 : decode cX6_state 14 = .ok (.getfield 25, 3) := by decide +kernel
theorem dX6_state_17 : decode cX6_state 17 = .ok (.iload_n 1, 1) := by decide +kernel
theorem dX6_state_18 : decode cX6_state 18 = .ok (.iaload, 1) := by decide +kernel
theorem dX6_state_19 : decode cX6_state 19 = .ok (.goto 8, 3) := by decide +kernel
theorem dX6_state_22 : decode cX6_state 22 = .ok (.aload_n 0, 1) := by decide +kernel
theorem dX6_state_23 : decode cX6_state 23 = .ok (.iconst 1, 1) := by decide +kernel
theorem dX6_state_24 : decode cX6_state 24 = .ok (.invokevirtual 116, 3) := by decide +kernel
theorem dX6_state_27 : decode cX6_state 27 = .ok (.ireturn, 1) := by decide +kernel
theorem dX6_resourceOf_0 : decode cX6_resourceOf 0 = .ok (.aload_n 0, 1) := by decide +kernel
theorem dX6_resourceOf_1 : decode cX6_resourceOf 1 = .ok (.iconst 0, 1) := by decide +kernel
theorem dX6_resourceOf_2 : decode cX6_resourceOf 2 = .ok (.putfield 60, 3) := by decide +kernel
theorem dX6_resourceOf_5 : decode cX6_resourceOf 5 = .ok (.aload_n 0, 1) := by decide +kernel
theorem dX6_resourceOf_6 : decode cX6_resourceOf 6 = .ok (.iload_n 1, 1) := by decide +kernel
theorem dX6_resourceOf_7 : decode cX6_resourceOf 7 = .ok (.invokevirtual 131, 3) := by decide +kernel
theorem dX6_resourceOf_10 : decode cX6_resourceOf 10 = .ok (.ifCond .ne 9, 3) := by decide +kernel
theorem dX6_resourceOf_13 : decode cX6_resourceOf 13 = .ok (.aload_n 0, 1) := by decide +kernel
theorem dX6_resourceOf_14 : decode cX6_resourceOf 14 = .ok (.iconst 1, 1) := by decide +kernel
theorem dX6_resourceOf_15 : decode cX6_resourceOf 15 = .ok (.invokevirtual 116, 3) := by decide +kernel
end
section
theorem dX6_resourceOf_18 : decode cX6_resourceOf 18 = .ok (.ireturn, 1) := by decide +kernel
theorem dX6_resourceOf_19 : decode cX6_resourceOf 19 = .ok (.aload_n 0, 1) := by decide +kernel
theorem dX6_resourceOf_20 : decode cX6_resourceOf 20 = .ok (.getfield 25, 3) := by decide +kernel
theorem dX6_resourceOf_23 : decode cX6_resourceOf 23 = .ok (.iload_n 1, 1) := by decide +kernel
theorem dX6_resourceOf_24 : decode cX6_resourceOf 24 = .ok (.iaload, 1) := by decide +kernel
theorem dX6_resourceOf_25 : decode cX6_resourceOf 25 = .ok (.iconst 1, 1) := by decide +kernel
theorem dX6_resourceOf_26 : decode cX6_resourceOf 26 = .ok (.if_icmp .ne 12, 3) := by decide +kernel
theorem dX6_resourceOf_29 : decode cX6_resourceOf 29 = .ok (.aload_n 0, 1) := by decide +kernel
theorem dX6_resourceOf_30 : decode cX6_resourceOf 30 = .ok (.getfield 28, 3) := by decide +kernel
theorem dX6_resourceOf_33 : decode cX6_resourceOf 33 = .ok (.iload_n 1, 1) := by decide +kernel
theorem dX6_resourceOf_34 : decode cX6_resourceOf 34 = .ok (.iaload, 1) := by decide +kernel
theorem dX6_resourceOf_35 : decode cX6_resourceOf 35 = .ok (.goto 8, 3) := by decide +kernel
theorem dX6_resourceOf_38 : decode cX6_resourceOf 38 = .ok (.aload_n 0, 1) := by decide +kernel
theorem dX6_resourceOf_39 : decode cX6_resourceOf 39 = .ok (.iconst 2, 1) := by decide +kernel
theorem dX6_resourceOf_40 : decode cX6_resourceOf 40 = .ok (.invokevirtual 116, 3) := by decide +kernel
theorem dX6_resourceOf_43 : decode cX6_resourceOf 43 = .ok (.ireturn, 1) := by decide +kernel
theorem dX6_movesOf_0 : decode cX6_movesOf 0 = .ok (.aload_n 0, 1) := by decide +kernel
theorem dX6_movesOf_1 : decode cX6_movesOf 1 = .ok (.iconst 0, 1) := by decide +kernel
theorem dX6_movesOf_2 : decode cX6_movesOf 2 = .ok (.putfield 60, 3) := by decide +kernel
theorem dX6_movesOf_5 : decode cX6_movesOf 5 = .ok (.aload_n 0, 1) := by decide +kernel
theorem dX6_movesOf_6 : decode cX6_movesOf 6 = .ok (.iload_n 1, 1) := by decide +kernel
theorem dX6_movesOf_7 : decode cX6_movesOf 7 = .ok (.invokevirtual 131, 3) := by decide +kernel
theorem dX6_movesOf_10 : decode cX6_movesOf 10 = .ok (.ifCond .eq 12, 3) := by decide +kernel
theorem dX6_movesOf_13 : decode cX6_movesOf 13 = .ok (.aload_n 0, 1) := by decide +kernel
theorem dX6_movesOf_14 : decode cX6_movesOf 14 = .ok (.getfield 31, 3) := by decide +kernel
theorem dX6_movesOf_17 : decode cX6_movesOf 17 = .ok (.iload_n 1, 1) := by decide +kernel
theorem dX6_movesOf_18 : decode cX6_movesOf 18 = .ok (.iaload, 1) := by decide +kernel
theorem dX6_movesOf_19 : decode cX6_movesOf 19 = .ok (.goto 8, 3) := by decide +kernel
theorem dX6_movesOf_22 : decode cX6_movesOf 22 = .ok (.aload_n 0, 1) := by decide +kernel
theorem dX6_movesOf_23 : decode cX6_movesOf 23 = .ok (.iconst 1, 1) := by decide +kernel
theorem dX6_movesOf_24 : decode cX6_movesOf 24 = .ok (.invokevirtual 116, 3) := by decide +kernel
theorem dX6_movesOf_27 : decode cX6_movesOf 27 = .ok (.ireturn, 1) := by decide +kernel
theorem dX6_moveCount_0 : decode cX6_moveCount 0 = .ok (.aload_n 0, 1) := by decide +kernel
theorem dX6_moveCount_1 : decode cX6_moveCount 1 = .ok (.iconst 0, 1) := by decide +kernel
theorem dX6_moveCount_2 : decode cX6_moveCount 2 = .ok (.putfield 60, 3) := by decide +kernel
theorem dX6_moveCount_5 : decode cX6_moveCount 5 = .ok (.aload_n 0, 1) := by decide +kernel
theorem dX6_moveCount_6 : decode cX6_moveCount 6 = .ok (.getfield 102, 3) := by decide +kernel
theorem dX6_moveCount_9 : decode cX6_moveCount 9 = .ok (.ireturn, 1) := by decide +kernel
theorem dX6_movedRequest_0 : decode cX6_movedRequest 0 = .ok (.aload_n 0, 1) := by decide +kernel
theorem dX6_movedRequest_1 : decode cX6_movedRequest 1 = .ok (.iconst 0, 1) := by decide +kernel
theorem dX6_movedRequest_2 : decode cX6_movedRequest 2 = .ok (.putfield 60, 3) := by decide +kernel
theorem dX6_movedRequest_5 : decode cX6_movedRequest 5 = .ok (.iload_n 1, 1) := by decide +kernel
theorem dX6_movedRequest_6 : decode cX6_movedRequest 6 = .ok (.ifCond .lt 20, 3) := by decide +kernel
theorem dX6_movedRequest_9 : decode cX6_movedRequest 9 = .ok (.iload_n 1, 1) := by decide +kernel
theorem dX6_movedRequest_10 : decode cX6_movedRequest 10 = .ok (.aload_n 0, 1) := by decide +kernel
theorem dX6_movedRequest_11 : decode cX6_movedRequest 11 = .ok (.getfield 102, 3) := by decide +kernel
theorem dX6_movedRequest_14 : decode cX6_movedRequest 14 = .ok (.if_icmp .ge 12, 3) := by decide +kernel
theorem dX6_movedRequest_17 : decode cX6_movedRequest 17 = .ok (.aload_n 0, 1) := by decide +kernel
theorem dX6_movedRequest_18 : decode cX6_movedRequest 18 = .ok (.getfield 41, 3) := by decide +kernel
theorem dX6_movedRequest_21 : decode cX6_movedRequest 21 = .ok (.iload_n 1, 1) := by decide +kernel
theorem dX6_movedRequest_22 : decode cX6_movedRequest 22 = .ok (.iaload, 1) := by decide +kernel
theorem dX6_movedRequest_23 : decode cX6_movedRequest 23 = .ok (.goto 8, 3) := by decide +kernel
theorem dX6_movedRequest_26 : decode cX6_movedRequest 26 = .ok (.aload_n 0, 1) := by decide +kernel
theorem dX6_movedRequest_27 : decode cX6_movedRequest 27 = .ok (.iconst 1, 1) := by decide +kernel
theorem dX6_movedRequest_28 : decode cX6_movedRequest 28 = .ok (.invokevirtual 116, 3) := by decide +kernel
theorem dX6_movedRequest_31 : decode cX6_movedRequest 31 = .ok (.ireturn, 1) := by decide +kernel
theorem dX6_movedTo_0 : decode cX6_movedTo 0 = .ok (.aload_n 0, 1) := by decide +kernel
theorem dX6_movedTo_1 : decode cX6_movedTo 1 = .ok (.iconst 0, 1) := by decide +kernel
theorem dX6_movedTo_2 : decode cX6_movedTo 2 = .ok (.putfield 60, 3) := by decide +kernel
theorem dX6_movedTo_5 : decode cX6_movedTo 5 = .ok (.iload_n 1, 1) := by decide +kernel
theorem dX6_movedTo_6 : decode cX6_movedTo 6 = .ok (.ifCond .lt 20, 3) := by decide +kernel
theorem dX6_movedTo_9 : decode cX6_movedTo 9 = .ok (.iload_n 1, 1) := by decide +kernel
theorem dX6_movedTo_10 : decode cX6_movedTo 10 = .ok (.aload_n 0, 1) := by decide +kernel
theorem dX6_movedTo_11 : decode cX6_movedTo 11 = .ok (.getfield 102, 3) := by decide +kernel
theorem dX6_movedTo_14 : decode cX6_movedTo 14 = .ok (.if_icmp .ge 12, 3) := by decide +kernel
theorem dX6_movedTo_17 : decode cX6_movedTo 17 = .ok (.aload_n 0, 1) := by decide +kernel
theorem dX6_movedTo_18 : decode cX6_movedTo 18 = .ok (.getfield 44, 3) := by decide +kernel
theorem dX6_movedTo_21 : decode cX6_movedTo 21 = .ok (.iload_n 1, 1) := by decide +kernel
theorem dX6_movedTo_22 : decode cX6_movedTo 22 = .ok (.iaload, 1) := by decide +kernel
theorem dX6_movedTo_23 : decode cX6_movedTo 23 = .ok (.goto 8, 3) := by decide +kernel
theorem dX6_movedTo_26 : decode cX6_movedTo 26 = .ok (.aload_n 0, 1) := by decide +kernel
theorem dX6_movedTo_27 : decode cX6_movedTo 27 = .ok (.iconst 1, 1) := by decide +kernel
theorem dX6_movedTo_28 : decode cX6_movedTo 28 = .ok (.invokevirtual 116, 3) := by decide +kernel
theorem dX6_movedTo_31 : decode cX6_movedTo 31 = .ok (.ireturn, 1) := by decide +kernel
theorem dX6_movesNeeded_0 : decode cX6_movesNeeded 0 = .ok (.aload_n 0, 1) := by decide +kernel
theorem dX6_movesNeeded_1 : decode cX6_movesNeeded 1 = .ok (.iconst 0, 1) := by decide +kernel
theorem dX6_movesNeeded_2 : decode cX6_movesNeeded 2 = .ok (.putfield 60, 3) := by decide +kernel
theorem dX6_movesNeeded_5 : decode cX6_movesNeeded 5 = .ok (.aload_n 0, 1) := by decide +kernel
theorem dX6_movesNeeded_6 : decode cX6_movesNeeded 6 = .ok (.iload_n 1, 1) := by decide +kernel
theorem dX6_movesNeeded_7 : decode cX6_movesNeeded 7 = .ok (.invokevirtual 131, 3) := by decide +kernel
theorem dX6_movesNeeded_10 : decode cX6_movesNeeded 10 = .ok (.ifCond .ne 9, 3) := by decide +kernel
theorem dX6_movesNeeded_13 : decode cX6_movesNeeded 13 = .ok (.aload_n 0, 1) := by decide +kernel
theorem dX6_movesNeeded_14 : decode cX6_movesNeeded 14 = .ok (.iconst 1, 1) := by decide +kernel
theorem dX6_movesNeeded_15 : decode cX6_movesNeeded 15 = .ok (.invokevirtual 116, 3) := by decide +kernel
theorem dX6_movesNeeded_18 : decode cX6_movesNeeded 18 = .ok (.ireturn, 1) := by decide +kernel
theorem dX6_movesNeeded_19 : decode cX6_movesNeeded 19 = .ok (.aload_n 0, 1) := by decide +kernel
theorem dX6_movesNeeded_20 : decode cX6_movesNeeded 20 = .ok (.getfield 25, 3) := by decide +kernel
theorem dX6_movesNeeded_23 : decode cX6_movesNeeded 23 = .ok (.iload_n 1, 1) := by decide +kernel
theorem dX6_movesNeeded_24 : decode cX6_movesNeeded 24 = .ok (.iaload, 1) := by decide +kernel
theorem dX6_movesNeeded_25 : decode cX6_movesNeeded 25 = .ok (.ifCond .eq 9, 3) := by decide +kernel
theorem dX6_movesNeeded_28 : decode cX6_movesNeeded 28 = .ok (.aload_n 0, 1) := by decide +kernel
theorem dX6_movesNeeded_29 : decode cX6_movesNeeded 29 = .ok (.iconst 2, 1) := by decide +kernel
theorem dX6_movesNeeded_30 : decode cX6_movesNeeded 30 = .ok (.invokevirtual 116, 3) := by decide +kernel
theorem dX6_movesNeeded_33 : decode cX6_movesNeeded 33 = .ok (.ireturn, 1) := by decide +kernel
theorem dX6_movesNeeded_34 : decode cX6_movesNeeded 34 = .ok (.aload_n 0, 1) := by decide +kernel
theorem dX6_movesNeeded_35 : decode cX6_movesNeeded 35 = .ok (.iload_n 1, 1) := by decide +kernel
theorem dX6_movesNeeded_36 : decode cX6_movesNeeded 36 = .ok (.invokevirtual 92, 3) := by decide +kernel
theorem dX6_movesNeeded_39 : decode cX6_movesNeeded 39 = .ok (.istore_n 2, 1) := by decide +kernel
theorem dX6_movesNeeded_40 : decode cX6_movesNeeded 40 = .ok (.iload_n 2, 1) := by decide +kernel
theorem dX6_movesNeeded_41 : decode cX6_movesNeeded 41 = .ok (.iconst (-1), 1) := by decide +kernel
theorem dX6_movesNeeded_42 : decode cX6_movesNeeded 42 = .ok (.if_icmp .ne 7, 3) := by decide +kernel
theorem dX6_movesNeeded_45 : decode cX6_movesNeeded 45 = .ok (.iconst (-1), 1) := by decide +kernel
theorem dX6_movesNeeded_46 : decode cX6_movesNeeded 46 = .ok (.goto 11, 3) := by decide +kernel
theorem dX6_movesNeeded_49 : decode cX6_movesNeeded 49 = .ok (.aload_n 0, 1) := by decide +kernel
theorem dX6_movesNeeded_50 : decode cX6_movesNeeded 50 = .ok (.getfield 47, 3) := by decide +kernel
theorem dX6_movesNeeded_53 : decode cX6_movesNeeded 53 = .ok (.iload_n 2, 1) := by decide +kernel
theorem dX6_movesNeeded_54 : decode cX6_movesNeeded 54 = .ok (.iaload, 1) := by decide +kernel
theorem dX6_movesNeeded_55 : decode cX6_movesNeeded 55 = .ok (.iconst 1, 1) := by decide +kernel
theorem dX6_movesNeeded_56 : decode cX6_movesNeeded 56 = .ok (.isub, 1) := by decide +kernel
theorem dX6_movesNeeded_57 : decode cX6_movesNeeded 57 = .ok (.ireturn, 1) := by decide +kernel
theorem dX6_possible_0 : decode cX6_possible 0 = .ok (.bipush 40, 2) := by decide +kernel
theorem dX6_possible_2 : decode cX6_possible 2 = .ok (.istore_n 1, 1) := by decide +kernel
theorem dX6_possible_3 : decode cX6_possible 3 = .ok (.iconst 0, 1) := by decide +kernel
theorem dX6_possible_4 : decode cX6_possible 4 = .ok (.istore_n 2, 1) := by decide +kernel
theorem dX6_possible_5 : decode cX6_possible 5 = .ok (.iload_n 2, 1) := by decide +kernel
theorem dX6_possible_6 : decode cX6_possible 6 = .ok (.bipush 16, 2) := by decide +kernel
theorem dX6_possible_8 : decode cX6_possible 8 = .ok (.if_icmp .ge 181, 3) := by decide +kernel
theorem dX6_possible_11 : decode cX6_possible 11 = .ok (.iconst 0, 1) := by decide +kernel
theorem dX6_possible_12 : decode cX6_possible 12 = .ok (.istore_n 3, 1) := by decide +kernel
theorem dX6_possible_13 : decode cX6_possible 13 = .ok (.iload_n 3, 1) := by decide +kernel
theorem dX6_possible_14 : decode cX6_possible 14 = .ok (.iconst 1, 1) := by decide +kernel
theorem dX6_possible_15 : decode cX6_possible 15 = .ok (.aload_n 0, 1) := by decide +kernel
theorem dX6_possible_16 : decode cX6_possible 16 = .ok (.getfield 63, 3) := by decide +kernel
theorem dX6_possible_19 : decode cX6_possible 19 = .ok (.ishl, 1) := by decide +kernel
theorem dX6_possible_20 : decode cX6_possible 20 = .ok (.if_icmp .ge 163, 3) := by decide +kernel
theorem dX6_possible_23 : decode cX6_possible 23 = .ok (.iconst 0, 1) := by decide +kernel
theorem dX6_possible_24 : decode cX6_possible 24 = .ok (.istore 4, 2) := by decide +kernel
theorem dX6_possible_26 : decode cX6_possible 26 = .ok (.iconst 0, 1) := by decide +kernel
theorem dX6_possible_27 : decode cX6_possible 27 = .ok (.istore 5, 2) := by decide +kernel
theorem dX6_possible_29 : decode cX6_possible 29 = .ok (.iload 5, 2) := by decide +kernel
theorem dX6_possible_31 : decode cX6_possible 31 = .ok (.iconst 4, 1) := by decide +kernel
theorem dX6_possible_32 : decode cX6_possible 32 = .ok (.if_icmp .ge 28, 3) := by decide +kernel
theorem dX6_possible_35 : decode cX6_possible 35 = .ok (.iload 4, 2) := by decide +kernel
theorem dX6_possible_37 : decode cX6_possible 37 = .ok (.iload_n 2, 1) := by decide +kernel
theorem dX6_possible_38 : decode cX6_possible 38 = .ok (.iload 5, 2) := by decide +kernel
theorem dX6_possible_40 : decode cX6_possible 40 = .ok (.ishr, 1) := by decide +kernel
theorem dX6_possible_41 : decode cX6_possible 41 = .ok (.iconst 1, 1) := by decide +kernel
theorem dX6_possible_42 : decode cX6_possible 42 = .ok (.iand, 1) := by decide +kernel
theorem dX6_possible_43 : decode cX6_possible 43 = .ok (.aload_n 0, 1) := by decide +kernel
theorem dX6_possible_44 : decode cX6_possible 44 = .ok (.getfield 13, 3) := by decide +kernel
theorem dX6_possible_47 : decode cX6_possible 47 = .ok (.iload 5, 2) := by decide +kernel
theorem dX6_possible_49 : decode cX6_possible 49 = .ok (.iaload, 1) := by decide +kernel
theorem dX6_possible_50 : decode cX6_possible 50 = .ok (.imul, 1) := by decide +kernel
theorem dX6_possible_51 : decode cX6_possible 51 = .ok (.iadd, 1) := by decide +kernel
theorem dX6_possible_52 : decode cX6_possible 52 = .ok (.istore 4, 2) := by decide +kernel
theorem dX6_possible_54 : decode cX6_possible 54 = .ok (.iinc 5 1, 3) := by decide +kernel
theorem dX6_possible_57 : decode cX6_possible 57 = .ok (.goto (-28), 3) := by decide +kernel
theorem dX6_possible_60 : decode cX6_possible 60 = .ok (.iconst 0, 1) := by decide +kernel
theorem dX6_possible_61 : decode cX6_possible 61 = .ok (.istore 5, 2) := by decide +kernel
theorem dX6_possible_63 : decode cX6_possible 63 = .ok (.iload 5, 2) := by decide +kernel
theorem dX6_possible_65 : decode cX6_possible 65 = .ok (.aload_n 0, 1) := by decide +kernel
theorem dX6_possible_66 : decode cX6_possible 66 = .ok (.getfield 63, 3) := by decide +kernel
theorem dX6_possible_69 : decode cX6_possible 69 = .ok (.if_icmp .ge 28, 3) := by decide +kernel
theorem dX6_possible_72 : decode cX6_possible 72 = .ok (.iload 4, 2) := by decide +kernel
theorem dX6_possible_74 : decode cX6_possible 74 = .ok (.iload_n 3, 1) := by decide +kernel
theorem dX6_possible_75 : decode cX6_possible 75 = .ok (.iload 5, 2) := by decide +kernel
theorem dX6_possible_77 : decode cX6_possible 77 = .ok (.ishr, 1) := by decide +kernel
theorem dX6_possible_78 : decode cX6_possible 78 = .ok (.iconst 1, 1) := by decide +kernel
theorem dX6_possible_79 : decode cX6_possible 79 = .ok (.iand, 1) := by decide +kernel
theorem dX6_possible_80 : decode cX6_possible 80 = .ok (.aload_n 0, 1) := by decide +kernel
theorem dX6_possible_81 : decode cX6_possible 81 = .ok (.getfield 9, 3) := by decide +kernel
theorem dX6_possible_84 : decode cX6_possible 84 = .ok (.iload 5, 2) := by decide +kernel
theorem dX6_possible_86 : decode cX6_possible 86 = .ok (.iaload, 1) := by decide +kernel
theorem dX6_possible_87 : decode cX6_possible 87 = .ok (.imul, 1) := by decide +kernel
theorem dX6_possible_88 : decode cX6_possible 88 = .ok (.iadd, 1) := by decide +kernel
theorem dX6_possible_89 : decode cX6_possible 89 = .ok (.istore 4, 2) := by decide +kernel
theorem dX6_possible_91 : decode cX6_possible 91 = .ok (.iinc 5 1, 3) := by decide +kernel
theorem dX6_possible_94 : decode cX6_possible 94 = .ok (.goto (-31), 3) := by decide +kernel
theorem dX6_possible_97 : decode cX6_possible 97 = .ok (.iconst 0, 1) := by decide +kernel
theorem dX6_possible_98 : decode cX6_possible 98 = .ok (.istore 5, 2) := by decide +kernel
theorem dX6_possible_100 : decode cX6_possible 100 = .ok (.iload 5, 2) := by decide +kernel
theorem dX6_possible_102 : decode cX6_possible 102 = .ok (.aload_n 0, 1) := by decide +kernel
theorem dX6_possible_103 : decode cX6_possible 103 = .ok (.getfield 66, 3) := by decide +kernel
theorem dX6_possible_106 : decode cX6_possible 106 = .ok (.if_icmp .ge 64, 3) := by decide +kernel
theorem dX6_possible_109 : decode cX6_possible 109 = .ok (.iload 4, 2) := by decide +kernel
theorem dX6_possible_111 : decode cX6_possible 111 = .ok (.iload_n 1, 1) := by decide +kernel
theorem dX6_possible_112 : decode cX6_possible 112 = .ok (.if_icmp .ge 58, 3) := by decide +kernel
theorem dX6_possible_115 : decode cX6_possible 115 = .ok (.iload 4, 2) := by decide +kernel
theorem dX6_possible_117 : decode cX6_possible 117 = .ok (.aload_n 0, 1) := by decide +kernel
theorem dX6_possible_118 : decode cX6_possible 118 = .ok (.getfield 25, 3) := by decide +kernel
theorem dX6_possible_121 : decode cX6_possible 121 = .ok (.iload 5, 2) := by decide +kernel
theorem dX6_possible_123 : decode cX6_possible 123 = .ok (.iaload, 1) := by decide +kernel
theorem dX6_possible_124 : decode cX6_possible 124 = .ok (.iconst 2, 1) := by decide +kernel
theorem dX6_possible_125 : decode cX6_possible 125 = .ok (.if_icmp .eq 35, 3) := by decide +kernel
theorem dX6_possible_128 : decode cX6_possible 128 = .ok (.iload_n 2, 1) := by decide +kernel
theorem dX6_possible_129 : decode cX6_possible 129 = .ok (.aload_n 0, 1) := by decide +kernel
theorem dX6_possible_130 : decode cX6_possible 130 = .ok (.getfield 19, 3) := by decide +kernel
theorem dX6_possible_133 : decode cX6_possible 133 = .ok (.iload 5, 2) := by decide +kernel
theorem dX6_possible_135 : decode cX6_possible 135 = .ok (.iaload, 1) := by decide +kernel
theorem dX6_possible_136 : decode cX6_possible 136 = .ok (.ishr, 1) := by decide +kernel
theorem dX6_possible_137 : decode cX6_possible 137 = .ok (.iconst 1, 1) := by decide +kernel
theorem dX6_possible_138 : decode cX6_possible 138 = .ok (.iand, 1) := by decide +kernel
theorem dX6_possible_139 : decode cX6_possible 139 = .ok (.ifCond .ne 21, 3) := by decide +kernel
theorem dX6_possible_142 : decode cX6_possible 142 = .ok (.aload_n 0, 1) := by decide +kernel
theorem dX6_possible_143 : decode cX6_possible 143 = .ok (.getfield 22, 3) := by decide +kernel
theorem dX6_possible_146 : decode cX6_possible 146 = .ok (.iload 5, 2) := by decide +kernel
theorem dX6_possible_148 : decode cX6_possible 148 = .ok (.iaload, 1) := by decide +kernel
theorem dX6_possible_149 : decode cX6_possible 149 = .ok (.iload_n 3, 1) := by decide +kernel
theorem dX6_possible_150 : decode cX6_possible 150 = .ok (.iconst (-1), 1) := by decide +kernel
theorem dX6_possible_151 : decode cX6_possible 151 = .ok (.ixor, 1) := by decide +kernel
theorem dX6_possible_152 : decode cX6_possible 152 = .ok (.iand, 1) := by decide +kernel
theorem dX6_possible_153 : decode cX6_possible 153 = .ok (.ifCond .eq 7, 3) := by decide +kernel
theorem dX6_possible_156 : decode cX6_possible 156 = .ok (.iconst 1, 1) := by decide +kernel
theorem dX6_possible_157 : decode cX6_possible 157 = .ok (.goto 4, 3) := by decide +kernel
theorem dX6_possible_160 : decode cX6_possible 160 = .ok (.iconst 0, 1) := by decide +kernel
theorem dX6_possible_161 : decode cX6_possible 161 = .ok (.iadd, 1) := by decide +kernel
theorem dX6_possible_162 : decode cX6_possible 162 = .ok (.istore 4, 2) := by decide +kernel
theorem dX6_possible_164 : decode cX6_possible 164 = .ok (.iinc 5 1, 3) := by decide +kernel
theorem dX6_possible_167 : decode cX6_possible 167 = .ok (.goto (-67), 3) := by decide +kernel
theorem dX6_possible_170 : decode cX6_possible 170 = .ok (.iload_n 1, 1) := by decide +kernel
theorem dX6_possible_171 : decode cX6_possible 171 = .ok (.iload 4, 2) := by decide +kernel
theorem dX6_possible_173 : decode cX6_possible 173 = .ok (.invokestatic 137, 3) := by decide +kernel
theorem dX6_possible_176 : decode cX6_possible 176 = .ok (.istore_n 1, 1) := by decide +kernel
theorem dX6_possible_177 : decode cX6_possible 177 = .ok (.iinc 3 1, 3) := by decide +kernel
theorem dX6_possible_180 : decode cX6_possible 180 = .ok (.goto (-167), 3) := by decide +kernel
theorem dX6_possible_183 : decode cX6_possible 183 = .ok (.iinc 2 1, 3) := by decide +kernel
theorem dX6_possible_186 : decode cX6_possible 186 = .ok (.goto (-181), 3) := by decide +kernel
theorem dX6_possible_189 : decode cX6_possible 189 = .ok (.iload_n 1, 1) := by decide +kernel
theorem dX6_possible_190 : decode cX6_possible 190 = .ok (.ireturn, 1) := by decide +kernel
theorem dX6_greatestPossible_0 : decode cX6_greatestPossible 0 = .ok (.aload_n 0, 1) := by decide +kernel
theorem dX6_greatestPossible_1 : decode cX6_greatestPossible 1 = .ok (.iconst 0, 1) := by decide +kernel
theorem dX6_greatestPossible_2 : decode cX6_greatestPossible 2 = .ok (.putfield 60, 3) := by decide +kernel
theorem dX6_greatestPossible_5 : decode cX6_greatestPossible 5 = .ok (.aload_n 0, 1) := by decide +kernel
theorem dX6_greatestPossible_6 : decode cX6_greatestPossible 6 = .ok (.invokevirtual 143, 3) := by decide +kernel
theorem dX6_greatestPossible_9 : decode cX6_greatestPossible 9 = .ok (.ireturn, 1) := by decide +kernel
theorem dX6_gainBy_0 : decode cX6_gainBy 0 = .ok (.aload_n 0, 1) := by decide +kernel
theorem dX6_gainBy_1 : decode cX6_gainBy 1 = .ok (.iconst 0, 1) := by decide +kernel
theorem dX6_gainBy_2 : decode cX6_gainBy 2 = .ok (.putfield 60, 3) := by decide +kernel
theorem dX6_gainBy_5 : decode cX6_gainBy 5 = .ok (.aload_n 0, 1) := by decide +kernel
theorem dX6_gainBy_6 : decode cX6_gainBy 6 = .ok (.iload_n 1, 1) := by decide +kernel
theorem dX6_gainBy_7 : decode cX6_gainBy 7 = .ok (.invokevirtual 131, 3) := by decide +kernel
theorem dX6_gainBy_10 : decode cX6_gainBy 10 = .ok (.ifCond .ne 9, 3) := by decide +kernel
theorem dX6_gainBy_13 : decode cX6_gainBy 13 = .ok (.aload_n 0, 1) := by decide +kernel
theorem dX6_gainBy_14 : decode cX6_gainBy 14 = .ok (.iconst 1, 1) := by decide +kernel
theorem dX6_gainBy_15 : decode cX6_gainBy 15 = .ok (.invokevirtual 116, 3) := by decide +kernel
theorem dX6_gainBy_18 : decode cX6_gainBy 18 = .ok (.ireturn, 1) := by decide +kernel
theorem dX6_gainBy_19 : decode cX6_gainBy 19 = .ok (.aload_n 0, 1) := by decide +kernel
theorem dX6_gainBy_20 : decode cX6_gainBy 20 = .ok (.getfield 25, 3) := by decide +kernel
theorem dX6_gainBy_23 : decode cX6_gainBy 23 = .ok (.iload_n 1, 1) := by decide +kernel
theorem dX6_gainBy_24 : decode cX6_gainBy 24 = .ok (.iaload, 1) := by decide +kernel
theorem dX6_gainBy_25 : decode cX6_gainBy 25 = .ok (.iconst 2, 1) := by decide +kernel
theorem dX6_gainBy_26 : decode cX6_gainBy 26 = .ok (.if_icmp .ne 5, 3) := by decide +kernel
theorem dX6_gainBy_29 : decode cX6_gainBy 29 = .ok (.iconst 0, 1) := by decide +kernel
theorem dX6_gainBy_30 : decode cX6_gainBy 30 = .ok (.ireturn, 1) := by decide +kernel
theorem dX6_gainBy_31 : decode cX6_gainBy 31 = .ok (.aload_n 0, 1) := by decide +kernel
theorem dX6_gainBy_32 : decode cX6_gainBy 32 = .ok (.invokevirtual 143, 3) := by decide +kernel
theorem dX6_gainBy_35 : decode cX6_gainBy 35 = .ok (.istore_n 2, 1) := by decide +kernel
theorem dX6_gainBy_36 : decode cX6_gainBy 36 = .ok (.aload_n 0, 1) := by decide +kernel
theorem dX6_gainBy_37 : decode cX6_gainBy 37 = .ok (.getfield 22, 3) := by decide +kernel
theorem dX6_gainBy_40 : decode cX6_gainBy 40 = .ok (.iload_n 1, 1) := by decide +kernel
theorem dX6_gainBy_41 : decode cX6_gainBy 41 = .ok (.iaload, 1) := by decide +kernel
theorem dX6_gainBy_42 : decode cX6_gainBy 42 = .ok (.istore_n 3, 1) := by decide +kernel
theorem dX6_gainBy_43 : decode cX6_gainBy 43 = .ok (.aload_n 0, 1) := by decide +kernel
theorem dX6_gainBy_44 : decode cX6_gainBy 44 = .ok (.getfield 22, 3) := by decide +kernel
theorem dX6_gainBy_47 : decode cX6_gainBy 47 = .ok (.iload_n 1, 1) := by decide +kernel
theorem dX6_gainBy_48 : decode cX6_gainBy 48 = .ok (.iconst 1, 1) := by decide +kernel
theorem dX6_gainBy_49 : decode cX6_gainBy 49 = .ok (.aload_n 0, 1) := by decide +kernel
theorem dX6_gainBy_50 : decode cX6_gainBy 50 = .ok (.getfield 63, 3) := by decide +kernel
theorem dX6_gainBy_53 : decode cX6_gainBy 53 = .ok (.ishl, 1) := by decide +kernel
theorem dX6_gainBy_54 : decode cX6_gainBy 54 = .ok (.iconst 1, 1) := by decide +kernel
theorem dX6_gainBy_55 : decode cX6_gainBy 55 = .ok (.isub, 1) := by decide +kernel
theorem dX6_gainBy_56 : decode cX6_gainBy 56 = .ok (.iastore, 1) := by decide +kernel
theorem dX6_gainBy_57 : decode cX6_gainBy 57 = .ok (.aload_n 0, 1) := by decide +kernel
theorem dX6_gainBy_58 : decode cX6_gainBy 58 = .ok (.invokevirtual 143, 3) := by decide +kernel
theorem dX6_gainBy_61 : decode cX6_gainBy 61 = .ok (.istore 4, 2) := by decide +kernel
theorem dX6_gainBy_63 : decode cX6_gainBy 63 = .ok (.aload_n 0, 1) := by decide +kernel
theorem dX6_gainBy_64 : decode cX6_gainBy 64 = .ok (.getfield 22, 3) := by decide +kernel
theorem dX6_gainBy_67 : decode cX6_gainBy 67 = .ok (.iload_n 1, 1) := by decide +kernel
theorem dX6_gainBy_68 : decode cX6_gainBy 68 = .ok (.iload_n 3, 1) := by decide +kernel
theorem dX6_gainBy_69 : decode cX6_gainBy 69 = .ok (.iastore, 1) := by decide +kernel
theorem dX6_gainBy_70 : decode cX6_gainBy 70 = .ok (.iload 4, 2) := by decide +kernel
theorem dX6_gainBy_72 : decode cX6_gainBy 72 = .ok (.iload_n 2, 1) := by decide +kernel
theorem dX6_gainBy_73 : decode cX6_gainBy 73 = .ok (.isub, 1) := by decide +kernel
theorem dX6_gainBy_74 : decode cX6_gainBy 74 = .ok (.ireturn, 1) := by decide +kernel
theorem dX6_fairness_0 : decode cX6_fairness 0 = .ok (.aload_n 0, 1) := by decide +kernel
theorem dX6_fairness_1 : decode cX6_fairness 1 = .ok (.iconst 0, 1) := by decide +kernel
theorem dX6_fairness_2 : decode cX6_fairness 2 = .ok (.putfield 60, 3) := by decide +kernel
theorem dX6_fairness_5 : decode cX6_fairness 5 = .ok (.dconst 0, 1) := by decide +kernel
theorem dX6_fairness_6 : decode cX6_fairness 6 = .ok (.dstore_n 1, 1) := by decide +kernel
theorem dX6_fairness_7 : decode cX6_fairness 7 = .ok (.dconst 0, 1) := by decide +kernel
theorem dX6_fairness_8 : decode cX6_fairness 8 = .ok (.dstore_n 3, 1) := by decide +kernel
theorem dX6_fairness_9 : decode cX6_fairness 9 = .ok (.iconst 0, 1) := by decide +kernel
theorem dX6_fairness_10 : decode cX6_fairness 10 = .ok (.istore 5, 2) := by decide +kernel
theorem dX6_fairness_12 : decode cX6_fairness 12 = .ok (.iload 5, 2) := by decide +kernel
theorem dX6_fairness_14 : decode cX6_fairness 14 = .ok (.iconst 4, 1) := by decide +kernel
theorem dX6_fairness_15 : decode cX6_fairness 15 = .ok (.if_icmp .ge 40, 3) := by decide +kernel
theorem dX6_fairness_18 : decode cX6_fairness 18 = .ok (.aload_n 0, 1) := by decide +kernel
theorem dX6_fairness_19 : decode cX6_fairness 19 = .ok (.iload 5, 2) := by decide +kernel
theorem dX6_fairness_21 : decode cX6_fairness 21 = .ok (.invokevirtual 89, 3) := by decide +kernel
theorem dX6_fairness_24 : decode cX6_fairness 24 = .ok (.i2d, 1) := by decide +kernel
theorem dX6_fairness_25 : decode cX6_fairness 25 = .ok (.aload_n 0, 1) := by decide +kernel
theorem dX6_fairness_26 : decode cX6_fairness 26 = .ok (.getfield 16, 3) := by decide +kernel
theorem dX6_fairness_29 : decode cX6_fairness 29 = .ok (.iload 5, 2) := by decide +kernel
theorem dX6_fairness_31 : decode cX6_fairness 31 = .ok (.iaload, 1) := by decide +kernel
theorem dX6_fairness_32 : decode cX6_fairness 32 = .ok (.i2d, 1) := by decide +kernel
theorem dX6_fairness_33 : decode cX6_fairness 33 = .ok (.ddiv, 1) := by decide +kernel
theorem dX6_fairness_34 : decode cX6_fairness 34 = .ok (.dstore 6, 2) := by decide +kernel
theorem dX6_fairness_36 : decode cX6_fairness 36 = .ok (.dload_n 1, 1) := by decide +kernel
theorem dX6_fairness_37 : decode cX6_fairness 37 = .ok (.dload 6, 2) := by decide +kernel
theorem dX6_fairness_39 : decode cX6_fairness 39 = .ok (.dadd, 1) := by decide +kernel
theorem dX6_fairness_40 : decode cX6_fairness 40 = .ok (.dstore_n 1, 1) := by decide +kernel
theorem dX6_fairness_41 : decode cX6_fairness 41 = .ok (.dload_n 3, 1) := by decide +kernel
theorem dX6_fairness_42 : decode cX6_fairness 42 = .ok (.dload 6, 2) := by decide +kernel
theorem dX6_fairness_44 : decode cX6_fairness 44 = .ok (.dload 6, 2) := by decide +kernel
theorem dX6_fairness_46 : decode cX6_fairness 46 = .ok (.dmul, 1) := by decide +kernel
theorem dX6_fairness_47 : decode cX6_fairness 47 = .ok (.dadd, 1) := by decide +kernel
theorem dX6_fairness_48 : decode cX6_fairness 48 = .ok (.dstore_n 3, 1) := by decide +kernel
theorem dX6_fairness_49 : decode cX6_fairness 49 = .ok (.iinc 5 1, 3) := by decide +kernel
theorem dX6_fairness_52 : decode cX6_fairness 52 = .ok (.goto (-40), 3) := by decide +kernel
theorem dX6_fairness_55 : decode cX6_fairness 55 = .ok (.aload_n 0, 1) := by decide +kernel
theorem dX6_fairness_56 : decode cX6_fairness 56 = .ok (.iconst 1, 1) := by decide +kernel
theorem dX6_fairness_57 : decode cX6_fairness 57 = .ok (.invokevirtual 134, 3) := by decide +kernel
theorem dX6_fairness_60 : decode cX6_fairness 60 = .ok (.ifCond .ne 7, 3) := by decide +kernel
theorem dX6_fairness_63 : decode cX6_fairness 63 = .ok (.dconst 1, 1) := by decide +kernel
theorem dX6_fairness_64 : decode cX6_fairness 64 = .ok (.goto 12, 3) := by decide +kernel
theorem dX6_fairness_67 : decode cX6_fairness 67 = .ok (.dload_n 1, 1) := by decide +kernel
theorem dX6_fairness_68 : decode cX6_fairness 68 = .ok (.dload_n 1, 1) := by decide +kernel
theorem dX6_fairness_69 : decode cX6_fairness 69 = .ok (.dmul, 1) := by decide +kernel
theorem dX6_fairness_70 : decode cX6_fairness 70 = .ok (.ldc2_w 146, 3) := by decide +kernel
theorem dX6_fairness_73 : decode cX6_fairness 73 = .ok (.dload_n 3, 1) := by decide +kernel
theorem dX6_fairness_74 : decode cX6_fairness 74 = .ok (.dmul, 1) := by decide +kernel
theorem dX6_fairness_75 : decode cX6_fairness 75 = .ok (.ddiv, 1) := by decide +kernel
theorem dX6_fairness_76 : decode cX6_fairness 76 = .ok (.dreturn, 1) := by decide +kernel
theorem dX6_digest_0 : decode cX6_digest 0 = .ok (.aload_n 0, 1) := by decide +kernel
theorem dX6_digest_1 : decode cX6_digest 1 = .ok (.iconst 0, 1) := by decide +kernel
theorem dX6_digest_2 : decode cX6_digest 2 = .ok (.putfield 60, 3) := by decide +kernel
theorem dX6_digest_5 : decode cX6_digest 5 = .ok (.ldc2_w 148, 3) := by decide +kernel
theorem dX6_digest_8 : decode cX6_digest 8 = .ok (.aload_n 0, 1) := by decide +kernel
theorem dX6_digest_9 : decode cX6_digest 9 = .ok (.getfield 63, 3) := by decide +kernel
theorem dX6_digest_12 : decode cX6_digest 12 = .ok (.i2l, 1) := by decide +kernel
theorem dX6_digest_13 : decode cX6_digest 13 = .ok (.ladd, 1) := by decide +kernel
theorem dX6_digest_14 : decode cX6_digest 14 = .ok (.ldc2_w 150, 3) := by decide +kernel
theorem dX6_digest_17 : decode cX6_digest 17 = .ok (.lmul, 1) := by decide +kernel
theorem dX6_digest_18 : decode cX6_digest 18 = .ok (.aload_n 0, 1) := by decide +kernel
theorem dX6_digest_19 : decode cX6_digest 19 = .ok (.getfield 66, 3) := by decide +kernel
theorem dX6_digest_22 : decode cX6_digest 22 = .ok (.i2l, 1) := by decide +kernel
theorem dX6_digest_23 : decode cX6_digest 23 = .ok (.ladd, 1) := by decide +kernel
theorem dX6_digest_24 : decode cX6_digest 24 = .ok (.lstore_n 1, 1) := by decide +kernel
theorem dX6_digest_25 : decode cX6_digest 25 = .ok (.iconst 0, 1) := by decide +kernel
theorem dX6_digest_26 : decode cX6_digest 26 = .ok (.istore_n 3, 1) := by decide +kernel
theorem dX6_digest_27 : decode cX6_digest 27 = .ok (.iload_n 3, 1) := by decide +kernel
theorem dX6_digest_28 : decode cX6_digest 28 = .ok (.aload_n 0, 1) := by decide +kernel
theorem dX6_digest_29 : decode cX6_digest 29 = .ok (.getfield 63, 3) := by decide +kernel
theorem dX6_digest_32 : decode cX6_digest 32 = .ok (.if_icmp .ge 34, 3) := by decide +kernel
theorem dX6_digest_35 : decode cX6_digest 35 = .ok (.lload_n 1, 1) := by decide +kernel
theorem dX6_digest_36 : decode cX6_digest 36 = .ok (.ldc2_w 150, 3) := by decide +kernel
theorem dX6_digest_39 : decode cX6_digest 39 = .ok (.lmul, 1) := by decide +kernel
theorem dX6_digest_40 : decode cX6_digest 40 = .ok (.aload_n 0, 1) := by decide +kernel
theorem dX6_digest_41 : decode cX6_digest 41 = .ok (.getfield 9, 3) := by decide +kernel
theorem dX6_digest_44 : decode cX6_digest 44 = .ok (.iload_n 3, 1) := by decide +kernel
theorem dX6_digest_45 : decode cX6_digest 45 = .ok (.iaload, 1) := by decide +kernel
theorem dX6_digest_46 : decode cX6_digest 46 = .ok (.i2l, 1) := by decide +kernel
theorem dX6_digest_47 : decode cX6_digest 47 = .ok (.ladd, 1) := by decide +kernel
theorem dX6_digest_48 : decode cX6_digest 48 = .ok (.ldc2_w 150, 3) := by decide +kernel
theorem dX6_digest_51 : decode cX6_digest 51 = .ok (.lmul, 1) := by decide +kernel
theorem dX6_digest_52 : decode cX6_digest 52 = .ok (.aload_n 0, 1) := by decide +kernel
theorem dX6_digest_53 : decode cX6_digest 53 = .ok (.iload_n 3, 1) := by decide +kernel
theorem dX6_digest_54 : decode cX6_digest 54 = .ok (.invokevirtual 73, 3) := by decide +kernel
theorem dX6_digest_57 : decode cX6_digest 57 = .ok (.i2l, 1) := by decide +kernel
theorem dX6_digest_58 : decode cX6_digest 58 = .ok (.ladd, 1) := by decide +kernel
theorem dX6_digest_59 : decode cX6_digest 59 = .ok (.lstore_n 1, 1) := by decide +kernel
theorem dX6_digest_60 : decode cX6_digest 60 = .ok (.iinc 3 1, 3) := by decide +kernel
theorem dX6_digest_63 : decode cX6_digest 63 = .ok (.goto (-36), 3) := by decide +kernel
theorem dX6_digest_66 : decode cX6_digest 66 = .ok (.iconst 0, 1) := by decide +kernel
theorem dX6_digest_67 : decode cX6_digest 67 = .ok (.istore_n 3, 1) := by decide +kernel
theorem dX6_digest_68 : decode cX6_digest 68 = .ok (.iload_n 3, 1) := by decide +kernel
theorem dX6_digest_69 : decode cX6_digest 69 = .ok (.aload_n 0, 1) := by decide +kernel
theorem dX6_digest_70 : decode cX6_digest 70 = .ok (.getfield 66, 3) := by decide +kernel
theorem dX6_digest_73 : decode cX6_digest 73 = .ok (.if_icmp .ge 59, 3) := by decide +kernel
theorem dX6_digest_76 : decode cX6_digest 76 = .ok (.lload_n 1, 1) := by decide +kernel
theorem dX6_digest_77 : decode cX6_digest 77 = .ok (.ldc2_w 150, 3) := by decide +kernel
theorem dX6_digest_80 : decode cX6_digest 80 = .ok (.lmul, 1) := by decide +kernel
theorem dX6_digest_81 : decode cX6_digest 81 = .ok (.aload_n 0, 1) := by decide +kernel
theorem dX6_digest_82 : decode cX6_digest 82 = .ok (.getfield 25, 3) := by decide +kernel
theorem dX6_digest_85 : decode cX6_digest 85 = .ok (.iload_n 3, 1) := by decide +kernel
theorem dX6_digest_86 : decode cX6_digest 86 = .ok (.iaload, 1) := by decide +kernel
theorem dX6_digest_87 : decode cX6_digest 87 = .ok (.i2l, 1) := by decide +kernel
theorem dX6_digest_88 : decode cX6_digest 88 = .ok (.ladd, 1) := by decide +kernel
theorem dX6_digest_89 : decode cX6_digest 89 = .ok (.ldc2_w 150, 3) := by decide +kernel
theorem dX6_digest_92 : decode cX6_digest 92 = .ok (.lmul, 1) := by decide +kernel
theorem dX6_digest_93 : decode cX6_digest 93 = .ok (.aload_n 0, 1) := by decide +kernel
theorem dX6_digest_94 : decode cX6_digest 94 = .ok (.getfield 31, 3) := by decide +kernel
theorem dX6_digest_97 : decode cX6_digest 97 = .ok (.iload_n 3, 1) := by decide +kernel
theorem dX6_digest_98 : decode cX6_digest 98 = .ok (.iaload, 1) := by decide +kernel
theorem dX6_digest_99 : decode cX6_digest 99 = .ok (.i2l, 1) := by decide +kernel
theorem dX6_digest_100 : decode cX6_digest 100 = .ok (.ladd, 1) := by decide +kernel
theorem dX6_digest_101 : decode cX6_digest 101 = .ok (.lstore_n 1, 1) := by decide +kernel
theorem dX6_digest_102 : decode cX6_digest 102 = .ok (.aload_n 0, 1) := by decide +kernel
theorem dX6_digest_103 : decode cX6_digest 103 = .ok (.getfield 25, 3) := by decide +kernel
theorem dX6_digest_106 : decode cX6_digest 106 = .ok (.iload_n 3, 1) := by decide +kernel
theorem dX6_digest_107 : decode cX6_digest 107 = .ok (.iaload, 1) := by decide +kernel
theorem dX6_digest_108 : decode cX6_digest 108 = .ok (.iconst 1, 1) := by decide +kernel
theorem dX6_digest_109 : decode cX6_digest 109 = .ok (.if_icmp .ne 17, 3) := by decide +kernel
theorem dX6_digest_112 : decode cX6_digest 112 = .ok (.lload_n 1, 1) := by decide +kernel
theorem dX6_digest_113 : decode cX6_digest 113 = .ok (.ldc2_w 150, 3) := by decide +kernel
theorem dX6_digest_116 : decode cX6_digest 116 = .ok (.lmul, 1) := by decide +kernel
theorem dX6_digest_117 : decode cX6_digest 117 = .ok (.aload_n 0, 1) := by decide +kernel
theorem dX6_digest_118 : decode cX6_digest 118 = .ok (.getfield 28, 3) := by decide +kernel
theorem dX6_digest_121 : decode cX6_digest 121 = .ok (.iload_n 3, 1) := by decide +kernel
theorem dX6_digest_122 : decode cX6_digest 122 = .ok (.iaload, 1) := by decide +kernel
theorem dX6_digest_123 : decode cX6_digest 123 = .ok (.i2l, 1) := by decide +kernel
theorem dX6_digest_124 : decode cX6_digest 124 = .ok (.ladd, 1) := by decide +kernel
theorem dX6_digest_125 : decode cX6_digest 125 = .ok (.lstore_n 1, 1) := by decide +kernel
theorem dX6_digest_126 : decode cX6_digest 126 = .ok (.iinc 3 1, 3) := by decide +kernel
theorem dX6_digest_129 : decode cX6_digest 129 = .ok (.goto (-61), 3) := by decide +kernel
theorem dX6_digest_132 : decode cX6_digest 132 = .ok (.lload_n 1, 1) := by decide +kernel
theorem dX6_digest_133 : decode cX6_digest 133 = .ok (.ldc2_w 150, 3) := by decide +kernel
theorem dX6_digest_136 : decode cX6_digest 136 = .ok (.lmul, 1) := by decide +kernel
theorem dX6_digest_137 : decode cX6_digest 137 = .ok (.aload_n 0, 1) := by decide +kernel
theorem dX6_digest_138 : decode cX6_digest 138 = .ok (.getfield 102, 3) := by decide +kernel
theorem dX6_digest_141 : decode cX6_digest 141 = .ok (.i2l, 1) := by decide +kernel
theorem dX6_digest_142 : decode cX6_digest 142 = .ok (.ladd, 1) := by decide +kernel
theorem dX6_digest_143 : decode cX6_digest 143 = .ok (.lreturn, 1) := by decide +kernel
end
section
/-! THE JUDGEMENT JW: from this point of the method (world, pc, locals, stack) the machine comes to Q. Rows turn it instruction by instruction; heaps, written places and locals' arrays are hidden in it. -/
abbrev jG : Type := va_G × (Nat → ClassId)
def jT (G : jG) : List (ClassId × FieldType) := [(G.2 0, .int), (G.2 1, .boolean), (G.2 2, .long)]
abbrev JX : Type := Program × Launch × Env × Room × State × MethodId × Array Value × List Frame × Method × Code × (State → Prop) × (Nat → Prop)
def jl0 : Nat → List (Option Value) → List (Nat × Value)
  | _, [] => []
  | k, some v :: t => (k, v) :: jl0 (k + 1) t
  | k, none :: t => jl0 (k + 1) t
theorem jl0_mem : ∀ (L : List (Option Value)) (k : Nat) (q : Nat × Value), q ∈ jl0 k L ↔ ∃ j, L[j]? = some (some q.2) ∧ q.1 = k + j
  | [], k, q => by simp [jl0]
  | some v :: t, k, q => by
    simp only [jl0, List.mem_cons, jl0_mem t (k + 1) q]
    constructor
    · rintro (rfl | ⟨j, h1, h2⟩)
      · exact ⟨0, rfl, rfl⟩
      · exact ⟨j + 1, by simpa using h1, by omega⟩
    · rintro ⟨j, h1, h2⟩
      cases j with
      | zero =>
        left
        simp at h1
        obtain ⟨a, b⟩ := q
        simp_all
      | succ j => right; exact ⟨j, by simpa using h1, by omega⟩
  | none :: t, k, q => by
    simp only [jl0, jl0_mem t (k + 1) q]
    constructor
    · rintro ⟨j, h1, h2⟩
      exact ⟨j + 1, by simpa using h1, by omega⟩
    · rintro ⟨j, h1, h2⟩
      cases j with
      | zero => simp at h1
      | succ j => exact ⟨j, by simpa using h1, by omega⟩
def JW (G : jG) (X : JX) (k n : Nat) (w : va_W) (pc : Nat) (L : List (Option Value)) (st : List Value) : Prop :=
  match X with
  | (p, l, e, R, s, m, args, below, meth, c, Q, A) => ∀ (H : Heap) (locs : List Loc) (ls : Array Slot), va_P G.1 vwCl w H → va_D A w → va_S A s.heap H locs → lv_has ls L.length (jl0 0 L) → W p l e R s m args below meth c H locs k n Q (F0 m pc ls st)
/-- what stays the same in a method's body -/
def JC (G : jG) (X : JX) (rm : Room) (cc : ByteArray) (own : String) (nL : Nat) : Prop :=
  match X with
  | (p, _l, _e, R, s, m, args, _below, meth, c, _Q, A) => p.tables.exec = Jvm.exec ∧ c.code = cc ∧ c.maxLocals = nL ∧ s.vm.findClass own = some m.cls ∧ (∀ w ∈ jAll, w.before args s = true) ∧ (∀ w ∈ jNest, va_Nw w s) ∧ va_K G.1 vwCl (jT G) s ∧ meth.locks = false ∧ (∀ q : Nat, s.heap.size ≤ q → A q) ∧ R = rm
/-- an int by its number; a boolean; rows of them -/
def iI (z : Int) : Int32 := Int32.ofInt z
def jb (b : Bool) : Int32 := if b then iI 1 else iI 0
def jiI (f : Nat → Int) : Nat → Int32 := fun j => iI (f j)
def jbF (f : Nat → Bool) : Nat → Int32 := fun j => jb (f j)
def updf {α : Type} (f : Nat → α) (k : Nat) (v : α) : Nat → α := fun j => if j = k then v else f j
abbrev jr (a : Int) : Prop := -2147483648 ≤ a ∧ a < 2147483648
theorem iI_add (a b : Int) : iI a + iI b = iI (a + b) := (Int32.ofInt_add a b).symm
theorem iI_sub (a b : Int) : iI a - iI b = iI (a - b) := (Int32.ofInt_sub a b).symm
theorem iI_mul (a b : Int) : iI a * iI b = iI (a * b) := (Int32.ofInt_mul a b).symm
theorem iI_toInt {a : Int} (h : jr a) : (iI a).toInt = a := Int32.toInt_ofInt_of_le (by have := h.1; omega) (by have := h.2; omega)
theorem iI_lt {a b : Int} (ha : jr a) (hb : jr b) : iI a < iI b ↔ a < b := by rw [Int32.lt_iff_toInt_lt, iI_toInt ha, iI_toInt hb]
theorem iI_le {a b : Int} (ha : jr a) (hb : jr b) : iI a ≤ iI b ↔ a ≤ b := by rw [Int32.le_iff_toInt_le, iI_toInt ha, iI_toInt hb]
theorem iI_eq {a b : Int} (ha : jr a) (hb : jr b) : iI a = iI b ↔ a = b := by
  constructor
  · intro h
    have h2 := congrArg Int32.toInt h
    rwa [iI_toInt ha, iI_toInt hb] at h2
  · intro h; rw [h]
theorem iI_0 : (0 : Int32) = iI 0 := rfl
theorem iI_self (x : Int32) : iI x.toInt = x := Int32.ofInt_toInt x
theorem jr_self (x : Int32) : jr x.toInt := ⟨by have := Int32.le_toInt x; omega, by have := Int32.toInt_lt x; omega⟩
theorem iI_in {k n : Nat} (h : k < n) (hn : n < 1000000) : vp_in (iI (k : Int)) n := by
  rw [vp_in_iff, iI_toInt ⟨by omega, by omega⟩]
  omega
theorem iI_clamp {k : Nat} (h : k < 1000000) : (iI (k : Int)).toNatClampNeg = k := by
  show (iI (k : Int)).toInt.toNat = k
  rw [iI_toInt ⟨by omega, by omega⟩]
  omega
theorem jiI_upd (f : Nat → Int) (k : Nat) (v : Int) : upd (jiI f) k (iI v) = jiI (updf f k v) := by
  funext j
  simp only [upd, jiI, updf]
  split <;> rfl
theorem raw_upd (f : Nat → Int32) (k : Nat) (v : Int32) : upd f k v = updf f k v := by
  funext j
  simp only [upd, updf]
theorem jbF_upd (f : Nat → Bool) (k : Nat) (v : Bool) : upd (jbF f) k (vp_nar .boolean (jb v)) = jbF (updf f k v) := by
  have e : vp_nar .boolean (jb v) = jb v := by cases v <;> rfl
  rw [e]
  funext j
  simp only [upd, jbF, updf]
  split <;> rfl
theorem updL_upd (f : Nat → Int64) (k : Nat) (v : Int64) : vp_updL f k v = updf f k v := by
  funext j
  simp only [vp_updL, updf]
def jc1 : Option Value → Bool
  | none => true
  | some v => v.category == 1
theorem jl_store1 {ls : Array Slot} {n i : Nat} {L : List (Option Value)} {v : Value} (hi : i < L.length) (hc : ∀ a, 0 < i → L[i - 1]? = some a → jc1 a = true)
    (h : lv_has ls n ((i, v) :: (jl0 0 L).filter (fun q => !(q.1 == i) && !(q.1 + 1 == i && q.2.category == 2)))) : lv_has ls n (jl0 0 (L.set i (some v))) := by
  refine ⟨h.1, h.2.1, fun q hq => h.2.2 q ?_⟩
  obtain ⟨j, h1, h2⟩ := (jl0_mem _ _ _).mp hq
  rw [Nat.zero_add] at h2
  by_cases hij : j = i
  · subst hij
    rw [List.getElem?_set_self hi] at h1
    simp only [Option.some.injEq] at h1
    obtain ⟨a, b⟩ := q
    simp only at h1 h2
    subst h1; subst h2
    exact List.mem_cons_self
  · rw [List.getElem?_set_ne (Ne.symm hij)] at h1
    refine List.mem_cons_of_mem _ (List.mem_filter.mpr ⟨(jl0_mem _ _ _).mpr ⟨j, h1, by omega⟩, ?_⟩)
    simp only [h2, Bool.and_eq_true, Bool.not_eq_true', beq_eq_false_iff_ne, ne_eq, hij, not_false_eq_true, true_and, Bool.and_eq_false_imp, beq_iff_eq]
    intro h3 h4
    have h5 := hc (some q.2) (by omega) (by rw [← h3]; simpa using h1)
    simp [jc1, h4] at h5
theorem jl_store2 {ls : Array Slot} {n i : Nat} {L : List (Option Value)} {v : Value} (hi : i + 1 < L.length) (hc : ∀ a, 0 < i → L[i - 1]? = some a → jc1 a = true)
    (h : lv_has ls n ((i, v) :: (jl0 0 L).filter (fun q => !(q.1 == i) && (!(q.1 == i + 1) && !(q.1 + 1 == i && q.2.category == 2))))) : lv_has ls n (jl0 0 ((L.set i (some v)).set (i + 1) none)) := by
  refine ⟨h.1, h.2.1, fun q hq => h.2.2 q ?_⟩
  obtain ⟨j, h1, h2⟩ := (jl0_mem _ _ _).mp hq
  rw [Nat.zero_add] at h2
  by_cases hij1 : j = i + 1
  · subst hij1
    rw [List.getElem?_set_self (by rw [List.length_set]; exact hi)] at h1
    cases h1
  · rw [List.getElem?_set_ne (Ne.symm hij1)] at h1
    by_cases hij : j = i
    · subst hij
      rw [List.getElem?_set_self (by omega)] at h1
      simp only [Option.some.injEq] at h1
      obtain ⟨a, b⟩ := q
      simp only at h1 h2
      subst h1; subst h2
      exact List.mem_cons_self
    · rw [List.getElem?_set_ne (Ne.symm hij)] at h1
      refine List.mem_cons_of_mem _ (List.mem_filter.mpr ⟨(jl0_mem _ _ _).mpr ⟨j, h1, by omega⟩, ?_⟩)
      simp only [h2, Bool.and_eq_true, Bool.not_eq_true', beq_eq_false_iff_ne, ne_eq, hij, hij1, not_false_eq_true, true_and, Bool.and_eq_false_imp, beq_iff_eq]
      intro h3 h4
      have h5 := hc (some q.2) (by omega) (by rw [← h3]; simpa using h1)
      simp [jc1, h4] at h5
section JR
variable {G : jG} {X : JX} {k n pc : Nat} {w : va_W} {L : List (Option Value)} {rest : List Value} {rm : Room} {cc : ByteArray} {own : String} {nL : Nat}
theorem jw_iconst {z : Int} (C : JC G X rm cc own nL) (d : decode cc pc = .ok (.iconst z, 1))  (kk : JW G X k n w (pc + 1) L (.int (iI z) :: rest)) : JW G X k n w (pc) L (rest) := by
  obtain ⟨p, l, e, R, s, m, args, below, meth, c, Q, A⟩ := X
  obtain ⟨hx, hb, hml, hown, hts, hnw, hK, hlk, hA, hR⟩ := C
  intro H locs ls hP hD hS hl
  refine lv_iconst (v := iI z) hx hb d rfl ?_
  exact kk H locs ls hP hD hS hl
theorem jw_bipush {z : Int} (C : JC G X rm cc own nL) (d : decode cc pc = .ok (.bipush z, 2)) (hz : (Int8.ofInt z).toInt32 = iI z) (kk : JW G X k n w (pc + 2) L (.int (iI z) :: rest)) : JW G X k n w (pc) L (rest) := by
  obtain ⟨p, l, e, R, s, m, args, below, meth, c, Q, A⟩ := X
  obtain ⟨hx, hb, hml, hown, hts, hnw, hK, hlk, hA, hR⟩ := C
  intro H locs ls hP hD hS hl
  refine lv_bipush (v := iI z) hx hb d hz ?_
  exact kk H locs ls hP hD hS hl
theorem jw_sipush {z : Int} (C : JC G X rm cc own nL) (d : decode cc pc = .ok (.sipush z, 3)) (hz : (Int16.ofInt z).toInt32 = iI z) (kk : JW G X k n w (pc + 3) L (.int (iI z) :: rest)) : JW G X k n w (pc) L (rest) := by
  obtain ⟨p, l, e, R, s, m, args, below, meth, c, Q, A⟩ := X
  obtain ⟨hx, hb, hml, hown, hts, hnw, hK, hlk, hA, hR⟩ := C
  intro H locs ls hP hD hS hl
  refine lv_sipush (v := iI z) hx hb d hz ?_
  exact kk H locs ls hP hD hS hl
theorem jw_lconst {z : Fin 2} (C : JC G X rm cc own nL) (d : decode cc pc = .ok (.lconst z, 1))  (kk : JW G X k n w (pc + 1) L (.long (Int64.ofNat (z : Nat)) :: rest)) : JW G X k n w (pc) L (rest) := by
  obtain ⟨p, l, e, R, s, m, args, below, meth, c, Q, A⟩ := X
  obtain ⟨hx, hb, hml, hown, hts, hnw, hK, hlk, hA, hR⟩ := C
  intro H locs ls hP hD hS hl
  refine lv_lconst hx hb d rfl ?_
  exact kk H locs ls hP hD hS hl
theorem jw_dconst0  (C : JC G X rm cc own nL) (d : decode cc pc = .ok (.dconst 0, 1))  (kk : JW G X k n w (pc + 1) L (.double FP.dconst0 :: rest)) : JW G X k n w (pc) L (rest) := by
  obtain ⟨p, l, e, R, s, m, args, below, meth, c, Q, A⟩ := X
  obtain ⟨hx, hb, hml, hown, hts, hnw, hK, hlk, hA, hR⟩ := C
  intro H locs ls hP hD hS hl
  refine lv_dconst0 hx hb d ?_
  exact kk H locs ls hP hD hS hl
theorem jw_dconst1  (C : JC G X rm cc own nL) (d : decode cc pc = .ok (.dconst 1, 1))  (kk : JW G X k n w (pc + 1) L (.double FP.dconst1 :: rest)) : JW G X k n w (pc) L (rest) := by
  obtain ⟨p, l, e, R, s, m, args, below, meth, c, Q, A⟩ := X
  obtain ⟨hx, hb, hml, hown, hts, hnw, hK, hlk, hA, hR⟩ := C
  intro H locs ls hP hD hS hl
  refine lv_dconst1 hx hb d ?_
  exact kk H locs ls hP hD hS hl
theorem jw_iadd {a b : Int} (C : JC G X rm cc own nL) (d : decode cc pc = .ok (.iadd, 1))  (kk : JW G X k n w (pc + 1) L (.int (iI (a + b)) :: rest)) : JW G X k n w (pc) L (.int (iI b) :: .int (iI a) :: rest) := by
  obtain ⟨p, l, e, R, s, m, args, below, meth, c, Q, A⟩ := X
  obtain ⟨hx, hb, hml, hown, hts, hnw, hK, hlk, hA, hR⟩ := C
  intro H locs ls hP hD hS hl
  refine lv_iadd hx hb d ?_
  rw [iI_add]
  exact kk H locs ls hP hD hS hl
theorem jw_isub {a b : Int} (C : JC G X rm cc own nL) (d : decode cc pc = .ok (.isub, 1))  (kk : JW G X k n w (pc + 1) L (.int (iI (a - b)) :: rest)) : JW G X k n w (pc) L (.int (iI b) :: .int (iI a) :: rest) := by
  obtain ⟨p, l, e, R, s, m, args, below, meth, c, Q, A⟩ := X
  obtain ⟨hx, hb, hml, hown, hts, hnw, hK, hlk, hA, hR⟩ := C
  intro H locs ls hP hD hS hl
  refine lv_isub hx hb d ?_
  rw [iI_sub]
  exact kk H locs ls hP hD hS hl
theorem jw_imul {a b : Int} (C : JC G X rm cc own nL) (d : decode cc pc = .ok (.imul, 1))  (kk : JW G X k n w (pc + 1) L (.int (iI (a * b)) :: rest)) : JW G X k n w (pc) L (.int (iI b) :: .int (iI a) :: rest) := by
  obtain ⟨p, l, e, R, s, m, args, below, meth, c, Q, A⟩ := X
  obtain ⟨hx, hb, hml, hown, hts, hnw, hK, hlk, hA, hR⟩ := C
  intro H locs ls hP hD hS hl
  refine lv_imul hx hb d ?_
  rw [iI_mul]
  exact kk H locs ls hP hD hS hl
theorem jw_iand {x y : Int32} (C : JC G X rm cc own nL) (d : decode cc pc = .ok (.iand, 1))  (kk : JW G X k n w (pc + 1) L (.int (x &&& y) :: rest)) : JW G X k n w (pc) L (.int y :: .int x :: rest) := by
  obtain ⟨p, l, e, R, s, m, args, below, meth, c, Q, A⟩ := X
  obtain ⟨hx, hb, hml, hown, hts, hnw, hK, hlk, hA, hR⟩ := C
  intro H locs ls hP hD hS hl
  refine lv_iand hx hb d ?_
  exact kk H locs ls hP hD hS hl
theorem jw_ior {x y : Int32} (C : JC G X rm cc own nL) (d : decode cc pc = .ok (.ior, 1))  (kk : JW G X k n w (pc + 1) L (.int (x ||| y) :: rest)) : JW G X k n w (pc) L (.int y :: .int x :: rest) := by
  obtain ⟨p, l, e, R, s, m, args, below, meth, c, Q, A⟩ := X
  obtain ⟨hx, hb, hml, hown, hts, hnw, hK, hlk, hA, hR⟩ := C
  intro H locs ls hP hD hS hl
  refine lv_ior hx hb d ?_
  exact kk H locs ls hP hD hS hl
theorem jw_ixor {x y : Int32} (C : JC G X rm cc own nL) (d : decode cc pc = .ok (.ixor, 1))  (kk : JW G X k n w (pc + 1) L (.int (x ^^^ y) :: rest)) : JW G X k n w (pc) L (.int y :: .int x :: rest) := by
  obtain ⟨p, l, e, R, s, m, args, below, meth, c, Q, A⟩ := X
  obtain ⟨hx, hb, hml, hown, hts, hnw, hK, hlk, hA, hR⟩ := C
  intro H locs ls hP hD hS hl
  refine lv_ixor hx hb d ?_
  exact kk H locs ls hP hD hS hl
theorem jw_ishl {x y : Int32} (C : JC G X rm cc own nL) (d : decode cc pc = .ok (.ishl, 1))  (kk : JW G X k n w (pc + 1) L (.int (x <<< (y &&& 31)) :: rest)) : JW G X k n w (pc) L (.int y :: .int x :: rest) := by
  obtain ⟨p, l, e, R, s, m, args, below, meth, c, Q, A⟩ := X
  obtain ⟨hx, hb, hml, hown, hts, hnw, hK, hlk, hA, hR⟩ := C
  intro H locs ls hP hD hS hl
  refine lv_ishl hx hb d ?_
  exact kk H locs ls hP hD hS hl
theorem jw_ishr {x y : Int32} (C : JC G X rm cc own nL) (d : decode cc pc = .ok (.ishr, 1))  (kk : JW G X k n w (pc + 1) L (.int (x >>> (y &&& 31)) :: rest)) : JW G X k n w (pc) L (.int y :: .int x :: rest) := by
  obtain ⟨p, l, e, R, s, m, args, below, meth, c, Q, A⟩ := X
  obtain ⟨hx, hb, hml, hown, hts, hnw, hK, hlk, hA, hR⟩ := C
  intro H locs ls hP hD hS hl
  refine lv_ishr hx hb d ?_
  exact kk H locs ls hP hD hS hl
theorem jw_isub_r {x y : Int32} (C : JC G X rm cc own nL) (d : decode cc pc = .ok (.isub, 1))  (kk : JW G X k n w (pc + 1) L (.int (x - y) :: rest)) : JW G X k n w (pc) L (.int y :: .int x :: rest) := by
  obtain ⟨p, l, e, R, s, m, args, below, meth, c, Q, A⟩ := X
  obtain ⟨hx, hb, hml, hown, hts, hnw, hK, hlk, hA, hR⟩ := C
  intro H locs ls hP hD hS hl
  refine lv_isub hx hb d ?_
  exact kk H locs ls hP hD hS hl
theorem jw_iadd_r {x y : Int32} (C : JC G X rm cc own nL) (d : decode cc pc = .ok (.iadd, 1))  (kk : JW G X k n w (pc + 1) L (.int (x + y) :: rest)) : JW G X k n w (pc) L (.int y :: .int x :: rest) := by
  obtain ⟨p, l, e, R, s, m, args, below, meth, c, Q, A⟩ := X
  obtain ⟨hx, hb, hml, hown, hts, hnw, hK, hlk, hA, hR⟩ := C
  intro H locs ls hP hD hS hl
  refine lv_iadd hx hb d ?_
  exact kk H locs ls hP hD hS hl
theorem jw_imul_r {x y : Int32} (C : JC G X rm cc own nL) (d : decode cc pc = .ok (.imul, 1))  (kk : JW G X k n w (pc + 1) L (.int (x * y) :: rest)) : JW G X k n w (pc) L (.int y :: .int x :: rest) := by
  obtain ⟨p, l, e, R, s, m, args, below, meth, c, Q, A⟩ := X
  obtain ⟨hx, hb, hml, hown, hts, hnw, hK, hlk, hA, hR⟩ := C
  intro H locs ls hP hD hS hl
  refine lv_imul hx hb d ?_
  exact kk H locs ls hP hD hS hl
theorem jw_ladd {x y : Int64} (C : JC G X rm cc own nL) (d : decode cc pc = .ok (.ladd, 1))  (kk : JW G X k n w (pc + 1) L (.long (x + y) :: rest)) : JW G X k n w (pc) L (.long y :: .long x :: rest) := by
  obtain ⟨p, l, e, R, s, m, args, below, meth, c, Q, A⟩ := X
  obtain ⟨hx, hb, hml, hown, hts, hnw, hK, hlk, hA, hR⟩ := C
  intro H locs ls hP hD hS hl
  refine lv_ladd hx hb d ?_
  exact kk H locs ls hP hD hS hl
theorem jw_lmul {x y : Int64} (C : JC G X rm cc own nL) (d : decode cc pc = .ok (.lmul, 1))  (kk : JW G X k n w (pc + 1) L (.long (x * y) :: rest)) : JW G X k n w (pc) L (.long y :: .long x :: rest) := by
  obtain ⟨p, l, e, R, s, m, args, below, meth, c, Q, A⟩ := X
  obtain ⟨hx, hb, hml, hown, hts, hnw, hK, hlk, hA, hR⟩ := C
  intro H locs ls hP hD hS hl
  refine lv_lmul hx hb d ?_
  exact kk H locs ls hP hD hS hl
theorem jw_lsub {x y : Int64} (C : JC G X rm cc own nL) (d : decode cc pc = .ok (.lsub, 1))  (kk : JW G X k n w (pc + 1) L (.long (x - y) :: rest)) : JW G X k n w (pc) L (.long y :: .long x :: rest) := by
  obtain ⟨p, l, e, R, s, m, args, below, meth, c, Q, A⟩ := X
  obtain ⟨hx, hb, hml, hown, hts, hnw, hK, hlk, hA, hR⟩ := C
  intro H locs ls hP hD hS hl
  refine lv_lsub hx hb d ?_
  exact kk H locs ls hP hD hS hl
theorem jw_i2l {x : Int32} (C : JC G X rm cc own nL) (d : decode cc pc = .ok (.i2l, 1))  (kk : JW G X k n w (pc + 1) L (.long x.toInt64 :: rest)) : JW G X k n w (pc) L (.int x :: rest) := by
  obtain ⟨p, l, e, R, s, m, args, below, meth, c, Q, A⟩ := X
  obtain ⟨hx, hb, hml, hown, hts, hnw, hK, hlk, hA, hR⟩ := C
  intro H locs ls hP hD hS hl
  refine lv_i2l hx hb d rfl ?_
  exact kk H locs ls hP hD hS hl
theorem jw_i2d {x : Int32} (C : JC G X rm cc own nL) (d : decode cc pc = .ok (.i2d, 1))  (kk : JW G X k n w (pc + 1) L (.double (FP.i2d x) :: rest)) : JW G X k n w (pc) L (.int x :: rest) := by
  obtain ⟨p, l, e, R, s, m, args, below, meth, c, Q, A⟩ := X
  obtain ⟨hx, hb, hml, hown, hts, hnw, hK, hlk, hA, hR⟩ := C
  intro H locs ls hP hD hS hl
  refine lv_i2d hx hb d ?_
  exact kk H locs ls hP hD hS hl
theorem jw_dadd {x y : UInt64} (C : JC G X rm cc own nL) (d : decode cc pc = .ok (.dadd, 1)) (hne : vf_n64 (FP.dadd x y)) (kk : JW G X k n w (pc + 1) L (.double (FP.dadd x y) :: rest)) : JW G X k n w (pc) L (.double y :: .double x :: rest) := by
  obtain ⟨p, l, e, R, s, m, args, below, meth, c, Q, A⟩ := X
  obtain ⟨hx, hb, hml, hown, hts, hnw, hK, hlk, hA, hR⟩ := C
  intro H locs ls hP hD hS hl
  refine lv_dadd hx hb d hne ?_
  exact kk H locs ls hP hD hS hl
theorem jw_dmul {x y : UInt64} (C : JC G X rm cc own nL) (d : decode cc pc = .ok (.dmul, 1)) (hne : vf_n64 (FP.dmul x y)) (kk : JW G X k n w (pc + 1) L (.double (FP.dmul x y) :: rest)) : JW G X k n w (pc) L (.double y :: .double x :: rest) := by
  obtain ⟨p, l, e, R, s, m, args, below, meth, c, Q, A⟩ := X
  obtain ⟨hx, hb, hml, hown, hts, hnw, hK, hlk, hA, hR⟩ := C
  intro H locs ls hP hD hS hl
  refine lv_dmul hx hb d hne ?_
  exact kk H locs ls hP hD hS hl
theorem jw_ddiv {x y : UInt64} (C : JC G X rm cc own nL) (d : decode cc pc = .ok (.ddiv, 1)) (hne : vf_n64 (FP.ddiv x y)) (kk : JW G X k n w (pc + 1) L (.double (FP.ddiv x y) :: rest)) : JW G X k n w (pc) L (.double y :: .double x :: rest) := by
  obtain ⟨p, l, e, R, s, m, args, below, meth, c, Q, A⟩ := X
  obtain ⟨hx, hb, hml, hown, hts, hnw, hK, hlk, hA, hR⟩ := C
  intro H locs ls hP hD hS hl
  refine lv_ddiv hx hb d hne ?_
  exact kk H locs ls hP hD hS hl
theorem jw_dcmp {x y : UInt64} {op : CmpOp} (C : JC G X rm cc own nL) (d : decode cc pc = .ok (.dcmp op, 1))  (kk : JW G X k n w (pc + 1) L (.int (Op.cmpValue (FP.dcmp x y) op) :: rest)) : JW G X k n w (pc) L (.double y :: .double x :: rest) := by
  obtain ⟨p, l, e, R, s, m, args, below, meth, c, Q, A⟩ := X
  obtain ⟨hx, hb, hml, hown, hts, hnw, hK, hlk, hA, hR⟩ := C
  intro H locs ls hP hD hS hl
  refine lv_dcmp hx hb d ?_
  exact kk H locs ls hP hD hS hl
theorem jw_lcmp {x y : Int64} (C : JC G X rm cc own nL) (d : decode cc pc = .ok (.lcmp, 1))  (kk : JW G X k n w (pc + 1) L (.int (lg_cmp x y) :: rest)) : JW G X k n w (pc) L (.long y :: .long x :: rest) := by
  obtain ⟨p, l, e, R, s, m, args, below, meth, c, Q, A⟩ := X
  obtain ⟨hx, hb, hml, hown, hts, hnw, hK, hlk, hA, hR⟩ := C
  intro H locs ls hP hD hS hl
  refine W.lcmp hx hb d ?_
  exact kk H locs ls hP hD hS hl
theorem jw_dup {v : Value} (C : JC G X rm cc own nL) (d : decode cc pc = .ok (.dup, 1)) (hv : v.category = 1) (kk : JW G X k n w (pc + 1) L (v :: v :: rest)) : JW G X k n w (pc) L (v :: rest) := by
  obtain ⟨p, l, e, R, s, m, args, below, meth, c, Q, A⟩ := X
  obtain ⟨hx, hb, hml, hown, hts, hnw, hK, hlk, hA, hR⟩ := C
  intro H locs ls hP hD hS hl
  refine lv_dup hx hb d hv ?_
  exact kk H locs ls hP hD hS hl
theorem jw_pop {v : Value} (C : JC G X rm cc own nL) (d : decode cc pc = .ok (.pop, 1)) (hv : v.category = 1) (kk : JW G X k n w (pc + 1) L (rest)) : JW G X k n w (pc) L (v :: rest) := by
  obtain ⟨p, l, e, R, s, m, args, below, meth, c, Q, A⟩ := X
  obtain ⟨hx, hb, hml, hown, hts, hnw, hK, hlk, hA, hR⟩ := C
  intro H locs ls hP hD hS hl
  refine lv_pop hx hb d hv ?_
  exact kk H locs ls hP hD hS hl
theorem jw_dup2 {v u : Value} (C : JC G X rm cc own nL) (d : decode cc pc = .ok (.dup2, 1)) (hv : v.category = 1) (hu : u.category = 1) (kk : JW G X k n w (pc + 1) L (v :: u :: v :: u :: rest)) : JW G X k n w (pc) L (v :: u :: rest) := by
  obtain ⟨p, l, e, R, s, m, args, below, meth, c, Q, A⟩ := X
  obtain ⟨hx, hb, hml, hown, hts, hnw, hK, hlk, hA, hR⟩ := C
  intro H locs ls hP hD hS hl
  refine lv_dup2_11 hx hb d hv hu ?_
  exact kk H locs ls hP hD hS hl
theorem jw_dup_x1 {v u : Value} (C : JC G X rm cc own nL) (d : decode cc pc = .ok (.dup_x1, 1)) (hv : v.category = 1) (hu : u.category = 1) (kk : JW G X k n w (pc + 1) L (v :: u :: v :: rest)) : JW G X k n w (pc) L (v :: u :: rest) := by
  obtain ⟨p, l, e, R, s, m, args, below, meth, c, Q, A⟩ := X
  obtain ⟨hx, hb, hml, hown, hts, hnw, hK, hlk, hA, hR⟩ := C
  intro H locs ls hP hD hS hl
  refine lv_dup_x1 hx hb d hv hu ?_
  exact kk H locs ls hP hD hS hl
theorem jw_ldc2d {idx : Nat} {v : UInt64} (C : JC G X rm cc own nL) (hw : Cond.constantDouble own idx v ∈ jAll) (d : decode cc pc = .ok (.ldc2_w idx, 3)) (kk : JW G X k n w (pc + 3) L (.double v :: rest)) : JW G X k n w (pc) L (rest) := by
  obtain ⟨p, l, e, R, s, m, args, below, meth, c, Q, A⟩ := X
  obtain ⟨hx, hb, hml, hown, hts, hnw, hK, hlk, hA, hR⟩ := C
  intro H locs ls hP hD hS hl
  refine lv_ldc2d hx hb hown (hts _ hw) d ?_
  exact kk H locs ls hP hD hS hl
theorem jw_ldc2l {idx : Nat} {v : Int64} (C : JC G X rm cc own nL) (hw : Cond.constantLong own idx v ∈ jAll) (d : decode cc pc = .ok (.ldc2_w idx, 3)) (kk : JW G X k n w (pc + 3) L (.long v :: rest)) : JW G X k n w (pc) L (rest) := by
  obtain ⟨p, l, e, R, s, m, args, below, meth, c, Q, A⟩ := X
  obtain ⟨hx, hb, hml, hown, hts, hnw, hK, hlk, hA, hR⟩ := C
  intro H locs ls hP hD hS hl
  refine lv_ldc2 hx hb hown (hts _ hw) d ?_
  exact kk H locs ls hP hD hS hl
theorem jw_goto {off : Int} {tgt : Nat} (C : JC G X rm cc own nL) (d : decode cc pc = .ok (.goto off, 3)) (ht : (pc : Int) + off = (tgt : Int)) (kk : JW G X k n w (tgt) L (rest)) : JW G X k n w (pc) L (rest) := by
  obtain ⟨p, l, e, R, s, m, args, below, meth, c, Q, A⟩ := X
  obtain ⟨hx, hb, hml, hown, hts, hnw, hK, hlk, hA, hR⟩ := C
  intro H locs ls hP hD hS hl
  refine lv_goto hx hb d ht ?_
  exact kk H locs ls hP hD hS hl
theorem jw_icmp_lt {a b : Int} {off : Int} {tgt : Nat} (C : JC G X rm cc own nL) (d : decode cc pc = .ok (.if_icmp .lt off, 3)) (ht : (pc : Int) + off = (tgt : Int)) (ra : jr a) (rb : jr b) (kt : a < b → JW G X k n w (tgt) L (rest)) (kf : ¬ (a < b) → JW G X k n w (pc + 3) L (rest)) : JW G X k n w (pc) L (.int (iI b) :: .int (iI a) :: rest) := by
  obtain ⟨p, l, e, R, s, m, args, below, meth, c, Q, A⟩ := X
  obtain ⟨hx, hb, hml, hown, hts, hnw, hK, hlk, hA, hR⟩ := C
  intro H locs ls hP hD hS hl
  refine lv_icmp_lt hx hb d ht (fun h => ?_) (fun h => ?_)
  · exact kt ((iI_lt ra rb).mp h) H locs ls hP hD hS hl
  · exact kf (fun e => h ((iI_lt ra rb).mpr e)) H locs ls hP hD hS hl
theorem jw_if_lt {a : Int} {off : Int} {tgt : Nat} (C : JC G X rm cc own nL) (d : decode cc pc = .ok (.ifCond .lt off, 3)) (ht : (pc : Int) + off = (tgt : Int)) (ra : jr a) (kt : a < 0 → JW G X k n w (tgt) L (rest)) (kf : ¬ (a < 0) → JW G X k n w (pc + 3) L (rest)) : JW G X k n w (pc) L (.int (iI a) :: rest) := by
  obtain ⟨p, l, e, R, s, m, args, below, meth, c, Q, A⟩ := X
  obtain ⟨hx, hb, hml, hown, hts, hnw, hK, hlk, hA, hR⟩ := C
  intro H locs ls hP hD hS hl
  refine lv_if_lt hx hb d ht (fun h => ?_) (fun h => ?_)
  · exact kt ((iI_lt ra ⟨by decide, by decide⟩).mp h) H locs ls hP hD hS hl
  · exact kf (fun e => h ((iI_lt ra ⟨by decide, by decide⟩).mpr e)) H locs ls hP hD hS hl
theorem jw_if_lt_r {x : Int32} {off : Int} {tgt : Nat} (C : JC G X rm cc own nL) (d : decode cc pc = .ok (.ifCond .lt off, 3)) (ht : (pc : Int) + off = (tgt : Int)) (kt : x < 0 → JW G X k n w (tgt) L (rest)) (kf : ¬ (x < 0) → JW G X k n w (pc + 3) L (rest)) : JW G X k n w (pc) L (.int x :: rest) := by
  obtain ⟨p, l, e, R, s, m, args, below, meth, c, Q, A⟩ := X
  obtain ⟨hx, hb, hml, hown, hts, hnw, hK, hlk, hA, hR⟩ := C
  intro H locs ls hP hD hS hl
  refine lv_if_lt hx hb d ht (fun h => ?_) (fun h => ?_)
  · exact kt h H locs ls hP hD hS hl
  · exact kf h H locs ls hP hD hS hl
theorem jw_icmp_lt_r {x y : Int32} {off : Int} {tgt : Nat} (C : JC G X rm cc own nL) (d : decode cc pc = .ok (.if_icmp .lt off, 3)) (ht : (pc : Int) + off = (tgt : Int)) (kt : x < y → JW G X k n w (tgt) L (rest)) (kf : ¬ (x < y) → JW G X k n w (pc + 3) L (rest)) : JW G X k n w (pc) L (.int y :: .int x :: rest) := by
  obtain ⟨p, l, e, R, s, m, args, below, meth, c, Q, A⟩ := X
  obtain ⟨hx, hb, hml, hown, hts, hnw, hK, hlk, hA, hR⟩ := C
  intro H locs ls hP hD hS hl
  refine lv_icmp_lt hx hb d ht (fun h => ?_) (fun h => ?_)
  · exact kt h H locs ls hP hD hS hl
  · exact kf h H locs ls hP hD hS hl
theorem jw_icmp_ge {a b : Int} {off : Int} {tgt : Nat} (C : JC G X rm cc own nL) (d : decode cc pc = .ok (.if_icmp .ge off, 3)) (ht : (pc : Int) + off = (tgt : Int)) (ra : jr a) (rb : jr b) (kt : b ≤ a → JW G X k n w (tgt) L (rest)) (kf : ¬ (b ≤ a) → JW G X k n w (pc + 3) L (rest)) : JW G X k n w (pc) L (.int (iI b) :: .int (iI a) :: rest) := by
  obtain ⟨p, l, e, R, s, m, args, below, meth, c, Q, A⟩ := X
  obtain ⟨hx, hb, hml, hown, hts, hnw, hK, hlk, hA, hR⟩ := C
  intro H locs ls hP hD hS hl
  refine lv_icmp_ge hx hb d ht (fun h => ?_) (fun h => ?_)
  · exact kt ((iI_le rb ra).mp h) H locs ls hP hD hS hl
  · exact kf (fun e => h ((iI_le rb ra).mpr e)) H locs ls hP hD hS hl
theorem jw_if_ge {a : Int} {off : Int} {tgt : Nat} (C : JC G X rm cc own nL) (d : decode cc pc = .ok (.ifCond .ge off, 3)) (ht : (pc : Int) + off = (tgt : Int)) (ra : jr a) (kt : 0 ≤ a → JW G X k n w (tgt) L (rest)) (kf : ¬ (0 ≤ a) → JW G X k n w (pc + 3) L (rest)) : JW G X k n w (pc) L (.int (iI a) :: rest) := by
  obtain ⟨p, l, e, R, s, m, args, below, meth, c, Q, A⟩ := X
  obtain ⟨hx, hb, hml, hown, hts, hnw, hK, hlk, hA, hR⟩ := C
  intro H locs ls hP hD hS hl
  refine lv_if_ge hx hb d ht (fun h => ?_) (fun h => ?_)
  · exact kt ((iI_le ⟨by decide, by decide⟩ ra).mp h) H locs ls hP hD hS hl
  · exact kf (fun e => h ((iI_le ⟨by decide, by decide⟩ ra).mpr e)) H locs ls hP hD hS hl
theorem jw_if_ge_r {x : Int32} {off : Int} {tgt : Nat} (C : JC G X rm cc own nL) (d : decode cc pc = .ok (.ifCond .ge off, 3)) (ht : (pc : Int) + off = (tgt : Int)) (kt : 0 ≤ x → JW G X k n w (tgt) L (rest)) (kf : ¬ (0 ≤ x) → JW G X k n w (pc + 3) L (rest)) : JW G X k n w (pc) L (.int x :: rest) := by
  obtain ⟨p, l, e, R, s, m, args, below, meth, c, Q, A⟩ := X
  obtain ⟨hx, hb, hml, hown, hts, hnw, hK, hlk, hA, hR⟩ := C
  intro H locs ls hP hD hS hl
  refine lv_if_ge hx hb d ht (fun h => ?_) (fun h => ?_)
  · exact kt h H locs ls hP hD hS hl
  · exact kf h H locs ls hP hD hS hl
theorem jw_icmp_ge_r {x y : Int32} {off : Int} {tgt : Nat} (C : JC G X rm cc own nL) (d : decode cc pc = .ok (.if_icmp .ge off, 3)) (ht : (pc : Int) + off = (tgt : Int)) (kt : y ≤ x → JW G X k n w (tgt) L (rest)) (kf : ¬ (y ≤ x) → JW G X k n w (pc + 3) L (rest)) : JW G X k n w (pc) L (.int y :: .int x :: rest) := by
  obtain ⟨p, l, e, R, s, m, args, below, meth, c, Q, A⟩ := X
  obtain ⟨hx, hb, hml, hown, hts, hnw, hK, hlk, hA, hR⟩ := C
  intro H locs ls hP hD hS hl
  refine lv_icmp_ge hx hb d ht (fun h => ?_) (fun h => ?_)
  · exact kt h H locs ls hP hD hS hl
  · exact kf h H locs ls hP hD hS hl
theorem jw_icmp_gt {a b : Int} {off : Int} {tgt : Nat} (C : JC G X rm cc own nL) (d : decode cc pc = .ok (.if_icmp .gt off, 3)) (ht : (pc : Int) + off = (tgt : Int)) (ra : jr a) (rb : jr b) (kt : b < a → JW G X k n w (tgt) L (rest)) (kf : ¬ (b < a) → JW G X k n w (pc + 3) L (rest)) : JW G X k n w (pc) L (.int (iI b) :: .int (iI a) :: rest) := by
  obtain ⟨p, l, e, R, s, m, args, below, meth, c, Q, A⟩ := X
  obtain ⟨hx, hb, hml, hown, hts, hnw, hK, hlk, hA, hR⟩ := C
  intro H locs ls hP hD hS hl
  refine lv_icmp_gt hx hb d ht (fun h => ?_) (fun h => ?_)
  · exact kt ((iI_lt rb ra).mp h) H locs ls hP hD hS hl
  · exact kf (fun e => h ((iI_lt rb ra).mpr e)) H locs ls hP hD hS hl
theorem jw_if_gt {a : Int} {off : Int} {tgt : Nat} (C : JC G X rm cc own nL) (d : decode cc pc = .ok (.ifCond .gt off, 3)) (ht : (pc : Int) + off = (tgt : Int)) (ra : jr a) (kt : 0 < a → JW G X k n w (tgt) L (rest)) (kf : ¬ (0 < a) → JW G X k n w (pc + 3) L (rest)) : JW G X k n w (pc) L (.int (iI a) :: rest) := by
  obtain ⟨p, l, e, R, s, m, args, below, meth, c, Q, A⟩ := X
  obtain ⟨hx, hb, hml, hown, hts, hnw, hK, hlk, hA, hR⟩ := C
  intro H locs ls hP hD hS hl
  refine lv_if_gt hx hb d ht (fun h => ?_) (fun h => ?_)
  · exact kt ((iI_lt ⟨by decide, by decide⟩ ra).mp h) H locs ls hP hD hS hl
  · exact kf (fun e => h ((iI_lt ⟨by decide, by decide⟩ ra).mpr e)) H locs ls hP hD hS hl
theorem jw_if_gt_r {x : Int32} {off : Int} {tgt : Nat} (C : JC G X rm cc own nL) (d : decode cc pc = .ok (.ifCond .gt off, 3)) (ht : (pc : Int) + off = (tgt : Int)) (kt : 0 < x → JW G X k n w (tgt) L (rest)) (kf : ¬ (0 < x) → JW G X k n w (pc + 3) L (rest)) : JW G X k n w (pc) L (.int x :: rest) := by
  obtain ⟨p, l, e, R, s, m, args, below, meth, c, Q, A⟩ := X
  obtain ⟨hx, hb, hml, hown, hts, hnw, hK, hlk, hA, hR⟩ := C
  intro H locs ls hP hD hS hl
  refine lv_if_gt hx hb d ht (fun h => ?_) (fun h => ?_)
  · exact kt h H locs ls hP hD hS hl
  · exact kf h H locs ls hP hD hS hl
theorem jw_icmp_gt_r {x y : Int32} {off : Int} {tgt : Nat} (C : JC G X rm cc own nL) (d : decode cc pc = .ok (.if_icmp .gt off, 3)) (ht : (pc : Int) + off = (tgt : Int)) (kt : y < x → JW G X k n w (tgt) L (rest)) (kf : ¬ (y < x) → JW G X k n w (pc + 3) L (rest)) : JW G X k n w (pc) L (.int y :: .int x :: rest) := by
  obtain ⟨p, l, e, R, s, m, args, below, meth, c, Q, A⟩ := X
  obtain ⟨hx, hb, hml, hown, hts, hnw, hK, hlk, hA, hR⟩ := C
  intro H locs ls hP hD hS hl
  refine lv_icmp_gt hx hb d ht (fun h => ?_) (fun h => ?_)
  · exact kt h H locs ls hP hD hS hl
  · exact kf h H locs ls hP hD hS hl
theorem jw_icmp_le {a b : Int} {off : Int} {tgt : Nat} (C : JC G X rm cc own nL) (d : decode cc pc = .ok (.if_icmp .le off, 3)) (ht : (pc : Int) + off = (tgt : Int)) (ra : jr a) (rb : jr b) (kt : a ≤ b → JW G X k n w (tgt) L (rest)) (kf : ¬ (a ≤ b) → JW G X k n w (pc + 3) L (rest)) : JW G X k n w (pc) L (.int (iI b) :: .int (iI a) :: rest) := by
  obtain ⟨p, l, e, R, s, m, args, below, meth, c, Q, A⟩ := X
  obtain ⟨hx, hb, hml, hown, hts, hnw, hK, hlk, hA, hR⟩ := C
  intro H locs ls hP hD hS hl
  refine lv_icmp_le hx hb d ht (fun h => ?_) (fun h => ?_)
  · exact kt ((iI_le ra rb).mp h) H locs ls hP hD hS hl
  · exact kf (fun e => h ((iI_le ra rb).mpr e)) H locs ls hP hD hS hl
theorem jw_if_le {a : Int} {off : Int} {tgt : Nat} (C : JC G X rm cc own nL) (d : decode cc pc = .ok (.ifCond .le off, 3)) (ht : (pc : Int) + off = (tgt : Int)) (ra : jr a) (kt : a ≤ 0 → JW G X k n w (tgt) L (rest)) (kf : ¬ (a ≤ 0) → JW G X k n w (pc + 3) L (rest)) : JW G X k n w (pc) L (.int (iI a) :: rest) := by
  obtain ⟨p, l, e, R, s, m, args, below, meth, c, Q, A⟩ := X
  obtain ⟨hx, hb, hml, hown, hts, hnw, hK, hlk, hA, hR⟩ := C
  intro H locs ls hP hD hS hl
  refine lv_if_le hx hb d ht (fun h => ?_) (fun h => ?_)
  · exact kt ((iI_le ra ⟨by decide, by decide⟩).mp h) H locs ls hP hD hS hl
  · exact kf (fun e => h ((iI_le ra ⟨by decide, by decide⟩).mpr e)) H locs ls hP hD hS hl
theorem jw_if_le_r {x : Int32} {off : Int} {tgt : Nat} (C : JC G X rm cc own nL) (d : decode cc pc = .ok (.ifCond .le off, 3)) (ht : (pc : Int) + off = (tgt : Int)) (kt : x ≤ 0 → JW G X k n w (tgt) L (rest)) (kf : ¬ (x ≤ 0) → JW G X k n w (pc + 3) L (rest)) : JW G X k n w (pc) L (.int x :: rest) := by
  obtain ⟨p, l, e, R, s, m, args, below, meth, c, Q, A⟩ := X
  obtain ⟨hx, hb, hml, hown, hts, hnw, hK, hlk, hA, hR⟩ := C
  intro H locs ls hP hD hS hl
  refine lv_if_le hx hb d ht (fun h => ?_) (fun h => ?_)
  · exact kt h H locs ls hP hD hS hl
  · exact kf h H locs ls hP hD hS hl
theorem jw_icmp_le_r {x y : Int32} {off : Int} {tgt : Nat} (C : JC G X rm cc own nL) (d : decode cc pc = .ok (.if_icmp .le off, 3)) (ht : (pc : Int) + off = (tgt : Int)) (kt : x ≤ y → JW G X k n w (tgt) L (rest)) (kf : ¬ (x ≤ y) → JW G X k n w (pc + 3) L (rest)) : JW G X k n w (pc) L (.int y :: .int x :: rest) := by
  obtain ⟨p, l, e, R, s, m, args, below, meth, c, Q, A⟩ := X
  obtain ⟨hx, hb, hml, hown, hts, hnw, hK, hlk, hA, hR⟩ := C
  intro H locs ls hP hD hS hl
  refine lv_icmp_le hx hb d ht (fun h => ?_) (fun h => ?_)
  · exact kt h H locs ls hP hD hS hl
  · exact kf h H locs ls hP hD hS hl
theorem jw_icmp_eq {a b : Int} {off : Int} {tgt : Nat} (C : JC G X rm cc own nL) (d : decode cc pc = .ok (.if_icmp .eq off, 3)) (ht : (pc : Int) + off = (tgt : Int)) (ra : jr a) (rb : jr b) (kt : a = b → JW G X k n w (tgt) L (rest)) (kf : ¬ (a = b) → JW G X k n w (pc + 3) L (rest)) : JW G X k n w (pc) L (.int (iI b) :: .int (iI a) :: rest) := by
  obtain ⟨p, l, e, R, s, m, args, below, meth, c, Q, A⟩ := X
  obtain ⟨hx, hb, hml, hown, hts, hnw, hK, hlk, hA, hR⟩ := C
  intro H locs ls hP hD hS hl
  refine lv_icmp_eq hx hb d ht (fun h => ?_) (fun h => ?_)
  · exact kt ((iI_eq ra rb).mp h) H locs ls hP hD hS hl
  · exact kf (fun e => h ((iI_eq ra rb).mpr e)) H locs ls hP hD hS hl
theorem jw_if_eq {a : Int} {off : Int} {tgt : Nat} (C : JC G X rm cc own nL) (d : decode cc pc = .ok (.ifCond .eq off, 3)) (ht : (pc : Int) + off = (tgt : Int)) (ra : jr a) (kt : a = 0 → JW G X k n w (tgt) L (rest)) (kf : ¬ (a = 0) → JW G X k n w (pc + 3) L (rest)) : JW G X k n w (pc) L (.int (iI a) :: rest) := by
  obtain ⟨p, l, e, R, s, m, args, below, meth, c, Q, A⟩ := X
  obtain ⟨hx, hb, hml, hown, hts, hnw, hK, hlk, hA, hR⟩ := C
  intro H locs ls hP hD hS hl
  refine lv_if_eq hx hb d ht (fun h => ?_) (fun h => ?_)
  · exact kt ((iI_eq ra ⟨by decide, by decide⟩).mp h) H locs ls hP hD hS hl
  · exact kf (fun e => h ((iI_eq ra ⟨by decide, by decide⟩).mpr e)) H locs ls hP hD hS hl
theorem jw_if_eq_r {x : Int32} {off : Int} {tgt : Nat} (C : JC G X rm cc own nL) (d : decode cc pc = .ok (.ifCond .eq off, 3)) (ht : (pc : Int) + off = (tgt : Int)) (kt : x = 0 → JW G X k n w (tgt) L (rest)) (kf : ¬ (x = 0) → JW G X k n w (pc + 3) L (rest)) : JW G X k n w (pc) L (.int x :: rest) := by
  obtain ⟨p, l, e, R, s, m, args, below, meth, c, Q, A⟩ := X
  obtain ⟨hx, hb, hml, hown, hts, hnw, hK, hlk, hA, hR⟩ := C
  intro H locs ls hP hD hS hl
  refine lv_if_eq hx hb d ht (fun h => ?_) (fun h => ?_)
  · exact kt h H locs ls hP hD hS hl
  · exact kf h H locs ls hP hD hS hl
theorem jw_icmp_eq_r {x y : Int32} {off : Int} {tgt : Nat} (C : JC G X rm cc own nL) (d : decode cc pc = .ok (.if_icmp .eq off, 3)) (ht : (pc : Int) + off = (tgt : Int)) (kt : x = y → JW G X k n w (tgt) L (rest)) (kf : ¬ (x = y) → JW G X k n w (pc + 3) L (rest)) : JW G X k n w (pc) L (.int y :: .int x :: rest) := by
  obtain ⟨p, l, e, R, s, m, args, below, meth, c, Q, A⟩ := X
  obtain ⟨hx, hb, hml, hown, hts, hnw, hK, hlk, hA, hR⟩ := C
  intro H locs ls hP hD hS hl
  refine lv_icmp_eq hx hb d ht (fun h => ?_) (fun h => ?_)
  · exact kt h H locs ls hP hD hS hl
  · exact kf h H locs ls hP hD hS hl
theorem jw_icmp_ne {a b : Int} {off : Int} {tgt : Nat} (C : JC G X rm cc own nL) (d : decode cc pc = .ok (.if_icmp .ne off, 3)) (ht : (pc : Int) + off = (tgt : Int)) (ra : jr a) (rb : jr b) (kt : ¬ a = b → JW G X k n w (tgt) L (rest)) (kf : a = b → JW G X k n w (pc + 3) L (rest)) : JW G X k n w (pc) L (.int (iI b) :: .int (iI a) :: rest) := by
  obtain ⟨p, l, e, R, s, m, args, below, meth, c, Q, A⟩ := X
  obtain ⟨hx, hb, hml, hown, hts, hnw, hK, hlk, hA, hR⟩ := C
  intro H locs ls hP hD hS hl
  refine lv_icmp_ne hx hb d ht (fun h => ?_) (fun h => ?_)
  · exact kt (fun e => absurd ((iI_eq ra rb).mpr e) (by first | exact h | (intro h2; exact h h2))) H locs ls hP hD hS hl
  · exact kf ((iI_eq ra rb).mp (by first | exact h | exact Decidable.not_not.mp h)) H locs ls hP hD hS hl
theorem jw_if_ne {a : Int} {off : Int} {tgt : Nat} (C : JC G X rm cc own nL) (d : decode cc pc = .ok (.ifCond .ne off, 3)) (ht : (pc : Int) + off = (tgt : Int)) (ra : jr a) (kt : ¬ a = 0 → JW G X k n w (tgt) L (rest)) (kf : a = 0 → JW G X k n w (pc + 3) L (rest)) : JW G X k n w (pc) L (.int (iI a) :: rest) := by
  obtain ⟨p, l, e, R, s, m, args, below, meth, c, Q, A⟩ := X
  obtain ⟨hx, hb, hml, hown, hts, hnw, hK, hlk, hA, hR⟩ := C
  intro H locs ls hP hD hS hl
  refine lv_if_ne hx hb d ht (fun h => ?_) (fun h => ?_)
  · exact kt (fun e => absurd ((iI_eq ra ⟨by decide, by decide⟩).mpr e) (by first | exact h | (intro h2; exact h h2))) H locs ls hP hD hS hl
  · exact kf ((iI_eq ra ⟨by decide, by decide⟩).mp (by first | exact h | exact Decidable.not_not.mp h)) H locs ls hP hD hS hl
theorem jw_if_ne_r {x : Int32} {off : Int} {tgt : Nat} (C : JC G X rm cc own nL) (d : decode cc pc = .ok (.ifCond .ne off, 3)) (ht : (pc : Int) + off = (tgt : Int)) (kt : ¬ x = 0 → JW G X k n w (tgt) L (rest)) (kf : x = 0 → JW G X k n w (pc + 3) L (rest)) : JW G X k n w (pc) L (.int x :: rest) := by
  obtain ⟨p, l, e, R, s, m, args, below, meth, c, Q, A⟩ := X
  obtain ⟨hx, hb, hml, hown, hts, hnw, hK, hlk, hA, hR⟩ := C
  intro H locs ls hP hD hS hl
  refine lv_if_ne hx hb d ht (fun h => ?_) (fun h => ?_)
  · exact kt (by first | exact h | (intro h2; exact h h2)) H locs ls hP hD hS hl
  · exact kf (by first | exact h | exact Decidable.not_not.mp h) H locs ls hP hD hS hl
theorem jw_icmp_ne_r {x y : Int32} {off : Int} {tgt : Nat} (C : JC G X rm cc own nL) (d : decode cc pc = .ok (.if_icmp .ne off, 3)) (ht : (pc : Int) + off = (tgt : Int)) (kt : ¬ x = y → JW G X k n w (tgt) L (rest)) (kf : x = y → JW G X k n w (pc + 3) L (rest)) : JW G X k n w (pc) L (.int y :: .int x :: rest) := by
  obtain ⟨p, l, e, R, s, m, args, below, meth, c, Q, A⟩ := X
  obtain ⟨hx, hb, hml, hown, hts, hnw, hK, hlk, hA, hR⟩ := C
  intro H locs ls hP hD hS hl
  refine lv_icmp_ne hx hb d ht (fun h => ?_) (fun h => ?_)
  · exact kt (by first | exact h | (intro h2; exact h h2)) H locs ls hP hD hS hl
  · exact kf (by first | exact h | exact Decidable.not_not.mp h) H locs ls hP hD hS hl
theorem jb_ne {b : Bool} : jb b = 0 ↔ b = false := by cases b <;> decide
theorem jw_if_eq_b {b : Bool} {off : Int} {tgt : Nat} (C : JC G X rm cc own nL) (d : decode cc pc = .ok (.ifCond .eq off, 3)) (ht : (pc : Int) + off = (tgt : Int)) (kt : b = false → JW G X k n w (tgt) L (rest)) (kf : b = true → JW G X k n w (pc + 3) L (rest)) : JW G X k n w (pc) L (.int (jb b) :: rest) := by
  obtain ⟨p, l, e, R, s, m, args, below, meth, c, Q, A⟩ := X
  obtain ⟨hx, hb, hml, hown, hts, hnw, hK, hlk, hA, hR⟩ := C
  intro H locs ls hP hD hS hl
  refine lv_if_eq hx hb d ht (fun h => ?_) (fun h => ?_)
  · exact kt (by cases b <;> first | rfl | exact absurd h (by decide)) H locs ls hP hD hS hl
  · exact kf (by cases b <;> first | rfl | exact absurd h (by decide)) H locs ls hP hD hS hl
theorem jw_if_ne_b {b : Bool} {off : Int} {tgt : Nat} (C : JC G X rm cc own nL) (d : decode cc pc = .ok (.ifCond .ne off, 3)) (ht : (pc : Int) + off = (tgt : Int)) (kt : b = true → JW G X k n w (tgt) L (rest)) (kf : b = false → JW G X k n w (pc + 3) L (rest)) : JW G X k n w (pc) L (.int (jb b) :: rest) := by
  obtain ⟨p, l, e, R, s, m, args, below, meth, c, Q, A⟩ := X
  obtain ⟨hx, hb, hml, hown, hts, hnw, hK, hlk, hA, hR⟩ := C
  intro H locs ls hP hD hS hl
  refine lv_if_ne hx hb d ht (fun h => ?_) (fun h => ?_)
  · exact kt (by cases b <;> first | rfl | exact absurd h (by decide)) H locs ls hP hD hS hl
  · exact kf (by cases b <;> first | rfl | exact absurd h (by decide)) H locs ls hP hD hS hl
theorem jw_iload_0 {x : Int32} {t : List (Option Value)} (C : JC G X rm cc own nL) (d : decode cc pc = .ok (.iload_n 0, 1)) (kk : JW G X k n w (pc + 1) (some (.int x) :: t) (.int x :: rest)) : JW G X k n w (pc) (some (.int x) :: t) (rest) := by
  obtain ⟨p, l, e, R, s, m, args, below, meth, c, Q, A⟩ := X
  obtain ⟨hx, hb, hml, hown, hts, hnw, hK, hlk, hA, hR⟩ := C
  intro H locs ls hP hD hS hl
  refine lv_iload_n hx hb d rfl (hl.2.2 (0, .int x) ((jl0_mem _ _ _).mpr ⟨0, rfl, by omega⟩)) ?_
  exact kk H locs ls hP hD hS hl
theorem jw_iload_1 {a0 : Option Value} {x : Int32} {t : List (Option Value)} (C : JC G X rm cc own nL) (d : decode cc pc = .ok (.iload_n 1, 1)) (kk : JW G X k n w (pc + 1) (a0 :: some (.int x) :: t) (.int x :: rest)) : JW G X k n w (pc) (a0 :: some (.int x) :: t) (rest) := by
  obtain ⟨p, l, e, R, s, m, args, below, meth, c, Q, A⟩ := X
  obtain ⟨hx, hb, hml, hown, hts, hnw, hK, hlk, hA, hR⟩ := C
  intro H locs ls hP hD hS hl
  refine lv_iload_n hx hb d rfl (hl.2.2 (1, .int x) ((jl0_mem _ _ _).mpr ⟨1, rfl, by omega⟩)) ?_
  exact kk H locs ls hP hD hS hl
theorem jw_iload_2 {a0 a1 : Option Value} {x : Int32} {t : List (Option Value)} (C : JC G X rm cc own nL) (d : decode cc pc = .ok (.iload_n 2, 1)) (kk : JW G X k n w (pc + 1) (a0 :: a1 :: some (.int x) :: t) (.int x :: rest)) : JW G X k n w (pc) (a0 :: a1 :: some (.int x) :: t) (rest) := by
  obtain ⟨p, l, e, R, s, m, args, below, meth, c, Q, A⟩ := X
  obtain ⟨hx, hb, hml, hown, hts, hnw, hK, hlk, hA, hR⟩ := C
  intro H locs ls hP hD hS hl
  refine lv_iload_n hx hb d rfl (hl.2.2 (2, .int x) ((jl0_mem _ _ _).mpr ⟨2, rfl, by omega⟩)) ?_
  exact kk H locs ls hP hD hS hl
theorem jw_iload_3 {a0 a1 a2 : Option Value} {x : Int32} {t : List (Option Value)} (C : JC G X rm cc own nL) (d : decode cc pc = .ok (.iload_n 3, 1)) (kk : JW G X k n w (pc + 1) (a0 :: a1 :: a2 :: some (.int x) :: t) (.int x :: rest)) : JW G X k n w (pc) (a0 :: a1 :: a2 :: some (.int x) :: t) (rest) := by
  obtain ⟨p, l, e, R, s, m, args, below, meth, c, Q, A⟩ := X
  obtain ⟨hx, hb, hml, hown, hts, hnw, hK, hlk, hA, hR⟩ := C
  intro H locs ls hP hD hS hl
  refine lv_iload_n hx hb d rfl (hl.2.2 (3, .int x) ((jl0_mem _ _ _).mpr ⟨3, rfl, by omega⟩)) ?_
  exact kk H locs ls hP hD hS hl
theorem jw_iload_4 {a0 a1 a2 a3 : Option Value} {x : Int32} {t : List (Option Value)} (C : JC G X rm cc own nL) (d : decode cc pc = .ok (.iload 4, 2)) (kk : JW G X k n w (pc + 2) (a0 :: a1 :: a2 :: a3 :: some (.int x) :: t) (.int x :: rest)) : JW G X k n w (pc) (a0 :: a1 :: a2 :: a3 :: some (.int x) :: t) (rest) := by
  obtain ⟨p, l, e, R, s, m, args, below, meth, c, Q, A⟩ := X
  obtain ⟨hx, hb, hml, hown, hts, hnw, hK, hlk, hA, hR⟩ := C
  intro H locs ls hP hD hS hl
  refine lv_iload hx hb d (hl.2.2 (4, .int x) ((jl0_mem _ _ _).mpr ⟨4, rfl, by omega⟩)) ?_
  exact kk H locs ls hP hD hS hl
theorem jw_iload_5 {a0 a1 a2 a3 a4 : Option Value} {x : Int32} {t : List (Option Value)} (C : JC G X rm cc own nL) (d : decode cc pc = .ok (.iload 5, 2)) (kk : JW G X k n w (pc + 2) (a0 :: a1 :: a2 :: a3 :: a4 :: some (.int x) :: t) (.int x :: rest)) : JW G X k n w (pc) (a0 :: a1 :: a2 :: a3 :: a4 :: some (.int x) :: t) (rest) := by
  obtain ⟨p, l, e, R, s, m, args, below, meth, c, Q, A⟩ := X
  obtain ⟨hx, hb, hml, hown, hts, hnw, hK, hlk, hA, hR⟩ := C
  intro H locs ls hP hD hS hl
  refine lv_iload hx hb d (hl.2.2 (5, .int x) ((jl0_mem _ _ _).mpr ⟨5, rfl, by omega⟩)) ?_
  exact kk H locs ls hP hD hS hl
theorem jw_iload_6 {a0 a1 a2 a3 a4 a5 : Option Value} {x : Int32} {t : List (Option Value)} (C : JC G X rm cc own nL) (d : decode cc pc = .ok (.iload 6, 2)) (kk : JW G X k n w (pc + 2) (a0 :: a1 :: a2 :: a3 :: a4 :: a5 :: some (.int x) :: t) (.int x :: rest)) : JW G X k n w (pc) (a0 :: a1 :: a2 :: a3 :: a4 :: a5 :: some (.int x) :: t) (rest) := by
  obtain ⟨p, l, e, R, s, m, args, below, meth, c, Q, A⟩ := X
  obtain ⟨hx, hb, hml, hown, hts, hnw, hK, hlk, hA, hR⟩ := C
  intro H locs ls hP hD hS hl
  refine lv_iload hx hb d (hl.2.2 (6, .int x) ((jl0_mem _ _ _).mpr ⟨6, rfl, by omega⟩)) ?_
  exact kk H locs ls hP hD hS hl
theorem jw_iload_7 {a0 a1 a2 a3 a4 a5 a6 : Option Value} {x : Int32} {t : List (Option Value)} (C : JC G X rm cc own nL) (d : decode cc pc = .ok (.iload 7, 2)) (kk : JW G X k n w (pc + 2) (a0 :: a1 :: a2 :: a3 :: a4 :: a5 :: a6 :: some (.int x) :: t) (.int x :: rest)) : JW G X k n w (pc) (a0 :: a1 :: a2 :: a3 :: a4 :: a5 :: a6 :: some (.int x) :: t) (rest) := by
  obtain ⟨p, l, e, R, s, m, args, below, meth, c, Q, A⟩ := X
  obtain ⟨hx, hb, hml, hown, hts, hnw, hK, hlk, hA, hR⟩ := C
  intro H locs ls hP hD hS hl
  refine lv_iload hx hb d (hl.2.2 (7, .int x) ((jl0_mem _ _ _).mpr ⟨7, rfl, by omega⟩)) ?_
  exact kk H locs ls hP hD hS hl
theorem jw_iload_8 {a0 a1 a2 a3 a4 a5 a6 a7 : Option Value} {x : Int32} {t : List (Option Value)} (C : JC G X rm cc own nL) (d : decode cc pc = .ok (.iload 8, 2)) (kk : JW G X k n w (pc + 2) (a0 :: a1 :: a2 :: a3 :: a4 :: a5 :: a6 :: a7 :: some (.int x) :: t) (.int x :: rest)) : JW G X k n w (pc) (a0 :: a1 :: a2 :: a3 :: a4 :: a5 :: a6 :: a7 :: some (.int x) :: t) (rest) := by
  obtain ⟨p, l, e, R, s, m, args, below, meth, c, Q, A⟩ := X
  obtain ⟨hx, hb, hml, hown, hts, hnw, hK, hlk, hA, hR⟩ := C
  intro H locs ls hP hD hS hl
  refine lv_iload hx hb d (hl.2.2 (8, .int x) ((jl0_mem _ _ _).mpr ⟨8, rfl, by omega⟩)) ?_
  exact kk H locs ls hP hD hS hl
theorem jw_istore_0 {b0 : Option Value} {x : Int32} {t : List (Option Value)} (C : JC G X rm cc own nL) (d : decode cc pc = .ok (.istore_n 0, 1)) (kk : JW G X k n w (pc + 1) (some (.int x) :: t) (rest)) : JW G X k n w (pc) (b0 :: t) (.int x :: rest) := by
  obtain ⟨p, l, e, R, s, m, args, below, meth, c, Q, A⟩ := X
  obtain ⟨hx, hb, hml, hown, hts, hnw, hK, hlk, hA, hR⟩ := C
  intro H locs ls hP hD hS hl
  refine lv_istore_n hx hb d rfl hl (by simp only [List.length_cons]; omega) rfl (fun ls2 h2 => ?_)
  exact kk H locs ls2 hP hD hS (by have h3 := jl_store1 (L := b0 :: t) (v := .int x) (by simp only [List.length_cons]; omega) (fun a h _ => absurd h (Nat.lt_irrefl 0)) h2; exact h3)
theorem jw_istore_1 {a0 b0 : Option Value} {x : Int32} {t : List (Option Value)} (C : JC G X rm cc own nL) (d : decode cc pc = .ok (.istore_n 1, 1)) (hc : jc1 a0 = true) (kk : JW G X k n w (pc + 1) (a0 :: some (.int x) :: t) (rest)) : JW G X k n w (pc) (a0 :: b0 :: t) (.int x :: rest) := by
  obtain ⟨p, l, e, R, s, m, args, below, meth, c, Q, A⟩ := X
  obtain ⟨hx, hb, hml, hown, hts, hnw, hK, hlk, hA, hR⟩ := C
  intro H locs ls hP hD hS hl
  refine lv_istore_n hx hb d rfl hl (by simp only [List.length_cons]; omega) rfl (fun ls2 h2 => ?_)
  exact kk H locs ls2 hP hD hS (by have h3 := jl_store1 (L := a0 :: b0 :: t) (v := .int x) (by simp only [List.length_cons]; omega) (fun a _ h => by cases h; exact hc) h2; exact h3)
theorem jw_istore_2 {a0 a1 b0 : Option Value} {x : Int32} {t : List (Option Value)} (C : JC G X rm cc own nL) (d : decode cc pc = .ok (.istore_n 2, 1)) (hc : jc1 a1 = true) (kk : JW G X k n w (pc + 1) (a0 :: a1 :: some (.int x) :: t) (rest)) : JW G X k n w (pc) (a0 :: a1 :: b0 :: t) (.int x :: rest) := by
  obtain ⟨p, l, e, R, s, m, args, below, meth, c, Q, A⟩ := X
  obtain ⟨hx, hb, hml, hown, hts, hnw, hK, hlk, hA, hR⟩ := C
  intro H locs ls hP hD hS hl
  refine lv_istore_n hx hb d rfl hl (by simp only [List.length_cons]; omega) rfl (fun ls2 h2 => ?_)
  exact kk H locs ls2 hP hD hS (by have h3 := jl_store1 (L := a0 :: a1 :: b0 :: t) (v := .int x) (by simp only [List.length_cons]; omega) (fun a _ h => by cases h; exact hc) h2; exact h3)
theorem jw_istore_3 {a0 a1 a2 b0 : Option Value} {x : Int32} {t : List (Option Value)} (C : JC G X rm cc own nL) (d : decode cc pc = .ok (.istore_n 3, 1)) (hc : jc1 a2 = true) (kk : JW G X k n w (pc + 1) (a0 :: a1 :: a2 :: some (.int x) :: t) (rest)) : JW G X k n w (pc) (a0 :: a1 :: a2 :: b0 :: t) (.int x :: rest) := by
  obtain ⟨p, l, e, R, s, m, args, below, meth, c, Q, A⟩ := X
  obtain ⟨hx, hb, hml, hown, hts, hnw, hK, hlk, hA, hR⟩ := C
  intro H locs ls hP hD hS hl
  refine lv_istore_n hx hb d rfl hl (by simp only [List.length_cons]; omega) rfl (fun ls2 h2 => ?_)
  exact kk H locs ls2 hP hD hS (by have h3 := jl_store1 (L := a0 :: a1 :: a2 :: b0 :: t) (v := .int x) (by simp only [List.length_cons]; omega) (fun a _ h => by cases h; exact hc) h2; exact h3)
theorem jw_istore_4 {a0 a1 a2 a3 b0 : Option Value} {x : Int32} {t : List (Option Value)} (C : JC G X rm cc own nL) (d : decode cc pc = .ok (.istore 4, 2)) (hc : jc1 a3 = true) (kk : JW G X k n w (pc + 2) (a0 :: a1 :: a2 :: a3 :: some (.int x) :: t) (rest)) : JW G X k n w (pc) (a0 :: a1 :: a2 :: a3 :: b0 :: t) (.int x :: rest) := by
  obtain ⟨p, l, e, R, s, m, args, below, meth, c, Q, A⟩ := X
  obtain ⟨hx, hb, hml, hown, hts, hnw, hK, hlk, hA, hR⟩ := C
  intro H locs ls hP hD hS hl
  refine lv_istore hx hb d hl (by simp only [List.length_cons]; omega) rfl (fun ls2 h2 => ?_)
  exact kk H locs ls2 hP hD hS (by have h3 := jl_store1 (L := a0 :: a1 :: a2 :: a3 :: b0 :: t) (v := .int x) (by simp only [List.length_cons]; omega) (fun a _ h => by cases h; exact hc) h2; exact h3)
theorem jw_istore_5 {a0 a1 a2 a3 a4 b0 : Option Value} {x : Int32} {t : List (Option Value)} (C : JC G X rm cc own nL) (d : decode cc pc = .ok (.istore 5, 2)) (hc : jc1 a4 = true) (kk : JW G X k n w (pc + 2) (a0 :: a1 :: a2 :: a3 :: a4 :: some (.int x) :: t) (rest)) : JW G X k n w (pc) (a0 :: a1 :: a2 :: a3 :: a4 :: b0 :: t) (.int x :: rest) := by
  obtain ⟨p, l, e, R, s, m, args, below, meth, c, Q, A⟩ := X
  obtain ⟨hx, hb, hml, hown, hts, hnw, hK, hlk, hA, hR⟩ := C
  intro H locs ls hP hD hS hl
  refine lv_istore hx hb d hl (by simp only [List.length_cons]; omega) rfl (fun ls2 h2 => ?_)
  exact kk H locs ls2 hP hD hS (by have h3 := jl_store1 (L := a0 :: a1 :: a2 :: a3 :: a4 :: b0 :: t) (v := .int x) (by simp only [List.length_cons]; omega) (fun a _ h => by cases h; exact hc) h2; exact h3)
theorem jw_istore_6 {a0 a1 a2 a3 a4 a5 b0 : Option Value} {x : Int32} {t : List (Option Value)} (C : JC G X rm cc own nL) (d : decode cc pc = .ok (.istore 6, 2)) (hc : jc1 a5 = true) (kk : JW G X k n w (pc + 2) (a0 :: a1 :: a2 :: a3 :: a4 :: a5 :: some (.int x) :: t) (rest)) : JW G X k n w (pc) (a0 :: a1 :: a2 :: a3 :: a4 :: a5 :: b0 :: t) (.int x :: rest) := by
  obtain ⟨p, l, e, R, s, m, args, below, meth, c, Q, A⟩ := X
  obtain ⟨hx, hb, hml, hown, hts, hnw, hK, hlk, hA, hR⟩ := C
  intro H locs ls hP hD hS hl
  refine lv_istore hx hb d hl (by simp only [List.length_cons]; omega) rfl (fun ls2 h2 => ?_)
  exact kk H locs ls2 hP hD hS (by have h3 := jl_store1 (L := a0 :: a1 :: a2 :: a3 :: a4 :: a5 :: b0 :: t) (v := .int x) (by simp only [List.length_cons]; omega) (fun a _ h => by cases h; exact hc) h2; exact h3)
theorem jw_istore_7 {a0 a1 a2 a3 a4 a5 a6 b0 : Option Value} {x : Int32} {t : List (Option Value)} (C : JC G X rm cc own nL) (d : decode cc pc = .ok (.istore 7, 2)) (hc : jc1 a6 = true) (kk : JW G X k n w (pc + 2) (a0 :: a1 :: a2 :: a3 :: a4 :: a5 :: a6 :: some (.int x) :: t) (rest)) : JW G X k n w (pc) (a0 :: a1 :: a2 :: a3 :: a4 :: a5 :: a6 :: b0 :: t) (.int x :: rest) := by
  obtain ⟨p, l, e, R, s, m, args, below, meth, c, Q, A⟩ := X
  obtain ⟨hx, hb, hml, hown, hts, hnw, hK, hlk, hA, hR⟩ := C
  intro H locs ls hP hD hS hl
  refine lv_istore hx hb d hl (by simp only [List.length_cons]; omega) rfl (fun ls2 h2 => ?_)
  exact kk H locs ls2 hP hD hS (by have h3 := jl_store1 (L := a0 :: a1 :: a2 :: a3 :: a4 :: a5 :: a6 :: b0 :: t) (v := .int x) (by simp only [List.length_cons]; omega) (fun a _ h => by cases h; exact hc) h2; exact h3)
theorem jw_istore_8 {a0 a1 a2 a3 a4 a5 a6 a7 b0 : Option Value} {x : Int32} {t : List (Option Value)} (C : JC G X rm cc own nL) (d : decode cc pc = .ok (.istore 8, 2)) (hc : jc1 a7 = true) (kk : JW G X k n w (pc + 2) (a0 :: a1 :: a2 :: a3 :: a4 :: a5 :: a6 :: a7 :: some (.int x) :: t) (rest)) : JW G X k n w (pc) (a0 :: a1 :: a2 :: a3 :: a4 :: a5 :: a6 :: a7 :: b0 :: t) (.int x :: rest) := by
  obtain ⟨p, l, e, R, s, m, args, below, meth, c, Q, A⟩ := X
  obtain ⟨hx, hb, hml, hown, hts, hnw, hK, hlk, hA, hR⟩ := C
  intro H locs ls hP hD hS hl
  refine lv_istore hx hb d hl (by simp only [List.length_cons]; omega) rfl (fun ls2 h2 => ?_)
  exact kk H locs ls2 hP hD hS (by have h3 := jl_store1 (L := a0 :: a1 :: a2 :: a3 :: a4 :: a5 :: a6 :: a7 :: b0 :: t) (v := .int x) (by simp only [List.length_cons]; omega) (fun a _ h => by cases h; exact hc) h2; exact h3)
theorem jw_aload_0 {x : Nat} {t : List (Option Value)} (C : JC G X rm cc own nL) (d : decode cc pc = .ok (.aload_n 0, 1)) (kk : JW G X k n w (pc + 1) (some (.ref x) :: t) (.ref x :: rest)) : JW G X k n w (pc) (some (.ref x) :: t) (rest) := by
  obtain ⟨p, l, e, R, s, m, args, below, meth, c, Q, A⟩ := X
  obtain ⟨hx, hb, hml, hown, hts, hnw, hK, hlk, hA, hR⟩ := C
  intro H locs ls hP hD hS hl
  refine lv_aload_n hx hb d rfl (hl.2.2 (0, .ref x) ((jl0_mem _ _ _).mpr ⟨0, rfl, by omega⟩)) ?_
  exact kk H locs ls hP hD hS hl
theorem jw_aload_1 {a0 : Option Value} {x : Nat} {t : List (Option Value)} (C : JC G X rm cc own nL) (d : decode cc pc = .ok (.aload_n 1, 1)) (kk : JW G X k n w (pc + 1) (a0 :: some (.ref x) :: t) (.ref x :: rest)) : JW G X k n w (pc) (a0 :: some (.ref x) :: t) (rest) := by
  obtain ⟨p, l, e, R, s, m, args, below, meth, c, Q, A⟩ := X
  obtain ⟨hx, hb, hml, hown, hts, hnw, hK, hlk, hA, hR⟩ := C
  intro H locs ls hP hD hS hl
  refine lv_aload_n hx hb d rfl (hl.2.2 (1, .ref x) ((jl0_mem _ _ _).mpr ⟨1, rfl, by omega⟩)) ?_
  exact kk H locs ls hP hD hS hl
theorem jw_aload_2 {a0 a1 : Option Value} {x : Nat} {t : List (Option Value)} (C : JC G X rm cc own nL) (d : decode cc pc = .ok (.aload_n 2, 1)) (kk : JW G X k n w (pc + 1) (a0 :: a1 :: some (.ref x) :: t) (.ref x :: rest)) : JW G X k n w (pc) (a0 :: a1 :: some (.ref x) :: t) (rest) := by
  obtain ⟨p, l, e, R, s, m, args, below, meth, c, Q, A⟩ := X
  obtain ⟨hx, hb, hml, hown, hts, hnw, hK, hlk, hA, hR⟩ := C
  intro H locs ls hP hD hS hl
  refine lv_aload_n hx hb d rfl (hl.2.2 (2, .ref x) ((jl0_mem _ _ _).mpr ⟨2, rfl, by omega⟩)) ?_
  exact kk H locs ls hP hD hS hl
theorem jw_aload_3 {a0 a1 a2 : Option Value} {x : Nat} {t : List (Option Value)} (C : JC G X rm cc own nL) (d : decode cc pc = .ok (.aload_n 3, 1)) (kk : JW G X k n w (pc + 1) (a0 :: a1 :: a2 :: some (.ref x) :: t) (.ref x :: rest)) : JW G X k n w (pc) (a0 :: a1 :: a2 :: some (.ref x) :: t) (rest) := by
  obtain ⟨p, l, e, R, s, m, args, below, meth, c, Q, A⟩ := X
  obtain ⟨hx, hb, hml, hown, hts, hnw, hK, hlk, hA, hR⟩ := C
  intro H locs ls hP hD hS hl
  refine lv_aload_n hx hb d rfl (hl.2.2 (3, .ref x) ((jl0_mem _ _ _).mpr ⟨3, rfl, by omega⟩)) ?_
  exact kk H locs ls hP hD hS hl
theorem jw_aload_4 {a0 a1 a2 a3 : Option Value} {x : Nat} {t : List (Option Value)} (C : JC G X rm cc own nL) (d : decode cc pc = .ok (.aload 4, 2)) (kk : JW G X k n w (pc + 2) (a0 :: a1 :: a2 :: a3 :: some (.ref x) :: t) (.ref x :: rest)) : JW G X k n w (pc) (a0 :: a1 :: a2 :: a3 :: some (.ref x) :: t) (rest) := by
  obtain ⟨p, l, e, R, s, m, args, below, meth, c, Q, A⟩ := X
  obtain ⟨hx, hb, hml, hown, hts, hnw, hK, hlk, hA, hR⟩ := C
  intro H locs ls hP hD hS hl
  refine lv_aload hx hb d (hl.2.2 (4, .ref x) ((jl0_mem _ _ _).mpr ⟨4, rfl, by omega⟩)) ?_
  exact kk H locs ls hP hD hS hl
theorem jw_aload_5 {a0 a1 a2 a3 a4 : Option Value} {x : Nat} {t : List (Option Value)} (C : JC G X rm cc own nL) (d : decode cc pc = .ok (.aload 5, 2)) (kk : JW G X k n w (pc + 2) (a0 :: a1 :: a2 :: a3 :: a4 :: some (.ref x) :: t) (.ref x :: rest)) : JW G X k n w (pc) (a0 :: a1 :: a2 :: a3 :: a4 :: some (.ref x) :: t) (rest) := by
  obtain ⟨p, l, e, R, s, m, args, below, meth, c, Q, A⟩ := X
  obtain ⟨hx, hb, hml, hown, hts, hnw, hK, hlk, hA, hR⟩ := C
  intro H locs ls hP hD hS hl
  refine lv_aload hx hb d (hl.2.2 (5, .ref x) ((jl0_mem _ _ _).mpr ⟨5, rfl, by omega⟩)) ?_
  exact kk H locs ls hP hD hS hl
theorem jw_aload_6 {a0 a1 a2 a3 a4 a5 : Option Value} {x : Nat} {t : List (Option Value)} (C : JC G X rm cc own nL) (d : decode cc pc = .ok (.aload 6, 2)) (kk : JW G X k n w (pc + 2) (a0 :: a1 :: a2 :: a3 :: a4 :: a5 :: some (.ref x) :: t) (.ref x :: rest)) : JW G X k n w (pc) (a0 :: a1 :: a2 :: a3 :: a4 :: a5 :: some (.ref x) :: t) (rest) := by
  obtain ⟨p, l, e, R, s, m, args, below, meth, c, Q, A⟩ := X
  obtain ⟨hx, hb, hml, hown, hts, hnw, hK, hlk, hA, hR⟩ := C
  intro H locs ls hP hD hS hl
  refine lv_aload hx hb d (hl.2.2 (6, .ref x) ((jl0_mem _ _ _).mpr ⟨6, rfl, by omega⟩)) ?_
  exact kk H locs ls hP hD hS hl
theorem jw_aload_7 {a0 a1 a2 a3 a4 a5 a6 : Option Value} {x : Nat} {t : List (Option Value)} (C : JC G X rm cc own nL) (d : decode cc pc = .ok (.aload 7, 2)) (kk : JW G X k n w (pc + 2) (a0 :: a1 :: a2 :: a3 :: a4 :: a5 :: a6 :: some (.ref x) :: t) (.ref x :: rest)) : JW G X k n w (pc) (a0 :: a1 :: a2 :: a3 :: a4 :: a5 :: a6 :: some (.ref x) :: t) (rest) := by
  obtain ⟨p, l, e, R, s, m, args, below, meth, c, Q, A⟩ := X
  obtain ⟨hx, hb, hml, hown, hts, hnw, hK, hlk, hA, hR⟩ := C
  intro H locs ls hP hD hS hl
  refine lv_aload hx hb d (hl.2.2 (7, .ref x) ((jl0_mem _ _ _).mpr ⟨7, rfl, by omega⟩)) ?_
  exact kk H locs ls hP hD hS hl
theorem jw_aload_8 {a0 a1 a2 a3 a4 a5 a6 a7 : Option Value} {x : Nat} {t : List (Option Value)} (C : JC G X rm cc own nL) (d : decode cc pc = .ok (.aload 8, 2)) (kk : JW G X k n w (pc + 2) (a0 :: a1 :: a2 :: a3 :: a4 :: a5 :: a6 :: a7 :: some (.ref x) :: t) (.ref x :: rest)) : JW G X k n w (pc) (a0 :: a1 :: a2 :: a3 :: a4 :: a5 :: a6 :: a7 :: some (.ref x) :: t) (rest) := by
  obtain ⟨p, l, e, R, s, m, args, below, meth, c, Q, A⟩ := X
  obtain ⟨hx, hb, hml, hown, hts, hnw, hK, hlk, hA, hR⟩ := C
  intro H locs ls hP hD hS hl
  refine lv_aload hx hb d (hl.2.2 (8, .ref x) ((jl0_mem _ _ _).mpr ⟨8, rfl, by omega⟩)) ?_
  exact kk H locs ls hP hD hS hl
theorem jw_astore_0 {b0 : Option Value} {x : Nat} {t : List (Option Value)} (C : JC G X rm cc own nL) (d : decode cc pc = .ok (.astore_n 0, 1)) (kk : JW G X k n w (pc + 1) (some (.ref x) :: t) (rest)) : JW G X k n w (pc) (b0 :: t) (.ref x :: rest) := by
  obtain ⟨p, l, e, R, s, m, args, below, meth, c, Q, A⟩ := X
  obtain ⟨hx, hb, hml, hown, hts, hnw, hK, hlk, hA, hR⟩ := C
  intro H locs ls hP hD hS hl
  refine lv_astore_n hx hb d rfl hl (by simp only [List.length_cons]; omega) rfl (fun ls2 h2 => ?_)
  exact kk H locs ls2 hP hD hS (by have h3 := jl_store1 (L := b0 :: t) (v := .ref x) (by simp only [List.length_cons]; omega) (fun a h _ => absurd h (Nat.lt_irrefl 0)) h2; exact h3)
theorem jw_astore_1 {a0 b0 : Option Value} {x : Nat} {t : List (Option Value)} (C : JC G X rm cc own nL) (d : decode cc pc = .ok (.astore_n 1, 1)) (hc : jc1 a0 = true) (kk : JW G X k n w (pc + 1) (a0 :: some (.ref x) :: t) (rest)) : JW G X k n w (pc) (a0 :: b0 :: t) (.ref x :: rest) := by
  obtain ⟨p, l, e, R, s, m, args, below, meth, c, Q, A⟩ := X
  obtain ⟨hx, hb, hml, hown, hts, hnw, hK, hlk, hA, hR⟩ := C
  intro H locs ls hP hD hS hl
  refine lv_astore_n hx hb d rfl hl (by simp only [List.length_cons]; omega) rfl (fun ls2 h2 => ?_)
  exact kk H locs ls2 hP hD hS (by have h3 := jl_store1 (L := a0 :: b0 :: t) (v := .ref x) (by simp only [List.length_cons]; omega) (fun a _ h => by cases h; exact hc) h2; exact h3)
theorem jw_astore_2 {a0 a1 b0 : Option Value} {x : Nat} {t : List (Option Value)} (C : JC G X rm cc own nL) (d : decode cc pc = .ok (.astore_n 2, 1)) (hc : jc1 a1 = true) (kk : JW G X k n w (pc + 1) (a0 :: a1 :: some (.ref x) :: t) (rest)) : JW G X k n w (pc) (a0 :: a1 :: b0 :: t) (.ref x :: rest) := by
  obtain ⟨p, l, e, R, s, m, args, below, meth, c, Q, A⟩ := X
  obtain ⟨hx, hb, hml, hown, hts, hnw, hK, hlk, hA, hR⟩ := C
  intro H locs ls hP hD hS hl
  refine lv_astore_n hx hb d rfl hl (by simp only [List.length_cons]; omega) rfl (fun ls2 h2 => ?_)
  exact kk H locs ls2 hP hD hS (by have h3 := jl_store1 (L := a0 :: a1 :: b0 :: t) (v := .ref x) (by simp only [List.length_cons]; omega) (fun a _ h => by cases h; exact hc) h2; exact h3)
theorem jw_astore_3 {a0 a1 a2 b0 : Option Value} {x : Nat} {t : List (Option Value)} (C : JC G X rm cc own nL) (d : decode cc pc = .ok (.astore_n 3, 1)) (hc : jc1 a2 = true) (kk : JW G X k n w (pc + 1) (a0 :: a1 :: a2 :: some (.ref x) :: t) (rest)) : JW G X k n w (pc) (a0 :: a1 :: a2 :: b0 :: t) (.ref x :: rest) := by
  obtain ⟨p, l, e, R, s, m, args, below, meth, c, Q, A⟩ := X
  obtain ⟨hx, hb, hml, hown, hts, hnw, hK, hlk, hA, hR⟩ := C
  intro H locs ls hP hD hS hl
  refine lv_astore_n hx hb d rfl hl (by simp only [List.length_cons]; omega) rfl (fun ls2 h2 => ?_)
  exact kk H locs ls2 hP hD hS (by have h3 := jl_store1 (L := a0 :: a1 :: a2 :: b0 :: t) (v := .ref x) (by simp only [List.length_cons]; omega) (fun a _ h => by cases h; exact hc) h2; exact h3)
theorem jw_astore_4 {a0 a1 a2 a3 b0 : Option Value} {x : Nat} {t : List (Option Value)} (C : JC G X rm cc own nL) (d : decode cc pc = .ok (.astore 4, 2)) (hc : jc1 a3 = true) (kk : JW G X k n w (pc + 2) (a0 :: a1 :: a2 :: a3 :: some (.ref x) :: t) (rest)) : JW G X k n w (pc) (a0 :: a1 :: a2 :: a3 :: b0 :: t) (.ref x :: rest) := by
  obtain ⟨p, l, e, R, s, m, args, below, meth, c, Q, A⟩ := X
  obtain ⟨hx, hb, hml, hown, hts, hnw, hK, hlk, hA, hR⟩ := C
  intro H locs ls hP hD hS hl
  refine lv_astore hx hb d hl (by simp only [List.length_cons]; omega) rfl (fun ls2 h2 => ?_)
  exact kk H locs ls2 hP hD hS (by have h3 := jl_store1 (L := a0 :: a1 :: a2 :: a3 :: b0 :: t) (v := .ref x) (by simp only [List.length_cons]; omega) (fun a _ h => by cases h; exact hc) h2; exact h3)
theorem jw_astore_5 {a0 a1 a2 a3 a4 b0 : Option Value} {x : Nat} {t : List (Option Value)} (C : JC G X rm cc own nL) (d : decode cc pc = .ok (.astore 5, 2)) (hc : jc1 a4 = true) (kk : JW G X k n w (pc + 2) (a0 :: a1 :: a2 :: a3 :: a4 :: some (.ref x) :: t) (rest)) : JW G X k n w (pc) (a0 :: a1 :: a2 :: a3 :: a4 :: b0 :: t) (.ref x :: rest) := by
  obtain ⟨p, l, e, R, s, m, args, below, meth, c, Q, A⟩ := X
  obtain ⟨hx, hb, hml, hown, hts, hnw, hK, hlk, hA, hR⟩ := C
  intro H locs ls hP hD hS hl
  refine lv_astore hx hb d hl (by simp only [List.length_cons]; omega) rfl (fun ls2 h2 => ?_)
  exact kk H locs ls2 hP hD hS (by have h3 := jl_store1 (L := a0 :: a1 :: a2 :: a3 :: a4 :: b0 :: t) (v := .ref x) (by simp only [List.length_cons]; omega) (fun a _ h => by cases h; exact hc) h2; exact h3)
theorem jw_astore_6 {a0 a1 a2 a3 a4 a5 b0 : Option Value} {x : Nat} {t : List (Option Value)} (C : JC G X rm cc own nL) (d : decode cc pc = .ok (.astore 6, 2)) (hc : jc1 a5 = true) (kk : JW G X k n w (pc + 2) (a0 :: a1 :: a2 :: a3 :: a4 :: a5 :: some (.ref x) :: t) (rest)) : JW G X k n w (pc) (a0 :: a1 :: a2 :: a3 :: a4 :: a5 :: b0 :: t) (.ref x :: rest) := by
  obtain ⟨p, l, e, R, s, m, args, below, meth, c, Q, A⟩ := X
  obtain ⟨hx, hb, hml, hown, hts, hnw, hK, hlk, hA, hR⟩ := C
  intro H locs ls hP hD hS hl
  refine lv_astore hx hb d hl (by simp only [List.length_cons]; omega) rfl (fun ls2 h2 => ?_)
  exact kk H locs ls2 hP hD hS (by have h3 := jl_store1 (L := a0 :: a1 :: a2 :: a3 :: a4 :: a5 :: b0 :: t) (v := .ref x) (by simp only [List.length_cons]; omega) (fun a _ h => by cases h; exact hc) h2; exact h3)
theorem jw_astore_7 {a0 a1 a2 a3 a4 a5 a6 b0 : Option Value} {x : Nat} {t : List (Option Value)} (C : JC G X rm cc own nL) (d : decode cc pc = .ok (.astore 7, 2)) (hc : jc1 a6 = true) (kk : JW G X k n w (pc + 2) (a0 :: a1 :: a2 :: a3 :: a4 :: a5 :: a6 :: some (.ref x) :: t) (rest)) : JW G X k n w (pc) (a0 :: a1 :: a2 :: a3 :: a4 :: a5 :: a6 :: b0 :: t) (.ref x :: rest) := by
  obtain ⟨p, l, e, R, s, m, args, below, meth, c, Q, A⟩ := X
  obtain ⟨hx, hb, hml, hown, hts, hnw, hK, hlk, hA, hR⟩ := C
  intro H locs ls hP hD hS hl
  refine lv_astore hx hb d hl (by simp only [List.length_cons]; omega) rfl (fun ls2 h2 => ?_)
  exact kk H locs ls2 hP hD hS (by have h3 := jl_store1 (L := a0 :: a1 :: a2 :: a3 :: a4 :: a5 :: a6 :: b0 :: t) (v := .ref x) (by simp only [List.length_cons]; omega) (fun a _ h => by cases h; exact hc) h2; exact h3)
theorem jw_astore_8 {a0 a1 a2 a3 a4 a5 a6 a7 b0 : Option Value} {x : Nat} {t : List (Option Value)} (C : JC G X rm cc own nL) (d : decode cc pc = .ok (.astore 8, 2)) (hc : jc1 a7 = true) (kk : JW G X k n w (pc + 2) (a0 :: a1 :: a2 :: a3 :: a4 :: a5 :: a6 :: a7 :: some (.ref x) :: t) (rest)) : JW G X k n w (pc) (a0 :: a1 :: a2 :: a3 :: a4 :: a5 :: a6 :: a7 :: b0 :: t) (.ref x :: rest) := by
  obtain ⟨p, l, e, R, s, m, args, below, meth, c, Q, A⟩ := X
  obtain ⟨hx, hb, hml, hown, hts, hnw, hK, hlk, hA, hR⟩ := C
  intro H locs ls hP hD hS hl
  refine lv_astore hx hb d hl (by simp only [List.length_cons]; omega) rfl (fun ls2 h2 => ?_)
  exact kk H locs ls2 hP hD hS (by have h3 := jl_store1 (L := a0 :: a1 :: a2 :: a3 :: a4 :: a5 :: a6 :: a7 :: b0 :: t) (v := .ref x) (by simp only [List.length_cons]; omega) (fun a _ h => by cases h; exact hc) h2; exact h3)
theorem jw_lload_0 {x : Int64} {t : List (Option Value)} (C : JC G X rm cc own nL) (d : decode cc pc = .ok (.lload_n 0, 1)) (kk : JW G X k n w (pc + 1) (some (.long x) :: t) (.long x :: rest)) : JW G X k n w (pc) (some (.long x) :: t) (rest) := by
  obtain ⟨p, l, e, R, s, m, args, below, meth, c, Q, A⟩ := X
  obtain ⟨hx, hb, hml, hown, hts, hnw, hK, hlk, hA, hR⟩ := C
  intro H locs ls hP hD hS hl
  refine lv_lload_n hx hb d rfl (hl.2.2 (0, .long x) ((jl0_mem _ _ _).mpr ⟨0, rfl, by omega⟩)) ?_
  exact kk H locs ls hP hD hS hl
theorem jw_lload_1 {a0 : Option Value} {x : Int64} {t : List (Option Value)} (C : JC G X rm cc own nL) (d : decode cc pc = .ok (.lload_n 1, 1)) (kk : JW G X k n w (pc + 1) (a0 :: some (.long x) :: t) (.long x :: rest)) : JW G X k n w (pc) (a0 :: some (.long x) :: t) (rest) := by
  obtain ⟨p, l, e, R, s, m, args, below, meth, c, Q, A⟩ := X
  obtain ⟨hx, hb, hml, hown, hts, hnw, hK, hlk, hA, hR⟩ := C
  intro H locs ls hP hD hS hl
  refine lv_lload_n hx hb d rfl (hl.2.2 (1, .long x) ((jl0_mem _ _ _).mpr ⟨1, rfl, by omega⟩)) ?_
  exact kk H locs ls hP hD hS hl
theorem jw_lload_2 {a0 a1 : Option Value} {x : Int64} {t : List (Option Value)} (C : JC G X rm cc own nL) (d : decode cc pc = .ok (.lload_n 2, 1)) (kk : JW G X k n w (pc + 1) (a0 :: a1 :: some (.long x) :: t) (.long x :: rest)) : JW G X k n w (pc) (a0 :: a1 :: some (.long x) :: t) (rest) := by
  obtain ⟨p, l, e, R, s, m, args, below, meth, c, Q, A⟩ := X
  obtain ⟨hx, hb, hml, hown, hts, hnw, hK, hlk, hA, hR⟩ := C
  intro H locs ls hP hD hS hl
  refine lv_lload_n hx hb d rfl (hl.2.2 (2, .long x) ((jl0_mem _ _ _).mpr ⟨2, rfl, by omega⟩)) ?_
  exact kk H locs ls hP hD hS hl
theorem jw_lload_3 {a0 a1 a2 : Option Value} {x : Int64} {t : List (Option Value)} (C : JC G X rm cc own nL) (d : decode cc pc = .ok (.lload_n 3, 1)) (kk : JW G X k n w (pc + 1) (a0 :: a1 :: a2 :: some (.long x) :: t) (.long x :: rest)) : JW G X k n w (pc) (a0 :: a1 :: a2 :: some (.long x) :: t) (rest) := by
  obtain ⟨p, l, e, R, s, m, args, below, meth, c, Q, A⟩ := X
  obtain ⟨hx, hb, hml, hown, hts, hnw, hK, hlk, hA, hR⟩ := C
  intro H locs ls hP hD hS hl
  refine lv_lload_n hx hb d rfl (hl.2.2 (3, .long x) ((jl0_mem _ _ _).mpr ⟨3, rfl, by omega⟩)) ?_
  exact kk H locs ls hP hD hS hl
theorem jw_lload_4 {a0 a1 a2 a3 : Option Value} {x : Int64} {t : List (Option Value)} (C : JC G X rm cc own nL) (d : decode cc pc = .ok (.lload 4, 2)) (kk : JW G X k n w (pc + 2) (a0 :: a1 :: a2 :: a3 :: some (.long x) :: t) (.long x :: rest)) : JW G X k n w (pc) (a0 :: a1 :: a2 :: a3 :: some (.long x) :: t) (rest) := by
  obtain ⟨p, l, e, R, s, m, args, below, meth, c, Q, A⟩ := X
  obtain ⟨hx, hb, hml, hown, hts, hnw, hK, hlk, hA, hR⟩ := C
  intro H locs ls hP hD hS hl
  refine lv_lload hx hb d (hl.2.2 (4, .long x) ((jl0_mem _ _ _).mpr ⟨4, rfl, by omega⟩)) ?_
  exact kk H locs ls hP hD hS hl
theorem jw_lload_5 {a0 a1 a2 a3 a4 : Option Value} {x : Int64} {t : List (Option Value)} (C : JC G X rm cc own nL) (d : decode cc pc = .ok (.lload 5, 2)) (kk : JW G X k n w (pc + 2) (a0 :: a1 :: a2 :: a3 :: a4 :: some (.long x) :: t) (.long x :: rest)) : JW G X k n w (pc) (a0 :: a1 :: a2 :: a3 :: a4 :: some (.long x) :: t) (rest) := by
  obtain ⟨p, l, e, R, s, m, args, below, meth, c, Q, A⟩ := X
  obtain ⟨hx, hb, hml, hown, hts, hnw, hK, hlk, hA, hR⟩ := C
  intro H locs ls hP hD hS hl
  refine lv_lload hx hb d (hl.2.2 (5, .long x) ((jl0_mem _ _ _).mpr ⟨5, rfl, by omega⟩)) ?_
  exact kk H locs ls hP hD hS hl
theorem jw_lload_6 {a0 a1 a2 a3 a4 a5 : Option Value} {x : Int64} {t : List (Option Value)} (C : JC G X rm cc own nL) (d : decode cc pc = .ok (.lload 6, 2)) (kk : JW G X k n w (pc + 2) (a0 :: a1 :: a2 :: a3 :: a4 :: a5 :: some (.long x) :: t) (.long x :: rest)) : JW G X k n w (pc) (a0 :: a1 :: a2 :: a3 :: a4 :: a5 :: some (.long x) :: t) (rest) := by
  obtain ⟨p, l, e, R, s, m, args, below, meth, c, Q, A⟩ := X
  obtain ⟨hx, hb, hml, hown, hts, hnw, hK, hlk, hA, hR⟩ := C
  intro H locs ls hP hD hS hl
  refine lv_lload hx hb d (hl.2.2 (6, .long x) ((jl0_mem _ _ _).mpr ⟨6, rfl, by omega⟩)) ?_
  exact kk H locs ls hP hD hS hl
theorem jw_lload_7 {a0 a1 a2 a3 a4 a5 a6 : Option Value} {x : Int64} {t : List (Option Value)} (C : JC G X rm cc own nL) (d : decode cc pc = .ok (.lload 7, 2)) (kk : JW G X k n w (pc + 2) (a0 :: a1 :: a2 :: a3 :: a4 :: a5 :: a6 :: some (.long x) :: t) (.long x :: rest)) : JW G X k n w (pc) (a0 :: a1 :: a2 :: a3 :: a4 :: a5 :: a6 :: some (.long x) :: t) (rest) := by
  obtain ⟨p, l, e, R, s, m, args, below, meth, c, Q, A⟩ := X
  obtain ⟨hx, hb, hml, hown, hts, hnw, hK, hlk, hA, hR⟩ := C
  intro H locs ls hP hD hS hl
  refine lv_lload hx hb d (hl.2.2 (7, .long x) ((jl0_mem _ _ _).mpr ⟨7, rfl, by omega⟩)) ?_
  exact kk H locs ls hP hD hS hl
theorem jw_lload_8 {a0 a1 a2 a3 a4 a5 a6 a7 : Option Value} {x : Int64} {t : List (Option Value)} (C : JC G X rm cc own nL) (d : decode cc pc = .ok (.lload 8, 2)) (kk : JW G X k n w (pc + 2) (a0 :: a1 :: a2 :: a3 :: a4 :: a5 :: a6 :: a7 :: some (.long x) :: t) (.long x :: rest)) : JW G X k n w (pc) (a0 :: a1 :: a2 :: a3 :: a4 :: a5 :: a6 :: a7 :: some (.long x) :: t) (rest) := by
  obtain ⟨p, l, e, R, s, m, args, below, meth, c, Q, A⟩ := X
  obtain ⟨hx, hb, hml, hown, hts, hnw, hK, hlk, hA, hR⟩ := C
  intro H locs ls hP hD hS hl
  refine lv_lload hx hb d (hl.2.2 (8, .long x) ((jl0_mem _ _ _).mpr ⟨8, rfl, by omega⟩)) ?_
  exact kk H locs ls hP hD hS hl
theorem jw_lstore_0 {b0 b1 : Option Value} {x : Int64} {t : List (Option Value)} (C : JC G X rm cc own nL) (d : decode cc pc = .ok (.lstore_n 0, 1)) (kk : JW G X k n w (pc + 1) (some (.long x) :: none :: t) (rest)) : JW G X k n w (pc) (b0 :: b1 :: t) (.long x :: rest) := by
  obtain ⟨p, l, e, R, s, m, args, below, meth, c, Q, A⟩ := X
  obtain ⟨hx, hb, hml, hown, hts, hnw, hK, hlk, hA, hR⟩ := C
  intro H locs ls hP hD hS hl
  refine lv_lstore_n hx hb d rfl hl (by simp only [List.length_cons]; omega) rfl (fun ls2 h2 => ?_)
  exact kk H locs ls2 hP hD hS (by have h3 := jl_store2 (L := b0 :: b1 :: t) (v := .long x) (by simp only [List.length_cons]; omega) (fun a h _ => absurd h (Nat.lt_irrefl 0)) h2; exact h3)
theorem jw_lstore_1 {a0 b0 b1 : Option Value} {x : Int64} {t : List (Option Value)} (C : JC G X rm cc own nL) (d : decode cc pc = .ok (.lstore_n 1, 1)) (hc : jc1 a0 = true) (kk : JW G X k n w (pc + 1) (a0 :: some (.long x) :: none :: t) (rest)) : JW G X k n w (pc) (a0 :: b0 :: b1 :: t) (.long x :: rest) := by
  obtain ⟨p, l, e, R, s, m, args, below, meth, c, Q, A⟩ := X
  obtain ⟨hx, hb, hml, hown, hts, hnw, hK, hlk, hA, hR⟩ := C
  intro H locs ls hP hD hS hl
  refine lv_lstore_n hx hb d rfl hl (by simp only [List.length_cons]; omega) rfl (fun ls2 h2 => ?_)
  exact kk H locs ls2 hP hD hS (by have h3 := jl_store2 (L := a0 :: b0 :: b1 :: t) (v := .long x) (by simp only [List.length_cons]; omega) (fun a _ h => by cases h; exact hc) h2; exact h3)
theorem jw_lstore_2 {a0 a1 b0 b1 : Option Value} {x : Int64} {t : List (Option Value)} (C : JC G X rm cc own nL) (d : decode cc pc = .ok (.lstore_n 2, 1)) (hc : jc1 a1 = true) (kk : JW G X k n w (pc + 1) (a0 :: a1 :: some (.long x) :: none :: t) (rest)) : JW G X k n w (pc) (a0 :: a1 :: b0 :: b1 :: t) (.long x :: rest) := by
  obtain ⟨p, l, e, R, s, m, args, below, meth, c, Q, A⟩ := X
  obtain ⟨hx, hb, hml, hown, hts, hnw, hK, hlk, hA, hR⟩ := C
  intro H locs ls hP hD hS hl
  refine lv_lstore_n hx hb d rfl hl (by simp only [List.length_cons]; omega) rfl (fun ls2 h2 => ?_)
  exact kk H locs ls2 hP hD hS (by have h3 := jl_store2 (L := a0 :: a1 :: b0 :: b1 :: t) (v := .long x) (by simp only [List.length_cons]; omega) (fun a _ h => by cases h; exact hc) h2; exact h3)
theorem jw_lstore_3 {a0 a1 a2 b0 b1 : Option Value} {x : Int64} {t : List (Option Value)} (C : JC G X rm cc own nL) (d : decode cc pc = .ok (.lstore_n 3, 1)) (hc : jc1 a2 = true) (kk : JW G X k n w (pc + 1) (a0 :: a1 :: a2 :: some (.long x) :: none :: t) (rest)) : JW G X k n w (pc) (a0 :: a1 :: a2 :: b0 :: b1 :: t) (.long x :: rest) := by
  obtain ⟨p, l, e, R, s, m, args, below, meth, c, Q, A⟩ := X
  obtain ⟨hx, hb, hml, hown, hts, hnw, hK, hlk, hA, hR⟩ := C
  intro H locs ls hP hD hS hl
  refine lv_lstore_n hx hb d rfl hl (by simp only [List.length_cons]; omega) rfl (fun ls2 h2 => ?_)
  exact kk H locs ls2 hP hD hS (by have h3 := jl_store2 (L := a0 :: a1 :: a2 :: b0 :: b1 :: t) (v := .long x) (by simp only [List.length_cons]; omega) (fun a _ h => by cases h; exact hc) h2; exact h3)
theorem jw_lstore_4 {a0 a1 a2 a3 b0 b1 : Option Value} {x : Int64} {t : List (Option Value)} (C : JC G X rm cc own nL) (d : decode cc pc = .ok (.lstore 4, 2)) (hc : jc1 a3 = true) (kk : JW G X k n w (pc + 2) (a0 :: a1 :: a2 :: a3 :: some (.long x) :: none :: t) (rest)) : JW G X k n w (pc) (a0 :: a1 :: a2 :: a3 :: b0 :: b1 :: t) (.long x :: rest) := by
  obtain ⟨p, l, e, R, s, m, args, below, meth, c, Q, A⟩ := X
  obtain ⟨hx, hb, hml, hown, hts, hnw, hK, hlk, hA, hR⟩ := C
  intro H locs ls hP hD hS hl
  refine lv_lstore hx hb d hl (by simp only [List.length_cons]; omega) rfl (fun ls2 h2 => ?_)
  exact kk H locs ls2 hP hD hS (by have h3 := jl_store2 (L := a0 :: a1 :: a2 :: a3 :: b0 :: b1 :: t) (v := .long x) (by simp only [List.length_cons]; omega) (fun a _ h => by cases h; exact hc) h2; exact h3)
theorem jw_lstore_5 {a0 a1 a2 a3 a4 b0 b1 : Option Value} {x : Int64} {t : List (Option Value)} (C : JC G X rm cc own nL) (d : decode cc pc = .ok (.lstore 5, 2)) (hc : jc1 a4 = true) (kk : JW G X k n w (pc + 2) (a0 :: a1 :: a2 :: a3 :: a4 :: some (.long x) :: none :: t) (rest)) : JW G X k n w (pc) (a0 :: a1 :: a2 :: a3 :: a4 :: b0 :: b1 :: t) (.long x :: rest) := by
  obtain ⟨p, l, e, R, s, m, args, below, meth, c, Q, A⟩ := X
  obtain ⟨hx, hb, hml, hown, hts, hnw, hK, hlk, hA, hR⟩ := C
  intro H locs ls hP hD hS hl
  refine lv_lstore hx hb d hl (by simp only [List.length_cons]; omega) rfl (fun ls2 h2 => ?_)
  exact kk H locs ls2 hP hD hS (by have h3 := jl_store2 (L := a0 :: a1 :: a2 :: a3 :: a4 :: b0 :: b1 :: t) (v := .long x) (by simp only [List.length_cons]; omega) (fun a _ h => by cases h; exact hc) h2; exact h3)
theorem jw_lstore_6 {a0 a1 a2 a3 a4 a5 b0 b1 : Option Value} {x : Int64} {t : List (Option Value)} (C : JC G X rm cc own nL) (d : decode cc pc = .ok (.lstore 6, 2)) (hc : jc1 a5 = true) (kk : JW G X k n w (pc + 2) (a0 :: a1 :: a2 :: a3 :: a4 :: a5 :: some (.long x) :: none :: t) (rest)) : JW G X k n w (pc) (a0 :: a1 :: a2 :: a3 :: a4 :: a5 :: b0 :: b1 :: t) (.long x :: rest) := by
  obtain ⟨p, l, e, R, s, m, args, below, meth, c, Q, A⟩ := X
  obtain ⟨hx, hb, hml, hown, hts, hnw, hK, hlk, hA, hR⟩ := C
  intro H locs ls hP hD hS hl
  refine lv_lstore hx hb d hl (by simp only [List.length_cons]; omega) rfl (fun ls2 h2 => ?_)
  exact kk H locs ls2 hP hD hS (by have h3 := jl_store2 (L := a0 :: a1 :: a2 :: a3 :: a4 :: a5 :: b0 :: b1 :: t) (v := .long x) (by simp only [List.length_cons]; omega) (fun a _ h => by cases h; exact hc) h2; exact h3)
theorem jw_lstore_7 {a0 a1 a2 a3 a4 a5 a6 b0 b1 : Option Value} {x : Int64} {t : List (Option Value)} (C : JC G X rm cc own nL) (d : decode cc pc = .ok (.lstore 7, 2)) (hc : jc1 a6 = true) (kk : JW G X k n w (pc + 2) (a0 :: a1 :: a2 :: a3 :: a4 :: a5 :: a6 :: some (.long x) :: none :: t) (rest)) : JW G X k n w (pc) (a0 :: a1 :: a2 :: a3 :: a4 :: a5 :: a6 :: b0 :: b1 :: t) (.long x :: rest) := by
  obtain ⟨p, l, e, R, s, m, args, below, meth, c, Q, A⟩ := X
  obtain ⟨hx, hb, hml, hown, hts, hnw, hK, hlk, hA, hR⟩ := C
  intro H locs ls hP hD hS hl
  refine lv_lstore hx hb d hl (by simp only [List.length_cons]; omega) rfl (fun ls2 h2 => ?_)
  exact kk H locs ls2 hP hD hS (by have h3 := jl_store2 (L := a0 :: a1 :: a2 :: a3 :: a4 :: a5 :: a6 :: b0 :: b1 :: t) (v := .long x) (by simp only [List.length_cons]; omega) (fun a _ h => by cases h; exact hc) h2; exact h3)
theorem jw_lstore_8 {a0 a1 a2 a3 a4 a5 a6 a7 b0 b1 : Option Value} {x : Int64} {t : List (Option Value)} (C : JC G X rm cc own nL) (d : decode cc pc = .ok (.lstore 8, 2)) (hc : jc1 a7 = true) (kk : JW G X k n w (pc + 2) (a0 :: a1 :: a2 :: a3 :: a4 :: a5 :: a6 :: a7 :: some (.long x) :: none :: t) (rest)) : JW G X k n w (pc) (a0 :: a1 :: a2 :: a3 :: a4 :: a5 :: a6 :: a7 :: b0 :: b1 :: t) (.long x :: rest) := by
  obtain ⟨p, l, e, R, s, m, args, below, meth, c, Q, A⟩ := X
  obtain ⟨hx, hb, hml, hown, hts, hnw, hK, hlk, hA, hR⟩ := C
  intro H locs ls hP hD hS hl
  refine lv_lstore hx hb d hl (by simp only [List.length_cons]; omega) rfl (fun ls2 h2 => ?_)
  exact kk H locs ls2 hP hD hS (by have h3 := jl_store2 (L := a0 :: a1 :: a2 :: a3 :: a4 :: a5 :: a6 :: a7 :: b0 :: b1 :: t) (v := .long x) (by simp only [List.length_cons]; omega) (fun a _ h => by cases h; exact hc) h2; exact h3)
theorem jw_dload_0 {x : UInt64} {t : List (Option Value)} (C : JC G X rm cc own nL) (d : decode cc pc = .ok (.dload_n 0, 1)) (kk : JW G X k n w (pc + 1) (some (.double x) :: t) (.double x :: rest)) : JW G X k n w (pc) (some (.double x) :: t) (rest) := by
  obtain ⟨p, l, e, R, s, m, args, below, meth, c, Q, A⟩ := X
  obtain ⟨hx, hb, hml, hown, hts, hnw, hK, hlk, hA, hR⟩ := C
  intro H locs ls hP hD hS hl
  refine lv_dload_n hx hb d rfl (hl.2.2 (0, .double x) ((jl0_mem _ _ _).mpr ⟨0, rfl, by omega⟩)) ?_
  exact kk H locs ls hP hD hS hl
theorem jw_dload_1 {a0 : Option Value} {x : UInt64} {t : List (Option Value)} (C : JC G X rm cc own nL) (d : decode cc pc = .ok (.dload_n 1, 1)) (kk : JW G X k n w (pc + 1) (a0 :: some (.double x) :: t) (.double x :: rest)) : JW G X k n w (pc) (a0 :: some (.double x) :: t) (rest) := by
  obtain ⟨p, l, e, R, s, m, args, below, meth, c, Q, A⟩ := X
  obtain ⟨hx, hb, hml, hown, hts, hnw, hK, hlk, hA, hR⟩ := C
  intro H locs ls hP hD hS hl
  refine lv_dload_n hx hb d rfl (hl.2.2 (1, .double x) ((jl0_mem _ _ _).mpr ⟨1, rfl, by omega⟩)) ?_
  exact kk H locs ls hP hD hS hl
theorem jw_dload_2 {a0 a1 : Option Value} {x : UInt64} {t : List (Option Value)} (C : JC G X rm cc own nL) (d : decode cc pc = .ok (.dload_n 2, 1)) (kk : JW G X k n w (pc + 1) (a0 :: a1 :: some (.double x) :: t) (.double x :: rest)) : JW G X k n w (pc) (a0 :: a1 :: some (.double x) :: t) (rest) := by
  obtain ⟨p, l, e, R, s, m, args, below, meth, c, Q, A⟩ := X
  obtain ⟨hx, hb, hml, hown, hts, hnw, hK, hlk, hA, hR⟩ := C
  intro H locs ls hP hD hS hl
  refine lv_dload_n hx hb d rfl (hl.2.2 (2, .double x) ((jl0_mem _ _ _).mpr ⟨2, rfl, by omega⟩)) ?_
  exact kk H locs ls hP hD hS hl
theorem jw_dload_3 {a0 a1 a2 : Option Value} {x : UInt64} {t : List (Option Value)} (C : JC G X rm cc own nL) (d : decode cc pc = .ok (.dload_n 3, 1)) (kk : JW G X k n w (pc + 1) (a0 :: a1 :: a2 :: some (.double x) :: t) (.double x :: rest)) : JW G X k n w (pc) (a0 :: a1 :: a2 :: some (.double x) :: t) (rest) := by
  obtain ⟨p, l, e, R, s, m, args, below, meth, c, Q, A⟩ := X
  obtain ⟨hx, hb, hml, hown, hts, hnw, hK, hlk, hA, hR⟩ := C
  intro H locs ls hP hD hS hl
  refine lv_dload_n hx hb d rfl (hl.2.2 (3, .double x) ((jl0_mem _ _ _).mpr ⟨3, rfl, by omega⟩)) ?_
  exact kk H locs ls hP hD hS hl
theorem jw_dload_4 {a0 a1 a2 a3 : Option Value} {x : UInt64} {t : List (Option Value)} (C : JC G X rm cc own nL) (d : decode cc pc = .ok (.dload 4, 2)) (kk : JW G X k n w (pc + 2) (a0 :: a1 :: a2 :: a3 :: some (.double x) :: t) (.double x :: rest)) : JW G X k n w (pc) (a0 :: a1 :: a2 :: a3 :: some (.double x) :: t) (rest) := by
  obtain ⟨p, l, e, R, s, m, args, below, meth, c, Q, A⟩ := X
  obtain ⟨hx, hb, hml, hown, hts, hnw, hK, hlk, hA, hR⟩ := C
  intro H locs ls hP hD hS hl
  refine lv_dload hx hb d (hl.2.2 (4, .double x) ((jl0_mem _ _ _).mpr ⟨4, rfl, by omega⟩)) ?_
  exact kk H locs ls hP hD hS hl
theorem jw_dload_5 {a0 a1 a2 a3 a4 : Option Value} {x : UInt64} {t : List (Option Value)} (C : JC G X rm cc own nL) (d : decode cc pc = .ok (.dload 5, 2)) (kk : JW G X k n w (pc + 2) (a0 :: a1 :: a2 :: a3 :: a4 :: some (.double x) :: t) (.double x :: rest)) : JW G X k n w (pc) (a0 :: a1 :: a2 :: a3 :: a4 :: some (.double x) :: t) (rest) := by
  obtain ⟨p, l, e, R, s, m, args, below, meth, c, Q, A⟩ := X
  obtain ⟨hx, hb, hml, hown, hts, hnw, hK, hlk, hA, hR⟩ := C
  intro H locs ls hP hD hS hl
  refine lv_dload hx hb d (hl.2.2 (5, .double x) ((jl0_mem _ _ _).mpr ⟨5, rfl, by omega⟩)) ?_
  exact kk H locs ls hP hD hS hl
theorem jw_dload_6 {a0 a1 a2 a3 a4 a5 : Option Value} {x : UInt64} {t : List (Option Value)} (C : JC G X rm cc own nL) (d : decode cc pc = .ok (.dload 6, 2)) (kk : JW G X k n w (pc + 2) (a0 :: a1 :: a2 :: a3 :: a4 :: a5 :: some (.double x) :: t) (.double x :: rest)) : JW G X k n w (pc) (a0 :: a1 :: a2 :: a3 :: a4 :: a5 :: some (.double x) :: t) (rest) := by
  obtain ⟨p, l, e, R, s, m, args, below, meth, c, Q, A⟩ := X
  obtain ⟨hx, hb, hml, hown, hts, hnw, hK, hlk, hA, hR⟩ := C
  intro H locs ls hP hD hS hl
  refine lv_dload hx hb d (hl.2.2 (6, .double x) ((jl0_mem _ _ _).mpr ⟨6, rfl, by omega⟩)) ?_
  exact kk H locs ls hP hD hS hl
theorem jw_dload_7 {a0 a1 a2 a3 a4 a5 a6 : Option Value} {x : UInt64} {t : List (Option Value)} (C : JC G X rm cc own nL) (d : decode cc pc = .ok (.dload 7, 2)) (kk : JW G X k n w (pc + 2) (a0 :: a1 :: a2 :: a3 :: a4 :: a5 :: a6 :: some (.double x) :: t) (.double x :: rest)) : JW G X k n w (pc) (a0 :: a1 :: a2 :: a3 :: a4 :: a5 :: a6 :: some (.double x) :: t) (rest) := by
  obtain ⟨p, l, e, R, s, m, args, below, meth, c, Q, A⟩ := X
  obtain ⟨hx, hb, hml, hown, hts, hnw, hK, hlk, hA, hR⟩ := C
  intro H locs ls hP hD hS hl
  refine lv_dload hx hb d (hl.2.2 (7, .double x) ((jl0_mem _ _ _).mpr ⟨7, rfl, by omega⟩)) ?_
  exact kk H locs ls hP hD hS hl
theorem jw_dload_8 {a0 a1 a2 a3 a4 a5 a6 a7 : Option Value} {x : UInt64} {t : List (Option Value)} (C : JC G X rm cc own nL) (d : decode cc pc = .ok (.dload 8, 2)) (kk : JW G X k n w (pc + 2) (a0 :: a1 :: a2 :: a3 :: a4 :: a5 :: a6 :: a7 :: some (.double x) :: t) (.double x :: rest)) : JW G X k n w (pc) (a0 :: a1 :: a2 :: a3 :: a4 :: a5 :: a6 :: a7 :: some (.double x) :: t) (rest) := by
  obtain ⟨p, l, e, R, s, m, args, below, meth, c, Q, A⟩ := X
  obtain ⟨hx, hb, hml, hown, hts, hnw, hK, hlk, hA, hR⟩ := C
  intro H locs ls hP hD hS hl
  refine lv_dload hx hb d (hl.2.2 (8, .double x) ((jl0_mem _ _ _).mpr ⟨8, rfl, by omega⟩)) ?_
  exact kk H locs ls hP hD hS hl
theorem jw_dstore_0 {b0 b1 : Option Value} {x : UInt64} {t : List (Option Value)} (C : JC G X rm cc own nL) (d : decode cc pc = .ok (.dstore_n 0, 1)) (kk : JW G X k n w (pc + 1) (some (.double x) :: none :: t) (rest)) : JW G X k n w (pc) (b0 :: b1 :: t) (.double x :: rest) := by
  obtain ⟨p, l, e, R, s, m, args, below, meth, c, Q, A⟩ := X
  obtain ⟨hx, hb, hml, hown, hts, hnw, hK, hlk, hA, hR⟩ := C
  intro H locs ls hP hD hS hl
  refine lv_dstore_n hx hb d rfl hl (by simp only [List.length_cons]; omega) rfl (fun ls2 h2 => ?_)
  exact kk H locs ls2 hP hD hS (by have h3 := jl_store2 (L := b0 :: b1 :: t) (v := .double x) (by simp only [List.length_cons]; omega) (fun a h _ => absurd h (Nat.lt_irrefl 0)) h2; exact h3)
theorem jw_dstore_1 {a0 b0 b1 : Option Value} {x : UInt64} {t : List (Option Value)} (C : JC G X rm cc own nL) (d : decode cc pc = .ok (.dstore_n 1, 1)) (hc : jc1 a0 = true) (kk : JW G X k n w (pc + 1) (a0 :: some (.double x) :: none :: t) (rest)) : JW G X k n w (pc) (a0 :: b0 :: b1 :: t) (.double x :: rest) := by
  obtain ⟨p, l, e, R, s, m, args, below, meth, c, Q, A⟩ := X
  obtain ⟨hx, hb, hml, hown, hts, hnw, hK, hlk, hA, hR⟩ := C
  intro H locs ls hP hD hS hl
  refine lv_dstore_n hx hb d rfl hl (by simp only [List.length_cons]; omega) rfl (fun ls2 h2 => ?_)
  exact kk H locs ls2 hP hD hS (by have h3 := jl_store2 (L := a0 :: b0 :: b1 :: t) (v := .double x) (by simp only [List.length_cons]; omega) (fun a _ h => by cases h; exact hc) h2; exact h3)
theorem jw_dstore_2 {a0 a1 b0 b1 : Option Value} {x : UInt64} {t : List (Option Value)} (C : JC G X rm cc own nL) (d : decode cc pc = .ok (.dstore_n 2, 1)) (hc : jc1 a1 = true) (kk : JW G X k n w (pc + 1) (a0 :: a1 :: some (.double x) :: none :: t) (rest)) : JW G X k n w (pc) (a0 :: a1 :: b0 :: b1 :: t) (.double x :: rest) := by
  obtain ⟨p, l, e, R, s, m, args, below, meth, c, Q, A⟩ := X
  obtain ⟨hx, hb, hml, hown, hts, hnw, hK, hlk, hA, hR⟩ := C
  intro H locs ls hP hD hS hl
  refine lv_dstore_n hx hb d rfl hl (by simp only [List.length_cons]; omega) rfl (fun ls2 h2 => ?_)
  exact kk H locs ls2 hP hD hS (by have h3 := jl_store2 (L := a0 :: a1 :: b0 :: b1 :: t) (v := .double x) (by simp only [List.length_cons]; omega) (fun a _ h => by cases h; exact hc) h2; exact h3)
theorem jw_dstore_3 {a0 a1 a2 b0 b1 : Option Value} {x : UInt64} {t : List (Option Value)} (C : JC G X rm cc own nL) (d : decode cc pc = .ok (.dstore_n 3, 1)) (hc : jc1 a2 = true) (kk : JW G X k n w (pc + 1) (a0 :: a1 :: a2 :: some (.double x) :: none :: t) (rest)) : JW G X k n w (pc) (a0 :: a1 :: a2 :: b0 :: b1 :: t) (.double x :: rest) := by
  obtain ⟨p, l, e, R, s, m, args, below, meth, c, Q, A⟩ := X
  obtain ⟨hx, hb, hml, hown, hts, hnw, hK, hlk, hA, hR⟩ := C
  intro H locs ls hP hD hS hl
  refine lv_dstore_n hx hb d rfl hl (by simp only [List.length_cons]; omega) rfl (fun ls2 h2 => ?_)
  exact kk H locs ls2 hP hD hS (by have h3 := jl_store2 (L := a0 :: a1 :: a2 :: b0 :: b1 :: t) (v := .double x) (by simp only [List.length_cons]; omega) (fun a _ h => by cases h; exact hc) h2; exact h3)
theorem jw_dstore_4 {a0 a1 a2 a3 b0 b1 : Option Value} {x : UInt64} {t : List (Option Value)} (C : JC G X rm cc own nL) (d : decode cc pc = .ok (.dstore 4, 2)) (hc : jc1 a3 = true) (kk : JW G X k n w (pc + 2) (a0 :: a1 :: a2 :: a3 :: some (.double x) :: none :: t) (rest)) : JW G X k n w (pc) (a0 :: a1 :: a2 :: a3 :: b0 :: b1 :: t) (.double x :: rest) := by
  obtain ⟨p, l, e, R, s, m, args, below, meth, c, Q, A⟩ := X
  obtain ⟨hx, hb, hml, hown, hts, hnw, hK, hlk, hA, hR⟩ := C
  intro H locs ls hP hD hS hl
  refine lv_dstore hx hb d hl (by simp only [List.length_cons]; omega) rfl (fun ls2 h2 => ?_)
  exact kk H locs ls2 hP hD hS (by have h3 := jl_store2 (L := a0 :: a1 :: a2 :: a3 :: b0 :: b1 :: t) (v := .double x) (by simp only [List.length_cons]; omega) (fun a _ h => by cases h; exact hc) h2; exact h3)
theorem jw_dstore_5 {a0 a1 a2 a3 a4 b0 b1 : Option Value} {x : UInt64} {t : List (Option Value)} (C : JC G X rm cc own nL) (d : decode cc pc = .ok (.dstore 5, 2)) (hc : jc1 a4 = true) (kk : JW G X k n w (pc + 2) (a0 :: a1 :: a2 :: a3 :: a4 :: some (.double x) :: none :: t) (rest)) : JW G X k n w (pc) (a0 :: a1 :: a2 :: a3 :: a4 :: b0 :: b1 :: t) (.double x :: rest) := by
  obtain ⟨p, l, e, R, s, m, args, below, meth, c, Q, A⟩ := X
  obtain ⟨hx, hb, hml, hown, hts, hnw, hK, hlk, hA, hR⟩ := C
  intro H locs ls hP hD hS hl
  refine lv_dstore hx hb d hl (by simp only [List.length_cons]; omega) rfl (fun ls2 h2 => ?_)
  exact kk H locs ls2 hP hD hS (by have h3 := jl_store2 (L := a0 :: a1 :: a2 :: a3 :: a4 :: b0 :: b1 :: t) (v := .double x) (by simp only [List.length_cons]; omega) (fun a _ h => by cases h; exact hc) h2; exact h3)
theorem jw_dstore_6 {a0 a1 a2 a3 a4 a5 b0 b1 : Option Value} {x : UInt64} {t : List (Option Value)} (C : JC G X rm cc own nL) (d : decode cc pc = .ok (.dstore 6, 2)) (hc : jc1 a5 = true) (kk : JW G X k n w (pc + 2) (a0 :: a1 :: a2 :: a3 :: a4 :: a5 :: some (.double x) :: none :: t) (rest)) : JW G X k n w (pc) (a0 :: a1 :: a2 :: a3 :: a4 :: a5 :: b0 :: b1 :: t) (.double x :: rest) := by
  obtain ⟨p, l, e, R, s, m, args, below, meth, c, Q, A⟩ := X
  obtain ⟨hx, hb, hml, hown, hts, hnw, hK, hlk, hA, hR⟩ := C
  intro H locs ls hP hD hS hl
  refine lv_dstore hx hb d hl (by simp only [List.length_cons]; omega) rfl (fun ls2 h2 => ?_)
  exact kk H locs ls2 hP hD hS (by have h3 := jl_store2 (L := a0 :: a1 :: a2 :: a3 :: a4 :: a5 :: b0 :: b1 :: t) (v := .double x) (by simp only [List.length_cons]; omega) (fun a _ h => by cases h; exact hc) h2; exact h3)
theorem jw_dstore_7 {a0 a1 a2 a3 a4 a5 a6 b0 b1 : Option Value} {x : UInt64} {t : List (Option Value)} (C : JC G X rm cc own nL) (d : decode cc pc = .ok (.dstore 7, 2)) (hc : jc1 a6 = true) (kk : JW G X k n w (pc + 2) (a0 :: a1 :: a2 :: a3 :: a4 :: a5 :: a6 :: some (.double x) :: none :: t) (rest)) : JW G X k n w (pc) (a0 :: a1 :: a2 :: a3 :: a4 :: a5 :: a6 :: b0 :: b1 :: t) (.double x :: rest) := by
  obtain ⟨p, l, e, R, s, m, args, below, meth, c, Q, A⟩ := X
  obtain ⟨hx, hb, hml, hown, hts, hnw, hK, hlk, hA, hR⟩ := C
  intro H locs ls hP hD hS hl
  refine lv_dstore hx hb d hl (by simp only [List.length_cons]; omega) rfl (fun ls2 h2 => ?_)
  exact kk H locs ls2 hP hD hS (by have h3 := jl_store2 (L := a0 :: a1 :: a2 :: a3 :: a4 :: a5 :: a6 :: b0 :: b1 :: t) (v := .double x) (by simp only [List.length_cons]; omega) (fun a _ h => by cases h; exact hc) h2; exact h3)
theorem jw_dstore_8 {a0 a1 a2 a3 a4 a5 a6 a7 b0 b1 : Option Value} {x : UInt64} {t : List (Option Value)} (C : JC G X rm cc own nL) (d : decode cc pc = .ok (.dstore 8, 2)) (hc : jc1 a7 = true) (kk : JW G X k n w (pc + 2) (a0 :: a1 :: a2 :: a3 :: a4 :: a5 :: a6 :: a7 :: some (.double x) :: none :: t) (rest)) : JW G X k n w (pc) (a0 :: a1 :: a2 :: a3 :: a4 :: a5 :: a6 :: a7 :: b0 :: b1 :: t) (.double x :: rest) := by
  obtain ⟨p, l, e, R, s, m, args, below, meth, c, Q, A⟩ := X
  obtain ⟨hx, hb, hml, hown, hts, hnw, hK, hlk, hA, hR⟩ := C
  intro H locs ls hP hD hS hl
  refine lv_dstore hx hb d hl (by simp only [List.length_cons]; omega) rfl (fun ls2 h2 => ?_)
  exact kk H locs ls2 hP hD hS (by have h3 := jl_store2 (L := a0 :: a1 :: a2 :: a3 :: a4 :: a5 :: a6 :: a7 :: b0 :: b1 :: t) (v := .double x) (by simp only [List.length_cons]; omega) (fun a _ h => by cases h; exact hc) h2; exact h3)
theorem jw_iinc_0 {a z : Int} {t : List (Option Value)} (C : JC G X rm cc own nL) (d : decode cc pc = .ok (.iinc 0 z, 3)) (kk : JW G X k n w (pc + 3) (some (.int (iI (a + z))) :: t) (rest)) : JW G X k n w (pc) (some (.int (iI a)) :: t) (rest) := by
  obtain ⟨p, l, e, R, s, m, args, below, meth, c, Q, A⟩ := X
  obtain ⟨hx, hb, hml, hown, hts, hnw, hK, hlk, hA, hR⟩ := C
  intro H locs ls hP hD hS hl
  obtain ⟨j, hj⟩ := List.getElem?_of_mem ((jl0_mem (some (.int (iI a)) :: t) 0 (0, Value.int (iI a))).mpr ⟨0, rfl, by omega⟩)
  refine lv_iinc (v := iI (a + z)) hx hb d hl (k := j) hj (by rw [← iI_add]; rfl) (by simp only [List.length_cons]; omega) rfl (fun ls2 h2 => ?_)
  exact kk H locs ls2 hP hD hS (by have h3 := jl_store1 (L := some (.int (iI a)) :: t) (v := .int (iI (a + z))) (by simp only [List.length_cons]; omega) (fun a h _ => absurd h (Nat.lt_irrefl 0)) h2; exact h3)
theorem jw_iinc_1 {a0 : Option Value} {a z : Int} {t : List (Option Value)} (C : JC G X rm cc own nL) (d : decode cc pc = .ok (.iinc 1 z, 3)) (hc : jc1 a0 = true) (kk : JW G X k n w (pc + 3) (a0 :: some (.int (iI (a + z))) :: t) (rest)) : JW G X k n w (pc) (a0 :: some (.int (iI a)) :: t) (rest) := by
  obtain ⟨p, l, e, R, s, m, args, below, meth, c, Q, A⟩ := X
  obtain ⟨hx, hb, hml, hown, hts, hnw, hK, hlk, hA, hR⟩ := C
  intro H locs ls hP hD hS hl
  obtain ⟨j, hj⟩ := List.getElem?_of_mem ((jl0_mem (a0 :: some (.int (iI a)) :: t) 0 (1, Value.int (iI a))).mpr ⟨1, rfl, by omega⟩)
  refine lv_iinc (v := iI (a + z)) hx hb d hl (k := j) hj (by rw [← iI_add]; rfl) (by simp only [List.length_cons]; omega) rfl (fun ls2 h2 => ?_)
  exact kk H locs ls2 hP hD hS (by have h3 := jl_store1 (L := a0 :: some (.int (iI a)) :: t) (v := .int (iI (a + z))) (by simp only [List.length_cons]; omega) (fun a _ h => by cases h; exact hc) h2; exact h3)
theorem jw_iinc_2 {a0 a1 : Option Value} {a z : Int} {t : List (Option Value)} (C : JC G X rm cc own nL) (d : decode cc pc = .ok (.iinc 2 z, 3)) (hc : jc1 a1 = true) (kk : JW G X k n w (pc + 3) (a0 :: a1 :: some (.int (iI (a + z))) :: t) (rest)) : JW G X k n w (pc) (a0 :: a1 :: some (.int (iI a)) :: t) (rest) := by
  obtain ⟨p, l, e, R, s, m, args, below, meth, c, Q, A⟩ := X
  obtain ⟨hx, hb, hml, hown, hts, hnw, hK, hlk, hA, hR⟩ := C
  intro H locs ls hP hD hS hl
  obtain ⟨j, hj⟩ := List.getElem?_of_mem ((jl0_mem (a0 :: a1 :: some (.int (iI a)) :: t) 0 (2, Value.int (iI a))).mpr ⟨2, rfl, by omega⟩)
  refine lv_iinc (v := iI (a + z)) hx hb d hl (k := j) hj (by rw [← iI_add]; rfl) (by simp only [List.length_cons]; omega) rfl (fun ls2 h2 => ?_)
  exact kk H locs ls2 hP hD hS (by have h3 := jl_store1 (L := a0 :: a1 :: some (.int (iI a)) :: t) (v := .int (iI (a + z))) (by simp only [List.length_cons]; omega) (fun a _ h => by cases h; exact hc) h2; exact h3)
theorem jw_iinc_3 {a0 a1 a2 : Option Value} {a z : Int} {t : List (Option Value)} (C : JC G X rm cc own nL) (d : decode cc pc = .ok (.iinc 3 z, 3)) (hc : jc1 a2 = true) (kk : JW G X k n w (pc + 3) (a0 :: a1 :: a2 :: some (.int (iI (a + z))) :: t) (rest)) : JW G X k n w (pc) (a0 :: a1 :: a2 :: some (.int (iI a)) :: t) (rest) := by
  obtain ⟨p, l, e, R, s, m, args, below, meth, c, Q, A⟩ := X
  obtain ⟨hx, hb, hml, hown, hts, hnw, hK, hlk, hA, hR⟩ := C
  intro H locs ls hP hD hS hl
  obtain ⟨j, hj⟩ := List.getElem?_of_mem ((jl0_mem (a0 :: a1 :: a2 :: some (.int (iI a)) :: t) 0 (3, Value.int (iI a))).mpr ⟨3, rfl, by omega⟩)
  refine lv_iinc (v := iI (a + z)) hx hb d hl (k := j) hj (by rw [← iI_add]; rfl) (by simp only [List.length_cons]; omega) rfl (fun ls2 h2 => ?_)
  exact kk H locs ls2 hP hD hS (by have h3 := jl_store1 (L := a0 :: a1 :: a2 :: some (.int (iI a)) :: t) (v := .int (iI (a + z))) (by simp only [List.length_cons]; omega) (fun a _ h => by cases h; exact hc) h2; exact h3)
theorem jw_iinc_4 {a0 a1 a2 a3 : Option Value} {a z : Int} {t : List (Option Value)} (C : JC G X rm cc own nL) (d : decode cc pc = .ok (.iinc 4 z, 3)) (hc : jc1 a3 = true) (kk : JW G X k n w (pc + 3) (a0 :: a1 :: a2 :: a3 :: some (.int (iI (a + z))) :: t) (rest)) : JW G X k n w (pc) (a0 :: a1 :: a2 :: a3 :: some (.int (iI a)) :: t) (rest) := by
  obtain ⟨p, l, e, R, s, m, args, below, meth, c, Q, A⟩ := X
  obtain ⟨hx, hb, hml, hown, hts, hnw, hK, hlk, hA, hR⟩ := C
  intro H locs ls hP hD hS hl
  obtain ⟨j, hj⟩ := List.getElem?_of_mem ((jl0_mem (a0 :: a1 :: a2 :: a3 :: some (.int (iI a)) :: t) 0 (4, Value.int (iI a))).mpr ⟨4, rfl, by omega⟩)
  refine lv_iinc (v := iI (a + z)) hx hb d hl (k := j) hj (by rw [← iI_add]; rfl) (by simp only [List.length_cons]; omega) rfl (fun ls2 h2 => ?_)
  exact kk H locs ls2 hP hD hS (by have h3 := jl_store1 (L := a0 :: a1 :: a2 :: a3 :: some (.int (iI a)) :: t) (v := .int (iI (a + z))) (by simp only [List.length_cons]; omega) (fun a _ h => by cases h; exact hc) h2; exact h3)
theorem jw_iinc_5 {a0 a1 a2 a3 a4 : Option Value} {a z : Int} {t : List (Option Value)} (C : JC G X rm cc own nL) (d : decode cc pc = .ok (.iinc 5 z, 3)) (hc : jc1 a4 = true) (kk : JW G X k n w (pc + 3) (a0 :: a1 :: a2 :: a3 :: a4 :: some (.int (iI (a + z))) :: t) (rest)) : JW G X k n w (pc) (a0 :: a1 :: a2 :: a3 :: a4 :: some (.int (iI a)) :: t) (rest) := by
  obtain ⟨p, l, e, R, s, m, args, below, meth, c, Q, A⟩ := X
  obtain ⟨hx, hb, hml, hown, hts, hnw, hK, hlk, hA, hR⟩ := C
  intro H locs ls hP hD hS hl
  obtain ⟨j, hj⟩ := List.getElem?_of_mem ((jl0_mem (a0 :: a1 :: a2 :: a3 :: a4 :: some (.int (iI a)) :: t) 0 (5, Value.int (iI a))).mpr ⟨5, rfl, by omega⟩)
  refine lv_iinc (v := iI (a + z)) hx hb d hl (k := j) hj (by rw [← iI_add]; rfl) (by simp only [List.length_cons]; omega) rfl (fun ls2 h2 => ?_)
  exact kk H locs ls2 hP hD hS (by have h3 := jl_store1 (L := a0 :: a1 :: a2 :: a3 :: a4 :: some (.int (iI a)) :: t) (v := .int (iI (a + z))) (by simp only [List.length_cons]; omega) (fun a _ h => by cases h; exact hc) h2; exact h3)
theorem jw_iinc_6 {a0 a1 a2 a3 a4 a5 : Option Value} {a z : Int} {t : List (Option Value)} (C : JC G X rm cc own nL) (d : decode cc pc = .ok (.iinc 6 z, 3)) (hc : jc1 a5 = true) (kk : JW G X k n w (pc + 3) (a0 :: a1 :: a2 :: a3 :: a4 :: a5 :: some (.int (iI (a + z))) :: t) (rest)) : JW G X k n w (pc) (a0 :: a1 :: a2 :: a3 :: a4 :: a5 :: some (.int (iI a)) :: t) (rest) := by
  obtain ⟨p, l, e, R, s, m, args, below, meth, c, Q, A⟩ := X
  obtain ⟨hx, hb, hml, hown, hts, hnw, hK, hlk, hA, hR⟩ := C
  intro H locs ls hP hD hS hl
  obtain ⟨j, hj⟩ := List.getElem?_of_mem ((jl0_mem (a0 :: a1 :: a2 :: a3 :: a4 :: a5 :: some (.int (iI a)) :: t) 0 (6, Value.int (iI a))).mpr ⟨6, rfl, by omega⟩)
  refine lv_iinc (v := iI (a + z)) hx hb d hl (k := j) hj (by rw [← iI_add]; rfl) (by simp only [List.length_cons]; omega) rfl (fun ls2 h2 => ?_)
  exact kk H locs ls2 hP hD hS (by have h3 := jl_store1 (L := a0 :: a1 :: a2 :: a3 :: a4 :: a5 :: some (.int (iI a)) :: t) (v := .int (iI (a + z))) (by simp only [List.length_cons]; omega) (fun a _ h => by cases h; exact hc) h2; exact h3)
theorem jw_iinc_7 {a0 a1 a2 a3 a4 a5 a6 : Option Value} {a z : Int} {t : List (Option Value)} (C : JC G X rm cc own nL) (d : decode cc pc = .ok (.iinc 7 z, 3)) (hc : jc1 a6 = true) (kk : JW G X k n w (pc + 3) (a0 :: a1 :: a2 :: a3 :: a4 :: a5 :: a6 :: some (.int (iI (a + z))) :: t) (rest)) : JW G X k n w (pc) (a0 :: a1 :: a2 :: a3 :: a4 :: a5 :: a6 :: some (.int (iI a)) :: t) (rest) := by
  obtain ⟨p, l, e, R, s, m, args, below, meth, c, Q, A⟩ := X
  obtain ⟨hx, hb, hml, hown, hts, hnw, hK, hlk, hA, hR⟩ := C
  intro H locs ls hP hD hS hl
  obtain ⟨j, hj⟩ := List.getElem?_of_mem ((jl0_mem (a0 :: a1 :: a2 :: a3 :: a4 :: a5 :: a6 :: some (.int (iI a)) :: t) 0 (7, Value.int (iI a))).mpr ⟨7, rfl, by omega⟩)
  refine lv_iinc (v := iI (a + z)) hx hb d hl (k := j) hj (by rw [← iI_add]; rfl) (by simp only [List.length_cons]; omega) rfl (fun ls2 h2 => ?_)
  exact kk H locs ls2 hP hD hS (by have h3 := jl_store1 (L := a0 :: a1 :: a2 :: a3 :: a4 :: a5 :: a6 :: some (.int (iI a)) :: t) (v := .int (iI (a + z))) (by simp only [List.length_cons]; omega) (fun a _ h => by cases h; exact hc) h2; exact h3)
theorem jw_iinc_8 {a0 a1 a2 a3 a4 a5 a6 a7 : Option Value} {a z : Int} {t : List (Option Value)} (C : JC G X rm cc own nL) (d : decode cc pc = .ok (.iinc 8 z, 3)) (hc : jc1 a7 = true) (kk : JW G X k n w (pc + 3) (a0 :: a1 :: a2 :: a3 :: a4 :: a5 :: a6 :: a7 :: some (.int (iI (a + z))) :: t) (rest)) : JW G X k n w (pc) (a0 :: a1 :: a2 :: a3 :: a4 :: a5 :: a6 :: a7 :: some (.int (iI a)) :: t) (rest) := by
  obtain ⟨p, l, e, R, s, m, args, below, meth, c, Q, A⟩ := X
  obtain ⟨hx, hb, hml, hown, hts, hnw, hK, hlk, hA, hR⟩ := C
  intro H locs ls hP hD hS hl
  obtain ⟨j, hj⟩ := List.getElem?_of_mem ((jl0_mem (a0 :: a1 :: a2 :: a3 :: a4 :: a5 :: a6 :: a7 :: some (.int (iI a)) :: t) 0 (8, Value.int (iI a))).mpr ⟨8, rfl, by omega⟩)
  refine lv_iinc (v := iI (a + z)) hx hb d hl (k := j) hj (by rw [← iI_add]; rfl) (by simp only [List.length_cons]; omega) rfl (fun ls2 h2 => ?_)
  exact kk H locs ls2 hP hD hS (by have h3 := jl_store1 (L := a0 :: a1 :: a2 :: a3 :: a4 :: a5 :: a6 :: a7 :: some (.int (iI a)) :: t) (v := .int (iI (a + z))) (by simp only [List.length_cons]; omega) (fun a _ h => by cases h; exact hc) h2; exact h3)
theorem jw_get {ref cls : String} {T : u_T} {N ci idx : Nat} {a : Nat} {fs : List Value} {v : Value} (hin : ∀ w ∈ u_ws cls T N, w ∈ jAll) (hc : vwCl[ci]? = some (cls, T, N)) (kf : Nat) (hk : kf < N) (hr : (T kf).1 = ref) (C : JC G X rm cc own nL) (hlink : Cond.fieldLink own idx ref (T kf).2.1 (T kf).2.2.1 ∈ jAll)
    (q0 : Nat) (he : w[q0]? = some (a, .inr (ci, fs))) (hv : fs[kf]? = some v) (d : decode cc pc = .ok (.getfield idx, 3)) (kk : JW G X k n w (pc + 3) L (v :: rest)) : JW G X k n w pc L (.ref a :: rest) := by
  obtain ⟨p, l, e, R, s, m, args, below, meth, c, Q, A⟩ := X
  obtain ⟨hx, hb, hml, hown, hts, hnw, hK, hlk, hA, hR⟩ := C
  intro H locs ls hP hD hS hl
  exact va_get hx hb hts hin hown hK hP q0 he hc kf hk (hts _ hlink) (fun x h => by rw [← hr]; exact h) hv d (kk H locs ls hP hD hS hl)
theorem jw_put {ref cls : String} {T : u_T} {N ci idx : Nat} {a : Nat} {fs : List Value} {v : Value} {ty0 : Nat → FieldType} {ty : FieldType} (hin : ∀ w ∈ u_ws cls T N, w ∈ jAll) (hty : ∀ k, k < N → parseFieldDescriptor (T k).2.2.1 = some (ty0 k)) (hnm : ∀ a, a < N → ∀ b, b < N → a ≠ b → (T a).2.1 ≠ (T b).2.1) (hc : vwCl[ci]? = some (cls, T, N)) (kf : Nat) (hk : kf < N) (hr : (T kf).1 = ref) (hfin : (T kf).2.2.2 = false) (hd : parseFieldDescriptor (T kf).2.2.1 = some ty) (C : JC G X rm cc own nL) (hlink : Cond.fieldLink own idx ref (T kf).2.1 (T kf).2.2.1 ∈ jAll)
    (q0 : Nat) (he : w[q0]? = some (a, .inr (ci, fs))) (hn : narrow ty v = v) (hfit : fits ty v = true) (hl : kf < fs.length) (d : decode cc pc = .ok (.putfield idx, 3)) (kk : JW G X k n (w.set q0 (a, .inr (ci, fs.set kf v))) (pc + 3) L rest) : JW G X k n w pc L (v :: .ref a :: rest) := by
  obtain ⟨p, l, e, R, s, m, args, below, meth, c, Q, A⟩ := X
  obtain ⟨hx, hb, hml, hown, hts, hnw, hK, hlk, hA, hR⟩ := C
  intro H locs ls hP hD hS hl2
  exact va_put hx hb hts hin ty0 hty hnm hown hK hP hD hS q0 he hc kf hk (hts _ hlink) (fun x h => by rw [← hr]; exact h) hfin hd hn hfit hl d (fun H1 locs1 hP1 hD1 hS1 => kk H1 locs1 ls hP1 hD1 hS1 hl2)
theorem jw_getN {ref cls host : String} {T : u_T} {N ci idx : Nat} {a : Nat} {fs : List Value} {v : Value} (hin : ∀ w ∈ u_ws cls T N, w ∈ jAll) (hc : vwCl[ci]? = some (cls, T, N)) (kf : Nat) (hk : kf < N) (hr : (T kf).1 = ref) (C : JC G X rm cc own nL) (hlink : Cond.fieldLinkNest own idx ref (T kf).2.1 (T kf).2.2.1 host ∈ jNest)
    (q0 : Nat) (he : w[q0]? = some (a, .inr (ci, fs))) (hv : fs[kf]? = some v) (d : decode cc pc = .ok (.getfield idx, 3)) (kk : JW G X k n w (pc + 3) L (v :: rest)) : JW G X k n w pc L (.ref a :: rest) := by
  obtain ⟨p, l, e, R, s, m, args, below, meth, c, Q, A⟩ := X
  obtain ⟨hx, hb, hml, hown, hts, hnw, hK, hlk, hA, hR⟩ := C
  intro H locs ls hP hD hS hl
  exact va_getN hx hb hts hin hown hK hP q0 he hc kf hk (va_Nw.use (jNest_on hlink) (hnw _ hlink)) (fun x h => by rw [← hr]; exact h) hv d (kk H locs ls hP hD hS hl)
theorem jw_putN {ref cls host : String} {T : u_T} {N ci idx : Nat} {a : Nat} {fs : List Value} {v : Value} {ty0 : Nat → FieldType} {ty : FieldType} (hin : ∀ w ∈ u_ws cls T N, w ∈ jAll) (hty : ∀ k, k < N → parseFieldDescriptor (T k).2.2.1 = some (ty0 k)) (hnm : ∀ a, a < N → ∀ b, b < N → a ≠ b → (T a).2.1 ≠ (T b).2.1) (hc : vwCl[ci]? = some (cls, T, N)) (kf : Nat) (hk : kf < N) (hr : (T kf).1 = ref) (hfin : (T kf).2.2.2 = false) (hd : parseFieldDescriptor (T kf).2.2.1 = some ty) (C : JC G X rm cc own nL) (hlink : Cond.fieldLinkNest own idx ref (T kf).2.1 (T kf).2.2.1 host ∈ jNest)
    (q0 : Nat) (he : w[q0]? = some (a, .inr (ci, fs))) (hn : narrow ty v = v) (hfit : fits ty v = true) (hl : kf < fs.length) (d : decode cc pc = .ok (.putfield idx, 3)) (kk : JW G X k n (w.set q0 (a, .inr (ci, fs.set kf v))) (pc + 3) L rest) : JW G X k n w pc L (v :: .ref a :: rest) := by
  obtain ⟨p, l, e, R, s, m, args, below, meth, c, Q, A⟩ := X
  obtain ⟨hx, hb, hml, hown, hts, hnw, hK, hlk, hA, hR⟩ := C
  intro H locs ls hP hD hS hl2
  exact va_putN hx hb hts hin ty0 hty hnm hown hK hP hD hS q0 he hc kf hk (va_Nw.use (jNest_on hlink) (hnw _ hlink)) (fun x h => by rw [← hr]; exact h) hfin hd hn hfit hl d (fun H1 locs1 hP1 hD1 hS1 => kk H1 locs1 ls hP1 hD1 hS1 hl2)
theorem jw_iald {a N : Nat} {f : Nat → Int} {i : Int} (C : JC G X rm cc own nL) (q0 : Nat) (he : w[q0]? = some (a, .inl (G.2 0, N, .inl (jiI f)))) (j : Nat) (hj : i = (j : Int)) (hn : j < N) (hN : N < 1000000) (d : decode cc pc = .ok (.iaload, 1)) (kk : JW G X k n w (pc + 1) L (.int (iI (f j)) :: rest)) : JW G X k n w (pc) L (.int (iI i) :: .ref a :: rest) := by
  obtain ⟨p, l, e, R, s, m, args, below, meth, c, Q, A⟩ := X
  obtain ⟨hx, hb, hml, hown, hts, hnw, hK, hlk, hA, hR⟩ := C
  intro H locs ls hP hD hS hl
  subst hj
  refine va_iald hx hb hK hP q0 0 he rfl (iI_in hn hN) d ?_
  rw [iI_clamp (Nat.lt_trans hn hN)]
  exact kk H locs ls hP hD hS hl
theorem jw_iald_r {a N : Nat} {f : Nat → Int32} {i : Int} (C : JC G X rm cc own nL) (q0 : Nat) (he : w[q0]? = some (a, .inl (G.2 0, N, .inl (f)))) (j : Nat) (hj : i = (j : Int)) (hn : j < N) (hN : N < 1000000) (d : decode cc pc = .ok (.iaload, 1)) (kk : JW G X k n w (pc + 1) L (.int (f j) :: rest)) : JW G X k n w (pc) L (.int (iI i) :: .ref a :: rest) := by
  obtain ⟨p, l, e, R, s, m, args, below, meth, c, Q, A⟩ := X
  obtain ⟨hx, hb, hml, hown, hts, hnw, hK, hlk, hA, hR⟩ := C
  intro H locs ls hP hD hS hl
  subst hj
  refine va_iald hx hb hK hP q0 0 he rfl (iI_in hn hN) d ?_
  rw [iI_clamp (Nat.lt_trans hn hN)]
  exact kk H locs ls hP hD hS hl
theorem jw_zald {a N : Nat} {f : Nat → Bool} {i : Int} (C : JC G X rm cc own nL) (q0 : Nat) (he : w[q0]? = some (a, .inl (G.2 1, N, .inl (jbF f)))) (j : Nat) (hj : i = (j : Int)) (hn : j < N) (hN : N < 1000000) (d : decode cc pc = .ok (.baload, 1)) (kk : JW G X k n w (pc + 1) L (.int (jb (f j)) :: rest)) : JW G X k n w (pc) L (.int (iI i) :: .ref a :: rest) := by
  obtain ⟨p, l, e, R, s, m, args, below, meth, c, Q, A⟩ := X
  obtain ⟨hx, hb, hml, hown, hts, hnw, hK, hlk, hA, hR⟩ := C
  intro H locs ls hP hD hS hl
  subst hj
  refine va_zald hx hb hK hP q0 1 he rfl (iI_in hn hN) d ?_
  rw [iI_clamp (Nat.lt_trans hn hN)]
  exact kk H locs ls hP hD hS hl
theorem jw_lald {a N : Nat} {f : Nat → Int64} {i : Int} (C : JC G X rm cc own nL) (q0 : Nat) (he : w[q0]? = some (a, .inl (G.2 2, N, .inr (.inl f)))) (j : Nat) (hj : i = (j : Int)) (hn : j < N) (hN : N < 1000000) (d : decode cc pc = .ok (.laload, 1)) (kk : JW G X k n w (pc + 1) L (.long (f j) :: rest)) : JW G X k n w (pc) L (.int (iI i) :: .ref a :: rest) := by
  obtain ⟨p, l, e, R, s, m, args, below, meth, c, Q, A⟩ := X
  obtain ⟨hx, hb, hml, hown, hts, hnw, hK, hlk, hA, hR⟩ := C
  intro H locs ls hP hD hS hl
  subst hj
  refine va_lald hx hb hK hP q0 2 he rfl (iI_in hn hN) d ?_
  rw [iI_clamp (Nat.lt_trans hn hN)]
  exact kk H locs ls hP hD hS hl
theorem jw_iast {a N : Nat} {f : Nat → Int} {i : Int} {x : Int} (C : JC G X rm cc own nL) (q0 : Nat) (he : w[q0]? = some (a, .inl (G.2 0, N, .inl (jiI f)))) (j : Nat) (hj : i = (j : Int)) (hn : j < N) (hN : N < 1000000) (d : decode cc pc = .ok (.iastore, 1)) (kk : JW G X k n (w.set q0 (a, .inl (G.2 0, N, .inl (jiI (updf f j x))))) (pc + 1) L (rest)) : JW G X k n w (pc) L (.int (iI x) :: .int (iI i) :: .ref a :: rest) := by
  obtain ⟨p, l, e, R, s, m, args, below, meth, c, Q, A⟩ := X
  obtain ⟨hx, hb, hml, hown, hts, hnw, hK, hlk, hA, hR⟩ := C
  intro H locs ls hP hD hS hl
  subst hj
  refine va_iast hx hb hK hP hD hS q0 0 he rfl (iI_in hn hN) d (fun H1 locs1 hP1 hD1 hS1 => ?_)
  rw [iI_clamp (Nat.lt_trans hn hN), jiI_upd] at hP1 hD1
  exact kk H1 locs1 ls hP1 hD1 hS1 hl
theorem jw_iast_r {a N : Nat} {f : Nat → Int32} {i : Int} {x : Int32} (C : JC G X rm cc own nL) (q0 : Nat) (he : w[q0]? = some (a, .inl (G.2 0, N, .inl (f)))) (j : Nat) (hj : i = (j : Int)) (hn : j < N) (hN : N < 1000000) (d : decode cc pc = .ok (.iastore, 1)) (kk : JW G X k n (w.set q0 (a, .inl (G.2 0, N, .inl (updf f j x)))) (pc + 1) L (rest)) : JW G X k n w (pc) L (.int (x) :: .int (iI i) :: .ref a :: rest) := by
  obtain ⟨p, l, e, R, s, m, args, below, meth, c, Q, A⟩ := X
  obtain ⟨hx, hb, hml, hown, hts, hnw, hK, hlk, hA, hR⟩ := C
  intro H locs ls hP hD hS hl
  subst hj
  refine va_iast hx hb hK hP hD hS q0 0 he rfl (iI_in hn hN) d (fun H1 locs1 hP1 hD1 hS1 => ?_)
  rw [iI_clamp (Nat.lt_trans hn hN), raw_upd] at hP1 hD1
  exact kk H1 locs1 ls hP1 hD1 hS1 hl
theorem jw_zast {a N : Nat} {f : Nat → Bool} {i : Int} {x : Bool} (C : JC G X rm cc own nL) (q0 : Nat) (he : w[q0]? = some (a, .inl (G.2 1, N, .inl (jbF f)))) (j : Nat) (hj : i = (j : Int)) (hn : j < N) (hN : N < 1000000) (d : decode cc pc = .ok (.bastore, 1)) (kk : JW G X k n (w.set q0 (a, .inl (G.2 1, N, .inl (jbF (updf f j x))))) (pc + 1) L (rest)) : JW G X k n w (pc) L (.int (jb x) :: .int (iI i) :: .ref a :: rest) := by
  obtain ⟨p, l, e, R, s, m, args, below, meth, c, Q, A⟩ := X
  obtain ⟨hx, hb, hml, hown, hts, hnw, hK, hlk, hA, hR⟩ := C
  intro H locs ls hP hD hS hl
  subst hj
  refine va_zast hx hb hK hP hD hS q0 1 he rfl (iI_in hn hN) d (fun H1 locs1 hP1 hD1 hS1 => ?_)
  rw [iI_clamp (Nat.lt_trans hn hN), jbF_upd] at hP1 hD1
  exact kk H1 locs1 ls hP1 hD1 hS1 hl
theorem jw_last {a N : Nat} {f : Nat → Int64} {i : Int} {x : Int64} (C : JC G X rm cc own nL) (q0 : Nat) (he : w[q0]? = some (a, .inl (G.2 2, N, .inr (.inl f)))) (j : Nat) (hj : i = (j : Int)) (hn : j < N) (hN : N < 1000000) (d : decode cc pc = .ok (.lastore, 1)) (kk : JW G X k n (w.set q0 (a, .inl (G.2 2, N, .inr (.inl (updf f j x))))) (pc + 1) L (rest)) : JW G X k n w (pc) L (.long x :: .int (iI i) :: .ref a :: rest) := by
  obtain ⟨p, l, e, R, s, m, args, below, meth, c, Q, A⟩ := X
  obtain ⟨hx, hb, hml, hown, hts, hnw, hK, hlk, hA, hR⟩ := C
  intro H locs ls hP hD hS hl
  subst hj
  refine va_last hx hb hK hP hD hS q0 2 he rfl (iI_in hn hN) d (fun H1 locs1 hP1 hD1 hS1 => ?_)
  rw [iI_clamp (Nat.lt_trans hn hN), updL_upd] at hP1 hD1
  exact kk H1 locs1 ls hP1 hD1 hS1 hl
theorem jw_widen {k2 n2 : Nat} {st : List Value} (h1 : k ≤ k2) (h2 : n ≤ n2) (kk : JW G X k2 n2 w pc L st) : JW G X k n w pc L st := by
  obtain ⟨p, l, e, R, s, m, args, below, meth, c, Q, A⟩ := X
  intro H locs ls hP hD hS hl
  exact W.widen h1 h2 (kk H locs ls hP hD hS hl)
/-- fewer locals are known -/
theorem jw_forget {L2 : List (Option Value)} {st : List Value} (h1 : L2.length = L.length) (h2 : ∀ (j : Nat) (v : Value), L2[j]? = some (some v) → L[j]? = some (some v)) (kk : JW G X k n w pc L2 st) : JW G X k n w pc L st := by
  obtain ⟨p, l, e, R, s, m, args, below, meth, c, Q, A⟩ := X
  intro H locs ls hP hD hS hl
  refine kk H locs ls hP hD hS ⟨hl.1.trans h1.symm, hl.2.1, fun q hq => hl.2.2 q ?_⟩
  obtain ⟨j, h3, h4⟩ := (jl0_mem _ _ _).mp hq
  exact (jl0_mem _ _ _).mpr ⟨j, h2 j _ h3, h4⟩
/-- the world in another order, or a part of it -/
theorem jw_sub {w2 : va_W} {st : List Value} (is : List Nat) (hn : va_nd is = true) (hs : is.map (fun i => w[i]?) = w2.map some) (kk : JW G X k n w2 pc L st) : JW G X k n w pc L st := by
  obtain ⟨p, l, e, R, s, m, args, below, meth, c, Q, A⟩ := X
  intro H locs ls hP hD hS hl
  refine kk H locs ls (hP.sub is ?_) (hD.sub is hn hs) hS hl
  have h := congrArg (List.filterMap id) hs
  rw [List.filterMap_map, List.filterMap_map] at h
  simpa using h
end JR
end
section
/-! CONTRACTS over JW, and calls -/
def jrm (f loc mc ms : Nat) : Room := { frames := f, cells := mc, slots := ms, locals := loc }
def jPre (G : jG) (sz : Nat) (w : va_W) : State → Prop := fun U => U.heap.size = sz ∧ va_P G.1 vwCl w U.heap ∧ va_K G.1 vwCl (jT G) U ∧ (∀ z ∈ jNest, va_Nw z U) ∧ va_D (fun _ => True) w
def jPost (G : jG) (A : Nat → Prop) (w : va_W) : State → Prop := fun t => va_P G.1 vwCl w t.heap ∧ va_K G.1 vwCl (jT G) t ∧ va_D A w
theorem jPre_blind {G : jG} {sz : Nat} {w : va_W} {av : List Value} : FrameBlind (va_Pc av (jPre G sz w)) := by
  intro a U g mk q
  obtain ⟨q0, q1, qP, qK, qN, qD⟩ := q
  exact ⟨q0, q1, qP, va_K.moved (u := U) (U := U.calling g mk a) (Vm.Alike.refl U.vm) qK, fun z hz => va_Nw.same (jNest_on hz) (u := U) (U := U.calling g mk a) rfl (qN z hz), qD⟩
theorem jAll_in {ws : List Cond} (h : ∀ z ∈ ws, z ∈ jAll) : GoodIn jAll ws := fun z hz => ⟨h z hz, good_of_word (jAll_good z (h z hz))⟩
def jWd (y : MethodName) (Cn : String) (bytes : ByteArray) (maxL : Nat) (ret : Option FieldType) (np : Nat) : Prop :=
  Cond.instanceMethod y ∈ jAll ∧ Cond.selects Cn y y ∈ jAll ∧ Cond.initialized Cn ∈ jAll ∧ Cond.code y bytes maxL ret ∈ jAll ∧ (y.cls = Cn ∧ y.cls ≠ "java/lang/invoke/MethodHandle" ∧ y.cls ≠ "java/lang/invoke/VarHandle" ∧ (parseMethodDescriptor y.desc).map (fun d => d.parameters.length) = some np)
def jWs (y : MethodName) (bytes : ByteArray) (maxL : Nat) (ret : Option FieldType) (np : Nat) : Prop :=
  Cond.static y ∈ jAll ∧ Cond.initialized y.cls ∈ jAll ∧ Cond.code y bytes maxL ret ∈ jAll ∧ (y.cls ≠ "java/lang/invoke/MethodHandle" ∧ y.cls ≠ "java/lang/invoke/VarHandle" ∧ (parseMethodDescriptor y.desc).map (fun d => d.parameters.length) = some np)
def jWi (y : MethodName) (bytes : ByteArray) (maxL : Nat) (np : Nat) : Prop :=
  Cond.instanceMethod y ∈ jAll ∧ Cond.initialized y.cls ∈ jAll ∧ Cond.code y bytes maxL none ∈ jAll ∧ y.name = "<init>" ∧ (y.cls ≠ "java/lang/invoke/MethodHandle" ∧ y.cls ≠ "java/lang/invoke/VarHandle" ∧ (parseMethodDescriptor y.desc).map (fun d => d.parameters.length) = some np)
theorem jAll_code {y : MethodName} {bytes : ByteArray} {maxL : Nat} {ret : Option FieldType} (h : Cond.code y bytes maxL ret ∈ jAll) : ∀ z ∈ (Cond.code y bytes maxL ret :: jAll), z ∈ jAll := fun z hz => (List.mem_cons.mp hz).elim (fun e => e ▸ h) (fun h => h)
theorem j_part {w w0 : va_W} {isC : List Nat} (hC : isC.map (fun i => w[i]?) = w0.map some) : isC.filterMap (fun i => w[i]?) = w0 := by
  have h := congrArg (List.filterMap id) hC
  rw [List.filterMap_map, List.filterMap_map] at h
  simpa using h
theorem j_nd {A : Nat → Prop} {w w0 : va_W} {isC : List Nat} (hD : va_D A w) (hC : isC.map (fun i => w[i]?) = w0.map some) (hn : va_nd isC = true) : va_D (fun _ => True) w0 := (hD.sub isC hn hC).weaken (fun _ _ _ _ => trivial)
theorem j_rng (w : va_W) : (List.range w.length).map (fun i => w[i]?) = w.map some := by
  apply List.ext_getElem?
  intro i
  by_cases h : i < w.length
  · simp [h]
  · simp [h]
theorem j_nd_rng : ∀ (n : Nat), va_nd (List.range n) = true := by
  have key : ∀ l : List Nat, l.Nodup → va_nd l = true := by
    intro l
    induction l with
    | nil => intro _; rfl
    | cons a l ih =>
      intro h
      rw [List.nodup_cons] at h
      simp only [va_nd, Bool.and_eq_true, decide_eq_true_eq]
      exact ⟨h.1, ih h.2⟩
  exact fun n => key _ List.nodup_range
def CI (G : jG) (y : MethodName) (cc : ByteArray) (maxL : Nat) (rm : Room) (args : List Value) (w0 : va_W) {S : Type} (post : Int32 → S → Prop) (w1 : S → va_W) (mc ms : Nat) : Prop :=
  rm.cells = mc ∧ rm.slots = ms ∧ ∀ (l : Launch) (sz : Nat), Met l y (Cond.code y cc maxL (some .int) :: jAll) rm (va_Pc args (jPre G sz w0)) (va_Qi post (fun u => jPost G (va_A w0 sz) (w1 u)) (va_A w0 sz)) mc ms (va_A w0 sz)
theorem ci_intro {G : jG} {y : MethodName} {cc : ByteArray} {maxL f loc mc ms : Nat} {args : List Value} {w0 : va_W} {S : Type} {post : Int32 → S → Prop} {w1 : S → va_W} {own : String} (L0 : List (Option Value)) (hy : plainName y.cls = true) (hyo : y.cls = own) (hL : jl0 0 L0 = lv_args 0 args) (hLn : L0.length = maxL) (hsl : (lg_sl args).length ≤ maxL)
    (h : ∀ X : JX, JC G X (jrm f loc mc ms) cc own maxL → (∀ (pc : Nat) (L : List (Option Value)) (r : Int32) (u : S), decode cc pc = .ok (.ireturn, 1) → post r u → JW G X mc ms (w1 u) pc L [.int r]) → JW G X 0 0 w0 0 L0 []) : CI G y cc maxL (jrm f loc mc ms) args w0 post w1 mc ms := by
  refine ⟨rfl, rfl, fun l sz => ?_⟩
  refine Met.ofW (cc := cc) (maxL := maxL) (ret := (some .int)) hy rfl ?_
  intro p e s m args1 below meth c s₁ B hml hv
  obtain ⟨rfl, hsz, hP, hK, hN, hD0⟩ := hv
  have hx := B.exec
  have hb := B.bytes
  have hr := B.returns
  have hts := atoms_spec (ws := (Cond.code y cc maxL (some .int) :: jAll)) B.pre
  have hown : s.vm.findClass own = some m.cls := by rw [← hyo]; exact findClass_of_methodNamed B.named
  have hlocks := B.notSynchronized
  subst hsz
  have hD := hD0.self (sz := s.heap.size)
  have hA : ∀ q : Nat, s.heap.size ≤ q → va_A w0 s.heap.size q := fun q h => Or.inr h
  have hl := lv_entry args (n := maxL) hsl
  rw [lg_entry_eq]
  generalize (lg_sl args ++ List.replicate (maxL - (lg_sl args).length) Slot.unset).toArray = ls at hl ⊢
  rw [← hL] at hl
  have hl2 : lv_has ls L0.length (jl0 0 L0) := by rw [hLn]; exact hl
  have K := h (p, l, e, (jrm f loc mc ms), s, m, args.toArray, below, meth, c, MQ below (va_Qi post (fun u => jPost G (va_A w0 s.heap.size) (w1 u)) (va_A w0 s.heap.size)) args.toArray s mc ms (va_A w0 s.heap.size), va_A w0 s.heap.size) ⟨hx, hb, hml, hown, fun z hz => hts z (List.mem_cons_of_mem _ hz), hN, hK, hlocks, hA, rfl⟩ ?_
  · exact K s.heap [] ls hP hD va_S.rf hl2
  · intro pc L r u hd hp H locs ls hP hD hS hl
    exact W.iret hx hb hr (fun t ht hW => ⟨⟨r, u, rfl, hp, by rw [ht]; exact hP, va_K.moved hW.alike hK, hD⟩, hS.F ht⟩) hS.2.2 hd hlocks
def CV (G : jG) (y : MethodName) (cc : ByteArray) (maxL : Nat) (rm : Room) (args : List Value) (w0 : va_W) {S : Type} (post : S → Prop) (w1 : S → va_W) (mc ms : Nat) : Prop :=
  rm.cells = mc ∧ rm.slots = ms ∧ ∀ (l : Launch) (sz : Nat), Met l y (Cond.code y cc maxL none :: jAll) rm (va_Pc args (jPre G sz w0)) (va_Qv post (fun u => jPost G (va_A w0 sz) (w1 u)) (va_A w0 sz)) mc ms (va_A w0 sz)
theorem cv_intro {G : jG} {y : MethodName} {cc : ByteArray} {maxL f loc mc ms : Nat} {args : List Value} {w0 : va_W} {S : Type} {post : S → Prop} {w1 : S → va_W} {own : String} (L0 : List (Option Value)) (hy : plainName y.cls = true) (hyo : y.cls = own) (hL : jl0 0 L0 = lv_args 0 args) (hLn : L0.length = maxL) (hsl : (lg_sl args).length ≤ maxL)
    (h : ∀ X : JX, JC G X (jrm f loc mc ms) cc own maxL → (∀ (pc : Nat) (L : List (Option Value)) (u : S), decode cc pc = .ok (.return_, 1) → post u → JW G X mc ms (w1 u) pc L []) → JW G X 0 0 w0 0 L0 []) : CV G y cc maxL (jrm f loc mc ms) args w0 post w1 mc ms := by
  refine ⟨rfl, rfl, fun l sz => ?_⟩
  refine Met.ofW (cc := cc) (maxL := maxL) (ret := none) hy rfl ?_
  intro p e s m args1 below meth c s₁ B hml hv
  obtain ⟨rfl, hsz, hP, hK, hN, hD0⟩ := hv
  have hx := B.exec
  have hb := B.bytes
  have hr := B.returns
  have hts := atoms_spec (ws := (Cond.code y cc maxL none :: jAll)) B.pre
  have hown : s.vm.findClass own = some m.cls := by rw [← hyo]; exact findClass_of_methodNamed B.named
  have hlocks := B.notSynchronized
  subst hsz
  have hD := hD0.self (sz := s.heap.size)
  have hA : ∀ q : Nat, s.heap.size ≤ q → va_A w0 s.heap.size q := fun q h => Or.inr h
  have hl := lv_entry args (n := maxL) hsl
  rw [lg_entry_eq]
  generalize (lg_sl args ++ List.replicate (maxL - (lg_sl args).length) Slot.unset).toArray = ls at hl ⊢
  rw [← hL] at hl
  have hl2 : lv_has ls L0.length (jl0 0 L0) := by rw [hLn]; exact hl
  have K := h (p, l, e, (jrm f loc mc ms), s, m, args.toArray, below, meth, c, MQ below (va_Qv post (fun u => jPost G (va_A w0 s.heap.size) (w1 u)) (va_A w0 s.heap.size)) args.toArray s mc ms (va_A w0 s.heap.size), va_A w0 s.heap.size) ⟨hx, hb, hml, hown, fun z hz => hts z (List.mem_cons_of_mem _ hz), hN, hK, hlocks, hA, rfl⟩ ?_
  · exact K s.heap [] ls hP hD va_S.rf hl2
  · intro pc L u hd hp H locs ls hP hD hS hl
    exact W.vret hx hb hr (fun t ht hW => ⟨⟨u, rfl, hp, by rw [ht]; exact hP, va_K.moved hW.alike hK, hD⟩, hS.F ht⟩) hS.2.2 hd hlocks
def CL (G : jG) (y : MethodName) (cc : ByteArray) (maxL : Nat) (rm : Room) (args : List Value) (w0 : va_W) {S : Type} (post : Int64 → S → Prop) (w1 : S → va_W) (mc ms : Nat) : Prop :=
  rm.cells = mc ∧ rm.slots = ms ∧ ∀ (l : Launch) (sz : Nat), Met l y (Cond.code y cc maxL (some .long) :: jAll) rm (va_Pc args (jPre G sz w0)) (va_Ql post (fun u => jPost G (va_A w0 sz) (w1 u)) (va_A w0 sz)) mc ms (va_A w0 sz)
theorem cl_intro {G : jG} {y : MethodName} {cc : ByteArray} {maxL f loc mc ms : Nat} {args : List Value} {w0 : va_W} {S : Type} {post : Int64 → S → Prop} {w1 : S → va_W} {own : String} (L0 : List (Option Value)) (hy : plainName y.cls = true) (hyo : y.cls = own) (hL : jl0 0 L0 = lv_args 0 args) (hLn : L0.length = maxL) (hsl : (lg_sl args).length ≤ maxL)
    (h : ∀ X : JX, JC G X (jrm f loc mc ms) cc own maxL → (∀ (pc : Nat) (L : List (Option Value)) (r : Int64) (u : S), decode cc pc = .ok (.lreturn, 1) → post r u → JW G X mc ms (w1 u) pc L [.long r]) → JW G X 0 0 w0 0 L0 []) : CL G y cc maxL (jrm f loc mc ms) args w0 post w1 mc ms := by
  refine ⟨rfl, rfl, fun l sz => ?_⟩
  refine Met.ofW (cc := cc) (maxL := maxL) (ret := (some .long)) hy rfl ?_
  intro p e s m args1 below meth c s₁ B hml hv
  obtain ⟨rfl, hsz, hP, hK, hN, hD0⟩ := hv
  have hx := B.exec
  have hb := B.bytes
  have hr := B.returns
  have hts := atoms_spec (ws := (Cond.code y cc maxL (some .long) :: jAll)) B.pre
  have hown : s.vm.findClass own = some m.cls := by rw [← hyo]; exact findClass_of_methodNamed B.named
  have hlocks := B.notSynchronized
  subst hsz
  have hD := hD0.self (sz := s.heap.size)
  have hA : ∀ q : Nat, s.heap.size ≤ q → va_A w0 s.heap.size q := fun q h => Or.inr h
  have hl := lv_entry args (n := maxL) hsl
  rw [lg_entry_eq]
  generalize (lg_sl args ++ List.replicate (maxL - (lg_sl args).length) Slot.unset).toArray = ls at hl ⊢
  rw [← hL] at hl
  have hl2 : lv_has ls L0.length (jl0 0 L0) := by rw [hLn]; exact hl
  have K := h (p, l, e, (jrm f loc mc ms), s, m, args.toArray, below, meth, c, MQ below (va_Ql post (fun u => jPost G (va_A w0 s.heap.size) (w1 u)) (va_A w0 s.heap.size)) args.toArray s mc ms (va_A w0 s.heap.size), va_A w0 s.heap.size) ⟨hx, hb, hml, hown, fun z hz => hts z (List.mem_cons_of_mem _ hz), hN, hK, hlocks, hA, rfl⟩ ?_
  · exact K s.heap [] ls hP hD va_S.rf hl2
  · intro pc L r u hd hp H locs ls hP hD hS hl
    exact W.lret hx hb hr (fun t ht hW => ⟨⟨r, u, rfl, hp, by rw [ht]; exact hP, va_K.moved hW.alike hK, hD⟩, hS.F ht⟩) hS.2.2 hd hlocks
def CD (G : jG) (y : MethodName) (cc : ByteArray) (maxL : Nat) (rm : Room) (args : List Value) (w0 : va_W) {S : Type} (post : UInt64 → S → Prop) (w1 : S → va_W) (mc ms : Nat) : Prop :=
  rm.cells = mc ∧ rm.slots = ms ∧ ∀ (l : Launch) (sz : Nat), Met l y (Cond.code y cc maxL (some .double) :: jAll) rm (va_Pc args (jPre G sz w0)) (va_Qd post (fun u => jPost G (va_A w0 sz) (w1 u)) (va_A w0 sz)) mc ms (va_A w0 sz)
theorem cd_intro {G : jG} {y : MethodName} {cc : ByteArray} {maxL f loc mc ms : Nat} {args : List Value} {w0 : va_W} {S : Type} {post : UInt64 → S → Prop} {w1 : S → va_W} {own : String} (L0 : List (Option Value)) (hy : plainName y.cls = true) (hyo : y.cls = own) (hL : jl0 0 L0 = lv_args 0 args) (hLn : L0.length = maxL) (hsl : (lg_sl args).length ≤ maxL)
    (h : ∀ X : JX, JC G X (jrm f loc mc ms) cc own maxL → (∀ (pc : Nat) (L : List (Option Value)) (r : UInt64) (u : S), decode cc pc = .ok (.dreturn, 1) → post r u → JW G X mc ms (w1 u) pc L [.double r]) → JW G X 0 0 w0 0 L0 []) : CD G y cc maxL (jrm f loc mc ms) args w0 post w1 mc ms := by
  refine ⟨rfl, rfl, fun l sz => ?_⟩
  refine Met.ofW (cc := cc) (maxL := maxL) (ret := (some .double)) hy rfl ?_
  intro p e s m args1 below meth c s₁ B hml hv
  obtain ⟨rfl, hsz, hP, hK, hN, hD0⟩ := hv
  have hx := B.exec
  have hb := B.bytes
  have hr := B.returns
  have hts := atoms_spec (ws := (Cond.code y cc maxL (some .double) :: jAll)) B.pre
  have hown : s.vm.findClass own = some m.cls := by rw [← hyo]; exact findClass_of_methodNamed B.named
  have hlocks := B.notSynchronized
  subst hsz
  have hD := hD0.self (sz := s.heap.size)
  have hA : ∀ q : Nat, s.heap.size ≤ q → va_A w0 s.heap.size q := fun q h => Or.inr h
  have hl := lv_entry args (n := maxL) hsl
  rw [lg_entry_eq]
  generalize (lg_sl args ++ List.replicate (maxL - (lg_sl args).length) Slot.unset).toArray = ls at hl ⊢
  rw [← hL] at hl
  have hl2 : lv_has ls L0.length (jl0 0 L0) := by rw [hLn]; exact hl
  have K := h (p, l, e, (jrm f loc mc ms), s, m, args.toArray, below, meth, c, MQ below (va_Qd post (fun u => jPost G (va_A w0 s.heap.size) (w1 u)) (va_A w0 s.heap.size)) args.toArray s mc ms (va_A w0 s.heap.size), va_A w0 s.heap.size) ⟨hx, hb, hml, hown, fun z hz => hts z (List.mem_cons_of_mem _ hz), hN, hK, hlocks, hA, rfl⟩ ?_
  · exact K s.heap [] ls hP hD va_S.rf hl2
  · intro pc L r u hd hp H locs ls hP hD hS hl
    exact W.dret hx hb hr (fun t ht hW => ⟨⟨r, u, rfl, hp, by rw [ht]; exact hP, va_K.moved hW.alike hK, hD⟩, hS.F ht⟩) hS.2.2 hd hlocks
def CZ (G : jG) (y : MethodName) (cc : ByteArray) (maxL : Nat) (rm : Room) (args : List Value) (w0 : va_W) {S : Type} (post : Bool → S → Prop) (w1 : S → va_W) (mc ms : Nat) : Prop :=
  rm.cells = mc ∧ rm.slots = ms ∧ ∀ (l : Launch) (sz : Nat), Met l y (Cond.code y cc maxL (some .boolean) :: jAll) rm (va_Pc args (jPre G sz w0)) (va_Qi (fun r u => ∃ z : Bool, r = jb z ∧ post z u) (fun u => jPost G (va_A w0 sz) (w1 u)) (va_A w0 sz)) mc ms (va_A w0 sz)
theorem cz_intro {G : jG} {y : MethodName} {cc : ByteArray} {maxL f loc mc ms : Nat} {args : List Value} {w0 : va_W} {S : Type} {post : Bool → S → Prop} {w1 : S → va_W} {own : String} (L0 : List (Option Value)) (hy : plainName y.cls = true) (hyo : y.cls = own) (hL : jl0 0 L0 = lv_args 0 args) (hLn : L0.length = maxL) (hsl : (lg_sl args).length ≤ maxL)
    (h : ∀ X : JX, JC G X (jrm f loc mc ms) cc own maxL → (∀ (pc : Nat) (L : List (Option Value)) (r : Bool) (u : S), decode cc pc = .ok (.ireturn, 1) → post r u → JW G X mc ms (w1 u) pc L [.int (jb r)]) → JW G X 0 0 w0 0 L0 []) : CZ G y cc maxL (jrm f loc mc ms) args w0 post w1 mc ms := by
  refine ⟨rfl, rfl, fun l sz => ?_⟩
  refine Met.ofW (cc := cc) (maxL := maxL) (ret := (some .boolean)) hy rfl ?_
  intro p e s m args1 below meth c s₁ B hml hv
  obtain ⟨rfl, hsz, hP, hK, hN, hD0⟩ := hv
  have hx := B.exec
  have hb := B.bytes
  have hr := B.returns
  have hts := atoms_spec (ws := (Cond.code y cc maxL (some .boolean) :: jAll)) B.pre
  have hown : s.vm.findClass own = some m.cls := by rw [← hyo]; exact findClass_of_methodNamed B.named
  have hlocks := B.notSynchronized
  subst hsz
  have hD := hD0.self (sz := s.heap.size)
  have hA : ∀ q : Nat, s.heap.size ≤ q → va_A w0 s.heap.size q := fun q h => Or.inr h
  have hl := lv_entry args (n := maxL) hsl
  rw [lg_entry_eq]
  generalize (lg_sl args ++ List.replicate (maxL - (lg_sl args).length) Slot.unset).toArray = ls at hl ⊢
  rw [← hL] at hl
  have hl2 : lv_has ls L0.length (jl0 0 L0) := by rw [hLn]; exact hl
  have K := h (p, l, e, (jrm f loc mc ms), s, m, args.toArray, below, meth, c, MQ below (va_Qi (fun r u => ∃ z : Bool, r = jb z ∧ post z u) (fun u => jPost G (va_A w0 s.heap.size) (w1 u)) (va_A w0 s.heap.size)) args.toArray s mc ms (va_A w0 s.heap.size), va_A w0 s.heap.size) ⟨hx, hb, hml, hown, fun z hz => hts z (List.mem_cons_of_mem _ hz), hN, hK, hlocks, hA, rfl⟩ ?_
  · exact K s.heap [] ls hP hD va_S.rf hl2
  · intro pc L r u hd hp H locs ls hP hD hS hl
    exact W.zret (ty := .boolean) hx hb hr (by cases r <;> rfl) (fun t ht hW => ⟨⟨jb r, u, rfl, ⟨r, rfl, hp⟩, by rw [ht]; exact hP, va_K.moved hW.alike hK, hD⟩, hS.F ht⟩) hS.2.2 hd hlocks
section JCALL
variable {G : jG} {X : JX} {k n pc : Nat} {w : va_W} {L : List (Option Value)} {rest st0 : List Value} {rm : Room} {cc : ByteArray} {own : String} {nL : Nat} {y : MethodName} {bytes : ByteArray} {maxL f loc np idx b q0 ci N : Nat} {As : List Value} {w0 wr : va_W} {S : Type} {w1 : S → va_W} {Cn : String} {T : u_T} {fs : List Value}
theorem jw_sV_I {post : Int32 → S → Prop} (C : JC G X rm cc own nL) (ct : CI G y bytes maxL (jrm f loc 0 0) (.ref b :: As) w0 post w1 0 0) (wd : jWd y Cn bytes maxL (some .int) np) (link : Cond.methodLink own idx y ∈ jAll) (q0 : Nat) (hq : w[q0]? = some (b, .inr (ci, fs))) (hci : vwCl[ci]? = some (Cn, T, N))
    (isC isR : List Nat) (hC : isC.map (fun i => w[i]?) = w0.map some) (hR : isR.map (fun i => w[i]?) = wr.map some) (hnC : va_nd isC = true) (hn : va_nd isR = true) (hdis : ∀ i ∈ isR, i ∉ isC)
    (hAs : As.length = np) (hst : st0 = As.reverse ++ .ref b :: rest) (hrest : (rest.map fun v => v.category).sum ≤ 8) (hrm : f + 1 ≤ rm.frames ∧ 8 + (maxL + 11) + loc ≤ rm.locals) (hk : k ≤ rm.cells ∧ n ≤ rm.slots) (d : decode cc pc = .ok (.invokevirtual idx, 3)) (hL : L.length = nL)
    (kk : ∀ (r : Int32) (u : S), post r u → JW G X k n (wr ++ w1 u) (pc + 3) L (.int r :: rest)) : JW G X k n w pc L st0 := by
  obtain ⟨p, l, e, R, s, m, args, below, meth, c, Q, A⟩ := X
  obtain ⟨hx, hb, hml, hown, hts, hnw, hK, hlk, hA, hR⟩ := C
  subst hR
  intro H locs ls hP hD hS hl
  obtain ⟨wd1, wd2, wd3, wd4, wd5⟩ := wd
  have hPc := hP.sub isC (j_part hC)
  have hDc := j_nd hD hC hnC
  have hFc := va_free hD hS hA isC hC
  refine va_calli (va_runV (As := As) (rest := rest) ⟨hx, hb, hml, hown, hts⟩ (ct.2.2 l H.size) (cwV np hts (jAll_in (fun z hz => ?_)) rfl rfl rfl wd5 hrm) ⟨jPre_blind, va_recv hK hP hci hq, fun U hU hW => ⟨rfl, by rw [hU], by rw [hU]; exact hPc, va_K.moved hW.alike hK, fun z hz => jNest_warm hz hW (hnw z hz), hDc⟩⟩ rfl hAs (hl.1.trans hL) hst (lv_room hrest) d hk) hS (fun q _ h => hFc q h) hFc (fun r u t H1 locs1 ht hvm hw hB hz1 hk1 hS1 => ?_)
  · rcases List.mem_append.mp hz with h | h
    · simp only [List.mem_cons, List.not_mem_nil, or_false] at h
      rcases h with rfl | rfl | rfl | rfl
      · exact link
      · exact wd1
      · exact wd2
      · exact wd3
    · exact jAll_code wd4 z h
  · obtain ⟨hP1, hK1, hD1⟩ := hB
    rw [ht] at hP1
    obtain ⟨hP2, hD2⟩ := va_join hP hD isC isR hC hR hn hdis hk1 hFc hP1 hD1
    exact kk r u hw H1 locs1 ls hP2 hD2 hS1 hl
theorem jw_V_I {post : Int32 → S → Prop} (C : JC G X rm cc own nL) (ct : CI G y bytes maxL (jrm f loc 0 0) (.ref b :: As) w post w1 0 0) (wd : jWd y Cn bytes maxL (some .int) np) (link : Cond.methodLink own idx y ∈ jAll) (q0 : Nat) (hq : w[q0]? = some (b, .inr (ci, fs))) (hci : vwCl[ci]? = some (Cn, T, N))
    (hAs : As.length = np) (hst : st0 = As.reverse ++ .ref b :: rest) (hrest : (rest.map fun v => v.category).sum ≤ 8) (hrm : f + 1 ≤ rm.frames ∧ 8 + (maxL + 11) + loc ≤ rm.locals) (hk : k ≤ rm.cells ∧ n ≤ rm.slots) (d : decode cc pc = .ok (.invokevirtual idx, 3)) (hL : L.length = nL)
    (kk : ∀ (r : Int32) (u : S), post r u → JW G X k n (w1 u) (pc + 3) L (.int r :: rest)) : JW G X k n w pc L st0 :=
  jw_sV_I (wr := []) C ct wd link q0 hq hci (List.range w.length) [] (j_rng w) rfl (j_nd_rng _) rfl (fun _ h => by cases h) hAs hst hrest hrm hk d hL kk
theorem jw_sS_I {post : Int32 → S → Prop} (C : JC G X rm cc own nL) (ct : CI G y bytes maxL (jrm f loc 0 0) As w0 post w1 0 0) (wd : jWs y bytes maxL (some .int) np) (link : Cond.methodLink own idx y ∈ jAll)
    (isC isR : List Nat) (hC : isC.map (fun i => w[i]?) = w0.map some) (hR : isR.map (fun i => w[i]?) = wr.map some) (hnC : va_nd isC = true) (hn : va_nd isR = true) (hdis : ∀ i ∈ isR, i ∉ isC)
    (hAs : As.length = np) (hst : st0 = As.reverse ++ rest) (hrest : (rest.map fun v => v.category).sum ≤ 8) (hrm : f + 1 ≤ rm.frames ∧ 8 + (maxL + 11) + loc ≤ rm.locals) (hk : k ≤ rm.cells ∧ n ≤ rm.slots) (d : decode cc pc = .ok (.invokestatic idx, 3)) (hL : L.length = nL)
    (kk : ∀ (r : Int32) (u : S), post r u → JW G X k n (wr ++ w1 u) (pc + 3) L (.int r :: rest)) : JW G X k n w pc L st0 := by
  obtain ⟨p, l, e, R, s, m, args, below, meth, c, Q, A⟩ := X
  obtain ⟨hx, hb, hml, hown, hts, hnw, hK, hlk, hA, hR⟩ := C
  subst hR
  intro H locs ls hP hD hS hl
  obtain ⟨wd1, wd2, wd3, wd5⟩ := wd
  have hPc := hP.sub isC (j_part hC)
  have hDc := j_nd hD hC hnC
  have hFc := va_free hD hS hA isC hC
  refine va_calli (va_runS (As := As) (rest := rest) ⟨hx, hb, hml, hown, hts⟩ (ct.2.2 l H.size) (va_cwS np hts (jAll_in (fun z hz => ?_)) rfl rfl rfl wd5 hrm) ⟨jPre_blind, fun U hU hW => ⟨rfl, by rw [hU], by rw [hU]; exact hPc, va_K.moved hW.alike hK, fun z hz => jNest_warm hz hW (hnw z hz), hDc⟩⟩ rfl hAs (hl.1.trans hL) hst (lv_room hrest) d hk) hS (fun q _ h => hFc q h) hFc (fun r u t H1 locs1 ht hvm hw hB hz1 hk1 hS1 => ?_)
  · rcases List.mem_append.mp hz with h | h
    · simp only [List.mem_cons, List.not_mem_nil, or_false] at h
      rcases h with rfl | rfl | rfl
      · exact link
      · exact wd1
      · exact wd2
    · exact jAll_code wd3 z h
  · obtain ⟨hP1, hK1, hD1⟩ := hB
    rw [ht] at hP1
    obtain ⟨hP2, hD2⟩ := va_join hP hD isC isR hC hR hn hdis hk1 hFc hP1 hD1
    exact kk r u hw H1 locs1 ls hP2 hD2 hS1 hl
theorem jw_S0_I {post : Int32 → S → Prop} (C : JC G X rm cc own nL) (ct : CI G y bytes maxL (jrm f loc 0 0) As [] post (fun _ : S => []) 0 0) (wd : jWs y bytes maxL (some .int) np) (link : Cond.methodLink own idx y ∈ jAll)
    (hAs : As.length = np) (hst : st0 = As.reverse ++ rest) (hrest : (rest.map fun v => v.category).sum ≤ 8) (hrm : f + 1 ≤ rm.frames ∧ 8 + (maxL + 11) + loc ≤ rm.locals) (hk : k ≤ rm.cells ∧ n ≤ rm.slots) (d : decode cc pc = .ok (.invokestatic idx, 3)) (hL : L.length = nL)
    (kk : ∀ (r : Int32) (u : S), post r u → JW G X k n w (pc + 3) L (.int r :: rest)) : JW G X k n w pc L st0 :=
  jw_sS_I (wr := w) C ct wd link [] (List.range w.length) rfl (j_rng w) rfl (j_nd_rng _) (fun _ _ h => by cases h) hAs hst hrest hrm hk d hL (by simpa only [List.append_nil] using kk)
theorem jw_sSN_I {post : Int32 → S → Prop} {host : String} (C : JC G X rm cc own nL) (ct : CI G y bytes maxL (jrm f loc 0 0) As w0 post w1 0 0) (wd : jWs y bytes maxL (some .int) np) (link : Cond.methodLinkNest own idx y host ∈ jNest)
    (isC isR : List Nat) (hC : isC.map (fun i => w[i]?) = w0.map some) (hR : isR.map (fun i => w[i]?) = wr.map some) (hnC : va_nd isC = true) (hn : va_nd isR = true) (hdis : ∀ i ∈ isR, i ∉ isC)
    (hAs : As.length = np) (hst : st0 = As.reverse ++ rest) (hrest : (rest.map fun v => v.category).sum ≤ 8) (hrm : f + 1 ≤ rm.frames ∧ 8 + (maxL + 11) + loc ≤ rm.locals) (hk : k ≤ rm.cells ∧ n ≤ rm.slots) (d : decode cc pc = .ok (.invokestatic idx, 3)) (hL : L.length = nL)
    (kk : ∀ (r : Int32) (u : S), post r u → JW G X k n (wr ++ w1 u) (pc + 3) L (.int r :: rest)) : JW G X k n w pc L st0 := by
  obtain ⟨p, l, e, R, s, m, args, below, meth, c, Q, A⟩ := X
  obtain ⟨hx, hb, hml, hown, hts, hnw, hK, hlk, hA, hR⟩ := C
  subst hR
  intro H locs ls hP hD hS hl
  obtain ⟨wd1, wd2, wd3, wd5⟩ := wd
  have hPc := hP.sub isC (j_part hC)
  have hDc := j_nd hD hC hnC
  have hFc := va_free hD hS hA isC hC
  refine va_calli (va_runSN (As := As) (rest := rest) ⟨hx, hb, hml, hown, hts⟩ (ct.2.2 l H.size) ⟨va_cnB np hts (jAll_in (jAll_code wd3)) rfl rfl rfl (hnw _ link) (hts _ wd2) wd5 hrm, hts _ wd1, trivial⟩ ⟨jPre_blind, fun U hU hW => ⟨rfl, by rw [hU], by rw [hU]; exact hPc, va_K.moved hW.alike hK, fun z hz => jNest_warm hz hW (hnw z hz), hDc⟩⟩ rfl hAs (hl.1.trans hL) hst (lv_room hrest) d hk) hS (fun q _ h => hFc q h) hFc (fun r u t H1 locs1 ht hvm hw hB hz1 hk1 hS1 => ?_)
  · obtain ⟨hP1, hK1, hD1⟩ := hB
    rw [ht] at hP1
    obtain ⟨hP2, hD2⟩ := va_join hP hD isC isR hC hR hn hdis hk1 hFc hP1 hD1
    exact kk r u hw H1 locs1 ls hP2 hD2 hS1 hl
theorem jw_SN0_I {post : Int32 → S → Prop} {host : String} (C : JC G X rm cc own nL) (ct : CI G y bytes maxL (jrm f loc 0 0) As [] post (fun _ : S => []) 0 0) (wd : jWs y bytes maxL (some .int) np) (link : Cond.methodLinkNest own idx y host ∈ jNest)
    (hAs : As.length = np) (hst : st0 = As.reverse ++ rest) (hrest : (rest.map fun v => v.category).sum ≤ 8) (hrm : f + 1 ≤ rm.frames ∧ 8 + (maxL + 11) + loc ≤ rm.locals) (hk : k ≤ rm.cells ∧ n ≤ rm.slots) (d : decode cc pc = .ok (.invokestatic idx, 3)) (hL : L.length = nL)
    (kk : ∀ (r : Int32) (u : S), post r u → JW G X k n w (pc + 3) L (.int r :: rest)) : JW G X k n w pc L st0 :=
  jw_sSN_I (wr := w) C ct wd link [] (List.range w.length) rfl (j_rng w) rfl (j_nd_rng _) (fun _ _ h => by cases h) hAs hst hrest hrm hk d hL (by simpa only [List.append_nil] using kk)
theorem jw_sV_V {post : S → Prop} (C : JC G X rm cc own nL) (ct : CV G y bytes maxL (jrm f loc 0 0) (.ref b :: As) w0 post w1 0 0) (wd : jWd y Cn bytes maxL none np) (link : Cond.methodLink own idx y ∈ jAll) (q0 : Nat) (hq : w[q0]? = some (b, .inr (ci, fs))) (hci : vwCl[ci]? = some (Cn, T, N))
    (isC isR : List Nat) (hC : isC.map (fun i => w[i]?) = w0.map some) (hR : isR.map (fun i => w[i]?) = wr.map some) (hnC : va_nd isC = true) (hn : va_nd isR = true) (hdis : ∀ i ∈ isR, i ∉ isC)
    (hAs : As.length = np) (hst : st0 = As.reverse ++ .ref b :: rest) (hrest : (rest.map fun v => v.category).sum ≤ 8) (hrm : f + 1 ≤ rm.frames ∧ 8 + (maxL + 11) + loc ≤ rm.locals) (hk : k ≤ rm.cells ∧ n ≤ rm.slots) (d : decode cc pc = .ok (.invokevirtual idx, 3)) (hL : L.length = nL)
    (kk : ∀ (u : S), post u → JW G X k n (wr ++ w1 u) (pc + 3) L rest) : JW G X k n w pc L st0 := by
  obtain ⟨p, l, e, R, s, m, args, below, meth, c, Q, A⟩ := X
  obtain ⟨hx, hb, hml, hown, hts, hnw, hK, hlk, hA, hR⟩ := C
  subst hR
  intro H locs ls hP hD hS hl
  obtain ⟨wd1, wd2, wd3, wd4, wd5⟩ := wd
  have hPc := hP.sub isC (j_part hC)
  have hDc := j_nd hD hC hnC
  have hFc := va_free hD hS hA isC hC
  refine va_callv (va_runV (As := As) (rest := rest) ⟨hx, hb, hml, hown, hts⟩ (ct.2.2 l H.size) (cwV np hts (jAll_in (fun z hz => ?_)) rfl rfl rfl wd5 hrm) ⟨jPre_blind, va_recv hK hP hci hq, fun U hU hW => ⟨rfl, by rw [hU], by rw [hU]; exact hPc, va_K.moved hW.alike hK, fun z hz => jNest_warm hz hW (hnw z hz), hDc⟩⟩ rfl hAs (hl.1.trans hL) hst (lv_room hrest) d hk) hS (fun q _ h => hFc q h) hFc (fun u t H1 locs1 ht hvm hw hB hz1 hk1 hS1 => ?_)
  · rcases List.mem_append.mp hz with h | h
    · simp only [List.mem_cons, List.not_mem_nil, or_false] at h
      rcases h with rfl | rfl | rfl | rfl
      · exact link
      · exact wd1
      · exact wd2
      · exact wd3
    · exact jAll_code wd4 z h
  · obtain ⟨hP1, hK1, hD1⟩ := hB
    rw [ht] at hP1
    obtain ⟨hP2, hD2⟩ := va_join hP hD isC isR hC hR hn hdis hk1 hFc hP1 hD1
    exact kk u hw H1 locs1 ls hP2 hD2 hS1 hl
theorem jw_V_V {post : S → Prop} (C : JC G X rm cc own nL) (ct : CV G y bytes maxL (jrm f loc 0 0) (.ref b :: As) w post w1 0 0) (wd : jWd y Cn bytes maxL none np) (link : Cond.methodLink own idx y ∈ jAll) (q0 : Nat) (hq : w[q0]? = some (b, .inr (ci, fs))) (hci : vwCl[ci]? = some (Cn, T, N))
    (hAs : As.length = np) (hst : st0 = As.reverse ++ .ref b :: rest) (hrest : (rest.map fun v => v.category).sum ≤ 8) (hrm : f + 1 ≤ rm.frames ∧ 8 + (maxL + 11) + loc ≤ rm.locals) (hk : k ≤ rm.cells ∧ n ≤ rm.slots) (d : decode cc pc = .ok (.invokevirtual idx, 3)) (hL : L.length = nL)
    (kk : ∀ (u : S), post u → JW G X k n (w1 u) (pc + 3) L rest) : JW G X k n w pc L st0 :=
  jw_sV_V (wr := []) C ct wd link q0 hq hci (List.range w.length) [] (j_rng w) rfl (j_nd_rng _) rfl (fun _ h => by cases h) hAs hst hrest hrm hk d hL kk
theorem jw_sS_V {post : S → Prop} (C : JC G X rm cc own nL) (ct : CV G y bytes maxL (jrm f loc 0 0) As w0 post w1 0 0) (wd : jWs y bytes maxL none np) (link : Cond.methodLink own idx y ∈ jAll)
    (isC isR : List Nat) (hC : isC.map (fun i => w[i]?) = w0.map some) (hR : isR.map (fun i => w[i]?) = wr.map some) (hnC : va_nd isC = true) (hn : va_nd isR = true) (hdis : ∀ i ∈ isR, i ∉ isC)
    (hAs : As.length = np) (hst : st0 = As.reverse ++ rest) (hrest : (rest.map fun v => v.category).sum ≤ 8) (hrm : f + 1 ≤ rm.frames ∧ 8 + (maxL + 11) + loc ≤ rm.locals) (hk : k ≤ rm.cells ∧ n ≤ rm.slots) (d : decode cc pc = .ok (.invokestatic idx, 3)) (hL : L.length = nL)
    (kk : ∀ (u : S), post u → JW G X k n (wr ++ w1 u) (pc + 3) L rest) : JW G X k n w pc L st0 := by
  obtain ⟨p, l, e, R, s, m, args, below, meth, c, Q, A⟩ := X
  obtain ⟨hx, hb, hml, hown, hts, hnw, hK, hlk, hA, hR⟩ := C
  subst hR
  intro H locs ls hP hD hS hl
  obtain ⟨wd1, wd2, wd3, wd5⟩ := wd
  have hPc := hP.sub isC (j_part hC)
  have hDc := j_nd hD hC hnC
  have hFc := va_free hD hS hA isC hC
  refine va_callv (va_runS (As := As) (rest := rest) ⟨hx, hb, hml, hown, hts⟩ (ct.2.2 l H.size) (va_cwS np hts (jAll_in (fun z hz => ?_)) rfl rfl rfl wd5 hrm) ⟨jPre_blind, fun U hU hW => ⟨rfl, by rw [hU], by rw [hU]; exact hPc, va_K.moved hW.alike hK, fun z hz => jNest_warm hz hW (hnw z hz), hDc⟩⟩ rfl hAs (hl.1.trans hL) hst (lv_room hrest) d hk) hS (fun q _ h => hFc q h) hFc (fun u t H1 locs1 ht hvm hw hB hz1 hk1 hS1 => ?_)
  · rcases List.mem_append.mp hz with h | h
    · simp only [List.mem_cons, List.not_mem_nil, or_false] at h
      rcases h with rfl | rfl | rfl
      · exact link
      · exact wd1
      · exact wd2
    · exact jAll_code wd3 z h
  · obtain ⟨hP1, hK1, hD1⟩ := hB
    rw [ht] at hP1
    obtain ⟨hP2, hD2⟩ := va_join hP hD isC isR hC hR hn hdis hk1 hFc hP1 hD1
    exact kk u hw H1 locs1 ls hP2 hD2 hS1 hl
theorem jw_S0_V {post : S → Prop} (C : JC G X rm cc own nL) (ct : CV G y bytes maxL (jrm f loc 0 0) As [] post (fun _ : S => []) 0 0) (wd : jWs y bytes maxL none np) (link : Cond.methodLink own idx y ∈ jAll)
    (hAs : As.length = np) (hst : st0 = As.reverse ++ rest) (hrest : (rest.map fun v => v.category).sum ≤ 8) (hrm : f + 1 ≤ rm.frames ∧ 8 + (maxL + 11) + loc ≤ rm.locals) (hk : k ≤ rm.cells ∧ n ≤ rm.slots) (d : decode cc pc = .ok (.invokestatic idx, 3)) (hL : L.length = nL)
    (kk : ∀ (u : S), post u → JW G X k n w (pc + 3) L rest) : JW G X k n w pc L st0 :=
  jw_sS_V (wr := w) C ct wd link [] (List.range w.length) rfl (j_rng w) rfl (j_nd_rng _) (fun _ _ h => by cases h) hAs hst hrest hrm hk d hL (by simpa only [List.append_nil] using kk)
theorem jw_sSN_V {post : S → Prop} {host : String} (C : JC G X rm cc own nL) (ct : CV G y bytes maxL (jrm f loc 0 0) As w0 post w1 0 0) (wd : jWs y bytes maxL none np) (link : Cond.methodLinkNest own idx y host ∈ jNest)
    (isC isR : List Nat) (hC : isC.map (fun i => w[i]?) = w0.map some) (hR : isR.map (fun i => w[i]?) = wr.map some) (hnC : va_nd isC = true) (hn : va_nd isR = true) (hdis : ∀ i ∈ isR, i ∉ isC)
    (hAs : As.length = np) (hst : st0 = As.reverse ++ rest) (hrest : (rest.map fun v => v.category).sum ≤ 8) (hrm : f + 1 ≤ rm.frames ∧ 8 + (maxL + 11) + loc ≤ rm.locals) (hk : k ≤ rm.cells ∧ n ≤ rm.slots) (d : decode cc pc = .ok (.invokestatic idx, 3)) (hL : L.length = nL)
    (kk : ∀ (u : S), post u → JW G X k n (wr ++ w1 u) (pc + 3) L rest) : JW G X k n w pc L st0 := by
  obtain ⟨p, l, e, R, s, m, args, below, meth, c, Q, A⟩ := X
  obtain ⟨hx, hb, hml, hown, hts, hnw, hK, hlk, hA, hR⟩ := C
  subst hR
  intro H locs ls hP hD hS hl
  obtain ⟨wd1, wd2, wd3, wd5⟩ := wd
  have hPc := hP.sub isC (j_part hC)
  have hDc := j_nd hD hC hnC
  have hFc := va_free hD hS hA isC hC
  refine va_callv (va_runSN (As := As) (rest := rest) ⟨hx, hb, hml, hown, hts⟩ (ct.2.2 l H.size) ⟨va_cnB np hts (jAll_in (jAll_code wd3)) rfl rfl rfl (hnw _ link) (hts _ wd2) wd5 hrm, hts _ wd1, trivial⟩ ⟨jPre_blind, fun U hU hW => ⟨rfl, by rw [hU], by rw [hU]; exact hPc, va_K.moved hW.alike hK, fun z hz => jNest_warm hz hW (hnw z hz), hDc⟩⟩ rfl hAs (hl.1.trans hL) hst (lv_room hrest) d hk) hS (fun q _ h => hFc q h) hFc (fun u t H1 locs1 ht hvm hw hB hz1 hk1 hS1 => ?_)
  · obtain ⟨hP1, hK1, hD1⟩ := hB
    rw [ht] at hP1
    obtain ⟨hP2, hD2⟩ := va_join hP hD isC isR hC hR hn hdis hk1 hFc hP1 hD1
    exact kk u hw H1 locs1 ls hP2 hD2 hS1 hl
theorem jw_SN0_V {post : S → Prop} {host : String} (C : JC G X rm cc own nL) (ct : CV G y bytes maxL (jrm f loc 0 0) As [] post (fun _ : S => []) 0 0) (wd : jWs y bytes maxL none np) (link : Cond.methodLinkNest own idx y host ∈ jNest)
    (hAs : As.length = np) (hst : st0 = As.reverse ++ rest) (hrest : (rest.map fun v => v.category).sum ≤ 8) (hrm : f + 1 ≤ rm.frames ∧ 8 + (maxL + 11) + loc ≤ rm.locals) (hk : k ≤ rm.cells ∧ n ≤ rm.slots) (d : decode cc pc = .ok (.invokestatic idx, 3)) (hL : L.length = nL)
    (kk : ∀ (u : S), post u → JW G X k n w (pc + 3) L rest) : JW G X k n w pc L st0 :=
  jw_sSN_V (wr := w) C ct wd link [] (List.range w.length) rfl (j_rng w) rfl (j_nd_rng _) (fun _ _ h => by cases h) hAs hst hrest hrm hk d hL (by simpa only [List.append_nil] using kk)
theorem jw_sV_L {post : Int64 → S → Prop} (C : JC G X rm cc own nL) (ct : CL G y bytes maxL (jrm f loc 0 0) (.ref b :: As) w0 post w1 0 0) (wd : jWd y Cn bytes maxL (some .long) np) (link : Cond.methodLink own idx y ∈ jAll) (q0 : Nat) (hq : w[q0]? = some (b, .inr (ci, fs))) (hci : vwCl[ci]? = some (Cn, T, N))
    (isC isR : List Nat) (hC : isC.map (fun i => w[i]?) = w0.map some) (hR : isR.map (fun i => w[i]?) = wr.map some) (hnC : va_nd isC = true) (hn : va_nd isR = true) (hdis : ∀ i ∈ isR, i ∉ isC)
    (hAs : As.length = np) (hst : st0 = As.reverse ++ .ref b :: rest) (hrest : (rest.map fun v => v.category).sum ≤ 8) (hrm : f + 1 ≤ rm.frames ∧ 8 + (maxL + 11) + loc ≤ rm.locals) (hk : k ≤ rm.cells ∧ n ≤ rm.slots) (d : decode cc pc = .ok (.invokevirtual idx, 3)) (hL : L.length = nL)
    (kk : ∀ (r : Int64) (u : S), post r u → JW G X k n (wr ++ w1 u) (pc + 3) L (.long r :: rest)) : JW G X k n w pc L st0 := by
  obtain ⟨p, l, e, R, s, m, args, below, meth, c, Q, A⟩ := X
  obtain ⟨hx, hb, hml, hown, hts, hnw, hK, hlk, hA, hR⟩ := C
  subst hR
  intro H locs ls hP hD hS hl
  obtain ⟨wd1, wd2, wd3, wd4, wd5⟩ := wd
  have hPc := hP.sub isC (j_part hC)
  have hDc := j_nd hD hC hnC
  have hFc := va_free hD hS hA isC hC
  refine va_calll (va_runV (As := As) (rest := rest) ⟨hx, hb, hml, hown, hts⟩ (ct.2.2 l H.size) (cwV np hts (jAll_in (fun z hz => ?_)) rfl rfl rfl wd5 hrm) ⟨jPre_blind, va_recv hK hP hci hq, fun U hU hW => ⟨rfl, by rw [hU], by rw [hU]; exact hPc, va_K.moved hW.alike hK, fun z hz => jNest_warm hz hW (hnw z hz), hDc⟩⟩ rfl hAs (hl.1.trans hL) hst (lv_room hrest) d hk) hS (fun q _ h => hFc q h) hFc (fun r u t H1 locs1 ht hvm hw hB hz1 hk1 hS1 => ?_)
  · rcases List.mem_append.mp hz with h | h
    · simp only [List.mem_cons, List.not_mem_nil, or_false] at h
      rcases h with rfl | rfl | rfl | rfl
      · exact link
      · exact wd1
      · exact wd2
      · exact wd3
    · exact jAll_code wd4 z h
  · obtain ⟨hP1, hK1, hD1⟩ := hB
    rw [ht] at hP1
    obtain ⟨hP2, hD2⟩ := va_join hP hD isC isR hC hR hn hdis hk1 hFc hP1 hD1
    exact kk r u hw H1 locs1 ls hP2 hD2 hS1 hl
theorem jw_V_L {post : Int64 → S → Prop} (C : JC G X rm cc own nL) (ct : CL G y bytes maxL (jrm f loc 0 0) (.ref b :: As) w post w1 0 0) (wd : jWd y Cn bytes maxL (some .long) np) (link : Cond.methodLink own idx y ∈ jAll) (q0 : Nat) (hq : w[q0]? = some (b, .inr (ci, fs))) (hci : vwCl[ci]? = some (Cn, T, N))
    (hAs : As.length = np) (hst : st0 = As.reverse ++ .ref b :: rest) (hrest : (rest.map fun v => v.category).sum ≤ 8) (hrm : f + 1 ≤ rm.frames ∧ 8 + (maxL + 11) + loc ≤ rm.locals) (hk : k ≤ rm.cells ∧ n ≤ rm.slots) (d : decode cc pc = .ok (.invokevirtual idx, 3)) (hL : L.length = nL)
    (kk : ∀ (r : Int64) (u : S), post r u → JW G X k n (w1 u) (pc + 3) L (.long r :: rest)) : JW G X k n w pc L st0 :=
  jw_sV_L (wr := []) C ct wd link q0 hq hci (List.range w.length) [] (j_rng w) rfl (j_nd_rng _) rfl (fun _ h => by cases h) hAs hst hrest hrm hk d hL kk
theorem jw_sS_L {post : Int64 → S → Prop} (C : JC G X rm cc own nL) (ct : CL G y bytes maxL (jrm f loc 0 0) As w0 post w1 0 0) (wd : jWs y bytes maxL (some .long) np) (link : Cond.methodLink own idx y ∈ jAll)
    (isC isR : List Nat) (hC : isC.map (fun i => w[i]?) = w0.map some) (hR : isR.map (fun i => w[i]?) = wr.map some) (hnC : va_nd isC = true) (hn : va_nd isR = true) (hdis : ∀ i ∈ isR, i ∉ isC)
    (hAs : As.length = np) (hst : st0 = As.reverse ++ rest) (hrest : (rest.map fun v => v.category).sum ≤ 8) (hrm : f + 1 ≤ rm.frames ∧ 8 + (maxL + 11) + loc ≤ rm.locals) (hk : k ≤ rm.cells ∧ n ≤ rm.slots) (d : decode cc pc = .ok (.invokestatic idx, 3)) (hL : L.length = nL)
    (kk : ∀ (r : Int64) (u : S), post r u → JW G X k n (wr ++ w1 u) (pc + 3) L (.long r :: rest)) : JW G X k n w pc L st0 := by
  obtain ⟨p, l, e, R, s, m, args, below, meth, c, Q, A⟩ := X
  obtain ⟨hx, hb, hml, hown, hts, hnw, hK, hlk, hA, hR⟩ := C
  subst hR
  intro H locs ls hP hD hS hl
  obtain ⟨wd1, wd2, wd3, wd5⟩ := wd
  have hPc := hP.sub isC (j_part hC)
  have hDc := j_nd hD hC hnC
  have hFc := va_free hD hS hA isC hC
  refine va_calll (va_runS (As := As) (rest := rest) ⟨hx, hb, hml, hown, hts⟩ (ct.2.2 l H.size) (va_cwS np hts (jAll_in (fun z hz => ?_)) rfl rfl rfl wd5 hrm) ⟨jPre_blind, fun U hU hW => ⟨rfl, by rw [hU], by rw [hU]; exact hPc, va_K.moved hW.alike hK, fun z hz => jNest_warm hz hW (hnw z hz), hDc⟩⟩ rfl hAs (hl.1.trans hL) hst (lv_room hrest) d hk) hS (fun q _ h => hFc q h) hFc (fun r u t H1 locs1 ht hvm hw hB hz1 hk1 hS1 => ?_)
  · rcases List.mem_append.mp hz with h | h
    · simp only [List.mem_cons, List.not_mem_nil, or_false] at h
      rcases h with rfl | rfl | rfl
      · exact link
      · exact wd1
      · exact wd2
    · exact jAll_code wd3 z h
  · obtain ⟨hP1, hK1, hD1⟩ := hB
    rw [ht] at hP1
    obtain ⟨hP2, hD2⟩ := va_join hP hD isC isR hC hR hn hdis hk1 hFc hP1 hD1
    exact kk r u hw H1 locs1 ls hP2 hD2 hS1 hl
theorem jw_S0_L {post : Int64 → S → Prop} (C : JC G X rm cc own nL) (ct : CL G y bytes maxL (jrm f loc 0 0) As [] post (fun _ : S => []) 0 0) (wd : jWs y bytes maxL (some .long) np) (link : Cond.methodLink own idx y ∈ jAll)
    (hAs : As.length = np) (hst : st0 = As.reverse ++ rest) (hrest : (rest.map fun v => v.category).sum ≤ 8) (hrm : f + 1 ≤ rm.frames ∧ 8 + (maxL + 11) + loc ≤ rm.locals) (hk : k ≤ rm.cells ∧ n ≤ rm.slots) (d : decode cc pc = .ok (.invokestatic idx, 3)) (hL : L.length = nL)
    (kk : ∀ (r : Int64) (u : S), post r u → JW G X k n w (pc + 3) L (.long r :: rest)) : JW G X k n w pc L st0 :=
  jw_sS_L (wr := w) C ct wd link [] (List.range w.length) rfl (j_rng w) rfl (j_nd_rng _) (fun _ _ h => by cases h) hAs hst hrest hrm hk d hL (by simpa only [List.append_nil] using kk)
theorem jw_sSN_L {post : Int64 → S → Prop} {host : String} (C : JC G X rm cc own nL) (ct : CL G y bytes maxL (jrm f loc 0 0) As w0 post w1 0 0) (wd : jWs y bytes maxL (some .long) np) (link : Cond.methodLinkNest own idx y host ∈ jNest)
    (isC isR : List Nat) (hC : isC.map (fun i => w[i]?) = w0.map some) (hR : isR.map (fun i => w[i]?) = wr.map some) (hnC : va_nd isC = true) (hn : va_nd isR = true) (hdis : ∀ i ∈ isR, i ∉ isC)
    (hAs : As.length = np) (hst : st0 = As.reverse ++ rest) (hrest : (rest.map fun v => v.category).sum ≤ 8) (hrm : f + 1 ≤ rm.frames ∧ 8 + (maxL + 11) + loc ≤ rm.locals) (hk : k ≤ rm.cells ∧ n ≤ rm.slots) (d : decode cc pc = .ok (.invokestatic idx, 3)) (hL : L.length = nL)
    (kk : ∀ (r : Int64) (u : S), post r u → JW G X k n (wr ++ w1 u) (pc + 3) L (.long r :: rest)) : JW G X k n w pc L st0 := by
  obtain ⟨p, l, e, R, s, m, args, below, meth, c, Q, A⟩ := X
  obtain ⟨hx, hb, hml, hown, hts, hnw, hK, hlk, hA, hR⟩ := C
  subst hR
  intro H locs ls hP hD hS hl
  obtain ⟨wd1, wd2, wd3, wd5⟩ := wd
  have hPc := hP.sub isC (j_part hC)
  have hDc := j_nd hD hC hnC
  have hFc := va_free hD hS hA isC hC
  refine va_calll (va_runSN (As := As) (rest := rest) ⟨hx, hb, hml, hown, hts⟩ (ct.2.2 l H.size) ⟨va_cnB np hts (jAll_in (jAll_code wd3)) rfl rfl rfl (hnw _ link) (hts _ wd2) wd5 hrm, hts _ wd1, trivial⟩ ⟨jPre_blind, fun U hU hW => ⟨rfl, by rw [hU], by rw [hU]; exact hPc, va_K.moved hW.alike hK, fun z hz => jNest_warm hz hW (hnw z hz), hDc⟩⟩ rfl hAs (hl.1.trans hL) hst (lv_room hrest) d hk) hS (fun q _ h => hFc q h) hFc (fun r u t H1 locs1 ht hvm hw hB hz1 hk1 hS1 => ?_)
  · obtain ⟨hP1, hK1, hD1⟩ := hB
    rw [ht] at hP1
    obtain ⟨hP2, hD2⟩ := va_join hP hD isC isR hC hR hn hdis hk1 hFc hP1 hD1
    exact kk r u hw H1 locs1 ls hP2 hD2 hS1 hl
theorem jw_SN0_L {post : Int64 → S → Prop} {host : String} (C : JC G X rm cc own nL) (ct : CL G y bytes maxL (jrm f loc 0 0) As [] post (fun _ : S => []) 0 0) (wd : jWs y bytes maxL (some .long) np) (link : Cond.methodLinkNest own idx y host ∈ jNest)
    (hAs : As.length = np) (hst : st0 = As.reverse ++ rest) (hrest : (rest.map fun v => v.category).sum ≤ 8) (hrm : f + 1 ≤ rm.frames ∧ 8 + (maxL + 11) + loc ≤ rm.locals) (hk : k ≤ rm.cells ∧ n ≤ rm.slots) (d : decode cc pc = .ok (.invokestatic idx, 3)) (hL : L.length = nL)
    (kk : ∀ (r : Int64) (u : S), post r u → JW G X k n w (pc + 3) L (.long r :: rest)) : JW G X k n w pc L st0 :=
  jw_sSN_L (wr := w) C ct wd link [] (List.range w.length) rfl (j_rng w) rfl (j_nd_rng _) (fun _ _ h => by cases h) hAs hst hrest hrm hk d hL (by simpa only [List.append_nil] using kk)
theorem jw_sV_D {post : UInt64 → S → Prop} (C : JC G X rm cc own nL) (ct : CD G y bytes maxL (jrm f loc 0 0) (.ref b :: As) w0 post w1 0 0) (wd : jWd y Cn bytes maxL (some .double) np) (link : Cond.methodLink own idx y ∈ jAll) (q0 : Nat) (hq : w[q0]? = some (b, .inr (ci, fs))) (hci : vwCl[ci]? = some (Cn, T, N))
    (isC isR : List Nat) (hC : isC.map (fun i => w[i]?) = w0.map some) (hR : isR.map (fun i => w[i]?) = wr.map some) (hnC : va_nd isC = true) (hn : va_nd isR = true) (hdis : ∀ i ∈ isR, i ∉ isC)
    (hAs : As.length = np) (hst : st0 = As.reverse ++ .ref b :: rest) (hrest : (rest.map fun v => v.category).sum ≤ 8) (hrm : f + 1 ≤ rm.frames ∧ 8 + (maxL + 11) + loc ≤ rm.locals) (hk : k ≤ rm.cells ∧ n ≤ rm.slots) (d : decode cc pc = .ok (.invokevirtual idx, 3)) (hL : L.length = nL)
    (kk : ∀ (r : UInt64) (u : S), post r u → JW G X k n (wr ++ w1 u) (pc + 3) L (.double r :: rest)) : JW G X k n w pc L st0 := by
  obtain ⟨p, l, e, R, s, m, args, below, meth, c, Q, A⟩ := X
  obtain ⟨hx, hb, hml, hown, hts, hnw, hK, hlk, hA, hR⟩ := C
  subst hR
  intro H locs ls hP hD hS hl
  obtain ⟨wd1, wd2, wd3, wd4, wd5⟩ := wd
  have hPc := hP.sub isC (j_part hC)
  have hDc := j_nd hD hC hnC
  have hFc := va_free hD hS hA isC hC
  refine va_calld (va_runV (As := As) (rest := rest) ⟨hx, hb, hml, hown, hts⟩ (ct.2.2 l H.size) (cwV np hts (jAll_in (fun z hz => ?_)) rfl rfl rfl wd5 hrm) ⟨jPre_blind, va_recv hK hP hci hq, fun U hU hW => ⟨rfl, by rw [hU], by rw [hU]; exact hPc, va_K.moved hW.alike hK, fun z hz => jNest_warm hz hW (hnw z hz), hDc⟩⟩ rfl hAs (hl.1.trans hL) hst (lv_room hrest) d hk) hS (fun q _ h => hFc q h) hFc (fun r u t H1 locs1 ht hvm hw hB hz1 hk1 hS1 => ?_)
  · rcases List.mem_append.mp hz with h | h
    · simp only [List.mem_cons, List.not_mem_nil, or_false] at h
      rcases h with rfl | rfl | rfl | rfl
      · exact link
      · exact wd1
      · exact wd2
      · exact wd3
    · exact jAll_code wd4 z h
  · obtain ⟨hP1, hK1, hD1⟩ := hB
    rw [ht] at hP1
    obtain ⟨hP2, hD2⟩ := va_join hP hD isC isR hC hR hn hdis hk1 hFc hP1 hD1
    exact kk r u hw H1 locs1 ls hP2 hD2 hS1 hl
theorem jw_V_D {post : UInt64 → S → Prop} (C : JC G X rm cc own nL) (ct : CD G y bytes maxL (jrm f loc 0 0) (.ref b :: As) w post w1 0 0) (wd : jWd y Cn bytes maxL (some .double) np) (link : Cond.methodLink own idx y ∈ jAll) (q0 : Nat) (hq : w[q0]? = some (b, .inr (ci, fs))) (hci : vwCl[ci]? = some (Cn, T, N))
    (hAs : As.length = np) (hst : st0 = As.reverse ++ .ref b :: rest) (hrest : (rest.map fun v => v.category).sum ≤ 8) (hrm : f + 1 ≤ rm.frames ∧ 8 + (maxL + 11) + loc ≤ rm.locals) (hk : k ≤ rm.cells ∧ n ≤ rm.slots) (d : decode cc pc = .ok (.invokevirtual idx, 3)) (hL : L.length = nL)
    (kk : ∀ (r : UInt64) (u : S), post r u → JW G X k n (w1 u) (pc + 3) L (.double r :: rest)) : JW G X k n w pc L st0 :=
  jw_sV_D (wr := []) C ct wd link q0 hq hci (List.range w.length) [] (j_rng w) rfl (j_nd_rng _) rfl (fun _ h => by cases h) hAs hst hrest hrm hk d hL kk
theorem jw_sS_D {post : UInt64 → S → Prop} (C : JC G X rm cc own nL) (ct : CD G y bytes maxL (jrm f loc 0 0) As w0 post w1 0 0) (wd : jWs y bytes maxL (some .double) np) (link : Cond.methodLink own idx y ∈ jAll)
    (isC isR : List Nat) (hC : isC.map (fun i => w[i]?) = w0.map some) (hR : isR.map (fun i => w[i]?) = wr.map some) (hnC : va_nd isC = true) (hn : va_nd isR = true) (hdis : ∀ i ∈ isR, i ∉ isC)
    (hAs : As.length = np) (hst : st0 = As.reverse ++ rest) (hrest : (rest.map fun v => v.category).sum ≤ 8) (hrm : f + 1 ≤ rm.frames ∧ 8 + (maxL + 11) + loc ≤ rm.locals) (hk : k ≤ rm.cells ∧ n ≤ rm.slots) (d : decode cc pc = .ok (.invokestatic idx, 3)) (hL : L.length = nL)
    (kk : ∀ (r : UInt64) (u : S), post r u → JW G X k n (wr ++ w1 u) (pc + 3) L (.double r :: rest)) : JW G X k n w pc L st0 := by
  obtain ⟨p, l, e, R, s, m, args, below, meth, c, Q, A⟩ := X
  obtain ⟨hx, hb, hml, hown, hts, hnw, hK, hlk, hA, hR⟩ := C
  subst hR
  intro H locs ls hP hD hS hl
  obtain ⟨wd1, wd2, wd3, wd5⟩ := wd
  have hPc := hP.sub isC (j_part hC)
  have hDc := j_nd hD hC hnC
  have hFc := va_free hD hS hA isC hC
  refine va_calld (va_runS (As := As) (rest := rest) ⟨hx, hb, hml, hown, hts⟩ (ct.2.2 l H.size) (va_cwS np hts (jAll_in (fun z hz => ?_)) rfl rfl rfl wd5 hrm) ⟨jPre_blind, fun U hU hW => ⟨rfl, by rw [hU], by rw [hU]; exact hPc, va_K.moved hW.alike hK, fun z hz => jNest_warm hz hW (hnw z hz), hDc⟩⟩ rfl hAs (hl.1.trans hL) hst (lv_room hrest) d hk) hS (fun q _ h => hFc q h) hFc (fun r u t H1 locs1 ht hvm hw hB hz1 hk1 hS1 => ?_)
  · rcases List.mem_append.mp hz with h | h
    · simp only [List.mem_cons, List.not_mem_nil, or_false] at h
      rcases h with rfl | rfl | rfl
      · exact link
      · exact wd1
      · exact wd2
    · exact jAll_code wd3 z h
  · obtain ⟨hP1, hK1, hD1⟩ := hB
    rw [ht] at hP1
    obtain ⟨hP2, hD2⟩ := va_join hP hD isC isR hC hR hn hdis hk1 hFc hP1 hD1
    exact kk r u hw H1 locs1 ls hP2 hD2 hS1 hl
theorem jw_S0_D {post : UInt64 → S → Prop} (C : JC G X rm cc own nL) (ct : CD G y bytes maxL (jrm f loc 0 0) As [] post (fun _ : S => []) 0 0) (wd : jWs y bytes maxL (some .double) np) (link : Cond.methodLink own idx y ∈ jAll)
    (hAs : As.length = np) (hst : st0 = As.reverse ++ rest) (hrest : (rest.map fun v => v.category).sum ≤ 8) (hrm : f + 1 ≤ rm.frames ∧ 8 + (maxL + 11) + loc ≤ rm.locals) (hk : k ≤ rm.cells ∧ n ≤ rm.slots) (d : decode cc pc = .ok (.invokestatic idx, 3)) (hL : L.length = nL)
    (kk : ∀ (r : UInt64) (u : S), post r u → JW G X k n w (pc + 3) L (.double r :: rest)) : JW G X k n w pc L st0 :=
  jw_sS_D (wr := w) C ct wd link [] (List.range w.length) rfl (j_rng w) rfl (j_nd_rng _) (fun _ _ h => by cases h) hAs hst hrest hrm hk d hL (by simpa only [List.append_nil] using kk)
theorem jw_sSN_D {post : UInt64 → S → Prop} {host : String} (C : JC G X rm cc own nL) (ct : CD G y bytes maxL (jrm f loc 0 0) As w0 post w1 0 0) (wd : jWs y bytes maxL (some .double) np) (link : Cond.methodLinkNest own idx y host ∈ jNest)
    (isC isR : List Nat) (hC : isC.map (fun i => w[i]?) = w0.map some) (hR : isR.map (fun i => w[i]?) = wr.map some) (hnC : va_nd isC = true) (hn : va_nd isR = true) (hdis : ∀ i ∈ isR, i ∉ isC)
    (hAs : As.length = np) (hst : st0 = As.reverse ++ rest) (hrest : (rest.map fun v => v.category).sum ≤ 8) (hrm : f + 1 ≤ rm.frames ∧ 8 + (maxL + 11) + loc ≤ rm.locals) (hk : k ≤ rm.cells ∧ n ≤ rm.slots) (d : decode cc pc = .ok (.invokestatic idx, 3)) (hL : L.length = nL)
    (kk : ∀ (r : UInt64) (u : S), post r u → JW G X k n (wr ++ w1 u) (pc + 3) L (.double r :: rest)) : JW G X k n w pc L st0 := by
  obtain ⟨p, l, e, R, s, m, args, below, meth, c, Q, A⟩ := X
  obtain ⟨hx, hb, hml, hown, hts, hnw, hK, hlk, hA, hR⟩ := C
  subst hR
  intro H locs ls hP hD hS hl
  obtain ⟨wd1, wd2, wd3, wd5⟩ := wd
  have hPc := hP.sub isC (j_part hC)
  have hDc := j_nd hD hC hnC
  have hFc := va_free hD hS hA isC hC
  refine va_calld (va_runSN (As := As) (rest := rest) ⟨hx, hb, hml, hown, hts⟩ (ct.2.2 l H.size) ⟨va_cnB np hts (jAll_in (jAll_code wd3)) rfl rfl rfl (hnw _ link) (hts _ wd2) wd5 hrm, hts _ wd1, trivial⟩ ⟨jPre_blind, fun U hU hW => ⟨rfl, by rw [hU], by rw [hU]; exact hPc, va_K.moved hW.alike hK, fun z hz => jNest_warm hz hW (hnw z hz), hDc⟩⟩ rfl hAs (hl.1.trans hL) hst (lv_room hrest) d hk) hS (fun q _ h => hFc q h) hFc (fun r u t H1 locs1 ht hvm hw hB hz1 hk1 hS1 => ?_)
  · obtain ⟨hP1, hK1, hD1⟩ := hB
    rw [ht] at hP1
    obtain ⟨hP2, hD2⟩ := va_join hP hD isC isR hC hR hn hdis hk1 hFc hP1 hD1
    exact kk r u hw H1 locs1 ls hP2 hD2 hS1 hl
theorem jw_SN0_D {post : UInt64 → S → Prop} {host : String} (C : JC G X rm cc own nL) (ct : CD G y bytes maxL (jrm f loc 0 0) As [] post (fun _ : S => []) 0 0) (wd : jWs y bytes maxL (some .double) np) (link : Cond.methodLinkNest own idx y host ∈ jNest)
    (hAs : As.length = np) (hst : st0 = As.reverse ++ rest) (hrest : (rest.map fun v => v.category).sum ≤ 8) (hrm : f + 1 ≤ rm.frames ∧ 8 + (maxL + 11) + loc ≤ rm.locals) (hk : k ≤ rm.cells ∧ n ≤ rm.slots) (d : decode cc pc = .ok (.invokestatic idx, 3)) (hL : L.length = nL)
    (kk : ∀ (r : UInt64) (u : S), post r u → JW G X k n w (pc + 3) L (.double r :: rest)) : JW G X k n w pc L st0 :=
  jw_sSN_D (wr := w) C ct wd link [] (List.range w.length) rfl (j_rng w) rfl (j_nd_rng _) (fun _ _ h => by cases h) hAs hst hrest hrm hk d hL (by simpa only [List.append_nil] using kk)
theorem jw_sV_Z {post : Bool → S → Prop} (C : JC G X rm cc own nL) (ct : CZ G y bytes maxL (jrm f loc 0 0) (.ref b :: As) w0 post w1 0 0) (wd : jWd y Cn bytes maxL (some .boolean) np) (link : Cond.methodLink own idx y ∈ jAll) (q0 : Nat) (hq : w[q0]? = some (b, .inr (ci, fs))) (hci : vwCl[ci]? = some (Cn, T, N))
    (isC isR : List Nat) (hC : isC.map (fun i => w[i]?) = w0.map some) (hR : isR.map (fun i => w[i]?) = wr.map some) (hnC : va_nd isC = true) (hn : va_nd isR = true) (hdis : ∀ i ∈ isR, i ∉ isC)
    (hAs : As.length = np) (hst : st0 = As.reverse ++ .ref b :: rest) (hrest : (rest.map fun v => v.category).sum ≤ 8) (hrm : f + 1 ≤ rm.frames ∧ 8 + (maxL + 11) + loc ≤ rm.locals) (hk : k ≤ rm.cells ∧ n ≤ rm.slots) (d : decode cc pc = .ok (.invokevirtual idx, 3)) (hL : L.length = nL)
    (kk : ∀ (r : Bool) (u : S), post r u → JW G X k n (wr ++ w1 u) (pc + 3) L (.int (jb r) :: rest)) : JW G X k n w pc L st0 := by
  obtain ⟨p, l, e, R, s, m, args, below, meth, c, Q, A⟩ := X
  obtain ⟨hx, hb, hml, hown, hts, hnw, hK, hlk, hA, hR⟩ := C
  subst hR
  intro H locs ls hP hD hS hl
  obtain ⟨wd1, wd2, wd3, wd4, wd5⟩ := wd
  have hPc := hP.sub isC (j_part hC)
  have hDc := j_nd hD hC hnC
  have hFc := va_free hD hS hA isC hC
  refine va_calli (va_runV (As := As) (rest := rest) ⟨hx, hb, hml, hown, hts⟩ (ct.2.2 l H.size) (cwV np hts (jAll_in (fun z hz => ?_)) rfl rfl rfl wd5 hrm) ⟨jPre_blind, va_recv hK hP hci hq, fun U hU hW => ⟨rfl, by rw [hU], by rw [hU]; exact hPc, va_K.moved hW.alike hK, fun z hz => jNest_warm hz hW (hnw z hz), hDc⟩⟩ rfl hAs (hl.1.trans hL) hst (lv_room hrest) d hk) hS (fun q _ h => hFc q h) hFc (fun r u t H1 locs1 ht hvm hw hB hz1 hk1 hS1 => ?_)
  · rcases List.mem_append.mp hz with h | h
    · simp only [List.mem_cons, List.not_mem_nil, or_false] at h
      rcases h with rfl | rfl | rfl | rfl
      · exact link
      · exact wd1
      · exact wd2
      · exact wd3
    · exact jAll_code wd4 z h
  · obtain ⟨hP1, hK1, hD1⟩ := hB
    rw [ht] at hP1
    obtain ⟨z, rfl, hw⟩ := hw
    obtain ⟨hP2, hD2⟩ := va_join hP hD isC isR hC hR hn hdis hk1 hFc hP1 hD1
    exact kk z u hw H1 locs1 ls hP2 hD2 hS1 hl
theorem jw_V_Z {post : Bool → S → Prop} (C : JC G X rm cc own nL) (ct : CZ G y bytes maxL (jrm f loc 0 0) (.ref b :: As) w post w1 0 0) (wd : jWd y Cn bytes maxL (some .boolean) np) (link : Cond.methodLink own idx y ∈ jAll) (q0 : Nat) (hq : w[q0]? = some (b, .inr (ci, fs))) (hci : vwCl[ci]? = some (Cn, T, N))
    (hAs : As.length = np) (hst : st0 = As.reverse ++ .ref b :: rest) (hrest : (rest.map fun v => v.category).sum ≤ 8) (hrm : f + 1 ≤ rm.frames ∧ 8 + (maxL + 11) + loc ≤ rm.locals) (hk : k ≤ rm.cells ∧ n ≤ rm.slots) (d : decode cc pc = .ok (.invokevirtual idx, 3)) (hL : L.length = nL)
    (kk : ∀ (r : Bool) (u : S), post r u → JW G X k n (w1 u) (pc + 3) L (.int (jb r) :: rest)) : JW G X k n w pc L st0 :=
  jw_sV_Z (wr := []) C ct wd link q0 hq hci (List.range w.length) [] (j_rng w) rfl (j_nd_rng _) rfl (fun _ h => by cases h) hAs hst hrest hrm hk d hL kk
theorem jw_sS_Z {post : Bool → S → Prop} (C : JC G X rm cc own nL) (ct : CZ G y bytes maxL (jrm f loc 0 0) As w0 post w1 0 0) (wd : jWs y bytes maxL (some .boolean) np) (link : Cond.methodLink own idx y ∈ jAll)
    (isC isR : List Nat) (hC : isC.map (fun i => w[i]?) = w0.map some) (hR : isR.map (fun i => w[i]?) = wr.map some) (hnC : va_nd isC = true) (hn : va_nd isR = true) (hdis : ∀ i ∈ isR, i ∉ isC)
    (hAs : As.length = np) (hst : st0 = As.reverse ++ rest) (hrest : (rest.map fun v => v.category).sum ≤ 8) (hrm : f + 1 ≤ rm.frames ∧ 8 + (maxL + 11) + loc ≤ rm.locals) (hk : k ≤ rm.cells ∧ n ≤ rm.slots) (d : decode cc pc = .ok (.invokestatic idx, 3)) (hL : L.length = nL)
    (kk : ∀ (r : Bool) (u : S), post r u → JW G X k n (wr ++ w1 u) (pc + 3) L (.int (jb r) :: rest)) : JW G X k n w pc L st0 := by
  obtain ⟨p, l, e, R, s, m, args, below, meth, c, Q, A⟩ := X
  obtain ⟨hx, hb, hml, hown, hts, hnw, hK, hlk, hA, hR⟩ := C
  subst hR
  intro H locs ls hP hD hS hl
  obtain ⟨wd1, wd2, wd3, wd5⟩ := wd
  have hPc := hP.sub isC (j_part hC)
  have hDc := j_nd hD hC hnC
  have hFc := va_free hD hS hA isC hC
  refine va_calli (va_runS (As := As) (rest := rest) ⟨hx, hb, hml, hown, hts⟩ (ct.2.2 l H.size) (va_cwS np hts (jAll_in (fun z hz => ?_)) rfl rfl rfl wd5 hrm) ⟨jPre_blind, fun U hU hW => ⟨rfl, by rw [hU], by rw [hU]; exact hPc, va_K.moved hW.alike hK, fun z hz => jNest_warm hz hW (hnw z hz), hDc⟩⟩ rfl hAs (hl.1.trans hL) hst (lv_room hrest) d hk) hS (fun q _ h => hFc q h) hFc (fun r u t H1 locs1 ht hvm hw hB hz1 hk1 hS1 => ?_)
  · rcases List.mem_append.mp hz with h | h
    · simp only [List.mem_cons, List.not_mem_nil, or_false] at h
      rcases h with rfl | rfl | rfl
      · exact link
      · exact wd1
      · exact wd2
    · exact jAll_code wd3 z h
  · obtain ⟨hP1, hK1, hD1⟩ := hB
    rw [ht] at hP1
    obtain ⟨z, rfl, hw⟩ := hw
    obtain ⟨hP2, hD2⟩ := va_join hP hD isC isR hC hR hn hdis hk1 hFc hP1 hD1
    exact kk z u hw H1 locs1 ls hP2 hD2 hS1 hl
theorem jw_S0_Z {post : Bool → S → Prop} (C : JC G X rm cc own nL) (ct : CZ G y bytes maxL (jrm f loc 0 0) As [] post (fun _ : S => []) 0 0) (wd : jWs y bytes maxL (some .boolean) np) (link : Cond.methodLink own idx y ∈ jAll)
    (hAs : As.length = np) (hst : st0 = As.reverse ++ rest) (hrest : (rest.map fun v => v.category).sum ≤ 8) (hrm : f + 1 ≤ rm.frames ∧ 8 + (maxL + 11) + loc ≤ rm.locals) (hk : k ≤ rm.cells ∧ n ≤ rm.slots) (d : decode cc pc = .ok (.invokestatic idx, 3)) (hL : L.length = nL)
    (kk : ∀ (r : Bool) (u : S), post r u → JW G X k n w (pc + 3) L (.int (jb r) :: rest)) : JW G X k n w pc L st0 :=
  jw_sS_Z (wr := w) C ct wd link [] (List.range w.length) rfl (j_rng w) rfl (j_nd_rng _) (fun _ _ h => by cases h) hAs hst hrest hrm hk d hL (by simpa only [List.append_nil] using kk)
theorem jw_sSN_Z {post : Bool → S → Prop} {host : String} (C : JC G X rm cc own nL) (ct : CZ G y bytes maxL (jrm f loc 0 0) As w0 post w1 0 0) (wd : jWs y bytes maxL (some .boolean) np) (link : Cond.methodLinkNest own idx y host ∈ jNest)
    (isC isR : List Nat) (hC : isC.map (fun i => w[i]?) = w0.map some) (hR : isR.map (fun i => w[i]?) = wr.map some) (hnC : va_nd isC = true) (hn : va_nd isR = true) (hdis : ∀ i ∈ isR, i ∉ isC)
    (hAs : As.length = np) (hst : st0 = As.reverse ++ rest) (hrest : (rest.map fun v => v.category).sum ≤ 8) (hrm : f + 1 ≤ rm.frames ∧ 8 + (maxL + 11) + loc ≤ rm.locals) (hk : k ≤ rm.cells ∧ n ≤ rm.slots) (d : decode cc pc = .ok (.invokestatic idx, 3)) (hL : L.length = nL)
    (kk : ∀ (r : Bool) (u : S), post r u → JW G X k n (wr ++ w1 u) (pc + 3) L (.int (jb r) :: rest)) : JW G X k n w pc L st0 := by
  obtain ⟨p, l, e, R, s, m, args, below, meth, c, Q, A⟩ := X
  obtain ⟨hx, hb, hml, hown, hts, hnw, hK, hlk, hA, hR⟩ := C
  subst hR
  intro H locs ls hP hD hS hl
  obtain ⟨wd1, wd2, wd3, wd5⟩ := wd
  have hPc := hP.sub isC (j_part hC)
  have hDc := j_nd hD hC hnC
  have hFc := va_free hD hS hA isC hC
  refine va_calli (va_runSN (As := As) (rest := rest) ⟨hx, hb, hml, hown, hts⟩ (ct.2.2 l H.size) ⟨va_cnB np hts (jAll_in (jAll_code wd3)) rfl rfl rfl (hnw _ link) (hts _ wd2) wd5 hrm, hts _ wd1, trivial⟩ ⟨jPre_blind, fun U hU hW => ⟨rfl, by rw [hU], by rw [hU]; exact hPc, va_K.moved hW.alike hK, fun z hz => jNest_warm hz hW (hnw z hz), hDc⟩⟩ rfl hAs (hl.1.trans hL) hst (lv_room hrest) d hk) hS (fun q _ h => hFc q h) hFc (fun r u t H1 locs1 ht hvm hw hB hz1 hk1 hS1 => ?_)
  · obtain ⟨hP1, hK1, hD1⟩ := hB
    rw [ht] at hP1
    obtain ⟨z, rfl, hw⟩ := hw
    obtain ⟨hP2, hD2⟩ := va_join hP hD isC isR hC hR hn hdis hk1 hFc hP1 hD1
    exact kk z u hw H1 locs1 ls hP2 hD2 hS1 hl
theorem jw_SN0_Z {post : Bool → S → Prop} {host : String} (C : JC G X rm cc own nL) (ct : CZ G y bytes maxL (jrm f loc 0 0) As [] post (fun _ : S => []) 0 0) (wd : jWs y bytes maxL (some .boolean) np) (link : Cond.methodLinkNest own idx y host ∈ jNest)
    (hAs : As.length = np) (hst : st0 = As.reverse ++ rest) (hrest : (rest.map fun v => v.category).sum ≤ 8) (hrm : f + 1 ≤ rm.frames ∧ 8 + (maxL + 11) + loc ≤ rm.locals) (hk : k ≤ rm.cells ∧ n ≤ rm.slots) (d : decode cc pc = .ok (.invokestatic idx, 3)) (hL : L.length = nL)
    (kk : ∀ (r : Bool) (u : S), post r u → JW G X k n w (pc + 3) L (.int (jb r) :: rest)) : JW G X k n w pc L st0 :=
  jw_sSN_Z (wr := w) C ct wd link [] (List.range w.length) rfl (j_rng w) rfl (j_nd_rng _) (fun _ _ h => by cases h) hAs hst hrest hrm hk d hL (by simpa only [List.append_nil] using kk)
theorem jw_sI {post : S → Prop} {mc ms : Nat} (C : JC G X rm cc own nL) (ct : CV G y bytes maxL (jrm f loc mc ms) (.ref b :: As) w0 post w1 mc ms) (wd : jWi y bytes maxL np) (link : Cond.methodLink own idx y ∈ jAll)
    (isC isR : List Nat) (hC : isC.map (fun i => w[i]?) = w0.map some) (hR : isR.map (fun i => w[i]?) = wr.map some) (hnC : va_nd isC = true) (hn : va_nd isR = true) (hdis : ∀ i ∈ isR, i ∉ isC)
    (hAs : As.length = np) (hst : st0 = As.reverse ++ .ref b :: rest) (hrest : (rest.map fun v => v.category).sum ≤ 8) (hrm : f + 1 ≤ rm.frames ∧ 8 + (maxL + 11) + loc ≤ rm.locals) (hk : k + mc ≤ rm.cells ∧ n + ms ≤ rm.slots) (d : decode cc pc = .ok (.invokespecial idx, 3)) (hL : L.length = nL)
    (kk : ∀ (u : S), post u → JW G X (k + mc) (n + ms) (wr ++ w1 u) (pc + 3) L rest) : JW G X k n w pc L st0 := by
  obtain ⟨p, l, e, R, s, m, args, below, meth, c, Q, A⟩ := X
  obtain ⟨hx, hb, hml, hown, hts, hnw, hK, hlk, hA, hR⟩ := C
  subst hR
  intro H locs ls hP hD hS hl
  obtain ⟨wd1, wd2, wd3, wd4, wd5⟩ := wd
  have hPc := hP.sub isC (j_part hC)
  have hDc := j_nd hD hC hnC
  have hFc := va_free hD hS hA isC hC
  refine va_callv (va_runI (As := As) (rest := rest) ⟨hx, hb, hml, hown, hts⟩ (ct.2.2 l H.size) (cwI np hts (jAll_in (jAll_code wd3)) rfl rfl rfl (hts _ wd2) (hts _ link) (hts _ wd1) wd4 wd5 hrm) ⟨jPre_blind, fun U hU hW => ⟨rfl, by rw [hU], by rw [hU]; exact hPc, va_K.moved hW.alike hK, fun z hz => jNest_warm hz hW (hnw z hz), hDc⟩⟩ rfl hAs (hl.1.trans hL) hst (lv_room hrest) d hk) hS (fun q _ h => hFc q h) hFc (fun u t H1 locs1 ht hvm hw hB hz1 hk1 hS1 => ?_)
  obtain ⟨hP1, hK1, hD1⟩ := hB
  rw [ht] at hP1
  obtain ⟨hP2, hD2⟩ := va_join hP hD isC isR hC hR hn hdis hk1 hFc hP1 hD1
  exact kk u hw H1 locs1 ls hP2 hD2 hS1 hl
theorem jw_sIN {post : S → Prop} {mc ms : Nat} {host : String} (C : JC G X rm cc own nL) (ct : CV G y bytes maxL (jrm f loc mc ms) (.ref b :: As) w0 post w1 mc ms) (wd : jWi y bytes maxL np) (link : Cond.methodLinkNest own idx y host ∈ jNest)
    (isC isR : List Nat) (hC : isC.map (fun i => w[i]?) = w0.map some) (hR : isR.map (fun i => w[i]?) = wr.map some) (hnC : va_nd isC = true) (hn : va_nd isR = true) (hdis : ∀ i ∈ isR, i ∉ isC)
    (hAs : As.length = np) (hst : st0 = As.reverse ++ .ref b :: rest) (hrest : (rest.map fun v => v.category).sum ≤ 8) (hrm : f + 1 ≤ rm.frames ∧ 8 + (maxL + 11) + loc ≤ rm.locals) (hk : k + mc ≤ rm.cells ∧ n + ms ≤ rm.slots) (d : decode cc pc = .ok (.invokespecial idx, 3)) (hL : L.length = nL)
    (kk : ∀ (u : S), post u → JW G X (k + mc) (n + ms) (wr ++ w1 u) (pc + 3) L rest) : JW G X k n w pc L st0 := by
  obtain ⟨p, l, e, R, s, m, args, below, meth, c, Q, A⟩ := X
  obtain ⟨hx, hb, hml, hown, hts, hnw, hK, hlk, hA, hR⟩ := C
  subst hR
  intro H locs ls hP hD hS hl
  obtain ⟨wd1, wd2, wd3, wd4, wd5⟩ := wd
  have hPc := hP.sub isC (j_part hC)
  have hDc := j_nd hD hC hnC
  have hFc := va_free hD hS hA isC hC
  refine va_callv (va_runIN (As := As) (rest := rest) ⟨hx, hb, hml, hown, hts⟩ (ct.2.2 l H.size) ⟨va_cnB np hts (jAll_in (jAll_code wd3)) rfl rfl rfl (hnw _ link) (hts _ wd2) wd5 hrm, wd4, hts _ wd1⟩ ⟨jPre_blind, fun U hU hW => ⟨rfl, by rw [hU], by rw [hU]; exact hPc, va_K.moved hW.alike hK, fun z hz => jNest_warm hz hW (hnw z hz), hDc⟩⟩ rfl hAs (hl.1.trans hL) hst (lv_room hrest) d hk) hS (fun q _ h => hFc q h) hFc (fun u t H1 locs1 ht hvm hw hB hz1 hk1 hS1 => ?_)
  obtain ⟨hP1, hK1, hD1⟩ := hB
  rw [ht] at hP1
  obtain ⟨hP2, hD2⟩ := va_join hP hD isC isR hC hR hn hdis hk1 hFc hP1 hD1
  exact kk u hw H1 locs1 ls hP2 hD2 hS1 hl
end JCALL
end
section
/-! LINKS: what a call needs of a method; the field rows, by class and place in the constant pool (gen_links.py) -/
theorem wi_X0_init : jWi yX0_init cX0_init 2 1 := ⟨kim_X0_init, kini_X0, kco_X0_init, rfl, by decide +kernel⟩
theorem wd_X0_greatest : jWd yX0_greatest RX0 cX0_greatest 4 (some .int) 1 := ⟨kim_X0_greatest, kse_X0_greatest, kini_X0, kco_X0_greatest, by decide +kernel⟩
theorem wd_X0_copyAssignment : jWd yX0_copyAssignment RX0 cX0_copyAssignment 3 none 1 := ⟨kim_X0_copyAssignment, kse_X0_copyAssignment, kini_X0, kco_X0_copyAssignment, by decide +kernel⟩
theorem wd_X0_startOf : jWd yX0_startOf RX0 cX0_startOf 2 (some .int) 1 := ⟨kim_X0_startOf, kse_X0_startOf, kini_X0, kco_X0_startOf, by decide +kernel⟩
theorem wd_X0_augment : jWd yX0_augment RX0 cX0_augment 3 (some .boolean) 0 := ⟨kim_X0_augment, kse_X0_augment, kini_X0, kco_X0_augment, by decide +kernel⟩
theorem wd_X0_startAtGroups : jWd yX0_startAtGroups RX0 cX0_startAtGroups 2 none 0 := ⟨kim_X0_startAtGroups, kse_X0_startAtGroups, kini_X0, kco_X0_startAtGroups, by decide +kernel⟩
theorem wd_X0_reach : jWd yX0_reach RX0 cX0_reach 4 none 3 := ⟨kim_X0_reach, kse_X0_reach, kini_X0, kco_X0_reach, by decide +kernel⟩
theorem wd_X0_leave : jWd yX0_leave RX0 cX0_leave 4 (some .int) 1 := ⟨kim_X0_leave, kse_X0_leave, kini_X0, kco_X0_leave, by decide +kernel⟩
theorem wd_X0_leaveWith : jWd yX0_leaveWith RX0 cX0_leaveWith 4 (some .int) 2 := ⟨kim_X0_leaveWith, kse_X0_leaveWith, kini_X0, kco_X0_leaveWith, by decide +kernel⟩
theorem wd_X0_shiftAlong : jWd yX0_shiftAlong RX0 cX0_shiftAlong 4 none 1 := ⟨kim_X0_shiftAlong, kse_X0_shiftAlong, kini_X0, kco_X0_shiftAlong, by decide +kernel⟩
theorem wi_X1_init : jWi yX1_init cX1_init 1 0 := ⟨kim_X1_init, kini_X1, kco_X1_init, rfl, by decide +kernel⟩
theorem wd_X1_clear : jWd yX1_clear RX1 cX1_clear 1 none 0 := ⟨kim_X1_clear, kse_X1_clear, kini_X1, kco_X1_clear, by decide +kernel⟩
theorem wd_X1_add : jWd yX1_add RX1 cX1_add 3 none 2 := ⟨kim_X1_add, kse_X1_add, kini_X1, kco_X1_add, by decide +kernel⟩
theorem wi_X2_init : jWi yX2_init cX2_init 2 1 := ⟨kim_X2_init, kini_X2, kco_X2_init, rfl, by decide +kernel⟩
theorem wd_X2_search : jWd yX2_search RX2 cX2_search 2 (some .int) 1 := ⟨kim_X2_search, kse_X2_search, kini_X2, kco_X2_search, by decide +kernel⟩
theorem wd_X2_collectSuccessors : jWd yX2_collectSuccessors RX2 cX2_collectSuccessors 2 none 0 := ⟨kim_X2_collectSuccessors, kse_X2_collectSuccessors, kini_X2, kco_X2_collectSuccessors, by decide +kernel⟩
theorem wd_X2_buildLayers : jWd yX2_buildLayers RX2 cX2_buildLayers 3 none 0 := ⟨kim_X2_buildLayers, kse_X2_buildLayers, kini_X2, kco_X2_buildLayers, by decide +kernel⟩
theorem wd_X2_leadingTo : jWd yX2_leadingTo RX2 cX2_leadingTo 4 (some .int) 1 := ⟨kim_X2_leadingTo, kse_X2_leadingTo, kini_X2, kco_X2_leadingTo, by decide +kernel⟩
theorem wd_X2_shortestFrom : jWd yX2_shortestFrom RX2 cX2_shortestFrom 3 (some .int) 1 := ⟨kim_X2_shortestFrom, kse_X2_shortestFrom, kini_X2, kco_X2_shortestFrom, by decide +kernel⟩
theorem wd_X2_trace : jWd yX2_trace RX2 cX2_trace 6 (some .boolean) 1 := ⟨kim_X2_trace, kse_X2_trace, kini_X2, kco_X2_trace, by decide +kernel⟩
theorem wd_X2_firstMovable : jWd yX2_firstMovable RX2 cX2_firstMovable 4 (some .int) 2 := ⟨kim_X2_firstMovable, kse_X2_firstMovable, kini_X2, kco_X2_firstMovable, by decide +kernel⟩
theorem wi_X3_init : jWi yX3_init cX3_init 4 3 := ⟨kim_X3_init, kini_X3, kco_X3_init, rfl, by decide +kernel⟩
theorem wd_X3_runOnce : jWd yX3_runOnce RX3 cX3_runOnce 4 (some .int) 0 := ⟨kim_X3_runOnce, kse_X3_runOnce, kini_X3, kco_X3_runOnce, by decide +kernel⟩
theorem wd_X3_nextToTry : jWd yX3_nextToTry RX3 cX3_nextToTry 3 (some .int) 0 := ⟨kim_X3_nextToTry, kse_X3_nextToTry, kini_X3, kco_X3_nextToTry, by decide +kernel⟩
theorem wd_X3_isServedBefore : jWd yX3_isServedBefore RX3 cX3_isServedBefore 5 (some .boolean) 2 := ⟨kim_X3_isServedBefore, kse_X3_isServedBefore, kini_X3, kco_X3_isServedBefore, by decide +kernel⟩
theorem wd_X3_tryToPlace : jWd yX3_tryToPlace RX3 cX3_tryToPlace 3 (some .boolean) 1 := ⟨kim_X3_tryToPlace, kse_X3_tryToPlace, kini_X3, kco_X3_tryToPlace, by decide +kernel⟩
theorem wd_X3_placeAlongPath : jWd yX3_placeAlongPath RX3 cX3_placeAlongPath 5 none 1 := ⟨kim_X3_placeAlongPath, kse_X3_placeAlongPath, kini_X3, kco_X3_placeAlongPath, by decide +kernel⟩
theorem wi_X4_init : jWi yX4_init cX4_init 2 0 := ⟨kim_X4_init, kini_X4, kco_X4_init, rfl, by decide +kernel⟩
theorem wd_X4_maskOfAll : jWd yX4_maskOfAll RX4 cX4_maskOfAll 1 (some .int) 0 := ⟨kim_X4_maskOfAll, kse_X4_maskOfAll, kini_X4, kco_X4_maskOfAll, by decide +kernel⟩
theorem wd_X4_isWaiting : jWd yX4_isWaiting RX4 cX4_isWaiting 2 (some .boolean) 1 := ⟨kim_X4_isWaiting, kse_X4_isWaiting, kini_X4, kco_X4_isWaiting, by decide +kernel⟩
theorem wd_X4_isAssigned : jWd yX4_isAssigned RX4 cX4_isAssigned 2 (some .boolean) 1 := ⟨kim_X4_isAssigned, kse_X4_isAssigned, kini_X4, kco_X4_isAssigned, by decide +kernel⟩
theorem wd_X4_isDeparted : jWd yX4_isDeparted RX4 cX4_isDeparted 2 (some .boolean) 1 := ⟨kim_X4_isDeparted, kse_X4_isDeparted, kini_X4, kco_X4_isDeparted, by decide +kernel⟩
theorem wd_X4_stateNumber : jWd yX4_stateNumber RX4 cX4_stateNumber 2 (some .int) 1 := ⟨kim_X4_stateNumber, kse_X4_stateNumber, kini_X4, kco_X4_stateNumber, by decide +kernel⟩
theorem wd_X4_canBeMoved : jWd yX4_canBeMoved RX4 cX4_canBeMoved 2 (some .boolean) 1 := ⟨kim_X4_canBeMoved, kse_X4_canBeMoved, kini_X4, kco_X4_canBeMoved, by decide +kernel⟩
theorem wd_X4_resourceHasRoom : jWd yX4_resourceHasRoom RX4 cX4_resourceHasRoom 2 (some .boolean) 1 := ⟨kim_X4_resourceHasRoom, kse_X4_resourceHasRoom, kini_X4, kco_X4_resourceHasRoom, by decide +kernel⟩
theorem wd_X4_groupHasRoom : jWd yX4_groupHasRoom RX4 cX4_groupHasRoom 2 (some .boolean) 1 := ⟨kim_X4_groupHasRoom, kse_X4_groupHasRoom, kini_X4, kco_X4_groupHasRoom, by decide +kernel⟩
theorem wd_X4_countAssigned : jWd yX4_countAssigned RX4 cX4_countAssigned 3 (some .int) 0 := ⟨kim_X4_countAssigned, kse_X4_countAssigned, kini_X4, kco_X4_countAssigned, by decide +kernel⟩
theorem wd_X4_countWaiting : jWd yX4_countWaiting RX4 cX4_countWaiting 3 (some .int) 0 := ⟨kim_X4_countWaiting, kse_X4_countWaiting, kini_X4, kco_X4_countWaiting, by decide +kernel⟩
theorem wd_X4_openResource : jWd yX4_openResource RX4 cX4_openResource 3 (some .int) 1 := ⟨kim_X4_openResource, kse_X4_openResource, kini_X4, kco_X4_openResource, by decide +kernel⟩
theorem wd_X4_admit : jWd yX4_admit RX4 cX4_admit 4 (some .int) 2 := ⟨kim_X4_admit, kse_X4_admit, kini_X4, kco_X4_admit, by decide +kernel⟩
theorem wd_X4_dismiss : jWd yX4_dismiss RX4 cX4_dismiss 2 none 1 := ⟨kim_X4_dismiss, kse_X4_dismiss, kini_X4, kco_X4_dismiss, by decide +kernel⟩
theorem wd_X4_accept : jWd yX4_accept RX4 cX4_accept 3 none 2 := ⟨kim_X4_accept, kse_X4_accept, kini_X4, kco_X4_accept, by decide +kernel⟩
theorem wd_X4_assign : jWd yX4_assign RX4 cX4_assign 3 none 2 := ⟨kim_X4_assign, kse_X4_assign, kini_X4, kco_X4_assign, by decide +kernel⟩
theorem wd_X4_move : jWd yX4_move RX4 cX4_move 3 none 2 := ⟨kim_X4_move, kse_X4_move, kini_X4, kco_X4_move, by decide +kernel⟩
theorem wd_X4_putBack : jWd yX4_putBack RX4 cX4_putBack 2 none 1 := ⟨kim_X4_putBack, kse_X4_putBack, kini_X4, kco_X4_putBack, by decide +kernel⟩
theorem wd_X4_putBackBeyondCapacity : jWd yX4_putBackBeyondCapacity RX4 cX4_putBackBeyondCapacity 4 (some .int) 1 := ⟨kim_X4_putBackBeyondCapacity, kse_X4_putBackBeyondCapacity, kini_X4, kco_X4_putBackBeyondCapacity, by decide +kernel⟩
theorem wd_X4_putBackBeyondQuota : jWd yX4_putBackBeyondQuota RX4 cX4_putBackBeyondQuota 4 (some .int) 1 := ⟨kim_X4_putBackBeyondQuota, kse_X4_putBackBeyondQuota, kini_X4, kco_X4_putBackBeyondQuota, by decide +kernel⟩
theorem wi_X5_init : jWi yX5_init cX5_init 1 0 := ⟨kim_X5_init, kini_X5, kco_X5_init, rfl, by decide +kernel⟩
theorem wd_X5_addResource : jWd yX5_addResource RX5 cX5_addResource 3 (some .int) 1 := ⟨kim_X5_addResource, kse_X5_addResource, kini_X5, kco_X5_addResource, by decide +kernel⟩
theorem wd_X5_setCapacity : jWd yX5_setCapacity RX5 cX5_setCapacity 4 (some .int) 2 := ⟨kim_X5_setCapacity, kse_X5_setCapacity, kini_X5, kco_X5_setCapacity, by decide +kernel⟩
theorem wd_X5_setGroup : jWd yX5_setGroup RX5 cX5_setGroup 5 (some .int) 3 := ⟨kim_X5_setGroup, kse_X5_setGroup, kini_X5, kco_X5_setGroup, by decide +kernel⟩
theorem wd_X5_setLimits : jWd yX5_setLimits RX5 cX5_setLimits 3 (some .int) 2 := ⟨kim_X5_setLimits, kse_X5_setLimits, kini_X5, kco_X5_setLimits, by decide +kernel⟩
theorem wd_X5_arrive : jWd yX5_arrive RX5 cX5_arrive 4 (some .int) 2 := ⟨kim_X5_arrive, kse_X5_arrive, kini_X5, kco_X5_arrive, by decide +kernel⟩
theorem wd_X5_depart : jWd yX5_depart RX5 cX5_depart 2 (some .int) 1 := ⟨kim_X5_depart, kse_X5_depart, kini_X5, kco_X5_depart, by decide +kernel⟩
theorem wd_X5_setAccepts : jWd yX5_setAccepts RX5 cX5_setAccepts 3 (some .boolean) 2 := ⟨kim_X5_setAccepts, kse_X5_setAccepts, kini_X5, kco_X5_setAccepts, by decide +kernel⟩
theorem wd_X5_resourceCount : jWd yX5_resourceCount RX5 cX5_resourceCount 1 (some .int) 0 := ⟨kim_X5_resourceCount, kse_X5_resourceCount, kini_X5, kco_X5_resourceCount, by decide +kernel⟩
theorem wd_X5_arrivedCount : jWd yX5_arrivedCount RX5 cX5_arrivedCount 1 (some .int) 0 := ⟨kim_X5_arrivedCount, kse_X5_arrivedCount, kini_X5, kco_X5_arrivedCount, by decide +kernel⟩
theorem wd_X5_assignedCount : jWd yX5_assignedCount RX5 cX5_assignedCount 1 (some .int) 0 := ⟨kim_X5_assignedCount, kse_X5_assignedCount, kini_X5, kco_X5_assignedCount, by decide +kernel⟩
theorem wd_X5_waitingCount : jWd yX5_waitingCount RX5 cX5_waitingCount 1 (some .int) 0 := ⟨kim_X5_waitingCount, kse_X5_waitingCount, kini_X5, kco_X5_waitingCount, by decide +kernel⟩
theorem wd_X5_assignedOf : jWd yX5_assignedOf RX5 cX5_assignedOf 2 (some .int) 1 := ⟨kim_X5_assignedOf, kse_X5_assignedOf, kini_X5, kco_X5_assignedOf, by decide +kernel⟩
theorem wd_X5_load : jWd yX5_load RX5 cX5_load 2 (some .int) 1 := ⟨kim_X5_load, kse_X5_load, kini_X5, kco_X5_load, by decide +kernel⟩
theorem wd_X5_state : jWd yX5_state RX5 cX5_state 2 (some .int) 1 := ⟨kim_X5_state, kse_X5_state, kini_X5, kco_X5_state, by decide +kernel⟩
theorem wd_X5_resourceOf : jWd yX5_resourceOf RX5 cX5_resourceOf 2 (some .int) 1 := ⟨kim_X5_resourceOf, kse_X5_resourceOf, kini_X5, kco_X5_resourceOf, by decide +kernel⟩
theorem wd_X5_movesOf : jWd yX5_movesOf RX5 cX5_movesOf 2 (some .int) 1 := ⟨kim_X5_movesOf, kse_X5_movesOf, kini_X5, kco_X5_movesOf, by decide +kernel⟩
theorem wd_X5_moveCount : jWd yX5_moveCount RX5 cX5_moveCount 1 (some .int) 0 := ⟨kim_X5_moveCount, kse_X5_moveCount, kini_X5, kco_X5_moveCount, by decide +kernel⟩
theorem wd_X5_movedRequest : jWd yX5_movedRequest RX5 cX5_movedRequest 2 (some .int) 1 := ⟨kim_X5_movedRequest, kse_X5_movedRequest, kini_X5, kco_X5_movedRequest, by decide +kernel⟩
theorem wd_X5_movedTo : jWd yX5_movedTo RX5 cX5_movedTo 2 (some .int) 1 := ⟨kim_X5_movedTo, kse_X5_movedTo, kini_X5, kco_X5_movedTo, by decide +kernel⟩
theorem wd_X5_movesNeeded : jWd yX5_movesNeeded RX5 cX5_movesNeeded 2 (some .int) 1 := ⟨kim_X5_movesNeeded, kse_X5_movesNeeded, kini_X5, kco_X5_movesNeeded, by decide +kernel⟩
theorem wd_X5_greatestPossible : jWd yX5_greatestPossible RX5 cX5_greatestPossible 1 (some .int) 0 := ⟨kim_X5_greatestPossible, kse_X5_greatestPossible, kini_X5, kco_X5_greatestPossible, by decide +kernel⟩
theorem wd_X5_gainBy : jWd yX5_gainBy RX5 cX5_gainBy 2 (some .int) 1 := ⟨kim_X5_gainBy, kse_X5_gainBy, kini_X5, kco_X5_gainBy, by decide +kernel⟩
theorem wd_X5_fairness : jWd yX5_fairness RX5 cX5_fairness 8 (some .double) 0 := ⟨kim_X5_fairness, kse_X5_fairness, kini_X5, kco_X5_fairness, by decide +kernel⟩
theorem wd_X5_digest : jWd yX5_digest RX5 cX5_digest 4 (some .long) 0 := ⟨kim_X5_digest, kse_X5_digest, kini_X5, kco_X5_digest, by decide +kernel⟩
theorem wd_X5_requireResource : jWd yX5_requireResource RX5 cX5_requireResource 2 none 1 := ⟨kim_X5_requireResource, kse_X5_requireResource, kini_X5, kco_X5_requireResource, by decide +kernel⟩
theorem wd_X5_requireGroup : jWd yX5_requireGroup RX5 cX5_requireGroup 2 none 1 := ⟨kim_X5_requireGroup, kse_X5_requireGroup, kini_X5, kco_X5_requireGroup, by decide +kernel⟩
theorem wd_X5_requireRequest : jWd yX5_requireRequest RX5 cX5_requireRequest 2 none 1 := ⟨kim_X5_requireRequest, kse_X5_requireRequest, kini_X5, kco_X5_requireRequest, by decide +kernel⟩
theorem wd_X5_requirePresent : jWd yX5_requirePresent RX5 cX5_requirePresent 2 none 1 := ⟨kim_X5_requirePresent, kse_X5_requirePresent, kini_X5, kco_X5_requirePresent, by decide +kernel⟩
theorem wd_X5_requireMask : jWd yX5_requireMask RX5 cX5_requireMask 2 none 1 := ⟨kim_X5_requireMask, kse_X5_requireMask, kini_X5, kco_X5_requireMask, by decide +kernel⟩
theorem wd_X5_requireLogged : jWd yX5_requireLogged RX5 cX5_requireLogged 2 none 1 := ⟨kim_X5_requireLogged, kse_X5_requireLogged, kini_X5, kco_X5_requireLogged, by decide +kernel⟩
theorem ws_X5_isWithin : jWs yX5_isWithin cX5_isWithin 3 (some .boolean) 3 := ⟨kst_X5_isWithin, kini_X5, kco_X5_isWithin, by decide +kernel⟩
theorem ws_X5_hasBit : jWs yX5_hasBit cX5_hasBit 2 (some .boolean) 2 := ⟨kst_X5_hasBit, kini_X5, kco_X5_hasBit, by decide +kernel⟩
theorem ws_X5_lowestResource : jWs yX5_lowestResource cX5_lowestResource 2 (some .int) 1 := ⟨kst_X5_lowestResource, kini_X5, kco_X5_lowestResource, by decide +kernel⟩
theorem ws_X5_mix : jWs yX5_mix cX5_mix 3 (some .long) 2 := ⟨kst_X5_mix, kini_X5, kco_X5_mix, by decide +kernel⟩
theorem wi_X6_init : jWi yX6_init cX6_init 1 0 := ⟨kim_X6_init, kini_X6, kco_X6_init, rfl, by decide +kernel⟩
theorem wd_X6_thrown : jWd yX6_thrown RX6 cX6_thrown 1 (some .int) 0 := ⟨kim_X6_thrown, kse_X6_thrown, kini_X6, kco_X6_thrown, by decide +kernel⟩
theorem wd_X6_fail : jWd yX6_fail RX6 cX6_fail 2 (some .int) 1 := ⟨kim_X6_fail, kse_X6_fail, kini_X6, kco_X6_fail, by decide +kernel⟩
theorem wd_X6_isResource : jWd yX6_isResource RX6 cX6_isResource 2 (some .boolean) 1 := ⟨kim_X6_isResource, kse_X6_isResource, kini_X6, kco_X6_isResource, by decide +kernel⟩
theorem wd_X6_isRequest : jWd yX6_isRequest RX6 cX6_isRequest 2 (some .boolean) 1 := ⟨kim_X6_isRequest, kse_X6_isRequest, kini_X6, kco_X6_isRequest, by decide +kernel⟩
theorem ws_X6_isGroup : jWs yX6_isGroup cX6_isGroup 1 (some .boolean) 1 := ⟨kst_X6_isGroup, kini_X6, kco_X6_isGroup, by decide +kernel⟩
theorem wd_X6_isMask : jWd yX6_isMask RX6 cX6_isMask 2 (some .boolean) 1 := ⟨kim_X6_isMask, kse_X6_isMask, kini_X6, kco_X6_isMask, by decide +kernel⟩
theorem wd_X6_accepts : jWd yX6_accepts RX6 cX6_accepts 3 (some .boolean) 2 := ⟨kim_X6_accepts, kse_X6_accepts, kini_X6, kco_X6_accepts, by decide +kernel⟩
theorem wd_X6_isAt : jWd yX6_isAt RX6 cX6_isAt 3 (some .boolean) 2 := ⟨kim_X6_isAt, kse_X6_isAt, kini_X6, kco_X6_isAt, by decide +kernel⟩
theorem wd_X6_loadOf : jWd yX6_loadOf RX6 cX6_loadOf 4 (some .int) 1 := ⟨kim_X6_loadOf, kse_X6_loadOf, kini_X6, kco_X6_loadOf, by decide +kernel⟩
theorem wd_X6_assignedIn : jWd yX6_assignedIn RX6 cX6_assignedIn 4 (some .int) 1 := ⟨kim_X6_assignedIn, kse_X6_assignedIn, kini_X6, kco_X6_assignedIn, by decide +kernel⟩
theorem wd_X6_findFar : jWd yX6_findFar RX6 cX6_findFar 4 none 0 := ⟨kim_X6_findFar, kse_X6_findFar, kini_X6, kco_X6_findFar, by decide +kernel⟩
theorem wd_X6_brings : jWd yX6_brings RX6 cX6_brings 3 (some .boolean) 2 := ⟨kim_X6_brings, kse_X6_brings, kini_X6, kco_X6_brings, by decide +kernel⟩
theorem wd_X6_canMove : jWd yX6_canMove RX6 cX6_canMove 3 (some .boolean) 2 := ⟨kim_X6_canMove, kse_X6_canMove, kini_X6, kco_X6_canMove, by decide +kernel⟩
theorem wd_X6_firstOf : jWd yX6_firstOf RX6 cX6_firstOf 4 (some .int) 1 := ⟨kim_X6_firstOf, kse_X6_firstOf, kini_X6, kco_X6_firstOf, by decide +kernel⟩
theorem wd_X6_isPlaced : jWd yX6_isPlaced RX6 cX6_isPlaced 7 (some .boolean) 1 := ⟨kim_X6_isPlaced, kse_X6_isPlaced, kini_X6, kco_X6_isPlaced, by decide +kernel⟩
theorem wd_X6_movedFrom : jWd yX6_movedFrom RX6 cX6_movedFrom 5 (some .int) 1 := ⟨kim_X6_movedFrom, kse_X6_movedFrom, kini_X6, kco_X6_movedFrom, by decide +kernel⟩
theorem wd_X6_log : jWd yX6_log RX6 cX6_log 3 none 2 := ⟨kim_X6_log, kse_X6_log, kini_X6, kco_X6_log, by decide +kernel⟩
theorem wd_X6_run : jWd yX6_run RX6 cX6_run 3 (some .int) 0 := ⟨kim_X6_run, kse_X6_run, kini_X6, kco_X6_run, by decide +kernel⟩
theorem wd_X6_next : jWd yX6_next RX6 cX6_next 4 (some .int) 0 := ⟨kim_X6_next, kse_X6_next, kini_X6, kco_X6_next, by decide +kernel⟩
theorem wd_X6_firstIn : jWd yX6_firstIn RX6 cX6_firstIn 3 (some .int) 1 := ⟨kim_X6_firstIn, kse_X6_firstIn, kini_X6, kco_X6_firstIn, by decide +kernel⟩
theorem wd_X6_addResource : jWd yX6_addResource RX6 cX6_addResource 2 (some .int) 1 := ⟨kim_X6_addResource, kse_X6_addResource, kini_X6, kco_X6_addResource, by decide +kernel⟩
theorem wd_X6_setCapacity : jWd yX6_setCapacity RX6 cX6_setCapacity 5 (some .int) 2 := ⟨kim_X6_setCapacity, kse_X6_setCapacity, kini_X6, kco_X6_setCapacity, by decide +kernel⟩
theorem wd_X6_setGroup : jWd yX6_setGroup RX6 cX6_setGroup 6 (some .int) 3 := ⟨kim_X6_setGroup, kse_X6_setGroup, kini_X6, kco_X6_setGroup, by decide +kernel⟩
theorem wd_X6_setLimits : jWd yX6_setLimits RX6 cX6_setLimits 3 (some .int) 2 := ⟨kim_X6_setLimits, kse_X6_setLimits, kini_X6, kco_X6_setLimits, by decide +kernel⟩
theorem wd_X6_arrive : jWd yX6_arrive RX6 cX6_arrive 4 (some .int) 2 := ⟨kim_X6_arrive, kse_X6_arrive, kini_X6, kco_X6_arrive, by decide +kernel⟩
theorem wd_X6_depart : jWd yX6_depart RX6 cX6_depart 2 (some .int) 1 := ⟨kim_X6_depart, kse_X6_depart, kini_X6, kco_X6_depart, by decide +kernel⟩
theorem wd_X6_setAccepts : jWd yX6_setAccepts RX6 cX6_setAccepts 3 (some .boolean) 2 := ⟨kim_X6_setAccepts, kse_X6_setAccepts, kini_X6, kco_X6_setAccepts, by decide +kernel⟩
theorem wd_X6_resourceCount : jWd yX6_resourceCount RX6 cX6_resourceCount 1 (some .int) 0 := ⟨kim_X6_resourceCount, kse_X6_resourceCount, kini_X6, kco_X6_resourceCount, by decide +kernel⟩
theorem wd_X6_arrivedCount : jWd yX6_arrivedCount RX6 cX6_arrivedCount 1 (some .int) 0 := ⟨kim_X6_arrivedCount, kse_X6_arrivedCount, kini_X6, kco_X6_arrivedCount, by decide +kernel⟩
theorem wd_X6_countOf : jWd yX6_countOf RX6 cX6_countOf 4 (some .int) 1 := ⟨kim_X6_countOf, kse_X6_countOf, kini_X6, kco_X6_countOf, by decide +kernel⟩
theorem wd_X6_assignedCount : jWd yX6_assignedCount RX6 cX6_assignedCount 1 (some .int) 0 := ⟨kim_X6_assignedCount, kse_X6_assignedCount, kini_X6, kco_X6_assignedCount, by decide +kernel⟩
theorem wd_X6_waitingCount : jWd yX6_waitingCount RX6 cX6_waitingCount 1 (some .int) 0 := ⟨kim_X6_waitingCount, kse_X6_waitingCount, kini_X6, kco_X6_waitingCount, by decide +kernel⟩
theorem wd_X6_assignedOf : jWd yX6_assignedOf RX6 cX6_assignedOf 2 (some .int) 1 := ⟨kim_X6_assignedOf, kse_X6_assignedOf, kini_X6, kco_X6_assignedOf, by decide +kernel⟩
theorem wd_X6_load : jWd yX6_load RX6 cX6_load 2 (some .int) 1 := ⟨kim_X6_load, kse_X6_load, kini_X6, kco_X6_load, by decide +kernel⟩
theorem wd_X6_state : jWd yX6_state RX6 cX6_state 2 (some .int) 1 := ⟨kim_X6_state, kse_X6_state, kini_X6, kco_X6_state, by decide +kernel⟩
theorem wd_X6_resourceOf : jWd yX6_resourceOf RX6 cX6_resourceOf 2 (some .int) 1 := ⟨kim_X6_resourceOf, kse_X6_resourceOf, kini_X6, kco_X6_resourceOf, by decide +kernel⟩
theorem wd_X6_movesOf : jWd yX6_movesOf RX6 cX6_movesOf 2 (some .int) 1 := ⟨kim_X6_movesOf, kse_X6_movesOf, kini_X6, kco_X6_movesOf, by decide +kernel⟩
theorem wd_X6_moveCount : jWd yX6_moveCount RX6 cX6_moveCount 1 (some .int) 0 := ⟨kim_X6_moveCount, kse_X6_moveCount, kini_X6, kco_X6_moveCount, by decide +kernel⟩
theorem wd_X6_movedRequest : jWd yX6_movedRequest RX6 cX6_movedRequest 2 (some .int) 1 := ⟨kim_X6_movedRequest, kse_X6_movedRequest, kini_X6, kco_X6_movedRequest, by decide +kernel⟩
theorem wd_X6_movedTo : jWd yX6_movedTo RX6 cX6_movedTo 2 (some .int) 1 := ⟨kim_X6_movedTo, kse_X6_movedTo, kini_X6, kco_X6_movedTo, by decide +kernel⟩
theorem wd_X6_movesNeeded : jWd yX6_movesNeeded RX6 cX6_movesNeeded 3 (some .int) 1 := ⟨kim_X6_movesNeeded, kse_X6_movesNeeded, kini_X6, kco_X6_movesNeeded, by decide +kernel⟩
theorem wd_X6_possible : jWd yX6_possible RX6 cX6_possible 6 (some .int) 0 := ⟨kim_X6_possible, kse_X6_possible, kini_X6, kco_X6_possible, by decide +kernel⟩
theorem wd_X6_greatestPossible : jWd yX6_greatestPossible RX6 cX6_greatestPossible 1 (some .int) 0 := ⟨kim_X6_greatestPossible, kse_X6_greatestPossible, kini_X6, kco_X6_greatestPossible, by decide +kernel⟩
theorem wd_X6_gainBy : jWd yX6_gainBy RX6 cX6_gainBy 5 (some .int) 1 := ⟨kim_X6_gainBy, kse_X6_gainBy, kini_X6, kco_X6_gainBy, by decide +kernel⟩
theorem wd_X6_fairness : jWd yX6_fairness RX6 cX6_fairness 8 (some .double) 0 := ⟨kim_X6_fairness, kse_X6_fairness, kini_X6, kco_X6_fairness, by decide +kernel⟩
theorem wd_X6_digest : jWd yX6_digest RX6 cX6_digest 4 (some .long) 0 := ⟨kim_X6_digest, kse_X6_digest, kini_X6, kco_X6_digest, by decide +kernel⟩
theorem ws_J9_min_7cf53 : jWs yJ9_min_7cf53 cJ9_min_7cf53 2 (some .int) 2 := ⟨kst_J9_min_7cf53, kini_J9, kco_J9_min_7cf53, by decide +kernel⟩
section JLINK
variable {G : jG} {X : JX} {k n pc : Nat} {w : va_W} {L : List (Option Value)} {rest : List Value} {rm : Room} {cc : ByteArray} {nL a : Nat} {fs : List Value}
theorem fg_X4_46 {v : Value} (C : JC G X rm cc RX4 nL) (q0 : Nat) (he : w[q0]? = some (a, .inr (4, fs))) (hv : fs[0]? = some v) (d : decode cc pc = .ok (.getfield 46, 3)) (kk : JW G X k n w (pc + 3) L (v :: rest)) : JW G X k n w pc L (.ref a :: rest) :=
  jw_get jU_X4 rfl 0 (by decide) rfl C kfl_X4_46 q0 he hv d kk
theorem fp_X4_46 {v : Int32} (C : JC G X rm cc RX4 nL) (q0 : Nat) (he : w[q0]? = some (a, .inr (4, fs))) (hl : 0 < fs.length) (d : decode cc pc = .ok (.putfield 46, 3)) (kk : JW G X k n (w.set q0 (a, .inr (4, fs.set 0 (.int v)))) (pc + 3) L rest) : JW G X k n w pc L (.int v :: .ref a :: rest) :=
  jw_put (ty := .int) jU_X4 tyX4_ok nmX4 rfl 0 (by decide) rfl rfl (by decide +kernel) C kfl_X4_46 q0 he rfl rfl hl d kk
theorem fg_X5_59 {v : Value} (C : JC G X rm cc RX5 nL) (q0 : Nat) (he : w[q0]? = some (a, .inr (4, fs))) (hv : fs[0]? = some v) (d : decode cc pc = .ok (.getfield 59, 3)) (kk : JW G X k n w (pc + 3) L (v :: rest)) : JW G X k n w pc L (.ref a :: rest) :=
  jw_getN jU_X4 rfl 0 (by decide) rfl C kfn_X5_59 q0 he hv d kk
theorem fp_X5_59 {v : Int32} (C : JC G X rm cc RX5 nL) (q0 : Nat) (he : w[q0]? = some (a, .inr (4, fs))) (hl : 0 < fs.length) (d : decode cc pc = .ok (.putfield 59, 3)) (kk : JW G X k n (w.set q0 (a, .inr (4, fs.set 0 (.int v)))) (pc + 3) L rest) : JW G X k n w pc L (.int v :: .ref a :: rest) :=
  jw_putN (ty := .int) jU_X4 tyX4_ok nmX4 rfl 0 (by decide) rfl rfl (by decide +kernel) C kfn_X5_59 q0 he rfl rfl hl d kk
theorem fg_X2_51 {v : Value} (C : JC G X rm cc RX2 nL) (q0 : Nat) (he : w[q0]? = some (a, .inr (4, fs))) (hv : fs[0]? = some v) (d : decode cc pc = .ok (.getfield 51, 3)) (kk : JW G X k n w (pc + 3) L (v :: rest)) : JW G X k n w pc L (.ref a :: rest) :=
  jw_getN jU_X4 rfl 0 (by decide) rfl C kfn_X2_51 q0 he hv d kk
theorem fp_X2_51 {v : Int32} (C : JC G X rm cc RX2 nL) (q0 : Nat) (he : w[q0]? = some (a, .inr (4, fs))) (hl : 0 < fs.length) (d : decode cc pc = .ok (.putfield 51, 3)) (kk : JW G X k n (w.set q0 (a, .inr (4, fs.set 0 (.int v)))) (pc + 3) L rest) : JW G X k n w pc L (.int v :: .ref a :: rest) :=
  jw_putN (ty := .int) jU_X4 tyX4_ok nmX4 rfl 0 (by decide) rfl rfl (by decide +kernel) C kfn_X2_51 q0 he rfl rfl hl d kk
theorem fg_X0_59 {v : Value} (C : JC G X rm cc RX0 nL) (q0 : Nat) (he : w[q0]? = some (a, .inr (4, fs))) (hv : fs[0]? = some v) (d : decode cc pc = .ok (.getfield 59, 3)) (kk : JW G X k n w (pc + 3) L (v :: rest)) : JW G X k n w pc L (.ref a :: rest) :=
  jw_getN jU_X4 rfl 0 (by decide) rfl C kfn_X0_59 q0 he hv d kk
theorem fp_X0_59 {v : Int32} (C : JC G X rm cc RX0 nL) (q0 : Nat) (he : w[q0]? = some (a, .inr (4, fs))) (hl : 0 < fs.length) (d : decode cc pc = .ok (.putfield 59, 3)) (kk : JW G X k n (w.set q0 (a, .inr (4, fs.set 0 (.int v)))) (pc + 3) L rest) : JW G X k n w pc L (.int v :: .ref a :: rest) :=
  jw_putN (ty := .int) jU_X4 tyX4_ok nmX4 rfl 0 (by decide) rfl rfl (by decide +kernel) C kfn_X0_59 q0 he rfl rfl hl d kk
theorem fg_X4_9 {v : Value} (C : JC G X rm cc RX4 nL) (q0 : Nat) (he : w[q0]? = some (a, .inr (4, fs))) (hv : fs[1]? = some v) (d : decode cc pc = .ok (.getfield 9, 3)) (kk : JW G X k n w (pc + 3) L (v :: rest)) : JW G X k n w pc L (.ref a :: rest) :=
  jw_get jU_X4 rfl 1 (by decide) rfl C kfl_X4_9 q0 he hv d kk
theorem fg_X5_83 {v : Value} (C : JC G X rm cc RX5 nL) (q0 : Nat) (he : w[q0]? = some (a, .inr (4, fs))) (hv : fs[1]? = some v) (d : decode cc pc = .ok (.getfield 83, 3)) (kk : JW G X k n w (pc + 3) L (v :: rest)) : JW G X k n w pc L (.ref a :: rest) :=
  jw_getN jU_X4 rfl 1 (by decide) rfl C kfn_X5_83 q0 he hv d kk
theorem fg_X0_114 {v : Value} (C : JC G X rm cc RX0 nL) (q0 : Nat) (he : w[q0]? = some (a, .inr (4, fs))) (hv : fs[1]? = some v) (d : decode cc pc = .ok (.getfield 114, 3)) (kk : JW G X k n w (pc + 3) L (v :: rest)) : JW G X k n w pc L (.ref a :: rest) :=
  jw_getN jU_X4 rfl 1 (by decide) rfl C kfn_X0_114 q0 he hv d kk
theorem fg_X4_15 {v : Value} (C : JC G X rm cc RX4 nL) (q0 : Nat) (he : w[q0]? = some (a, .inr (4, fs))) (hv : fs[2]? = some v) (d : decode cc pc = .ok (.getfield 15, 3)) (kk : JW G X k n w (pc + 3) L (v :: rest)) : JW G X k n w pc L (.ref a :: rest) :=
  jw_get jU_X4 rfl 2 (by decide) rfl C kfl_X4_15 q0 he hv d kk
theorem fg_X0_62 {v : Value} (C : JC G X rm cc RX0 nL) (q0 : Nat) (he : w[q0]? = some (a, .inr (4, fs))) (hv : fs[2]? = some v) (d : decode cc pc = .ok (.getfield 62, 3)) (kk : JW G X k n w (pc + 3) L (v :: rest)) : JW G X k n w pc L (.ref a :: rest) :=
  jw_getN jU_X4 rfl 2 (by decide) rfl C kfn_X0_62 q0 he hv d kk
theorem fg_X5_154 {v : Value} (C : JC G X rm cc RX5 nL) (q0 : Nat) (he : w[q0]? = some (a, .inr (4, fs))) (hv : fs[2]? = some v) (d : decode cc pc = .ok (.getfield 154, 3)) (kk : JW G X k n w (pc + 3) L (v :: rest)) : JW G X k n w pc L (.ref a :: rest) :=
  jw_getN jU_X4 rfl 2 (by decide) rfl C kfn_X5_154 q0 he hv d kk
theorem fg_X4_18 {v : Value} (C : JC G X rm cc RX4 nL) (q0 : Nat) (he : w[q0]? = some (a, .inr (4, fs))) (hv : fs[3]? = some v) (d : decode cc pc = .ok (.getfield 18, 3)) (kk : JW G X k n w (pc + 3) L (v :: rest)) : JW G X k n w pc L (.ref a :: rest) :=
  jw_get jU_X4 rfl 3 (by decide) rfl C kfl_X4_18 q0 he hv d kk
theorem fg_X5_97 {v : Value} (C : JC G X rm cc RX5 nL) (q0 : Nat) (he : w[q0]? = some (a, .inr (4, fs))) (hv : fs[3]? = some v) (d : decode cc pc = .ok (.getfield 97, 3)) (kk : JW G X k n w (pc + 3) L (v :: rest)) : JW G X k n w pc L (.ref a :: rest) :=
  jw_getN jU_X4 rfl 3 (by decide) rfl C kfn_X5_97 q0 he hv d kk
theorem fg_X0_99 {v : Value} (C : JC G X rm cc RX0 nL) (q0 : Nat) (he : w[q0]? = some (a, .inr (4, fs))) (hv : fs[3]? = some v) (d : decode cc pc = .ok (.getfield 99, 3)) (kk : JW G X k n w (pc + 3) L (v :: rest)) : JW G X k n w pc L (.ref a :: rest) :=
  jw_getN jU_X4 rfl 3 (by decide) rfl C kfn_X0_99 q0 he hv d kk
theorem fg_X4_21 {v : Value} (C : JC G X rm cc RX4 nL) (q0 : Nat) (he : w[q0]? = some (a, .inr (4, fs))) (hv : fs[4]? = some v) (d : decode cc pc = .ok (.getfield 21, 3)) (kk : JW G X k n w (pc + 3) L (v :: rest)) : JW G X k n w pc L (.ref a :: rest) :=
  jw_get jU_X4 rfl 4 (by decide) rfl C kfl_X4_21 q0 he hv d kk
theorem fg_X3_55 {v : Value} (C : JC G X rm cc RX3 nL) (q0 : Nat) (he : w[q0]? = some (a, .inr (4, fs))) (hv : fs[4]? = some v) (d : decode cc pc = .ok (.getfield 55, 3)) (kk : JW G X k n w (pc + 3) L (v :: rest)) : JW G X k n w pc L (.ref a :: rest) :=
  jw_getN jU_X4 rfl 4 (by decide) rfl C kfn_X3_55 q0 he hv d kk
theorem fg_X5_100 {v : Value} (C : JC G X rm cc RX5 nL) (q0 : Nat) (he : w[q0]? = some (a, .inr (4, fs))) (hv : fs[4]? = some v) (d : decode cc pc = .ok (.getfield 100, 3)) (kk : JW G X k n w (pc + 3) L (v :: rest)) : JW G X k n w pc L (.ref a :: rest) :=
  jw_getN jU_X4 rfl 4 (by decide) rfl C kfn_X5_100 q0 he hv d kk
theorem fg_X4_24 {v : Value} (C : JC G X rm cc RX4 nL) (q0 : Nat) (he : w[q0]? = some (a, .inr (4, fs))) (hv : fs[5]? = some v) (d : decode cc pc = .ok (.getfield 24, 3)) (kk : JW G X k n w (pc + 3) L (v :: rest)) : JW G X k n w pc L (.ref a :: rest) :=
  jw_get jU_X4 rfl 5 (by decide) rfl C kfl_X4_24 q0 he hv d kk
theorem fg_X0_63 {v : Value} (C : JC G X rm cc RX0 nL) (q0 : Nat) (he : w[q0]? = some (a, .inr (4, fs))) (hv : fs[5]? = some v) (d : decode cc pc = .ok (.getfield 63, 3)) (kk : JW G X k n w (pc + 3) L (v :: rest)) : JW G X k n w pc L (.ref a :: rest) :=
  jw_getN jU_X4 rfl 5 (by decide) rfl C kfn_X0_63 q0 he hv d kk
theorem fg_X3_52 {v : Value} (C : JC G X rm cc RX3 nL) (q0 : Nat) (he : w[q0]? = some (a, .inr (4, fs))) (hv : fs[5]? = some v) (d : decode cc pc = .ok (.getfield 52, 3)) (kk : JW G X k n w (pc + 3) L (v :: rest)) : JW G X k n w pc L (.ref a :: rest) :=
  jw_getN jU_X4 rfl 5 (by decide) rfl C kfn_X3_52 q0 he hv d kk
theorem fg_X5_151 {v : Value} (C : JC G X rm cc RX5 nL) (q0 : Nat) (he : w[q0]? = some (a, .inr (4, fs))) (hv : fs[5]? = some v) (d : decode cc pc = .ok (.getfield 151, 3)) (kk : JW G X k n w (pc + 3) L (v :: rest)) : JW G X k n w pc L (.ref a :: rest) :=
  jw_getN jU_X4 rfl 5 (by decide) rfl C kfn_X5_151 q0 he hv d kk
theorem fg_X3_27 {v : Value} (C : JC G X rm cc RX3 nL) (q0 : Nat) (he : w[q0]? = some (a, .inr (4, fs))) (hv : fs[6]? = some v) (d : decode cc pc = .ok (.getfield 27, 3)) (kk : JW G X k n w (pc + 3) L (v :: rest)) : JW G X k n w pc L (.ref a :: rest) :=
  jw_getN jU_X4 rfl 6 (by decide) rfl C kfn_X3_27 q0 he hv d kk
theorem fp_X3_27 {v : Int32} (C : JC G X rm cc RX3 nL) (q0 : Nat) (he : w[q0]? = some (a, .inr (4, fs))) (hl : 6 < fs.length) (d : decode cc pc = .ok (.putfield 27, 3)) (kk : JW G X k n (w.set q0 (a, .inr (4, fs.set 6 (.int v)))) (pc + 3) L rest) : JW G X k n w pc L (.int v :: .ref a :: rest) :=
  jw_putN (ty := .int) jU_X4 tyX4_ok nmX4 rfl 6 (by decide) rfl rfl (by decide +kernel) C kfn_X3_27 q0 he rfl rfl hl d kk
theorem fg_X0_51 {v : Value} (C : JC G X rm cc RX0 nL) (q0 : Nat) (he : w[q0]? = some (a, .inr (4, fs))) (hv : fs[6]? = some v) (d : decode cc pc = .ok (.getfield 51, 3)) (kk : JW G X k n w (pc + 3) L (v :: rest)) : JW G X k n w pc L (.ref a :: rest) :=
  jw_getN jU_X4 rfl 6 (by decide) rfl C kfn_X0_51 q0 he hv d kk
theorem fp_X0_51 {v : Int32} (C : JC G X rm cc RX0 nL) (q0 : Nat) (he : w[q0]? = some (a, .inr (4, fs))) (hl : 6 < fs.length) (d : decode cc pc = .ok (.putfield 51, 3)) (kk : JW G X k n (w.set q0 (a, .inr (4, fs.set 6 (.int v)))) (pc + 3) L rest) : JW G X k n w pc L (.int v :: .ref a :: rest) :=
  jw_putN (ty := .int) jU_X4 tyX4_ok nmX4 rfl 6 (by decide) rfl rfl (by decide +kernel) C kfn_X0_51 q0 he rfl rfl hl d kk
theorem fg_X2_54 {v : Value} (C : JC G X rm cc RX2 nL) (q0 : Nat) (he : w[q0]? = some (a, .inr (4, fs))) (hv : fs[6]? = some v) (d : decode cc pc = .ok (.getfield 54, 3)) (kk : JW G X k n w (pc + 3) L (v :: rest)) : JW G X k n w pc L (.ref a :: rest) :=
  jw_getN jU_X4 rfl 6 (by decide) rfl C kfn_X2_54 q0 he hv d kk
theorem fp_X2_54 {v : Int32} (C : JC G X rm cc RX2 nL) (q0 : Nat) (he : w[q0]? = some (a, .inr (4, fs))) (hl : 6 < fs.length) (d : decode cc pc = .ok (.putfield 54, 3)) (kk : JW G X k n (w.set q0 (a, .inr (4, fs.set 6 (.int v)))) (pc + 3) L rest) : JW G X k n w pc L (.int v :: .ref a :: rest) :=
  jw_putN (ty := .int) jU_X4 tyX4_ok nmX4 rfl 6 (by decide) rfl rfl (by decide +kernel) C kfn_X2_54 q0 he rfl rfl hl d kk
theorem fg_X5_119 {v : Value} (C : JC G X rm cc RX5 nL) (q0 : Nat) (he : w[q0]? = some (a, .inr (4, fs))) (hv : fs[6]? = some v) (d : decode cc pc = .ok (.getfield 119, 3)) (kk : JW G X k n w (pc + 3) L (v :: rest)) : JW G X k n w pc L (.ref a :: rest) :=
  jw_getN jU_X4 rfl 6 (by decide) rfl C kfn_X5_119 q0 he hv d kk
theorem fp_X5_119 {v : Int32} (C : JC G X rm cc RX5 nL) (q0 : Nat) (he : w[q0]? = some (a, .inr (4, fs))) (hl : 6 < fs.length) (d : decode cc pc = .ok (.putfield 119, 3)) (kk : JW G X k n (w.set q0 (a, .inr (4, fs.set 6 (.int v)))) (pc + 3) L rest) : JW G X k n w pc L (.int v :: .ref a :: rest) :=
  jw_putN (ty := .int) jU_X4 tyX4_ok nmX4 rfl 6 (by decide) rfl rfl (by decide +kernel) C kfn_X5_119 q0 he rfl rfl hl d kk
theorem fg_X4_56 {v : Value} (C : JC G X rm cc RX4 nL) (q0 : Nat) (he : w[q0]? = some (a, .inr (4, fs))) (hv : fs[6]? = some v) (d : decode cc pc = .ok (.getfield 56, 3)) (kk : JW G X k n w (pc + 3) L (v :: rest)) : JW G X k n w pc L (.ref a :: rest) :=
  jw_get jU_X4 rfl 6 (by decide) rfl C kfl_X4_56 q0 he hv d kk
theorem fp_X4_56 {v : Int32} (C : JC G X rm cc RX4 nL) (q0 : Nat) (he : w[q0]? = some (a, .inr (4, fs))) (hl : 6 < fs.length) (d : decode cc pc = .ok (.putfield 56, 3)) (kk : JW G X k n (w.set q0 (a, .inr (4, fs.set 6 (.int v)))) (pc + 3) L rest) : JW G X k n w pc L (.int v :: .ref a :: rest) :=
  jw_put (ty := .int) jU_X4 tyX4_ok nmX4 rfl 6 (by decide) rfl rfl (by decide +kernel) C kfl_X4_56 q0 he rfl rfl hl d kk
theorem fg_X4_27 {v : Value} (C : JC G X rm cc RX4 nL) (q0 : Nat) (he : w[q0]? = some (a, .inr (4, fs))) (hv : fs[7]? = some v) (d : decode cc pc = .ok (.getfield 27, 3)) (kk : JW G X k n w (pc + 3) L (v :: rest)) : JW G X k n w pc L (.ref a :: rest) :=
  jw_get jU_X4 rfl 7 (by decide) rfl C kfl_X4_27 q0 he hv d kk
theorem fg_X3_44 {v : Value} (C : JC G X rm cc RX3 nL) (q0 : Nat) (he : w[q0]? = some (a, .inr (4, fs))) (hv : fs[7]? = some v) (d : decode cc pc = .ok (.getfield 44, 3)) (kk : JW G X k n w (pc + 3) L (v :: rest)) : JW G X k n w pc L (.ref a :: rest) :=
  jw_getN jU_X4 rfl 7 (by decide) rfl C kfn_X3_44 q0 he hv d kk
theorem fg_X0_84 {v : Value} (C : JC G X rm cc RX0 nL) (q0 : Nat) (he : w[q0]? = some (a, .inr (4, fs))) (hv : fs[7]? = some v) (d : decode cc pc = .ok (.getfield 84, 3)) (kk : JW G X k n w (pc + 3) L (v :: rest)) : JW G X k n w pc L (.ref a :: rest) :=
  jw_getN jU_X4 rfl 7 (by decide) rfl C kfn_X0_84 q0 he hv d kk
theorem fg_X4_30 {v : Value} (C : JC G X rm cc RX4 nL) (q0 : Nat) (he : w[q0]? = some (a, .inr (4, fs))) (hv : fs[8]? = some v) (d : decode cc pc = .ok (.getfield 30, 3)) (kk : JW G X k n w (pc + 3) L (v :: rest)) : JW G X k n w pc L (.ref a :: rest) :=
  jw_get jU_X4 rfl 8 (by decide) rfl C kfl_X4_30 q0 he hv d kk
theorem fg_X2_34 {v : Value} (C : JC G X rm cc RX2 nL) (q0 : Nat) (he : w[q0]? = some (a, .inr (4, fs))) (hv : fs[8]? = some v) (d : decode cc pc = .ok (.getfield 34, 3)) (kk : JW G X k n w (pc + 3) L (v :: rest)) : JW G X k n w pc L (.ref a :: rest) :=
  jw_getN jU_X4 rfl 8 (by decide) rfl C kfn_X2_34 q0 he hv d kk
theorem fg_X0_73 {v : Value} (C : JC G X rm cc RX0 nL) (q0 : Nat) (he : w[q0]? = some (a, .inr (4, fs))) (hv : fs[8]? = some v) (d : decode cc pc = .ok (.getfield 73, 3)) (kk : JW G X k n w (pc + 3) L (v :: rest)) : JW G X k n w pc L (.ref a :: rest) :=
  jw_getN jU_X4 rfl 8 (by decide) rfl C kfn_X0_73 q0 he hv d kk
theorem fg_X4_33 {v : Value} (C : JC G X rm cc RX4 nL) (q0 : Nat) (he : w[q0]? = some (a, .inr (4, fs))) (hv : fs[9]? = some v) (d : decode cc pc = .ok (.getfield 33, 3)) (kk : JW G X k n w (pc + 3) L (v :: rest)) : JW G X k n w pc L (.ref a :: rest) :=
  jw_get jU_X4 rfl 9 (by decide) rfl C kfl_X4_33 q0 he hv d kk
theorem fg_X2_60 {v : Value} (C : JC G X rm cc RX2 nL) (q0 : Nat) (he : w[q0]? = some (a, .inr (4, fs))) (hv : fs[9]? = some v) (d : decode cc pc = .ok (.getfield 60, 3)) (kk : JW G X k n w (pc + 3) L (v :: rest)) : JW G X k n w pc L (.ref a :: rest) :=
  jw_getN jU_X4 rfl 9 (by decide) rfl C kfn_X2_60 q0 he hv d kk
theorem fg_X0_81 {v : Value} (C : JC G X rm cc RX0 nL) (q0 : Nat) (he : w[q0]? = some (a, .inr (4, fs))) (hv : fs[9]? = some v) (d : decode cc pc = .ok (.getfield 81, 3)) (kk : JW G X k n w (pc + 3) L (v :: rest)) : JW G X k n w pc L (.ref a :: rest) :=
  jw_getN jU_X4 rfl 9 (by decide) rfl C kfn_X0_81 q0 he hv d kk
theorem fg_X5_168 {v : Value} (C : JC G X rm cc RX5 nL) (q0 : Nat) (he : w[q0]? = some (a, .inr (4, fs))) (hv : fs[9]? = some v) (d : decode cc pc = .ok (.getfield 168, 3)) (kk : JW G X k n w (pc + 3) L (v :: rest)) : JW G X k n w pc L (.ref a :: rest) :=
  jw_getN jU_X4 rfl 9 (by decide) rfl C kfn_X5_168 q0 he hv d kk
theorem fg_X4_36 {v : Value} (C : JC G X rm cc RX4 nL) (q0 : Nat) (he : w[q0]? = some (a, .inr (4, fs))) (hv : fs[10]? = some v) (d : decode cc pc = .ok (.getfield 36, 3)) (kk : JW G X k n w (pc + 3) L (v :: rest)) : JW G X k n w pc L (.ref a :: rest) :=
  jw_get jU_X4 rfl 10 (by decide) rfl C kfl_X4_36 q0 he hv d kk
theorem fg_X5_171 {v : Value} (C : JC G X rm cc RX5 nL) (q0 : Nat) (he : w[q0]? = some (a, .inr (4, fs))) (hv : fs[10]? = some v) (d : decode cc pc = .ok (.getfield 171, 3)) (kk : JW G X k n w (pc + 3) L (v :: rest)) : JW G X k n w pc L (.ref a :: rest) :=
  jw_getN jU_X4 rfl 10 (by decide) rfl C kfn_X5_171 q0 he hv d kk
theorem fg_X4_39 {v : Value} (C : JC G X rm cc RX4 nL) (q0 : Nat) (he : w[q0]? = some (a, .inr (4, fs))) (hv : fs[11]? = some v) (d : decode cc pc = .ok (.getfield 39, 3)) (kk : JW G X k n w (pc + 3) L (v :: rest)) : JW G X k n w pc L (.ref a :: rest) :=
  jw_get jU_X4 rfl 11 (by decide) rfl C kfl_X4_39 q0 he hv d kk
theorem fp_X4_39 {v : Int32} (C : JC G X rm cc RX4 nL) (q0 : Nat) (he : w[q0]? = some (a, .inr (4, fs))) (hl : 11 < fs.length) (d : decode cc pc = .ok (.putfield 39, 3)) (kk : JW G X k n (w.set q0 (a, .inr (4, fs.set 11 (.int v)))) (pc + 3) L rest) : JW G X k n w pc L (.int v :: .ref a :: rest) :=
  jw_put (ty := .int) jU_X4 tyX4_ok nmX4 rfl 11 (by decide) rfl rfl (by decide +kernel) C kfl_X4_39 q0 he rfl rfl hl d kk
theorem fg_X3_67 {v : Value} (C : JC G X rm cc RX3 nL) (q0 : Nat) (he : w[q0]? = some (a, .inr (4, fs))) (hv : fs[11]? = some v) (d : decode cc pc = .ok (.getfield 67, 3)) (kk : JW G X k n w (pc + 3) L (v :: rest)) : JW G X k n w pc L (.ref a :: rest) :=
  jw_getN jU_X4 rfl 11 (by decide) rfl C kfn_X3_67 q0 he hv d kk
theorem fp_X3_67 {v : Int32} (C : JC G X rm cc RX3 nL) (q0 : Nat) (he : w[q0]? = some (a, .inr (4, fs))) (hl : 11 < fs.length) (d : decode cc pc = .ok (.putfield 67, 3)) (kk : JW G X k n (w.set q0 (a, .inr (4, fs.set 11 (.int v)))) (pc + 3) L rest) : JW G X k n w pc L (.int v :: .ref a :: rest) :=
  jw_putN (ty := .int) jU_X4 tyX4_ok nmX4 rfl 11 (by decide) rfl rfl (by decide +kernel) C kfn_X3_67 q0 he rfl rfl hl d kk
theorem fg_X5_110 {v : Value} (C : JC G X rm cc RX5 nL) (q0 : Nat) (he : w[q0]? = some (a, .inr (4, fs))) (hv : fs[11]? = some v) (d : decode cc pc = .ok (.getfield 110, 3)) (kk : JW G X k n w (pc + 3) L (v :: rest)) : JW G X k n w pc L (.ref a :: rest) :=
  jw_getN jU_X4 rfl 11 (by decide) rfl C kfn_X5_110 q0 he hv d kk
theorem fp_X5_110 {v : Int32} (C : JC G X rm cc RX5 nL) (q0 : Nat) (he : w[q0]? = some (a, .inr (4, fs))) (hl : 11 < fs.length) (d : decode cc pc = .ok (.putfield 110, 3)) (kk : JW G X k n (w.set q0 (a, .inr (4, fs.set 11 (.int v)))) (pc + 3) L rest) : JW G X k n w pc L (.int v :: .ref a :: rest) :=
  jw_putN (ty := .int) jU_X4 tyX4_ok nmX4 rfl 11 (by decide) rfl rfl (by decide +kernel) C kfn_X5_110 q0 he rfl rfl hl d kk
theorem fg_X4_43 {v : Value} (C : JC G X rm cc RX4 nL) (q0 : Nat) (he : w[q0]? = some (a, .inr (4, fs))) (hv : fs[12]? = some v) (d : decode cc pc = .ok (.getfield 43, 3)) (kk : JW G X k n w (pc + 3) L (v :: rest)) : JW G X k n w pc L (.ref a :: rest) :=
  jw_get jU_X4 rfl 12 (by decide) rfl C kfl_X4_43 q0 he hv d kk
theorem fp_X4_43 {v : Int32} (C : JC G X rm cc RX4 nL) (q0 : Nat) (he : w[q0]? = some (a, .inr (4, fs))) (hl : 12 < fs.length) (d : decode cc pc = .ok (.putfield 43, 3)) (kk : JW G X k n (w.set q0 (a, .inr (4, fs.set 12 (.int v)))) (pc + 3) L rest) : JW G X k n w pc L (.int v :: .ref a :: rest) :=
  jw_put (ty := .int) jU_X4 tyX4_ok nmX4 rfl 12 (by decide) rfl rfl (by decide +kernel) C kfl_X4_43 q0 he rfl rfl hl d kk
theorem fg_X5_113 {v : Value} (C : JC G X rm cc RX5 nL) (q0 : Nat) (he : w[q0]? = some (a, .inr (4, fs))) (hv : fs[12]? = some v) (d : decode cc pc = .ok (.getfield 113, 3)) (kk : JW G X k n w (pc + 3) L (v :: rest)) : JW G X k n w pc L (.ref a :: rest) :=
  jw_getN jU_X4 rfl 12 (by decide) rfl C kfn_X5_113 q0 he hv d kk
theorem fp_X5_113 {v : Int32} (C : JC G X rm cc RX5 nL) (q0 : Nat) (he : w[q0]? = some (a, .inr (4, fs))) (hl : 12 < fs.length) (d : decode cc pc = .ok (.putfield 113, 3)) (kk : JW G X k n (w.set q0 (a, .inr (4, fs.set 12 (.int v)))) (pc + 3) L rest) : JW G X k n w pc L (.int v :: .ref a :: rest) :=
  jw_putN (ty := .int) jU_X4 tyX4_ok nmX4 rfl 12 (by decide) rfl rfl (by decide +kernel) C kfn_X5_113 q0 he rfl rfl hl d kk
theorem fg_X1_11 {v : Value} (C : JC G X rm cc RX1 nL) (q0 : Nat) (he : w[q0]? = some (a, .inr (1, fs))) (hv : fs[0]? = some v) (d : decode cc pc = .ok (.getfield 11, 3)) (kk : JW G X k n w (pc + 3) L (v :: rest)) : JW G X k n w pc L (.ref a :: rest) :=
  jw_get jU_X1 rfl 0 (by decide) rfl C kfl_X1_11 q0 he hv d kk
theorem fg_X5_180 {v : Value} (C : JC G X rm cc RX5 nL) (q0 : Nat) (he : w[q0]? = some (a, .inr (1, fs))) (hv : fs[0]? = some v) (d : decode cc pc = .ok (.getfield 180, 3)) (kk : JW G X k n w (pc + 3) L (v :: rest)) : JW G X k n w pc L (.ref a :: rest) :=
  jw_getN jU_X1 rfl 0 (by decide) rfl C kfn_X5_180 q0 he hv d kk
theorem fg_X1_15 {v : Value} (C : JC G X rm cc RX1 nL) (q0 : Nat) (he : w[q0]? = some (a, .inr (1, fs))) (hv : fs[1]? = some v) (d : decode cc pc = .ok (.getfield 15, 3)) (kk : JW G X k n w (pc + 3) L (v :: rest)) : JW G X k n w pc L (.ref a :: rest) :=
  jw_get jU_X1 rfl 1 (by decide) rfl C kfl_X1_15 q0 he hv d kk
theorem fg_X5_183 {v : Value} (C : JC G X rm cc RX5 nL) (q0 : Nat) (he : w[q0]? = some (a, .inr (1, fs))) (hv : fs[1]? = some v) (d : decode cc pc = .ok (.getfield 183, 3)) (kk : JW G X k n w (pc + 3) L (v :: rest)) : JW G X k n w pc L (.ref a :: rest) :=
  jw_getN jU_X1 rfl 1 (by decide) rfl C kfn_X5_183 q0 he hv d kk
theorem fg_X1_18 {v : Value} (C : JC G X rm cc RX1 nL) (q0 : Nat) (he : w[q0]? = some (a, .inr (1, fs))) (hv : fs[2]? = some v) (d : decode cc pc = .ok (.getfield 18, 3)) (kk : JW G X k n w (pc + 3) L (v :: rest)) : JW G X k n w pc L (.ref a :: rest) :=
  jw_get jU_X1 rfl 2 (by decide) rfl C kfl_X1_18 q0 he hv d kk
theorem fp_X1_18 {v : Int32} (C : JC G X rm cc RX1 nL) (q0 : Nat) (he : w[q0]? = some (a, .inr (1, fs))) (hl : 2 < fs.length) (d : decode cc pc = .ok (.putfield 18, 3)) (kk : JW G X k n (w.set q0 (a, .inr (1, fs.set 2 (.int v)))) (pc + 3) L rest) : JW G X k n w pc L (.int v :: .ref a :: rest) :=
  jw_put (ty := .int) jU_X1 tyX1_ok nmX1 rfl 2 (by decide) rfl rfl (by decide +kernel) C kfl_X1_18 q0 he rfl rfl hl d kk
theorem fg_X5_174 {v : Value} (C : JC G X rm cc RX5 nL) (q0 : Nat) (he : w[q0]? = some (a, .inr (1, fs))) (hv : fs[2]? = some v) (d : decode cc pc = .ok (.getfield 174, 3)) (kk : JW G X k n w (pc + 3) L (v :: rest)) : JW G X k n w pc L (.ref a :: rest) :=
  jw_getN jU_X1 rfl 2 (by decide) rfl C kfn_X5_174 q0 he hv d kk
theorem fp_X5_174 {v : Int32} (C : JC G X rm cc RX5 nL) (q0 : Nat) (he : w[q0]? = some (a, .inr (1, fs))) (hl : 2 < fs.length) (d : decode cc pc = .ok (.putfield 174, 3)) (kk : JW G X k n (w.set q0 (a, .inr (1, fs.set 2 (.int v)))) (pc + 3) L rest) : JW G X k n w pc L (.int v :: .ref a :: rest) :=
  jw_putN (ty := .int) jU_X1 tyX1_ok nmX1 rfl 2 (by decide) rfl rfl (by decide +kernel) C kfn_X5_174 q0 he rfl rfl hl d kk
theorem fg_X2_24 {v : Value} (C : JC G X rm cc RX2 nL) (q0 : Nat) (he : w[q0]? = some (a, .inr (2, fs))) (hv : fs[0]? = some v) (d : decode cc pc = .ok (.getfield 24, 3)) (kk : JW G X k n w (pc + 3) L (v :: rest)) : JW G X k n w pc L (.ref a :: rest) :=
  jw_get jU_X2 rfl 0 (by decide) rfl C kfl_X2_24 q0 he hv d kk
theorem fg_X2_9 {v : Value} (C : JC G X rm cc RX2 nL) (q0 : Nat) (he : w[q0]? = some (a, .inr (2, fs))) (hv : fs[1]? = some v) (d : decode cc pc = .ok (.getfield 9, 3)) (kk : JW G X k n w (pc + 3) L (v :: rest)) : JW G X k n w pc L (.ref a :: rest) :=
  jw_get jU_X2 rfl 1 (by decide) rfl C kfl_X2_9 q0 he hv d kk
theorem fg_X2_15 {v : Value} (C : JC G X rm cc RX2 nL) (q0 : Nat) (he : w[q0]? = some (a, .inr (2, fs))) (hv : fs[2]? = some v) (d : decode cc pc = .ok (.getfield 15, 3)) (kk : JW G X k n w (pc + 3) L (v :: rest)) : JW G X k n w pc L (.ref a :: rest) :=
  jw_get jU_X2 rfl 2 (by decide) rfl C kfl_X2_15 q0 he hv d kk
theorem fg_X2_18 {v : Value} (C : JC G X rm cc RX2 nL) (q0 : Nat) (he : w[q0]? = some (a, .inr (2, fs))) (hv : fs[3]? = some v) (d : decode cc pc = .ok (.getfield 18, 3)) (kk : JW G X k n w (pc + 3) L (v :: rest)) : JW G X k n w pc L (.ref a :: rest) :=
  jw_get jU_X2 rfl 3 (by decide) rfl C kfl_X2_18 q0 he hv d kk
theorem fg_X3_74 {v : Value} (C : JC G X rm cc RX3 nL) (q0 : Nat) (he : w[q0]? = some (a, .inr (2, fs))) (hv : fs[3]? = some v) (d : decode cc pc = .ok (.getfield 74, 3)) (kk : JW G X k n w (pc + 3) L (v :: rest)) : JW G X k n w pc L (.ref a :: rest) :=
  jw_getN jU_X2 rfl 3 (by decide) rfl C kfn_X3_74 q0 he hv d kk
theorem fg_X2_21 {v : Value} (C : JC G X rm cc RX2 nL) (q0 : Nat) (he : w[q0]? = some (a, .inr (2, fs))) (hv : fs[4]? = some v) (d : decode cc pc = .ok (.getfield 21, 3)) (kk : JW G X k n w (pc + 3) L (v :: rest)) : JW G X k n w pc L (.ref a :: rest) :=
  jw_get jU_X2 rfl 4 (by decide) rfl C kfl_X2_21 q0 he hv d kk
theorem fg_X3_84 {v : Value} (C : JC G X rm cc RX3 nL) (q0 : Nat) (he : w[q0]? = some (a, .inr (2, fs))) (hv : fs[4]? = some v) (d : decode cc pc = .ok (.getfield 84, 3)) (kk : JW G X k n w (pc + 3) L (v :: rest)) : JW G X k n w pc L (.ref a :: rest) :=
  jw_getN jU_X2 rfl 4 (by decide) rfl C kfn_X3_84 q0 he hv d kk
theorem fg_X2_43 {v : Value} (C : JC G X rm cc RX2 nL) (q0 : Nat) (he : w[q0]? = some (a, .inr (2, fs))) (hv : fs[5]? = some v) (d : decode cc pc = .ok (.getfield 43, 3)) (kk : JW G X k n w (pc + 3) L (v :: rest)) : JW G X k n w pc L (.ref a :: rest) :=
  jw_get jU_X2 rfl 5 (by decide) rfl C kfl_X2_43 q0 he hv d kk
theorem fp_X2_43 {v : Int32} (C : JC G X rm cc RX2 nL) (q0 : Nat) (he : w[q0]? = some (a, .inr (2, fs))) (hl : 5 < fs.length) (d : decode cc pc = .ok (.putfield 43, 3)) (kk : JW G X k n (w.set q0 (a, .inr (2, fs.set 5 (.int v)))) (pc + 3) L rest) : JW G X k n w pc L (.int v :: .ref a :: rest) :=
  jw_put (ty := .int) jU_X2 tyX2_ok nmX2 rfl 5 (by decide) rfl rfl (by decide +kernel) C kfl_X2_43 q0 he rfl rfl hl d kk
theorem fg_X3_81 {v : Value} (C : JC G X rm cc RX3 nL) (q0 : Nat) (he : w[q0]? = some (a, .inr (2, fs))) (hv : fs[5]? = some v) (d : decode cc pc = .ok (.getfield 81, 3)) (kk : JW G X k n w (pc + 3) L (v :: rest)) : JW G X k n w pc L (.ref a :: rest) :=
  jw_getN jU_X2 rfl 5 (by decide) rfl C kfn_X3_81 q0 he hv d kk
theorem fp_X3_81 {v : Int32} (C : JC G X rm cc RX3 nL) (q0 : Nat) (he : w[q0]? = some (a, .inr (2, fs))) (hl : 5 < fs.length) (d : decode cc pc = .ok (.putfield 81, 3)) (kk : JW G X k n (w.set q0 (a, .inr (2, fs.set 5 (.int v)))) (pc + 3) L rest) : JW G X k n w pc L (.int v :: .ref a :: rest) :=
  jw_putN (ty := .int) jU_X2 tyX2_ok nmX2 rfl 5 (by decide) rfl rfl (by decide +kernel) C kfn_X3_81 q0 he rfl rfl hl d kk
theorem fg_X3_15 {v : Value} (C : JC G X rm cc RX3 nL) (q0 : Nat) (he : w[q0]? = some (a, .inr (3, fs))) (hv : fs[0]? = some v) (d : decode cc pc = .ok (.getfield 15, 3)) (kk : JW G X k n w (pc + 3) L (v :: rest)) : JW G X k n w pc L (.ref a :: rest) :=
  jw_get jU_X3 rfl 0 (by decide) rfl C kfl_X3_15 q0 he hv d kk
theorem fg_X3_19 {v : Value} (C : JC G X rm cc RX3 nL) (q0 : Nat) (he : w[q0]? = some (a, .inr (3, fs))) (hv : fs[1]? = some v) (d : decode cc pc = .ok (.getfield 19, 3)) (kk : JW G X k n w (pc + 3) L (v :: rest)) : JW G X k n w pc L (.ref a :: rest) :=
  jw_get jU_X3 rfl 1 (by decide) rfl C kfl_X3_19 q0 he hv d kk
theorem fg_X3_23 {v : Value} (C : JC G X rm cc RX3 nL) (q0 : Nat) (he : w[q0]? = some (a, .inr (3, fs))) (hv : fs[2]? = some v) (d : decode cc pc = .ok (.getfield 23, 3)) (kk : JW G X k n w (pc + 3) L (v :: rest)) : JW G X k n w pc L (.ref a :: rest) :=
  jw_get jU_X3 rfl 2 (by decide) rfl C kfl_X3_23 q0 he hv d kk
theorem fg_X3_9 {v : Value} (C : JC G X rm cc RX3 nL) (q0 : Nat) (he : w[q0]? = some (a, .inr (3, fs))) (hv : fs[3]? = some v) (d : decode cc pc = .ok (.getfield 9, 3)) (kk : JW G X k n w (pc + 3) L (v :: rest)) : JW G X k n w pc L (.ref a :: rest) :=
  jw_get jU_X3 rfl 3 (by decide) rfl C kfl_X3_9 q0 he hv d kk
theorem fg_X0_37 {v : Value} (C : JC G X rm cc RX0 nL) (q0 : Nat) (he : w[q0]? = some (a, .inr (0, fs))) (hv : fs[0]? = some v) (d : decode cc pc = .ok (.getfield 37, 3)) (kk : JW G X k n w (pc + 3) L (v :: rest)) : JW G X k n w pc L (.ref a :: rest) :=
  jw_get jU_X0 rfl 0 (by decide) rfl C kfl_X0_37 q0 he hv d kk
theorem fg_X0_9 {v : Value} (C : JC G X rm cc RX0 nL) (q0 : Nat) (he : w[q0]? = some (a, .inr (0, fs))) (hv : fs[1]? = some v) (d : decode cc pc = .ok (.getfield 9, 3)) (kk : JW G X k n w (pc + 3) L (v :: rest)) : JW G X k n w pc L (.ref a :: rest) :=
  jw_get jU_X0 rfl 1 (by decide) rfl C kfl_X0_9 q0 he hv d kk
theorem fg_X0_15 {v : Value} (C : JC G X rm cc RX0 nL) (q0 : Nat) (he : w[q0]? = some (a, .inr (0, fs))) (hv : fs[2]? = some v) (d : decode cc pc = .ok (.getfield 15, 3)) (kk : JW G X k n w (pc + 3) L (v :: rest)) : JW G X k n w pc L (.ref a :: rest) :=
  jw_get jU_X0 rfl 2 (by decide) rfl C kfl_X0_15 q0 he hv d kk
theorem fg_X0_18 {v : Value} (C : JC G X rm cc RX0 nL) (q0 : Nat) (he : w[q0]? = some (a, .inr (0, fs))) (hv : fs[3]? = some v) (d : decode cc pc = .ok (.getfield 18, 3)) (kk : JW G X k n w (pc + 3) L (v :: rest)) : JW G X k n w pc L (.ref a :: rest) :=
  jw_get jU_X0 rfl 3 (by decide) rfl C kfl_X0_18 q0 he hv d kk
theorem fg_X0_21 {v : Value} (C : JC G X rm cc RX0 nL) (q0 : Nat) (he : w[q0]? = some (a, .inr (0, fs))) (hv : fs[4]? = some v) (d : decode cc pc = .ok (.getfield 21, 3)) (kk : JW G X k n w (pc + 3) L (v :: rest)) : JW G X k n w pc L (.ref a :: rest) :=
  jw_get jU_X0 rfl 4 (by decide) rfl C kfl_X0_21 q0 he hv d kk
theorem fg_X0_24 {v : Value} (C : JC G X rm cc RX0 nL) (q0 : Nat) (he : w[q0]? = some (a, .inr (0, fs))) (hv : fs[5]? = some v) (d : decode cc pc = .ok (.getfield 24, 3)) (kk : JW G X k n w (pc + 3) L (v :: rest)) : JW G X k n w pc L (.ref a :: rest) :=
  jw_get jU_X0 rfl 5 (by decide) rfl C kfl_X0_24 q0 he hv d kk
theorem fg_X0_90 {v : Value} (C : JC G X rm cc RX0 nL) (q0 : Nat) (he : w[q0]? = some (a, .inr (0, fs))) (hv : fs[6]? = some v) (d : decode cc pc = .ok (.getfield 90, 3)) (kk : JW G X k n w (pc + 3) L (v :: rest)) : JW G X k n w pc L (.ref a :: rest) :=
  jw_get jU_X0 rfl 6 (by decide) rfl C kfl_X0_90 q0 he hv d kk
theorem fp_X0_90 {v : Int32} (C : JC G X rm cc RX0 nL) (q0 : Nat) (he : w[q0]? = some (a, .inr (0, fs))) (hl : 6 < fs.length) (d : decode cc pc = .ok (.putfield 90, 3)) (kk : JW G X k n (w.set q0 (a, .inr (0, fs.set 6 (.int v)))) (pc + 3) L rest) : JW G X k n w pc L (.int v :: .ref a :: rest) :=
  jw_put (ty := .int) jU_X0 tyX0_ok nmX0 rfl 6 (by decide) rfl rfl (by decide +kernel) C kfl_X0_90 q0 he rfl rfl hl d kk
theorem fg_X0_27 {v : Value} (C : JC G X rm cc RX0 nL) (q0 : Nat) (he : w[q0]? = some (a, .inr (0, fs))) (hv : fs[7]? = some v) (d : decode cc pc = .ok (.getfield 27, 3)) (kk : JW G X k n w (pc + 3) L (v :: rest)) : JW G X k n w pc L (.ref a :: rest) :=
  jw_get jU_X0 rfl 7 (by decide) rfl C kfl_X0_27 q0 he hv d kk
theorem fg_X0_31 {v : Value} (C : JC G X rm cc RX0 nL) (q0 : Nat) (he : w[q0]? = some (a, .inr (0, fs))) (hv : fs[8]? = some v) (d : decode cc pc = .ok (.getfield 31, 3)) (kk : JW G X k n w (pc + 3) L (v :: rest)) : JW G X k n w pc L (.ref a :: rest) :=
  jw_get jU_X0 rfl 8 (by decide) rfl C kfl_X0_31 q0 he hv d kk
theorem fg_X0_34 {v : Value} (C : JC G X rm cc RX0 nL) (q0 : Nat) (he : w[q0]? = some (a, .inr (0, fs))) (hv : fs[9]? = some v) (d : decode cc pc = .ok (.getfield 34, 3)) (kk : JW G X k n w (pc + 3) L (v :: rest)) : JW G X k n w pc L (.ref a :: rest) :=
  jw_get jU_X0 rfl 9 (by decide) rfl C kfl_X0_34 q0 he hv d kk
theorem fg_X5_10 {v : Value} (C : JC G X rm cc RX5 nL) (q0 : Nat) (he : w[q0]? = some (a, .inr (5, fs))) (hv : fs[0]? = some v) (d : decode cc pc = .ok (.getfield 10, 3)) (kk : JW G X k n w (pc + 3) L (v :: rest)) : JW G X k n w pc L (.ref a :: rest) :=
  jw_get jU_X5 rfl 0 (by decide) rfl C kfl_X5_10 q0 he hv d kk
theorem fg_X5_19 {v : Value} (C : JC G X rm cc RX5 nL) (q0 : Nat) (he : w[q0]? = some (a, .inr (5, fs))) (hv : fs[1]? = some v) (d : decode cc pc = .ok (.getfield 19, 3)) (kk : JW G X k n w (pc + 3) L (v :: rest)) : JW G X k n w pc L (.ref a :: rest) :=
  jw_get jU_X5 rfl 1 (by decide) rfl C kfl_X5_19 q0 he hv d kk
theorem fg_X5_28 {v : Value} (C : JC G X rm cc RX5 nL) (q0 : Nat) (he : w[q0]? = some (a, .inr (5, fs))) (hv : fs[2]? = some v) (d : decode cc pc = .ok (.getfield 28, 3)) (kk : JW G X k n w (pc + 3) L (v :: rest)) : JW G X k n w pc L (.ref a :: rest) :=
  jw_get jU_X5 rfl 2 (by decide) rfl C kfl_X5_28 q0 he hv d kk
theorem fg_X5_37 {v : Value} (C : JC G X rm cc RX5 nL) (q0 : Nat) (he : w[q0]? = some (a, .inr (5, fs))) (hv : fs[3]? = some v) (d : decode cc pc = .ok (.getfield 37, 3)) (kk : JW G X k n w (pc + 3) L (v :: rest)) : JW G X k n w pc L (.ref a :: rest) :=
  jw_get jU_X5 rfl 3 (by decide) rfl C kfl_X5_37 q0 he hv d kk
theorem fg_X5_44 {v : Value} (C : JC G X rm cc RX5 nL) (q0 : Nat) (he : w[q0]? = some (a, .inr (5, fs))) (hv : fs[4]? = some v) (d : decode cc pc = .ok (.getfield 44, 3)) (kk : JW G X k n w (pc + 3) L (v :: rest)) : JW G X k n w pc L (.ref a :: rest) :=
  jw_get jU_X5 rfl 4 (by decide) rfl C kfl_X5_44 q0 he hv d kk
theorem fg_X6_60 {v : Value} (C : JC G X rm cc RX6 nL) (q0 : Nat) (he : w[q0]? = some (a, .inr (6, fs))) (hv : fs[0]? = some v) (d : decode cc pc = .ok (.getfield 60, 3)) (kk : JW G X k n w (pc + 3) L (v :: rest)) : JW G X k n w pc L (.ref a :: rest) :=
  jw_get jU_X6 rfl 0 (by decide) rfl C kfl_X6_60 q0 he hv d kk
theorem fp_X6_60 {v : Int32} (C : JC G X rm cc RX6 nL) (q0 : Nat) (he : w[q0]? = some (a, .inr (6, fs))) (hl : 0 < fs.length) (d : decode cc pc = .ok (.putfield 60, 3)) (kk : JW G X k n (w.set q0 (a, .inr (6, fs.set 0 (.int v)))) (pc + 3) L rest) : JW G X k n w pc L (.int v :: .ref a :: rest) :=
  jw_put (ty := .int) jU_X6 tyX6_ok nmX6 rfl 0 (by decide) rfl rfl (by decide +kernel) C kfl_X6_60 q0 he rfl rfl hl d kk
theorem fg_X6_63 {v : Value} (C : JC G X rm cc RX6 nL) (q0 : Nat) (he : w[q0]? = some (a, .inr (6, fs))) (hv : fs[1]? = some v) (d : decode cc pc = .ok (.getfield 63, 3)) (kk : JW G X k n w (pc + 3) L (v :: rest)) : JW G X k n w pc L (.ref a :: rest) :=
  jw_get jU_X6 rfl 1 (by decide) rfl C kfl_X6_63 q0 he hv d kk
theorem fp_X6_63 {v : Int32} (C : JC G X rm cc RX6 nL) (q0 : Nat) (he : w[q0]? = some (a, .inr (6, fs))) (hl : 1 < fs.length) (d : decode cc pc = .ok (.putfield 63, 3)) (kk : JW G X k n (w.set q0 (a, .inr (6, fs.set 1 (.int v)))) (pc + 3) L rest) : JW G X k n w pc L (.int v :: .ref a :: rest) :=
  jw_put (ty := .int) jU_X6 tyX6_ok nmX6 rfl 1 (by decide) rfl rfl (by decide +kernel) C kfl_X6_63 q0 he rfl rfl hl d kk
theorem fg_X6_9 {v : Value} (C : JC G X rm cc RX6 nL) (q0 : Nat) (he : w[q0]? = some (a, .inr (6, fs))) (hv : fs[2]? = some v) (d : decode cc pc = .ok (.getfield 9, 3)) (kk : JW G X k n w (pc + 3) L (v :: rest)) : JW G X k n w pc L (.ref a :: rest) :=
  jw_get jU_X6 rfl 2 (by decide) rfl C kfl_X6_9 q0 he hv d kk
theorem fg_X6_13 {v : Value} (C : JC G X rm cc RX6 nL) (q0 : Nat) (he : w[q0]? = some (a, .inr (6, fs))) (hv : fs[3]? = some v) (d : decode cc pc = .ok (.getfield 13, 3)) (kk : JW G X k n w (pc + 3) L (v :: rest)) : JW G X k n w pc L (.ref a :: rest) :=
  jw_get jU_X6 rfl 3 (by decide) rfl C kfl_X6_13 q0 he hv d kk
theorem fg_X6_16 {v : Value} (C : JC G X rm cc RX6 nL) (q0 : Nat) (he : w[q0]? = some (a, .inr (6, fs))) (hv : fs[4]? = some v) (d : decode cc pc = .ok (.getfield 16, 3)) (kk : JW G X k n w (pc + 3) L (v :: rest)) : JW G X k n w pc L (.ref a :: rest) :=
  jw_get jU_X6 rfl 4 (by decide) rfl C kfl_X6_16 q0 he hv d kk
theorem fg_X6_66 {v : Value} (C : JC G X rm cc RX6 nL) (q0 : Nat) (he : w[q0]? = some (a, .inr (6, fs))) (hv : fs[5]? = some v) (d : decode cc pc = .ok (.getfield 66, 3)) (kk : JW G X k n w (pc + 3) L (v :: rest)) : JW G X k n w pc L (.ref a :: rest) :=
  jw_get jU_X6 rfl 5 (by decide) rfl C kfl_X6_66 q0 he hv d kk
theorem fp_X6_66 {v : Int32} (C : JC G X rm cc RX6 nL) (q0 : Nat) (he : w[q0]? = some (a, .inr (6, fs))) (hl : 5 < fs.length) (d : decode cc pc = .ok (.putfield 66, 3)) (kk : JW G X k n (w.set q0 (a, .inr (6, fs.set 5 (.int v)))) (pc + 3) L rest) : JW G X k n w pc L (.int v :: .ref a :: rest) :=
  jw_put (ty := .int) jU_X6 tyX6_ok nmX6 rfl 5 (by decide) rfl rfl (by decide +kernel) C kfl_X6_66 q0 he rfl rfl hl d kk
theorem fg_X6_19 {v : Value} (C : JC G X rm cc RX6 nL) (q0 : Nat) (he : w[q0]? = some (a, .inr (6, fs))) (hv : fs[6]? = some v) (d : decode cc pc = .ok (.getfield 19, 3)) (kk : JW G X k n w (pc + 3) L (v :: rest)) : JW G X k n w pc L (.ref a :: rest) :=
  jw_get jU_X6 rfl 6 (by decide) rfl C kfl_X6_19 q0 he hv d kk
theorem fg_X6_22 {v : Value} (C : JC G X rm cc RX6 nL) (q0 : Nat) (he : w[q0]? = some (a, .inr (6, fs))) (hv : fs[7]? = some v) (d : decode cc pc = .ok (.getfield 22, 3)) (kk : JW G X k n w (pc + 3) L (v :: rest)) : JW G X k n w pc L (.ref a :: rest) :=
  jw_get jU_X6 rfl 7 (by decide) rfl C kfl_X6_22 q0 he hv d kk
theorem fg_X6_25 {v : Value} (C : JC G X rm cc RX6 nL) (q0 : Nat) (he : w[q0]? = some (a, .inr (6, fs))) (hv : fs[8]? = some v) (d : decode cc pc = .ok (.getfield 25, 3)) (kk : JW G X k n w (pc + 3) L (v :: rest)) : JW G X k n w pc L (.ref a :: rest) :=
  jw_get jU_X6 rfl 8 (by decide) rfl C kfl_X6_25 q0 he hv d kk
theorem fg_X6_28 {v : Value} (C : JC G X rm cc RX6 nL) (q0 : Nat) (he : w[q0]? = some (a, .inr (6, fs))) (hv : fs[9]? = some v) (d : decode cc pc = .ok (.getfield 28, 3)) (kk : JW G X k n w (pc + 3) L (v :: rest)) : JW G X k n w pc L (.ref a :: rest) :=
  jw_get jU_X6 rfl 9 (by decide) rfl C kfl_X6_28 q0 he hv d kk
theorem fg_X6_31 {v : Value} (C : JC G X rm cc RX6 nL) (q0 : Nat) (he : w[q0]? = some (a, .inr (6, fs))) (hv : fs[10]? = some v) (d : decode cc pc = .ok (.getfield 31, 3)) (kk : JW G X k n w (pc + 3) L (v :: rest)) : JW G X k n w pc L (.ref a :: rest) :=
  jw_get jU_X6 rfl 10 (by decide) rfl C kfl_X6_31 q0 he hv d kk
theorem fg_X6_34 {v : Value} (C : JC G X rm cc RX6 nL) (q0 : Nat) (he : w[q0]? = some (a, .inr (6, fs))) (hv : fs[11]? = some v) (d : decode cc pc = .ok (.getfield 34, 3)) (kk : JW G X k n w (pc + 3) L (v :: rest)) : JW G X k n w pc L (.ref a :: rest) :=
  jw_get jU_X6 rfl 11 (by decide) rfl C kfl_X6_34 q0 he hv d kk
theorem fp_X6_34 {v : Int32} (C : JC G X rm cc RX6 nL) (q0 : Nat) (he : w[q0]? = some (a, .inr (6, fs))) (hl : 11 < fs.length) (d : decode cc pc = .ok (.putfield 34, 3)) (kk : JW G X k n (w.set q0 (a, .inr (6, fs.set 11 (.int v)))) (pc + 3) L rest) : JW G X k n w pc L (.int v :: .ref a :: rest) :=
  jw_put (ty := .int) jU_X6 tyX6_ok nmX6 rfl 11 (by decide) rfl rfl (by decide +kernel) C kfl_X6_34 q0 he rfl rfl hl d kk
theorem fg_X6_38 {v : Value} (C : JC G X rm cc RX6 nL) (q0 : Nat) (he : w[q0]? = some (a, .inr (6, fs))) (hv : fs[12]? = some v) (d : decode cc pc = .ok (.getfield 38, 3)) (kk : JW G X k n w (pc + 3) L (v :: rest)) : JW G X k n w pc L (.ref a :: rest) :=
  jw_get jU_X6 rfl 12 (by decide) rfl C kfl_X6_38 q0 he hv d kk
theorem fp_X6_38 {v : Int32} (C : JC G X rm cc RX6 nL) (q0 : Nat) (he : w[q0]? = some (a, .inr (6, fs))) (hl : 12 < fs.length) (d : decode cc pc = .ok (.putfield 38, 3)) (kk : JW G X k n (w.set q0 (a, .inr (6, fs.set 12 (.int v)))) (pc + 3) L rest) : JW G X k n w pc L (.int v :: .ref a :: rest) :=
  jw_put (ty := .int) jU_X6 tyX6_ok nmX6 rfl 12 (by decide) rfl rfl (by decide +kernel) C kfl_X6_38 q0 he rfl rfl hl d kk
theorem fg_X6_102 {v : Value} (C : JC G X rm cc RX6 nL) (q0 : Nat) (he : w[q0]? = some (a, .inr (6, fs))) (hv : fs[13]? = some v) (d : decode cc pc = .ok (.getfield 102, 3)) (kk : JW G X k n w (pc + 3) L (v :: rest)) : JW G X k n w pc L (.ref a :: rest) :=
  jw_get jU_X6 rfl 13 (by decide) rfl C kfl_X6_102 q0 he hv d kk
theorem fp_X6_102 {v : Int32} (C : JC G X rm cc RX6 nL) (q0 : Nat) (he : w[q0]? = some (a, .inr (6, fs))) (hl : 13 < fs.length) (d : decode cc pc = .ok (.putfield 102, 3)) (kk : JW G X k n (w.set q0 (a, .inr (6, fs.set 13 (.int v)))) (pc + 3) L rest) : JW G X k n w pc L (.int v :: .ref a :: rest) :=
  jw_put (ty := .int) jU_X6 tyX6_ok nmX6 rfl 13 (by decide) rfl rfl (by decide +kernel) C kfl_X6_102 q0 he rfl rfl hl d kk
theorem fg_X6_41 {v : Value} (C : JC G X rm cc RX6 nL) (q0 : Nat) (he : w[q0]? = some (a, .inr (6, fs))) (hv : fs[14]? = some v) (d : decode cc pc = .ok (.getfield 41, 3)) (kk : JW G X k n w (pc + 3) L (v :: rest)) : JW G X k n w pc L (.ref a :: rest) :=
  jw_get jU_X6 rfl 14 (by decide) rfl C kfl_X6_41 q0 he hv d kk
theorem fg_X6_44 {v : Value} (C : JC G X rm cc RX6 nL) (q0 : Nat) (he : w[q0]? = some (a, .inr (6, fs))) (hv : fs[15]? = some v) (d : decode cc pc = .ok (.getfield 44, 3)) (kk : JW G X k n w (pc + 3) L (v :: rest)) : JW G X k n w pc L (.ref a :: rest) :=
  jw_get jU_X6 rfl 15 (by decide) rfl C kfl_X6_44 q0 he hv d kk
theorem fg_X6_47 {v : Value} (C : JC G X rm cc RX6 nL) (q0 : Nat) (he : w[q0]? = some (a, .inr (6, fs))) (hv : fs[16]? = some v) (d : decode cc pc = .ok (.getfield 47, 3)) (kk : JW G X k n w (pc + 3) L (v :: rest)) : JW G X k n w pc L (.ref a :: rest) :=
  jw_get jU_X6 rfl 16 (by decide) rfl C kfl_X6_47 q0 he hv d kk
theorem fg_X6_50 {v : Value} (C : JC G X rm cc RX6 nL) (q0 : Nat) (he : w[q0]? = some (a, .inr (6, fs))) (hv : fs[17]? = some v) (d : decode cc pc = .ok (.getfield 50, 3)) (kk : JW G X k n w (pc + 3) L (v :: rest)) : JW G X k n w pc L (.ref a :: rest) :=
  jw_get jU_X6 rfl 17 (by decide) rfl C kfl_X6_50 q0 he hv d kk
theorem fg_X6_54 {v : Value} (C : JC G X rm cc RX6 nL) (q0 : Nat) (he : w[q0]? = some (a, .inr (6, fs))) (hv : fs[18]? = some v) (d : decode cc pc = .ok (.getfield 54, 3)) (kk : JW G X k n w (pc + 3) L (v :: rest)) : JW G X k n w pc L (.ref a :: rest) :=
  jw_get jU_X6 rfl 18 (by decide) rfl C kfl_X6_54 q0 he hv d kk
theorem fg_X6_57 {v : Value} (C : JC G X rm cc RX6 nL) (q0 : Nat) (he : w[q0]? = some (a, .inr (6, fs))) (hv : fs[19]? = some v) (d : decode cc pc = .ok (.getfield 57, 3)) (kk : JW G X k n w (pc + 3) L (v :: rest)) : JW G X k n w pc L (.ref a :: rest) :=
  jw_get jU_X6 rfl 19 (by decide) rfl C kfl_X6_57 q0 he hv d kk
end JLINK
end
section
/-! THROWING AND CATCHING over JW -/
def jFace : List Cond := lw_tbl.filter Cond.faceAtom
theorem jFace_tbl : ∀ w ∈ jFace, w ∈ lw_tbl := fun _ h => (List.mem_filter.mp h).1
theorem jFace_on {w : Cond} (h : w ∈ jFace) : w.onTables = true := by
  have h2 := (List.mem_filter.mp h).2
  cases w <;> first | rfl | (simp [Cond.faceAtom] at h2)
theorem jFace_warm {w : Cond} (h : w ∈ jFace) {s U : State} (hW : s.WarmedH U.vm) (hZ : va_Nw w s) : va_Nw w U :=
  va_tabs (jFace_on h) (u := s.setVm U.vm) (U := U) rfl (Cond.faceAtom_setVm hW.alike w (List.mem_filter.mp h).2 hZ)
theorem jfd {w : Cond} (h : w ∈ lw_tbl) (g : w.faceAtom = true) : w ∈ jFace := List.mem_filter.mpr ⟨h, g⟩
abbrev E_IAE : String := "java/lang/IllegalArgumentException"
abbrev E_ISE : String := "java/lang/IllegalStateException"
abbrev E_IOE : String := "java/lang/IndexOutOfBoundsException"
abbrev E_NSE : String := "java/util/NoSuchElementException"
abbrev jNames : List String := ["java/lang/RuntimeException", "java/lang/Exception"]
def jS : List (Nat × String) := [(54, "the capacity is not 0 to 4"), (65, "there are 12 resources"), (93, "the quota is not 0 to 40"), (95, "the weight is not 1 to 10"), (106, "the path limit is not 0 to 5"), (108, "the move limit is not 0 to 20"), (122, "40 requests have arrived"), (165, "the request is not assigned"), (189, "the request is not waiting"), (210, "there is no such resource"), (213, "there is no such group"), (215, "no request with this number has arrived"), (217, "the request has departed"), (222, "the mask names a resource that does not exist"), (224, "there is no such index in the log")]
def jNcs : List (String × String) := [(E_ISE, E_IAE), (E_IAE, E_IOE), (E_ISE, E_IOE), (E_NSE, E_IOE), (E_IAE, E_NSE)]
/-! NoSuchElementException's constructor: her first pass bears another index -/
def jN13 : ByteArray := ⟨#[0x2a, 0x2b, 0xb7, 0x00, 0x0d, 0xb1]⟩
def jNTail (own : String) (ic : Nat) (E : String) : List Cond :=
  [.methodLink own ic (Bundle.initS E), .instantiable E 6, .castable E E, .selects E Bundle.tFill0 Bundle.tFill0, .selects E Bundle.tFill Bundle.tFill,
   .lays E Bundle.tN "cause" "Ljava/lang/Throwable;", .lays E Bundle.tN "stackTrace" Bundle.steD, .lays E Bundle.tN "suppressedExceptions" Bundle.listD, .lays E Bundle.tN "detailMessage" "Ljava/lang/String;",
   .isRef (.static Bundle.tN "UNASSIGNED_STACK" Bundle.steD), .isRef (.static Bundle.tN "SUPPRESSED_SENTINEL" Bundle.listD),
   .fieldLink Bundle.tN 198 Bundle.tN "backtrace" "Ljava/lang/Object;", .lays Bundle.tN Bundle.tN "backtrace" "Ljava/lang/Object;", .lays E Bundle.tN "backtrace" "Ljava/lang/Object;"]
def jNPass : List Cond := Bundle.passSAtoms E_NSE "java/lang/RuntimeException" 13 jN13
def jNAtoms (own : String) (ic : Nat) : List Cond := Bundle.throwableAtoms ++ Bundle.throwableSAtoms ++ jNPass ++ Bundle.chainSAtoms "java/lang/RuntimeException" ["java/lang/Exception"] ++ jNTail own ic E_NSE
theorem jN_a {own : String} {ic : Nat} {z : Cond} (h : z ∈ Bundle.throwableAtoms) : z ∈ jNAtoms own ic := by simp only [jNAtoms, List.mem_append]; exact Or.inl (Or.inl (Or.inl (Or.inl h)))
theorem jN_b {own : String} {ic : Nat} {z : Cond} (h : z ∈ Bundle.throwableSAtoms) : z ∈ jNAtoms own ic := by simp only [jNAtoms, List.mem_append]; exact Or.inl (Or.inl (Or.inl (Or.inr h)))
theorem jN_c {own : String} {ic : Nat} {z : Cond} (h : z ∈ jNPass) : z ∈ jNAtoms own ic := by simp only [jNAtoms, List.mem_append]; exact Or.inl (Or.inl (Or.inr h))
theorem jN_d {own : String} {ic : Nat} {z : Cond} (h : z ∈ Bundle.chainSAtoms "java/lang/RuntimeException" ["java/lang/Exception"]) : z ∈ jNAtoms own ic := by simp only [jNAtoms, List.mem_append]; exact Or.inl (Or.inr h)
theorem jN_e {own : String} {ic : Nat} {z : Cond} (h : z ∈ jNTail own ic E_NSE) : z ∈ jNAtoms own ic := by simp only [jNAtoms, List.mem_append]; exact Or.inr h
theorem jN13_0 : decode jN13 0 = .ok (.aload_n 0, 1) := by decide +kernel
theorem jN13_1 : decode jN13 1 = .ok (.aload_n 1, 1) := by decide +kernel
theorem jN13_2 : decode jN13 2 = .ok (.invokespecial 13, 3) := by decide +kernel
theorem jN13_5 : decode jN13 5 = .ok (.return_, 1) := by decide +kernel
section JNSE
variable {p : Program} {l : Launch} {e : Env} {R : Room} {s : State} {m : MethodId} {args : Array Value} {below : List Frame} {meth : Method} {c : Code} {T0 : State} {locs0 : List Loc} {cells slots : Nat}
set_option maxHeartbeats 1000000 in
/-- invokespecial of the constructor and athrow, from the frame behind 'new; dup; ldc' -/
theorem jn_ctor (X : Stand p l e R s m args below meth c T0 locs0 cells slots) (hexec : p.tables.exec = Jvm.exec) (htr : e.platform.stackTraces = false) {own : String} {ic : Nat} (hown : s.vm.findClass own = some m.cls)
    (h : ∀ z ∈ jNAtoms own ic, z.before args s = true) (hlocs : ∀ x ∈ locs0, ∀ cell, s.heap[x.base]? = some cell → cell.vm.isStatics = false)
    {a : Addr} {cX : ClassId} {kX : Class} (hfX : s.vm.findClass E_NSE = some cX) (hkX : s.vm.classes[cX]? = some kX) (hcell : T0.heap[a]? = some (freshCell cX kX)) (hnew : s.heap.size ≤ a) {msg : Value} (hmsg : msg.isRef = true)
    {g : JFrame} (hg : g.method = m) (hsize : g.locals.size = c.maxLocals) (hlocked : g.locked = none) (hentered : g.entered = []) {rest : List Value} (hstack : g.stack = msg :: .ref a :: .ref a :: rest)
    (d6 : decode c.code g.pc = .ok (.invokespecial ic, 3)) (d9 : decode c.code (g.pc + 3) = .ok (.athrow, 1)) (hout : ∀ x ∈ c.exceptionTable.toList, covers x (g.pc + 3) = false)
    (hRf : 5 < R.frames) (hRl : 2 * g.monitorRoom + ((Value.ref a :: rest).map fun v => v.category).sum + 81 ≤ R.locals) (hlocks : meth.locks = false) :
    ∃ U : State, Steps p.tables e below (T0.setTop g) U ∧ U.status = .running ∧ Ended U below (.threw a) ∧ s.WarmedH U.vm ∧ s.sameButNew ({ U with vm := s.vm } : State) locs0 cells slots ∧ ∃ ce, U.heap[a]? = some ce ∧ s.vm.findClass E_NSE = some ce.cls ∧ ce.vm = .none := by
  have hown2 : e.platform.frameOwnsMonitors = true := by rw [X.admits.platform]
  have hfin : e.platform.finalization = false := by rw [X.admits.platform]
  have hpl : e.platform.magicAccessors = ({} : Platform).magicAccessors := by rw [X.admits.platform]
  have tl : ∀ x, x ∈ jNTail own ic E_NSE → x.holds args s none s [] = true := fun x hx => h x (jN_e hx)
  obtain ⟨T, Z0, L, -, Y⟩ := ThrowableC.of_atoms (args := args) hown2 hfin hpl (fun x hx => h x (jN_a hx))
  obtain ⟨Z, M, LZ, LM, hnZ⟩ := Init0T.ofS_atoms (args := args) hpl L Y (fun x hx => h x (jN_b hx))
  obtain ⟨P2, Ps, hlen, L2, hL, hP2m, hl2, hpass⟩ := Bundle.chainS (args := args) hpl hnZ ["java/lang/Exception"] "java/lang/RuntimeException" (by decide +kernel) (by decide +kernel) (fun x hx => h x (jN_d hx))
  obtain ⟨P1, L1, hP1m, hP1s⟩ := PassC.ofS_atoms (args := args) (s := s) hpl (X := E_NSE) (Y := "java/lang/RuntimeException") (index := 13) (bytes := jN13) (by decide +kernel) (by decide) jN13_0 jN13_1 jN13_2 jN13_5 (fun x hx => h x (jN_c hx))
  have hl1 : P1.sup = P2.m := Option.some.inj (hP1s.symm.trans hP2m)
  have hfound : s.vm.findClass E_NSE = some P1.m.cls := findClass_of_methodNamed hP1m
  cases Option.some.inj (hfX.symm.trans hfound)
  obtain ⟨c1, kX', q1, q2, hord, -, -, hn6⟩ := Cond.instantiable_spec (tl (.instantiable E_NSE 6) (by simp [jNTail]))
  cases Option.some.inj (q1.symm.trans hfound)
  cases Option.some.inj (hkX.symm.trans q2)
  have sel : ∀ (x : MethodName) (mid : MethodId), Cond.selects E_NSE x x ∈ jNTail own ic E_NSE → s.methodFound? x.cls x.name x.desc = some mid → s.methodNamed? x = some mid → selectMethod e.platform s.vm P1.m.cls mid = .method mid := by
    intro x mid hx hf hn
    obtain ⟨c2, r2, m2, g1, g2, g3, g4, -⟩ := Cond.selects_spec (tl _ hx)
    cases Option.some.inj (g1.symm.trans hfound)
    cases Option.some.inj (g2.symm.trans hf)
    cases Option.some.inj (g3.symm.trans hn)
    rw [Launch.admits_selectMethod X.admits]
    exact g4
  have hsel0 := sel Bundle.tFill0 T.fill0 (by simp [jNTail]) (State.methodFound?_of_named Y.fill0 (by decide)) Y.fill0
  have hselF := sel Bundle.tFill T.fill (by simp [jNTail]) (State.methodFound?_of_named Y.fill (by decide)) Y.fill
  obtain ⟨cS0, hcS0, hiss⟩ := Y.statics
  obtain ⟨u0, hu0⟩ := Cond.staticRefV Y.unassigned L.unassignedStatic L.statics hcS0 hiss (tl (.isRef (.static Bundle.tN "UNASSIGNED_STACK" Bundle.steD)) (by simp [jNTail]))
  obtain ⟨sen, hsen⟩ := Cond.staticRefV Y.sentinel L.sentinelStatic L.statics hcS0 hiss (tl (.isRef (.static Bundle.tN "SUPPRESSED_SENTINEL" Bundle.listD)) (by simp [jNTail]))
  obtain ⟨cb, ib, fB, b1, b2, b3, b4, -, hnB, htB, hffB⟩ := Cond.ownField (t := .object "java/lang/Object") Y.found L.cls (by decide +kernel) (tl (.fieldLink Bundle.tN 198 Bundle.tN "backtrace" "Ljava/lang/Object;") (by simp [jNTail])) (tl (.lays Bundle.tN Bundle.tN "backtrace" "Ljava/lang/Object;") (by simp [jNTail])) e.platform hpl
  obtain ⟨cS, hcS, heS, -, hkeep⟩ := X.same.2.2.2.2.2 T.aS cS0 hcS0
  have hnotin : ∀ i, (⟨T.aS, i⟩ : Loc) ∉ locs0 := fun i hmem => by
    have h9 := hlocs _ hmem cS0 hcS0
    rw [hiss] at h9; cases h9
  have hknS : cS.vm ≠ .unknown := by
    rw [heS]; intro hu
    rw [show cS0.vm = .unknown from hu] at hiss
    cases hiss
  have hne : T.aS ≠ a := Nat.ne_of_lt (Nat.lt_of_lt_of_le (Array.getElem?_eq_some_iff.mp hcS0).1 hnew)
  obtain ⟨iM, hffM⟩ := Y.msg
  obtain ⟨tyC, dC, hdC, hdnC⟩ := Cond.laysAt hfound q2 Y.cause (tl (.lays E_NSE Bundle.tN "cause" "Ljava/lang/Throwable;") (by simp [jNTail]))
  obtain ⟨tyS, dS, hdS, hdnS⟩ := Cond.laysAt hfound q2 Y.stack (tl (.lays E_NSE Bundle.tN "stackTrace" Bundle.steD) (by simp [jNTail]))
  obtain ⟨tyP, dP, hdP, hdnP⟩ := Cond.laysAt hfound q2 Y.supp (tl (.lays E_NSE Bundle.tN "suppressedExceptions" Bundle.listD) (by simp [jNTail]))
  obtain ⟨tyM, dM, hdM, hdnM⟩ := Cond.laysAt hfound q2 hffM (tl (.lays E_NSE Bundle.tN "detailMessage" "Ljava/lang/String;") (by simp [jNTail]))
  obtain ⟨tyB, dB, hdB, hdnB⟩ := Cond.laysAt hfound q2 hffB (tl (.lays E_NSE Bundle.tN "backtrace" "Ljava/lang/Object;") (by simp [jNTail]))
  have bC := Cond.laysApart hdB hdC hdnB hdnC (by rw [hnB, Y.causeName]; decide)
  have bS := Cond.laysApart hdB hdS hdnB hdnS (by rw [hnB, Y.stackName]; decide)
  have bP := Cond.laysApart hdB hdP hdnB hdnP (by rw [hnB, Y.suppName]; decide)
  have hskip : SkipFacts T e.platform s (fun u => u) u0 ((preparedCellV T.toThrowableT (freshCell P1.m.cls kX) a u0 sen).withEntry T0.cur) :=
    ⟨{ ci198 := cb, i198 := ib, fBack := fB }, ⟨b1, b2, b3, b4⟩, by
      have h9 := fresh_default (c := P1.m.cls) tyB
      rw [htB] at h9
      simpa [preparedCellV, Cell.setSlot, Cell.withEntry, Array.getElem?_setIfInBounds, bC, bS, bP, bC.symm, bS.symm, bP.symm, defaultValue] using h9, fun _ _ => rfl⟩
  obtain ⟨tm, mC, cdC, kC, vm₁, hnC, -, -, -, -, -, -, -, hW1, st1⟩ := Steps.initColdS (tb := p.tables) (e := e) (below := below) (s := s) (U := T0) X.here hexec X.warmed hpl hown (t := Bundle.initS E_NSE) rfl rfl (by decide)
    (tl (.methodLink own ic (Bundle.initS E_NSE)) (by simp [jNTail])) (h (.instanceMethod (Bundle.initS E_NSE)) (jN_c (by simp [jNPass, Bundle.passSAtoms]))) (bytes := jN13) (maxL := 2) (h (.code (Bundle.initS E_NSE) jN13 2 none) (jN_c (by simp [jNPass, Bundle.passSAtoms])))
    (f := g) hg (a := a) (msg := msg) (rest := .ref a :: rest) hstack d6
  cases Option.some.inj (hnC.symm.trans hP1m)
  have X1 := X.noted hW1
  obtain ⟨vm₂, X2, st2⟩ := X1.ctorMessageOffV hexec (g := { g with stack := .ref a :: rest }) hg hsize T L Z LZ M LM (P1 :: P2 :: Ps)
    (fun P hP => by
      rcases List.mem_cons.mp hP with rfl | hP
      · exact L1
      · rcases List.mem_cons.mp hP with rfl | hP
        · exact L2
        · exact hL P hP) ⟨hl1, hl2, hpass⟩ (u0 := u0) (sen := sen) (self := a) hmsg (cell := freshCell P1.m.cls kX) (cellS := cS)
    hcell (fun _ => by simp) (by simp) rfl rfl hsel0 hselF hcS hne hknS (by rw [hkeep _ (hnotin _)]; exact hu0) (by rw [hkeep _ (hnotin _)]; exact hsen)
    (Takes.of_laid q2 hord tyC (by rw [Y.causeType]; rfl)) (Takes.of_laid q2 hord tyS (by rw [Y.stackType]; exact fits_refV_array _ u0)) (Takes.of_laid q2 hord tyP (by rw [Y.suppType]; exact fits_refV_object _ sen))
    (Takes.of_laid q2 hord tyM (by rw [Y.msgType]; exact fits_refV_object _ ⟨msg, hmsg⟩)) Y.objLocals hskip htr [] d6
    (by simp only [List.length_cons, hlen, List.length_nil]; omega) (by simp only [List.length_cons, hlen, List.length_nil]; exact hRl)
  obtain ⟨hwalk, hrun, hended, hWU, hsame⟩ := X2.athrowLeaves hexec (g := { g with stack := .ref a :: rest, pc := g.pc + 3 }) hg hlocked hentered hout (a := a) (rest := rest) rfl d9
  have hlt : a < ((T0.setVm vm₁).setVm vm₂).heap.size := (Array.getElem?_eq_some_iff.mp hcell).1
  have hU := heapAt_setCell_self (s := (T0.setVm vm₁).setVm vm₂) (plainBareV T.toThrowableT (freshCell P1.m.cls kX) a u0 sen msg) hlt
  refine ⟨_, st1 _ (fun acts => ?_), hrun, hended, hWU, hsame.weaken (fun y hy hlt' => ?_) (Nat.le_refl _) (Nat.le_refl _), _, hU, hfound, rfl⟩
  · rw [doInvoke_state]
    exact st2 _ hwalk
  · rcases List.mem_append.mp hy with h1 | h1
    · exact h1
    · exfalso
      have hb : y.base = a := by
        simp only [List.mem_cons, List.not_mem_nil, or_false] at h1
        rcases h1 with rfl | rfl | rfl | rfl | rfl <;> rfl
      rw [hb] at hlt'
      exact Nat.not_lt.mpr hnew hlt'
/-- 'throw new NoSuchElementException("text")' -/
theorem jn_throw {H : Heap} {ls : Array Slot} {rest : List Value} {locs : List Loc} {free : Addr → Prop} {Qc : Array Value → State → Outcome → State → Prop} {XC : String → State → State → Prop} {cc : ByteArray} {pc : Nat} (hexec : p.tables.exec = Jvm.exec) (hb : c.code = cc) (hl : l.stackTraces = false) {own text : String} {ik is ic mc ms sa : Nat} {A : Nat → Prop}
    (hown : s.vm.findClass own = some m.cls) (hk : (Cond.classLink own ik E_NSE).before args s = true) (hini : (Cond.initialized E_NSE).before args s = true) (hstr : vk_R own is text sa s) (hat : ∀ w ∈ (jNAtoms own ic).filter vx_no, w.before args s = true)
    (hgood : ∀ w ∈ Cond.classLink own ik E_NSE :: Cond.initialized E_NSE :: (jNAtoms own ic).filter vx_no, vx_ot w = true)
    (hU : vx_Zq Bundle.tN "UNASSIGNED_STACK" Bundle.steD A s s.heap) (hN : vx_Zq Bundle.tN "SUPPRESSED_SENTINEL" Bundle.listD A s s.heap) (hS : va_S A s.heap H locs) (hsize : ls.size = c.maxLocals)
    (d0 : decode cc pc = .ok (.new ik, 3)) (d3 : decode cc (pc + 3) = .ok (.dup, 1)) (d4 : decode cc (pc + 4) = .ok (.ldc is, 2)) (d6 : decode cc (pc + 6) = .ok (.invokespecial ic, 3)) (d9 : decode cc (pc + 9) = .ok (.athrow, 1))
    (hout : ∀ x ∈ c.exceptionTable.toList, covers x (pc + 9) = false)
    (hRf : 5 < R.frames) (hRl : (rest.map fun v => v.category).sum + 82 ≤ R.locals) (hRc : cells + 1 ≤ R.cells) (hRs : slots + 6 ≤ R.slots) (hlocks : meth.locks = false)
    (hx : ∀ t : State, s.vm.Alike t.vm → H.size ≤ t.heap.size → (∀ q : Nat, q < H.size → t.heap[q]? = H[q]?) → XC E_NSE s t) (hf : ∀ z ∈ locs, free z.base) (hc : cells + 1 ≤ mc) (hs : slots + 6 ≤ ms) :
    W p l e R s m args below meth c H locs cells slots (vx_MQ below Qc XC args s mc ms free) (F0 m pc ls rest) := by
  intro T hT X
  have htr : e.platform.stackTraces = false := (show e.platform.stackTraces = l.stackTraces by rw [X.admits.platform]).trans hl
  have Y := vx_rebase X (R' := { frames := R.frames, locals := R.locals, cells := 1, slots := 6 }) (Nat.le_refl _) (Nat.le_refl _) hRc hRs
  generalize hA : (T.setVm s.vm).setFrames (.invoking m args :: below) = s' at Y
  have hvm : s'.vm = s.vm := by rw [← hA]; rfl
  have hhp : s'.heap = H := by rw [← hA]; exact hT
  have hW0 : s.WarmedH s'.vm := by rw [hvm]; exact State.WarmedH.refl s
  have mv : ∀ w ∈ Cond.classLink own ik E_NSE :: Cond.initialized E_NSE :: (jNAtoms own ic).filter vx_no, w.before args s = true → w.before args s' = true := fun w hw h1 => vx_ot_at hW0 hvm.symm (hgood w hw) h1
  have hU' : vx_Zq Bundle.tN "UNASSIGNED_STACK" Bundle.steD A s' s'.heap := by rw [hhp]; exact vx_Zq.moved hW0.alike (hU.kept hS.2.1)
  have hN' : vx_Zq Bundle.tN "SUPPRESSED_SENTINEL" Bundle.listD A s' s'.heap := by rw [hhp]; exact vx_Zq.moved hW0.alike (hN.kept hS.2.1)
  have h : ∀ w ∈ jNAtoms own ic, w.before args s' = true := vx_own (fun w hw => mv w (List.mem_cons_of_mem _ (List.mem_cons_of_mem _ hw)) (hat w hw)) (vx_isRefq hU'.1) (vx_isRefq hN'.1) hU'.2.word hN'.2.word
  have hown' : s'.vm.findClass own = some m.cls := by rw [hvm]; exact hown
  have hins : (Cond.instantiable E_NSE 6).before args s' = true := h _ (jN_e (by simp [jNTail]))
  obtain ⟨vm₁, cX, kX, hfX, hkX, -, -, X1, st1⟩ := Y.newCold hexec (own := own) (C := E_NSE) (index := ik) (n := 6) hown' (mv _ List.mem_cons_self hk) hins (mv _ (List.mem_cons_of_mem _ List.mem_cons_self) hini)
    (g := F0 m pc ls rest) rfl (by rw [hb]; exact d0) (Nat.le_refl _) (Nat.le_refl _)
  generalize hT1 : (T.setVm vm₁).pushCell { cls := cX, slots := kX.instanceTypes.map defaultValue, vm := .none } = T1 at X1 st1
  have hcat : (Value.ref T.heap.size).category = 1 := rfl
  have hcA : T1.heap[T.heap.size]? = some (freshCell cX kX) := by rw [← hT1]; exact State.heap_pushCell_size _ _
  have d3' : decode c.code (pc + 3) = .ok (.dup, 1) := by rw [hb]; exact d3
  have d4' : decode c.code (pc + 4) = .ok (.ldc is, 2) := by rw [hb]; exact d4
  have hstr' : vk_R own is text sa s' := vk_R.warm hW0 hstr
  obtain ⟨U, hsteps, hrun, hend, hW, hsame, ce, hce, hcl, hcv⟩ := jn_ctor X1 hexec htr (own := own) (ic := ic) hown' h (fun x hx => nomatch hx) hfX hkX hcA (by rw [hhp, hT]; exact Nat.le_refl _) (msg := .ref sa) rfl
    (g := { method := m, pc := pc + 6, locals := ls, stack := .ref sa :: .ref T.heap.size :: .ref T.heap.size :: rest, locked := none }) rfl hsize rfl rfl (rest := rest) rfl
    (by rw [hb]; exact d6) (by rw [hb]; exact d9) hout hRf (by simp only [List.map_cons, List.sum_cons, hcat, JFrame.monitorRoom]; omega) hlocks
  obtain ⟨f1, f2⟩ := vx_frame hsame
  rw [hhp] at f1 f2
  have hWs : s.WarmedH U.vm := State.WarmedH.trans hW0 hW
  rw [hvm] at hcl
  have hall : s.sameButNew ({ U with vm := s.vm } : State) locs mc ms := by
    subst hA
    obtain ⟨e1, e2⟩ := hsame
    rw [State.setFrames_setFrames] at e1
    have h2 : (T.setVm s.vm).sameButNew ({ U with vm := s.vm } : State) [] (0 + 1) (0 + 6) := ⟨e1, e2⟩
    have h3 := X.same.trans h2
    rw [List.append_nil] at h3
    exact h3.mono hc hs
  refine ⟨U, ?_, .threw T.heap.size, hrun, hend, Or.inr ⟨T.heap.size, rfl, E_NSE, ce, locs, hx U hWs.alike f1 (fun q hq => f2 q hq (fun z hz => nomatch hz)), hce, hcv, hcl, hWs, hall, hf⟩⟩
  refine st1 _ ?_
  show Steps p.tables e below (T1.setTop { method := m, pc := pc + 3, locals := ls, stack := .ref T.heap.size :: rest, locked := none }) _
  jvm_step X1.here [X1.here.top, hexec, d3', Value.category]
  exact X1.ldcString hexec (own := own) (text := text) (index := is) (a := sa) hown' hstr'.1 hstr'.2
    (g := { method := m, pc := pc + 4, locals := ls, stack := .ref T.heap.size :: .ref T.heap.size :: rest, locked := none }) rfl d4' _ hsteps
end JNSE
/-- what throwing needs of the launch and the heap -/
def jEnv (sa : Nat → Nat) (A : Nat → Prop) (U : State) (H : Heap) : Prop := (∀ z ∈ jFace, va_Nw z U) ∧ (∀ q ∈ jS, vk_R RX5 q.1 q.2 (sa q.1) U) ∧ (∀ q ∈ jNcs, va_Nc q.1 q.2 U) ∧ vx_Zq Bundle.tN "UNASSIGNED_STACK" Bundle.steD A U H ∧ vx_Zq Bundle.tN "SUPPRESSED_SENTINEL" Bundle.listD A U H
theorem jEnv.go {sa : Nat → Nat} {A A2 : Nat → Prop} {s U : State} {H0 H : Heap} (h : jEnv sa A s H0) (hW : s.WarmedH U.vm) (hk : ∀ q : Nat, q < H0.size → ¬ A q → H[q]? = H0[q]?) (hA : ∀ q, A2 q → A q) : jEnv sa A2 U H := by
  obtain ⟨h1, h2, h3, h4, h5⟩ := h
  exact ⟨fun z hz => jFace_warm hz hW (h1 z hz), fun q hq => (h2 q hq).warm hW, fun q hq => va_Nc.moved hW.alike (h3 q hq), ((h4.kept hk).moved hW.alike).narrow hA, ((h5.kept hk).moved hW.alike).narrow hA⟩
def jPreX (G : jG) (sa : Nat → Nat) (sz : Nat) (w : va_W) : State → Prop := fun U => jPre G sz w U ∧ jEnv sa (va_A w sz) U U.heap
theorem jPreX_blind {G : jG} {sa : Nat → Nat} {sz : Nat} {w : va_W} {av : List Value} : FrameBlind (va_Pc av (jPreX G sa sz w)) := by
  intro a U g mk q
  obtain ⟨q0, q1, q2⟩ := q
  obtain ⟨-, q3⟩ := jPre_blind (av := av) a U g mk ⟨q0, q1⟩
  exact ⟨q0, q3, q2.go (State.WarmedH.refl U) (fun _ _ _ => rfl) (fun _ h => h)⟩
/-- the launch has no stack traces; the environment -/
def JE (sa : Nat → Nat) (X : JX) : Prop :=
  match X with
  | (_p, l, _e, _R, s, _m, _args, _below, _meth, _c, _Q, A) => l.stackTraces = false ∧ jEnv sa A s s.heap
/-- E is thrown at pc -/
def JT (G : jG) (X : JX) (k n : Nat) (w : va_W) (pc : Nat) (L : List (Option Value)) (st : List Value) (E : String) : Prop :=
  match X with
  | (p, l, e, R, s, m, args, below, meth, c, Q, A) => ∀ (H : Heap) (locs : List Loc) (ls : Array Slot) (q : Addr) (ce : Cell), va_P G.1 vwCl w H → va_D A w → va_S A s.heap H locs → lv_has ls L.length (jl0 0 L) → H[q]? = some ce → ce.vm = .none → s.vm.findClass E = some ce.cls → vx_W p l e R s m args below meth c H locs k n Q (F0 m pc ls st) q
/-- an exception that the class makes -/
def JTk (E : String) (ik ic : Nat) : Prop := Cond.classLink RX5 ik E ∈ jAll ∧ Cond.initialized E ∈ jAll ∧ Bundle.fit E = true ∧ ((∀ z ∈ vx_atS RX5 ic E jNames, z ∈ jAll ∨ z ∈ jFace) ∨ (E = E_NSE ∧ ∀ z ∈ (jNAtoms RX5 ic).filter vx_no, z ∈ jAll ∨ z ∈ jFace))
def jIn (z : Cond) : Bool := !vx_no z || (decide (z ∈ lw_tbl) && (goodWord z || z.faceAtom))
theorem jIn_of {L : List Cond} (h : L.all jIn = true) : ∀ z ∈ L, vx_no z = true → z ∈ jAll ∨ z ∈ jFace := by
  intro z hz hn
  have h1 := List.all_eq_true.mp h z hz
  simp only [jIn, hn, Bool.not_true, Bool.false_or, Bool.and_eq_true, decide_eq_true_eq, Bool.or_eq_true] at h1
  rcases h1 with ⟨h2, h3 | h3⟩
  · exact Or.inl (jgd h2 h3)
  · exact Or.inr (jfd h2 h3)
set_option maxRecDepth 20000 in
theorem jA_1 : (Bundle.throwableAtoms).all jIn = true := by decide +kernel
set_option maxRecDepth 20000 in
theorem jA_2 : (Bundle.throwableSAtoms).all jIn = true := by decide +kernel
set_option maxRecDepth 20000 in
theorem jA_3 : (Bundle.passSAtoms "java/lang/RuntimeException" "java/lang/Exception" 7 Bundle.six ++ Bundle.passSAtoms "java/lang/Exception" Bundle.tN 7 Bundle.six).all jIn = true := by decide +kernel
set_option maxRecDepth 20000 in
theorem jA_IAE1 : (Bundle.passSAtoms E_IAE "java/lang/RuntimeException" 7 Bundle.six).all jIn = true := by decide +kernel
set_option maxRecDepth 20000 in
theorem jA_IAE2 : ([.methodLink RX5 56 (Bundle.initS E_IAE), .instantiable E_IAE 6, .castable E_IAE E_IAE, .selects E_IAE Bundle.tFill0 Bundle.tFill0, .selects E_IAE Bundle.tFill Bundle.tFill,
   .lays E_IAE Bundle.tN "cause" "Ljava/lang/Throwable;", .lays E_IAE Bundle.tN "stackTrace" Bundle.steD, .lays E_IAE Bundle.tN "suppressedExceptions" Bundle.listD, .lays E_IAE Bundle.tN "detailMessage" "Ljava/lang/String;",
   .isRef (.static Bundle.tN "UNASSIGNED_STACK" Bundle.steD), .isRef (.static Bundle.tN "SUPPRESSED_SENTINEL" Bundle.listD),
   .fieldLink Bundle.tN 198 Bundle.tN "backtrace" "Ljava/lang/Object;", .lays Bundle.tN Bundle.tN "backtrace" "Ljava/lang/Object;", .lays E_IAE Bundle.tN "backtrace" "Ljava/lang/Object;"] : List Cond).all jIn = true := by decide +kernel
theorem jK_IAE : JTk E_IAE 52 56 := ⟨kcl_X5_52, kini__java_lang_IllegalArgumentException_, by decide +kernel, Or.inl fun z hz => by
  obtain ⟨h1, h2⟩ := List.mem_filter.mp hz
  have h3 : z ∈ Bundle.throwableAtoms ++ Bundle.throwableSAtoms ++ (Bundle.passSAtoms E_IAE "java/lang/RuntimeException" 7 Bundle.six ++ (Bundle.passSAtoms "java/lang/RuntimeException" "java/lang/Exception" 7 Bundle.six ++ Bundle.passSAtoms "java/lang/Exception" Bundle.tN 7 Bundle.six)) ++ _ := h1
  rcases List.mem_append.mp h3 with h4 | h4
  · rcases List.mem_append.mp h4 with h5 | h5
    · rcases List.mem_append.mp h5 with h6 | h6
      · exact jIn_of jA_1 z h6 h2
      · exact jIn_of jA_2 z h6 h2
    · rcases List.mem_append.mp h5 with h6 | h6
      · exact jIn_of jA_IAE1 z h6 h2
      · exact jIn_of jA_3 z h6 h2
  · exact jIn_of jA_IAE2 z h4 h2⟩
theorem jCs_IAE : Cond.castable E_IAE E_IAE ∈ jFace := jfd (by decide +kernel) rfl
set_option maxRecDepth 20000 in
theorem jA_ISE1 : (Bundle.passSAtoms E_ISE "java/lang/RuntimeException" 7 Bundle.six).all jIn = true := by decide +kernel
set_option maxRecDepth 20000 in
theorem jA_ISE2 : ([.methodLink RX5 67 (Bundle.initS E_ISE), .instantiable E_ISE 6, .castable E_ISE E_ISE, .selects E_ISE Bundle.tFill0 Bundle.tFill0, .selects E_ISE Bundle.tFill Bundle.tFill,
   .lays E_ISE Bundle.tN "cause" "Ljava/lang/Throwable;", .lays E_ISE Bundle.tN "stackTrace" Bundle.steD, .lays E_ISE Bundle.tN "suppressedExceptions" Bundle.listD, .lays E_ISE Bundle.tN "detailMessage" "Ljava/lang/String;",
   .isRef (.static Bundle.tN "UNASSIGNED_STACK" Bundle.steD), .isRef (.static Bundle.tN "SUPPRESSED_SENTINEL" Bundle.listD),
   .fieldLink Bundle.tN 198 Bundle.tN "backtrace" "Ljava/lang/Object;", .lays Bundle.tN Bundle.tN "backtrace" "Ljava/lang/Object;", .lays E_ISE Bundle.tN "backtrace" "Ljava/lang/Object;"] : List Cond).all jIn = true := by decide +kernel
theorem jK_ISE : JTk E_ISE 63 67 := ⟨kcl_X5_63, kini__java_lang_IllegalStateException_, by decide +kernel, Or.inl fun z hz => by
  obtain ⟨h1, h2⟩ := List.mem_filter.mp hz
  have h3 : z ∈ Bundle.throwableAtoms ++ Bundle.throwableSAtoms ++ (Bundle.passSAtoms E_ISE "java/lang/RuntimeException" 7 Bundle.six ++ (Bundle.passSAtoms "java/lang/RuntimeException" "java/lang/Exception" 7 Bundle.six ++ Bundle.passSAtoms "java/lang/Exception" Bundle.tN 7 Bundle.six)) ++ _ := h1
  rcases List.mem_append.mp h3 with h4 | h4
  · rcases List.mem_append.mp h4 with h5 | h5
    · rcases List.mem_append.mp h5 with h6 | h6
      · exact jIn_of jA_1 z h6 h2
      · exact jIn_of jA_2 z h6 h2
    · rcases List.mem_append.mp h5 with h6 | h6
      · exact jIn_of jA_ISE1 z h6 h2
      · exact jIn_of jA_3 z h6 h2
  · exact jIn_of jA_ISE2 z h4 h2⟩
theorem jCs_ISE : Cond.castable E_ISE E_ISE ∈ jFace := jfd (by decide +kernel) rfl
set_option maxRecDepth 20000 in
theorem jA_IOE1 : (Bundle.passSAtoms E_IOE "java/lang/RuntimeException" 7 Bundle.six).all jIn = true := by decide +kernel
set_option maxRecDepth 20000 in
theorem jA_IOE2 : ([.methodLink RX5 212 (Bundle.initS E_IOE), .instantiable E_IOE 6, .castable E_IOE E_IOE, .selects E_IOE Bundle.tFill0 Bundle.tFill0, .selects E_IOE Bundle.tFill Bundle.tFill,
   .lays E_IOE Bundle.tN "cause" "Ljava/lang/Throwable;", .lays E_IOE Bundle.tN "stackTrace" Bundle.steD, .lays E_IOE Bundle.tN "suppressedExceptions" Bundle.listD, .lays E_IOE Bundle.tN "detailMessage" "Ljava/lang/String;",
   .isRef (.static Bundle.tN "UNASSIGNED_STACK" Bundle.steD), .isRef (.static Bundle.tN "SUPPRESSED_SENTINEL" Bundle.listD),
   .fieldLink Bundle.tN 198 Bundle.tN "backtrace" "Ljava/lang/Object;", .lays Bundle.tN Bundle.tN "backtrace" "Ljava/lang/Object;", .lays E_IOE Bundle.tN "backtrace" "Ljava/lang/Object;"] : List Cond).all jIn = true := by decide +kernel
theorem jK_IOE : JTk E_IOE 208 212 := ⟨kcl_X5_208, kini__java_lang_IndexOutOfBoundsException_, by decide +kernel, Or.inl fun z hz => by
  obtain ⟨h1, h2⟩ := List.mem_filter.mp hz
  have h3 : z ∈ Bundle.throwableAtoms ++ Bundle.throwableSAtoms ++ (Bundle.passSAtoms E_IOE "java/lang/RuntimeException" 7 Bundle.six ++ (Bundle.passSAtoms "java/lang/RuntimeException" "java/lang/Exception" 7 Bundle.six ++ Bundle.passSAtoms "java/lang/Exception" Bundle.tN 7 Bundle.six)) ++ _ := h1
  rcases List.mem_append.mp h3 with h4 | h4
  · rcases List.mem_append.mp h4 with h5 | h5
    · rcases List.mem_append.mp h5 with h6 | h6
      · exact jIn_of jA_1 z h6 h2
      · exact jIn_of jA_2 z h6 h2
    · rcases List.mem_append.mp h5 with h6 | h6
      · exact jIn_of jA_IOE1 z h6 h2
      · exact jIn_of jA_3 z h6 h2
  · exact jIn_of jA_IOE2 z h4 h2⟩
theorem jCs_IOE : Cond.castable E_IOE E_IOE ∈ jFace := jfd (by decide +kernel) rfl
set_option maxRecDepth 20000 in
theorem jA_NSE1 : jNPass.all jIn = true := by decide +kernel
set_option maxRecDepth 20000 in
theorem jA_NSE2 : (jNTail RX5 167 E_NSE).all jIn = true := by decide +kernel
theorem jK_NSE : JTk E_NSE 163 167 := ⟨kcl_X5_163, kini__java_util_NoSuchElementException_, by decide +kernel, Or.inr ⟨rfl, fun z hz => by
  obtain ⟨h1, h2⟩ := List.mem_filter.mp hz
  simp only [jNAtoms, List.mem_append] at h1
  rcases h1 with (((h1 | h1) | h1) | h1) | h1
  · exact jIn_of jA_1 z h1 h2
  · exact jIn_of jA_2 z h1 h2
  · exact jIn_of jA_NSE1 z h1 h2
  · exact jIn_of jA_3 z h1 h2
  · exact jIn_of jA_NSE2 z h1 h2⟩⟩
theorem jCs_NSE : Cond.castable E_NSE E_NSE ∈ jFace := jfd (by decide +kernel) rfl
def CXI (G : jG) (sa : Nat → Nat) (y : MethodName) (cc : ByteArray) (maxL : Nat) (rm : Room) (args : List Value) (w0 : va_W) {S : Type} (post : Int32 → S → Prop) (w1 : S → va_W) (px : String → Prop) (mc ms : Nat) : Prop :=
  rm.cells = mc ∧ rm.slots = ms ∧ ∀ (l : Launch), l.stackTraces = false → ∀ (sz : Nat), vx_Met l y (Cond.code y cc maxL (some .int) :: jAll) rm (va_Pc args (jPreX G sa sz w0)) (va_Qi post (fun u => jPost G (va_A w0 sz) (w1 u)) (va_A w0 sz)) (vx_X (fun _ : Unit => True) (fun E _ t => px E ∧ jPost G (va_A w0 sz) w0 t) (va_A w0 sz)) mc ms (va_A w0 sz)
theorem cxi_intro {G : jG} {sa : Nat → Nat} {y : MethodName} {cc : ByteArray} {maxL f loc mc ms : Nat} {args : List Value} {w0 : va_W} {S : Type} {post : Int32 → S → Prop} {w1 : S → va_W} {px : String → Prop} {own : String} (L0 : List (Option Value)) (hy : plainName y.cls = true) (hyo : y.cls = own) (hL : jl0 0 L0 = lv_args 0 args) (hLn : L0.length = maxL) (hsl : (lg_sl args).length ≤ maxL)
    (h : ∀ X : JX, JC G X (jrm f loc mc ms) cc own maxL → JE sa X → (∀ (pc : Nat) (L : List (Option Value)) (r : Int32) (u : S) (k n : Nat), k ≤ mc → n ≤ ms → decode cc pc = .ok (.ireturn, 1) → post r u → JW G X k n (w1 u) pc L [.int r]) →
      (∀ (pc ik ic is : Nat) (E text : String) (L : List (Option Value)) (k n : Nat), own = RX5 → JTk E ik ic → (is, text) ∈ jS → px E → L.length = maxL → k + 1 ≤ mc → n + 6 ≤ ms → 5 < f → 82 ≤ loc → decode cc pc = .ok (.new ik, 3) → decode cc (pc + 3) = .ok (.dup, 1) → decode cc (pc + 4) = .ok (.ldc is, 2) → decode cc (pc + 6) = .ok (.invokespecial ic, 3) → decode cc (pc + 9) = .ok (.athrow, 1) → JW G X k n w0 pc L []) →
      (∀ (pc : Nat) (L : List (Option Value)) (st : List Value) (E : String) (k n : Nat), k ≤ mc → n ≤ ms → px E → JT G X k n w0 pc L st E) → JW G X 0 0 w0 0 L0 []) : CXI G sa y cc maxL (jrm f loc mc ms) args w0 post w1 px mc ms := by
  refine ⟨rfl, rfl, fun l hst sz => ?_⟩
  refine vx_ofW (cc := cc) (maxL := maxL) (ret := (some .int)) hy rfl ?_
  intro p e s m args1 below meth c s₁ B hml htb hv
  obtain ⟨rfl, ⟨hsz, hP, hK, hN, hD0⟩, hE⟩ := hv
  have hx := B.exec
  have hb := B.bytes
  have hr := B.returns
  have hts := atoms_spec (ws := (Cond.code y cc maxL (some .int) :: jAll)) B.pre
  have hown : s.vm.findClass own = some m.cls := by rw [← hyo]; exact findClass_of_methodNamed B.named
  have hlocks := B.notSynchronized
  subst hsz
  have hD := hD0.self (sz := s.heap.size)
  have hA : ∀ q : Nat, s.heap.size ≤ q → va_A w0 s.heap.size q := fun q h => Or.inr h
  have hl := lv_entry args (n := maxL) hsl
  rw [lg_entry_eq]
  generalize (lg_sl args ++ List.replicate (maxL - (lg_sl args).length) Slot.unset).toArray = ls at hl ⊢
  rw [← hL] at hl
  have hl2 : lv_has ls L0.length (jl0 0 L0) := by rw [hLn]; exact hl
  have hno : ∀ (pc : Nat), ∀ x ∈ c.exceptionTable.toList, covers x pc = false := fun _ x hx => (htb x hx).elim
  have hend : ∀ (E : String) (H : Heap) (locs : List Loc) (t : State), px E → va_P G.1 vwCl w0 H → va_D (va_A w0 s.heap.size) w0 → va_S (va_A w0 s.heap.size) s.heap H locs → s.vm.Alike t.vm → H.size ≤ t.heap.size → (∀ q : Nat, q < H.size → t.heap[q]? = H[q]?) → (vx_X (fun _ : Unit => True) (fun E _ t => px E ∧ jPost G (va_A w0 s.heap.size) w0 t) (va_A w0 s.heap.size)) E s t := fun E H locs t hp hP hD hS hal h1 h2 =>
    ⟨(), trivial, ⟨hp, hP.kept (fun k q hk => h2 q.1 (hP k q hk).lt), va_K.moved hal hK, hD⟩, Nat.le_trans hS.1 h1, fun q h3 h4 => (h2 q (Nat.lt_of_lt_of_le h3 hS.1)).trans (hS.2.1 q h3 h4)⟩
  have K := h (p, l, e, (jrm f loc mc ms), s, m, args.toArray, below, meth, c, vx_MQ below (va_Qi post (fun u => jPost G (va_A w0 s.heap.size) (w1 u)) (va_A w0 s.heap.size)) (vx_X (fun _ : Unit => True) (fun E _ t => px E ∧ jPost G (va_A w0 s.heap.size) w0 t) (va_A w0 s.heap.size)) args.toArray s mc ms (va_A w0 s.heap.size), va_A w0 s.heap.size) ⟨hx, hb, hml, hown, fun z hz => hts z (List.mem_cons_of_mem _ hz), hN, hK, hlocks, hA, rfl⟩ ⟨hst, hE⟩ ?_ ?_ ?_
  · exact K s.heap [] ls hP hD va_S.rf hl2
  · intro pc L r u k n hk hn hd hp H locs ls hP hD hS hl
    refine W.widen hk hn (vx_ret ?_)
    exact W.iret hx hb hr (fun t ht hW => ⟨⟨r, u, rfl, hp, by rw [ht]; exact hP, va_K.moved hW.alike hK, hD⟩, hS.F ht⟩) hS.2.2 hd hlocks
  · intro pc ik ic is E text L k n hO hJ hstr hp hLn hk hn hf hlo d0 d3 d4 d6 d9 H locs ls hP hD hS hl
    subst hO
    obtain ⟨j1, j2, j3, j4⟩ := hJ
    have hgw : ∀ z, z ∈ jAll ∨ z ∈ jFace → vx_ot z = true := fun z hz => by
      rcases hz with hz | hz
      · simp only [vx_ot, jAll_good z hz, Bool.or_true]
      · simp only [vx_ot, jFace_on hz, Bool.true_or]
    have htz : ∀ z, z ∈ jAll ∨ z ∈ jFace → z.before args.toArray s = true := fun z hz => by
      rcases hz with hz | hz
      · exact hts z (List.mem_cons_of_mem _ hz)
      · exact va_Nw.use (jFace_on hz) (hE.1 z hz)
    have hgd : ∀ A9 : List Cond, (∀ z ∈ A9, z ∈ jAll ∨ z ∈ jFace) → ∀ w ∈ Cond.classLink RX5 ik E :: Cond.initialized E :: A9, vx_ot w = true := fun A9 h9 z hz => by
      rcases List.mem_cons.mp hz with rfl | hz
      · exact hgw _ (Or.inl j1)
      · rcases List.mem_cons.mp hz with rfl | hz
        · exact hgw _ (Or.inl j2)
        · exact hgw z (h9 z hz)
    rcases j4 with j4 | ⟨rfl, j4⟩
    · exact vx_throwS hx hb hst (own := RX5) (cls := E) (text := text) (names := jNames) (ik := ik) (is := is) (ic := ic) (sa := sa is) (A := va_A w0 s.heap.size) hown j3 (by decide +kernel) (htz _ (Or.inl j1)) (htz _ (Or.inl j2)) (hE.2.1 _ hstr) (fun z hz => htz z (j4 z hz))
        (hgd _ j4) hE.2.2.2.1 hE.2.2.2.2 hS (hl.1.trans (hLn.trans hml.symm)) d0 d3 d4 d6 d9 (hno _) (by show 2 + 3 < f; omega) (by show 0 + (13 * (2 + 1) + 43) ≤ loc; omega) hk hn hlocks (fun t hal h1 h2 => hend E H locs t hp hP hD hS hal h1 h2) hS.2.2 hk hn
    · exact jn_throw hx hb hst (own := RX5) (text := text) (ik := ik) (is := is) (ic := ic) (sa := sa is) (A := va_A w0 s.heap.size) hown (htz _ (Or.inl j1)) (htz _ (Or.inl j2)) (hE.2.1 _ hstr) (fun z hz => htz z (j4 z hz))
        (hgd _ j4) hE.2.2.2.1 hE.2.2.2.2 hS (hl.1.trans (hLn.trans hml.symm)) d0 d3 d4 d6 d9 (hno _) hf (by show 0 + 82 ≤ loc; omega) hk hn hlocks (fun t hal h1 h2 => hend E_NSE H locs t hp hP hD hS hal h1 h2) hS.2.2 hk hn
  · intro pc L st E k n hk hn hp H locs ls q ce hP hD hS hl hc1 hc2 hc3
    exact vx_out (hno pc) hlocks hc1 hc2 hc3 (fun t ht hal => hend E H locs t hp hP hD hS hal (by rw [ht]; exact Nat.le_refl _) (fun q _ => by rw [ht])) hS.2.2 hk hn
def CXV (G : jG) (sa : Nat → Nat) (y : MethodName) (cc : ByteArray) (maxL : Nat) (rm : Room) (args : List Value) (w0 : va_W) {S : Type} (post : S → Prop) (w1 : S → va_W) (px : String → Prop) (mc ms : Nat) : Prop :=
  rm.cells = mc ∧ rm.slots = ms ∧ ∀ (l : Launch), l.stackTraces = false → ∀ (sz : Nat), vx_Met l y (Cond.code y cc maxL none :: jAll) rm (va_Pc args (jPreX G sa sz w0)) (va_Qv post (fun u => jPost G (va_A w0 sz) (w1 u)) (va_A w0 sz)) (vx_X (fun _ : Unit => True) (fun E _ t => px E ∧ jPost G (va_A w0 sz) w0 t) (va_A w0 sz)) mc ms (va_A w0 sz)
theorem cxv_intro {G : jG} {sa : Nat → Nat} {y : MethodName} {cc : ByteArray} {maxL f loc mc ms : Nat} {args : List Value} {w0 : va_W} {S : Type} {post : S → Prop} {w1 : S → va_W} {px : String → Prop} {own : String} (L0 : List (Option Value)) (hy : plainName y.cls = true) (hyo : y.cls = own) (hL : jl0 0 L0 = lv_args 0 args) (hLn : L0.length = maxL) (hsl : (lg_sl args).length ≤ maxL)
    (h : ∀ X : JX, JC G X (jrm f loc mc ms) cc own maxL → JE sa X → (∀ (pc : Nat) (L : List (Option Value)) (u : S) (k n : Nat), k ≤ mc → n ≤ ms → decode cc pc = .ok (.return_, 1) → post u → JW G X k n (w1 u) pc L []) →
      (∀ (pc ik ic is : Nat) (E text : String) (L : List (Option Value)) (k n : Nat), own = RX5 → JTk E ik ic → (is, text) ∈ jS → px E → L.length = maxL → k + 1 ≤ mc → n + 6 ≤ ms → 5 < f → 82 ≤ loc → decode cc pc = .ok (.new ik, 3) → decode cc (pc + 3) = .ok (.dup, 1) → decode cc (pc + 4) = .ok (.ldc is, 2) → decode cc (pc + 6) = .ok (.invokespecial ic, 3) → decode cc (pc + 9) = .ok (.athrow, 1) → JW G X k n w0 pc L []) →
      (∀ (pc : Nat) (L : List (Option Value)) (st : List Value) (E : String) (k n : Nat), k ≤ mc → n ≤ ms → px E → JT G X k n w0 pc L st E) → JW G X 0 0 w0 0 L0 []) : CXV G sa y cc maxL (jrm f loc mc ms) args w0 post w1 px mc ms := by
  refine ⟨rfl, rfl, fun l hst sz => ?_⟩
  refine vx_ofW (cc := cc) (maxL := maxL) (ret := none) hy rfl ?_
  intro p e s m args1 below meth c s₁ B hml htb hv
  obtain ⟨rfl, ⟨hsz, hP, hK, hN, hD0⟩, hE⟩ := hv
  have hx := B.exec
  have hb := B.bytes
  have hr := B.returns
  have hts := atoms_spec (ws := (Cond.code y cc maxL none :: jAll)) B.pre
  have hown : s.vm.findClass own = some m.cls := by rw [← hyo]; exact findClass_of_methodNamed B.named
  have hlocks := B.notSynchronized
  subst hsz
  have hD := hD0.self (sz := s.heap.size)
  have hA : ∀ q : Nat, s.heap.size ≤ q → va_A w0 s.heap.size q := fun q h => Or.inr h
  have hl := lv_entry args (n := maxL) hsl
  rw [lg_entry_eq]
  generalize (lg_sl args ++ List.replicate (maxL - (lg_sl args).length) Slot.unset).toArray = ls at hl ⊢
  rw [← hL] at hl
  have hl2 : lv_has ls L0.length (jl0 0 L0) := by rw [hLn]; exact hl
  have hno : ∀ (pc : Nat), ∀ x ∈ c.exceptionTable.toList, covers x pc = false := fun _ x hx => (htb x hx).elim
  have hend : ∀ (E : String) (H : Heap) (locs : List Loc) (t : State), px E → va_P G.1 vwCl w0 H → va_D (va_A w0 s.heap.size) w0 → va_S (va_A w0 s.heap.size) s.heap H locs → s.vm.Alike t.vm → H.size ≤ t.heap.size → (∀ q : Nat, q < H.size → t.heap[q]? = H[q]?) → (vx_X (fun _ : Unit => True) (fun E _ t => px E ∧ jPost G (va_A w0 s.heap.size) w0 t) (va_A w0 s.heap.size)) E s t := fun E H locs t hp hP hD hS hal h1 h2 =>
    ⟨(), trivial, ⟨hp, hP.kept (fun k q hk => h2 q.1 (hP k q hk).lt), va_K.moved hal hK, hD⟩, Nat.le_trans hS.1 h1, fun q h3 h4 => (h2 q (Nat.lt_of_lt_of_le h3 hS.1)).trans (hS.2.1 q h3 h4)⟩
  have K := h (p, l, e, (jrm f loc mc ms), s, m, args.toArray, below, meth, c, vx_MQ below (va_Qv post (fun u => jPost G (va_A w0 s.heap.size) (w1 u)) (va_A w0 s.heap.size)) (vx_X (fun _ : Unit => True) (fun E _ t => px E ∧ jPost G (va_A w0 s.heap.size) w0 t) (va_A w0 s.heap.size)) args.toArray s mc ms (va_A w0 s.heap.size), va_A w0 s.heap.size) ⟨hx, hb, hml, hown, fun z hz => hts z (List.mem_cons_of_mem _ hz), hN, hK, hlocks, hA, rfl⟩ ⟨hst, hE⟩ ?_ ?_ ?_
  · exact K s.heap [] ls hP hD va_S.rf hl2
  · intro pc L u k n hk hn hd hp H locs ls hP hD hS hl
    refine W.widen hk hn (vx_ret ?_)
    exact W.vret hx hb hr (fun t ht hW => ⟨⟨u, rfl, hp, by rw [ht]; exact hP, va_K.moved hW.alike hK, hD⟩, hS.F ht⟩) hS.2.2 hd hlocks
  · intro pc ik ic is E text L k n hO hJ hstr hp hLn hk hn hf hlo d0 d3 d4 d6 d9 H locs ls hP hD hS hl
    subst hO
    obtain ⟨j1, j2, j3, j4⟩ := hJ
    have hgw : ∀ z, z ∈ jAll ∨ z ∈ jFace → vx_ot z = true := fun z hz => by
      rcases hz with hz | hz
      · simp only [vx_ot, jAll_good z hz, Bool.or_true]
      · simp only [vx_ot, jFace_on hz, Bool.true_or]
    have htz : ∀ z, z ∈ jAll ∨ z ∈ jFace → z.before args.toArray s = true := fun z hz => by
      rcases hz with hz | hz
      · exact hts z (List.mem_cons_of_mem _ hz)
      · exact va_Nw.use (jFace_on hz) (hE.1 z hz)
    have hgd : ∀ A9 : List Cond, (∀ z ∈ A9, z ∈ jAll ∨ z ∈ jFace) → ∀ w ∈ Cond.classLink RX5 ik E :: Cond.initialized E :: A9, vx_ot w = true := fun A9 h9 z hz => by
      rcases List.mem_cons.mp hz with rfl | hz
      · exact hgw _ (Or.inl j1)
      · rcases List.mem_cons.mp hz with rfl | hz
        · exact hgw _ (Or.inl j2)
        · exact hgw z (h9 z hz)
    rcases j4 with j4 | ⟨rfl, j4⟩
    · exact vx_throwS hx hb hst (own := RX5) (cls := E) (text := text) (names := jNames) (ik := ik) (is := is) (ic := ic) (sa := sa is) (A := va_A w0 s.heap.size) hown j3 (by decide +kernel) (htz _ (Or.inl j1)) (htz _ (Or.inl j2)) (hE.2.1 _ hstr) (fun z hz => htz z (j4 z hz))
        (hgd _ j4) hE.2.2.2.1 hE.2.2.2.2 hS (hl.1.trans (hLn.trans hml.symm)) d0 d3 d4 d6 d9 (hno _) (by show 2 + 3 < f; omega) (by show 0 + (13 * (2 + 1) + 43) ≤ loc; omega) hk hn hlocks (fun t hal h1 h2 => hend E H locs t hp hP hD hS hal h1 h2) hS.2.2 hk hn
    · exact jn_throw hx hb hst (own := RX5) (text := text) (ik := ik) (is := is) (ic := ic) (sa := sa is) (A := va_A w0 s.heap.size) hown (htz _ (Or.inl j1)) (htz _ (Or.inl j2)) (hE.2.1 _ hstr) (fun z hz => htz z (j4 z hz))
        (hgd _ j4) hE.2.2.2.1 hE.2.2.2.2 hS (hl.1.trans (hLn.trans hml.symm)) d0 d3 d4 d6 d9 (hno _) hf (by show 0 + 82 ≤ loc; omega) hk hn hlocks (fun t hal h1 h2 => hend E_NSE H locs t hp hP hD hS hal h1 h2) hS.2.2 hk hn
  · intro pc L st E k n hk hn hp H locs ls q ce hP hD hS hl hc1 hc2 hc3
    exact vx_out (hno pc) hlocks hc1 hc2 hc3 (fun t ht hal => hend E H locs t hp hP hD hS hal (by rw [ht]; exact Nat.le_refl _) (fun q _ => by rw [ht])) hS.2.2 hk hn
def CXZ (G : jG) (sa : Nat → Nat) (y : MethodName) (cc : ByteArray) (maxL : Nat) (rm : Room) (args : List Value) (w0 : va_W) {S : Type} (post : Bool → S → Prop) (w1 : S → va_W) (px : String → Prop) (mc ms : Nat) : Prop :=
  rm.cells = mc ∧ rm.slots = ms ∧ ∀ (l : Launch), l.stackTraces = false → ∀ (sz : Nat), vx_Met l y (Cond.code y cc maxL (some .boolean) :: jAll) rm (va_Pc args (jPreX G sa sz w0)) (va_Qi (fun r u => ∃ z : Bool, r = jb z ∧ post z u) (fun u => jPost G (va_A w0 sz) (w1 u)) (va_A w0 sz)) (vx_X (fun _ : Unit => True) (fun E _ t => px E ∧ jPost G (va_A w0 sz) w0 t) (va_A w0 sz)) mc ms (va_A w0 sz)
theorem cxz_intro {G : jG} {sa : Nat → Nat} {y : MethodName} {cc : ByteArray} {maxL f loc mc ms : Nat} {args : List Value} {w0 : va_W} {S : Type} {post : Bool → S → Prop} {w1 : S → va_W} {px : String → Prop} {own : String} (L0 : List (Option Value)) (hy : plainName y.cls = true) (hyo : y.cls = own) (hL : jl0 0 L0 = lv_args 0 args) (hLn : L0.length = maxL) (hsl : (lg_sl args).length ≤ maxL)
    (h : ∀ X : JX, JC G X (jrm f loc mc ms) cc own maxL → JE sa X → (∀ (pc : Nat) (L : List (Option Value)) (r : Bool) (u : S) (k n : Nat), k ≤ mc → n ≤ ms → decode cc pc = .ok (.ireturn, 1) → post r u → JW G X k n (w1 u) pc L [.int (jb r)]) →
      (∀ (pc ik ic is : Nat) (E text : String) (L : List (Option Value)) (k n : Nat), own = RX5 → JTk E ik ic → (is, text) ∈ jS → px E → L.length = maxL → k + 1 ≤ mc → n + 6 ≤ ms → 5 < f → 82 ≤ loc → decode cc pc = .ok (.new ik, 3) → decode cc (pc + 3) = .ok (.dup, 1) → decode cc (pc + 4) = .ok (.ldc is, 2) → decode cc (pc + 6) = .ok (.invokespecial ic, 3) → decode cc (pc + 9) = .ok (.athrow, 1) → JW G X k n w0 pc L []) →
      (∀ (pc : Nat) (L : List (Option Value)) (st : List Value) (E : String) (k n : Nat), k ≤ mc → n ≤ ms → px E → JT G X k n w0 pc L st E) → JW G X 0 0 w0 0 L0 []) : CXZ G sa y cc maxL (jrm f loc mc ms) args w0 post w1 px mc ms := by
  refine ⟨rfl, rfl, fun l hst sz => ?_⟩
  refine vx_ofW (cc := cc) (maxL := maxL) (ret := (some .boolean)) hy rfl ?_
  intro p e s m args1 below meth c s₁ B hml htb hv
  obtain ⟨rfl, ⟨hsz, hP, hK, hN, hD0⟩, hE⟩ := hv
  have hx := B.exec
  have hb := B.bytes
  have hr := B.returns
  have hts := atoms_spec (ws := (Cond.code y cc maxL (some .boolean) :: jAll)) B.pre
  have hown : s.vm.findClass own = some m.cls := by rw [← hyo]; exact findClass_of_methodNamed B.named
  have hlocks := B.notSynchronized
  subst hsz
  have hD := hD0.self (sz := s.heap.size)
  have hA : ∀ q : Nat, s.heap.size ≤ q → va_A w0 s.heap.size q := fun q h => Or.inr h
  have hl := lv_entry args (n := maxL) hsl
  rw [lg_entry_eq]
  generalize (lg_sl args ++ List.replicate (maxL - (lg_sl args).length) Slot.unset).toArray = ls at hl ⊢
  rw [← hL] at hl
  have hl2 : lv_has ls L0.length (jl0 0 L0) := by rw [hLn]; exact hl
  have hno : ∀ (pc : Nat), ∀ x ∈ c.exceptionTable.toList, covers x pc = false := fun _ x hx => (htb x hx).elim
  have hend : ∀ (E : String) (H : Heap) (locs : List Loc) (t : State), px E → va_P G.1 vwCl w0 H → va_D (va_A w0 s.heap.size) w0 → va_S (va_A w0 s.heap.size) s.heap H locs → s.vm.Alike t.vm → H.size ≤ t.heap.size → (∀ q : Nat, q < H.size → t.heap[q]? = H[q]?) → (vx_X (fun _ : Unit => True) (fun E _ t => px E ∧ jPost G (va_A w0 s.heap.size) w0 t) (va_A w0 s.heap.size)) E s t := fun E H locs t hp hP hD hS hal h1 h2 =>
    ⟨(), trivial, ⟨hp, hP.kept (fun k q hk => h2 q.1 (hP k q hk).lt), va_K.moved hal hK, hD⟩, Nat.le_trans hS.1 h1, fun q h3 h4 => (h2 q (Nat.lt_of_lt_of_le h3 hS.1)).trans (hS.2.1 q h3 h4)⟩
  have K := h (p, l, e, (jrm f loc mc ms), s, m, args.toArray, below, meth, c, vx_MQ below (va_Qi (fun r u => ∃ z : Bool, r = jb z ∧ post z u) (fun u => jPost G (va_A w0 s.heap.size) (w1 u)) (va_A w0 s.heap.size)) (vx_X (fun _ : Unit => True) (fun E _ t => px E ∧ jPost G (va_A w0 s.heap.size) w0 t) (va_A w0 s.heap.size)) args.toArray s mc ms (va_A w0 s.heap.size), va_A w0 s.heap.size) ⟨hx, hb, hml, hown, fun z hz => hts z (List.mem_cons_of_mem _ hz), hN, hK, hlocks, hA, rfl⟩ ⟨hst, hE⟩ ?_ ?_ ?_
  · exact K s.heap [] ls hP hD va_S.rf hl2
  · intro pc L r u k n hk hn hd hp H locs ls hP hD hS hl
    refine W.widen hk hn (vx_ret ?_)
    exact W.zret (ty := .boolean) hx hb hr (by cases r <;> rfl) (fun t ht hW => ⟨⟨jb r, u, rfl, ⟨r, rfl, hp⟩, by rw [ht]; exact hP, va_K.moved hW.alike hK, hD⟩, hS.F ht⟩) hS.2.2 hd hlocks
  · intro pc ik ic is E text L k n hO hJ hstr hp hLn hk hn hf hlo d0 d3 d4 d6 d9 H locs ls hP hD hS hl
    subst hO
    obtain ⟨j1, j2, j3, j4⟩ := hJ
    have hgw : ∀ z, z ∈ jAll ∨ z ∈ jFace → vx_ot z = true := fun z hz => by
      rcases hz with hz | hz
      · simp only [vx_ot, jAll_good z hz, Bool.or_true]
      · simp only [vx_ot, jFace_on hz, Bool.true_or]
    have htz : ∀ z, z ∈ jAll ∨ z ∈ jFace → z.before args.toArray s = true := fun z hz => by
      rcases hz with hz | hz
      · exact hts z (List.mem_cons_of_mem _ hz)
      · exact va_Nw.use (jFace_on hz) (hE.1 z hz)
    have hgd : ∀ A9 : List Cond, (∀ z ∈ A9, z ∈ jAll ∨ z ∈ jFace) → ∀ w ∈ Cond.classLink RX5 ik E :: Cond.initialized E :: A9, vx_ot w = true := fun A9 h9 z hz => by
      rcases List.mem_cons.mp hz with rfl | hz
      · exact hgw _ (Or.inl j1)
      · rcases List.mem_cons.mp hz with rfl | hz
        · exact hgw _ (Or.inl j2)
        · exact hgw z (h9 z hz)
    rcases j4 with j4 | ⟨rfl, j4⟩
    · exact vx_throwS hx hb hst (own := RX5) (cls := E) (text := text) (names := jNames) (ik := ik) (is := is) (ic := ic) (sa := sa is) (A := va_A w0 s.heap.size) hown j3 (by decide +kernel) (htz _ (Or.inl j1)) (htz _ (Or.inl j2)) (hE.2.1 _ hstr) (fun z hz => htz z (j4 z hz))
        (hgd _ j4) hE.2.2.2.1 hE.2.2.2.2 hS (hl.1.trans (hLn.trans hml.symm)) d0 d3 d4 d6 d9 (hno _) (by show 2 + 3 < f; omega) (by show 0 + (13 * (2 + 1) + 43) ≤ loc; omega) hk hn hlocks (fun t hal h1 h2 => hend E H locs t hp hP hD hS hal h1 h2) hS.2.2 hk hn
    · exact jn_throw hx hb hst (own := RX5) (text := text) (ik := ik) (is := is) (ic := ic) (sa := sa is) (A := va_A w0 s.heap.size) hown (htz _ (Or.inl j1)) (htz _ (Or.inl j2)) (hE.2.1 _ hstr) (fun z hz => htz z (j4 z hz))
        (hgd _ j4) hE.2.2.2.1 hE.2.2.2.2 hS (hl.1.trans (hLn.trans hml.symm)) d0 d3 d4 d6 d9 (hno _) hf (by show 0 + 82 ≤ loc; omega) hk hn hlocks (fun t hal h1 h2 => hend E_NSE H locs t hp hP hD hS hal h1 h2) hS.2.2 hk hn
  · intro pc L st E k n hk hn hp H locs ls q ce hP hD hS hl hc1 hc2 hc3
    exact vx_out (hno pc) hlocks hc1 hc2 hc3 (fun t ht hal => hend E H locs t hp hP hD hS hal (by rw [ht]; exact Nat.le_refl _) (fun q _ => by rw [ht])) hS.2.2 hk hn
section JXCALL
variable {G : jG} {sa : Nat → Nat} {X : JX} {k n pc : Nat} {w : va_W} {L : List (Option Value)} {rest st0 : List Value} {rm : Room} {cc : ByteArray} {own : String} {nL : Nat} {y : MethodName} {bytes : ByteArray} {maxL f loc np idx b q0 ci N mc ms : Nat} {As : List Value} {w0 wr : va_W} {S : Type} {w1 : S → va_W} {Cn : String} {T : u_T} {fs : List Value} {px : String → Prop}
theorem jwx_sV_I {post : Int32 → S → Prop} (C : JC G X rm cc own nL) (Ev : JE sa X) (ct : CXI G sa y bytes maxL (jrm f loc mc ms) (.ref b :: As) w0 post w1 px mc ms) (wd : jWd y Cn bytes maxL (some .int) np) (link : Cond.methodLink own idx y ∈ jAll) (q0 : Nat) (hq : w[q0]? = some (b, .inr (ci, fs))) (hci : vwCl[ci]? = some (Cn, T, N))
    (isC isR : List Nat) (hC : isC.map (fun i => w[i]?) = w0.map some) (hR : isR.map (fun i => w[i]?) = wr.map some) (hnC : va_nd isC = true) (hn : va_nd isR = true) (hdis : ∀ i ∈ isR, i ∉ isC)
    (hAs : As.length = np) (hst : st0 = As.reverse ++ .ref b :: rest) (hrest : (rest.map fun v => v.category).sum ≤ 8) (hrm : f + 1 ≤ rm.frames ∧ 8 + (maxL + 11) + loc ≤ rm.locals) (hk : k + mc ≤ rm.cells ∧ n + ms ≤ rm.slots) (d : decode cc pc = .ok (.invokevirtual idx, 3)) (hL : L.length = nL)
    (kx : ∀ (E : String), px E → JT G X (k + mc) (n + ms) (wr ++ w0) pc L rest E)
    (kk : ∀ (r : Int32) (u : S), post r u → JW G X (k + mc) (n + ms) (wr ++ w1 u) (pc + 3) L (.int r :: rest)) : JW G X k n w pc L st0 := by
  obtain ⟨p, l, e, R, s, m, args, below, meth, c, Q, A⟩ := X
  obtain ⟨hx, hb, hml, hown, hts, hnw, hK, hlk, hA, hR⟩ := C
  obtain ⟨hst9, hEv⟩ := Ev
  subst hR
  intro H locs ls hP hD hS hl
  obtain ⟨wd1, wd2, wd3, wd4, wd5⟩ := wd
  have hPc := hP.sub isC (j_part hC)
  have hDc := j_nd hD hC hnC
  have hFc := va_free hD hS hA isC hC
  refine vx_calli (vx_runV (As := As) (rest := rest) ⟨hx, hb, hml, hown, hts⟩ (ct.2.2 l hst9 H.size) (cwV np hts (jAll_in (fun z hz => ?_)) rfl rfl rfl wd5 hrm) ⟨jPreX_blind, va_recv hK hP hci hq, fun U hU hW => ⟨rfl, ⟨by rw [hU], by rw [hU]; exact hPc, va_K.moved hW.alike hK, fun z hz => jNest_warm hz hW (hnw z hz), hDc⟩, hEv.go hW (by rw [hU]; exact hS.2.1) (fun q h => hFc q h)⟩⟩ rfl hAs (hl.1.trans hL) hst (lv_room hrest) d hk) hS (fun q _ h => hFc q h) hFc (fun q _ h => hFc q h) (fun E ce q9 u t H1 locs1 ht hvm hp hB hz1 hk1 hS1 hc1 hc2 hc3 => ?_) (fun r u t H1 locs1 ht hvm hw hB hz1 hk1 hS1 => ?_)
  · rcases List.mem_append.mp hz with h | h
    · simp only [List.mem_cons, List.not_mem_nil, or_false] at h
      rcases h with rfl | rfl | rfl | rfl
      · exact link
      · exact wd1
      · exact wd2
      · exact wd3
    · exact jAll_code wd4 z h
  · obtain ⟨hpx, hP1, hK1, hD1⟩ := hB
    rw [ht] at hP1
    obtain ⟨hP2, hD2⟩ := va_join hP hD isC isR hC hR hn hdis hk1 hFc hP1 hD1
    exact kx E hpx H1 locs1 ls q9 ce hP2 hD2 hS1 hl hc1 hc2 hc3
  · obtain ⟨hP1, hK1, hD1⟩ := hB
    rw [ht] at hP1
    obtain ⟨hP2, hD2⟩ := va_join hP hD isC isR hC hR hn hdis hk1 hFc hP1 hD1
    exact kk r u hw H1 locs1 ls hP2 hD2 hS1 hl
theorem jwx_V_I {post : Int32 → S → Prop} (C : JC G X rm cc own nL) (Ev : JE sa X) (ct : CXI G sa y bytes maxL (jrm f loc mc ms) (.ref b :: As) w post w1 px mc ms) (wd : jWd y Cn bytes maxL (some .int) np) (link : Cond.methodLink own idx y ∈ jAll) (q0 : Nat) (hq : w[q0]? = some (b, .inr (ci, fs))) (hci : vwCl[ci]? = some (Cn, T, N))
    (hAs : As.length = np) (hst : st0 = As.reverse ++ .ref b :: rest) (hrest : (rest.map fun v => v.category).sum ≤ 8) (hrm : f + 1 ≤ rm.frames ∧ 8 + (maxL + 11) + loc ≤ rm.locals) (hk : k + mc ≤ rm.cells ∧ n + ms ≤ rm.slots) (d : decode cc pc = .ok (.invokevirtual idx, 3)) (hL : L.length = nL)
    (kx : ∀ (E : String), px E → JT G X (k + mc) (n + ms) w pc L rest E)
    (kk : ∀ (r : Int32) (u : S), post r u → JW G X (k + mc) (n + ms) (w1 u) (pc + 3) L (.int r :: rest)) : JW G X k n w pc L st0 :=
  jwx_sV_I (wr := []) C Ev ct wd link q0 hq hci (List.range w.length) [] (j_rng w) rfl (j_nd_rng _) rfl (fun _ h => by cases h) hAs hst hrest hrm hk d hL kx kk
theorem jwx_sV_V {post : S → Prop} (C : JC G X rm cc own nL) (Ev : JE sa X) (ct : CXV G sa y bytes maxL (jrm f loc mc ms) (.ref b :: As) w0 post w1 px mc ms) (wd : jWd y Cn bytes maxL none np) (link : Cond.methodLink own idx y ∈ jAll) (q0 : Nat) (hq : w[q0]? = some (b, .inr (ci, fs))) (hci : vwCl[ci]? = some (Cn, T, N))
    (isC isR : List Nat) (hC : isC.map (fun i => w[i]?) = w0.map some) (hR : isR.map (fun i => w[i]?) = wr.map some) (hnC : va_nd isC = true) (hn : va_nd isR = true) (hdis : ∀ i ∈ isR, i ∉ isC)
    (hAs : As.length = np) (hst : st0 = As.reverse ++ .ref b :: rest) (hrest : (rest.map fun v => v.category).sum ≤ 8) (hrm : f + 1 ≤ rm.frames ∧ 8 + (maxL + 11) + loc ≤ rm.locals) (hk : k + mc ≤ rm.cells ∧ n + ms ≤ rm.slots) (d : decode cc pc = .ok (.invokevirtual idx, 3)) (hL : L.length = nL)
    (kx : ∀ (E : String), px E → JT G X (k + mc) (n + ms) (wr ++ w0) pc L rest E)
    (kk : ∀ (u : S), post u → JW G X (k + mc) (n + ms) (wr ++ w1 u) (pc + 3) L rest) : JW G X k n w pc L st0 := by
  obtain ⟨p, l, e, R, s, m, args, below, meth, c, Q, A⟩ := X
  obtain ⟨hx, hb, hml, hown, hts, hnw, hK, hlk, hA, hR⟩ := C
  obtain ⟨hst9, hEv⟩ := Ev
  subst hR
  intro H locs ls hP hD hS hl
  obtain ⟨wd1, wd2, wd3, wd4, wd5⟩ := wd
  have hPc := hP.sub isC (j_part hC)
  have hDc := j_nd hD hC hnC
  have hFc := va_free hD hS hA isC hC
  refine vx_callv (vx_runV (As := As) (rest := rest) ⟨hx, hb, hml, hown, hts⟩ (ct.2.2 l hst9 H.size) (cwV np hts (jAll_in (fun z hz => ?_)) rfl rfl rfl wd5 hrm) ⟨jPreX_blind, va_recv hK hP hci hq, fun U hU hW => ⟨rfl, ⟨by rw [hU], by rw [hU]; exact hPc, va_K.moved hW.alike hK, fun z hz => jNest_warm hz hW (hnw z hz), hDc⟩, hEv.go hW (by rw [hU]; exact hS.2.1) (fun q h => hFc q h)⟩⟩ rfl hAs (hl.1.trans hL) hst (lv_room hrest) d hk) hS (fun q _ h => hFc q h) hFc (fun q _ h => hFc q h) (fun E ce q9 u t H1 locs1 ht hvm hp hB hz1 hk1 hS1 hc1 hc2 hc3 => ?_) (fun u t H1 locs1 ht hvm hw hB hz1 hk1 hS1 => ?_)
  · rcases List.mem_append.mp hz with h | h
    · simp only [List.mem_cons, List.not_mem_nil, or_false] at h
      rcases h with rfl | rfl | rfl | rfl
      · exact link
      · exact wd1
      · exact wd2
      · exact wd3
    · exact jAll_code wd4 z h
  · obtain ⟨hpx, hP1, hK1, hD1⟩ := hB
    rw [ht] at hP1
    obtain ⟨hP2, hD2⟩ := va_join hP hD isC isR hC hR hn hdis hk1 hFc hP1 hD1
    exact kx E hpx H1 locs1 ls q9 ce hP2 hD2 hS1 hl hc1 hc2 hc3
  · obtain ⟨hP1, hK1, hD1⟩ := hB
    rw [ht] at hP1
    obtain ⟨hP2, hD2⟩ := va_join hP hD isC isR hC hR hn hdis hk1 hFc hP1 hD1
    exact kk u hw H1 locs1 ls hP2 hD2 hS1 hl
theorem jwx_V_V {post : S → Prop} (C : JC G X rm cc own nL) (Ev : JE sa X) (ct : CXV G sa y bytes maxL (jrm f loc mc ms) (.ref b :: As) w post w1 px mc ms) (wd : jWd y Cn bytes maxL none np) (link : Cond.methodLink own idx y ∈ jAll) (q0 : Nat) (hq : w[q0]? = some (b, .inr (ci, fs))) (hci : vwCl[ci]? = some (Cn, T, N))
    (hAs : As.length = np) (hst : st0 = As.reverse ++ .ref b :: rest) (hrest : (rest.map fun v => v.category).sum ≤ 8) (hrm : f + 1 ≤ rm.frames ∧ 8 + (maxL + 11) + loc ≤ rm.locals) (hk : k + mc ≤ rm.cells ∧ n + ms ≤ rm.slots) (d : decode cc pc = .ok (.invokevirtual idx, 3)) (hL : L.length = nL)
    (kx : ∀ (E : String), px E → JT G X (k + mc) (n + ms) w pc L rest E)
    (kk : ∀ (u : S), post u → JW G X (k + mc) (n + ms) (w1 u) (pc + 3) L rest) : JW G X k n w pc L st0 :=
  jwx_sV_V (wr := []) C Ev ct wd link q0 hq hci (List.range w.length) [] (j_rng w) rfl (j_nd_rng _) rfl (fun _ h => by cases h) hAs hst hrest hrm hk d hL kx kk
theorem jwx_sV_Z {post : Bool → S → Prop} (C : JC G X rm cc own nL) (Ev : JE sa X) (ct : CXZ G sa y bytes maxL (jrm f loc mc ms) (.ref b :: As) w0 post w1 px mc ms) (wd : jWd y Cn bytes maxL (some .boolean) np) (link : Cond.methodLink own idx y ∈ jAll) (q0 : Nat) (hq : w[q0]? = some (b, .inr (ci, fs))) (hci : vwCl[ci]? = some (Cn, T, N))
    (isC isR : List Nat) (hC : isC.map (fun i => w[i]?) = w0.map some) (hR : isR.map (fun i => w[i]?) = wr.map some) (hnC : va_nd isC = true) (hn : va_nd isR = true) (hdis : ∀ i ∈ isR, i ∉ isC)
    (hAs : As.length = np) (hst : st0 = As.reverse ++ .ref b :: rest) (hrest : (rest.map fun v => v.category).sum ≤ 8) (hrm : f + 1 ≤ rm.frames ∧ 8 + (maxL + 11) + loc ≤ rm.locals) (hk : k + mc ≤ rm.cells ∧ n + ms ≤ rm.slots) (d : decode cc pc = .ok (.invokevirtual idx, 3)) (hL : L.length = nL)
    (kx : ∀ (E : String), px E → JT G X (k + mc) (n + ms) (wr ++ w0) pc L rest E)
    (kk : ∀ (r : Bool) (u : S), post r u → JW G X (k + mc) (n + ms) (wr ++ w1 u) (pc + 3) L (.int (jb r) :: rest)) : JW G X k n w pc L st0 := by
  obtain ⟨p, l, e, R, s, m, args, below, meth, c, Q, A⟩ := X
  obtain ⟨hx, hb, hml, hown, hts, hnw, hK, hlk, hA, hR⟩ := C
  obtain ⟨hst9, hEv⟩ := Ev
  subst hR
  intro H locs ls hP hD hS hl
  obtain ⟨wd1, wd2, wd3, wd4, wd5⟩ := wd
  have hPc := hP.sub isC (j_part hC)
  have hDc := j_nd hD hC hnC
  have hFc := va_free hD hS hA isC hC
  refine vx_calli (vx_runV (As := As) (rest := rest) ⟨hx, hb, hml, hown, hts⟩ (ct.2.2 l hst9 H.size) (cwV np hts (jAll_in (fun z hz => ?_)) rfl rfl rfl wd5 hrm) ⟨jPreX_blind, va_recv hK hP hci hq, fun U hU hW => ⟨rfl, ⟨by rw [hU], by rw [hU]; exact hPc, va_K.moved hW.alike hK, fun z hz => jNest_warm hz hW (hnw z hz), hDc⟩, hEv.go hW (by rw [hU]; exact hS.2.1) (fun q h => hFc q h)⟩⟩ rfl hAs (hl.1.trans hL) hst (lv_room hrest) d hk) hS (fun q _ h => hFc q h) hFc (fun q _ h => hFc q h) (fun E ce q9 u t H1 locs1 ht hvm hp hB hz1 hk1 hS1 hc1 hc2 hc3 => ?_) (fun r u t H1 locs1 ht hvm hw hB hz1 hk1 hS1 => ?_)
  · rcases List.mem_append.mp hz with h | h
    · simp only [List.mem_cons, List.not_mem_nil, or_false] at h
      rcases h with rfl | rfl | rfl | rfl
      · exact link
      · exact wd1
      · exact wd2
      · exact wd3
    · exact jAll_code wd4 z h
  · obtain ⟨hpx, hP1, hK1, hD1⟩ := hB
    rw [ht] at hP1
    obtain ⟨hP2, hD2⟩ := va_join hP hD isC isR hC hR hn hdis hk1 hFc hP1 hD1
    exact kx E hpx H1 locs1 ls q9 ce hP2 hD2 hS1 hl hc1 hc2 hc3
  · obtain ⟨hP1, hK1, hD1⟩ := hB
    rw [ht] at hP1
    obtain ⟨z, rfl, hw⟩ := hw
    obtain ⟨hP2, hD2⟩ := va_join hP hD isC isR hC hR hn hdis hk1 hFc hP1 hD1
    exact kk z u hw H1 locs1 ls hP2 hD2 hS1 hl
theorem jwx_V_Z {post : Bool → S → Prop} (C : JC G X rm cc own nL) (Ev : JE sa X) (ct : CXZ G sa y bytes maxL (jrm f loc mc ms) (.ref b :: As) w post w1 px mc ms) (wd : jWd y Cn bytes maxL (some .boolean) np) (link : Cond.methodLink own idx y ∈ jAll) (q0 : Nat) (hq : w[q0]? = some (b, .inr (ci, fs))) (hci : vwCl[ci]? = some (Cn, T, N))
    (hAs : As.length = np) (hst : st0 = As.reverse ++ .ref b :: rest) (hrest : (rest.map fun v => v.category).sum ≤ 8) (hrm : f + 1 ≤ rm.frames ∧ 8 + (maxL + 11) + loc ≤ rm.locals) (hk : k + mc ≤ rm.cells ∧ n + ms ≤ rm.slots) (d : decode cc pc = .ok (.invokevirtual idx, 3)) (hL : L.length = nL)
    (kx : ∀ (E : String), px E → JT G X (k + mc) (n + ms) w pc L rest E)
    (kk : ∀ (r : Bool) (u : S), post r u → JW G X (k + mc) (n + ms) (w1 u) (pc + 3) L (.int (jb r) :: rest)) : JW G X k n w pc L st0 :=
  jwx_sV_Z (wr := []) C Ev ct wd link q0 hq hci (List.range w.length) [] (j_rng w) rfl (j_nd_rng _) rfl (fun _ h => by cases h) hAs hst hrest hrm hk d hL kx kk
/-- a method with handlers: what stays the same -/
def JHt (X : JX) (hh : List (Nat × Nat × Nat × Nat)) : Prop :=
  match X with
  | (_p, _l, _e, _R, _s, _m, _args, _below, _meth, c, _Q, _A) => c.exceptionTable.toList = tableOf hh
theorem jw_catch {E : String} {st : List Value} (C : JC G X rm cc own nL) (Ev : JE sa X) {hh : List (Nat × Nat × Nat × Nat)} (ht : JHt X hh) (pre : List (Nat × Nat × Nat × Nat)) (a1 a2 a3 a4 : Nat) (suf : List (Nat × Nat × Nat × Nat)) (hsp : hh = pre ++ (a1, a2, a3, a4) :: suf)
    (hpass : ∀ z ∈ pre, z.2.2.2 ≠ 0 ∧ ∃ nm : String, Cond.classLink own z.2.2.2 nm ∈ jAll ∧ (E, nm) ∈ jNcs) (hcov : covers ⟨a1, a2, a3, a4⟩ pc = true) (h0 : a4 ≠ 0) (hlink : Cond.classLink own a4 E ∈ jAll) (hcast : Cond.castable E E ∈ jFace)
    (kk : ∀ q : Addr, JW G X k n w a3 L [.ref q]) : JT G X k n w pc L st E := by
  obtain ⟨p, l, e, R, s, m, args, below, meth, c, Q, A⟩ := X
  obtain ⟨hx, hb, hml, hown, hts, hnw, hK, hlk, hA, hR⟩ := C
  obtain ⟨hst9, hEv⟩ := Ev
  intro H locs ls q ce hP hD hS hl hc1 hc2 hc3
  refine vx_catch (own := own) (name := E) hown (tableOf pre) ⟨a1, a2, a3, a4⟩ (tableOf suf) (by
    have h : c.exceptionTable.toList = tableOf hh := ht
    rw [h, hsp]
    simp [tableOf]) (fun z hz => ?_) hcov h0 (hts _ hlink) (va_Nw.use (jFace_on hcast) (hEv.1 _ hcast)) hc1 hc2 hc3 (kk q H locs ls hP hD hS hl)
  obtain ⟨z2, hz2, rfl⟩ := List.mem_map.mp hz
  obtain ⟨g1, nm, g2, g3⟩ := hpass z2 hz2
  exact Or.inr ⟨g1, nm, hts _ g2, hEv.2.2.1 _ g3⟩
/-- a contract of a method with handlers that answers an int -/
def CH (G : jG) (sa : Nat → Nat) (y : MethodName) (cc : ByteArray) (maxL : Nat) (hh : List (Nat × Nat × Nat × Nat)) (rm : Room) (args : List Value) (w0 : va_W) {S : Type} (post : Int32 → S → Prop) (w1 : S → va_W) (mc ms : Nat) : Prop :=
  rm.cells = mc ∧ rm.slots = ms ∧ ∀ (l : Launch), l.stackTraces = false → ∀ (sz : Nat), Met l y (Cond.codeWith y cc maxL (some .int) hh :: jAll) rm (va_Pc args (jPreX G sa sz w0)) (va_Qi post (fun u => jPost G (va_A w0 sz) (w1 u)) (va_A w0 sz)) mc ms (va_A w0 sz)
theorem ch_intro {y : MethodName} {hh : List (Nat × Nat × Nat × Nat)} {args : List Value} {post : Int32 → S → Prop} (L0 : List (Option Value)) (hy : plainName y.cls = true) (hyo : y.cls = own) (hL : jl0 0 L0 = lv_args 0 args) (hLn : L0.length = maxL) (hsl : (lg_sl args).length ≤ maxL)
    (h : ∀ X : JX, JC G X (jrm f loc mc ms) cc own maxL → JE sa X → JHt X hh → (∀ (pc : Nat) (L : List (Option Value)) (r : Int32) (u : S) (k n : Nat), k ≤ mc → n ≤ ms → decode cc pc = .ok (.ireturn, 1) → post r u → JW G X k n (w1 u) pc L [.int r]) → JW G X 0 0 w0 0 L0 []) : CH G sa y cc maxL hh (jrm f loc mc ms) args w0 post w1 mc ms := by
  refine ⟨rfl, rfl, fun l hst sz => ?_⟩
  refine MetFree.of_bodyS (code := cc) (maxLocals := maxL) (ret := (some .int)) hy ?_ ?_
  · intro args s m h hn
    obtain ⟨m9, meth, c, hn9, h1, h2, h3, h4, -, h5, h6, -⟩ := Cond.codeWith_spec (atoms_spec (ws := (Cond.codeWith y cc maxL (some .int) hh :: jAll)) h _ List.mem_cons_self)
    cases hn.symm.trans hn9
    exact ⟨meth, c, h1, h2, h3, h4, h5, h6⟩
  · intro p e s m args1 below meth c s₁ B hml hv _
    obtain ⟨rfl, ⟨hsz, hP, hK, hN, hD0⟩, hE⟩ := hv
    have hh0 : s₁.heap = s.heap := by rw [B.state]; rfl
    have hx := B.exec
    have hb := B.bytes
    have hr := B.returns
    have hts := atoms_spec (ws := (Cond.codeWith y cc maxL (some .int) hh :: jAll)) B.pre
    have hown : s.vm.findClass own = some m.cls := by rw [← hyo]; exact findClass_of_methodNamed B.named
    have hlocks := B.notSynchronized
    have htab := vx_table (x := y) B (hts _ List.mem_cons_self)
    have hml2 : c.maxLocals = maxL := by
      obtain ⟨m9, meth9, c9, hn9, h1, h2, h3, h4, -, h5, h6, -⟩ := Cond.codeWith_spec (hts _ List.mem_cons_self)
      cases Option.some.inj (hn9.symm.trans B.named)
      cases Option.some.inj (h1.symm.trans B.method)
      cases Option.some.inj (h2.symm.trans (Stand.of_body B).code)
      exact h4
    subst hsz
    have hD := hD0.self (sz := s.heap.size)
    have hA : ∀ q : Nat, s.heap.size ≤ q → va_A w0 s.heap.size q := fun q h => Or.inr h
    have hl := lv_entry args (n := maxL) hsl
    have K := h (p, l, e, (jrm f loc mc ms), s, m, args.toArray, below, meth, c, MQ below (va_Qi post (fun u => jPost G (va_A w0 s.heap.size) (w1 u)) (va_A w0 s.heap.size)) args.toArray s mc ms (va_A w0 s.heap.size), va_A w0 s.heap.size) ⟨hx, hb, hml2, hown, fun z hz => hts z (List.mem_cons_of_mem _ hz), hN, hK, hlocks, hA, rfl⟩ ⟨hst, hE⟩ htab ?_
    · have K2 : W p l e (jrm f loc mc ms) s m args.toArray below meth c s.heap [] 0 0 (MQ below (va_Qi post (fun u => jPost G (va_A w0 s.heap.size) (w1 u)) (va_A w0 s.heap.size)) args.toArray s mc ms (va_A w0 s.heap.size)) (entryFrame m args.toArray maxL) := by
        rw [lg_entry_eq]
        generalize (lg_sl args ++ List.replicate (maxL - (lg_sl args).length) Slot.unset).toArray = ls at hl ⊢
        rw [← hL] at hl
        have hl2 : lv_has ls L0.length (jl0 0 L0) := by rw [hLn]; exact hl
        exact K s.heap [] ls hP hD va_S.rf hl2
      obtain ⟨t, a1, o, b1, b2, b3⟩ := K2 s₁ hh0 (Stand.of_body B)
      exact ⟨t, o, a1, b1, b2, ⟨b3.1, b3.2⟩⟩
    · intro pc L r u k n hk hn hd hp H locs ls hP hD hS hl
      refine W.widen hk hn ?_
      exact W.iret hx hb hr (fun t ht hW => ⟨⟨r, u, rfl, hp, by rw [ht]; exact hP, va_K.moved hW.alike hK, hD⟩, hS.F ht⟩) hS.2.2 hd hlocks
/-- calling such a one -/
def jWh (y : MethodName) (bytes : ByteArray) (maxL : Nat) (hh : List (Nat × Nat × Nat × Nat)) (np : Nat) : Prop :=
  Cond.static y ∈ jAll ∧ Cond.initialized y.cls ∈ jAll ∧ Cond.codeWith y bytes maxL (some .int) hh ∈ jAll ∧ (y.cls ≠ "java/lang/invoke/MethodHandle" ∧ y.cls ≠ "java/lang/invoke/VarHandle" ∧ (parseMethodDescriptor y.desc).map (fun d => d.parameters.length) = some np)
theorem jw_sH {post : Int32 → S → Prop} {hh : List (Nat × Nat × Nat × Nat)} (C : JC G X rm cc own nL) (Ev : JE sa X) (ct : CH G sa y bytes maxL hh (jrm f loc mc ms) As w0 post w1 mc ms) (wd : jWh y bytes maxL hh np) (link : Cond.methodLink own idx y ∈ jAll)
    (isC isR : List Nat) (hC : isC.map (fun i => w[i]?) = w0.map some) (hR : isR.map (fun i => w[i]?) = wr.map some) (hnC : va_nd isC = true) (hn : va_nd isR = true) (hdis : ∀ i ∈ isR, i ∉ isC)
    (hAs : As.length = np) (hst : st0 = As.reverse ++ rest) (hrest : (rest.map fun v => v.category).sum ≤ 8) (hrm : f + 1 ≤ rm.frames ∧ 8 + (maxL + 11) + loc ≤ rm.locals) (hk : k + mc ≤ rm.cells ∧ n + ms ≤ rm.slots) (d : decode cc pc = .ok (.invokestatic idx, 3)) (hL : L.length = nL)
    (kk : ∀ (r : Int32) (u : S), post r u → JW G X (k + mc) (n + ms) (wr ++ w1 u) (pc + 3) L (.int r :: rest)) : JW G X k n w pc L st0 := by
  obtain ⟨p, l, e, R, s, m, args, below, meth, c, Q, A⟩ := X
  obtain ⟨hx, hb, hml, hown, hts, hnw, hK, hlk, hA, hR⟩ := C
  obtain ⟨hst9, hEv⟩ := Ev
  subst hR
  intro H locs ls hP hD hS hl
  obtain ⟨wd1, wd2, wd3, wd5⟩ := wd
  have hPc := hP.sub isC (j_part hC)
  have hDc := j_nd hD hC hnC
  have hFc := va_free hD hS hA isC hC
  refine va_calli (vx_runSW (hh := hh) (As := As) (rest := rest) ⟨hx, hb, hml, hown, hts⟩ (ct.2.2 l hst9 H.size) (vx_cwSW np hts (jAll_in (fun z hz => ?_)) rfl rfl rfl wd5 hrm) ⟨jPreX_blind, fun U hU hW => ⟨rfl, ⟨by rw [hU], by rw [hU]; exact hPc, va_K.moved hW.alike hK, fun z hz => jNest_warm hz hW (hnw z hz), hDc⟩, hEv.go hW (by rw [hU]; exact hS.2.1) (fun q h => hFc q h)⟩⟩ rfl hAs (hl.1.trans hL) hst (lv_room hrest) d hk) hS (fun q _ h => hFc q h) hFc (fun r u t H1 locs1 ht hvm hw hB hz1 hk1 hS1 => ?_)
  · rcases List.mem_append.mp hz with h | h
    · simp only [List.mem_cons, List.not_mem_nil, or_false] at h
      rcases h with rfl | rfl | rfl
      · exact link
      · exact wd1
      · exact wd2
    · rcases List.mem_cons.mp h with rfl | h
      · exact wd3
      · exact h
  · obtain ⟨hP1, hK1, hD1⟩ := hB
    rw [ht] at hP1
    obtain ⟨hP2, hD2⟩ := va_join hP hD isC isR hC hR hn hdis hk1 hFc hP1 hD1
    exact kk r u hw H1 locs1 ls hP2 hD2 hS1 hl
end JXCALL
end
section
/-! THE CLAIM OUT OF ONE WALK OF THE LAW'S BODY. Your part is whole_start (and what it stands on); all else here is the same for every law, but numbers. -/
def R_law : String := "MatchingServiceLaw"
def lw_P (b : Addr) (xs : List Int32) (args : Array Value) (s : State) : Prop := args = #[.ref b] ∧ s.IntsAt b xs ∧ xs.length ≤ 2048 ∧ (Jvm.Cond.and given_1 narrow_1).before args s = true
/-- what a walk over the start with the record d0 says of its end, said of the start itself -/
theorem lw_closed {s t : State} {o : Outcome} {d0 : Drawn} {L : List Loc} {k n : Nat} (hd0 : s.drawn.sameBut d0 lw_cs) (hv : ∃ v, o = .returned v) (hW : (s.setDrawn d0).WarmedH t.vm) (hs : (s.setDrawn d0).sameButNew ({ t with vm := s.vm } : State) L k n) : State.butDraws s t lw_cs (fun t1 => Framed s o t1 L k n) := by
  have h2 : t.drawn = d0 := congrArg State.drawn hs.1
  refine ⟨⟨hv, hW, State.sameButNew.setDrawn hs s.drawn⟩, ?_, by decide⟩
  rw [h2]
  exact hd0
def lw_Q (_ : Array Value) (s : State) (o : Outcome) (t : State) : Prop := o = .returned (some (.int 1)) ∧ State.butDraws s t lw_cs (fun t1 => Framed s o t1 [] 1086 10291)
def lw_Z (below : List Frame) (a : Array Value) (s : State) : State → Prop := fun t => ∃ o, t.status = .running ∧ Ended t below o ∧ lw_Q a s o t
/-- the law's own end, with 1 on the stack, nothing written that was there before, its room as the claim has it; d0: the record of draws at this point (at the entry s.drawn: begin with 'refine W.base ?_' and 'have hd0 := Drawn.sameBut.refl s.drawn lw_cs') -/
theorem lw_ret {p : Program} {l : Launch} {e : Env} {s : State} {m : MethodId} {below : List Frame} {meth : Method} {c : Code} {b : Nat} {d0 : Drawn} (hd0 : s.drawn.sameBut d0 lw_cs) (hx : p.tables.exec = Jvm.exec) (hb : c.code = code) (hr : meth.sig.returnType = ret) (hlocks : meth.locks = false) {pc : Nat} {H : Heap} {ls : Array Slot} (hdg : decode code pc = .ok (.ireturn, 1)) : W p l e room_1 (s.setDrawn d0) m #[Value.ref b] below meth c H [] 1086 10291 (lw_Z below #[Value.ref b] s) (F0 m pc ls [.int 1]) := by
  intro T hT X
  obtain ⟨fs, hret, hrun, hended, hW, hframe⟩ := X.leave (v := some (.int 1)) (hlocks := hlocks) (fun h => by rw [hr] at h; cases h)
  have hmeth' : T.vm.method? m = some meth := X.method'
  refine ⟨T.setFrames fs, ?_, .returned (some (.int 1)), hrun, hended, rfl, lw_closed hd0 ⟨_, rfl⟩ hW hframe⟩
  jvm_step X.here [X.here.top, hx, hb, hdg, hmeth', hr, ret, narrow_b1]
  (try refine ⟨rfl, ?_⟩); (try refine ⟨rfl, ?_⟩)
  first | (intro acts; rw [hret _ acts rfl rfl rfl]) | rw [hret _ _ rfl rfl rfl]
  exact Steps.refl _
/-- what holds at the law's entry: the machine, the code, the tables' words (any of lw_tbl by 'hts w (by decide +kernel)'), the script of L ints xs at the cell b, what the Statement gives of the start (any of its parts by flat_of_before) -/
def lw_At (p : Program) (s : State) (m : MethodId) (meth : Method) (c : Code) (b L : Nat) (xs : Nat → Int32) : Prop :=
  p.tables.exec = Jvm.exec ∧ c.code = code ∧ meth.sig.returnType = ret ∧ c.maxLocals = 9 ∧ s.vm.findClass R_law = some m.cls ∧ (∀ w ∈ lw_tbl, w.before #[Value.ref b] s = true) ∧ va_X b L xs s s.heap ∧ b < s.heap.size ∧ meth.locks = false ∧ (Jvm.Cond.and given_1 narrow_1).before #[Value.ref b] s = true
-- ===== YOUR PART BEGINS =====
/-- YOUR PART: from the entry, for every script of at most 2048 ints, the law comes to its end with true ('hflags': the launch's flags, for a law that throws: no stack traces) -/
theorem whole_start {p : Program} {e : Env} {s : State} {m : MethodId} {below : List Frame} {meth : Method} {c : Code} (l : Launch) (hflags : l.flags = flags0) {b L : Nat} {xs : Nat → Int32} (hL : L ≤ 2048) (C0 : lw_At p s m meth c b L xs) : W p l e room_1 s m #[Value.ref b] below meth c s.heap [] 0 0 (lw_Z below #[Value.ref b] s) (entryFrame m ([Value.ref b] : List Value).toArray 9) := by
  sorry
-- ===== YOUR PART ENDS =====
set_option maxHeartbeats 4000000 in
theorem lw_walk (l : Launch) (hflags : l.flags = flags0) (b : Addr) (xs : List Int32) : MetFree l x (headSpec (Jvm.Cond.code x code maxLocals ret :: tables_1) room_1) (lw_P b xs) (fun _ _ _ _ _ => True) lw_Q := by
  refine MetFree.of_bodyS (code := code) (maxLocals := maxLocals) (ret := ret) (by decide) ?_ ?_
  · intro args s m h hn
    obtain ⟨meth, c, h1, h2, h3, h4, h5, h6, -, -⟩ := Cond.code_spec hn (atoms_spec (ws := Jvm.Cond.code x code maxLocals ret :: tables_1) h _ List.mem_cons_self)
    exact ⟨meth, c, h1, h2, h3, h4, h5, h6⟩
  · intro p e s m args below meth c s₁ B hml0 hP _
    obtain ⟨rfl, hx, hbd, hgv⟩ := hP
    obtain ⟨scr, harrAt, hlist, hof, hsmall⟩ := hx
    obtain ⟨hcb, hkn, -, -⟩ := State.arrayAt?_spec harrAt
    have hown : s.vm.findClass R_law = some m.cls := findClass_of_methodNamed B.named
    have hts0 : ∀ c ∈ (Jvm.Cond.code x code maxLocals ret :: tables_1), c.before #[Value.ref b] s = true := atoms_spec (ws := Jvm.Cond.code x code maxLocals ret :: tables_1) B.pre
    have hts : ∀ w ∈ lw_tbl, w.before #[Value.ref b] s = true := k2_hts_sels lw_privs (fun w hw => hts0 w (List.mem_cons_of_mem _ hw)) lw_privs_ok
    have hml : c.maxLocals = 9 := B.maxLocals_eq (hts0 _ List.mem_cons_self)
    have X₀ : Stand p l e room_1 s m #[Value.ref b] below meth c s₁ [] 0 0 := Stand.of_body B
    have hh0 : s₁.heap = s.heap := by rw [B.state]; rfl
    have hsz : scr.slots.size = xs.length := by rw [← Array.length_toList, hlist, List.length_map]
    have hval : ∀ j : Nat, j < xs.length → scr.slots[j]? = some (.int (xs.getD j 0)) := fun j hj => by
      rw [← Array.getElem?_toList, hlist]
      simp [hj]
    have hbl : b < s.heap.size := (Array.getElem?_eq_some_iff.mp hcb).1
    have hX : va_X b xs.length (fun j => xs.getD j 0) s s.heap := ⟨scr, hcb, hof, hkn, hsz, hval⟩
    have K : W p l e room_1 s m #[Value.ref b] below meth c s₁.heap [] 0 0 (lw_Z below #[Value.ref b] s) (entryFrame m ([Value.ref b] : List Value).toArray 9) := by
      rw [hh0]
      exact whole_start l hflags hbd ⟨B.exec, B.bytes, B.returns, hml, hown, hts, hX, hbl, B.notSynchronized, hgv⟩
    obtain ⟨t, a1, o, b1, b2, b3⟩ := K s₁ rfl X₀
    exact ⟨t, o, a1, b1, b2, b3⟩
theorem lw_pre_spec {args : Array Value} {s : State} (h : (Jvm.Cond.and given_1 narrow_1).before args s = true) (hr : rest_1_c.before args s = true) : ∃ (b : Addr) (xs : List Int32), lw_P b xs args s := by
  have hs := flat_of_before _ h
  have hq := flat_of_before _ hr
  have hc : (Cond.count 1).before args s = true := hs _ (by decide +kernel)
  have harr : (Cond.arrayOf (.arg 0) .int).before args s = true := hs _ (by decide +kernel)
  have hle : (Cond.le (.length (.arg 0)) (.int 2048)).before args s = true := hs _ (by decide +kernel)
  have hlen : (Cond.isInt (.length (.arg 0))).before args s = true := hq _ (by decide +kernel)
  have hall : (Cond.all (.arg 0) (.isInt (.elem (.arg 0) (.index 0)))).before args s = true := hq _ (by decide +kernel)
  obtain ⟨b, xs, hb, hx⟩ := State.ints_of_pre rfl harr hlen hall
  have hsm : xs.length < 2 ^ 31 := hx.choose_spec.2.2.2
  have hev : (Term.length (.arg 0)).eval args s none [] s = some (.int xs.length.toInt32) := hx.length_eval hb
  have hv := Cond.le_ints hev (show (Term.int 2048).eval args s none [] s = some (.int 2048) from rfl)
  have hd : xs.length.toInt32 ≤ 2048 := by
    simpa [Cond.before, Cond.holds, hv] using hle
  have hN : xs.length ≤ 2048 := (Int32.ofNat_le_ofNat hsm (by decide)).mp (show Int32.ofNat xs.length ≤ Int32.ofNat 2048 from hd)
  exact ⟨b, xs, Cond.one_arg hc (show args[0]? = some (.ref b) from hb), hx, hN, h⟩
theorem lw_comes (l : Launch) (hflags : l.flags = flags0) : Comes l x (Jvm.Cond.code x code maxLocals ret :: tables_1) room_1 (fun tb e args s => Calls_1 tb e args s ∧ rest_1 tb e args s ∧ Pre_1 tb e args s)
    (fun _ _ args s o t => lw_Q args s o t) := by
  intro p e ha hc hk s m args below hf hfit hheap happ hpre
  obtain ⟨b, xs, hP⟩ := lw_pre_spec hpre.2.2 hpre.2.1
  obtain ⟨k, o, h1, h2, h3, hQ⟩ := lw_walk l hflags b xs p e ha hc hk s m args below hf ((Spec.applies_iff_loose hf).mp happ).1 hP trivial
  exact ⟨k, o, h1, h2, h3, hQ⟩
theorem lw_frame {s t : State} {o : Outcome} {args : Array Value} (h : State.butDraws s t lw_cs (fun t1 => Framed s o t1 [] 1086 10291)) :
    State.butDraws s t [Jvm.Choice.named "NaN.bits"] (fun t1 => Framed s o t1 (fieldLocs frame_1_writes args s ++ arrayLocs frame_1_arrays args s ++ staticLocs frame_1_statics s) 1086 10291) := h
theorem lw_limb (L : Cond) (hL : ∀ (args : Array Value) (s t : State), L.after args s (.returned (some (.int 1))) t = true) :
    ArmFor flags0 classFile x code maxLocals ret World_1 tables_1 room_1 Calls_1 rest_1 Pre_1
      (fun tb e a s o t => postC L tb e a s o t ∧ State.butDraws s t [Jvm.Choice.named "NaN.bits"] (fun t1 => Framed s o t1 (fieldLocs frame_1_writes a s ++ arrayLocs frame_1_arrays a s ++ staticLocs frame_1_statics s) 1086 10291)) := by
  intro l hflags _ _ p e ha hc hk s m args below hf hfit hheap happ hpre
  obtain ⟨k, o, h1, h2, h3, rfl, hF⟩ := lw_comes l hflags p e ha hc hk s m args below hf hfit hheap happ hpre
  exact ⟨k, _, h1, h2, h3, hL args s _, lw_frame hF⟩
theorem i_vc : Claimed_1_1 ∧ Claimed_1_2 := ⟨lw_limb limb_1_1 (fun args s t => by simp [limb_1_1, Cond.after, Cond.holds, Cond.value]), lw_limb limb_1_2 (fun args s t => Cond.after_iff.mpr (by
  first | (rw [show limb_1_2 = Cond.eq .result (.int 1) from rfl, Cond.eq_ints (x := 1) (y := 1) rfl rfl]; simp; done) | (simp [limb_1_2, Cond.value, Term.eval]; done)))⟩
end
