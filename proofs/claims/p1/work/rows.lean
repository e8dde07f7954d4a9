section
-- ===== PART A: goes FIRST, ahead of the names: the tables' words, and 'selects' of the private methods out of them =====
/-- a private method of a class that the tables say can be made, by its rows of tables_1 -/
def lw_okq (q : MethodName × Nat) : Prop := (q.1.cls ≠ "java/lang/invoke/MethodHandle" ∧ q.1.cls ≠ "java/lang/invoke/VarHandle") ∧ Cond.instantiable q.1.cls q.2 ∈ tables_1 ∧ Cond.privateMethod q.1 ∈ tables_1 ∧ Cond.instanceMethod q.1 ∈ tables_1
theorem lw_p0 : lw_okq (⟨"CarryHouse$Scanner", "takeRun", "()V"⟩, 7) := ⟨⟨by decide +kernel, by decide +kernel⟩, List.mem_of_getElem? (i := 74) (by decide +kernel), List.mem_of_getElem? (i := 432) (by decide +kernel), List.mem_of_getElem? (i := 433) (by decide +kernel)⟩
theorem lw_p1 : lw_okq (⟨"CarryHouse$Reader", "readBody", "()Z"⟩, 10) := ⟨⟨by decide +kernel, by decide +kernel⟩, List.mem_of_getElem? (i := 48) (by decide +kernel), List.mem_of_getElem? (i := 492) (by decide +kernel), List.mem_of_getElem? (i := 493) (by decide +kernel)⟩
theorem lw_p2 : lw_okq (⟨"CarryHouse$Reader", "takeNewName", "()Z"⟩, 10) := ⟨⟨by decide +kernel, by decide +kernel⟩, List.mem_of_getElem? (i := 48) (by decide +kernel), List.mem_of_getElem? (i := 497) (by decide +kernel), List.mem_of_getElem? (i := 498) (by decide +kernel)⟩
theorem lw_p3 : lw_okq (⟨"CarryHouse$Reader", "fail", "(II)Z"⟩, 10) := ⟨⟨by decide +kernel, by decide +kernel⟩, List.mem_of_getElem? (i := 48) (by decide +kernel), List.mem_of_getElem? (i := 511) (by decide +kernel), List.mem_of_getElem? (i := 512) (by decide +kernel)⟩
theorem lw_p4 : lw_okq (⟨"CarryHouse$Reader", "toldName", "()I"⟩, 10) := ⟨⟨by decide +kernel, by decide +kernel⟩, List.mem_of_getElem? (i := 48) (by decide +kernel), List.mem_of_getElem? (i := 515) (by decide +kernel), List.mem_of_getElem? (i := 516) (by decide +kernel)⟩
theorem lw_p5 : lw_okq (⟨"CarryHouse$Reader", "takeSign", "(I)Z"⟩, 10) := ⟨⟨by decide +kernel, by decide +kernel⟩, List.mem_of_getElem? (i := 48) (by decide +kernel), List.mem_of_getElem? (i := 523) (by decide +kernel), List.mem_of_getElem? (i := 524) (by decide +kernel)⟩
theorem lw_p6 : lw_okq (⟨"CarryHouse$Reader", "readRule", "()Z"⟩, 10) := ⟨⟨by decide +kernel, by decide +kernel⟩, List.mem_of_getElem? (i := 48) (by decide +kernel), List.mem_of_getElem? (i := 527) (by decide +kernel), List.mem_of_getElem? (i := 528) (by decide +kernel)⟩
theorem lw_p7 : lw_okq (⟨"CarryHouse$Reader", "readAll", "()Z"⟩, 10) := ⟨⟨by decide +kernel, by decide +kernel⟩, List.mem_of_getElem? (i := 48) (by decide +kernel), List.mem_of_getElem? (i := 531) (by decide +kernel), List.mem_of_getElem? (i := 532) (by decide +kernel)⟩
theorem lw_p8 : lw_okq (⟨"CarryHouse$Reader", "readOne", "()Z"⟩, 10) := ⟨⟨by decide +kernel, by decide +kernel⟩, List.mem_of_getElem? (i := 48) (by decide +kernel), List.mem_of_getElem? (i := 535) (by decide +kernel), List.mem_of_getElem? (i := 536) (by decide +kernel)⟩
theorem lw_p9 : lw_okq (⟨"CarryHouse$Reader", "readQuota", "(II)Z"⟩, 10) := ⟨⟨by decide +kernel, by decide +kernel⟩, List.mem_of_getElem? (i := 48) (by decide +kernel), List.mem_of_getElem? (i := 539) (by decide +kernel), List.mem_of_getElem? (i := 540) (by decide +kernel)⟩
theorem lw_p10 : lw_okq (⟨"CarryHouse$Reader", "countOne", "(I)Z"⟩, 10) := ⟨⟨by decide +kernel, by decide +kernel⟩, List.mem_of_getElem? (i := 48) (by decide +kernel), List.mem_of_getElem? (i := 543) (by decide +kernel), List.mem_of_getElem? (i := 544) (by decide +kernel)⟩
theorem lw_p11 : lw_okq (⟨"CarryHouse$Reader", "takeWord", "(Ljava/lang/String;)Z"⟩, 10) := ⟨⟨by decide +kernel, by decide +kernel⟩, List.mem_of_getElem? (i := 48) (by decide +kernel), List.mem_of_getElem? (i := 548) (by decide +kernel), List.mem_of_getElem? (i := 549) (by decide +kernel)⟩
theorem lw_p12 : lw_okq (⟨"CarryHouse$Reader", "takeOpening", "(I)Z"⟩, 10) := ⟨⟨by decide +kernel, by decide +kernel⟩, List.mem_of_getElem? (i := 48) (by decide +kernel), List.mem_of_getElem? (i := 552) (by decide +kernel), List.mem_of_getElem? (i := 553) (by decide +kernel)⟩
theorem lw_p13 : lw_okq (⟨"CarryHouse$Reader", "readItem", "()Z"⟩, 10) := ⟨⟨by decide +kernel, by decide +kernel⟩, List.mem_of_getElem? (i := 48) (by decide +kernel), List.mem_of_getElem? (i := 560) (by decide +kernel), List.mem_of_getElem? (i := 561) (by decide +kernel)⟩
theorem lw_p14 : lw_okq (⟨"CarryHouse$Reader", "noteMember", "()Z"⟩, 10) := ⟨⟨by decide +kernel, by decide +kernel⟩, List.mem_of_getElem? (i := 48) (by decide +kernel), List.mem_of_getElem? (i := 568) (by decide +kernel), List.mem_of_getElem? (i := 569) (by decide +kernel)⟩
theorem lw_p15 : lw_okq (⟨"CarryHouse$Reader", "noteName", "()Z"⟩, 10) := ⟨⟨by decide +kernel, by decide +kernel⟩, List.mem_of_getElem? (i := 48) (by decide +kernel), List.mem_of_getElem? (i := 576) (by decide +kernel), List.mem_of_getElem? (i := 577) (by decide +kernel)⟩
def lw_privs_1 : List (MethodName × Nat) := [(⟨"CarryHouse$Scanner", "takeRun", "()V"⟩, 7), (⟨"CarryHouse$Reader", "readBody", "()Z"⟩, 10), (⟨"CarryHouse$Reader", "takeNewName", "()Z"⟩, 10), (⟨"CarryHouse$Reader", "fail", "(II)Z"⟩, 10), (⟨"CarryHouse$Reader", "toldName", "()I"⟩, 10), (⟨"CarryHouse$Reader", "takeSign", "(I)Z"⟩, 10), (⟨"CarryHouse$Reader", "readRule", "()Z"⟩, 10), (⟨"CarryHouse$Reader", "readAll", "()Z"⟩, 10), (⟨"CarryHouse$Reader", "readOne", "()Z"⟩, 10), (⟨"CarryHouse$Reader", "readQuota", "(II)Z"⟩, 10), (⟨"CarryHouse$Reader", "countOne", "(I)Z"⟩, 10), (⟨"CarryHouse$Reader", "takeWord", "(Ljava/lang/String;)Z"⟩, 10), (⟨"CarryHouse$Reader", "takeOpening", "(I)Z"⟩, 10), (⟨"CarryHouse$Reader", "readItem", "()Z"⟩, 10), (⟨"CarryHouse$Reader", "noteMember", "()Z"⟩, 10), (⟨"CarryHouse$Reader", "noteName", "()Z"⟩, 10)]
theorem lw_r1 : ∀ q ∈ lw_privs_1, lw_okq q := List.forall_mem_cons.mpr ⟨lw_p0, List.forall_mem_cons.mpr ⟨lw_p1, List.forall_mem_cons.mpr ⟨lw_p2, List.forall_mem_cons.mpr ⟨lw_p3, List.forall_mem_cons.mpr ⟨lw_p4, List.forall_mem_cons.mpr ⟨lw_p5, List.forall_mem_cons.mpr ⟨lw_p6, List.forall_mem_cons.mpr ⟨lw_p7, List.forall_mem_cons.mpr ⟨lw_p8, List.forall_mem_cons.mpr ⟨lw_p9, List.forall_mem_cons.mpr ⟨lw_p10, List.forall_mem_cons.mpr ⟨lw_p11, List.forall_mem_cons.mpr ⟨lw_p12, List.forall_mem_cons.mpr ⟨lw_p13, List.forall_mem_cons.mpr ⟨lw_p14, List.forall_mem_cons.mpr ⟨lw_p15, fun _ h => absurd h List.not_mem_nil⟩⟩⟩⟩⟩⟩⟩⟩⟩⟩⟩⟩⟩⟩⟩⟩
theorem lw_p16 : lw_okq (⟨"CarryHouse$Reader", "takeEnd", "()Z"⟩, 10) := ⟨⟨by decide +kernel, by decide +kernel⟩, List.mem_of_getElem? (i := 48) (by decide +kernel), List.mem_of_getElem? (i := 583) (by decide +kernel), List.mem_of_getElem? (i := 584) (by decide +kernel)⟩
theorem lw_p17 : lw_okq (⟨"CarryHouse$Program", "run", "(I)Z"⟩, 4) := ⟨⟨by decide +kernel, by decide +kernel⟩, List.mem_of_getElem? (i := 54) (by decide +kernel), List.mem_of_getElem? (i := 595) (by decide +kernel), List.mem_of_getElem? (i := 596) (by decide +kernel)⟩
theorem lw_p18 : lw_okq (⟨"CarryHouse$Program", "push", "(II)I"⟩, 4) := ⟨⟨by decide +kernel, by decide +kernel⟩, List.mem_of_getElem? (i := 54) (by decide +kernel), List.mem_of_getElem? (i := 599) (by decide +kernel), List.mem_of_getElem? (i := 600) (by decide +kernel)⟩
theorem lw_p19 : lw_okq (⟨"CarryHouse$Program", "peek", "(I)I"⟩, 4) := ⟨⟨by decide +kernel, by decide +kernel⟩, List.mem_of_getElem? (i := 54) (by decide +kernel), List.mem_of_getElem? (i := 603) (by decide +kernel), List.mem_of_getElem? (i := 604) (by decide +kernel)⟩
theorem lw_p20 : lw_okq (⟨"CarryHouse$Program", "replace", "(II)V"⟩, 4) := ⟨⟨by decide +kernel, by decide +kernel⟩, List.mem_of_getElem? (i := 54) (by decide +kernel), List.mem_of_getElem? (i := 607) (by decide +kernel), List.mem_of_getElem? (i := 608) (by decide +kernel)⟩
theorem lw_p21 : lw_okq (⟨"CarryHouse", "isSet", "(I)Z"⟩, 12) := ⟨⟨by decide +kernel, by decide +kernel⟩, List.mem_of_getElem? (i := 23) (by decide +kernel), List.mem_of_getElem? (i := 623) (by decide +kernel), List.mem_of_getElem? (i := 624) (by decide +kernel)⟩
theorem lw_p22 : lw_okq (⟨"CarryHouse", "inForce", "(I)LCarryHouse$Statute;"⟩, 12) := ⟨⟨by decide +kernel, by decide +kernel⟩, List.mem_of_getElem? (i := 23) (by decide +kernel), List.mem_of_getElem? (i := 627) (by decide +kernel), List.mem_of_getElem? (i := 628) (by decide +kernel)⟩
theorem lw_p23 : lw_okq (⟨"CarryHouse", "powersToday", "()LCarryHouse$Powers;"⟩, 12) := ⟨⟨by decide +kernel, by decide +kernel⟩, List.mem_of_getElem? (i := 23) (by decide +kernel), List.mem_of_getElem? (i := 639) (by decide +kernel), List.mem_of_getElem? (i := 640) (by decide +kernel)⟩
theorem lw_p24 : lw_okq (⟨"CarryHouse$Powers", "list", "([IZ)I"⟩, 13) := ⟨⟨by decide +kernel, by decide +kernel⟩, List.mem_of_getElem? (i := 157) (by decide +kernel), List.mem_of_getElem? (i := 651) (by decide +kernel), List.mem_of_getElem? (i := 652) (by decide +kernel)⟩
theorem lw_p25 : lw_okq (⟨"CarryHouse$Powers", "isMinimal", "(IZ)Z"⟩, 13) := ⟨⟨by decide +kernel, by decide +kernel⟩, List.mem_of_getElem? (i := 157) (by decide +kernel), List.mem_of_getElem? (i := 655) (by decide +kernel), List.mem_of_getElem? (i := 656) (by decide +kernel)⟩
theorem lw_p26 : lw_okq (⟨"CarryHouse$Powers", "does", "(IZ)Z"⟩, 13) := ⟨⟨by decide +kernel, by decide +kernel⟩, List.mem_of_getElem? (i := 157) (by decide +kernel), List.mem_of_getElem? (i := 659) (by decide +kernel), List.mem_of_getElem? (i := 660) (by decide +kernel)⟩
theorem lw_p27 : lw_okq (⟨"CarryHouse$Powers", "markNeeded", "()V"⟩, 13) := ⟨⟨by decide +kernel, by decide +kernel⟩, List.mem_of_getElem? (i := 157) (by decide +kernel), List.mem_of_getElem? (i := 671) (by decide +kernel), List.mem_of_getElem? (i := 672) (by decide +kernel)⟩
theorem lw_p28 : lw_okq (⟨"CarryHouse$Powers", "countSwings", "(I)I"⟩, 13) := ⟨⟨by decide +kernel, by decide +kernel⟩, List.mem_of_getElem? (i := 157) (by decide +kernel), List.mem_of_getElem? (i := 675) (by decide +kernel), List.mem_of_getElem? (i := 676) (by decide +kernel)⟩
theorem lw_p29 : lw_okq (⟨"CarryHouse$Powers", "turnsBy", "(II)Z"⟩, 13) := ⟨⟨by decide +kernel, by decide +kernel⟩, List.mem_of_getElem? (i := 157) (by decide +kernel), List.mem_of_getElem? (i := 679) (by decide +kernel), List.mem_of_getElem? (i := 680) (by decide +kernel)⟩
theorem lw_p30 : lw_okq (⟨"CarryHouse$Powers", "compareAll", "()V"⟩, 13) := ⟨⟨by decide +kernel, by decide +kernel⟩, List.mem_of_getElem? (i := 157) (by decide +kernel), List.mem_of_getElem? (i := 683) (by decide +kernel), List.mem_of_getElem? (i := 684) (by decide +kernel)⟩
theorem lw_p31 : lw_okq (⟨"CarryHouse$Powers", "isAtLeast", "(II)Z"⟩, 13) := ⟨⟨by decide +kernel, by decide +kernel⟩, List.mem_of_getElem? (i := 157) (by decide +kernel), List.mem_of_getElem? (i := 687) (by decide +kernel), List.mem_of_getElem? (i := 688) (by decide +kernel)⟩
def lw_privs_2 : List (MethodName × Nat) := [(⟨"CarryHouse$Reader", "takeEnd", "()Z"⟩, 10), (⟨"CarryHouse$Program", "run", "(I)Z"⟩, 4), (⟨"CarryHouse$Program", "push", "(II)I"⟩, 4), (⟨"CarryHouse$Program", "peek", "(I)I"⟩, 4), (⟨"CarryHouse$Program", "replace", "(II)V"⟩, 4), (⟨"CarryHouse", "isSet", "(I)Z"⟩, 12), (⟨"CarryHouse", "inForce", "(I)LCarryHouse$Statute;"⟩, 12), (⟨"CarryHouse", "powersToday", "()LCarryHouse$Powers;"⟩, 12), (⟨"CarryHouse$Powers", "list", "([IZ)I"⟩, 13), (⟨"CarryHouse$Powers", "isMinimal", "(IZ)Z"⟩, 13), (⟨"CarryHouse$Powers", "does", "(IZ)Z"⟩, 13), (⟨"CarryHouse$Powers", "markNeeded", "()V"⟩, 13), (⟨"CarryHouse$Powers", "countSwings", "(I)I"⟩, 13), (⟨"CarryHouse$Powers", "turnsBy", "(II)Z"⟩, 13), (⟨"CarryHouse$Powers", "compareAll", "()V"⟩, 13), (⟨"CarryHouse$Powers", "isAtLeast", "(II)Z"⟩, 13)]
theorem lw_r2 : ∀ q ∈ lw_privs_2, lw_okq q := List.forall_mem_cons.mpr ⟨lw_p16, List.forall_mem_cons.mpr ⟨lw_p17, List.forall_mem_cons.mpr ⟨lw_p18, List.forall_mem_cons.mpr ⟨lw_p19, List.forall_mem_cons.mpr ⟨lw_p20, List.forall_mem_cons.mpr ⟨lw_p21, List.forall_mem_cons.mpr ⟨lw_p22, List.forall_mem_cons.mpr ⟨lw_p23, List.forall_mem_cons.mpr ⟨lw_p24, List.forall_mem_cons.mpr ⟨lw_p25, List.forall_mem_cons.mpr ⟨lw_p26, List.forall_mem_cons.mpr ⟨lw_p27, List.forall_mem_cons.mpr ⟨lw_p28, List.forall_mem_cons.mpr ⟨lw_p29, List.forall_mem_cons.mpr ⟨lw_p30, List.forall_mem_cons.mpr ⟨lw_p31, fun _ h => absurd h List.not_mem_nil⟩⟩⟩⟩⟩⟩⟩⟩⟩⟩⟩⟩⟩⟩⟩⟩
theorem lw_p32 : lw_okq (⟨"CarryHouse", "isMember", "(I)Z"⟩, 12) := ⟨⟨by decide +kernel, by decide +kernel⟩, List.mem_of_getElem? (i := 23) (by decide +kernel), List.mem_of_getElem? (i := 720) (by decide +kernel), List.mem_of_getElem? (i := 721) (by decide +kernel)⟩
theorem lw_p33 : lw_okq (⟨"CarryHouse$Powers", "countTogether", "(II)I"⟩, 13) := ⟨⟨by decide +kernel, by decide +kernel⟩, List.mem_of_getElem? (i := 157) (by decide +kernel), List.mem_of_getElem? (i := 749) (by decide +kernel), List.mem_of_getElem? (i := 750) (by decide +kernel)⟩
theorem lw_p34 : lw_okq (⟨"CarryHouse$Scales", "search", "()I"⟩, 16) := ⟨⟨by decide +kernel, by decide +kernel⟩, List.mem_of_getElem? (i := 216) (by decide +kernel), List.mem_of_getElem? (i := 762) (by decide +kernel), List.mem_of_getElem? (i := 763) (by decide +kernel)⟩
theorem lw_p35 : lw_okq (⟨"CarryHouse$Scales", "findClasses", "()V"⟩, 16) := ⟨⟨by decide +kernel, by decide +kernel⟩, List.mem_of_getElem? (i := 216) (by decide +kernel), List.mem_of_getElem? (i := 767) (by decide +kernel), List.mem_of_getElem? (i := 768) (by decide +kernel)⟩
theorem lw_p36 : lw_okq (⟨"CarryHouse$Scales", "isFirst", "(I)Z"⟩, 16) := ⟨⟨by decide +kernel, by decide +kernel⟩, List.mem_of_getElem? (i := 216) (by decide +kernel), List.mem_of_getElem? (i := 771) (by decide +kernel), List.mem_of_getElem? (i := 772) (by decide +kernel)⟩
theorem lw_p37 : lw_okq (⟨"CarryHouse$Scales", "strengthOf", "(I)I"⟩, 16) := ⟨⟨by decide +kernel, by decide +kernel⟩, List.mem_of_getElem? (i := 216) (by decide +kernel), List.mem_of_getElem? (i := 776) (by decide +kernel), List.mem_of_getElem? (i := 777) (by decide +kernel)⟩
theorem lw_p38 : lw_okq (⟨"CarryHouse$Scales", "place", "(II)V"⟩, 16) := ⟨⟨by decide +kernel, by decide +kernel⟩, List.mem_of_getElem? (i := 216) (by decide +kernel), List.mem_of_getElem? (i := 780) (by decide +kernel), List.mem_of_getElem? (i := 781) (by decide +kernel)⟩
theorem lw_p39 : lw_okq (⟨"CarryHouse$Scales", "tryRow", "()V"⟩, 16) := ⟨⟨by decide +kernel, by decide +kernel⟩, List.mem_of_getElem? (i := 216) (by decide +kernel), List.mem_of_getElem? (i := 784) (by decide +kernel), List.mem_of_getElem? (i := 785) (by decide +kernel)⟩
theorem lw_p40 : lw_okq (⟨"CarryHouse$Scales", "doesTheSame", "()Z"⟩, 16) := ⟨⟨by decide +kernel, by decide +kernel⟩, List.mem_of_getElem? (i := 216) (by decide +kernel), List.mem_of_getElem? (i := 788) (by decide +kernel), List.mem_of_getElem? (i := 789) (by decide +kernel)⟩
theorem lw_p41 : lw_okq (⟨"CarryHouse$Scales", "weightOf", "(I)I"⟩, 16) := ⟨⟨by decide +kernel, by decide +kernel⟩, List.mem_of_getElem? (i := 216) (by decide +kernel), List.mem_of_getElem? (i := 792) (by decide +kernel), List.mem_of_getElem? (i := 793) (by decide +kernel)⟩
theorem lw_p42 : lw_okq (⟨"CarryHouse$Scales", "lightest", "([II)I"⟩, 16) := ⟨⟨by decide +kernel, by decide +kernel⟩, List.mem_of_getElem? (i := 216) (by decide +kernel), List.mem_of_getElem? (i := 796) (by decide +kernel), List.mem_of_getElem? (i := 797) (by decide +kernel)⟩
theorem lw_p43 : lw_okq (⟨"CarryHouse$Scales", "tell", "()V"⟩, 16) := ⟨⟨by decide +kernel, by decide +kernel⟩, List.mem_of_getElem? (i := 216) (by decide +kernel), List.mem_of_getElem? (i := 800) (by decide +kernel), List.mem_of_getElem? (i := 801) (by decide +kernel)⟩
theorem lw_p44 : lw_okq (⟨"CarryHouse$Scales", "lowest", "(I)I"⟩, 16) := ⟨⟨by decide +kernel, by decide +kernel⟩, List.mem_of_getElem? (i := 216) (by decide +kernel), List.mem_of_getElem? (i := 804) (by decide +kernel), List.mem_of_getElem? (i := 805) (by decide +kernel)⟩
theorem lw_p45 : lw_okq (⟨"CarryHouse$Scales", "highest", "(II)I"⟩, 16) := ⟨⟨by decide +kernel, by decide +kernel⟩, List.mem_of_getElem? (i := 216) (by decide +kernel), List.mem_of_getElem? (i := 808) (by decide +kernel), List.mem_of_getElem? (i := 809) (by decide +kernel)⟩
theorem lw_p46 : lw_okq (⟨"CarryHouse$Scales", "leastRest", "()I"⟩, 16) := ⟨⟨by decide +kernel, by decide +kernel⟩, List.mem_of_getElem? (i := 216) (by decide +kernel), List.mem_of_getElem? (i := 812) (by decide +kernel), List.mem_of_getElem? (i := 813) (by decide +kernel)⟩
theorem lw_p47 : lw_okq (⟨"CarryHouse$Scales", "mostRest", "()I"⟩, 16) := ⟨⟨by decide +kernel, by decide +kernel⟩, List.mem_of_getElem? (i := 216) (by decide +kernel), List.mem_of_getElem? (i := 816) (by decide +kernel), List.mem_of_getElem? (i := 817) (by decide +kernel)⟩
def lw_privs_3 : List (MethodName × Nat) := [(⟨"CarryHouse", "isMember", "(I)Z"⟩, 12), (⟨"CarryHouse$Powers", "countTogether", "(II)I"⟩, 13), (⟨"CarryHouse$Scales", "search", "()I"⟩, 16), (⟨"CarryHouse$Scales", "findClasses", "()V"⟩, 16), (⟨"CarryHouse$Scales", "isFirst", "(I)Z"⟩, 16), (⟨"CarryHouse$Scales", "strengthOf", "(I)I"⟩, 16), (⟨"CarryHouse$Scales", "place", "(II)V"⟩, 16), (⟨"CarryHouse$Scales", "tryRow", "()V"⟩, 16), (⟨"CarryHouse$Scales", "doesTheSame", "()Z"⟩, 16), (⟨"CarryHouse$Scales", "weightOf", "(I)I"⟩, 16), (⟨"CarryHouse$Scales", "lightest", "([II)I"⟩, 16), (⟨"CarryHouse$Scales", "tell", "()V"⟩, 16), (⟨"CarryHouse$Scales", "lowest", "(I)I"⟩, 16), (⟨"CarryHouse$Scales", "highest", "(II)I"⟩, 16), (⟨"CarryHouse$Scales", "leastRest", "()I"⟩, 16), (⟨"CarryHouse$Scales", "mostRest", "()I"⟩, 16)]
theorem lw_r3 : ∀ q ∈ lw_privs_3, lw_okq q := List.forall_mem_cons.mpr ⟨lw_p32, List.forall_mem_cons.mpr ⟨lw_p33, List.forall_mem_cons.mpr ⟨lw_p34, List.forall_mem_cons.mpr ⟨lw_p35, List.forall_mem_cons.mpr ⟨lw_p36, List.forall_mem_cons.mpr ⟨lw_p37, List.forall_mem_cons.mpr ⟨lw_p38, List.forall_mem_cons.mpr ⟨lw_p39, List.forall_mem_cons.mpr ⟨lw_p40, List.forall_mem_cons.mpr ⟨lw_p41, List.forall_mem_cons.mpr ⟨lw_p42, List.forall_mem_cons.mpr ⟨lw_p43, List.forall_mem_cons.mpr ⟨lw_p44, List.forall_mem_cons.mpr ⟨lw_p45, List.forall_mem_cons.mpr ⟨lw_p46, List.forall_mem_cons.mpr ⟨lw_p47, fun _ h => absurd h List.not_mem_nil⟩⟩⟩⟩⟩⟩⟩⟩⟩⟩⟩⟩⟩⟩⟩⟩
theorem lw_p48 : lw_okq (⟨"CarryHouse$Ballot", "findReach", "()V"⟩, 7) := ⟨⟨by decide +kernel, by decide +kernel⟩, List.mem_of_getElem? (i := 273) (by decide +kernel), List.mem_of_getElem? (i := 871) (by decide +kernel), List.mem_of_getElem? (i := 872) (by decide +kernel)⟩
theorem lw_p49 : lw_okq (⟨"CarryHouse$Ballot", "wins", "(II)Z"⟩, 7) := ⟨⟨by decide +kernel, by decide +kernel⟩, List.mem_of_getElem? (i := 273) (by decide +kernel), List.mem_of_getElem? (i := 875) (by decide +kernel), List.mem_of_getElem? (i := 876) (by decide +kernel)⟩
theorem lw_p50 : lw_okq (⟨"CarryHouse$Ballot", "stands", "(II)I"⟩, 7) := ⟨⟨by decide +kernel, by decide +kernel⟩, List.mem_of_getElem? (i := 273) (by decide +kernel), List.mem_of_getElem? (i := 887) (by decide +kernel), List.mem_of_getElem? (i := 888) (by decide +kernel)⟩
theorem lw_p51 : lw_okq (⟨"CarryHouse$Ballot", "countWays", "(I)V"⟩, 7) := ⟨⟨by decide +kernel, by decide +kernel⟩, List.mem_of_getElem? (i := 273) (by decide +kernel), List.mem_of_getElem? (i := 903) (by decide +kernel), List.mem_of_getElem? (i := 904) (by decide +kernel)⟩
theorem lw_p52 : lw_okq (⟨"CarryHouse$Ballot", "waysFrom", "(II)I"⟩, 7) := ⟨⟨by decide +kernel, by decide +kernel⟩, List.mem_of_getElem? (i := 273) (by decide +kernel), List.mem_of_getElem? (i := 907) (by decide +kernel), List.mem_of_getElem? (i := 908) (by decide +kernel)⟩
theorem lw_p53 : lw_okq (⟨"CarryHouse$Ballot", "findFirstRow", "()V"⟩, 7) := ⟨⟨by decide +kernel, by decide +kernel⟩, List.mem_of_getElem? (i := 273) (by decide +kernel), List.mem_of_getElem? (i := 911) (by decide +kernel), List.mem_of_getElem? (i := 912) (by decide +kernel)⟩
theorem lw_p54 : lw_okq (⟨"java/lang/Throwable", "fillInStackTrace", "(I)Ljava/lang/Throwable;"⟩, 6) := ⟨⟨by decide +kernel, by decide +kernel⟩, List.mem_of_getElem? (i := 991) (by decide +kernel), List.mem_of_getElem? (i := 989) (by decide +kernel), List.mem_of_getElem? (i := 990) (by decide +kernel)⟩
theorem lw_p55 : lw_okq (⟨"CarryHouse$Powers", "ordersOf", "(I)J"⟩, 13) := ⟨⟨by decide +kernel, by decide +kernel⟩, List.mem_of_getElem? (i := 157) (by decide +kernel), List.mem_of_getElem? (i := 1020) (by decide +kernel), List.mem_of_getElem? (i := 1021) (by decide +kernel)⟩
theorem lw_p56 : lw_okq (⟨"CarryHouse$Powers", "partsOf", "(I)J"⟩, 13) := ⟨⟨by decide +kernel, by decide +kernel⟩, List.mem_of_getElem? (i := 157) (by decide +kernel), List.mem_of_getElem? (i := 1026) (by decide +kernel), List.mem_of_getElem? (i := 1027) (by decide +kernel)⟩
theorem lw_p57 : lw_okq (⟨"CarryHouseModel", "come", "(I)V"⟩, 64) := ⟨⟨by decide +kernel, by decide +kernel⟩, List.mem_of_getElem? (i := 1038) (by decide +kernel), List.mem_of_getElem? (i := 1248) (by decide +kernel), List.mem_of_getElem? (i := 1249) (by decide +kernel)⟩
theorem lw_p58 : lw_okq (⟨"CarryHouseModel", "take", "()I"⟩, 64) := ⟨⟨by decide +kernel, by decide +kernel⟩, List.mem_of_getElem? (i := 1038) (by decide +kernel), List.mem_of_getElem? (i := 1271) (by decide +kernel), List.mem_of_getElem? (i := 1272) (by decide +kernel)⟩
theorem lw_p59 : lw_okq (⟨"CarryHouseModel", "go", "()V"⟩, 64) := ⟨⟨by decide +kernel, by decide +kernel⟩, List.mem_of_getElem? (i := 1038) (by decide +kernel), List.mem_of_getElem? (i := 1275) (by decide +kernel), List.mem_of_getElem? (i := 1276) (by decide +kernel)⟩
theorem lw_p60 : lw_okq (⟨"CarryHouseModel", "byteAt", "(I)I"⟩, 64) := ⟨⟨by decide +kernel, by decide +kernel⟩, List.mem_of_getElem? (i := 1038) (by decide +kernel), List.mem_of_getElem? (i := 1288) (by decide +kernel), List.mem_of_getElem? (i := 1289) (by decide +kernel)⟩
theorem lw_p61 : lw_okq (⟨"CarryHouseModel", "isBody", "()Z"⟩, 64) := ⟨⟨by decide +kernel, by decide +kernel⟩, List.mem_of_getElem? (i := 1038) (by decide +kernel), List.mem_of_getElem? (i := 1294) (by decide +kernel), List.mem_of_getElem? (i := 1295) (by decide +kernel)⟩
theorem lw_p62 : lw_okq (⟨"CarryHouseModel", "isKey", "(J)Z"⟩, 64) := ⟨⟨by decide +kernel, by decide +kernel⟩, List.mem_of_getElem? (i := 1038) (by decide +kernel), List.mem_of_getElem? (i := 1301) (by decide +kernel), List.mem_of_getElem? (i := 1302) (by decide +kernel)⟩
theorem lw_p63 : lw_okq (⟨"CarryHouseModel", "readBody", "()Z"⟩, 64) := ⟨⟨by decide +kernel, by decide +kernel⟩, List.mem_of_getElem? (i := 1038) (by decide +kernel), List.mem_of_getElem? (i := 1305) (by decide +kernel), List.mem_of_getElem? (i := 1306) (by decide +kernel)⟩
def lw_privs_4 : List (MethodName × Nat) := [(⟨"CarryHouse$Ballot", "findReach", "()V"⟩, 7), (⟨"CarryHouse$Ballot", "wins", "(II)Z"⟩, 7), (⟨"CarryHouse$Ballot", "stands", "(II)I"⟩, 7), (⟨"CarryHouse$Ballot", "countWays", "(I)V"⟩, 7), (⟨"CarryHouse$Ballot", "waysFrom", "(II)I"⟩, 7), (⟨"CarryHouse$Ballot", "findFirstRow", "()V"⟩, 7), (⟨"java/lang/Throwable", "fillInStackTrace", "(I)Ljava/lang/Throwable;"⟩, 6), (⟨"CarryHouse$Powers", "ordersOf", "(I)J"⟩, 13), (⟨"CarryHouse$Powers", "partsOf", "(I)J"⟩, 13), (⟨"CarryHouseModel", "come", "(I)V"⟩, 64), (⟨"CarryHouseModel", "take", "()I"⟩, 64), (⟨"CarryHouseModel", "go", "()V"⟩, 64), (⟨"CarryHouseModel", "byteAt", "(I)I"⟩, 64), (⟨"CarryHouseModel", "isBody", "()Z"⟩, 64), (⟨"CarryHouseModel", "isKey", "(J)Z"⟩, 64), (⟨"CarryHouseModel", "readBody", "()Z"⟩, 64)]
theorem lw_r4 : ∀ q ∈ lw_privs_4, lw_okq q := List.forall_mem_cons.mpr ⟨lw_p48, List.forall_mem_cons.mpr ⟨lw_p49, List.forall_mem_cons.mpr ⟨lw_p50, List.forall_mem_cons.mpr ⟨lw_p51, List.forall_mem_cons.mpr ⟨lw_p52, List.forall_mem_cons.mpr ⟨lw_p53, List.forall_mem_cons.mpr ⟨lw_p54, List.forall_mem_cons.mpr ⟨lw_p55, List.forall_mem_cons.mpr ⟨lw_p56, List.forall_mem_cons.mpr ⟨lw_p57, List.forall_mem_cons.mpr ⟨lw_p58, List.forall_mem_cons.mpr ⟨lw_p59, List.forall_mem_cons.mpr ⟨lw_p60, List.forall_mem_cons.mpr ⟨lw_p61, List.forall_mem_cons.mpr ⟨lw_p62, List.forall_mem_cons.mpr ⟨lw_p63, fun _ h => absurd h List.not_mem_nil⟩⟩⟩⟩⟩⟩⟩⟩⟩⟩⟩⟩⟩⟩⟩⟩
theorem lw_p64 : lw_okq (⟨"CarryHouseModel", "isName", "()Z"⟩, 64) := ⟨⟨by decide +kernel, by decide +kernel⟩, List.mem_of_getElem? (i := 1038) (by decide +kernel), List.mem_of_getElem? (i := 1309) (by decide +kernel), List.mem_of_getElem? (i := 1310) (by decide +kernel)⟩
theorem lw_p65 : lw_okq (⟨"CarryHouseModel", "isCarry", "()Z"⟩, 64) := ⟨⟨by decide +kernel, by decide +kernel⟩, List.mem_of_getElem? (i := 1038) (by decide +kernel), List.mem_of_getElem? (i := 1313) (by decide +kernel), List.mem_of_getElem? (i := 1314) (by decide +kernel)⟩
theorem lw_p66 : lw_okq (⟨"CarryHouseModel", "isAnd", "()Z"⟩, 64) := ⟨⟨by decide +kernel, by decide +kernel⟩, List.mem_of_getElem? (i := 1038) (by decide +kernel), List.mem_of_getElem? (i := 1317) (by decide +kernel), List.mem_of_getElem? (i := 1318) (by decide +kernel)⟩
theorem lw_p67 : lw_okq (⟨"CarryHouseModel", "isOr", "()Z"⟩, 64) := ⟨⟨by decide +kernel, by decide +kernel⟩, List.mem_of_getElem? (i := 1038) (by decide +kernel), List.mem_of_getElem? (i := 1321) (by decide +kernel), List.mem_of_getElem? (i := 1322) (by decide +kernel)⟩
theorem lw_p68 : lw_okq (⟨"CarryHouseModel", "isOf", "()Z"⟩, 64) := ⟨⟨by decide +kernel, by decide +kernel⟩, List.mem_of_getElem? (i := 1038) (by decide +kernel), List.mem_of_getElem? (i := 1325) (by decide +kernel), List.mem_of_getElem? (i := 1326) (by decide +kernel)⟩
theorem lw_p69 : lw_okq (⟨"CarryHouseModel", "bad", "(I)Z"⟩, 64) := ⟨⟨by decide +kernel, by decide +kernel⟩, List.mem_of_getElem? (i := 1038) (by decide +kernel), List.mem_of_getElem? (i := 1329) (by decide +kernel), List.mem_of_getElem? (i := 1330) (by decide +kernel)⟩
theorem lw_p70 : lw_okq (⟨"CarryHouseModel", "nameAtHand", "()I"⟩, 64) := ⟨⟨by decide +kernel, by decide +kernel⟩, List.mem_of_getElem? (i := 1038) (by decide +kernel), List.mem_of_getElem? (i := 1333) (by decide +kernel), List.mem_of_getElem? (i := 1334) (by decide +kernel)⟩
theorem lw_p71 : lw_okq (⟨"CarryHouseModel", "isSign", "(I)Z"⟩, 64) := ⟨⟨by decide +kernel, by decide +kernel⟩, List.mem_of_getElem? (i := 1038) (by decide +kernel), List.mem_of_getElem? (i := 1337) (by decide +kernel), List.mem_of_getElem? (i := 1338) (by decide +kernel)⟩
theorem lw_p72 : lw_okq (⟨"CarryHouseModel", "readRule", "()Z"⟩, 64) := ⟨⟨by decide +kernel, by decide +kernel⟩, List.mem_of_getElem? (i := 1038) (by decide +kernel), List.mem_of_getElem? (i := 1341) (by decide +kernel), List.mem_of_getElem? (i := 1342) (by decide +kernel)⟩
theorem lw_p73 : lw_okq (⟨"CarryHouseModel", "openRule", "(I)V"⟩, 64) := ⟨⟨by decide +kernel, by decide +kernel⟩, List.mem_of_getElem? (i := 1038) (by decide +kernel), List.mem_of_getElem? (i := 1345) (by decide +kernel), List.mem_of_getElem? (i := 1346) (by decide +kernel)⟩
theorem lw_p74 : lw_okq (⟨"CarryHouseModel", "begin", "()Z"⟩, 64) := ⟨⟨by decide +kernel, by decide +kernel⟩, List.mem_of_getElem? (i := 1038) (by decide +kernel), List.mem_of_getElem? (i := 1349) (by decide +kernel), List.mem_of_getElem? (i := 1350) (by decide +kernel)⟩
theorem lw_p75 : lw_okq (⟨"CarryHouseModel", "beginItem", "()Z"⟩, 64) := ⟨⟨by decide +kernel, by decide +kernel⟩, List.mem_of_getElem? (i := 1038) (by decide +kernel), List.mem_of_getElem? (i := 1353) (by decide +kernel), List.mem_of_getElem? (i := 1354) (by decide +kernel)⟩
theorem lw_p76 : lw_okq (⟨"CarryHouseModel", "beginOne", "()Z"⟩, 64) := ⟨⟨by decide +kernel, by decide +kernel⟩, List.mem_of_getElem? (i := 1038) (by decide +kernel), List.mem_of_getElem? (i := 1357) (by decide +kernel), List.mem_of_getElem? (i := 1358) (by decide +kernel)⟩
theorem lw_p77 : lw_okq (⟨"CarryHouseModel", "isMember", "(I)Z"⟩, 64) := ⟨⟨by decide +kernel, by decide +kernel⟩, List.mem_of_getElem? (i := 1038) (by decide +kernel), List.mem_of_getElem? (i := 1361) (by decide +kernel), List.mem_of_getElem? (i := 1362) (by decide +kernel)⟩
theorem lw_p78 : lw_okq (⟨"CarryHouseModel", "beginList", "(I)Z"⟩, 64) := ⟨⟨by decide +kernel, by decide +kernel⟩, List.mem_of_getElem? (i := 1038) (by decide +kernel), List.mem_of_getElem? (i := 1365) (by decide +kernel), List.mem_of_getElem? (i := 1366) (by decide +kernel)⟩
theorem lw_p79 : lw_okq (⟨"CarryHouseModel", "openList", "(I)V"⟩, 64) := ⟨⟨by decide +kernel, by decide +kernel⟩, List.mem_of_getElem? (i := 1038) (by decide +kernel), List.mem_of_getElem? (i := 1369) (by decide +kernel), List.mem_of_getElem? (i := 1370) (by decide +kernel)⟩
def lw_privs_5 : List (MethodName × Nat) := [(⟨"CarryHouseModel", "isName", "()Z"⟩, 64), (⟨"CarryHouseModel", "isCarry", "()Z"⟩, 64), (⟨"CarryHouseModel", "isAnd", "()Z"⟩, 64), (⟨"CarryHouseModel", "isOr", "()Z"⟩, 64), (⟨"CarryHouseModel", "isOf", "()Z"⟩, 64), (⟨"CarryHouseModel", "bad", "(I)Z"⟩, 64), (⟨"CarryHouseModel", "nameAtHand", "()I"⟩, 64), (⟨"CarryHouseModel", "isSign", "(I)Z"⟩, 64), (⟨"CarryHouseModel", "readRule", "()Z"⟩, 64), (⟨"CarryHouseModel", "openRule", "(I)V"⟩, 64), (⟨"CarryHouseModel", "begin", "()Z"⟩, 64), (⟨"CarryHouseModel", "beginItem", "()Z"⟩, 64), (⟨"CarryHouseModel", "beginOne", "()Z"⟩, 64), (⟨"CarryHouseModel", "isMember", "(I)Z"⟩, 64), (⟨"CarryHouseModel", "beginList", "(I)Z"⟩, 64), (⟨"CarryHouseModel", "openList", "(I)V"⟩, 64)]
theorem lw_r5 : ∀ q ∈ lw_privs_5, lw_okq q := List.forall_mem_cons.mpr ⟨lw_p64, List.forall_mem_cons.mpr ⟨lw_p65, List.forall_mem_cons.mpr ⟨lw_p66, List.forall_mem_cons.mpr ⟨lw_p67, List.forall_mem_cons.mpr ⟨lw_p68, List.forall_mem_cons.mpr ⟨lw_p69, List.forall_mem_cons.mpr ⟨lw_p70, List.forall_mem_cons.mpr ⟨lw_p71, List.forall_mem_cons.mpr ⟨lw_p72, List.forall_mem_cons.mpr ⟨lw_p73, List.forall_mem_cons.mpr ⟨lw_p74, List.forall_mem_cons.mpr ⟨lw_p75, List.forall_mem_cons.mpr ⟨lw_p76, List.forall_mem_cons.mpr ⟨lw_p77, List.forall_mem_cons.mpr ⟨lw_p78, List.forall_mem_cons.mpr ⟨lw_p79, fun _ h => absurd h List.not_mem_nil⟩⟩⟩⟩⟩⟩⟩⟩⟩⟩⟩⟩⟩⟩⟩⟩
theorem lw_p80 : lw_okq (⟨"CarryHouseModel", "badAt", "(II)Z"⟩, 64) := ⟨⟨by decide +kernel, by decide +kernel⟩, List.mem_of_getElem? (i := 1038) (by decide +kernel), List.mem_of_getElem? (i := 1373) (by decide +kernel), List.mem_of_getElem? (i := 1374) (by decide +kernel)⟩
theorem lw_p81 : lw_okq (⟨"CarryHouseModel", "end", "()Z"⟩, 64) := ⟨⟨by decide +kernel, by decide +kernel⟩, List.mem_of_getElem? (i := 1038) (by decide +kernel), List.mem_of_getElem? (i := 1377) (by decide +kernel), List.mem_of_getElem? (i := 1378) (by decide +kernel)⟩
theorem lw_p82 : lw_okq (⟨"CarryHouseModel", "isSet", "(I)Z"⟩, 64) := ⟨⟨by decide +kernel, by decide +kernel⟩, List.mem_of_getElem? (i := 1038) (by decide +kernel), List.mem_of_getElem? (i := 1389) (by decide +kernel), List.mem_of_getElem? (i := 1390) (by decide +kernel)⟩
theorem lw_p83 : lw_okq (⟨"CarryHouseModel", "inForce", "(II)I"⟩, 64) := ⟨⟨by decide +kernel, by decide +kernel⟩, List.mem_of_getElem? (i := 1038) (by decide +kernel), List.mem_of_getElem? (i := 1393) (by decide +kernel), List.mem_of_getElem? (i := 1394) (by decide +kernel)⟩
theorem lw_p84 : lw_okq (⟨"CarryHouseModel", "carriesBy", "(II)Z"⟩, 64) := ⟨⟨by decide +kernel, by decide +kernel⟩, List.mem_of_getElem? (i := 1038) (by decide +kernel), List.mem_of_getElem? (i := 1397) (by decide +kernel), List.mem_of_getElem? (i := 1398) (by decide +kernel)⟩
theorem lw_p85 : lw_okq (⟨"CarryHouseModel", "lay", "()V"⟩, 64) := ⟨⟨by decide +kernel, by decide +kernel⟩, List.mem_of_getElem? (i := 1038) (by decide +kernel), List.mem_of_getElem? (i := 1405) (by decide +kernel), List.mem_of_getElem? (i := 1406) (by decide +kernel)⟩
theorem lw_p86 : lw_okq (⟨"CarryHouseModel", "countOf", "(I)I"⟩, 64) := ⟨⟨by decide +kernel, by decide +kernel⟩, List.mem_of_getElem? (i := 1038) (by decide +kernel), List.mem_of_getElem? (i := 1409) (by decide +kernel), List.mem_of_getElem? (i := 1410) (by decide +kernel)⟩
theorem lw_p87 : lw_okq (⟨"CarryHouseModel", "isOfKind", "(II)Z"⟩, 64) := ⟨⟨by decide +kernel, by decide +kernel⟩, List.mem_of_getElem? (i := 1038) (by decide +kernel), List.mem_of_getElem? (i := 1413) (by decide +kernel), List.mem_of_getElem? (i := 1414) (by decide +kernel)⟩
theorem lw_p88 : lw_okq (⟨"CarryHouseModel", "isLeast", "(I)Z"⟩, 64) := ⟨⟨by decide +kernel, by decide +kernel⟩, List.mem_of_getElem? (i := 1038) (by decide +kernel), List.mem_of_getElem? (i := 1417) (by decide +kernel), List.mem_of_getElem? (i := 1418) (by decide +kernel)⟩
theorem lw_p89 : lw_okq (⟨"CarryHouseModel", "isLeastHinder", "(I)Z"⟩, 64) := ⟨⟨by decide +kernel, by decide +kernel⟩, List.mem_of_getElem? (i := 1038) (by decide +kernel), List.mem_of_getElem? (i := 1421) (by decide +kernel), List.mem_of_getElem? (i := 1422) (by decide +kernel)⟩
theorem lw_p90 : lw_okq (⟨"CarryHouseModel", "hinders", "(I)Z"⟩, 64) := ⟨⟨by decide +kernel, by decide +kernel⟩, List.mem_of_getElem? (i := 1038) (by decide +kernel), List.mem_of_getElem? (i := 1425) (by decide +kernel), List.mem_of_getElem? (i := 1426) (by decide +kernel)⟩
theorem lw_p91 : lw_okq (⟨"CarryHouseModel", "whoIs", "(Z)I"⟩, 64) := ⟨⟨by decide +kernel, by decide +kernel⟩, List.mem_of_getElem? (i := 1038) (by decide +kernel), List.mem_of_getElem? (i := 1429) (by decide +kernel), List.mem_of_getElem? (i := 1430) (by decide +kernel)⟩
theorem lw_p92 : lw_okq (⟨"CarryHouseModel", "isProper", "()Z"⟩, 64) := ⟨⟨by decide +kernel, by decide +kernel⟩, List.mem_of_getElem? (i := 1038) (by decide +kernel), List.mem_of_getElem? (i := 1436) (by decide +kernel), List.mem_of_getElem? (i := 1437) (by decide +kernel)⟩
theorem lw_p93 : lw_okq (⟨"CarryHouseModel", "isStrong", "()Z"⟩, 64) := ⟨⟨by decide +kernel, by decide +kernel⟩, List.mem_of_getElem? (i := 1038) (by decide +kernel), List.mem_of_getElem? (i := 1440) (by decide +kernel), List.mem_of_getElem? (i := 1441) (by decide +kernel)⟩
theorem lw_p94 : lw_okq (⟨"CarryHouseModel", "isLined", "()Z"⟩, 64) := ⟨⟨by decide +kernel, by decide +kernel⟩, List.mem_of_getElem? (i := 1038) (by decide +kernel), List.mem_of_getElem? (i := 1444) (by decide +kernel), List.mem_of_getElem? (i := 1445) (by decide +kernel)⟩
theorem lw_p95 : lw_okq (⟨"CarryHouseModel", "held", "(II)I"⟩, 64) := ⟨⟨by decide +kernel, by decide +kernel⟩, List.mem_of_getElem? (i := 1038) (by decide +kernel), List.mem_of_getElem? (i := 1448) (by decide +kernel), List.mem_of_getElem? (i := 1449) (by decide +kernel)⟩
def lw_privs_6 : List (MethodName × Nat) := [(⟨"CarryHouseModel", "badAt", "(II)Z"⟩, 64), (⟨"CarryHouseModel", "end", "()Z"⟩, 64), (⟨"CarryHouseModel", "isSet", "(I)Z"⟩, 64), (⟨"CarryHouseModel", "inForce", "(II)I"⟩, 64), (⟨"CarryHouseModel", "carriesBy", "(II)Z"⟩, 64), (⟨"CarryHouseModel", "lay", "()V"⟩, 64), (⟨"CarryHouseModel", "countOf", "(I)I"⟩, 64), (⟨"CarryHouseModel", "isOfKind", "(II)Z"⟩, 64), (⟨"CarryHouseModel", "isLeast", "(I)Z"⟩, 64), (⟨"CarryHouseModel", "isLeastHinder", "(I)Z"⟩, 64), (⟨"CarryHouseModel", "hinders", "(I)Z"⟩, 64), (⟨"CarryHouseModel", "whoIs", "(Z)I"⟩, 64), (⟨"CarryHouseModel", "isProper", "()Z"⟩, 64), (⟨"CarryHouseModel", "isStrong", "()Z"⟩, 64), (⟨"CarryHouseModel", "isLined", "()Z"⟩, 64), (⟨"CarryHouseModel", "held", "(II)I"⟩, 64)]
theorem lw_r6 : ∀ q ∈ lw_privs_6, lw_okq q := List.forall_mem_cons.mpr ⟨lw_p80, List.forall_mem_cons.mpr ⟨lw_p81, List.forall_mem_cons.mpr ⟨lw_p82, List.forall_mem_cons.mpr ⟨lw_p83, List.forall_mem_cons.mpr ⟨lw_p84, List.forall_mem_cons.mpr ⟨lw_p85, List.forall_mem_cons.mpr ⟨lw_p86, List.forall_mem_cons.mpr ⟨lw_p87, List.forall_mem_cons.mpr ⟨lw_p88, List.forall_mem_cons.mpr ⟨lw_p89, List.forall_mem_cons.mpr ⟨lw_p90, List.forall_mem_cons.mpr ⟨lw_p91, List.forall_mem_cons.mpr ⟨lw_p92, List.forall_mem_cons.mpr ⟨lw_p93, List.forall_mem_cons.mpr ⟨lw_p94, List.forall_mem_cons.mpr ⟨lw_p95, fun _ h => absurd h List.not_mem_nil⟩⟩⟩⟩⟩⟩⟩⟩⟩⟩⟩⟩⟩⟩⟩⟩
theorem lw_p96 : lw_okq (⟨"CarryHouseModel", "turnsOf", "(I)I"⟩, 64) := ⟨⟨by decide +kernel, by decide +kernel⟩, List.mem_of_getElem? (i := 1038) (by decide +kernel), List.mem_of_getElem? (i := 1464) (by decide +kernel), List.mem_of_getElem? (i := 1465) (by decide +kernel)⟩
theorem lw_p97 : lw_okq (⟨"CarryHouseModel", "refuse", "()I"⟩, 64) := ⟨⟨by decide +kernel, by decide +kernel⟩, List.mem_of_getElem? (i := 1038) (by decide +kernel), List.mem_of_getElem? (i := 1472) (by decide +kernel), List.mem_of_getElem? (i := 1473) (by decide +kernel)⟩
theorem lw_p98 : lw_okq (⟨"CarryHouseModel", "shareOfSets", "(I)V"⟩, 64) := ⟨⟨by decide +kernel, by decide +kernel⟩, List.mem_of_getElem? (i := 1038) (by decide +kernel), List.mem_of_getElem? (i := 1476) (by decide +kernel), List.mem_of_getElem? (i := 1477) (by decide +kernel)⟩
theorem lw_p99 : lw_okq (⟨"CarryHouseModel", "lessen", "(JJ)V"⟩, 64) := ⟨⟨by decide +kernel, by decide +kernel⟩, List.mem_of_getElem? (i := 1038) (by decide +kernel), List.mem_of_getElem? (i := 1480) (by decide +kernel), List.mem_of_getElem? (i := 1481) (by decide +kernel)⟩
theorem lw_p100 : lw_okq (⟨"CarryHouseModel", "shareOfOrders", "(I)V"⟩, 64) := ⟨⟨by decide +kernel, by decide +kernel⟩, List.mem_of_getElem? (i := 1038) (by decide +kernel), List.mem_of_getElem? (i := 1484) (by decide +kernel), List.mem_of_getElem? (i := 1485) (by decide +kernel)⟩
theorem lw_p101 : lw_okq (⟨"CarryHouseModel", "shareOfLeast", "(I)V"⟩, 64) := ⟨⟨by decide +kernel, by decide +kernel⟩, List.mem_of_getElem? (i := 1038) (by decide +kernel), List.mem_of_getElem? (i := 1491) (by decide +kernel), List.mem_of_getElem? (i := 1492) (by decide +kernel)⟩
theorem lw_p102 : lw_okq (⟨"CarryHouseModel", "findSorts", "()V"⟩, 64) := ⟨⟨by decide +kernel, by decide +kernel⟩, List.mem_of_getElem? (i := 1038) (by decide +kernel), List.mem_of_getElem? (i := 1512) (by decide +kernel), List.mem_of_getElem? (i := 1513) (by decide +kernel)⟩
theorem lw_p103 : lw_okq (⟨"CarryHouseModel", "findEnds", "()V"⟩, 64) := ⟨⟨by decide +kernel, by decide +kernel⟩, List.mem_of_getElem? (i := 1038) (by decide +kernel), List.mem_of_getElem? (i := 1516) (by decide +kernel), List.mem_of_getElem? (i := 1517) (by decide +kernel)⟩
theorem lw_p104 : lw_okq (⟨"CarryHouseModel", "trySum", "(I)I"⟩, 64) := ⟨⟨by decide +kernel, by decide +kernel⟩, List.mem_of_getElem? (i := 1038) (by decide +kernel), List.mem_of_getElem? (i := 1520) (by decide +kernel), List.mem_of_getElem? (i := 1521) (by decide +kernel)⟩
theorem lw_p105 : lw_okq (⟨"CarryHouseModel", "mayBe", "(II)Z"⟩, 64) := ⟨⟨by decide +kernel, by decide +kernel⟩, List.mem_of_getElem? (i := 1038) (by decide +kernel), List.mem_of_getElem? (i := 1524) (by decide +kernel), List.mem_of_getElem? (i := 1525) (by decide +kernel)⟩
theorem lw_p106 : lw_okq (⟨"CarryHouseModel", "isRight", "()Z"⟩, 64) := ⟨⟨by decide +kernel, by decide +kernel⟩, List.mem_of_getElem? (i := 1038) (by decide +kernel), List.mem_of_getElem? (i := 1528) (by decide +kernel), List.mem_of_getElem? (i := 1529) (by decide +kernel)⟩
theorem lw_p107 : lw_okq (⟨"CarryHouseModel", "sumOf", "(I)I"⟩, 64) := ⟨⟨by decide +kernel, by decide +kernel⟩, List.mem_of_getElem? (i := 1038) (by decide +kernel), List.mem_of_getElem? (i := 1533) (by decide +kernel), List.mem_of_getElem? (i := 1534) (by decide +kernel)⟩
theorem lw_p108 : lw_okq (⟨"CarryHouseModel", "areOptions", "(I)Z"⟩, 64) := ⟨⟨by decide +kernel, by decide +kernel⟩, List.mem_of_getElem? (i := 1038) (by decide +kernel), List.mem_of_getElem? (i := 1545) (by decide +kernel), List.mem_of_getElem? (i := 1546) (by decide +kernel)⟩
theorem lw_p109 : lw_okq (⟨"CarryHouseModel", "layOptions", "()V"⟩, 64) := ⟨⟨by decide +kernel, by decide +kernel⟩, List.mem_of_getElem? (i := 1038) (by decide +kernel), List.mem_of_getElem? (i := 1556) (by decide +kernel), List.mem_of_getElem? (i := 1557) (by decide +kernel)⟩
theorem lw_p110 : lw_okq (⟨"CarryHouseModel", "beatsOf", "(II)Z"⟩, 64) := ⟨⟨by decide +kernel, by decide +kernel⟩, List.mem_of_getElem? (i := 1038) (by decide +kernel), List.mem_of_getElem? (i := 1560) (by decide +kernel), List.mem_of_getElem? (i := 1561) (by decide +kernel)⟩
theorem lw_p111 : lw_okq (⟨"CarryHouseModel", "endOf", "(I)I"⟩, 64) := ⟨⟨by decide +kernel, by decide +kernel⟩, List.mem_of_getElem? (i := 1038) (by decide +kernel), List.mem_of_getElem? (i := 1576) (by decide +kernel), List.mem_of_getElem? (i := 1577) (by decide +kernel)⟩
def lw_privs_7 : List (MethodName × Nat) := [(⟨"CarryHouseModel", "turnsOf", "(I)I"⟩, 64), (⟨"CarryHouseModel", "refuse", "()I"⟩, 64), (⟨"CarryHouseModel", "shareOfSets", "(I)V"⟩, 64), (⟨"CarryHouseModel", "lessen", "(JJ)V"⟩, 64), (⟨"CarryHouseModel", "shareOfOrders", "(I)V"⟩, 64), (⟨"CarryHouseModel", "shareOfLeast", "(I)V"⟩, 64), (⟨"CarryHouseModel", "findSorts", "()V"⟩, 64), (⟨"CarryHouseModel", "findEnds", "()V"⟩, 64), (⟨"CarryHouseModel", "trySum", "(I)I"⟩, 64), (⟨"CarryHouseModel", "mayBe", "(II)Z"⟩, 64), (⟨"CarryHouseModel", "isRight", "()Z"⟩, 64), (⟨"CarryHouseModel", "sumOf", "(I)I"⟩, 64), (⟨"CarryHouseModel", "areOptions", "(I)Z"⟩, 64), (⟨"CarryHouseModel", "layOptions", "()V"⟩, 64), (⟨"CarryHouseModel", "beatsOf", "(II)Z"⟩, 64), (⟨"CarryHouseModel", "endOf", "(I)I"⟩, 64)]
theorem lw_r7 : ∀ q ∈ lw_privs_7, lw_okq q := List.forall_mem_cons.mpr ⟨lw_p96, List.forall_mem_cons.mpr ⟨lw_p97, List.forall_mem_cons.mpr ⟨lw_p98, List.forall_mem_cons.mpr ⟨lw_p99, List.forall_mem_cons.mpr ⟨lw_p100, List.forall_mem_cons.mpr ⟨lw_p101, List.forall_mem_cons.mpr ⟨lw_p102, List.forall_mem_cons.mpr ⟨lw_p103, List.forall_mem_cons.mpr ⟨lw_p104, List.forall_mem_cons.mpr ⟨lw_p105, List.forall_mem_cons.mpr ⟨lw_p106, List.forall_mem_cons.mpr ⟨lw_p107, List.forall_mem_cons.mpr ⟨lw_p108, List.forall_mem_cons.mpr ⟨lw_p109, List.forall_mem_cons.mpr ⟨lw_p110, List.forall_mem_cons.mpr ⟨lw_p111, fun _ h => absurd h List.not_mem_nil⟩⟩⟩⟩⟩⟩⟩⟩⟩⟩⟩⟩⟩⟩⟩⟩
theorem lw_p112 : lw_okq (⟨"CarryHouseModel", "goOn", "()Z"⟩, 64) := ⟨⟨by decide +kernel, by decide +kernel⟩, List.mem_of_getElem? (i := 1038) (by decide +kernel), List.mem_of_getElem? (i := 1584) (by decide +kernel), List.mem_of_getElem? (i := 1585) (by decide +kernel)⟩
theorem lw_p113 : lw_okq (⟨"CarryHouseModel", "sureOf", "(II)I"⟩, 64) := ⟨⟨by decide +kernel, by decide +kernel⟩, List.mem_of_getElem? (i := 1038) (by decide +kernel), List.mem_of_getElem? (i := 1604) (by decide +kernel), List.mem_of_getElem? (i := 1605) (by decide +kernel)⟩
def lw_privs_8 : List (MethodName × Nat) := [(⟨"CarryHouseModel", "goOn", "()Z"⟩, 64), (⟨"CarryHouseModel", "sureOf", "(II)I"⟩, 64)]
theorem lw_r8 : ∀ q ∈ lw_privs_8, lw_okq q := List.forall_mem_cons.mpr ⟨lw_p112, List.forall_mem_cons.mpr ⟨lw_p113, fun _ h => absurd h List.not_mem_nil⟩⟩
def lw_privs : List (MethodName × Nat) := lw_privs_1 ++ (lw_privs_2 ++ (lw_privs_3 ++ (lw_privs_4 ++ (lw_privs_5 ++ (lw_privs_6 ++ (lw_privs_7 ++ (lw_privs_8)))))))
def lw_tbl : List Cond := k2_sels lw_privs ++ tables_1
theorem lw_privs_ok : ∀ q ∈ lw_privs, lw_okq q := by
  show ∀ q ∈ lw_privs_1 ++ (lw_privs_2 ++ (lw_privs_3 ++ (lw_privs_4 ++ (lw_privs_5 ++ (lw_privs_6 ++ (lw_privs_7 ++ (lw_privs_8))))))), lw_okq q
  exact List.forall_mem_append.mpr ⟨lw_r1, List.forall_mem_append.mpr ⟨lw_r2, List.forall_mem_append.mpr ⟨lw_r3, List.forall_mem_append.mpr ⟨lw_r4, List.forall_mem_append.mpr ⟨lw_r5, List.forall_mem_append.mpr ⟨lw_r6, List.forall_mem_append.mpr ⟨lw_r7, lw_r8⟩⟩⟩⟩⟩⟩⟩
-- ===== end of PART A; then your names; then what follows =====
end
section
def RX0 : String := "CarryHouse$Ballot"
def TX0 : u_T := fun k => match k with
  | 0 => ("CarryHouse$Ballot", "firstRow", "[I", true)
  | 1 => ("CarryHouse$Ballot", "ranked", "Z", false)
  | 2 => ("CarryHouse$Ballot", "places", "[I", true)
  | 3 => ("CarryHouse$Ballot", "beaten", "[I", true)
  | 4 => ("CarryHouse$Ballot", "reach", "[I", true)
  | 5 => ("CarryHouse$Ballot", "comeTo", "[I", true)
  | _ => ("CarryHouse$Ballot", "ways", "[I", true)
def tyX0 : Nat → FieldType := fun k => match k with
  | 0 => .array .int
  | 1 => .boolean
  | 2 => .array .int
  | 3 => .array .int
  | 4 => .array .int
  | 5 => .array .int
  | _ => .array .int
abbrev wsX00 : List Cond := u_ws RX0 TX0 7
theorem nmX0 : ∀ a, a < 7 → ∀ b, b < 7 → a ≠ b → (TX0 a).2.1 ≠ (TX0 b).2.1 := by decide +kernel
theorem tyX0_ok : ∀ k, k < 7 → parseFieldDescriptor (TX0 k).2.2.1 = some (tyX0 k) := by decide +kernel
abbrev cX0_init : ByteArray := prog_2_method_1_code
def yX0_init : MethodName := ⟨RX0, "<init>", "()V"⟩
abbrev cX0_isOption : ByteArray := prog_2_method_2_code
def yX0_isOption : MethodName := ⟨RX0, "isOption", "(I)Z"⟩
abbrev cX0_isRow : ByteArray := prog_2_method_3_code
def yX0_isRow : MethodName := ⟨RX0, "isRow", "(LCarryHouse$Tape;)Z"⟩
abbrev cX0_order : ByteArray := prog_2_method_4_code
def yX0_order : MethodName := ⟨RX0, "order", "(ILCarryHouse$Tape;)V"⟩
abbrev cX0_whoPrefer : ByteArray := prog_2_method_5_code
def yX0_whoPrefer : MethodName := ⟨RX0, "whoPrefer", "(III)I"⟩
abbrev cX0_match : ByteArray := prog_2_method_6_code
def yX0_match : MethodName := ⟨RX0, "match", "(LCarryHouse$Statute;I)V"⟩
abbrev cX0_wins : ByteArray := prog_2_method_7_code
def yX0_wins : MethodName := ⟨RX0, "wins", "(II)Z"⟩
abbrev cX0_unbeaten : ByteArray := prog_2_method_8_code
def yX0_unbeaten : MethodName := ⟨RX0, "unbeaten", "()I"⟩
abbrev cX0_best : ByteArray := prog_2_method_9_code
def yX0_best : MethodName := ⟨RX0, "best", "()I"⟩
abbrev cX0_findReach : ByteArray := prog_2_method_10_code
def yX0_findReach : MethodName := ⟨RX0, "findReach", "()V"⟩
abbrev cX0_stands : ByteArray := prog_2_method_11_code
def yX0_stands : MethodName := ⟨RX0, "stands", "(II)I"⟩
abbrev cX0_follow : ByteArray := prog_2_method_12_code
def yX0_follow : MethodName := ⟨RX0, "follow", "(LCarryHouse$Tape;)I"⟩
abbrev cX0_foresee : ByteArray := prog_2_method_13_code
def yX0_foresee : MethodName := ⟨RX0, "foresee", "(LCarryHouse$Tape;)I"⟩
abbrev cX0_countRows : ByteArray := prog_2_method_14_code
def yX0_countRows : MethodName := ⟨RX0, "countRows", "(I)I"⟩
abbrev cX0_waysFrom : ByteArray := prog_2_method_15_code
def yX0_waysFrom : MethodName := ⟨RX0, "waysFrom", "(II)I"⟩
abbrev cX0_countWays : ByteArray := prog_2_method_16_code
def yX0_countWays : MethodName := ⟨RX0, "countWays", "(I)V"⟩
abbrev cX0_findFirstRow : ByteArray := prog_2_method_17_code
def yX0_findFirstRow : MethodName := ⟨RX0, "findFirstRow", "()V"⟩
def RX1 : String := "CarryHouse$Chronicle"
def TX1 : u_T := fun k => match k with
  | 0 => ("CarryHouse$Chronicle", "sets", "[I", true)
  | 1 => ("CarryHouse$Chronicle", "days", "[I", true)
  | 2 => ("CarryHouse$Chronicle", "passes", "[Z", true)
  | _ => ("CarryHouse$Chronicle", "length", "I", false)
def tyX1 : Nat → FieldType := fun k => match k with
  | 0 => .array .int
  | 1 => .array .int
  | 2 => .array .boolean
  | _ => .int
abbrev wsX10 : List Cond := u_ws RX1 TX1 4
theorem nmX1 : ∀ a, a < 4 → ∀ b, b < 4 → a ≠ b → (TX1 a).2.1 ≠ (TX1 b).2.1 := by decide +kernel
theorem tyX1_ok : ∀ k, k < 4 → parseFieldDescriptor (TX1 k).2.2.1 = some (tyX1 k) := by decide +kernel
abbrev cX1_init : ByteArray := prog_3_method_1_code
def yX1_init : MethodName := ⟨RX1, "<init>", "()V"⟩
abbrev cX1_add : ByteArray := prog_3_method_2_code
def yX1_add : MethodName := ⟨RX1, "add", "(IZI)I"⟩
abbrev cX1_judge : ByteArray := prog_3_method_3_code
def yX1_judge : MethodName := ⟨RX1, "judge", "(II)I"⟩
def RX2 : String := "CarryHouse$Powers"
def TX2 : u_T := fun k => match k with
  | 0 => ("CarryHouse$Powers", "least", "[I", true)
  | 1 => ("CarryHouse$Powers", "hinder", "[I", true)
  | 2 => ("CarryHouse$Powers", "swings", "[I", true)
  | 3 => ("CarryHouse$Powers", "starts", "[I", true)
  | 4 => ("CarryHouse$Powers", "atLeast", "[I", true)
  | 5 => ("CarryHouse$Powers", "bySize", "[J", true)
  | 6 => ("CarryHouse$Powers", "law", "LCarryHouse$Statute;", false)
  | 7 => ("CarryHouse$Powers", "members", "I", false)
  | 8 => ("CarryHouse$Powers", "full", "I", false)
  | 9 => ("CarryHouse$Powers", "leastCount", "I", false)
  | 10 => ("CarryHouse$Powers", "hinderCount", "I", false)
  | 11 => ("CarryHouse$Powers", "needed", "I", false)
  | _ => ("CarryHouse$Powers", "idle", "I", false)
def tyX2 : Nat → FieldType := fun k => match k with
  | 0 => .array .int
  | 1 => .array .int
  | 2 => .array .int
  | 3 => .array .int
  | 4 => .array .int
  | 5 => .array .long
  | 6 => .object "CarryHouse$Statute"
  | 7 => .int
  | 8 => .int
  | 9 => .int
  | 10 => .int
  | 11 => .int
  | _ => .int
abbrev wsX20 : List Cond := u_ws RX2 TX2 13
theorem nmX2 : ∀ a, a < 13 → ∀ b, b < 13 → a ≠ b → (TX2 a).2.1 ≠ (TX2 b).2.1 := by decide +kernel
theorem tyX2_ok : ∀ k, k < 13 → parseFieldDescriptor (TX2 k).2.2.1 = some (tyX2 k) := by decide +kernel
abbrev cX2_init : ByteArray := prog_4_method_1_code
def yX2_init : MethodName := ⟨RX2, "<init>", "(LCarryHouse$Statute;)V"⟩
abbrev cX2_isOf : ByteArray := prog_4_method_2_code
def yX2_isOf : MethodName := ⟨RX2, "isOf", "(LCarryHouse$Statute;I)Z"⟩
abbrev cX2_study : ByteArray := prog_4_method_3_code
def yX2_study : MethodName := ⟨RX2, "study", "(LCarryHouse$Statute;I)V"⟩
abbrev cX2_list : ByteArray := prog_4_method_4_code
def yX2_list : MethodName := ⟨RX2, "list", "([IZ)I"⟩
abbrev cX2_isMinimal : ByteArray := prog_4_method_5_code
def yX2_isMinimal : MethodName := ⟨RX2, "isMinimal", "(IZ)Z"⟩
abbrev cX2_does : ByteArray := prog_4_method_6_code
def yX2_does : MethodName := ⟨RX2, "does", "(IZ)Z"⟩
abbrev cX2_markNeeded : ByteArray := prog_4_method_7_code
def yX2_markNeeded : MethodName := ⟨RX2, "markNeeded", "()V"⟩
abbrev cX2_turnsBy : ByteArray := prog_4_method_8_code
def yX2_turnsBy : MethodName := ⟨RX2, "turnsBy", "(II)Z"⟩
abbrev cX2_countSwings : ByteArray := prog_4_method_9_code
def yX2_countSwings : MethodName := ⟨RX2, "countSwings", "(I)I"⟩
abbrev cX2_countCarrying : ByteArray := prog_4_method_10_code
def yX2_countCarrying : MethodName := ⟨RX2, "countCarrying", "()I"⟩
abbrev cX2_isProper : ByteArray := prog_4_method_11_code
def yX2_isProper : MethodName := ⟨RX2, "isProper", "()Z"⟩
abbrev cX2_isStrong : ByteArray := prog_4_method_12_code
def yX2_isStrong : MethodName := ⟨RX2, "isStrong", "()Z"⟩
abbrev cX2_isLined : ByteArray := prog_4_method_13_code
def yX2_isLined : MethodName := ⟨RX2, "isLined", "()Z"⟩
abbrev cX2_compare : ByteArray := prog_4_method_14_code
def yX2_compare : MethodName := ⟨RX2, "compare", "(II)I"⟩
abbrev cX2_compareAll : ByteArray := prog_4_method_15_code
def yX2_compareAll : MethodName := ⟨RX2, "compareAll", "()V"⟩
abbrev cX2_isAtLeast : ByteArray := prog_4_method_16_code
def yX2_isAtLeast : MethodName := ⟨RX2, "isAtLeast", "(II)Z"⟩
abbrev cX2_upperShare : ByteArray := prog_4_method_17_code
def yX2_upperShare : MethodName := ⟨RX2, "upperShare", "(II)J"⟩
abbrev cX2_lowerShare : ByteArray := prog_4_method_18_code
def yX2_lowerShare : MethodName := ⟨RX2, "lowerShare", "(I)J"⟩
abbrev cX2_ordersOf : ByteArray := prog_4_method_19_code
def yX2_ordersOf : MethodName := ⟨RX2, "ordersOf", "(I)J"⟩
abbrev cX2_partsOf : ByteArray := prog_4_method_20_code
def yX2_partsOf : MethodName := ⟨RX2, "partsOf", "(I)J"⟩
abbrev cX2_chanceOf : ByteArray := prog_4_method_21_code
def yX2_chanceOf : MethodName := ⟨RX2, "chanceOf", "(I)J"⟩
abbrev cX2_power : ByteArray := prog_4_method_22_code
def yX2_power : MethodName := ⟨RX2, "power", "(II)J"⟩
abbrev cX2_allyOf : ByteArray := prog_4_method_23_code
def yX2_allyOf : MethodName := ⟨RX2, "allyOf", "(I)I"⟩
abbrev cX2_countTogether : ByteArray := prog_4_method_24_code
def yX2_countTogether : MethodName := ⟨RX2, "countTogether", "(II)I"⟩
def RX3 : String := "CarryHouse$Program"
def TX3 : u_T := fun k => match k with
  | 0 => ("CarryHouse$Program", "codes", "[I", true)
  | 1 => ("CarryHouse$Program", "values", "[I", true)
  | 2 => ("CarryHouse$Program", "stack", "[I", true)
  | _ => ("CarryHouse$Program", "length", "I", false)
def tyX3 : Nat → FieldType := fun k => match k with
  | 0 => .array .int
  | 1 => .array .int
  | 2 => .array .int
  | _ => .int
abbrev wsX30 : List Cond := u_ws RX3 TX3 4
theorem nmX3 : ∀ a, a < 4 → ∀ b, b < 4 → a ≠ b → (TX3 a).2.1 ≠ (TX3 b).2.1 := by decide +kernel
theorem tyX3_ok : ∀ k, k < 4 → parseFieldDescriptor (TX3 k).2.2.1 = some (tyX3 k) := by decide +kernel
abbrev cX3_init : ByteArray := prog_5_method_1_code
def yX3_init : MethodName := ⟨RX3, "<init>", "()V"⟩
abbrev cX3_clear : ByteArray := prog_5_method_2_code
def yX3_clear : MethodName := ⟨RX3, "clear", "()V"⟩
abbrev cX3_add : ByteArray := prog_5_method_3_code
def yX3_add : MethodName := ⟨RX3, "add", "(II)V"⟩
abbrev cX3_fill : ByteArray := prog_5_method_4_code
def yX3_fill : MethodName := ⟨RX3, "fill", "(LCarryHouse$Statute;I)V"⟩
abbrev cX3_run : ByteArray := prog_5_method_5_code
def yX3_run : MethodName := ⟨RX3, "run", "(I)Z"⟩
abbrev cX3_join : ByteArray := prog_5_method_6_code
def yX3_join : MethodName := ⟨RX3, "join", "(IIII)I"⟩
abbrev cX3_push : ByteArray := prog_5_method_7_code
def yX3_push : MethodName := ⟨RX3, "push", "(II)I"⟩
abbrev cX3_peek : ByteArray := prog_5_method_8_code
def yX3_peek : MethodName := ⟨RX3, "peek", "(I)I"⟩
abbrev cX3_replace : ByteArray := prog_5_method_9_code
def yX3_replace : MethodName := ⟨RX3, "replace", "(II)V"⟩
def RX4 : String := "CarryHouse$Reader"
def TX4 : u_T := fun k => match k with
  | 0 => ("CarryHouse$Reader", "program", "LCarryHouse$Program;", true)
  | 1 => ("CarryHouse$Reader", "scanner", "LCarryHouse$Scanner;", true)
  | 2 => ("CarryHouse$Reader", "nameStarts", "[I", true)
  | 3 => ("CarryHouse$Reader", "nameStops", "[I", true)
  | 4 => ("CarryHouse$Reader", "members", "I", false)
  | 5 => ("CarryHouse$Reader", "ones", "I", false)
  | 6 => ("CarryHouse$Reader", "opened", "I", false)
  | 7 => ("CarryHouse$Reader", "nameCount", "I", false)
  | 8 => ("CarryHouse$Reader", "faultKind", "I", false)
  | _ => ("CarryHouse$Reader", "faultPlace", "I", false)
def tyX4 : Nat → FieldType := fun k => match k with
  | 0 => .object "CarryHouse$Program"
  | 1 => .object "CarryHouse$Scanner"
  | 2 => .array .int
  | 3 => .array .int
  | 4 => .int
  | 5 => .int
  | 6 => .int
  | 7 => .int
  | 8 => .int
  | _ => .int
abbrev wsX40 : List Cond := u_ws RX4 TX4 10
theorem nmX4 : ∀ a, a < 10 → ∀ b, b < 10 → a ≠ b → (TX4 a).2.1 ≠ (TX4 b).2.1 := by decide +kernel
theorem tyX4_ok : ∀ k, k < 10 → parseFieldDescriptor (TX4 k).2.2.1 = some (tyX4 k) := by decide +kernel
abbrev cX4_init : ByteArray := prog_6_method_1_code
def yX4_init : MethodName := ⟨RX4, "<init>", "(LCarryHouse$Tape;)V"⟩
abbrev cX4_read : ByteArray := prog_6_method_2_code
def yX4_read : MethodName := ⟨RX4, "read", "(I)V"⟩
abbrev cX4_fail : ByteArray := prog_6_method_3_code
def yX4_fail : MethodName := ⟨RX4, "fail", "(II)Z"⟩
abbrev cX4_takeWord : ByteArray := prog_6_method_4_code
def yX4_takeWord : MethodName := ⟨RX4, "takeWord", "(Ljava/lang/String;)Z"⟩
abbrev cX4_takeSign : ByteArray := prog_6_method_5_code
def yX4_takeSign : MethodName := ⟨RX4, "takeSign", "(I)Z"⟩
abbrev cX4_takeEnd : ByteArray := prog_6_method_6_code
def yX4_takeEnd : MethodName := ⟨RX4, "takeEnd", "()Z"⟩
abbrev cX4_takeOpening : ByteArray := prog_6_method_7_code
def yX4_takeOpening : MethodName := ⟨RX4, "takeOpening", "(I)Z"⟩
abbrev cX4_readBody : ByteArray := prog_6_method_8_code
def yX4_readBody : MethodName := ⟨RX4, "readBody", "()Z"⟩
abbrev cX4_takeNewName : ByteArray := prog_6_method_9_code
def yX4_takeNewName : MethodName := ⟨RX4, "takeNewName", "()Z"⟩
abbrev cX4_toldName : ByteArray := prog_6_method_10_code
def yX4_toldName : MethodName := ⟨RX4, "toldName", "()I"⟩
abbrev cX4_readRule : ByteArray := prog_6_method_11_code
def yX4_readRule : MethodName := ⟨RX4, "readRule", "()Z"⟩
abbrev cX4_readAll : ByteArray := prog_6_method_12_code
def yX4_readAll : MethodName := ⟨RX4, "readAll", "()Z"⟩
abbrev cX4_readOne : ByteArray := prog_6_method_13_code
def yX4_readOne : MethodName := ⟨RX4, "readOne", "()Z"⟩
abbrev cX4_noteMember : ByteArray := prog_6_method_14_code
def yX4_noteMember : MethodName := ⟨RX4, "noteMember", "()Z"⟩
abbrev cX4_noteName : ByteArray := prog_6_method_15_code
def yX4_noteName : MethodName := ⟨RX4, "noteName", "()Z"⟩
abbrev cX4_countOne : ByteArray := prog_6_method_16_code
def yX4_countOne : MethodName := ⟨RX4, "countOne", "(I)Z"⟩
abbrev cX4_readQuota : ByteArray := prog_6_method_17_code
def yX4_readQuota : MethodName := ⟨RX4, "readQuota", "(II)Z"⟩
abbrev cX4_readItem : ByteArray := prog_6_method_18_code
def yX4_readItem : MethodName := ⟨RX4, "readItem", "()Z"⟩
def RX5 : String := "CarryHouse$Scales"
def TX5 : u_T := fun k => match k with
  | 0 => ("CarryHouse$Scales", "told", "[I", true)
  | 1 => ("CarryHouse$Scales", "toldNumber", "I", false)
  | 2 => ("CarryHouse$Scales", "powers", "LCarryHouse$Powers;", true)
  | 3 => ("CarryHouse$Scales", "strengths", "[I", true)
  | 4 => ("CarryHouse$Scales", "firsts", "[I", true)
  | 5 => ("CarryHouse$Scales", "sizes", "[I", true)
  | 6 => ("CarryHouse$Scales", "held", "[I", true)
  | 7 => ("CarryHouse$Scales", "row", "[I", true)
  | 8 => ("CarryHouse$Scales", "classes", "I", false)
  | 9 => ("CarryHouse$Scales", "sum", "I", false)
  | 10 => ("CarryHouse$Scales", "rowCount", "I", false)
  | 11 => ("CarryHouse$Scales", "outcome", "I", false)
  | 12 => ("CarryHouse$Scales", "lightLeast", "I", false)
  | 13 => ("CarryHouse$Scales", "lightHinder", "I", false)
  | 14 => ("CarryHouse$Scales", "weighedLaw", "LCarryHouse$Statute;", false)
  | _ => ("CarryHouse$Scales", "weighedMembers", "I", false)
def tyX5 : Nat → FieldType := fun k => match k with
  | 0 => .array .int
  | 1 => .int
  | 2 => .object "CarryHouse$Powers"
  | 3 => .array .int
  | 4 => .array .int
  | 5 => .array .int
  | 6 => .array .int
  | 7 => .array .int
  | 8 => .int
  | 9 => .int
  | 10 => .int
  | 11 => .int
  | 12 => .int
  | 13 => .int
  | 14 => .object "CarryHouse$Statute"
  | _ => .int
abbrev wsX50 : List Cond := u_ws RX5 TX5 16
theorem nmX5 : ∀ a, a < 16 → ∀ b, b < 16 → a ≠ b → (TX5 a).2.1 ≠ (TX5 b).2.1 := by decide +kernel
theorem tyX5_ok : ∀ k, k < 16 → parseFieldDescriptor (TX5 k).2.2.1 = some (tyX5 k) := by decide +kernel
abbrev cX5_init : ByteArray := prog_7_method_1_code
def yX5_init : MethodName := ⟨RX5, "<init>", "(LCarryHouse$Powers;)V"⟩
abbrev cX5_look : ByteArray := prog_7_method_2_code
def yX5_look : MethodName := ⟨RX5, "look", "()I"⟩
abbrev cX5_search : ByteArray := prog_7_method_3_code
def yX5_search : MethodName := ⟨RX5, "search", "()I"⟩
abbrev cX5_findClasses : ByteArray := prog_7_method_4_code
def yX5_findClasses : MethodName := ⟨RX5, "findClasses", "()V"⟩
abbrev cX5_isFirst : ByteArray := prog_7_method_5_code
def yX5_isFirst : MethodName := ⟨RX5, "isFirst", "(I)Z"⟩
abbrev cX5_strengthOf : ByteArray := prog_7_method_6_code
def yX5_strengthOf : MethodName := ⟨RX5, "strengthOf", "(I)I"⟩
abbrev cX5_place : ByteArray := prog_7_method_7_code
def yX5_place : MethodName := ⟨RX5, "place", "(II)V"⟩
abbrev cX5_lowest : ByteArray := prog_7_method_8_code
def yX5_lowest : MethodName := ⟨RX5, "lowest", "(I)I"⟩
abbrev cX5_highest : ByteArray := prog_7_method_9_code
def yX5_highest : MethodName := ⟨RX5, "highest", "(II)I"⟩
abbrev cX5_leastRest : ByteArray := prog_7_method_10_code
def yX5_leastRest : MethodName := ⟨RX5, "leastRest", "()I"⟩
abbrev cX5_mostRest : ByteArray := prog_7_method_11_code
def yX5_mostRest : MethodName := ⟨RX5, "mostRest", "()I"⟩
abbrev cX5_tryRow : ByteArray := prog_7_method_12_code
def yX5_tryRow : MethodName := ⟨RX5, "tryRow", "()V"⟩
abbrev cX5_doesTheSame : ByteArray := prog_7_method_13_code
def yX5_doesTheSame : MethodName := ⟨RX5, "doesTheSame", "()Z"⟩
abbrev cX5_lightest : ByteArray := prog_7_method_14_code
def yX5_lightest : MethodName := ⟨RX5, "lightest", "([II)I"⟩
abbrev cX5_weightOf : ByteArray := prog_7_method_15_code
def yX5_weightOf : MethodName := ⟨RX5, "weightOf", "(I)I"⟩
abbrev cX5_tell : ByteArray := prog_7_method_16_code
def yX5_tell : MethodName := ⟨RX5, "tell", "()V"⟩
def RX6 : String := "CarryHouse$Scanner"
def TX6 : u_T := fun k => match k with
  | 0 => ("CarryHouse$Scanner", "text", "LCarryHouse$Tape;", true)
  | 1 => ("CarryHouse$Scanner", "limit", "I", false)
  | 2 => ("CarryHouse$Scanner", "place", "I", false)
  | 3 => ("CarryHouse$Scanner", "kind", "I", false)
  | 4 => ("CarryHouse$Scanner", "start", "I", false)
  | 5 => ("CarryHouse$Scanner", "stop", "I", false)
  | _ => ("CarryHouse$Scanner", "value", "I", false)
def tyX6 : Nat → FieldType := fun k => match k with
  | 0 => .object "CarryHouse$Tape"
  | 1 => .int
  | 2 => .int
  | 3 => .int
  | 4 => .int
  | 5 => .int
  | _ => .int
abbrev wsX60 : List Cond := u_ws RX6 TX6 7
theorem nmX6 : ∀ a, a < 7 → ∀ b, b < 7 → a ≠ b → (TX6 a).2.1 ≠ (TX6 b).2.1 := by decide +kernel
theorem tyX6_ok : ∀ k, k < 7 → parseFieldDescriptor (TX6 k).2.2.1 = some (tyX6 k) := by decide +kernel
abbrev cX6_init : ByteArray := prog_8_method_1_code
def yX6_init : MethodName := ⟨RX6, "<init>", "(LCarryHouse$Tape;)V"⟩
abbrev cX6_begin : ByteArray := prog_8_method_2_code
def yX6_begin : MethodName := ⟨RX6, "begin", "()V"⟩
abbrev cX6_isCut : ByteArray := prog_8_method_3_code
def yX6_isCut : MethodName := ⟨RX6, "isCut", "()Z"⟩
abbrev cX6_advance : ByteArray := prog_8_method_4_code
def yX6_advance : MethodName := ⟨RX6, "advance", "()V"⟩
abbrev cX6_takeRun : ByteArray := prog_8_method_5_code
def yX6_takeRun : MethodName := ⟨RX6, "takeRun", "()V"⟩
abbrev cX6_isWord : ByteArray := prog_8_method_6_code
def yX6_isWord : MethodName := ⟨RX6, "isWord", "(Ljava/lang/String;)Z"⟩
abbrev cX6_isName : ByteArray := prog_8_method_7_code
def yX6_isName : MethodName := ⟨RX6, "isName", "()Z"⟩
abbrev cX6_isLone : ByteArray := prog_8_method_8_code
def yX6_isLone : MethodName := ⟨RX6, "isLone", "()Z"⟩
abbrev cX6_letter : ByteArray := prog_8_method_9_code
def yX6_letter : MethodName := ⟨RX6, "letter", "()I"⟩
abbrev cX6_isLike : ByteArray := prog_8_method_10_code
def yX6_isLike : MethodName := ⟨RX6, "isLike", "(II)Z"⟩
abbrev cX6_isBlank : ByteArray := prog_8_method_11_code
def yX6_isBlank : MethodName := ⟨RX6, "isBlank", "(I)Z"⟩
abbrev cX6_isLetter : ByteArray := prog_8_method_12_code
def yX6_isLetter : MethodName := ⟨RX6, "isLetter", "(I)Z"⟩
abbrev cX6_isDigit : ByteArray := prog_8_method_13_code
def yX6_isDigit : MethodName := ⟨RX6, "isDigit", "(I)Z"⟩
abbrev cX6_isSign : ByteArray := prog_8_method_14_code
def yX6_isSign : MethodName := ⟨RX6, "isSign", "(I)Z"⟩
def RX7 : String := "CarryHouse$Statute"
def TX7 : u_T := fun k => match k with
  | 0 => ("CarryHouse$Statute", "from", "I", true)
  | _ => ("CarryHouse$Statute", "bits", "[J", true)
def tyX7 : Nat → FieldType := fun k => match k with
  | 0 => .int
  | _ => .array .long
abbrev wsX70 : List Cond := u_ws RX7 TX7 2
theorem nmX7 : ∀ a, a < 2 → ∀ b, b < 2 → a ≠ b → (TX7 a).2.1 ≠ (TX7 b).2.1 := by decide +kernel
theorem tyX7_ok : ∀ k, k < 2 → parseFieldDescriptor (TX7 k).2.2.1 = some (tyX7 k) := by decide +kernel
abbrev cX7_init : ByteArray := prog_9_method_1_code
def yX7_init : MethodName := ⟨RX7, "<init>", "(I)V"⟩
abbrev cX7_holds : ByteArray := prog_9_method_2_code
def yX7_holds : MethodName := ⟨RX7, "holds", "(I)Z"⟩
abbrev cX7_add : ByteArray := prog_9_method_3_code
def yX7_add : MethodName := ⟨RX7, "add", "(I)V"⟩
abbrev cX7_needAll : ByteArray := prog_9_method_4_code
def yX7_needAll : MethodName := ⟨RX7, "needAll", "(I)V"⟩
def RX8 : String := "CarryHouse$Tape"
def TX8 : u_T := fun k => match k with
  | 0 => ("CarryHouse$Tape", "bytes", "[B", true)
  | _ => ("CarryHouse$Tape", "length", "I", false)
def tyX8 : Nat → FieldType := fun k => match k with
  | 0 => .array .byte
  | _ => .int
abbrev wsX80 : List Cond := u_ws RX8 TX8 2
theorem nmX8 : ∀ a, a < 2 → ∀ b, b < 2 → a ≠ b → (TX8 a).2.1 ≠ (TX8 b).2.1 := by decide +kernel
theorem tyX8_ok : ∀ k, k < 2 → parseFieldDescriptor (TX8 k).2.2.1 = some (tyX8 k) := by decide +kernel
abbrev cX8_init : ByteArray := prog_10_method_1_code
def yX8_init : MethodName := ⟨RX8, "<init>", "()V"⟩
abbrev cX8_hasRoom : ByteArray := prog_10_method_2_code
def yX8_hasRoom : MethodName := ⟨RX8, "hasRoom", "()Z"⟩
abbrev cX8_put : ByteArray := prog_10_method_3_code
def yX8_put : MethodName := ⟨RX8, "put", "(I)V"⟩
abbrev cX8_at : ByteArray := prog_10_method_4_code
def yX8_at : MethodName := ⟨RX8, "at", "(I)I"⟩
def RX9 : String := "CarryHouse"
def TX9 : u_T := fun k => match k with
  | 0 => ("CarryHouse", "tape", "LCarryHouse$Tape;", true)
  | 1 => ("CarryHouse", "reader", "LCarryHouse$Reader;", true)
  | 2 => ("CarryHouse", "unanimous", "LCarryHouse$Statute;", true)
  | 3 => ("CarryHouse", "statutes", "[LCarryHouse$Statute;", true)
  | 4 => ("CarryHouse", "powers", "LCarryHouse$Powers;", true)
  | 5 => ("CarryHouse", "scales", "LCarryHouse$Scales;", true)
  | 6 => ("CarryHouse", "ballot", "LCarryHouse$Ballot;", true)
  | 7 => ("CarryHouse", "chronicle", "LCarryHouse$Chronicle;", true)
  | 8 => ("CarryHouse", "statuteCount", "I", false)
  | 9 => ("CarryHouse", "size", "I", false)
  | 10 => ("CarryHouse", "today", "I", false)
  | _ => ("CarryHouse", "faultKind", "I", false)
def tyX9 : Nat → FieldType := fun k => match k with
  | 0 => .object "CarryHouse$Tape"
  | 1 => .object "CarryHouse$Reader"
  | 2 => .object "CarryHouse$Statute"
  | 3 => .array (.object "CarryHouse$Statute")
  | 4 => .object "CarryHouse$Powers"
  | 5 => .object "CarryHouse$Scales"
  | 6 => .object "CarryHouse$Ballot"
  | 7 => .object "CarryHouse$Chronicle"
  | 8 => .int
  | 9 => .int
  | 10 => .int
  | _ => .int
abbrev wsX90 : List Cond := u_ws RX9 TX9 12
theorem nmX9 : ∀ a, a < 12 → ∀ b, b < 12 → a ≠ b → (TX9 a).2.1 ≠ (TX9 b).2.1 := by decide +kernel
theorem tyX9_ok : ∀ k, k < 12 → parseFieldDescriptor (TX9 k).2.2.1 = some (tyX9 k) := by decide +kernel
abbrev cX9_init : ByteArray := prog_1_method_1_code
def yX9_init : MethodName := ⟨RX9, "<init>", "()V"⟩
abbrev cX9_feed : ByteArray := prog_1_method_2_code
def yX9_feed : MethodName := ⟨RX9, "feed", "(IIIII)I"⟩
abbrev cX9_end : ByteArray := prog_1_method_3_code
def yX9_end : MethodName := ⟨RX9, "end", "(I)Z"⟩
abbrev cX9_next : ByteArray := prog_1_method_4_code
def yX9_next : MethodName := ⟨RX9, "next", "(I)I"⟩
abbrev cX9_members : ByteArray := prog_1_method_5_code
def yX9_members : MethodName := ⟨RX9, "members", "(I)Z"⟩
abbrev cX9_statute : ByteArray := prog_1_method_6_code
def yX9_statute : MethodName := ⟨RX9, "statute", "(I)I"⟩
abbrev cX9_fault : ByteArray := prog_1_method_7_code
def yX9_fault : MethodName := ⟨RX9, "fault", "()I"⟩
abbrev cX9_carries : ByteArray := prog_1_method_8_code
def yX9_carries : MethodName := ⟨RX9, "carries", "(II)I"⟩
abbrev cX9_many : ByteArray := prog_1_method_9_code
def yX9_many : MethodName := ⟨RX9, "many", "(I)I"⟩
abbrev cX9_setAt : ByteArray := prog_1_method_10_code
def yX9_setAt : MethodName := ⟨RX9, "setAt", "(II)I"⟩
abbrev cX9_stronger : ByteArray := prog_1_method_11_code
def yX9_stronger : MethodName := ⟨RX9, "stronger", "(II)I"⟩
abbrev cX9_turns : ByteArray := prog_1_method_12_code
def yX9_turns : MethodName := ⟨RX9, "turns", "(I)I"⟩
abbrev cX9_share : ByteArray := prog_1_method_13_code
def yX9_share : MethodName := ⟨RX9, "share", "(III)J"⟩
abbrev cX9_chance : ByteArray := prog_1_method_14_code
def yX9_chance : MethodName := ⟨RX9, "chance", "(I)J"⟩
abbrev cX9_ally : ByteArray := prog_1_method_15_code
def yX9_ally : MethodName := ⟨RX9, "ally", "(I)I"⟩
abbrev cX9_weigh : ByteArray := prog_1_method_16_code
def yX9_weigh : MethodName := ⟨RX9, "weigh", "()I"⟩
abbrev cX9_weight : ByteArray := prog_1_method_17_code
def yX9_weight : MethodName := ⟨RX9, "weight", "(I)I"⟩
abbrev cX9_rank : ByteArray := prog_1_method_18_code
def yX9_rank : MethodName := ⟨RX9, "rank", "(I)Z"⟩
abbrev cX9_beats : ByteArray := prog_1_method_19_code
def yX9_beats : MethodName := ⟨RX9, "beats", "(II)I"⟩
abbrev cX9_free : ByteArray := prog_1_method_20_code
def yX9_free : MethodName := ⟨RX9, "free", "()I"⟩
abbrev cX9_top : ByteArray := prog_1_method_21_code
def yX9_top : MethodName := ⟨RX9, "top", "()I"⟩
abbrev cX9_leads : ByteArray := prog_1_method_22_code
def yX9_leads : MethodName := ⟨RX9, "leads", "(Z)I"⟩
abbrev cX9_rows : ByteArray := prog_1_method_23_code
def yX9_rows : MethodName := ⟨RX9, "rows", "(I)I"⟩
abbrev cX9_rowAt : ByteArray := prog_1_method_24_code
def yX9_rowAt : MethodName := ⟨RX9, "rowAt", "(I)I"⟩
abbrev cX9_vote : ByteArray := prog_1_method_25_code
def yX9_vote : MethodName := ⟨RX9, "vote", "(IZ)I"⟩
abbrev cX9_unfit : ByteArray := prog_1_method_26_code
def yX9_unfit : MethodName := ⟨RX9, "unfit", "(I)I"⟩
abbrev cX9_sure : ByteArray := prog_1_method_27_code
def yX9_sure : MethodName := ⟨RX9, "sure", "(II)I"⟩
abbrev cX9_open : ByteArray := prog_1_method_28_code
def yX9_open : MethodName := ⟨RX9, "open", "(I)I"⟩
abbrev cX9_count : ByteArray := prog_1_method_29_code
def yX9_count : MethodName := ⟨RX9, "count", "(I)I"⟩
abbrev cX9_isMember : ByteArray := prog_1_method_30_code
def yX9_isMember : MethodName := ⟨RX9, "isMember", "(I)Z"⟩
abbrev cX9_isSet : ByteArray := prog_1_method_31_code
def yX9_isSet : MethodName := ⟨RX9, "isSet", "(I)Z"⟩
abbrev cX9_inForce : ByteArray := prog_1_method_32_code
def yX9_inForce : MethodName := ⟨RX9, "inForce", "(I)LCarryHouse$Statute;"⟩
abbrev cX9_powersToday : ByteArray := prog_1_method_33_code
def yX9_powersToday : MethodName := ⟨RX9, "powersToday", "()LCarryHouse$Powers;"⟩
abbrev cX9_commonDivisor : ByteArray := prog_1_method_34_code
def yX9_commonDivisor : MethodName := ⟨RX9, "commonDivisor", "(JJ)J"⟩
def RX10 : String := "CarryHouseModel"
def TX10 : u_T := fun k => match k with
  | 0 => ("CarryHouseModel", "thrown", "I", false)
  | 1 => ("CarryHouseModel", "tape", "[I", true)
  | 2 => ("CarryHouseModel", "taped", "I", false)
  | 3 => ("CarryHouseModel", "today", "I", false)
  | 4 => ("CarryHouseModel", "members", "I", false)
  | 5 => ("CarryHouseModel", "isRanked", "Z", false)
  | 6 => ("CarryHouseModel", "size", "I", false)
  | 7 => ("CarryHouseModel", "to", "I", false)
  | 8 => ("CarryHouseModel", "from", "I", false)
  | 9 => ("CarryHouseModel", "kind", "I", false)
  | 10 => ("CarryHouseModel", "number", "I", false)
  | 11 => ("CarryHouseModel", "sign", "I", false)
  | 12 => ("CarryHouseModel", "letters", "I", false)
  | 13 => ("CarryHouseModel", "fault", "I", false)
  | 14 => ("CarryHouseModel", "place", "I", false)
  | 15 => ("CarryHouseModel", "word", "J", false)
  | 16 => ("CarryHouseModel", "orRow", "[Z", true)
  | 17 => ("CarryHouseModel", "andRow", "[Z", true)
  | 18 => ("CarryHouseModel", "nameRow", "[Z", true)
  | 19 => ("CarryHouseModel", "statuteRow", "[Z", true)
  | 20 => ("CarryHouseModel", "one", "[Z", true)
  | 21 => ("CarryHouseModel", "sums", "[I", true)
  | 22 => ("CarryHouseModel", "type", "[I", true)
  | 23 => ("CarryHouseModel", "weight", "[I", true)
  | 24 => ("CarryHouseModel", "needed", "[I", true)
  | 25 => ("CarryHouseModel", "nameWord", "[J", true)
  | 26 => ("CarryHouseModel", "names", "I", false)
  | 27 => ("CarryHouseModel", "ones", "I", false)
  | 28 => ("CarryHouseModel", "top", "I", false)
  | 29 => ("CarryHouseModel", "isAwaited", "Z", false)
  | 30 => ("CarryHouseModel", "isDone", "Z", false)
  | 31 => ("CarryHouseModel", "statuteFrom", "[I", true)
  | 32 => ("CarryHouseModel", "statuteTold", "[I", true)
  | 33 => ("CarryHouseModel", "statutes", "I", false)
  | 34 => ("CarryHouseModel", "row", "[Z", true)
  | 35 => ("CarryHouseModel", "all", "I", false)
  | 36 => ("CarryHouseModel", "upper", "J", false)
  | 37 => ("CarryHouseModel", "lower", "J", false)
  | 38 => ("CarryHouseModel", "sortOf", "[I", true)
  | 39 => ("CarryHouseModel", "sortSize", "[I", true)
  | 40 => ("CarryHouseModel", "sortFirst", "[I", true)
  | 41 => ("CarryHouseModel", "given", "[I", true)
  | 42 => ("CarryHouseModel", "weights", "[I", true)
  | 43 => ("CarryHouseModel", "minimal", "[I", true)
  | 44 => ("CarryHouseModel", "maximal", "[I", true)
  | 45 => ("CarryHouseModel", "isAbove", "[Z", true)
  | 46 => ("CarryHouseModel", "sorts", "I", false)
  | 47 => ("CarryHouseModel", "minimals", "I", false)
  | 48 => ("CarryHouseModel", "maximals", "I", false)
  | 49 => ("CarryHouseModel", "tries", "I", false)
  | 50 => ("CarryHouseModel", "lowest", "I", false)
  | 51 => ("CarryHouseModel", "isWeighed", "Z", false)
  | 52 => ("CarryHouseModel", "weighed", "I", false)
  | 53 => ("CarryHouseModel", "rankOf", "[I", true)
  | 54 => ("CarryHouseModel", "beat", "[Z", true)
  | 55 => ("CarryHouseModel", "comes", "[Z", true)
  | 56 => ("CarryHouseModel", "then", "[I", true)
  | 57 => ("CarryHouseModel", "order", "[I", true)
  | 58 => ("CarryHouseModel", "first", "[I", true)
  | 59 => ("CarryHouseModel", "hasFirst", "Z", false)
  | 60 => ("CarryHouseModel", "voteSet", "[I", true)
  | 61 => ("CarryHouseModel", "voteDay", "[I", true)
  | 62 => ("CarryHouseModel", "hasPassed", "[Z", true)
  | _ => ("CarryHouseModel", "votes", "I", false)
def tyX10 : Nat → FieldType := fun k => match k with
  | 0 => .int
  | 1 => .array .int
  | 2 => .int
  | 3 => .int
  | 4 => .int
  | 5 => .boolean
  | 6 => .int
  | 7 => .int
  | 8 => .int
  | 9 => .int
  | 10 => .int
  | 11 => .int
  | 12 => .int
  | 13 => .int
  | 14 => .int
  | 15 => .long
  | 16 => .array .boolean
  | 17 => .array .boolean
  | 18 => .array .boolean
  | 19 => .array .boolean
  | 20 => .array .boolean
  | 21 => .array .int
  | 22 => .array .int
  | 23 => .array .int
  | 24 => .array .int
  | 25 => .array .long
  | 26 => .int
  | 27 => .int
  | 28 => .int
  | 29 => .boolean
  | 30 => .boolean
  | 31 => .array .int
  | 32 => .array .int
  | 33 => .int
  | 34 => .array .boolean
  | 35 => .int
  | 36 => .long
  | 37 => .long
  | 38 => .array .int
  | 39 => .array .int
  | 40 => .array .int
  | 41 => .array .int
  | 42 => .array .int
  | 43 => .array .int
  | 44 => .array .int
  | 45 => .array .boolean
  | 46 => .int
  | 47 => .int
  | 48 => .int
  | 49 => .int
  | 50 => .int
  | 51 => .boolean
  | 52 => .int
  | 53 => .array .int
  | 54 => .array .boolean
  | 55 => .array .boolean
  | 56 => .array .int
  | 57 => .array .int
  | 58 => .array .int
  | 59 => .boolean
  | 60 => .array .int
  | 61 => .array .int
  | 62 => .array .boolean
  | _ => .int
abbrev wsX100 : List Cond := u_ws RX10 TX10 64
theorem nmX10 : ∀ a, a < 64 → ∀ b, b < 64 → a ≠ b → (TX10 a).2.1 ≠ (TX10 b).2.1 := by decide +kernel
theorem tyX10_ok : ∀ k, k < 64 → parseFieldDescriptor (TX10 k).2.2.1 = some (tyX10 k) := by decide +kernel
abbrev cX10_init : ByteArray := prog_12_method_1_code
def yX10_init : MethodName := ⟨RX10, "<init>", "()V"⟩
abbrev cX10_thrown : ByteArray := prog_12_method_2_code
def yX10_thrown : MethodName := ⟨RX10, "thrown", "()I"⟩
abbrev cX10_refuse : ByteArray := prog_12_method_3_code
def yX10_refuse : MethodName := ⟨RX10, "refuse", "()I"⟩
abbrev cX10_come : ByteArray := prog_12_method_4_code
def yX10_come : MethodName := ⟨RX10, "come", "(I)V"⟩
abbrev cX10_feed : ByteArray := prog_12_method_5_code
def yX10_feed : MethodName := ⟨RX10, "feed", "(IIIII)I"⟩
abbrev cX10_end : ByteArray := prog_12_method_6_code
def yX10_end : MethodName := ⟨RX10, "end", "(I)Z"⟩
abbrev cX10_take : ByteArray := prog_12_method_7_code
def yX10_take : MethodName := ⟨RX10, "take", "()I"⟩
abbrev cX10_isIn : ByteArray := prog_12_method_8_code
def yX10_isIn : MethodName := ⟨RX10, "isIn", "(III)Z"⟩
abbrev cX10_next : ByteArray := prog_12_method_9_code
def yX10_next : MethodName := ⟨RX10, "next", "(I)I"⟩
abbrev cX10_members : ByteArray := prog_12_method_10_code
def yX10_members : MethodName := ⟨RX10, "members", "(I)Z"⟩
abbrev cX10_isMember : ByteArray := prog_12_method_11_code
def yX10_isMember : MethodName := ⟨RX10, "isMember", "(I)Z"⟩
abbrev cX10_isSet : ByteArray := prog_12_method_12_code
def yX10_isSet : MethodName := ⟨RX10, "isSet", "(I)Z"⟩
abbrev cX10_sizeOf : ByteArray := prog_12_method_13_code
def yX10_sizeOf : MethodName := ⟨RX10, "sizeOf", "(I)I"⟩
abbrev cX10_byteAt : ByteArray := prog_12_method_14_code
def yX10_byteAt : MethodName := ⟨RX10, "byteAt", "(I)I"⟩
abbrev cX10_isDigit : ByteArray := prog_12_method_15_code
def yX10_isDigit : MethodName := ⟨RX10, "isDigit", "(I)Z"⟩
abbrev cX10_isLetter : ByteArray := prog_12_method_16_code
def yX10_isLetter : MethodName := ⟨RX10, "isLetter", "(I)Z"⟩
abbrev cX10_isMark : ByteArray := prog_12_method_17_code
def yX10_isMark : MethodName := ⟨RX10, "isMark", "(I)Z"⟩
abbrev cX10_go : ByteArray := prog_12_method_18_code
def yX10_go : MethodName := ⟨RX10, "go", "()V"⟩
abbrev cX10_spelt : ByteArray := prog_12_method_19_code
def yX10_spelt : MethodName := ⟨RX10, "spelt", "(IIIII)J"⟩
abbrev cX10_isKey : ByteArray := prog_12_method_20_code
def yX10_isKey : MethodName := ⟨RX10, "isKey", "(J)Z"⟩
abbrev cX10_isBody : ByteArray := prog_12_method_21_code
def yX10_isBody : MethodName := ⟨RX10, "isBody", "()Z"⟩
abbrev cX10_isCarry : ByteArray := prog_12_method_22_code
def yX10_isCarry : MethodName := ⟨RX10, "isCarry", "()Z"⟩
abbrev cX10_isAnd : ByteArray := prog_12_method_23_code
def yX10_isAnd : MethodName := ⟨RX10, "isAnd", "()Z"⟩
abbrev cX10_isOr : ByteArray := prog_12_method_24_code
def yX10_isOr : MethodName := ⟨RX10, "isOr", "()Z"⟩
abbrev cX10_isOf : ByteArray := prog_12_method_25_code
def yX10_isOf : MethodName := ⟨RX10, "isOf", "()Z"⟩
abbrev cX10_isName : ByteArray := prog_12_method_26_code
def yX10_isName : MethodName := ⟨RX10, "isName", "()Z"⟩
abbrev cX10_isSign : ByteArray := prog_12_method_27_code
def yX10_isSign : MethodName := ⟨RX10, "isSign", "(I)Z"⟩
abbrev cX10_bad : ByteArray := prog_12_method_28_code
def yX10_bad : MethodName := ⟨RX10, "bad", "(I)Z"⟩
abbrev cX10_badAt : ByteArray := prog_12_method_29_code
def yX10_badAt : MethodName := ⟨RX10, "badAt", "(II)Z"⟩
abbrev cX10_openRule : ByteArray := prog_12_method_30_code
def yX10_openRule : MethodName := ⟨RX10, "openRule", "(I)V"⟩
abbrev cX10_openList : ByteArray := prog_12_method_31_code
def yX10_openList : MethodName := ⟨RX10, "openList", "(I)V"⟩
abbrev cX10_begin : ByteArray := prog_12_method_32_code
def yX10_begin : MethodName := ⟨RX10, "begin", "()Z"⟩
abbrev cX10_beginItem : ByteArray := prog_12_method_33_code
def yX10_beginItem : MethodName := ⟨RX10, "beginItem", "()Z"⟩
abbrev cX10_beginList : ByteArray := prog_12_method_34_code
def yX10_beginList : MethodName := ⟨RX10, "beginList", "(I)Z"⟩
abbrev cX10_nameAtHand : ByteArray := prog_12_method_35_code
def yX10_nameAtHand : MethodName := ⟨RX10, "nameAtHand", "()I"⟩
abbrev cX10_beginOne : ByteArray := prog_12_method_36_code
def yX10_beginOne : MethodName := ⟨RX10, "beginOne", "()Z"⟩
abbrev cX10_end_ : ByteArray := prog_12_method_37_code
def yX10_end_ : MethodName := ⟨RX10, "end", "()Z"⟩
abbrev cX10_readRule : ByteArray := prog_12_method_38_code
def yX10_readRule : MethodName := ⟨RX10, "readRule", "()Z"⟩
abbrev cX10_readBody : ByteArray := prog_12_method_39_code
def yX10_readBody : MethodName := ⟨RX10, "readBody", "()Z"⟩
abbrev cX10_statute : ByteArray := prog_12_method_40_code
def yX10_statute : MethodName := ⟨RX10, "statute", "(I)I"⟩
abbrev cX10_fault : ByteArray := prog_12_method_41_code
def yX10_fault : MethodName := ⟨RX10, "fault", "()I"⟩
abbrev cX10_inForce : ByteArray := prog_12_method_42_code
def yX10_inForce : MethodName := ⟨RX10, "inForce", "(II)I"⟩
abbrev cX10_carriesBy : ByteArray := prog_12_method_43_code
def yX10_carriesBy : MethodName := ⟨RX10, "carriesBy", "(II)Z"⟩
abbrev cX10_carries : ByteArray := prog_12_method_44_code
def yX10_carries : MethodName := ⟨RX10, "carries", "(II)I"⟩
abbrev cX10_lay : ByteArray := prog_12_method_45_code
def yX10_lay : MethodName := ⟨RX10, "lay", "()V"⟩
abbrev cX10_isLeast : ByteArray := prog_12_method_46_code
def yX10_isLeast : MethodName := ⟨RX10, "isLeast", "(I)Z"⟩
abbrev cX10_hinders : ByteArray := prog_12_method_47_code
def yX10_hinders : MethodName := ⟨RX10, "hinders", "(I)Z"⟩
abbrev cX10_isLeastHinder : ByteArray := prog_12_method_48_code
def yX10_isLeastHinder : MethodName := ⟨RX10, "isLeastHinder", "(I)Z"⟩
abbrev cX10_isOfKind : ByteArray := prog_12_method_49_code
def yX10_isOfKind : MethodName := ⟨RX10, "isOfKind", "(II)Z"⟩
abbrev cX10_countOf : ByteArray := prog_12_method_50_code
def yX10_countOf : MethodName := ⟨RX10, "countOf", "(I)I"⟩
abbrev cX10_whoIs : ByteArray := prog_12_method_51_code
def yX10_whoIs : MethodName := ⟨RX10, "whoIs", "(Z)I"⟩
abbrev cX10_isProper : ByteArray := prog_12_method_52_code
def yX10_isProper : MethodName := ⟨RX10, "isProper", "()Z"⟩
abbrev cX10_isStrong : ByteArray := prog_12_method_53_code
def yX10_isStrong : MethodName := ⟨RX10, "isStrong", "()Z"⟩
abbrev cX10_held : ByteArray := prog_12_method_54_code
def yX10_held : MethodName := ⟨RX10, "held", "(II)I"⟩
abbrev cX10_isLined : ByteArray := prog_12_method_55_code
def yX10_isLined : MethodName := ⟨RX10, "isLined", "()Z"⟩
abbrev cX10_many : ByteArray := prog_12_method_56_code
def yX10_many : MethodName := ⟨RX10, "many", "(I)I"⟩
abbrev cX10_setAt : ByteArray := prog_12_method_57_code
def yX10_setAt : MethodName := ⟨RX10, "setAt", "(II)I"⟩
abbrev cX10_stronger : ByteArray := prog_12_method_58_code
def yX10_stronger : MethodName := ⟨RX10, "stronger", "(II)I"⟩
abbrev cX10_turnsOf : ByteArray := prog_12_method_59_code
def yX10_turnsOf : MethodName := ⟨RX10, "turnsOf", "(I)I"⟩
abbrev cX10_turns : ByteArray := prog_12_method_60_code
def yX10_turns : MethodName := ⟨RX10, "turns", "(I)I"⟩
abbrev cX10_lessen : ByteArray := prog_12_method_61_code
def yX10_lessen : MethodName := ⟨RX10, "lessen", "(JJ)V"⟩
abbrev cX10_orders : ByteArray := prog_12_method_62_code
def yX10_orders : MethodName := ⟨RX10, "orders", "(I)J"⟩
abbrev cX10_shareOfSets : ByteArray := prog_12_method_63_code
def yX10_shareOfSets : MethodName := ⟨RX10, "shareOfSets", "(I)V"⟩
abbrev cX10_shareOfOrders : ByteArray := prog_12_method_64_code
def yX10_shareOfOrders : MethodName := ⟨RX10, "shareOfOrders", "(I)V"⟩
abbrev cX10_shareOfLeast : ByteArray := prog_12_method_65_code
def yX10_shareOfLeast : MethodName := ⟨RX10, "shareOfLeast", "(I)V"⟩
abbrev cX10_share : ByteArray := prog_12_method_66_code
def yX10_share : MethodName := ⟨RX10, "share", "(III)J"⟩
abbrev cX10_power : ByteArray := prog_12_method_67_code
def yX10_power : MethodName := ⟨RX10, "power", "(JI)J"⟩
abbrev cX10_chance : ByteArray := prog_12_method_68_code
def yX10_chance : MethodName := ⟨RX10, "chance", "(I)J"⟩
abbrev cX10_ally : ByteArray := prog_12_method_69_code
def yX10_ally : MethodName := ⟨RX10, "ally", "(I)I"⟩
abbrev cX10_findSorts : ByteArray := prog_12_method_70_code
def yX10_findSorts : MethodName := ⟨RX10, "findSorts", "()V"⟩
abbrev cX10_findEnds : ByteArray := prog_12_method_71_code
def yX10_findEnds : MethodName := ⟨RX10, "findEnds", "()V"⟩
abbrev cX10_sumOf : ByteArray := prog_12_method_72_code
def yX10_sumOf : MethodName := ⟨RX10, "sumOf", "(I)I"⟩
abbrev cX10_isRight : ByteArray := prog_12_method_73_code
def yX10_isRight : MethodName := ⟨RX10, "isRight", "()Z"⟩
abbrev cX10_mayBe : ByteArray := prog_12_method_74_code
def yX10_mayBe : MethodName := ⟨RX10, "mayBe", "(II)Z"⟩
abbrev cX10_trySum : ByteArray := prog_12_method_75_code
def yX10_trySum : MethodName := ⟨RX10, "trySum", "(I)I"⟩
abbrev cX10_weigh : ByteArray := prog_12_method_76_code
def yX10_weigh : MethodName := ⟨RX10, "weigh", "()I"⟩
abbrev cX10_weight : ByteArray := prog_12_method_77_code
def yX10_weight : MethodName := ⟨RX10, "weight", "(I)I"⟩
abbrev cX10_areOptions : ByteArray := prog_12_method_78_code
def yX10_areOptions : MethodName := ⟨RX10, "areOptions", "(I)Z"⟩
abbrev cX10_rank : ByteArray := prog_12_method_79_code
def yX10_rank : MethodName := ⟨RX10, "rank", "(I)Z"⟩
abbrev cX10_beatsOf : ByteArray := prog_12_method_80_code
def yX10_beatsOf : MethodName := ⟨RX10, "beatsOf", "(II)Z"⟩
abbrev cX10_layOptions : ByteArray := prog_12_method_81_code
def yX10_layOptions : MethodName := ⟨RX10, "layOptions", "()V"⟩
abbrev cX10_isOption : ByteArray := prog_12_method_82_code
def yX10_isOption : MethodName := ⟨RX10, "isOption", "(I)Z"⟩
abbrev cX10_beats : ByteArray := prog_12_method_83_code
def yX10_beats : MethodName := ⟨RX10, "beats", "(II)I"⟩
abbrev cX10_free : ByteArray := prog_12_method_84_code
def yX10_free : MethodName := ⟨RX10, "free", "()I"⟩
abbrev cX10_top : ByteArray := prog_12_method_85_code
def yX10_top : MethodName := ⟨RX10, "top", "()I"⟩
abbrev cX10_leads : ByteArray := prog_12_method_86_code
def yX10_leads : MethodName := ⟨RX10, "leads", "(Z)I"⟩
abbrev cX10_endOf : ByteArray := prog_12_method_87_code
def yX10_endOf : MethodName := ⟨RX10, "endOf", "(I)I"⟩
abbrev cX10_rows : ByteArray := prog_12_method_88_code
def yX10_rows : MethodName := ⟨RX10, "rows", "(I)I"⟩
abbrev cX10_goOn : ByteArray := prog_12_method_89_code
def yX10_goOn : MethodName := ⟨RX10, "goOn", "()Z"⟩
abbrev cX10_rowAt : ByteArray := prog_12_method_90_code
def yX10_rowAt : MethodName := ⟨RX10, "rowAt", "(I)I"⟩
abbrev cX10_vote : ByteArray := prog_12_method_91_code
def yX10_vote : MethodName := ⟨RX10, "vote", "(IZ)I"⟩
abbrev cX10_unfit : ByteArray := prog_12_method_92_code
def yX10_unfit : MethodName := ⟨RX10, "unfit", "(I)I"⟩
abbrev cX10_sureOf : ByteArray := prog_12_method_93_code
def yX10_sureOf : MethodName := ⟨RX10, "sureOf", "(II)I"⟩
abbrev cX10_sure : ByteArray := prog_12_method_94_code
def yX10_sure : MethodName := ⟨RX10, "sure", "(II)I"⟩
abbrev cX10_open : ByteArray := prog_12_method_95_code
def yX10_open : MethodName := ⟨RX10, "open", "(I)I"⟩
abbrev cX10_count : ByteArray := prog_12_method_96_code
def yX10_count : MethodName := ⟨RX10, "count", "(I)I"⟩
def RJ6 : String := "java/lang/Integer"
def TJ6 : u_T := fun k => match k with
  | _ => ("", "", "", false)
def tyJ6 : Nat → FieldType := fun k => match k with
  | _ => .int
abbrev wsJ60 : List Cond := u_ws RJ6 TJ6 0
theorem nmJ6 : ∀ a, a < 0 → ∀ b, b < 0 → a ≠ b → (TJ6 a).2.1 ≠ (TJ6 b).2.1 := by decide +kernel
theorem tyJ6_ok : ∀ k, k < 0 → parseFieldDescriptor (TJ6 k).2.2.1 = some (tyJ6 k) := by decide +kernel
abbrev cJ6_bitCount_0f7a4 : ByteArray := prog_14_method_49_code
def yJ6_bitCount_0f7a4 : MethodName := ⟨RJ6, "bitCount", "(I)I"⟩
def RJ9 : String := "java/lang/Math"
def TJ9 : u_T := fun k => match k with
  | _ => ("", "", "", false)
def tyJ9 : Nat → FieldType := fun k => match k with
  | _ => .int
abbrev wsJ90 : List Cond := u_ws RJ9 TJ9 0
theorem nmJ9 : ∀ a, a < 0 → ∀ b, b < 0 → a ≠ b → (TJ9 a).2.1 ≠ (TJ9 b).2.1 := by decide +kernel
theorem tyJ9_ok : ∀ k, k < 0 → parseFieldDescriptor (TJ9 k).2.2.1 = some (tyJ9 k) := by decide +kernel
abbrev cJ9_min_7cf53 : ByteArray := prog_15_method_69_code
def yJ9_min_7cf53 : MethodName := ⟨RJ9, "min", "(II)I"⟩
def RJ0 : String := "java/lang/String"
def TJ0 : u_T := fun k => match k with
  | _ => ("", "", "", false)
def tyJ0 : Nat → FieldType := fun k => match k with
  | _ => .int
abbrev wsJ00 : List Cond := u_ws RJ0 TJ0 0
theorem nmJ0 : ∀ a, a < 0 → ∀ b, b < 0 → a ≠ b → (TJ0 a).2.1 ≠ (TJ0 b).2.1 := by decide +kernel
theorem tyJ0_ok : ∀ k, k < 0 → parseFieldDescriptor (TJ0 k).2.2.1 = some (tyJ0 k) := by decide +kernel
abbrev cJ0_length_8abf5 : ByteArray := prog_17_method_54_code
def yJ0_length_8abf5 : MethodName := ⟨RJ0, "length", "()I"⟩
abbrev cJ0_charAt_5068e : ByteArray := prog_17_method_56_code
def yJ0_charAt_5068e : MethodName := ⟨RJ0, "charAt", "(I)C"⟩
abbrev cJ0_coder_7d493 : ByteArray := prog_17_method_152_code
def yJ0_coder_7d493 : MethodName := ⟨RJ0, "coder", "()B"⟩
abbrev cJ0_isLatin1_aae02 : ByteArray := prog_17_method_154_code
def yJ0_isLatin1_aae02 : MethodName := ⟨RJ0, "isLatin1", "()Z"⟩
abbrev cJ0_checkIndex_df160 : ByteArray := prog_17_method_155_code
def yJ0_checkIndex_df160 : MethodName := ⟨RJ0, "checkIndex", "(II)V"⟩
def RJ1 : String := "java/lang/StringLatin1"
def TJ1 : u_T := fun k => match k with
  | _ => ("", "", "", false)
def tyJ1 : Nat → FieldType := fun k => match k with
  | _ => .int
abbrev wsJ10 : List Cond := u_ws RJ1 TJ1 0
theorem nmJ1 : ∀ a, a < 0 → ∀ b, b < 0 → a ≠ b → (TJ1 a).2.1 ≠ (TJ1 b).2.1 := by decide +kernel
theorem tyJ1_ok : ∀ k, k < 0 → parseFieldDescriptor (TJ1 k).2.2.1 = some (tyJ1 k) := by decide +kernel
abbrev cJ1_charAt_3b067 : ByteArray := prog_18_method_2_code
def yJ1_charAt_3b067 : MethodName := ⟨RJ1, "charAt", "([BI)C"⟩
def RJ2 : String := "java/lang/StringUTF16"
def TJ2 : u_T := fun k => match k with
  | _ => ("", "", "", false)
def tyJ2 : Nat → FieldType := fun k => match k with
  | _ => .int
abbrev wsJ20 : List Cond := u_ws RJ2 TJ2 0
theorem nmJ2 : ∀ a, a < 0 → ∀ b, b < 0 → a ≠ b → (TJ2 a).2.1 ≠ (TJ2 b).2.1 := by decide +kernel
theorem tyJ2_ok : ∀ k, k < 0 → parseFieldDescriptor (TJ2 k).2.2.1 = some (tyJ2 k) := by decide +kernel
abbrev cJ2_getChar_3b067 : ByteArray := prog_19_method_5_code
def yJ2_getChar_3b067 : MethodName := ⟨RJ2, "getChar", "([BI)C"⟩
abbrev cJ2_length_9d52b : ByteArray := prog_19_method_6_code
def yJ2_length_9d52b : MethodName := ⟨RJ2, "length", "([B)I"⟩
abbrev cJ2_charAt_3b067 : ByteArray := prog_19_method_83_code
def yJ2_charAt_3b067 : MethodName := ⟨RJ2, "charAt", "([BI)C"⟩
abbrev cJ2_checkIndex_2214a : ByteArray := prog_19_method_91_code
def yJ2_checkIndex_2214a : MethodName := ⟨RJ2, "checkIndex", "(I[B)V"⟩
def RJ3 : String := "jdk/internal/util/Preconditions"
def TJ3 : u_T := fun k => match k with
  | _ => ("", "", "", false)
def tyJ3 : Nat → FieldType := fun k => match k with
  | _ => .int
abbrev wsJ30 : List Cond := u_ws RJ3 TJ3 0
theorem nmJ3 : ∀ a, a < 0 → ∀ b, b < 0 → a ≠ b → (TJ3 a).2.1 ≠ (TJ3 b).2.1 := by decide +kernel
theorem tyJ3_ok : ∀ k, k < 0 → parseFieldDescriptor (TJ3 k).2.2.1 = some (tyJ3 k) := by decide +kernel
abbrev cJ3_checkIndex_8e157 : ByteArray := prog_22_method_11_code
def yJ3_checkIndex_8e157 : MethodName := ⟨RJ3, "checkIndex", "(IILjava/util/function/BiFunction;)I"⟩
def RL : String := "CarryHouseLaw"
abbrev cL_share : ByteArray := method_3_code
def yL_share : MethodName := ⟨RL, "share", "(LCarryHouse;III[J)I"⟩
abbrev cL_law : ByteArray := code
def yL_law : MethodName := ⟨RL, "law", "([I)Z"⟩
abbrev vwCl : List vw_C := [(RX0, TX0, 7), (RX1, TX1, 4), (RX2, TX2, 13), (RX3, TX3, 4), (RX4, TX4, 10), (RX5, TX5, 16), (RX6, TX6, 7), (RX7, TX7, 2), (RX8, TX8, 2), (RX9, TX9, 12), (RX10, TX10, 64)]
/-- the tables' words, in pieces -/
def xtb (K : Nat) : List Cond := match K with
  | 0 => k2_sels lw_privs
  | 1 => tables_1_1
  | 2 => tables_1_2
  | 3 => tables_1_3
  | 4 => tables_1_4
  | 5 => tables_1_5
  | 6 => tables_1_6
  | 7 => tables_1_7
  | _ => []
theorem xtb_in {K : Nat} {w : Cond} (h : w ∈ xtb K) : w ∈ lw_tbl := by
  unfold lw_tbl tables_1
  unfold xtb at h
  simp only [List.mem_append]
  split at h <;> simp_all
/-- the words that calls keep -/
def xG : List Cond := lw_tbl.filter goodWord
def xw_b (K i : Nat) (w : Cond) : Bool := decide ((xtb K)[i]? = some w) && goodWord w
theorem xw_in {K i : Nat} {w : Cond} (h : xw_b K i w = true) : w ∈ xG := by
  unfold xw_b at h
  rw [Bool.and_eq_true] at h
  exact List.mem_filter.mpr ⟨xtb_in (List.mem_of_getElem? (of_decide_eq_true h.1)), h.2⟩
end
section
section XH
/-- ABSTRACT HEAPS: the cells' shapes; what they hold: ints, longs, references (by the numbers of the cells). A shape (0, ci): an object of vwCl's row ci; (1, n) int[n], (2, n) byte[n], (3, n) boolean[n], (4, n) long[n], (5, n) Statute[n] -/
abbrev xh_H : Type := List (Nat × Nat) × (Nat → Nat → Int32) × (Nat → Nat → Int64) × (Nat → Nat → Option Nat)
def xh_up {α : Type} (f : Nat → Nat → α) (c k : Nat) (x : α) : Nat → Nat → α := fun c' k' => cond (Nat.beq c' c && Nat.beq k' k) x (f c' k')
def xh_rs {α : Type} (f : Nat → Nat → α) (n : Nat) (z : α) : Nat → Nat → α := fun c k => cond (Nat.beq c n) z (f c k)
theorem xh_up_o {α : Type} {f : Nat → Nat → α} {c k c' : Nat} {x : α} (h : c' ≠ c) : xh_up f c k x c' = f c' := by
  funext k'
  have : Nat.beq c' c = false := by cases hb : Nat.beq c' c with | false => rfl | true => exact absurd (Nat.eq_of_beq_eq_true hb) h
  simp [xh_up, this]
theorem xh_up_k {α : Type} {f : Nat → Nat → α} {c k k' : Nat} {x : α} (h : k' ≠ k) : xh_up f c k x c k' = f c k' := by
  have : Nat.beq k' k = false := by cases hb : Nat.beq k' k with | false => rfl | true => exact absurd (Nat.eq_of_beq_eq_true hb) h
  simp [xh_up, this]
theorem xh_up_s {α : Type} {f : Nat → Nat → α} {c k : Nat} {x : α} : xh_up f c k x c k = x := by
  have h1 : Nat.beq c c = true := Nat.beq_refl c
  have h2 : Nat.beq k k = true := Nat.beq_refl k
  simp [xh_up, h1, h2]
theorem xh_rs_o {α : Type} {f : Nat → Nat → α} {n c : Nat} {z : α} (h : c ≠ n) : xh_rs f n z c = f c := by
  funext k
  have : Nat.beq c n = false := by cases hb : Nat.beq c n with | false => rfl | true => exact absurd (Nat.eq_of_beq_eq_true hb) h
  simp [xh_rs, this]
theorem xh_rs_s {α : Type} {f : Nat → Nat → α} {n : Nat} {z : α} : xh_rs f n z n = fun _ => z := by
  funext k
  have h1 : Nat.beq n n = true := Nat.beq_refl n
  simp [xh_rs, h1]
def xh_tl : List (Nat → FieldType) := [tyX0, tyX1, tyX2, tyX3, tyX4, tyX5, tyX6, tyX7, tyX8, tyX9, tyX10]
def xh_ty (ci k : Nat) : FieldType := (xh_tl.getD ci tyX0) k
def xh_N (ci : Nat) : Nat := ([7, 4, 13, 4, 10, 16, 7, 2, 2, 12, 64] : List Nat).getD ci 0
/-- what a field holds, in the machine's words and in ours -/
def xh_fv (ad : Nat → Nat) (h : xh_H) (c : Nat) (ty : FieldType) (k : Nat) : Value := match ty with
  | .long => .long (h.2.2.1 c k)
  | .object _ => va_rf ((h.2.2.2 c k).map ad)
  | .array _ => va_rf ((h.2.2.2 c k).map ad)
  | _ => .int (h.2.1 c k)
def xh_get (h : xh_H) (c : Nat) (ty : FieldType) (k : Nat) : Value := match ty with
  | .long => .long (h.2.2.1 c k)
  | .object _ => va_rf (h.2.2.2 c k)
  | .array _ => va_rf (h.2.2.2 c k)
  | _ => .int (h.2.1 c k)
/-- our values in the machine's words: a cell by its address; a float stands for a thing that is not of ours (0: the script; the others: String constants) -/
def xh_v (ad sp : Nat → Nat) : Value → Value
  | .ref k => .ref (ad k)
  | .float u => .ref (sp u.toNat)
  | v => v
theorem xh_v_rf (ad sp : Nat → Nat) (r : Option Nat) : xh_v ad sp (va_rf r) = va_rf (r.map ad) := by cases r <;> rfl
theorem xh_v_get (ad sp : Nat → Nat) (h : xh_H) (c : Nat) (ty : FieldType) (k : Nat) : xh_v ad sp (xh_get h c ty k) = xh_fv ad h c ty k := by
  cases ty <;> first | rfl | exact xh_v_rf ad sp _
theorem xh_v_cat (ad sp : Nat → Nat) (v : Value) : (xh_v ad sp v).category = v.category := by cases v <;> rfl
def xh_e (ad : Nat → Nat) (cy : Nat → ClassId) (h : xh_H) (c : Nat) (sh : Nat × Nat) : va_E := match sh.1 with
  | 0 => .inr (sh.2, (List.range (xh_N sh.2)).map (fun k => xh_fv ad h c (xh_ty sh.2 k) k))
  | 4 => .inl (cy 4, sh.2, .inr (.inl (h.2.2.1 c)))
  | 5 => .inl (cy 5, sh.2, .inr (.inr (.inr (.inr (fun j => (h.2.2.2 c j).map ad)))))
  | k => .inl (cy k, sh.2, .inl (h.2.1 c))
def xh_ws (ad : Nat → Nat) (cy : Nat → ClassId) (h : xh_H) : va_W := h.1.mapIdx (fun c sh => (ad c, xh_e ad cy h c sh))
theorem xh_ws_get (ad : Nat → Nat) (cy : Nat → ClassId) (h : xh_H) (c : Nat) : (xh_ws ad cy h)[c]? = (h.1[c]?).map (fun sh => (ad c, xh_e ad cy h c sh)) := by
  unfold xh_ws
  rw [List.getElem?_mapIdx]
theorem xh_ws_at {ad : Nat → Nat} {cy : Nat → ClassId} {h : xh_H} {c : Nat} {sh : Nat × Nat} (hc : h.1[c]? = some sh) : (xh_ws ad cy h)[c]? = some (ad c, xh_e ad cy h c sh) := by
  rw [xh_ws_get, hc]; rfl
theorem xh_ws_len (ad : Nat → Nat) (cy : Nat → ClassId) (h : xh_H) : (xh_ws ad cy h).length = h.1.length := by simp [xh_ws]
theorem xh_e_congr {ad : Nat → Nat} {cy : Nat → ClassId} {h h' : xh_H} {c : Nat} {sh : Nat × Nat} (hi : h'.2.1 c = h.2.1 c) (hl : h'.2.2.1 c = h.2.2.1 c) (hr : h'.2.2.2 c = h.2.2.2 c) : xh_e ad cy h' c sh = xh_e ad cy h c sh := by
  have hf : ∀ ty k, xh_fv ad h' c ty k = xh_fv ad h c ty k := by intro ty k; cases ty <;> simp [xh_fv, hi, hl, hr]
  unfold xh_e
  split <;> simp [hf, hi, hl, hr]
/-- one cell is written -/
theorem xh_ws_set {ad : Nat → Nat} {cy : Nat → ClassId} {h h' : xh_H} {c : Nat} {sh : Nat × Nat} (h1 : h'.1 = h.1) (ho : ∀ c', c' ≠ c → h'.2.1 c' = h.2.1 c' ∧ h'.2.2.1 c' = h.2.2.1 c' ∧ h'.2.2.2 c' = h.2.2.2 c') (hc : h.1[c]? = some sh) : (xh_ws ad cy h).set c (ad c, xh_e ad cy h' c sh) = xh_ws ad cy h' := by
  apply List.ext_getElem?
  intro j
  rw [List.getElem?_set, xh_ws_get, xh_ws_get, h1]
  by_cases hj : c = j
  · subst hj
    have hl : c < (xh_ws ad cy h).length := by rw [xh_ws_len]; exact (List.getElem?_eq_some_iff.mp hc).1
    rw [if_pos rfl, if_pos hl, hc]; rfl
  · rw [if_neg hj]
    cases hq : h.1[j]? with
    | none => rfl
    | some q =>
      obtain ⟨a, b, d⟩ := ho j (fun z => hj z.symm)
      simp [xh_e_congr a b d]
/-- one cell is made -/
theorem xh_ws_new {ad : Nat → Nat} {cy : Nat → ClassId} {h : xh_H} {sh : Nat × Nat} {h' : xh_H} (h1 : h'.1 = h.1 ++ [sh]) (ho : ∀ c', c' ≠ h.1.length → h'.2.1 c' = h.2.1 c' ∧ h'.2.2.1 c' = h.2.2.1 c' ∧ h'.2.2.2 c' = h.2.2.2 c') : xh_ws ad cy h' = xh_ws ad cy h ++ [(ad h.1.length, xh_e ad cy h' h.1.length sh)] := by
  apply List.ext_getElem?
  intro j
  rw [xh_ws_get, h1]
  by_cases hj : j < h.1.length
  · rw [List.getElem?_append_left hj, List.getElem?_append_left (by rw [xh_ws_len]; exact hj), xh_ws_get]
    cases hq : h.1[j]? with
    | none => rfl
    | some q =>
      obtain ⟨a, b, d⟩ := ho j (by omega)
      simp [xh_e_congr a b d]
  · rw [List.getElem?_append_right (by omega), List.getElem?_append_right (by rw [xh_ws_len]; omega), xh_ws_len]
    by_cases hk : j = h.1.length
    · subst hk; simp
    · rw [List.getElem?_eq_none (by simp; omega), List.getElem?_eq_none (by simp; omega)]; rfl
theorem xh_fs_set {f g : Nat → Value} {N k : Nat} {v : Value} (hk : g k = v) (ho : ∀ j, j ≠ k → g j = f j) : ((List.range N).map f).set k v = (List.range N).map g := by
  apply List.ext_getElem?
  intro j
  rw [List.getElem?_set]
  by_cases hj : k = j
  · subst hj
    by_cases hN : k < N
    · simp [hN, hk]
    · simp [hN]
  · rw [if_neg hj]
    by_cases hN : j < N
    · simp [hN, ho j (fun z => hj z.symm)]
    · simp [hN]
theorem xh_fs_get {f : Nat → Value} {N k : Nat} (hk : k < N) : ((List.range N).map f)[k]? = some (f k) := by simp [hk]
/-- the machine's state, in our words: the cells stand at their addresses, the next cell comes at the heap's end -/
def xh_at (D : va_G) (cy : Nat → ClassId) (ad : Nat → Nat) (A : Nat → Prop) (h : xh_H) (H : Heap) : Prop :=
  va_P D vwCl (xh_ws ad cy h) H ∧ va_D A (xh_ws ad cy h) ∧ ∀ j : Nat, ad (h.1.length + j) = H.size + j
def xh_ts (cy : Nat → ClassId) : List (ClassId × FieldType) := [(cy 1, .int), (cy 2, .byte), (cy 3, .boolean), (cy 4, .long), (cy 5, .object RX7)]
/-! the locals, by their numbers -/
def xl_get : List (Nat × Value) → Nat → Option Value
  | [], _ => none
  | q :: t, i => cond (Nat.beq q.1 i) (some q.2) (xl_get t i)
theorem xl_get_mem {lv : List (Nat × Value)} {i : Nat} {v : Value} (h : xl_get lv i = some v) : (i, v) ∈ lv := by
  induction lv with
  | nil => cases h
  | cons q t ih =>
    unfold xl_get at h
    cases hb : Nat.beq q.1 i with
    | true =>
      rw [hb] at h
      have h1 := Nat.eq_of_beq_eq_true hb
      cases h
      subst h1
      exact List.mem_cons_self
    | false => rw [hb] at h; exact List.mem_cons_of_mem _ (ih h)
def xl_1 (lv : List (Nat × Value)) (i : Nat) (v : Value) : List (Nat × Value) := (i, v) :: lv.filter (fun q => !(q.1 == i) && !(q.1 + 1 == i && q.2.category == 2))
def xl_2 (lv : List (Nat × Value)) (i : Nat) (v : Value) : List (Nat × Value) := (i, v) :: lv.filter (fun q => !(q.1 == i) && (!(q.1 == i + 1) && !(q.1 + 1 == i && q.2.category == 2)))
def xl_m (ad sp : Nat → Nat) (lv : List (Nat × Value)) : List (Nat × Value) := lv.map (fun q => (q.1, xh_v ad sp q.2))
theorem xl_m1 (ad sp : Nat → Nat) (lv : List (Nat × Value)) (i : Nat) (v : Value) : (i, xh_v ad sp v) :: (xl_m ad sp lv).filter (fun q => !(q.1 == i) && !(q.1 + 1 == i && q.2.category == 2)) = xl_m ad sp (xl_1 lv i v) := by
  simp [xl_m, xl_1, List.filter_map, Function.comp_def, xh_v_cat]
theorem xl_m2 (ad sp : Nat → Nat) (lv : List (Nat × Value)) (i : Nat) (v : Value) : (i, xh_v ad sp v) :: (xl_m ad sp lv).filter (fun q => !(q.1 == i) && (!(q.1 == i + 1) && !(q.1 + 1 == i && q.2.category == 2))) = xl_m ad sp (xl_2 lv i v) := by
  simp [xl_m, xl_2, List.filter_map, Function.comp_def, xh_v_cat]
theorem xl_at {ad sp : Nat → Nat} {ls : Array Slot} {nL : Nat} {lv : List (Nat × Value)} (h : lv_has ls nL (xl_m ad sp lv)) {i : Nat} {v : Value} (hv : xl_get lv i = some v) : ls[i]? = some (.val (xh_v ad sp v)) :=
  h.2.2 (i, xh_v ad sp v) (List.mem_map.mpr ⟨(i, v), xl_get_mem hv, rfl⟩)
theorem xl_ix {ad sp : Nat → Nat} {lv : List (Nat × Value)} {i : Nat} {v : Value} (hv : xl_get lv i = some v) : ∃ k : Nat, (xl_m ad sp lv)[k]? = some (i, xh_v ad sp v) :=
  List.getElem?_of_mem (List.mem_map.mpr ⟨(i, v), xl_get_mem hv, rfl⟩)
/-! what lies on the stack -/
def xp_i {α : Type} (st : List Value) (f : Int32 → List Value → Option α) : Option α := match st with
  | .int x :: r => f x r
  | _ => none
def xp_ii {α : Type} (st : List Value) (f : Int32 → Int32 → List Value → Option α) : Option α := match st with
  | .int y :: .int x :: r => f y x r
  | _ => none
def xp_l {α : Type} (st : List Value) (f : Int64 → List Value → Option α) : Option α := match st with
  | .long x :: r => f x r
  | _ => none
def xp_ll {α : Type} (st : List Value) (f : Int64 → Int64 → List Value → Option α) : Option α := match st with
  | .long y :: .long x :: r => f y x r
  | _ => none
def xp_il {α : Type} (st : List Value) (f : Int32 → Int64 → List Value → Option α) : Option α := match st with
  | .int y :: .long x :: r => f y x r
  | _ => none
def xp_r {α : Type} (st : List Value) (f : Nat → List Value → Option α) : Option α := match st with
  | .ref a :: r => f a r
  | _ => none
def xp_ir {α : Type} (st : List Value) (f : Int32 → Nat → List Value → Option α) : Option α := match st with
  | .int i :: .ref a :: r => f i a r
  | _ => none
def xp_iir {α : Type} (st : List Value) (f : Int32 → Int32 → Nat → List Value → Option α) : Option α := match st with
  | .int x :: .int i :: .ref a :: r => f x i a r
  | _ => none
def xp_lir {α : Type} (st : List Value) (f : Int64 → Int32 → Nat → List Value → Option α) : Option α := match st with
  | .long x :: .int i :: .ref a :: r => f x i a r
  | _ => none
def xp_rir {α : Type} (st : List Value) (f : Nat → Int32 → Nat → List Value → Option α) : Option α := match st with
  | .ref x :: .int i :: .ref a :: r => f x i a r
  | _ => none
def xp_vr {α : Type} (st : List Value) (f : Value → Nat → List Value → Option α) : Option α := match st with
  | v :: .ref a :: r => f v a r
  | _ => none
theorem xp_i_v {α : Type} {st : List Value} {f : Int32 → List Value → Option α} {o : α} (h : xp_i st f = some o) : ∃ x r, st = .int x :: r ∧ f x r = some o := by
  unfold xp_i at h; split at h
  · exact ⟨_, _, rfl, h⟩
  · cases h
theorem xp_ii_v {α : Type} {st : List Value} {f : Int32 → Int32 → List Value → Option α} {o : α} (h : xp_ii st f = some o) : ∃ y x r, st = .int y :: .int x :: r ∧ f y x r = some o := by
  unfold xp_ii at h; split at h
  · exact ⟨_, _, _, rfl, h⟩
  · cases h
theorem xp_l_v {α : Type} {st : List Value} {f : Int64 → List Value → Option α} {o : α} (h : xp_l st f = some o) : ∃ x r, st = .long x :: r ∧ f x r = some o := by
  unfold xp_l at h; split at h
  · exact ⟨_, _, rfl, h⟩
  · cases h
theorem xp_ll_v {α : Type} {st : List Value} {f : Int64 → Int64 → List Value → Option α} {o : α} (h : xp_ll st f = some o) : ∃ y x r, st = .long y :: .long x :: r ∧ f y x r = some o := by
  unfold xp_ll at h; split at h
  · exact ⟨_, _, _, rfl, h⟩
  · cases h
theorem xp_il_v {α : Type} {st : List Value} {f : Int32 → Int64 → List Value → Option α} {o : α} (h : xp_il st f = some o) : ∃ y x r, st = .int y :: .long x :: r ∧ f y x r = some o := by
  unfold xp_il at h; split at h
  · exact ⟨_, _, _, rfl, h⟩
  · cases h
theorem xp_r_v {α : Type} {st : List Value} {f : Nat → List Value → Option α} {o : α} (h : xp_r st f = some o) : ∃ a r, st = .ref a :: r ∧ f a r = some o := by
  unfold xp_r at h; split at h
  · exact ⟨_, _, rfl, h⟩
  · cases h
theorem xp_ir_v {α : Type} {st : List Value} {f : Int32 → Nat → List Value → Option α} {o : α} (h : xp_ir st f = some o) : ∃ i a r, st = .int i :: .ref a :: r ∧ f i a r = some o := by
  unfold xp_ir at h; split at h
  · exact ⟨_, _, _, rfl, h⟩
  · cases h
theorem xp_iir_v {α : Type} {st : List Value} {f : Int32 → Int32 → Nat → List Value → Option α} {o : α} (h : xp_iir st f = some o) : ∃ x i a r, st = .int x :: .int i :: .ref a :: r ∧ f x i a r = some o := by
  unfold xp_iir at h; split at h
  · exact ⟨_, _, _, _, rfl, h⟩
  · cases h
theorem xp_lir_v {α : Type} {st : List Value} {f : Int64 → Int32 → Nat → List Value → Option α} {o : α} (h : xp_lir st f = some o) : ∃ x i a r, st = .long x :: .int i :: .ref a :: r ∧ f x i a r = some o := by
  unfold xp_lir at h; split at h
  · exact ⟨_, _, _, _, rfl, h⟩
  · cases h
theorem xp_rir_v {α : Type} {st : List Value} {f : Nat → Int32 → Nat → List Value → Option α} {o : α} (h : xp_rir st f = some o) : ∃ x i a r, st = .ref x :: .int i :: .ref a :: r ∧ f x i a r = some o := by
  unfold xp_rir at h; split at h
  · exact ⟨_, _, _, _, rfl, h⟩
  · cases h
theorem xp_vr_v {α : Type} {st : List Value} {f : Value → Nat → List Value → Option α} {o : α} (h : xp_vr st f = some o) : ∃ v a r, st = v :: .ref a :: r ∧ f v a r = some o := by
  unfold xp_vr at h; split at h
  · exact ⟨_, _, _, rfl, h⟩
  · cases h
end XH
end
section
section XE
/-- a row of a method's code: the instruction, its length, two numbers that its operand stands for, and where its word lies -/
abbrev xr_R : Type := Instr × Nat × Nat × Nat × Nat × Nat
/-- a frame: where it is, its locals, its stack, the heap, how many cells and slots were made -/
abbrev xs_S : Type := Nat × List (Nat × Value) × List Value × xh_H × Nat × Nat
def xv_k (k : Nat) (v : Value) : Bool := match v with
  | .int _ => Nat.beq k 0
  | .long _ => Nat.beq k 1
  | .ref _ => Nat.beq k 2
  | .null => Nat.beq k 2
  | .float _ => Nat.beq k 2
  | _ => false
def xe_ld (k i len pc : Nat) (lv : List (Nat × Value)) (st : List Value) (h : xh_H) (c s : Nat) : Option xs_S := match xl_get lv i with
  | some v => cond (xv_k k v) (some (pc + len, lv, v :: st, h, c, s)) none
  | none => none
def xe_st1 (k i len pc nL : Nat) (lv : List (Nat × Value)) (st : List Value) (h : xh_H) (c s : Nat) : Option xs_S := match st with
  | v :: r => cond (xv_k k v && Nat.ble (i + 1) nL) (some (pc + len, xl_1 lv i v, r, h, c, s)) none
  | [] => none
def xe_st2 (i len pc nL : Nat) (lv : List (Nat × Value)) (st : List Value) (h : xh_H) (c s : Nat) : Option xs_S := match st with
  | v :: r => cond (xv_k 1 v && Nat.ble (i + 2) nL) (some (pc + len, xl_2 lv i v, r, h, c, s)) none
  | [] => none
def xe_c (k : ClassFile.Cond) (x y : Int32) : Bool := match k with
  | .eq => decide (x = y)
  | .ne => !decide (x = y)
  | .lt => decide (x < y)
  | .ge => decide (y ≤ x)
  | .gt => decide (y < x)
  | .le => decide (x ≤ y)
def xh_ui (h : xh_H) (c k : Nat) (x : Int32) : xh_H := (h.1, xh_up h.2.1 c k x, h.2.2.1, h.2.2.2)
def xh_ul (h : xh_H) (c k : Nat) (x : Int64) : xh_H := (h.1, h.2.1, xh_up h.2.2.1 c k x, h.2.2.2)
def xh_ur (h : xh_H) (c k : Nat) (x : Option Nat) : xh_H := (h.1, h.2.1, h.2.2.1, xh_up h.2.2.2 c k x)
def xh_nw (h : xh_H) (sh : Nat × Nat) : xh_H := (h.1 ++ [sh], xh_rs h.2.1 h.1.length 0, xh_rs h.2.2.1 h.1.length 0, xh_rs h.2.2.2 h.1.length none)
/-- a field is written -/
def xe_put (h : xh_H) (c : Nat) (ty : FieldType) (k : Nat) (v : Value) : Option xh_H := match ty with
  | .int => (match v with
    | .int x => some (xh_ui h c k x)
    | _ => none)
  | .boolean => (match v with
    | .int x => cond (decide (x = 0) || decide (x = 1)) (some (xh_ui h c k x)) none
    | _ => none)
  | .long => (match v with
    | .long x => some (xh_ul h c k x)
    | _ => none)
  | .object _ => (match v with
    | .ref q => some (xh_ur h c k (some q))
    | _ => none)
  | .array _ => (match v with
    | .ref q => some (xh_ur h c k (some q))
    | _ => none)
  | _ => none
def xe_in (i : Int32) (n : Nat) : Bool := !decide (i < 0) && Nat.ble (i.toNatClampNeg + 1) n
def xa_k (t : ArrayType) : Nat := match t with
  | .int => 1
  | .byte => 2
  | .boolean => 3
  | .long => 4
  | _ => 9
/-- ONE INSTRUCTION (no call, no return) -/
def xe_1 (nL : Nat) (r : xr_R) (pc : Nat) (lv : List (Nat × Value)) (st : List Value) (h : xh_H) (c s : Nat) : Option xs_S := match r.1 with
  | .iconst n => some (pc + 1, lv, .int (Int32.ofInt n) :: st, h, c, s)
  | .bipush n => some (pc + 2, lv, .int (Int8.ofInt n).toInt32 :: st, h, c, s)
  | .sipush n => some (pc + 3, lv, .int (Int16.ofInt n).toInt32 :: st, h, c, s)
  | .lconst n => some (pc + 1, lv, .long (Int64.ofNat (n : Nat)) :: st, h, c, s)
  | .ldc _ => (match r.2.2.2.1 with
    | 0 => some (pc + 2, lv, .int (Int32.ofNat r.2.2.1) :: st, h, c, s)
    | _ => some (pc + 2, lv, .float (UInt32.ofNat r.2.2.1) :: st, h, c, s))
  | .ldc_w _ => some (pc + 3, lv, .int (Int32.ofNat r.2.2.1) :: st, h, c, s)
  | .ldc2_w _ => some (pc + 3, lv, .long (Int64.ofNat r.2.2.1) :: st, h, c, s)
  | .iload_n k => xe_ld 0 k 1 pc lv st h c s
  | .iload k => xe_ld 0 k 2 pc lv st h c s
  | .lload_n k => xe_ld 1 k 1 pc lv st h c s
  | .lload k => xe_ld 1 k 2 pc lv st h c s
  | .aload_n k => xe_ld 2 k 1 pc lv st h c s
  | .aload k => xe_ld 2 k 2 pc lv st h c s
  | .istore_n k => xe_st1 0 k 1 pc nL lv st h c s
  | .istore k => xe_st1 0 k 2 pc nL lv st h c s
  | .astore_n k => xe_st1 2 k 1 pc nL lv st h c s
  | .astore k => xe_st1 2 k 2 pc nL lv st h c s
  | .lstore_n k => xe_st2 k 1 pc nL lv st h c s
  | .lstore k => xe_st2 k 2 pc nL lv st h c s
  | .iinc i n => (match xl_get lv i with
    | some (.int x) => cond (Nat.ble (i + 1) nL) (some (pc + 3, xl_1 lv i (.int (x + Int32.ofInt n)), st, h, c, s)) none
    | _ => none)
  | .iadd => xp_ii st (fun y x r => some (pc + 1, lv, .int (x + y) :: r, h, c, s))
  | .isub => xp_ii st (fun y x r => some (pc + 1, lv, .int (x - y) :: r, h, c, s))
  | .imul => xp_ii st (fun y x r => some (pc + 1, lv, .int (x * y) :: r, h, c, s))
  | .iand => xp_ii st (fun y x r => some (pc + 1, lv, .int (x &&& y) :: r, h, c, s))
  | .ior => xp_ii st (fun y x r => some (pc + 1, lv, .int (x ||| y) :: r, h, c, s))
  | .ixor => xp_ii st (fun y x r => some (pc + 1, lv, .int (x ^^^ y) :: r, h, c, s))
  | .ishl => xp_ii st (fun y x r => some (pc + 1, lv, .int (x <<< (y &&& 31)) :: r, h, c, s))
  | .ishr => xp_ii st (fun y x r => some (pc + 1, lv, .int (x >>> (y &&& 31)) :: r, h, c, s))
  | .iushr => xp_ii st (fun y x r => some (pc + 1, lv, .int (x.toUInt32 >>> (y.toUInt32 &&& Int32.toUInt32 31)).toInt32 :: r, h, c, s))
  | .irem => xp_ii st (fun y x r => cond (decide (y = 0)) none (some (pc + 1, lv, .int (x - x / y * y) :: r, h, c, s)))
  | .ladd => xp_ll st (fun y x r => some (pc + 1, lv, .long (x + y) :: r, h, c, s))
  | .lsub => xp_ll st (fun y x r => some (pc + 1, lv, .long (x - y) :: r, h, c, s))
  | .lmul => xp_ll st (fun y x r => some (pc + 1, lv, .long (x * y) :: r, h, c, s))
  | .land => xp_ll st (fun y x r => some (pc + 1, lv, .long (x &&& y) :: r, h, c, s))
  | .lor => xp_ll st (fun y x r => some (pc + 1, lv, .long (x ||| y) :: r, h, c, s))
  | .ldiv => xp_ll st (fun y x r => cond (decide (y = 0)) none (some (pc + 1, lv, .long (x / y) :: r, h, c, s)))
  | .lrem => xp_ll st (fun y x r => cond (decide (y = 0)) none (some (pc + 1, lv, .long (x - x / y * y) :: r, h, c, s)))
  | .lushr => xp_il st (fun y x r => some (pc + 1, lv, .long (x.toUInt64 >>> (y.toInt64.toUInt64 &&& Int64.toUInt64 63)).toInt64 :: r, h, c, s))
  | .lshl => xp_il st (fun y x r => some (pc + 1, lv, .long (x <<< (y.toInt64 &&& 63)) :: r, h, c, s))
  | .lcmp => xp_ll st (fun y x r => some (pc + 1, lv, .int (lg_cmp x y) :: r, h, c, s))
  | .i2l => xp_i st (fun x r => some (pc + 1, lv, .long x.toInt64 :: r, h, c, s))
  | .l2i => xp_l st (fun x r => some (pc + 1, lv, .int x.toInt32 :: r, h, c, s))
  | .i2b => xp_i st (fun x r => some (pc + 1, lv, .int x.toInt8.toInt32 :: r, h, c, s))
  | .i2c => xp_i st (fun x r => some (pc + 1, lv, .int (x.toUInt32 % 65536).toInt32 :: r, h, c, s))
  | .dup => (match st with
    | a :: r => cond (Nat.beq a.category 1) (some (pc + 1, lv, a :: a :: r, h, c, s)) none
    | _ => none)
  | .pop => (match st with
    | a :: r => cond (Nat.beq a.category 1) (some (pc + 1, lv, r, h, c, s)) none
    | _ => none)
  | .dup2 => (match st with
    | a :: b :: r => cond (Nat.beq a.category 1 && Nat.beq b.category 1) (some (pc + 1, lv, a :: b :: a :: b :: r, h, c, s)) none
    | _ => none)
  | .dup_x2 => (match st with
    | a :: b :: d :: r => cond (Nat.beq a.category 1 && (Nat.beq b.category 1 && Nat.beq d.category 1)) (some (pc + 1, lv, a :: b :: d :: a :: r, h, c, s)) none
    | _ => none)
  | .ifCond k _ => xp_i st (fun x q => some (cond (xe_c k x 0) r.2.2.1 (pc + 3), lv, q, h, c, s))
  | .if_icmp k _ => xp_ii st (fun y x q => some (cond (xe_c k x y) r.2.2.1 (pc + 3), lv, q, h, c, s))
  | .goto _ => some (r.2.2.1, lv, st, h, c, s)
  | .ifnull _ => (match st with
    | .ref _ :: q => some (pc + 3, lv, q, h, c, s)
    | _ => none)
  | .if_acmp .ne _ => (match st with
    | .ref y :: .ref x :: q => cond (Nat.ble (x + 1) h.1.length && Nat.ble (y + 1) h.1.length) (some (cond (Nat.beq x y) (pc + 3) r.2.2.1, lv, q, h, c, s)) none
    | _ => none)
  | .tableswitch dflt lo hi offs => xp_i st (fun x q => cond (decide (x.toInt < lo) || decide (hi < x.toInt))
      (cond (decide (0 ≤ (pc : Int) + dflt)) (some (((pc : Int) + dflt).toNat, lv, q, h, c, s)) none)
      (match offs[(x.toInt - lo).toNat]? with
        | some off => cond (decide (0 ≤ (pc : Int) + off)) (some (((pc : Int) + off).toNat, lv, q, h, c, s)) none
        | none => none))
  | .getfield _ => xp_r st (fun a q => match h.1[a]? with
    | some (0, ci) => cond (Nat.beq ci r.2.2.1) (some (pc + 3, lv, xh_get h a (xh_ty r.2.2.1 r.2.2.2.1) r.2.2.2.1 :: q, h, c, s)) none
    | _ => none)
  | .putfield _ => xp_vr st (fun v a q => match h.1[a]? with
    | some (0, ci) => cond (Nat.beq ci r.2.2.1) ((xe_put h a (xh_ty r.2.2.1 r.2.2.2.1) r.2.2.2.1 v).map (fun h' => (pc + 3, lv, q, h', c, s))) none
    | _ => none)
  | .iaload => xp_ir st (fun i a q => match h.1[a]? with
    | some (1, n) => cond (xe_in i n) (some (pc + 1, lv, .int (h.2.1 a i.toNatClampNeg) :: q, h, c, s)) none
    | _ => none)
  | .baload => xp_ir st (fun i a q => match h.1[a]? with
    | some (2, n) => cond (xe_in i n) (some (pc + 1, lv, .int (h.2.1 a i.toNatClampNeg) :: q, h, c, s)) none
    | some (3, n) => cond (xe_in i n) (some (pc + 1, lv, .int (h.2.1 a i.toNatClampNeg) :: q, h, c, s)) none
    | _ => none)
  | .laload => xp_ir st (fun i a q => match h.1[a]? with
    | some (4, n) => cond (xe_in i n) (some (pc + 1, lv, .long (h.2.2.1 a i.toNatClampNeg) :: q, h, c, s)) none
    | _ => none)
  | .aaload => xp_ir st (fun i a q => match h.1[a]? with
    | some (5, n) => cond (xe_in i n) (some (pc + 1, lv, va_rf (h.2.2.2 a i.toNatClampNeg) :: q, h, c, s)) none
    | _ => none)
  | .iastore => xp_iir st (fun x i a q => match h.1[a]? with
    | some (1, n) => cond (xe_in i n) (some (pc + 1, lv, q, xh_ui h a i.toNatClampNeg x, c, s)) none
    | _ => none)
  | .bastore => xp_iir st (fun x i a q => match h.1[a]? with
    | some (2, n) => cond (xe_in i n) (some (pc + 1, lv, q, xh_ui h a i.toNatClampNeg (vp_nar .byte x), c, s)) none
    | some (3, n) => cond (xe_in i n) (some (pc + 1, lv, q, xh_ui h a i.toNatClampNeg (vp_nar .boolean x), c, s)) none
    | _ => none)
  | .lastore => xp_lir st (fun x i a q => match h.1[a]? with
    | some (4, n) => cond (xe_in i n) (some (pc + 1, lv, q, xh_ul h a i.toNatClampNeg x, c, s)) none
    | _ => none)
  | .aastore => xp_rir st (fun x i a q => match h.1[a]? with
    | some (5, n) => (match h.1[x]? with
      | some (0, 7) => cond (xe_in i n) (some (pc + 1, lv, q, xh_ur h a i.toNatClampNeg (some x), c, s)) none
      | _ => none)
    | _ => none)
  | .arraylength => xp_r st (fun a q => match h.1[a]? with
    | some (k + 1, n) => cond (Nat.ble (k + 1) 5) (some (pc + 1, lv, .int (Int32.ofNat n) :: q, h, c, s)) none
    | _ => none)
  | .newarray t => xp_i st (fun n q => cond (!decide (n < 0) && (Nat.ble (xa_k t) 5 && Nat.ble n.toNatClampNeg 1000000)) (some (pc + 2, lv, .ref h.1.length :: q, xh_nw h (xa_k t, n.toNatClampNeg), c + 1, s + n.toNatClampNeg)) none)
  | .anewarray _ => xp_i st (fun n q => cond (!decide (n < 0) && Nat.ble n.toNatClampNeg 1000000) (some (pc + 3, lv, .ref h.1.length :: q, xh_nw h (5, n.toNatClampNeg), c + 1, s + n.toNatClampNeg)) none)
  | .new _ => some (pc + 3, lv, .ref h.1.length :: st, xh_nw h (0, r.2.2.1), c + 1, s + xh_N r.2.2.1)
  | _ => none
end XE
end
section
section XR
theorem xh_at.set {D : va_G} {cy : Nat → ClassId} {ad : Nat → Nat} {A : Nat → Prop} {h h' : xh_H} {H H1 : Heap} {c : Nat} {sh : Nat × Nat} (hat : xh_at D cy ad A h H) (hc : h.1[c]? = some sh) (h1 : h'.1 = h.1) (ho : ∀ c', c' ≠ c → h'.2.1 c' = h.2.1 c' ∧ h'.2.2.1 c' = h.2.2.1 c' ∧ h'.2.2.2 c' = h.2.2.2 c') (he : va_at D vwCl (ad c, xh_e ad cy h' c sh) H1) (oq : ∀ q : Nat, q ≠ ad c → H1[q]? = H[q]?) (z : H1.size = H.size) : xh_at D cy ad A h' H1 := by
  obtain ⟨hP, hD, hn⟩ := hat
  refine ⟨?_, ?_, ?_⟩
  · rw [← xh_ws_set (ad := ad) (cy := cy) h1 ho hc]
    exact hP.set hD (xh_ws_at hc) he oq
  · rw [← xh_ws_set (ad := ad) (cy := cy) h1 ho hc]
    exact hD.set (xh_ws_at hc)
  · intro j
    rw [h1, z]
    exact hn j
theorem xh_at.new {D : va_G} {cy : Nat → ClassId} {ad : Nat → Nat} {A : Nat → Prop} {h : xh_H} {H H1 : Heap} {sh : Nat × Nat} (hat : xh_at D cy ad A h H) (he : va_at D vwCl (H.size, xh_e ad cy (xh_nw h sh) h.1.length sh) H1) (oq : ∀ q : Nat, q < H.size → H1[q]? = H[q]?) (z : H1.size = H.size + 1) (hA : A H.size) : xh_at D cy ad A (xh_nw h sh) H1 := by
  obtain ⟨hP, hD, hn⟩ := hat
  have h0 : ad h.1.length = H.size := hn 0
  have hw : xh_ws ad cy (xh_nw h sh) = xh_ws ad cy h ++ [(H.size, xh_e ad cy (xh_nw h sh) h.1.length sh)] := by
    rw [← h0]
    exact xh_ws_new rfl (fun c' hc' => ⟨xh_rs_o hc', xh_rs_o hc', xh_rs_o hc'⟩)
  refine ⟨?_, ?_, ?_⟩
  · rw [hw]
    refine (hP.kept (fun k q hq => oq q.1 ((hP k q hq).lt))).app (fun k q hq => ?_)
    have hz : k < 1 := (List.getElem?_eq_some_iff.mp hq).1
    rw [show k = 0 by omega] at hq
    cases hq
    exact he
  · rw [hw]
    exact hD.push hP rfl hA
  · intro j
    have := hn (1 + j)
    simp only [xh_nw, List.length_append, List.length_cons, List.length_nil]
    rw [z, show h.1.length + (0 + 1) + j = h.1.length + (1 + j) by omega, this]
    omega
theorem xw_bb {a b : Bool} (h : (a && b) = true) : a = true ∧ b = true := by cases a <;> cases b <;> simp_all
theorem xw_ble {a b : Nat} (h : Nat.ble a b = true) : a ≤ b := Nat.le_of_ble_eq_true h
theorem xw_beq {a b : Nat} (h : Nat.beq a b = true) : a = b := Nat.eq_of_beq_eq_true h
theorem xw_c {α : Type} {b : Bool} {x : Option α} {o : α} (h : cond b x none = some o) : b = true ∧ x = some o := by
  cases b with
  | true => exact ⟨rfl, h⟩
  | false => cases h
theorem xw_c0 {α : Type} {b : Bool} {x : Option α} {o : α} (h : cond b none x = some o) : b = false ∧ x = some o := by
  cases b with
  | true => cases h
  | false => exact ⟨rfl, h⟩
theorem xe_in_v {i : Int32} {n : Nat} (h : xe_in i n = true) : vp_in i n := by
  obtain ⟨h1, h2⟩ := xw_bb h
  have h1 : ¬ i < 0 := by simpa using h1
  have h2 := xw_ble h2
  intro z
  rcases z with z | z
  · exact h1 z
  · omega
variable {p : Program} {l : Launch} {e : Env} {R : Room} {s : State} {m : MethodId} {args : Array Value} {below : List Frame} {meth : Method} {c : Code} {H : Heap} {locs : List Loc} {cells slots : Nat} {Q : State → Prop}
variable {cc : ByteArray} {pc : Nat} {ls : Array Slot} {rest : List Value} {D : va_G} {A : Nat → Prop} {ad : Nat → Nat} {cy : Nat → ClassId} {h : xh_H} {H0 : Heap} {q0 n : Nat}
theorem xa_iast (hexec : p.tables.exec = Jvm.exec) (hb : c.code = cc) (hK : va_K D vwCl (xh_ts cy) s) (hat : xh_at D cy ad A h H) (hS : va_S A H0 H locs) (hc : h.1[q0]? = some (1, n)) {i x : Int32} (hin : vp_in i n) (hdg : decode cc pc = .ok (.iastore, 1))
    (kk : ∀ (H1 : Heap) (locs1 : List Loc), xh_at D cy ad A (xh_ui h q0 i.toNatClampNeg x) H1 → va_S A H0 H1 locs1 → W p l e R s m args below meth c H1 locs1 cells slots Q (F0 m (pc + 1) ls rest)) : W p l e R s m args below meth c H locs cells slots Q (F0 m pc ls (.int x :: .int i :: .ref (ad q0) :: rest)) := by
  have ha := xh_ws_at (ad := ad) (cy := cy) hc
  refine W.iast hexec hb (hat.1 q0 _ ha) ((hK.2 0 _ rfl).1 n (fun j => .int (h.2.1 q0 j))) (fun q => by cases q) (by show ¬ (i < 0 ∨ (arrV _ _ _).slots.size ≤ _); rw [arrV_size]; exact hin) rfl rfl hdg fun H1 e z oq => ?_
  refine kk H1 _ (hat.set (h' := xh_ui h q0 i.toNatClampNeg x) hc rfl (fun c' hc' => ⟨xh_up_o hc', rfl, rfl⟩) ?_ oq z) (hS.put z oq (hat.2.1.2 q0 _ ha))
  show H1[ad q0]? = some (vp_cell _ _)
  rw [e]
  show some (Cell.setSlot (vp_cell _ (n, .inl (h.2.1 q0))) _ _) = some (vp_cell _ (n, .inl (xh_up h.2.1 q0 i.toNatClampNeg x q0)))
  rw [vp_cell_i, vp_cell_i, arrV_store]
  congr 2
  funext q
  by_cases hq : q = i.toNatClampNeg
  · subst hq
    simp [updV, xh_up_s]
  · simp [updV, hq, xh_up_k hq]
theorem xa_bast (hexec : p.tables.exec = Jvm.exec) (hb : c.code = cc) (hK : va_K D vwCl (xh_ts cy) s) (hat : xh_at D cy ad A h H) (hS : va_S A H0 H locs) (hc : h.1[q0]? = some (2, n)) {i x : Int32} (hin : vp_in i n) (hdg : decode cc pc = .ok (.bastore, 1))
    (kk : ∀ (H1 : Heap) (locs1 : List Loc), xh_at D cy ad A (xh_ui h q0 i.toNatClampNeg (vp_nar .byte x)) H1 → va_S A H0 H1 locs1 → W p l e R s m args below meth c H1 locs1 cells slots Q (F0 m (pc + 1) ls rest)) : W p l e R s m args below meth c H locs cells slots Q (F0 m pc ls (.int x :: .int i :: .ref (ad q0) :: rest)) := by
  have ha := xh_ws_at (ad := ad) (cy := cy) hc
  refine W.bast hexec hb (hat.1 q0 _ ha) ((hK.2 1 _ rfl).1 n (fun j => .int (h.2.1 q0 j))) (fun q => by cases q) (by show ¬ (i < 0 ∨ (arrV _ _ _).slots.size ≤ _); rw [arrV_size]; exact hin) rfl rfl hdg fun H1 e z oq => ?_
  refine kk H1 _ (hat.set (h' := xh_ui h q0 i.toNatClampNeg (vp_nar .byte x)) hc rfl (fun c' hc' => ⟨xh_up_o hc', rfl, rfl⟩) ?_ oq z) (hS.put z oq (hat.2.1.2 q0 _ ha))
  show H1[ad q0]? = some (vp_cell _ _)
  rw [e]
  show some (Cell.setSlot (vp_cell _ (n, .inl (h.2.1 q0))) _ _) = some (vp_cell _ (n, .inl (xh_up h.2.1 q0 i.toNatClampNeg (vp_nar .byte x) q0)))
  rw [vp_cell_i, vp_cell_i, arrV_store]
  congr 2
  funext q
  by_cases hq : q = i.toNatClampNeg
  · subst hq
    simp [updV, xh_up_s, vp_nar]
    try rfl
  · simp [updV, hq, xh_up_k hq]
theorem xa_zast (hexec : p.tables.exec = Jvm.exec) (hb : c.code = cc) (hK : va_K D vwCl (xh_ts cy) s) (hat : xh_at D cy ad A h H) (hS : va_S A H0 H locs) (hc : h.1[q0]? = some (3, n)) {i x : Int32} (hin : vp_in i n) (hdg : decode cc pc = .ok (.bastore, 1))
    (kk : ∀ (H1 : Heap) (locs1 : List Loc), xh_at D cy ad A (xh_ui h q0 i.toNatClampNeg (vp_nar .boolean x)) H1 → va_S A H0 H1 locs1 → W p l e R s m args below meth c H1 locs1 cells slots Q (F0 m (pc + 1) ls rest)) : W p l e R s m args below meth c H locs cells slots Q (F0 m pc ls (.int x :: .int i :: .ref (ad q0) :: rest)) := by
  have ha := xh_ws_at (ad := ad) (cy := cy) hc
  refine W.zast hexec hb (hat.1 q0 _ ha) ((hK.2 2 _ rfl).1 n (fun j => .int (h.2.1 q0 j))) (fun q => by cases q) (by show ¬ (i < 0 ∨ (arrV _ _ _).slots.size ≤ _); rw [arrV_size]; exact hin) rfl rfl hdg fun H1 e z oq => ?_
  refine kk H1 _ (hat.set (h' := xh_ui h q0 i.toNatClampNeg (vp_nar .boolean x)) hc rfl (fun c' hc' => ⟨xh_up_o hc', rfl, rfl⟩) ?_ oq z) (hS.put z oq (hat.2.1.2 q0 _ ha))
  show H1[ad q0]? = some (vp_cell _ _)
  rw [e]
  show some (Cell.setSlot (vp_cell _ (n, .inl (h.2.1 q0))) _ _) = some (vp_cell _ (n, .inl (xh_up h.2.1 q0 i.toNatClampNeg (vp_nar .boolean x) q0)))
  rw [vp_cell_i, vp_cell_i, arrV_store]
  congr 2
  funext q
  by_cases hq : q = i.toNatClampNeg
  · subst hq
    simp [updV, xh_up_s, vp_nar]
    try rfl
  · simp [updV, hq, xh_up_k hq]
theorem xa_last (hexec : p.tables.exec = Jvm.exec) (hb : c.code = cc) (hK : va_K D vwCl (xh_ts cy) s) (hat : xh_at D cy ad A h H) (hS : va_S A H0 H locs) (hc : h.1[q0]? = some (4, n)) {i : Int32} {x : Int64} (hin : vp_in i n) (hdg : decode cc pc = .ok (.lastore, 1))
    (kk : ∀ (H1 : Heap) (locs1 : List Loc), xh_at D cy ad A (xh_ul h q0 i.toNatClampNeg x) H1 → va_S A H0 H1 locs1 → W p l e R s m args below meth c H1 locs1 cells slots Q (F0 m (pc + 1) ls rest)) : W p l e R s m args below meth c H locs cells slots Q (F0 m pc ls (.long x :: .int i :: .ref (ad q0) :: rest)) := by
  have ha := xh_ws_at (ad := ad) (cy := cy) hc
  refine W.last hexec hb (hat.1 q0 _ ha) ((hK.2 3 _ rfl).1 n (fun j => .long (h.2.2.1 q0 j))) (fun q => by cases q) (by show ¬ (i < 0 ∨ (arrV _ _ _).slots.size ≤ _); rw [arrV_size]; exact hin) rfl rfl hdg fun H1 e z oq => ?_
  refine kk H1 _ (hat.set (h' := xh_ul h q0 i.toNatClampNeg x) hc rfl (fun c' hc' => ⟨rfl, xh_up_o hc', rfl⟩) ?_ oq z) (hS.put z oq (hat.2.1.2 q0 _ ha))
  show H1[ad q0]? = some (vp_cell _ _)
  rw [e]
  show some (Cell.setSlot (vp_cell _ (n, .inr (.inl (h.2.2.1 q0)))) _ _) = some (vp_cell _ (n, .inr (.inl (xh_up h.2.2.1 q0 i.toNatClampNeg x q0))))
  rw [vp_cell_l, vp_cell_l, arrV_store]
  congr 2
  funext q
  by_cases hq : q = i.toNatClampNeg
  · subst hq
    simp [updV, xh_up_s]
  · simp [updV, hq, xh_up_k hq]
theorem xa_astq (hexec : p.tables.exec = Jvm.exec) (hb : c.code = cc) (hK : va_K D vwCl (xh_ts cy) s) (hat : xh_at D cy ad A h H) (hS : va_S A H0 H locs) (hc : h.1[q0]? = some (5, n)) {v : Nat} (hv : h.1[v]? = some (0, 7)) {i : Int32} (hin : vp_in i n) (hdg : decode cc pc = .ok (.aastore, 1))
    (kk : ∀ (H1 : Heap) (locs1 : List Loc), xh_at D cy ad A (xh_ur h q0 i.toNatClampNeg (some v)) H1 → va_S A H0 H1 locs1 → W p l e R s m args below meth c H1 locs1 cells slots Q (F0 m (pc + 1) ls rest)) : W p l e R s m args below meth c H locs cells slots Q (F0 m pc ls (.ref (ad v) :: .int i :: .ref (ad q0) :: rest)) := by
  have ha := xh_ws_at (ad := ad) (cy := cy) hc
  have hlt : i.toNatClampNeg < n := Nat.not_le.mp fun q => hin (Or.inr q)
  have h0 : ¬ i < 0 := fun q => hin (Or.inl q)
  obtain ⟨r', hr', cellV, g1, g2, g3, -⟩ := hat.1 v _ (xh_ws_at (ad := ad) (cy := cy) hv)
  have hcls := (hK.1 7 _ rfl).2
  obtain ⟨kA, comp, k1, k2, k3, -⟩ := (hK.2 4 _ rfl).2
  have hcomp : comp = D.1 7 := Option.some.inj (k3.symm.trans hcls.1)
  subst hcomp
  obtain ⟨kC, hkC, -⟩ := hcls.2
  refine W.aast hexec hb (hat.1 q0 _ ha) (fun q h => by cases h) (fun h => by cases h) k1 k2 rfl hkC ⟨h0, by show _ < (arrV _ _ _).slots.size; rw [arrV_size]; exact hlt⟩ g1 (fun q h => by rw [g3] at h; cases h) (by rw [g2]; exact hkC) (by rw [g2]; exact va_assign hcls) rfl rfl hdg fun H1 e z oq => ?_
  refine kk H1 _ (hat.set (h' := xh_ur h q0 i.toNatClampNeg (some v)) hc rfl (fun c' hc' => ⟨rfl, rfl, xh_up_o hc'⟩) ?_ oq z) (hS.put z oq (hat.2.1.2 q0 _ ha))
  show H1[ad q0]? = some (vp_cell _ _)
  rw [e]
  show some (Cell.setSlot (vp_cell _ (n, .inr (.inr (.inr (.inr (fun j => (h.2.2.2 q0 j).map ad)))))) _ _) = some (vp_cell _ (n, .inr (.inr (.inr (.inr (fun j => (xh_up h.2.2.2 q0 i.toNatClampNeg (some v) q0 j).map ad))))))
  rw [vp_cell_q, vp_cell_q, arrV_store]
  congr 2
  funext q
  by_cases hq : q = i.toNatClampNeg
  · subst hq
    simp [updV, xh_up_s, va_rf]
  · simp [updV, hq, xh_up_k hq]
/-- a field is written; h' is the heap behind it -/
theorem xa_put (hexec : p.tables.exec = Jvm.exec) (hb : c.code = cc) {own ref C : String} {T : u_T} {N ci index : Nat} {Ts : List Cond} (hts : ∀ w ∈ Ts, w.before args s = true) (hin : ∀ w ∈ u_ws C T N, w ∈ Ts) (hty : ∀ k, k < N → parseFieldDescriptor (T k).2.2.1 = some (xh_ty ci k)) (hnm : ∀ a, a < N → ∀ b, b < N → a ≠ b → (T a).2.1 ≠ (T b).2.1) (hown : s.vm.findClass own = some m.cls) (hK : va_K D vwCl (xh_ts cy) s) (hat : xh_at D cy ad A h H) (hS0 : va_S A H0 H locs) (hc0 : h.1[q0]? = some (0, ci)) (hc : vwCl[ci]? = some (C, T, N)) (hN : N = xh_N ci) (k : Nat) (hk : k < N) (hlink : (Cond.fieldLink own index ref (T k).2.1 (T k).2.2.1).before args s = true) (hsame : ∀ x, s.fieldFound? (T k).1 (T k).2.1 (T k).2.2.1 = some x → s.fieldFound? ref (T k).2.1 (T k).2.2.1 = some x) (hfin : (T k).2.2.2 = false ∨ (meth.name = "<init>" ∧ (T k).1 = own)) {v : Value} (hn : narrow (xh_ty ci k) v = v) (hfit : fits (xh_ty ci k) v = true) {h' : xh_H} (h1 : h'.1 = h.1) (ho : ∀ c', c' ≠ q0 → h'.2.1 c' = h.2.1 c' ∧ h'.2.2.1 c' = h.2.2.1 c' ∧ h'.2.2.2 c' = h.2.2.2 c') (hv : xh_fv ad h' q0 (xh_ty ci k) k = v) (hvo : ∀ j, j ≠ k → xh_fv ad h' q0 (xh_ty ci j) j = xh_fv ad h q0 (xh_ty ci j) j)
    (hdg : decode cc pc = .ok (.putfield index, 3)) (kk : ∀ (H1 : Heap) (locs1 : List Loc), xh_at D cy ad A h' H1 → va_S A H0 H1 locs1 → W p l e R s m args below meth c H1 locs1 cells slots Q (F0 m (pc + 3) ls rest)) : W p l e R s m args below meth c H locs cells slots Q (F0 m pc ls (v :: .ref (ad q0) :: rest)) := by
  have hap := va_apart (own := own) hts hin (xh_ty ci) hty hnm hK hc
  have he := xh_ws_at (ad := ad) (cy := cy) hc0
  obtain ⟨r, g1, cell, q1, q2, q3, q4⟩ := hat.1 q0 _ he
  have hr : r = (C, T, N) := Option.some.inj (g1.symm.trans hc)
  subst hr
  obtain ⟨hSl, hfc, kC, hkC, hkind⟩ := hK.1 ci _ hc
  obtain ⟨cf, kf, fi, f, hi, hsl⟩ := hSl k hk
  have hlay := hts _ (hin _ (u_in_lay hk))
  have hst := (u_facts hfc hkC (u_lays hts hin hk) hi).1
  have fin : ∀ (H' : Heap), H'[ad q0]? = some (cell.setSlot f.slot v) → H'.size = H.size → (∀ q, q ≠ ad q0 → H'[q]? = H[q]?) → W p l e R s m args below meth c H' (locs ++ [⟨ad q0, f.slot⟩]) cells slots Q (F0 m (pc + 3) ls rest) := by
    intro H' e1 e2 e3
    rw [hsl] at e1 ⊢
    refine kk H' _ (hat.set hc0 h1 ho ?_ e3 e2) (hS0.put e2 e3 (hat.2.1.2 q0 _ he))
    refine ⟨_, hc, ?_⟩
    have hob : t_OB (ad q0) (D.1 ci) N (D.2 ci) H' (updV (vp_V ((List.range (xh_N ci)).map (fun k => xh_fv ad h q0 (xh_ty ci k) k))) k v) := ⟨_, e1, q2, q3, t_set q4 hap hk v⟩
    refine hob.to (fun j _ => ?_)
    rw [vp_updV_set (by simp [← hN, hk]) v j]
    show vp_V _ j = vp_V ((List.range (xh_N ci)).map (fun k => xh_fv ad h' q0 (xh_ty ci k) k)) j
    rw [xh_fs_set (g := fun k => xh_fv ad h' q0 (xh_ty ci k) k) hv hvo]
  by_cases hf : (T k).2.2.2 = true
  · have hf2 : meth.name = "<init>" ∧ (T k).1 = own := by
      rcases hfin with z | z
      · rw [hf] at z; cases z
      · exact z
    unfold u_lay at hlay
    rw [if_pos hf] at hlay
    have hcf : m.cls = cf := by
      obtain ⟨_, _, c', _, _, _, -, -, hf', -, -, -, hown2, -⟩ := Cond.laysFinal_spec hlay
      have e1 : c' = cf := by have := hi.symm.trans hf'; simp at this; exact this.1.symm
      rw [hf2.2] at hown2
      rw [← e1]; exact Option.some.inj (hown.symm.trans hown2)
    have h6 := u_fits hfc hkC hkind (Or.inr hlay) hi (hty k hk) hn hfit
    exact W.putFinK hexec hb hown hlink (hsame _ hi) hst hcf hf2.1 (by rw [q2]; exact h6) q1 q3 (by rw [hsl]; exact k2_hasslot (q4 k hk)) rfl rfl hdg fin
  · unfold u_lay at hlay
    rw [if_neg hf] at hlay
    have h6 := u_store hfc hkC hkind hlay hi (hty k hk) hn hfit
    exact W.putK hexec hb (f := f) ⟨hown, hlink, ⟨_, _, _, hsame _ hi⟩, hst⟩ (by rw [q2]; exact h6) q1 q3 (by rw [hsl]; exact k2_hasslot (q4 k hk)) rfl rfl hdg fin
end XR
end
section
section XN
variable {p : Program} {l : Launch} {e : Env} {R : Room} {s : State} {m : MethodId} {args : Array Value} {below : List Frame} {meth : Method} {c : Code} {H : Heap} {locs : List Loc} {cells slots : Nat} {Q : State → Prop}
variable {cc : ByteArray} {pc : Nat} {ls : Array Slot} {rest : List Value} {D : va_G} {A : Nat → Prop} {ad : Nat → Nat} {cy : Nat → ClassId} {h : xh_H} {H0 : Heap} {q0 n : Nat}
theorem xh_dv (ci k : Nat) (hk : (∃ q, xh_ty ci k = .object q) ∨ (∃ q, xh_ty ci k = .array q) ∨ xh_ty ci k = .int ∨ xh_ty ci k = .boolean ∨ xh_ty ci k = .long) (ad : Nat → Nat) (h : xh_H) (sh : Nat × Nat) : defaultValue (xh_ty ci k) = xh_fv ad (xh_nw h sh) h.1.length (xh_ty ci k) k := by
  have hi : (xh_nw h sh).2.1 h.1.length k = 0 := by show xh_rs h.2.1 h.1.length 0 h.1.length k = 0; rw [xh_rs_s]
  have hl : (xh_nw h sh).2.2.1 h.1.length k = 0 := by show xh_rs h.2.2.1 h.1.length 0 h.1.length k = 0; rw [xh_rs_s]
  have hr : (xh_nw h sh).2.2.2 h.1.length k = none := by show xh_rs h.2.2.2 h.1.length none h.1.length k = none; rw [xh_rs_s]
  rcases hk with ⟨q, hq⟩ | ⟨q, hq⟩ | hq | hq | hq <;> rw [hq] <;> simp [xh_fv, hi, hl, hr, defaultValue, va_rf]
theorem xa_new (hexec : p.tables.exec = Jvm.exec) (hb : c.code = cc) {own C : String} {T : u_T} {N ci index : Nat} {Ts : List Cond} (hts : ∀ w ∈ Ts, w.before args s = true) (hin : ∀ w ∈ u_ws C T N, w ∈ Ts) (hty : ∀ k, k < N → parseFieldDescriptor (T k).2.2.1 = some (xh_ty ci k)) (hkd : ∀ k, k < N → (∃ q, xh_ty ci k = .object q) ∨ (∃ q, xh_ty ci k = .array q) ∨ xh_ty ci k = .int ∨ xh_ty ci k = .boolean ∨ xh_ty ci k = .long) (hown : s.vm.findClass own = some m.cls) (hcl : (Cond.classLink own index C).before args s = true) (hinst : (Cond.instantiable C N).before args s = true) (hini : (Cond.initialized C).before args s = true)
    (hK : va_K D vwCl (xh_ts cy) s) (hat : xh_at D cy ad A h H) (hS : va_S A H0 H locs) (hA : ∀ q, H0.size ≤ q → A q) (hc : vwCl[ci]? = some (C, T, N)) (hN : N = xh_N ci) (hcells : cells + 1 ≤ R.cells) (hslots : slots + N ≤ R.slots) (hdg : decode cc pc = .ok (.new index, 3))
    (kk : ∀ (H1 : Heap), xh_at D cy ad A (xh_nw h (0, ci)) H1 → va_S A H0 H1 locs → W p l e R s m args below meth c H1 locs (cells + 1) (slots + N) Q (F0 m (pc + 3) ls (.ref (ad h.1.length) :: rest))) : W p l e R s m args below meth c H locs cells slots Q (F0 m pc ls rest) := by
  have hKn := hK.1 ci _ hc
  have h0 : ad h.1.length = H.size := hat.2.2 0
  rw [h0] at kk
  refine W.newcK hexec hb hown hcl hinst hini rfl hdg hcells hslots hKn.2.1 rfl fun H1 kC hkC e1 z1 o1 => ?_
  refine kk H1 (hat.new ?_ o1 z1 (hA _ hS.1)) ⟨Nat.le_trans hS.1 (by omega), fun x h1 h2 => (o1 x (Nat.lt_of_lt_of_le h1 hS.1)).trans (hS.2.1 x h1 h2), hS.2.2⟩
  refine ⟨_, hc, (u_born (xh_ty ci) hts hin hKn hkC e1 hty).to (fun j hj => ?_)⟩
  show defaultValue (xh_ty ci j) = vp_V ((List.range (xh_N ci)).map (fun k => xh_fv ad (xh_nw h (0, ci)) h.1.length (xh_ty ci k) k)) j
  rw [xh_dv ci j (hkd j hj) ad h (0, ci)]
  have : j < xh_N ci := by rw [← hN]; exact hj
  simp [vp_V, this]
theorem xa_newa (hexec : p.tables.exec = Jvm.exec) (hb : c.code = cc) {t : ArrayType} (harr : (Cond.arrayClass (newarray.typeOf t)).before args s = true) (ht : xa_k t ≤ 5) (hK : va_K D vwCl (xh_ts cy) s) (hat : xh_at D cy ad A h H) (hS : va_S A H0 H locs) (hA : ∀ q, H0.size ≤ q → A q)
    {z : Int32} (hz : ¬ z < 0) (hz2 : z.toNatClampNeg ≤ 1000000) (hcells : cells + 1 ≤ R.cells) (hslots : slots + z.toNatClampNeg ≤ R.slots) (hdg : decode cc pc = .ok (.newarray t, 2))
    (kk : ∀ (H1 : Heap), xh_at D cy ad A (xh_nw h (xa_k t, z.toNatClampNeg)) H1 → va_S A H0 H1 locs → W p l e R s m args below meth c H1 locs (cells + 1) (slots + z.toNatClampNeg) Q (F0 m (pc + 2) ls (.ref (ad h.1.length) :: rest))) : W p l e R s m args below meth c H locs cells slots Q (F0 m pc ls (.int z :: rest)) := by
  have h0 : ad h.1.length = H.size := hat.2.2 0
  rw [h0] at kk
  refine va_newaK hexec hb harr rfl hdg rfl hz rfl (by cases t <;> simp [newarray.typeOf, componentBytes] <;> omega) hcells hslots rfl fun H1 cA e1 z1 o1 hAr hNm => ?_
  refine kk H1 (hat.new ?_ o1 z1 (hA _ hS.1)) ⟨Nat.le_trans hS.1 (by omega), fun x h1 h2 => (o1 x (Nat.lt_of_lt_of_le h1 hS.1)).trans (hS.2.1 x h1 h2), hS.2.2⟩
  cases t with
  | int =>
    have : cA = cy 1 := Option.some.inj (hNm.symm.trans (hK.2 0 _ rfl).2)
    subst this
    show H1[H.size]? = some (vp_cell _ (_, .inl (xh_rs h.2.1 h.1.length 0 h.1.length)))
    rw [xh_rs_s, e1]; rfl
  | byte =>
    have : cA = cy 2 := Option.some.inj (hNm.symm.trans (hK.2 1 _ rfl).2)
    subst this
    show H1[H.size]? = some (vp_cell _ (_, .inl (xh_rs h.2.1 h.1.length 0 h.1.length)))
    rw [xh_rs_s, e1]; rfl
  | boolean =>
    have : cA = cy 3 := Option.some.inj (hNm.symm.trans (hK.2 2 _ rfl).2)
    subst this
    show H1[H.size]? = some (vp_cell _ (_, .inl (xh_rs h.2.1 h.1.length 0 h.1.length)))
    rw [xh_rs_s, e1]; rfl
  | long =>
    have : cA = cy 4 := Option.some.inj (hNm.symm.trans (hK.2 3 _ rfl).2)
    subst this
    show H1[H.size]? = some (vp_cell _ (_, .inr (.inl (xh_rs h.2.2.1 h.1.length 0 h.1.length))))
    rw [xh_rs_s, e1]; rfl
  | char => exact absurd ht (by decide)
  | float => exact absurd ht (by decide)
  | double => exact absurd ht (by decide)
  | short => exact absurd ht (by decide)
theorem xa_newq (hexec : p.tables.exec = Jvm.exec) (hb : c.code = cc) {own : String} {index : Nat} (hown : s.vm.findClass own = some m.cls) (hclink : (Cond.classLink own index RX7).before args s = true) (hover : (Cond.arrayOver (.object RX7)).before args s = true) (hK : va_K D vwCl (xh_ts cy) s) (hat : xh_at D cy ad A h H) (hS : va_S A H0 H locs) (hA : ∀ q, H0.size ≤ q → A q)
    {z : Int32} (hz : ¬ z < 0) (hz2 : z.toNatClampNeg ≤ 1000000) (hcells : cells + 1 ≤ R.cells) (hslots : slots + z.toNatClampNeg ≤ R.slots) (hdg : decode cc pc = .ok (.anewarray index, 3))
    (kk : ∀ (H1 : Heap), xh_at D cy ad A (xh_nw h (5, z.toNatClampNeg)) H1 → va_S A H0 H1 locs → W p l e R s m args below meth c H1 locs (cells + 1) (slots + z.toNatClampNeg) Q (F0 m (pc + 3) ls (.ref (ad h.1.length) :: rest))) : W p l e R s m args below meth c H locs cells slots Q (F0 m pc ls (.int z :: rest)) := by
  have h0 : ad h.1.length = H.size := hat.2.2 0
  rw [h0] at kk
  refine W.anew hexec hb hown hclink hover rfl hdg rfl hz (by omega) hcells hslots fun cA kA comp hNm hk1 hk2 hk3 => ?_
  have hcA : cA = cy 5 := by
    obtain ⟨_, _, _, _, _, h4⟩ := (hK.2 4 _ rfl).2
    exact Option.some.inj (hNm.symm.trans h4)
  subst hcA
  have o1 : ∀ q : Nat, q < H.size → (H.push ({ cls := cy 5, slots := Array.replicate z.toNatClampNeg .null, vm := .none } : Cell))[q]? = H[q]? := fun q hq => by rw [Array.getElem?_push, if_neg (Nat.ne_of_lt hq)]
  refine kk _ (hat.new ?_ o1 (by simp) (hA _ hS.1)) ⟨Nat.le_trans hS.1 (by simp), fun x h1 h2 => (o1 x (Nat.lt_of_lt_of_le h1 hS.1)).trans (hS.2.1 x h1 h2), hS.2.2⟩
  show (H.push _)[H.size]? = some (vp_cell (cy 5) (_, .inr (.inr (.inr (.inr (fun j => (xh_rs h.2.2.2 h.1.length none h.1.length j).map ad))))))
  rw [xh_rs_s, vp_cell_q, Array.getElem?_push, if_pos rfl, arrV_new]
  rfl
end XN
end
section
section XK
def xk_all (C : String) (T : u_T) (N : Nat) (pl : List (Nat × Nat)) : Bool := (List.range N).all (fun k => match pl[k]? with
  | some q => xw_b q.1 q.2 (u_lay C T k)
  | none => false)
theorem xk_in {C : String} {T : u_T} {N : Nat} {pl : List (Nat × Nat)} (h : xk_all C T N pl = true) : ∀ w ∈ u_ws C T N, w ∈ xG := by
  intro w hw
  obtain ⟨k, hk, rfl⟩ := List.mem_map.mp hw
  have h1 := List.all_eq_true.mp h k hk
  cases hq : pl[k]? with
  | none => simp [hq] at h1
  | some q => simp [hq] at h1; exact xw_in h1
def xk_t (t : FieldType) : Bool := match t with
  | .object _ => true
  | .array _ => true
  | .int => true
  | .boolean => true
  | .long => true
  | _ => false
theorem xk_tv {t : FieldType} (h : xk_t t = true) : (∃ q, t = .object q) ∨ (∃ q, t = .array q) ∨ t = .int ∨ t = .boolean ∨ t = .long := by
  cases t <;> simp_all [xk_t]
set_option maxRecDepth 20000 in
theorem xk_0 : xk_all RX0 TX0 7 [(2, 47), (2, 49), (2, 51), (2, 53), (2, 55), (2, 57), (2, 59)] = true := by decide +kernel
theorem xk_i0 : Cond.instantiable RX0 7 ∈ xG := xw_in (K := 2) (i := 33) (by decide +kernel)
theorem xk_n0 : Cond.initialized RX0 ∈ xG := xw_in (K := 1) (i := 9) (by decide +kernel)
theorem xk_k0 : ∀ k, k < 7 → xk_t (tyX0 k) = true := by decide +kernel
set_option maxRecDepth 20000 in
theorem xk_1 : xk_all RX1 TX1 4 [(2, 76), (2, 78), (2, 80), (2, 82)] = true := by decide +kernel
theorem xk_i1 : Cond.instantiable RX1 4 ∈ xG := xw_in (K := 2) (i := 63) (by decide +kernel)
theorem xk_n1 : Cond.initialized RX1 ∈ xG := xw_in (K := 1) (i := 10) (by decide +kernel)
theorem xk_k1 : ∀ k, k < 4 → xk_t (tyX1 k) = true := by decide +kernel
set_option maxRecDepth 20000 in
theorem xk_2 : xk_all RX2 TX2 13 [(1, 188), (1, 190), (1, 192), (1, 194), (1, 196), (1, 198), (1, 200), (1, 202), (1, 204), (1, 206), (1, 208), (1, 210), (1, 212)] = true := by decide +kernel
theorem xk_i2 : Cond.instantiable RX2 13 ∈ xG := xw_in (K := 1) (i := 157) (by decide +kernel)
theorem xk_n2 : Cond.initialized RX2 ∈ xG := xw_in (K := 1) (i := 7) (by decide +kernel)
theorem xk_k2 : ∀ k, k < 13 → xk_t (tyX2 k) = true := by decide +kernel
set_option maxRecDepth 20000 in
theorem xk_3 : xk_all RX3 TX3 4 [(1, 63), (1, 65), (1, 67), (1, 69)] = true := by decide +kernel
theorem xk_i3 : Cond.instantiable RX3 4 ∈ xG := xw_in (K := 1) (i := 54) (by decide +kernel)
theorem xk_n3 : Cond.initialized RX3 ∈ xG := xw_in (K := 1) (i := 4) (by decide +kernel)
theorem xk_k3 : ∀ k, k < 4 → xk_t (tyX3 k) = true := by decide +kernel
set_option maxRecDepth 20000 in
theorem xk_4 : xk_all RX4 TX4 10 [(1, 119), (1, 121), (1, 123), (1, 125), (1, 127), (1, 129), (1, 131), (1, 133), (1, 135), (1, 137)] = true := by decide +kernel
theorem xk_i4 : Cond.instantiable RX4 10 ∈ xG := xw_in (K := 1) (i := 48) (by decide +kernel)
theorem xk_n4 : Cond.initialized RX4 ∈ xG := xw_in (K := 1) (i := 3) (by decide +kernel)
theorem xk_k4 : ∀ k, k < 10 → xk_t (tyX4 k) = true := by decide +kernel
set_option maxRecDepth 20000 in
theorem xk_5 : xk_all RX5 TX5 16 [(1, 239), (2, 1), (2, 3), (2, 5), (2, 7), (2, 9), (2, 11), (2, 13), (2, 15), (2, 17), (2, 19), (2, 21), (2, 23), (2, 25), (2, 27), (2, 29)] = true := by decide +kernel
theorem xk_i5 : Cond.instantiable RX5 16 ∈ xG := xw_in (K := 1) (i := 216) (by decide +kernel)
theorem xk_n5 : Cond.initialized RX5 ∈ xG := xw_in (K := 1) (i := 8) (by decide +kernel)
theorem xk_k5 : ∀ k, k < 16 → xk_t (tyX5 k) = true := by decide +kernel
set_option maxRecDepth 20000 in
theorem xk_6 : xk_all RX6 TX6 7 [(1, 90), (1, 92), (1, 94), (1, 96), (1, 98), (1, 100), (1, 102)] = true := by decide +kernel
theorem xk_i6 : Cond.instantiable RX6 7 ∈ xG := xw_in (K := 1) (i := 74) (by decide +kernel)
theorem xk_n6 : Cond.initialized RX6 ∈ xG := xw_in (K := 1) (i := 5) (by decide +kernel)
theorem xk_k6 : ∀ k, k < 7 → xk_t (tyX6 k) = true := by decide +kernel
set_option maxRecDepth 20000 in
theorem xk_7 : xk_all RX7 TX7 2 [(1, 149), (1, 151)] = true := by decide +kernel
theorem xk_i7 : Cond.instantiable RX7 2 ∈ xG := xw_in (K := 1) (i := 141) (by decide +kernel)
theorem xk_n7 : Cond.initialized RX7 ∈ xG := xw_in (K := 1) (i := 6) (by decide +kernel)
theorem xk_k7 : ∀ k, k < 2 → xk_t (tyX7 k) = true := by decide +kernel
set_option maxRecDepth 20000 in
theorem xk_8 : xk_all RX8 TX8 2 [(1, 41), (1, 43)] = true := by decide +kernel
theorem xk_i8 : Cond.instantiable RX8 2 ∈ xG := xw_in (K := 1) (i := 31) (by decide +kernel)
theorem xk_n8 : Cond.initialized RX8 ∈ xG := xw_in (K := 1) (i := 2) (by decide +kernel)
theorem xk_k8 : ∀ k, k < 2 → xk_t (tyX8 k) = true := by decide +kernel
set_option maxRecDepth 20000 in
theorem xk_9 : xk_all RX9 TX9 12 [(2, 106), (2, 108), (2, 110), (2, 112), (2, 114), (2, 116), (2, 118), (2, 120), (2, 122), (2, 124), (2, 126), (2, 128)] = true := by decide +kernel
theorem xk_i9 : Cond.instantiable RX9 12 ∈ xG := xw_in (K := 1) (i := 23) (by decide +kernel)
theorem xk_n9 : Cond.initialized RX9 ∈ xG := xw_in (K := 1) (i := 1) (by decide +kernel)
theorem xk_k9 : ∀ k, k < 12 → xk_t (tyX9 k) = true := by decide +kernel
set_option maxRecDepth 20000 in
theorem xk_10 : xk_all RX10 TX10 64 [(5, 150), (5, 152), (5, 154), (5, 156), (5, 158), (5, 160), (5, 162), (5, 164), (5, 166), (5, 168), (5, 170), (5, 172), (5, 174), (5, 176), (5, 178), (5, 180), (5, 182), (5, 184), (5, 186), (5, 188), (5, 190), (5, 192), (5, 194), (5, 196), (5, 198), (5, 200), (5, 202), (5, 204), (5, 206), (5, 208), (5, 210), (5, 212), (5, 214), (5, 216), (5, 218), (5, 220), (5, 222), (5, 224), (5, 226), (5, 228), (5, 230), (5, 232), (5, 234), (5, 236), (5, 238), (6, 0), (6, 2), (6, 4), (6, 6), (6, 8), (6, 10), (6, 12), (6, 14), (6, 16), (6, 18), (6, 20), (6, 22), (6, 24), (6, 26), (6, 28), (6, 30), (6, 32), (6, 34), (6, 36)] = true := by decide +kernel
theorem xk_i10 : Cond.instantiable RX10 64 ∈ xG := xw_in (K := 5) (i := 78) (by decide +kernel)
theorem xk_n10 : Cond.initialized RX10 ∈ xG := xw_in (K := 1) (i := 11) (by decide +kernel)
theorem xk_k10 : ∀ k, k < 64 → xk_t (tyX10 k) = true := by decide +kernel
theorem xk_ok : ∀ (ci : Nat) (C : String) (T : u_T) (N : Nat), vwCl[ci]? = some (C, T, N) → N = xh_N ci ∧ (∀ w ∈ u_ws C T N, w ∈ xG) ∧ (∀ k, k < N → parseFieldDescriptor (T k).2.2.1 = some (xh_ty ci k)) ∧ (∀ a, a < N → ∀ b, b < N → a ≠ b → (T a).2.1 ≠ (T b).2.1) ∧ (∀ k, k < N → (∃ q, xh_ty ci k = .object q) ∨ (∃ q, xh_ty ci k = .array q) ∨ xh_ty ci k = .int ∨ xh_ty ci k = .boolean ∨ xh_ty ci k = .long) ∧ Cond.instantiable C N ∈ xG ∧ Cond.initialized C ∈ xG := by
  intro ci C T N h
  match ci, h with
  | 0, h => cases h; exact ⟨rfl, xk_in xk_0, tyX0_ok, nmX0, fun k hk => xk_tv (xk_k0 k hk), xk_i0, xk_n0⟩
  | 1, h => cases h; exact ⟨rfl, xk_in xk_1, tyX1_ok, nmX1, fun k hk => xk_tv (xk_k1 k hk), xk_i1, xk_n1⟩
  | 2, h => cases h; exact ⟨rfl, xk_in xk_2, tyX2_ok, nmX2, fun k hk => xk_tv (xk_k2 k hk), xk_i2, xk_n2⟩
  | 3, h => cases h; exact ⟨rfl, xk_in xk_3, tyX3_ok, nmX3, fun k hk => xk_tv (xk_k3 k hk), xk_i3, xk_n3⟩
  | 4, h => cases h; exact ⟨rfl, xk_in xk_4, tyX4_ok, nmX4, fun k hk => xk_tv (xk_k4 k hk), xk_i4, xk_n4⟩
  | 5, h => cases h; exact ⟨rfl, xk_in xk_5, tyX5_ok, nmX5, fun k hk => xk_tv (xk_k5 k hk), xk_i5, xk_n5⟩
  | 6, h => cases h; exact ⟨rfl, xk_in xk_6, tyX6_ok, nmX6, fun k hk => xk_tv (xk_k6 k hk), xk_i6, xk_n6⟩
  | 7, h => cases h; exact ⟨rfl, xk_in xk_7, tyX7_ok, nmX7, fun k hk => xk_tv (xk_k7 k hk), xk_i7, xk_n7⟩
  | 8, h => cases h; exact ⟨rfl, xk_in xk_8, tyX8_ok, nmX8, fun k hk => xk_tv (xk_k8 k hk), xk_i8, xk_n8⟩
  | 9, h => cases h; exact ⟨rfl, xk_in xk_9, tyX9_ok, nmX9, fun k hk => xk_tv (xk_k9 k hk), xk_i9, xk_n9⟩
  | 10, h => cases h; exact ⟨rfl, xk_in xk_10, tyX10_ok, nmX10, fun k hk => xk_tv (xk_k10 k hk), xk_i10, xk_n10⟩
  | k + 11, h => simp [vwCl] at h
theorem xk_aI : Cond.arrayClass .int ∈ xG := xw_in (K := 1) (i := 72) (by decide +kernel)
theorem xk_aB : Cond.arrayClass .byte ∈ xG := xw_in (K := 1) (i := 46) (by decide +kernel)
theorem xk_aZ : Cond.arrayClass .boolean ∈ xG := xw_in (K := 2) (i := 85) (by decide +kernel)
theorem xk_aJ : Cond.arrayClass .long ∈ xG := xw_in (K := 1) (i := 154) (by decide +kernel)
theorem xk_ov : Cond.arrayOver (.object RX7) ∈ lw_tbl := xtb_in (K := 1) (List.mem_of_getElem? (i := 155) (by decide +kernel))
end XK
end
section
section XS
/-- the String constants: in which pool, at which place, the text, its number -/
def xo_s : List (String × Nat × String × Nat) := [(RX4, 59, "body", 0), (RX6, 75, "body", 0), (RX6, 81, "carry", 1), (RX6, 83, "and", 2), (RX6, 85, "or", 3), (RX6, 87, "of", 4), (RX4, 154, "of", 4), (RX4, 128, "and", 2), (RX4, 123, "or", 3), (RX4, 69, "carry", 1)]
def xo_f (j : Nat) : Int64 := ([1, 1, 2, 6, 24, 120, 720, 5040, 40320, 362880, 3628800, 39916800, 479001600] : List Int64).getD j 0
/-- what is not of ours and stays: String constants, the table of the factorials, the array class of Statutes -/
def xo_ok (sp : Nat → Nat) (A : Nat → Prop) (U : State) (H : Heap) : Prop :=
  (∀ (k : Nat) (q : String × Nat × String × Nat), xo_s[k]? = some q → vk_R q.1 q.2.1 q.2.2.1 (sp (q.2.2.2 + 2)) U) ∧ va_AO RX7 U ∧ va_Z RX2 "FACTORIALS" "[J" (.ref (sp 1)) A U H ∧ va_T .long (sp 1) 13 (fun j => .long (xo_f j)) A U H
theorem xo_ok.warm {sp : Nat → Nat} {A : Nat → Prop} {s U : State} {H : Heap} (hW : s.WarmedH U.vm) (h : xo_ok sp A s H) : xo_ok sp A U H := ⟨fun k q hq => vk_R.warm hW (h.1 k q hq), h.2.1.moved hW.alike, h.2.2.1.moved hW.alike, h.2.2.2.moved hW.alike⟩
theorem xo_ok.same {sp : Nat → Nat} {A : Nat → Prop} {s U : State} {H : Heap} (hv : U.vm = s.vm) (h : xo_ok sp A s H) : xo_ok sp A U H := by
  have hA : s.vm.Alike U.vm := by rw [hv]; exact Vm.Alike.refl s.vm
  exact ⟨fun k q hq => vk_R.same hv (h.1 k q hq), h.2.1.moved hA, h.2.2.1.moved hA, h.2.2.2.moved hA⟩
theorem xo_ok.kept {sp : Nat → Nat} {A : Nat → Prop} {U : State} {H H1 : Heap} (h : xo_ok sp A U H) (hq : ∀ a : Nat, a < H.size → ¬ A a → H1[a]? = H[a]?) : xo_ok sp A U H1 := ⟨h.1, h.2.1, h.2.2.1.kept hq, h.2.2.2.kept hq⟩
theorem xo_ok.narrow {sp : Nat → Nat} {A B : Nat → Prop} {U : State} {H : Heap} (h : xo_ok sp A U H) (hAB : ∀ q, B q → A q) : xo_ok sp B U H := ⟨h.1, h.2.1, h.2.2.1.narrow hAB, h.2.2.2.narrow hAB⟩
def xr_len (i : Instr) : Nat := match i with
  | .bipush _ => 2
  | .ldc _ => 2
  | .iload _ => 2
  | .lload _ => 2
  | .aload _ => 2
  | .istore _ => 2
  | .lstore _ => 2
  | .astore _ => 2
  | .newarray _ => 2
  | .sipush _ => 3
  | .ldc_w _ => 3
  | .ldc2_w _ => 3
  | .iinc _ _ => 3
  | .ifCond _ _ => 3
  | .if_icmp _ _ => 3
  | .goto _ => 3
  | .ifnull _ => 3
  | .if_acmp _ _ => 3
  | .getfield _ => 3
  | .putfield _ => 3
  | .anewarray _ => 3
  | .new _ => 3
  | .invokevirtual _ => 3
  | .invokestatic _ => 3
  | .invokespecial _ => 3
  | .getstatic _ => 3
  | _ => 1
/-- the row's word and numbers -/
def xr_w (own : String) (ini : Bool) (pc : Nat) (r : xr_R) : Bool := match r.1 with
  | .getfield idx => (match vwCl[r.2.2.1]? with
    | some (_, T, N) => Nat.ble (r.2.2.2.1 + 1) N && xw_b r.2.2.2.2.1 r.2.2.2.2.2 (.fieldLink own idx (T r.2.2.2.1).1 (T r.2.2.2.1).2.1 (T r.2.2.2.1).2.2.1)
    | none => false)
  | .putfield idx => (match vwCl[r.2.2.1]? with
    | some (_, T, N) => Nat.ble (r.2.2.2.1 + 1) N && (xw_b r.2.2.2.2.1 r.2.2.2.2.2 (.fieldLink own idx (T r.2.2.2.1).1 (T r.2.2.2.1).2.1 (T r.2.2.2.1).2.2.1) && (!(T r.2.2.2.1).2.2.2 || (ini && decide ((T r.2.2.2.1).1 = own))))
    | none => false)
  | .ldc idx => (match r.2.2.2.1 with
    | 0 => xw_b r.2.2.2.2.1 r.2.2.2.2.2 (.constant own idx (Int32.ofNat r.2.2.1))
    | k + 1 => (match xo_s[k]? with
      | some q => decide (q.1 = own) && (Nat.beq q.2.1 idx && (Nat.beq (q.2.2.2 + 2) r.2.2.1 && Nat.beq (UInt32.ofNat r.2.2.1).toNat r.2.2.1))
      | none => false))
  | .ldc_w idx => xw_b r.2.2.2.2.1 r.2.2.2.2.2 (.constant own idx (Int32.ofNat r.2.2.1))
  | .ldc2_w idx => xw_b r.2.2.2.2.1 r.2.2.2.2.2 (.constantLong own idx (Int64.ofNat r.2.2.1))
  | .new idx => (match vwCl[r.2.2.1]? with
    | some (C, _, _) => xw_b r.2.2.2.2.1 r.2.2.2.2.2 (.classLink own idx C)
    | none => false)
  | .anewarray idx => xw_b r.2.2.2.2.1 r.2.2.2.2.2 (.classLink own idx RX7)
  | .ifCond _ off => decide ((pc : Int) + off = (r.2.2.1 : Int))
  | .if_icmp _ off => decide ((pc : Int) + off = (r.2.2.1 : Int))
  | .if_acmp _ off => decide ((pc : Int) + off = (r.2.2.1 : Int))
  | .goto off => decide ((pc : Int) + off = (r.2.2.1 : Int))
  | _ => true
def xr_b (own : String) (ini : Bool) (cc : ByteArray) (pc : Nat) (r : xr_R) : Bool := decide (decode cc pc = .ok (r.1, r.2.1)) && ((match r.1 with
  | .tableswitch _ _ _ _ => true
  | i => Nat.beq r.2.1 (xr_len i)) && xr_w own ini pc r)
variable {p : Program} {l : Launch} {e : Env} {R : Room} {s : State} {m : MethodId} {args : Array Value} {below : List Frame} {meth : Method} {c : Code} {H : Heap} {locs : List Loc} {Q : State → Prop}
variable {cc : ByteArray} {ls : Array Slot} {D : va_G} {A : Nat → Prop} {ad sp : Nat → Nat} {cy : Nat → ClassId} {nL : Nat} {own : String} {ini : Bool}
/-- what a method's frame stands on -/
def xc_X (p : Program) (s : State) (m : MethodId) (args : Array Value) (meth : Method) (c : Code) (cc : ByteArray) (nL : Nat) (own : String) (ini : Bool) (D : va_G) (cy : Nat → ClassId) (A : Nat → Prop) (sp : Nat → Nat) : Prop :=
  p.tables.exec = Jvm.exec ∧ c.code = cc ∧ c.maxLocals = nL ∧ s.vm.findClass own = some m.cls ∧ (∀ w ∈ xG, w.before args s = true) ∧ va_K D vwCl (xh_ts cy) s ∧ (∀ q, s.heap.size ≤ q → A q) ∧ xo_ok sp A s s.heap ∧ (ini = true → meth.name = "<init>")
/-- where it stands: the heap, the locals -/
def xc_S (D : va_G) (cy : Nat → ClassId) (ad sp : Nat → Nat) (A : Nat → Prop) (s : State) (nL : Nat) (h : xh_H) (lv : List (Nat × Value)) (H : Heap) (locs : List Loc) (ls : Array Slot) : Prop :=
  xh_at D cy ad A h H ∧ va_S A s.heap H locs ∧ lv_has ls nL (xl_m ad sp lv)
theorem xs_ld {k i len pc : Nat} {lv : List (Nat × Value)} {st : List Value} {h : xh_H} {cs ss : Nat} {o : xs_S} (he : xe_ld k i len pc lv st h cs ss = some o) : ∃ v, xl_get lv i = some v ∧ xv_k k v = true ∧ o = (pc + len, lv, v :: st, h, cs, ss) := by
  unfold xe_ld at he
  split at he
  · rename_i v hv
    obtain ⟨h1, h2⟩ := xw_c he
    exact ⟨v, hv, h1, (Option.some.inj h2).symm⟩
  · cases he
theorem xs_st1 {k i len pc nL : Nat} {lv : List (Nat × Value)} {st : List Value} {h : xh_H} {cs ss : Nat} {o : xs_S} (he : xe_st1 k i len pc nL lv st h cs ss = some o) : ∃ v r, st = v :: r ∧ xv_k k v = true ∧ i < nL ∧ o = (pc + len, xl_1 lv i v, r, h, cs, ss) := by
  unfold xe_st1 at he
  split at he
  · rename_i v r
    obtain ⟨h1, h2⟩ := xw_c he
    obtain ⟨h1, h3⟩ := xw_bb h1
    exact ⟨v, r, rfl, h1, xw_ble h3, (Option.some.inj h2).symm⟩
  · cases he
theorem xs_st2 {i len pc nL : Nat} {lv : List (Nat × Value)} {st : List Value} {h : xh_H} {cs ss : Nat} {o : xs_S} (he : xe_st2 i len pc nL lv st h cs ss = some o) : ∃ v r, st = v :: r ∧ xv_k 1 v = true ∧ i + 1 < nL ∧ o = (pc + len, xl_2 lv i v, r, h, cs, ss) := by
  unfold xe_st2 at he
  split at he
  · rename_i v r
    obtain ⟨h1, h2⟩ := xw_c he
    obtain ⟨h1, h3⟩ := xw_bb h1
    exact ⟨v, r, rfl, h1, xw_ble h3, (Option.some.inj h2).symm⟩
  · cases he
theorem xv_k0 {v : Value} (h : xv_k 0 v = true) : ∃ x, v = .int x := by cases v <;> first | exact ⟨_, rfl⟩ | cases h
theorem xv_k1 {v : Value} (h : xv_k 1 v = true) : ∃ x, v = .long x := by cases v <;> first | exact ⟨_, rfl⟩ | cases h
theorem xv_k2 {v : Value} (ad sp : Nat → Nat) (h : xv_k 2 v = true) : (∃ x, xh_v ad sp v = .ref x) ∨ xh_v ad sp v = .null := by
  cases v <;> first | exact Or.inl ⟨_, rfl⟩ | exact Or.inr rfl | cases h
set_option maxHeartbeats 4000000 in
set_option maxRecDepth 100000 in
/-- ONE INSTRUCTION, on the machine -/
theorem xe_1_ok {r : xr_R} {pc : Nat} {lv : List (Nat × Value)} {st : List Value} {h : xh_H} {cells slots : Nat} {pc' : Nat} {lv' : List (Nat × Value)} {st' : List Value} {h' : xh_H} {cells' slots' : Nat}
    (X : xc_X p s m args meth c cc nL own ini D cy A sp) (hr : xr_b own ini cc pc r = true) (he : xe_1 nL r pc lv st h cells slots = some (pc', lv', st', h', cells', slots')) (hcap : cells' ≤ R.cells ∧ slots' ≤ R.slots) (S : xc_S D cy ad sp A s nL h lv H locs ls)
    (kk : ∀ (H1 : Heap) (locs1 : List Loc) (ls1 : Array Slot), xc_S D cy ad sp A s nL h' lv' H1 locs1 ls1 → W p l e R s m args below meth c H1 locs1 cells' slots' Q (F0 m pc' ls1 (st'.map (xh_v ad sp)))) :
    W p l e R s m args below meth c H locs cells slots Q (F0 m pc ls (st.map (xh_v ad sp))) := by
  obtain ⟨hx, hb, hml, hown, hts, hK, hA, hO, hini⟩ := X
  obtain ⟨hat, hS, hl⟩ := S
  obtain ⟨hd, hr⟩ := xw_bb hr
  replace hd := of_decide_eq_true hd
  obtain ⟨hlen, hw⟩ := xw_bb hr
  clear hr
  obtain ⟨i, len, ra, rb, rK, ri⟩ := r
  dsimp only at hd hlen
  cases i with
  | iconst n =>
    cases xw_beq hlen; cases he
    exact lv_iconst hx hb hd rfl (kk _ _ _ ⟨hat, hS, hl⟩)
  | bipush n =>
    cases xw_beq hlen; cases he
    exact lv_bipush hx hb hd rfl (kk _ _ _ ⟨hat, hS, hl⟩)
  | sipush n =>
    cases xw_beq hlen; cases he
    exact lv_sipush hx hb hd rfl (kk _ _ _ ⟨hat, hS, hl⟩)
  | lconst n =>
    cases xw_beq hlen; cases he
    exact lv_lconst hx hb hd rfl (kk _ _ _ ⟨hat, hS, hl⟩)
  | ldc idx =>
    cases xw_beq hlen
    cases rb with
    | zero =>
      cases he
      exact lv_ldc hx hb hown (hts _ (xw_in hw)) hd (kk _ _ _ ⟨hat, hS, hl⟩)
    | succ k =>
      cases he
      have hw : (match xo_s[k]? with
        | some q => decide (q.1 = own) && (Nat.beq q.2.1 idx && (Nat.beq (q.2.2.2 + 2) ra && Nat.beq (UInt32.ofNat ra).toNat ra))
        | none => false) = true := hw
      cases hq : xo_s[k]? with
      | none => rw [hq] at hw; cases hw
      | some q =>
        rw [hq] at hw
        obtain ⟨h1, hw⟩ := xw_bb hw
        obtain ⟨h2, hw⟩ := xw_bb hw
        obtain ⟨h3, h4⟩ := xw_bb hw
        have h1 := of_decide_eq_true h1
        have h2 := xw_beq h2
        have h3 := xw_beq h3
        have h4 := xw_beq h4
        have hR := hO.1 k q hq
        rw [h1, h2, h3] at hR
        refine va_ldcS hx hb hown hR hd ?_
        have := kk _ _ _ ⟨hat, hS, hl⟩
        rw [show List.map (xh_v ad sp) (Value.float (UInt32.ofNat ra) :: st) = Value.ref (sp (UInt32.ofNat ra).toNat) :: st.map (xh_v ad sp) from rfl, h4] at this
        exact this
  | ldc_w idx =>
    cases xw_beq hlen; cases he
    exact lv_ldcw hx hb hown (hts _ (xw_in hw)) hd (kk _ _ _ ⟨hat, hS, hl⟩)
  | ldc2_w idx =>
    cases xw_beq hlen; cases he
    exact lv_ldc2 hx hb hown (hts _ (xw_in hw)) hd (kk _ _ _ ⟨hat, hS, hl⟩)
  | iload_n k =>
    cases xw_beq hlen
    obtain ⟨v, h1, h2, h3⟩ := xs_ld he
    cases h3
    obtain ⟨x, rfl⟩ := xv_k0 h2
    exact lv_iload_n hx hb hd rfl (xl_at hl h1) (kk _ _ _ ⟨hat, hS, hl⟩)
  | iload k =>
    cases xw_beq hlen
    obtain ⟨v, h1, h2, h3⟩ := xs_ld he
    cases h3
    obtain ⟨x, rfl⟩ := xv_k0 h2
    exact lv_iload hx hb hd (xl_at hl h1) (kk _ _ _ ⟨hat, hS, hl⟩)
  | lload_n k =>
    cases xw_beq hlen
    obtain ⟨v, h1, h2, h3⟩ := xs_ld he
    cases h3
    obtain ⟨x, rfl⟩ := xv_k1 h2
    exact lv_lload_n hx hb hd rfl (xl_at hl h1) (kk _ _ _ ⟨hat, hS, hl⟩)
  | lload k =>
    cases xw_beq hlen
    obtain ⟨v, h1, h2, h3⟩ := xs_ld he
    cases h3
    obtain ⟨x, rfl⟩ := xv_k1 h2
    exact lv_lload hx hb hd (xl_at hl h1) (kk _ _ _ ⟨hat, hS, hl⟩)
  | aload_n k =>
    cases xw_beq hlen
    obtain ⟨v, h1, h2, h3⟩ := xs_ld he
    cases h3
    have hv := xl_at hl h1
    have K := kk _ _ _ ⟨hat, hS, hl⟩
    rw [List.map_cons] at K
    rcases xv_k2 ad sp h2 with ⟨x, hx2⟩ | hx2
    · rw [hx2] at hv K
      exact lv_aload_n hx hb hd rfl hv K
    · rw [hx2] at hv K
      exact lv_aload_nN hx hb hd rfl hv K
  | aload k =>
    cases xw_beq hlen
    obtain ⟨v, h1, h2, h3⟩ := xs_ld he
    cases h3
    have hv := xl_at hl h1
    have K := kk _ _ _ ⟨hat, hS, hl⟩
    rw [List.map_cons] at K
    rcases xv_k2 ad sp h2 with ⟨x, hx2⟩ | hx2
    · rw [hx2] at hv K
      exact lv_aload hx hb hd hv K
    · rw [hx2] at hv K
      exact lv_aloadN hx hb hd hv K
  | istore_n k =>
    cases xw_beq hlen
    obtain ⟨v, q, rfl, h2, h4, h3⟩ := xs_st1 he
    cases h3
    obtain ⟨x, rfl⟩ := xv_k0 h2
    exact lv_istore_n hx hb hd rfl hl h4 (xl_m1 ad sp lv _ (.int x)) (fun ls1 hl1 => kk _ _ _ ⟨hat, hS, hl1⟩)
  | istore k =>
    cases xw_beq hlen
    obtain ⟨v, q, rfl, h2, h4, h3⟩ := xs_st1 he
    cases h3
    obtain ⟨x, rfl⟩ := xv_k0 h2
    exact lv_istore hx hb hd hl h4 (xl_m1 ad sp lv _ (.int x)) (fun ls1 hl1 => kk _ _ _ ⟨hat, hS, hl1⟩)
  | astore_n k =>
    cases xw_beq hlen
    obtain ⟨v, q, rfl, h2, h4, h3⟩ := xs_st1 he
    cases h3
    have hm := xl_m1 ad sp lv k v
    rw [List.map_cons]
    rcases xv_k2 ad sp h2 with ⟨x, hx2⟩ | hx2
    · rw [hx2] at hm ⊢
      exact lv_astore_n hx hb hd rfl hl h4 hm (fun ls1 hl1 => kk _ _ _ ⟨hat, hS, hl1⟩)
    · rw [hx2] at hm ⊢
      exact lv_astore_nN hx hb hd rfl hl h4 hm (fun ls1 hl1 => kk _ _ _ ⟨hat, hS, hl1⟩)
  | astore k =>
    cases xw_beq hlen
    obtain ⟨v, q, rfl, h2, h4, h3⟩ := xs_st1 he
    cases h3
    have hm := xl_m1 ad sp lv k v
    rw [List.map_cons]
    rcases xv_k2 ad sp h2 with ⟨x, hx2⟩ | hx2
    · rw [hx2] at hm ⊢
      exact lv_astore hx hb hd hl h4 hm (fun ls1 hl1 => kk _ _ _ ⟨hat, hS, hl1⟩)
    · rw [hx2] at hm ⊢
      exact lv_astoreN hx hb hd hl h4 hm (fun ls1 hl1 => kk _ _ _ ⟨hat, hS, hl1⟩)
  | lstore_n k =>
    cases xw_beq hlen
    obtain ⟨v, q, rfl, h2, h4, h3⟩ := xs_st2 he
    cases h3
    obtain ⟨x, rfl⟩ := xv_k1 h2
    exact lv_lstore_n hx hb hd rfl hl h4 (xl_m2 ad sp lv _ (.long x)) (fun ls1 hl1 => kk _ _ _ ⟨hat, hS, hl1⟩)
  | lstore k =>
    cases xw_beq hlen
    obtain ⟨v, q, rfl, h2, h4, h3⟩ := xs_st2 he
    cases h3
    obtain ⟨x, rfl⟩ := xv_k1 h2
    exact lv_lstore hx hb hd hl h4 (xl_m2 ad sp lv _ (.long x)) (fun ls1 hl1 => kk _ _ _ ⟨hat, hS, hl1⟩)
  | iinc k n =>
    cases xw_beq hlen
    have he : (match xl_get lv k with
      | some (.int x) => cond (Nat.ble (k + 1) nL) (some (pc + 3, xl_1 lv k (.int (x + Int32.ofInt n)), st, h, cells, slots)) none
      | _ => none) = some (pc', lv', st', h', cells', slots') := he
    split at he
    · rename_i x hv
      obtain ⟨h1, h2⟩ := xw_c he
      cases h2
      obtain ⟨k2, hk2⟩ := xl_ix (ad := ad) (sp := sp) hv
      exact lv_iinc (k := k2) hx hb hd hl hk2 rfl (xw_ble h1) (xl_m1 ad sp lv k (.int (x + Int32.ofInt n))) (fun ls1 hl1 => kk _ _ _ ⟨hat, hS, hl1⟩)
    · cases he
  | iadd =>
    cases xw_beq hlen
    obtain ⟨y, x, q, rfl, h2⟩ := xp_ii_v he
    cases h2
    exact lv_iadd hx hb hd (kk _ _ _ ⟨hat, hS, hl⟩)
  | isub =>
    cases xw_beq hlen
    obtain ⟨y, x, q, rfl, h2⟩ := xp_ii_v he
    cases h2
    exact lv_isub hx hb hd (kk _ _ _ ⟨hat, hS, hl⟩)
  | imul =>
    cases xw_beq hlen
    obtain ⟨y, x, q, rfl, h2⟩ := xp_ii_v he
    cases h2
    exact lv_imul hx hb hd (kk _ _ _ ⟨hat, hS, hl⟩)
  | iand =>
    cases xw_beq hlen
    obtain ⟨y, x, q, rfl, h2⟩ := xp_ii_v he
    cases h2
    exact lv_iand hx hb hd (kk _ _ _ ⟨hat, hS, hl⟩)
  | ior =>
    cases xw_beq hlen
    obtain ⟨y, x, q, rfl, h2⟩ := xp_ii_v he
    cases h2
    exact lv_ior hx hb hd (kk _ _ _ ⟨hat, hS, hl⟩)
  | ixor =>
    cases xw_beq hlen
    obtain ⟨y, x, q, rfl, h2⟩ := xp_ii_v he
    cases h2
    exact lv_ixor hx hb hd (kk _ _ _ ⟨hat, hS, hl⟩)
  | ishl =>
    cases xw_beq hlen
    obtain ⟨y, x, q, rfl, h2⟩ := xp_ii_v he
    cases h2
    exact lv_ishl hx hb hd (kk _ _ _ ⟨hat, hS, hl⟩)
  | ishr =>
    cases xw_beq hlen
    obtain ⟨y, x, q, rfl, h2⟩ := xp_ii_v he
    cases h2
    exact lv_ishr hx hb hd (kk _ _ _ ⟨hat, hS, hl⟩)
  | iushr =>
    cases xw_beq hlen
    obtain ⟨y, x, q, rfl, h2⟩ := xp_ii_v he
    cases h2
    exact lv_iushr hx hb hd rfl (kk _ _ _ ⟨hat, hS, hl⟩)
  | irem =>
    cases xw_beq hlen
    obtain ⟨y, x, q, rfl, h2⟩ := xp_ii_v he
    obtain ⟨h3, h2⟩ := xw_c0 h2
    cases h2
    exact lv_irem hx hb hd (of_decide_eq_false h3) (kk _ _ _ ⟨hat, hS, hl⟩)
  | ladd =>
    cases xw_beq hlen
    obtain ⟨y, x, q, rfl, h2⟩ := xp_ll_v he
    cases h2
    exact lv_ladd hx hb hd (kk _ _ _ ⟨hat, hS, hl⟩)
  | lsub =>
    cases xw_beq hlen
    obtain ⟨y, x, q, rfl, h2⟩ := xp_ll_v he
    cases h2
    exact lv_lsub hx hb hd (kk _ _ _ ⟨hat, hS, hl⟩)
  | lmul =>
    cases xw_beq hlen
    obtain ⟨y, x, q, rfl, h2⟩ := xp_ll_v he
    cases h2
    exact lv_lmul hx hb hd (kk _ _ _ ⟨hat, hS, hl⟩)
  | land =>
    cases xw_beq hlen
    obtain ⟨y, x, q, rfl, h2⟩ := xp_ll_v he
    cases h2
    exact lv_land hx hb hd (kk _ _ _ ⟨hat, hS, hl⟩)
  | lor =>
    cases xw_beq hlen
    obtain ⟨y, x, q, rfl, h2⟩ := xp_ll_v he
    cases h2
    exact lv_lor hx hb hd (kk _ _ _ ⟨hat, hS, hl⟩)
  | ldiv =>
    cases xw_beq hlen
    obtain ⟨y, x, q, rfl, h2⟩ := xp_ll_v he
    obtain ⟨h3, h2⟩ := xw_c0 h2
    cases h2
    exact lv_ldiv hx hb hd (of_decide_eq_false h3) (kk _ _ _ ⟨hat, hS, hl⟩)
  | lrem =>
    cases xw_beq hlen
    obtain ⟨y, x, q, rfl, h2⟩ := xp_ll_v he
    obtain ⟨h3, h2⟩ := xw_c0 h2
    cases h2
    exact lv_lrem hx hb hd (of_decide_eq_false h3) (kk _ _ _ ⟨hat, hS, hl⟩)
  | lushr =>
    cases xw_beq hlen
    obtain ⟨y, x, q, rfl, h2⟩ := xp_il_v he
    cases h2
    exact lv_lushr hx hb hd rfl (kk _ _ _ ⟨hat, hS, hl⟩)
  | lshl =>
    cases xw_beq hlen
    obtain ⟨y, x, q, rfl, h2⟩ := xp_il_v he
    cases h2
    exact lv_lshl hx hb hd rfl (kk _ _ _ ⟨hat, hS, hl⟩)
  | lcmp =>
    cases xw_beq hlen
    obtain ⟨y, x, q, rfl, h2⟩ := xp_ll_v he
    cases h2
    exact W.lcmp hx hb hd (kk _ _ _ ⟨hat, hS, hl⟩)
  | i2l =>
    cases xw_beq hlen
    obtain ⟨x, q, rfl, h2⟩ := xp_i_v he
    cases h2
    exact lv_i2l hx hb hd rfl (kk _ _ _ ⟨hat, hS, hl⟩)
  | l2i =>
    cases xw_beq hlen
    obtain ⟨x, q, rfl, h2⟩ := xp_l_v he
    cases h2
    exact lv_l2i hx hb hd rfl (kk _ _ _ ⟨hat, hS, hl⟩)
  | i2b =>
    cases xw_beq hlen
    obtain ⟨x, q, rfl, h2⟩ := xp_i_v he
    cases h2
    exact lv_i2b hx hb hd rfl (kk _ _ _ ⟨hat, hS, hl⟩)
  | i2c =>
    cases xw_beq hlen
    obtain ⟨x, q, rfl, h2⟩ := xp_i_v he
    cases h2
    exact lv_i2c hx hb hd rfl (kk _ _ _ ⟨hat, hS, hl⟩)
  | dup =>
    cases xw_beq hlen
    match st, he with
    | a :: q, he =>
      obtain ⟨h1, h2⟩ := xw_c he
      cases h2
      exact lv_dup hx hb hd ((xh_v_cat ad sp a).trans (xw_beq h1)) (kk _ _ _ ⟨hat, hS, hl⟩)
  | pop =>
    cases xw_beq hlen
    match st, he with
    | a :: q, he =>
      obtain ⟨h1, h2⟩ := xw_c he
      cases h2
      exact lv_pop hx hb hd ((xh_v_cat ad sp a).trans (xw_beq h1)) (kk _ _ _ ⟨hat, hS, hl⟩)
  | dup2 =>
    cases xw_beq hlen
    match st, he with
    | a :: b :: q, he =>
      obtain ⟨h1, h2⟩ := xw_c he
      obtain ⟨h1, h3⟩ := xw_bb h1
      cases h2
      exact lv_dup2_11 hx hb hd ((xh_v_cat ad sp a).trans (xw_beq h1)) ((xh_v_cat ad sp b).trans (xw_beq h3)) (kk _ _ _ ⟨hat, hS, hl⟩)
  | dup_x2 =>
    cases xw_beq hlen
    match st, he with
    | a :: b :: d :: q, he =>
      obtain ⟨h1, h2⟩ := xw_c he
      obtain ⟨h1, h3⟩ := xw_bb h1
      obtain ⟨h3, h4⟩ := xw_bb h3
      cases h2
      exact lv_dup_x2 hx hb hd ((xh_v_cat ad sp a).trans (xw_beq h1)) ((xh_v_cat ad sp b).trans (xw_beq h3)) ((xh_v_cat ad sp d).trans (xw_beq h4)) (kk _ _ _ ⟨hat, hS, hl⟩)
  | ifCond k off =>
    cases xw_beq hlen
    obtain ⟨x, q, rfl, h2⟩ := xp_i_v he
    cases h2
    have hw := of_decide_eq_true hw
    cases k with
    | eq => exact lv_if_eq hx hb hd hw (fun z => by simpa [xe_c, z] using kk _ _ _ ⟨hat, hS, hl⟩) (fun z => by simpa [xe_c, z] using kk _ _ _ ⟨hat, hS, hl⟩)
    | ne => exact lv_if_ne hx hb hd hw (fun z => by simpa [xe_c, z] using kk _ _ _ ⟨hat, hS, hl⟩) (fun z => by simpa [xe_c, z] using kk _ _ _ ⟨hat, hS, hl⟩)
    | lt => exact lv_if_lt hx hb hd hw (fun z => by simpa [xe_c, z] using kk _ _ _ ⟨hat, hS, hl⟩) (fun z => by simpa [xe_c, z] using kk _ _ _ ⟨hat, hS, hl⟩)
    | ge => exact lv_if_ge hx hb hd hw (fun z => by simpa [xe_c, z] using kk _ _ _ ⟨hat, hS, hl⟩) (fun z => by simpa [xe_c, z] using kk _ _ _ ⟨hat, hS, hl⟩)
    | gt => exact lv_if_gt hx hb hd hw (fun z => by simpa [xe_c, z] using kk _ _ _ ⟨hat, hS, hl⟩) (fun z => by simpa [xe_c, z] using kk _ _ _ ⟨hat, hS, hl⟩)
    | le => exact lv_if_le hx hb hd hw (fun z => by simpa [xe_c, z] using kk _ _ _ ⟨hat, hS, hl⟩) (fun z => by simpa [xe_c, z] using kk _ _ _ ⟨hat, hS, hl⟩)
  | if_icmp k off =>
    cases xw_beq hlen
    obtain ⟨y, x, q, rfl, h2⟩ := xp_ii_v he
    cases h2
    have hw := of_decide_eq_true hw
    cases k with
    | eq => exact lv_icmp_eq hx hb hd hw (fun z => by simpa [xe_c, z] using kk _ _ _ ⟨hat, hS, hl⟩) (fun z => by simpa [xe_c, z] using kk _ _ _ ⟨hat, hS, hl⟩)
    | ne => exact lv_icmp_ne hx hb hd hw (fun z => by simpa [xe_c, z] using kk _ _ _ ⟨hat, hS, hl⟩) (fun z => by simpa [xe_c, z] using kk _ _ _ ⟨hat, hS, hl⟩)
    | lt => exact lv_icmp_lt hx hb hd hw (fun z => by simpa [xe_c, z] using kk _ _ _ ⟨hat, hS, hl⟩) (fun z => by simpa [xe_c, z] using kk _ _ _ ⟨hat, hS, hl⟩)
    | ge => exact lv_icmp_ge hx hb hd hw (fun z => by simpa [xe_c, z] using kk _ _ _ ⟨hat, hS, hl⟩) (fun z => by simpa [xe_c, z] using kk _ _ _ ⟨hat, hS, hl⟩)
    | gt => exact lv_icmp_gt hx hb hd hw (fun z => by simpa [xe_c, z] using kk _ _ _ ⟨hat, hS, hl⟩) (fun z => by simpa [xe_c, z] using kk _ _ _ ⟨hat, hS, hl⟩)
    | le => exact lv_icmp_le hx hb hd hw (fun z => by simpa [xe_c, z] using kk _ _ _ ⟨hat, hS, hl⟩) (fun z => by simpa [xe_c, z] using kk _ _ _ ⟨hat, hS, hl⟩)
  | goto off =>
    cases xw_beq hlen; cases he
    exact lv_goto hx hb hd (of_decide_eq_true hw) (kk _ _ _ ⟨hat, hS, hl⟩)
  | ifnull off =>
    cases xw_beq hlen
    match st, he with
    | .ref _ :: q, he =>
      cases he
      exact lv_ifnull hx hb hd (kk _ _ _ ⟨hat, hS, hl⟩)
  | if_acmp k off =>
    cases xw_beq hlen
    cases k with
    | eq => cases he
    | ne =>
      match st, he with
      | .ref y :: .ref x :: q, he =>
        obtain ⟨h1, h2⟩ := xw_c he
        obtain ⟨h1, h3⟩ := xw_bb h1
        cases h2
        have hw := of_decide_eq_true hw
        have lx : x < h.1.length := xw_ble h1
        have ly : y < h.1.length := xw_ble h3
        have inj : ad x = ad y → x = y := by
          intro z
          obtain ⟨sx, hsx⟩ : ∃ sx, h.1[x]? = some sx := ⟨_, List.getElem?_eq_getElem lx⟩
          obtain ⟨sy, hsy⟩ : ∃ sy, h.1[y]? = some sy := ⟨_, List.getElem?_eq_getElem ly⟩
          exact hat.2.1.1 x y _ _ (xh_ws_at hsx) (xh_ws_at hsy) z
        refine lv_acmp_ne (rx := some (ad x)) (ry := some (ad y)) hx hb hd hw (fun z => ?_) (fun z => ?_)
        · have hne : x ≠ y := fun w => z (by rw [w])
          have hb2 : Nat.beq x y = false := by cases hq : Nat.beq x y with | false => rfl | true => exact absurd (Nat.eq_of_beq_eq_true hq) hne
          simpa [hb2] using kk _ _ _ ⟨hat, hS, hl⟩
        · have heq : x = y := inj (Option.some.inj z)
          have hb2 : Nat.beq x y = true := by rw [heq]; exact Nat.beq_refl y
          simpa [hb2] using kk _ _ _ ⟨hat, hS, hl⟩
  | tableswitch dflt lo hi offs =>
    obtain ⟨x, q, rfl, h2⟩ := xp_i_v he
    by_cases hin : x.toInt < lo ∨ hi < x.toInt
    · have hbool : (decide (x.toInt < lo) || decide (hi < x.toInt)) = true := by simpa using hin
      rw [hbool] at h2
      obtain ⟨h3, h2⟩ := xw_c h2
      cases h2
      have h3 := of_decide_eq_true h3
      exact lv_tableOut hx hb hd hin (by omega) (kk _ _ _ ⟨hat, hS, hl⟩)
    · have hbool : (decide (x.toInt < lo) || decide (hi < x.toInt)) = false := by simpa using hin
      rw [hbool] at h2
      cases ho : offs[(x.toInt - lo).toNat]? with
      | none => rw [ho] at h2; cases h2
      | some off =>
        rw [ho] at h2
        obtain ⟨h3, h2⟩ := xw_c h2
        cases h2
        have h3 := of_decide_eq_true h3
        exact lv_tableIn hx hb hd (fun z => hin (Or.inl z)) (fun z => hin (Or.inr z)) ho (by omega) (kk _ _ _ ⟨hat, hS, hl⟩)
  | getfield idx =>
    cases xw_beq hlen
    obtain ⟨a, q, rfl, h2⟩ := xp_r_v he
    dsimp only at h2
    split at h2
    · rename_i ci hc
      obtain ⟨h3, h2a⟩ := xw_c h2
      clear h2
      replace h3 := xw_beq h3
      subst h3
      cases h2a
      have hw : (match vwCl[ci]? with
        | some (_, T, N) => Nat.ble (rb + 1) N && xw_b rK ri (.fieldLink own idx (T rb).1 (T rb).2.1 (T rb).2.2.1)
        | none => false) = true := hw
      cases hv : vwCl[ci]? with
      | none => rw [hv] at hw; cases hw
      | some t =>
        obtain ⟨C, T, N⟩ := t
        rw [hv] at hw
        obtain ⟨h4, h5⟩ := xw_bb hw
        obtain ⟨k1, k2, -⟩ := xk_ok ci C T N hv
        have h4 : rb < N := xw_ble h4
        refine va_get (D := D) (v := xh_fv ad h a (xh_ty ci rb) rb) hx hb hts k2 hown hK hat.1 a (xh_ws_at hc) hv rb h4 (hts _ (xw_in h5)) (fun _ h9 => h9) (xh_fs_get (by rw [← k1]; exact h4)) hd ?_
        have K := kk _ _ _ ⟨hat, hS, hl⟩
        rw [List.map_cons, xh_v_get] at K
        exact K
    · cases h2
  | putfield idx =>
    cases xw_beq hlen
    obtain ⟨v, a, q, rfl, h2⟩ := xp_vr_v he
    dsimp only at h2
    split at h2
    · rename_i ci hc
      obtain ⟨h3, h2a⟩ := xw_c h2
      clear h2
      replace h3 := xw_beq h3
      subst h3
      have hw : (match vwCl[ci]? with
        | some (_, T, N) => Nat.ble (rb + 1) N && (xw_b rK ri (.fieldLink own idx (T rb).1 (T rb).2.1 (T rb).2.2.1) && (!(T rb).2.2.2 || (ini && decide ((T rb).1 = own))))
        | none => false) = true := hw
      cases hv : vwCl[ci]? with
      | none => rw [hv] at hw; cases hw
      | some t =>
        obtain ⟨C, T, N⟩ := t
        rw [hv] at hw
        obtain ⟨h4, h5⟩ := xw_bb hw
        obtain ⟨h5, h6⟩ := xw_bb h5
        obtain ⟨k1, k2, k3, k4, -⟩ := xk_ok ci C T N hv
        have h4 : rb < N := xw_ble h4
        have hfin : (T rb).2.2.2 = false ∨ (meth.name = "<init>" ∧ (T rb).1 = own) := by
          cases hf : (T rb).2.2.2 with
          | false => exact Or.inl rfl
          | true =>
            rw [hf] at h6
            obtain ⟨h7, h8⟩ := xw_bb (show (ini && decide ((T rb).1 = own)) = true from by simpa using h6)
            exact Or.inr ⟨hini h7, of_decide_eq_true h8⟩
        obtain ⟨h1, hp, h2⟩ := Option.map_eq_some_iff.mp h2a
        cases h2
        have P := @xa_put p l e R s m args below meth c H locs cells slots Q cc pc ls (List.map (xh_v ad sp) st') D A ad cy h s.heap a hx hb own (T rb).1 C T N ci idx xG hts k2 k3 k4 hown hK hat hS hc hv k1 rb h4 (hts _ (xw_in h5)) (fun _ h9 => h9) hfin
        cases hty : xh_ty ci rb with
        | int =>
          rw [hty] at P hp
          match v, hp with
          | .int x, hp =>
            cases hp
            exact P (v := .int x) rfl rfl (h' := xh_ui h a rb x) rfl (fun c' hc' => ⟨xh_up_o hc', rfl, rfl⟩) (by show Value.int (xh_up _ _ _ _ _ _) = _; rw [xh_up_s]) (fun j hj => by cases xh_ty ci j <;> simp [xh_fv, xh_ui, xh_up_k hj]) hd (fun H1 locs1 a1 a2 => kk _ _ _ ⟨a1, a2, hl⟩)
        | boolean =>
          rw [hty] at P hp
          match v, hp with
          | .int x, hp =>
            obtain ⟨h7, hp⟩ := xw_c hp
            cases hp
            have h7 : x = 0 ∨ x = 1 := by simpa using h7
            refine P (v := .int x) ?_ ?_ (h' := xh_ui h a rb x) rfl (fun c' hc' => ⟨xh_up_o hc', rfl, rfl⟩) (by show Value.int (xh_up _ _ _ _ _ _) = _; rw [xh_up_s]) (fun j hj => by cases xh_ty ci j <;> simp [xh_fv, xh_ui, xh_up_k hj]) hd (fun H1 locs1 a1 a2 => kk _ _ _ ⟨a1, a2, hl⟩)
            · rcases h7 with rfl | rfl <;> rfl
            · rcases h7 with rfl | rfl <;> rfl
        | long =>
          rw [hty] at P hp
          match v, hp with
          | .long x, hp =>
            cases hp
            exact P (v := .long x) rfl rfl (h' := xh_ul h a rb x) rfl (fun c' hc' => ⟨rfl, xh_up_o hc', rfl⟩) (by show Value.long (xh_up _ _ _ _ _ _) = _; rw [xh_up_s]) (fun j hj => by cases xh_ty ci j <;> simp [xh_fv, xh_ul, xh_up_k hj]) hd (fun H1 locs1 a1 a2 => kk _ _ _ ⟨a1, a2, hl⟩)
        | object o =>
          rw [hty] at P hp
          match v, hp with
          | .ref x, hp =>
            cases hp
            exact P (v := .ref (ad x)) rfl rfl (h' := xh_ur h a rb (some x)) rfl (fun c' hc' => ⟨rfl, rfl, xh_up_o hc'⟩) (by show va_rf (Option.map ad (xh_up _ _ _ _ _ _)) = _; rw [xh_up_s]; rfl) (fun j hj => by cases xh_ty ci j <;> simp [xh_fv, xh_ur, xh_up_k hj]) hd (fun H1 locs1 a1 a2 => kk _ _ _ ⟨a1, a2, hl⟩)
        | array o =>
          rw [hty] at P hp
          match v, hp with
          | .ref x, hp =>
            cases hp
            exact P (v := .ref (ad x)) rfl rfl (h' := xh_ur h a rb (some x)) rfl (fun c' hc' => ⟨rfl, rfl, xh_up_o hc'⟩) (by show va_rf (Option.map ad (xh_up _ _ _ _ _ _)) = _; rw [xh_up_s]; rfl) (fun j hj => by cases xh_ty ci j <;> simp [xh_fv, xh_ur, xh_up_k hj]) hd (fun H1 locs1 a1 a2 => kk _ _ _ ⟨a1, a2, hl⟩)
        | byte => rw [hty] at hp; cases hp
        | char => rw [hty] at hp; cases hp
        | double => rw [hty] at hp; cases hp
        | float => rw [hty] at hp; cases hp
        | short => rw [hty] at hp; cases hp
    · cases h2
  | iaload =>
    cases xw_beq hlen
    obtain ⟨j, a, q, rfl, h2⟩ := xp_ir_v he
    split at h2
    · rename_i n hc
      obtain ⟨h3, h2⟩ := xw_c h2
      cases h2
      exact va_iald hx hb hK hat.1 a 0 (xh_ws_at hc) rfl (xe_in_v h3) hd (kk _ _ _ ⟨hat, hS, hl⟩)
    · cases h2
  | baload =>
    cases xw_beq hlen
    obtain ⟨j, a, q, rfl, h2⟩ := xp_ir_v he
    split at h2
    · rename_i n hc
      obtain ⟨h3, h2⟩ := xw_c h2
      cases h2
      exact va_bald hx hb hK hat.1 a 1 (xh_ws_at hc) rfl (xe_in_v h3) hd (kk _ _ _ ⟨hat, hS, hl⟩)
    · rename_i n hc
      obtain ⟨h3, h2⟩ := xw_c h2
      cases h2
      exact va_zald hx hb hK hat.1 a 2 (xh_ws_at hc) rfl (xe_in_v h3) hd (kk _ _ _ ⟨hat, hS, hl⟩)
    · cases h2
  | laload =>
    cases xw_beq hlen
    obtain ⟨j, a, q, rfl, h2⟩ := xp_ir_v he
    split at h2
    · rename_i n hc
      obtain ⟨h3, h2⟩ := xw_c h2
      cases h2
      exact va_lald hx hb hK hat.1 a 3 (xh_ws_at hc) rfl (xe_in_v h3) hd (kk _ _ _ ⟨hat, hS, hl⟩)
    · cases h2
  | aaload =>
    cases xw_beq hlen
    obtain ⟨j, a, q, rfl, h2⟩ := xp_ir_v he
    split at h2
    · rename_i n hc
      obtain ⟨h3, h2⟩ := xw_c h2
      cases h2
      refine va_aldq hx hb hK hat.1 a 4 (xh_ws_at hc) rfl (xe_in_v h3) hd ?_
      have K := kk _ _ _ ⟨hat, hS, hl⟩
      rw [List.map_cons, xh_v_rf] at K
      exact K
    · cases h2
  | iastore =>
    cases xw_beq hlen
    obtain ⟨x, j, a, q, rfl, h2⟩ := xp_iir_v he
    split at h2
    · rename_i n hc
      obtain ⟨h3, h2⟩ := xw_c h2
      cases h2
      exact xa_iast hx hb hK hat hS hc (xe_in_v h3) hd (fun H1 locs1 a1 a2 => kk _ _ _ ⟨a1, a2, hl⟩)
    · cases h2
  | bastore =>
    cases xw_beq hlen
    obtain ⟨x, j, a, q, rfl, h2⟩ := xp_iir_v he
    split at h2
    · rename_i n hc
      obtain ⟨h3, h2⟩ := xw_c h2
      cases h2
      exact xa_bast hx hb hK hat hS hc (xe_in_v h3) hd (fun H1 locs1 a1 a2 => kk _ _ _ ⟨a1, a2, hl⟩)
    · rename_i n hc
      obtain ⟨h3, h2⟩ := xw_c h2
      cases h2
      exact xa_zast hx hb hK hat hS hc (xe_in_v h3) hd (fun H1 locs1 a1 a2 => kk _ _ _ ⟨a1, a2, hl⟩)
    · cases h2
  | lastore =>
    cases xw_beq hlen
    obtain ⟨x, j, a, q, rfl, h2⟩ := xp_lir_v he
    split at h2
    · rename_i n hc
      obtain ⟨h3, h2⟩ := xw_c h2
      cases h2
      exact xa_last hx hb hK hat hS hc (xe_in_v h3) hd (fun H1 locs1 a1 a2 => kk _ _ _ ⟨a1, a2, hl⟩)
    · cases h2
  | aastore =>
    cases xw_beq hlen
    obtain ⟨x, j, a, q, rfl, h2⟩ := xp_rir_v he
    split at h2
    · rename_i n hc
      split at h2
      · rename_i hv
        obtain ⟨h3, h2⟩ := xw_c h2
        cases h2
        exact xa_astq hx hb hK hat hS hc hv (xe_in_v h3) hd (fun H1 locs1 a1 a2 => kk _ _ _ ⟨a1, a2, hl⟩)
      · cases h2
    · cases h2
  | arraylength =>
    cases xw_beq hlen
    obtain ⟨a, q, rfl, h2⟩ := xp_r_v he
    split at h2
    · rename_i k n hc
      obtain ⟨h3, h2⟩ := xw_c h2
      cases h2
      have h3 : k + 1 ≤ 5 := xw_ble h3
      have hws := xh_ws_at (ad := ad) (cy := cy) hc
      match k, h3, hws with
      | 0, _, hws => exact va_alen hx hb hK hat.1 a 0 hws rfl rfl hd (kk _ _ _ ⟨hat, hS, hl⟩)
      | 1, _, hws => exact va_alen hx hb hK hat.1 a 1 hws rfl rfl hd (kk _ _ _ ⟨hat, hS, hl⟩)
      | 2, _, hws => exact va_alen hx hb hK hat.1 a 2 hws rfl rfl hd (kk _ _ _ ⟨hat, hS, hl⟩)
      | 3, _, hws => exact va_alen hx hb hK hat.1 a 3 hws rfl rfl hd (kk _ _ _ ⟨hat, hS, hl⟩)
      | 4, _, hws => exact va_alen hx hb hK hat.1 a 4 hws rfl rfl hd (kk _ _ _ ⟨hat, hS, hl⟩)
      | k + 5, h3, _ => omega
    · cases h2
  | newarray t =>
    cases xw_beq hlen
    obtain ⟨z, q, rfl, h2⟩ := xp_i_v he
    obtain ⟨h3, h2⟩ := xw_c h2
    cases h2
    obtain ⟨h3, h4⟩ := xw_bb h3
    obtain ⟨h4, h5⟩ := xw_bb h4
    have h4 : xa_k t ≤ 5 := xw_ble h4
    have h5 := xw_ble h5
    have h3 : ¬ z < 0 := by simpa using h3
    have harr : (Cond.arrayClass (newarray.typeOf t)).before args s = true := by
      cases t with
      | int => exact hts _ xk_aI
      | byte => exact hts _ xk_aB
      | boolean => exact hts _ xk_aZ
      | long => exact hts _ xk_aJ
      | char => exact absurd h4 (by decide)
      | float => exact absurd h4 (by decide)
      | double => exact absurd h4 (by decide)
      | short => exact absurd h4 (by decide)
    exact xa_newa hx hb harr h4 hK hat hS hA h3 h5 hcap.1 hcap.2 hd (fun H1 a1 a2 => kk _ _ _ ⟨a1, a2, hl⟩)
  | anewarray idx =>
    cases xw_beq hlen
    obtain ⟨z, q, rfl, h2⟩ := xp_i_v he
    obtain ⟨h3, h2⟩ := xw_c h2
    cases h2
    obtain ⟨h3, h5⟩ := xw_bb h3
    have h5 := xw_ble h5
    have h3 : ¬ z < 0 := by simpa using h3
    exact xa_newq hx hb hown (hts _ (xw_in hw)) (va_AO.use hO.2.1) hK hat hS hA h3 h5 hcap.1 hcap.2 hd (fun H1 a1 a2 => kk _ _ _ ⟨a1, a2, hl⟩)
  | new idx =>
    cases xw_beq hlen
    cases he
    have hw : (match vwCl[ra]? with
      | some (C, _, _) => xw_b rK ri (.classLink own idx C)
      | none => false) = true := hw
    cases hv : vwCl[ra]? with
    | none => rw [hv] at hw; cases hw
    | some t =>
      obtain ⟨C, T, N⟩ := t
      rw [hv] at hw
      obtain ⟨k1, k2, k3, k4, k5, k6, k7⟩ := xk_ok ra C T N hv
      dsimp only at hcap
      rw [← k1] at hcap
      refine xa_new hx hb hts k2 k3 k5 hown (hts _ (xw_in hw)) (hts _ k6) (hts _ k7) hK hat hS hA hv k1 hcap.1 hcap.2 hd (fun H1 a1 a2 => ?_)
      have K := kk _ _ _ ⟨a1, a2, hl⟩
      dsimp only at K
      rw [← k1] at K
      exact K
  | _ => cases he
end XS
end
section
section XX
/-- a method: its owner's name, its name, its code, how many locals, what it returns, its kind (0 virtual, 1 static, 2 a constructor), how many arguments, its owner's row in vwCl -/
abbrev xm_M : Type := String × MethodName × ByteArray × Nat × Option FieldType × Nat × Nat × Nat
def xm_cat (vs : List Value) : Nat := (vs.map fun v => v.category).sum
/-- what is not of ours is read: the table of the factorials (1), the law's script (0) -/
def xe_o (scr : Option (Nat × (Nat → Int32))) (r : xr_R) (pc : Nat) (lv : List (Nat × Value)) (st : List Value) (h : xh_H) (c s : Nat) : Option xs_S := match r.1 with
  | .getstatic _ => some (pc + 3, lv, .float 1 :: st, h, c, s)
  | .laload => (match st with
    | .int i :: .float u :: q => cond (Nat.beq u.toNat 1 && xe_in i 13) (some (pc + 1, lv, .long (xo_f i.toNatClampNeg) :: q, h, c, s)) none
    | _ => none)
  | .iaload => (match st with
    | .int i :: .float u :: q => (match scr with
      | some (L, xs) => cond (Nat.beq u.toNat 0 && xe_in i L) (some (pc + 1, lv, .int (xs i.toNatClampNeg) :: q, h, c, s)) none
      | none => none)
    | _ => none)
  | .arraylength => (match st with
    | .float u :: q => (match scr with
      | some (L, _) => cond (Nat.beq u.toNat 0) (some (pc + 1, lv, .int (Int32.ofNat L) :: q, h, c, s)) none
      | none => none)
    | _ => none)
  | _ => none
/-- what a method returns -/
def xe_rv (i : Instr) (ret : Option FieldType) (st : List Value) : Option (Option Value) := match i with
  | .ireturn => (match st with
    | [.int x] => (match ret with
      | some .int => some (some (.int x))
      | some .boolean => cond (decide (x = 0) || decide (x = 1)) (some (some (.int x))) none
      | _ => none)
    | _ => none)
  | .lreturn => (match st with
    | [.long x] => (match ret with
      | some .long => some (some (.long x))
      | _ => none)
    | _ => none)
  | .areturn => (match st with
    | [.ref a] => (match ret with
      | some (.object _) => some (some (.ref a))
      | _ => none)
    | _ => none)
  | .return_ => (match st with
    | [] => (match ret with
      | none => some none
      | _ => none)
    | _ => none)
  | _ => none
def xe_isr (i : Instr) : Bool := match i with
  | .ireturn => true
  | .lreturn => true
  | .areturn => true
  | .return_ => true
  | _ => false
/-- a call's arguments, and what lies under them: behind each other the method, its arguments (the receiver first), the rest of the stack -/
def xe_cl (M : Nat → Option xm_M) (r : xr_R) (st : List Value) (h : xh_H) : Option (xm_M × List Value × List Value) := match M r.2.2.1 with
  | none => none
  | some mi => (match r.1 with
    | .invokestatic _ => cond (Nat.beq mi.2.2.2.2.2.1 1 && (Nat.beq (st.take mi.2.2.2.2.2.2.1).length mi.2.2.2.2.2.2.1 && (Nat.ble (xm_cat (st.drop mi.2.2.2.2.2.2.1)) 8 && Nat.ble (xm_cat (st.take mi.2.2.2.2.2.2.1).reverse) mi.2.2.2.1))) (some (mi, (st.take mi.2.2.2.2.2.2.1).reverse, st.drop mi.2.2.2.2.2.2.1)) none
    | .invokevirtual _ => (match st.drop mi.2.2.2.2.2.2.1 with
      | .ref b :: q => (match h.1[b]? with
        | some (0, ci) => cond (Nat.beq ci mi.2.2.2.2.2.2.2 && (Nat.beq mi.2.2.2.2.2.1 0 && (Nat.beq (st.take mi.2.2.2.2.2.2.1).length mi.2.2.2.2.2.2.1 && (Nat.ble (xm_cat q) 8 && Nat.ble (xm_cat (.ref b :: (st.take mi.2.2.2.2.2.2.1).reverse)) mi.2.2.2.1)))) (some (mi, .ref b :: (st.take mi.2.2.2.2.2.2.1).reverse, q)) none
        | _ => none)
      | _ => none)
    | .invokespecial _ => (match st.drop mi.2.2.2.2.2.2.1 with
      | .ref b :: q => cond (Nat.beq r.2.2.2.1 0 && (Nat.beq mi.2.2.2.2.2.1 2 && (Nat.beq (st.take mi.2.2.2.2.2.2.1).length mi.2.2.2.2.2.2.1 && (Nat.ble (xm_cat q) 8 && Nat.ble (xm_cat (.ref b :: (st.take mi.2.2.2.2.2.2.1).reverse)) mi.2.2.2.1)))) (some (mi, .ref b :: (st.take mi.2.2.2.2.2.2.1).reverse, q)) none
      | _ => none)
    | _ => none)
def xe_oi (r : xr_R) (pc d : Nat) (lv : List (Nat × Value)) (st : List Value) (h : xh_H) (c s : Nat) : Option xs_S := match r.1 with
  | .invokespecial _ => (match r.2.2.2.1 with
    | 1 => (match d with
      | 0 => none
      | _ + 1 => (match st with
        | .ref _ :: q => cond (Nat.ble (xm_cat q) 8) (some (pc + 3, lv, q, h, c, s)) none
        | _ => none))
    | _ => none)
  | _ => none
/-- one step that is no return and no call of ours -/
def xe_2 (scr : Option (Nat × (Nat → Int32))) (nL : Nat) (r : xr_R) (d pc : Nat) (lv : List (Nat × Value)) (st : List Value) (h : xh_H) (c s : Nat) : Option xs_S := match xe_1 nL r pc lv st h c s with
  | some o => some o
  | none => (match xe_o scr r pc lv st h c s with
    | some o => some o
    | none => xe_oi r pc d lv st h c s)
/-- A METHOD, RUN: what it returns, the heap behind it, the cells and slots made -/
def xe_x (M : Nat → Option xm_M) (Cd : Nat → Nat → Option xr_R) (scr : Option (Nat × (Nat → Int32))) : Nat → Nat → Nat → xm_M → xs_S → Option (Option Value × xh_H × Nat × Nat)
  | 0, _, _, _, _ => none
  | f + 1, d, mid, mi, (pc, lv, st, h, c, s) => (match Cd mid pc with
    | none => none
    | some r => cond (xe_isr r.1) ((xe_rv r.1 mi.2.2.2.2.1 st).map (fun v => (v, h, c, s)))
      (match xe_2 scr mi.2.2.2.1 r d pc lv st h c s with
      | some o => xe_x M Cd scr f d mid mi o
      | none => (match d with
        | 0 => none
        | d' + 1 => (match xe_cl M r st h with
          | none => none
          | some (mj, As, q) => (match xe_x M Cd none f d' r.2.2.1 mj (0, lv_args 0 As, [], h, 0, 0) with
            | none => none
            | some (v, h', mc, ms) => xe_x M Cd scr f (d' + 1) mid mi (pc + 3, lv, v.toList ++ q, h', c + mc, s + ms))))))
end XX
end
section
section XM
set_option maxHeartbeats 4000000 in
set_option maxRecDepth 100000 in
theorem xe_1_mono {nL : Nat} {r : xr_R} {pc : Nat} {lv : List (Nat × Value)} {st : List Value} {h : xh_H} {c s : Nat} {pc' : Nat} {lv' : List (Nat × Value)} {st' : List Value} {h' : xh_H} {c' s' : Nat} (he : xe_1 nL r pc lv st h c s = some (pc', lv', st', h', c', s')) : c ≤ c' ∧ s ≤ s' := by
  obtain ⟨i, len, ra, rb, rK, ri⟩ := r
  cases i with
  | iconst _ => cases he; exact ⟨Nat.le_refl _, Nat.le_refl _⟩
  | bipush _ => cases he; exact ⟨Nat.le_refl _, Nat.le_refl _⟩
  | sipush _ => cases he; exact ⟨Nat.le_refl _, Nat.le_refl _⟩
  | lconst _ => cases he; exact ⟨Nat.le_refl _, Nat.le_refl _⟩
  | ldc_w _ => cases he; exact ⟨Nat.le_refl _, Nat.le_refl _⟩
  | ldc2_w _ => cases he; exact ⟨Nat.le_refl _, Nat.le_refl _⟩
  | goto _ => cases he; exact ⟨Nat.le_refl _, Nat.le_refl _⟩
  | ldc _ => cases rb <;> (cases he; exact ⟨Nat.le_refl _, Nat.le_refl _⟩)
  | iload_n _ => obtain ⟨v, _, _, h3⟩ := xs_ld he; cases h3; exact ⟨Nat.le_refl _, Nat.le_refl _⟩
  | iload _ => obtain ⟨v, _, _, h3⟩ := xs_ld he; cases h3; exact ⟨Nat.le_refl _, Nat.le_refl _⟩
  | lload_n _ => obtain ⟨v, _, _, h3⟩ := xs_ld he; cases h3; exact ⟨Nat.le_refl _, Nat.le_refl _⟩
  | lload _ => obtain ⟨v, _, _, h3⟩ := xs_ld he; cases h3; exact ⟨Nat.le_refl _, Nat.le_refl _⟩
  | aload_n _ => obtain ⟨v, _, _, h3⟩ := xs_ld he; cases h3; exact ⟨Nat.le_refl _, Nat.le_refl _⟩
  | aload _ => obtain ⟨v, _, _, h3⟩ := xs_ld he; cases h3; exact ⟨Nat.le_refl _, Nat.le_refl _⟩
  | istore_n _ => obtain ⟨v, q, _, _, _, h3⟩ := xs_st1 he; cases h3; exact ⟨Nat.le_refl _, Nat.le_refl _⟩
  | istore _ => obtain ⟨v, q, _, _, _, h3⟩ := xs_st1 he; cases h3; exact ⟨Nat.le_refl _, Nat.le_refl _⟩
  | astore_n _ => obtain ⟨v, q, _, _, _, h3⟩ := xs_st1 he; cases h3; exact ⟨Nat.le_refl _, Nat.le_refl _⟩
  | astore _ => obtain ⟨v, q, _, _, _, h3⟩ := xs_st1 he; cases h3; exact ⟨Nat.le_refl _, Nat.le_refl _⟩
  | lstore_n _ => obtain ⟨v, q, _, _, _, h3⟩ := xs_st2 he; cases h3; exact ⟨Nat.le_refl _, Nat.le_refl _⟩
  | lstore _ => obtain ⟨v, q, _, _, _, h3⟩ := xs_st2 he; cases h3; exact ⟨Nat.le_refl _, Nat.le_refl _⟩
  | iadd => obtain ⟨y, x, q, _, h2⟩ := xp_ii_v he; cases h2; exact ⟨Nat.le_refl _, Nat.le_refl _⟩
  | isub => obtain ⟨y, x, q, _, h2⟩ := xp_ii_v he; cases h2; exact ⟨Nat.le_refl _, Nat.le_refl _⟩
  | imul => obtain ⟨y, x, q, _, h2⟩ := xp_ii_v he; cases h2; exact ⟨Nat.le_refl _, Nat.le_refl _⟩
  | iand => obtain ⟨y, x, q, _, h2⟩ := xp_ii_v he; cases h2; exact ⟨Nat.le_refl _, Nat.le_refl _⟩
  | ior => obtain ⟨y, x, q, _, h2⟩ := xp_ii_v he; cases h2; exact ⟨Nat.le_refl _, Nat.le_refl _⟩
  | ixor => obtain ⟨y, x, q, _, h2⟩ := xp_ii_v he; cases h2; exact ⟨Nat.le_refl _, Nat.le_refl _⟩
  | ishl => obtain ⟨y, x, q, _, h2⟩ := xp_ii_v he; cases h2; exact ⟨Nat.le_refl _, Nat.le_refl _⟩
  | ishr => obtain ⟨y, x, q, _, h2⟩ := xp_ii_v he; cases h2; exact ⟨Nat.le_refl _, Nat.le_refl _⟩
  | iushr => obtain ⟨y, x, q, _, h2⟩ := xp_ii_v he; cases h2; exact ⟨Nat.le_refl _, Nat.le_refl _⟩
  | if_icmp _ _ => obtain ⟨y, x, q, _, h2⟩ := xp_ii_v he; cases h2; exact ⟨Nat.le_refl _, Nat.le_refl _⟩
  | irem => obtain ⟨y, x, q, _, h2⟩ := xp_ii_v he; obtain ⟨_, h3⟩ := xw_c0 h2; cases h3; exact ⟨Nat.le_refl _, Nat.le_refl _⟩
  | ladd => obtain ⟨y, x, q, _, h2⟩ := xp_ll_v he; cases h2; exact ⟨Nat.le_refl _, Nat.le_refl _⟩
  | lsub => obtain ⟨y, x, q, _, h2⟩ := xp_ll_v he; cases h2; exact ⟨Nat.le_refl _, Nat.le_refl _⟩
  | lmul => obtain ⟨y, x, q, _, h2⟩ := xp_ll_v he; cases h2; exact ⟨Nat.le_refl _, Nat.le_refl _⟩
  | land => obtain ⟨y, x, q, _, h2⟩ := xp_ll_v he; cases h2; exact ⟨Nat.le_refl _, Nat.le_refl _⟩
  | lor => obtain ⟨y, x, q, _, h2⟩ := xp_ll_v he; cases h2; exact ⟨Nat.le_refl _, Nat.le_refl _⟩
  | lcmp => obtain ⟨y, x, q, _, h2⟩ := xp_ll_v he; cases h2; exact ⟨Nat.le_refl _, Nat.le_refl _⟩
  | ldiv => obtain ⟨y, x, q, _, h2⟩ := xp_ll_v he; obtain ⟨_, h3⟩ := xw_c0 h2; cases h3; exact ⟨Nat.le_refl _, Nat.le_refl _⟩
  | lrem => obtain ⟨y, x, q, _, h2⟩ := xp_ll_v he; obtain ⟨_, h3⟩ := xw_c0 h2; cases h3; exact ⟨Nat.le_refl _, Nat.le_refl _⟩
  | lushr => obtain ⟨y, x, q, _, h2⟩ := xp_il_v he; cases h2; exact ⟨Nat.le_refl _, Nat.le_refl _⟩
  | lshl => obtain ⟨y, x, q, _, h2⟩ := xp_il_v he; cases h2; exact ⟨Nat.le_refl _, Nat.le_refl _⟩
  | i2l => obtain ⟨x, q, _, h2⟩ := xp_i_v he; cases h2; exact ⟨Nat.le_refl _, Nat.le_refl _⟩
  | i2b => obtain ⟨x, q, _, h2⟩ := xp_i_v he; cases h2; exact ⟨Nat.le_refl _, Nat.le_refl _⟩
  | i2c => obtain ⟨x, q, _, h2⟩ := xp_i_v he; cases h2; exact ⟨Nat.le_refl _, Nat.le_refl _⟩
  | ifCond _ _ => obtain ⟨x, q, _, h2⟩ := xp_i_v he; cases h2; exact ⟨Nat.le_refl _, Nat.le_refl _⟩
  | l2i => obtain ⟨x, q, _, h2⟩ := xp_l_v he; cases h2; exact ⟨Nat.le_refl _, Nat.le_refl _⟩
  | newarray _ => obtain ⟨x, q, _, h2⟩ := xp_i_v he; obtain ⟨_, h3⟩ := xw_c h2; cases h3; exact ⟨Nat.le_add_right _ _, Nat.le_add_right _ _⟩
  | anewarray _ => obtain ⟨x, q, _, h2⟩ := xp_i_v he; obtain ⟨_, h3⟩ := xw_c h2; cases h3; exact ⟨Nat.le_add_right _ _, Nat.le_add_right _ _⟩
  | new _ => cases he; exact ⟨Nat.le_add_right _ _, Nat.le_add_right _ _⟩
  | dup =>
    match st, he with
    | a :: q, he => obtain ⟨_, h3⟩ := xw_c he; cases h3; exact ⟨Nat.le_refl _, Nat.le_refl _⟩
  | pop =>
    match st, he with
    | a :: q, he => obtain ⟨_, h3⟩ := xw_c he; cases h3; exact ⟨Nat.le_refl _, Nat.le_refl _⟩
  | dup2 =>
    match st, he with
    | a :: b :: q, he => obtain ⟨_, h3⟩ := xw_c he; cases h3; exact ⟨Nat.le_refl _, Nat.le_refl _⟩
  | dup_x2 =>
    match st, he with
    | a :: b :: d :: q, he => obtain ⟨_, h3⟩ := xw_c he; cases h3; exact ⟨Nat.le_refl _, Nat.le_refl _⟩
  | iinc k n =>
    have he : (match xl_get lv k with
      | some (.int x) => cond (Nat.ble (k + 1) nL) (some (pc + 3, xl_1 lv k (.int (x + Int32.ofInt n)), st, h, c, s)) none
      | _ => none) = some (pc', lv', st', h', c', s') := he
    split at he
    · obtain ⟨_, h3⟩ := xw_c he; cases h3; exact ⟨Nat.le_refl _, Nat.le_refl _⟩
    · cases he
  | ifnull _ =>
    match st, he with
    | .ref _ :: q, he => cases he; exact ⟨Nat.le_refl _, Nat.le_refl _⟩
  | if_acmp k _ =>
    cases k with
    | eq => cases he
    | ne =>
      match st, he with
      | .ref y :: .ref x :: q, he => obtain ⟨_, h3⟩ := xw_c he; cases h3; exact ⟨Nat.le_refl _, Nat.le_refl _⟩
  | getfield _ =>
    obtain ⟨a, q, _, h2⟩ := xp_r_v he
    try dsimp only at h2
    split at h2
    · obtain ⟨_, h3⟩ := xw_c h2; cases h3; exact ⟨Nat.le_refl _, Nat.le_refl _⟩
    · cases h2
  | putfield _ =>
    obtain ⟨v, a, q, _, h2⟩ := xp_vr_v he
    try dsimp only at h2
    split at h2
    · obtain ⟨_, h3⟩ := xw_c h2
      obtain ⟨_, _, h4⟩ := Option.map_eq_some_iff.mp h3
      cases h4; exact ⟨Nat.le_refl _, Nat.le_refl _⟩
    · cases h2
  | iaload =>
    obtain ⟨i, a, q, _, h2⟩ := xp_ir_v he
    try dsimp only at h2
    split at h2
    · obtain ⟨_, h3⟩ := xw_c h2; cases h3; exact ⟨Nat.le_refl _, Nat.le_refl _⟩
    · cases h2
  | baload =>
    obtain ⟨i, a, q, _, h2⟩ := xp_ir_v he
    try dsimp only at h2
    split at h2
    · obtain ⟨_, h3⟩ := xw_c h2; cases h3; exact ⟨Nat.le_refl _, Nat.le_refl _⟩
    · obtain ⟨_, h3⟩ := xw_c h2; cases h3; exact ⟨Nat.le_refl _, Nat.le_refl _⟩
    · cases h2
  | laload =>
    obtain ⟨i, a, q, _, h2⟩ := xp_ir_v he
    try dsimp only at h2
    split at h2
    · obtain ⟨_, h3⟩ := xw_c h2; cases h3; exact ⟨Nat.le_refl _, Nat.le_refl _⟩
    · cases h2
  | aaload =>
    obtain ⟨i, a, q, _, h2⟩ := xp_ir_v he
    try dsimp only at h2
    split at h2
    · obtain ⟨_, h3⟩ := xw_c h2; cases h3; exact ⟨Nat.le_refl _, Nat.le_refl _⟩
    · cases h2
  | iastore =>
    obtain ⟨x, i, a, q, _, h2⟩ := xp_iir_v he
    try dsimp only at h2
    split at h2
    · obtain ⟨_, h3⟩ := xw_c h2; cases h3; exact ⟨Nat.le_refl _, Nat.le_refl _⟩
    · cases h2
  | bastore =>
    obtain ⟨x, i, a, q, _, h2⟩ := xp_iir_v he
    try dsimp only at h2
    split at h2
    · obtain ⟨_, h3⟩ := xw_c h2; cases h3; exact ⟨Nat.le_refl _, Nat.le_refl _⟩
    · obtain ⟨_, h3⟩ := xw_c h2; cases h3; exact ⟨Nat.le_refl _, Nat.le_refl _⟩
    · cases h2
  | lastore =>
    obtain ⟨x, i, a, q, _, h2⟩ := xp_lir_v he
    try dsimp only at h2
    split at h2
    · obtain ⟨_, h3⟩ := xw_c h2; cases h3; exact ⟨Nat.le_refl _, Nat.le_refl _⟩
    · cases h2
  | aastore =>
    obtain ⟨x, i, a, q, _, h2⟩ := xp_rir_v he
    try dsimp only at h2
    split at h2
    · split at h2
      · obtain ⟨_, h3⟩ := xw_c h2; cases h3; exact ⟨Nat.le_refl _, Nat.le_refl _⟩
      · cases h2
    · cases h2
  | arraylength =>
    obtain ⟨a, q, _, h2⟩ := xp_r_v he
    try dsimp only at h2
    split at h2
    · obtain ⟨_, h3⟩ := xw_c h2; cases h3; exact ⟨Nat.le_refl _, Nat.le_refl _⟩
    · cases h2
  | tableswitch dflt lo hi offs =>
    obtain ⟨x, q, _, h2⟩ := xp_i_v he
    cases hb : (decide (x.toInt < lo) || decide (hi < x.toInt)) with
    | true =>
      rw [hb] at h2
      obtain ⟨_, h3⟩ := xw_c h2
      cases h3; exact ⟨Nat.le_refl _, Nat.le_refl _⟩
    | false =>
      rw [hb] at h2
      cases ho : offs[(x.toInt - lo).toNat]? with
      | none => rw [ho] at h2; cases h2
      | some off =>
        rw [ho] at h2
        obtain ⟨_, h3⟩ := xw_c h2
        cases h3; exact ⟨Nat.le_refl _, Nat.le_refl _⟩
  | _ => cases he
end XM
end
section
section XRUN
theorem xe_2_mono {scr : Option (Nat × (Nat → Int32))} {nL : Nat} {r : xr_R} {d pc : Nat} {lv : List (Nat × Value)} {st : List Value} {h : xh_H} {c s : Nat} {pc' : Nat} {lv' : List (Nat × Value)} {st' : List Value} {h' : xh_H} {c' s' : Nat} (he : xe_2 scr nL r d pc lv st h c s = some (pc', lv', st', h', c', s')) : c ≤ c' ∧ s ≤ s' := by
  unfold xe_2 at he
  split at he
  · rename_i o h1
    cases he
    exact xe_1_mono h1
  · split at he
    · rename_i o h1
      cases he
      unfold xe_o at h1
      repeat' split at h1
      all_goals first
        | (cases h1; done)
        | (cases h1; exact ⟨Nat.le_refl _, Nat.le_refl _⟩)
        | (obtain ⟨_, h3⟩ := xw_c h1; cases h3; exact ⟨Nat.le_refl _, Nat.le_refl _⟩)
    · unfold xe_oi at he
      repeat' split at he
      all_goals first
        | (cases he; done)
        | (cases he; exact ⟨Nat.le_refl _, Nat.le_refl _⟩)
        | (obtain ⟨_, h3⟩ := xw_c he; cases h3; exact ⟨Nat.le_refl _, Nat.le_refl _⟩)
theorem xe_x_mono {M : Nat → Option xm_M} {Cd : Nat → Nat → Option xr_R} : ∀ (f : Nat) (scr : Option (Nat × (Nat → Int32))) (d mid : Nat) (mi : xm_M) (pc : Nat) (lv : List (Nat × Value)) (st : List Value) (h : xh_H) (c s : Nat) (v : Option Value) (h' : xh_H) (c' s' : Nat), xe_x M Cd scr f d mid mi (pc, lv, st, h, c, s) = some (v, h', c', s') → c ≤ c' ∧ s ≤ s' := by
  intro f
  induction f with
  | zero => intro scr d mid mi pc lv st h c s v h' c' s' he; cases he
  | succ f ih =>
    intro scr d mid mi pc lv st h c s v h' c' s' he
    unfold xe_x at he
    split at he
    · cases he
    · rename_i r hr
      cases hi : xe_isr r.1 with
      | true =>
        rw [hi] at he
        obtain ⟨v1, _, h2⟩ := Option.map_eq_some_iff.mp (show Option.map _ _ = _ from he)
        cases h2
        exact ⟨Nat.le_refl _, Nat.le_refl _⟩
      | false =>
        rw [hi] at he
        simp only [cond_false] at he
        split at he
        · rename_i o ho
          obtain ⟨pc1, lv1, st1, h1, c1, s1⟩ := o
          have a := xe_2_mono ho
          have b := ih _ _ _ _ _ _ _ _ _ _ _ _ _ _ he
          exact ⟨Nat.le_trans a.1 b.1, Nat.le_trans a.2 b.2⟩
        · split at he
          · cases he
          · split at he
            · cases he
            · split at he
              · cases he
              · have b := ih _ _ _ _ _ _ _ _ _ _ _ _ _ _ he
                exact ⟨Nat.le_trans (Nat.le_add_right _ _) b.1, Nat.le_trans (Nat.le_add_right _ _) b.2⟩
end XRUN
end
section
section XOK
def xm_ini (mi : xm_M) : Bool := Nat.beq mi.2.2.2.2.2.1 2
def xm_ok (mi : xm_M) : Prop :=
  Cond.code mi.2.1 mi.2.2.1 mi.2.2.2.1 mi.2.2.2.2.1 ∈ xG ∧ Cond.initialized mi.2.1.cls ∈ xG ∧ mi.1 = mi.2.1.cls ∧ _root_.Jvm.plainName mi.2.1.cls = true ∧ (mi.2.1.cls ≠ "java/lang/invoke/MethodHandle" ∧ mi.2.1.cls ≠ "java/lang/invoke/VarHandle" ∧ (parseMethodDescriptor mi.2.1.desc).map (fun d => d.parameters.length) = some mi.2.2.2.2.2.2.1) ∧ mi.2.2.2.1 ≤ 20 ∧
  (mi.2.2.2.2.2.1 = 0 → Cond.instanceMethod mi.2.1 ∈ xG ∧ Cond.selects mi.2.1.cls mi.2.1 mi.2.1 ∈ xG ∧ ∃ T N, vwCl[mi.2.2.2.2.2.2.2]? = some (mi.2.1.cls, T, N)) ∧ (mi.2.2.2.2.2.1 = 1 → Cond.static mi.2.1 ∈ xG) ∧ (mi.2.2.2.2.2.1 = 2 → Cond.instanceMethod mi.2.1 ∈ xG ∧ mi.2.1.name = "<init>" ∧ mi.2.2.2.2.1 = none)
def xr_c (M : Nat → Option xm_M) (own : String) (r : xr_R) : Bool := match r.1 with
  | .invokevirtual idx => (match M r.2.2.1 with
    | some mj => xw_b r.2.2.2.2.1 r.2.2.2.2.2 (.methodLink own idx mj.2.1)
    | none => false)
  | .invokestatic idx => (match M r.2.2.1 with
    | some mj => xw_b r.2.2.2.2.1 r.2.2.2.2.2 (.methodLink own idx mj.2.1)
    | none => false)
  | .invokespecial idx => (match r.2.2.2.1 with
    | 1 => xw_b r.2.2.2.2.1 r.2.2.2.2.2 (.methodLink own idx objectInit)
    | _ => (match M r.2.2.1 with
      | some mj => xw_b r.2.2.2.2.1 r.2.2.2.2.2 (.methodLink own idx mj.2.1)
      | none => false))
  | .getstatic idx => xw_b r.2.2.2.2.1 r.2.2.2.2.2 (.fieldLink own idx RX2 "FACTORIALS" "[J")
  | _ => true
/-- the program's tables hold -/
def xP_ok (M : Nat → Option xm_M) (Cd : Nat → Nat → Option xr_R) : Prop :=
  (∀ (mid : Nat) (mi : xm_M), M mid = some mi → xm_ok mi ∧ ∀ (pc : Nat) (r : xr_R), Cd mid pc = some r → xr_b mi.1 (xm_ini mi) mi.2.2.1 pc r = true ∧ xr_c M mi.1 r = true) ∧ Cond.instanceMethod objectInit ∈ xG ∧ Cond.code objectInit ⟨#[0xb1]⟩ 1 none ∈ xG
theorem xG_good {w : Cond} (h : w ∈ xG) : w ∈ xG ∧ ((w.onTables && w.keeps) = true ∨ ∃ ty, w = .arrayClass ty) := ⟨h, good_of_word (List.mem_filter.mp h).2⟩
theorem xG_in {mi : xm_M} (h : xm_ok mi) : GoodIn xG (Cond.code mi.2.1 mi.2.2.1 mi.2.2.2.1 mi.2.2.2.2.1 :: xG) := fun w hw => by
  rcases List.mem_cons.mp hw with rfl | hw
  · exact xG_good h.1
  · exact xG_good hw
def xm_rm (d mc ms : Nat) : Room := { frames := d, cells := mc, slots := ms, locals := 40 * d }
/-- a call's start and end, in our words -/
def xq_P (D : va_G) (cy : Nat → ClassId) (ad sp : Nat → Nat) (h : xh_H) (sz : Nat) (U : State) : Prop :=
  U.heap.size = sz ∧ xh_at D cy ad (fun _ => True) h U.heap ∧ va_K D vwCl (xh_ts cy) U ∧ xo_ok sp (va_A (xh_ws ad cy h) sz) U U.heap
def xq_Q (D : va_G) (cy : Nat → ClassId) (ad sp : Nat → Nat) (v : Option Value) (h1 : xh_H) (A1 : Nat → Prop) : Array Value → State → Outcome → State → Prop := fun _ st oc t => oc = .returned (v.map (xh_v ad sp)) ∧ xh_at D cy ad A1 h1 t.heap ∧ va_F A1 st t
def xq_M (l : Launch) (D : va_G) (cy : Nat → ClassId) (ad sp : Nat → Nat) (mi : xm_M) (As : List Value) (h : xh_H) (sz d : Nat) (v : Option Value) (h1 : xh_H) (mc ms : Nat) : Prop :=
  Met l mi.2.1 (Cond.code mi.2.1 mi.2.2.1 mi.2.2.2.1 mi.2.2.2.2.1 :: xG) (xm_rm d mc ms) (va_Pc (As.map (xh_v ad sp)) (xq_P D cy ad sp h sz)) (xq_Q D cy ad sp v h1 (va_A (xh_ws ad cy h) sz)) mc ms (va_A (xh_ws ad cy h) sz)
theorem xh_at.weaken {D : va_G} {cy : Nat → ClassId} {ad : Nat → Nat} {A B : Nat → Prop} {h : xh_H} {H : Heap} (hat : xh_at D cy ad A h H) (hAB : ∀ q, A q → B q) : xh_at D cy ad B h H := ⟨hat.1, hat.2.1.weaken (fun _ q _ hq => hAB q.1 hq), hat.2.2⟩
variable {p : Program} {l : Launch} {e : Env} {R : Room} {s : State} {m : MethodId} {args : Array Value} {below : List Frame} {meth : Method} {c : Code} {H : Heap} {locs : List Loc} {cells slots : Nat} {Q : State → Prop}
variable {cc : ByteArray} {pc : Nat} {ls : Array Slot} {rest st0 : List Value} {D : va_G} {A A1 : Nat → Prop} {ad sp : Nat → Nat} {cy : Nat → ClassId} {nL mc ms : Nat} {own : String} {ini : Bool} {a : Array Value}
theorem xa_call {v : Option Value} {h1 : xh_H} (hr : va_Run p l e R s m args below meth c H locs cells slots mc ms (F0 m pc ls st0) rest (xq_Q D cy ad sp v h1 A1 a) A1) (hS : va_S A s.heap H locs) (hF : ∀ q, A1 q → A q)
    (kk : ∀ (H1 : Heap) (locs1 : List Loc), xh_at D cy ad A h1 H1 → va_S A s.heap H1 locs1 → W p l e R s m args below meth c H1 locs1 (cells + mc) (slots + ms) Q (F0 m (pc + 3) ls ((v.map (xh_v ad sp)).toList ++ rest))) : W p l e R s m args below meth c H locs cells slots Q (F0 m pc ls st0) := by
  intro T hT X
  obtain ⟨w, st₀, t, T', L, h0, X', hL, e1, e2, ⟨hv, hat, hz, hk⟩, st⟩ := hr T hT X
  cases hv
  rw [h0] at hz hk
  obtain ⟨t2, a1, b1⟩ := kk T'.heap (locs ++ L) (by rw [e1]; exact hat.weaken hF)
    ⟨Nat.le_trans hS.1 (by rw [e1]; exact hz), fun q h1 h2 => by rw [e1, hk q (Nat.lt_of_lt_of_le h1 hS.1) (fun z => h2 (hF q z))]; exact hS.2.1 q h1 h2, fun q hq => by
      rcases List.mem_append.mp hq with h | h
      · exact hS.2.2 q h
      · exact hF _ (hL q h)⟩ T' rfl X'
  exact ⟨t2, st t2 a1, b1⟩
theorem xq_free {h : xh_H} {H0 : Heap} (hat : xh_at D cy ad A h H) (hS : va_S A H0 H locs) (hA : ∀ q, H0.size ≤ q → A q) : ∀ q, va_A (xh_ws ad cy h) H.size q → A q := by
  intro q hq
  rcases hq with ⟨k, x, hk⟩ | hq
  · exact hat.2.1.2 k (q, x) hk
  · exact hA q (Nat.le_trans hS.1 hq)
theorem xq_blind (vs : List Value) (h : xh_H) (sz : Nat) : FrameBlind (va_Pc vs (xq_P D cy ad sp h sz)) := by
  intro a U g mk hp
  obtain ⟨h0, h1, h2, h3, h4⟩ := hp
  exact ⟨h0, h1, h2, va_K.moved (u := U) (U := U.calling g mk a) (Vm.Alike.refl U.vm) h3, xo_ok.same (s := U) (U := U.calling g mk a) rfl h4⟩
theorem xq_pre {h : xh_H} {vs : List Value} (X : xc_X p s m args meth c cc nL own ini D cy A sp) (hat : xh_at D cy ad A h H) (hS : va_S A s.heap H locs) : ∀ U : State, U.heap = H → s.WarmedH U.vm → va_Pc vs (xq_P D cy ad sp h H.size) vs.toArray U := by
  obtain ⟨hx, hb, hml, hown, hts, hK, hA, hO, hini⟩ := X
  intro U hU hW
  refine ⟨rfl, by rw [hU], by rw [hU]; exact hat.weaken (fun _ _ => trivial), va_K.moved hW.alike hK, ?_⟩
  rw [hU]
  exact ((hO.kept hS.2.1).narrow (xq_free hat hS hA)).warm hW
theorem lv_args_m (vs : List Value) : ∀ i : Nat, lv_args i (vs.map (xh_v ad sp)) = xl_m ad sp (lv_args i vs) := by
  induction vs with
  | nil => intro i; rfl
  | cons v t ih =>
    intro i
    show (i, xh_v ad sp v) :: lv_args _ (t.map (xh_v ad sp)) = (i, xh_v ad sp v) :: xl_m ad sp (lv_args _ t)
    rw [ih, xh_v_cat]
theorem lg_sl_len (vs : List Value) : (lg_sl vs).length = xm_cat vs := by
  induction vs with
  | nil => rfl
  | cons v t ih =>
    have : lg_sl (v :: t) = (if v.category = 2 then [Slot.val v, .second] else [.val v]) ++ lg_sl t := by simp [lg_sl]
    rw [this, List.length_append, ih]
    have : xm_cat (v :: t) = v.category + xm_cat t := by simp [xm_cat]
    rw [this]
    rcases lv_cat v with h | h <;> simp [h]
theorem xm_cat_m (vs : List Value) : xm_cat (vs.map (xh_v ad sp)) = xm_cat vs := by
  simp [xm_cat, List.map_map, Function.comp_def, xh_v_cat]
/-- a run, on the machine: up to its return -/
def xS_ok (M : Nat → Option xm_M) (Cd : Nat → Nat → Option xr_R) (f : Nat) : Prop := ∀ (p : Program) (l : Launch) (e : Env) (R : Room) (s : State) (m : MethodId) (args : Array Value) (below : List Frame) (meth : Method) (c : Code) (H : Heap) (locs : List Loc) (Q : State → Prop) (ls : Array Slot) (D : va_G) (A : Nat → Prop) (ad sp : Nat → Nat) (cy : Nat → ClassId)
    (scr : Option (Nat × (Nat → Int32))) (d mid : Nat) (mi : xm_M) (pc : Nat) (lv : List (Nat × Value)) (st : List Value) (h : xh_H) (cells slots : Nat) (v : Option Value) (h' : xh_H) (c' s' : Nat),
    xe_x M Cd scr f d mid mi (pc, lv, st, h, cells, slots) = some (v, h', c', s') → M mid = some mi → xc_X p s m args meth c mi.2.2.1 mi.2.2.2.1 mi.1 (xm_ini mi) D cy A sp → (d ≤ R.frames ∧ 40 * d ≤ R.locals ∧ c' ≤ R.cells ∧ s' ≤ R.slots) → (∀ L xs, scr = some (L, xs) → va_X (sp 0) L xs s s.heap ∧ sp 0 < s.heap.size ∧ ¬ A (sp 0)) → xc_S D cy ad sp A s mi.2.2.2.1 h lv H locs ls →
    (∀ (H1 : Heap) (locs1 : List Loc) (ls1 : Array Slot) (lv1 : List (Nat × Value)) (pc1 : Nat) (ri : Instr) (st1 : List Value), xc_S D cy ad sp A s mi.2.2.2.1 h' lv1 H1 locs1 ls1 → decode mi.2.2.1 pc1 = .ok (ri, 1) → xe_rv ri mi.2.2.2.2.1 st1 = some v → W p l e R s m args below meth c H1 locs1 c' s' Q (F0 m pc1 ls1 (st1.map (xh_v ad sp)))) →
    W p l e R s m args below meth c H locs cells slots Q (F0 m pc ls (st.map (xh_v ad sp)))
/-- a method's end -/
theorem xe_rv_ok {ri : Instr} {ret : Option FieldType} {st1 : List Value} {v : Option Value} {h' : xh_H} {lv1 : List (Nat × Value)} (hrv : xe_rv ri ret st1 = some v) (hx : p.tables.exec = Jvm.exec) (hb : c.code = cc) (hr : meth.sig.returnType = ret) (hlocks : meth.locks = false) (S : xc_S D cy ad sp A s nL h' lv1 H locs ls) (hd : decode cc pc = .ok (ri, 1)) :
    W p l e R s m args below meth c H locs cells slots (MQ below (xq_Q D cy ad sp v h' A) args s cells slots A) (F0 m pc ls (st1.map (xh_v ad sp))) := by
  obtain ⟨hat, hS, hl⟩ := S
  unfold xe_rv at hrv
  split at hrv
  · split at hrv
    · rename_i x
      split at hrv
      · cases hrv
        exact W.iret hx hb hr (fun t ht hW => ⟨rfl, by rw [ht]; exact hat, hS.F ht⟩) hS.2.2 hd hlocks
      · obtain ⟨h1, h2⟩ := xw_c hrv
        cases h2
        have h1 : x = 0 ∨ x = 1 := by simpa using h1
        refine W.zret (ty := .boolean) hx hb hr ?_ (fun t ht hW => ⟨rfl, by rw [ht]; exact hat, hS.F ht⟩) hS.2.2 hd hlocks
        rcases h1 with rfl | rfl <;> rfl
      · cases hrv
    · cases hrv
  · split at hrv
    · split at hrv
      · cases hrv
        exact W.lret hx hb hr (fun t ht hW => ⟨rfl, by rw [ht]; exact hat, hS.F ht⟩) hS.2.2 hd hlocks
      · cases hrv
    · cases hrv
  · split at hrv
    · split at hrv
      · cases hrv
        exact W.aret hx hb hr (Or.inl ⟨_, rfl⟩) (Or.inr ⟨_, rfl⟩) (fun t ht hW => ⟨rfl, by rw [ht]; exact hat, hS.F ht⟩) hS.2.2 hd hlocks
      · cases hrv
    · cases hrv
  · split at hrv
    · split at hrv
      · cases hrv
        exact W.vret hx hb hr (fun t ht hW => ⟨rfl, by rw [ht]; exact hat, hS.F ht⟩) hS.2.2 hd hlocks
      · cases hrv
    · cases hrv
  · cases hrv
/-- a run gives a contract -/
theorem xe_met {M : Nat → Option xm_M} {Cd : Nat → Nat → Option xr_R} {f : Nat} (hP : xP_ok M Cd) (hf : xS_ok M Cd f) {d mid : Nat} {mi : xm_M} {As : List Value} {h : xh_H} {v : Option Value} {h' : xh_H} {mc ms : Nat} (he : xe_x M Cd none f d mid mi (0, lv_args 0 As, [], h, 0, 0) = some (v, h', mc, ms)) (hm : M mid = some mi) (hfit : xm_cat As ≤ mi.2.2.2.1) (l : Launch) (sz : Nat) : xq_M l D cy ad sp mi As h sz d v h' mc ms := by
  obtain ⟨hok, hrows⟩ := hP.1 mid mi hm
  refine Met.ofW (cc := mi.2.2.1) (maxL := mi.2.2.2.1) (ret := mi.2.2.2.2.1) hok.2.2.2.1 rfl ?_
  intro p e s m args below meth c s₁ B hml hv
  obtain ⟨rfl, hsz, hat, hK, hO⟩ := hv
  have hts := atoms_spec (ws := Cond.code mi.2.1 mi.2.2.1 mi.2.2.2.1 mi.2.2.2.2.1 :: xG) B.pre
  have hown : s.vm.findClass mi.1 = some m.cls := by rw [hok.2.2.1]; exact findClass_of_methodNamed B.named
  have hin : xm_ini mi = true → meth.name = "<init>" := fun z => by rw [(name_of_methodNamed B.named B.method).1]; exact (hok.2.2.2.2.2.2.2.2 (xw_beq z)).2.1
  have hl := lv_entry (As.map (xh_v ad sp)) (n := mi.2.2.2.1) (by rw [lg_sl_len, xm_cat_m]; exact hfit)
  rw [lv_args_m] at hl
  rw [lg_entry_eq]
  subst hsz
  have hD := hat.2.1.self (sz := s.heap.size)
  refine hf p l e _ s m _ below meth c s.heap [] _ _ D (va_A (xh_ws ad cy h) s.heap.size) ad sp cy none d mid mi 0 (lv_args 0 As) [] h 0 0 v h' mc ms he hm ⟨B.exec, B.bytes, hml, hown, fun w hw => hts w (List.mem_cons_of_mem _ hw), hK, fun q hq => Or.inr hq, hO, hin⟩ ⟨Nat.le_refl _, Nat.le_refl _, Nat.le_refl _, Nat.le_refl _⟩ (fun L xs z => by cases z) ⟨⟨hat.1, hD, hat.2.2⟩, va_S.rf, hl⟩ ?_
  intro H1 locs1 ls1 lv1 pc1 ri st1 S1 hd1 hrv
  exact xe_rv_ok hrv B.exec B.bytes B.returns B.notSynchronized S1 hd1
end XOK
end
section
section XALL
variable {p : Program} {l : Launch} {e : Env} {R : Room} {s : State} {m : MethodId} {args : Array Value} {below : List Frame} {meth : Method} {c : Code} {H : Heap} {locs : List Loc} {Q : State → Prop}
variable {cc : ByteArray} {ls : Array Slot} {D : va_G} {A : Nat → Prop} {ad sp : Nat → Nat} {cy : Nat → ClassId} {nL : Nat} {own : String} {ini : Bool}
theorem xr_len1 {own : String} {ini : Bool} {cc : ByteArray} {pc : Nat} {r : xr_R} (hr : xr_b own ini cc pc r = true) (hi : xe_isr r.1 = true) : decode cc pc = .ok (r.1, 1) := by
  obtain ⟨hd, hr⟩ := xw_bb hr
  replace hd := of_decide_eq_true hd
  obtain ⟨hlen, _⟩ := xw_bb hr
  obtain ⟨i, len, ra⟩ := r
  dsimp only at hd hlen hi
  cases i <;> first | (cases hi; done) | (cases xw_beq hlen; exact hd)
theorem xe_o_ok {scr : Option (Nat × (Nat → Int32))} {M : Nat → Option xm_M} {r : xr_R} {pc : Nat} {lv : List (Nat × Value)} {st : List Value} {h : xh_H} {cells slots : Nat} {pc' : Nat} {lv' : List (Nat × Value)} {st' : List Value} {h' : xh_H} {cells' slots' : Nat}
    (X : xc_X p s m args meth c cc nL own ini D cy A sp) (hr : xr_b own ini cc pc r = true) (hrc : xr_c M own r = true) (he : xe_o scr r pc lv st h cells slots = some (pc', lv', st', h', cells', slots')) (hscr : ∀ L xs, scr = some (L, xs) → va_X (sp 0) L xs s s.heap ∧ sp 0 < s.heap.size ∧ ¬ A (sp 0)) (S : xc_S D cy ad sp A s nL h lv H locs ls)
    (kk : ∀ (H1 : Heap) (locs1 : List Loc) (ls1 : Array Slot), xc_S D cy ad sp A s nL h' lv' H1 locs1 ls1 → W p l e R s m args below meth c H1 locs1 cells' slots' Q (F0 m pc' ls1 (st'.map (xh_v ad sp)))) :
    W p l e R s m args below meth c H locs cells slots Q (F0 m pc ls (st.map (xh_v ad sp))) := by
  obtain ⟨hx, hb, hml, hown, hts, hK, hA, hO, hini⟩ := X
  obtain ⟨hat, hS, hl⟩ := S
  obtain ⟨hd, hr⟩ := xw_bb hr
  replace hd := of_decide_eq_true hd
  obtain ⟨hlen, hw⟩ := xw_bb hr
  clear hr
  obtain ⟨i, len, ra, rb, rK, ri⟩ := r
  dsimp only at hd hlen
  cases i with
  | getstatic idx =>
    cases xw_beq hlen
    cases he
    exact va_gets hx hb hO.2.2.1 hS hown (hts _ (xw_in hrc)) (fun _ h9 => h9) hd (kk _ _ _ ⟨hat, hS, hl⟩)
  | laload =>
    cases xw_beq hlen
    match st, he with
    | .int j :: .float u :: q, he =>
      obtain ⟨h1, h2⟩ := xw_c he
      obtain ⟨h1, h3⟩ := xw_bb h1
      cases h2
      rw [show List.map (xh_v ad sp) (.int j :: .float u :: q) = .int j :: .ref (sp u.toNat) :: q.map (xh_v ad sp) from rfl, xw_beq h1]
      exact va_tl hx hb hO.2.2.2 hS (xe_in_v h3) rfl hd (kk _ _ _ ⟨hat, hS, hl⟩)
  | iaload =>
    cases xw_beq hlen
    match st, he with
    | .int j :: .float u :: q, he =>
      match scr, he, hscr with
      | some (L, xs), he, hscr =>
        obtain ⟨h1, h2⟩ := xw_c he
        obtain ⟨h1, h3⟩ := xw_bb h1
        cases h2
        obtain ⟨k1, k2, k3⟩ := hscr L xs rfl
        rw [show List.map (xh_v ad sp) (.int j :: .float u :: q) = .int j :: .ref (sp u.toNat) :: q.map (xh_v ad sp) from rfl, xw_beq h1]
        exact va_sld hx hb k1 k2 k3 hS (xe_in_v h3) hd (kk _ _ _ ⟨hat, hS, hl⟩)
  | arraylength =>
    cases xw_beq hlen
    match st, he with
    | .float u :: q, he =>
      match scr, he, hscr with
      | some (L, xs), he, hscr =>
        obtain ⟨h1, h2⟩ := xw_c he
        cases h2
        obtain ⟨k1, k2, k3⟩ := hscr L xs rfl
        rw [show List.map (xh_v ad sp) (.float u :: q) = .ref (sp u.toNat) :: q.map (xh_v ad sp) from rfl, xw_beq h1]
        exact va_slen hx hb k1 k2 k3 hS hd (kk _ _ _ ⟨hat, hS, hl⟩)
  | _ => cases he
theorem xe_oi_ok {M : Nat → Option xm_M} {r : xr_R} {d pc : Nat} {lv : List (Nat × Value)} {st : List Value} {h : xh_H} {cells slots : Nat} {pc' : Nat} {lv' : List (Nat × Value)} {st' : List Value} {h' : xh_H} {cells' slots' : Nat} (hob : Cond.instanceMethod objectInit ∈ xG ∧ Cond.code objectInit ⟨#[0xb1]⟩ 1 none ∈ xG)
    (X : xc_X p s m args meth c cc nL own ini D cy A sp) (hr : xr_b own ini cc pc r = true) (hrc : xr_c M own r = true) (he : xe_oi r pc d lv st h cells slots = some (pc', lv', st', h', cells', slots')) (hR : d ≤ R.frames ∧ 40 * d ≤ R.locals) (S : xc_S D cy ad sp A s nL h lv H locs ls)
    (kk : ∀ (H1 : Heap) (locs1 : List Loc) (ls1 : Array Slot), xc_S D cy ad sp A s nL h' lv' H1 locs1 ls1 → W p l e R s m args below meth c H1 locs1 cells' slots' Q (F0 m pc' ls1 (st'.map (xh_v ad sp)))) :
    W p l e R s m args below meth c H locs cells slots Q (F0 m pc ls (st.map (xh_v ad sp))) := by
  obtain ⟨hx, hb, hml, hown, hts, hK, hA, hO, hini⟩ := X
  obtain ⟨hat, hS, hl⟩ := S
  obtain ⟨hd, hr⟩ := xw_bb hr
  replace hd := of_decide_eq_true hd
  obtain ⟨hlen, hw⟩ := xw_bb hr
  clear hr
  obtain ⟨i, len, ra, rb, rK, ri⟩ := r
  dsimp only at hd hlen
  cases i with
  | invokespecial idx =>
    cases xw_beq hlen
    match rb, d, st, he, hrc, hd, hR with
    | 1, d + 1, .ref a :: q, he, hrc, hd, hR =>
      obtain ⟨h1, h2⟩ := xw_c he
      cases h2
      have h1 := xw_ble h1
      refine W.objInit hx hb hown (hts _ (xw_in hrc)) (hts _ hob.1) (hts _ hob.2) rfl (by rw [hml]; exact hl.1) rfl hd (by omega) ?_ (kk _ _ _ ⟨hat, hS, hl⟩)
      have h3 : xm_cat (st'.map (xh_v ad sp)) ≤ 8 := by rw [xm_cat_m]; exact h1
      show 2 * 0 + xm_cat (st'.map (xh_v ad sp)) + 12 ≤ R.locals
      omega
    | 0, _, _, he, _, _, _ => cases he
    | 1, 0, _, he, _, _, _ => cases he
    | n + 2, _, _, he, _, _, _ => cases he
  | _ => cases he
theorem xe_2_ok {scr : Option (Nat × (Nat → Int32))} {M : Nat → Option xm_M} {r : xr_R} {d pc : Nat} {lv : List (Nat × Value)} {st : List Value} {h : xh_H} {cells slots : Nat} {pc' : Nat} {lv' : List (Nat × Value)} {st' : List Value} {h' : xh_H} {cells' slots' : Nat} (hob : Cond.instanceMethod objectInit ∈ xG ∧ Cond.code objectInit ⟨#[0xb1]⟩ 1 none ∈ xG)
    (X : xc_X p s m args meth c cc nL own ini D cy A sp) (hr : xr_b own ini cc pc r = true) (hrc : xr_c M own r = true) (he : xe_2 scr nL r d pc lv st h cells slots = some (pc', lv', st', h', cells', slots')) (hR : d ≤ R.frames ∧ 40 * d ≤ R.locals) (hcap : cells' ≤ R.cells ∧ slots' ≤ R.slots) (hscr : ∀ L xs, scr = some (L, xs) → va_X (sp 0) L xs s s.heap ∧ sp 0 < s.heap.size ∧ ¬ A (sp 0)) (S : xc_S D cy ad sp A s nL h lv H locs ls)
    (kk : ∀ (H1 : Heap) (locs1 : List Loc) (ls1 : Array Slot), xc_S D cy ad sp A s nL h' lv' H1 locs1 ls1 → W p l e R s m args below meth c H1 locs1 cells' slots' Q (F0 m pc' ls1 (st'.map (xh_v ad sp)))) :
    W p l e R s m args below meth c H locs cells slots Q (F0 m pc ls (st.map (xh_v ad sp))) := by
  unfold xe_2 at he
  split at he
  · rename_i o h1
    cases he
    exact xe_1_ok X hr h1 hcap S kk
  · split at he
    · rename_i o h1
      cases he
      exact xe_o_ok X hr hrc h1 hscr S kk
    · exact xe_oi_ok hob X hr hrc he hR S kk
theorem xr_len3 {own : String} {ini : Bool} {cc : ByteArray} {pc : Nat} {r : xr_R} (hr : xr_b own ini cc pc r = true) (hl : xr_len r.1 = 3) (ht : ∀ a b d e, r.1 ≠ .tableswitch a b d e) : decode cc pc = .ok (r.1, 3) := by
  obtain ⟨hd, hr⟩ := xw_bb hr
  replace hd := of_decide_eq_true hd
  obtain ⟨hlen, _⟩ := xw_bb hr
  obtain ⟨i, len, ra⟩ := r
  dsimp only at hd hlen hl ht
  cases i <;> first | (exact absurd rfl (ht _ _ _ _)) | (rw [← hl, ← xw_beq hlen]; exact hd)
set_option maxHeartbeats 4000000 in
set_option maxRecDepth 100000 in
/-- EVERY RUN, ON THE MACHINE -/
theorem xS_all {M : Nat → Option xm_M} {Cd : Nat → Nat → Option xr_R} (hP : xP_ok M Cd) : ∀ f : Nat, xS_ok M Cd f := by
  intro f
  induction f with
  | zero =>
    intro p l e R s m args below meth c H locs Q ls D A ad sp cy scr d mid mi pc lv st h cells slots v h' c' s' he
    cases he
  | succ f ih =>
    intro p l e R s m args below meth c H locs Q ls D A ad sp cy scr d mid mi pc lv st h cells slots v h' c' s' he hm X hR hscr S kk
    obtain ⟨hok, hrows⟩ := hP.1 mid mi hm
    unfold xe_x at he
    split at he
    · cases he
    · rename_i r hr
      obtain ⟨hrb, hrc⟩ := hrows pc r hr
      cases hi : xe_isr r.1 with
      | true =>
        rw [hi] at he
        obtain ⟨v1, h1, h2⟩ := Option.map_eq_some_iff.mp (show Option.map _ _ = _ from he)
        cases h2
        exact kk _ _ _ _ _ _ _ S (xr_len1 hrb hi) h1
      | false =>
        rw [hi] at he
        simp only [cond_false] at he
        split at he
        · rename_i o ho
          obtain ⟨pc1, lv1, st1, h1, c1, s1⟩ := o
          have hmn := xe_x_mono _ _ _ _ _ _ _ _ _ _ _ _ _ _ _ he
          refine xe_2_ok hP.2 X hrb hrc ho ⟨hR.1, hR.2.1⟩ ⟨Nat.le_trans hmn.1 hR.2.2.1, Nat.le_trans hmn.2 hR.2.2.2⟩ hscr S ?_
          intro H1 locs1 ls1 S1
          exact ih p l e R s m args below meth c H1 locs1 Q ls1 D A ad sp cy scr d mid mi pc1 lv1 st1 h1 c1 s1 v h' c' s' he hm X hR hscr S1 kk
        · split at he
          · cases he
          · rename_i d' hx0
            split at he
            · cases he
            · rename_i mj As q hcl
              split at he
              · cases he
              · rename_i v1 h1 mc ms hx1
                have hmn := xe_x_mono _ _ _ _ _ _ _ _ _ _ _ _ _ _ _ he
                have X0 := X
                obtain ⟨hx, hb, hml, hown, hts, hK, hA, hO, hini⟩ := X
                obtain ⟨hat, hS, hl⟩ := S
                have hfree := xq_free hat hS hA
                have go : ∀ (H1 : Heap) (locs1 : List Loc), xh_at D cy ad A h1 H1 → va_S A s.heap H1 locs1 → W p l e R s m args below meth c H1 locs1 (cells + mc) (slots + ms) Q (F0 m (pc + 3) ls ((v1.map (xh_v ad sp)).toList ++ q.map (xh_v ad sp))) := by
                  intro H1 locs1 a1 a2
                  have K := ih p l e R s m args below meth c H1 locs1 Q ls D A ad sp cy scr (d' + 1) mid mi (pc + 3) lv (v1.toList ++ q) h1 (cells + mc) (slots + ms) v h' c' s' he hm X0 hR hscr ⟨a1, a2, hl⟩ kk
                  rw [List.map_append] at K
                  cases v1 with
                  | none => exact K
                  | some w => exact K
                have hcap : cells + mc ≤ R.cells ∧ slots + ms ≤ R.slots := ⟨Nat.le_trans hmn.1 hR.2.2.1, Nat.le_trans hmn.2 hR.2.2.2⟩
                unfold xe_cl at hcl
                split at hcl
                · cases hcl
                · rename_i mk hmk
                  obtain ⟨hok', _⟩ := hP.1 _ _ hmk
                  have hgi := xG_in hok'
                  obtain ⟨j1, j2, j3, j4, j5, j6, j7, j8, j9⟩ := hok'
                  have hRm : ∀ mc ms : Nat, (xm_rm d' mc ms).frames + 1 ≤ R.frames ∧ 8 + (mk.2.2.2.1 + 11) + (xm_rm d' mc ms).locals ≤ R.locals := by
                    intro mc ms
                    have a1 := hR.1
                    have a2 := hR.2.1
                    refine ⟨a1, ?_⟩
                    show 8 + (mk.2.2.2.1 + 11) + 40 * d' ≤ R.locals
                    omega
                  split at hcl
                  · rename_i idx hi1
                    obtain ⟨b1, b2⟩ := xw_c hcl
                    cases b2
                    obtain ⟨b1, b3⟩ := xw_bb b1
                    obtain ⟨b3, b4⟩ := xw_bb b3
                    obtain ⟨b4, b5⟩ := xw_bb b4
                    replace b1 := xw_beq b1
                    replace b3 := xw_beq b3
                    replace b4 := xw_ble b4
                    replace b5 := xw_ble b5
                    have hlk : Cond.methodLink mi.1 idx mj.2.1 ∈ xG := by
                      unfold xr_c at hrc
                      rw [hi1] at hrc
                      dsimp only at hrc
                      rw [hmk] at hrc
                      exact xw_in hrc
                    have hd := xr_len3 hrb (by rw [hi1]; rfl) (by rw [hi1]; intro a b d e z; cases z)
                    rw [hi1] at hd
                    have hM := xe_met (D := D) (cy := cy) (ad := ad) (sp := sp) hP ih hx1 hmk b5 l H.size
                    have hst : st.map (xh_v ad sp) = ((st.take mj.2.2.2.2.2.2.1).reverse.map (xh_v ad sp)).reverse ++ (st.drop mj.2.2.2.2.2.2.1).map (xh_v ad sp) := by
                      rw [← List.map_reverse, List.reverse_reverse, ← List.map_append, List.take_append_drop]
                    refine xa_call (va_runS (As := (st.take mj.2.2.2.2.2.2.1).reverse.map (xh_v ad sp)) ⟨hx, hb, hml, hown, hts⟩ hM ⟨callB_of mj.2.2.2.2.2.2.1 hts hgi rfl rfl rfl (hts _ j2) (hts _ hlk) j5 (hRm mc ms), hts _ (j8 b1)⟩ ⟨xq_blind _ _ _, xq_pre X0 hat hS⟩ rfl (by rw [List.length_map, List.length_reverse]; exact b3) hl.1 hst (lv_room ?_) hd hcap) hS hfree go
                    show xm_cat ((st.drop mj.2.2.2.2.2.2.1).map (xh_v ad sp)) ≤ 8
                    rw [xm_cat_m]
                    exact b4
                  · rename_i idx hi1
                    split at hcl
                    · rename_i bb q2 hdrop
                      split at hcl
                      · rename_i ci hci
                        obtain ⟨b1, b2⟩ := xw_c hcl
                        cases b2
                        obtain ⟨b0, b1⟩ := xw_bb b1
                        obtain ⟨b1, b3⟩ := xw_bb b1
                        obtain ⟨b3, b4⟩ := xw_bb b3
                        obtain ⟨b4, b5⟩ := xw_bb b4
                        replace b0 := xw_beq b0
                        replace b1 := xw_beq b1
                        replace b3 := xw_beq b3
                        replace b4 := xw_ble b4
                        replace b5 := xw_ble b5
                        have hlk : Cond.methodLink mi.1 idx mj.2.1 ∈ xG := by
                          unfold xr_c at hrc
                          rw [hi1] at hrc
                          dsimp only at hrc
                          rw [hmk] at hrc
                          exact xw_in hrc
                        have hd := xr_len3 hrb (by rw [hi1]; rfl) (by rw [hi1]; intro a b d e z; cases z)
                        rw [hi1] at hd
                        have hM := xe_met (D := D) (cy := cy) (ad := ad) (sp := sp) hP ih hx1 hmk b5 l H.size
                        have hst : st.map (xh_v ad sp) = ((st.take mj.2.2.2.2.2.2.1).reverse.map (xh_v ad sp)).reverse ++ .ref (ad bb) :: q.map (xh_v ad sp) := by
                          rw [← List.map_reverse, List.reverse_reverse]
                          have : st = st.take mj.2.2.2.2.2.2.1 ++ .ref bb :: q := by rw [← hdrop, List.take_append_drop]
                          conv => lhs; rw [this]
                          rw [List.map_append]
                          rfl
                        obtain ⟨T, N, hv⟩ := (j7 b1).2.2
                        rw [← b0] at hv
                        refine xa_call (va_runV (C := mj.2.1.cls) (b := ad bb) (As := (st.take mj.2.2.2.2.2.2.1).reverse.map (xh_v ad sp)) ⟨hx, hb, hml, hown, hts⟩ hM ⟨callB_of mj.2.2.2.2.2.2.1 hts hgi rfl rfl rfl (hts _ j2) (hts _ hlk) j5 (hRm mc ms), hts _ (j7 b1).1, hts _ (j7 b1).2.1⟩ ⟨xq_blind _ _ _, va_recv hK hat.1 hv (xh_ws_at hci), xq_pre X0 hat hS⟩ rfl (by rw [List.length_map, List.length_reverse]; exact b3) hl.1 hst (lv_room ?_) hd hcap) hS hfree go
                        show xm_cat (q.map (xh_v ad sp)) ≤ 8
                        rw [xm_cat_m]
                        exact b4
                      · cases hcl
                    · cases hcl
                  · rename_i idx hi1
                    split at hcl
                    · rename_i bb q2 hdrop
                      obtain ⟨b1, b2⟩ := xw_c hcl
                      cases b2
                      obtain ⟨b0, b1⟩ := xw_bb b1
                      obtain ⟨b1, b3⟩ := xw_bb b1
                      obtain ⟨b3, b4⟩ := xw_bb b3
                      obtain ⟨b4, b5⟩ := xw_bb b4
                      replace b0 := xw_beq b0
                      replace b1 := xw_beq b1
                      replace b3 := xw_beq b3
                      replace b4 := xw_ble b4
                      replace b5 := xw_ble b5
                      have hlk : Cond.methodLink mi.1 idx mj.2.1 ∈ xG := by
                        unfold xr_c at hrc
                        rw [hi1] at hrc
                        dsimp only at hrc
                        rw [b0] at hrc
                        try dsimp only at hrc
                        rw [hmk] at hrc
                        exact xw_in hrc
                      have hd := xr_len3 hrb (by rw [hi1]; rfl) (by rw [hi1]; intro a b d e z; cases z)
                      rw [hi1] at hd
                      have hM := xe_met (D := D) (cy := cy) (ad := ad) (sp := sp) hP ih hx1 hmk b5 l H.size
                      have hst : st.map (xh_v ad sp) = ((st.take mj.2.2.2.2.2.2.1).reverse.map (xh_v ad sp)).reverse ++ .ref (ad bb) :: q.map (xh_v ad sp) := by
                        rw [← List.map_reverse, List.reverse_reverse]
                        have : st = st.take mj.2.2.2.2.2.2.1 ++ .ref bb :: q := by rw [← hdrop, List.take_append_drop]
                        conv => lhs; rw [this]
                        rw [List.map_append]
                        rfl
                      obtain ⟨n1, n2, n3⟩ := j9 b1
                      unfold xq_M at hM
                      rw [n3] at hM hgi
                      have hpre : PreS s H (va_Pc ((.ref bb :: (st.take mj.2.2.2.2.2.2.1).reverse).map (xh_v ad sp)) (xq_P D cy ad sp h H.size)) (.ref (ad bb) :: (st.take mj.2.2.2.2.2.2.1).reverse.map (xh_v ad sp)) := ⟨xq_blind _ _ _, xq_pre X0 hat hS⟩
                      refine xa_call (va_runI (b := ad bb) (As := (st.take mj.2.2.2.2.2.2.1).reverse.map (xh_v ad sp)) ⟨hx, hb, hml, hown, hts⟩ hM ⟨callB_of mj.2.2.2.2.2.2.1 hts hgi rfl rfl rfl (hts _ j2) (hts _ hlk) j5 (hRm mc ms), n2, hts _ n1⟩ hpre rfl (by rw [List.length_map, List.length_reverse]; exact b3) hl.1 hst (lv_room ?_) hd hcap) hS hfree go
                      show xm_cat (q.map (xh_v ad sp)) ≤ 8
                      rw [xm_cat_m]
                      exact b4
                    · cases hcl
                  · cases hcl
end XALL
end
