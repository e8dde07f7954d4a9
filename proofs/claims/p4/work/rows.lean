section
-- ===== PART A: goes FIRST, ahead of the names: the tables' words, and 'selects' of the private methods out of them =====
/-- a private method of a class that the tables say can be made, by its rows of tables_1 -/
def lw_okq (q : MethodName × Nat) : Prop := (q.1.cls ≠ "java/lang/invoke/MethodHandle" ∧ q.1.cls ≠ "java/lang/invoke/VarHandle") ∧ Cond.instantiable q.1.cls q.2 ∈ tables_1 ∧ Cond.privateMethod q.1 ∈ tables_1 ∧ Cond.instanceMethod q.1 ∈ tables_1
theorem lw_p0 : lw_okq (⟨"CarryHouse$Scanner", "takeRun", "()V"⟩, 7) := ⟨⟨by decide +kernel, by decide +kernel⟩, List.mem_of_getElem? (i := 74) (by decide +kernel), List.mem_of_getElem? (i := 432) (by decide +kernel), List.mem_of_getElem? (i := 433) (by decide +kernel)⟩
theorem lw_p1 : lw_okq (⟨"CarryHouse$Reader", "readBody", "()Z"⟩, 10) := ⟨⟨by decide +kernel, by decide +kernel⟩, List.mem_of_getElem? (i := 48) (by decide +kernel), List.mem_of_getElem? (i := 492) (by decide +kernel), List.mem_of_getElem? (i := 493) (by decide +kernel)⟩
theorem lw_p2 : lw_okq (⟨"CarryHouse$Reader", "takeNewName", "()Z"⟩, 10) := ⟨⟨by decide +kernel, by decide +kernel⟩, List.mem_of_getElem? (i := 48) (by decide +kernel), List.mem_of_getElem? (i := 497) (by decide +kernel), List.mem_of_getElem? (i := 498) (by decide +kernel)⟩
theorem lw_p3 : lw_okq (⟨"CarryHouse$Reader", "fail", "(II)Z"⟩, 10) := ⟨⟨by decide +kernel, by decide +kernel⟩, List.mem_of_getElem? (i := 48) (by decide +kernel), List.mem_of_getElem? (i := 511) (by decide +kernel), List.mem_of_getElem? (i := 512) (by decide +kernel)⟩
theorem lw_p4 : lw_okq (⟨"CarryHouse$Reader", "toldName", "()I"⟩, 10) := ⟨⟨by decide +kernel, by decide +kernel⟩, List.mem_of_getElem? (i := 48) (by decide +kernel), List.mem_of_getElem? (i := 515) (by decide +kernel), List.mem_of_getElem? (i := 516) (by decide +kernel)⟩
theorem lw_p5 : lw_okq (⟨"CarryHouse$Reader", "takeSign", "(I)Z"⟩, 10) := ⟨⟨by decide +kernel, by decide +kernel⟩, List.mem_of_getElem? (i := 48) (by decide +kernel), List.mem_of_getElem? (i := 523) (by decide +kernel), List.mem_of_getElem? (i := 524) (by decide +kernel)⟩
theorem lw_p6 : lw_okq (⟨"CarryHouse$Reader", "readRule", "()Z"⟩, 10) := ⟨⟨by decide +kernel, by decide +kernel⟩, List.mem_of_getElem? (i := 48) (by decide +kernel), List.mem_of_getElem? (i := 527) (by decide +kernel), List.mem_of_getElem? (i := 528) (by decide +kernel)⟩
theorem lw_p7 : lw_okq (⟨"CarryHouse$Reader", "readAll", "()Z"⟩, 10) := ⟨⟨by decide +kernel, by decide +kernel⟩, List.mem_of_getElem? (i := 48) (by decide +kernel), List.mem_of_getElem? (i := 531) (by decide +kernel), List.mem_of_getElem? (i := 532) (by decide +kernel)⟩
theorem lw_p8 : lw_okq (⟨"CarryHouse$Reader", "readOne", "()Z"⟩, 10) := ⟨⟨by decide +kernel, by decide +kernel⟩, List.mem_of_getElem? (i := 48) (by decide +kernel), List.mem_of_getElem? (i := 535) (by decide +kernel), List.mem_of_getElem? (i := 536) (by decide +kernel)⟩
theorem lw_p9 : lw_okq (⟨"CarryHouse$Reader", "readQuota", "(II)Z"⟩, 10) := ⟨⟨by decide +kernel, by decide +kernel⟩, List.mem_of_getElem? (i := 48) (by decide +kernel), List.mem_of_getElem? (i := 539) (by decide +kernel), List.mem_of_getElem? (i := 540) (by decide +kernel)⟩
theorem lw_p10 : lw_okq (⟨"CarryHouse$Reader", "countOne", "(I)Z"⟩, 10) := ⟨⟨by decide +kernel, by decide +kernel⟩, List.mem_of_getElem? (i := 48) (by decide +kernel), List.mem_of_getElem? (i := 543) (by decide +kernel), List.mem_of_getElem? (i := 544) (by decide +kernel)⟩
theorem lw_p11 : lw_okq (⟨"CarryHouse$Reader", "takeWord", "(Ljava/lang/String;)Z"⟩, 10) := ⟨⟨by decide +kernel, by decide +kernel⟩, List.mem_of_getElem? (i := 48) (by decide +kernel), List.mem_of_getElem? (i := 548) (by decide +kernel), List.mem_of_getElem? (i := 549) (by decide +kernel)⟩
theorem lw_p12 : lw_okq (⟨"CarryHouse$Reader", "takeOpening", "(I)Z"⟩, 10) := ⟨⟨by decide +kernel, by decide +kernel⟩, List.mem_of_getElem? (i := 48) (by decide +kernel), List.mem_of_getElem? (i := 552) (by decide +kernel), List.mem_of_getElem? (i := 553) (by decide +kernel)⟩
theorem lw_p13 : lw_okq (⟨"CarryHouse$Reader", "readItem", "()Z"⟩, 10) := ⟨⟨by decide +kernel, by decide +kernel⟩, List.mem_of_getElem? (i := 48) (by decide +kernel), List.mem_of_getElem? (i := 560) (by decide +kernel), List.mem_of_getElem? (i := 561) (by decide +kernel)⟩
theorem lw_p14 : lw_okq (⟨"CarryHouse$Reader", "noteMember", "()Z"⟩, 10) := ⟨⟨by decide +kernel, by decide +kernel⟩, List.mem_of_getElem? (i := 48) (by decide +kernel), List.mem_of_getElem? (i := 568) (by decide +kernel), List.mem_of_getElem? (i := 569) (by decide +kernel)⟩
theorem lw_p15 : lw_okq (⟨"CarryHouse$Reader", "noteName", "()Z"⟩, 10) := ⟨⟨by decide +kernel, by decide +kernel⟩, List.mem_of_getElem? (i := 48) (by decide +kernel), List.mem_of_getElem? (i := 576) (by decide +kernel), List.mem_of_getElem? (i := 577) (by decide +kernel)⟩
def lw_privs_1 : List (MethodName × Nat) := [(⟨"CarryHouse$Scanner", "takeRun", "()V"⟩, 7), (⟨"CarryHouse$Reader", "readBody", "()Z"⟩, 10), (⟨"CarryHouse$Reader", "takeNewName", "()Z"⟩, 10), (⟨"CarryHouse$Reader", "fail", "(II)Z"⟩, 10), (⟨"CarryHouse$Reader", "toldName", "()I"⟩, 10), (⟨"CarryHouse$Reader", "takeSign", "(I)Z"⟩, 10), (⟨"CarryHouse$Reader", "readRule", "()Z"⟩, 10), (⟨"CarryHouse$Reader", "readAll", "()Z"⟩, 10), (⟨"CarryHouse$Reader", "readOne", "()Z"⟩, 10), (⟨"CarryHouse$Reader", "readQuota", "(II)Z"⟩, 10), (⟨"CarryHouse$Reader", "countOne", "(I)Z"⟩, 10), (⟨"CarryHouse$Reader", "takeWord", "(Ljava/lang/String;)Z"⟩, 10), (⟨"CarryHouse$Reader", "takeOpening", "(I)Z"⟩, 10), (⟨"CarryHouse$Reader", "readItem", "()Z"⟩, 10), (⟨"CarryHouse$Reader", "noteMember", "()Z"⟩, 10), (⟨"CarryHouse$Reader", "noteName", "()Z"⟩, 10)]
theorem lw_r1 : ∀ q ∈ lw_privs_1, lw_okq q := List.forall_mem_cons.mpr ⟨lw_p0, List.forall_mem_cons.mpr ⟨lw_p1, List.forall_mem_cons.mpr ⟨lw_p2, List.forall_mem_cons.mpr ⟨lw_p3, List.forall_mem_cons.mpr ⟨lw_p4, List.forall_mem_cons.mpr ⟨lw_p5, List.forall_mem_cons.mpr ⟨lw_p6, List.forall_mem_cons.mpr ⟨lw_p7, List.forall_mem_cons.mpr ⟨lw_p8, List.forall_mem_cons.mpr ⟨lw_p9, List.forall_mem_cons.mpr ⟨lw_p10, List.forall_mem_cons.mpr ⟨lw_p11, List.forall_mem_cons.mpr ⟨lw_p12, List.forall_mem_cons.mpr ⟨lw_p13, List.forall_mem_cons.mpr ⟨lw_p14, List.forall_mem_cons.mpr ⟨lw_p15, fun _ h => absurd h List.not_mem_nil⟩⟩⟩⟩⟩⟩⟩⟩⟩⟩⟩⟩⟩⟩⟩⟩
theorem lw_p16 : lw_okq (⟨"CarryHouse$Reader", "takeEnd", "()Z"⟩, 10) := ⟨⟨by decide +kernel, by decide +kernel⟩, List.mem_of_getElem? (i := 48) (by decide +kernel), List.mem_of_getElem? (i := 583) (by decide +kernel), List.mem_of_getElem? (i := 584) (by decide +kernel)⟩
theorem lw_p17 : lw_okq (⟨"CarryHouse$Program", "run", "(I)Z"⟩, 4) := ⟨⟨by decide +kernel, by decide +kernel⟩, List.mem_of_getElem? (i := 54) (by decide +kernel), List.mem_of_getElem? (i := 595) (by decide +kernel), List.mem_of_getElem? (i := 596) (by decide +kernel)⟩
theorem lw_p18 : lw_okq (⟨"CarryHouse$Program", "push", "(II)I"⟩, 4) := ⟨⟨by decide +kernel, by decide +kernel⟩, List.mem_of_getElem? (i := 54) (by decide +kernel), List.mem_of_getElem? (i := 599) (by decide +kernel), List.mem_of_getElem? (i := 600) (by decide +kernel)⟩
theorem lw_p19 : lw_okq (⟨"CarryHouse$Program", "peek", "(I)I"⟩, 4) := ⟨⟨by decide +kernel, by decide +kernel⟩, List.mem_of_getElem? (i := 54) (by decide +kernel), List.mem_of_getElem? (i := 603) (by decide +kernel), List.mem_of_getElem? (i := 604) (by decide +kernel)⟩
theorem lw_p20 : lw_okq (⟨"CarryHouse$Program", "replace", "(II)V"⟩, 4) := ⟨⟨by decide +kernel, by decide +kernel⟩, List.mem_of_getElem? (i := 54) (by decide +kernel), List.mem_of_getElem? (i := 607) (by decide +kernel), List.mem_of_getElem? (i := 608) (by decide +kernel)⟩
theorem lw_p21 : lw_okq (⟨"CarryHouse", "isSet", "(I)Z"⟩, 12) := ⟨⟨by decide +kernel, by decide +kernel⟩, List.mem_of_getElem? (i := 23) (by decide +kernel), List.mem_of_getElem? (i := 623) (by decide +kernel), List.mem_of_getElem? (i := 624) (by decide +kernel)⟩
theorem lw_p22 : lw_okq (⟨"CarryHouse", "inForce", "(I)LCarryHouse$Statute;"⟩, 12) := ⟨⟨by decide +kernel, by decide +kernel⟩, List.mem_of_getElem? (i := 23) (by decide +kernel), List.mem_of_getElem? (i := 627) (by decide +kernel), List.mem_of_getElem? (i := 628) (by decide +kernel)⟩
theorem lw_p23 : lw_okq (⟨"CarryHouse", "powersToday", "()LCarryHouse$Powers;"⟩, 12) := ⟨⟨by decide +kernel, by decide +kernel⟩, List.mem_of_getElem? (i := 23) (by decide +kernel), List.mem_of_getElem? (i := 639) (by decide +kernel), List.mem_of_getElem? (i := 640) (by decide +kernel)⟩
theorem lw_p24 : lw_okq (⟨"CarryHouse$Powers", "list", "([IZ)I"⟩, 13) := ⟨⟨by decide +kernel, by decide +kernel⟩, List.mem_of_getElem? (i := 157) (by decide +kernel), List.mem_of_getElem? (i := 651) (by decide +kernel), List.mem_of_getElem? (i := 652) (by decide +kernel)⟩
theorem lw_p25 : lw_okq (⟨"CarryHouse$Powers", "isMinimal", "(IZ)Z"⟩, 13) := ⟨⟨by decide +kernel, by decide +kernel⟩, List.mem_of_getElem? (i := 157) (by decide +kernel), List.mem_of_getElem? (i := 655) (by decide +kernel), List.mem_of_getElem? (i := 656) (by decide +kernel)⟩
theorem lw_p26 : lw_okq (⟨"CarryHouse$Powers", "does", "(IZ)Z"⟩, 13) := ⟨⟨by decide +kernel, by decide +kernel⟩, List.mem_of_getElem? (i := 157) (by decide +kernel), List.mem_of_getElem? (i := 659) (by decide +kernel), List.mem_of_getElem? (i := 660) (by decide +kernel)⟩
theorem lw_p27 : lw_okq (⟨"CarryHouse$Powers", "markNeeded", "()V"⟩, 13) := ⟨⟨by decide +kernel, by decide +kernel⟩, List.mem_of_getElem? (i := 157) (by decide +kernel), List.mem_of_getElem? (i := 671) (by decide +kernel), List.mem_of_getElem? (i := 672) (by decide +kernel)⟩
theorem lw_p28 : lw_okq (⟨"CarryHouse$Powers", "countSwings", "(I)I"⟩, 13) := ⟨⟨by decide +kernel, by decide +kernel⟩, List.mem_of_getElem? (i := 157) (by decide +kernel), List.mem_of_getElem? (i := 675) (by decide +kernel), List.mem_of_getElem? (i := 676) (by decide +kernel)⟩
theorem lw_p29 : lw_okq (⟨"CarryHouse$Powers", "turnsBy", "(II)Z"⟩, 13) := ⟨⟨by decide +kernel, by decide +kernel⟩, List.mem_of_getElem? (i := 157) (by decide +kernel), List.mem_of_getElem? (i := 679) (by decide +kernel), List.mem_of_getElem? (i := 680) (by decide +kernel)⟩
theorem lw_p30 : lw_okq (⟨"CarryHouse$Powers", "compareAll", "()V"⟩, 13) := ⟨⟨by decide +kernel, by decide +kernel⟩, List.mem_of_getElem? (i := 157) (by decide +kernel), List.mem_of_getElem? (i := 683) (by decide +kernel), List.mem_of_getElem? (i := 684) (by decide +kernel)⟩
theorem lw_p31 : lw_okq (⟨"CarryHouse$Powers", "isAtLeast", "(II)Z"⟩, 13) := ⟨⟨by decide +kernel, by decide +kernel⟩, List.mem_of_getElem? (i := 157) (by decide +kernel), List.mem_of_getElem? (i := 687) (by decide +kernel), List.mem_of_getElem? (i := 688) (by decide +kernel)⟩
def lw_privs_2 : List (MethodName × Nat) := [(⟨"CarryHouse$Reader", "takeEnd", "()Z"⟩, 10), (⟨"CarryHouse$Program", "run", "(I)Z"⟩, 4), (⟨"CarryHouse$Program", "push", "(II)I"⟩, 4), (⟨"CarryHouse$Program", "peek", "(I)I"⟩, 4), (⟨"CarryHouse$Program", "replace", "(II)V"⟩, 4), (⟨"CarryHouse", "isSet", "(I)Z"⟩, 12), (⟨"CarryHouse", "inForce", "(I)LCarryHouse$Statute;"⟩, 12), (⟨"CarryHouse", "powersToday", "()LCarryHouse$Powers;"⟩, 12), (⟨"CarryHouse$Powers", "list", "([IZ)I"⟩, 13), (⟨"CarryHouse$Powers", "isMinimal", "(IZ)Z"⟩, 13), (⟨"CarryHouse$Powers", "does", "(IZ)Z"⟩, 13), (⟨"CarryHouse$Powers", "markNeeded", "()V"⟩, 13), (⟨"CarryHouse$Powers", "countSwings", "(I)I"⟩, 13), (⟨"CarryHouse$Powers", "turnsBy", "(II)Z"⟩, 13), (⟨"CarryHouse$Powers", "compareAll", "()V"⟩, 13), (⟨"CarryHouse$Powers", "isAtLeast", "(II)Z"⟩, 13)]
theorem lw_r2 : ∀ q ∈ lw_privs_2, lw_okq q := List.forall_mem_cons.mpr ⟨lw_p16, List.forall_mem_cons.mpr ⟨lw_p17, List.forall_mem_cons.mpr ⟨lw_p18, List.forall_mem_cons.mpr ⟨lw_p19, List.forall_mem_cons.mpr ⟨lw_p20, List.forall_mem_cons.mpr ⟨lw_p21, List.forall_mem_cons.mpr ⟨lw_p22, List.forall_mem_cons.mpr ⟨lw_p23, List.forall_mem_cons.mpr ⟨lw_p24, List.forall_mem_cons.mpr ⟨lw_p25, List.forall_mem_cons.mpr ⟨lw_p26, List.forall_mem_cons.mpr ⟨lw_p27, List.forall_mem_cons.mpr ⟨lw_p28, List.forall_mem_cons.mpr ⟨lw_p29, List.forall_mem_cons.mpr ⟨lw_p30, List.forall_mem_cons.mpr ⟨lw_p31, fun _ h => absurd h List.not_mem_nil⟩⟩⟩⟩⟩⟩⟩⟩⟩⟩⟩⟩⟩⟩⟩⟩
theorem lw_p32 : lw_okq (⟨"CarryHouse", "isMember", "(I)Z"⟩, 12) := ⟨⟨by decide +kernel, by decide +kernel⟩, List.mem_of_getElem? (i := 23) (by decide +kernel), List.mem_of_getElem? (i := 720) (by decide +kernel), List.mem_of_getElem? (i := 721) (by decide +kernel)⟩
theorem lw_p33 : lw_okq (⟨"CarryHouse$Powers", "countTogether", "(II)I"⟩, 13) := ⟨⟨by decide +kernel, by decide +kernel⟩, List.mem_of_getElem? (i := 157) (by decide +kernel), List.mem_of_getElem? (i := 749) (by decide +kernel), List.mem_of_getElem? (i := 750) (by decide +kernel)⟩
theorem lw_p34 : lw_okq (⟨"CarryHouse$Scales", "search", "()I"⟩, 16) := ⟨⟨by decide +kernel, by decide +kernel⟩, List.mem_of_getElem? (i := 216) (by decide +kernel), List.mem_of_getElem? (i := 762) (by decide +kernel), List.mem_of_getElem? (i := 763) (by decide +kernel)⟩
theorem lw_p35 : lw_okq (⟨"CarryHouse$Scales", "findClasses", "()V"⟩, 16) := ⟨⟨by decide +kernel, by decide +kernel⟩, List.mem_of_getElem? (i := 216) (by decide +kernel), List.mem_of_getElem? (i := 767) (by decide +kernel), List.mem_of_getElem? (i := 768) (by decide +kernel)⟩
theorem lw_p36 : lw_okq (⟨"CarryHouse$Scales", "isFirst", "(I)Z"⟩, 16) := ⟨⟨by decide +kernel, by decide +kernel⟩, List.mem_of_getElem? (i := 216) (by decide +kernel), List.mem_of_getElem? (i := 771) (by decide +kernel), List.mem_of_getElem? (i := 772) (by decide +kernel)⟩
theorem lw_p37 : lw_okq (⟨"CarryHouse$Scales", "strengthOf", "(I)I"⟩, 16) := ⟨⟨by decide +kernel, by decide +kernel⟩, List.mem_of_getElem? (i := 216) (by decide +kernel), List.mem_of_getElem? (i := 776) (by decide +kernel), List.mem_of_getElem? (i := 777) (by decide +kernel)⟩
theorem lw_p38 : lw_okq (⟨"CarryHouse$Scales", "place", "(II)V"⟩, 16) := ⟨⟨by decide +kernel, by decide +kernel⟩, List.mem_of_getElem? (i := 216) (by decide +kernel), List.mem_of_getElem? (i := 780) (by decide +kernel), List.mem_of_getElem? (i := 781) (by decide +kernel)⟩
theorem lw_p39 : lw_okq (⟨"CarryHouse$Scales", "tryRow", "()V"⟩, 16) := ⟨⟨by decide +kernel, by decide +kernel⟩, List.mem_of_getElem? (i := 216) (by decide +kernel), List.mem_of_getElem? (i := 784) (by decide +kernel), List.mem_of_getElem? (i := 785) (by decide +kernel)⟩
theorem lw_p40 : lw_okq (⟨"CarryHouse$Scales", "doesTheSame", "()Z"⟩, 16) := ⟨⟨by decide +kernel, by decide +kernel⟩, List.mem_of_getElem? (i := 216) (by decide +kernel), List.mem_of_getElem? (i := 788) (by decide +kernel), List.mem_of_getElem? (i := 789) (by decide +kernel)⟩
theorem lw_p41 : lw_okq (⟨"CarryHouse$Scales", "weightOf", "(I)I"⟩, 16) := ⟨⟨by decide +kernel, by decide +kernel⟩, List.mem_of_getElem? (i := 216) (by decide +kernel), List.mem_of_getElem? (i := 792) (by decide +kernel), List.mem_of_getElem? (i := 793) (by decide +kernel)⟩
theorem lw_p42 : lw_okq (⟨"CarryHouse$Scales", "lightest", "([II)I"⟩, 16) := ⟨⟨by decide +kernel, by decide +kernel⟩, List.mem_of_getElem? (i := 216) (by decide +kernel), List.mem_of_getElem? (i := 796) (by decide +kernel), List.mem_of_getElem? (i := 797) (by decide +kernel)⟩
theorem lw_p43 : lw_okq (⟨"CarryHouse$Scales", "tell", "()V"⟩, 16) := ⟨⟨by decide +kernel, by decide +kernel⟩, List.mem_of_getElem? (i := 216) (by decide +kernel), List.mem_of_getElem? (i := 800) (by decide +kernel), List.mem_of_getElem? (i := 801) (by decide +kernel)⟩
theorem lw_p44 : lw_okq (⟨"CarryHouse$Scales", "lowest", "(I)I"⟩, 16) := ⟨⟨by decide +kernel, by decide +kernel⟩, List.mem_of_getElem? (i := 216) (by decide +kernel), List.mem_of_getElem? (i := 804) (by decide +kernel), List.mem_of_getElem? (i := 805) (by decide +kernel)⟩
theorem lw_p45 : lw_okq (⟨"CarryHouse$Scales", "highest", "(II)I"⟩, 16) := ⟨⟨by decide +kernel, by decide +kernel⟩, List.mem_of_getElem? (i := 216) (by decide +kernel), List.mem_of_getElem? (i := 808) (by decide +kernel), List.mem_of_getElem? (i := 809) (by decide +kernel)⟩
theorem lw_p46 : lw_okq (⟨"CarryHouse$Scales", "leastRest", "()I"⟩, 16) := ⟨⟨by decide +kernel, by decide +kernel⟩, List.mem_of_getElem? (i := 216) (by decide +kernel), List.mem_of_getElem? (i := 812) (by decide +kernel), List.mem_of_getElem? (i := 813) (by decide +kernel)⟩
theorem lw_p47 : lw_okq (⟨"CarryHouse$Scales", "mostRest", "()I"⟩, 16) := ⟨⟨by decide +kernel, by decide +kernel⟩, List.mem_of_getElem? (i := 216) (by decide +kernel), List.mem_of_getElem? (i := 816) (by decide +kernel), List.mem_of_getElem? (i := 817) (by decide +kernel)⟩
def lw_privs_3 : List (MethodName × Nat) := [(⟨"CarryHouse", "isMember", "(I)Z"⟩, 12), (⟨"CarryHouse$Powers", "countTogether", "(II)I"⟩, 13), (⟨"CarryHouse$Scales", "search", "()I"⟩, 16), (⟨"CarryHouse$Scales", "findClasses", "()V"⟩, 16), (⟨"CarryHouse$Scales", "isFirst", "(I)Z"⟩, 16), (⟨"CarryHouse$Scales", "strengthOf", "(I)I"⟩, 16), (⟨"CarryHouse$Scales", "place", "(II)V"⟩, 16), (⟨"CarryHouse$Scales", "tryRow", "()V"⟩, 16), (⟨"CarryHouse$Scales", "doesTheSame", "()Z"⟩, 16), (⟨"CarryHouse$Scales", "weightOf", "(I)I"⟩, 16), (⟨"CarryHouse$Scales", "lightest", "([II)I"⟩, 16), (⟨"CarryHouse$Scales", "tell", "()V"⟩, 16), (⟨"CarryHouse$Scales", "lowest", "(I)I"⟩, 16), (⟨"CarryHouse$Scales", "highest", "(II)I"⟩, 16), (⟨"CarryHouse$Scales", "leastRest", "()I"⟩, 16), (⟨"CarryHouse$Scales", "mostRest", "()I"⟩, 16)]
theorem lw_r3 : ∀ q ∈ lw_privs_3, lw_okq q := List.forall_mem_cons.mpr ⟨lw_p32, List.forall_mem_cons.mpr ⟨lw_p33, List.forall_mem_cons.mpr ⟨lw_p34, List.forall_mem_cons.mpr ⟨lw_p35, List.forall_mem_cons.mpr ⟨lw_p36, List.forall_mem_cons.mpr ⟨lw_p37, List.forall_mem_cons.mpr ⟨lw_p38, List.forall_mem_cons.mpr ⟨lw_p39, List.forall_mem_cons.mpr ⟨lw_p40, List.forall_mem_cons.mpr ⟨lw_p41, List.forall_mem_cons.mpr ⟨lw_p42, List.forall_mem_cons.mpr ⟨lw_p43, List.forall_mem_cons.mpr ⟨lw_p44, List.forall_mem_cons.mpr ⟨lw_p45, List.forall_mem_cons.mpr ⟨lw_p46, List.forall_mem_cons.mpr ⟨lw_p47, fun _ h => absurd h List.not_mem_nil⟩⟩⟩⟩⟩⟩⟩⟩⟩⟩⟩⟩⟩⟩⟩⟩
theorem lw_p48 : lw_okq (⟨"CarryHouse$Ballot", "findReach", "()V"⟩, 7) := ⟨⟨by decide +kernel, by decide +kernel⟩, List.mem_of_getElem? (i := 273) (by decide +kernel), List.mem_of_getElem? (i := 871) (by decide +kernel), List.mem_of_getElem? (i := 872) (by decide +kernel)⟩
theorem lw_p49 : lw_okq (⟨"CarryHouse$Ballot", "wins", "(II)Z"⟩, 7) := ⟨⟨by decide +kernel, by decide +kernel⟩, List.mem_of_getElem? (i := 273) (by decide +kernel), List.mem_of_getElem? (i := 875) (by decide +kernel), List.mem_of_getElem? (i := 876) (by decide +kernel)⟩
theorem lw_p50 : lw_okq (⟨"CarryHouse$Ballot", "stands", "(II)I"⟩, 7) := ⟨⟨by decide +kernel, by decide +kernel⟩, List.mem_of_getElem? (i := 273) (by decide +kernel), List.mem_of_getElem? (i := 887) (by decide +kernel), List.mem_of_getElem? (i := 888) (by decide +kernel)⟩
theorem lw_p51 : lw_okq (⟨"CarryHouse$Ballot", "countWays", "(I)V"⟩, 7) := ⟨⟨by decide +kernel, by decide +kernel⟩, List.mem_of_getElem? (i := 273) (by decide +kernel), List.mem_of_getElem? (i := 903) (by decide +kernel), List.mem_of_getElem? (i := 904) (by decide +kernel)⟩
theorem lw_p52 : lw_okq (⟨"CarryHouse$Ballot", "waysFrom", "(II)I"⟩, 7) := ⟨⟨by decide +kernel, by decide +kernel⟩, List.mem_of_getElem? (i := 273) (by decide +kernel), List.mem_of_getElem? (i := 907) (by decide +kernel), List.mem_of_getElem? (i := 908) (by decide +kernel)⟩
theorem lw_p53 : lw_okq (⟨"CarryHouse$Ballot", "findFirstRow", "()V"⟩, 7) := ⟨⟨by decide +kernel, by decide +kernel⟩, List.mem_of_getElem? (i := 273) (by decide +kernel), List.mem_of_getElem? (i := 911) (by decide +kernel), List.mem_of_getElem? (i := 912) (by decide +kernel)⟩
theorem lw_p54 : lw_okq (⟨"java/lang/Throwable", "fillInStackTrace", "(I)Ljava/lang/Throwable;"⟩, 6) := ⟨⟨by decide +kernel, by decide +kernel⟩, List.mem_of_getElem? (i := 991) (by decide +kernel), List.mem_of_getElem? (i := 989) (by decide +kernel), List.mem_of_getElem? (i := 990) (by decide +kernel)⟩
theorem lw_p55 : lw_okq (⟨"CarryHouse$Powers", "ordersOf", "(I)J"⟩, 13) := ⟨⟨by decide +kernel, by decide +kernel⟩, List.mem_of_getElem? (i := 157) (by decide +kernel), List.mem_of_getElem? (i := 1020) (by decide +kernel), List.mem_of_getElem? (i := 1021) (by decide +kernel)⟩
theorem lw_p56 : lw_okq (⟨"CarryHouse$Powers", "partsOf", "(I)J"⟩, 13) := ⟨⟨by decide +kernel, by decide +kernel⟩, List.mem_of_getElem? (i := 157) (by decide +kernel), List.mem_of_getElem? (i := 1026) (by decide +kernel), List.mem_of_getElem? (i := 1027) (by decide +kernel)⟩
theorem lw_p57 : lw_okq (⟨"CarryHouseModel", "come", "(I)V"⟩, 64) := ⟨⟨by decide +kernel, by decide +kernel⟩, List.mem_of_getElem? (i := 1038) (by decide +kernel), List.mem_of_getElem? (i := 1244) (by decide +kernel), List.mem_of_getElem? (i := 1245) (by decide +kernel)⟩
theorem lw_p58 : lw_okq (⟨"CarryHouseModel", "take", "()I"⟩, 64) := ⟨⟨by decide +kernel, by decide +kernel⟩, List.mem_of_getElem? (i := 1038) (by decide +kernel), List.mem_of_getElem? (i := 1267) (by decide +kernel), List.mem_of_getElem? (i := 1268) (by decide +kernel)⟩
theorem lw_p59 : lw_okq (⟨"CarryHouseModel", "go", "()V"⟩, 64) := ⟨⟨by decide +kernel, by decide +kernel⟩, List.mem_of_getElem? (i := 1038) (by decide +kernel), List.mem_of_getElem? (i := 1271) (by decide +kernel), List.mem_of_getElem? (i := 1272) (by decide +kernel)⟩
theorem lw_p60 : lw_okq (⟨"CarryHouseModel", "byteAt", "(I)I"⟩, 64) := ⟨⟨by decide +kernel, by decide +kernel⟩, List.mem_of_getElem? (i := 1038) (by decide +kernel), List.mem_of_getElem? (i := 1284) (by decide +kernel), List.mem_of_getElem? (i := 1285) (by decide +kernel)⟩
theorem lw_p61 : lw_okq (⟨"CarryHouseModel", "isBody", "()Z"⟩, 64) := ⟨⟨by decide +kernel, by decide +kernel⟩, List.mem_of_getElem? (i := 1038) (by decide +kernel), List.mem_of_getElem? (i := 1290) (by decide +kernel), List.mem_of_getElem? (i := 1291) (by decide +kernel)⟩
theorem lw_p62 : lw_okq (⟨"CarryHouseModel", "isKey", "(J)Z"⟩, 64) := ⟨⟨by decide +kernel, by decide +kernel⟩, List.mem_of_getElem? (i := 1038) (by decide +kernel), List.mem_of_getElem? (i := 1297) (by decide +kernel), List.mem_of_getElem? (i := 1298) (by decide +kernel)⟩
theorem lw_p63 : lw_okq (⟨"CarryHouseModel", "readBody", "()Z"⟩, 64) := ⟨⟨by decide +kernel, by decide +kernel⟩, List.mem_of_getElem? (i := 1038) (by decide +kernel), List.mem_of_getElem? (i := 1301) (by decide +kernel), List.mem_of_getElem? (i := 1302) (by decide +kernel)⟩
def lw_privs_4 : List (MethodName × Nat) := [(⟨"CarryHouse$Ballot", "findReach", "()V"⟩, 7), (⟨"CarryHouse$Ballot", "wins", "(II)Z"⟩, 7), (⟨"CarryHouse$Ballot", "stands", "(II)I"⟩, 7), (⟨"CarryHouse$Ballot", "countWays", "(I)V"⟩, 7), (⟨"CarryHouse$Ballot", "waysFrom", "(II)I"⟩, 7), (⟨"CarryHouse$Ballot", "findFirstRow", "()V"⟩, 7), (⟨"java/lang/Throwable", "fillInStackTrace", "(I)Ljava/lang/Throwable;"⟩, 6), (⟨"CarryHouse$Powers", "ordersOf", "(I)J"⟩, 13), (⟨"CarryHouse$Powers", "partsOf", "(I)J"⟩, 13), (⟨"CarryHouseModel", "come", "(I)V"⟩, 64), (⟨"CarryHouseModel", "take", "()I"⟩, 64), (⟨"CarryHouseModel", "go", "()V"⟩, 64), (⟨"CarryHouseModel", "byteAt", "(I)I"⟩, 64), (⟨"CarryHouseModel", "isBody", "()Z"⟩, 64), (⟨"CarryHouseModel", "isKey", "(J)Z"⟩, 64), (⟨"CarryHouseModel", "readBody", "()Z"⟩, 64)]
theorem lw_r4 : ∀ q ∈ lw_privs_4, lw_okq q := List.forall_mem_cons.mpr ⟨lw_p48, List.forall_mem_cons.mpr ⟨lw_p49, List.forall_mem_cons.mpr ⟨lw_p50, List.forall_mem_cons.mpr ⟨lw_p51, List.forall_mem_cons.mpr ⟨lw_p52, List.forall_mem_cons.mpr ⟨lw_p53, List.forall_mem_cons.mpr ⟨lw_p54, List.forall_mem_cons.mpr ⟨lw_p55, List.forall_mem_cons.mpr ⟨lw_p56, List.forall_mem_cons.mpr ⟨lw_p57, List.forall_mem_cons.mpr ⟨lw_p58, List.forall_mem_cons.mpr ⟨lw_p59, List.forall_mem_cons.mpr ⟨lw_p60, List.forall_mem_cons.mpr ⟨lw_p61, List.forall_mem_cons.mpr ⟨lw_p62, List.forall_mem_cons.mpr ⟨lw_p63, fun _ h => absurd h List.not_mem_nil⟩⟩⟩⟩⟩⟩⟩⟩⟩⟩⟩⟩⟩⟩⟩⟩
theorem lw_p64 : lw_okq (⟨"CarryHouseModel", "isName", "()Z"⟩, 64) := ⟨⟨by decide +kernel, by decide +kernel⟩, List.mem_of_getElem? (i := 1038) (by decide +kernel), List.mem_of_getElem? (i := 1305) (by decide +kernel), List.mem_of_getElem? (i := 1306) (by decide +kernel)⟩
theorem lw_p65 : lw_okq (⟨"CarryHouseModel", "isCarry", "()Z"⟩, 64) := ⟨⟨by decide +kernel, by decide +kernel⟩, List.mem_of_getElem? (i := 1038) (by decide +kernel), List.mem_of_getElem? (i := 1309) (by decide +kernel), List.mem_of_getElem? (i := 1310) (by decide +kernel)⟩
theorem lw_p66 : lw_okq (⟨"CarryHouseModel", "isAnd", "()Z"⟩, 64) := ⟨⟨by decide +kernel, by decide +kernel⟩, List.mem_of_getElem? (i := 1038) (by decide +kernel), List.mem_of_getElem? (i := 1313) (by decide +kernel), List.mem_of_getElem? (i := 1314) (by decide +kernel)⟩
theorem lw_p67 : lw_okq (⟨"CarryHouseModel", "isOr", "()Z"⟩, 64) := ⟨⟨by decide +kernel, by decide +kernel⟩, List.mem_of_getElem? (i := 1038) (by decide +kernel), List.mem_of_getElem? (i := 1317) (by decide +kernel), List.mem_of_getElem? (i := 1318) (by decide +kernel)⟩
theorem lw_p68 : lw_okq (⟨"CarryHouseModel", "isOf", "()Z"⟩, 64) := ⟨⟨by decide +kernel, by decide +kernel⟩, List.mem_of_getElem? (i := 1038) (by decide +kernel), List.mem_of_getElem? (i := 1321) (by decide +kernel), List.mem_of_getElem? (i := 1322) (by decide +kernel)⟩
theorem lw_p69 : lw_okq (⟨"CarryHouseModel", "bad", "(I)Z"⟩, 64) := ⟨⟨by decide +kernel, by decide +kernel⟩, List.mem_of_getElem? (i := 1038) (by decide +kernel), List.mem_of_getElem? (i := 1325) (by decide +kernel), List.mem_of_getElem? (i := 1326) (by decide +kernel)⟩
theorem lw_p70 : lw_okq (⟨"CarryHouseModel", "nameAtHand", "()I"⟩, 64) := ⟨⟨by decide +kernel, by decide +kernel⟩, List.mem_of_getElem? (i := 1038) (by decide +kernel), List.mem_of_getElem? (i := 1329) (by decide +kernel), List.mem_of_getElem? (i := 1330) (by decide +kernel)⟩
theorem lw_p71 : lw_okq (⟨"CarryHouseModel", "isSign", "(I)Z"⟩, 64) := ⟨⟨by decide +kernel, by decide +kernel⟩, List.mem_of_getElem? (i := 1038) (by decide +kernel), List.mem_of_getElem? (i := 1333) (by decide +kernel), List.mem_of_getElem? (i := 1334) (by decide +kernel)⟩
theorem lw_p72 : lw_okq (⟨"CarryHouseModel", "readRule", "()Z"⟩, 64) := ⟨⟨by decide +kernel, by decide +kernel⟩, List.mem_of_getElem? (i := 1038) (by decide +kernel), List.mem_of_getElem? (i := 1337) (by decide +kernel), List.mem_of_getElem? (i := 1338) (by decide +kernel)⟩
theorem lw_p73 : lw_okq (⟨"CarryHouseModel", "openRule", "(I)V"⟩, 64) := ⟨⟨by decide +kernel, by decide +kernel⟩, List.mem_of_getElem? (i := 1038) (by decide +kernel), List.mem_of_getElem? (i := 1341) (by decide +kernel), List.mem_of_getElem? (i := 1342) (by decide +kernel)⟩
theorem lw_p74 : lw_okq (⟨"CarryHouseModel", "begin", "()Z"⟩, 64) := ⟨⟨by decide +kernel, by decide +kernel⟩, List.mem_of_getElem? (i := 1038) (by decide +kernel), List.mem_of_getElem? (i := 1345) (by decide +kernel), List.mem_of_getElem? (i := 1346) (by decide +kernel)⟩
theorem lw_p75 : lw_okq (⟨"CarryHouseModel", "beginItem", "()Z"⟩, 64) := ⟨⟨by decide +kernel, by decide +kernel⟩, List.mem_of_getElem? (i := 1038) (by decide +kernel), List.mem_of_getElem? (i := 1349) (by decide +kernel), List.mem_of_getElem? (i := 1350) (by decide +kernel)⟩
theorem lw_p76 : lw_okq (⟨"CarryHouseModel", "beginOne", "()Z"⟩, 64) := ⟨⟨by decide +kernel, by decide +kernel⟩, List.mem_of_getElem? (i := 1038) (by decide +kernel), List.mem_of_getElem? (i := 1353) (by decide +kernel), List.mem_of_getElem? (i := 1354) (by decide +kernel)⟩
theorem lw_p77 : lw_okq (⟨"CarryHouseModel", "isMember", "(I)Z"⟩, 64) := ⟨⟨by decide +kernel, by decide +kernel⟩, List.mem_of_getElem? (i := 1038) (by decide +kernel), List.mem_of_getElem? (i := 1357) (by decide +kernel), List.mem_of_getElem? (i := 1358) (by decide +kernel)⟩
theorem lw_p78 : lw_okq (⟨"CarryHouseModel", "beginList", "(I)Z"⟩, 64) := ⟨⟨by decide +kernel, by decide +kernel⟩, List.mem_of_getElem? (i := 1038) (by decide +kernel), List.mem_of_getElem? (i := 1361) (by decide +kernel), List.mem_of_getElem? (i := 1362) (by decide +kernel)⟩
theorem lw_p79 : lw_okq (⟨"CarryHouseModel", "openList", "(I)V"⟩, 64) := ⟨⟨by decide +kernel, by decide +kernel⟩, List.mem_of_getElem? (i := 1038) (by decide +kernel), List.mem_of_getElem? (i := 1365) (by decide +kernel), List.mem_of_getElem? (i := 1366) (by decide +kernel)⟩
def lw_privs_5 : List (MethodName × Nat) := [(⟨"CarryHouseModel", "isName", "()Z"⟩, 64), (⟨"CarryHouseModel", "isCarry", "()Z"⟩, 64), (⟨"CarryHouseModel", "isAnd", "()Z"⟩, 64), (⟨"CarryHouseModel", "isOr", "()Z"⟩, 64), (⟨"CarryHouseModel", "isOf", "()Z"⟩, 64), (⟨"CarryHouseModel", "bad", "(I)Z"⟩, 64), (⟨"CarryHouseModel", "nameAtHand", "()I"⟩, 64), (⟨"CarryHouseModel", "isSign", "(I)Z"⟩, 64), (⟨"CarryHouseModel", "readRule", "()Z"⟩, 64), (⟨"CarryHouseModel", "openRule", "(I)V"⟩, 64), (⟨"CarryHouseModel", "begin", "()Z"⟩, 64), (⟨"CarryHouseModel", "beginItem", "()Z"⟩, 64), (⟨"CarryHouseModel", "beginOne", "()Z"⟩, 64), (⟨"CarryHouseModel", "isMember", "(I)Z"⟩, 64), (⟨"CarryHouseModel", "beginList", "(I)Z"⟩, 64), (⟨"CarryHouseModel", "openList", "(I)V"⟩, 64)]
theorem lw_r5 : ∀ q ∈ lw_privs_5, lw_okq q := List.forall_mem_cons.mpr ⟨lw_p64, List.forall_mem_cons.mpr ⟨lw_p65, List.forall_mem_cons.mpr ⟨lw_p66, List.forall_mem_cons.mpr ⟨lw_p67, List.forall_mem_cons.mpr ⟨lw_p68, List.forall_mem_cons.mpr ⟨lw_p69, List.forall_mem_cons.mpr ⟨lw_p70, List.forall_mem_cons.mpr ⟨lw_p71, List.forall_mem_cons.mpr ⟨lw_p72, List.forall_mem_cons.mpr ⟨lw_p73, List.forall_mem_cons.mpr ⟨lw_p74, List.forall_mem_cons.mpr ⟨lw_p75, List.forall_mem_cons.mpr ⟨lw_p76, List.forall_mem_cons.mpr ⟨lw_p77, List.forall_mem_cons.mpr ⟨lw_p78, List.forall_mem_cons.mpr ⟨lw_p79, fun _ h => absurd h List.not_mem_nil⟩⟩⟩⟩⟩⟩⟩⟩⟩⟩⟩⟩⟩⟩⟩⟩
theorem lw_p80 : lw_okq (⟨"CarryHouseModel", "badAt", "(II)Z"⟩, 64) := ⟨⟨by decide +kernel, by decide +kernel⟩, List.mem_of_getElem? (i := 1038) (by decide +kernel), List.mem_of_getElem? (i := 1369) (by decide +kernel), List.mem_of_getElem? (i := 1370) (by decide +kernel)⟩
theorem lw_p81 : lw_okq (⟨"CarryHouseModel", "end", "()Z"⟩, 64) := ⟨⟨by decide +kernel, by decide +kernel⟩, List.mem_of_getElem? (i := 1038) (by decide +kernel), List.mem_of_getElem? (i := 1373) (by decide +kernel), List.mem_of_getElem? (i := 1374) (by decide +kernel)⟩
theorem lw_p82 : lw_okq (⟨"CarryHouseModel", "isSet", "(I)Z"⟩, 64) := ⟨⟨by decide +kernel, by decide +kernel⟩, List.mem_of_getElem? (i := 1038) (by decide +kernel), List.mem_of_getElem? (i := 1385) (by decide +kernel), List.mem_of_getElem? (i := 1386) (by decide +kernel)⟩
theorem lw_p83 : lw_okq (⟨"CarryHouseModel", "inForce", "(II)I"⟩, 64) := ⟨⟨by decide +kernel, by decide +kernel⟩, List.mem_of_getElem? (i := 1038) (by decide +kernel), List.mem_of_getElem? (i := 1389) (by decide +kernel), List.mem_of_getElem? (i := 1390) (by decide +kernel)⟩
theorem lw_p84 : lw_okq (⟨"CarryHouseModel", "carriesBy", "(II)Z"⟩, 64) := ⟨⟨by decide +kernel, by decide +kernel⟩, List.mem_of_getElem? (i := 1038) (by decide +kernel), List.mem_of_getElem? (i := 1393) (by decide +kernel), List.mem_of_getElem? (i := 1394) (by decide +kernel)⟩
theorem lw_p85 : lw_okq (⟨"CarryHouseModel", "lay", "()V"⟩, 64) := ⟨⟨by decide +kernel, by decide +kernel⟩, List.mem_of_getElem? (i := 1038) (by decide +kernel), List.mem_of_getElem? (i := 1401) (by decide +kernel), List.mem_of_getElem? (i := 1402) (by decide +kernel)⟩
theorem lw_p86 : lw_okq (⟨"CarryHouseModel", "countOf", "(I)I"⟩, 64) := ⟨⟨by decide +kernel, by decide +kernel⟩, List.mem_of_getElem? (i := 1038) (by decide +kernel), List.mem_of_getElem? (i := 1405) (by decide +kernel), List.mem_of_getElem? (i := 1406) (by decide +kernel)⟩
theorem lw_p87 : lw_okq (⟨"CarryHouseModel", "isOfKind", "(II)Z"⟩, 64) := ⟨⟨by decide +kernel, by decide +kernel⟩, List.mem_of_getElem? (i := 1038) (by decide +kernel), List.mem_of_getElem? (i := 1409) (by decide +kernel), List.mem_of_getElem? (i := 1410) (by decide +kernel)⟩
theorem lw_p88 : lw_okq (⟨"CarryHouseModel", "isLeast", "(I)Z"⟩, 64) := ⟨⟨by decide +kernel, by decide +kernel⟩, List.mem_of_getElem? (i := 1038) (by decide +kernel), List.mem_of_getElem? (i := 1413) (by decide +kernel), List.mem_of_getElem? (i := 1414) (by decide +kernel)⟩
theorem lw_p89 : lw_okq (⟨"CarryHouseModel", "isLeastHinder", "(I)Z"⟩, 64) := ⟨⟨by decide +kernel, by decide +kernel⟩, List.mem_of_getElem? (i := 1038) (by decide +kernel), List.mem_of_getElem? (i := 1417) (by decide +kernel), List.mem_of_getElem? (i := 1418) (by decide +kernel)⟩
theorem lw_p90 : lw_okq (⟨"CarryHouseModel", "hinders", "(I)Z"⟩, 64) := ⟨⟨by decide +kernel, by decide +kernel⟩, List.mem_of_getElem? (i := 1038) (by decide +kernel), List.mem_of_getElem? (i := 1421) (by decide +kernel), List.mem_of_getElem? (i := 1422) (by decide +kernel)⟩
theorem lw_p91 : lw_okq (⟨"CarryHouseModel", "whoIs", "(Z)I"⟩, 64) := ⟨⟨by decide +kernel, by decide +kernel⟩, List.mem_of_getElem? (i := 1038) (by decide +kernel), List.mem_of_getElem? (i := 1425) (by decide +kernel), List.mem_of_getElem? (i := 1426) (by decide +kernel)⟩
theorem lw_p92 : lw_okq (⟨"CarryHouseModel", "isProper", "()Z"⟩, 64) := ⟨⟨by decide +kernel, by decide +kernel⟩, List.mem_of_getElem? (i := 1038) (by decide +kernel), List.mem_of_getElem? (i := 1432) (by decide +kernel), List.mem_of_getElem? (i := 1433) (by decide +kernel)⟩
theorem lw_p93 : lw_okq (⟨"CarryHouseModel", "isStrong", "()Z"⟩, 64) := ⟨⟨by decide +kernel, by decide +kernel⟩, List.mem_of_getElem? (i := 1038) (by decide +kernel), List.mem_of_getElem? (i := 1436) (by decide +kernel), List.mem_of_getElem? (i := 1437) (by decide +kernel)⟩
theorem lw_p94 : lw_okq (⟨"CarryHouseModel", "isLined", "()Z"⟩, 64) := ⟨⟨by decide +kernel, by decide +kernel⟩, List.mem_of_getElem? (i := 1038) (by decide +kernel), List.mem_of_getElem? (i := 1440) (by decide +kernel), List.mem_of_getElem? (i := 1441) (by decide +kernel)⟩
theorem lw_p95 : lw_okq (⟨"CarryHouseModel", "held", "(II)I"⟩, 64) := ⟨⟨by decide +kernel, by decide +kernel⟩, List.mem_of_getElem? (i := 1038) (by decide +kernel), List.mem_of_getElem? (i := 1444) (by decide +kernel), List.mem_of_getElem? (i := 1445) (by decide +kernel)⟩
def lw_privs_6 : List (MethodName × Nat) := [(⟨"CarryHouseModel", "badAt", "(II)Z"⟩, 64), (⟨"CarryHouseModel", "end", "()Z"⟩, 64), (⟨"CarryHouseModel", "isSet", "(I)Z"⟩, 64), (⟨"CarryHouseModel", "inForce", "(II)I"⟩, 64), (⟨"CarryHouseModel", "carriesBy", "(II)Z"⟩, 64), (⟨"CarryHouseModel", "lay", "()V"⟩, 64), (⟨"CarryHouseModel", "countOf", "(I)I"⟩, 64), (⟨"CarryHouseModel", "isOfKind", "(II)Z"⟩, 64), (⟨"CarryHouseModel", "isLeast", "(I)Z"⟩, 64), (⟨"CarryHouseModel", "isLeastHinder", "(I)Z"⟩, 64), (⟨"CarryHouseModel", "hinders", "(I)Z"⟩, 64), (⟨"CarryHouseModel", "whoIs", "(Z)I"⟩, 64), (⟨"CarryHouseModel", "isProper", "()Z"⟩, 64), (⟨"CarryHouseModel", "isStrong", "()Z"⟩, 64), (⟨"CarryHouseModel", "isLined", "()Z"⟩, 64), (⟨"CarryHouseModel", "held", "(II)I"⟩, 64)]
theorem lw_r6 : ∀ q ∈ lw_privs_6, lw_okq q := List.forall_mem_cons.mpr ⟨lw_p80, List.forall_mem_cons.mpr ⟨lw_p81, List.forall_mem_cons.mpr ⟨lw_p82, List.forall_mem_cons.mpr ⟨lw_p83, List.forall_mem_cons.mpr ⟨lw_p84, List.forall_mem_cons.mpr ⟨lw_p85, List.forall_mem_cons.mpr ⟨lw_p86, List.forall_mem_cons.mpr ⟨lw_p87, List.forall_mem_cons.mpr ⟨lw_p88, List.forall_mem_cons.mpr ⟨lw_p89, List.forall_mem_cons.mpr ⟨lw_p90, List.forall_mem_cons.mpr ⟨lw_p91, List.forall_mem_cons.mpr ⟨lw_p92, List.forall_mem_cons.mpr ⟨lw_p93, List.forall_mem_cons.mpr ⟨lw_p94, List.forall_mem_cons.mpr ⟨lw_p95, fun _ h => absurd h List.not_mem_nil⟩⟩⟩⟩⟩⟩⟩⟩⟩⟩⟩⟩⟩⟩⟩⟩
theorem lw_p96 : lw_okq (⟨"CarryHouseModel", "turnsOf", "(I)I"⟩, 64) := ⟨⟨by decide +kernel, by decide +kernel⟩, List.mem_of_getElem? (i := 1038) (by decide +kernel), List.mem_of_getElem? (i := 1460) (by decide +kernel), List.mem_of_getElem? (i := 1461) (by decide +kernel)⟩
theorem lw_p97 : lw_okq (⟨"CarryHouseModel", "refuse", "()I"⟩, 64) := ⟨⟨by decide +kernel, by decide +kernel⟩, List.mem_of_getElem? (i := 1038) (by decide +kernel), List.mem_of_getElem? (i := 1468) (by decide +kernel), List.mem_of_getElem? (i := 1469) (by decide +kernel)⟩
theorem lw_p98 : lw_okq (⟨"CarryHouseModel", "shareOfSets", "(I)V"⟩, 64) := ⟨⟨by decide +kernel, by decide +kernel⟩, List.mem_of_getElem? (i := 1038) (by decide +kernel), List.mem_of_getElem? (i := 1472) (by decide +kernel), List.mem_of_getElem? (i := 1473) (by decide +kernel)⟩
theorem lw_p99 : lw_okq (⟨"CarryHouseModel", "lessen", "(JJ)V"⟩, 64) := ⟨⟨by decide +kernel, by decide +kernel⟩, List.mem_of_getElem? (i := 1038) (by decide +kernel), List.mem_of_getElem? (i := 1476) (by decide +kernel), List.mem_of_getElem? (i := 1477) (by decide +kernel)⟩
theorem lw_p100 : lw_okq (⟨"CarryHouseModel", "shareOfOrders", "(I)V"⟩, 64) := ⟨⟨by decide +kernel, by decide +kernel⟩, List.mem_of_getElem? (i := 1038) (by decide +kernel), List.mem_of_getElem? (i := 1480) (by decide +kernel), List.mem_of_getElem? (i := 1481) (by decide +kernel)⟩
theorem lw_p101 : lw_okq (⟨"CarryHouseModel", "shareOfLeast", "(I)V"⟩, 64) := ⟨⟨by decide +kernel, by decide +kernel⟩, List.mem_of_getElem? (i := 1038) (by decide +kernel), List.mem_of_getElem? (i := 1487) (by decide +kernel), List.mem_of_getElem? (i := 1488) (by decide +kernel)⟩
theorem lw_p102 : lw_okq (⟨"CarryHouseModel", "findSorts", "()V"⟩, 64) := ⟨⟨by decide +kernel, by decide +kernel⟩, List.mem_of_getElem? (i := 1038) (by decide +kernel), List.mem_of_getElem? (i := 1508) (by decide +kernel), List.mem_of_getElem? (i := 1509) (by decide +kernel)⟩
theorem lw_p103 : lw_okq (⟨"CarryHouseModel", "findEnds", "()V"⟩, 64) := ⟨⟨by decide +kernel, by decide +kernel⟩, List.mem_of_getElem? (i := 1038) (by decide +kernel), List.mem_of_getElem? (i := 1512) (by decide +kernel), List.mem_of_getElem? (i := 1513) (by decide +kernel)⟩
theorem lw_p104 : lw_okq (⟨"CarryHouseModel", "trySum", "(I)I"⟩, 64) := ⟨⟨by decide +kernel, by decide +kernel⟩, List.mem_of_getElem? (i := 1038) (by decide +kernel), List.mem_of_getElem? (i := 1516) (by decide +kernel), List.mem_of_getElem? (i := 1517) (by decide +kernel)⟩
theorem lw_p105 : lw_okq (⟨"CarryHouseModel", "mayBe", "(II)Z"⟩, 64) := ⟨⟨by decide +kernel, by decide +kernel⟩, List.mem_of_getElem? (i := 1038) (by decide +kernel), List.mem_of_getElem? (i := 1520) (by decide +kernel), List.mem_of_getElem? (i := 1521) (by decide +kernel)⟩
theorem lw_p106 : lw_okq (⟨"CarryHouseModel", "isRight", "()Z"⟩, 64) := ⟨⟨by decide +kernel, by decide +kernel⟩, List.mem_of_getElem? (i := 1038) (by decide +kernel), List.mem_of_getElem? (i := 1524) (by decide +kernel), List.mem_of_getElem? (i := 1525) (by decide +kernel)⟩
theorem lw_p107 : lw_okq (⟨"CarryHouseModel", "sumOf", "(I)I"⟩, 64) := ⟨⟨by decide +kernel, by decide +kernel⟩, List.mem_of_getElem? (i := 1038) (by decide +kernel), List.mem_of_getElem? (i := 1529) (by decide +kernel), List.mem_of_getElem? (i := 1530) (by decide +kernel)⟩
theorem lw_p108 : lw_okq (⟨"CarryHouseModel", "areOptions", "(I)Z"⟩, 64) := ⟨⟨by decide +kernel, by decide +kernel⟩, List.mem_of_getElem? (i := 1038) (by decide +kernel), List.mem_of_getElem? (i := 1541) (by decide +kernel), List.mem_of_getElem? (i := 1542) (by decide +kernel)⟩
theorem lw_p109 : lw_okq (⟨"CarryHouseModel", "layOptions", "()V"⟩, 64) := ⟨⟨by decide +kernel, by decide +kernel⟩, List.mem_of_getElem? (i := 1038) (by decide +kernel), List.mem_of_getElem? (i := 1552) (by decide +kernel), List.mem_of_getElem? (i := 1553) (by decide +kernel)⟩
theorem lw_p110 : lw_okq (⟨"CarryHouseModel", "beatsOf", "(II)Z"⟩, 64) := ⟨⟨by decide +kernel, by decide +kernel⟩, List.mem_of_getElem? (i := 1038) (by decide +kernel), List.mem_of_getElem? (i := 1556) (by decide +kernel), List.mem_of_getElem? (i := 1557) (by decide +kernel)⟩
theorem lw_p111 : lw_okq (⟨"CarryHouseModel", "endOf", "(I)I"⟩, 64) := ⟨⟨by decide +kernel, by decide +kernel⟩, List.mem_of_getElem? (i := 1038) (by decide +kernel), List.mem_of_getElem? (i := 1572) (by decide +kernel), List.mem_of_getElem? (i := 1573) (by decide +kernel)⟩
def lw_privs_7 : List (MethodName × Nat) := [(⟨"CarryHouseModel", "turnsOf", "(I)I"⟩, 64), (⟨"CarryHouseModel", "refuse", "()I"⟩, 64), (⟨"CarryHouseModel", "shareOfSets", "(I)V"⟩, 64), (⟨"CarryHouseModel", "lessen", "(JJ)V"⟩, 64), (⟨"CarryHouseModel", "shareOfOrders", "(I)V"⟩, 64), (⟨"CarryHouseModel", "shareOfLeast", "(I)V"⟩, 64), (⟨"CarryHouseModel", "findSorts", "()V"⟩, 64), (⟨"CarryHouseModel", "findEnds", "()V"⟩, 64), (⟨"CarryHouseModel", "trySum", "(I)I"⟩, 64), (⟨"CarryHouseModel", "mayBe", "(II)Z"⟩, 64), (⟨"CarryHouseModel", "isRight", "()Z"⟩, 64), (⟨"CarryHouseModel", "sumOf", "(I)I"⟩, 64), (⟨"CarryHouseModel", "areOptions", "(I)Z"⟩, 64), (⟨"CarryHouseModel", "layOptions", "()V"⟩, 64), (⟨"CarryHouseModel", "beatsOf", "(II)Z"⟩, 64), (⟨"CarryHouseModel", "endOf", "(I)I"⟩, 64)]
theorem lw_r7 : ∀ q ∈ lw_privs_7, lw_okq q := List.forall_mem_cons.mpr ⟨lw_p96, List.forall_mem_cons.mpr ⟨lw_p97, List.forall_mem_cons.mpr ⟨lw_p98, List.forall_mem_cons.mpr ⟨lw_p99, List.forall_mem_cons.mpr ⟨lw_p100, List.forall_mem_cons.mpr ⟨lw_p101, List.forall_mem_cons.mpr ⟨lw_p102, List.forall_mem_cons.mpr ⟨lw_p103, List.forall_mem_cons.mpr ⟨lw_p104, List.forall_mem_cons.mpr ⟨lw_p105, List.forall_mem_cons.mpr ⟨lw_p106, List.forall_mem_cons.mpr ⟨lw_p107, List.forall_mem_cons.mpr ⟨lw_p108, List.forall_mem_cons.mpr ⟨lw_p109, List.forall_mem_cons.mpr ⟨lw_p110, List.forall_mem_cons.mpr ⟨lw_p111, fun _ h => absurd h List.not_mem_nil⟩⟩⟩⟩⟩⟩⟩⟩⟩⟩⟩⟩⟩⟩⟩⟩
theorem lw_p112 : lw_okq (⟨"CarryHouseModel", "goOn", "()Z"⟩, 64) := ⟨⟨by decide +kernel, by decide +kernel⟩, List.mem_of_getElem? (i := 1038) (by decide +kernel), List.mem_of_getElem? (i := 1580) (by decide +kernel), List.mem_of_getElem? (i := 1581) (by decide +kernel)⟩
theorem lw_p113 : lw_okq (⟨"CarryHouseModel", "sureOf", "(II)I"⟩, 64) := ⟨⟨by decide +kernel, by decide +kernel⟩, List.mem_of_getElem? (i := 1038) (by decide +kernel), List.mem_of_getElem? (i := 1600) (by decide +kernel), List.mem_of_getElem? (i := 1601) (by decide +kernel)⟩
def lw_privs_8 : List (MethodName × Nat) := [(⟨"CarryHouseModel", "goOn", "()Z"⟩, 64), (⟨"CarryHouseModel", "sureOf", "(II)I"⟩, 64)]
theorem lw_r8 : ∀ q ∈ lw_privs_8, lw_okq q := List.forall_mem_cons.mpr ⟨lw_p112, List.forall_mem_cons.mpr ⟨lw_p113, fun _ h => absurd h List.not_mem_nil⟩⟩
def lw_privs : List (MethodName × Nat) := lw_privs_1 ++ (lw_privs_2 ++ (lw_privs_3 ++ (lw_privs_4 ++ (lw_privs_5 ++ (lw_privs_6 ++ (lw_privs_7 ++ (lw_privs_8)))))))
def lw_tbl : List Cond := k2_sels lw_privs ++ tables_1
theorem lw_privs_ok : ∀ q ∈ lw_privs, lw_okq q := by
  show ∀ q ∈ lw_privs_1 ++ (lw_privs_2 ++ (lw_privs_3 ++ (lw_privs_4 ++ (lw_privs_5 ++ (lw_privs_6 ++ (lw_privs_7 ++ (lw_privs_8))))))), lw_okq q
  exact List.forall_mem_append.mpr ⟨lw_r1, List.forall_mem_append.mpr ⟨lw_r2, List.forall_mem_append.mpr ⟨lw_r3, List.forall_mem_append.mpr ⟨lw_r4, List.forall_mem_append.mpr ⟨lw_r5, List.forall_mem_append.mpr ⟨lw_r6, List.forall_mem_append.mpr ⟨lw_r7, lw_r8⟩⟩⟩⟩⟩⟩⟩
end
section
def RX0 : String := "CarryHouse$Ballot"
def TX0 : u_T := fun k => match k with
  | 0 => ("CarryHouse$Ballot", "firstRow", "[I", true)
  | 1 => ("CarryHouse$Ballot", "ranked", "Z", false)
  | 2 => ("CarryHouse$Ballot", "places", "[I", true)
  | 3 => ("CarryHouse$Ballot", "beaten", "[I", true)
  | 4 => ("CarryHouse$Ballot", "reach", "[I", true)
  | 5 => ("CarryHouse$Ballot", "comeTo", "[I", true)
  | _ => ("CarryHouse$Ballot", "ways", "[I", true)
def tyX0 : Nat → FieldType := fun k => match k with
  | 0 => .array .int
  | 1 => .boolean
  | 2 => .array .int
  | 3 => .array .int
  | 4 => .array .int
  | 5 => .array .int
  | _ => .array .int
abbrev wsX00 : List Cond := u_ws RX0 TX0 7
theorem nmX0 : ∀ a, a < 7 → ∀ b, b < 7 → a ≠ b → (TX0 a).2.1 ≠ (TX0 b).2.1 := by decide +kernel
theorem tyX0_ok : ∀ k, k < 7 → parseFieldDescriptor (TX0 k).2.2.1 = some (tyX0 k) := by decide +kernel
abbrev cX0_init : ByteArray := prog_2_method_1_code
def yX0_init : MethodName := ⟨RX0, "<init>", "()V"⟩
abbrev cX0_isOption : ByteArray := prog_2_method_2_code
def yX0_isOption : MethodName := ⟨RX0, "isOption", "(I)Z"⟩
abbrev cX0_isRow : ByteArray := prog_2_method_3_code
def yX0_isRow : MethodName := ⟨RX0, "isRow", "(LCarryHouse$Tape;)Z"⟩
abbrev cX0_order : ByteArray := prog_2_method_4_code
def yX0_order : MethodName := ⟨RX0, "order", "(ILCarryHouse$Tape;)V"⟩
abbrev cX0_whoPrefer : ByteArray := prog_2_method_5_code
def yX0_whoPrefer : MethodName := ⟨RX0, "whoPrefer", "(III)I"⟩
abbrev cX0_match : ByteArray := prog_2_method_6_code
def yX0_match : MethodName := ⟨RX0, "match", "(LCarryHouse$Statute;I)V"⟩
abbrev cX0_wins : ByteArray := prog_2_method_7_code
def yX0_wins : MethodName := ⟨RX0, "wins", "(II)Z"⟩
abbrev cX0_unbeaten : ByteArray := prog_2_method_8_code
def yX0_unbeaten : MethodName := ⟨RX0, "unbeaten", "()I"⟩
abbrev cX0_best : ByteArray := prog_2_method_9_code
def yX0_best : MethodName := ⟨RX0, "best", "()I"⟩
abbrev cX0_findReach : ByteArray := prog_2_method_10_code
def yX0_findReach : MethodName := ⟨RX0, "findReach", "()V"⟩
abbrev cX0_stands : ByteArray := prog_2_method_11_code
def yX0_stands : MethodName := ⟨RX0, "stands", "(II)I"⟩
abbrev cX0_follow : ByteArray := prog_2_method_12_code
def yX0_follow : MethodName := ⟨RX0, "follow", "(LCarryHouse$Tape;)I"⟩
abbrev cX0_foresee : ByteArray := prog_2_method_13_code
def yX0_foresee : MethodName := ⟨RX0, "foresee", "(LCarryHouse$Tape;)I"⟩
abbrev cX0_countRows : ByteArray := prog_2_method_14_code
def yX0_countRows : MethodName := ⟨RX0, "countRows", "(I)I"⟩
abbrev cX0_waysFrom : ByteArray := prog_2_method_15_code
def yX0_waysFrom : MethodName := ⟨RX0, "waysFrom", "(II)I"⟩
abbrev cX0_countWays : ByteArray := prog_2_method_16_code
def yX0_countWays : MethodName := ⟨RX0, "countWays", "(I)V"⟩
abbrev cX0_findFirstRow : ByteArray := prog_2_method_17_code
def yX0_findFirstRow : MethodName := ⟨RX0, "findFirstRow", "()V"⟩
def RX1 : String := "CarryHouse$Chronicle"
def TX1 : u_T := fun k => match k with
  | 0 => ("CarryHouse$Chronicle", "sets", "[I", true)
  | 1 => ("CarryHouse$Chronicle", "days", "[I", true)
  | 2 => ("CarryHouse$Chronicle", "passes", "[Z", true)
  | _ => ("CarryHouse$Chronicle", "length", "I", false)
def tyX1 : Nat → FieldType := fun k => match k with
  | 0 => .array .int
  | 1 => .array .int
  | 2 => .array .boolean
  | _ => .int
abbrev wsX10 : List Cond := u_ws RX1 TX1 4
theorem nmX1 : ∀ a, a < 4 → ∀ b, b < 4 → a ≠ b → (TX1 a).2.1 ≠ (TX1 b).2.1 := by decide +kernel
theorem tyX1_ok : ∀ k, k < 4 → parseFieldDescriptor (TX1 k).2.2.1 = some (tyX1 k) := by decide +kernel
abbrev cX1_init : ByteArray := prog_3_method_1_code
def yX1_init : MethodName := ⟨RX1, "<init>", "()V"⟩
abbrev cX1_add : ByteArray := prog_3_method_2_code
def yX1_add : MethodName := ⟨RX1, "add", "(IZI)I"⟩
abbrev cX1_judge : ByteArray := prog_3_method_3_code
def yX1_judge : MethodName := ⟨RX1, "judge", "(II)I"⟩
def RX2 : String := "CarryHouse$Powers"
def TX2 : u_T := fun k => match k with
  | 0 => ("CarryHouse$Powers", "least", "[I", true)
  | 1 => ("CarryHouse$Powers", "hinder", "[I", true)
  | 2 => ("CarryHouse$Powers", "swings", "[I", true)
  | 3 => ("CarryHouse$Powers", "starts", "[I", true)
  | 4 => ("CarryHouse$Powers", "atLeast", "[I", true)
  | 5 => ("CarryHouse$Powers", "bySize", "[J", true)
  | 6 => ("CarryHouse$Powers", "law", "LCarryHouse$Statute;", false)
  | 7 => ("CarryHouse$Powers", "members", "I", false)
  | 8 => ("CarryHouse$Powers", "full", "I", false)
  | 9 => ("CarryHouse$Powers", "leastCount", "I", false)
  | 10 => ("CarryHouse$Powers", "hinderCount", "I", false)
  | 11 => ("CarryHouse$Powers", "needed", "I", false)
  | _ => ("CarryHouse$Powers", "idle", "I", false)
def tyX2 : Nat → FieldType := fun k => match k with
  | 0 => .array .int
  | 1 => .array .int
  | 2 => .array .int
  | 3 => .array .int
  | 4 => .array .int
  | 5 => .array .long
  | 6 => .object "CarryHouse$Statute"
  | 7 => .int
  | 8 => .int
  | 9 => .int
  | 10 => .int
  | 11 => .int
  | _ => .int
abbrev wsX20 : List Cond := u_ws RX2 TX2 13
theorem nmX2 : ∀ a, a < 13 → ∀ b, b < 13 → a ≠ b → (TX2 a).2.1 ≠ (TX2 b).2.1 := by decide +kernel
theorem tyX2_ok : ∀ k, k < 13 → parseFieldDescriptor (TX2 k).2.2.1 = some (tyX2 k) := by decide +kernel
abbrev cX2_init : ByteArray := prog_4_method_1_code
def yX2_init : MethodName := ⟨RX2, "<init>", "(LCarryHouse$Statute;)V"⟩
abbrev cX2_isOf : ByteArray := prog_4_method_2_code
def yX2_isOf : MethodName := ⟨RX2, "isOf", "(LCarryHouse$Statute;I)Z"⟩
abbrev cX2_study : ByteArray := prog_4_method_3_code
def yX2_study : MethodName := ⟨RX2, "study", "(LCarryHouse$Statute;I)V"⟩
abbrev cX2_list : ByteArray := prog_4_method_4_code
def yX2_list : MethodName := ⟨RX2, "list", "([IZ)I"⟩
abbrev cX2_isMinimal : ByteArray := prog_4_method_5_code
def yX2_isMinimal : MethodName := ⟨RX2, "isMinimal", "(IZ)Z"⟩
abbrev cX2_does : ByteArray := prog_4_method_6_code
def yX2_does : MethodName := ⟨RX2, "does", "(IZ)Z"⟩
abbrev cX2_markNeeded : ByteArray := prog_4_method_7_code
def yX2_markNeeded : MethodName := ⟨RX2, "markNeeded", "()V"⟩
abbrev cX2_turnsBy : ByteArray := prog_4_method_8_code
def yX2_turnsBy : MethodName := ⟨RX2, "turnsBy", "(II)Z"⟩
abbrev cX2_countSwings : ByteArray := prog_4_method_9_code
def yX2_countSwings : MethodName := ⟨RX2, "countSwings", "(I)I"⟩
abbrev cX2_countCarrying : ByteArray := prog_4_method_10_code
def yX2_countCarrying : MethodName := ⟨RX2, "countCarrying", "()I"⟩
abbrev cX2_isProper : ByteArray := prog_4_method_11_code
def yX2_isProper : MethodName := ⟨RX2, "isProper", "()Z"⟩
abbrev cX2_isStrong : ByteArray := prog_4_method_12_code
def yX2_isStrong : MethodName := ⟨RX2, "isStrong", "()Z"⟩
abbrev cX2_isLined : ByteArray := prog_4_method_13_code
def yX2_isLined : MethodName := ⟨RX2, "isLined", "()Z"⟩
abbrev cX2_compare : ByteArray := prog_4_method_14_code
def yX2_compare : MethodName := ⟨RX2, "compare", "(II)I"⟩
abbrev cX2_compareAll : ByteArray := prog_4_method_15_code
def yX2_compareAll : MethodName := ⟨RX2, "compareAll", "()V"⟩
abbrev cX2_isAtLeast : ByteArray := prog_4_method_16_code
def yX2_isAtLeast : MethodName := ⟨RX2, "isAtLeast", "(II)Z"⟩
abbrev cX2_upperShare : ByteArray := prog_4_method_17_code
def yX2_upperShare : MethodName := ⟨RX2, "upperShare", "(II)J"⟩
abbrev cX2_lowerShare : ByteArray := prog_4_method_18_code
def yX2_lowerShare : MethodName := ⟨RX2, "lowerShare", "(I)J"⟩
abbrev cX2_ordersOf : ByteArray := prog_4_method_19_code
def yX2_ordersOf : MethodName := ⟨RX2, "ordersOf", "(I)J"⟩
abbrev cX2_partsOf : ByteArray := prog_4_method_20_code
def yX2_partsOf : MethodName := ⟨RX2, "partsOf", "(I)J"⟩
abbrev cX2_chanceOf : ByteArray := prog_4_method_21_code
def yX2_chanceOf : MethodName := ⟨RX2, "chanceOf", "(I)J"⟩
abbrev cX2_power : ByteArray := prog_4_method_22_code
def yX2_power : MethodName := ⟨RX2, "power", "(II)J"⟩
abbrev cX2_allyOf : ByteArray := prog_4_method_23_code
def yX2_allyOf : MethodName := ⟨RX2, "allyOf", "(I)I"⟩
abbrev cX2_countTogether : ByteArray := prog_4_method_24_code
def yX2_countTogether : MethodName := ⟨RX2, "countTogether", "(II)I"⟩
def RX3 : String := "CarryHouse$Program"
def TX3 : u_T := fun k => match k with
  | 0 => ("CarryHouse$Program", "codes", "[I", true)
  | 1 => ("CarryHouse$Program", "values", "[I", true)
  | 2 => ("CarryHouse$Program", "stack", "[I", true)
  | _ => ("CarryHouse$Program", "length", "I", false)
def tyX3 : Nat → FieldType := fun k => match k with
  | 0 => .array .int
  | 1 => .array .int
  | 2 => .array .int
  | _ => .int
abbrev wsX30 : List Cond := u_ws RX3 TX3 4
theorem nmX3 : ∀ a, a < 4 → ∀ b, b < 4 → a ≠ b → (TX3 a).2.1 ≠ (TX3 b).2.1 := by decide +kernel
theorem tyX3_ok : ∀ k, k < 4 → parseFieldDescriptor (TX3 k).2.2.1 = some (tyX3 k) := by decide +kernel
abbrev cX3_init : ByteArray := prog_5_method_1_code
def yX3_init : MethodName := ⟨RX3, "<init>", "()V"⟩
abbrev cX3_clear : ByteArray := prog_5_method_2_code
def yX3_clear : MethodName := ⟨RX3, "clear", "()V"⟩
abbrev cX3_add : ByteArray := prog_5_method_3_code
def yX3_add : MethodName := ⟨RX3, "add", "(II)V"⟩
abbrev cX3_fill : ByteArray := prog_5_method_4_code
def yX3_fill : MethodName := ⟨RX3, "fill", "(LCarryHouse$Statute;I)V"⟩
abbrev cX3_run : ByteArray := prog_5_method_5_code
def yX3_run : MethodName := ⟨RX3, "run", "(I)Z"⟩
abbrev cX3_join : ByteArray := prog_5_method_6_code
def yX3_join : MethodName := ⟨RX3, "join", "(IIII)I"⟩
abbrev cX3_push : ByteArray := prog_5_method_7_code
def yX3_push : MethodName := ⟨RX3, "push", "(II)I"⟩
abbrev cX3_peek : ByteArray := prog_5_method_8_code
def yX3_peek : MethodName := ⟨RX3, "peek", "(I)I"⟩
abbrev cX3_replace : ByteArray := prog_5_method_9_code
def yX3_replace : MethodName := ⟨RX3, "replace", "(II)V"⟩
def RX4 : String := "CarryHouse$Reader"
def TX4 : u_T := fun k => match k with
  | 0 => ("CarryHouse$Reader", "program", "LCarryHouse$Program;", true)
  | 1 => ("CarryHouse$Reader", "scanner", "LCarryHouse$Scanner;", true)
  | 2 => ("CarryHouse$Reader", "nameStarts", "[I", true)
  | 3 => ("CarryHouse$Reader", "nameStops", "[I", true)
  | 4 => ("CarryHouse$Reader", "members", "I", false)
  | 5 => ("CarryHouse$Reader", "ones", "I", false)
  | 6 => ("CarryHouse$Reader", "opened", "I", false)
  | 7 => ("CarryHouse$Reader", "nameCount", "I", false)
  | 8 => ("CarryHouse$Reader", "faultKind", "I", false)
  | _ => ("CarryHouse$Reader", "faultPlace", "I", false)
def tyX4 : Nat → FieldType := fun k => match k with
  | 0 => .object "CarryHouse$Program"
  | 1 => .object "CarryHouse$Scanner"
  | 2 => .array .int
  | 3 => .array .int
  | 4 => .int
  | 5 => .int
  | 6 => .int
  | 7 => .int
  | 8 => .int
  | _ => .int
abbrev wsX40 : List Cond := u_ws RX4 TX4 10
theorem nmX4 : ∀ a, a < 10 → ∀ b, b < 10 → a ≠ b → (TX4 a).2.1 ≠ (TX4 b).2.1 := by decide +kernel
theorem tyX4_ok : ∀ k, k < 10 → parseFieldDescriptor (TX4 k).2.2.1 = some (tyX4 k) := by decide +kernel
abbrev cX4_init : ByteArray := prog_6_method_1_code
def yX4_init : MethodName := ⟨RX4, "<init>", "(LCarryHouse$Tape;)V"⟩
abbrev cX4_read : ByteArray := prog_6_method_2_code
def yX4_read : MethodName := ⟨RX4, "read", "(I)V"⟩
abbrev cX4_fail : ByteArray := prog_6_method_3_code
def yX4_fail : MethodName := ⟨RX4, "fail", "(II)Z"⟩
abbrev cX4_takeWord : ByteArray := prog_6_method_4_code
def yX4_takeWord : MethodName := ⟨RX4, "takeWord", "(Ljava/lang/String;)Z"⟩
abbrev cX4_takeSign : ByteArray := prog_6_method_5_code
def yX4_takeSign : MethodName := ⟨RX4, "takeSign", "(I)Z"⟩
abbrev cX4_takeEnd : ByteArray := prog_6_method_6_code
def yX4_takeEnd : MethodName := ⟨RX4, "takeEnd", "()Z"⟩
abbrev cX4_takeOpening : ByteArray := prog_6_method_7_code
def yX4_takeOpening : MethodName := ⟨RX4, "takeOpening", "(I)Z"⟩
abbrev cX4_readBody : ByteArray := prog_6_method_8_code
def yX4_readBody : MethodName := ⟨RX4, "readBody", "()Z"⟩
abbrev cX4_takeNewName : ByteArray := prog_6_method_9_code
def yX4_takeNewName : MethodName := ⟨RX4, "takeNewName", "()Z"⟩
abbrev cX4_toldName : ByteArray := prog_6_method_10_code
def yX4_toldName : MethodName := ⟨RX4, "toldName", "()I"⟩
abbrev cX4_readRule : ByteArray := prog_6_method_11_code
def yX4_readRule : MethodName := ⟨RX4, "readRule", "()Z"⟩
abbrev cX4_readAll : ByteArray := prog_6_method_12_code
def yX4_readAll : MethodName := ⟨RX4, "readAll", "()Z"⟩
abbrev cX4_readOne : ByteArray := prog_6_method_13_code
def yX4_readOne : MethodName := ⟨RX4, "readOne", "()Z"⟩
abbrev cX4_noteMember : ByteArray := prog_6_method_14_code
def yX4_noteMember : MethodName := ⟨RX4, "noteMember", "()Z"⟩
abbrev cX4_noteName : ByteArray := prog_6_method_15_code
def yX4_noteName : MethodName := ⟨RX4, "noteName", "()Z"⟩
abbrev cX4_countOne : ByteArray := prog_6_method_16_code
def yX4_countOne : MethodName := ⟨RX4, "countOne", "(I)Z"⟩
abbrev cX4_readQuota : ByteArray := prog_6_method_17_code
def yX4_readQuota : MethodName := ⟨RX4, "readQuota", "(II)Z"⟩
abbrev cX4_readItem : ByteArray := prog_6_method_18_code
def yX4_readItem : MethodName := ⟨RX4, "readItem", "()Z"⟩
def RX5 : String := "CarryHouse$Scales"
def TX5 : u_T := fun k => match k with
  | 0 => ("CarryHouse$Scales", "told", "[I", true)
  | 1 => ("CarryHouse$Scales", "toldNumber", "I", false)
  | 2 => ("CarryHouse$Scales", "powers", "LCarryHouse$Powers;", true)
  | 3 => ("CarryHouse$Scales", "strengths", "[I", true)
  | 4 => ("CarryHouse$Scales", "firsts", "[I", true)
  | 5 => ("CarryHouse$Scales", "sizes", "[I", true)
  | 6 => ("CarryHouse$Scales", "held", "[I", true)
  | 7 => ("CarryHouse$Scales", "row", "[I", true)
  | 8 => ("CarryHouse$Scales", "classes", "I", false)
  | 9 => ("CarryHouse$Scales", "sum", "I", false)
  | 10 => ("CarryHouse$Scales", "rowCount", "I", false)
  | 11 => ("CarryHouse$Scales", "outcome", "I", false)
  | 12 => ("CarryHouse$Scales", "lightLeast", "I", false)
  | 13 => ("CarryHouse$Scales", "lightHinder", "I", false)
  | 14 => ("CarryHouse$Scales", "weighedLaw", "LCarryHouse$Statute;", false)
  | _ => ("CarryHouse$Scales", "weighedMembers", "I", false)
def tyX5 : Nat → FieldType := fun k => match k with
  | 0 => .array .int
  | 1 => .int
  | 2 => .object "CarryHouse$Powers"
  | 3 => .array .int
  | 4 => .array .int
  | 5 => .array .int
  | 6 => .array .int
  | 7 => .array .int
  | 8 => .int
  | 9 => .int
  | 10 => .int
  | 11 => .int
  | 12 => .int
  | 13 => .int
  | 14 => .object "CarryHouse$Statute"
  | _ => .int
abbrev wsX50 : List Cond := u_ws RX5 TX5 16
theorem nmX5 : ∀ a, a < 16 → ∀ b, b < 16 → a ≠ b → (TX5 a).2.1 ≠ (TX5 b).2.1 := by decide +kernel
theorem tyX5_ok : ∀ k, k < 16 → parseFieldDescriptor (TX5 k).2.2.1 = some (tyX5 k) := by decide +kernel
abbrev cX5_init : ByteArray := prog_7_method_1_code
def yX5_init : MethodName := ⟨RX5, "<init>", "(LCarryHouse$Powers;)V"⟩
abbrev cX5_look : ByteArray := prog_7_method_2_code
def yX5_look : MethodName := ⟨RX5, "look", "()I"⟩
abbrev cX5_search : ByteArray := prog_7_method_3_code
def yX5_search : MethodName := ⟨RX5, "search", "()I"⟩
abbrev cX5_findClasses : ByteArray := prog_7_method_4_code
def yX5_findClasses : MethodName := ⟨RX5, "findClasses", "()V"⟩
abbrev cX5_isFirst : ByteArray := prog_7_method_5_code
def yX5_isFirst : MethodName := ⟨RX5, "isFirst", "(I)Z"⟩
abbrev cX5_strengthOf : ByteArray := prog_7_method_6_code
def yX5_strengthOf : MethodName := ⟨RX5, "strengthOf", "(I)I"⟩
abbrev cX5_place : ByteArray := prog_7_method_7_code
def yX5_place : MethodName := ⟨RX5, "place", "(II)V"⟩
abbrev cX5_lowest : ByteArray := prog_7_method_8_code
def yX5_lowest : MethodName := ⟨RX5, "lowest", "(I)I"⟩
abbrev cX5_highest : ByteArray := prog_7_method_9_code
def yX5_highest : MethodName := ⟨RX5, "highest", "(II)I"⟩
abbrev cX5_leastRest : ByteArray := prog_7_method_10_code
def yX5_leastRest : MethodName := ⟨RX5, "leastRest", "()I"⟩
abbrev cX5_mostRest : ByteArray := prog_7_method_11_code
def yX5_mostRest : MethodName := ⟨RX5, "mostRest", "()I"⟩
abbrev cX5_tryRow : ByteArray := prog_7_method_12_code
def yX5_tryRow : MethodName := ⟨RX5, "tryRow", "()V"⟩
abbrev cX5_doesTheSame : ByteArray := prog_7_method_13_code
def yX5_doesTheSame : MethodName := ⟨RX5, "doesTheSame", "()Z"⟩
abbrev cX5_lightest : ByteArray := prog_7_method_14_code
def yX5_lightest : MethodName := ⟨RX5, "lightest", "([II)I"⟩
abbrev cX5_weightOf : ByteArray := prog_7_method_15_code
def yX5_weightOf : MethodName := ⟨RX5, "weightOf", "(I)I"⟩
abbrev cX5_tell : ByteArray := prog_7_method_16_code
def yX5_tell : MethodName := ⟨RX5, "tell", "()V"⟩
def RX6 : String := "CarryHouse$Scanner"
def TX6 : u_T := fun k => match k with
  | 0 => ("CarryHouse$Scanner", "text", "LCarryHouse$Tape;", true)
  | 1 => ("CarryHouse$Scanner", "limit", "I", false)
  | 2 => ("CarryHouse$Scanner", "place", "I", false)
  | 3 => ("CarryHouse$Scanner", "kind", "I", false)
  | 4 => ("CarryHouse$Scanner", "start", "I", false)
  | 5 => ("CarryHouse$Scanner", "stop", "I", false)
  | _ => ("CarryHouse$Scanner", "value", "I", false)
def tyX6 : Nat → FieldType := fun k => match k with
  | 0 => .object "CarryHouse$Tape"
  | 1 => .int
  | 2 => .int
  | 3 => .int
  | 4 => .int
  | 5 => .int
  | _ => .int
abbrev wsX60 : List Cond := u_ws RX6 TX6 7
theorem nmX6 : ∀ a, a < 7 → ∀ b, b < 7 → a ≠ b → (TX6 a).2.1 ≠ (TX6 b).2.1 := by decide +kernel
theorem tyX6_ok : ∀ k, k < 7 → parseFieldDescriptor (TX6 k).2.2.1 = some (tyX6 k) := by decide +kernel
abbrev cX6_init : ByteArray := prog_8_method_1_code
def yX6_init : MethodName := ⟨RX6, "<init>", "(LCarryHouse$Tape;)V"⟩
abbrev cX6_begin : ByteArray := prog_8_method_2_code
def yX6_begin : MethodName := ⟨RX6, "begin", "()V"⟩
abbrev cX6_isCut : ByteArray := prog_8_method_3_code
def yX6_isCut : MethodName := ⟨RX6, "isCut", "()Z"⟩
abbrev cX6_advance : ByteArray := prog_8_method_4_code
def yX6_advance : MethodName := ⟨RX6, "advance", "()V"⟩
abbrev cX6_takeRun : ByteArray := prog_8_method_5_code
def yX6_takeRun : MethodName := ⟨RX6, "takeRun", "()V"⟩
abbrev cX6_isWord : ByteArray := prog_8_method_6_code
def yX6_isWord : MethodName := ⟨RX6, "isWord", "(Ljava/lang/String;)Z"⟩
abbrev cX6_isName : ByteArray := prog_8_method_7_code
def yX6_isName : MethodName := ⟨RX6, "isName", "()Z"⟩
abbrev cX6_isLone : ByteArray := prog_8_method_8_code
def yX6_isLone : MethodName := ⟨RX6, "isLone", "()Z"⟩
abbrev cX6_letter : ByteArray := prog_8_method_9_code
def yX6_letter : MethodName := ⟨RX6, "letter", "()I"⟩
abbrev cX6_isLike : ByteArray := prog_8_method_10_code
def yX6_isLike : MethodName := ⟨RX6, "isLike", "(II)Z"⟩
abbrev cX6_isBlank : ByteArray := prog_8_method_11_code
def yX6_isBlank : MethodName := ⟨RX6, "isBlank", "(I)Z"⟩
abbrev cX6_isLetter : ByteArray := prog_8_method_12_code
def yX6_isLetter : MethodName := ⟨RX6, "isLetter", "(I)Z"⟩
abbrev cX6_isDigit : ByteArray := prog_8_method_13_code
def yX6_isDigit : MethodName := ⟨RX6, "isDigit", "(I)Z"⟩
abbrev cX6_isSign : ByteArray := prog_8_method_14_code
def yX6_isSign : MethodName := ⟨RX6, "isSign", "(I)Z"⟩
def RX7 : String := "CarryHouse$Statute"
def TX7 : u_T := fun k => match k with
  | 0 => ("CarryHouse$Statute", "from", "I", true)
  | _ => ("CarryHouse$Statute", "bits", "[J", true)
def tyX7 : Nat → FieldType := fun k => match k with
  | 0 => .int
  | _ => .array .long
abbrev wsX70 : List Cond := u_ws RX7 TX7 2
theorem nmX7 : ∀ a, a < 2 → ∀ b, b < 2 → a ≠ b → (TX7 a).2.1 ≠ (TX7 b).2.1 := by decide +kernel
theorem tyX7_ok : ∀ k, k < 2 → parseFieldDescriptor (TX7 k).2.2.1 = some (tyX7 k) := by decide +kernel
abbrev cX7_init : ByteArray := prog_9_method_1_code
def yX7_init : MethodName := ⟨RX7, "<init>", "(I)V"⟩
abbrev cX7_holds : ByteArray := prog_9_method_2_code
def yX7_holds : MethodName := ⟨RX7, "holds", "(I)Z"⟩
abbrev cX7_add : ByteArray := prog_9_method_3_code
def yX7_add : MethodName := ⟨RX7, "add", "(I)V"⟩
abbrev cX7_needAll : ByteArray := prog_9_method_4_code
def yX7_needAll : MethodName := ⟨RX7, "needAll", "(I)V"⟩
def RX8 : String := "CarryHouse$Tape"
def TX8 : u_T := fun k => match k with
  | 0 => ("CarryHouse$Tape", "bytes", "[B", true)
  | _ => ("CarryHouse$Tape", "length", "I", false)
def tyX8 : Nat → FieldType := fun k => match k with
  | 0 => .array .byte
  | _ => .int
abbrev wsX80 : List Cond := u_ws RX8 TX8 2
theorem nmX8 : ∀ a, a < 2 → ∀ b, b < 2 → a ≠ b → (TX8 a).2.1 ≠ (TX8 b).2.1 := by decide +kernel
theorem tyX8_ok : ∀ k, k < 2 → parseFieldDescriptor (TX8 k).2.2.1 = some (tyX8 k) := by decide +kernel
abbrev cX8_init : ByteArray := prog_10_method_1_code
def yX8_init : MethodName := ⟨RX8, "<init>", "()V"⟩
abbrev cX8_hasRoom : ByteArray := prog_10_method_2_code
def yX8_hasRoom : MethodName := ⟨RX8, "hasRoom", "()Z"⟩
abbrev cX8_put : ByteArray := prog_10_method_3_code
def yX8_put : MethodName := ⟨RX8, "put", "(I)V"⟩
abbrev cX8_at : ByteArray := prog_10_method_4_code
def yX8_at : MethodName := ⟨RX8, "at", "(I)I"⟩
def RX9 : String := "CarryHouse"
def TX9 : u_T := fun k => match k with
  | 0 => ("CarryHouse", "tape", "LCarryHouse$Tape;", true)
  | 1 => ("CarryHouse", "reader", "LCarryHouse$Reader;", true)
  | 2 => ("CarryHouse", "unanimous", "LCarryHouse$Statute;", true)
  | 3 => ("CarryHouse", "statutes", "[LCarryHouse$Statute;", true)
  | 4 => ("CarryHouse", "powers", "LCarryHouse$Powers;", true)
  | 5 => ("CarryHouse", "scales", "LCarryHouse$Scales;", true)
  | 6 => ("CarryHouse", "ballot", "LCarryHouse$Ballot;", true)
  | 7 => ("CarryHouse", "chronicle", "LCarryHouse$Chronicle;", true)
  | 8 => ("CarryHouse", "statuteCount", "I", false)
  | 9 => ("CarryHouse", "size", "I", false)
  | 10 => ("CarryHouse", "today", "I", false)
  | _ => ("CarryHouse", "faultKind", "I", false)
def tyX9 : Nat → FieldType := fun k => match k with
  | 0 => .object "CarryHouse$Tape"
  | 1 => .object "CarryHouse$Reader"
  | 2 => .object "CarryHouse$Statute"
  | 3 => .array (.object "CarryHouse$Statute")
  | 4 => .object "CarryHouse$Powers"
  | 5 => .object "CarryHouse$Scales"
  | 6 => .object "CarryHouse$Ballot"
  | 7 => .object "CarryHouse$Chronicle"
  | 8 => .int
  | 9 => .int
  | 10 => .int
  | _ => .int
abbrev wsX90 : List Cond := u_ws RX9 TX9 12
theorem nmX9 : ∀ a, a < 12 → ∀ b, b < 12 → a ≠ b → (TX9 a).2.1 ≠ (TX9 b).2.1 := by decide +kernel
theorem tyX9_ok : ∀ k, k < 12 → parseFieldDescriptor (TX9 k).2.2.1 = some (tyX9 k) := by decide +kernel
abbrev cX9_init : ByteArray := prog_1_method_1_code
def yX9_init : MethodName := ⟨RX9, "<init>", "()V"⟩
abbrev cX9_feed : ByteArray := prog_1_method_2_code
def yX9_feed : MethodName := ⟨RX9, "feed", "(IIIII)I"⟩
abbrev cX9_end : ByteArray := prog_1_method_3_code
def yX9_end : MethodName := ⟨RX9, "end", "(I)Z"⟩
abbrev cX9_next : ByteArray := prog_1_method_4_code
def yX9_next : MethodName := ⟨RX9, "next", "(I)I"⟩
abbrev cX9_members : ByteArray := prog_1_method_5_code
def yX9_members : MethodName := ⟨RX9, "members", "(I)Z"⟩
abbrev cX9_statute : ByteArray := prog_1_method_6_code
def yX9_statute : MethodName := ⟨RX9, "statute", "(I)I"⟩
abbrev cX9_fault : ByteArray := prog_1_method_7_code
def yX9_fault : MethodName := ⟨RX9, "fault", "()I"⟩
abbrev cX9_carries : ByteArray := prog_1_method_8_code
def yX9_carries : MethodName := ⟨RX9, "carries", "(II)I"⟩
abbrev cX9_many : ByteArray := prog_1_method_9_code
def yX9_many : MethodName := ⟨RX9, "many", "(I)I"⟩
abbrev cX9_setAt : ByteArray := prog_1_method_10_code
def yX9_setAt : MethodName := ⟨RX9, "setAt", "(II)I"⟩
abbrev cX9_stronger : ByteArray := prog_1_method_11_code
def yX9_stronger : MethodName := ⟨RX9, "stronger", "(II)I"⟩
abbrev cX9_turns : ByteArray := prog_1_method_12_code
def yX9_turns : MethodName := ⟨RX9, "turns", "(I)I"⟩
abbrev cX9_share : ByteArray := prog_1_method_13_code
def yX9_share : MethodName := ⟨RX9, "share", "(III)J"⟩
abbrev cX9_chance : ByteArray := prog_1_method_14_code
def yX9_chance : MethodName := ⟨RX9, "chance", "(I)J"⟩
abbrev cX9_ally : ByteArray := prog_1_method_15_code
def yX9_ally : MethodName := ⟨RX9, "ally", "(I)I"⟩
abbrev cX9_weigh : ByteArray := prog_1_method_16_code
def yX9_weigh : MethodName := ⟨RX9, "weigh", "()I"⟩
abbrev cX9_weight : ByteArray := prog_1_method_17_code
def yX9_weight : MethodName := ⟨RX9, "weight", "(I)I"⟩
abbrev cX9_rank : ByteArray := prog_1_method_18_code
def yX9_rank : MethodName := ⟨RX9, "rank", "(I)Z"⟩
abbrev cX9_beats : ByteArray := prog_1_method_19_code
def yX9_beats : MethodName := ⟨RX9, "beats", "(II)I"⟩
abbrev cX9_free : ByteArray := prog_1_method_20_code
def yX9_free : MethodName := ⟨RX9, "free", "()I"⟩
abbrev cX9_top : ByteArray := prog_1_method_21_code
def yX9_top : MethodName := ⟨RX9, "top", "()I"⟩
abbrev cX9_leads : ByteArray := prog_1_method_22_code
def yX9_leads : MethodName := ⟨RX9, "leads", "(Z)I"⟩
abbrev cX9_rows : ByteArray := prog_1_method_23_code
def yX9_rows : MethodName := ⟨RX9, "rows", "(I)I"⟩
abbrev cX9_rowAt : ByteArray := prog_1_method_24_code
def yX9_rowAt : MethodName := ⟨RX9, "rowAt", "(I)I"⟩
abbrev cX9_vote : ByteArray := prog_1_method_25_code
def yX9_vote : MethodName := ⟨RX9, "vote", "(IZ)I"⟩
abbrev cX9_unfit : ByteArray := prog_1_method_26_code
def yX9_unfit : MethodName := ⟨RX9, "unfit", "(I)I"⟩
abbrev cX9_sure : ByteArray := prog_1_method_27_code
def yX9_sure : MethodName := ⟨RX9, "sure", "(II)I"⟩
abbrev cX9_open : ByteArray := prog_1_method_28_code
def yX9_open : MethodName := ⟨RX9, "open", "(I)I"⟩
abbrev cX9_count : ByteArray := prog_1_method_29_code
def yX9_count : MethodName := ⟨RX9, "count", "(I)I"⟩
abbrev cX9_isMember : ByteArray := prog_1_method_30_code
def yX9_isMember : MethodName := ⟨RX9, "isMember", "(I)Z"⟩
abbrev cX9_isSet : ByteArray := prog_1_method_31_code
def yX9_isSet : MethodName := ⟨RX9, "isSet", "(I)Z"⟩
abbrev cX9_inForce : ByteArray := prog_1_method_32_code
def yX9_inForce : MethodName := ⟨RX9, "inForce", "(I)LCarryHouse$Statute;"⟩
abbrev cX9_powersToday : ByteArray := prog_1_method_33_code
def yX9_powersToday : MethodName := ⟨RX9, "powersToday", "()LCarryHouse$Powers;"⟩
abbrev cX9_commonDivisor : ByteArray := prog_1_method_34_code
def yX9_commonDivisor : MethodName := ⟨RX9, "commonDivisor", "(JJ)J"⟩
def RX10 : String := "CarryHouseModel"
def TX10 : u_T := fun k => match k with
  | 0 => ("CarryHouseModel", "thrown", "I", false)
  | 1 => ("CarryHouseModel", "tape", "[I", true)
  | 2 => ("CarryHouseModel", "taped", "I", false)
  | 3 => ("CarryHouseModel", "today", "I", false)
  | 4 => ("CarryHouseModel", "members", "I", false)
  | 5 => ("CarryHouseModel", "isRanked", "Z", false)
  | 6 => ("CarryHouseModel", "size", "I", false)
  | 7 => ("CarryHouseModel", "to", "I", false)
  | 8 => ("CarryHouseModel", "from", "I", false)
  | 9 => ("CarryHouseModel", "kind", "I", false)
  | 10 => ("CarryHouseModel", "number", "I", false)
  | 11 => ("CarryHouseModel", "sign", "I", false)
  | 12 => ("CarryHouseModel", "letters", "I", false)
  | 13 => ("CarryHouseModel", "fault", "I", false)
  | 14 => ("CarryHouseModel", "place", "I", false)
  | 15 => ("CarryHouseModel", "word", "J", false)
  | 16 => ("CarryHouseModel", "orRow", "[Z", true)
  | 17 => ("CarryHouseModel", "andRow", "[Z", true)
  | 18 => ("CarryHouseModel", "nameRow", "[Z", true)
  | 19 => ("CarryHouseModel", "statuteRow", "[Z", true)
  | 20 => ("CarryHouseModel", "one", "[Z", true)
  | 21 => ("CarryHouseModel", "sums", "[I", true)
  | 22 => ("CarryHouseModel", "type", "[I", true)
  | 23 => ("CarryHouseModel", "weight", "[I", true)
  | 24 => ("CarryHouseModel", "needed", "[I", true)
  | 25 => ("CarryHouseModel", "nameWord", "[J", true)
  | 26 => ("CarryHouseModel", "names", "I", false)
  | 27 => ("CarryHouseModel", "ones", "I", false)
  | 28 => ("CarryHouseModel", "top", "I", false)
  | 29 => ("CarryHouseModel", "isAwaited", "Z", false)
  | 30 => ("CarryHouseModel", "isDone", "Z", false)
  | 31 => ("CarryHouseModel", "statuteFrom", "[I", true)
  | 32 => ("CarryHouseModel", "statuteTold", "[I", true)
  | 33 => ("CarryHouseModel", "statutes", "I", false)
  | 34 => ("CarryHouseModel", "row", "[Z", true)
  | 35 => ("CarryHouseModel", "all", "I", false)
  | 36 => ("CarryHouseModel", "upper", "J", false)
  | 37 => ("CarryHouseModel", "lower", "J", false)
  | 38 => ("CarryHouseModel", "sortOf", "[I", true)
  | 39 => ("CarryHouseModel", "sortSize", "[I", true)
  | 40 => ("CarryHouseModel", "sortFirst", "[I", true)
  | 41 => ("CarryHouseModel", "given", "[I", true)
  | 42 => ("CarryHouseModel", "weights", "[I", true)
  | 43 => ("CarryHouseModel", "minimal", "[I", true)
  | 44 => ("CarryHouseModel", "maximal", "[I", true)
  | 45 => ("CarryHouseModel", "isAbove", "[Z", true)
  | 46 => ("CarryHouseModel", "sorts", "I", false)
  | 47 => ("CarryHouseModel", "minimals", "I", false)
  | 48 => ("CarryHouseModel", "maximals", "I", false)
  | 49 => ("CarryHouseModel", "tries", "I", false)
  | 50 => ("CarryHouseModel", "lowest", "I", false)
  | 51 => ("CarryHouseModel", "isWeighed", "Z", false)
  | 52 => ("CarryHouseModel", "weighed", "I", false)
  | 53 => ("CarryHouseModel", "rankOf", "[I", true)
  | 54 => ("CarryHouseModel", "beat", "[Z", true)
  | 55 => ("CarryHouseModel", "comes", "[Z", true)
  | 56 => ("CarryHouseModel", "then", "[I", true)
  | 57 => ("CarryHouseModel", "order", "[I", true)
  | 58 => ("CarryHouseModel", "first", "[I", true)
  | 59 => ("CarryHouseModel", "hasFirst", "Z", false)
  | 60 => ("CarryHouseModel", "voteSet", "[I", true)
  | 61 => ("CarryHouseModel", "voteDay", "[I", true)
  | 62 => ("CarryHouseModel", "hasPassed", "[Z", true)
  | _ => ("CarryHouseModel", "votes", "I", false)
def tyX10 : Nat → FieldType := fun k => match k with
  | 0 => .int
  | 1 => .array .int
  | 2 => .int
  | 3 => .int
  | 4 => .int
  | 5 => .boolean
  | 6 => .int
  | 7 => .int
  | 8 => .int
  | 9 => .int
  | 10 => .int
  | 11 => .int
  | 12 => .int
  | 13 => .int
  | 14 => .int
  | 15 => .long
  | 16 => .array .boolean
  | 17 => .array .boolean
  | 18 => .array .boolean
  | 19 => .array .boolean
  | 20 => .array .boolean
  | 21 => .array .int
  | 22 => .array .int
  | 23 => .array .int
  | 24 => .array .int
  | 25 => .array .long
  | 26 => .int
  | 27 => .int
  | 28 => .int
  | 29 => .boolean
  | 30 => .boolean
  | 31 => .array .int
  | 32 => .array .int
  | 33 => .int
  | 34 => .array .boolean
  | 35 => .int
  | 36 => .long
  | 37 => .long
  | 38 => .array .int
  | 39 => .array .int
  | 40 => .array .int
  | 41 => .array .int
  | 42 => .array .int
  | 43 => .array .int
  | 44 => .array .int
  | 45 => .array .boolean
  | 46 => .int
  | 47 => .int
  | 48 => .int
  | 49 => .int
  | 50 => .int
  | 51 => .boolean
  | 52 => .int
  | 53 => .array .int
  | 54 => .array .boolean
  | 55 => .array .boolean
  | 56 => .array .int
  | 57 => .array .int
  | 58 => .array .int
  | 59 => .boolean
  | 60 => .array .int
  | 61 => .array .int
  | 62 => .array .boolean
  | _ => .int
abbrev wsX100 : List Cond := u_ws RX10 TX10 64
theorem nmX10 : ∀ a, a < 64 → ∀ b, b < 64 → a ≠ b → (TX10 a).2.1 ≠ (TX10 b).2.1 := by decide +kernel
theorem tyX10_ok : ∀ k, k < 64 → parseFieldDescriptor (TX10 k).2.2.1 = some (tyX10 k) := by decide +kernel
abbrev cX10_init : ByteArray := prog_12_method_1_code
def yX10_init : MethodName := ⟨RX10, "<init>", "()V"⟩
abbrev cX10_refuse : ByteArray := prog_12_method_3_code
def yX10_refuse : MethodName := ⟨RX10, "refuse", "()I"⟩
abbrev cX10_come : ByteArray := prog_12_method_4_code
def yX10_come : MethodName := ⟨RX10, "come", "(I)V"⟩
abbrev cX10_feed : ByteArray := prog_12_method_5_code
def yX10_feed : MethodName := ⟨RX10, "feed", "(IIIII)I"⟩
abbrev cX10_end : ByteArray := prog_12_method_6_code
def yX10_end : MethodName := ⟨RX10, "end", "(I)Z"⟩
abbrev cX10_take : ByteArray := prog_12_method_7_code
def yX10_take : MethodName := ⟨RX10, "take", "()I"⟩
abbrev cX10_isIn : ByteArray := prog_12_method_8_code
def yX10_isIn : MethodName := ⟨RX10, "isIn", "(III)Z"⟩
abbrev cX10_next : ByteArray := prog_12_method_9_code
def yX10_next : MethodName := ⟨RX10, "next", "(I)I"⟩
abbrev cX10_members : ByteArray := prog_12_method_10_code
def yX10_members : MethodName := ⟨RX10, "members", "(I)Z"⟩
abbrev cX10_isMember : ByteArray := prog_12_method_11_code
def yX10_isMember : MethodName := ⟨RX10, "isMember", "(I)Z"⟩
abbrev cX10_isSet : ByteArray := prog_12_method_12_code
def yX10_isSet : MethodName := ⟨RX10, "isSet", "(I)Z"⟩
abbrev cX10_sizeOf : ByteArray := prog_12_method_13_code
def yX10_sizeOf : MethodName := ⟨RX10, "sizeOf", "(I)I"⟩
abbrev cX10_byteAt : ByteArray := prog_12_method_14_code
def yX10_byteAt : MethodName := ⟨RX10, "byteAt", "(I)I"⟩
abbrev cX10_isDigit : ByteArray := prog_12_method_15_code
def yX10_isDigit : MethodName := ⟨RX10, "isDigit", "(I)Z"⟩
abbrev cX10_isLetter : ByteArray := prog_12_method_16_code
def yX10_isLetter : MethodName := ⟨RX10, "isLetter", "(I)Z"⟩
abbrev cX10_isMark : ByteArray := prog_12_method_17_code
def yX10_isMark : MethodName := ⟨RX10, "isMark", "(I)Z"⟩
abbrev cX10_go : ByteArray := prog_12_method_18_code
def yX10_go : MethodName := ⟨RX10, "go", "()V"⟩
abbrev cX10_spelt : ByteArray := prog_12_method_19_code
def yX10_spelt : MethodName := ⟨RX10, "spelt", "(IIIII)J"⟩
abbrev cX10_isKey : ByteArray := prog_12_method_20_code
def yX10_isKey : MethodName := ⟨RX10, "isKey", "(J)Z"⟩
abbrev cX10_isBody : ByteArray := prog_12_method_21_code
def yX10_isBody : MethodName := ⟨RX10, "isBody", "()Z"⟩
abbrev cX10_isCarry : ByteArray := prog_12_method_22_code
def yX10_isCarry : MethodName := ⟨RX10, "isCarry", "()Z"⟩
abbrev cX10_isAnd : ByteArray := prog_12_method_23_code
def yX10_isAnd : MethodName := ⟨RX10, "isAnd", "()Z"⟩
abbrev cX10_isOr : ByteArray := prog_12_method_24_code
def yX10_isOr : MethodName := ⟨RX10, "isOr", "()Z"⟩
abbrev cX10_isOf : ByteArray := prog_12_method_25_code
def yX10_isOf : MethodName := ⟨RX10, "isOf", "()Z"⟩
abbrev cX10_isName : ByteArray := prog_12_method_26_code
def yX10_isName : MethodName := ⟨RX10, "isName", "()Z"⟩
abbrev cX10_isSign : ByteArray := prog_12_method_27_code
def yX10_isSign : MethodName := ⟨RX10, "isSign", "(I)Z"⟩
abbrev cX10_bad : ByteArray := prog_12_method_28_code
def yX10_bad : MethodName := ⟨RX10, "bad", "(I)Z"⟩
abbrev cX10_badAt : ByteArray := prog_12_method_29_code
def yX10_badAt : MethodName := ⟨RX10, "badAt", "(II)Z"⟩
abbrev cX10_openRule : ByteArray := prog_12_method_30_code
def yX10_openRule : MethodName := ⟨RX10, "openRule", "(I)V"⟩
abbrev cX10_openList : ByteArray := prog_12_method_31_code
def yX10_openList : MethodName := ⟨RX10, "openList", "(I)V"⟩
abbrev cX10_begin : ByteArray := prog_12_method_32_code
def yX10_begin : MethodName := ⟨RX10, "begin", "()Z"⟩
abbrev cX10_beginItem : ByteArray := prog_12_method_33_code
def yX10_beginItem : MethodName := ⟨RX10, "beginItem", "()Z"⟩
abbrev cX10_beginList : ByteArray := prog_12_method_34_code
def yX10_beginList : MethodName := ⟨RX10, "beginList", "(I)Z"⟩
abbrev cX10_nameAtHand : ByteArray := prog_12_method_35_code
def yX10_nameAtHand : MethodName := ⟨RX10, "nameAtHand", "()I"⟩
abbrev cX10_beginOne : ByteArray := prog_12_method_36_code
def yX10_beginOne : MethodName := ⟨RX10, "beginOne", "()Z"⟩
abbrev cX10_end_ : ByteArray := prog_12_method_37_code
def yX10_end_ : MethodName := ⟨RX10, "end", "()Z"⟩
abbrev cX10_readRule : ByteArray := prog_12_method_38_code
def yX10_readRule : MethodName := ⟨RX10, "readRule", "()Z"⟩
abbrev cX10_readBody : ByteArray := prog_12_method_39_code
def yX10_readBody : MethodName := ⟨RX10, "readBody", "()Z"⟩
abbrev cX10_statute : ByteArray := prog_12_method_40_code
def yX10_statute : MethodName := ⟨RX10, "statute", "(I)I"⟩
abbrev cX10_fault : ByteArray := prog_12_method_41_code
def yX10_fault : MethodName := ⟨RX10, "fault", "()I"⟩
abbrev cX10_inForce : ByteArray := prog_12_method_42_code
def yX10_inForce : MethodName := ⟨RX10, "inForce", "(II)I"⟩
abbrev cX10_carriesBy : ByteArray := prog_12_method_43_code
def yX10_carriesBy : MethodName := ⟨RX10, "carriesBy", "(II)Z"⟩
abbrev cX10_carries : ByteArray := prog_12_method_44_code
def yX10_carries : MethodName := ⟨RX10, "carries", "(II)I"⟩
abbrev cX10_lay : ByteArray := prog_12_method_45_code
def yX10_lay : MethodName := ⟨RX10, "lay", "()V"⟩
abbrev cX10_isLeast : ByteArray := prog_12_method_46_code
def yX10_isLeast : MethodName := ⟨RX10, "isLeast", "(I)Z"⟩
abbrev cX10_hinders : ByteArray := prog_12_method_47_code
def yX10_hinders : MethodName := ⟨RX10, "hinders", "(I)Z"⟩
abbrev cX10_isLeastHinder : ByteArray := prog_12_method_48_code
def yX10_isLeastHinder : MethodName := ⟨RX10, "isLeastHinder", "(I)Z"⟩
abbrev cX10_isOfKind : ByteArray := prog_12_method_49_code
def yX10_isOfKind : MethodName := ⟨RX10, "isOfKind", "(II)Z"⟩
abbrev cX10_countOf : ByteArray := prog_12_method_50_code
def yX10_countOf : MethodName := ⟨RX10, "countOf", "(I)I"⟩
abbrev cX10_whoIs : ByteArray := prog_12_method_51_code
def yX10_whoIs : MethodName := ⟨RX10, "whoIs", "(Z)I"⟩
abbrev cX10_isProper : ByteArray := prog_12_method_52_code
def yX10_isProper : MethodName := ⟨RX10, "isProper", "()Z"⟩
abbrev cX10_isStrong : ByteArray := prog_12_method_53_code
def yX10_isStrong : MethodName := ⟨RX10, "isStrong", "()Z"⟩
abbrev cX10_held : ByteArray := prog_12_method_54_code
def yX10_held : MethodName := ⟨RX10, "held", "(II)I"⟩
abbrev cX10_isLined : ByteArray := prog_12_method_55_code
def yX10_isLined : MethodName := ⟨RX10, "isLined", "()Z"⟩
abbrev cX10_many : ByteArray := prog_12_method_56_code
def yX10_many : MethodName := ⟨RX10, "many", "(I)I"⟩
abbrev cX10_setAt : ByteArray := prog_12_method_57_code
def yX10_setAt : MethodName := ⟨RX10, "setAt", "(II)I"⟩
abbrev cX10_stronger : ByteArray := prog_12_method_58_code
def yX10_stronger : MethodName := ⟨RX10, "stronger", "(II)I"⟩
abbrev cX10_turnsOf : ByteArray := prog_12_method_59_code
def yX10_turnsOf : MethodName := ⟨RX10, "turnsOf", "(I)I"⟩
abbrev cX10_turns : ByteArray := prog_12_method_60_code
def yX10_turns : MethodName := ⟨RX10, "turns", "(I)I"⟩
abbrev cX10_lessen : ByteArray := prog_12_method_61_code
def yX10_lessen : MethodName := ⟨RX10, "lessen", "(JJ)V"⟩
abbrev cX10_orders : ByteArray := prog_12_method_62_code
def yX10_orders : MethodName := ⟨RX10, "orders", "(I)J"⟩
abbrev cX10_shareOfSets : ByteArray := prog_12_method_63_code
def yX10_shareOfSets : MethodName := ⟨RX10, "shareOfSets", "(I)V"⟩
abbrev cX10_shareOfOrders : ByteArray := prog_12_method_64_code
def yX10_shareOfOrders : MethodName := ⟨RX10, "shareOfOrders", "(I)V"⟩
abbrev cX10_shareOfLeast : ByteArray := prog_12_method_65_code
def yX10_shareOfLeast : MethodName := ⟨RX10, "shareOfLeast", "(I)V"⟩
abbrev cX10_share : ByteArray := prog_12_method_66_code
def yX10_share : MethodName := ⟨RX10, "share", "(III)J"⟩
abbrev cX10_power : ByteArray := prog_12_method_67_code
def yX10_power : MethodName := ⟨RX10, "power", "(JI)J"⟩
abbrev cX10_chance : ByteArray := prog_12_method_68_code
def yX10_chance : MethodName := ⟨RX10, "chance", "(I)J"⟩
abbrev cX10_ally : ByteArray := prog_12_method_69_code
def yX10_ally : MethodName := ⟨RX10, "ally", "(I)I"⟩
abbrev cX10_findSorts : ByteArray := prog_12_method_70_code
def yX10_findSorts : MethodName := ⟨RX10, "findSorts", "()V"⟩
abbrev cX10_findEnds : ByteArray := prog_12_method_71_code
def yX10_findEnds : MethodName := ⟨RX10, "findEnds", "()V"⟩
abbrev cX10_sumOf : ByteArray := prog_12_method_72_code
def yX10_sumOf : MethodName := ⟨RX10, "sumOf", "(I)I"⟩
abbrev cX10_isRight : ByteArray := prog_12_method_73_code
def yX10_isRight : MethodName := ⟨RX10, "isRight", "()Z"⟩
abbrev cX10_mayBe : ByteArray := prog_12_method_74_code
def yX10_mayBe : MethodName := ⟨RX10, "mayBe", "(II)Z"⟩
abbrev cX10_trySum : ByteArray := prog_12_method_75_code
def yX10_trySum : MethodName := ⟨RX10, "trySum", "(I)I"⟩
abbrev cX10_weigh : ByteArray := prog_12_method_76_code
def yX10_weigh : MethodName := ⟨RX10, "weigh", "()I"⟩
abbrev cX10_weight : ByteArray := prog_12_method_77_code
def yX10_weight : MethodName := ⟨RX10, "weight", "(I)I"⟩
abbrev cX10_areOptions : ByteArray := prog_12_method_78_code
def yX10_areOptions : MethodName := ⟨RX10, "areOptions", "(I)Z"⟩
abbrev cX10_rank : ByteArray := prog_12_method_79_code
def yX10_rank : MethodName := ⟨RX10, "rank", "(I)Z"⟩
abbrev cX10_beatsOf : ByteArray := prog_12_method_80_code
def yX10_beatsOf : MethodName := ⟨RX10, "beatsOf", "(II)Z"⟩
abbrev cX10_layOptions : ByteArray := prog_12_method_81_code
def yX10_layOptions : MethodName := ⟨RX10, "layOptions", "()V"⟩
abbrev cX10_isOption : ByteArray := prog_12_method_82_code
def yX10_isOption : MethodName := ⟨RX10, "isOption", "(I)Z"⟩
abbrev cX10_beats : ByteArray := prog_12_method_83_code
def yX10_beats : MethodName := ⟨RX10, "beats", "(II)I"⟩
abbrev cX10_free : ByteArray := prog_12_method_84_code
def yX10_free : MethodName := ⟨RX10, "free", "()I"⟩
abbrev cX10_top : ByteArray := prog_12_method_85_code
def yX10_top : MethodName := ⟨RX10, "top", "()I"⟩
abbrev cX10_leads : ByteArray := prog_12_method_86_code
def yX10_leads : MethodName := ⟨RX10, "leads", "(Z)I"⟩
abbrev cX10_endOf : ByteArray := prog_12_method_87_code
def yX10_endOf : MethodName := ⟨RX10, "endOf", "(I)I"⟩
abbrev cX10_rows : ByteArray := prog_12_method_88_code
def yX10_rows : MethodName := ⟨RX10, "rows", "(I)I"⟩
abbrev cX10_goOn : ByteArray := prog_12_method_89_code
def yX10_goOn : MethodName := ⟨RX10, "goOn", "()Z"⟩
abbrev cX10_rowAt : ByteArray := prog_12_method_90_code
def yX10_rowAt : MethodName := ⟨RX10, "rowAt", "(I)I"⟩
abbrev cX10_vote : ByteArray := prog_12_method_91_code
def yX10_vote : MethodName := ⟨RX10, "vote", "(IZ)I"⟩
abbrev cX10_unfit : ByteArray := prog_12_method_92_code
def yX10_unfit : MethodName := ⟨RX10, "unfit", "(I)I"⟩
abbrev cX10_sureOf : ByteArray := prog_12_method_93_code
def yX10_sureOf : MethodName := ⟨RX10, "sureOf", "(II)I"⟩
abbrev cX10_sure : ByteArray := prog_12_method_94_code
def yX10_sure : MethodName := ⟨RX10, "sure", "(II)I"⟩
abbrev cX10_open : ByteArray := prog_12_method_95_code
def yX10_open : MethodName := ⟨RX10, "open", "(I)I"⟩
abbrev cX10_count : ByteArray := prog_12_method_96_code
def yX10_count : MethodName := ⟨RX10, "count", "(I)I"⟩
def RJ6 : String := "java/lang/Integer"
def TJ6 : u_T := fun k => match k with
  | _ => ("", "", "", false)
def tyJ6 : Nat → FieldType := fun k => match k with
  | _ => .int
abbrev wsJ60 : List Cond := u_ws RJ6 TJ6 0
theorem nmJ6 : ∀ a, a < 0 → ∀ b, b < 0 → a ≠ b → (TJ6 a).2.1 ≠ (TJ6 b).2.1 := by decide +kernel
theorem tyJ6_ok : ∀ k, k < 0 → parseFieldDescriptor (TJ6 k).2.2.1 = some (tyJ6 k) := by decide +kernel
abbrev cJ6_bitCount_0f7a4 : ByteArray := prog_14_method_49_code
def yJ6_bitCount_0f7a4 : MethodName := ⟨RJ6, "bitCount", "(I)I"⟩
def RJ9 : String := "java/lang/Math"
def TJ9 : u_T := fun k => match k with
  | _ => ("", "", "", false)
def tyJ9 : Nat → FieldType := fun k => match k with
  | _ => .int
abbrev wsJ90 : List Cond := u_ws RJ9 TJ9 0
theorem nmJ9 : ∀ a, a < 0 → ∀ b, b < 0 → a ≠ b → (TJ9 a).2.1 ≠ (TJ9 b).2.1 := by decide +kernel
theorem tyJ9_ok : ∀ k, k < 0 → parseFieldDescriptor (TJ9 k).2.2.1 = some (tyJ9 k) := by decide +kernel
abbrev cJ9_min_7cf53 : ByteArray := prog_15_method_69_code
def yJ9_min_7cf53 : MethodName := ⟨RJ9, "min", "(II)I"⟩
def RJ0 : String := "java/lang/String"
def TJ0 : u_T := fun k => match k with
  | _ => ("", "", "", false)
def tyJ0 : Nat → FieldType := fun k => match k with
  | _ => .int
abbrev wsJ00 : List Cond := u_ws RJ0 TJ0 0
theorem nmJ0 : ∀ a, a < 0 → ∀ b, b < 0 → a ≠ b → (TJ0 a).2.1 ≠ (TJ0 b).2.1 := by decide +kernel
theorem tyJ0_ok : ∀ k, k < 0 → parseFieldDescriptor (TJ0 k).2.2.1 = some (tyJ0 k) := by decide +kernel
abbrev cJ0_length_8abf5 : ByteArray := prog_17_method_54_code
def yJ0_length_8abf5 : MethodName := ⟨RJ0, "length", "()I"⟩
abbrev cJ0_charAt_5068e : ByteArray := prog_17_method_56_code
def yJ0_charAt_5068e : MethodName := ⟨RJ0, "charAt", "(I)C"⟩
abbrev cJ0_coder_7d493 : ByteArray := prog_17_method_152_code
def yJ0_coder_7d493 : MethodName := ⟨RJ0, "coder", "()B"⟩
abbrev cJ0_isLatin1_aae02 : ByteArray := prog_17_method_154_code
def yJ0_isLatin1_aae02 : MethodName := ⟨RJ0, "isLatin1", "()Z"⟩
abbrev cJ0_checkIndex_df160 : ByteArray := prog_17_method_155_code
def yJ0_checkIndex_df160 : MethodName := ⟨RJ0, "checkIndex", "(II)V"⟩
def RJ1 : String := "java/lang/StringLatin1"
def TJ1 : u_T := fun k => match k with
  | _ => ("", "", "", false)
def tyJ1 : Nat → FieldType := fun k => match k with
  | _ => .int
abbrev wsJ10 : List Cond := u_ws RJ1 TJ1 0
theorem nmJ1 : ∀ a, a < 0 → ∀ b, b < 0 → a ≠ b → (TJ1 a).2.1 ≠ (TJ1 b).2.1 := by decide +kernel
theorem tyJ1_ok : ∀ k, k < 0 → parseFieldDescriptor (TJ1 k).2.2.1 = some (tyJ1 k) := by decide +kernel
abbrev cJ1_charAt_3b067 : ByteArray := prog_18_method_2_code
def yJ1_charAt_3b067 : MethodName := ⟨RJ1, "charAt", "([BI)C"⟩
def RJ2 : String := "java/lang/StringUTF16"
def TJ2 : u_T := fun k => match k with
  | _ => ("", "", "", false)
def tyJ2 : Nat → FieldType := fun k => match k with
  | _ => .int
abbrev wsJ20 : List Cond := u_ws RJ2 TJ2 0
theorem nmJ2 : ∀ a, a < 0 → ∀ b, b < 0 → a ≠ b → (TJ2 a).2.1 ≠ (TJ2 b).2.1 := by decide +kernel
theorem tyJ2_ok : ∀ k, k < 0 → parseFieldDescriptor (TJ2 k).2.2.1 = some (tyJ2 k) := by decide +kernel
abbrev cJ2_getChar_3b067 : ByteArray := prog_19_method_5_code
def yJ2_getChar_3b067 : MethodName := ⟨RJ2, "getChar", "([BI)C"⟩
abbrev cJ2_length_9d52b : ByteArray := prog_19_method_6_code
def yJ2_length_9d52b : MethodName := ⟨RJ2, "length", "([B)I"⟩
abbrev cJ2_charAt_3b067 : ByteArray := prog_19_method_83_code
def yJ2_charAt_3b067 : MethodName := ⟨RJ2, "charAt", "([BI)C"⟩
abbrev cJ2_checkIndex_2214a : ByteArray := prog_19_method_91_code
def yJ2_checkIndex_2214a : MethodName := ⟨RJ2, "checkIndex", "(I[B)V"⟩
def RJ3 : String := "jdk/internal/util/Preconditions"
def TJ3 : u_T := fun k => match k with
  | _ => ("", "", "", false)
def tyJ3 : Nat → FieldType := fun k => match k with
  | _ => .int
abbrev wsJ30 : List Cond := u_ws RJ3 TJ3 0
theorem nmJ3 : ∀ a, a < 0 → ∀ b, b < 0 → a ≠ b → (TJ3 a).2.1 ≠ (TJ3 b).2.1 := by decide +kernel
theorem tyJ3_ok : ∀ k, k < 0 → parseFieldDescriptor (TJ3 k).2.2.1 = some (tyJ3 k) := by decide +kernel
abbrev cJ3_checkIndex_8e157 : ByteArray := prog_22_method_11_code
def yJ3_checkIndex_8e157 : MethodName := ⟨RJ3, "checkIndex", "(IILjava/util/function/BiFunction;)I"⟩
def RL : String := "CarryHouseLaw"
abbrev cL_share : ByteArray := method_3_code
def yL_share : MethodName := ⟨RL, "share", "(LCarryHouse;III[J)I"⟩
abbrev cL_law : ByteArray := code
def yL_law : MethodName := ⟨RL, "law", "([I)Z"⟩
abbrev vwCl : List vw_C := [(RX0, TX0, 7), (RX1, TX1, 4), (RX2, TX2, 13), (RX3, TX3, 4), (RX4, TX4, 10), (RX5, TX5, 16), (RX6, TX6, 7), (RX7, TX7, 2), (RX8, TX8, 2), (RX9, TX9, 12), (RX10, TX10, 64)]
/-- the tables' words, in pieces -/
def xtb (K : Nat) : List Cond := match K with
  | 0 => k2_sels lw_privs
  | 1 => tables_1_1
  | 2 => tables_1_2
  | 3 => tables_1_3
  | 4 => tables_1_4
  | 5 => tables_1_5
  | 6 => tables_1_6
  | 7 => tables_1_7
  | _ => []
theorem xtb_in {K : Nat} {w : Cond} (h : w ∈ xtb K) : w ∈ lw_tbl := by
  unfold lw_tbl tables_1
  unfold xtb at h
  simp only [List.mem_append]
  split at h <;> simp_all
/-- the words that calls keep -/
def xG : List Cond := lw_tbl.filter goodWord
def xw_b (K i : Nat) (w : Cond) : Bool := decide ((xtb K)[i]? = some w) && goodWord w
theorem xw_in {K i : Nat} {w : Cond} (h : xw_b K i w = true) : w ∈ xG := by
  unfold xw_b at h
  rw [Bool.and_eq_true] at h
  exact List.mem_filter.mpr ⟨xtb_in (List.mem_of_getElem? (of_decide_eq_true h.1)), h.2⟩
end
section
section XH
/-- ABSTRACT HEAPS: the cells' shapes; what they hold: ints, longs, references (by the numbers of the cells). A shape (0, ci): an object of vwCl's row ci; (1, n) int[n], (2, n) byte[n], (3, n) boolean[n], (4, n) long[n], (5, n) Statute[n] -/
abbrev xh_H : Type := List (Nat × Nat) × List (List Int32) × List (List Int64) × List (List (Option Nat))
/-- rows that go on for ever: behind their end lies z -/
def xg {α : Type} (z : α) (L : List (List α)) (c k : Nat) : α := (L.getD c []).getD k z
def xsr {α : Type} (z : α) : List α → Nat → α → List α
  | [], 0, x => [x]
  | [], k + 1, x => z :: xsr z [] k x
  | _ :: t, 0, x => x :: t
  | a :: t, k + 1, x => a :: xsr z t k x
theorem xsr_s {α : Type} (z : α) (x : α) : ∀ (k : Nat) (l : List α), (xsr z l k x).getD k z = x := by
  intro k
  induction k with
  | zero => intro l; cases l <;> rfl
  | succ k ih =>
    intro l
    cases l with
    | nil => show (xsr z [] k x).getD k z = x; exact ih []
    | cons a t => show (xsr z t k x).getD k z = x; exact ih t
theorem xsr_o {α : Type} (z : α) (x : α) : ∀ (k j : Nat) (l : List α), j ≠ k → (xsr z l k x).getD j z = l.getD j z := by
  intro k
  induction k with
  | zero =>
    intro j l h
    cases j with
    | zero => exact absurd rfl h
    | succ j => cases l <;> rfl
  | succ k ih =>
    intro j l h
    cases l with
    | nil =>
      cases j with
      | zero => rfl
      | succ j => exact (ih j [] (fun e => h (by rw [e]))).trans rfl
    | cons a t =>
      cases j with
      | zero => rfl
      | succ j => exact ih j t (fun e => h (by rw [e]))
def xh_up {α : Type} (z : α) (f : List (List α)) (c k : Nat) (x : α) : List (List α) := xsr [] f c (xsr z (f.getD c []) k x)
def xh_rs {α : Type} (f : List (List α)) (n : Nat) : List (List α) := xsr [] f n []
theorem xh_up_o {α : Type} {z : α} {f : List (List α)} {c k c' : Nat} {x : α} (h : c' ≠ c) : xg z (xh_up z f c k x) c' = xg z f c' := by
  funext k'
  unfold xg xh_up
  rw [xsr_o [] _ c c' f h]
theorem xh_up_k {α : Type} {z : α} {f : List (List α)} {c k k' : Nat} {x : α} (h : k' ≠ k) : xg z (xh_up z f c k x) c k' = xg z f c k' := by
  unfold xg xh_up
  rw [xsr_s, xsr_o z x k k' _ h]
theorem xh_up_s {α : Type} {z : α} {f : List (List α)} {c k : Nat} {x : α} : xg z (xh_up z f c k x) c k = x := by
  unfold xg xh_up
  rw [xsr_s, xsr_s]
theorem xh_rs_o {α : Type} {z : α} {f : List (List α)} {n c : Nat} (h : c ≠ n) : xg z (xh_rs f n) c = xg z f c := by
  funext k
  unfold xg xh_rs
  rw [xsr_o [] _ n c f h]
theorem xh_rs_s {α : Type} {z : α} {f : List (List α)} {n : Nat} : xg z (xh_rs f n) n = fun _ => z := by
  funext k
  unfold xg xh_rs
  rw [xsr_s]
  rfl
def xh_tl : List (Nat → FieldType) := [tyX0, tyX1, tyX2, tyX3, tyX4, tyX5, tyX6, tyX7, tyX8, tyX9, tyX10]
def xh_ty (ci k : Nat) : FieldType := (xh_tl.getD ci tyX0) k
def xh_N (ci : Nat) : Nat := ([7, 4, 13, 4, 10, 16, 7, 2, 2, 12, 64] : List Nat).getD ci 0
/-- what a field holds, in the machine's words and in ours -/
def xh_fv (ad : Nat → Nat) (h : xh_H) (c : Nat) (ty : FieldType) (k : Nat) : Value := match ty with
  | .long => .long (xg 0 h.2.2.1 c k)
  | .object _ => va_rf ((xg none h.2.2.2 c k).map ad)
  | .array _ => va_rf ((xg none h.2.2.2 c k).map ad)
  | _ => .int (xg 0 h.2.1 c k)
def xh_get (h : xh_H) (c : Nat) (ty : FieldType) (k : Nat) : Value := match ty with
  | .long => .long (xg 0 h.2.2.1 c k)
  | .object _ => va_rf (xg none h.2.2.2 c k)
  | .array _ => va_rf (xg none h.2.2.2 c k)
  | _ => .int (xg 0 h.2.1 c k)
/-- our values in the machine's words: a cell by its address; a float stands for a thing that is not of ours (0: the script; the others: String constants) -/
def xh_v (ad sp : Nat → Nat) : Value → Value
  | .ref k => .ref (ad k)
  | .float u => .ref (sp u.toNat)
  | v => v
theorem xh_v_rf (ad sp : Nat → Nat) (r : Option Nat) : xh_v ad sp (va_rf r) = va_rf (r.map ad) := by cases r <;> rfl
theorem xh_v_get (ad sp : Nat → Nat) (h : xh_H) (c : Nat) (ty : FieldType) (k : Nat) : xh_v ad sp (xh_get h c ty k) = xh_fv ad h c ty k := by
  cases ty <;> first | rfl | exact xh_v_rf ad sp _
theorem xh_v_cat (ad sp : Nat → Nat) (v : Value) : (xh_v ad sp v).category = v.category := by cases v <;> rfl
def xh_e (ad : Nat → Nat) (cy : Nat → ClassId) (h : xh_H) (c : Nat) (sh : Nat × Nat) : va_E := match sh.1 with
  | 0 => .inr (sh.2, (List.range (xh_N sh.2)).map (fun k => xh_fv ad h c (xh_ty sh.2 k) k))
  | 4 => .inl (cy 4, sh.2, .inr (.inl (xg 0 h.2.2.1 c)))
  | 5 => .inl (cy 5, sh.2, .inr (.inr (.inr (.inr (fun j => (xg none h.2.2.2 c j).map ad)))))
  | k => .inl (cy k, sh.2, .inl (xg 0 h.2.1 c))
def xh_ws (ad : Nat → Nat) (cy : Nat → ClassId) (h : xh_H) : va_W := h.1.mapIdx (fun c sh => (ad c, xh_e ad cy h c sh))
theorem xh_ws_get (ad : Nat → Nat) (cy : Nat → ClassId) (h : xh_H) (c : Nat) : (xh_ws ad cy h)[c]? = (h.1[c]?).map (fun sh => (ad c, xh_e ad cy h c sh)) := by
  unfold xh_ws
  rw [List.getElem?_mapIdx]
theorem xh_ws_at {ad : Nat → Nat} {cy : Nat → ClassId} {h : xh_H} {c : Nat} {sh : Nat × Nat} (hc : h.1[c]? = some sh) : (xh_ws ad cy h)[c]? = some (ad c, xh_e ad cy h c sh) := by
  rw [xh_ws_get, hc]; rfl
theorem xh_ws_len (ad : Nat → Nat) (cy : Nat → ClassId) (h : xh_H) : (xh_ws ad cy h).length = h.1.length := by simp [xh_ws]
theorem xh_e_congr {ad : Nat → Nat} {cy : Nat → ClassId} {h h' : xh_H} {c : Nat} {sh : Nat × Nat} (hi : xg 0 h'.2.1 c = xg 0 h.2.1 c) (hl : xg 0 h'.2.2.1 c = xg 0 h.2.2.1 c) (hr : xg none h'.2.2.2 c = xg none h.2.2.2 c) : xh_e ad cy h' c sh = xh_e ad cy h c sh := by
  have hf : ∀ ty k, xh_fv ad h' c ty k = xh_fv ad h c ty k := by intro ty k; cases ty <;> simp [xh_fv, hi, hl, hr]
  unfold xh_e
  split <;> simp [hf, hi, hl, hr]
/-- one cell is written -/
theorem xh_ws_set {ad : Nat → Nat} {cy : Nat → ClassId} {h h' : xh_H} {c : Nat} {sh : Nat × Nat} (h1 : h'.1 = h.1) (ho : ∀ c', c' ≠ c → xg 0 h'.2.1 c' = xg 0 h.2.1 c' ∧ xg 0 h'.2.2.1 c' = xg 0 h.2.2.1 c' ∧ xg none h'.2.2.2 c' = xg none h.2.2.2 c') (hc : h.1[c]? = some sh) : (xh_ws ad cy h).set c (ad c, xh_e ad cy h' c sh) = xh_ws ad cy h' := by
  apply List.ext_getElem?
  intro j
  rw [List.getElem?_set, xh_ws_get, xh_ws_get, h1]
  by_cases hj : c = j
  · subst hj
    have hl : c < (xh_ws ad cy h).length := by rw [xh_ws_len]; exact (List.getElem?_eq_some_iff.mp hc).1
    rw [if_pos rfl, if_pos hl, hc]; rfl
  · rw [if_neg hj]
    cases hq : h.1[j]? with
    | none => rfl
    | some q =>
      obtain ⟨a, b, d⟩ := ho j (fun z => hj z.symm)
      simp [xh_e_congr a b d]
/-- one cell is made -/
theorem xh_ws_new {ad : Nat → Nat} {cy : Nat → ClassId} {h : xh_H} {sh : Nat × Nat} {h' : xh_H} (h1 : h'.1 = h.1 ++ [sh]) (ho : ∀ c', c' ≠ h.1.length → xg 0 h'.2.1 c' = xg 0 h.2.1 c' ∧ xg 0 h'.2.2.1 c' = xg 0 h.2.2.1 c' ∧ xg none h'.2.2.2 c' = xg none h.2.2.2 c') : xh_ws ad cy h' = xh_ws ad cy h ++ [(ad h.1.length, xh_e ad cy h' h.1.length sh)] := by
  apply List.ext_getElem?
  intro j
  rw [xh_ws_get, h1]
  by_cases hj : j < h.1.length
  · rw [List.getElem?_append_left hj, List.getElem?_append_left (by rw [xh_ws_len]; exact hj), xh_ws_get]
    cases hq : h.1[j]? with
    | none => rfl
    | some q =>
      obtain ⟨a, b, d⟩ := ho j (by omega)
      simp [xh_e_congr a b d]
  · rw [List.getElem?_append_right (by omega), List.getElem?_append_right (by rw [xh_ws_len]; omega), xh_ws_len]
    by_cases hk : j = h.1.length
    · subst hk; simp
    · rw [List.getElem?_eq_none (by simp; omega), List.getElem?_eq_none (by simp; omega)]; rfl
theorem xh_fs_set {f g : Nat → Value} {N k : Nat} {v : Value} (hk : g k = v) (ho : ∀ j, j ≠ k → g j = f j) : ((List.range N).map f).set k v = (List.range N).map g := by
  apply List.ext_getElem?
  intro j
  rw [List.getElem?_set]
  by_cases hj : k = j
  · subst hj
    by_cases hN : k < N
    · simp [hN, hk]
    · simp [hN]
  · rw [if_neg hj]
    by_cases hN : j < N
    · simp [hN, ho j (fun z => hj z.symm)]
    · simp [hN]
theorem xh_fs_get {f : Nat → Value} {N k : Nat} (hk : k < N) : ((List.range N).map f)[k]? = some (f k) := by simp [hk]
/-- the machine's state, in our words: the cells stand at their addresses, the next cell comes at the heap's end -/
def xh_at (D : va_G) (cy : Nat → ClassId) (ad : Nat → Nat) (A : Nat → Prop) (h : xh_H) (H : Heap) : Prop :=
  va_P D vwCl (xh_ws ad cy h) H ∧ va_D A (xh_ws ad cy h) ∧ ∀ j : Nat, ad (h.1.length + j) = H.size + j
def xh_ts (cy : Nat → ClassId) : List (ClassId × FieldType) := [(cy 1, .int), (cy 2, .byte), (cy 3, .boolean), (cy 4, .long), (cy 5, .object RX7)]
/-! the locals, by their numbers -/
def xl_get : List (Nat × Value) → Nat → Option Value
  | [], _ => none
  | q :: t, i => cond (Nat.beq q.1 i) (some q.2) (xl_get t i)
theorem xl_get_mem {lv : List (Nat × Value)} {i : Nat} {v : Value} (h : xl_get lv i = some v) : (i, v) ∈ lv := by
  induction lv with
  | nil => cases h
  | cons q t ih =>
    unfold xl_get at h
    cases hb : Nat.beq q.1 i with
    | true =>
      rw [hb] at h
      have h1 := Nat.eq_of_beq_eq_true hb
      cases h
      subst h1
      exact List.mem_cons_self
    | false => rw [hb] at h; exact List.mem_cons_of_mem _ (ih h)
def xl_1 (lv : List (Nat × Value)) (i : Nat) (v : Value) : List (Nat × Value) := (i, v) :: lv.filter (fun q => !(q.1 == i) && !(q.1 + 1 == i && q.2.category == 2))
def xl_2 (lv : List (Nat × Value)) (i : Nat) (v : Value) : List (Nat × Value) := (i, v) :: lv.filter (fun q => !(q.1 == i) && (!(q.1 == i + 1) && !(q.1 + 1 == i && q.2.category == 2)))
def xl_m (ad sp : Nat → Nat) (lv : List (Nat × Value)) : List (Nat × Value) := lv.map (fun q => (q.1, xh_v ad sp q.2))
theorem xl_m1 (ad sp : Nat → Nat) (lv : List (Nat × Value)) (i : Nat) (v : Value) : (i, xh_v ad sp v) :: (xl_m ad sp lv).filter (fun q => !(q.1 == i) && !(q.1 + 1 == i && q.2.category == 2)) = xl_m ad sp (xl_1 lv i v) := by
  simp [xl_m, xl_1, List.filter_map, Function.comp_def, xh_v_cat]
theorem xl_m2 (ad sp : Nat → Nat) (lv : List (Nat × Value)) (i : Nat) (v : Value) : (i, xh_v ad sp v) :: (xl_m ad sp lv).filter (fun q => !(q.1 == i) && (!(q.1 == i + 1) && !(q.1 + 1 == i && q.2.category == 2))) = xl_m ad sp (xl_2 lv i v) := by
  simp [xl_m, xl_2, List.filter_map, Function.comp_def, xh_v_cat]
theorem xl_at {ad sp : Nat → Nat} {ls : Array Slot} {nL : Nat} {lv : List (Nat × Value)} (h : lv_has ls nL (xl_m ad sp lv)) {i : Nat} {v : Value} (hv : xl_get lv i = some v) : ls[i]? = some (.val (xh_v ad sp v)) :=
  h.2.2 (i, xh_v ad sp v) (List.mem_map.mpr ⟨(i, v), xl_get_mem hv, rfl⟩)
theorem xl_ix {ad sp : Nat → Nat} {lv : List (Nat × Value)} {i : Nat} {v : Value} (hv : xl_get lv i = some v) : ∃ k : Nat, (xl_m ad sp lv)[k]? = some (i, xh_v ad sp v) :=
  List.getElem?_of_mem (List.mem_map.mpr ⟨(i, v), xl_get_mem hv, rfl⟩)
/-! what lies on the stack -/
def xp_i {α : Type} (st : List Value) (f : Int32 → List Value → Option α) : Option α := match st with
  | .int x :: r => f x r
  | _ => none
def xp_ii {α : Type} (st : List Value) (f : Int32 → Int32 → List Value → Option α) : Option α := match st with
  | .int y :: .int x :: r => f y x r
  | _ => none
def xp_l {α : Type} (st : List Value) (f : Int64 → List Value → Option α) : Option α := match st with
  | .long x :: r => f x r
  | _ => none
def xp_ll {α : Type} (st : List Value) (f : Int64 → Int64 → List Value → Option α) : Option α := match st with
  | .long y :: .long x :: r => f y x r
  | _ => none
def xp_il {α : Type} (st : List Value) (f : Int32 → Int64 → List Value → Option α) : Option α := match st with
  | .int y :: .long x :: r => f y x r
  | _ => none
def xp_r {α : Type} (st : List Value) (f : Nat → List Value → Option α) : Option α := match st with
  | .ref a :: r => f a r
  | _ => none
def xp_ir {α : Type} (st : List Value) (f : Int32 → Nat → List Value → Option α) : Option α := match st with
  | .int i :: .ref a :: r => f i a r
  | _ => none
def xp_iir {α : Type} (st : List Value) (f : Int32 → Int32 → Nat → List Value → Option α) : Option α := match st with
  | .int x :: .int i :: .ref a :: r => f x i a r
  | _ => none
def xp_lir {α : Type} (st : List Value) (f : Int64 → Int32 → Nat → List Value → Option α) : Option α := match st with
  | .long x :: .int i :: .ref a :: r => f x i a r
  | _ => none
def xp_rir {α : Type} (st : List Value) (f : Nat → Int32 → Nat → List Value → Option α) : Option α := match st with
  | .ref x :: .int i :: .ref a :: r => f x i a r
  | _ => none
def xp_vr {α : Type} (st : List Value) (f : Value → Nat → List Value → Option α) : Option α := match st with
  | v :: .ref a :: r => f v a r
  | _ => none
theorem xp_i_v {α : Type} {st : List Value} {f : Int32 → List Value → Option α} {o : α} (h : xp_i st f = some o) : ∃ x r, st = .int x :: r ∧ f x r = some o := by
  unfold xp_i at h; split at h
  · exact ⟨_, _, rfl, h⟩
  · cases h
theorem xp_ii_v {α : Type} {st : List Value} {f : Int32 → Int32 → List Value → Option α} {o : α} (h : xp_ii st f = some o) : ∃ y x r, st = .int y :: .int x :: r ∧ f y x r = some o := by
  unfold xp_ii at h; split at h
  · exact ⟨_, _, _, rfl, h⟩
  · cases h
theorem xp_l_v {α : Type} {st : List Value} {f : Int64 → List Value → Option α} {o : α} (h : xp_l st f = some o) : ∃ x r, st = .long x :: r ∧ f x r = some o := by
  unfold xp_l at h; split at h
  · exact ⟨_, _, rfl, h⟩
  · cases h
theorem xp_ll_v {α : Type} {st : List Value} {f : Int64 → Int64 → List Value → Option α} {o : α} (h : xp_ll st f = some o) : ∃ y x r, st = .long y :: .long x :: r ∧ f y x r = some o := by
  unfold xp_ll at h; split at h
  · exact ⟨_, _, _, rfl, h⟩
  · cases h
theorem xp_il_v {α : Type} {st : List Value} {f : Int32 → Int64 → List Value → Option α} {o : α} (h : xp_il st f = some o) : ∃ y x r, st = .int y :: .long x :: r ∧ f y x r = some o := by
  unfold xp_il at h; split at h
  · exact ⟨_, _, _, rfl, h⟩
  · cases h
theorem xp_r_v {α : Type} {st : List Value} {f : Nat → List Value → Option α} {o : α} (h : xp_r st f = some o) : ∃ a r, st = .ref a :: r ∧ f a r = some o := by
  unfold xp_r at h; split at h
  · exact ⟨_, _, rfl, h⟩
  · cases h
theorem xp_ir_v {α : Type} {st : List Value} {f : Int32 → Nat → List Value → Option α} {o : α} (h : xp_ir st f = some o) : ∃ i a r, st = .int i :: .ref a :: r ∧ f i a r = some o := by
  unfold xp_ir at h; split at h
  · exact ⟨_, _, _, rfl, h⟩
  · cases h
theorem xp_iir_v {α : Type} {st : List Value} {f : Int32 → Int32 → Nat → List Value → Option α} {o : α} (h : xp_iir st f = some o) : ∃ x i a r, st = .int x :: .int i :: .ref a :: r ∧ f x i a r = some o := by
  unfold xp_iir at h; split at h
  · exact ⟨_, _, _, _, rfl, h⟩
  · cases h
theorem xp_lir_v {α : Type} {st : List Value} {f : Int64 → Int32 → Nat → List Value → Option α} {o : α} (h : xp_lir st f = some o) : ∃ x i a r, st = .long x :: .int i :: .ref a :: r ∧ f x i a r = some o := by
  unfold xp_lir at h; split at h
  · exact ⟨_, _, _, _, rfl, h⟩
  · cases h
theorem xp_rir_v {α : Type} {st : List Value} {f : Nat → Int32 → Nat → List Value → Option α} {o : α} (h : xp_rir st f = some o) : ∃ x i a r, st = .ref x :: .int i :: .ref a :: r ∧ f x i a r = some o := by
  unfold xp_rir at h; split at h
  · exact ⟨_, _, _, _, rfl, h⟩
  · cases h
theorem xp_vr_v {α : Type} {st : List Value} {f : Value → Nat → List Value → Option α} {o : α} (h : xp_vr st f = some o) : ∃ v a r, st = v :: .ref a :: r ∧ f v a r = some o := by
  unfold xp_vr at h; split at h
  · exact ⟨_, _, _, rfl, h⟩
  · cases h
end XH
end
section
section XE
/-- a row of a method's code: the instruction, its length, two numbers that its operand stands for, and where its word lies -/
abbrev xr_R : Type := Instr × Nat × Nat × Nat × Nat × Nat
/-- a frame: where it is, its locals, its stack, the heap, how many cells and slots were made -/
abbrev xs_S : Type := Nat × List (Nat × Value) × List Value × xh_H × Nat × Nat
def xv_k (k : Nat) (v : Value) : Bool := match v with
  | .int _ => Nat.beq k 0
  | .long _ => Nat.beq k 1
  | .ref _ => Nat.beq k 2
  | .null => Nat.beq k 2
  | .float _ => Nat.beq k 2
  | _ => false
def xe_ld (k i len pc : Nat) (lv : List (Nat × Value)) (st : List Value) (h : xh_H) (c s : Nat) : Option xs_S := match xl_get lv i with
  | some v => cond (xv_k k v) (some (pc + len, lv, v :: st, h, c, s)) none
  | none => none
def xe_st1 (k i len pc nL : Nat) (lv : List (Nat × Value)) (st : List Value) (h : xh_H) (c s : Nat) : Option xs_S := match st with
  | v :: r => cond (xv_k k v && Nat.ble (i + 1) nL) (some (pc + len, xl_1 lv i v, r, h, c, s)) none
  | [] => none
def xe_st2 (i len pc nL : Nat) (lv : List (Nat × Value)) (st : List Value) (h : xh_H) (c s : Nat) : Option xs_S := match st with
  | v :: r => cond (xv_k 1 v && Nat.ble (i + 2) nL) (some (pc + len, xl_2 lv i v, r, h, c, s)) none
  | [] => none
def xe_c (k : ClassFile.Cond) (x y : Int32) : Bool := match k with
  | .eq => decide (x = y)
  | .ne => !decide (x = y)
  | .lt => decide (x < y)
  | .ge => decide (y ≤ x)
  | .gt => decide (y < x)
  | .le => decide (x ≤ y)
def xh_ui (h : xh_H) (c k : Nat) (x : Int32) : xh_H := (h.1, xh_up 0 h.2.1 c k x, h.2.2.1, h.2.2.2)
def xh_ul (h : xh_H) (c k : Nat) (x : Int64) : xh_H := (h.1, h.2.1, xh_up 0 h.2.2.1 c k x, h.2.2.2)
def xh_ur (h : xh_H) (c k : Nat) (x : Option Nat) : xh_H := (h.1, h.2.1, h.2.2.1, xh_up none h.2.2.2 c k x)
def xh_nw (h : xh_H) (sh : Nat × Nat) : xh_H := (h.1 ++ [sh], xh_rs h.2.1 h.1.length, xh_rs h.2.2.1 h.1.length, xh_rs h.2.2.2 h.1.length)
/-- a field is written -/
def xe_put (h : xh_H) (c : Nat) (ty : FieldType) (k : Nat) (v : Value) : Option xh_H := match ty with
  | .int => (match v with
    | .int x => some (xh_ui h c k x)
    | _ => none)
  | .boolean => (match v with
    | .int x => cond (decide (x = 0) || decide (x = 1)) (some (xh_ui h c k x)) none
    | _ => none)
  | .long => (match v with
    | .long x => some (xh_ul h c k x)
    | _ => none)
  | .object _ => (match v with
    | .ref q => some (xh_ur h c k (some q))
    | _ => none)
  | .array _ => (match v with
    | .ref q => some (xh_ur h c k (some q))
    | _ => none)
  | _ => none
def xe_in (i : Int32) (n : Nat) : Bool := !decide (i < 0) && Nat.ble (i.toNatClampNeg + 1) n
def xa_k (t : ArrayType) : Nat := match t with
  | .int => 1
  | .byte => 2
  | .boolean => 3
  | .long => 4
  | _ => 9
/-- ONE INSTRUCTION (no call, no return) -/
def xe_1 (nL : Nat) (r : xr_R) (pc : Nat) (lv : List (Nat × Value)) (st : List Value) (h : xh_H) (c s : Nat) : Option xs_S := match r.1 with
  | .iconst n => some (pc + 1, lv, .int (Int32.ofInt n) :: st, h, c, s)
  | .bipush n => some (pc + 2, lv, .int (Int8.ofInt n).toInt32 :: st, h, c, s)
  | .sipush n => some (pc + 3, lv, .int (Int16.ofInt n).toInt32 :: st, h, c, s)
  | .lconst n => some (pc + 1, lv, .long (Int64.ofNat (n : Nat)) :: st, h, c, s)
  | .ldc _ => (match r.2.2.2.1 with
    | 0 => some (pc + 2, lv, .int (Int32.ofNat r.2.2.1) :: st, h, c, s)
    | _ => some (pc + 2, lv, .float (UInt32.ofNat r.2.2.1) :: st, h, c, s))
  | .ldc_w _ => some (pc + 3, lv, .int (Int32.ofNat r.2.2.1) :: st, h, c, s)
  | .ldc2_w _ => some (pc + 3, lv, .long (Int64.ofNat r.2.2.1) :: st, h, c, s)
  | .iload_n k => xe_ld 0 k 1 pc lv st h c s
  | .iload k => xe_ld 0 k 2 pc lv st h c s
  | .lload_n k => xe_ld 1 k 1 pc lv st h c s
  | .lload k => xe_ld 1 k 2 pc lv st h c s
  | .aload_n k => xe_ld 2 k 1 pc lv st h c s
  | .aload k => xe_ld 2 k 2 pc lv st h c s
  | .istore_n k => xe_st1 0 k 1 pc nL lv st h c s
  | .istore k => xe_st1 0 k 2 pc nL lv st h c s
  | .astore_n k => xe_st1 2 k 1 pc nL lv st h c s
  | .astore k => xe_st1 2 k 2 pc nL lv st h c s
  | .lstore_n k => xe_st2 k 1 pc nL lv st h c s
  | .lstore k => xe_st2 k 2 pc nL lv st h c s
  | .iinc i n => (match xl_get lv i with
    | some (.int x) => cond (Nat.ble (i + 1) nL) (some (pc + 3, xl_1 lv i (.int (x + Int32.ofInt n)), st, h, c, s)) none
    | _ => none)
  | .iadd => xp_ii st (fun y x r => some (pc + 1, lv, .int (x + y) :: r, h, c, s))
  | .isub => xp_ii st (fun y x r => some (pc + 1, lv, .int (x - y) :: r, h, c, s))
  | .imul => xp_ii st (fun y x r => some (pc + 1, lv, .int (x * y) :: r, h, c, s))
  | .iand => xp_ii st (fun y x r => some (pc + 1, lv, .int (x &&& y) :: r, h, c, s))
  | .ior => xp_ii st (fun y x r => some (pc + 1, lv, .int (x ||| y) :: r, h, c, s))
  | .ixor => xp_ii st (fun y x r => some (pc + 1, lv, .int (x ^^^ y) :: r, h, c, s))
  | .ishl => xp_ii st (fun y x r => some (pc + 1, lv, .int (x <<< (y &&& 31)) :: r, h, c, s))
  | .ishr => xp_ii st (fun y x r => some (pc + 1, lv, .int (x >>> (y &&& 31)) :: r, h, c, s))
  | .iushr => xp_ii st (fun y x r => some (pc + 1, lv, .int (x.toUInt32 >>> (y.toUInt32 &&& Int32.toUInt32 31)).toInt32 :: r, h, c, s))
  | .irem => xp_ii st (fun y x r => cond (decide (y = 0)) none (some (pc + 1, lv, .int (x - x / y * y) :: r, h, c, s)))
  | .ladd => xp_ll st (fun y x r => some (pc + 1, lv, .long (x + y) :: r, h, c, s))
  | .lsub => xp_ll st (fun y x r => some (pc + 1, lv, .long (x - y) :: r, h, c, s))
  | .lmul => xp_ll st (fun y x r => some (pc + 1, lv, .long (x * y) :: r, h, c, s))
  | .land => xp_ll st (fun y x r => some (pc + 1, lv, .long (x &&& y) :: r, h, c, s))
  | .lor => xp_ll st (fun y x r => some (pc + 1, lv, .long (x ||| y) :: r, h, c, s))
  | .ldiv => xp_ll st (fun y x r => cond (decide (y = 0)) none (some (pc + 1, lv, .long (x / y) :: r, h, c, s)))
  | .lrem => xp_ll st (fun y x r => cond (decide (y = 0)) none (some (pc + 1, lv, .long (x - x / y * y) :: r, h, c, s)))
  | .lushr => xp_il st (fun y x r => some (pc + 1, lv, .long (x.toUInt64 >>> (y.toInt64.toUInt64 &&& Int64.toUInt64 63)).toInt64 :: r, h, c, s))
  | .lshl => xp_il st (fun y x r => some (pc + 1, lv, .long (x <<< (y.toInt64 &&& 63)) :: r, h, c, s))
  | .lcmp => xp_ll st (fun y x r => some (pc + 1, lv, .int (lg_cmp x y) :: r, h, c, s))
  | .i2l => xp_i st (fun x r => some (pc + 1, lv, .long x.toInt64 :: r, h, c, s))
  | .l2i => xp_l st (fun x r => some (pc + 1, lv, .int x.toInt32 :: r, h, c, s))
  | .i2b => xp_i st (fun x r => some (pc + 1, lv, .int x.toInt8.toInt32 :: r, h, c, s))
  | .i2c => xp_i st (fun x r => some (pc + 1, lv, .int (x.toUInt32 % 65536).toInt32 :: r, h, c, s))
  | .dup => (match st with
    | a :: r => cond (Nat.beq a.category 1) (some (pc + 1, lv, a :: a :: r, h, c, s)) none
    | _ => none)
  | .pop => (match st with
    | a :: r => cond (Nat.beq a.category 1) (some (pc + 1, lv, r, h, c, s)) none
    | _ => none)
  | .dup2 => (match st with
    | a :: b :: r => cond (Nat.beq a.category 1 && Nat.beq b.category 1) (some (pc + 1, lv, a :: b :: a :: b :: r, h, c, s)) none
    | _ => none)
  | .dup_x2 => (match st with
    | a :: b :: d :: r => cond (Nat.beq a.category 1 && (Nat.beq b.category 1 && Nat.beq d.category 1)) (some (pc + 1, lv, a :: b :: d :: a :: r, h, c, s)) none
    | _ => none)
  | .ifCond k _ => xp_i st (fun x q => cond (xe_c k x 0) (some (r.2.2.1, lv, q, h, c, s)) (some (pc + 3, lv, q, h, c, s)))
  | .if_icmp k _ => xp_ii st (fun y x q => cond (xe_c k x y) (some (r.2.2.1, lv, q, h, c, s)) (some (pc + 3, lv, q, h, c, s)))
  | .goto _ => some (r.2.2.1, lv, st, h, c, s)
  | .ifnull _ => (match st with
    | .ref _ :: q => some (pc + 3, lv, q, h, c, s)
    | _ => none)
  | .if_acmp .ne _ => (match st with
    | .ref y :: .ref x :: q => cond (Nat.ble (x + 1) h.1.length && Nat.ble (y + 1) h.1.length) (cond (Nat.beq x y) (some (pc + 3, lv, q, h, c, s)) (some (r.2.2.1, lv, q, h, c, s))) none
    | _ => none)
  | .tableswitch dflt lo hi offs => xp_i st (fun x q => cond (decide (x.toInt < lo) || decide (hi < x.toInt))
      (cond (decide (0 ≤ (pc : Int) + dflt)) (some (((pc : Int) + dflt).toNat, lv, q, h, c, s)) none)
      (match offs[(x.toInt - lo).toNat]? with
        | some off => cond (decide (0 ≤ (pc : Int) + off)) (some (((pc : Int) + off).toNat, lv, q, h, c, s)) none
        | none => none))
  | .getfield _ => xp_r st (fun a q => match h.1[a]? with
    | some (0, ci) => cond (Nat.beq ci r.2.2.1) (some (pc + 3, lv, xh_get h a (xh_ty r.2.2.1 r.2.2.2.1) r.2.2.2.1 :: q, h, c, s)) none
    | _ => none)
  | .putfield _ => xp_vr st (fun v a q => match h.1[a]? with
    | some (0, ci) => cond (Nat.beq ci r.2.2.1) ((xe_put h a (xh_ty r.2.2.1 r.2.2.2.1) r.2.2.2.1 v).map (fun h' => (pc + 3, lv, q, h', c, s))) none
    | _ => none)
  | .iaload => xp_ir st (fun i a q => match h.1[a]? with
    | some (1, n) => cond (xe_in i n) (some (pc + 1, lv, .int (xg 0 h.2.1 a i.toNatClampNeg) :: q, h, c, s)) none
    | _ => none)
  | .baload => xp_ir st (fun i a q => match h.1[a]? with
    | some (2, n) => cond (xe_in i n) (some (pc + 1, lv, .int (xg 0 h.2.1 a i.toNatClampNeg) :: q, h, c, s)) none
    | some (3, n) => cond (xe_in i n) (some (pc + 1, lv, .int (xg 0 h.2.1 a i.toNatClampNeg) :: q, h, c, s)) none
    | _ => none)
  | .laload => xp_ir st (fun i a q => match h.1[a]? with
    | some (4, n) => cond (xe_in i n) (some (pc + 1, lv, .long (xg 0 h.2.2.1 a i.toNatClampNeg) :: q, h, c, s)) none
    | _ => none)
  | .aaload => xp_ir st (fun i a q => match h.1[a]? with
    | some (5, n) => cond (xe_in i n) (some (pc + 1, lv, va_rf (xg none h.2.2.2 a i.toNatClampNeg) :: q, h, c, s)) none
    | _ => none)
  | .iastore => xp_iir st (fun x i a q => match h.1[a]? with
    | some (1, n) => cond (xe_in i n) (some (pc + 1, lv, q, xh_ui h a i.toNatClampNeg x, c, s)) none
    | _ => none)
  | .bastore => xp_iir st (fun x i a q => match h.1[a]? with
    | some (2, n) => cond (xe_in i n) (some (pc + 1, lv, q, xh_ui h a i.toNatClampNeg (vp_nar .byte x), c, s)) none
    | some (3, n) => cond (xe_in i n) (some (pc + 1, lv, q, xh_ui h a i.toNatClampNeg (vp_nar .boolean x), c, s)) none
    | _ => none)
  | .lastore => xp_lir st (fun x i a q => match h.1[a]? with
    | some (4, n) => cond (xe_in i n) (some (pc + 1, lv, q, xh_ul h a i.toNatClampNeg x, c, s)) none
    | _ => none)
  | .aastore => xp_rir st (fun x i a q => match h.1[a]? with
    | some (5, n) => (match h.1[x]? with
      | some (0, 7) => cond (xe_in i n) (some (pc + 1, lv, q, xh_ur h a i.toNatClampNeg (some x), c, s)) none
      | _ => none)
    | _ => none)
  | .arraylength => xp_r st (fun a q => match h.1[a]? with
    | some (k + 1, n) => cond (Nat.ble (k + 1) 5) (some (pc + 1, lv, .int (Int32.ofNat n) :: q, h, c, s)) none
    | _ => none)
  | .newarray t => xp_i st (fun n q => cond (!decide (n < 0) && (Nat.ble (xa_k t) 5 && Nat.ble n.toNatClampNeg 1000000)) (some (pc + 2, lv, .ref h.1.length :: q, xh_nw h (xa_k t, n.toNatClampNeg), c + 1, s + n.toNatClampNeg)) none)
  | .anewarray _ => xp_i st (fun n q => cond (!decide (n < 0) && Nat.ble n.toNatClampNeg 1000000) (some (pc + 3, lv, .ref h.1.length :: q, xh_nw h (5, n.toNatClampNeg), c + 1, s + n.toNatClampNeg)) none)
  | .new _ => some (pc + 3, lv, .ref h.1.length :: st, xh_nw h (0, r.2.2.1), c + 1, s + xh_N r.2.2.1)
  | _ => none
end XE
end
section
section XR
theorem xh_at.set {D : va_G} {cy : Nat → ClassId} {ad : Nat → Nat} {A : Nat → Prop} {h h' : xh_H} {H H1 : Heap} {c : Nat} {sh : Nat × Nat} (hat : xh_at D cy ad A h H) (hc : h.1[c]? = some sh) (h1 : h'.1 = h.1) (ho : ∀ c', c' ≠ c → xg 0 h'.2.1 c' = xg 0 h.2.1 c' ∧ xg 0 h'.2.2.1 c' = xg 0 h.2.2.1 c' ∧ xg none h'.2.2.2 c' = xg none h.2.2.2 c') (he : va_at D vwCl (ad c, xh_e ad cy h' c sh) H1) (oq : ∀ q : Nat, q ≠ ad c → H1[q]? = H[q]?) (z : H1.size = H.size) : xh_at D cy ad A h' H1 := by
  obtain ⟨hP, hD, hn⟩ := hat
  refine ⟨?_, ?_, ?_⟩
  · rw [← xh_ws_set (ad := ad) (cy := cy) h1 ho hc]
    exact hP.set hD (xh_ws_at hc) he oq
  · rw [← xh_ws_set (ad := ad) (cy := cy) h1 ho hc]
    exact hD.set (xh_ws_at hc)
  · intro j
    rw [h1, z]
    exact hn j
theorem xh_at.new {D : va_G} {cy : Nat → ClassId} {ad : Nat → Nat} {A : Nat → Prop} {h : xh_H} {H H1 : Heap} {sh : Nat × Nat} (hat : xh_at D cy ad A h H) (he : va_at D vwCl (H.size, xh_e ad cy (xh_nw h sh) h.1.length sh) H1) (oq : ∀ q : Nat, q < H.size → H1[q]? = H[q]?) (z : H1.size = H.size + 1) (hA : A H.size) : xh_at D cy ad A (xh_nw h sh) H1 := by
  obtain ⟨hP, hD, hn⟩ := hat
  have h0 : ad h.1.length = H.size := hn 0
  have hw : xh_ws ad cy (xh_nw h sh) = xh_ws ad cy h ++ [(H.size, xh_e ad cy (xh_nw h sh) h.1.length sh)] := by
    rw [← h0]
    exact xh_ws_new rfl (fun c' hc' => ⟨xh_rs_o hc', xh_rs_o hc', xh_rs_o hc'⟩)
  refine ⟨?_, ?_, ?_⟩
  · rw [hw]
    refine (hP.kept (fun k q hq => oq q.1 ((hP k q hq).lt))).app (fun k q hq => ?_)
    have hz : k < 1 := (List.getElem?_eq_some_iff.mp hq).1
    rw [show k = 0 by omega] at hq
    cases hq
    exact he
  · rw [hw]
    exact hD.push hP rfl hA
  · intro j
    have := hn (1 + j)
    simp only [xh_nw, List.length_append, List.length_cons, List.length_nil]
    rw [z, show h.1.length + (0 + 1) + j = h.1.length + (1 + j) by omega, this]
    omega
theorem xw_bb {a b : Bool} (h : (a && b) = true) : a = true ∧ b = true := by cases a <;> cases b <;> simp_all
theorem xw_ble {a b : Nat} (h : Nat.ble a b = true) : a ≤ b := Nat.le_of_ble_eq_true h
theorem xw_beq {a b : Nat} (h : Nat.beq a b = true) : a = b := Nat.eq_of_beq_eq_true h
theorem xw_c {α : Type} {b : Bool} {x : Option α} {o : α} (h : cond b x none = some o) : b = true ∧ x = some o := by
  cases b with
  | true => exact ⟨rfl, h⟩
  | false => cases h
theorem xw_c0 {α : Type} {b : Bool} {x : Option α} {o : α} (h : cond b none x = some o) : b = false ∧ x = some o := by
  cases b with
  | true => cases h
  | false => exact ⟨rfl, h⟩
theorem xe_in_v {i : Int32} {n : Nat} (h : xe_in i n = true) : vp_in i n := by
  obtain ⟨h1, h2⟩ := xw_bb h
  have h1 : ¬ i < 0 := by simpa using h1
  have h2 := xw_ble h2
  intro z
  rcases z with z | z
  · exact h1 z
  · omega
variable {p : Program} {l : Launch} {e : Env} {R : Room} {s : State} {m : MethodId} {args : Array Value} {below : List Frame} {meth : Method} {c : Code} {H : Heap} {locs : List Loc} {cells slots : Nat} {Q : State → Prop}
variable {cc : ByteArray} {pc : Nat} {ls : Array Slot} {rest : List Value} {D : va_G} {A : Nat → Prop} {ad : Nat → Nat} {cy : Nat → ClassId} {h : xh_H} {H0 : Heap} {q0 n : Nat}
theorem xa_iast (hexec : p.tables.exec = Jvm.exec) (hb : c.code = cc) (hK : va_K D vwCl (xh_ts cy) s) (hat : xh_at D cy ad A h H) (hS : va_S A H0 H locs) (hc : h.1[q0]? = some (1, n)) {i x : Int32} (hin : vp_in i n) (hdg : decode cc pc = .ok (.iastore, 1))
    (kk : ∀ (H1 : Heap) (locs1 : List Loc), xh_at D cy ad A (xh_ui h q0 i.toNatClampNeg x) H1 → va_S A H0 H1 locs1 → W p l e R s m args below meth c H1 locs1 cells slots Q (F0 m (pc + 1) ls rest)) : W p l e R s m args below meth c H locs cells slots Q (F0 m pc ls (.int x :: .int i :: .ref (ad q0) :: rest)) := by
  have ha := xh_ws_at (ad := ad) (cy := cy) hc
  refine W.iast hexec hb (hat.1 q0 _ ha) ((hK.2 0 _ rfl).1 n (fun j => .int (xg 0 h.2.1 q0 j))) (fun q => by cases q) (by show ¬ (i < 0 ∨ (arrV _ _ _).slots.size ≤ _); rw [arrV_size]; exact hin) rfl rfl hdg fun H1 e z oq => ?_
  refine kk H1 _ (hat.set (h' := xh_ui h q0 i.toNatClampNeg x) hc rfl (fun c' hc' => ⟨xh_up_o hc', rfl, rfl⟩) ?_ oq z) (hS.put z oq (hat.2.1.2 q0 _ ha))
  show H1[ad q0]? = some (vp_cell _ _)
  rw [e]
  show some (Cell.setSlot (vp_cell _ (n, .inl (xg 0 h.2.1 q0))) _ _) = some (vp_cell _ (n, .inl (xg 0 (xh_up 0 h.2.1 q0 i.toNatClampNeg x) q0)))
  rw [vp_cell_i, vp_cell_i, arrV_store]
  congr 2
  funext q
  by_cases hq : q = i.toNatClampNeg
  · subst hq
    simp [updV, xh_up_s]
  · simp [updV, hq, xh_up_k hq]
theorem xa_bast (hexec : p.tables.exec = Jvm.exec) (hb : c.code = cc) (hK : va_K D vwCl (xh_ts cy) s) (hat : xh_at D cy ad A h H) (hS : va_S A H0 H locs) (hc : h.1[q0]? = some (2, n)) {i x : Int32} (hin : vp_in i n) (hdg : decode cc pc = .ok (.bastore, 1))
    (kk : ∀ (H1 : Heap) (locs1 : List Loc), xh_at D cy ad A (xh_ui h q0 i.toNatClampNeg (vp_nar .byte x)) H1 → va_S A H0 H1 locs1 → W p l e R s m args below meth c H1 locs1 cells slots Q (F0 m (pc + 1) ls rest)) : W p l e R s m args below meth c H locs cells slots Q (F0 m pc ls (.int x :: .int i :: .ref (ad q0) :: rest)) := by
  have ha := xh_ws_at (ad := ad) (cy := cy) hc
  refine W.bast hexec hb (hat.1 q0 _ ha) ((hK.2 1 _ rfl).1 n (fun j => .int (xg 0 h.2.1 q0 j))) (fun q => by cases q) (by show ¬ (i < 0 ∨ (arrV _ _ _).slots.size ≤ _); rw [arrV_size]; exact hin) rfl rfl hdg fun H1 e z oq => ?_
  refine kk H1 _ (hat.set (h' := xh_ui h q0 i.toNatClampNeg (vp_nar .byte x)) hc rfl (fun c' hc' => ⟨xh_up_o hc', rfl, rfl⟩) ?_ oq z) (hS.put z oq (hat.2.1.2 q0 _ ha))
  show H1[ad q0]? = some (vp_cell _ _)
  rw [e]
  show some (Cell.setSlot (vp_cell _ (n, .inl (xg 0 h.2.1 q0))) _ _) = some (vp_cell _ (n, .inl (xg 0 (xh_up 0 h.2.1 q0 i.toNatClampNeg (vp_nar .byte x)) q0)))
  rw [vp_cell_i, vp_cell_i, arrV_store]
  congr 2
  funext q
  by_cases hq : q = i.toNatClampNeg
  · subst hq
    simp [updV, xh_up_s, vp_nar]
    try rfl
  · simp [updV, hq, xh_up_k hq]
theorem xa_zast (hexec : p.tables.exec = Jvm.exec) (hb : c.code = cc) (hK : va_K D vwCl (xh_ts cy) s) (hat : xh_at D cy ad A h H) (hS : va_S A H0 H locs) (hc : h.1[q0]? = some (3, n)) {i x : Int32} (hin : vp_in i n) (hdg : decode cc pc = .ok (.bastore, 1))
    (kk : ∀ (H1 : Heap) (locs1 : List Loc), xh_at D cy ad A (xh_ui h q0 i.toNatClampNeg (vp_nar .boolean x)) H1 → va_S A H0 H1 locs1 → W p l e R s m args below meth c H1 locs1 cells slots Q (F0 m (pc + 1) ls rest)) : W p l e R s m args below meth c H locs cells slots Q (F0 m pc ls (.int x :: .int i :: .ref (ad q0) :: rest)) := by
  have ha := xh_ws_at (ad := ad) (cy := cy) hc
  refine W.zast hexec hb (hat.1 q0 _ ha) ((hK.2 2 _ rfl).1 n (fun j => .int (xg 0 h.2.1 q0 j))) (fun q => by cases q) (by show ¬ (i < 0 ∨ (arrV _ _ _).slots.size ≤ _); rw [arrV_size]; exact hin) rfl rfl hdg fun H1 e z oq => ?_
  refine kk H1 _ (hat.set (h' := xh_ui h q0 i.toNatClampNeg (vp_nar .boolean x)) hc rfl (fun c' hc' => ⟨xh_up_o hc', rfl, rfl⟩) ?_ oq z) (hS.put z oq (hat.2.1.2 q0 _ ha))
  show H1[ad q0]? = some (vp_cell _ _)
  rw [e]
  show some (Cell.setSlot (vp_cell _ (n, .inl (xg 0 h.2.1 q0))) _ _) = some (vp_cell _ (n, .inl (xg 0 (xh_up 0 h.2.1 q0 i.toNatClampNeg (vp_nar .boolean x)) q0)))
  rw [vp_cell_i, vp_cell_i, arrV_store]
  congr 2
  funext q
  by_cases hq : q = i.toNatClampNeg
  · subst hq
    simp [updV, xh_up_s, vp_nar]
    try rfl
  · simp [updV, hq, xh_up_k hq]
theorem xa_last (hexec : p.tables.exec = Jvm.exec) (hb : c.code = cc) (hK : va_K D vwCl (xh_ts cy) s) (hat : xh_at D cy ad A h H) (hS : va_S A H0 H locs) (hc : h.1[q0]? = some (4, n)) {i : Int32} {x : Int64} (hin : vp_in i n) (hdg : decode cc pc = .ok (.lastore, 1))
    (kk : ∀ (H1 : Heap) (locs1 : List Loc), xh_at D cy ad A (xh_ul h q0 i.toNatClampNeg x) H1 → va_S A H0 H1 locs1 → W p l e R s m args below meth c H1 locs1 cells slots Q (F0 m (pc + 1) ls rest)) : W p l e R s m args below meth c H locs cells slots Q (F0 m pc ls (.long x :: .int i :: .ref (ad q0) :: rest)) := by
  have ha := xh_ws_at (ad := ad) (cy := cy) hc
  refine W.last hexec hb (hat.1 q0 _ ha) ((hK.2 3 _ rfl).1 n (fun j => .long (xg 0 h.2.2.1 q0 j))) (fun q => by cases q) (by show ¬ (i < 0 ∨ (arrV _ _ _).slots.size ≤ _); rw [arrV_size]; exact hin) rfl rfl hdg fun H1 e z oq => ?_
  refine kk H1 _ (hat.set (h' := xh_ul h q0 i.toNatClampNeg x) hc rfl (fun c' hc' => ⟨rfl, xh_up_o hc', rfl⟩) ?_ oq z) (hS.put z oq (hat.2.1.2 q0 _ ha))
  show H1[ad q0]? = some (vp_cell _ _)
  rw [e]
  show some (Cell.setSlot (vp_cell _ (n, .inr (.inl (xg 0 h.2.2.1 q0)))) _ _) = some (vp_cell _ (n, .inr (.inl (xg 0 (xh_up 0 h.2.2.1 q0 i.toNatClampNeg x) q0))))
  rw [vp_cell_l, vp_cell_l, arrV_store]
  congr 2
  funext q
  by_cases hq : q = i.toNatClampNeg
  · subst hq
    simp [updV, xh_up_s]
  · simp [updV, hq, xh_up_k hq]
theorem xa_astq (hexec : p.tables.exec = Jvm.exec) (hb : c.code = cc) (hK : va_K D vwCl (xh_ts cy) s) (hat : xh_at D cy ad A h H) (hS : va_S A H0 H locs) (hc : h.1[q0]? = some (5, n)) {v : Nat} (hv : h.1[v]? = some (0, 7)) {i : Int32} (hin : vp_in i n) (hdg : decode cc pc = .ok (.aastore, 1))
    (kk : ∀ (H1 : Heap) (locs1 : List Loc), xh_at D cy ad A (xh_ur h q0 i.toNatClampNeg (some v)) H1 → va_S A H0 H1 locs1 → W p l e R s m args below meth c H1 locs1 cells slots Q (F0 m (pc + 1) ls rest)) : W p l e R s m args below meth c H locs cells slots Q (F0 m pc ls (.ref (ad v) :: .int i :: .ref (ad q0) :: rest)) := by
  have ha := xh_ws_at (ad := ad) (cy := cy) hc
  have hlt : i.toNatClampNeg < n := Nat.not_le.mp fun q => hin (Or.inr q)
  have h0 : ¬ i < 0 := fun q => hin (Or.inl q)
  obtain ⟨r', hr', cellV, g1, g2, g3, -⟩ := hat.1 v _ (xh_ws_at (ad := ad) (cy := cy) hv)
  have hcls := (hK.1 7 _ rfl).2
  obtain ⟨kA, comp, k1, k2, k3, -⟩ := (hK.2 4 _ rfl).2
  have hcomp : comp = D.1 7 := Option.some.inj (k3.symm.trans hcls.1)
  subst hcomp
  obtain ⟨kC, hkC, -⟩ := hcls.2
  refine W.aast hexec hb (hat.1 q0 _ ha) (fun q h => by cases h) (fun h => by cases h) k1 k2 rfl hkC ⟨h0, by show _ < (arrV _ _ _).slots.size; rw [arrV_size]; exact hlt⟩ g1 (fun q h => by rw [g3] at h; cases h) (by rw [g2]; exact hkC) (by rw [g2]; exact va_assign hcls) rfl rfl hdg fun H1 e z oq => ?_
  refine kk H1 _ (hat.set (h' := xh_ur h q0 i.toNatClampNeg (some v)) hc rfl (fun c' hc' => ⟨rfl, rfl, xh_up_o hc'⟩) ?_ oq z) (hS.put z oq (hat.2.1.2 q0 _ ha))
  show H1[ad q0]? = some (vp_cell _ _)
  rw [e]
  show some (Cell.setSlot (vp_cell _ (n, .inr (.inr (.inr (.inr (fun j => (xg none h.2.2.2 q0 j).map ad)))))) _ _) = some (vp_cell _ (n, .inr (.inr (.inr (.inr (fun j => (xg none (xh_up none h.2.2.2 q0 i.toNatClampNeg (some v)) q0 j).map ad))))))
  rw [vp_cell_q, vp_cell_q, arrV_store]
  congr 2
  funext q
  by_cases hq : q = i.toNatClampNeg
  · subst hq
    simp [updV, xh_up_s, va_rf]
  · simp [updV, hq, xh_up_k hq]
/-- a field is written; h' is the heap behind it -/
theorem xa_put (hexec : p.tables.exec = Jvm.exec) (hb : c.code = cc) {own ref C : String} {T : u_T} {N ci index : Nat} {Ts : List Cond} (hts : ∀ w ∈ Ts, w.before args s = true) (hin : ∀ w ∈ u_ws C T N, w ∈ Ts) (hty : ∀ k, k < N → parseFieldDescriptor (T k).2.2.1 = some (xh_ty ci k)) (hnm : ∀ a, a < N → ∀ b, b < N → a ≠ b → (T a).2.1 ≠ (T b).2.1) (hown : s.vm.findClass own = some m.cls) (hK : va_K D vwCl (xh_ts cy) s) (hat : xh_at D cy ad A h H) (hS0 : va_S A H0 H locs) (hc0 : h.1[q0]? = some (0, ci)) (hc : vwCl[ci]? = some (C, T, N)) (hN : N = xh_N ci) (k : Nat) (hk : k < N) (hlink : (Cond.fieldLink own index ref (T k).2.1 (T k).2.2.1).before args s = true) (hsame : ∀ x, s.fieldFound? (T k).1 (T k).2.1 (T k).2.2.1 = some x → s.fieldFound? ref (T k).2.1 (T k).2.2.1 = some x) (hfin : (T k).2.2.2 = false ∨ (meth.name = "<init>" ∧ (T k).1 = own)) {v : Value} (hn : narrow (xh_ty ci k) v = v) (hfit : fits (xh_ty ci k) v = true) {h' : xh_H} (h1 : h'.1 = h.1) (ho : ∀ c', c' ≠ q0 → xg 0 h'.2.1 c' = xg 0 h.2.1 c' ∧ xg 0 h'.2.2.1 c' = xg 0 h.2.2.1 c' ∧ xg none h'.2.2.2 c' = xg none h.2.2.2 c') (hv : xh_fv ad h' q0 (xh_ty ci k) k = v) (hvo : ∀ j, j ≠ k → xh_fv ad h' q0 (xh_ty ci j) j = xh_fv ad h q0 (xh_ty ci j) j)
    (hdg : decode cc pc = .ok (.putfield index, 3)) (kk : ∀ (H1 : Heap) (locs1 : List Loc), xh_at D cy ad A h' H1 → va_S A H0 H1 locs1 → W p l e R s m args below meth c H1 locs1 cells slots Q (F0 m (pc + 3) ls rest)) : W p l e R s m args below meth c H locs cells slots Q (F0 m pc ls (v :: .ref (ad q0) :: rest)) := by
  have hap := va_apart (own := own) hts hin (xh_ty ci) hty hnm hK hc
  have he := xh_ws_at (ad := ad) (cy := cy) hc0
  obtain ⟨r, g1, cell, q1, q2, q3, q4⟩ := hat.1 q0 _ he
  have hr : r = (C, T, N) := Option.some.inj (g1.symm.trans hc)
  subst hr
  obtain ⟨hSl, hfc, kC, hkC, hkind⟩ := hK.1 ci _ hc
  obtain ⟨cf, kf, fi, f, hi, hsl⟩ := hSl k hk
  have hlay := hts _ (hin _ (u_in_lay hk))
  have hst := (u_facts hfc hkC (u_lays hts hin hk) hi).1
  have fin : ∀ (H' : Heap), H'[ad q0]? = some (cell.setSlot f.slot v) → H'.size = H.size → (∀ q, q ≠ ad q0 → H'[q]? = H[q]?) → W p l e R s m args below meth c H' (locs ++ [⟨ad q0, f.slot⟩]) cells slots Q (F0 m (pc + 3) ls rest) := by
    intro H' e1 e2 e3
    rw [hsl] at e1 ⊢
    refine kk H' _ (hat.set hc0 h1 ho ?_ e3 e2) (hS0.put e2 e3 (hat.2.1.2 q0 _ he))
    refine ⟨_, hc, ?_⟩
    have hob : t_OB (ad q0) (D.1 ci) N (D.2 ci) H' (updV (vp_V ((List.range (xh_N ci)).map (fun k => xh_fv ad h q0 (xh_ty ci k) k))) k v) := ⟨_, e1, q2, q3, t_set q4 hap hk v⟩
    refine hob.to (fun j _ => ?_)
    rw [vp_updV_set (by simp [← hN, hk]) v j]
    show vp_V _ j = vp_V ((List.range (xh_N ci)).map (fun k => xh_fv ad h' q0 (xh_ty ci k) k)) j
    rw [xh_fs_set (g := fun k => xh_fv ad h' q0 (xh_ty ci k) k) hv hvo]
  by_cases hf : (T k).2.2.2 = true
  · have hf2 : meth.name = "<init>" ∧ (T k).1 = own := by
      rcases hfin with z | z
      · rw [hf] at z; cases z
      · exact z
    unfold u_lay at hlay
    rw [if_pos hf] at hlay
    have hcf : m.cls = cf := by
      obtain ⟨_, _, c', _, _, _, -, -, hf', -, -, -, hown2, -⟩ := Cond.laysFinal_spec hlay
      have e1 : c' = cf := by have := hi.symm.trans hf'; simp at this; exact this.1.symm
      rw [hf2.2] at hown2
      rw [← e1]; exact Option.some.inj (hown.symm.trans hown2)
    have h6 := u_fits hfc hkC hkind (Or.inr hlay) hi (hty k hk) hn hfit
    exact W.putFinK hexec hb hown hlink (hsame _ hi) hst hcf hf2.1 (by rw [q2]; exact h6) q1 q3 (by rw [hsl]; exact k2_hasslot (q4 k hk)) rfl rfl hdg fin
  · unfold u_lay at hlay
    rw [if_neg hf] at hlay
    have h6 := u_store hfc hkC hkind hlay hi (hty k hk) hn hfit
    exact W.putK hexec hb (f := f) ⟨hown, hlink, ⟨_, _, _, hsame _ hi⟩, hst⟩ (by rw [q2]; exact h6) q1 q3 (by rw [hsl]; exact k2_hasslot (q4 k hk)) rfl rfl hdg fin
end XR
end
section
section XN
variable {p : Program} {l : Launch} {e : Env} {R : Room} {s : State} {m : MethodId} {args : Array Value} {below : List Frame} {meth : Method} {c : Code} {H : Heap} {locs : List Loc} {cells slots : Nat} {Q : State → Prop}
variable {cc : ByteArray} {pc : Nat} {ls : Array Slot} {rest : List Value} {D : va_G} {A : Nat → Prop} {ad : Nat → Nat} {cy : Nat → ClassId} {h : xh_H} {H0 : Heap} {q0 n : Nat}
theorem xh_dv (ci k : Nat) (hk : (∃ q, xh_ty ci k = .object q) ∨ (∃ q, xh_ty ci k = .array q) ∨ xh_ty ci k = .int ∨ xh_ty ci k = .boolean ∨ xh_ty ci k = .long) (ad : Nat → Nat) (h : xh_H) (sh : Nat × Nat) : defaultValue (xh_ty ci k) = xh_fv ad (xh_nw h sh) h.1.length (xh_ty ci k) k := by
  have hi : xg 0 (xh_nw h sh).2.1 h.1.length k = 0 := by show xg 0 (xh_rs h.2.1 h.1.length) h.1.length k = 0; rw [xh_rs_s]
  have hl : xg 0 (xh_nw h sh).2.2.1 h.1.length k = 0 := by show xg 0 (xh_rs h.2.2.1 h.1.length) h.1.length k = 0; rw [xh_rs_s]
  have hr : xg none (xh_nw h sh).2.2.2 h.1.length k = none := by show xg none (xh_rs h.2.2.2 h.1.length) h.1.length k = none; rw [xh_rs_s]
  rcases hk with ⟨q, hq⟩ | ⟨q, hq⟩ | hq | hq | hq <;> rw [hq] <;> simp [xh_fv, hi, hl, hr, defaultValue, va_rf]
theorem xa_new (hexec : p.tables.exec = Jvm.exec) (hb : c.code = cc) {own C : String} {T : u_T} {N ci index : Nat} {Ts : List Cond} (hts : ∀ w ∈ Ts, w.before args s = true) (hin : ∀ w ∈ u_ws C T N, w ∈ Ts) (hty : ∀ k, k < N → parseFieldDescriptor (T k).2.2.1 = some (xh_ty ci k)) (hkd : ∀ k, k < N → (∃ q, xh_ty ci k = .object q) ∨ (∃ q, xh_ty ci k = .array q) ∨ xh_ty ci k = .int ∨ xh_ty ci k = .boolean ∨ xh_ty ci k = .long) (hown : s.vm.findClass own = some m.cls) (hcl : (Cond.classLink own index C).before args s = true) (hinst : (Cond.instantiable C N).before args s = true) (hini : (Cond.initialized C).before args s = true)
    (hK : va_K D vwCl (xh_ts cy) s) (hat : xh_at D cy ad A h H) (hS : va_S A H0 H locs) (hA : ∀ q, H0.size ≤ q → A q) (hc : vwCl[ci]? = some (C, T, N)) (hN : N = xh_N ci) (hcells : cells + 1 ≤ R.cells) (hslots : slots + N ≤ R.slots) (hdg : decode cc pc = .ok (.new index, 3))
    (kk : ∀ (H1 : Heap), xh_at D cy ad A (xh_nw h (0, ci)) H1 → va_S A H0 H1 locs → W p l e R s m args below meth c H1 locs (cells + 1) (slots + N) Q (F0 m (pc + 3) ls (.ref (ad h.1.length) :: rest))) : W p l e R s m args below meth c H locs cells slots Q (F0 m pc ls rest) := by
  have hKn := hK.1 ci _ hc
  have h0 : ad h.1.length = H.size := hat.2.2 0
  rw [h0] at kk
  refine W.newcK hexec hb hown hcl hinst hini rfl hdg hcells hslots hKn.2.1 rfl fun H1 kC hkC e1 z1 o1 => ?_
  refine kk H1 (hat.new ?_ o1 z1 (hA _ hS.1)) ⟨Nat.le_trans hS.1 (by omega), fun x h1 h2 => (o1 x (Nat.lt_of_lt_of_le h1 hS.1)).trans (hS.2.1 x h1 h2), hS.2.2⟩
  refine ⟨_, hc, (u_born (xh_ty ci) hts hin hKn hkC e1 hty).to (fun j hj => ?_)⟩
  show defaultValue (xh_ty ci j) = vp_V ((List.range (xh_N ci)).map (fun k => xh_fv ad (xh_nw h (0, ci)) h.1.length (xh_ty ci k) k)) j
  rw [xh_dv ci j (hkd j hj) ad h (0, ci)]
  have : j < xh_N ci := by rw [← hN]; exact hj
  simp [vp_V, this]
theorem xa_newa (hexec : p.tables.exec = Jvm.exec) (hb : c.code = cc) {t : ArrayType} (harr : (Cond.arrayClass (newarray.typeOf t)).before args s = true) (ht : xa_k t ≤ 5) (hK : va_K D vwCl (xh_ts cy) s) (hat : xh_at D cy ad A h H) (hS : va_S A H0 H locs) (hA : ∀ q, H0.size ≤ q → A q)
    {z : Int32} (hz : ¬ z < 0) (hz2 : z.toNatClampNeg ≤ 1000000) (hcells : cells + 1 ≤ R.cells) (hslots : slots + z.toNatClampNeg ≤ R.slots) (hdg : decode cc pc = .ok (.newarray t, 2))
    (kk : ∀ (H1 : Heap), xh_at D cy ad A (xh_nw h (xa_k t, z.toNatClampNeg)) H1 → va_S A H0 H1 locs → W p l e R s m args below meth c H1 locs (cells + 1) (slots + z.toNatClampNeg) Q (F0 m (pc + 2) ls (.ref (ad h.1.length) :: rest))) : W p l e R s m args below meth c H locs cells slots Q (F0 m pc ls (.int z :: rest)) := by
  have h0 : ad h.1.length = H.size := hat.2.2 0
  rw [h0] at kk
  refine va_newaK hexec hb harr rfl hdg rfl hz rfl (by cases t <;> simp [newarray.typeOf, componentBytes] <;> omega) hcells hslots rfl fun H1 cA e1 z1 o1 hAr hNm => ?_
  refine kk H1 (hat.new ?_ o1 z1 (hA _ hS.1)) ⟨Nat.le_trans hS.1 (by omega), fun x h1 h2 => (o1 x (Nat.lt_of_lt_of_le h1 hS.1)).trans (hS.2.1 x h1 h2), hS.2.2⟩
  cases t with
  | int =>
    have : cA = cy 1 := Option.some.inj (hNm.symm.trans (hK.2 0 _ rfl).2)
    subst this
    show H1[H.size]? = some (vp_cell _ (_, .inl (xg 0 (xh_rs h.2.1 h.1.length) h.1.length)))
    rw [xh_rs_s, e1]; rfl
  | byte =>
    have : cA = cy 2 := Option.some.inj (hNm.symm.trans (hK.2 1 _ rfl).2)
    subst this
    show H1[H.size]? = some (vp_cell _ (_, .inl (xg 0 (xh_rs h.2.1 h.1.length) h.1.length)))
    rw [xh_rs_s, e1]; rfl
  | boolean =>
    have : cA = cy 3 := Option.some.inj (hNm.symm.trans (hK.2 2 _ rfl).2)
    subst this
    show H1[H.size]? = some (vp_cell _ (_, .inl (xg 0 (xh_rs h.2.1 h.1.length) h.1.length)))
    rw [xh_rs_s, e1]; rfl
  | long =>
    have : cA = cy 4 := Option.some.inj (hNm.symm.trans (hK.2 3 _ rfl).2)
    subst this
    show H1[H.size]? = some (vp_cell _ (_, .inr (.inl (xg 0 (xh_rs h.2.2.1 h.1.length) h.1.length))))
    rw [xh_rs_s, e1]; rfl
  | char => exact absurd ht (by decide)
  | float => exact absurd ht (by decide)
  | double => exact absurd ht (by decide)
  | short => exact absurd ht (by decide)
theorem xa_newq (hexec : p.tables.exec = Jvm.exec) (hb : c.code = cc) {own : String} {index : Nat} (hown : s.vm.findClass own = some m.cls) (hclink : (Cond.classLink own index RX7).before args s = true) (hover : (Cond.arrayOver (.object RX7)).before args s = true) (hK : va_K D vwCl (xh_ts cy) s) (hat : xh_at D cy ad A h H) (hS : va_S A H0 H locs) (hA : ∀ q, H0.size ≤ q → A q)
    {z : Int32} (hz : ¬ z < 0) (hz2 : z.toNatClampNeg ≤ 1000000) (hcells : cells + 1 ≤ R.cells) (hslots : slots + z.toNatClampNeg ≤ R.slots) (hdg : decode cc pc = .ok (.anewarray index, 3))
    (kk : ∀ (H1 : Heap), xh_at D cy ad A (xh_nw h (5, z.toNatClampNeg)) H1 → va_S A H0 H1 locs → W p l e R s m args below meth c H1 locs (cells + 1) (slots + z.toNatClampNeg) Q (F0 m (pc + 3) ls (.ref (ad h.1.length) :: rest))) : W p l e R s m args below meth c H locs cells slots Q (F0 m pc ls (.int z :: rest)) := by
  have h0 : ad h.1.length = H.size := hat.2.2 0
  rw [h0] at kk
  refine W.anew hexec hb hown hclink hover rfl hdg rfl hz (by omega) hcells hslots fun cA kA comp hNm hk1 hk2 hk3 => ?_
  have hcA : cA = cy 5 := by
    obtain ⟨_, _, _, _, _, h4⟩ := (hK.2 4 _ rfl).2
    exact Option.some.inj (hNm.symm.trans h4)
  subst hcA
  have o1 : ∀ q : Nat, q < H.size → (H.push ({ cls := cy 5, slots := Array.replicate z.toNatClampNeg .null, vm := .none } : Cell))[q]? = H[q]? := fun q hq => by rw [Array.getElem?_push, if_neg (Nat.ne_of_lt hq)]
  refine kk _ (hat.new ?_ o1 (by simp) (hA _ hS.1)) ⟨Nat.le_trans hS.1 (by simp), fun x h1 h2 => (o1 x (Nat.lt_of_lt_of_le h1 hS.1)).trans (hS.2.1 x h1 h2), hS.2.2⟩
  show (H.push _)[H.size]? = some (vp_cell (cy 5) (_, .inr (.inr (.inr (.inr (fun j => (xg none (xh_rs h.2.2.2 h.1.length) h.1.length j).map ad))))))
  rw [xh_rs_s, vp_cell_q, Array.getElem?_push, if_pos rfl, arrV_new]
  rfl
end XN
end
section
section XK
def xk_all (C : String) (T : u_T) (N : Nat) (pl : List (Nat × Nat)) : Bool := (List.range N).all (fun k => match pl[k]? with
  | some q => xw_b q.1 q.2 (u_lay C T k)
  | none => false)
theorem xk_in {C : String} {T : u_T} {N : Nat} {pl : List (Nat × Nat)} (h : xk_all C T N pl = true) : ∀ w ∈ u_ws C T N, w ∈ xG := by
  intro w hw
  obtain ⟨k, hk, rfl⟩ := List.mem_map.mp hw
  have h1 := List.all_eq_true.mp h k hk
  cases hq : pl[k]? with
  | none => simp [hq] at h1
  | some q => simp [hq] at h1; exact xw_in h1
def xk_t (t : FieldType) : Bool := match t with
  | .object _ => true
  | .array _ => true
  | .int => true
  | .boolean => true
  | .long => true
  | _ => false
theorem xk_tv {t : FieldType} (h : xk_t t = true) : (∃ q, t = .object q) ∨ (∃ q, t = .array q) ∨ t = .int ∨ t = .boolean ∨ t = .long := by
  cases t <;> simp_all [xk_t]
set_option maxRecDepth 20000 in
theorem xk_0 : xk_all RX0 TX0 7 [(2, 47), (2, 49), (2, 51), (2, 53), (2, 55), (2, 57), (2, 59)] = true := by decide +kernel
theorem xk_i0 : Cond.instantiable RX0 7 ∈ xG := xw_in (K := 2) (i := 33) (by decide +kernel)
theorem xk_n0 : Cond.initialized RX0 ∈ xG := xw_in (K := 1) (i := 9) (by decide +kernel)
theorem xk_k0 : ∀ k, k < 7 → xk_t (tyX0 k) = true := by decide +kernel
set_option maxRecDepth 20000 in
theorem xk_1 : xk_all RX1 TX1 4 [(2, 76), (2, 78), (2, 80), (2, 82)] = true := by decide +kernel
theorem xk_i1 : Cond.instantiable RX1 4 ∈ xG := xw_in (K := 2) (i := 63) (by decide +kernel)
theorem xk_n1 : Cond.initialized RX1 ∈ xG := xw_in (K := 1) (i := 10) (by decide +kernel)
theorem xk_k1 : ∀ k, k < 4 → xk_t (tyX1 k) = true := by decide +kernel
set_option maxRecDepth 20000 in
theorem xk_2 : xk_all RX2 TX2 13 [(1, 188), (1, 190), (1, 192), (1, 194), (1, 196), (1, 198), (1, 200), (1, 202), (1, 204), (1, 206), (1, 208), (1, 210), (1, 212)] = true := by decide +kernel
theorem xk_i2 : Cond.instantiable RX2 13 ∈ xG := xw_in (K := 1) (i := 157) (by decide +kernel)
theorem xk_n2 : Cond.initialized RX2 ∈ xG := xw_in (K := 1) (i := 7) (by decide +kernel)
theorem xk_k2 : ∀ k, k < 13 → xk_t (tyX2 k) = true := by decide +kernel
set_option maxRecDepth 20000 in
theorem xk_3 : xk_all RX3 TX3 4 [(1, 63), (1, 65), (1, 67), (1, 69)] = true := by decide +kernel
theorem xk_i3 : Cond.instantiable RX3 4 ∈ xG := xw_in (K := 1) (i := 54) (by decide +kernel)
theorem xk_n3 : Cond.initialized RX3 ∈ xG := xw_in (K := 1) (i := 4) (by decide +kernel)
theorem xk_k3 : ∀ k, k < 4 → xk_t (tyX3 k) = true := by decide +kernel
set_option maxRecDepth 20000 in
theorem xk_4 : xk_all RX4 TX4 10 [(1, 119), (1, 121), (1, 123), (1, 125), (1, 127), (1, 129), (1, 131), (1, 133), (1, 135), (1, 137)] = true := by decide +kernel
theorem xk_i4 : Cond.instantiable RX4 10 ∈ xG := xw_in (K := 1) (i := 48) (by decide +kernel)
theorem xk_n4 : Cond.initialized RX4 ∈ xG := xw_in (K := 1) (i := 3) (by decide +kernel)
theorem xk_k4 : ∀ k, k < 10 → xk_t (tyX4 k) = true := by decide +kernel
set_option maxRecDepth 20000 in
theorem xk_5 : xk_all RX5 TX5 16 [(1, 239), (2, 1), (2, 3), (2, 5), (2, 7), (2, 9), (2, 11), (2, 13), (2, 15), (2, 17), (2, 19), (2, 21), (2, 23), (2, 25), (2, 27), (2, 29)] = true := by decide +kernel
theorem xk_i5 : Cond.instantiable RX5 16 ∈ xG := xw_in (K := 1) (i := 216) (by decide +kernel)
theorem xk_n5 : Cond.initialized RX5 ∈ xG := xw_in (K := 1) (i := 8) (by decide +kernel)
theorem xk_k5 : ∀ k, k < 16 → xk_t (tyX5 k) = true := by decide +kernel
set_option maxRecDepth 20000 in
theorem xk_6 : xk_all RX6 TX6 7 [(1, 90), (1, 92), (1, 94), (1, 96), (1, 98), (1, 100), (1, 102)] = true := by decide +kernel
theorem xk_i6 : Cond.instantiable RX6 7 ∈ xG := xw_in (K := 1) (i := 74) (by decide +kernel)
theorem xk_n6 : Cond.initialized RX6 ∈ xG := xw_in (K := 1) (i := 5) (by decide +kernel)
theorem xk_k6 : ∀ k, k < 7 → xk_t (tyX6 k) = true := by decide +kernel
set_option maxRecDepth 20000 in
theorem xk_7 : xk_all RX7 TX7 2 [(1, 149), (1, 151)] = true := by decide +kernel
theorem xk_i7 : Cond.instantiable RX7 2 ∈ xG := xw_in (K := 1) (i := 141) (by decide +kernel)
theorem xk_n7 : Cond.initialized RX7 ∈ xG := xw_in (K := 1) (i := 6) (by decide +kernel)
theorem xk_k7 : ∀ k, k < 2 → xk_t (tyX7 k) = true := by decide +kernel
set_option maxRecDepth 20000 in
theorem xk_8 : xk_all RX8 TX8 2 [(1, 41), (1, 43)] = true := by decide +kernel
theorem xk_i8 : Cond.instantiable RX8 2 ∈ xG := xw_in (K := 1) (i := 31) (by decide +kernel)
theorem xk_n8 : Cond.initialized RX8 ∈ xG := xw_in (K := 1) (i := 2) (by decide +kernel)
theorem xk_k8 : ∀ k, k < 2 → xk_t (tyX8 k) = true := by decide +kernel
set_option maxRecDepth 20000 in
theorem xk_9 : xk_all RX9 TX9 12 [(2, 106), (2, 108), (2, 110), (2, 112), (2, 114), (2, 116), (2, 118), (2, 120), (2, 122), (2, 124), (2, 126), (2, 128)] = true := by decide +kernel
theorem xk_i9 : Cond.instantiable RX9 12 ∈ xG := xw_in (K := 1) (i := 23) (by decide +kernel)
theorem xk_n9 : Cond.initialized RX9 ∈ xG := xw_in (K := 1) (i := 1) (by decide +kernel)
theorem xk_k9 : ∀ k, k < 12 → xk_t (tyX9 k) = true := by decide +kernel
set_option maxRecDepth 20000 in
theorem xk_10 : xk_all RX10 TX10 64 [(5, 150), (5, 152), (5, 154), (5, 156), (5, 158), (5, 160), (5, 162), (5, 164), (5, 166), (5, 168), (5, 170), (5, 172), (5, 174), (5, 176), (5, 178), (5, 180), (5, 182), (5, 184), (5, 186), (5, 188), (5, 190), (5, 192), (5, 194), (5, 196), (5, 198), (5, 200), (5, 202), (5, 204), (5, 206), (5, 208), (5, 210), (5, 212), (5, 214), (5, 216), (5, 218), (5, 220), (5, 222), (5, 224), (5, 226), (5, 228), (5, 230), (5, 232), (5, 234), (5, 236), (5, 238), (6, 0), (6, 2), (6, 4), (6, 6), (6, 8), (6, 10), (6, 12), (6, 14), (6, 16), (6, 18), (6, 20), (6, 22), (6, 24), (6, 26), (6, 28), (6, 30), (6, 32), (6, 34), (6, 36)] = true := by decide +kernel
theorem xk_i10 : Cond.instantiable RX10 64 ∈ xG := xw_in (K := 5) (i := 78) (by decide +kernel)
theorem xk_n10 : Cond.initialized RX10 ∈ xG := xw_in (K := 1) (i := 11) (by decide +kernel)
theorem xk_k10 : ∀ k, k < 64 → xk_t (tyX10 k) = true := by decide +kernel
theorem xk_ok : ∀ (ci : Nat) (C : String) (T : u_T) (N : Nat), vwCl[ci]? = some (C, T, N) → N = xh_N ci ∧ (∀ w ∈ u_ws C T N, w ∈ xG) ∧ (∀ k, k < N → parseFieldDescriptor (T k).2.2.1 = some (xh_ty ci k)) ∧ (∀ a, a < N → ∀ b, b < N → a ≠ b → (T a).2.1 ≠ (T b).2.1) ∧ (∀ k, k < N → (∃ q, xh_ty ci k = .object q) ∨ (∃ q, xh_ty ci k = .array q) ∨ xh_ty ci k = .int ∨ xh_ty ci k = .boolean ∨ xh_ty ci k = .long) ∧ Cond.instantiable C N ∈ xG ∧ Cond.initialized C ∈ xG := by
  intro ci C T N h
  match ci, h with
  | 0, h => cases h; exact ⟨rfl, xk_in xk_0, tyX0_ok, nmX0, fun k hk => xk_tv (xk_k0 k hk), xk_i0, xk_n0⟩
  | 1, h => cases h; exact ⟨rfl, xk_in xk_1, tyX1_ok, nmX1, fun k hk => xk_tv (xk_k1 k hk), xk_i1, xk_n1⟩
  | 2, h => cases h; exact ⟨rfl, xk_in xk_2, tyX2_ok, nmX2, fun k hk => xk_tv (xk_k2 k hk), xk_i2, xk_n2⟩
  | 3, h => cases h; exact ⟨rfl, xk_in xk_3, tyX3_ok, nmX3, fun k hk => xk_tv (xk_k3 k hk), xk_i3, xk_n3⟩
  | 4, h => cases h; exact ⟨rfl, xk_in xk_4, tyX4_ok, nmX4, fun k hk => xk_tv (xk_k4 k hk), xk_i4, xk_n4⟩
  | 5, h => cases h; exact ⟨rfl, xk_in xk_5, tyX5_ok, nmX5, fun k hk => xk_tv (xk_k5 k hk), xk_i5, xk_n5⟩
  | 6, h => cases h; exact ⟨rfl, xk_in xk_6, tyX6_ok, nmX6, fun k hk => xk_tv (xk_k6 k hk), xk_i6, xk_n6⟩
  | 7, h => cases h; exact ⟨rfl, xk_in xk_7, tyX7_ok, nmX7, fun k hk => xk_tv (xk_k7 k hk), xk_i7, xk_n7⟩
  | 8, h => cases h; exact ⟨rfl, xk_in xk_8, tyX8_ok, nmX8, fun k hk => xk_tv (xk_k8 k hk), xk_i8, xk_n8⟩
  | 9, h => cases h; exact ⟨rfl, xk_in xk_9, tyX9_ok, nmX9, fun k hk => xk_tv (xk_k9 k hk), xk_i9, xk_n9⟩
  | 10, h => cases h; exact ⟨rfl, xk_in xk_10, tyX10_ok, nmX10, fun k hk => xk_tv (xk_k10 k hk), xk_i10, xk_n10⟩
  | k + 11, h => simp [vwCl] at h
theorem xk_aI : Cond.arrayClass .int ∈ xG := xw_in (K := 1) (i := 72) (by decide +kernel)
theorem xk_aB : Cond.arrayClass .byte ∈ xG := xw_in (K := 1) (i := 46) (by decide +kernel)
theorem xk_aZ : Cond.arrayClass .boolean ∈ xG := xw_in (K := 2) (i := 85) (by decide +kernel)
theorem xk_aJ : Cond.arrayClass .long ∈ xG := xw_in (K := 1) (i := 154) (by decide +kernel)
theorem xk_ov : Cond.arrayOver (.object RX7) ∈ lw_tbl := xtb_in (K := 1) (List.mem_of_getElem? (i := 155) (by decide +kernel))
end XK
end
section
section XS
/-- the String constants: in which pool, at which place, the text, its number -/
def xo_s : List (String × Nat × String × Nat) := [(RX4, 59, "body", 0), (RX6, 75, "body", 0), (RX6, 81, "carry", 1), (RX6, 83, "and", 2), (RX6, 85, "or", 3), (RX6, 87, "of", 4), (RX4, 154, "of", 4), (RX4, 128, "and", 2), (RX4, 123, "or", 3), (RX4, 69, "carry", 1)]
def xo_f (j : Nat) : Int64 := ([1, 1, 2, 6, 24, 120, 720, 5040, 40320, 362880, 3628800, 39916800, 479001600] : List Int64).getD j 0
/-- what is not of ours and stays: String constants, the table of the factorials, the array class of Statutes -/
def xo_ok (sp : Nat → Nat) (A : Nat → Prop) (U : State) (H : Heap) : Prop :=
  (∀ (k : Nat) (q : String × Nat × String × Nat), xo_s[k]? = some q → vk_R q.1 q.2.1 q.2.2.1 (sp (q.2.2.2 + 2)) U) ∧ va_AO RX7 U ∧ va_Z RX2 "FACTORIALS" "[J" (.ref (sp 1)) A U H ∧ va_T .long (sp 1) 13 (fun j => .long (xo_f j)) A U H
theorem xo_ok.warm {sp : Nat → Nat} {A : Nat → Prop} {s U : State} {H : Heap} (hW : s.WarmedH U.vm) (h : xo_ok sp A s H) : xo_ok sp A U H := ⟨fun k q hq => vk_R.warm hW (h.1 k q hq), h.2.1.moved hW.alike, h.2.2.1.moved hW.alike, h.2.2.2.moved hW.alike⟩
theorem xo_ok.same {sp : Nat → Nat} {A : Nat → Prop} {s U : State} {H : Heap} (hv : U.vm = s.vm) (h : xo_ok sp A s H) : xo_ok sp A U H := by
  have hA : s.vm.Alike U.vm := by rw [hv]; exact Vm.Alike.refl s.vm
  exact ⟨fun k q hq => vk_R.same hv (h.1 k q hq), h.2.1.moved hA, h.2.2.1.moved hA, h.2.2.2.moved hA⟩
theorem xo_ok.kept {sp : Nat → Nat} {A : Nat → Prop} {U : State} {H H1 : Heap} (h : xo_ok sp A U H) (hq : ∀ a : Nat, a < H.size → ¬ A a → H1[a]? = H[a]?) : xo_ok sp A U H1 := ⟨h.1, h.2.1, h.2.2.1.kept hq, h.2.2.2.kept hq⟩
theorem xo_ok.narrow {sp : Nat → Nat} {A B : Nat → Prop} {U : State} {H : Heap} (h : xo_ok sp A U H) (hAB : ∀ q, B q → A q) : xo_ok sp B U H := ⟨h.1, h.2.1, h.2.2.1.narrow hAB, h.2.2.2.narrow hAB⟩
def xr_len (i : Instr) : Nat := match i with
  | .bipush _ => 2
  | .ldc _ => 2
  | .iload _ => 2
  | .lload _ => 2
  | .aload _ => 2
  | .istore _ => 2
  | .lstore _ => 2
  | .astore _ => 2
  | .newarray _ => 2
  | .sipush _ => 3
  | .ldc_w _ => 3
  | .ldc2_w _ => 3
  | .iinc _ _ => 3
  | .ifCond _ _ => 3
  | .if_icmp _ _ => 3
  | .goto _ => 3
  | .ifnull _ => 3
  | .if_acmp _ _ => 3
  | .getfield _ => 3
  | .putfield _ => 3
  | .anewarray _ => 3
  | .new _ => 3
  | .invokevirtual _ => 3
  | .invokestatic _ => 3
  | .invokespecial _ => 3
  | .getstatic _ => 3
  | _ => 1
/-- the row's word and numbers -/
def xr_w (own : String) (ini : Bool) (pc : Nat) (r : xr_R) : Bool := match r.1 with
  | .getfield idx => (match vwCl[r.2.2.1]? with
    | some (_, T, N) => Nat.ble (r.2.2.2.1 + 1) N && xw_b r.2.2.2.2.1 r.2.2.2.2.2 (.fieldLink own idx (T r.2.2.2.1).1 (T r.2.2.2.1).2.1 (T r.2.2.2.1).2.2.1)
    | none => false)
  | .putfield idx => (match vwCl[r.2.2.1]? with
    | some (_, T, N) => Nat.ble (r.2.2.2.1 + 1) N && (xw_b r.2.2.2.2.1 r.2.2.2.2.2 (.fieldLink own idx (T r.2.2.2.1).1 (T r.2.2.2.1).2.1 (T r.2.2.2.1).2.2.1) && (!(T r.2.2.2.1).2.2.2 || (ini && decide ((T r.2.2.2.1).1 = own))))
    | none => false)
  | .ldc idx => (match r.2.2.2.1 with
    | 0 => xw_b r.2.2.2.2.1 r.2.2.2.2.2 (.constant own idx (Int32.ofNat r.2.2.1))
    | k + 1 => (match xo_s[k]? with
      | some q => decide (q.1 = own) && (Nat.beq q.2.1 idx && (Nat.beq (q.2.2.2 + 2) r.2.2.1 && Nat.beq (UInt32.ofNat r.2.2.1).toNat r.2.2.1))
      | none => false))
  | .ldc_w idx => xw_b r.2.2.2.2.1 r.2.2.2.2.2 (.constant own idx (Int32.ofNat r.2.2.1))
  | .ldc2_w idx => xw_b r.2.2.2.2.1 r.2.2.2.2.2 (.constantLong own idx (Int64.ofNat r.2.2.1))
  | .new idx => (match vwCl[r.2.2.1]? with
    | some (C, _, _) => xw_b r.2.2.2.2.1 r.2.2.2.2.2 (.classLink own idx C)
    | none => false)
  | .anewarray idx => xw_b r.2.2.2.2.1 r.2.2.2.2.2 (.classLink own idx RX7)
  | .ifCond _ off => decide ((pc : Int) + off = (r.2.2.1 : Int))
  | .if_icmp _ off => decide ((pc : Int) + off = (r.2.2.1 : Int))
  | .if_acmp _ off => decide ((pc : Int) + off = (r.2.2.1 : Int))
  | .goto off => decide ((pc : Int) + off = (r.2.2.1 : Int))
  | _ => true
def xr_b (own : String) (ini : Bool) (cc : ByteArray) (pc : Nat) (r : xr_R) : Bool := decide (decode cc pc = .ok (r.1, r.2.1)) && ((match r.1 with
  | .tableswitch _ _ _ _ => true
  | i => Nat.beq r.2.1 (xr_len i)) && xr_w own ini pc r)
variable {p : Program} {l : Launch} {e : Env} {R : Room} {s : State} {m : MethodId} {args : Array Value} {below : List Frame} {meth : Method} {c : Code} {H : Heap} {locs : List Loc} {Q : State → Prop}
variable {cc : ByteArray} {ls : Array Slot} {D : va_G} {A : Nat → Prop} {ad sp : Nat → Nat} {cy : Nat → ClassId} {nL : Nat} {own : String} {ini : Bool}
/-- what a method's frame stands on -/
def xc_X (p : Program) (s : State) (m : MethodId) (args : Array Value) (meth : Method) (c : Code) (cc : ByteArray) (nL : Nat) (own : String) (ini : Bool) (D : va_G) (cy : Nat → ClassId) (A : Nat → Prop) (sp : Nat → Nat) : Prop :=
  p.tables.exec = Jvm.exec ∧ c.code = cc ∧ c.maxLocals = nL ∧ s.vm.findClass own = some m.cls ∧ (∀ w ∈ xG, w.before args s = true) ∧ va_K D vwCl (xh_ts cy) s ∧ (∀ q, s.heap.size ≤ q → A q) ∧ xo_ok sp A s s.heap ∧ (ini = true → meth.name = "<init>")
/-- where it stands: the heap, the locals -/
def xc_S (D : va_G) (cy : Nat → ClassId) (ad sp : Nat → Nat) (A : Nat → Prop) (s : State) (nL : Nat) (h : xh_H) (lv : List (Nat × Value)) (H : Heap) (locs : List Loc) (ls : Array Slot) : Prop :=
  xh_at D cy ad A h H ∧ va_S A s.heap H locs ∧ lv_has ls nL (xl_m ad sp lv)
theorem xs_ld {k i len pc : Nat} {lv : List (Nat × Value)} {st : List Value} {h : xh_H} {cs ss : Nat} {o : xs_S} (he : xe_ld k i len pc lv st h cs ss = some o) : ∃ v, xl_get lv i = some v ∧ xv_k k v = true ∧ o = (pc + len, lv, v :: st, h, cs, ss) := by
  unfold xe_ld at he
  split at he
  · rename_i v hv
    obtain ⟨h1, h2⟩ := xw_c he
    exact ⟨v, hv, h1, (Option.some.inj h2).symm⟩
  · cases he
theorem xs_st1 {k i len pc nL : Nat} {lv : List (Nat × Value)} {st : List Value} {h : xh_H} {cs ss : Nat} {o : xs_S} (he : xe_st1 k i len pc nL lv st h cs ss = some o) : ∃ v r, st = v :: r ∧ xv_k k v = true ∧ i < nL ∧ o = (pc + len, xl_1 lv i v, r, h, cs, ss) := by
  unfold xe_st1 at he
  split at he
  · rename_i v r
    obtain ⟨h1, h2⟩ := xw_c he
    obtain ⟨h1, h3⟩ := xw_bb h1
    exact ⟨v, r, rfl, h1, xw_ble h3, (Option.some.inj h2).symm⟩
  · cases he
theorem xs_st2 {i len pc nL : Nat} {lv : List (Nat × Value)} {st : List Value} {h : xh_H} {cs ss : Nat} {o : xs_S} (he : xe_st2 i len pc nL lv st h cs ss = some o) : ∃ v r, st = v :: r ∧ xv_k 1 v = true ∧ i + 1 < nL ∧ o = (pc + len, xl_2 lv i v, r, h, cs, ss) := by
  unfold xe_st2 at he
  split at he
  · rename_i v r
    obtain ⟨h1, h2⟩ := xw_c he
    obtain ⟨h1, h3⟩ := xw_bb h1
    exact ⟨v, r, rfl, h1, xw_ble h3, (Option.some.inj h2).symm⟩
  · cases he
theorem xv_k0 {v : Value} (h : xv_k 0 v = true) : ∃ x, v = .int x := by cases v <;> first | exact ⟨_, rfl⟩ | cases h
theorem xv_k1 {v : Value} (h : xv_k 1 v = true) : ∃ x, v = .long x := by cases v <;> first | exact ⟨_, rfl⟩ | cases h
theorem xv_k2 {v : Value} (ad sp : Nat → Nat) (h : xv_k 2 v = true) : (∃ x, xh_v ad sp v = .ref x) ∨ xh_v ad sp v = .null := by
  cases v <;> first | exact Or.inl ⟨_, rfl⟩ | exact Or.inr rfl | cases h
set_option maxHeartbeats 4000000 in
set_option maxRecDepth 100000 in
/-- ONE INSTRUCTION, on the machine -/
theorem xe_1_ok {r : xr_R} {pc : Nat} {lv : List (Nat × Value)} {st : List Value} {h : xh_H} {cells slots : Nat} {pc' : Nat} {lv' : List (Nat × Value)} {st' : List Value} {h' : xh_H} {cells' slots' : Nat}
    (X : xc_X p s m args meth c cc nL own ini D cy A sp) (hr : xr_b own ini cc pc r = true) (he : xe_1 nL r pc lv st h cells slots = some (pc', lv', st', h', cells', slots')) (hcap : cells' ≤ R.cells ∧ slots' ≤ R.slots) (S : xc_S D cy ad sp A s nL h lv H locs ls)
    (kk : ∀ (H1 : Heap) (locs1 : List Loc) (ls1 : Array Slot), xc_S D cy ad sp A s nL h' lv' H1 locs1 ls1 → W p l e R s m args below meth c H1 locs1 cells' slots' Q (F0 m pc' ls1 (st'.map (xh_v ad sp)))) :
    W p l e R s m args below meth c H locs cells slots Q (F0 m pc ls (st.map (xh_v ad sp))) := by
  obtain ⟨hx, hb, hml, hown, hts, hK, hA, hO, hini⟩ := X
  obtain ⟨hat, hS, hl⟩ := S
  obtain ⟨hd, hr⟩ := xw_bb hr
  replace hd := of_decide_eq_true hd
  obtain ⟨hlen, hw⟩ := xw_bb hr
  clear hr
  obtain ⟨i, len, ra, rb, rK, ri⟩ := r
  dsimp only at hd hlen
  cases i with
  | iconst n =>
    cases xw_beq hlen; cases he
    exact lv_iconst hx hb hd rfl (kk _ _ _ ⟨hat, hS, hl⟩)
  | bipush n =>
    cases xw_beq hlen; cases he
    exact lv_bipush hx hb hd rfl (kk _ _ _ ⟨hat, hS, hl⟩)
  | sipush n =>
    cases xw_beq hlen; cases he
    exact lv_sipush hx hb hd rfl (kk _ _ _ ⟨hat, hS, hl⟩)
  | lconst n =>
    cases xw_beq hlen; cases he
    exact lv_lconst hx hb hd rfl (kk _ _ _ ⟨hat, hS, hl⟩)
  | ldc idx =>
    cases xw_beq hlen
    cases rb with
    | zero =>
      cases he
      exact lv_ldc hx hb hown (hts _ (xw_in hw)) hd (kk _ _ _ ⟨hat, hS, hl⟩)
    | succ k =>
      cases he
      have hw : (match xo_s[k]? with
        | some q => decide (q.1 = own) && (Nat.beq q.2.1 idx && (Nat.beq (q.2.2.2 + 2) ra && Nat.beq (UInt32.ofNat ra).toNat ra))
        | none => false) = true := hw
      cases hq : xo_s[k]? with
      | none => rw [hq] at hw; cases hw
      | some q =>
        rw [hq] at hw
        obtain ⟨h1, hw⟩ := xw_bb hw
        obtain ⟨h2, hw⟩ := xw_bb hw
        obtain ⟨h3, h4⟩ := xw_bb hw
        have h1 := of_decide_eq_true h1
        have h2 := xw_beq h2
        have h3 := xw_beq h3
        have h4 := xw_beq h4
        have hR := hO.1 k q hq
        rw [h1, h2, h3] at hR
        refine va_ldcS hx hb hown hR hd ?_
        have := kk _ _ _ ⟨hat, hS, hl⟩
        rw [show List.map (xh_v ad sp) (Value.float (UInt32.ofNat ra) :: st) = Value.ref (sp (UInt32.ofNat ra).toNat) :: st.map (xh_v ad sp) from rfl, h4] at this
        exact this
  | ldc_w idx =>
    cases xw_beq hlen; cases he
    exact lv_ldcw hx hb hown (hts _ (xw_in hw)) hd (kk _ _ _ ⟨hat, hS, hl⟩)
  | ldc2_w idx =>
    cases xw_beq hlen; cases he
    exact lv_ldc2 hx hb hown (hts _ (xw_in hw)) hd (kk _ _ _ ⟨hat, hS, hl⟩)
  | iload_n k =>
    cases xw_beq hlen
    obtain ⟨v, h1, h2, h3⟩ := xs_ld he
    cases h3
    obtain ⟨x, rfl⟩ := xv_k0 h2
    exact lv_iload_n hx hb hd rfl (xl_at hl h1) (kk _ _ _ ⟨hat, hS, hl⟩)
  | iload k =>
    cases xw_beq hlen
    obtain ⟨v, h1, h2, h3⟩ := xs_ld he
    cases h3
    obtain ⟨x, rfl⟩ := xv_k0 h2
    exact lv_iload hx hb hd (xl_at hl h1) (kk _ _ _ ⟨hat, hS, hl⟩)
  | lload_n k =>
    cases xw_beq hlen
    obtain ⟨v, h1, h2, h3⟩ := xs_ld he
    cases h3
    obtain ⟨x, rfl⟩ := xv_k1 h2
    exact lv_lload_n hx hb hd rfl (xl_at hl h1) (kk _ _ _ ⟨hat, hS, hl⟩)
  | lload k =>
    cases xw_beq hlen
    obtain ⟨v, h1, h2, h3⟩ := xs_ld he
    cases h3
    obtain ⟨x, rfl⟩ := xv_k1 h2
    exact lv_lload hx hb hd (xl_at hl h1) (kk _ _ _ ⟨hat, hS, hl⟩)
  | aload_n k =>
    cases xw_beq hlen
    obtain ⟨v, h1, h2, h3⟩ := xs_ld he
    cases h3
    have hv := xl_at hl h1
    have K := kk _ _ _ ⟨hat, hS, hl⟩
    rw [List.map_cons] at K
    rcases xv_k2 ad sp h2 with ⟨x, hx2⟩ | hx2
    · rw [hx2] at hv K
      exact lv_aload_n hx hb hd rfl hv K
    · rw [hx2] at hv K
      exact lv_aload_nN hx hb hd rfl hv K
  | aload k =>
    cases xw_beq hlen
    obtain ⟨v, h1, h2, h3⟩ := xs_ld he
    cases h3
    have hv := xl_at hl h1
    have K := kk _ _ _ ⟨hat, hS, hl⟩
    rw [List.map_cons] at K
    rcases xv_k2 ad sp h2 with ⟨x, hx2⟩ | hx2
    · rw [hx2] at hv K
      exact lv_aload hx hb hd hv K
    · rw [hx2] at hv K
      exact lv_aloadN hx hb hd hv K
  | istore_n k =>
    cases xw_beq hlen
    obtain ⟨v, q, rfl, h2, h4, h3⟩ := xs_st1 he
    cases h3
    obtain ⟨x, rfl⟩ := xv_k0 h2
    exact lv_istore_n hx hb hd rfl hl h4 (xl_m1 ad sp lv _ (.int x)) (fun ls1 hl1 => kk _ _ _ ⟨hat, hS, hl1⟩)
  | istore k =>
    cases xw_beq hlen
    obtain ⟨v, q, rfl, h2, h4, h3⟩ := xs_st1 he
    cases h3
    obtain ⟨x, rfl⟩ := xv_k0 h2
    exact lv_istore hx hb hd hl h4 (xl_m1 ad sp lv _ (.int x)) (fun ls1 hl1 => kk _ _ _ ⟨hat, hS, hl1⟩)
  | astore_n k =>
    cases xw_beq hlen
    obtain ⟨v, q, rfl, h2, h4, h3⟩ := xs_st1 he
    cases h3
    have hm := xl_m1 ad sp lv k v
    rw [List.map_cons]
    rcases xv_k2 ad sp h2 with ⟨x, hx2⟩ | hx2
    · rw [hx2] at hm ⊢
      exact lv_astore_n hx hb hd rfl hl h4 hm (fun ls1 hl1 => kk _ _ _ ⟨hat, hS, hl1⟩)
    · rw [hx2] at hm ⊢
      exact lv_astore_nN hx hb hd rfl hl h4 hm (fun ls1 hl1 => kk _ _ _ ⟨hat, hS, hl1⟩)
  | astore k =>
    cases xw_beq hlen
    obtain ⟨v, q, rfl, h2, h4, h3⟩ := xs_st1 he
    cases h3
    have hm := xl_m1 ad sp lv k v
    rw [List.map_cons]
    rcases xv_k2 ad sp h2 with ⟨x, hx2⟩ | hx2
    · rw [hx2] at hm ⊢
      exact lv_astore hx hb hd hl h4 hm (fun ls1 hl1 => kk _ _ _ ⟨hat, hS, hl1⟩)
    · rw [hx2] at hm ⊢
      exact lv_astoreN hx hb hd hl h4 hm (fun ls1 hl1 => kk _ _ _ ⟨hat, hS, hl1⟩)
  | lstore_n k =>
    cases xw_beq hlen
    obtain ⟨v, q, rfl, h2, h4, h3⟩ := xs_st2 he
    cases h3
    obtain ⟨x, rfl⟩ := xv_k1 h2
    exact lv_lstore_n hx hb hd rfl hl h4 (xl_m2 ad sp lv _ (.long x)) (fun ls1 hl1 => kk _ _ _ ⟨hat, hS, hl1⟩)
  | lstore k =>
    cases xw_beq hlen
    obtain ⟨v, q, rfl, h2, h4, h3⟩ := xs_st2 he
    cases h3
    obtain ⟨x, rfl⟩ := xv_k1 h2
    exact lv_lstore hx hb hd hl h4 (xl_m2 ad sp lv _ (.long x)) (fun ls1 hl1 => kk _ _ _ ⟨hat, hS, hl1⟩)
  | iinc k n =>
    cases xw_beq hlen
    have he : (match xl_get lv k with
      | some (.int x) => cond (Nat.ble (k + 1) nL) (some (pc + 3, xl_1 lv k (.int (x + Int32.ofInt n)), st, h, cells, slots)) none
      | _ => none) = some (pc', lv', st', h', cells', slots') := he
    split at he
    · rename_i x hv
      obtain ⟨h1, h2⟩ := xw_c he
      cases h2
      obtain ⟨k2, hk2⟩ := xl_ix (ad := ad) (sp := sp) hv
      exact lv_iinc (k := k2) hx hb hd hl hk2 rfl (xw_ble h1) (xl_m1 ad sp lv k (.int (x + Int32.ofInt n))) (fun ls1 hl1 => kk _ _ _ ⟨hat, hS, hl1⟩)
    · cases he
  | iadd =>
    cases xw_beq hlen
    obtain ⟨y, x, q, rfl, h2⟩ := xp_ii_v he
    cases h2
    exact lv_iadd hx hb hd (kk _ _ _ ⟨hat, hS, hl⟩)
  | isub =>
    cases xw_beq hlen
    obtain ⟨y, x, q, rfl, h2⟩ := xp_ii_v he
    cases h2
    exact lv_isub hx hb hd (kk _ _ _ ⟨hat, hS, hl⟩)
  | imul =>
    cases xw_beq hlen
    obtain ⟨y, x, q, rfl, h2⟩ := xp_ii_v he
    cases h2
    exact lv_imul hx hb hd (kk _ _ _ ⟨hat, hS, hl⟩)
  | iand =>
    cases xw_beq hlen
    obtain ⟨y, x, q, rfl, h2⟩ := xp_ii_v he
    cases h2
    exact lv_iand hx hb hd (kk _ _ _ ⟨hat, hS, hl⟩)
  | ior =>
    cases xw_beq hlen
    obtain ⟨y, x, q, rfl, h2⟩ := xp_ii_v he
    cases h2
    exact lv_ior hx hb hd (kk _ _ _ ⟨hat, hS, hl⟩)
  | ixor =>
    cases xw_beq hlen
    obtain ⟨y, x, q, rfl, h2⟩ := xp_ii_v he
    cases h2
    exact lv_ixor hx hb hd (kk _ _ _ ⟨hat, hS, hl⟩)
  | ishl =>
    cases xw_beq hlen
    obtain ⟨y, x, q, rfl, h2⟩ := xp_ii_v he
    cases h2
    exact lv_ishl hx hb hd (kk _ _ _ ⟨hat, hS, hl⟩)
  | ishr =>
    cases xw_beq hlen
    obtain ⟨y, x, q, rfl, h2⟩ := xp_ii_v he
    cases h2
    exact lv_ishr hx hb hd (kk _ _ _ ⟨hat, hS, hl⟩)
  | iushr =>
    cases xw_beq hlen
    obtain ⟨y, x, q, rfl, h2⟩ := xp_ii_v he
    cases h2
    exact lv_iushr hx hb hd rfl (kk _ _ _ ⟨hat, hS, hl⟩)
  | irem =>
    cases xw_beq hlen
    obtain ⟨y, x, q, rfl, h2⟩ := xp_ii_v he
    obtain ⟨h3, h2⟩ := xw_c0 h2
    cases h2
    exact lv_irem hx hb hd (of_decide_eq_false h3) (kk _ _ _ ⟨hat, hS, hl⟩)
  | ladd =>
    cases xw_beq hlen
    obtain ⟨y, x, q, rfl, h2⟩ := xp_ll_v he
    cases h2
    exact lv_ladd hx hb hd (kk _ _ _ ⟨hat, hS, hl⟩)
  | lsub =>
    cases xw_beq hlen
    obtain ⟨y, x, q, rfl, h2⟩ := xp_ll_v he
    cases h2
    exact lv_lsub hx hb hd (kk _ _ _ ⟨hat, hS, hl⟩)
  | lmul =>
    cases xw_beq hlen
    obtain ⟨y, x, q, rfl, h2⟩ := xp_ll_v he
    cases h2
    exact lv_lmul hx hb hd (kk _ _ _ ⟨hat, hS, hl⟩)
  | land =>
    cases xw_beq hlen
    obtain ⟨y, x, q, rfl, h2⟩ := xp_ll_v he
    cases h2
    exact lv_land hx hb hd (kk _ _ _ ⟨hat, hS, hl⟩)
  | lor =>
    cases xw_beq hlen
    obtain ⟨y, x, q, rfl, h2⟩ := xp_ll_v he
    cases h2
    exact lv_lor hx hb hd (kk _ _ _ ⟨hat, hS, hl⟩)
  | ldiv =>
    cases xw_beq hlen
    obtain ⟨y, x, q, rfl, h2⟩ := xp_ll_v he
    obtain ⟨h3, h2⟩ := xw_c0 h2
    cases h2
    exact lv_ldiv hx hb hd (of_decide_eq_false h3) (kk _ _ _ ⟨hat, hS, hl⟩)
  | lrem =>
    cases xw_beq hlen
    obtain ⟨y, x, q, rfl, h2⟩ := xp_ll_v he
    obtain ⟨h3, h2⟩ := xw_c0 h2
    cases h2
    exact lv_lrem hx hb hd (of_decide_eq_false h3) (kk _ _ _ ⟨hat, hS, hl⟩)
  | lushr =>
    cases xw_beq hlen
    obtain ⟨y, x, q, rfl, h2⟩ := xp_il_v he
    cases h2
    exact lv_lushr hx hb hd rfl (kk _ _ _ ⟨hat, hS, hl⟩)
  | lshl =>
    cases xw_beq hlen
    obtain ⟨y, x, q, rfl, h2⟩ := xp_il_v he
    cases h2
    exact lv_lshl hx hb hd rfl (kk _ _ _ ⟨hat, hS, hl⟩)
  | lcmp =>
    cases xw_beq hlen
    obtain ⟨y, x, q, rfl, h2⟩ := xp_ll_v he
    cases h2
    exact W.lcmp hx hb hd (kk _ _ _ ⟨hat, hS, hl⟩)
  | i2l =>
    cases xw_beq hlen
    obtain ⟨x, q, rfl, h2⟩ := xp_i_v he
    cases h2
    exact lv_i2l hx hb hd rfl (kk _ _ _ ⟨hat, hS, hl⟩)
  | l2i =>
    cases xw_beq hlen
    obtain ⟨x, q, rfl, h2⟩ := xp_l_v he
    cases h2
    exact lv_l2i hx hb hd rfl (kk _ _ _ ⟨hat, hS, hl⟩)
  | i2b =>
    cases xw_beq hlen
    obtain ⟨x, q, rfl, h2⟩ := xp_i_v he
    cases h2
    exact lv_i2b hx hb hd rfl (kk _ _ _ ⟨hat, hS, hl⟩)
  | i2c =>
    cases xw_beq hlen
    obtain ⟨x, q, rfl, h2⟩ := xp_i_v he
    cases h2
    exact lv_i2c hx hb hd rfl (kk _ _ _ ⟨hat, hS, hl⟩)
  | dup =>
    cases xw_beq hlen
    match st, he with
    | a :: q, he =>
      obtain ⟨h1, h2⟩ := xw_c he
      cases h2
      exact lv_dup hx hb hd ((xh_v_cat ad sp a).trans (xw_beq h1)) (kk _ _ _ ⟨hat, hS, hl⟩)
  | pop =>
    cases xw_beq hlen
    match st, he with
    | a :: q, he =>
      obtain ⟨h1, h2⟩ := xw_c he
      cases h2
      exact lv_pop hx hb hd ((xh_v_cat ad sp a).trans (xw_beq h1)) (kk _ _ _ ⟨hat, hS, hl⟩)
  | dup2 =>
    cases xw_beq hlen
    match st, he with
    | a :: b :: q, he =>
      obtain ⟨h1, h2⟩ := xw_c he
      obtain ⟨h1, h3⟩ := xw_bb h1
      cases h2
      exact lv_dup2_11 hx hb hd ((xh_v_cat ad sp a).trans (xw_beq h1)) ((xh_v_cat ad sp b).trans (xw_beq h3)) (kk _ _ _ ⟨hat, hS, hl⟩)
  | dup_x2 =>
    cases xw_beq hlen
    match st, he with
    | a :: b :: d :: q, he =>
      obtain ⟨h1, h2⟩ := xw_c he
      obtain ⟨h1, h3⟩ := xw_bb h1
      obtain ⟨h3, h4⟩ := xw_bb h3
      cases h2
      exact lv_dup_x2 hx hb hd ((xh_v_cat ad sp a).trans (xw_beq h1)) ((xh_v_cat ad sp b).trans (xw_beq h3)) ((xh_v_cat ad sp d).trans (xw_beq h4)) (kk _ _ _ ⟨hat, hS, hl⟩)
  | ifCond k off =>
    cases xw_beq hlen
    obtain ⟨x, q, rfl, h2⟩ := xp_i_v he
    have hw := of_decide_eq_true hw
    cases hbb : xe_c k x 0 with
    | true =>
      rw [hbb] at h2
      cases h2
      have K := kk _ _ _ ⟨hat, hS, hl⟩
      cases k with
      | eq => exact lv_if_eq hx hb hd hw (fun _ => K) (fun z => absurd hbb (by simp [xe_c, z]))
      | ne => exact lv_if_ne hx hb hd hw (fun _ => K) (fun z => absurd hbb (by simp [xe_c, z]))
      | lt => exact lv_if_lt hx hb hd hw (fun _ => K) (fun z => absurd hbb (by simp [xe_c, z]))
      | ge => exact lv_if_ge hx hb hd hw (fun _ => K) (fun z => absurd hbb (by simp [xe_c, z]))
      | gt => exact lv_if_gt hx hb hd hw (fun _ => K) (fun z => absurd hbb (by simp [xe_c, z]))
      | le => exact lv_if_le hx hb hd hw (fun _ => K) (fun z => absurd hbb (by simp [xe_c, z]))
    | false =>
      rw [hbb] at h2
      cases h2
      have K := kk _ _ _ ⟨hat, hS, hl⟩
      cases k with
      | eq => exact lv_if_eq hx hb hd hw (fun z => absurd hbb (by simp [xe_c, z])) (fun _ => K)
      | ne => exact lv_if_ne hx hb hd hw (fun z => absurd hbb (by simp [xe_c, z])) (fun _ => K)
      | lt => exact lv_if_lt hx hb hd hw (fun z => absurd hbb (by simp [xe_c, z])) (fun _ => K)
      | ge => exact lv_if_ge hx hb hd hw (fun z => absurd hbb (by simp [xe_c, z])) (fun _ => K)
      | gt => exact lv_if_gt hx hb hd hw (fun z => absurd hbb (by simp [xe_c, z])) (fun _ => K)
      | le => exact lv_if_le hx hb hd hw (fun z => absurd hbb (by simp [xe_c, z])) (fun _ => K)
  | if_icmp k off =>
    cases xw_beq hlen
    obtain ⟨y, x, q, rfl, h2⟩ := xp_ii_v he
    have hw := of_decide_eq_true hw
    cases hbb : xe_c k x y with
    | true =>
      rw [hbb] at h2
      cases h2
      have K := kk _ _ _ ⟨hat, hS, hl⟩
      cases k with
      | eq => exact lv_icmp_eq hx hb hd hw (fun _ => K) (fun z => absurd hbb (by simp [xe_c, z]))
      | ne => exact lv_icmp_ne hx hb hd hw (fun _ => K) (fun z => absurd hbb (by simp [xe_c, z]))
      | lt => exact lv_icmp_lt hx hb hd hw (fun _ => K) (fun z => absurd hbb (by simp [xe_c, z]))
      | ge => exact lv_icmp_ge hx hb hd hw (fun _ => K) (fun z => absurd hbb (by simp [xe_c, z]))
      | gt => exact lv_icmp_gt hx hb hd hw (fun _ => K) (fun z => absurd hbb (by simp [xe_c, z]))
      | le => exact lv_icmp_le hx hb hd hw (fun _ => K) (fun z => absurd hbb (by simp [xe_c, z]))
    | false =>
      rw [hbb] at h2
      cases h2
      have K := kk _ _ _ ⟨hat, hS, hl⟩
      cases k with
      | eq => exact lv_icmp_eq hx hb hd hw (fun z => absurd hbb (by simp [xe_c, z])) (fun _ => K)
      | ne => exact lv_icmp_ne hx hb hd hw (fun z => absurd hbb (by simp [xe_c, z])) (fun _ => K)
      | lt => exact lv_icmp_lt hx hb hd hw (fun z => absurd hbb (by simp [xe_c, z])) (fun _ => K)
      | ge => exact lv_icmp_ge hx hb hd hw (fun z => absurd hbb (by simp [xe_c, z])) (fun _ => K)
      | gt => exact lv_icmp_gt hx hb hd hw (fun z => absurd hbb (by simp [xe_c, z])) (fun _ => K)
      | le => exact lv_icmp_le hx hb hd hw (fun z => absurd hbb (by simp [xe_c, z])) (fun _ => K)
  | goto off =>
    cases xw_beq hlen; cases he
    exact lv_goto hx hb hd (of_decide_eq_true hw) (kk _ _ _ ⟨hat, hS, hl⟩)
  | ifnull off =>
    cases xw_beq hlen
    match st, he with
    | .ref _ :: q, he =>
      cases he
      exact lv_ifnull hx hb hd (kk _ _ _ ⟨hat, hS, hl⟩)
  | if_acmp k off =>
    cases xw_beq hlen
    cases k with
    | eq => cases he
    | ne =>
      match st, he with
      | .ref y :: .ref x :: q, he =>
        obtain ⟨h1, h2⟩ := xw_c he
        obtain ⟨h1, h3⟩ := xw_bb h1
        have hw := of_decide_eq_true hw
        have lx : x < h.1.length := xw_ble h1
        have ly : y < h.1.length := xw_ble h3
        have inj : ad x = ad y → x = y := by
          intro z
          obtain ⟨sx, hsx⟩ : ∃ sx, h.1[x]? = some sx := ⟨_, List.getElem?_eq_getElem lx⟩
          obtain ⟨sy, hsy⟩ : ∃ sy, h.1[y]? = some sy := ⟨_, List.getElem?_eq_getElem ly⟩
          exact hat.2.1.1 x y _ _ (xh_ws_at hsx) (xh_ws_at hsy) z
        refine lv_acmp_ne (rx := some (ad x)) (ry := some (ad y)) hx hb hd hw (fun z => ?_) (fun z => ?_)
        · have hne : x ≠ y := fun w => z (by rw [w])
          have hb2 : Nat.beq x y = false := by cases hq : Nat.beq x y with | false => rfl | true => exact absurd (Nat.eq_of_beq_eq_true hq) hne
          rw [hb2] at h2
          cases h2
          exact kk _ _ _ ⟨hat, hS, hl⟩
        · have heq : x = y := inj (Option.some.inj z)
          have hb2 : Nat.beq x y = true := by rw [heq]; exact Nat.beq_refl y
          rw [hb2] at h2
          cases h2
          exact kk _ _ _ ⟨hat, hS, hl⟩
  | tableswitch dflt lo hi offs =>
    obtain ⟨x, q, rfl, h2⟩ := xp_i_v he
    by_cases hin : x.toInt < lo ∨ hi < x.toInt
    · have hbool : (decide (x.toInt < lo) || decide (hi < x.toInt)) = true := by simpa using hin
      rw [hbool] at h2
      obtain ⟨h3, h2⟩ := xw_c h2
      cases h2
      have h3 := of_decide_eq_true h3
      exact lv_tableOut hx hb hd hin (by omega) (kk _ _ _ ⟨hat, hS, hl⟩)
    · have hbool : (decide (x.toInt < lo) || decide (hi < x.toInt)) = false := by simpa using hin
      rw [hbool] at h2
      cases ho : offs[(x.toInt - lo).toNat]? with
      | none => rw [ho] at h2; cases h2
      | some off =>
        rw [ho] at h2
        obtain ⟨h3, h2⟩ := xw_c h2
        cases h2
        have h3 := of_decide_eq_true h3
        exact lv_tableIn hx hb hd (fun z => hin (Or.inl z)) (fun z => hin (Or.inr z)) ho (by omega) (kk _ _ _ ⟨hat, hS, hl⟩)
  | getfield idx =>
    cases xw_beq hlen
    obtain ⟨a, q, rfl, h2⟩ := xp_r_v he
    dsimp only at h2
    split at h2
    · rename_i ci hc
      obtain ⟨h3, h2a⟩ := xw_c h2
      clear h2
      replace h3 := xw_beq h3
      subst h3
      cases h2a
      have hw : (match vwCl[ci]? with
        | some (_, T, N) => Nat.ble (rb + 1) N && xw_b rK ri (.fieldLink own idx (T rb).1 (T rb).2.1 (T rb).2.2.1)
        | none => false) = true := hw
      cases hv : vwCl[ci]? with
      | none => rw [hv] at hw; cases hw
      | some t =>
        obtain ⟨C, T, N⟩ := t
        rw [hv] at hw
        obtain ⟨h4, h5⟩ := xw_bb hw
        obtain ⟨k1, k2, -⟩ := xk_ok ci C T N hv
        have h4 : rb < N := xw_ble h4
        refine va_get (D := D) (v := xh_fv ad h a (xh_ty ci rb) rb) hx hb hts k2 hown hK hat.1 a (xh_ws_at hc) hv rb h4 (hts _ (xw_in h5)) (fun _ h9 => h9) (xh_fs_get (by rw [← k1]; exact h4)) hd ?_
        have K := kk _ _ _ ⟨hat, hS, hl⟩
        rw [List.map_cons, xh_v_get] at K
        exact K
    · cases h2
  | putfield idx =>
    cases xw_beq hlen
    obtain ⟨v, a, q, rfl, h2⟩ := xp_vr_v he
    dsimp only at h2
    split at h2
    · rename_i ci hc
      obtain ⟨h3, h2a⟩ := xw_c h2
      clear h2
      replace h3 := xw_beq h3
      subst h3
      have hw : (match vwCl[ci]? with
        | some (_, T, N) => Nat.ble (rb + 1) N && (xw_b rK ri (.fieldLink own idx (T rb).1 (T rb).2.1 (T rb).2.2.1) && (!(T rb).2.2.2 || (ini && decide ((T rb).1 = own))))
        | none => false) = true := hw
      cases hv : vwCl[ci]? with
      | none => rw [hv] at hw; cases hw
      | some t =>
        obtain ⟨C, T, N⟩ := t
        rw [hv] at hw
        obtain ⟨h4, h5⟩ := xw_bb hw
        obtain ⟨h5, h6⟩ := xw_bb h5
        obtain ⟨k1, k2, k3, k4, -⟩ := xk_ok ci C T N hv
        have h4 : rb < N := xw_ble h4
        have hfin : (T rb).2.2.2 = false ∨ (meth.name = "<init>" ∧ (T rb).1 = own) := by
          cases hf : (T rb).2.2.2 with
          | false => exact Or.inl rfl
          | true =>
            rw [hf] at h6
            obtain ⟨h7, h8⟩ := xw_bb (show (ini && decide ((T rb).1 = own)) = true from by simpa using h6)
            exact Or.inr ⟨hini h7, of_decide_eq_true h8⟩
        obtain ⟨h1, hp, h2⟩ := Option.map_eq_some_iff.mp h2a
        cases h2
        have P := @xa_put p l e R s m args below meth c H locs cells slots Q cc pc ls (List.map (xh_v ad sp) st') D A ad cy h s.heap a hx hb own (T rb).1 C T N ci idx xG hts k2 k3 k4 hown hK hat hS hc hv k1 rb h4 (hts _ (xw_in h5)) (fun _ h9 => h9) hfin
        cases hty : xh_ty ci rb with
        | int =>
          rw [hty] at P hp
          match v, hp with
          | .int x, hp =>
            cases hp
            exact P (v := .int x) rfl rfl (h' := xh_ui h a rb x) rfl (fun c' hc' => ⟨xh_up_o hc', rfl, rfl⟩) (by show Value.int (xg _ (xh_up _ _ _ _ _) _ _) = _; rw [xh_up_s]) (fun j hj => by cases xh_ty ci j <;> simp [xh_fv, xh_ui, xh_up_k hj]) hd (fun H1 locs1 a1 a2 => kk _ _ _ ⟨a1, a2, hl⟩)
        | boolean =>
          rw [hty] at P hp
          match v, hp with
          | .int x, hp =>
            obtain ⟨h7, hp⟩ := xw_c hp
            cases hp
            have h7 : x = 0 ∨ x = 1 := by simpa using h7
            refine P (v := .int x) ?_ ?_ (h' := xh_ui h a rb x) rfl (fun c' hc' => ⟨xh_up_o hc', rfl, rfl⟩) (by show Value.int (xg _ (xh_up _ _ _ _ _) _ _) = _; rw [xh_up_s]) (fun j hj => by cases xh_ty ci j <;> simp [xh_fv, xh_ui, xh_up_k hj]) hd (fun H1 locs1 a1 a2 => kk _ _ _ ⟨a1, a2, hl⟩)
            · rcases h7 with rfl | rfl <;> rfl
            · rcases h7 with rfl | rfl <;> rfl
        | long =>
          rw [hty] at P hp
          match v, hp with
          | .long x, hp =>
            cases hp
            exact P (v := .long x) rfl rfl (h' := xh_ul h a rb x) rfl (fun c' hc' => ⟨rfl, xh_up_o hc', rfl⟩) (by show Value.long (xg _ (xh_up _ _ _ _ _) _ _) = _; rw [xh_up_s]) (fun j hj => by cases xh_ty ci j <;> simp [xh_fv, xh_ul, xh_up_k hj]) hd (fun H1 locs1 a1 a2 => kk _ _ _ ⟨a1, a2, hl⟩)
        | object o =>
          rw [hty] at P hp
          match v, hp with
          | .ref x, hp =>
            cases hp
            exact P (v := .ref (ad x)) rfl rfl (h' := xh_ur h a rb (some x)) rfl (fun c' hc' => ⟨rfl, rfl, xh_up_o hc'⟩) (by show va_rf (Option.map ad (xg _ (xh_up _ _ _ _ _) _ _)) = _; rw [xh_up_s]; rfl) (fun j hj => by cases xh_ty ci j <;> simp [xh_fv, xh_ur, xh_up_k hj]) hd (fun H1 locs1 a1 a2 => kk _ _ _ ⟨a1, a2, hl⟩)
        | array o =>
          rw [hty] at P hp
          match v, hp with
          | .ref x, hp =>
            cases hp
            exact P (v := .ref (ad x)) rfl rfl (h' := xh_ur h a rb (some x)) rfl (fun c' hc' => ⟨rfl, rfl, xh_up_o hc'⟩) (by show va_rf (Option.map ad (xg _ (xh_up _ _ _ _ _) _ _)) = _; rw [xh_up_s]; rfl) (fun j hj => by cases xh_ty ci j <;> simp [xh_fv, xh_ur, xh_up_k hj]) hd (fun H1 locs1 a1 a2 => kk _ _ _ ⟨a1, a2, hl⟩)
        | byte => rw [hty] at hp; cases hp
        | char => rw [hty] at hp; cases hp
        | double => rw [hty] at hp; cases hp
        | float => rw [hty] at hp; cases hp
        | short => rw [hty] at hp; cases hp
    · cases h2
  | iaload =>
    cases xw_beq hlen
    obtain ⟨j, a, q, rfl, h2⟩ := xp_ir_v he
    split at h2
    · rename_i n hc
      obtain ⟨h3, h2⟩ := xw_c h2
      cases h2
      exact va_iald hx hb hK hat.1 a 0 (xh_ws_at hc) rfl (xe_in_v h3) hd (kk _ _ _ ⟨hat, hS, hl⟩)
    · cases h2
  | baload =>
    cases xw_beq hlen
    obtain ⟨j, a, q, rfl, h2⟩ := xp_ir_v he
    split at h2
    · rename_i n hc
      obtain ⟨h3, h2⟩ := xw_c h2
      cases h2
      exact va_bald hx hb hK hat.1 a 1 (xh_ws_at hc) rfl (xe_in_v h3) hd (kk _ _ _ ⟨hat, hS, hl⟩)
    · rename_i n hc
      obtain ⟨h3, h2⟩ := xw_c h2
      cases h2
      exact va_zald hx hb hK hat.1 a 2 (xh_ws_at hc) rfl (xe_in_v h3) hd (kk _ _ _ ⟨hat, hS, hl⟩)
    · cases h2
  | laload =>
    cases xw_beq hlen
    obtain ⟨j, a, q, rfl, h2⟩ := xp_ir_v he
    split at h2
    · rename_i n hc
      obtain ⟨h3, h2⟩ := xw_c h2
      cases h2
      exact va_lald hx hb hK hat.1 a 3 (xh_ws_at hc) rfl (xe_in_v h3) hd (kk _ _ _ ⟨hat, hS, hl⟩)
    · cases h2
  | aaload =>
    cases xw_beq hlen
    obtain ⟨j, a, q, rfl, h2⟩ := xp_ir_v he
    split at h2
    · rename_i n hc
      obtain ⟨h3, h2⟩ := xw_c h2
      cases h2
      refine va_aldq hx hb hK hat.1 a 4 (xh_ws_at hc) rfl (xe_in_v h3) hd ?_
      have K := kk _ _ _ ⟨hat, hS, hl⟩
      rw [List.map_cons, xh_v_rf] at K
      exact K
    · cases h2
  | iastore =>
    cases xw_beq hlen
    obtain ⟨x, j, a, q, rfl, h2⟩ := xp_iir_v he
    split at h2
    · rename_i n hc
      obtain ⟨h3, h2⟩ := xw_c h2
      cases h2
      exact xa_iast hx hb hK hat hS hc (xe_in_v h3) hd (fun H1 locs1 a1 a2 => kk _ _ _ ⟨a1, a2, hl⟩)
    · cases h2
  | bastore =>
    cases xw_beq hlen
    obtain ⟨x, j, a, q, rfl, h2⟩ := xp_iir_v he
    split at h2
    · rename_i n hc
      obtain ⟨h3, h2⟩ := xw_c h2
      cases h2
      exact xa_bast hx hb hK hat hS hc (xe_in_v h3) hd (fun H1 locs1 a1 a2 => kk _ _ _ ⟨a1, a2, hl⟩)
    · rename_i n hc
      obtain ⟨h3, h2⟩ := xw_c h2
      cases h2
      exact xa_zast hx hb hK hat hS hc (xe_in_v h3) hd (fun H1 locs1 a1 a2 => kk _ _ _ ⟨a1, a2, hl⟩)
    · cases h2
  | lastore =>
    cases xw_beq hlen
    obtain ⟨x, j, a, q, rfl, h2⟩ := xp_lir_v he
    split at h2
    · rename_i n hc
      obtain ⟨h3, h2⟩ := xw_c h2
      cases h2
      exact xa_last hx hb hK hat hS hc (xe_in_v h3) hd (fun H1 locs1 a1 a2 => kk _ _ _ ⟨a1, a2, hl⟩)
    · cases h2
  | aastore =>
    cases xw_beq hlen
    obtain ⟨x, j, a, q, rfl, h2⟩ := xp_rir_v he
    split at h2
    · rename_i n hc
      split at h2
      · rename_i hv
        obtain ⟨h3, h2⟩ := xw_c h2
        cases h2
        exact xa_astq hx hb hK hat hS hc hv (xe_in_v h3) hd (fun H1 locs1 a1 a2 => kk _ _ _ ⟨a1, a2, hl⟩)
      · cases h2
    · cases h2
  | arraylength =>
    cases xw_beq hlen
    obtain ⟨a, q, rfl, h2⟩ := xp_r_v he
    split at h2
    · rename_i k n hc
      obtain ⟨h3, h2⟩ := xw_c h2
      cases h2
      have h3 : k + 1 ≤ 5 := xw_ble h3
      have hws := xh_ws_at (ad := ad) (cy := cy) hc
      match k, h3, hws with
      | 0, _, hws => exact va_alen hx hb hK hat.1 a 0 hws rfl rfl hd (kk _ _ _ ⟨hat, hS, hl⟩)
      | 1, _, hws => exact va_alen hx hb hK hat.1 a 1 hws rfl rfl hd (kk _ _ _ ⟨hat, hS, hl⟩)
      | 2, _, hws => exact va_alen hx hb hK hat.1 a 2 hws rfl rfl hd (kk _ _ _ ⟨hat, hS, hl⟩)
      | 3, _, hws => exact va_alen hx hb hK hat.1 a 3 hws rfl rfl hd (kk _ _ _ ⟨hat, hS, hl⟩)
      | 4, _, hws => exact va_alen hx hb hK hat.1 a 4 hws rfl rfl hd (kk _ _ _ ⟨hat, hS, hl⟩)
      | k + 5, h3, _ => omega
    · cases h2
  | newarray t =>
    cases xw_beq hlen
    obtain ⟨z, q, rfl, h2⟩ := xp_i_v he
    obtain ⟨h3, h2⟩ := xw_c h2
    cases h2
    obtain ⟨h3, h4⟩ := xw_bb h3
    obtain ⟨h4, h5⟩ := xw_bb h4
    have h4 : xa_k t ≤ 5 := xw_ble h4
    have h5 := xw_ble h5
    have h3 : ¬ z < 0 := by simpa using h3
    have harr : (Cond.arrayClass (newarray.typeOf t)).before args s = true := by
      cases t with
      | int => exact hts _ xk_aI
      | byte => exact hts _ xk_aB
      | boolean => exact hts _ xk_aZ
      | long => exact hts _ xk_aJ
      | char => exact absurd h4 (by decide)
      | float => exact absurd h4 (by decide)
      | double => exact absurd h4 (by decide)
      | short => exact absurd h4 (by decide)
    exact xa_newa hx hb harr h4 hK hat hS hA h3 h5 hcap.1 hcap.2 hd (fun H1 a1 a2 => kk _ _ _ ⟨a1, a2, hl⟩)
  | anewarray idx =>
    cases xw_beq hlen
    obtain ⟨z, q, rfl, h2⟩ := xp_i_v he
    obtain ⟨h3, h2⟩ := xw_c h2
    cases h2
    obtain ⟨h3, h5⟩ := xw_bb h3
    have h5 := xw_ble h5
    have h3 : ¬ z < 0 := by simpa using h3
    exact xa_newq hx hb hown (hts _ (xw_in hw)) (va_AO.use hO.2.1) hK hat hS hA h3 h5 hcap.1 hcap.2 hd (fun H1 a1 a2 => kk _ _ _ ⟨a1, a2, hl⟩)
  | new idx =>
    cases xw_beq hlen
    cases he
    have hw : (match vwCl[ra]? with
      | some (C, _, _) => xw_b rK ri (.classLink own idx C)
      | none => false) = true := hw
    cases hv : vwCl[ra]? with
    | none => rw [hv] at hw; cases hw
    | some t =>
      obtain ⟨C, T, N⟩ := t
      rw [hv] at hw
      obtain ⟨k1, k2, k3, k4, k5, k6, k7⟩ := xk_ok ra C T N hv
      dsimp only at hcap
      rw [← k1] at hcap
      refine xa_new hx hb hts k2 k3 k5 hown (hts _ (xw_in hw)) (hts _ k6) (hts _ k7) hK hat hS hA hv k1 hcap.1 hcap.2 hd (fun H1 a1 a2 => ?_)
      have K := kk _ _ _ ⟨a1, a2, hl⟩
      dsimp only at K
      rw [← k1] at K
      exact K
  | _ => cases he
end XS
end
section
section XX
/-- a method: its owner's name, its name, its code, how many locals, what it returns, its kind (0 virtual, 1 static, 2 a constructor), how many arguments, its owner's row in vwCl -/
abbrev xm_M : Type := String × MethodName × ByteArray × Nat × Option FieldType × Nat × Nat × Nat
def xm_cat (vs : List Value) : Nat := (vs.map fun v => v.category).sum
/-- what is not of ours is read: the table of the factorials (1), the law's script (0) -/
def xe_o (scr : Option (Nat × (Nat → Int32))) (r : xr_R) (pc : Nat) (lv : List (Nat × Value)) (st : List Value) (h : xh_H) (c s : Nat) : Option xs_S := match r.1 with
  | .getstatic _ => some (pc + 3, lv, .float 1 :: st, h, c, s)
  | .laload => (match st with
    | .int i :: .float u :: q => cond (Nat.beq u.toNat 1 && xe_in i 13) (some (pc + 1, lv, .long (xo_f i.toNatClampNeg) :: q, h, c, s)) none
    | _ => none)
  | .iaload => (match st with
    | .int i :: .float u :: q => (match scr with
      | some (L, xs) => cond (Nat.beq u.toNat 0 && xe_in i L) (some (pc + 1, lv, .int (xs i.toNatClampNeg) :: q, h, c, s)) none
      | none => none)
    | _ => none)
  | .arraylength => (match st with
    | .float u :: q => (match scr with
      | some (L, _) => cond (Nat.beq u.toNat 0) (some (pc + 1, lv, .int (Int32.ofNat L) :: q, h, c, s)) none
      | none => none)
    | _ => none)
  | _ => none
/-- what a method returns -/
def xe_rv (i : Instr) (ret : Option FieldType) (st : List Value) : Option (Option Value) := match i with
  | .ireturn => (match st with
    | [.int x] => (match ret with
      | some .int => some (some (.int x))
      | some .boolean => cond (decide (x = 0) || decide (x = 1)) (some (some (.int x))) none
      | _ => none)
    | _ => none)
  | .lreturn => (match st with
    | [.long x] => (match ret with
      | some .long => some (some (.long x))
      | _ => none)
    | _ => none)
  | .areturn => (match st with
    | [.ref a] => (match ret with
      | some (.object _) => some (some (.ref a))
      | _ => none)
    | _ => none)
  | .return_ => (match st with
    | [] => (match ret with
      | none => some none
      | _ => none)
    | _ => none)
  | _ => none
def xe_isr (i : Instr) : Bool := match i with
  | .ireturn => true
  | .lreturn => true
  | .areturn => true
  | .return_ => true
  | _ => false
/-- a call's arguments, and what lies under them: behind each other the method, its arguments (the receiver first), the rest of the stack -/
def xe_cl (M : Nat → Option xm_M) (r : xr_R) (st : List Value) (h : xh_H) : Option (xm_M × List Value × List Value) := match M r.2.2.1 with
  | none => none
  | some mi => (match r.1 with
    | .invokestatic _ => cond (Nat.beq r.2.2.2.1 0 && (Nat.beq mi.2.2.2.2.2.1 1 && (Nat.beq (st.take mi.2.2.2.2.2.2.1).length mi.2.2.2.2.2.2.1 && (Nat.ble (xm_cat (st.drop mi.2.2.2.2.2.2.1)) 8 && Nat.ble (xm_cat (st.take mi.2.2.2.2.2.2.1).reverse) mi.2.2.2.1)))) (some (mi, (st.take mi.2.2.2.2.2.2.1).reverse, st.drop mi.2.2.2.2.2.2.1)) none
    | .invokevirtual _ => (match st.drop mi.2.2.2.2.2.2.1 with
      | .ref b :: q => (match h.1[b]? with
        | some (0, ci) => cond (Nat.beq ci mi.2.2.2.2.2.2.2 && (Nat.beq mi.2.2.2.2.2.1 0 && (Nat.beq (st.take mi.2.2.2.2.2.2.1).length mi.2.2.2.2.2.2.1 && (Nat.ble (xm_cat q) 8 && Nat.ble (xm_cat (.ref b :: (st.take mi.2.2.2.2.2.2.1).reverse)) mi.2.2.2.1)))) (some (mi, .ref b :: (st.take mi.2.2.2.2.2.2.1).reverse, q)) none
        | _ => none)
      | _ => none)
    | .invokespecial _ => (match st.drop mi.2.2.2.2.2.2.1 with
      | .ref b :: q => cond (Nat.beq r.2.2.2.1 0 && (Nat.beq mi.2.2.2.2.2.1 2 && (Nat.beq (st.take mi.2.2.2.2.2.2.1).length mi.2.2.2.2.2.2.1 && (Nat.ble (xm_cat q) 8 && Nat.ble (xm_cat (.ref b :: (st.take mi.2.2.2.2.2.2.1).reverse)) mi.2.2.2.1)))) (some (mi, .ref b :: (st.take mi.2.2.2.2.2.2.1).reverse, q)) none
      | _ => none)
    | _ => none)
def xe_oi (r : xr_R) (pc d : Nat) (lv : List (Nat × Value)) (st : List Value) (h : xh_H) (c s : Nat) : Option xs_S := match r.1 with
  | .invokespecial _ => (match r.2.2.2.1 with
    | 1 => (match d with
      | 0 => none
      | _ + 1 => (match st with
        | .ref _ :: q => cond (Nat.ble (xm_cat q) 8) (some (pc + 3, lv, q, h, c, s)) none
        | _ => none))
    | _ => none)
  | .invokestatic _ => (match r.2.2.2.1 with
    | 2 => (match d with
      | 0 => none
      | _ + 1 => (match st with
        | .int y :: .int x :: q => cond (Nat.ble (xm_cat q) 8) (some (pc + 3, lv, .int (if y < x then y else x) :: q, h, c, s)) none
        | _ => none))
    | _ => none)
  | _ => none
/-- one step that is no return and no call of ours -/
def xe_2 (scr : Option (Nat × (Nat → Int32))) (nL : Nat) (r : xr_R) (d pc : Nat) (lv : List (Nat × Value)) (st : List Value) (h : xh_H) (c s : Nat) : Option xs_S := match xe_1 nL r pc lv st h c s with
  | some o => some o
  | none => (match xe_o scr r pc lv st h c s with
    | some o => some o
    | none => xe_oi r pc d lv st h c s)
/-- A METHOD, RUN: what it returns, the heap behind it, the cells and slots made -/
def xe_x (M : Nat → Option xm_M) (Cd : Nat → Nat → Option xr_R) (scr : Option (Nat × (Nat → Int32))) : Nat → Nat → Nat → xm_M → xs_S → Option (Option Value × xh_H × Nat × Nat)
  | 0, _, _, _, _ => none
  | f + 1, d, mid, mi, (pc, lv, st, h, c, s) => (match Cd mid pc with
    | none => none
    | some r => cond (xe_isr r.1) ((xe_rv r.1 mi.2.2.2.2.1 st).map (fun v => (v, h, c, s)))
      (match xe_2 scr mi.2.2.2.1 r d pc lv st h c s with
      | some o => xe_x M Cd scr f d mid mi o
      | none => (match d with
        | 0 => none
        | d' + 1 => (match xe_cl M r st h with
          | none => none
          | some (mj, As, q) => (match xe_x M Cd none f d' r.2.2.1 mj (0, lv_args 0 As, [], h, 0, 0) with
            | none => none
            | some (v, h', mc, ms) => xe_x M Cd scr f (d' + 1) mid mi (pc + 3, lv, v.toList ++ q, h', c + mc, s + ms))))))
end XX
end
section
section XM
set_option maxHeartbeats 4000000 in
set_option maxRecDepth 100000 in
theorem xe_1_mono {nL : Nat} {r : xr_R} {pc : Nat} {lv : List (Nat × Value)} {st : List Value} {h : xh_H} {c s : Nat} {pc' : Nat} {lv' : List (Nat × Value)} {st' : List Value} {h' : xh_H} {c' s' : Nat} (he : xe_1 nL r pc lv st h c s = some (pc', lv', st', h', c', s')) : c ≤ c' ∧ s ≤ s' := by
  obtain ⟨i, len, ra, rb, rK, ri⟩ := r
  cases i with
  | iconst _ => cases he; exact ⟨Nat.le_refl _, Nat.le_refl _⟩
  | bipush _ => cases he; exact ⟨Nat.le_refl _, Nat.le_refl _⟩
  | sipush _ => cases he; exact ⟨Nat.le_refl _, Nat.le_refl _⟩
  | lconst _ => cases he; exact ⟨Nat.le_refl _, Nat.le_refl _⟩
  | ldc_w _ => cases he; exact ⟨Nat.le_refl _, Nat.le_refl _⟩
  | ldc2_w _ => cases he; exact ⟨Nat.le_refl _, Nat.le_refl _⟩
  | goto _ => cases he; exact ⟨Nat.le_refl _, Nat.le_refl _⟩
  | ldc _ => cases rb <;> (cases he; exact ⟨Nat.le_refl _, Nat.le_refl _⟩)
  | iload_n _ => obtain ⟨v, _, _, h3⟩ := xs_ld he; cases h3; exact ⟨Nat.le_refl _, Nat.le_refl _⟩
  | iload _ => obtain ⟨v, _, _, h3⟩ := xs_ld he; cases h3; exact ⟨Nat.le_refl _, Nat.le_refl _⟩
  | lload_n _ => obtain ⟨v, _, _, h3⟩ := xs_ld he; cases h3; exact ⟨Nat.le_refl _, Nat.le_refl _⟩
  | lload _ => obtain ⟨v, _, _, h3⟩ := xs_ld he; cases h3; exact ⟨Nat.le_refl _, Nat.le_refl _⟩
  | aload_n _ => obtain ⟨v, _, _, h3⟩ := xs_ld he; cases h3; exact ⟨Nat.le_refl _, Nat.le_refl _⟩
  | aload _ => obtain ⟨v, _, _, h3⟩ := xs_ld he; cases h3; exact ⟨Nat.le_refl _, Nat.le_refl _⟩
  | istore_n _ => obtain ⟨v, q, _, _, _, h3⟩ := xs_st1 he; cases h3; exact ⟨Nat.le_refl _, Nat.le_refl _⟩
  | istore _ => obtain ⟨v, q, _, _, _, h3⟩ := xs_st1 he; cases h3; exact ⟨Nat.le_refl _, Nat.le_refl _⟩
  | astore_n _ => obtain ⟨v, q, _, _, _, h3⟩ := xs_st1 he; cases h3; exact ⟨Nat.le_refl _, Nat.le_refl _⟩
  | astore _ => obtain ⟨v, q, _, _, _, h3⟩ := xs_st1 he; cases h3; exact ⟨Nat.le_refl _, Nat.le_refl _⟩
  | lstore_n _ => obtain ⟨v, q, _, _, _, h3⟩ := xs_st2 he; cases h3; exact ⟨Nat.le_refl _, Nat.le_refl _⟩
  | lstore _ => obtain ⟨v, q, _, _, _, h3⟩ := xs_st2 he; cases h3; exact ⟨Nat.le_refl _, Nat.le_refl _⟩
  | iadd => obtain ⟨y, x, q, _, h2⟩ := xp_ii_v he; cases h2; exact ⟨Nat.le_refl _, Nat.le_refl _⟩
  | isub => obtain ⟨y, x, q, _, h2⟩ := xp_ii_v he; cases h2; exact ⟨Nat.le_refl _, Nat.le_refl _⟩
  | imul => obtain ⟨y, x, q, _, h2⟩ := xp_ii_v he; cases h2; exact ⟨Nat.le_refl _, Nat.le_refl _⟩
  | iand => obtain ⟨y, x, q, _, h2⟩ := xp_ii_v he; cases h2; exact ⟨Nat.le_refl _, Nat.le_refl _⟩
  | ior => obtain ⟨y, x, q, _, h2⟩ := xp_ii_v he; cases h2; exact ⟨Nat.le_refl _, Nat.le_refl _⟩
  | ixor => obtain ⟨y, x, q, _, h2⟩ := xp_ii_v he; cases h2; exact ⟨Nat.le_refl _, Nat.le_refl _⟩
  | ishl => obtain ⟨y, x, q, _, h2⟩ := xp_ii_v he; cases h2; exact ⟨Nat.le_refl _, Nat.le_refl _⟩
  | ishr => obtain ⟨y, x, q, _, h2⟩ := xp_ii_v he; cases h2; exact ⟨Nat.le_refl _, Nat.le_refl _⟩
  | iushr => obtain ⟨y, x, q, _, h2⟩ := xp_ii_v he; cases h2; exact ⟨Nat.le_refl _, Nat.le_refl _⟩
  | if_icmp k _ =>
    obtain ⟨y, x, q, _, h2⟩ := xp_ii_v he
    cases hb : xe_c k x y with
    | true => rw [hb] at h2; cases h2; exact ⟨Nat.le_refl _, Nat.le_refl _⟩
    | false => rw [hb] at h2; cases h2; exact ⟨Nat.le_refl _, Nat.le_refl _⟩
  | irem => obtain ⟨y, x, q, _, h2⟩ := xp_ii_v he; obtain ⟨_, h3⟩ := xw_c0 h2; cases h3; exact ⟨Nat.le_refl _, Nat.le_refl _⟩
  | ladd => obtain ⟨y, x, q, _, h2⟩ := xp_ll_v he; cases h2; exact ⟨Nat.le_refl _, Nat.le_refl _⟩
  | lsub => obtain ⟨y, x, q, _, h2⟩ := xp_ll_v he; cases h2; exact ⟨Nat.le_refl _, Nat.le_refl _⟩
  | lmul => obtain ⟨y, x, q, _, h2⟩ := xp_ll_v he; cases h2; exact ⟨Nat.le_refl _, Nat.le_refl _⟩
  | land => obtain ⟨y, x, q, _, h2⟩ := xp_ll_v he; cases h2; exact ⟨Nat.le_refl _, Nat.le_refl _⟩
  | lor => obtain ⟨y, x, q, _, h2⟩ := xp_ll_v he; cases h2; exact ⟨Nat.le_refl _, Nat.le_refl _⟩
  | lcmp => obtain ⟨y, x, q, _, h2⟩ := xp_ll_v he; cases h2; exact ⟨Nat.le_refl _, Nat.le_refl _⟩
  | ldiv => obtain ⟨y, x, q, _, h2⟩ := xp_ll_v he; obtain ⟨_, h3⟩ := xw_c0 h2; cases h3; exact ⟨Nat.le_refl _, Nat.le_refl _⟩
  | lrem => obtain ⟨y, x, q, _, h2⟩ := xp_ll_v he; obtain ⟨_, h3⟩ := xw_c0 h2; cases h3; exact ⟨Nat.le_refl _, Nat.le_refl _⟩
  | lushr => obtain ⟨y, x, q, _, h2⟩ := xp_il_v he; cases h2; exact ⟨Nat.le_refl _, Nat.le_refl _⟩
  | lshl => obtain ⟨y, x, q, _, h2⟩ := xp_il_v he; cases h2; exact ⟨Nat.le_refl _, Nat.le_refl _⟩
  | i2l => obtain ⟨x, q, _, h2⟩ := xp_i_v he; cases h2; exact ⟨Nat.le_refl _, Nat.le_refl _⟩
  | i2b => obtain ⟨x, q, _, h2⟩ := xp_i_v he; cases h2; exact ⟨Nat.le_refl _, Nat.le_refl _⟩
  | i2c => obtain ⟨x, q, _, h2⟩ := xp_i_v he; cases h2; exact ⟨Nat.le_refl _, Nat.le_refl _⟩
  | ifCond k _ =>
    obtain ⟨x, q, _, h2⟩ := xp_i_v he
    cases hb : xe_c k x 0 with
    | true => rw [hb] at h2; cases h2; exact ⟨Nat.le_refl _, Nat.le_refl _⟩
    | false => rw [hb] at h2; cases h2; exact ⟨Nat.le_refl _, Nat.le_refl _⟩
  | l2i => obtain ⟨x, q, _, h2⟩ := xp_l_v he; cases h2; exact ⟨Nat.le_refl _, Nat.le_refl _⟩
  | newarray _ => obtain ⟨x, q, _, h2⟩ := xp_i_v he; obtain ⟨_, h3⟩ := xw_c h2; cases h3; exact ⟨Nat.le_add_right _ _, Nat.le_add_right _ _⟩
  | anewarray _ => obtain ⟨x, q, _, h2⟩ := xp_i_v he; obtain ⟨_, h3⟩ := xw_c h2; cases h3; exact ⟨Nat.le_add_right _ _, Nat.le_add_right _ _⟩
  | new _ => cases he; exact ⟨Nat.le_add_right _ _, Nat.le_add_right _ _⟩
  | dup =>
    match st, he with
    | a :: q, he => obtain ⟨_, h3⟩ := xw_c he; cases h3; exact ⟨Nat.le_refl _, Nat.le_refl _⟩
  | pop =>
    match st, he with
    | a :: q, he => obtain ⟨_, h3⟩ := xw_c he; cases h3; exact ⟨Nat.le_refl _, Nat.le_refl _⟩
  | dup2 =>
    match st, he with
    | a :: b :: q, he => obtain ⟨_, h3⟩ := xw_c he; cases h3; exact ⟨Nat.le_refl _, Nat.le_refl _⟩
  | dup_x2 =>
    match st, he with
    | a :: b :: d :: q, he => obtain ⟨_, h3⟩ := xw_c he; cases h3; exact ⟨Nat.le_refl _, Nat.le_refl _⟩
  | iinc k n =>
    have he : (match xl_get lv k with
      | some (.int x) => cond (Nat.ble (k + 1) nL) (some (pc + 3, xl_1 lv k (.int (x + Int32.ofInt n)), st, h, c, s)) none
      | _ => none) = some (pc', lv', st', h', c', s') := he
    split at he
    · obtain ⟨_, h3⟩ := xw_c he; cases h3; exact ⟨Nat.le_refl _, Nat.le_refl _⟩
    · cases he
  | ifnull _ =>
    match st, he with
    | .ref _ :: q, he => cases he; exact ⟨Nat.le_refl _, Nat.le_refl _⟩
  | if_acmp k _ =>
    cases k with
    | eq => cases he
    | ne =>
      match st, he with
      | .ref y :: .ref x :: q, he =>
        obtain ⟨_, h3⟩ := xw_c he
        cases hb : Nat.beq x y with
        | true => rw [hb] at h3; cases h3; exact ⟨Nat.le_refl _, Nat.le_refl _⟩
        | false => rw [hb] at h3; cases h3; exact ⟨Nat.le_refl _, Nat.le_refl _⟩
  | getfield _ =>
    obtain ⟨a, q, _, h2⟩ := xp_r_v he
    try dsimp only at h2
    split at h2
    · obtain ⟨_, h3⟩ := xw_c h2; cases h3; exact ⟨Nat.le_refl _, Nat.le_refl _⟩
    · cases h2
  | putfield _ =>
    obtain ⟨v, a, q, _, h2⟩ := xp_vr_v he
    try dsimp only at h2
    split at h2
    · obtain ⟨_, h3⟩ := xw_c h2
      obtain ⟨_, _, h4⟩ := Option.map_eq_some_iff.mp h3
      cases h4; exact ⟨Nat.le_refl _, Nat.le_refl _⟩
    · cases h2
  | iaload =>
    obtain ⟨i, a, q, _, h2⟩ := xp_ir_v he
    try dsimp only at h2
    split at h2
    · obtain ⟨_, h3⟩ := xw_c h2; cases h3; exact ⟨Nat.le_refl _, Nat.le_refl _⟩
    · cases h2
  | baload =>
    obtain ⟨i, a, q, _, h2⟩ := xp_ir_v he
    try dsimp only at h2
    split at h2
    · obtain ⟨_, h3⟩ := xw_c h2; cases h3; exact ⟨Nat.le_refl _, Nat.le_refl _⟩
    · obtain ⟨_, h3⟩ := xw_c h2; cases h3; exact ⟨Nat.le_refl _, Nat.le_refl _⟩
    · cases h2
  | laload =>
    obtain ⟨i, a, q, _, h2⟩ := xp_ir_v he
    try dsimp only at h2
    split at h2
    · obtain ⟨_, h3⟩ := xw_c h2; cases h3; exact ⟨Nat.le_refl _, Nat.le_refl _⟩
    · cases h2
  | aaload =>
    obtain ⟨i, a, q, _, h2⟩ := xp_ir_v he
    try dsimp only at h2
    split at h2
    · obtain ⟨_, h3⟩ := xw_c h2; cases h3; exact ⟨Nat.le_refl _, Nat.le_refl _⟩
    · cases h2
  | iastore =>
    obtain ⟨x, i, a, q, _, h2⟩ := xp_iir_v he
    try dsimp only at h2
    split at h2
    · obtain ⟨_, h3⟩ := xw_c h2; cases h3; exact ⟨Nat.le_refl _, Nat.le_refl _⟩
    · cases h2
  | bastore =>
    obtain ⟨x, i, a, q, _, h2⟩ := xp_iir_v he
    try dsimp only at h2
    split at h2
    · obtain ⟨_, h3⟩ := xw_c h2; cases h3; exact ⟨Nat.le_refl _, Nat.le_refl _⟩
    · obtain ⟨_, h3⟩ := xw_c h2; cases h3; exact ⟨Nat.le_refl _, Nat.le_refl _⟩
    · cases h2
  | lastore =>
    obtain ⟨x, i, a, q, _, h2⟩ := xp_lir_v he
    try dsimp only at h2
    split at h2
    · obtain ⟨_, h3⟩ := xw_c h2; cases h3; exact ⟨Nat.le_refl _, Nat.le_refl _⟩
    · cases h2
  | aastore =>
    obtain ⟨x, i, a, q, _, h2⟩ := xp_rir_v he
    try dsimp only at h2
    split at h2
    · split at h2
      · obtain ⟨_, h3⟩ := xw_c h2; cases h3; exact ⟨Nat.le_refl _, Nat.le_refl _⟩
      · cases h2
    · cases h2
  | arraylength =>
    obtain ⟨a, q, _, h2⟩ := xp_r_v he
    try dsimp only at h2
    split at h2
    · obtain ⟨_, h3⟩ := xw_c h2; cases h3; exact ⟨Nat.le_refl _, Nat.le_refl _⟩
    · cases h2
  | tableswitch dflt lo hi offs =>
    obtain ⟨x, q, _, h2⟩ := xp_i_v he
    cases hb : (decide (x.toInt < lo) || decide (hi < x.toInt)) with
    | true =>
      rw [hb] at h2
      obtain ⟨_, h3⟩ := xw_c h2
      cases h3; exact ⟨Nat.le_refl _, Nat.le_refl _⟩
    | false =>
      rw [hb] at h2
      cases ho : offs[(x.toInt - lo).toNat]? with
      | none => rw [ho] at h2; cases h2
      | some off =>
        rw [ho] at h2
        obtain ⟨_, h3⟩ := xw_c h2
        cases h3; exact ⟨Nat.le_refl _, Nat.le_refl _⟩
  | _ => cases he
end XM
end
section
section XRUN
theorem xe_2_mono {scr : Option (Nat × (Nat → Int32))} {nL : Nat} {r : xr_R} {d pc : Nat} {lv : List (Nat × Value)} {st : List Value} {h : xh_H} {c s : Nat} {pc' : Nat} {lv' : List (Nat × Value)} {st' : List Value} {h' : xh_H} {c' s' : Nat} (he : xe_2 scr nL r d pc lv st h c s = some (pc', lv', st', h', c', s')) : c ≤ c' ∧ s ≤ s' := by
  unfold xe_2 at he
  split at he
  · rename_i o h1
    cases he
    exact xe_1_mono h1
  · split at he
    · rename_i o h1
      cases he
      unfold xe_o at h1
      repeat' split at h1
      all_goals first
        | (cases h1; done)
        | (cases h1; exact ⟨Nat.le_refl _, Nat.le_refl _⟩)
        | (obtain ⟨_, h3⟩ := xw_c h1; cases h3; exact ⟨Nat.le_refl _, Nat.le_refl _⟩)
    · unfold xe_oi at he
      repeat' split at he
      all_goals first
        | (cases he; done)
        | (cases he; exact ⟨Nat.le_refl _, Nat.le_refl _⟩)
        | (obtain ⟨_, h3⟩ := xw_c he; cases h3; exact ⟨Nat.le_refl _, Nat.le_refl _⟩)
theorem xe_x_mono {M : Nat → Option xm_M} {Cd : Nat → Nat → Option xr_R} : ∀ (f : Nat) (scr : Option (Nat × (Nat → Int32))) (d mid : Nat) (mi : xm_M) (pc : Nat) (lv : List (Nat × Value)) (st : List Value) (h : xh_H) (c s : Nat) (v : Option Value) (h' : xh_H) (c' s' : Nat), xe_x M Cd scr f d mid mi (pc, lv, st, h, c, s) = some (v, h', c', s') → c ≤ c' ∧ s ≤ s' := by
  intro f
  induction f with
  | zero => intro scr d mid mi pc lv st h c s v h' c' s' he; cases he
  | succ f ih =>
    intro scr d mid mi pc lv st h c s v h' c' s' he
    unfold xe_x at he
    split at he
    · cases he
    · rename_i r hr
      cases hi : xe_isr r.1 with
      | true =>
        rw [hi] at he
        obtain ⟨v1, _, h2⟩ := Option.map_eq_some_iff.mp (show Option.map _ _ = _ from he)
        cases h2
        exact ⟨Nat.le_refl _, Nat.le_refl _⟩
      | false =>
        rw [hi] at he
        simp only [cond_false] at he
        split at he
        · rename_i o ho
          obtain ⟨pc1, lv1, st1, h1, c1, s1⟩ := o
          have a := xe_2_mono ho
          have b := ih _ _ _ _ _ _ _ _ _ _ _ _ _ _ he
          exact ⟨Nat.le_trans a.1 b.1, Nat.le_trans a.2 b.2⟩
        · split at he
          · cases he
          · split at he
            · cases he
            · split at he
              · cases he
              · have b := ih _ _ _ _ _ _ _ _ _ _ _ _ _ _ he
                exact ⟨Nat.le_trans (Nat.le_add_right _ _) b.1, Nat.le_trans (Nat.le_add_right _ _) b.2⟩
end XRUN
end
section
section XOK
def xm_ini (mi : xm_M) : Bool := Nat.beq mi.2.2.2.2.2.1 2
def xm_ok (mi : xm_M) : Prop :=
  Cond.code mi.2.1 mi.2.2.1 mi.2.2.2.1 mi.2.2.2.2.1 ∈ xG ∧ Cond.initialized mi.2.1.cls ∈ xG ∧ mi.1 = mi.2.1.cls ∧ _root_.Jvm.plainName mi.2.1.cls = true ∧ (mi.2.1.cls ≠ "java/lang/invoke/MethodHandle" ∧ mi.2.1.cls ≠ "java/lang/invoke/VarHandle" ∧ (parseMethodDescriptor mi.2.1.desc).map (fun d => d.parameters.length) = some mi.2.2.2.2.2.2.1) ∧ mi.2.2.2.1 ≤ 20 ∧
  (mi.2.2.2.2.2.1 = 0 → Cond.instanceMethod mi.2.1 ∈ xG ∧ Cond.selects mi.2.1.cls mi.2.1 mi.2.1 ∈ xG ∧ ∃ T N, vwCl[mi.2.2.2.2.2.2.2]? = some (mi.2.1.cls, T, N)) ∧ (mi.2.2.2.2.2.1 = 1 → Cond.static mi.2.1 ∈ xG) ∧ (mi.2.2.2.2.2.1 = 2 → Cond.instanceMethod mi.2.1 ∈ xG ∧ mi.2.1.name = "<init>" ∧ mi.2.2.2.2.1 = none)
def xr_c (M : Nat → Option xm_M) (own : String) (r : xr_R) : Bool := match r.1 with
  | .invokevirtual idx => (match M r.2.2.1 with
    | some mj => xw_b r.2.2.2.2.1 r.2.2.2.2.2 (.methodLink own idx mj.2.1)
    | none => false)
  | .invokestatic idx => (match r.2.2.2.1 with
    | 2 => xw_b r.2.2.2.2.1 r.2.2.2.2.2 (.methodLink own idx Lib.Math.min.name)
    | _ => (match M r.2.2.1 with
      | some mj => xw_b r.2.2.2.2.1 r.2.2.2.2.2 (.methodLink own idx mj.2.1)
      | none => false))
  | .invokespecial idx => (match r.2.2.2.1 with
    | 1 => xw_b r.2.2.2.2.1 r.2.2.2.2.2 (.methodLink own idx objectInit)
    | _ => (match M r.2.2.1 with
      | some mj => xw_b r.2.2.2.2.1 r.2.2.2.2.2 (.methodLink own idx mj.2.1)
      | none => false))
  | .getstatic idx => xw_b r.2.2.2.2.1 r.2.2.2.2.2 (.fieldLink own idx RX2 "FACTORIALS" "[J")
  | _ => true
/-- the program's tables hold -/
def xP_ok (M : Nat → Option xm_M) (Cd : Nat → Nat → Option xr_R) : Prop :=
  (∀ (mid : Nat) (mi : xm_M), M mid = some mi → (mi.2.2.2.2.2.1 ≠ 3 → xm_ok mi) ∧ ∀ (pc : Nat) (r : xr_R), Cd mid pc = some r → xr_b mi.1 (xm_ini mi) mi.2.2.1 pc r = true ∧ xr_c M mi.1 r = true) ∧ (Cond.instanceMethod objectInit ∈ xG ∧ Cond.code objectInit ⟨#[0xb1]⟩ 1 none ∈ xG) ∧ Cond.static Lib.Math.min.name ∈ xG ∧ Cond.initialized "java/lang/Math" ∈ xG ∧ Cond.code Lib.Math.min.name Lib.Math.min.code 2 (some .int) ∈ xG
theorem xG_good {w : Cond} (h : w ∈ xG) : w ∈ xG ∧ ((w.onTables && w.keeps) = true ∨ ∃ ty, w = .arrayClass ty) := ⟨h, good_of_word (List.mem_filter.mp h).2⟩
theorem xG_in {mi : xm_M} (h : xm_ok mi) : GoodIn xG (Cond.code mi.2.1 mi.2.2.1 mi.2.2.2.1 mi.2.2.2.2.1 :: xG) := fun w hw => by
  rcases List.mem_cons.mp hw with rfl | hw
  · exact xG_good h.1
  · exact xG_good hw
def xm_rm (d mc ms : Nat) : Room := { frames := d, cells := mc, slots := ms, locals := 40 * d }
/-- a call's start and end, in our words -/
def xq_P (D : va_G) (cy : Nat → ClassId) (ad sp : Nat → Nat) (h : xh_H) (sz : Nat) (U : State) : Prop :=
  U.heap.size = sz ∧ xh_at D cy ad (fun _ => True) h U.heap ∧ va_K D vwCl (xh_ts cy) U ∧ xo_ok sp (va_A (xh_ws ad cy h) sz) U U.heap
def xq_Q (D : va_G) (cy : Nat → ClassId) (ad sp : Nat → Nat) (v : Option Value) (h1 : xh_H) (A1 : Nat → Prop) : Array Value → State → Outcome → State → Prop := fun _ st oc t => oc = .returned (v.map (xh_v ad sp)) ∧ xh_at D cy ad A1 h1 t.heap ∧ va_F A1 st t
def xq_M (l : Launch) (D : va_G) (cy : Nat → ClassId) (ad sp : Nat → Nat) (mi : xm_M) (As : List Value) (h : xh_H) (sz d : Nat) (v : Option Value) (h1 : xh_H) (mc ms : Nat) : Prop :=
  Met l mi.2.1 (Cond.code mi.2.1 mi.2.2.1 mi.2.2.2.1 mi.2.2.2.2.1 :: xG) (xm_rm d mc ms) (va_Pc (As.map (xh_v ad sp)) (xq_P D cy ad sp h sz)) (xq_Q D cy ad sp v h1 (va_A (xh_ws ad cy h) sz)) mc ms (va_A (xh_ws ad cy h) sz)
theorem xh_at.weaken {D : va_G} {cy : Nat → ClassId} {ad : Nat → Nat} {A B : Nat → Prop} {h : xh_H} {H : Heap} (hat : xh_at D cy ad A h H) (hAB : ∀ q, A q → B q) : xh_at D cy ad B h H := ⟨hat.1, hat.2.1.weaken (fun _ q _ hq => hAB q.1 hq), hat.2.2⟩
variable {p : Program} {l : Launch} {e : Env} {R : Room} {s : State} {m : MethodId} {args : Array Value} {below : List Frame} {meth : Method} {c : Code} {H : Heap} {locs : List Loc} {cells slots : Nat} {Q : State → Prop}
variable {cc : ByteArray} {pc : Nat} {ls : Array Slot} {rest st0 : List Value} {D : va_G} {A A1 : Nat → Prop} {ad sp : Nat → Nat} {cy : Nat → ClassId} {nL mc ms : Nat} {own : String} {ini : Bool} {a : Array Value}
theorem xa_call {v : Option Value} {h1 : xh_H} (hr : va_Run p l e R s m args below meth c H locs cells slots mc ms (F0 m pc ls st0) rest (xq_Q D cy ad sp v h1 A1 a) A1) (hS : va_S A s.heap H locs) (hF : ∀ q, A1 q → A q)
    (kk : ∀ (H1 : Heap) (locs1 : List Loc), xh_at D cy ad A h1 H1 → va_S A s.heap H1 locs1 → W p l e R s m args below meth c H1 locs1 (cells + mc) (slots + ms) Q (F0 m (pc + 3) ls ((v.map (xh_v ad sp)).toList ++ rest))) : W p l e R s m args below meth c H locs cells slots Q (F0 m pc ls st0) := by
  intro T hT X
  obtain ⟨w, st₀, t, T', L, h0, X', hL, e1, e2, ⟨hv, hat, hz, hk⟩, st⟩ := hr T hT X
  cases hv
  rw [h0] at hz hk
  obtain ⟨t2, a1, b1⟩ := kk T'.heap (locs ++ L) (by rw [e1]; exact hat.weaken hF)
    ⟨Nat.le_trans hS.1 (by rw [e1]; exact hz), fun q h1 h2 => by rw [e1, hk q (Nat.lt_of_lt_of_le h1 hS.1) (fun z => h2 (hF q z))]; exact hS.2.1 q h1 h2, fun q hq => by
      rcases List.mem_append.mp hq with h | h
      · exact hS.2.2 q h
      · exact hF _ (hL q h)⟩ T' rfl X'
  exact ⟨t2, st t2 a1, b1⟩
theorem xq_free {h : xh_H} {H0 : Heap} (hat : xh_at D cy ad A h H) (hS : va_S A H0 H locs) (hA : ∀ q, H0.size ≤ q → A q) : ∀ q, va_A (xh_ws ad cy h) H.size q → A q := by
  intro q hq
  rcases hq with ⟨k, x, hk⟩ | hq
  · exact hat.2.1.2 k (q, x) hk
  · exact hA q (Nat.le_trans hS.1 hq)
theorem xq_blind (vs : List Value) (h : xh_H) (sz : Nat) : FrameBlind (va_Pc vs (xq_P D cy ad sp h sz)) := by
  intro a U g mk hp
  obtain ⟨h0, h1, h2, h3, h4⟩ := hp
  exact ⟨h0, h1, h2, va_K.moved (u := U) (U := U.calling g mk a) (Vm.Alike.refl U.vm) h3, xo_ok.same (s := U) (U := U.calling g mk a) rfl h4⟩
theorem xq_pre {h : xh_H} {vs : List Value} (X : xc_X p s m args meth c cc nL own ini D cy A sp) (hat : xh_at D cy ad A h H) (hS : va_S A s.heap H locs) : ∀ U : State, U.heap = H → s.WarmedH U.vm → va_Pc vs (xq_P D cy ad sp h H.size) vs.toArray U := by
  obtain ⟨hx, hb, hml, hown, hts, hK, hA, hO, hini⟩ := X
  intro U hU hW
  refine ⟨rfl, by rw [hU], by rw [hU]; exact hat.weaken (fun _ _ => trivial), va_K.moved hW.alike hK, ?_⟩
  rw [hU]
  exact ((hO.kept hS.2.1).narrow (xq_free hat hS hA)).warm hW
theorem lv_args_m (vs : List Value) : ∀ i : Nat, lv_args i (vs.map (xh_v ad sp)) = xl_m ad sp (lv_args i vs) := by
  induction vs with
  | nil => intro i; rfl
  | cons v t ih =>
    intro i
    show (i, xh_v ad sp v) :: lv_args _ (t.map (xh_v ad sp)) = (i, xh_v ad sp v) :: xl_m ad sp (lv_args _ t)
    rw [ih, xh_v_cat]
theorem lg_sl_len (vs : List Value) : (lg_sl vs).length = xm_cat vs := by
  induction vs with
  | nil => rfl
  | cons v t ih =>
    have : lg_sl (v :: t) = (if v.category = 2 then [Slot.val v, .second] else [.val v]) ++ lg_sl t := by simp [lg_sl]
    rw [this, List.length_append, ih]
    have : xm_cat (v :: t) = v.category + xm_cat t := by simp [xm_cat]
    rw [this]
    rcases lv_cat v with h | h <;> simp [h]
theorem xm_cat_m (vs : List Value) : xm_cat (vs.map (xh_v ad sp)) = xm_cat vs := by
  simp [xm_cat, List.map_map, Function.comp_def, xh_v_cat]
/-- a run, on the machine: up to its return -/
def xS_ok (M : Nat → Option xm_M) (Cd : Nat → Nat → Option xr_R) (f : Nat) : Prop := ∀ (p : Program) (l : Launch) (e : Env) (R : Room) (s : State) (m : MethodId) (args : Array Value) (below : List Frame) (meth : Method) (c : Code) (H : Heap) (locs : List Loc) (Q : State → Prop) (ls : Array Slot) (D : va_G) (A : Nat → Prop) (ad sp : Nat → Nat) (cy : Nat → ClassId)
    (scr : Option (Nat × (Nat → Int32))) (d mid : Nat) (mi : xm_M) (pc : Nat) (lv : List (Nat × Value)) (st : List Value) (h : xh_H) (cells slots : Nat) (v : Option Value) (h' : xh_H) (c' s' : Nat),
    xe_x M Cd scr f d mid mi (pc, lv, st, h, cells, slots) = some (v, h', c', s') → M mid = some mi → xc_X p s m args meth c mi.2.2.1 mi.2.2.2.1 mi.1 (xm_ini mi) D cy A sp → (d ≤ R.frames ∧ 40 * d ≤ R.locals ∧ c' ≤ R.cells ∧ s' ≤ R.slots) → (∀ L xs, scr = some (L, xs) → va_X (sp 0) L xs s s.heap ∧ sp 0 < s.heap.size ∧ ¬ A (sp 0)) → xc_S D cy ad sp A s mi.2.2.2.1 h lv H locs ls →
    (∀ (H1 : Heap) (locs1 : List Loc) (ls1 : Array Slot) (lv1 : List (Nat × Value)) (pc1 : Nat) (ri : Instr) (st1 : List Value), xc_S D cy ad sp A s mi.2.2.2.1 h' lv1 H1 locs1 ls1 → decode mi.2.2.1 pc1 = .ok (ri, 1) → xe_rv ri mi.2.2.2.2.1 st1 = some v → W p l e R s m args below meth c H1 locs1 c' s' Q (F0 m pc1 ls1 (st1.map (xh_v ad sp)))) →
    W p l e R s m args below meth c H locs cells slots Q (F0 m pc ls (st.map (xh_v ad sp)))
/-- a method's end -/
theorem xe_rv_ok {ri : Instr} {ret : Option FieldType} {st1 : List Value} {v : Option Value} {h' : xh_H} {lv1 : List (Nat × Value)} (hrv : xe_rv ri ret st1 = some v) (hx : p.tables.exec = Jvm.exec) (hb : c.code = cc) (hr : meth.sig.returnType = ret) (hlocks : meth.locks = false) (S : xc_S D cy ad sp A s nL h' lv1 H locs ls) (hd : decode cc pc = .ok (ri, 1)) :
    W p l e R s m args below meth c H locs cells slots (MQ below (xq_Q D cy ad sp v h' A) args s cells slots A) (F0 m pc ls (st1.map (xh_v ad sp))) := by
  obtain ⟨hat, hS, hl⟩ := S
  unfold xe_rv at hrv
  split at hrv
  · split at hrv
    · rename_i x
      split at hrv
      · cases hrv
        exact W.iret hx hb hr (fun t ht hW => ⟨rfl, by rw [ht]; exact hat, hS.F ht⟩) hS.2.2 hd hlocks
      · obtain ⟨h1, h2⟩ := xw_c hrv
        cases h2
        have h1 : x = 0 ∨ x = 1 := by simpa using h1
        refine W.zret (ty := .boolean) hx hb hr ?_ (fun t ht hW => ⟨rfl, by rw [ht]; exact hat, hS.F ht⟩) hS.2.2 hd hlocks
        rcases h1 with rfl | rfl <;> rfl
      · cases hrv
    · cases hrv
  · split at hrv
    · split at hrv
      · cases hrv
        exact W.lret hx hb hr (fun t ht hW => ⟨rfl, by rw [ht]; exact hat, hS.F ht⟩) hS.2.2 hd hlocks
      · cases hrv
    · cases hrv
  · split at hrv
    · split at hrv
      · cases hrv
        exact W.aret hx hb hr (Or.inl ⟨_, rfl⟩) (Or.inr ⟨_, rfl⟩) (fun t ht hW => ⟨rfl, by rw [ht]; exact hat, hS.F ht⟩) hS.2.2 hd hlocks
      · cases hrv
    · cases hrv
  · split at hrv
    · split at hrv
      · cases hrv
        exact W.vret hx hb hr (fun t ht hW => ⟨rfl, by rw [ht]; exact hat, hS.F ht⟩) hS.2.2 hd hlocks
      · cases hrv
    · cases hrv
  · cases hrv
/-- a run gives a contract -/
theorem xe_met {M : Nat → Option xm_M} {Cd : Nat → Nat → Option xr_R} {f : Nat} (hP : xP_ok M Cd) (hf : xS_ok M Cd f) {d mid : Nat} {mi : xm_M} {As : List Value} {h : xh_H} {v : Option Value} {h' : xh_H} {mc ms : Nat} (he : xe_x M Cd none f d mid mi (0, lv_args 0 As, [], h, 0, 0) = some (v, h', mc, ms)) (hm : M mid = some mi) (hok : xm_ok mi) (hfit : xm_cat As ≤ mi.2.2.2.1) (l : Launch) (sz : Nat) : xq_M l D cy ad sp mi As h sz d v h' mc ms := by
  refine Met.ofW (cc := mi.2.2.1) (maxL := mi.2.2.2.1) (ret := mi.2.2.2.2.1) hok.2.2.2.1 rfl ?_
  intro p e s m args below meth c s₁ B hml hv
  obtain ⟨rfl, hsz, hat, hK, hO⟩ := hv
  have hts := atoms_spec (ws := Cond.code mi.2.1 mi.2.2.1 mi.2.2.2.1 mi.2.2.2.2.1 :: xG) B.pre
  have hown : s.vm.findClass mi.1 = some m.cls := by rw [hok.2.2.1]; exact findClass_of_methodNamed B.named
  have hin : xm_ini mi = true → meth.name = "<init>" := fun z => by rw [(name_of_methodNamed B.named B.method).1]; exact (hok.2.2.2.2.2.2.2.2 (xw_beq z)).2.1
  have hl := lv_entry (As.map (xh_v ad sp)) (n := mi.2.2.2.1) (by rw [lg_sl_len, xm_cat_m]; exact hfit)
  rw [lv_args_m] at hl
  rw [lg_entry_eq]
  subst hsz
  have hD := hat.2.1.self (sz := s.heap.size)
  refine hf p l e _ s m _ below meth c s.heap [] _ _ D (va_A (xh_ws ad cy h) s.heap.size) ad sp cy none d mid mi 0 (lv_args 0 As) [] h 0 0 v h' mc ms he hm ⟨B.exec, B.bytes, hml, hown, fun w hw => hts w (List.mem_cons_of_mem _ hw), hK, fun q hq => Or.inr hq, hO, hin⟩ ⟨Nat.le_refl _, Nat.le_refl _, Nat.le_refl _, Nat.le_refl _⟩ (fun L xs z => by cases z) ⟨⟨hat.1, hD, hat.2.2⟩, va_S.rf, hl⟩ ?_
  intro H1 locs1 ls1 lv1 pc1 ri st1 S1 hd1 hrv
  exact xe_rv_ok hrv B.exec B.bytes B.returns B.notSynchronized S1 hd1
end XOK
end
section
section XALL
variable {p : Program} {l : Launch} {e : Env} {R : Room} {s : State} {m : MethodId} {args : Array Value} {below : List Frame} {meth : Method} {c : Code} {H : Heap} {locs : List Loc} {Q : State → Prop}
variable {cc : ByteArray} {ls : Array Slot} {D : va_G} {A : Nat → Prop} {ad sp : Nat → Nat} {cy : Nat → ClassId} {nL : Nat} {own : String} {ini : Bool}
theorem xr_len1 {own : String} {ini : Bool} {cc : ByteArray} {pc : Nat} {r : xr_R} (hr : xr_b own ini cc pc r = true) (hi : xe_isr r.1 = true) : decode cc pc = .ok (r.1, 1) := by
  obtain ⟨hd, hr⟩ := xw_bb hr
  replace hd := of_decide_eq_true hd
  obtain ⟨hlen, _⟩ := xw_bb hr
  obtain ⟨i, len, ra⟩ := r
  dsimp only at hd hlen hi
  cases i <;> first | (cases hi; done) | (cases xw_beq hlen; exact hd)
theorem xe_o_ok {scr : Option (Nat × (Nat → Int32))} {M : Nat → Option xm_M} {r : xr_R} {pc : Nat} {lv : List (Nat × Value)} {st : List Value} {h : xh_H} {cells slots : Nat} {pc' : Nat} {lv' : List (Nat × Value)} {st' : List Value} {h' : xh_H} {cells' slots' : Nat}
    (X : xc_X p s m args meth c cc nL own ini D cy A sp) (hr : xr_b own ini cc pc r = true) (hrc : xr_c M own r = true) (he : xe_o scr r pc lv st h cells slots = some (pc', lv', st', h', cells', slots')) (hscr : ∀ L xs, scr = some (L, xs) → va_X (sp 0) L xs s s.heap ∧ sp 0 < s.heap.size ∧ ¬ A (sp 0)) (S : xc_S D cy ad sp A s nL h lv H locs ls)
    (kk : ∀ (H1 : Heap) (locs1 : List Loc) (ls1 : Array Slot), xc_S D cy ad sp A s nL h' lv' H1 locs1 ls1 → W p l e R s m args below meth c H1 locs1 cells' slots' Q (F0 m pc' ls1 (st'.map (xh_v ad sp)))) :
    W p l e R s m args below meth c H locs cells slots Q (F0 m pc ls (st.map (xh_v ad sp))) := by
  obtain ⟨hx, hb, hml, hown, hts, hK, hA, hO, hini⟩ := X
  obtain ⟨hat, hS, hl⟩ := S
  obtain ⟨hd, hr⟩ := xw_bb hr
  replace hd := of_decide_eq_true hd
  obtain ⟨hlen, hw⟩ := xw_bb hr
  clear hr
  obtain ⟨i, len, ra, rb, rK, ri⟩ := r
  dsimp only at hd hlen
  cases i with
  | getstatic idx =>
    cases xw_beq hlen
    cases he
    exact va_gets hx hb hO.2.2.1 hS hown (hts _ (xw_in hrc)) (fun _ h9 => h9) hd (kk _ _ _ ⟨hat, hS, hl⟩)
  | laload =>
    cases xw_beq hlen
    match st, he with
    | .int j :: .float u :: q, he =>
      obtain ⟨h1, h2⟩ := xw_c he
      obtain ⟨h1, h3⟩ := xw_bb h1
      cases h2
      rw [show List.map (xh_v ad sp) (.int j :: .float u :: q) = .int j :: .ref (sp u.toNat) :: q.map (xh_v ad sp) from rfl, xw_beq h1]
      exact va_tl hx hb hO.2.2.2 hS (xe_in_v h3) rfl hd (kk _ _ _ ⟨hat, hS, hl⟩)
  | iaload =>
    cases xw_beq hlen
    match st, he with
    | .int j :: .float u :: q, he =>
      match scr, he, hscr with
      | some (L, xs), he, hscr =>
        obtain ⟨h1, h2⟩ := xw_c he
        obtain ⟨h1, h3⟩ := xw_bb h1
        cases h2
        obtain ⟨k1, k2, k3⟩ := hscr L xs rfl
        rw [show List.map (xh_v ad sp) (.int j :: .float u :: q) = .int j :: .ref (sp u.toNat) :: q.map (xh_v ad sp) from rfl, xw_beq h1]
        exact va_sld hx hb k1 k2 k3 hS (xe_in_v h3) hd (kk _ _ _ ⟨hat, hS, hl⟩)
  | arraylength =>
    cases xw_beq hlen
    match st, he with
    | .float u :: q, he =>
      match scr, he, hscr with
      | some (L, xs), he, hscr =>
        obtain ⟨h1, h2⟩ := xw_c he
        cases h2
        obtain ⟨k1, k2, k3⟩ := hscr L xs rfl
        rw [show List.map (xh_v ad sp) (.float u :: q) = .ref (sp u.toNat) :: q.map (xh_v ad sp) from rfl, xw_beq h1]
        exact va_slen hx hb k1 k2 k3 hS hd (kk _ _ _ ⟨hat, hS, hl⟩)
  | _ => cases he
theorem xe_oi_ok {M : Nat → Option xm_M} {r : xr_R} {d pc : Nat} {lv : List (Nat × Value)} {st : List Value} {h : xh_H} {cells slots : Nat} {pc' : Nat} {lv' : List (Nat × Value)} {st' : List Value} {h' : xh_H} {cells' slots' : Nat} (hob : (Cond.instanceMethod objectInit ∈ xG ∧ Cond.code objectInit ⟨#[0xb1]⟩ 1 none ∈ xG) ∧ Cond.static Lib.Math.min.name ∈ xG ∧ Cond.initialized "java/lang/Math" ∈ xG ∧ Cond.code Lib.Math.min.name Lib.Math.min.code 2 (some .int) ∈ xG)
    (X : xc_X p s m args meth c cc nL own ini D cy A sp) (hr : xr_b own ini cc pc r = true) (hrc : xr_c M own r = true) (he : xe_oi r pc d lv st h cells slots = some (pc', lv', st', h', cells', slots')) (hR : d ≤ R.frames ∧ 40 * d ≤ R.locals) (hcap : cells' ≤ R.cells ∧ slots' ≤ R.slots) (S : xc_S D cy ad sp A s nL h lv H locs ls)
    (kk : ∀ (H1 : Heap) (locs1 : List Loc) (ls1 : Array Slot), xc_S D cy ad sp A s nL h' lv' H1 locs1 ls1 → W p l e R s m args below meth c H1 locs1 cells' slots' Q (F0 m pc' ls1 (st'.map (xh_v ad sp)))) :
    W p l e R s m args below meth c H locs cells slots Q (F0 m pc ls (st.map (xh_v ad sp))) := by
  obtain ⟨hx, hb, hml, hown, hts, hK, hA, hO, hini⟩ := X
  obtain ⟨hat, hS, hl⟩ := S
  obtain ⟨hd, hr⟩ := xw_bb hr
  replace hd := of_decide_eq_true hd
  obtain ⟨hlen, hw⟩ := xw_bb hr
  clear hr
  obtain ⟨i, len, ra, rb, rK, ri⟩ := r
  dsimp only at hd hlen
  cases i with
  | invokespecial idx =>
    cases xw_beq hlen
    match rb, d, st, he, hrc, hd, hR with
    | 1, d + 1, .ref a :: q, he, hrc, hd, hR =>
      obtain ⟨h1, h2⟩ := xw_c he
      cases h2
      have h1 := xw_ble h1
      refine W.objInit hx hb hown (hts _ (xw_in hrc)) (hts _ hob.1.1) (hts _ hob.1.2) rfl (by rw [hml]; exact hl.1) rfl hd (by omega) ?_ (kk _ _ _ ⟨hat, hS, hl⟩)
      have h3 : xm_cat (st'.map (xh_v ad sp)) ≤ 8 := by rw [xm_cat_m]; exact h1
      show 2 * 0 + xm_cat (st'.map (xh_v ad sp)) + 12 ≤ R.locals
      omega
    | 0, _, _, he, _, _, _ => cases he
    | 1, 0, _, he, _, _, _ => cases he
    | n + 2, _, _, he, _, _, _ => cases he
  | invokestatic idx =>
    cases xw_beq hlen
    match rb, d, st, he, hrc, hd, hR with
    | 2, d + 1, .int y :: .int x :: q, he, hrc, hd, hR =>
      obtain ⟨h1, h2⟩ := xw_c he
      cases h2
      have h1 := xw_ble h1
      have h3 : xm_cat (q.map (xh_v ad sp)) ≤ 8 := by rw [xm_cat_m]; exact h1
      refine va_mmin hx hb (by rw [hml]; exact hl.1.symm) hown (hts _ (xw_in hrc)) (hts _ hob.2.1) (hts _ hob.2.2.1) (hts _ hob.2.2.2) (by omega) ?_ hcap.1 hcap.2 hd (kk _ _ _ ⟨hat, hS, hl⟩)
      show xm_cat (q.map (xh_v ad sp)) + 13 ≤ R.locals
      omega
    | 0, _, _, he, _, _, _ => cases he
    | 1, _, _, he, _, _, _ => cases he
    | 2, 0, _, he, _, _, _ => cases he
    | n + 3, _, _, he, _, _, _ => cases he
  | _ => cases he
theorem xe_2_ok {scr : Option (Nat × (Nat → Int32))} {M : Nat → Option xm_M} {r : xr_R} {d pc : Nat} {lv : List (Nat × Value)} {st : List Value} {h : xh_H} {cells slots : Nat} {pc' : Nat} {lv' : List (Nat × Value)} {st' : List Value} {h' : xh_H} {cells' slots' : Nat} (hob : (Cond.instanceMethod objectInit ∈ xG ∧ Cond.code objectInit ⟨#[0xb1]⟩ 1 none ∈ xG) ∧ Cond.static Lib.Math.min.name ∈ xG ∧ Cond.initialized "java/lang/Math" ∈ xG ∧ Cond.code Lib.Math.min.name Lib.Math.min.code 2 (some .int) ∈ xG)
    (X : xc_X p s m args meth c cc nL own ini D cy A sp) (hr : xr_b own ini cc pc r = true) (hrc : xr_c M own r = true) (he : xe_2 scr nL r d pc lv st h cells slots = some (pc', lv', st', h', cells', slots')) (hR : d ≤ R.frames ∧ 40 * d ≤ R.locals) (hcap : cells' ≤ R.cells ∧ slots' ≤ R.slots) (hscr : ∀ L xs, scr = some (L, xs) → va_X (sp 0) L xs s s.heap ∧ sp 0 < s.heap.size ∧ ¬ A (sp 0)) (S : xc_S D cy ad sp A s nL h lv H locs ls)
    (kk : ∀ (H1 : Heap) (locs1 : List Loc) (ls1 : Array Slot), xc_S D cy ad sp A s nL h' lv' H1 locs1 ls1 → W p l e R s m args below meth c H1 locs1 cells' slots' Q (F0 m pc' ls1 (st'.map (xh_v ad sp)))) :
    W p l e R s m args below meth c H locs cells slots Q (F0 m pc ls (st.map (xh_v ad sp))) := by
  unfold xe_2 at he
  split at he
  · rename_i o h1
    cases he
    exact xe_1_ok X hr h1 hcap S kk
  · split at he
    · rename_i o h1
      cases he
      exact xe_o_ok X hr hrc h1 hscr S kk
    · exact xe_oi_ok hob X hr hrc he hR hcap S kk
theorem xr_len3 {own : String} {ini : Bool} {cc : ByteArray} {pc : Nat} {r : xr_R} (hr : xr_b own ini cc pc r = true) (hl : xr_len r.1 = 3) (ht : ∀ a b d e, r.1 ≠ .tableswitch a b d e) : decode cc pc = .ok (r.1, 3) := by
  obtain ⟨hd, hr⟩ := xw_bb hr
  replace hd := of_decide_eq_true hd
  obtain ⟨hlen, _⟩ := xw_bb hr
  obtain ⟨i, len, ra⟩ := r
  dsimp only at hd hlen hl ht
  cases i <;> first | (exact absurd rfl (ht _ _ _ _)) | (rw [← hl, ← xw_beq hlen]; exact hd)
set_option maxHeartbeats 4000000 in
set_option maxRecDepth 100000 in
/-- EVERY RUN, ON THE MACHINE -/
theorem xS_all {M : Nat → Option xm_M} {Cd : Nat → Nat → Option xr_R} (hP : xP_ok M Cd) : ∀ f : Nat, xS_ok M Cd f := by
  intro f
  induction f with
  | zero =>
    intro p l e R s m args below meth c H locs Q ls D A ad sp cy scr d mid mi pc lv st h cells slots v h' c' s' he
    cases he
  | succ f ih =>
    intro p l e R s m args below meth c H locs Q ls D A ad sp cy scr d mid mi pc lv st h cells slots v h' c' s' he hm X hR hscr S kk
    obtain ⟨_, hrows⟩ := hP.1 mid mi hm
    unfold xe_x at he
    split at he
    · cases he
    · rename_i r hr
      obtain ⟨hrb, hrc⟩ := hrows pc r hr
      cases hi : xe_isr r.1 with
      | true =>
        rw [hi] at he
        obtain ⟨v1, h1, h2⟩ := Option.map_eq_some_iff.mp (show Option.map _ _ = _ from he)
        cases h2
        exact kk _ _ _ _ _ _ _ S (xr_len1 hrb hi) h1
      | false =>
        rw [hi] at he
        simp only [cond_false] at he
        split at he
        · rename_i o ho
          obtain ⟨pc1, lv1, st1, h1, c1, s1⟩ := o
          have hmn := xe_x_mono _ _ _ _ _ _ _ _ _ _ _ _ _ _ _ he
          refine xe_2_ok hP.2 X hrb hrc ho ⟨hR.1, hR.2.1⟩ ⟨Nat.le_trans hmn.1 hR.2.2.1, Nat.le_trans hmn.2 hR.2.2.2⟩ hscr S ?_
          intro H1 locs1 ls1 S1
          exact ih p l e R s m args below meth c H1 locs1 Q ls1 D A ad sp cy scr d mid mi pc1 lv1 st1 h1 c1 s1 v h' c' s' he hm X hR hscr S1 kk
        · split at he
          · cases he
          · rename_i d' hx0
            split at he
            · cases he
            · rename_i mj As q hcl
              split at he
              · cases he
              · rename_i v1 h1 mc ms hx1
                have hmn := xe_x_mono _ _ _ _ _ _ _ _ _ _ _ _ _ _ _ he
                have X0 := X
                obtain ⟨hx, hb, hml, hown, hts, hK, hA, hO, hini⟩ := X
                obtain ⟨hat, hS, hl⟩ := S
                have hfree := xq_free hat hS hA
                have go : ∀ (H1 : Heap) (locs1 : List Loc), xh_at D cy ad A h1 H1 → va_S A s.heap H1 locs1 → W p l e R s m args below meth c H1 locs1 (cells + mc) (slots + ms) Q (F0 m (pc + 3) ls ((v1.map (xh_v ad sp)).toList ++ q.map (xh_v ad sp))) := by
                  intro H1 locs1 a1 a2
                  have K := ih p l e R s m args below meth c H1 locs1 Q ls D A ad sp cy scr (d' + 1) mid mi (pc + 3) lv (v1.toList ++ q) h1 (cells + mc) (slots + ms) v h' c' s' he hm X0 hR hscr ⟨a1, a2, hl⟩ kk
                  rw [List.map_append] at K
                  cases v1 with
                  | none => exact K
                  | some w => exact K
                have hcap : cells + mc ≤ R.cells ∧ slots + ms ≤ R.slots := ⟨Nat.le_trans hmn.1 hR.2.2.1, Nat.le_trans hmn.2 hR.2.2.2⟩
                unfold xe_cl at hcl
                split at hcl
                · cases hcl
                · rename_i mk hmk
                  have hk3 : mk.2.2.2.2.2.1 ≠ 3 := by
                    intro z
                    rw [z] at hcl
                    split at hcl
                    · obtain ⟨_, z2⟩ := xw_bb (xw_c hcl).1
                      cases (xw_bb z2).1
                    · split at hcl
                      · split at hcl
                        · obtain ⟨_, z2⟩ := xw_bb (xw_c hcl).1
                          cases (xw_bb z2).1
                        · cases hcl
                      · cases hcl
                    · split at hcl
                      · obtain ⟨_, z2⟩ := xw_bb (xw_c hcl).1
                        cases (xw_bb z2).1
                      · cases hcl
                    · cases hcl
                  have hok' := (hP.1 _ _ hmk).1 hk3
                  have hgi := xG_in hok'
                  have hok2 := hok'
                  obtain ⟨j1, j2, j3, j4, j5, j6, j7, j8, j9⟩ := hok'
                  have hRm : ∀ mc ms : Nat, (xm_rm d' mc ms).frames + 1 ≤ R.frames ∧ 8 + (mk.2.2.2.1 + 11) + (xm_rm d' mc ms).locals ≤ R.locals := by
                    intro mc ms
                    have a1 := hR.1
                    have a2 := hR.2.1
                    refine ⟨a1, ?_⟩
                    show 8 + (mk.2.2.2.1 + 11) + 40 * d' ≤ R.locals
                    omega
                  split at hcl
                  · rename_i idx hi1
                    obtain ⟨b1, b2⟩ := xw_c hcl
                    cases b2
                    obtain ⟨b0, b1⟩ := xw_bb b1
                    obtain ⟨b1, b3⟩ := xw_bb b1
                    obtain ⟨b3, b4⟩ := xw_bb b3
                    obtain ⟨b4, b5⟩ := xw_bb b4
                    replace b0 := xw_beq b0
                    replace b1 := xw_beq b1
                    replace b3 := xw_beq b3
                    replace b4 := xw_ble b4
                    replace b5 := xw_ble b5
                    have hlk : Cond.methodLink mi.1 idx mj.2.1 ∈ xG := by
                      unfold xr_c at hrc
                      rw [hi1] at hrc
                      dsimp only at hrc
                      rw [b0] at hrc
                      try dsimp only at hrc
                      rw [hmk] at hrc
                      exact xw_in hrc
                    have hd := xr_len3 hrb (by rw [hi1]; rfl) (by rw [hi1]; intro a b d e z; cases z)
                    rw [hi1] at hd
                    have hM := xe_met (D := D) (cy := cy) (ad := ad) (sp := sp) hP ih hx1 hmk hok2 b5 l H.size
                    have hst : st.map (xh_v ad sp) = ((st.take mj.2.2.2.2.2.2.1).reverse.map (xh_v ad sp)).reverse ++ (st.drop mj.2.2.2.2.2.2.1).map (xh_v ad sp) := by
                      rw [← List.map_reverse, List.reverse_reverse, ← List.map_append, List.take_append_drop]
                    refine xa_call (va_runS (As := (st.take mj.2.2.2.2.2.2.1).reverse.map (xh_v ad sp)) ⟨hx, hb, hml, hown, hts⟩ hM ⟨callB_of mj.2.2.2.2.2.2.1 hts hgi rfl rfl rfl (hts _ j2) (hts _ hlk) j5 (hRm mc ms), hts _ (j8 b1)⟩ ⟨xq_blind _ _ _, xq_pre X0 hat hS⟩ rfl (by rw [List.length_map, List.length_reverse]; exact b3) hl.1 hst (lv_room ?_) hd hcap) hS hfree go
                    show xm_cat ((st.drop mj.2.2.2.2.2.2.1).map (xh_v ad sp)) ≤ 8
                    rw [xm_cat_m]
                    exact b4
                  · rename_i idx hi1
                    split at hcl
                    · rename_i bb q2 hdrop
                      split at hcl
                      · rename_i ci hci
                        obtain ⟨b1, b2⟩ := xw_c hcl
                        cases b2
                        obtain ⟨b0, b1⟩ := xw_bb b1
                        obtain ⟨b1, b3⟩ := xw_bb b1
                        obtain ⟨b3, b4⟩ := xw_bb b3
                        obtain ⟨b4, b5⟩ := xw_bb b4
                        replace b0 := xw_beq b0
                        replace b1 := xw_beq b1
                        replace b3 := xw_beq b3
                        replace b4 := xw_ble b4
                        replace b5 := xw_ble b5
                        have hlk : Cond.methodLink mi.1 idx mj.2.1 ∈ xG := by
                          unfold xr_c at hrc
                          rw [hi1] at hrc
                          dsimp only at hrc
                          rw [hmk] at hrc
                          exact xw_in hrc
                        have hd := xr_len3 hrb (by rw [hi1]; rfl) (by rw [hi1]; intro a b d e z; cases z)
                        rw [hi1] at hd
                        have hM := xe_met (D := D) (cy := cy) (ad := ad) (sp := sp) hP ih hx1 hmk hok2 b5 l H.size
                        have hst : st.map (xh_v ad sp) = ((st.take mj.2.2.2.2.2.2.1).reverse.map (xh_v ad sp)).reverse ++ .ref (ad bb) :: q.map (xh_v ad sp) := by
                          rw [← List.map_reverse, List.reverse_reverse]
                          have : st = st.take mj.2.2.2.2.2.2.1 ++ .ref bb :: q := by rw [← hdrop, List.take_append_drop]
                          conv => lhs; rw [this]
                          rw [List.map_append]
                          rfl
                        obtain ⟨T, N, hv⟩ := (j7 b1).2.2
                        rw [← b0] at hv
                        refine xa_call (va_runV (C := mj.2.1.cls) (b := ad bb) (As := (st.take mj.2.2.2.2.2.2.1).reverse.map (xh_v ad sp)) ⟨hx, hb, hml, hown, hts⟩ hM ⟨callB_of mj.2.2.2.2.2.2.1 hts hgi rfl rfl rfl (hts _ j2) (hts _ hlk) j5 (hRm mc ms), hts _ (j7 b1).1, hts _ (j7 b1).2.1⟩ ⟨xq_blind _ _ _, va_recv hK hat.1 hv (xh_ws_at hci), xq_pre X0 hat hS⟩ rfl (by rw [List.length_map, List.length_reverse]; exact b3) hl.1 hst (lv_room ?_) hd hcap) hS hfree go
                        show xm_cat (q.map (xh_v ad sp)) ≤ 8
                        rw [xm_cat_m]
                        exact b4
                      · cases hcl
                    · cases hcl
                  · rename_i idx hi1
                    split at hcl
                    · rename_i bb q2 hdrop
                      obtain ⟨b1, b2⟩ := xw_c hcl
                      cases b2
                      obtain ⟨b0, b1⟩ := xw_bb b1
                      obtain ⟨b1, b3⟩ := xw_bb b1
                      obtain ⟨b3, b4⟩ := xw_bb b3
                      obtain ⟨b4, b5⟩ := xw_bb b4
                      replace b0 := xw_beq b0
                      replace b1 := xw_beq b1
                      replace b3 := xw_beq b3
                      replace b4 := xw_ble b4
                      replace b5 := xw_ble b5
                      have hlk : Cond.methodLink mi.1 idx mj.2.1 ∈ xG := by
                        unfold xr_c at hrc
                        rw [hi1] at hrc
                        dsimp only at hrc
                        rw [b0] at hrc
                        try dsimp only at hrc
                        rw [hmk] at hrc
                        exact xw_in hrc
                      have hd := xr_len3 hrb (by rw [hi1]; rfl) (by rw [hi1]; intro a b d e z; cases z)
                      rw [hi1] at hd
                      have hM := xe_met (D := D) (cy := cy) (ad := ad) (sp := sp) hP ih hx1 hmk hok2 b5 l H.size
                      have hst : st.map (xh_v ad sp) = ((st.take mj.2.2.2.2.2.2.1).reverse.map (xh_v ad sp)).reverse ++ .ref (ad bb) :: q.map (xh_v ad sp) := by
                        rw [← List.map_reverse, List.reverse_reverse]
                        have : st = st.take mj.2.2.2.2.2.2.1 ++ .ref bb :: q := by rw [← hdrop, List.take_append_drop]
                        conv => lhs; rw [this]
                        rw [List.map_append]
                        rfl
                      obtain ⟨n1, n2, n3⟩ := j9 b1
                      unfold xq_M at hM
                      rw [n3] at hM hgi
                      have hpre : PreS s H (va_Pc ((.ref bb :: (st.take mj.2.2.2.2.2.2.1).reverse).map (xh_v ad sp)) (xq_P D cy ad sp h H.size)) (.ref (ad bb) :: (st.take mj.2.2.2.2.2.2.1).reverse.map (xh_v ad sp)) := ⟨xq_blind _ _ _, xq_pre X0 hat hS⟩
                      refine xa_call (va_runI (b := ad bb) (As := (st.take mj.2.2.2.2.2.2.1).reverse.map (xh_v ad sp)) ⟨hx, hb, hml, hown, hts⟩ hM ⟨callB_of mj.2.2.2.2.2.2.1 hts hgi rfl rfl rfl (hts _ j2) (hts _ hlk) j5 (hRm mc ms), n2, hts _ n1⟩ hpre rfl (by rw [List.length_map, List.length_reverse]; exact b3) hl.1 hst (lv_room ?_) hd hcap) hS hfree go
                      show xm_cat (q.map (xh_v ad sp)) ≤ 8
                      rw [xm_cat_m]
                      exact b4
                    · cases hcl
                  · cases hcl
end XALL
end
section
section XT
def xc_X0_init : List (List (Option xr_R)) := [[some (.aload_n 0, 1, 0, 0, 0, 0), some (.invokespecial 3, 3, 0, 1, 2, 37), none, none, some (.aload_n 0, 1, 0, 0, 0, 0), some (.bipush 7, 2, 0, 0, 0, 0), none, some (.newarray .int, 2, 0, 0, 0, 0), none, some (.putfield 11, 3, 0, 0, 2, 38), none, none, some (.aload_n 0, 1, 0, 0, 0, 0), some (.bipush 84, 2, 0, 0, 0, 0), none, some (.newarray .int, 2, 0, 0, 0, 0)],
  [none, some (.putfield 15, 3, 0, 2, 2, 42), none, none, some (.aload_n 0, 1, 0, 0, 0, 0), some (.bipush 7, 2, 0, 0, 0, 0), none, some (.newarray .int, 2, 0, 0, 0, 0), none, some (.putfield 18, 3, 0, 3, 2, 43), none, none, some (.aload_n 0, 1, 0, 0, 0, 0), some (.bipush 7, 2, 0, 0, 0, 0), none, some (.newarray .int, 2, 0, 0, 0, 0)],
  [none, some (.putfield 21, 3, 0, 4, 2, 44), none, none, some (.aload_n 0, 1, 0, 0, 0, 0), some (.bipush 7, 2, 0, 0, 0, 0), none, some (.newarray .int, 2, 0, 0, 0, 0), none, some (.putfield 24, 3, 0, 5, 2, 45), none, none, some (.aload_n 0, 1, 0, 0, 0, 0), some (.sipush 896, 3, 0, 0, 0, 0), none, none],
  [some (.newarray .int, 2, 0, 0, 0, 0), none, some (.putfield 27, 3, 0, 6, 2, 46), none, none, some (.iconst 0, 1, 0, 0, 0, 0), some (.istore_n 1, 1, 0, 0, 0, 0), some (.iload_n 1, 1, 0, 0, 0, 0), some (.aload_n 0, 1, 0, 0, 0, 0), some (.getfield 15, 3, 0, 2, 2, 42), none, none, some (.arraylength, 1, 0, 0, 0, 0), some (.if_icmp .ge 19, 3, 80, 0, 0, 0), none, none],
  [some (.aload_n 0, 1, 0, 0, 0, 0), some (.getfield 15, 3, 0, 2, 2, 42), none, none, some (.iload_n 1, 1, 0, 0, 0, 0), some (.iload_n 1, 1, 0, 0, 0, 0), some (.bipush 7, 2, 0, 0, 0, 0), none, some (.irem, 1, 0, 0, 0, 0), some (.iastore, 1, 0, 0, 0, 0), some (.iinc 1 1, 3, 0, 0, 0, 0), none, none, some (.goto (-22), 3, 55, 0, 0, 0), none, none],
  [some (.iconst 0, 1, 0, 0, 0, 0), some (.istore_n 1, 1, 0, 0, 0, 0), some (.iload_n 1, 1, 0, 0, 0, 0), some (.bipush 7, 2, 0, 0, 0, 0), none, some (.if_icmp .ge 16, 3, 101, 0, 0, 0), none, none, some (.aload_n 0, 1, 0, 0, 0, 0), some (.getfield 11, 3, 0, 0, 2, 38), none, none, some (.iload_n 1, 1, 0, 0, 0, 0), some (.iconst (-1), 1, 0, 0, 0, 0), some (.iastore, 1, 0, 0, 0, 0), some (.iinc 1 1, 3, 0, 0, 0, 0)],
  [none, none, some (.goto (-16), 3, 82, 0, 0, 0), none, none, some (.return_, 1, 0, 0, 0, 0), none, none, none, none, none, none, none, none, none, none]]
def xc_X0_isOption : List (List (Option xr_R)) := [[some (.iload_n 0, 1, 0, 0, 0, 0), some (.ifCond .lt 13, 3, 14, 0, 0, 0), none, none, some (.iload_n 0, 1, 0, 0, 0, 0), some (.bipush 7, 2, 0, 0, 0, 0), none, some (.if_icmp .ge 7, 3, 14, 0, 0, 0), none, none, some (.iconst 1, 1, 0, 0, 0, 0), some (.goto 4, 3, 15, 0, 0, 0), none, none, some (.iconst 0, 1, 0, 0, 0, 0), some (.ireturn, 1, 0, 0, 0, 0)]]
def xc_X0_isRow : List (List (Option xr_R)) := [[some (.aload_n 1, 1, 0, 0, 0, 0), some (.getfield 30, 3, 8, 1, 1, 40), none, none, some (.iconst 1, 1, 0, 0, 0, 0), some (.if_icmp .lt 12, 3, 17, 0, 0, 0), none, none, some (.aload_n 1, 1, 0, 0, 0, 0), some (.getfield 30, 3, 8, 1, 1, 40), none, none, some (.bipush 7, 2, 0, 0, 0, 0), none, some (.if_icmp .le 5, 3, 19, 0, 0, 0), none],
  [none, some (.iconst 0, 1, 0, 0, 0, 0), some (.ireturn, 1, 0, 0, 0, 0), some (.iconst 0, 1, 0, 0, 0, 0), some (.istore_n 2, 1, 0, 0, 0, 0), some (.iconst 0, 1, 0, 0, 0, 0), some (.istore_n 3, 1, 0, 0, 0, 0), some (.iload_n 3, 1, 0, 0, 0, 0), some (.aload_n 1, 1, 0, 0, 0, 0), some (.getfield 30, 3, 8, 1, 1, 40), none, none, some (.if_icmp .ge 42, 3, 70, 0, 0, 0), none, none, some (.aload_n 1, 1, 0, 0, 0, 0)],
  [some (.iload_n 3, 1, 0, 0, 0, 0), some (.invokevirtual 36, 3, 108, 0, 4, 111), none, none, some (.istore 4, 2, 0, 0, 0, 0), none, some (.iload 4, 2, 0, 0, 0, 0), none, some (.invokestatic 40, 3, 1, 0, 4, 112), none, none, some (.ifCond .eq 12, 3, 55, 0, 0, 0), none, none, some (.iload_n 2, 1, 0, 0, 0, 0), some (.iload 4, 2, 0, 0, 0, 0)],
  [none, some (.ishr, 1, 0, 0, 0, 0), some (.iconst 1, 1, 0, 0, 0, 0), some (.iand, 1, 0, 0, 0, 0), some (.ifCond .eq 5, 3, 57, 0, 0, 0), none, none, some (.iconst 0, 1, 0, 0, 0, 0), some (.ireturn, 1, 0, 0, 0, 0), some (.iload_n 2, 1, 0, 0, 0, 0), some (.iconst 1, 1, 0, 0, 0, 0), some (.iload 4, 2, 0, 0, 0, 0), none, some (.ishl, 1, 0, 0, 0, 0), some (.ior, 1, 0, 0, 0, 0), some (.istore_n 2, 1, 0, 0, 0, 0)],
  [some (.iinc 3 1, 3, 0, 0, 0, 0), none, none, some (.goto (-44), 3, 23, 0, 0, 0), none, none, some (.iconst 1, 1, 0, 0, 0, 0), some (.ireturn, 1, 0, 0, 0, 0), none, none, none, none, none, none, none, none]]
def xc_X0_order : List (List (Option xr_R)) := [[some (.iconst 0, 1, 0, 0, 0, 0), some (.istore_n 3, 1, 0, 0, 0, 0), some (.iload_n 3, 1, 0, 0, 0, 0), some (.bipush 7, 2, 0, 0, 0, 0), none, some (.if_icmp .ge 37, 3, 42, 0, 0, 0), none, none, some (.aload_n 2, 1, 0, 0, 0, 0), some (.iload_n 3, 1, 0, 0, 0, 0), some (.invokevirtual 36, 3, 108, 0, 4, 111), none, none, some (.istore 4, 2, 0, 0, 0, 0), none, some (.iload 4, 2, 0, 0, 0, 0)],
  [none, some (.invokestatic 40, 3, 1, 0, 4, 112), none, none, some (.ifCond .eq 16, 3, 36, 0, 0, 0), none, none, some (.aload_n 0, 1, 0, 0, 0, 0), some (.getfield 15, 3, 0, 2, 2, 42), none, none, some (.iload_n 1, 1, 0, 0, 0, 0), some (.bipush 7, 2, 0, 0, 0, 0), none, some (.imul, 1, 0, 0, 0, 0), some (.iload 4, 2, 0, 0, 0, 0)],
  [none, some (.iadd, 1, 0, 0, 0, 0), some (.iload_n 3, 1, 0, 0, 0, 0), some (.iastore, 1, 0, 0, 0, 0), some (.iinc 3 1, 3, 0, 0, 0, 0), none, none, some (.goto (-37), 3, 2, 0, 0, 0), none, none, some (.aload_n 0, 1, 0, 0, 0, 0), some (.iconst 1, 1, 0, 0, 0, 0), some (.putfield 44, 3, 0, 1, 2, 40), none, none, some (.return_, 1, 0, 0, 0, 0)]]
def xc_X0_whoPrefer : List (List (Option xr_R)) := [[some (.iconst 0, 1, 0, 0, 0, 0), some (.istore 4, 2, 0, 0, 0, 0), none, some (.iconst 0, 1, 0, 0, 0, 0), some (.istore 5, 2, 0, 0, 0, 0), none, some (.iload 5, 2, 0, 0, 0, 0), none, some (.iload_n 3, 1, 0, 0, 0, 0), some (.if_icmp .ge 45, 3, 54, 0, 0, 0), none, none, some (.aload_n 0, 1, 0, 0, 0, 0), some (.getfield 15, 3, 0, 2, 2, 42), none, none],
  [some (.iload 5, 2, 0, 0, 0, 0), none, some (.bipush 7, 2, 0, 0, 0, 0), none, some (.imul, 1, 0, 0, 0, 0), some (.iload_n 1, 1, 0, 0, 0, 0), some (.iadd, 1, 0, 0, 0, 0), some (.iaload, 1, 0, 0, 0, 0), some (.aload_n 0, 1, 0, 0, 0, 0), some (.getfield 15, 3, 0, 2, 2, 42), none, none, some (.iload 5, 2, 0, 0, 0, 0), none, some (.bipush 7, 2, 0, 0, 0, 0), none],
  [some (.imul, 1, 0, 0, 0, 0), some (.iload_n 2, 1, 0, 0, 0, 0), some (.iadd, 1, 0, 0, 0, 0), some (.iaload, 1, 0, 0, 0, 0), some (.if_icmp .ge 12, 3, 48, 0, 0, 0), none, none, some (.iload 4, 2, 0, 0, 0, 0), none, some (.iconst 1, 1, 0, 0, 0, 0), some (.iload 5, 2, 0, 0, 0, 0), none, some (.ishl, 1, 0, 0, 0, 0), some (.ior, 1, 0, 0, 0, 0), some (.istore 4, 2, 0, 0, 0, 0), none],
  [some (.iinc 5 1, 3, 0, 0, 0, 0), none, none, some (.goto (-45), 3, 6, 0, 0, 0), none, none, some (.iload 4, 2, 0, 0, 0, 0), none, some (.ireturn, 1, 0, 0, 0, 0), none, none, none, none, none, none, none]]
def xc_X0_match : List (List (Option xr_R)) := [[some (.iconst 0, 1, 0, 0, 0, 0), some (.istore_n 3, 1, 0, 0, 0, 0), some (.iload_n 3, 1, 0, 0, 0, 0), some (.bipush 7, 2, 0, 0, 0, 0), none, some (.if_icmp .ge 66, 3, 71, 0, 0, 0), none, none, some (.aload_n 0, 1, 0, 0, 0, 0), some (.getfield 18, 3, 0, 3, 2, 43), none, none, some (.iload_n 3, 1, 0, 0, 0, 0), some (.iconst 0, 1, 0, 0, 0, 0), some (.iastore, 1, 0, 0, 0, 0), some (.iconst 0, 1, 0, 0, 0, 0)],
  [some (.istore 4, 2, 0, 0, 0, 0), none, some (.iload 4, 2, 0, 0, 0, 0), none, some (.bipush 7, 2, 0, 0, 0, 0), none, some (.if_icmp .ge 43, 3, 65, 0, 0, 0), none, none, some (.iload_n 3, 1, 0, 0, 0, 0), some (.iload 4, 2, 0, 0, 0, 0), none, some (.if_icmp .eq 31, 3, 59, 0, 0, 0), none, none, some (.aload_n 1, 1, 0, 0, 0, 0)],
  [some (.aload_n 0, 1, 0, 0, 0, 0), some (.iload_n 3, 1, 0, 0, 0, 0), some (.iload 4, 2, 0, 0, 0, 0), none, some (.iload_n 2, 1, 0, 0, 0, 0), some (.invokevirtual 48, 3, 4, 0, 4, 136), none, none, some (.invokevirtual 52, 3, 102, 0, 4, 137), none, none, some (.ifCond .eq 16, 3, 59, 0, 0, 0), none, none, some (.aload_n 0, 1, 0, 0, 0, 0), some (.getfield 18, 3, 0, 3, 2, 43)],
  [none, none, some (.iload_n 3, 1, 0, 0, 0, 0), some (.dup2, 1, 0, 0, 0, 0), some (.iaload, 1, 0, 0, 0, 0), some (.iconst 1, 1, 0, 0, 0, 0), some (.iload 4, 2, 0, 0, 0, 0), none, some (.ishl, 1, 0, 0, 0, 0), some (.ior, 1, 0, 0, 0, 0), some (.iastore, 1, 0, 0, 0, 0), some (.iinc 4 1, 3, 0, 0, 0, 0), none, none, some (.goto (-44), 3, 18, 0, 0, 0), none],
  [none, some (.iinc 3 1, 3, 0, 0, 0, 0), none, none, some (.goto (-66), 3, 2, 0, 0, 0), none, none, some (.return_, 1, 0, 0, 0, 0), none, none, none, none, none, none, none, none]]
def xc_X0_wins : List (List (Option xr_R)) := [[some (.aload_n 0, 1, 0, 0, 0, 0), some (.getfield 18, 3, 0, 3, 2, 43), none, none, some (.iload_n 1, 1, 0, 0, 0, 0), some (.iaload, 1, 0, 0, 0, 0), some (.iload_n 2, 1, 0, 0, 0, 0), some (.ishr, 1, 0, 0, 0, 0), some (.iconst 1, 1, 0, 0, 0, 0), some (.iand, 1, 0, 0, 0, 0), some (.ifCond .eq 7, 3, 17, 0, 0, 0), none, none, some (.iconst 1, 1, 0, 0, 0, 0), some (.goto 4, 3, 18, 0, 0, 0), none],
  [none, some (.iconst 0, 1, 0, 0, 0, 0), some (.ireturn, 1, 0, 0, 0, 0), none, none, none, none, none, none, none, none, none, none, none, none, none]]
def xc_X0_unbeaten : List (List (Option xr_R)) := [[some (.bipush 127, 2, 0, 0, 0, 0), none, some (.istore_n 1, 1, 0, 0, 0, 0), some (.iconst 0, 1, 0, 0, 0, 0), some (.istore_n 2, 1, 0, 0, 0, 0), some (.iload_n 2, 1, 0, 0, 0, 0), some (.bipush 7, 2, 0, 0, 0, 0), none, some (.if_icmp .ge 20, 3, 28, 0, 0, 0), none, none, some (.iload_n 1, 1, 0, 0, 0, 0), some (.aload_n 0, 1, 0, 0, 0, 0), some (.getfield 18, 3, 0, 3, 2, 43), none, none],
  [some (.iload_n 2, 1, 0, 0, 0, 0), some (.iaload, 1, 0, 0, 0, 0), some (.iconst (-1), 1, 0, 0, 0, 0), some (.ixor, 1, 0, 0, 0, 0), some (.iand, 1, 0, 0, 0, 0), some (.istore_n 1, 1, 0, 0, 0, 0), some (.iinc 2 1, 3, 0, 0, 0, 0), none, none, some (.goto (-20), 3, 5, 0, 0, 0), none, none, some (.iload_n 1, 1, 0, 0, 0, 0), some (.ireturn, 1, 0, 0, 0, 0), none, none]]
def xc_X0_best : List (List (Option xr_R)) := [[some (.aload_n 0, 1, 0, 0, 0, 0), some (.invokevirtual 57, 3, 9, 0, 4, 150), none, none, some (.iconst 0, 1, 0, 0, 0, 0), some (.istore_n 1, 1, 0, 0, 0, 0), some (.iconst 0, 1, 0, 0, 0, 0), some (.istore_n 2, 1, 0, 0, 0, 0), some (.iload_n 2, 1, 0, 0, 0, 0), some (.bipush 7, 2, 0, 0, 0, 0), none, some (.if_icmp .ge 67, 3, 78, 0, 0, 0), none, none, some (.iconst 1, 1, 0, 0, 0, 0), some (.istore_n 3, 1, 0, 0, 0, 0)],
  [some (.iconst 0, 1, 0, 0, 0, 0), some (.istore 4, 2, 0, 0, 0, 0), none, some (.iload 4, 2, 0, 0, 0, 0), none, some (.bipush 7, 2, 0, 0, 0, 0), none, some (.if_icmp .ge 39, 3, 62, 0, 0, 0), none, none, some (.aload_n 0, 1, 0, 0, 0, 0), some (.getfield 21, 3, 0, 4, 2, 44), none, none, some (.iload_n 2, 1, 0, 0, 0, 0), some (.iaload, 1, 0, 0, 0, 0)],
  [some (.iload 4, 2, 0, 0, 0, 0), none, some (.ishr, 1, 0, 0, 0, 0), some (.iconst 1, 1, 0, 0, 0, 0), some (.iand, 1, 0, 0, 0, 0), some (.ifCond .eq 19, 3, 56, 0, 0, 0), none, none, some (.aload_n 0, 1, 0, 0, 0, 0), some (.getfield 21, 3, 0, 4, 2, 44), none, none, some (.iload 4, 2, 0, 0, 0, 0), none, some (.iaload, 1, 0, 0, 0, 0), some (.iload_n 2, 1, 0, 0, 0, 0)],
  [some (.ishr, 1, 0, 0, 0, 0), some (.iconst 1, 1, 0, 0, 0, 0), some (.iand, 1, 0, 0, 0, 0), some (.ifCond .ne 5, 3, 56, 0, 0, 0), none, none, some (.iconst 0, 1, 0, 0, 0, 0), some (.istore_n 3, 1, 0, 0, 0, 0), some (.iinc 4 1, 3, 0, 0, 0, 0), none, none, some (.goto (-40), 3, 19, 0, 0, 0), none, none, some (.iload_n 3, 1, 0, 0, 0, 0), some (.ifCond .eq 9, 3, 72, 0, 0, 0)],
  [none, none, some (.iload_n 1, 1, 0, 0, 0, 0), some (.iconst 1, 1, 0, 0, 0, 0), some (.iload_n 2, 1, 0, 0, 0, 0), some (.ishl, 1, 0, 0, 0, 0), some (.ior, 1, 0, 0, 0, 0), some (.istore_n 1, 1, 0, 0, 0, 0), some (.iinc 2 1, 3, 0, 0, 0, 0), none, none, some (.goto (-67), 3, 8, 0, 0, 0), none, none, some (.iload_n 1, 1, 0, 0, 0, 0), some (.ireturn, 1, 0, 0, 0, 0)]]
def xc_X0_findReach : List (List (Option xr_R)) := [[some (.iconst 0, 1, 0, 0, 0, 0), some (.istore_n 1, 1, 0, 0, 0, 0), some (.iload_n 1, 1, 0, 0, 0, 0), some (.bipush 7, 2, 0, 0, 0, 0), none, some (.if_icmp .ge 51, 3, 56, 0, 0, 0), none, none, some (.aload_n 0, 1, 0, 0, 0, 0), some (.getfield 21, 3, 0, 4, 2, 44), none, none, some (.iload_n 1, 1, 0, 0, 0, 0), some (.iconst 0, 1, 0, 0, 0, 0), some (.iastore, 1, 0, 0, 0, 0), some (.iconst 0, 1, 0, 0, 0, 0)],
  [some (.istore_n 2, 1, 0, 0, 0, 0), some (.iload_n 2, 1, 0, 0, 0, 0), some (.bipush 7, 2, 0, 0, 0, 0), none, some (.if_icmp .ge 30, 3, 50, 0, 0, 0), none, none, some (.aload_n 0, 1, 0, 0, 0, 0), some (.iload_n 2, 1, 0, 0, 0, 0), some (.iload_n 1, 1, 0, 0, 0, 0), some (.invokevirtual 60, 3, 6, 0, 4, 154), none, none, some (.ifCond .eq 15, 3, 44, 0, 0, 0), none, none],
  [some (.aload_n 0, 1, 0, 0, 0, 0), some (.getfield 21, 3, 0, 4, 2, 44), none, none, some (.iload_n 1, 1, 0, 0, 0, 0), some (.dup2, 1, 0, 0, 0, 0), some (.iaload, 1, 0, 0, 0, 0), some (.iconst 1, 1, 0, 0, 0, 0), some (.iload_n 2, 1, 0, 0, 0, 0), some (.ishl, 1, 0, 0, 0, 0), some (.ior, 1, 0, 0, 0, 0), some (.iastore, 1, 0, 0, 0, 0), some (.iinc 2 1, 3, 0, 0, 0, 0), none, none, some (.goto (-30), 3, 17, 0, 0, 0)],
  [none, none, some (.iinc 1 1, 3, 0, 0, 0, 0), none, none, some (.goto (-51), 3, 2, 0, 0, 0), none, none, some (.iconst 0, 1, 0, 0, 0, 0), some (.istore_n 1, 1, 0, 0, 0, 0), some (.iload_n 1, 1, 0, 0, 0, 0), some (.bipush 7, 2, 0, 0, 0, 0), none, some (.if_icmp .ge 51, 3, 112, 0, 0, 0), none, none],
  [some (.iconst 0, 1, 0, 0, 0, 0), some (.istore_n 2, 1, 0, 0, 0, 0), some (.iload_n 2, 1, 0, 0, 0, 0), some (.bipush 7, 2, 0, 0, 0, 0), none, some (.if_icmp .ge 37, 3, 106, 0, 0, 0), none, none, some (.aload_n 0, 1, 0, 0, 0, 0), some (.getfield 21, 3, 0, 4, 2, 44), none, none, some (.iload_n 2, 1, 0, 0, 0, 0), some (.iaload, 1, 0, 0, 0, 0), some (.iload_n 1, 1, 0, 0, 0, 0), some (.ishr, 1, 0, 0, 0, 0)],
  [some (.iconst 1, 1, 0, 0, 0, 0), some (.iand, 1, 0, 0, 0, 0), some (.ifCond .eq 18, 3, 100, 0, 0, 0), none, none, some (.aload_n 0, 1, 0, 0, 0, 0), some (.getfield 21, 3, 0, 4, 2, 44), none, none, some (.iload_n 2, 1, 0, 0, 0, 0), some (.dup2, 1, 0, 0, 0, 0), some (.iaload, 1, 0, 0, 0, 0), some (.aload_n 0, 1, 0, 0, 0, 0), some (.getfield 21, 3, 0, 4, 2, 44), none, none],
  [some (.iload_n 1, 1, 0, 0, 0, 0), some (.iaload, 1, 0, 0, 0, 0), some (.ior, 1, 0, 0, 0, 0), some (.iastore, 1, 0, 0, 0, 0), some (.iinc 2 1, 3, 0, 0, 0, 0), none, none, some (.goto (-37), 3, 66, 0, 0, 0), none, none, some (.iinc 1 1, 3, 0, 0, 0, 0), none, none, some (.goto (-51), 3, 58, 0, 0, 0), none, none],
  [some (.return_, 1, 0, 0, 0, 0), none, none, none, none, none, none, none, none, none, none, none, none, none, none, none]]
def xc_X0_stands : List (List (Option xr_R)) := [[some (.aload_n 0, 1, 0, 0, 0, 0), some (.iload_n 2, 1, 0, 0, 0, 0), some (.iload_n 1, 1, 0, 0, 0, 0), some (.invokevirtual 60, 3, 6, 0, 4, 154), none, none, some (.ifCond .eq 7, 3, 13, 0, 0, 0), none, none, some (.iload_n 2, 1, 0, 0, 0, 0), some (.goto 4, 3, 14, 0, 0, 0), none, none, some (.iload_n 1, 1, 0, 0, 0, 0), some (.ireturn, 1, 0, 0, 0, 0), none]]
def xc_X0_follow : List (List (Option xr_R)) := [[some (.aload_n 1, 1, 0, 0, 0, 0), some (.iconst 0, 1, 0, 0, 0, 0), some (.invokevirtual 36, 3, 108, 0, 4, 111), none, none, some (.istore_n 2, 1, 0, 0, 0, 0), some (.iconst 1, 1, 0, 0, 0, 0), some (.istore_n 3, 1, 0, 0, 0, 0), some (.iload_n 3, 1, 0, 0, 0, 0), some (.aload_n 1, 1, 0, 0, 0, 0), some (.getfield 30, 3, 8, 1, 1, 40), none, none, some (.if_icmp .ge 20, 3, 33, 0, 0, 0), none, none],
  [some (.aload_n 0, 1, 0, 0, 0, 0), some (.iload_n 2, 1, 0, 0, 0, 0), some (.aload_n 1, 1, 0, 0, 0, 0), some (.iload_n 3, 1, 0, 0, 0, 0), some (.invokevirtual 36, 3, 108, 0, 4, 111), none, none, some (.invokevirtual 64, 3, 10, 0, 4, 166), none, none, some (.istore_n 2, 1, 0, 0, 0, 0), some (.iinc 3 1, 3, 0, 0, 0, 0), none, none, some (.goto (-22), 3, 8, 0, 0, 0), none],
  [none, some (.iload_n 2, 1, 0, 0, 0, 0), some (.ireturn, 1, 0, 0, 0, 0), none, none, none, none, none, none, none, none, none, none, none, none, none]]
def xc_X0_foresee : List (List (Option xr_R)) := [[some (.iconst 0, 1, 0, 0, 0, 0), some (.istore_n 2, 1, 0, 0, 0, 0), some (.iload_n 2, 1, 0, 0, 0, 0), some (.bipush 7, 2, 0, 0, 0, 0), none, some (.if_icmp .ge 16, 3, 21, 0, 0, 0), none, none, some (.aload_n 0, 1, 0, 0, 0, 0), some (.getfield 24, 3, 0, 5, 2, 45), none, none, some (.iload_n 2, 1, 0, 0, 0, 0), some (.iload_n 2, 1, 0, 0, 0, 0), some (.iastore, 1, 0, 0, 0, 0), some (.iinc 2 1, 3, 0, 0, 0, 0)],
  [none, none, some (.goto (-16), 3, 2, 0, 0, 0), none, none, some (.aload_n 1, 1, 0, 0, 0, 0), some (.getfield 30, 3, 8, 1, 1, 40), none, none, some (.iconst 1, 1, 0, 0, 0, 0), some (.isub, 1, 0, 0, 0, 0), some (.istore_n 2, 1, 0, 0, 0, 0), some (.iload_n 2, 1, 0, 0, 0, 0), some (.ifCond .le 62, 3, 91, 0, 0, 0), none, none],
  [some (.aload_n 0, 1, 0, 0, 0, 0), some (.getfield 24, 3, 0, 5, 2, 45), none, none, some (.aload_n 1, 1, 0, 0, 0, 0), some (.iload_n 2, 1, 0, 0, 0, 0), some (.invokevirtual 36, 3, 108, 0, 4, 111), none, none, some (.iaload, 1, 0, 0, 0, 0), some (.istore_n 3, 1, 0, 0, 0, 0), some (.iconst 0, 1, 0, 0, 0, 0), some (.istore 4, 2, 0, 0, 0, 0), none, some (.iload 4, 2, 0, 0, 0, 0), none],
  [some (.iload_n 2, 1, 0, 0, 0, 0), some (.if_icmp .ge 36, 3, 85, 0, 0, 0), none, none, some (.aload_n 1, 1, 0, 0, 0, 0), some (.iload 4, 2, 0, 0, 0, 0), none, some (.invokevirtual 36, 3, 108, 0, 4, 111), none, none, some (.istore 5, 2, 0, 0, 0, 0), none, some (.aload_n 0, 1, 0, 0, 0, 0), some (.getfield 24, 3, 0, 5, 2, 45), none, none],
  [some (.iload 5, 2, 0, 0, 0, 0), none, some (.aload_n 0, 1, 0, 0, 0, 0), some (.aload_n 0, 1, 0, 0, 0, 0), some (.getfield 24, 3, 0, 5, 2, 45), none, none, some (.iload 5, 2, 0, 0, 0, 0), none, some (.iaload, 1, 0, 0, 0, 0), some (.iload_n 3, 1, 0, 0, 0, 0), some (.invokevirtual 64, 3, 10, 0, 4, 166), none, none, some (.iastore, 1, 0, 0, 0, 0), some (.iinc 4 1, 3, 0, 0, 0, 0)],
  [none, none, some (.goto (-36), 3, 46, 0, 0, 0), none, none, some (.iinc 2 (-1), 3, 0, 0, 0, 0), none, none, some (.goto (-60), 3, 28, 0, 0, 0), none, none, some (.aload_n 0, 1, 0, 0, 0, 0), some (.getfield 24, 3, 0, 5, 2, 45), none, none, some (.aload_n 1, 1, 0, 0, 0, 0)],
  [some (.iconst 0, 1, 0, 0, 0, 0), some (.invokevirtual 36, 3, 108, 0, 4, 111), none, none, some (.iaload, 1, 0, 0, 0, 0), some (.ireturn, 1, 0, 0, 0, 0), none, none, none, none, none, none, none, none, none, none]]
def xc_X0_countRows : List (List (Option xr_R)) := [[some (.aload_n 0, 1, 0, 0, 0, 0), some (.iload_n 1, 1, 0, 0, 0, 0), some (.invokevirtual 68, 3, 15, 0, 4, 182), none, none, some (.iconst 0, 1, 0, 0, 0, 0), some (.istore_n 2, 1, 0, 0, 0, 0), some (.iconst 0, 1, 0, 0, 0, 0), some (.istore_n 3, 1, 0, 0, 0, 0), some (.iload_n 3, 1, 0, 0, 0, 0), some (.bipush 7, 2, 0, 0, 0, 0), none, some (.if_icmp .ge 20, 3, 32, 0, 0, 0), none, none, some (.iload_n 2, 1, 0, 0, 0, 0)],
  [some (.aload_n 0, 1, 0, 0, 0, 0), some (.iconst 1, 1, 0, 0, 0, 0), some (.iload_n 3, 1, 0, 0, 0, 0), some (.ishl, 1, 0, 0, 0, 0), some (.iload_n 3, 1, 0, 0, 0, 0), some (.invokevirtual 72, 3, 14, 0, 4, 186), none, none, some (.iadd, 1, 0, 0, 0, 0), some (.istore_n 2, 1, 0, 0, 0, 0), some (.iinc 3 1, 3, 0, 0, 0, 0), none, none, some (.goto (-20), 3, 9, 0, 0, 0), none, none],
  [some (.iload_n 2, 1, 0, 0, 0, 0), some (.ifCond .le 7, 3, 40, 0, 0, 0), none, none, some (.aload_n 0, 1, 0, 0, 0, 0), some (.invokevirtual 75, 3, 16, 0, 4, 190), none, none, some (.iload_n 2, 1, 0, 0, 0, 0), some (.ireturn, 1, 0, 0, 0, 0), none, none, none, none, none, none]]
def xc_X0_waysFrom : List (List (Option xr_R)) := [[some (.aload_n 0, 1, 0, 0, 0, 0), some (.getfield 27, 3, 0, 6, 2, 46), none, none, some (.iload_n 1, 1, 0, 0, 0, 0), some (.bipush 7, 2, 0, 0, 0, 0), none, some (.imul, 1, 0, 0, 0, 0), some (.iload_n 2, 1, 0, 0, 0, 0), some (.iadd, 1, 0, 0, 0, 0), some (.iaload, 1, 0, 0, 0, 0), some (.ireturn, 1, 0, 0, 0, 0), none, none, none, none]]
def xc_X0_countWays : List (List (Option xr_R)) := [[some (.iconst 0, 1, 0, 0, 0, 0), some (.istore_n 2, 1, 0, 0, 0, 0), some (.iload_n 2, 1, 0, 0, 0, 0), some (.bipush 7, 2, 0, 0, 0, 0), none, some (.if_icmp .ge 29, 3, 34, 0, 0, 0), none, none, some (.aload_n 0, 1, 0, 0, 0, 0), some (.getfield 27, 3, 0, 6, 2, 46), none, none, some (.sipush 889, 3, 0, 0, 0, 0), none, none, some (.iload_n 2, 1, 0, 0, 0, 0)],
  [some (.iadd, 1, 0, 0, 0, 0), some (.iload_n 2, 1, 0, 0, 0, 0), some (.iload_n 1, 1, 0, 0, 0, 0), some (.if_icmp .ne 7, 3, 26, 0, 0, 0), none, none, some (.iconst 1, 1, 0, 0, 0, 0), some (.goto 4, 3, 27, 0, 0, 0), none, none, some (.iconst 0, 1, 0, 0, 0, 0), some (.iastore, 1, 0, 0, 0, 0), some (.iinc 2 1, 3, 0, 0, 0, 0), none, none, some (.goto (-29), 3, 2, 0, 0, 0)],
  [none, none, some (.bipush 126, 2, 0, 0, 0, 0), none, some (.istore_n 2, 1, 0, 0, 0, 0), some (.iload_n 2, 1, 0, 0, 0, 0), some (.ifCond .le 86, 3, 124, 0, 0, 0), none, none, some (.iconst 0, 1, 0, 0, 0, 0), some (.istore_n 3, 1, 0, 0, 0, 0), some (.iload_n 3, 1, 0, 0, 0, 0), some (.bipush 7, 2, 0, 0, 0, 0), none, some (.if_icmp .ge 72, 3, 118, 0, 0, 0), none],
  [none, some (.iconst 0, 1, 0, 0, 0, 0), some (.istore 4, 2, 0, 0, 0, 0), none, some (.iconst 0, 1, 0, 0, 0, 0), some (.istore 5, 2, 0, 0, 0, 0), none, some (.iload 5, 2, 0, 0, 0, 0), none, some (.bipush 7, 2, 0, 0, 0, 0), none, some (.if_icmp .ge 40, 3, 99, 0, 0, 0), none, none, some (.iload_n 2, 1, 0, 0, 0, 0), some (.iload 5, 2, 0, 0, 0, 0)],
  [none, some (.ishr, 1, 0, 0, 0, 0), some (.iconst 1, 1, 0, 0, 0, 0), some (.iand, 1, 0, 0, 0, 0), some (.ifCond .ne 25, 3, 93, 0, 0, 0), none, none, some (.iload 4, 2, 0, 0, 0, 0), none, some (.aload_n 0, 1, 0, 0, 0, 0), some (.iload_n 2, 1, 0, 0, 0, 0), some (.iconst 1, 1, 0, 0, 0, 0), some (.iload 5, 2, 0, 0, 0, 0), none, some (.ishl, 1, 0, 0, 0, 0), some (.ior, 1, 0, 0, 0, 0)],
  [some (.aload_n 0, 1, 0, 0, 0, 0), some (.iload_n 3, 1, 0, 0, 0, 0), some (.iload 5, 2, 0, 0, 0, 0), none, some (.invokevirtual 64, 3, 10, 0, 4, 166), none, none, some (.invokevirtual 72, 3, 14, 0, 4, 186), none, none, some (.iadd, 1, 0, 0, 0, 0), some (.istore 4, 2, 0, 0, 0, 0), none, some (.iinc 5 1, 3, 0, 0, 0, 0), none, none],
  [some (.goto (-41), 3, 55, 0, 0, 0), none, none, some (.aload_n 0, 1, 0, 0, 0, 0), some (.getfield 27, 3, 0, 6, 2, 46), none, none, some (.iload_n 2, 1, 0, 0, 0, 0), some (.bipush 7, 2, 0, 0, 0, 0), none, some (.imul, 1, 0, 0, 0, 0), some (.iload_n 3, 1, 0, 0, 0, 0), some (.iadd, 1, 0, 0, 0, 0), some (.iload 4, 2, 0, 0, 0, 0), none, some (.iastore, 1, 0, 0, 0, 0)],
  [some (.iinc 3 1, 3, 0, 0, 0, 0), none, none, some (.goto (-72), 3, 43, 0, 0, 0), none, none, some (.iinc 2 (-1), 3, 0, 0, 0, 0), none, none, some (.goto (-84), 3, 37, 0, 0, 0), none, none, some (.return_, 1, 0, 0, 0, 0), none, none, none]]
def xc_X0_findFirstRow : List (List (Option xr_R)) := [[some (.iconst 0, 1, 0, 0, 0, 0), some (.istore_n 1, 1, 0, 0, 0, 0), some (.iconst (-1), 1, 0, 0, 0, 0), some (.istore_n 2, 1, 0, 0, 0, 0), some (.iconst 0, 1, 0, 0, 0, 0), some (.istore_n 3, 1, 0, 0, 0, 0), some (.iload_n 3, 1, 0, 0, 0, 0), some (.bipush 7, 2, 0, 0, 0, 0), none, some (.if_icmp .ge 89, 3, 98, 0, 0, 0), none, none, some (.iconst 0, 1, 0, 0, 0, 0), some (.istore 4, 2, 0, 0, 0, 0), none, some (.iload 4, 2, 0, 0, 0, 0)],
  [none, some (.bipush 7, 2, 0, 0, 0, 0), none, some (.if_icmp .ge 73, 3, 92, 0, 0, 0), none, none, some (.iload_n 2, 1, 0, 0, 0, 0), some (.iconst (-1), 1, 0, 0, 0, 0), some (.if_icmp .ne 8, 3, 32, 0, 0, 0), none, none, some (.iload 4, 2, 0, 0, 0, 0), none, some (.goto 10, 3, 39, 0, 0, 0), none, none],
  [some (.aload_n 0, 1, 0, 0, 0, 0), some (.iload_n 2, 1, 0, 0, 0, 0), some (.iload 4, 2, 0, 0, 0, 0), none, some (.invokevirtual 64, 3, 10, 0, 4, 166), none, none, some (.istore 5, 2, 0, 0, 0, 0), none, some (.iload_n 1, 1, 0, 0, 0, 0), some (.iload 4, 2, 0, 0, 0, 0), none, some (.ishr, 1, 0, 0, 0, 0), some (.iconst 1, 1, 0, 0, 0, 0), some (.iand, 1, 0, 0, 0, 0), some (.ifCond .ne 39, 3, 86, 0, 0, 0)],
  [none, none, some (.aload_n 0, 1, 0, 0, 0, 0), some (.iload_n 1, 1, 0, 0, 0, 0), some (.iconst 1, 1, 0, 0, 0, 0), some (.iload 4, 2, 0, 0, 0, 0), none, some (.ishl, 1, 0, 0, 0, 0), some (.ior, 1, 0, 0, 0, 0), some (.iload 5, 2, 0, 0, 0, 0), none, some (.invokevirtual 72, 3, 14, 0, 4, 186), none, none, some (.ifCond .le 24, 3, 86, 0, 0, 0), none],
  [none, some (.aload_n 0, 1, 0, 0, 0, 0), some (.getfield 11, 3, 0, 0, 2, 38), none, none, some (.iload_n 3, 1, 0, 0, 0, 0), some (.iload 4, 2, 0, 0, 0, 0), none, some (.iastore, 1, 0, 0, 0, 0), some (.iload_n 1, 1, 0, 0, 0, 0), some (.iconst 1, 1, 0, 0, 0, 0), some (.iload 4, 2, 0, 0, 0, 0), none, some (.ishl, 1, 0, 0, 0, 0), some (.ior, 1, 0, 0, 0, 0), some (.istore_n 1, 1, 0, 0, 0, 0)],
  [some (.iload 5, 2, 0, 0, 0, 0), none, some (.istore_n 2, 1, 0, 0, 0, 0), some (.goto 9, 3, 92, 0, 0, 0), none, none, some (.iinc 4 1, 3, 0, 0, 0, 0), none, none, some (.goto (-74), 3, 15, 0, 0, 0), none, none, some (.iinc 3 1, 3, 0, 0, 0, 0), none, none, some (.goto (-89), 3, 6, 0, 0, 0)],
  [none, none, some (.return_, 1, 0, 0, 0, 0), none, none, none, none, none, none, none, none, none, none, none, none, none]]
def xc_X1_init : List (List (Option xr_R)) := [[some (.aload_n 0, 1, 0, 0, 0, 0), some (.invokespecial 3, 3, 0, 1, 2, 67), none, none, some (.aload_n 0, 1, 0, 0, 0, 0), some (.bipush 60, 2, 0, 0, 0, 0), none, some (.newarray .int, 2, 0, 0, 0, 0), none, some (.putfield 11, 3, 1, 0, 2, 68), none, none, some (.aload_n 0, 1, 0, 0, 0, 0), some (.bipush 60, 2, 0, 0, 0, 0), none, some (.newarray .int, 2, 0, 0, 0, 0)],
  [none, some (.putfield 15, 3, 1, 1, 2, 70), none, none, some (.aload_n 0, 1, 0, 0, 0, 0), some (.bipush 60, 2, 0, 0, 0, 0), none, some (.newarray .boolean, 2, 0, 0, 0, 0), none, some (.putfield 18, 3, 1, 2, 2, 72), none, none, some (.aload_n 0, 1, 0, 0, 0, 0), some (.iconst 0, 1, 0, 0, 0, 0), some (.putfield 22, 3, 1, 3, 2, 74), none],
  [none, some (.return_, 1, 0, 0, 0, 0), none, none, none, none, none, none, none, none, none, none, none, none, none, none]]
def xc_X1_add : List (List (Option xr_R)) := [[some (.aload_n 0, 1, 0, 0, 0, 0), some (.getfield 22, 3, 1, 3, 2, 74), none, none, some (.bipush 60, 2, 0, 0, 0, 0), none, some (.if_icmp .lt 5, 3, 11, 0, 0, 0), none, none, some (.iconst (-1), 1, 0, 0, 0, 0), some (.ireturn, 1, 0, 0, 0, 0), some (.aload_n 0, 1, 0, 0, 0, 0), some (.getfield 11, 3, 1, 0, 2, 68), none, none, some (.aload_n 0, 1, 0, 0, 0, 0)],
  [some (.getfield 22, 3, 1, 3, 2, 74), none, none, some (.iload_n 1, 1, 0, 0, 0, 0), some (.iastore, 1, 0, 0, 0, 0), some (.aload_n 0, 1, 0, 0, 0, 0), some (.getfield 18, 3, 1, 2, 2, 72), none, none, some (.aload_n 0, 1, 0, 0, 0, 0), some (.getfield 22, 3, 1, 3, 2, 74), none, none, some (.iload_n 2, 1, 0, 0, 0, 0), some (.bastore, 1, 0, 0, 0, 0), some (.aload_n 0, 1, 0, 0, 0, 0)],
  [some (.getfield 15, 3, 1, 1, 2, 70), none, none, some (.aload_n 0, 1, 0, 0, 0, 0), some (.getfield 22, 3, 1, 3, 2, 74), none, none, some (.iload_n 3, 1, 0, 0, 0, 0), some (.iastore, 1, 0, 0, 0, 0), some (.aload_n 0, 1, 0, 0, 0, 0), some (.dup, 1, 0, 0, 0, 0), some (.getfield 22, 3, 1, 3, 2, 74), none, none, some (.iconst 1, 1, 0, 0, 0, 0), some (.iadd, 1, 0, 0, 0, 0)],
  [some (.putfield 22, 3, 1, 3, 2, 74), none, none, some (.aload_n 0, 1, 0, 0, 0, 0), some (.getfield 22, 3, 1, 3, 2, 74), none, none, some (.iconst 1, 1, 0, 0, 0, 0), some (.isub, 1, 0, 0, 0, 0), some (.ireturn, 1, 0, 0, 0, 0), none, none, none, none, none, none]]
def xc_X1_judge : List (List (Option xr_R)) := [[some (.iconst 0, 1, 0, 0, 0, 0), some (.istore_n 3, 1, 0, 0, 0, 0), some (.iconst 0, 1, 0, 0, 0, 0), some (.istore 4, 2, 0, 0, 0, 0), none, some (.iconst 0, 1, 0, 0, 0, 0), some (.istore 5, 2, 0, 0, 0, 0), none, some (.iload 5, 2, 0, 0, 0, 0), none, some (.aload_n 0, 1, 0, 0, 0, 0), some (.getfield 22, 3, 1, 3, 2, 74), none, none, some (.if_icmp .ge 86, 3, 100, 0, 0, 0), none],
  [none, some (.aload_n 0, 1, 0, 0, 0, 0), some (.getfield 15, 3, 1, 1, 2, 70), none, none, some (.iload 5, 2, 0, 0, 0, 0), none, some (.iaload, 1, 0, 0, 0, 0), some (.iload_n 2, 1, 0, 0, 0, 0), some (.if_icmp .gt 69, 3, 94, 0, 0, 0), none, none, some (.iload_n 3, 1, 0, 0, 0, 0), some (.aload_n 0, 1, 0, 0, 0, 0), some (.getfield 18, 3, 1, 2, 2, 72), none],
  [none, some (.iload 5, 2, 0, 0, 0, 0), none, some (.baload, 1, 0, 0, 0, 0), some (.ifCond .eq 21, 3, 57, 0, 0, 0), none, none, some (.aload_n 0, 1, 0, 0, 0, 0), some (.getfield 11, 3, 1, 0, 2, 68), none, none, some (.iload 5, 2, 0, 0, 0, 0), none, some (.iaload, 1, 0, 0, 0, 0), some (.iload_n 1, 1, 0, 0, 0, 0), some (.iconst (-1), 1, 0, 0, 0, 0)],
  [some (.ixor, 1, 0, 0, 0, 0), some (.iand, 1, 0, 0, 0, 0), some (.ifCond .ne 7, 3, 57, 0, 0, 0), none, none, some (.iconst 1, 1, 0, 0, 0, 0), some (.goto 4, 3, 58, 0, 0, 0), none, none, some (.iconst 0, 1, 0, 0, 0, 0), some (.ior, 1, 0, 0, 0, 0), some (.istore_n 3, 1, 0, 0, 0, 0), some (.iload 4, 2, 0, 0, 0, 0), none, some (.aload_n 0, 1, 0, 0, 0, 0), some (.getfield 18, 3, 1, 2, 2, 72)],
  [none, none, some (.iload 5, 2, 0, 0, 0, 0), none, some (.baload, 1, 0, 0, 0, 0), some (.ifCond .ne 21, 3, 90, 0, 0, 0), none, none, some (.iload_n 1, 1, 0, 0, 0, 0), some (.aload_n 0, 1, 0, 0, 0, 0), some (.getfield 11, 3, 1, 0, 2, 68), none, none, some (.iload 5, 2, 0, 0, 0, 0), none, some (.iaload, 1, 0, 0, 0, 0)],
  [some (.iconst (-1), 1, 0, 0, 0, 0), some (.ixor, 1, 0, 0, 0, 0), some (.iand, 1, 0, 0, 0, 0), some (.ifCond .ne 7, 3, 90, 0, 0, 0), none, none, some (.iconst 1, 1, 0, 0, 0, 0), some (.goto 4, 3, 91, 0, 0, 0), none, none, some (.iconst 0, 1, 0, 0, 0, 0), some (.ior, 1, 0, 0, 0, 0), some (.istore 4, 2, 0, 0, 0, 0), none, some (.iinc 5 1, 3, 0, 0, 0, 0), none],
  [none, some (.goto (-89), 3, 8, 0, 0, 0), none, none, some (.iload_n 3, 1, 0, 0, 0, 0), some (.ifCond .eq 14, 3, 115, 0, 0, 0), none, none, some (.iload 4, 2, 0, 0, 0, 0), none, some (.ifCond .eq 7, 3, 113, 0, 0, 0), none, none, some (.iconst 3, 1, 0, 0, 0, 0), some (.goto 4, 3, 114, 0, 0, 0), none],
  [none, some (.iconst 1, 1, 0, 0, 0, 0), some (.ireturn, 1, 0, 0, 0, 0), some (.iload 4, 2, 0, 0, 0, 0), none, some (.ifCond .eq 7, 3, 124, 0, 0, 0), none, none, some (.iconst 0, 1, 0, 0, 0, 0), some (.goto 4, 3, 125, 0, 0, 0), none, none, some (.iconst 2, 1, 0, 0, 0, 0), some (.ireturn, 1, 0, 0, 0, 0), none, none]]
def xc_X2_init : List (List (Option xr_R)) := [[some (.aload_n 0, 1, 0, 0, 0, 0), some (.invokespecial 3, 3, 0, 1, 1, 161), none, none, some (.aload_n 0, 1, 0, 0, 0, 0), some (.aload_n 1, 1, 0, 0, 0, 0), some (.putfield 9, 3, 2, 6, 1, 173), none, none, some (.aload_n 0, 1, 0, 0, 0, 0), some (.iconst 0, 1, 0, 0, 0, 0), some (.putfield 15, 3, 2, 7, 1, 175), none, none, some (.aload_n 0, 1, 0, 0, 0, 0), some (.sipush 924, 3, 0, 0, 0, 0)],
  [none, none, some (.newarray .int, 2, 0, 0, 0, 0), none, some (.putfield 19, 3, 2, 0, 1, 162), none, none, some (.aload_n 0, 1, 0, 0, 0, 0), some (.sipush 924, 3, 0, 0, 0, 0), none, none, some (.newarray .int, 2, 0, 0, 0, 0), none, some (.putfield 23, 3, 2, 1, 1, 165), none, none],
  [some (.aload_n 0, 1, 0, 0, 0, 0), some (.bipush 12, 2, 0, 0, 0, 0), none, some (.newarray .int, 2, 0, 0, 0, 0), none, some (.putfield 26, 3, 2, 2, 1, 168), none, none, some (.aload_n 0, 1, 0, 0, 0, 0), some (.bipush 14, 2, 0, 0, 0, 0), none, some (.newarray .int, 2, 0, 0, 0, 0), none, some (.putfield 29, 3, 2, 3, 1, 170), none, none],
  [some (.aload_n 0, 1, 0, 0, 0, 0), some (.bipush 12, 2, 0, 0, 0, 0), none, some (.newarray .int, 2, 0, 0, 0, 0), none, some (.putfield 32, 3, 2, 4, 1, 171), none, none, some (.aload_n 0, 1, 0, 0, 0, 0), some (.bipush 13, 2, 0, 0, 0, 0), none, some (.newarray .long, 2, 0, 0, 0, 0), none, some (.putfield 35, 3, 2, 5, 1, 172), none, none],
  [some (.return_, 1, 0, 0, 0, 0), none, none, none, none, none, none, none, none, none, none, none, none, none, none, none]]
def xc_X2_isOf : List (List (Option xr_R)) := [[some (.aload_n 0, 1, 0, 0, 0, 0), some (.getfield 9, 3, 2, 6, 1, 173), none, none, some (.aload_n 1, 1, 0, 0, 0, 0), some (.if_acmp .ne 15, 3, 20, 0, 0, 0), none, none, some (.aload_n 0, 1, 0, 0, 0, 0), some (.getfield 15, 3, 2, 7, 1, 175), none, none, some (.iload_n 2, 1, 0, 0, 0, 0), some (.if_icmp .ne 7, 3, 20, 0, 0, 0), none, none],
  [some (.iconst 1, 1, 0, 0, 0, 0), some (.goto 4, 3, 21, 0, 0, 0), none, none, some (.iconst 0, 1, 0, 0, 0, 0), some (.ireturn, 1, 0, 0, 0, 0), none, none, none, none, none, none, none, none, none, none]]
def xc_X2_study : List (List (Option xr_R)) := [[some (.aload_n 0, 1, 0, 0, 0, 0), some (.aload_n 1, 1, 0, 0, 0, 0), some (.iload_n 2, 1, 0, 0, 0, 0), some (.invokevirtual 39, 3, 21, 0, 3, 166), none, none, some (.ifCond .eq 4, 3, 10, 0, 0, 0), none, none, some (.return_, 1, 0, 0, 0, 0), some (.aload_n 0, 1, 0, 0, 0, 0), some (.aload_n 1, 1, 0, 0, 0, 0), some (.putfield 9, 3, 2, 6, 1, 173), none, none, some (.aload_n 0, 1, 0, 0, 0, 0)],
  [some (.iload_n 2, 1, 0, 0, 0, 0), some (.putfield 15, 3, 2, 7, 1, 175), none, none, some (.aload_n 0, 1, 0, 0, 0, 0), some (.iconst 1, 1, 0, 0, 0, 0), some (.iload_n 2, 1, 0, 0, 0, 0), some (.ishl, 1, 0, 0, 0, 0), some (.iconst 1, 1, 0, 0, 0, 0), some (.isub, 1, 0, 0, 0, 0), some (.putfield 43, 3, 2, 8, 1, 177), none, none, some (.aload_n 0, 1, 0, 0, 0, 0), some (.aload_n 0, 1, 0, 0, 0, 0), some (.aload_n 0, 1, 0, 0, 0, 0)],
  [some (.getfield 19, 3, 2, 0, 1, 162), none, none, some (.iconst 0, 1, 0, 0, 0, 0), some (.invokevirtual 46, 3, 23, 0, 3, 170), none, none, some (.putfield 50, 3, 2, 9, 1, 179), none, none, some (.aload_n 0, 1, 0, 0, 0, 0), some (.aload_n 0, 1, 0, 0, 0, 0), some (.aload_n 0, 1, 0, 0, 0, 0), some (.getfield 23, 3, 2, 1, 1, 165), none, none],
  [some (.iconst 1, 1, 0, 0, 0, 0), some (.invokevirtual 46, 3, 23, 0, 3, 170), none, none, some (.putfield 53, 3, 2, 10, 1, 182), none, none, some (.aload_n 0, 1, 0, 0, 0, 0), some (.invokevirtual 56, 3, 26, 0, 3, 190), none, none, some (.iconst 0, 1, 0, 0, 0, 0), some (.istore_n 3, 1, 0, 0, 0, 0), some (.iload_n 3, 1, 0, 0, 0, 0), some (.aload_n 0, 1, 0, 0, 0, 0), some (.getfield 15, 3, 2, 7, 1, 175)],
  [none, none, some (.if_icmp .ge 20, 3, 86, 0, 0, 0), none, none, some (.aload_n 0, 1, 0, 0, 0, 0), some (.getfield 26, 3, 2, 2, 1, 168), none, none, some (.iload_n 3, 1, 0, 0, 0, 0), some (.aload_n 0, 1, 0, 0, 0, 0), some (.iload_n 3, 1, 0, 0, 0, 0), some (.invokevirtual 59, 3, 28, 0, 3, 194), none, none, some (.iastore, 1, 0, 0, 0, 0)],
  [some (.iinc 3 1, 3, 0, 0, 0, 0), none, none, some (.goto (-22), 3, 61, 0, 0, 0), none, none, some (.aload_n 0, 1, 0, 0, 0, 0), some (.invokevirtual 63, 3, 34, 0, 3, 202), none, none, some (.return_, 1, 0, 0, 0, 0), none, none, none, none, none]]
def xc_X2_list : List (List (Option xr_R)) := [[some (.iconst 0, 1, 0, 0, 0, 0), some (.istore_n 3, 1, 0, 0, 0, 0), some (.iload_n 3, 1, 0, 0, 0, 0), some (.aload_n 0, 1, 0, 0, 0, 0), some (.getfield 29, 3, 2, 3, 1, 170), none, none, some (.arraylength, 1, 0, 0, 0, 0), some (.if_icmp .ge 16, 3, 24, 0, 0, 0), none, none, some (.aload_n 0, 1, 0, 0, 0, 0), some (.getfield 29, 3, 2, 3, 1, 170), none, none, some (.iload_n 3, 1, 0, 0, 0, 0)],
  [some (.iconst 0, 1, 0, 0, 0, 0), some (.iastore, 1, 0, 0, 0, 0), some (.iinc 3 1, 3, 0, 0, 0, 0), none, none, some (.goto (-19), 3, 2, 0, 0, 0), none, none, some (.iconst 0, 1, 0, 0, 0, 0), some (.istore_n 3, 1, 0, 0, 0, 0), some (.iload_n 3, 1, 0, 0, 0, 0), some (.aload_n 0, 1, 0, 0, 0, 0), some (.getfield 43, 3, 2, 8, 1, 177), none, none, some (.if_icmp .gt 33, 3, 64, 0, 0, 0)],
  [none, none, some (.aload_n 0, 1, 0, 0, 0, 0), some (.iload_n 3, 1, 0, 0, 0, 0), some (.iload_n 2, 1, 0, 0, 0, 0), some (.invokevirtual 66, 3, 24, 0, 3, 174), none, none, some (.ifCond .eq 18, 3, 58, 0, 0, 0), none, none, some (.aload_n 0, 1, 0, 0, 0, 0), some (.getfield 29, 3, 2, 3, 1, 170), none, none, some (.iload_n 3, 1, 0, 0, 0, 0)],
  [some (.invokestatic 70, 3, 238, 0, 3, 183), none, none, some (.iconst 1, 1, 0, 0, 0, 0), some (.iadd, 1, 0, 0, 0, 0), some (.dup2, 1, 0, 0, 0, 0), some (.iaload, 1, 0, 0, 0, 0), some (.iconst 1, 1, 0, 0, 0, 0), some (.iadd, 1, 0, 0, 0, 0), some (.iastore, 1, 0, 0, 0, 0), some (.iinc 3 1, 3, 0, 0, 0, 0), none, none, some (.goto (-35), 3, 26, 0, 0, 0), none, none],
  [some (.iconst 1, 1, 0, 0, 0, 0), some (.istore_n 3, 1, 0, 0, 0, 0), some (.iload_n 3, 1, 0, 0, 0, 0), some (.aload_n 0, 1, 0, 0, 0, 0), some (.getfield 29, 3, 2, 3, 1, 170), none, none, some (.arraylength, 1, 0, 0, 0, 0), some (.if_icmp .ge 26, 3, 98, 0, 0, 0), none, none, some (.aload_n 0, 1, 0, 0, 0, 0), some (.getfield 29, 3, 2, 3, 1, 170), none, none, some (.iload_n 3, 1, 0, 0, 0, 0)],
  [some (.dup2, 1, 0, 0, 0, 0), some (.iaload, 1, 0, 0, 0, 0), some (.aload_n 0, 1, 0, 0, 0, 0), some (.getfield 29, 3, 2, 3, 1, 170), none, none, some (.iload_n 3, 1, 0, 0, 0, 0), some (.iconst 1, 1, 0, 0, 0, 0), some (.isub, 1, 0, 0, 0, 0), some (.iaload, 1, 0, 0, 0, 0), some (.iadd, 1, 0, 0, 0, 0), some (.iastore, 1, 0, 0, 0, 0), some (.iinc 3 1, 3, 0, 0, 0, 0), none, none, some (.goto (-29), 3, 66, 0, 0, 0)],
  [none, none, some (.iconst 0, 1, 0, 0, 0, 0), some (.istore_n 3, 1, 0, 0, 0, 0), some (.iconst 0, 1, 0, 0, 0, 0), some (.istore 4, 2, 0, 0, 0, 0), none, some (.iload 4, 2, 0, 0, 0, 0), none, some (.aload_n 0, 1, 0, 0, 0, 0), some (.getfield 43, 3, 2, 8, 1, 177), none, none, some (.if_icmp .gt 52, 3, 161, 0, 0, 0), none, none],
  [some (.aload_n 0, 1, 0, 0, 0, 0), some (.iload 4, 2, 0, 0, 0, 0), none, some (.iload_n 2, 1, 0, 0, 0, 0), some (.invokevirtual 66, 3, 24, 0, 3, 174), none, none, some (.ifCond .eq 36, 3, 155, 0, 0, 0), none, none, some (.aload_n 0, 1, 0, 0, 0, 0), some (.getfield 29, 3, 2, 3, 1, 170), none, none, some (.iload 4, 2, 0, 0, 0, 0), none],
  [some (.invokestatic 70, 3, 238, 0, 3, 183), none, none, some (.dup2, 1, 0, 0, 0, 0), some (.iaload, 1, 0, 0, 0, 0), some (.dup_x2, 1, 0, 0, 0, 0), some (.iconst 1, 1, 0, 0, 0, 0), some (.iadd, 1, 0, 0, 0, 0), some (.iastore, 1, 0, 0, 0, 0), some (.istore 5, 2, 0, 0, 0, 0), none, some (.iload 5, 2, 0, 0, 0, 0), none, some (.aload_n 1, 1, 0, 0, 0, 0), some (.arraylength, 1, 0, 0, 0, 0), some (.if_icmp .ge 9, 3, 152, 0, 0, 0)],
  [none, none, some (.aload_n 1, 1, 0, 0, 0, 0), some (.iload 5, 2, 0, 0, 0, 0), none, some (.iload 4, 2, 0, 0, 0, 0), none, some (.iastore, 1, 0, 0, 0, 0), some (.iinc 3 1, 3, 0, 0, 0, 0), none, none, some (.iinc 4 1, 3, 0, 0, 0, 0), none, none, some (.goto (-55), 3, 103, 0, 0, 0), none],
  [none, some (.iload_n 3, 1, 0, 0, 0, 0), some (.aload_n 1, 1, 0, 0, 0, 0), some (.arraylength, 1, 0, 0, 0, 0), some (.invokestatic 75, 3, 0, 2, 3, 189), none, none, some (.ireturn, 1, 0, 0, 0, 0), none, none, none, none, none, none, none, none]]
def xc_X2_isMinimal : List (List (Option xr_R)) := [[some (.aload_n 0, 1, 0, 0, 0, 0), some (.iload_n 1, 1, 0, 0, 0, 0), some (.iload_n 2, 1, 0, 0, 0, 0), some (.invokevirtual 81, 3, 25, 0, 3, 178), none, none, some (.ifCond .ne 5, 3, 11, 0, 0, 0), none, none, some (.iconst 0, 1, 0, 0, 0, 0), some (.ireturn, 1, 0, 0, 0, 0), some (.iconst 0, 1, 0, 0, 0, 0), some (.istore_n 3, 1, 0, 0, 0, 0), some (.iload_n 3, 1, 0, 0, 0, 0), some (.aload_n 0, 1, 0, 0, 0, 0), some (.getfield 15, 3, 2, 7, 1, 175)],
  [none, none, some (.if_icmp .ge 34, 3, 52, 0, 0, 0), none, none, some (.iload_n 1, 1, 0, 0, 0, 0), some (.iload_n 3, 1, 0, 0, 0, 0), some (.ishr, 1, 0, 0, 0, 0), some (.iconst 1, 1, 0, 0, 0, 0), some (.iand, 1, 0, 0, 0, 0), some (.ifCond .eq 20, 3, 46, 0, 0, 0), none, none, some (.aload_n 0, 1, 0, 0, 0, 0), some (.iload_n 1, 1, 0, 0, 0, 0), some (.iconst 1, 1, 0, 0, 0, 0)],
  [some (.iload_n 3, 1, 0, 0, 0, 0), some (.ishl, 1, 0, 0, 0, 0), some (.iconst (-1), 1, 0, 0, 0, 0), some (.ixor, 1, 0, 0, 0, 0), some (.iand, 1, 0, 0, 0, 0), some (.iload_n 2, 1, 0, 0, 0, 0), some (.invokevirtual 81, 3, 25, 0, 3, 178), none, none, some (.ifCond .eq 5, 3, 46, 0, 0, 0), none, none, some (.iconst 0, 1, 0, 0, 0, 0), some (.ireturn, 1, 0, 0, 0, 0), some (.iinc 3 1, 3, 0, 0, 0, 0), none],
  [none, some (.goto (-36), 3, 13, 0, 0, 0), none, none, some (.iconst 1, 1, 0, 0, 0, 0), some (.ireturn, 1, 0, 0, 0, 0), none, none, none, none, none, none, none, none, none, none]]
def xc_X2_does : List (List (Option xr_R)) := [[some (.iload_n 2, 1, 0, 0, 0, 0), some (.ifCond .eq 29, 3, 30, 0, 0, 0), none, none, some (.aload_n 0, 1, 0, 0, 0, 0), some (.getfield 9, 3, 2, 6, 1, 173), none, none, some (.aload_n 0, 1, 0, 0, 0, 0), some (.getfield 43, 3, 2, 8, 1, 177), none, none, some (.iload_n 1, 1, 0, 0, 0, 0), some (.iconst (-1), 1, 0, 0, 0, 0), some (.ixor, 1, 0, 0, 0, 0), some (.iand, 1, 0, 0, 0, 0)],
  [some (.invokevirtual 84, 3, 102, 0, 3, 182), none, none, some (.ifCond .ne 7, 3, 26, 0, 0, 0), none, none, some (.iconst 1, 1, 0, 0, 0, 0), some (.goto 15, 3, 38, 0, 0, 0), none, none, some (.iconst 0, 1, 0, 0, 0, 0), some (.goto 11, 3, 38, 0, 0, 0), none, none, some (.aload_n 0, 1, 0, 0, 0, 0), some (.getfield 9, 3, 2, 6, 1, 173)],
  [none, none, some (.iload_n 1, 1, 0, 0, 0, 0), some (.invokevirtual 84, 3, 102, 0, 3, 182), none, none, some (.ireturn, 1, 0, 0, 0, 0), none, none, none, none, none, none, none, none, none]]
def xc_X2_markNeeded : List (List (Option xr_R)) := [[some (.aload_n 0, 1, 0, 0, 0, 0), some (.aload_n 0, 1, 0, 0, 0, 0), some (.getfield 50, 3, 2, 9, 1, 179), none, none, some (.ifCond .le 10, 3, 15, 0, 0, 0), none, none, some (.aload_n 0, 1, 0, 0, 0, 0), some (.getfield 43, 3, 2, 8, 1, 177), none, none, some (.goto 4, 3, 16, 0, 0, 0), none, none, some (.iconst 0, 1, 0, 0, 0, 0)],
  [some (.putfield 90, 3, 2, 11, 1, 184), none, none, some (.aload_n 0, 1, 0, 0, 0, 0), some (.aload_n 0, 1, 0, 0, 0, 0), some (.getfield 43, 3, 2, 8, 1, 177), none, none, some (.putfield 93, 3, 2, 12, 1, 186), none, none, some (.iconst 0, 1, 0, 0, 0, 0), some (.istore_n 1, 1, 0, 0, 0, 0), some (.iload_n 1, 1, 0, 0, 0, 0), some (.aload_n 0, 1, 0, 0, 0, 0), some (.getfield 50, 3, 2, 9, 1, 179)],
  [none, none, some (.if_icmp .ge 41, 3, 75, 0, 0, 0), none, none, some (.aload_n 0, 1, 0, 0, 0, 0), some (.dup, 1, 0, 0, 0, 0), some (.getfield 90, 3, 2, 11, 1, 184), none, none, some (.aload_n 0, 1, 0, 0, 0, 0), some (.getfield 19, 3, 2, 0, 1, 162), none, none, some (.iload_n 1, 1, 0, 0, 0, 0), some (.iaload, 1, 0, 0, 0, 0)],
  [some (.iand, 1, 0, 0, 0, 0), some (.putfield 90, 3, 2, 11, 1, 184), none, none, some (.aload_n 0, 1, 0, 0, 0, 0), some (.dup, 1, 0, 0, 0, 0), some (.getfield 93, 3, 2, 12, 1, 186), none, none, some (.aload_n 0, 1, 0, 0, 0, 0), some (.getfield 19, 3, 2, 0, 1, 162), none, none, some (.iload_n 1, 1, 0, 0, 0, 0), some (.iaload, 1, 0, 0, 0, 0), some (.iconst (-1), 1, 0, 0, 0, 0)],
  [some (.ixor, 1, 0, 0, 0, 0), some (.iand, 1, 0, 0, 0, 0), some (.putfield 93, 3, 2, 12, 1, 186), none, none, some (.iinc 1 1, 3, 0, 0, 0, 0), none, none, some (.goto (-43), 3, 29, 0, 0, 0), none, none, some (.return_, 1, 0, 0, 0, 0), none, none, none, none]]
def xc_X2_turnsBy : List (List (Option xr_R)) := [[some (.iload_n 1, 1, 0, 0, 0, 0), some (.iload_n 2, 1, 0, 0, 0, 0), some (.ishr, 1, 0, 0, 0, 0), some (.iconst 1, 1, 0, 0, 0, 0), some (.iand, 1, 0, 0, 0, 0), some (.ifCond .ne 33, 3, 38, 0, 0, 0), none, none, some (.aload_n 0, 1, 0, 0, 0, 0), some (.getfield 9, 3, 2, 6, 1, 173), none, none, some (.iload_n 1, 1, 0, 0, 0, 0), some (.invokevirtual 84, 3, 102, 0, 3, 182), none, none],
  [some (.ifCond .ne 22, 3, 38, 0, 0, 0), none, none, some (.aload_n 0, 1, 0, 0, 0, 0), some (.getfield 9, 3, 2, 6, 1, 173), none, none, some (.iload_n 1, 1, 0, 0, 0, 0), some (.iconst 1, 1, 0, 0, 0, 0), some (.iload_n 2, 1, 0, 0, 0, 0), some (.ishl, 1, 0, 0, 0, 0), some (.ior, 1, 0, 0, 0, 0), some (.invokevirtual 84, 3, 102, 0, 3, 182), none, none, some (.ifCond .eq 7, 3, 38, 0, 0, 0)],
  [none, none, some (.iconst 1, 1, 0, 0, 0, 0), some (.goto 4, 3, 39, 0, 0, 0), none, none, some (.iconst 0, 1, 0, 0, 0, 0), some (.ireturn, 1, 0, 0, 0, 0), none, none, none, none, none, none, none, none]]
def xc_X2_countSwings : List (List (Option xr_R)) := [[some (.iconst 0, 1, 0, 0, 0, 0), some (.istore_n 2, 1, 0, 0, 0, 0), some (.iconst 0, 1, 0, 0, 0, 0), some (.istore_n 3, 1, 0, 0, 0, 0), some (.iload_n 3, 1, 0, 0, 0, 0), some (.aload_n 0, 1, 0, 0, 0, 0), some (.getfield 43, 3, 2, 8, 1, 177), none, none, some (.if_icmp .gt 21, 3, 30, 0, 0, 0), none, none, some (.aload_n 0, 1, 0, 0, 0, 0), some (.iload_n 3, 1, 0, 0, 0, 0), some (.iload_n 1, 1, 0, 0, 0, 0), some (.invokevirtual 96, 3, 27, 0, 3, 198)],
  [none, none, some (.ifCond .eq 6, 3, 24, 0, 0, 0), none, none, some (.iinc 2 1, 3, 0, 0, 0, 0), none, none, some (.iinc 3 1, 3, 0, 0, 0, 0), none, none, some (.goto (-23), 3, 4, 0, 0, 0), none, none, some (.iload_n 2, 1, 0, 0, 0, 0), some (.ireturn, 1, 0, 0, 0, 0)]]
def xc_X2_countCarrying : List (List (Option xr_R)) := [[some (.iconst 0, 1, 0, 0, 0, 0), some (.istore_n 1, 1, 0, 0, 0, 0), some (.iconst 0, 1, 0, 0, 0, 0), some (.istore_n 2, 1, 0, 0, 0, 0), some (.iload_n 2, 1, 0, 0, 0, 0), some (.aload_n 0, 1, 0, 0, 0, 0), some (.getfield 43, 3, 2, 8, 1, 177), none, none, some (.if_icmp .gt 23, 3, 32, 0, 0, 0), none, none, some (.aload_n 0, 1, 0, 0, 0, 0), some (.getfield 9, 3, 2, 6, 1, 173), none, none],
  [some (.iload_n 2, 1, 0, 0, 0, 0), some (.invokevirtual 84, 3, 102, 0, 3, 182), none, none, some (.ifCond .eq 6, 3, 26, 0, 0, 0), none, none, some (.iinc 1 1, 3, 0, 0, 0, 0), none, none, some (.iinc 2 1, 3, 0, 0, 0, 0), none, none, some (.goto (-25), 3, 4, 0, 0, 0), none, none],
  [some (.iload_n 1, 1, 0, 0, 0, 0), some (.ireturn, 1, 0, 0, 0, 0), none, none, none, none, none, none, none, none, none, none, none, none, none, none]]
def xc_X2_isProper : List (List (Option xr_R)) := [[some (.iconst 0, 1, 0, 0, 0, 0), some (.istore_n 1, 1, 0, 0, 0, 0), some (.iload_n 1, 1, 0, 0, 0, 0), some (.aload_n 0, 1, 0, 0, 0, 0), some (.getfield 43, 3, 2, 8, 1, 177), none, none, some (.if_icmp .gt 40, 3, 47, 0, 0, 0), none, none, some (.aload_n 0, 1, 0, 0, 0, 0), some (.getfield 9, 3, 2, 6, 1, 173), none, none, some (.iload_n 1, 1, 0, 0, 0, 0), some (.invokevirtual 84, 3, 102, 0, 3, 182)],
  [none, none, some (.ifCond .eq 23, 3, 41, 0, 0, 0), none, none, some (.aload_n 0, 1, 0, 0, 0, 0), some (.getfield 9, 3, 2, 6, 1, 173), none, none, some (.aload_n 0, 1, 0, 0, 0, 0), some (.getfield 43, 3, 2, 8, 1, 177), none, none, some (.iload_n 1, 1, 0, 0, 0, 0), some (.iconst (-1), 1, 0, 0, 0, 0), some (.ixor, 1, 0, 0, 0, 0)],
  [some (.iand, 1, 0, 0, 0, 0), some (.invokevirtual 84, 3, 102, 0, 3, 182), none, none, some (.ifCond .eq 5, 3, 41, 0, 0, 0), none, none, some (.iconst 0, 1, 0, 0, 0, 0), some (.ireturn, 1, 0, 0, 0, 0), some (.iinc 1 1, 3, 0, 0, 0, 0), none, none, some (.goto (-42), 3, 2, 0, 0, 0), none, none, some (.iconst 1, 1, 0, 0, 0, 0)],
  [some (.ireturn, 1, 0, 0, 0, 0), none, none, none, none, none, none, none, none, none, none, none, none, none, none, none]]
def xc_X2_isStrong : List (List (Option xr_R)) := [[some (.iconst 0, 1, 0, 0, 0, 0), some (.istore_n 1, 1, 0, 0, 0, 0), some (.iload_n 1, 1, 0, 0, 0, 0), some (.aload_n 0, 1, 0, 0, 0, 0), some (.getfield 43, 3, 2, 8, 1, 177), none, none, some (.if_icmp .gt 40, 3, 47, 0, 0, 0), none, none, some (.aload_n 0, 1, 0, 0, 0, 0), some (.getfield 9, 3, 2, 6, 1, 173), none, none, some (.iload_n 1, 1, 0, 0, 0, 0), some (.invokevirtual 84, 3, 102, 0, 3, 182)],
  [none, none, some (.ifCond .ne 23, 3, 41, 0, 0, 0), none, none, some (.aload_n 0, 1, 0, 0, 0, 0), some (.getfield 9, 3, 2, 6, 1, 173), none, none, some (.aload_n 0, 1, 0, 0, 0, 0), some (.getfield 43, 3, 2, 8, 1, 177), none, none, some (.iload_n 1, 1, 0, 0, 0, 0), some (.iconst (-1), 1, 0, 0, 0, 0), some (.ixor, 1, 0, 0, 0, 0)],
  [some (.iand, 1, 0, 0, 0, 0), some (.invokevirtual 84, 3, 102, 0, 3, 182), none, none, some (.ifCond .ne 5, 3, 41, 0, 0, 0), none, none, some (.iconst 0, 1, 0, 0, 0, 0), some (.ireturn, 1, 0, 0, 0, 0), some (.iinc 1 1, 3, 0, 0, 0, 0), none, none, some (.goto (-42), 3, 2, 0, 0, 0), none, none, some (.iconst 1, 1, 0, 0, 0, 0)],
  [some (.ireturn, 1, 0, 0, 0, 0), none, none, none, none, none, none, none, none, none, none, none, none, none, none, none]]
def xc_X2_isLined : List (List (Option xr_R)) := [[some (.iconst 0, 1, 0, 0, 0, 0), some (.istore_n 1, 1, 0, 0, 0, 0), some (.iload_n 1, 1, 0, 0, 0, 0), some (.aload_n 0, 1, 0, 0, 0, 0), some (.getfield 15, 3, 2, 7, 1, 175), none, none, some (.if_icmp .ge 34, 3, 41, 0, 0, 0), none, none, some (.iconst 0, 1, 0, 0, 0, 0), some (.istore_n 2, 1, 0, 0, 0, 0), some (.iload_n 2, 1, 0, 0, 0, 0), some (.iload_n 1, 1, 0, 0, 0, 0), some (.if_icmp .ge 21, 3, 35, 0, 0, 0), none],
  [none, some (.aload_n 0, 1, 0, 0, 0, 0), some (.iload_n 1, 1, 0, 0, 0, 0), some (.iload_n 2, 1, 0, 0, 0, 0), some (.invokevirtual 100, 3, 33, 0, 3, 227), none, none, some (.iconst 2, 1, 0, 0, 0, 0), some (.if_icmp .ne 5, 3, 29, 0, 0, 0), none, none, some (.iconst 0, 1, 0, 0, 0, 0), some (.ireturn, 1, 0, 0, 0, 0), some (.iinc 2 1, 3, 0, 0, 0, 0), none, none],
  [some (.goto (-20), 3, 12, 0, 0, 0), none, none, some (.iinc 1 1, 3, 0, 0, 0, 0), none, none, some (.goto (-36), 3, 2, 0, 0, 0), none, none, some (.iconst 1, 1, 0, 0, 0, 0), some (.ireturn, 1, 0, 0, 0, 0), none, none, none, none, none]]
def xc_X2_compare : List (List (Option xr_R)) := [[some (.aload_n 0, 1, 0, 0, 0, 0), some (.getfield 32, 3, 2, 4, 1, 171), none, none, some (.iload_n 1, 1, 0, 0, 0, 0), some (.iaload, 1, 0, 0, 0, 0), some (.iload_n 2, 1, 0, 0, 0, 0), some (.ishr, 1, 0, 0, 0, 0), some (.iconst 1, 1, 0, 0, 0, 0), some (.iand, 1, 0, 0, 0, 0), some (.ifCond .eq 7, 3, 17, 0, 0, 0), none, none, some (.iconst 1, 1, 0, 0, 0, 0), some (.goto 4, 3, 18, 0, 0, 0), none],
  [none, some (.iconst 0, 1, 0, 0, 0, 0), some (.istore_n 3, 1, 0, 0, 0, 0), some (.aload_n 0, 1, 0, 0, 0, 0), some (.getfield 32, 3, 2, 4, 1, 171), none, none, some (.iload_n 2, 1, 0, 0, 0, 0), some (.iaload, 1, 0, 0, 0, 0), some (.iload_n 1, 1, 0, 0, 0, 0), some (.ishr, 1, 0, 0, 0, 0), some (.iconst 1, 1, 0, 0, 0, 0), some (.iand, 1, 0, 0, 0, 0), some (.ifCond .eq 7, 3, 36, 0, 0, 0), none, none],
  [some (.iconst 1, 1, 0, 0, 0, 0), some (.goto 4, 3, 37, 0, 0, 0), none, none, some (.iconst 0, 1, 0, 0, 0, 0), some (.istore 4, 2, 0, 0, 0, 0), none, some (.iload_n 3, 1, 0, 0, 0, 0), some (.ifCond .eq 14, 3, 54, 0, 0, 0), none, none, some (.iload 4, 2, 0, 0, 0, 0), none, some (.ifCond .eq 7, 3, 52, 0, 0, 0), none, none],
  [some (.iconst 0, 1, 0, 0, 0, 0), some (.goto 4, 3, 53, 0, 0, 0), none, none, some (.iconst 1, 1, 0, 0, 0, 0), some (.ireturn, 1, 0, 0, 0, 0), some (.iload 4, 2, 0, 0, 0, 0), none, some (.ifCond .eq 7, 3, 63, 0, 0, 0), none, none, some (.iconst (-1), 1, 0, 0, 0, 0), some (.goto 4, 3, 64, 0, 0, 0), none, none, some (.iconst 2, 1, 0, 0, 0, 0)],
  [some (.ireturn, 1, 0, 0, 0, 0), none, none, none, none, none, none, none, none, none, none, none, none, none, none, none]]
def xc_X2_compareAll : List (List (Option xr_R)) := [[some (.iconst 0, 1, 0, 0, 0, 0), some (.istore_n 1, 1, 0, 0, 0, 0), some (.iload_n 1, 1, 0, 0, 0, 0), some (.aload_n 0, 1, 0, 0, 0, 0), some (.getfield 15, 3, 2, 7, 1, 175), none, none, some (.if_icmp .ge 53, 3, 60, 0, 0, 0), none, none, some (.aload_n 0, 1, 0, 0, 0, 0), some (.getfield 32, 3, 2, 4, 1, 171), none, none, some (.iload_n 1, 1, 0, 0, 0, 0), some (.iconst 0, 1, 0, 0, 0, 0)],
  [some (.iastore, 1, 0, 0, 0, 0), some (.iconst 0, 1, 0, 0, 0, 0), some (.istore_n 2, 1, 0, 0, 0, 0), some (.iload_n 2, 1, 0, 0, 0, 0), some (.aload_n 0, 1, 0, 0, 0, 0), some (.getfield 15, 3, 2, 7, 1, 175), none, none, some (.if_icmp .ge 30, 3, 54, 0, 0, 0), none, none, some (.aload_n 0, 1, 0, 0, 0, 0), some (.iload_n 1, 1, 0, 0, 0, 0), some (.iload_n 2, 1, 0, 0, 0, 0), some (.invokevirtual 103, 3, 35, 0, 3, 206), none],
  [none, some (.ifCond .eq 15, 3, 48, 0, 0, 0), none, none, some (.aload_n 0, 1, 0, 0, 0, 0), some (.getfield 32, 3, 2, 4, 1, 171), none, none, some (.iload_n 1, 1, 0, 0, 0, 0), some (.dup2, 1, 0, 0, 0, 0), some (.iaload, 1, 0, 0, 0, 0), some (.iconst 1, 1, 0, 0, 0, 0), some (.iload_n 2, 1, 0, 0, 0, 0), some (.ishl, 1, 0, 0, 0, 0), some (.ior, 1, 0, 0, 0, 0), some (.iastore, 1, 0, 0, 0, 0)],
  [some (.iinc 2 1, 3, 0, 0, 0, 0), none, none, some (.goto (-32), 3, 19, 0, 0, 0), none, none, some (.iinc 1 1, 3, 0, 0, 0, 0), none, none, some (.goto (-55), 3, 2, 0, 0, 0), none, none, some (.return_, 1, 0, 0, 0, 0), none, none, none]]
def xc_X2_isAtLeast : List (List (Option xr_R)) := [[some (.iconst 1, 1, 0, 0, 0, 0), some (.iload_n 1, 1, 0, 0, 0, 0), some (.ishl, 1, 0, 0, 0, 0), some (.iconst 1, 1, 0, 0, 0, 0), some (.iload_n 2, 1, 0, 0, 0, 0), some (.ishl, 1, 0, 0, 0, 0), some (.ior, 1, 0, 0, 0, 0), some (.istore_n 3, 1, 0, 0, 0, 0), some (.iconst 0, 1, 0, 0, 0, 0), some (.istore 4, 2, 0, 0, 0, 0), none, some (.iload 4, 2, 0, 0, 0, 0), none, some (.aload_n 0, 1, 0, 0, 0, 0), some (.getfield 43, 3, 2, 8, 1, 177), none],
  [none, some (.if_icmp .gt 50, 3, 67, 0, 0, 0), none, none, some (.iload 4, 2, 0, 0, 0, 0), none, some (.iload_n 3, 1, 0, 0, 0, 0), some (.iand, 1, 0, 0, 0, 0), some (.ifCond .ne 37, 3, 61, 0, 0, 0), none, none, some (.aload_n 0, 1, 0, 0, 0, 0), some (.getfield 9, 3, 2, 6, 1, 173), none, none, some (.iload 4, 2, 0, 0, 0, 0)],
  [none, some (.iconst 1, 1, 0, 0, 0, 0), some (.iload_n 2, 1, 0, 0, 0, 0), some (.ishl, 1, 0, 0, 0, 0), some (.ior, 1, 0, 0, 0, 0), some (.invokevirtual 84, 3, 102, 0, 3, 182), none, none, some (.ifCond .eq 21, 3, 61, 0, 0, 0), none, none, some (.aload_n 0, 1, 0, 0, 0, 0), some (.getfield 9, 3, 2, 6, 1, 173), none, none, some (.iload 4, 2, 0, 0, 0, 0)],
  [none, some (.iconst 1, 1, 0, 0, 0, 0), some (.iload_n 1, 1, 0, 0, 0, 0), some (.ishl, 1, 0, 0, 0, 0), some (.ior, 1, 0, 0, 0, 0), some (.invokevirtual 84, 3, 102, 0, 3, 182), none, none, some (.ifCond .ne 5, 3, 61, 0, 0, 0), none, none, some (.iconst 0, 1, 0, 0, 0, 0), some (.ireturn, 1, 0, 0, 0, 0), some (.iinc 4 1, 3, 0, 0, 0, 0), none, none],
  [some (.goto (-53), 3, 11, 0, 0, 0), none, none, some (.iconst 1, 1, 0, 0, 0, 0), some (.ireturn, 1, 0, 0, 0, 0), none, none, none, none, none, none, none, none, none, none, none]]
def xc_X2_upperShare : List (List (Option xr_R)) := [[some (.iload_n 2, 1, 0, 0, 0, 0), some (.ifCond .ne 11, 3, 12, 0, 0, 0), none, none, some (.aload_n 0, 1, 0, 0, 0, 0), some (.getfield 26, 3, 2, 2, 1, 168), none, none, some (.iload_n 1, 1, 0, 0, 0, 0), some (.iaload, 1, 0, 0, 0, 0), some (.i2l, 1, 0, 0, 0, 0), some (.lreturn, 1, 0, 0, 0, 0), some (.iload_n 2, 1, 0, 0, 0, 0), some (.iconst 1, 1, 0, 0, 0, 0), some (.if_icmp .ne 11, 3, 25, 0, 0, 0), none],
  [none, some (.aload_n 0, 1, 0, 0, 0, 0), some (.iload_n 1, 1, 0, 0, 0, 0), some (.invokevirtual 106, 3, 38, 0, 5, 59), none, none, some (.goto 8, 3, 30, 0, 0, 0), none, none, some (.aload_n 0, 1, 0, 0, 0, 0), some (.iload_n 1, 1, 0, 0, 0, 0), some (.invokevirtual 110, 3, 39, 0, 5, 65), none, none, some (.lreturn, 1, 0, 0, 0, 0), none]]
def xc_X2_lowerShare : List (List (Option xr_R)) := [[some (.iload_n 1, 1, 0, 0, 0, 0), some (.iconst 1, 1, 0, 0, 0, 0), some (.if_icmp .ne 12, 3, 14, 0, 0, 0), none, none, some (.getstatic 113, 3, 0, 0, 5, 63), none, none, some (.aload_n 0, 1, 0, 0, 0, 0), some (.getfield 15, 3, 2, 7, 1, 175), none, none, some (.laload, 1, 0, 0, 0, 0), some (.lreturn, 1, 0, 0, 0, 0), some (.iload_n 1, 1, 0, 0, 0, 0), some (.iconst 2, 1, 0, 0, 0, 0)],
  [some (.if_icmp .ne 13, 3, 29, 0, 0, 0), none, none, some (.ldc2_w 116, 3, 27720, 0, 5, 69), none, none, some (.aload_n 0, 1, 0, 0, 0, 0), some (.getfield 50, 3, 2, 9, 1, 179), none, none, some (.i2l, 1, 0, 0, 0, 0), some (.lmul, 1, 0, 0, 0, 0), some (.lreturn, 1, 0, 0, 0, 0), some (.lconst 0, 1, 0, 0, 0, 0), some (.lstore_n 2, 1, 0, 0, 0, 0), some (.iconst 0, 1, 0, 0, 0, 0)],
  [some (.istore 4, 2, 0, 0, 0, 0), none, some (.iload 4, 2, 0, 0, 0, 0), none, some (.aload_n 0, 1, 0, 0, 0, 0), some (.getfield 15, 3, 2, 7, 1, 175), none, none, some (.if_icmp .ge 20, 3, 60, 0, 0, 0), none, none, some (.lload_n 2, 1, 0, 0, 0, 0), some (.aload_n 0, 1, 0, 0, 0, 0), some (.getfield 26, 3, 2, 2, 1, 168), none, none],
  [some (.iload 4, 2, 0, 0, 0, 0), none, some (.iaload, 1, 0, 0, 0, 0), some (.i2l, 1, 0, 0, 0, 0), some (.ladd, 1, 0, 0, 0, 0), some (.lstore_n 2, 1, 0, 0, 0, 0), some (.iinc 4 1, 3, 0, 0, 0, 0), none, none, some (.goto (-23), 3, 34, 0, 0, 0), none, none, some (.lload_n 2, 1, 0, 0, 0, 0), some (.lreturn, 1, 0, 0, 0, 0), none, none]]
def xc_X2_ordersOf : List (List (Option xr_R)) := [[some (.lconst 0, 1, 0, 0, 0, 0), some (.lstore_n 2, 1, 0, 0, 0, 0), some (.iconst 0, 1, 0, 0, 0, 0), some (.istore 4, 2, 0, 0, 0, 0), none, some (.iload 4, 2, 0, 0, 0, 0), none, some (.aload_n 0, 1, 0, 0, 0, 0), some (.getfield 43, 3, 2, 8, 1, 177), none, none, some (.if_icmp .gt 49, 3, 60, 0, 0, 0), none, none, some (.aload_n 0, 1, 0, 0, 0, 0), some (.iload 4, 2, 0, 0, 0, 0)],
  [none, some (.iload_n 1, 1, 0, 0, 0, 0), some (.invokevirtual 96, 3, 27, 0, 3, 198), none, none, some (.ifCond .eq 33, 3, 54, 0, 0, 0), none, none, some (.iload 4, 2, 0, 0, 0, 0), none, some (.invokestatic 70, 3, 238, 0, 3, 183), none, none, some (.istore 5, 2, 0, 0, 0, 0), none, some (.lload_n 2, 1, 0, 0, 0, 0)],
  [some (.getstatic 113, 3, 0, 0, 5, 63), none, none, some (.iload 5, 2, 0, 0, 0, 0), none, some (.laload, 1, 0, 0, 0, 0), some (.getstatic 113, 3, 0, 0, 5, 63), none, none, some (.aload_n 0, 1, 0, 0, 0, 0), some (.getfield 15, 3, 2, 7, 1, 175), none, none, some (.iconst 1, 1, 0, 0, 0, 0), some (.isub, 1, 0, 0, 0, 0), some (.iload 5, 2, 0, 0, 0, 0)],
  [none, some (.isub, 1, 0, 0, 0, 0), some (.laload, 1, 0, 0, 0, 0), some (.lmul, 1, 0, 0, 0, 0), some (.ladd, 1, 0, 0, 0, 0), some (.lstore_n 2, 1, 0, 0, 0, 0), some (.iinc 4 1, 3, 0, 0, 0, 0), none, none, some (.goto (-52), 3, 5, 0, 0, 0), none, none, some (.lload_n 2, 1, 0, 0, 0, 0), some (.lreturn, 1, 0, 0, 0, 0), none, none]]
def xc_X2_partsOf : List (List (Option xr_R)) := [[some (.lconst 0, 1, 0, 0, 0, 0), some (.lstore_n 2, 1, 0, 0, 0, 0), some (.iconst 0, 1, 0, 0, 0, 0), some (.istore 4, 2, 0, 0, 0, 0), none, some (.iload 4, 2, 0, 0, 0, 0), none, some (.aload_n 0, 1, 0, 0, 0, 0), some (.getfield 50, 3, 2, 9, 1, 179), none, none, some (.if_icmp .ge 50, 3, 61, 0, 0, 0), none, none, some (.aload_n 0, 1, 0, 0, 0, 0), some (.getfield 19, 3, 2, 0, 1, 162)],
  [none, none, some (.iload 4, 2, 0, 0, 0, 0), none, some (.iaload, 1, 0, 0, 0, 0), some (.invokestatic 70, 3, 238, 0, 3, 183), none, none, some (.istore 5, 2, 0, 0, 0, 0), none, some (.aload_n 0, 1, 0, 0, 0, 0), some (.getfield 19, 3, 2, 0, 1, 162), none, none, some (.iload 4, 2, 0, 0, 0, 0), none],
  [some (.iaload, 1, 0, 0, 0, 0), some (.iload_n 1, 1, 0, 0, 0, 0), some (.ishr, 1, 0, 0, 0, 0), some (.iconst 1, 1, 0, 0, 0, 0), some (.iand, 1, 0, 0, 0, 0), some (.ifCond .eq 18, 3, 55, 0, 0, 0), none, none, some (.iload 5, 2, 0, 0, 0, 0), none, some (.ifCond .le 13, 3, 55, 0, 0, 0), none, none, some (.lload_n 2, 1, 0, 0, 0, 0), some (.ldc2_w 116, 3, 27720, 0, 5, 69), none],
  [none, some (.iload 5, 2, 0, 0, 0, 0), none, some (.i2l, 1, 0, 0, 0, 0), some (.ldiv, 1, 0, 0, 0, 0), some (.ladd, 1, 0, 0, 0, 0), some (.lstore_n 2, 1, 0, 0, 0, 0), some (.iinc 4 1, 3, 0, 0, 0, 0), none, none, some (.goto (-53), 3, 5, 0, 0, 0), none, none, some (.lload_n 2, 1, 0, 0, 0, 0), some (.lreturn, 1, 0, 0, 0, 0), none]]
def xc_X2_chanceOf : List (List (Option xr_R)) := [[some (.iconst 0, 1, 0, 0, 0, 0), some (.istore_n 2, 1, 0, 0, 0, 0), some (.iload_n 2, 1, 0, 0, 0, 0), some (.aload_n 0, 1, 0, 0, 0, 0), some (.getfield 15, 3, 2, 7, 1, 175), none, none, some (.if_icmp .gt 16, 3, 23, 0, 0, 0), none, none, some (.aload_n 0, 1, 0, 0, 0, 0), some (.getfield 35, 3, 2, 5, 1, 172), none, none, some (.iload_n 2, 1, 0, 0, 0, 0), some (.lconst 0, 1, 0, 0, 0, 0)],
  [some (.lastore, 1, 0, 0, 0, 0), some (.iinc 2 1, 3, 0, 0, 0, 0), none, none, some (.goto (-18), 3, 2, 0, 0, 0), none, none, some (.iconst 0, 1, 0, 0, 0, 0), some (.istore_n 2, 1, 0, 0, 0, 0), some (.iload_n 2, 1, 0, 0, 0, 0), some (.aload_n 0, 1, 0, 0, 0, 0), some (.getfield 43, 3, 2, 8, 1, 177), none, none, some (.if_icmp .gt 33, 3, 63, 0, 0, 0), none],
  [none, some (.aload_n 0, 1, 0, 0, 0, 0), some (.getfield 9, 3, 2, 6, 1, 173), none, none, some (.iload_n 2, 1, 0, 0, 0, 0), some (.invokevirtual 84, 3, 102, 0, 3, 182), none, none, some (.ifCond .eq 16, 3, 57, 0, 0, 0), none, none, some (.aload_n 0, 1, 0, 0, 0, 0), some (.getfield 35, 3, 2, 5, 1, 172), none, none],
  [some (.iload_n 2, 1, 0, 0, 0, 0), some (.invokestatic 70, 3, 238, 0, 3, 183), none, none, some (.dup2, 1, 0, 0, 0, 0), some (.laload, 1, 0, 0, 0, 0), some (.lconst 1, 1, 0, 0, 0, 0), some (.ladd, 1, 0, 0, 0, 0), some (.lastore, 1, 0, 0, 0, 0), some (.iinc 2 1, 3, 0, 0, 0, 0), none, none, some (.goto (-35), 3, 25, 0, 0, 0), none, none, some (.lconst 0, 1, 0, 0, 0, 0)],
  [some (.lstore_n 2, 1, 0, 0, 0, 0), some (.iconst 0, 1, 0, 0, 0, 0), some (.istore 4, 2, 0, 0, 0, 0), none, some (.iload 4, 2, 0, 0, 0, 0), none, some (.aload_n 0, 1, 0, 0, 0, 0), some (.getfield 15, 3, 2, 7, 1, 175), none, none, some (.if_icmp .gt 41, 3, 115, 0, 0, 0), none, none, some (.lload_n 2, 1, 0, 0, 0, 0), some (.aload_n 0, 1, 0, 0, 0, 0), some (.getfield 35, 3, 2, 5, 1, 172)],
  [none, none, some (.iload 4, 2, 0, 0, 0, 0), none, some (.laload, 1, 0, 0, 0, 0), some (.iload_n 1, 1, 0, 0, 0, 0), some (.iload 4, 2, 0, 0, 0, 0), none, some (.invokestatic 118, 3, 41, 0, 4, 17), none, none, some (.lmul, 1, 0, 0, 0, 0), some (.bipush 10, 2, 0, 0, 0, 0), none, some (.iload_n 1, 1, 0, 0, 0, 0), some (.isub, 1, 0, 0, 0, 0)],
  [some (.aload_n 0, 1, 0, 0, 0, 0), some (.getfield 15, 3, 2, 7, 1, 175), none, none, some (.iload 4, 2, 0, 0, 0, 0), none, some (.isub, 1, 0, 0, 0, 0), some (.invokestatic 118, 3, 41, 0, 4, 17), none, none, some (.lmul, 1, 0, 0, 0, 0), some (.ladd, 1, 0, 0, 0, 0), some (.lstore_n 2, 1, 0, 0, 0, 0), some (.iinc 4 1, 3, 0, 0, 0, 0), none, none],
  [some (.goto (-44), 3, 68, 0, 0, 0), none, none, some (.lload_n 2, 1, 0, 0, 0, 0), some (.lreturn, 1, 0, 0, 0, 0), none, none, none, none, none, none, none, none, none, none, none]]
def xc_X2_power : List (List (Option xr_R)) := [[some (.lconst 1, 1, 0, 0, 0, 0), some (.lstore_n 2, 1, 0, 0, 0, 0), some (.iconst 0, 1, 0, 0, 0, 0), some (.istore 4, 2, 0, 0, 0, 0), none, some (.iload 4, 2, 0, 0, 0, 0), none, some (.iload_n 1, 1, 0, 0, 0, 0), some (.if_icmp .ge 14, 3, 22, 0, 0, 0), none, none, some (.lload_n 2, 1, 0, 0, 0, 0), some (.iload_n 0, 1, 0, 0, 0, 0), some (.i2l, 1, 0, 0, 0, 0), some (.lmul, 1, 0, 0, 0, 0), some (.lstore_n 2, 1, 0, 0, 0, 0)],
  [some (.iinc 4 1, 3, 0, 0, 0, 0), none, none, some (.goto (-14), 3, 5, 0, 0, 0), none, none, some (.lload_n 2, 1, 0, 0, 0, 0), some (.lreturn, 1, 0, 0, 0, 0), none, none, none, none, none, none, none, none]]
def xc_X2_allyOf : List (List (Option xr_R)) := [[some (.iconst (-1), 1, 0, 0, 0, 0), some (.istore_n 2, 1, 0, 0, 0, 0), some (.iconst (-1), 1, 0, 0, 0, 0), some (.istore_n 3, 1, 0, 0, 0, 0), some (.iconst 0, 1, 0, 0, 0, 0), some (.istore 4, 2, 0, 0, 0, 0), none, some (.iload 4, 2, 0, 0, 0, 0), none, some (.aload_n 0, 1, 0, 0, 0, 0), some (.getfield 15, 3, 2, 7, 1, 175), none, none, some (.if_icmp .ge 40, 3, 53, 0, 0, 0), none, none],
  [some (.iload 4, 2, 0, 0, 0, 0), none, some (.iload_n 1, 1, 0, 0, 0, 0), some (.if_icmp .ne 7, 3, 26, 0, 0, 0), none, none, some (.iconst (-1), 1, 0, 0, 0, 0), some (.goto 10, 3, 33, 0, 0, 0), none, none, some (.aload_n 0, 1, 0, 0, 0, 0), some (.iload_n 1, 1, 0, 0, 0, 0), some (.iload 4, 2, 0, 0, 0, 0), none, some (.invokevirtual 122, 3, 43, 0, 4, 28), none],
  [none, some (.istore 5, 2, 0, 0, 0, 0), none, some (.iload 5, 2, 0, 0, 0, 0), none, some (.iload_n 3, 1, 0, 0, 0, 0), some (.if_icmp .le 9, 3, 47, 0, 0, 0), none, none, some (.iload 5, 2, 0, 0, 0, 0), none, some (.istore_n 3, 1, 0, 0, 0, 0), some (.iload 4, 2, 0, 0, 0, 0), none, some (.istore_n 2, 1, 0, 0, 0, 0), some (.iinc 4 1, 3, 0, 0, 0, 0)],
  [none, none, some (.goto (-43), 3, 7, 0, 0, 0), none, none, some (.iload_n 2, 1, 0, 0, 0, 0), some (.ireturn, 1, 0, 0, 0, 0), none, none, none, none, none, none, none, none, none]]
def xc_X2_countTogether : List (List (Option xr_R)) := [[some (.iconst 1, 1, 0, 0, 0, 0), some (.iload_n 1, 1, 0, 0, 0, 0), some (.ishl, 1, 0, 0, 0, 0), some (.iconst 1, 1, 0, 0, 0, 0), some (.iload_n 2, 1, 0, 0, 0, 0), some (.ishl, 1, 0, 0, 0, 0), some (.ior, 1, 0, 0, 0, 0), some (.istore_n 3, 1, 0, 0, 0, 0), some (.iconst 0, 1, 0, 0, 0, 0), some (.istore 4, 2, 0, 0, 0, 0), none, some (.iconst 0, 1, 0, 0, 0, 0), some (.istore 5, 2, 0, 0, 0, 0), none, some (.iload 5, 2, 0, 0, 0, 0), none],
  [some (.aload_n 0, 1, 0, 0, 0, 0), some (.getfield 43, 3, 2, 8, 1, 177), none, none, some (.if_icmp .gt 65, 3, 85, 0, 0, 0), none, none, some (.iload 5, 2, 0, 0, 0, 0), none, some (.iload_n 3, 1, 0, 0, 0, 0), some (.iand, 1, 0, 0, 0, 0), some (.ifCond .ne 52, 3, 79, 0, 0, 0), none, none, some (.aload_n 0, 1, 0, 0, 0, 0), some (.getfield 9, 3, 2, 6, 1, 173)],
  [none, none, some (.iload 5, 2, 0, 0, 0, 0), none, some (.iload_n 3, 1, 0, 0, 0, 0), some (.ior, 1, 0, 0, 0, 0), some (.invokevirtual 84, 3, 102, 0, 3, 182), none, none, some (.ifCond .eq 38, 3, 79, 0, 0, 0), none, none, some (.aload_n 0, 1, 0, 0, 0, 0), some (.getfield 9, 3, 2, 6, 1, 173), none, none],
  [some (.iload 5, 2, 0, 0, 0, 0), none, some (.iconst 1, 1, 0, 0, 0, 0), some (.iload_n 1, 1, 0, 0, 0, 0), some (.ishl, 1, 0, 0, 0, 0), some (.ior, 1, 0, 0, 0, 0), some (.invokevirtual 84, 3, 102, 0, 3, 182), none, none, some (.ifCond .ne 22, 3, 79, 0, 0, 0), none, none, some (.aload_n 0, 1, 0, 0, 0, 0), some (.getfield 9, 3, 2, 6, 1, 173), none, none],
  [some (.iload 5, 2, 0, 0, 0, 0), none, some (.iconst 1, 1, 0, 0, 0, 0), some (.iload_n 2, 1, 0, 0, 0, 0), some (.ishl, 1, 0, 0, 0, 0), some (.ior, 1, 0, 0, 0, 0), some (.invokevirtual 84, 3, 102, 0, 3, 182), none, none, some (.ifCond .ne 6, 3, 79, 0, 0, 0), none, none, some (.iinc 4 1, 3, 0, 0, 0, 0), none, none, some (.iinc 5 1, 3, 0, 0, 0, 0)],
  [none, none, some (.goto (-68), 3, 14, 0, 0, 0), none, none, some (.iload 4, 2, 0, 0, 0, 0), none, some (.ireturn, 1, 0, 0, 0, 0), none, none, none, none, none, none, none, none]]
def xc_X3_init : List (List (Option xr_R)) := [[some (.aload_n 0, 1, 0, 0, 0, 0), some (.invokespecial 1, 3, 0, 1, 1, 58), none, none, some (.aload_n 0, 1, 0, 0, 0, 0), some (.sipush 400, 3, 0, 0, 0, 0), none, none, some (.newarray .int, 2, 0, 0, 0, 0), none, some (.putfield 9, 3, 3, 0, 1, 59), none, none, some (.aload_n 0, 1, 0, 0, 0, 0), some (.sipush 400, 3, 0, 0, 0, 0), none],
  [none, some (.newarray .int, 2, 0, 0, 0, 0), none, some (.putfield 13, 3, 3, 1, 1, 60), none, none, some (.aload_n 0, 1, 0, 0, 0, 0), some (.bipush 64, 2, 0, 0, 0, 0), none, some (.newarray .int, 2, 0, 0, 0, 0), none, some (.putfield 16, 3, 3, 2, 1, 61), none, none, some (.aload_n 0, 1, 0, 0, 0, 0), some (.iconst 0, 1, 0, 0, 0, 0)],
  [some (.putfield 19, 3, 3, 3, 1, 62), none, none, some (.return_, 1, 0, 0, 0, 0), none, none, none, none, none, none, none, none, none, none, none, none]]
def xc_X3_clear : List (List (Option xr_R)) := [[some (.aload_n 0, 1, 0, 0, 0, 0), some (.iconst 0, 1, 0, 0, 0, 0), some (.putfield 19, 3, 3, 3, 1, 62), none, none, some (.return_, 1, 0, 0, 0, 0), none, none, none, none, none, none, none, none, none, none]]
def xc_X3_add : List (List (Option xr_R)) := [[some (.aload_n 0, 1, 0, 0, 0, 0), some (.getfield 19, 3, 3, 3, 1, 62), none, none, some (.sipush 400, 3, 0, 0, 0, 0), none, none, some (.if_icmp .ge 33, 3, 40, 0, 0, 0), none, none, some (.aload_n 0, 1, 0, 0, 0, 0), some (.getfield 9, 3, 3, 0, 1, 59), none, none, some (.aload_n 0, 1, 0, 0, 0, 0), some (.getfield 19, 3, 3, 3, 1, 62)],
  [none, none, some (.iload_n 1, 1, 0, 0, 0, 0), some (.iastore, 1, 0, 0, 0, 0), some (.aload_n 0, 1, 0, 0, 0, 0), some (.getfield 13, 3, 3, 1, 1, 60), none, none, some (.aload_n 0, 1, 0, 0, 0, 0), some (.getfield 19, 3, 3, 3, 1, 62), none, none, some (.iload_n 2, 1, 0, 0, 0, 0), some (.iastore, 1, 0, 0, 0, 0), some (.aload_n 0, 1, 0, 0, 0, 0), some (.dup, 1, 0, 0, 0, 0)],
  [some (.getfield 19, 3, 3, 3, 1, 62), none, none, some (.iconst 1, 1, 0, 0, 0, 0), some (.iadd, 1, 0, 0, 0, 0), some (.putfield 19, 3, 3, 3, 1, 62), none, none, some (.return_, 1, 0, 0, 0, 0), none, none, none, none, none, none, none]]
def xc_X3_fill : List (List (Option xr_R)) := [[some (.iconst 0, 1, 0, 0, 0, 0), some (.istore_n 3, 1, 0, 0, 0, 0), some (.iload_n 3, 1, 0, 0, 0, 0), some (.iconst 1, 1, 0, 0, 0, 0), some (.iload_n 2, 1, 0, 0, 0, 0), some (.ishl, 1, 0, 0, 0, 0), some (.if_icmp .ge 22, 3, 28, 0, 0, 0), none, none, some (.aload_n 0, 1, 0, 0, 0, 0), some (.iload_n 3, 1, 0, 0, 0, 0), some (.invokevirtual 23, 3, 48, 0, 3, 114), none, none, some (.ifCond .eq 8, 3, 22, 0, 0, 0), none],
  [none, some (.aload_n 1, 1, 0, 0, 0, 0), some (.iload_n 3, 1, 0, 0, 0, 0), some (.invokevirtual 27, 3, 103, 0, 3, 133), none, none, some (.iinc 3 1, 3, 0, 0, 0, 0), none, none, some (.goto (-23), 3, 2, 0, 0, 0), none, none, some (.return_, 1, 0, 0, 0, 0), none, none, none]]
def xc_X3_run : List (List (Option xr_R)) := [[some (.iconst 0, 1, 0, 0, 0, 0), some (.istore_n 2, 1, 0, 0, 0, 0), some (.iconst 0, 1, 0, 0, 0, 0), some (.istore_n 3, 1, 0, 0, 0, 0), some (.iconst 0, 1, 0, 0, 0, 0), some (.istore 4, 2, 0, 0, 0, 0), none, some (.iload 4, 2, 0, 0, 0, 0), none, some (.aload_n 0, 1, 0, 0, 0, 0), some (.getfield 19, 3, 3, 3, 1, 62), none, none, some (.if_icmp .ge 159, 3, 172, 0, 0, 0), none, none],
  [some (.aload_n 0, 1, 0, 0, 0, 0), some (.getfield 9, 3, 3, 0, 1, 59), none, none, some (.iload 4, 2, 0, 0, 0, 0), none, some (.iaload, 1, 0, 0, 0, 0), some (.istore 5, 2, 0, 0, 0, 0), none, some (.aload_n 0, 1, 0, 0, 0, 0), some (.getfield 13, 3, 3, 1, 1, 60), none, none, some (.iload 4, 2, 0, 0, 0, 0), none, some (.iaload, 1, 0, 0, 0, 0)],
  [some (.istore 6, 2, 0, 0, 0, 0), none, some (.iload 5, 2, 0, 0, 0, 0), none, some (.ifCond .eq 15, 3, 51, 0, 0, 0), none, none, some (.iload 5, 2, 0, 0, 0, 0), none, some (.iconst 1, 1, 0, 0, 0, 0), some (.if_icmp .eq 9, 3, 51, 0, 0, 0), none, none, some (.iload 5, 2, 0, 0, 0, 0), none, some (.iconst 4, 1, 0, 0, 0, 0)],
  [some (.if_icmp .ne 41, 3, 89, 0, 0, 0), none, none, some (.iload 5, 2, 0, 0, 0, 0), none, some (.iconst 4, 1, 0, 0, 0, 0), some (.if_icmp .ne 7, 3, 61, 0, 0, 0), none, none, some (.iconst 0, 1, 0, 0, 0, 0), some (.goto 18, 3, 76, 0, 0, 0), none, none, some (.iload 5, 2, 0, 0, 0, 0), none, some (.ifCond .ne 7, 3, 70, 0, 0, 0)],
  [none, none, some (.iload_n 1, 1, 0, 0, 0, 0), some (.goto 4, 3, 71, 0, 0, 0), none, none, some (.iload_n 2, 1, 0, 0, 0, 0), some (.iload 6, 2, 0, 0, 0, 0), none, some (.ishr, 1, 0, 0, 0, 0), some (.iconst 1, 1, 0, 0, 0, 0), some (.iand, 1, 0, 0, 0, 0), some (.istore 7, 2, 0, 0, 0, 0), none, some (.aload_n 0, 1, 0, 0, 0, 0), some (.iload_n 3, 1, 0, 0, 0, 0)],
  [some (.iload 7, 2, 0, 0, 0, 0), none, some (.invokevirtual 33, 3, 50, 0, 3, 118), none, none, some (.istore_n 3, 1, 0, 0, 0, 0), some (.goto 80, 3, 166, 0, 0, 0), none, none, some (.iload 5, 2, 0, 0, 0, 0), none, some (.bipush 6, 2, 0, 0, 0, 0), none, some (.if_icmp .ne 26, 3, 119, 0, 0, 0), none, none],
  [some (.aload_n 0, 1, 0, 0, 0, 0), some (.iload_n 3, 1, 0, 0, 0, 0), some (.aload_n 0, 1, 0, 0, 0, 0), some (.iload_n 3, 1, 0, 0, 0, 0), some (.invokevirtual 37, 3, 51, 0, 3, 122), none, none, some (.iload 6, 2, 0, 0, 0, 0), none, some (.if_icmp .lt 7, 3, 112, 0, 0, 0), none, none, some (.iconst 1, 1, 0, 0, 0, 0), some (.goto 4, 3, 113, 0, 0, 0), none, none],
  [some (.iconst 0, 1, 0, 0, 0, 0), some (.invokevirtual 41, 3, 52, 0, 3, 126), none, none, some (.goto 50, 3, 166, 0, 0, 0), none, none, some (.aload_n 0, 1, 0, 0, 0, 0), some (.iload_n 3, 1, 0, 0, 0, 0), some (.invokevirtual 37, 3, 51, 0, 3, 122), none, none, some (.istore 7, 2, 0, 0, 0, 0), none, some (.iinc 3 (-1), 3, 0, 0, 0, 0), none],
  [none, some (.iload 5, 2, 0, 0, 0, 0), none, some (.bipush 7, 2, 0, 0, 0, 0), none, some (.if_icmp .ne 14, 3, 147, 0, 0, 0), none, none, some (.iload_n 2, 1, 0, 0, 0, 0), some (.iload 7, 2, 0, 0, 0, 0), none, some (.iload 6, 2, 0, 0, 0, 0), none, some (.ishl, 1, 0, 0, 0, 0), some (.ior, 1, 0, 0, 0, 0), some (.istore_n 2, 1, 0, 0, 0, 0)],
  [some (.goto 22, 3, 166, 0, 0, 0), none, none, some (.aload_n 0, 1, 0, 0, 0, 0), some (.iload_n 3, 1, 0, 0, 0, 0), some (.iload 5, 2, 0, 0, 0, 0), none, some (.aload_n 0, 1, 0, 0, 0, 0), some (.iload_n 3, 1, 0, 0, 0, 0), some (.invokevirtual 37, 3, 51, 0, 3, 122), none, none, some (.iload 7, 2, 0, 0, 0, 0), none, some (.iload 6, 2, 0, 0, 0, 0), none],
  [some (.invokestatic 45, 3, 49, 0, 3, 130), none, none, some (.invokevirtual 41, 3, 52, 0, 3, 126), none, none, some (.iinc 4 1, 3, 0, 0, 0, 0), none, none, some (.goto (-162), 3, 7, 0, 0, 0), none, none, some (.aload_n 0, 1, 0, 0, 0, 0), some (.iload_n 3, 1, 0, 0, 0, 0), some (.invokevirtual 37, 3, 51, 0, 3, 122), none],
  [none, some (.ifCond .eq 7, 3, 184, 0, 0, 0), none, none, some (.iconst 1, 1, 0, 0, 0, 0), some (.goto 4, 3, 185, 0, 0, 0), none, none, some (.iconst 0, 1, 0, 0, 0, 0), some (.ireturn, 1, 0, 0, 0, 0), none, none, none, none, none, none]]
def xc_X3_join : List (List (Option xr_R)) := [[some (.iload_n 0, 1, 0, 0, 0, 0), some (.iconst 2, 1, 0, 0, 0, 0), some (.if_icmp .ne 7, 3, 9, 0, 0, 0), none, none, some (.iload_n 1, 1, 0, 0, 0, 0), some (.iload_n 2, 1, 0, 0, 0, 0), some (.iand, 1, 0, 0, 0, 0), some (.ireturn, 1, 0, 0, 0, 0), some (.iload_n 0, 1, 0, 0, 0, 0), some (.iconst 3, 1, 0, 0, 0, 0), some (.if_icmp .ne 9, 3, 20, 0, 0, 0), none, none, some (.iload_n 1, 1, 0, 0, 0, 0), some (.iload_n 2, 1, 0, 0, 0, 0)],
  [some (.ior, 1, 0, 0, 0, 0), some (.goto 8, 3, 25, 0, 0, 0), none, none, some (.iload_n 1, 1, 0, 0, 0, 0), some (.iload_n 2, 1, 0, 0, 0, 0), some (.iload_n 3, 1, 0, 0, 0, 0), some (.imul, 1, 0, 0, 0, 0), some (.iadd, 1, 0, 0, 0, 0), some (.ireturn, 1, 0, 0, 0, 0), none, none, none, none, none, none]]
def xc_X3_push : List (List (Option xr_R)) := [[some (.iload_n 1, 1, 0, 0, 0, 0), some (.ifCond .lt 9, 3, 10, 0, 0, 0), none, none, some (.iload_n 1, 1, 0, 0, 0, 0), some (.bipush 64, 2, 0, 0, 0, 0), none, some (.if_icmp .lt 5, 3, 12, 0, 0, 0), none, none, some (.iload_n 1, 1, 0, 0, 0, 0), some (.ireturn, 1, 0, 0, 0, 0), some (.aload_n 0, 1, 0, 0, 0, 0), some (.getfield 16, 3, 3, 2, 1, 61), none, none],
  [some (.iload_n 1, 1, 0, 0, 0, 0), some (.iload_n 2, 1, 0, 0, 0, 0), some (.iastore, 1, 0, 0, 0, 0), some (.iload_n 1, 1, 0, 0, 0, 0), some (.iconst 1, 1, 0, 0, 0, 0), some (.iadd, 1, 0, 0, 0, 0), some (.ireturn, 1, 0, 0, 0, 0), none, none, none, none, none, none, none, none, none]]
def xc_X3_peek : List (List (Option xr_R)) := [[some (.iload_n 1, 1, 0, 0, 0, 0), some (.ifCond .le 20, 3, 21, 0, 0, 0), none, none, some (.iload_n 1, 1, 0, 0, 0, 0), some (.bipush 64, 2, 0, 0, 0, 0), none, some (.if_icmp .gt 14, 3, 21, 0, 0, 0), none, none, some (.aload_n 0, 1, 0, 0, 0, 0), some (.getfield 16, 3, 3, 2, 1, 61), none, none, some (.iload_n 1, 1, 0, 0, 0, 0), some (.iconst 1, 1, 0, 0, 0, 0)],
  [some (.isub, 1, 0, 0, 0, 0), some (.iaload, 1, 0, 0, 0, 0), some (.goto 4, 3, 22, 0, 0, 0), none, none, some (.iconst 0, 1, 0, 0, 0, 0), some (.ireturn, 1, 0, 0, 0, 0), none, none, none, none, none, none, none, none, none]]
def xc_X3_replace : List (List (Option xr_R)) := [[some (.iload_n 1, 1, 0, 0, 0, 0), some (.ifCond .le 18, 3, 19, 0, 0, 0), none, none, some (.iload_n 1, 1, 0, 0, 0, 0), some (.bipush 64, 2, 0, 0, 0, 0), none, some (.if_icmp .gt 12, 3, 19, 0, 0, 0), none, none, some (.aload_n 0, 1, 0, 0, 0, 0), some (.getfield 16, 3, 3, 2, 1, 61), none, none, some (.iload_n 1, 1, 0, 0, 0, 0), some (.iconst 1, 1, 0, 0, 0, 0)],
  [some (.isub, 1, 0, 0, 0, 0), some (.iload_n 2, 1, 0, 0, 0, 0), some (.iastore, 1, 0, 0, 0, 0), some (.return_, 1, 0, 0, 0, 0), none, none, none, none, none, none, none, none, none, none, none, none]]
def xc_X4_init : List (List (Option xr_R)) := [[some (.aload_n 0, 1, 0, 0, 0, 0), some (.invokespecial 3, 3, 0, 1, 1, 52), none, none, some (.aload_n 0, 1, 0, 0, 0, 0), some (.new 9, 3, 3, 0, 1, 53), none, none, some (.dup, 1, 0, 0, 0, 0), some (.invokespecial 11, 3, 44, 0, 1, 55), none, none, some (.putfield 12, 3, 4, 0, 1, 105), none, none, some (.aload_n 0, 1, 0, 0, 0, 0)],
  [some (.new 18, 3, 6, 0, 1, 73), none, none, some (.dup, 1, 0, 0, 0, 0), some (.aload_n 1, 1, 0, 0, 0, 0), some (.invokespecial 20, 3, 87, 0, 1, 75), none, none, some (.putfield 23, 3, 4, 1, 1, 107), none, none, some (.aload_n 0, 1, 0, 0, 0, 0), some (.bipush 16, 2, 0, 0, 0, 0), none, some (.newarray .int, 2, 0, 0, 0, 0), none],
  [some (.putfield 27, 3, 4, 2, 1, 108), none, none, some (.aload_n 0, 1, 0, 0, 0, 0), some (.bipush 16, 2, 0, 0, 0, 0), none, some (.newarray .int, 2, 0, 0, 0, 0), none, some (.putfield 31, 3, 4, 3, 1, 109), none, none, some (.return_, 1, 0, 0, 0, 0), none, none, none, none]]
def xc_X4_read : List (List (Option xr_R)) := [[some (.aload_n 0, 1, 0, 0, 0, 0), some (.getfield 12, 3, 4, 0, 1, 105), none, none, some (.invokevirtual 34, 3, 45, 0, 2, 163), none, none, some (.aload_n 0, 1, 0, 0, 0, 0), some (.iload_n 1, 1, 0, 0, 0, 0), some (.putfield 37, 3, 4, 4, 1, 110), none, none, some (.aload_n 0, 1, 0, 0, 0, 0), some (.iconst 0, 1, 0, 0, 0, 0), some (.putfield 41, 3, 4, 5, 1, 111), none],
  [none, some (.aload_n 0, 1, 0, 0, 0, 0), some (.iconst 0, 1, 0, 0, 0, 0), some (.putfield 44, 3, 4, 6, 1, 112), none, none, some (.aload_n 0, 1, 0, 0, 0, 0), some (.iconst 0, 1, 0, 0, 0, 0), some (.putfield 47, 3, 4, 7, 1, 113), none, none, some (.aload_n 0, 1, 0, 0, 0, 0), some (.iconst 0, 1, 0, 0, 0, 0), some (.putfield 50, 3, 4, 8, 1, 115), none, none],
  [some (.aload_n 0, 1, 0, 0, 0, 0), some (.iconst 0, 1, 0, 0, 0, 0), some (.putfield 53, 3, 4, 9, 1, 117), none, none, some (.aload_n 0, 1, 0, 0, 0, 0), some (.getfield 23, 3, 4, 1, 1, 107), none, none, some (.invokevirtual 56, 3, 88, 0, 2, 167), none, none, some (.iconst 1, 1, 0, 0, 0, 0), some (.istore_n 2, 1, 0, 0, 0, 0), some (.iconst 0, 1, 0, 0, 0, 0), some (.istore_n 3, 1, 0, 0, 0, 0)],
  [some (.iload_n 3, 1, 0, 0, 0, 0), some (.bipush 16, 2, 0, 0, 0, 0), none, some (.if_icmp .gt 30, 3, 81, 0, 0, 0), none, none, some (.iload_n 2, 1, 0, 0, 0, 0), some (.ifCond .eq 26, 3, 81, 0, 0, 0), none, none, some (.aload_n 0, 1, 0, 0, 0, 0), some (.getfield 23, 3, 4, 1, 1, 107), none, none, some (.ldc 59, 2, 2, 1, 0, 0), none],
  [some (.invokevirtual 61, 3, 92, 0, 2, 199), none, none, some (.ifCond .eq 14, 3, 81, 0, 0, 0), none, none, some (.aload_n 0, 1, 0, 0, 0, 0), some (.invokevirtual 65, 3, 60, 0, 3, 11), none, none, some (.istore_n 2, 1, 0, 0, 0, 0), some (.iinc 3 1, 3, 0, 0, 0, 0), none, none, some (.goto (-30), 3, 48, 0, 0, 0), none],
  [none, some (.iload_n 2, 1, 0, 0, 0, 0), some (.ifCond .eq 33, 3, 115, 0, 0, 0), none, none, some (.aload_n 0, 1, 0, 0, 0, 0), some (.ldc 69, 2, 3, 10, 0, 0), none, some (.invokevirtual 71, 3, 56, 0, 3, 67), none, none, some (.ifCond .eq 24, 3, 115, 0, 0, 0), none, none, some (.aload_n 0, 1, 0, 0, 0, 0), some (.invokevirtual 74, 3, 63, 0, 3, 46)],
  [none, none, some (.ifCond .eq 17, 3, 115, 0, 0, 0), none, none, some (.aload_n 0, 1, 0, 0, 0, 0), some (.bipush 59, 2, 0, 0, 0, 0), none, some (.invokevirtual 77, 3, 57, 0, 3, 42), none, none, some (.ifCond .eq 8, 3, 115, 0, 0, 0), none, none, some (.aload_n 0, 1, 0, 0, 0, 0), some (.invokevirtual 81, 3, 58, 0, 3, 102)],
  [none, none, some (.pop, 1, 0, 0, 0, 0), some (.return_, 1, 0, 0, 0, 0), none, none, none, none, none, none, none, none, none, none, none, none]]
def xc_X4_fail : List (List (Option xr_R)) := [[some (.aload_n 0, 1, 0, 0, 0, 0), some (.iload_n 1, 1, 0, 0, 0, 0), some (.putfield 50, 3, 4, 8, 1, 115), none, none, some (.aload_n 0, 1, 0, 0, 0, 0), some (.iload_n 2, 1, 0, 0, 0, 0), some (.putfield 53, 3, 4, 9, 1, 117), none, none, some (.iconst 0, 1, 0, 0, 0, 0), some (.ireturn, 1, 0, 0, 0, 0), none, none, none, none]]
def xc_X4_takeWord : List (List (Option xr_R)) := [[some (.aload_n 0, 1, 0, 0, 0, 0), some (.getfield 23, 3, 4, 1, 1, 107), none, none, some (.aload_n 1, 1, 0, 0, 0, 0), some (.invokevirtual 61, 3, 92, 0, 2, 199), none, none, some (.ifCond .ne 16, 3, 24, 0, 0, 0), none, none, some (.aload_n 0, 1, 0, 0, 0, 0), some (.iconst 1, 1, 0, 0, 0, 0), some (.aload_n 0, 1, 0, 0, 0, 0), some (.getfield 23, 3, 4, 1, 1, 107), none],
  [none, some (.getfield 84, 3, 6, 4, 1, 84), none, none, some (.invokevirtual 87, 3, 55, 0, 3, 30), none, none, some (.ireturn, 1, 0, 0, 0, 0), some (.aload_n 0, 1, 0, 0, 0, 0), some (.getfield 23, 3, 4, 1, 1, 107), none, none, some (.invokevirtual 91, 3, 90, 0, 3, 15), none, none, some (.iconst 1, 1, 0, 0, 0, 0)],
  [some (.ireturn, 1, 0, 0, 0, 0), none, none, none, none, none, none, none, none, none, none, none, none, none, none, none]]
def xc_X4_takeSign : List (List (Option xr_R)) := [[some (.aload_n 0, 1, 0, 0, 0, 0), some (.getfield 23, 3, 4, 1, 1, 107), none, none, some (.getfield 94, 3, 6, 3, 1, 83), none, none, some (.iload_n 1, 1, 0, 0, 0, 0), some (.if_icmp .eq 16, 3, 24, 0, 0, 0), none, none, some (.aload_n 0, 1, 0, 0, 0, 0), some (.iconst 1, 1, 0, 0, 0, 0), some (.aload_n 0, 1, 0, 0, 0, 0), some (.getfield 23, 3, 4, 1, 1, 107), none],
  [none, some (.getfield 84, 3, 6, 4, 1, 84), none, none, some (.invokevirtual 87, 3, 55, 0, 3, 30), none, none, some (.ireturn, 1, 0, 0, 0, 0), some (.aload_n 0, 1, 0, 0, 0, 0), some (.getfield 23, 3, 4, 1, 1, 107), none, none, some (.invokevirtual 91, 3, 90, 0, 3, 15), none, none, some (.iconst 1, 1, 0, 0, 0, 0)],
  [some (.ireturn, 1, 0, 0, 0, 0), none, none, none, none, none, none, none, none, none, none, none, none, none, none, none]]
def xc_X4_takeEnd : List (List (Option xr_R)) := [[some (.aload_n 0, 1, 0, 0, 0, 0), some (.getfield 23, 3, 4, 1, 1, 107), none, none, some (.getfield 94, 3, 6, 3, 1, 83), none, none, some (.ifCond .ne 17, 3, 24, 0, 0, 0), none, none, some (.aload_n 0, 1, 0, 0, 0, 0), some (.getfield 23, 3, 4, 1, 1, 107), none, none, some (.invokevirtual 97, 3, 89, 0, 3, 106), none],
  [none, some (.ifCond .ne 7, 3, 24, 0, 0, 0), none, none, some (.iconst 1, 1, 0, 0, 0, 0), some (.goto 4, 3, 25, 0, 0, 0), none, none, some (.iconst 0, 1, 0, 0, 0, 0), some (.istore_n 1, 1, 0, 0, 0, 0), some (.iload_n 1, 1, 0, 0, 0, 0), some (.ifCond .ne 18, 3, 45, 0, 0, 0), none, none, some (.aload_n 0, 1, 0, 0, 0, 0), some (.iconst 1, 1, 0, 0, 0, 0)],
  [some (.aload_n 0, 1, 0, 0, 0, 0), some (.getfield 23, 3, 4, 1, 1, 107), none, none, some (.getfield 84, 3, 6, 4, 1, 84), none, none, some (.invokevirtual 87, 3, 55, 0, 3, 30), none, none, some (.ifCond .eq 7, 3, 49, 0, 0, 0), none, none, some (.iconst 1, 1, 0, 0, 0, 0), some (.goto 4, 3, 50, 0, 0, 0), none],
  [none, some (.iconst 0, 1, 0, 0, 0, 0), some (.ireturn, 1, 0, 0, 0, 0), none, none, none, none, none, none, none, none, none, none, none, none, none]]
def xc_X4_takeOpening : List (List (Option xr_R)) := [[some (.aload_n 0, 1, 0, 0, 0, 0), some (.getfield 23, 3, 4, 1, 1, 107), none, none, some (.getfield 94, 3, 6, 3, 1, 83), none, none, some (.iload_n 1, 1, 0, 0, 0, 0), some (.if_icmp .eq 16, 3, 24, 0, 0, 0), none, none, some (.aload_n 0, 1, 0, 0, 0, 0), some (.iconst 1, 1, 0, 0, 0, 0), some (.aload_n 0, 1, 0, 0, 0, 0), some (.getfield 23, 3, 4, 1, 1, 107), none],
  [none, some (.getfield 84, 3, 6, 4, 1, 84), none, none, some (.invokevirtual 87, 3, 55, 0, 3, 30), none, none, some (.ireturn, 1, 0, 0, 0, 0), some (.aload_n 0, 1, 0, 0, 0, 0), some (.getfield 44, 3, 4, 6, 1, 112), none, none, some (.bipush 12, 2, 0, 0, 0, 0), none, some (.if_icmp .lt 16, 3, 46, 0, 0, 0), none],
  [none, some (.aload_n 0, 1, 0, 0, 0, 0), some (.iconst 4, 1, 0, 0, 0, 0), some (.aload_n 0, 1, 0, 0, 0, 0), some (.getfield 23, 3, 4, 1, 1, 107), none, none, some (.getfield 84, 3, 6, 4, 1, 84), none, none, some (.invokevirtual 87, 3, 55, 0, 3, 30), none, none, some (.ireturn, 1, 0, 0, 0, 0), some (.aload_n 0, 1, 0, 0, 0, 0), some (.dup, 1, 0, 0, 0, 0)],
  [some (.getfield 44, 3, 4, 6, 1, 112), none, none, some (.iconst 1, 1, 0, 0, 0, 0), some (.iadd, 1, 0, 0, 0, 0), some (.putfield 44, 3, 4, 6, 1, 112), none, none, some (.aload_n 0, 1, 0, 0, 0, 0), some (.getfield 23, 3, 4, 1, 1, 107), none, none, some (.invokevirtual 91, 3, 90, 0, 3, 15), none, none, some (.iconst 1, 1, 0, 0, 0, 0)],
  [some (.ireturn, 1, 0, 0, 0, 0), none, none, none, none, none, none, none, none, none, none, none, none, none, none, none]]
def xc_X4_readBody : List (List (Option xr_R)) := [[some (.aload_n 0, 1, 0, 0, 0, 0), some (.getfield 23, 3, 4, 1, 1, 107), none, none, some (.invokevirtual 91, 3, 90, 0, 3, 15), none, none, some (.aload_n 0, 1, 0, 0, 0, 0), some (.getfield 23, 3, 4, 1, 1, 107), none, none, some (.getfield 84, 3, 6, 4, 1, 84), none, none, some (.istore_n 1, 1, 0, 0, 0, 0), some (.aload_n 0, 1, 0, 0, 0, 0)],
  [some (.getfield 23, 3, 4, 1, 1, 107), none, none, some (.getfield 100, 3, 6, 5, 1, 87), none, none, some (.istore_n 2, 1, 0, 0, 0, 0), some (.aload_n 0, 1, 0, 0, 0, 0), some (.invokevirtual 103, 3, 61, 0, 3, 16), none, none, some (.ifCond .eq 28, 3, 55, 0, 0, 0), none, none, some (.aload_n 0, 1, 0, 0, 0, 0), some (.bipush 58, 2, 0, 0, 0, 0)],
  [none, some (.invokevirtual 77, 3, 57, 0, 3, 42), none, none, some (.ifCond .eq 19, 3, 55, 0, 0, 0), none, none, some (.aload_n 0, 1, 0, 0, 0, 0), some (.invokevirtual 74, 3, 63, 0, 3, 46), none, none, some (.ifCond .eq 12, 3, 55, 0, 0, 0), none, none, some (.aload_n 0, 1, 0, 0, 0, 0), some (.bipush 59, 2, 0, 0, 0, 0)],
  [none, some (.invokevirtual 77, 3, 57, 0, 3, 42), none, none, some (.ifCond .ne 5, 3, 57, 0, 0, 0), none, none, some (.iconst 0, 1, 0, 0, 0, 0), some (.ireturn, 1, 0, 0, 0, 0), some (.aload_n 0, 1, 0, 0, 0, 0), some (.getfield 12, 3, 4, 0, 1, 105), none, none, some (.bipush 7, 2, 0, 0, 0, 0), none, some (.aload_n 0, 1, 0, 0, 0, 0)],
  [some (.getfield 47, 3, 4, 7, 1, 113), none, none, some (.invokevirtual 106, 3, 46, 0, 3, 75), none, none, some (.aload_n 0, 1, 0, 0, 0, 0), some (.getfield 47, 3, 4, 7, 1, 113), none, none, some (.bipush 16, 2, 0, 0, 0, 0), none, some (.if_icmp .ge 33, 3, 109, 0, 0, 0), none, none, some (.aload_n 0, 1, 0, 0, 0, 0)],
  [some (.getfield 27, 3, 4, 2, 1, 108), none, none, some (.aload_n 0, 1, 0, 0, 0, 0), some (.getfield 47, 3, 4, 7, 1, 113), none, none, some (.iload_n 1, 1, 0, 0, 0, 0), some (.iastore, 1, 0, 0, 0, 0), some (.aload_n 0, 1, 0, 0, 0, 0), some (.getfield 31, 3, 4, 3, 1, 109), none, none, some (.aload_n 0, 1, 0, 0, 0, 0), some (.getfield 47, 3, 4, 7, 1, 113), none],
  [none, some (.iload_n 2, 1, 0, 0, 0, 0), some (.iastore, 1, 0, 0, 0, 0), some (.aload_n 0, 1, 0, 0, 0, 0), some (.dup, 1, 0, 0, 0, 0), some (.getfield 47, 3, 4, 7, 1, 113), none, none, some (.iconst 1, 1, 0, 0, 0, 0), some (.iadd, 1, 0, 0, 0, 0), some (.putfield 47, 3, 4, 7, 1, 113), none, none, some (.iconst 1, 1, 0, 0, 0, 0), some (.ireturn, 1, 0, 0, 0, 0), none]]
def xc_X4_takeNewName : List (List (Option xr_R)) := [[some (.aload_n 0, 1, 0, 0, 0, 0), some (.getfield 23, 3, 4, 1, 1, 107), none, none, some (.invokevirtual 110, 3, 93, 0, 3, 20), none, none, some (.ifCond .ne 16, 3, 23, 0, 0, 0), none, none, some (.aload_n 0, 1, 0, 0, 0, 0), some (.iconst 1, 1, 0, 0, 0, 0), some (.aload_n 0, 1, 0, 0, 0, 0), some (.getfield 23, 3, 4, 1, 1, 107), none, none],
  [some (.getfield 84, 3, 6, 4, 1, 84), none, none, some (.invokevirtual 87, 3, 55, 0, 3, 30), none, none, some (.ireturn, 1, 0, 0, 0, 0), some (.aload_n 0, 1, 0, 0, 0, 0), some (.invokevirtual 113, 3, 62, 0, 3, 34), none, none, some (.iconst (-1), 1, 0, 0, 0, 0), some (.if_icmp .eq 16, 3, 44, 0, 0, 0), none, none, some (.aload_n 0, 1, 0, 0, 0, 0)],
  [some (.iconst 3, 1, 0, 0, 0, 0), some (.aload_n 0, 1, 0, 0, 0, 0), some (.getfield 23, 3, 4, 1, 1, 107), none, none, some (.getfield 84, 3, 6, 4, 1, 84), none, none, some (.invokevirtual 87, 3, 55, 0, 3, 30), none, none, some (.ireturn, 1, 0, 0, 0, 0), some (.aload_n 0, 1, 0, 0, 0, 0), some (.getfield 47, 3, 4, 7, 1, 113), none, none],
  [some (.bipush 16, 2, 0, 0, 0, 0), none, some (.if_icmp .lt 16, 3, 66, 0, 0, 0), none, none, some (.aload_n 0, 1, 0, 0, 0, 0), some (.iconst 4, 1, 0, 0, 0, 0), some (.aload_n 0, 1, 0, 0, 0, 0), some (.getfield 23, 3, 4, 1, 1, 107), none, none, some (.getfield 84, 3, 6, 4, 1, 84), none, none, some (.invokevirtual 87, 3, 55, 0, 3, 30), none],
  [none, some (.ireturn, 1, 0, 0, 0, 0), some (.aload_n 0, 1, 0, 0, 0, 0), some (.getfield 23, 3, 4, 1, 1, 107), none, none, some (.invokevirtual 91, 3, 90, 0, 3, 15), none, none, some (.iconst 1, 1, 0, 0, 0, 0), some (.ireturn, 1, 0, 0, 0, 0), none, none, none, none, none]]
def xc_X4_toldName : List (List (Option xr_R)) := [[some (.iconst 0, 1, 0, 0, 0, 0), some (.istore_n 1, 1, 0, 0, 0, 0), some (.iload_n 1, 1, 0, 0, 0, 0), some (.aload_n 0, 1, 0, 0, 0, 0), some (.getfield 47, 3, 4, 7, 1, 113), none, none, some (.if_icmp .ge 33, 3, 40, 0, 0, 0), none, none, some (.aload_n 0, 1, 0, 0, 0, 0), some (.getfield 23, 3, 4, 1, 1, 107), none, none, some (.aload_n 0, 1, 0, 0, 0, 0), some (.getfield 27, 3, 4, 2, 1, 108)],
  [none, none, some (.iload_n 1, 1, 0, 0, 0, 0), some (.iaload, 1, 0, 0, 0, 0), some (.aload_n 0, 1, 0, 0, 0, 0), some (.getfield 31, 3, 4, 3, 1, 109), none, none, some (.iload_n 1, 1, 0, 0, 0, 0), some (.iaload, 1, 0, 0, 0, 0), some (.invokevirtual 117, 3, 96, 0, 3, 38), none, none, some (.ifCond .eq 5, 3, 34, 0, 0, 0), none, none],
  [some (.iload_n 1, 1, 0, 0, 0, 0), some (.ireturn, 1, 0, 0, 0, 0), some (.iinc 1 1, 3, 0, 0, 0, 0), none, none, some (.goto (-35), 3, 2, 0, 0, 0), none, none, some (.iconst (-1), 1, 0, 0, 0, 0), some (.ireturn, 1, 0, 0, 0, 0), none, none, none, none, none, none]]
def xc_X4_readRule : List (List (Option xr_R)) := [[some (.aload_n 0, 1, 0, 0, 0, 0), some (.invokevirtual 120, 3, 64, 0, 3, 50), none, none, some (.istore_n 1, 1, 0, 0, 0, 0), some (.iconst 0, 1, 0, 0, 0, 0), some (.istore_n 2, 1, 0, 0, 0, 0), some (.iload_n 2, 1, 0, 0, 0, 0), some (.bipush 120, 2, 0, 0, 0, 0), none, some (.if_icmp .gt 46, 3, 56, 0, 0, 0), none, none, some (.iload_n 1, 1, 0, 0, 0, 0), some (.ifCond .eq 42, 3, 56, 0, 0, 0), none],
  [none, some (.aload_n 0, 1, 0, 0, 0, 0), some (.getfield 23, 3, 4, 1, 1, 107), none, none, some (.ldc 123, 2, 5, 9, 0, 0), none, some (.invokevirtual 61, 3, 92, 0, 2, 199), none, none, some (.ifCond .eq 30, 3, 56, 0, 0, 0), none, none, some (.aload_n 0, 1, 0, 0, 0, 0), some (.getfield 23, 3, 4, 1, 1, 107), none],
  [none, some (.invokevirtual 91, 3, 90, 0, 3, 15), none, none, some (.aload_n 0, 1, 0, 0, 0, 0), some (.invokevirtual 120, 3, 64, 0, 3, 50), none, none, some (.istore_n 1, 1, 0, 0, 0, 0), some (.aload_n 0, 1, 0, 0, 0, 0), some (.getfield 12, 3, 4, 0, 1, 105), none, none, some (.iconst 3, 1, 0, 0, 0, 0), some (.iconst 0, 1, 0, 0, 0, 0), some (.invokevirtual 106, 3, 46, 0, 3, 75)],
  [none, none, some (.iinc 2 1, 3, 0, 0, 0, 0), none, none, some (.goto (-46), 3, 7, 0, 0, 0), none, none, some (.iload_n 1, 1, 0, 0, 0, 0), some (.ireturn, 1, 0, 0, 0, 0), none, none, none, none, none, none]]
def xc_X4_readAll : List (List (Option xr_R)) := [[some (.aload_n 0, 1, 0, 0, 0, 0), some (.invokevirtual 125, 3, 65, 0, 3, 54), none, none, some (.istore_n 1, 1, 0, 0, 0, 0), some (.iconst 0, 1, 0, 0, 0, 0), some (.istore_n 2, 1, 0, 0, 0, 0), some (.iload_n 2, 1, 0, 0, 0, 0), some (.bipush 120, 2, 0, 0, 0, 0), none, some (.if_icmp .gt 46, 3, 56, 0, 0, 0), none, none, some (.iload_n 1, 1, 0, 0, 0, 0), some (.ifCond .eq 42, 3, 56, 0, 0, 0), none],
  [none, some (.aload_n 0, 1, 0, 0, 0, 0), some (.getfield 23, 3, 4, 1, 1, 107), none, none, some (.ldc 128, 2, 4, 8, 0, 0), none, some (.invokevirtual 61, 3, 92, 0, 2, 199), none, none, some (.ifCond .eq 30, 3, 56, 0, 0, 0), none, none, some (.aload_n 0, 1, 0, 0, 0, 0), some (.getfield 23, 3, 4, 1, 1, 107), none],
  [none, some (.invokevirtual 91, 3, 90, 0, 3, 15), none, none, some (.aload_n 0, 1, 0, 0, 0, 0), some (.invokevirtual 125, 3, 65, 0, 3, 54), none, none, some (.istore_n 1, 1, 0, 0, 0, 0), some (.aload_n 0, 1, 0, 0, 0, 0), some (.getfield 12, 3, 4, 0, 1, 105), none, none, some (.iconst 2, 1, 0, 0, 0, 0), some (.iconst 0, 1, 0, 0, 0, 0), some (.invokevirtual 106, 3, 46, 0, 3, 75)],
  [none, none, some (.iinc 2 1, 3, 0, 0, 0, 0), none, none, some (.goto (-46), 3, 7, 0, 0, 0), none, none, some (.iload_n 1, 1, 0, 0, 0, 0), some (.ireturn, 1, 0, 0, 0, 0), none, none, none, none, none, none]]
def xc_X4_readOne : List (List (Option xr_R)) := [[some (.aload_n 0, 1, 0, 0, 0, 0), some (.getfield 23, 3, 4, 1, 1, 107), none, none, some (.getfield 84, 3, 6, 4, 1, 84), none, none, some (.istore_n 1, 1, 0, 0, 0, 0), some (.aload_n 0, 1, 0, 0, 0, 0), some (.getfield 23, 3, 4, 1, 1, 107), none, none, some (.getfield 94, 3, 6, 3, 1, 83), none, none, some (.iconst 3, 1, 0, 0, 0, 0)],
  [some (.if_icmp .ne 25, 3, 41, 0, 0, 0), none, none, some (.aload_n 0, 1, 0, 0, 0, 0), some (.getfield 23, 3, 4, 1, 1, 107), none, none, some (.getfield 130, 3, 6, 6, 1, 89), none, none, some (.istore_n 2, 1, 0, 0, 0, 0), some (.aload_n 0, 1, 0, 0, 0, 0), some (.getfield 23, 3, 4, 1, 1, 107), none, none, some (.invokevirtual 91, 3, 90, 0, 3, 15)],
  [none, none, some (.aload_n 0, 1, 0, 0, 0, 0), some (.iload_n 1, 1, 0, 0, 0, 0), some (.iload_n 2, 1, 0, 0, 0, 0), some (.invokevirtual 133, 3, 69, 0, 3, 58), none, none, some (.ireturn, 1, 0, 0, 0, 0), some (.aload_n 0, 1, 0, 0, 0, 0), some (.getfield 23, 3, 4, 1, 1, 107), none, none, some (.getfield 94, 3, 6, 3, 1, 83), none, none],
  [some (.bipush 40, 2, 0, 0, 0, 0), none, some (.if_icmp .ne 54, 3, 104, 0, 0, 0), none, none, some (.aload_n 0, 1, 0, 0, 0, 0), some (.iload_n 1, 1, 0, 0, 0, 0), some (.invokevirtual 136, 3, 68, 0, 3, 62), none, none, some (.ifCond .eq 32, 3, 90, 0, 0, 0), none, none, some (.aload_n 0, 1, 0, 0, 0, 0), some (.bipush 40, 2, 0, 0, 0, 0), none],
  [some (.invokevirtual 139, 3, 59, 0, 3, 71), none, none, some (.ifCond .eq 23, 3, 90, 0, 0, 0), none, none, some (.aload_n 0, 1, 0, 0, 0, 0), some (.invokevirtual 74, 3, 63, 0, 3, 46), none, none, some (.ifCond .eq 16, 3, 90, 0, 0, 0), none, none, some (.aload_n 0, 1, 0, 0, 0, 0), some (.bipush 41, 2, 0, 0, 0, 0), none],
  [some (.invokevirtual 77, 3, 57, 0, 3, 42), none, none, some (.ifCond .eq 7, 3, 90, 0, 0, 0), none, none, some (.iconst 1, 1, 0, 0, 0, 0), some (.goto 4, 3, 91, 0, 0, 0), none, none, some (.iconst 0, 1, 0, 0, 0, 0), some (.istore_n 2, 1, 0, 0, 0, 0), some (.aload_n 0, 1, 0, 0, 0, 0), some (.dup, 1, 0, 0, 0, 0), some (.getfield 44, 3, 4, 6, 1, 112), none],
  [none, some (.iconst 1, 1, 0, 0, 0, 0), some (.isub, 1, 0, 0, 0, 0), some (.putfield 44, 3, 4, 6, 1, 112), none, none, some (.iload_n 2, 1, 0, 0, 0, 0), some (.ireturn, 1, 0, 0, 0, 0), some (.aload_n 0, 1, 0, 0, 0, 0), some (.getfield 23, 3, 4, 1, 1, 107), none, none, some (.invokevirtual 142, 3, 94, 0, 3, 83), none, none, some (.ifCond .eq 13, 3, 124, 0, 0, 0)],
  [none, none, some (.aload_n 0, 1, 0, 0, 0, 0), some (.invokevirtual 145, 3, 66, 0, 3, 87), none, none, some (.ifCond .eq 25, 3, 143, 0, 0, 0), none, none, some (.goto 10, 3, 131, 0, 0, 0), none, none, some (.aload_n 0, 1, 0, 0, 0, 0), some (.invokevirtual 148, 3, 67, 0, 3, 95), none, none],
  [some (.ifCond .eq 15, 3, 143, 0, 0, 0), none, none, some (.aload_n 0, 1, 0, 0, 0, 0), some (.iload_n 1, 1, 0, 0, 0, 0), some (.invokevirtual 136, 3, 68, 0, 3, 62), none, none, some (.ifCond .eq 7, 3, 143, 0, 0, 0), none, none, some (.iconst 1, 1, 0, 0, 0, 0), some (.goto 4, 3, 144, 0, 0, 0), none, none, some (.iconst 0, 1, 0, 0, 0, 0)],
  [some (.istore_n 2, 1, 0, 0, 0, 0), some (.aload_n 0, 1, 0, 0, 0, 0), some (.getfield 23, 3, 4, 1, 1, 107), none, none, some (.invokevirtual 91, 3, 90, 0, 3, 15), none, none, some (.iload_n 2, 1, 0, 0, 0, 0), some (.ireturn, 1, 0, 0, 0, 0), none, none, none, none, none, none]]
def xc_X4_noteMember : List (List (Option xr_R)) := [[some (.aload_n 0, 1, 0, 0, 0, 0), some (.getfield 23, 3, 4, 1, 1, 107), none, none, some (.invokevirtual 151, 3, 95, 0, 3, 91), none, none, some (.istore_n 1, 1, 0, 0, 0, 0), some (.iload_n 1, 1, 0, 0, 0, 0), some (.ifCond .lt 11, 3, 20, 0, 0, 0), none, none, some (.iload_n 1, 1, 0, 0, 0, 0), some (.aload_n 0, 1, 0, 0, 0, 0), some (.getfield 37, 3, 4, 4, 1, 110), none],
  [none, some (.if_icmp .lt 16, 3, 33, 0, 0, 0), none, none, some (.aload_n 0, 1, 0, 0, 0, 0), some (.iconst 2, 1, 0, 0, 0, 0), some (.aload_n 0, 1, 0, 0, 0, 0), some (.getfield 23, 3, 4, 1, 1, 107), none, none, some (.getfield 84, 3, 6, 4, 1, 84), none, none, some (.invokevirtual 87, 3, 55, 0, 3, 30), none, none],
  [some (.ireturn, 1, 0, 0, 0, 0), some (.aload_n 0, 1, 0, 0, 0, 0), some (.getfield 12, 3, 4, 0, 1, 105), none, none, some (.iconst 0, 1, 0, 0, 0, 0), some (.iload_n 1, 1, 0, 0, 0, 0), some (.invokevirtual 106, 3, 46, 0, 3, 75), none, none, some (.iconst 1, 1, 0, 0, 0, 0), some (.ireturn, 1, 0, 0, 0, 0), none, none, none, none]]
def xc_X4_noteName : List (List (Option xr_R)) := [[some (.aload_n 0, 1, 0, 0, 0, 0), some (.getfield 23, 3, 4, 1, 1, 107), none, none, some (.invokevirtual 110, 3, 93, 0, 3, 20), none, none, some (.ifCond .ne 16, 3, 23, 0, 0, 0), none, none, some (.aload_n 0, 1, 0, 0, 0, 0), some (.iconst 1, 1, 0, 0, 0, 0), some (.aload_n 0, 1, 0, 0, 0, 0), some (.getfield 23, 3, 4, 1, 1, 107), none, none],
  [some (.getfield 84, 3, 6, 4, 1, 84), none, none, some (.invokevirtual 87, 3, 55, 0, 3, 30), none, none, some (.ireturn, 1, 0, 0, 0, 0), some (.aload_n 0, 1, 0, 0, 0, 0), some (.invokevirtual 113, 3, 62, 0, 3, 34), none, none, some (.istore_n 1, 1, 0, 0, 0, 0), some (.iload_n 1, 1, 0, 0, 0, 0), some (.iconst (-1), 1, 0, 0, 0, 0), some (.if_icmp .ne 16, 3, 46, 0, 0, 0), none],
  [none, some (.aload_n 0, 1, 0, 0, 0, 0), some (.iconst 3, 1, 0, 0, 0, 0), some (.aload_n 0, 1, 0, 0, 0, 0), some (.getfield 23, 3, 4, 1, 1, 107), none, none, some (.getfield 84, 3, 6, 4, 1, 84), none, none, some (.invokevirtual 87, 3, 55, 0, 3, 30), none, none, some (.ireturn, 1, 0, 0, 0, 0), some (.aload_n 0, 1, 0, 0, 0, 0), some (.getfield 12, 3, 4, 0, 1, 105)],
  [none, none, some (.iconst 1, 1, 0, 0, 0, 0), some (.iload_n 1, 1, 0, 0, 0, 0), some (.invokevirtual 106, 3, 46, 0, 3, 75), none, none, some (.iconst 1, 1, 0, 0, 0, 0), some (.ireturn, 1, 0, 0, 0, 0), none, none, none, none, none, none, none]]
def xc_X4_countOne : List (List (Option xr_R)) := [[some (.aload_n 0, 1, 0, 0, 0, 0), some (.dup, 1, 0, 0, 0, 0), some (.getfield 41, 3, 4, 5, 1, 111), none, none, some (.iconst 1, 1, 0, 0, 0, 0), some (.iadd, 1, 0, 0, 0, 0), some (.putfield 41, 3, 4, 5, 1, 111), none, none, some (.aload_n 0, 1, 0, 0, 0, 0), some (.getfield 41, 3, 4, 5, 1, 111), none, none, some (.bipush 120, 2, 0, 0, 0, 0), none],
  [some (.if_icmp .le 12, 3, 28, 0, 0, 0), none, none, some (.aload_n 0, 1, 0, 0, 0, 0), some (.iconst 4, 1, 0, 0, 0, 0), some (.iload_n 1, 1, 0, 0, 0, 0), some (.invokevirtual 87, 3, 55, 0, 3, 30), none, none, some (.ifCond .eq 7, 3, 32, 0, 0, 0), none, none, some (.iconst 1, 1, 0, 0, 0, 0), some (.goto 4, 3, 33, 0, 0, 0), none, none],
  [some (.iconst 0, 1, 0, 0, 0, 0), some (.ireturn, 1, 0, 0, 0, 0), none, none, none, none, none, none, none, none, none, none, none, none, none, none]]
def xc_X4_readQuota : List (List (Option xr_R)) := [[some (.iload_n 2, 1, 0, 0, 0, 0), some (.iconst 1, 1, 0, 0, 0, 0), some (.if_icmp .ge 10, 3, 12, 0, 0, 0), none, none, some (.aload_n 0, 1, 0, 0, 0, 0), some (.iconst 2, 1, 0, 0, 0, 0), some (.iload_n 1, 1, 0, 0, 0, 0), some (.invokevirtual 87, 3, 55, 0, 3, 30), none, none, some (.ireturn, 1, 0, 0, 0, 0), some (.aload_n 0, 1, 0, 0, 0, 0), some (.iload_n 1, 1, 0, 0, 0, 0), some (.invokevirtual 136, 3, 68, 0, 3, 62), none],
  [none, some (.ifCond .eq 21, 3, 38, 0, 0, 0), none, none, some (.aload_n 0, 1, 0, 0, 0, 0), some (.ldc 154, 2, 6, 7, 0, 0), none, some (.invokevirtual 71, 3, 56, 0, 3, 67), none, none, some (.ifCond .eq 12, 3, 38, 0, 0, 0), none, none, some (.aload_n 0, 1, 0, 0, 0, 0), some (.bipush 91, 2, 0, 0, 0, 0), none],
  [some (.invokevirtual 139, 3, 59, 0, 3, 71), none, none, some (.ifCond .ne 5, 3, 40, 0, 0, 0), none, none, some (.iconst 0, 1, 0, 0, 0, 0), some (.ireturn, 1, 0, 0, 0, 0), some (.aload_n 0, 1, 0, 0, 0, 0), some (.getfield 12, 3, 4, 0, 1, 105), none, none, some (.iconst 4, 1, 0, 0, 0, 0), some (.iconst 0, 1, 0, 0, 0, 0), some (.invokevirtual 106, 3, 46, 0, 3, 75), none],
  [none, some (.aload_n 0, 1, 0, 0, 0, 0), some (.invokevirtual 156, 3, 70, 0, 3, 79), none, none, some (.istore_n 3, 1, 0, 0, 0, 0), some (.iconst 0, 1, 0, 0, 0, 0), some (.istore 4, 2, 0, 0, 0, 0), none, some (.iload 4, 2, 0, 0, 0, 0), none, some (.bipush 120, 2, 0, 0, 0, 0), none, some (.if_icmp .gt 30, 3, 91, 0, 0, 0), none, none],
  [some (.iload_n 3, 1, 0, 0, 0, 0), some (.ifCond .eq 26, 3, 91, 0, 0, 0), none, none, some (.aload_n 0, 1, 0, 0, 0, 0), some (.getfield 23, 3, 4, 1, 1, 107), none, none, some (.getfield 94, 3, 6, 3, 1, 83), none, none, some (.bipush 93, 2, 0, 0, 0, 0), none, some (.if_icmp .eq 14, 3, 91, 0, 0, 0), none, none],
  [some (.aload_n 0, 1, 0, 0, 0, 0), some (.invokevirtual 156, 3, 70, 0, 3, 79), none, none, some (.istore_n 3, 1, 0, 0, 0, 0), some (.iinc 4 1, 3, 0, 0, 0, 0), none, none, some (.goto (-31), 3, 57, 0, 0, 0), none, none, some (.aload_n 0, 1, 0, 0, 0, 0), some (.getfield 12, 3, 4, 0, 1, 105), none, none, some (.bipush 6, 2, 0, 0, 0, 0)],
  [none, some (.iload_n 2, 1, 0, 0, 0, 0), some (.invokevirtual 106, 3, 46, 0, 3, 75), none, none, some (.aload_n 0, 1, 0, 0, 0, 0), some (.dup, 1, 0, 0, 0, 0), some (.getfield 44, 3, 4, 6, 1, 112), none, none, some (.iconst 1, 1, 0, 0, 0, 0), some (.isub, 1, 0, 0, 0, 0), some (.putfield 44, 3, 4, 6, 1, 112), none, none, some (.iload_n 3, 1, 0, 0, 0, 0)],
  [some (.ifCond .eq 16, 3, 128, 0, 0, 0), none, none, some (.aload_n 0, 1, 0, 0, 0, 0), some (.bipush 93, 2, 0, 0, 0, 0), none, some (.invokevirtual 77, 3, 57, 0, 3, 42), none, none, some (.ifCond .eq 7, 3, 128, 0, 0, 0), none, none, some (.iconst 1, 1, 0, 0, 0, 0), some (.goto 4, 3, 129, 0, 0, 0), none, none],
  [some (.iconst 0, 1, 0, 0, 0, 0), some (.ireturn, 1, 0, 0, 0, 0), none, none, none, none, none, none, none, none, none, none, none, none, none, none]]
def xc_X4_readItem : List (List (Option xr_R)) := [[some (.iconst 1, 1, 0, 0, 0, 0), some (.istore_n 1, 1, 0, 0, 0, 0), some (.aload_n 0, 1, 0, 0, 0, 0), some (.getfield 23, 3, 4, 1, 1, 107), none, none, some (.getfield 94, 3, 6, 3, 1, 83), none, none, some (.iconst 3, 1, 0, 0, 0, 0), some (.if_icmp .ne 96, 3, 106, 0, 0, 0), none, none, some (.aload_n 0, 1, 0, 0, 0, 0), some (.getfield 23, 3, 4, 1, 1, 107), none],
  [none, some (.getfield 84, 3, 6, 4, 1, 84), none, none, some (.istore_n 3, 1, 0, 0, 0, 0), some (.aload_n 0, 1, 0, 0, 0, 0), some (.getfield 23, 3, 4, 1, 1, 107), none, none, some (.getfield 130, 3, 6, 6, 1, 89), none, none, some (.istore 4, 2, 0, 0, 0, 0), none, some (.aload_n 0, 1, 0, 0, 0, 0), some (.getfield 23, 3, 4, 1, 1, 107)],
  [none, none, some (.invokevirtual 91, 3, 90, 0, 3, 15), none, none, some (.aload_n 0, 1, 0, 0, 0, 0), some (.getfield 23, 3, 4, 1, 1, 107), none, none, some (.getfield 94, 3, 6, 3, 1, 83), none, none, some (.bipush 42, 2, 0, 0, 0, 0), none, some (.if_icmp .ne 21, 3, 67, 0, 0, 0), none],
  [none, some (.iload 4, 2, 0, 0, 0, 0), none, some (.istore_n 1, 1, 0, 0, 0, 0), some (.aload_n 0, 1, 0, 0, 0, 0), some (.getfield 23, 3, 4, 1, 1, 107), none, none, some (.invokevirtual 91, 3, 90, 0, 3, 15), none, none, some (.aload_n 0, 1, 0, 0, 0, 0), some (.invokevirtual 125, 3, 65, 0, 3, 54), none, none, some (.istore_n 2, 1, 0, 0, 0, 0)],
  [some (.goto 39, 3, 103, 0, 0, 0), none, none, some (.aload_n 0, 1, 0, 0, 0, 0), some (.getfield 23, 3, 4, 1, 1, 107), none, none, some (.ldc 154, 2, 6, 7, 0, 0), none, some (.invokevirtual 61, 3, 92, 0, 2, 199), none, none, some (.ifCond .eq 14, 3, 90, 0, 0, 0), none, none, some (.aload_n 0, 1, 0, 0, 0, 0)],
  [some (.iload_n 3, 1, 0, 0, 0, 0), some (.iload 4, 2, 0, 0, 0, 0), none, some (.invokevirtual 133, 3, 69, 0, 3, 58), none, none, some (.istore_n 2, 1, 0, 0, 0, 0), some (.goto 16, 3, 103, 0, 0, 0), none, none, some (.aload_n 0, 1, 0, 0, 0, 0), some (.iconst 1, 1, 0, 0, 0, 0), some (.aload_n 0, 1, 0, 0, 0, 0), some (.getfield 23, 3, 4, 1, 1, 107), none, none],
  [some (.getfield 84, 3, 6, 4, 1, 84), none, none, some (.invokevirtual 87, 3, 55, 0, 3, 30), none, none, some (.istore_n 2, 1, 0, 0, 0, 0), some (.goto 8, 3, 111, 0, 0, 0), none, none, some (.aload_n 0, 1, 0, 0, 0, 0), some (.invokevirtual 125, 3, 65, 0, 3, 54), none, none, some (.istore_n 2, 1, 0, 0, 0, 0), some (.aload_n 0, 1, 0, 0, 0, 0)],
  [some (.getfield 12, 3, 4, 0, 1, 105), none, none, some (.iconst 5, 1, 0, 0, 0, 0), some (.iload_n 1, 1, 0, 0, 0, 0), some (.invokevirtual 106, 3, 46, 0, 3, 75), none, none, some (.iload_n 2, 1, 0, 0, 0, 0), some (.ireturn, 1, 0, 0, 0, 0), none, none, none, none, none, none]]
def xc_X5_init : List (List (Option xr_R)) := [[some (.aload_n 0, 1, 0, 0, 0, 0), some (.invokespecial 3, 3, 0, 1, 1, 220), none, none, some (.aload_n 0, 1, 0, 0, 0, 0), some (.aload_n 1, 1, 0, 0, 0, 0), some (.putfield 9, 3, 5, 2, 1, 225), none, none, some (.aload_n 0, 1, 0, 0, 0, 0), some (.aload_n 1, 1, 0, 0, 0, 0), some (.getfield 15, 3, 2, 6, 1, 174), none, none, some (.putfield 21, 3, 5, 14, 1, 237), none],
  [none, some (.aload_n 0, 1, 0, 0, 0, 0), some (.aload_n 1, 1, 0, 0, 0, 0), some (.getfield 24, 3, 2, 7, 1, 176), none, none, some (.putfield 28, 3, 5, 15, 1, 238), none, none, some (.aload_n 0, 1, 0, 0, 0, 0), some (.bipush 12, 2, 0, 0, 0, 0), none, some (.newarray .int, 2, 0, 0, 0, 0), none, some (.putfield 31, 3, 5, 0, 1, 221), none],
  [none, some (.aload_n 0, 1, 0, 0, 0, 0), some (.bipush 12, 2, 0, 0, 0, 0), none, some (.newarray .int, 2, 0, 0, 0, 0), none, some (.putfield 35, 3, 5, 3, 1, 226), none, none, some (.aload_n 0, 1, 0, 0, 0, 0), some (.bipush 12, 2, 0, 0, 0, 0), none, some (.newarray .int, 2, 0, 0, 0, 0), none, some (.putfield 38, 3, 5, 4, 1, 227), none],
  [none, some (.aload_n 0, 1, 0, 0, 0, 0), some (.bipush 12, 2, 0, 0, 0, 0), none, some (.newarray .int, 2, 0, 0, 0, 0), none, some (.putfield 41, 3, 5, 5, 1, 228), none, none, some (.aload_n 0, 1, 0, 0, 0, 0), some (.bipush 12, 2, 0, 0, 0, 0), none, some (.newarray .int, 2, 0, 0, 0, 0), none, some (.putfield 44, 3, 5, 6, 1, 229), none],
  [none, some (.aload_n 0, 1, 0, 0, 0, 0), some (.bipush 12, 2, 0, 0, 0, 0), none, some (.newarray .int, 2, 0, 0, 0, 0), none, some (.putfield 47, 3, 5, 7, 1, 230), none, none, some (.iconst 0, 1, 0, 0, 0, 0), some (.istore_n 2, 1, 0, 0, 0, 0), some (.iload_n 2, 1, 0, 0, 0, 0), some (.bipush 12, 2, 0, 0, 0, 0), none, some (.if_icmp .ge 16, 3, 94, 0, 0, 0), none],
  [none, some (.aload_n 0, 1, 0, 0, 0, 0), some (.getfield 31, 3, 5, 0, 1, 221), none, none, some (.iload_n 2, 1, 0, 0, 0, 0), some (.iconst (-1), 1, 0, 0, 0, 0), some (.iastore, 1, 0, 0, 0, 0), some (.iinc 2 1, 3, 0, 0, 0, 0), none, none, some (.goto (-16), 3, 75, 0, 0, 0), none, none, some (.aload_n 0, 1, 0, 0, 0, 0), some (.iconst (-1), 1, 0, 0, 0, 0)],
  [some (.putfield 50, 3, 5, 1, 1, 223), none, none, some (.return_, 1, 0, 0, 0, 0), none, none, none, none, none, none, none, none, none, none, none, none]]
def xc_X5_look : List (List (Option xr_R)) := [[some (.aload_n 0, 1, 0, 0, 0, 0), some (.getfield 9, 3, 5, 2, 1, 225), none, none, some (.aload_n 0, 1, 0, 0, 0, 0), some (.getfield 21, 3, 5, 14, 1, 237), none, none, some (.aload_n 0, 1, 0, 0, 0, 0), some (.getfield 28, 3, 5, 15, 1, 238), none, none, some (.invokevirtual 53, 3, 21, 0, 4, 40), none, none, some (.ifCond .ne 33, 3, 48, 0, 0, 0)],
  [none, none, some (.aload_n 0, 1, 0, 0, 0, 0), some (.aload_n 0, 1, 0, 0, 0, 0), some (.getfield 9, 3, 5, 2, 1, 225), none, none, some (.getfield 15, 3, 2, 6, 1, 174), none, none, some (.putfield 21, 3, 5, 14, 1, 237), none, none, some (.aload_n 0, 1, 0, 0, 0, 0), some (.aload_n 0, 1, 0, 0, 0, 0), some (.getfield 9, 3, 5, 2, 1, 225)],
  [none, none, some (.getfield 24, 3, 2, 7, 1, 176), none, none, some (.putfield 28, 3, 5, 15, 1, 238), none, none, some (.aload_n 0, 1, 0, 0, 0, 0), some (.aload_n 0, 1, 0, 0, 0, 0), some (.invokevirtual 57, 3, 73, 0, 4, 41), none, none, some (.putfield 61, 3, 5, 11, 1, 234), none, none],
  [some (.aload_n 0, 1, 0, 0, 0, 0), some (.getfield 61, 3, 5, 11, 1, 234), none, none, some (.ireturn, 1, 0, 0, 0, 0), none, none, none, none, none, none, none, none, none, none, none]]
def xc_X5_search : List (List (Option xr_R)) := [[some (.aload_n 0, 1, 0, 0, 0, 0), some (.getfield 9, 3, 5, 2, 1, 225), none, none, some (.getfield 64, 3, 2, 9, 1, 178), none, none, some (.ifCond .eq 23, 3, 30, 0, 0, 0), none, none, some (.aload_n 0, 1, 0, 0, 0, 0), some (.getfield 9, 3, 5, 2, 1, 225), none, none, some (.getfield 67, 3, 2, 10, 1, 181), none],
  [none, some (.ifCond .eq 13, 3, 30, 0, 0, 0), none, none, some (.aload_n 0, 1, 0, 0, 0, 0), some (.getfield 9, 3, 5, 2, 1, 225), none, none, some (.invokevirtual 70, 3, 32, 0, 4, 45), none, none, some (.ifCond .ne 5, 3, 32, 0, 0, 0), none, none, some (.iconst (-1), 1, 0, 0, 0, 0), some (.ireturn, 1, 0, 0, 0, 0)],
  [some (.aload_n 0, 1, 0, 0, 0, 0), some (.invokevirtual 74, 3, 74, 0, 4, 46), none, none, some (.aload_n 0, 1, 0, 0, 0, 0), some (.aload_n 0, 1, 0, 0, 0, 0), some (.getfield 9, 3, 5, 2, 1, 225), none, none, some (.getfield 77, 3, 2, 0, 1, 163), none, none, some (.iconst 0, 1, 0, 0, 0, 0), some (.iaload, 1, 0, 0, 0, 0), some (.putfield 80, 3, 5, 12, 1, 235), none],
  [none, some (.aload_n 0, 1, 0, 0, 0, 0), some (.aload_n 0, 1, 0, 0, 0, 0), some (.getfield 9, 3, 5, 2, 1, 225), none, none, some (.getfield 83, 3, 2, 1, 1, 166), none, none, some (.iconst 0, 1, 0, 0, 0, 0), some (.iaload, 1, 0, 0, 0, 0), some (.putfield 86, 3, 5, 13, 1, 236), none, none, some (.aload_n 0, 1, 0, 0, 0, 0), some (.iconst 0, 1, 0, 0, 0, 0)],
  [some (.putfield 89, 3, 5, 10, 1, 233), none, none, some (.aload_n 0, 1, 0, 0, 0, 0), some (.bipush (-3), 2, 0, 0, 0, 0), none, some (.putfield 61, 3, 5, 11, 1, 234), none, none, some (.aload_n 0, 1, 0, 0, 0, 0), some (.iconst 0, 1, 0, 0, 0, 0), some (.putfield 92, 3, 5, 9, 1, 232), none, none, some (.aload_n 0, 1, 0, 0, 0, 0), some (.getfield 92, 3, 5, 9, 1, 232)],
  [none, none, some (.bipush 60, 2, 0, 0, 0, 0), none, some (.if_icmp .gt 34, 3, 118, 0, 0, 0), none, none, some (.aload_n 0, 1, 0, 0, 0, 0), some (.getfield 61, 3, 5, 11, 1, 234), none, none, some (.bipush (-3), 2, 0, 0, 0, 0), none, some (.if_icmp .ne 25, 3, 118, 0, 0, 0), none, none],
  [some (.aload_n 0, 1, 0, 0, 0, 0), some (.iconst 0, 1, 0, 0, 0, 0), some (.aload_n 0, 1, 0, 0, 0, 0), some (.getfield 92, 3, 5, 9, 1, 232), none, none, some (.invokevirtual 95, 3, 77, 0, 4, 59), none, none, some (.aload_n 0, 1, 0, 0, 0, 0), some (.dup, 1, 0, 0, 0, 0), some (.getfield 92, 3, 5, 9, 1, 232), none, none, some (.iconst 1, 1, 0, 0, 0, 0), some (.iadd, 1, 0, 0, 0, 0)],
  [some (.putfield 92, 3, 5, 9, 1, 232), none, none, some (.goto (-37), 3, 78, 0, 0, 0), none, none, some (.aload_n 0, 1, 0, 0, 0, 0), some (.getfield 61, 3, 5, 11, 1, 234), none, none, some (.bipush (-3), 2, 0, 0, 0, 0), none, some (.if_icmp .ne 7, 3, 131, 0, 0, 0), none, none, some (.iconst (-1), 1, 0, 0, 0, 0)],
  [some (.goto 7, 3, 135, 0, 0, 0), none, none, some (.aload_n 0, 1, 0, 0, 0, 0), some (.getfield 61, 3, 5, 11, 1, 234), none, none, some (.ireturn, 1, 0, 0, 0, 0), none, none, none, none, none, none, none, none]]
def xc_X5_findClasses : List (List (Option xr_R)) := [[some (.aload_n 0, 1, 0, 0, 0, 0), some (.iconst 0, 1, 0, 0, 0, 0), some (.putfield 99, 3, 5, 8, 1, 231), none, none, some (.iconst 0, 1, 0, 0, 0, 0), some (.istore_n 1, 1, 0, 0, 0, 0), some (.iload_n 1, 1, 0, 0, 0, 0), some (.aload_n 0, 1, 0, 0, 0, 0), some (.getfield 9, 3, 5, 2, 1, 225), none, none, some (.getfield 24, 3, 2, 7, 1, 176), none, none, some (.if_icmp .ge 37, 3, 52, 0, 0, 0)],
  [none, none, some (.aload_n 0, 1, 0, 0, 0, 0), some (.iload_n 1, 1, 0, 0, 0, 0), some (.invokevirtual 102, 3, 75, 0, 4, 50), none, none, some (.ifCond .eq 23, 3, 46, 0, 0, 0), none, none, some (.aload_n 0, 1, 0, 0, 0, 0), some (.getfield 38, 3, 5, 4, 1, 227), none, none, some (.aload_n 0, 1, 0, 0, 0, 0), some (.getfield 99, 3, 5, 8, 1, 231)],
  [none, none, some (.iload_n 1, 1, 0, 0, 0, 0), some (.iastore, 1, 0, 0, 0, 0), some (.aload_n 0, 1, 0, 0, 0, 0), some (.dup, 1, 0, 0, 0, 0), some (.getfield 99, 3, 5, 8, 1, 231), none, none, some (.iconst 1, 1, 0, 0, 0, 0), some (.iadd, 1, 0, 0, 0, 0), some (.putfield 99, 3, 5, 8, 1, 231), none, none, some (.iinc 1 1, 3, 0, 0, 0, 0), none],
  [none, some (.goto (-42), 3, 7, 0, 0, 0), none, none, some (.iconst 0, 1, 0, 0, 0, 0), some (.istore_n 1, 1, 0, 0, 0, 0), some (.iload_n 1, 1, 0, 0, 0, 0), some (.aload_n 0, 1, 0, 0, 0, 0), some (.getfield 99, 3, 5, 8, 1, 231), none, none, some (.if_icmp .ge 23, 3, 82, 0, 0, 0), none, none, some (.aload_n 0, 1, 0, 0, 0, 0), some (.getfield 41, 3, 5, 5, 1, 228)],
  [none, none, some (.iload_n 1, 1, 0, 0, 0, 0), some (.iconst 0, 1, 0, 0, 0, 0), some (.iastore, 1, 0, 0, 0, 0), some (.aload_n 0, 1, 0, 0, 0, 0), some (.getfield 44, 3, 5, 6, 1, 229), none, none, some (.iload_n 1, 1, 0, 0, 0, 0), some (.iconst (-1), 1, 0, 0, 0, 0), some (.iastore, 1, 0, 0, 0, 0), some (.iinc 1 1, 3, 0, 0, 0, 0), none, none, some (.goto (-25), 3, 54, 0, 0, 0)],
  [none, none, some (.iconst 0, 1, 0, 0, 0, 0), some (.istore_n 1, 1, 0, 0, 0, 0), some (.iload_n 1, 1, 0, 0, 0, 0), some (.aload_n 0, 1, 0, 0, 0, 0), some (.getfield 9, 3, 5, 2, 1, 225), none, none, some (.getfield 24, 3, 2, 7, 1, 176), none, none, some (.if_icmp .ge 35, 3, 127, 0, 0, 0), none, none, some (.aload_n 0, 1, 0, 0, 0, 0)],
  [some (.getfield 35, 3, 5, 3, 1, 226), none, none, some (.iload_n 1, 1, 0, 0, 0, 0), some (.aload_n 0, 1, 0, 0, 0, 0), some (.iload_n 1, 1, 0, 0, 0, 0), some (.invokevirtual 106, 3, 76, 0, 4, 55), none, none, some (.iastore, 1, 0, 0, 0, 0), some (.aload_n 0, 1, 0, 0, 0, 0), some (.getfield 41, 3, 5, 5, 1, 228), none, none, some (.aload_n 0, 1, 0, 0, 0, 0), some (.getfield 35, 3, 5, 3, 1, 226)],
  [none, none, some (.iload_n 1, 1, 0, 0, 0, 0), some (.iaload, 1, 0, 0, 0, 0), some (.dup2, 1, 0, 0, 0, 0), some (.iaload, 1, 0, 0, 0, 0), some (.iconst 1, 1, 0, 0, 0, 0), some (.iadd, 1, 0, 0, 0, 0), some (.iastore, 1, 0, 0, 0, 0), some (.iinc 1 1, 3, 0, 0, 0, 0), none, none, some (.goto (-40), 3, 84, 0, 0, 0), none, none, some (.return_, 1, 0, 0, 0, 0)]]
def xc_X5_isFirst : List (List (Option xr_R)) := [[some (.iconst 0, 1, 0, 0, 0, 0), some (.istore_n 2, 1, 0, 0, 0, 0), some (.iload_n 2, 1, 0, 0, 0, 0), some (.iload_n 1, 1, 0, 0, 0, 0), some (.if_icmp .ge 23, 3, 27, 0, 0, 0), none, none, some (.aload_n 0, 1, 0, 0, 0, 0), some (.getfield 9, 3, 5, 2, 1, 225), none, none, some (.iload_n 1, 1, 0, 0, 0, 0), some (.iload_n 2, 1, 0, 0, 0, 0), some (.invokevirtual 110, 3, 33, 0, 4, 54), none, none],
  [some (.ifCond .ne 5, 3, 21, 0, 0, 0), none, none, some (.iconst 0, 1, 0, 0, 0, 0), some (.ireturn, 1, 0, 0, 0, 0), some (.iinc 2 1, 3, 0, 0, 0, 0), none, none, some (.goto (-22), 3, 2, 0, 0, 0), none, none, some (.iconst 1, 1, 0, 0, 0, 0), some (.ireturn, 1, 0, 0, 0, 0), none, none, none]]
def xc_X5_strengthOf : List (List (Option xr_R)) := [[some (.iconst 0, 1, 0, 0, 0, 0), some (.istore_n 2, 1, 0, 0, 0, 0), some (.iconst 0, 1, 0, 0, 0, 0), some (.istore_n 3, 1, 0, 0, 0, 0), some (.iload_n 3, 1, 0, 0, 0, 0), some (.aload_n 0, 1, 0, 0, 0, 0), some (.getfield 99, 3, 5, 8, 1, 231), none, none, some (.if_icmp .ge 30, 3, 39, 0, 0, 0), none, none, some (.aload_n 0, 1, 0, 0, 0, 0), some (.getfield 9, 3, 5, 2, 1, 225), none, none],
  [some (.iload_n 1, 1, 0, 0, 0, 0), some (.aload_n 0, 1, 0, 0, 0, 0), some (.getfield 38, 3, 5, 4, 1, 227), none, none, some (.iload_n 3, 1, 0, 0, 0, 0), some (.iaload, 1, 0, 0, 0, 0), some (.invokevirtual 110, 3, 33, 0, 4, 54), none, none, some (.iconst 1, 1, 0, 0, 0, 0), some (.if_icmp .ne 6, 3, 33, 0, 0, 0), none, none, some (.iinc 2 1, 3, 0, 0, 0, 0), none],
  [none, some (.iinc 3 1, 3, 0, 0, 0, 0), none, none, some (.goto (-32), 3, 4, 0, 0, 0), none, none, some (.iload_n 2, 1, 0, 0, 0, 0), some (.ireturn, 1, 0, 0, 0, 0), none, none, none, none, none, none, none]]
def xc_X5_place : List (List (Option xr_R)) := [[some (.iload_n 1, 1, 0, 0, 0, 0), some (.aload_n 0, 1, 0, 0, 0, 0), some (.getfield 99, 3, 5, 8, 1, 231), none, none, some (.if_icmp .lt 12, 3, 17, 0, 0, 0), none, none, some (.iload_n 2, 1, 0, 0, 0, 0), some (.ifCond .ne 7, 3, 16, 0, 0, 0), none, none, some (.aload_n 0, 1, 0, 0, 0, 0), some (.invokevirtual 114, 3, 82, 0, 4, 63), none, none],
  [some (.return_, 1, 0, 0, 0, 0), some (.aload_n 0, 1, 0, 0, 0, 0), some (.getfield 35, 3, 5, 3, 1, 226), none, none, some (.aload_n 0, 1, 0, 0, 0, 0), some (.getfield 38, 3, 5, 4, 1, 227), none, none, some (.iload_n 1, 1, 0, 0, 0, 0), some (.iaload, 1, 0, 0, 0, 0), some (.iaload, 1, 0, 0, 0, 0), some (.istore_n 3, 1, 0, 0, 0, 0), some (.aload_n 0, 1, 0, 0, 0, 0), some (.iload_n 3, 1, 0, 0, 0, 0), some (.invokevirtual 117, 3, 78, 0, 4, 83)],
  [none, none, some (.istore 4, 2, 0, 0, 0, 0), none, some (.aload_n 0, 1, 0, 0, 0, 0), some (.iload_n 3, 1, 0, 0, 0, 0), some (.iload_n 2, 1, 0, 0, 0, 0), some (.invokevirtual 120, 3, 79, 0, 4, 87), none, none, some (.istore 5, 2, 0, 0, 0, 0), none, some (.iload 5, 2, 0, 0, 0, 0), none, some (.iload 4, 2, 0, 0, 0, 0), none],
  [some (.if_icmp .lt 66, 3, 114, 0, 0, 0), none, none, some (.aload_n 0, 1, 0, 0, 0, 0), some (.getfield 61, 3, 5, 11, 1, 234), none, none, some (.bipush (-3), 2, 0, 0, 0, 0), none, some (.if_icmp .ne 57, 3, 114, 0, 0, 0), none, none, some (.aload_n 0, 1, 0, 0, 0, 0), some (.getfield 44, 3, 5, 6, 1, 229), none, none],
  [some (.iload_n 3, 1, 0, 0, 0, 0), some (.iload 5, 2, 0, 0, 0, 0), none, some (.iastore, 1, 0, 0, 0, 0), some (.iload_n 2, 1, 0, 0, 0, 0), some (.iload 5, 2, 0, 0, 0, 0), none, some (.aload_n 0, 1, 0, 0, 0, 0), some (.getfield 41, 3, 5, 5, 1, 228), none, none, some (.iload_n 3, 1, 0, 0, 0, 0), some (.iaload, 1, 0, 0, 0, 0), some (.imul, 1, 0, 0, 0, 0), some (.isub, 1, 0, 0, 0, 0), some (.istore 6, 2, 0, 0, 0, 0)],
  [none, some (.aload_n 0, 1, 0, 0, 0, 0), some (.invokevirtual 123, 3, 80, 0, 4, 91), none, none, some (.iload 6, 2, 0, 0, 0, 0), none, some (.if_icmp .gt 21, 3, 108, 0, 0, 0), none, none, some (.iload 6, 2, 0, 0, 0, 0), none, some (.aload_n 0, 1, 0, 0, 0, 0), some (.invokevirtual 126, 3, 81, 0, 4, 95), none, none],
  [some (.if_icmp .gt 12, 3, 108, 0, 0, 0), none, none, some (.aload_n 0, 1, 0, 0, 0, 0), some (.iload_n 1, 1, 0, 0, 0, 0), some (.iconst 1, 1, 0, 0, 0, 0), some (.iadd, 1, 0, 0, 0, 0), some (.iload 6, 2, 0, 0, 0, 0), none, some (.invokevirtual 95, 3, 77, 0, 4, 59), none, none, some (.iinc 5 (-1), 3, 0, 0, 0, 0), none, none, some (.goto (-67), 3, 44, 0, 0, 0)],
  [none, none, some (.aload_n 0, 1, 0, 0, 0, 0), some (.getfield 44, 3, 5, 6, 1, 229), none, none, some (.iload_n 3, 1, 0, 0, 0, 0), some (.iconst (-1), 1, 0, 0, 0, 0), some (.iastore, 1, 0, 0, 0, 0), some (.return_, 1, 0, 0, 0, 0), none, none, none, none, none, none]]
def xc_X5_lowest : List (List (Option xr_R)) := [[some (.iload_n 1, 1, 0, 0, 0, 0), some (.iconst 1, 1, 0, 0, 0, 0), some (.isub, 1, 0, 0, 0, 0), some (.istore_n 2, 1, 0, 0, 0, 0), some (.iload_n 2, 1, 0, 0, 0, 0), some (.ifCond .lt 30, 3, 35, 0, 0, 0), none, none, some (.aload_n 0, 1, 0, 0, 0, 0), some (.getfield 44, 3, 5, 6, 1, 229), none, none, some (.iload_n 2, 1, 0, 0, 0, 0), some (.iaload, 1, 0, 0, 0, 0), some (.iconst (-1), 1, 0, 0, 0, 0), some (.if_icmp .eq 14, 3, 29, 0, 0, 0)],
  [none, none, some (.aload_n 0, 1, 0, 0, 0, 0), some (.getfield 44, 3, 5, 6, 1, 229), none, none, some (.iload_n 2, 1, 0, 0, 0, 0), some (.iaload, 1, 0, 0, 0, 0), some (.iload_n 1, 1, 0, 0, 0, 0), some (.iadd, 1, 0, 0, 0, 0), some (.iload_n 2, 1, 0, 0, 0, 0), some (.isub, 1, 0, 0, 0, 0), some (.ireturn, 1, 0, 0, 0, 0), some (.iinc 2 (-1), 3, 0, 0, 0, 0), none, none],
  [some (.goto (-28), 3, 4, 0, 0, 0), none, none, some (.iload_n 1, 1, 0, 0, 0, 0), some (.ireturn, 1, 0, 0, 0, 0), none, none, none, none, none, none, none, none, none, none, none]]
def xc_X5_highest : List (List (Option xr_R)) := [[some (.iload_n 1, 1, 0, 0, 0, 0), some (.iconst 1, 1, 0, 0, 0, 0), some (.iadd, 1, 0, 0, 0, 0), some (.istore_n 3, 1, 0, 0, 0, 0), some (.iload_n 3, 1, 0, 0, 0, 0), some (.aload_n 0, 1, 0, 0, 0, 0), some (.getfield 99, 3, 5, 8, 1, 231), none, none, some (.if_icmp .ge 30, 3, 39, 0, 0, 0), none, none, some (.aload_n 0, 1, 0, 0, 0, 0), some (.getfield 44, 3, 5, 6, 1, 229), none, none],
  [some (.iload_n 3, 1, 0, 0, 0, 0), some (.iaload, 1, 0, 0, 0, 0), some (.iconst (-1), 1, 0, 0, 0, 0), some (.if_icmp .eq 14, 3, 33, 0, 0, 0), none, none, some (.aload_n 0, 1, 0, 0, 0, 0), some (.getfield 44, 3, 5, 6, 1, 229), none, none, some (.iload_n 3, 1, 0, 0, 0, 0), some (.iaload, 1, 0, 0, 0, 0), some (.iload_n 3, 1, 0, 0, 0, 0), some (.iload_n 1, 1, 0, 0, 0, 0), some (.isub, 1, 0, 0, 0, 0), some (.isub, 1, 0, 0, 0, 0)],
  [some (.ireturn, 1, 0, 0, 0, 0), some (.iinc 3 1, 3, 0, 0, 0, 0), none, none, some (.goto (-32), 3, 4, 0, 0, 0), none, none, some (.iload_n 2, 1, 0, 0, 0, 0), some (.ireturn, 1, 0, 0, 0, 0), none, none, none, none, none, none, none]]
def xc_X5_leastRest : List (List (Option xr_R)) := [[some (.iconst (-1), 1, 0, 0, 0, 0), some (.istore_n 1, 1, 0, 0, 0, 0), some (.iconst 0, 1, 0, 0, 0, 0), some (.istore_n 2, 1, 0, 0, 0, 0), some (.iconst 0, 1, 0, 0, 0, 0), some (.istore_n 3, 1, 0, 0, 0, 0), some (.iload_n 3, 1, 0, 0, 0, 0), some (.aload_n 0, 1, 0, 0, 0, 0), some (.getfield 99, 3, 5, 8, 1, 231), none, none, some (.if_icmp .ge 43, 3, 54, 0, 0, 0), none, none, some (.aload_n 0, 1, 0, 0, 0, 0), some (.getfield 44, 3, 5, 6, 1, 229)],
  [none, none, some (.iload_n 3, 1, 0, 0, 0, 0), some (.iaload, 1, 0, 0, 0, 0), some (.iconst (-1), 1, 0, 0, 0, 0), some (.if_icmp .eq 13, 3, 34, 0, 0, 0), none, none, some (.aload_n 0, 1, 0, 0, 0, 0), some (.getfield 44, 3, 5, 6, 1, 229), none, none, some (.iload_n 3, 1, 0, 0, 0, 0), some (.iaload, 1, 0, 0, 0, 0), some (.istore_n 1, 1, 0, 0, 0, 0), some (.goto 17, 3, 48, 0, 0, 0)],
  [none, none, some (.iinc 1 1, 3, 0, 0, 0, 0), none, none, some (.iload_n 2, 1, 0, 0, 0, 0), some (.iload_n 1, 1, 0, 0, 0, 0), some (.aload_n 0, 1, 0, 0, 0, 0), some (.getfield 41, 3, 5, 5, 1, 228), none, none, some (.iload_n 3, 1, 0, 0, 0, 0), some (.iaload, 1, 0, 0, 0, 0), some (.imul, 1, 0, 0, 0, 0), some (.iadd, 1, 0, 0, 0, 0), some (.istore_n 2, 1, 0, 0, 0, 0)],
  [some (.iinc 3 1, 3, 0, 0, 0, 0), none, none, some (.goto (-45), 3, 6, 0, 0, 0), none, none, some (.iload_n 2, 1, 0, 0, 0, 0), some (.ireturn, 1, 0, 0, 0, 0), none, none, none, none, none, none, none, none]]
def xc_X5_mostRest : List (List (Option xr_R)) := [[some (.iconst (-1), 1, 0, 0, 0, 0), some (.istore_n 1, 1, 0, 0, 0, 0), some (.iconst 0, 1, 0, 0, 0, 0), some (.istore_n 2, 1, 0, 0, 0, 0), some (.aload_n 0, 1, 0, 0, 0, 0), some (.getfield 99, 3, 5, 8, 1, 231), none, none, some (.iconst 1, 1, 0, 0, 0, 0), some (.isub, 1, 0, 0, 0, 0), some (.istore_n 3, 1, 0, 0, 0, 0), some (.iload_n 3, 1, 0, 0, 0, 0), some (.ifCond .lt 51, 3, 63, 0, 0, 0), none, none, some (.aload_n 0, 1, 0, 0, 0, 0)],
  [some (.getfield 44, 3, 5, 6, 1, 229), none, none, some (.iload_n 3, 1, 0, 0, 0, 0), some (.iaload, 1, 0, 0, 0, 0), some (.iconst (-1), 1, 0, 0, 0, 0), some (.if_icmp .eq 13, 3, 35, 0, 0, 0), none, none, some (.aload_n 0, 1, 0, 0, 0, 0), some (.getfield 44, 3, 5, 6, 1, 229), none, none, some (.iload_n 3, 1, 0, 0, 0, 0), some (.iaload, 1, 0, 0, 0, 0), some (.istore_n 1, 1, 0, 0, 0, 0)],
  [some (.goto 25, 3, 57, 0, 0, 0), none, none, some (.iload_n 1, 1, 0, 0, 0, 0), some (.iconst (-1), 1, 0, 0, 0, 0), some (.if_icmp .ne 6, 3, 43, 0, 0, 0), none, none, some (.bipush 60, 2, 0, 0, 0, 0), none, some (.ireturn, 1, 0, 0, 0, 0), some (.iinc 1 (-1), 3, 0, 0, 0, 0), none, none, some (.iload_n 2, 1, 0, 0, 0, 0), some (.iload_n 1, 1, 0, 0, 0, 0)],
  [some (.aload_n 0, 1, 0, 0, 0, 0), some (.getfield 41, 3, 5, 5, 1, 228), none, none, some (.iload_n 3, 1, 0, 0, 0, 0), some (.iaload, 1, 0, 0, 0, 0), some (.imul, 1, 0, 0, 0, 0), some (.iadd, 1, 0, 0, 0, 0), some (.istore_n 2, 1, 0, 0, 0, 0), some (.iinc 3 (-1), 3, 0, 0, 0, 0), none, none, some (.goto (-49), 3, 11, 0, 0, 0), none, none, some (.iload_n 2, 1, 0, 0, 0, 0)],
  [some (.ireturn, 1, 0, 0, 0, 0), none, none, none, none, none, none, none, none, none, none, none, none, none, none, none]]
def xc_X5_tryRow : List (List (Option xr_R)) := [[some (.aload_n 0, 1, 0, 0, 0, 0), some (.dup, 1, 0, 0, 0, 0), some (.getfield 89, 3, 5, 10, 1, 233), none, none, some (.iconst 1, 1, 0, 0, 0, 0), some (.iadd, 1, 0, 0, 0, 0), some (.putfield 89, 3, 5, 10, 1, 233), none, none, some (.aload_n 0, 1, 0, 0, 0, 0), some (.getfield 89, 3, 5, 10, 1, 233), none, none, some (.sipush 5000, 3, 0, 0, 0, 0), none],
  [none, some (.if_icmp .le 10, 3, 27, 0, 0, 0), none, none, some (.aload_n 0, 1, 0, 0, 0, 0), some (.bipush (-2), 2, 0, 0, 0, 0), none, some (.putfield 61, 3, 5, 11, 1, 234), none, none, some (.return_, 1, 0, 0, 0, 0), some (.iconst 0, 1, 0, 0, 0, 0), some (.istore_n 1, 1, 0, 0, 0, 0), some (.iload_n 1, 1, 0, 0, 0, 0), some (.aload_n 0, 1, 0, 0, 0, 0), some (.getfield 9, 3, 5, 2, 1, 225)],
  [none, none, some (.getfield 24, 3, 2, 7, 1, 176), none, none, some (.if_icmp .ge 26, 3, 63, 0, 0, 0), none, none, some (.aload_n 0, 1, 0, 0, 0, 0), some (.getfield 47, 3, 5, 7, 1, 230), none, none, some (.iload_n 1, 1, 0, 0, 0, 0), some (.aload_n 0, 1, 0, 0, 0, 0), some (.getfield 44, 3, 5, 6, 1, 229), none],
  [none, some (.aload_n 0, 1, 0, 0, 0, 0), some (.getfield 35, 3, 5, 3, 1, 226), none, none, some (.iload_n 1, 1, 0, 0, 0, 0), some (.iaload, 1, 0, 0, 0, 0), some (.iaload, 1, 0, 0, 0, 0), some (.iastore, 1, 0, 0, 0, 0), some (.iinc 1 1, 3, 0, 0, 0, 0), none, none, some (.goto (-31), 3, 29, 0, 0, 0), none, none, some (.aload_n 0, 1, 0, 0, 0, 0)],
  [some (.invokevirtual 129, 3, 83, 0, 4, 67), none, none, some (.ifCond .eq 15, 3, 82, 0, 0, 0), none, none, some (.aload_n 0, 1, 0, 0, 0, 0), some (.aload_n 0, 1, 0, 0, 0, 0), some (.getfield 92, 3, 5, 9, 1, 232), none, none, some (.putfield 61, 3, 5, 11, 1, 234), none, none, some (.aload_n 0, 1, 0, 0, 0, 0), some (.invokevirtual 132, 3, 86, 0, 4, 79)],
  [none, none, some (.return_, 1, 0, 0, 0, 0), none, none, none, none, none, none, none, none, none, none, none, none, none]]
def xc_X5_doesTheSame : List (List (Option xr_R)) := [[some (.aload_n 0, 1, 0, 0, 0, 0), some (.aload_n 0, 1, 0, 0, 0, 0), some (.getfield 80, 3, 5, 12, 1, 235), none, none, some (.invokevirtual 135, 3, 85, 0, 4, 71), none, none, some (.aload_n 0, 1, 0, 0, 0, 0), some (.aload_n 0, 1, 0, 0, 0, 0), some (.getfield 86, 3, 5, 13, 1, 236), none, none, some (.invokevirtual 135, 3, 85, 0, 4, 71), none, none],
  [some (.iadd, 1, 0, 0, 0, 0), some (.aload_n 0, 1, 0, 0, 0, 0), some (.getfield 92, 3, 5, 9, 1, 232), none, none, some (.if_icmp .gt 5, 3, 26, 0, 0, 0), none, none, some (.iconst 0, 1, 0, 0, 0, 0), some (.ireturn, 1, 0, 0, 0, 0), some (.aload_n 0, 1, 0, 0, 0, 0), some (.aload_n 0, 1, 0, 0, 0, 0), some (.aload_n 0, 1, 0, 0, 0, 0), some (.getfield 9, 3, 5, 2, 1, 225), none, none],
  [some (.getfield 77, 3, 2, 0, 1, 163), none, none, some (.aload_n 0, 1, 0, 0, 0, 0), some (.getfield 9, 3, 5, 2, 1, 225), none, none, some (.getfield 64, 3, 2, 9, 1, 178), none, none, some (.invokevirtual 138, 3, 84, 0, 4, 75), none, none, some (.putfield 80, 3, 5, 12, 1, 235), none, none],
  [some (.aload_n 0, 1, 0, 0, 0, 0), some (.aload_n 0, 1, 0, 0, 0, 0), some (.aload_n 0, 1, 0, 0, 0, 0), some (.getfield 9, 3, 5, 2, 1, 225), none, none, some (.getfield 83, 3, 2, 1, 1, 166), none, none, some (.aload_n 0, 1, 0, 0, 0, 0), some (.getfield 9, 3, 5, 2, 1, 225), none, none, some (.getfield 67, 3, 2, 10, 1, 181), none, none],
  [some (.invokevirtual 138, 3, 84, 0, 4, 75), none, none, some (.putfield 86, 3, 5, 13, 1, 236), none, none, some (.aload_n 0, 1, 0, 0, 0, 0), some (.aload_n 0, 1, 0, 0, 0, 0), some (.getfield 80, 3, 5, 12, 1, 235), none, none, some (.invokevirtual 135, 3, 85, 0, 4, 71), none, none, some (.aload_n 0, 1, 0, 0, 0, 0), some (.aload_n 0, 1, 0, 0, 0, 0)],
  [some (.getfield 86, 3, 5, 13, 1, 236), none, none, some (.invokevirtual 135, 3, 85, 0, 4, 71), none, none, some (.iadd, 1, 0, 0, 0, 0), some (.aload_n 0, 1, 0, 0, 0, 0), some (.getfield 92, 3, 5, 9, 1, 232), none, none, some (.if_icmp .le 7, 3, 98, 0, 0, 0), none, none, some (.iconst 1, 1, 0, 0, 0, 0), some (.goto 4, 3, 99, 0, 0, 0)],
  [none, none, some (.iconst 0, 1, 0, 0, 0, 0), some (.ireturn, 1, 0, 0, 0, 0), none, none, none, none, none, none, none, none, none, none, none, none]]
def xc_X5_lightest : List (List (Option xr_R)) := [[some (.aload_n 1, 1, 0, 0, 0, 0), some (.iconst 0, 1, 0, 0, 0, 0), some (.iaload, 1, 0, 0, 0, 0), some (.istore_n 3, 1, 0, 0, 0, 0), some (.aload_n 0, 1, 0, 0, 0, 0), some (.iload_n 3, 1, 0, 0, 0, 0), some (.invokevirtual 135, 3, 85, 0, 4, 71), none, none, some (.istore 4, 2, 0, 0, 0, 0), none, some (.iconst 1, 1, 0, 0, 0, 0), some (.istore 5, 2, 0, 0, 0, 0), none, some (.iload 5, 2, 0, 0, 0, 0), none],
  [some (.iload_n 2, 1, 0, 0, 0, 0), some (.if_icmp .ge 35, 3, 52, 0, 0, 0), none, none, some (.aload_n 0, 1, 0, 0, 0, 0), some (.aload_n 1, 1, 0, 0, 0, 0), some (.iload 5, 2, 0, 0, 0, 0), none, some (.iaload, 1, 0, 0, 0, 0), some (.invokevirtual 135, 3, 85, 0, 4, 71), none, none, some (.istore 6, 2, 0, 0, 0, 0), none, some (.iload 6, 2, 0, 0, 0, 0), none],
  [some (.iload 4, 2, 0, 0, 0, 0), none, some (.if_icmp .ge 12, 3, 46, 0, 0, 0), none, none, some (.aload_n 1, 1, 0, 0, 0, 0), some (.iload 5, 2, 0, 0, 0, 0), none, some (.iaload, 1, 0, 0, 0, 0), some (.istore_n 3, 1, 0, 0, 0, 0), some (.iload 6, 2, 0, 0, 0, 0), none, some (.istore 4, 2, 0, 0, 0, 0), none, some (.iinc 5 1, 3, 0, 0, 0, 0), none],
  [none, some (.goto (-35), 3, 14, 0, 0, 0), none, none, some (.iload_n 3, 1, 0, 0, 0, 0), some (.ireturn, 1, 0, 0, 0, 0), none, none, none, none, none, none, none, none, none, none]]
def xc_X5_weightOf : List (List (Option xr_R)) := [[some (.iconst 0, 1, 0, 0, 0, 0), some (.istore_n 2, 1, 0, 0, 0, 0), some (.iconst 0, 1, 0, 0, 0, 0), some (.istore_n 3, 1, 0, 0, 0, 0), some (.iload_n 3, 1, 0, 0, 0, 0), some (.aload_n 0, 1, 0, 0, 0, 0), some (.getfield 9, 3, 5, 2, 1, 225), none, none, some (.getfield 24, 3, 2, 7, 1, 176), none, none, some (.if_icmp .ge 24, 3, 36, 0, 0, 0), none, none, some (.iload_n 2, 1, 0, 0, 0, 0)],
  [some (.aload_n 0, 1, 0, 0, 0, 0), some (.getfield 47, 3, 5, 7, 1, 230), none, none, some (.iload_n 3, 1, 0, 0, 0, 0), some (.iaload, 1, 0, 0, 0, 0), some (.iload_n 1, 1, 0, 0, 0, 0), some (.iload_n 3, 1, 0, 0, 0, 0), some (.ishr, 1, 0, 0, 0, 0), some (.iconst 1, 1, 0, 0, 0, 0), some (.iand, 1, 0, 0, 0, 0), some (.imul, 1, 0, 0, 0, 0), some (.iadd, 1, 0, 0, 0, 0), some (.istore_n 2, 1, 0, 0, 0, 0), some (.iinc 3 1, 3, 0, 0, 0, 0), none],
  [none, some (.goto (-29), 3, 4, 0, 0, 0), none, none, some (.iload_n 2, 1, 0, 0, 0, 0), some (.ireturn, 1, 0, 0, 0, 0), none, none, none, none, none, none, none, none, none, none]]
def xc_X5_tell : List (List (Option xr_R)) := [[some (.iconst 0, 1, 0, 0, 0, 0), some (.istore_n 1, 1, 0, 0, 0, 0), some (.iload_n 1, 1, 0, 0, 0, 0), some (.bipush 12, 2, 0, 0, 0, 0), none, some (.if_icmp .ge 36, 3, 41, 0, 0, 0), none, none, some (.aload_n 0, 1, 0, 0, 0, 0), some (.getfield 31, 3, 5, 0, 1, 221), none, none, some (.iload_n 1, 1, 0, 0, 0, 0), some (.iload_n 1, 1, 0, 0, 0, 0), some (.aload_n 0, 1, 0, 0, 0, 0), some (.getfield 9, 3, 5, 2, 1, 225)],
  [none, none, some (.getfield 24, 3, 2, 7, 1, 176), none, none, some (.if_icmp .ge 12, 3, 33, 0, 0, 0), none, none, some (.aload_n 0, 1, 0, 0, 0, 0), some (.getfield 47, 3, 5, 7, 1, 230), none, none, some (.iload_n 1, 1, 0, 0, 0, 0), some (.iaload, 1, 0, 0, 0, 0), some (.goto 4, 3, 34, 0, 0, 0), none],
  [none, some (.iconst (-1), 1, 0, 0, 0, 0), some (.iastore, 1, 0, 0, 0, 0), some (.iinc 1 1, 3, 0, 0, 0, 0), none, none, some (.goto (-36), 3, 2, 0, 0, 0), none, none, some (.aload_n 0, 1, 0, 0, 0, 0), some (.aload_n 0, 1, 0, 0, 0, 0), some (.aload_n 0, 1, 0, 0, 0, 0), some (.getfield 80, 3, 5, 12, 1, 235), none, none, some (.invokevirtual 135, 3, 85, 0, 4, 71)],
  [none, none, some (.putfield 50, 3, 5, 1, 1, 223), none, none, some (.return_, 1, 0, 0, 0, 0), none, none, none, none, none, none, none, none, none, none]]
def xc_X6_init : List (List (Option xr_R)) := [[some (.aload_n 0, 1, 0, 0, 0, 0), some (.invokespecial 1, 3, 0, 1, 1, 78), none, none, some (.aload_n 0, 1, 0, 0, 0, 0), some (.aload_n 1, 1, 0, 0, 0, 0), some (.putfield 7, 3, 6, 0, 1, 79), none, none, some (.return_, 1, 0, 0, 0, 0), none, none, none, none, none, none]]
def xc_X6_begin : List (List (Option xr_R)) := [[some (.aload_n 0, 1, 0, 0, 0, 0), some (.aload_n 0, 1, 0, 0, 0, 0), some (.getfield 7, 3, 6, 0, 1, 79), none, none, some (.getfield 13, 3, 8, 1, 1, 38), none, none, some (.sipush 600, 3, 0, 0, 0, 0), none, none, some (.invokestatic 19, 3, 0, 2, 2, 171), none, none, some (.putfield 25, 3, 6, 1, 1, 80), none],
  [none, some (.aload_n 0, 1, 0, 0, 0, 0), some (.iconst 0, 1, 0, 0, 0, 0), some (.putfield 28, 3, 6, 2, 1, 81), none, none, some (.aload_n 0, 1, 0, 0, 0, 0), some (.invokevirtual 31, 3, 90, 0, 2, 174), none, none, some (.return_, 1, 0, 0, 0, 0), none, none, none, none, none]]
def xc_X6_isCut : List (List (Option xr_R)) := [[some (.aload_n 0, 1, 0, 0, 0, 0), some (.getfield 7, 3, 6, 0, 1, 79), none, none, some (.getfield 13, 3, 8, 1, 1, 38), none, none, some (.sipush 600, 3, 0, 0, 0, 0), none, none, some (.if_icmp .le 7, 3, 17, 0, 0, 0), none, none, some (.iconst 1, 1, 0, 0, 0, 0), some (.goto 4, 3, 18, 0, 0, 0), none],
  [none, some (.iconst 0, 1, 0, 0, 0, 0), some (.ireturn, 1, 0, 0, 0, 0), none, none, none, none, none, none, none, none, none, none, none, none, none]]
def xc_X6_advance : List (List (Option xr_R)) := [[some (.aload_n 0, 1, 0, 0, 0, 0), some (.getfield 28, 3, 6, 2, 1, 81), none, none, some (.aload_n 0, 1, 0, 0, 0, 0), some (.getfield 25, 3, 6, 1, 1, 80), none, none, some (.if_icmp .ge 33, 3, 41, 0, 0, 0), none, none, some (.aload_n 0, 1, 0, 0, 0, 0), some (.getfield 7, 3, 6, 0, 1, 79), none, none, some (.aload_n 0, 1, 0, 0, 0, 0)],
  [some (.getfield 28, 3, 6, 2, 1, 81), none, none, some (.invokevirtual 34, 3, 108, 0, 2, 178), none, none, some (.invokestatic 38, 3, 97, 0, 2, 182), none, none, some (.ifCond .eq 16, 3, 41, 0, 0, 0), none, none, some (.aload_n 0, 1, 0, 0, 0, 0), some (.dup, 1, 0, 0, 0, 0), some (.getfield 28, 3, 6, 2, 1, 81), none],
  [none, some (.iconst 1, 1, 0, 0, 0, 0), some (.iadd, 1, 0, 0, 0, 0), some (.putfield 28, 3, 6, 2, 1, 81), none, none, some (.goto (-38), 3, 0, 0, 0, 0), none, none, some (.aload_n 0, 1, 0, 0, 0, 0), some (.aload_n 0, 1, 0, 0, 0, 0), some (.getfield 28, 3, 6, 2, 1, 81), none, none, some (.aload_n 0, 1, 0, 0, 0, 0), some (.getfield 25, 3, 6, 1, 1, 80)],
  [none, none, some (.invokestatic 19, 3, 0, 2, 2, 171), none, none, some (.putfield 42, 3, 6, 4, 1, 85), none, none, some (.aload_n 0, 1, 0, 0, 0, 0), some (.getfield 28, 3, 6, 2, 1, 81), none, none, some (.aload_n 0, 1, 0, 0, 0, 0), some (.getfield 25, 3, 6, 1, 1, 80), none, none],
  [some (.if_icmp .lt 11, 3, 75, 0, 0, 0), none, none, some (.aload_n 0, 1, 0, 0, 0, 0), some (.iconst 0, 1, 0, 0, 0, 0), some (.putfield 45, 3, 6, 3, 1, 82), none, none, some (.goto 90, 3, 162, 0, 0, 0), none, none, some (.aload_n 0, 1, 0, 0, 0, 0), some (.getfield 7, 3, 6, 0, 1, 79), none, none, some (.aload_n 0, 1, 0, 0, 0, 0)],
  [some (.getfield 28, 3, 6, 2, 1, 81), none, none, some (.invokevirtual 34, 3, 108, 0, 2, 178), none, none, some (.invokestatic 48, 3, 98, 0, 2, 185), none, none, some (.ifCond .ne 20, 3, 109, 0, 0, 0), none, none, some (.aload_n 0, 1, 0, 0, 0, 0), some (.getfield 7, 3, 6, 0, 1, 79), none, none],
  [some (.aload_n 0, 1, 0, 0, 0, 0), some (.getfield 28, 3, 6, 2, 1, 81), none, none, some (.invokevirtual 34, 3, 108, 0, 2, 178), none, none, some (.invokestatic 51, 3, 99, 0, 2, 188), none, none, some (.ifCond .eq 10, 3, 116, 0, 0, 0), none, none, some (.aload_n 0, 1, 0, 0, 0, 0), some (.invokevirtual 54, 3, 91, 0, 2, 191), none],
  [none, some (.goto 49, 3, 162, 0, 0, 0), none, none, some (.aload_n 0, 1, 0, 0, 0, 0), some (.aload_n 0, 1, 0, 0, 0, 0), some (.getfield 7, 3, 6, 0, 1, 79), none, none, some (.aload_n 0, 1, 0, 0, 0, 0), some (.getfield 28, 3, 6, 2, 1, 81), none, none, some (.invokevirtual 34, 3, 108, 0, 2, 178), none, none],
  [some (.invokestatic 57, 3, 100, 0, 2, 195), none, none, some (.ifCond .eq 17, 3, 148, 0, 0, 0), none, none, some (.aload_n 0, 1, 0, 0, 0, 0), some (.getfield 7, 3, 6, 0, 1, 79), none, none, some (.aload_n 0, 1, 0, 0, 0, 0), some (.getfield 28, 3, 6, 2, 1, 81), none, none, some (.invokevirtual 34, 3, 108, 0, 2, 178), none],
  [none, some (.goto 4, 3, 149, 0, 0, 0), none, none, some (.iconst 1, 1, 0, 0, 0, 0), some (.putfield 45, 3, 6, 3, 1, 82), none, none, some (.aload_n 0, 1, 0, 0, 0, 0), some (.dup, 1, 0, 0, 0, 0), some (.getfield 28, 3, 6, 2, 1, 81), none, none, some (.iconst 1, 1, 0, 0, 0, 0), some (.iadd, 1, 0, 0, 0, 0), some (.putfield 28, 3, 6, 2, 1, 81)],
  [none, none, some (.aload_n 0, 1, 0, 0, 0, 0), some (.aload_n 0, 1, 0, 0, 0, 0), some (.getfield 28, 3, 6, 2, 1, 81), none, none, some (.putfield 60, 3, 6, 5, 1, 86), none, none, some (.return_, 1, 0, 0, 0, 0), none, none, none, none, none]]
def xc_X6_takeRun : List (List (Option xr_R)) := [[some (.iconst 0, 1, 0, 0, 0, 0), some (.istore_n 1, 1, 0, 0, 0, 0), some (.iconst 0, 1, 0, 0, 0, 0), some (.istore_n 2, 1, 0, 0, 0, 0), some (.aload_n 0, 1, 0, 0, 0, 0), some (.iconst 0, 1, 0, 0, 0, 0), some (.putfield 63, 3, 6, 6, 1, 88), none, none, some (.aload_n 0, 1, 0, 0, 0, 0), some (.getfield 28, 3, 6, 2, 1, 81), none, none, some (.aload_n 0, 1, 0, 0, 0, 0), some (.getfield 7, 3, 6, 0, 1, 79), none],
  [none, some (.getfield 13, 3, 8, 1, 1, 38), none, none, some (.if_icmp .ge 79, 3, 99, 0, 0, 0), none, none, some (.aload_n 0, 1, 0, 0, 0, 0), some (.getfield 7, 3, 6, 0, 1, 79), none, none, some (.aload_n 0, 1, 0, 0, 0, 0), some (.getfield 28, 3, 6, 2, 1, 81), none, none, some (.invokevirtual 34, 3, 108, 0, 2, 178)],
  [none, none, some (.istore_n 3, 1, 0, 0, 0, 0), some (.iload_n 3, 1, 0, 0, 0, 0), some (.invokestatic 48, 3, 98, 0, 2, 185), none, none, some (.ifCond .eq 9, 3, 48, 0, 0, 0), none, none, some (.iinc 1 1, 3, 0, 0, 0, 0), none, none, some (.goto 41, 3, 86, 0, 0, 0), none, none],
  [some (.iload_n 3, 1, 0, 0, 0, 0), some (.invokestatic 51, 3, 99, 0, 2, 188), none, none, some (.ifCond .eq 47, 3, 99, 0, 0, 0), none, none, some (.iinc 2 1, 3, 0, 0, 0, 0), none, none, some (.aload_n 0, 1, 0, 0, 0, 0), some (.iload_n 2, 1, 0, 0, 0, 0), some (.iconst 3, 1, 0, 0, 0, 0), some (.if_icmp .gt 18, 3, 79, 0, 0, 0), none, none],
  [some (.aload_n 0, 1, 0, 0, 0, 0), some (.getfield 63, 3, 6, 6, 1, 88), none, none, some (.bipush 10, 2, 0, 0, 0, 0), none, some (.imul, 1, 0, 0, 0, 0), some (.iload_n 3, 1, 0, 0, 0, 0), some (.iadd, 1, 0, 0, 0, 0), some (.bipush 48, 2, 0, 0, 0, 0), none, some (.isub, 1, 0, 0, 0, 0), some (.goto 7, 3, 83, 0, 0, 0), none, none, some (.aload_n 0, 1, 0, 0, 0, 0)],
  [some (.getfield 63, 3, 6, 6, 1, 88), none, none, some (.putfield 63, 3, 6, 6, 1, 88), none, none, some (.aload_n 0, 1, 0, 0, 0, 0), some (.dup, 1, 0, 0, 0, 0), some (.getfield 28, 3, 6, 2, 1, 81), none, none, some (.iconst 1, 1, 0, 0, 0, 0), some (.iadd, 1, 0, 0, 0, 0), some (.putfield 28, 3, 6, 2, 1, 81), none, none],
  [some (.goto (-87), 3, 9, 0, 0, 0), none, none, some (.aload_n 0, 1, 0, 0, 0, 0), some (.iconst 1, 1, 0, 0, 0, 0), some (.putfield 45, 3, 6, 3, 1, 82), none, none, some (.iload_n 2, 1, 0, 0, 0, 0), some (.ifCond .ne 17, 3, 122, 0, 0, 0), none, none, some (.iload_n 1, 1, 0, 0, 0, 0), some (.bipush 8, 2, 0, 0, 0, 0), none, some (.if_icmp .gt 11, 3, 122, 0, 0, 0)],
  [none, none, some (.aload_n 0, 1, 0, 0, 0, 0), some (.iconst 2, 1, 0, 0, 0, 0), some (.putfield 45, 3, 6, 3, 1, 82), none, none, some (.goto 17, 3, 136, 0, 0, 0), none, none, some (.iload_n 1, 1, 0, 0, 0, 0), some (.ifCond .ne 13, 3, 136, 0, 0, 0), none, none, some (.iload_n 2, 1, 0, 0, 0, 0), some (.iconst 3, 1, 0, 0, 0, 0)],
  [some (.if_icmp .gt 8, 3, 136, 0, 0, 0), none, none, some (.aload_n 0, 1, 0, 0, 0, 0), some (.iconst 3, 1, 0, 0, 0, 0), some (.putfield 45, 3, 6, 3, 1, 82), none, none, some (.return_, 1, 0, 0, 0, 0), none, none, none, none, none, none, none]]
def xc_X6_isWord : List (List (Option xr_R)) := [[some (.aload_n 0, 1, 0, 0, 0, 0), some (.getfield 45, 3, 6, 3, 1, 82), none, none, some (.iconst 2, 1, 0, 0, 0, 0), some (.if_icmp .ne 19, 3, 24, 0, 0, 0), none, none, some (.aload_n 0, 1, 0, 0, 0, 0), some (.getfield 60, 3, 6, 5, 1, 86), none, none, some (.aload_n 0, 1, 0, 0, 0, 0), some (.getfield 42, 3, 6, 4, 1, 85), none, none],
  [some (.isub, 1, 0, 0, 0, 0), some (.aload_n 1, 1, 0, 0, 0, 0), none, none, none, some (.if_icmp .eq 5, 3, 26, 0, 0, 0), none, none, some (.iconst 0, 1, 0, 0, 0, 0), some (.ireturn, 1, 0, 0, 0, 0), some (.iconst 0, 1, 0, 0, 0, 0), some (.istore_n 2, 1, 0, 0, 0, 0), some (.iload_n 2, 1, 0, 0, 0, 0), some (.aload_n 1, 1, 0, 0, 0, 0), none, none],
  [none, some (.if_icmp .ge 32, 3, 65, 0, 0, 0), none, none, some (.aload_n 0, 1, 0, 0, 0, 0), some (.getfield 7, 3, 6, 0, 1, 79), none, none, some (.aload_n 0, 1, 0, 0, 0, 0), some (.getfield 42, 3, 6, 4, 1, 85), none, none, some (.iload_n 2, 1, 0, 0, 0, 0), some (.iadd, 1, 0, 0, 0, 0), some (.invokevirtual 34, 3, 108, 0, 2, 178), none],
  [none, some (.aload_n 1, 1, 0, 0, 0, 0), some (.iload_n 2, 1, 0, 0, 0, 0), none, none, none, some (.if_icmp .eq 5, 3, 59, 0, 0, 0), none, none, some (.iconst 0, 1, 0, 0, 0, 0), some (.ireturn, 1, 0, 0, 0, 0), some (.iinc 2 1, 3, 0, 0, 0, 0), none, none, some (.goto (-34), 3, 28, 0, 0, 0), none],
  [none, some (.iconst 1, 1, 0, 0, 0, 0), some (.ireturn, 1, 0, 0, 0, 0), none, none, none, none, none, none, none, none, none, none, none, none, none]]
def xc_X6_isName : List (List (Option xr_R)) := [[some (.aload_n 0, 1, 0, 0, 0, 0), some (.ldc 75, 2, 2, 2, 0, 0), none, some (.invokevirtual 77, 3, 92, 0, 3, 25), none, none, some (.ifCond .ne 39, 3, 45, 0, 0, 0), none, none, some (.aload_n 0, 1, 0, 0, 0, 0), some (.ldc 81, 2, 3, 3, 0, 0), none, some (.invokevirtual 77, 3, 92, 0, 3, 25), none, none, some (.ifCond .ne 30, 3, 45, 0, 0, 0)],
  [none, none, some (.aload_n 0, 1, 0, 0, 0, 0), some (.ldc 83, 2, 4, 4, 0, 0), none, some (.invokevirtual 77, 3, 92, 0, 3, 25), none, none, some (.ifCond .ne 21, 3, 45, 0, 0, 0), none, none, some (.aload_n 0, 1, 0, 0, 0, 0), some (.ldc 85, 2, 5, 5, 0, 0), none, some (.invokevirtual 77, 3, 92, 0, 3, 25), none],
  [none, some (.ifCond .ne 12, 3, 45, 0, 0, 0), none, none, some (.aload_n 0, 1, 0, 0, 0, 0), some (.ldc 87, 2, 6, 6, 0, 0), none, some (.invokevirtual 77, 3, 92, 0, 3, 25), none, none, some (.ifCond .eq 7, 3, 49, 0, 0, 0), none, none, some (.iconst 1, 1, 0, 0, 0, 0), some (.goto 4, 3, 50, 0, 0, 0), none],
  [none, some (.iconst 0, 1, 0, 0, 0, 0), some (.istore_n 1, 1, 0, 0, 0, 0), some (.aload_n 0, 1, 0, 0, 0, 0), some (.getfield 45, 3, 6, 3, 1, 82), none, none, some (.iconst 2, 1, 0, 0, 0, 0), some (.if_icmp .ne 24, 3, 80, 0, 0, 0), none, none, some (.aload_n 0, 1, 0, 0, 0, 0), some (.getfield 60, 3, 6, 5, 1, 86), none, none, some (.aload_n 0, 1, 0, 0, 0, 0)],
  [some (.getfield 42, 3, 6, 4, 1, 85), none, none, some (.isub, 1, 0, 0, 0, 0), some (.iconst 2, 1, 0, 0, 0, 0), some (.if_icmp .lt 11, 3, 80, 0, 0, 0), none, none, some (.iload_n 1, 1, 0, 0, 0, 0), some (.ifCond .ne 7, 3, 80, 0, 0, 0), none, none, some (.iconst 1, 1, 0, 0, 0, 0), some (.goto 4, 3, 81, 0, 0, 0), none, none],
  [some (.iconst 0, 1, 0, 0, 0, 0), some (.ireturn, 1, 0, 0, 0, 0), none, none, none, none, none, none, none, none, none, none, none, none, none, none]]
def xc_X6_isLone : List (List (Option xr_R)) := [[some (.aload_n 0, 1, 0, 0, 0, 0), some (.getfield 45, 3, 6, 3, 1, 82), none, none, some (.iconst 2, 1, 0, 0, 0, 0), some (.if_icmp .ne 20, 3, 25, 0, 0, 0), none, none, some (.aload_n 0, 1, 0, 0, 0, 0), some (.getfield 60, 3, 6, 5, 1, 86), none, none, some (.aload_n 0, 1, 0, 0, 0, 0), some (.getfield 42, 3, 6, 4, 1, 85), none, none],
  [some (.isub, 1, 0, 0, 0, 0), some (.iconst 1, 1, 0, 0, 0, 0), some (.if_icmp .ne 7, 3, 25, 0, 0, 0), none, none, some (.iconst 1, 1, 0, 0, 0, 0), some (.goto 4, 3, 26, 0, 0, 0), none, none, some (.iconst 0, 1, 0, 0, 0, 0), some (.ireturn, 1, 0, 0, 0, 0), none, none, none, none, none]]
def xc_X6_letter : List (List (Option xr_R)) := [[some (.aload_n 0, 1, 0, 0, 0, 0), some (.getfield 7, 3, 6, 0, 1, 79), none, none, some (.aload_n 0, 1, 0, 0, 0, 0), some (.getfield 42, 3, 6, 4, 1, 85), none, none, some (.invokevirtual 34, 3, 108, 0, 2, 178), none, none, some (.bipush 97, 2, 0, 0, 0, 0), none, some (.isub, 1, 0, 0, 0, 0), some (.ireturn, 1, 0, 0, 0, 0), none]]
def xc_X6_isLike : List (List (Option xr_R)) := [[some (.iload_n 2, 1, 0, 0, 0, 0), some (.iload_n 1, 1, 0, 0, 0, 0), some (.isub, 1, 0, 0, 0, 0), some (.aload_n 0, 1, 0, 0, 0, 0), some (.getfield 60, 3, 6, 5, 1, 86), none, none, some (.aload_n 0, 1, 0, 0, 0, 0), some (.getfield 42, 3, 6, 4, 1, 85), none, none, some (.isub, 1, 0, 0, 0, 0), some (.if_icmp .eq 5, 3, 17, 0, 0, 0), none, none, some (.iconst 0, 1, 0, 0, 0, 0)],
  [some (.ireturn, 1, 0, 0, 0, 0), some (.iconst 0, 1, 0, 0, 0, 0), some (.istore_n 3, 1, 0, 0, 0, 0), some (.iload_n 3, 1, 0, 0, 0, 0), some (.iload_n 2, 1, 0, 0, 0, 0), some (.iload_n 1, 1, 0, 0, 0, 0), some (.isub, 1, 0, 0, 0, 0), some (.if_icmp .ge 37, 3, 60, 0, 0, 0), none, none, some (.aload_n 0, 1, 0, 0, 0, 0), some (.getfield 7, 3, 6, 0, 1, 79), none, none, some (.iload_n 1, 1, 0, 0, 0, 0), some (.iload_n 3, 1, 0, 0, 0, 0)],
  [some (.iadd, 1, 0, 0, 0, 0), some (.invokevirtual 34, 3, 108, 0, 2, 178), none, none, some (.aload_n 0, 1, 0, 0, 0, 0), some (.getfield 7, 3, 6, 0, 1, 79), none, none, some (.aload_n 0, 1, 0, 0, 0, 0), some (.getfield 42, 3, 6, 4, 1, 85), none, none, some (.iload_n 3, 1, 0, 0, 0, 0), some (.iadd, 1, 0, 0, 0, 0), some (.invokevirtual 34, 3, 108, 0, 2, 178), none],
  [none, some (.if_icmp .eq 5, 3, 54, 0, 0, 0), none, none, some (.iconst 0, 1, 0, 0, 0, 0), some (.ireturn, 1, 0, 0, 0, 0), some (.iinc 3 1, 3, 0, 0, 0, 0), none, none, some (.goto (-38), 3, 19, 0, 0, 0), none, none, some (.iconst 1, 1, 0, 0, 0, 0), some (.ireturn, 1, 0, 0, 0, 0), none, none]]
def xc_X6_isBlank : List (List (Option xr_R)) := [[some (.iload_n 0, 1, 0, 0, 0, 0), some (.bipush 32, 2, 0, 0, 0, 0), none, some (.if_icmp .eq 9, 3, 12, 0, 0, 0), none, none, some (.iload_n 0, 1, 0, 0, 0, 0), some (.bipush 10, 2, 0, 0, 0, 0), none, some (.if_icmp .ne 7, 3, 16, 0, 0, 0), none, none, some (.iconst 1, 1, 0, 0, 0, 0), some (.goto 4, 3, 17, 0, 0, 0), none, none],
  [some (.iconst 0, 1, 0, 0, 0, 0), some (.ireturn, 1, 0, 0, 0, 0), none, none, none, none, none, none, none, none, none, none, none, none, none, none]]
def xc_X6_isLetter : List (List (Option xr_R)) := [[some (.iload_n 0, 1, 0, 0, 0, 0), some (.bipush 97, 2, 0, 0, 0, 0), none, some (.if_icmp .lt 13, 3, 16, 0, 0, 0), none, none, some (.iload_n 0, 1, 0, 0, 0, 0), some (.bipush 122, 2, 0, 0, 0, 0), none, some (.if_icmp .gt 7, 3, 16, 0, 0, 0), none, none, some (.iconst 1, 1, 0, 0, 0, 0), some (.goto 4, 3, 17, 0, 0, 0), none, none],
  [some (.iconst 0, 1, 0, 0, 0, 0), some (.ireturn, 1, 0, 0, 0, 0), none, none, none, none, none, none, none, none, none, none, none, none, none, none]]
def xc_X6_isDigit : List (List (Option xr_R)) := [[some (.iload_n 0, 1, 0, 0, 0, 0), some (.bipush 48, 2, 0, 0, 0, 0), none, some (.if_icmp .lt 13, 3, 16, 0, 0, 0), none, none, some (.iload_n 0, 1, 0, 0, 0, 0), some (.bipush 57, 2, 0, 0, 0, 0), none, some (.if_icmp .gt 7, 3, 16, 0, 0, 0), none, none, some (.iconst 1, 1, 0, 0, 0, 0), some (.goto 4, 3, 17, 0, 0, 0), none, none],
  [some (.iconst 0, 1, 0, 0, 0, 0), some (.ireturn, 1, 0, 0, 0, 0), none, none, none, none, none, none, none, none, none, none, none, none, none, none]]
def xc_X6_isSign : List (List (Option xr_R)) := [[some (.iload_n 0, 1, 0, 0, 0, 0), some (.bipush 59, 2, 0, 0, 0, 0), none, some (.if_icmp .eq 39, 3, 42, 0, 0, 0), none, none, some (.iload_n 0, 1, 0, 0, 0, 0), some (.bipush 58, 2, 0, 0, 0, 0), none, some (.if_icmp .eq 33, 3, 42, 0, 0, 0), none, none, some (.iload_n 0, 1, 0, 0, 0, 0), some (.bipush 42, 2, 0, 0, 0, 0), none, some (.if_icmp .eq 27, 3, 42, 0, 0, 0)],
  [none, none, some (.iload_n 0, 1, 0, 0, 0, 0), some (.bipush 40, 2, 0, 0, 0, 0), none, some (.if_icmp .eq 21, 3, 42, 0, 0, 0), none, none, some (.iload_n 0, 1, 0, 0, 0, 0), some (.bipush 41, 2, 0, 0, 0, 0), none, some (.if_icmp .eq 15, 3, 42, 0, 0, 0), none, none, some (.iload_n 0, 1, 0, 0, 0, 0), some (.bipush 91, 2, 0, 0, 0, 0)],
  [none, some (.if_icmp .eq 9, 3, 42, 0, 0, 0), none, none, some (.iload_n 0, 1, 0, 0, 0, 0), some (.bipush 93, 2, 0, 0, 0, 0), none, some (.if_icmp .ne 7, 3, 46, 0, 0, 0), none, none, some (.iconst 1, 1, 0, 0, 0, 0), some (.goto 4, 3, 47, 0, 0, 0), none, none, some (.iconst 0, 1, 0, 0, 0, 0), some (.ireturn, 1, 0, 0, 0, 0)]]
def xc_X7_init : List (List (Option xr_R)) := [[some (.aload_n 0, 1, 0, 0, 0, 0), some (.invokespecial 1, 3, 0, 1, 1, 145), none, none, some (.aload_n 0, 1, 0, 0, 0, 0), some (.iload_n 1, 1, 0, 0, 0, 0), some (.putfield 7, 3, 7, 0, 1, 146), none, none, some (.aload_n 0, 1, 0, 0, 0, 0), some (.bipush 64, 2, 0, 0, 0, 0), none, some (.newarray .long, 2, 0, 0, 0, 0), none, some (.putfield 13, 3, 7, 1, 1, 148), none],
  [none, some (.return_, 1, 0, 0, 0, 0), none, none, none, none, none, none, none, none, none, none, none, none, none, none]]
def xc_X7_holds : List (List (Option xr_R)) := [[some (.iload_n 1, 1, 0, 0, 0, 0), some (.bipush 6, 2, 0, 0, 0, 0), none, some (.ishr, 1, 0, 0, 0, 0), some (.istore_n 2, 1, 0, 0, 0, 0), some (.iload_n 2, 1, 0, 0, 0, 0), some (.ifCond .lt 31, 3, 37, 0, 0, 0), none, none, some (.iload_n 2, 1, 0, 0, 0, 0), some (.bipush 64, 2, 0, 0, 0, 0), none, some (.if_icmp .ge 25, 3, 37, 0, 0, 0), none, none, some (.aload_n 0, 1, 0, 0, 0, 0)],
  [some (.getfield 13, 3, 7, 1, 1, 148), none, none, some (.iload_n 2, 1, 0, 0, 0, 0), some (.laload, 1, 0, 0, 0, 0), some (.iload_n 1, 1, 0, 0, 0, 0), some (.bipush 63, 2, 0, 0, 0, 0), none, some (.iand, 1, 0, 0, 0, 0), some (.lushr, 1, 0, 0, 0, 0), some (.lconst 1, 1, 0, 0, 0, 0), some (.land, 1, 0, 0, 0, 0), some (.lconst 0, 1, 0, 0, 0, 0), some (.lcmp, 1, 0, 0, 0, 0), some (.ifCond .eq 7, 3, 37, 0, 0, 0), none],
  [none, some (.iconst 1, 1, 0, 0, 0, 0), some (.goto 4, 3, 38, 0, 0, 0), none, none, some (.iconst 0, 1, 0, 0, 0, 0), some (.ireturn, 1, 0, 0, 0, 0), none, none, none, none, none, none, none, none, none]]
def xc_X7_add : List (List (Option xr_R)) := [[some (.iload_n 1, 1, 0, 0, 0, 0), some (.bipush 6, 2, 0, 0, 0, 0), none, some (.ishr, 1, 0, 0, 0, 0), some (.istore_n 2, 1, 0, 0, 0, 0), some (.iload_n 2, 1, 0, 0, 0, 0), some (.ifCond .lt 24, 3, 30, 0, 0, 0), none, none, some (.iload_n 2, 1, 0, 0, 0, 0), some (.bipush 64, 2, 0, 0, 0, 0), none, some (.if_icmp .ge 18, 3, 30, 0, 0, 0), none, none, some (.aload_n 0, 1, 0, 0, 0, 0)],
  [some (.getfield 13, 3, 7, 1, 1, 148), none, none, some (.iload_n 2, 1, 0, 0, 0, 0), some (.dup2, 1, 0, 0, 0, 0), some (.laload, 1, 0, 0, 0, 0), some (.lconst 1, 1, 0, 0, 0, 0), some (.iload_n 1, 1, 0, 0, 0, 0), some (.bipush 63, 2, 0, 0, 0, 0), none, some (.iand, 1, 0, 0, 0, 0), some (.lshl, 1, 0, 0, 0, 0), some (.lor, 1, 0, 0, 0, 0), some (.lastore, 1, 0, 0, 0, 0), some (.return_, 1, 0, 0, 0, 0), none]]
def xc_X7_needAll : List (List (Option xr_R)) := [[some (.iconst 0, 1, 0, 0, 0, 0), some (.istore_n 2, 1, 0, 0, 0, 0), some (.iload_n 2, 1, 0, 0, 0, 0), some (.bipush 64, 2, 0, 0, 0, 0), none, some (.if_icmp .ge 16, 3, 21, 0, 0, 0), none, none, some (.aload_n 0, 1, 0, 0, 0, 0), some (.getfield 13, 3, 7, 1, 1, 148), none, none, some (.iload_n 2, 1, 0, 0, 0, 0), some (.lconst 0, 1, 0, 0, 0, 0), some (.lastore, 1, 0, 0, 0, 0), some (.iinc 2 1, 3, 0, 0, 0, 0)],
  [none, none, some (.goto (-16), 3, 2, 0, 0, 0), none, none, some (.aload_n 0, 1, 0, 0, 0, 0), some (.iconst 1, 1, 0, 0, 0, 0), some (.iload_n 1, 1, 0, 0, 0, 0), some (.ishl, 1, 0, 0, 0, 0), some (.iconst 1, 1, 0, 0, 0, 0), some (.isub, 1, 0, 0, 0, 0), some (.invokevirtual 17, 3, 103, 0, 2, 90), none, none, some (.return_, 1, 0, 0, 0, 0), none]]
def xc_X8_init : List (List (Option xr_R)) := [[some (.aload_n 0, 1, 0, 0, 0, 0), some (.invokespecial 3, 3, 0, 1, 1, 35), none, none, some (.aload_n 0, 1, 0, 0, 0, 0), some (.sipush 640, 3, 0, 0, 0, 0), none, none, some (.newarray .byte, 2, 0, 0, 0, 0), none, some (.putfield 11, 3, 8, 0, 1, 36), none, none, some (.aload_n 0, 1, 0, 0, 0, 0), some (.iconst 0, 1, 0, 0, 0, 0), some (.putfield 15, 3, 8, 1, 1, 37)],
  [none, none, some (.return_, 1, 0, 0, 0, 0), none, none, none, none, none, none, none, none, none, none, none, none, none]]
def xc_X8_hasRoom : List (List (Option xr_R)) := [[some (.aload_n 0, 1, 0, 0, 0, 0), some (.getfield 15, 3, 8, 1, 1, 37), none, none, some (.bipush 20, 2, 0, 0, 0, 0), none, some (.iadd, 1, 0, 0, 0, 0), some (.sipush 640, 3, 0, 0, 0, 0), none, none, some (.if_icmp .gt 7, 3, 17, 0, 0, 0), none, none, some (.iconst 1, 1, 0, 0, 0, 0), some (.goto 4, 3, 18, 0, 0, 0), none],
  [none, some (.iconst 0, 1, 0, 0, 0, 0), some (.ireturn, 1, 0, 0, 0, 0), none, none, none, none, none, none, none, none, none, none, none, none, none]]
def xc_X8_put : List (List (Option xr_R)) := [[some (.bipush 24, 2, 0, 0, 0, 0), none, some (.istore_n 2, 1, 0, 0, 0, 0), some (.iload_n 2, 1, 0, 0, 0, 0), some (.ifCond .lt 42, 3, 46, 0, 0, 0), none, none, some (.aload_n 0, 1, 0, 0, 0, 0), some (.getfield 15, 3, 8, 1, 1, 37), none, none, some (.sipush 640, 3, 0, 0, 0, 0), none, none, some (.if_icmp .ge 32, 3, 46, 0, 0, 0), none],
  [none, some (.aload_n 0, 1, 0, 0, 0, 0), some (.getfield 11, 3, 8, 0, 1, 36), none, none, some (.aload_n 0, 1, 0, 0, 0, 0), some (.getfield 15, 3, 8, 1, 1, 37), none, none, some (.iload_n 1, 1, 0, 0, 0, 0), some (.iload_n 2, 1, 0, 0, 0, 0), some (.ishr, 1, 0, 0, 0, 0), some (.i2b, 1, 0, 0, 0, 0), some (.bastore, 1, 0, 0, 0, 0), some (.aload_n 0, 1, 0, 0, 0, 0), some (.dup, 1, 0, 0, 0, 0)],
  [some (.getfield 15, 3, 8, 1, 1, 37), none, none, some (.iconst 1, 1, 0, 0, 0, 0), some (.iadd, 1, 0, 0, 0, 0), some (.putfield 15, 3, 8, 1, 1, 37), none, none, some (.iinc 2 (-8), 3, 0, 0, 0, 0), none, none, some (.goto (-40), 3, 3, 0, 0, 0), none, none, some (.return_, 1, 0, 0, 0, 0), none]]
def xc_X8_at : List (List (Option xr_R)) := [[some (.iload_n 1, 1, 0, 0, 0, 0), some (.ifCond .lt 24, 3, 25, 0, 0, 0), none, none, some (.iload_n 1, 1, 0, 0, 0, 0), some (.aload_n 0, 1, 0, 0, 0, 0), some (.getfield 15, 3, 8, 1, 1, 37), none, none, some (.if_icmp .ge 16, 3, 25, 0, 0, 0), none, none, some (.aload_n 0, 1, 0, 0, 0, 0), some (.getfield 11, 3, 8, 0, 1, 36), none, none],
  [some (.iload_n 1, 1, 0, 0, 0, 0), some (.baload, 1, 0, 0, 0, 0), some (.sipush 255, 3, 0, 0, 0, 0), none, none, some (.iand, 1, 0, 0, 0, 0), some (.goto 4, 3, 26, 0, 0, 0), none, none, some (.iconst (-1), 1, 0, 0, 0, 0), some (.ireturn, 1, 0, 0, 0, 0), none, none, none, none, none]]
def xc_X9_init : List (List (Option xr_R)) := [[some (.aload_n 0, 1, 0, 0, 0, 0), some (.invokespecial 1, 3, 0, 1, 1, 27), none, none, some (.aload_n 0, 1, 0, 0, 0, 0), some (.new 7, 3, 8, 0, 1, 30), none, none, some (.dup, 1, 0, 0, 0, 0), some (.invokespecial 9, 3, 105, 0, 1, 32), none, none, some (.putfield 10, 3, 9, 0, 2, 94), none, none, some (.aload_n 0, 1, 0, 0, 0, 0)],
  [some (.new 16, 3, 4, 0, 1, 47), none, none, some (.dup, 1, 0, 0, 0, 0), some (.aload_n 0, 1, 0, 0, 0, 0), some (.getfield 10, 3, 9, 0, 2, 94), none, none, some (.invokespecial 18, 3, 53, 0, 1, 49), none, none, some (.putfield 21, 3, 9, 1, 2, 95), none, none, some (.aload_n 0, 1, 0, 0, 0, 0), some (.new 25, 3, 7, 0, 1, 140)],
  [none, none, some (.dup, 1, 0, 0, 0, 0), some (.iconst (-1), 1, 0, 0, 0, 0), some (.invokespecial 27, 3, 101, 0, 1, 142), none, none, some (.putfield 30, 3, 9, 2, 2, 96), none, none, some (.aload_n 0, 1, 0, 0, 0, 0), some (.bipush 8, 2, 0, 0, 0, 0), none, some (.anewarray 25, 3, 0, 0, 1, 140), none, none],
  [some (.putfield 34, 3, 9, 3, 2, 97), none, none, some (.aload_n 0, 1, 0, 0, 0, 0), some (.new 38, 3, 2, 0, 1, 156), none, none, some (.dup, 1, 0, 0, 0, 0), some (.aload_n 0, 1, 0, 0, 0, 0), some (.getfield 30, 3, 9, 2, 2, 96), none, none, some (.invokespecial 40, 3, 20, 0, 1, 158), none, none, some (.putfield 43, 3, 9, 4, 2, 98)],
  [none, none, some (.aload_n 0, 1, 0, 0, 0, 0), some (.new 47, 3, 5, 0, 1, 215), none, none, some (.dup, 1, 0, 0, 0, 0), some (.aload_n 0, 1, 0, 0, 0, 0), some (.getfield 43, 3, 9, 4, 2, 98), none, none, some (.invokespecial 49, 3, 71, 0, 1, 217), none, none, some (.putfield 52, 3, 9, 5, 2, 99), none],
  [none, some (.aload_n 0, 1, 0, 0, 0, 0), some (.new 56, 3, 0, 0, 2, 32), none, none, some (.dup, 1, 0, 0, 0, 0), some (.invokespecial 58, 3, 0, 0, 2, 34), none, none, some (.putfield 59, 3, 9, 6, 2, 100), none, none, some (.aload_n 0, 1, 0, 0, 0, 0), some (.new 63, 3, 1, 0, 2, 62), none, none],
  [some (.dup, 1, 0, 0, 0, 0), some (.invokespecial 65, 3, 17, 0, 2, 64), none, none, some (.putfield 66, 3, 9, 7, 2, 101), none, none, some (.aload_n 0, 1, 0, 0, 0, 0), some (.iconst 0, 1, 0, 0, 0, 0), some (.putfield 70, 3, 9, 8, 2, 102), none, none, some (.aload_n 0, 1, 0, 0, 0, 0), some (.iconst 0, 1, 0, 0, 0, 0), some (.putfield 74, 3, 9, 10, 2, 104), none],
  [none, some (.aload_n 0, 1, 0, 0, 0, 0), some (.iconst 0, 1, 0, 0, 0, 0), some (.putfield 77, 3, 9, 11, 2, 105), none, none, some (.aload_n 0, 1, 0, 0, 0, 0), some (.iconst 3, 1, 0, 0, 0, 0), some (.putfield 80, 3, 9, 9, 2, 103), none, none, some (.aload_n 0, 1, 0, 0, 0, 0), some (.getfield 30, 3, 9, 2, 2, 96), none, none, some (.iconst 3, 1, 0, 0, 0, 0)],
  [some (.invokevirtual 83, 3, 104, 0, 2, 86), none, none, some (.return_, 1, 0, 0, 0, 0), none, none, none, none, none, none, none, none, none, none, none, none]]
def xc_X9_feed : List (List (Option xr_R)) := [[some (.aload_n 0, 1, 0, 0, 0, 0), some (.getfield 10, 3, 9, 0, 2, 94), none, none, some (.invokevirtual 86, 3, 106, 0, 2, 135), none, none, some (.ifCond .ne 5, 3, 12, 0, 0, 0), none, none, some (.iconst (-1), 1, 0, 0, 0, 0), some (.ireturn, 1, 0, 0, 0, 0), some (.aload_n 0, 1, 0, 0, 0, 0), some (.getfield 10, 3, 9, 0, 2, 94), none, none],
  [some (.iload_n 1, 1, 0, 0, 0, 0), some (.invokevirtual 90, 3, 107, 0, 2, 139), none, none, some (.aload_n 0, 1, 0, 0, 0, 0), some (.getfield 10, 3, 9, 0, 2, 94), none, none, some (.iload_n 2, 1, 0, 0, 0, 0), some (.invokevirtual 90, 3, 107, 0, 2, 139), none, none, some (.aload_n 0, 1, 0, 0, 0, 0), some (.getfield 10, 3, 9, 0, 2, 94), none, none],
  [some (.iload_n 3, 1, 0, 0, 0, 0), some (.invokevirtual 90, 3, 107, 0, 2, 139), none, none, some (.aload_n 0, 1, 0, 0, 0, 0), some (.getfield 10, 3, 9, 0, 2, 94), none, none, some (.iload 4, 2, 0, 0, 0, 0), none, some (.invokevirtual 90, 3, 107, 0, 2, 139), none, none, some (.aload_n 0, 1, 0, 0, 0, 0), some (.getfield 10, 3, 9, 0, 2, 94), none],
  [none, some (.iload 5, 2, 0, 0, 0, 0), none, some (.invokevirtual 90, 3, 107, 0, 2, 139), none, none, some (.aload_n 0, 1, 0, 0, 0, 0), some (.getfield 10, 3, 9, 0, 2, 94), none, none, some (.getfield 93, 3, 8, 1, 1, 39), none, none, some (.ireturn, 1, 0, 0, 0, 0), none, none]]
def xc_X9_end : List (List (Option xr_R)) := [[some (.iload_n 1, 1, 0, 0, 0, 0), some (.ifCond .lt 14, 3, 15, 0, 0, 0), none, none, some (.iload_n 1, 1, 0, 0, 0, 0), some (.aload_n 0, 1, 0, 0, 0, 0), some (.getfield 10, 3, 9, 0, 2, 94), none, none, some (.getfield 93, 3, 8, 1, 1, 39), none, none, some (.if_icmp .le 5, 3, 17, 0, 0, 0), none, none, some (.iconst 0, 1, 0, 0, 0, 0)],
  [some (.ireturn, 1, 0, 0, 0, 0), some (.aload_n 0, 1, 0, 0, 0, 0), some (.getfield 10, 3, 9, 0, 2, 94), none, none, some (.iload_n 1, 1, 0, 0, 0, 0), some (.putfield 93, 3, 8, 1, 1, 39), none, none, some (.iconst 1, 1, 0, 0, 0, 0), some (.ireturn, 1, 0, 0, 0, 0), none, none, none, none, none]]
def xc_X9_next : List (List (Option xr_R)) := [[some (.iload_n 1, 1, 0, 0, 0, 0), some (.ifCond .lt 22, 3, 23, 0, 0, 0), none, none, some (.iload_n 1, 1, 0, 0, 0, 0), some (.sipush 999, 3, 0, 0, 0, 0), none, none, some (.if_icmp .gt 15, 3, 23, 0, 0, 0), none, none, some (.aload_n 0, 1, 0, 0, 0, 0), some (.getfield 74, 3, 9, 10, 2, 104), none, none, some (.iload_n 1, 1, 0, 0, 0, 0)],
  [some (.iadd, 1, 0, 0, 0, 0), some (.sipush 999, 3, 0, 0, 0, 0), none, none, some (.if_icmp .le 5, 3, 25, 0, 0, 0), none, none, some (.iconst (-1), 1, 0, 0, 0, 0), some (.ireturn, 1, 0, 0, 0, 0), some (.aload_n 0, 1, 0, 0, 0, 0), some (.dup, 1, 0, 0, 0, 0), some (.getfield 74, 3, 9, 10, 2, 104), none, none, some (.iload_n 1, 1, 0, 0, 0, 0), some (.iadd, 1, 0, 0, 0, 0)],
  [some (.putfield 74, 3, 9, 10, 2, 104), none, none, some (.aload_n 0, 1, 0, 0, 0, 0), some (.getfield 74, 3, 9, 10, 2, 104), none, none, some (.ireturn, 1, 0, 0, 0, 0), none, none, none, none, none, none, none, none]]
def xc_X9_members : List (List (Option xr_R)) := [[some (.aload_n 0, 1, 0, 0, 0, 0), some (.getfield 70, 3, 9, 8, 2, 102), none, none, some (.ifCond .gt 23, 3, 27, 0, 0, 0), none, none, some (.aload_n 0, 1, 0, 0, 0, 0), some (.getfield 66, 3, 9, 7, 2, 101), none, none, some (.getfield 96, 3, 1, 3, 2, 75), none, none, some (.ifCond .gt 13, 3, 27, 0, 0, 0), none],
  [none, some (.aload_n 0, 1, 0, 0, 0, 0), some (.getfield 59, 3, 9, 6, 2, 100), none, none, some (.getfield 97, 3, 0, 1, 2, 41), none, none, some (.ifCond .eq 7, 3, 31, 0, 0, 0), none, none, some (.iconst 1, 1, 0, 0, 0, 0), some (.goto 4, 3, 32, 0, 0, 0), none, none, some (.iconst 0, 1, 0, 0, 0, 0)],
  [some (.istore_n 2, 1, 0, 0, 0, 0), some (.iload_n 2, 1, 0, 0, 0, 0), some (.ifCond .ne 14, 3, 48, 0, 0, 0), none, none, some (.iload_n 1, 1, 0, 0, 0, 0), some (.iconst 1, 1, 0, 0, 0, 0), some (.if_icmp .lt 9, 3, 48, 0, 0, 0), none, none, some (.iload_n 1, 1, 0, 0, 0, 0), some (.bipush 12, 2, 0, 0, 0, 0), none, some (.if_icmp .le 5, 3, 50, 0, 0, 0), none, none],
  [some (.iconst 0, 1, 0, 0, 0, 0), some (.ireturn, 1, 0, 0, 0, 0), some (.aload_n 0, 1, 0, 0, 0, 0), some (.iload_n 1, 1, 0, 0, 0, 0), some (.putfield 80, 3, 9, 9, 2, 103), none, none, some (.aload_n 0, 1, 0, 0, 0, 0), some (.getfield 30, 3, 9, 2, 2, 96), none, none, some (.iload_n 1, 1, 0, 0, 0, 0), some (.invokevirtual 83, 3, 104, 0, 2, 86), none, none, some (.iconst 1, 1, 0, 0, 0, 0)],
  [some (.ireturn, 1, 0, 0, 0, 0), none, none, none, none, none, none, none, none, none, none, none, none, none, none, none]]
def xc_X9_statute : List (List (Option xr_R)) := [[some (.aload_n 0, 1, 0, 0, 0, 0), some (.getfield 70, 3, 9, 8, 2, 102), none, none, some (.bipush 8, 2, 0, 0, 0, 0), none, some (.if_icmp .ge 18, 3, 24, 0, 0, 0), none, none, some (.iload_n 1, 1, 0, 0, 0, 0), some (.aload_n 0, 1, 0, 0, 0, 0), some (.getfield 74, 3, 9, 10, 2, 104), none, none, some (.if_icmp .lt 10, 3, 24, 0, 0, 0), none],
  [none, some (.iload_n 1, 1, 0, 0, 0, 0), some (.sipush 999, 3, 0, 0, 0, 0), none, none, some (.if_icmp .le 15, 3, 36, 0, 0, 0), none, none, some (.aload_n 0, 1, 0, 0, 0, 0), some (.getfield 10, 3, 9, 0, 2, 94), none, none, some (.iconst 0, 1, 0, 0, 0, 0), some (.putfield 93, 3, 8, 1, 1, 39), none, none],
  [some (.sipush (-1000), 3, 0, 0, 0, 0), none, none, some (.ireturn, 1, 0, 0, 0, 0), some (.aload_n 0, 1, 0, 0, 0, 0), some (.getfield 21, 3, 9, 1, 2, 95), none, none, some (.aload_n 0, 1, 0, 0, 0, 0), some (.getfield 80, 3, 9, 9, 2, 103), none, none, some (.invokevirtual 101, 3, 54, 0, 2, 159), none, none, some (.aload_n 0, 1, 0, 0, 0, 0)],
  [some (.getfield 10, 3, 9, 0, 2, 94), none, none, some (.iconst 0, 1, 0, 0, 0, 0), some (.putfield 93, 3, 8, 1, 1, 39), none, none, some (.aload_n 0, 1, 0, 0, 0, 0), some (.aload_n 0, 1, 0, 0, 0, 0), some (.getfield 21, 3, 9, 1, 2, 95), none, none, some (.getfield 104, 3, 4, 8, 1, 116), none, none, some (.putfield 77, 3, 9, 11, 2, 105)],
  [none, none, some (.aload_n 0, 1, 0, 0, 0, 0), some (.getfield 77, 3, 9, 11, 2, 105), none, none, some (.ifCond .eq 13, 3, 83, 0, 0, 0), none, none, some (.iconst (-1), 1, 0, 0, 0, 0), some (.aload_n 0, 1, 0, 0, 0, 0), some (.getfield 21, 3, 9, 1, 2, 95), none, none, some (.getfield 105, 3, 4, 9, 1, 118), none],
  [none, some (.isub, 1, 0, 0, 0, 0), some (.ireturn, 1, 0, 0, 0, 0), some (.new 25, 3, 7, 0, 1, 140), none, none, some (.dup, 1, 0, 0, 0, 0), some (.iload_n 1, 1, 0, 0, 0, 0), some (.invokespecial 27, 3, 101, 0, 1, 142), none, none, some (.astore_n 2, 1, 0, 0, 0, 0), some (.aload_n 0, 1, 0, 0, 0, 0), some (.getfield 21, 3, 9, 1, 2, 95), none, none],
  [some (.getfield 108, 3, 4, 0, 1, 106), none, none, some (.aload_n 2, 1, 0, 0, 0, 0), some (.aload_n 0, 1, 0, 0, 0, 0), some (.getfield 80, 3, 9, 9, 2, 103), none, none, some (.invokevirtual 112, 3, 47, 0, 3, 110), none, none, some (.aload_n 0, 1, 0, 0, 0, 0), some (.getfield 34, 3, 9, 3, 2, 97), none, none, some (.aload_n 0, 1, 0, 0, 0, 0)],
  [some (.getfield 70, 3, 9, 8, 2, 102), none, none, some (.aload_n 2, 1, 0, 0, 0, 0), some (.aastore, 1, 0, 0, 0, 0), some (.aload_n 0, 1, 0, 0, 0, 0), some (.dup, 1, 0, 0, 0, 0), some (.getfield 70, 3, 9, 8, 2, 102), none, none, some (.iconst 1, 1, 0, 0, 0, 0), some (.iadd, 1, 0, 0, 0, 0), some (.putfield 70, 3, 9, 8, 2, 102), none, none, some (.aload_n 0, 1, 0, 0, 0, 0)],
  [some (.getfield 21, 3, 9, 1, 2, 95), none, none, some (.getfield 118, 3, 4, 7, 1, 114), none, none, some (.ireturn, 1, 0, 0, 0, 0), none, none, none, none, none, none, none, none, none]]
def xc_X9_fault : List (List (Option xr_R)) := [[some (.aload_n 0, 1, 0, 0, 0, 0), some (.getfield 77, 3, 9, 11, 2, 105), none, none, some (.ireturn, 1, 0, 0, 0, 0), none, none, none, none, none, none, none, none, none, none, none]]
def xc_X9_carries : List (List (Option xr_R)) := [[some (.aload_n 0, 1, 0, 0, 0, 0), some (.iload_n 1, 1, 0, 0, 0, 0), some (.invokevirtual 121, 3, 139, 0, 3, 142), none, none, some (.ifCond .eq 14, 3, 19, 0, 0, 0), none, none, some (.iload_n 2, 1, 0, 0, 0, 0), some (.ifCond .lt 10, 3, 19, 0, 0, 0), none, none, some (.iload_n 2, 1, 0, 0, 0, 0), some (.sipush 999, 3, 0, 0, 0, 0), none, none],
  [some (.if_icmp .le 5, 3, 21, 0, 0, 0), none, none, some (.iconst (-1), 1, 0, 0, 0, 0), some (.ireturn, 1, 0, 0, 0, 0), some (.aload_n 0, 1, 0, 0, 0, 0), some (.iload_n 2, 1, 0, 0, 0, 0), some (.invokevirtual 125, 3, 140, 0, 3, 146), none, none, some (.iload_n 1, 1, 0, 0, 0, 0), some (.invokevirtual 129, 3, 102, 0, 3, 150), none, none, some (.ifCond .eq 7, 3, 37, 0, 0, 0), none],
  [none, some (.iconst 1, 1, 0, 0, 0, 0), some (.goto 4, 3, 38, 0, 0, 0), none, none, some (.iconst 0, 1, 0, 0, 0, 0), some (.ireturn, 1, 0, 0, 0, 0), none, none, none, none, none, none, none, none, none]]
def xc_X9_many : List (List (Option xr_R)) := [[some (.aload_n 0, 1, 0, 0, 0, 0), some (.invokevirtual 132, 3, 141, 0, 3, 158), none, none, some (.astore_n 2, 1, 0, 0, 0, 0), some (.iload_n 1, 1, 0, 0, 0, 0), some (.tableswitch 116 0 7 #[46, 51, 56, 61, 69, 77, 90, 103], 46, 0, 0, 0, 0), none, none, none, none, none, none, none, none, none],
  [none, none, none, none, none, none, none, none, none, none, none, none, none, none, none, none],
  [none, none, none, none, none, none, none, none, none, none, none, none, none, none, none, none],
  [none, none, none, none, some (.aload_n 2, 1, 0, 0, 0, 0), some (.invokevirtual 136, 3, 29, 0, 3, 210), none, none, some (.ireturn, 1, 0, 0, 0, 0), some (.aload_n 2, 1, 0, 0, 0, 0), some (.getfield 140, 3, 2, 9, 1, 180), none, none, some (.ireturn, 1, 0, 0, 0, 0), some (.aload_n 2, 1, 0, 0, 0, 0), some (.getfield 143, 3, 2, 10, 1, 183)],
  [none, none, some (.ireturn, 1, 0, 0, 0, 0), some (.aload_n 2, 1, 0, 0, 0, 0), some (.getfield 146, 3, 2, 11, 1, 185), none, none, some (.invokestatic 149, 3, 238, 0, 3, 214), none, none, some (.ireturn, 1, 0, 0, 0, 0), some (.aload_n 2, 1, 0, 0, 0, 0), some (.getfield 155, 3, 2, 12, 1, 187), none, none, some (.invokestatic 149, 3, 238, 0, 3, 214)],
  [none, none, some (.ireturn, 1, 0, 0, 0, 0), some (.aload_n 2, 1, 0, 0, 0, 0), some (.invokevirtual 158, 3, 30, 0, 3, 215), none, none, some (.ifCond .eq 7, 3, 94, 0, 0, 0), none, none, some (.iconst 1, 1, 0, 0, 0, 0), some (.goto 4, 3, 95, 0, 0, 0), none, none, some (.iconst 0, 1, 0, 0, 0, 0), some (.ireturn, 1, 0, 0, 0, 0)],
  [some (.aload_n 2, 1, 0, 0, 0, 0), some (.invokevirtual 161, 3, 31, 0, 3, 219), none, none, some (.ifCond .eq 7, 3, 107, 0, 0, 0), none, none, some (.iconst 1, 1, 0, 0, 0, 0), some (.goto 4, 3, 108, 0, 0, 0), none, none, some (.iconst 0, 1, 0, 0, 0, 0), some (.ireturn, 1, 0, 0, 0, 0), some (.aload_n 2, 1, 0, 0, 0, 0), some (.invokevirtual 164, 3, 32, 0, 3, 223), none],
  [none, some (.ifCond .eq 7, 3, 120, 0, 0, 0), none, none, some (.iconst 1, 1, 0, 0, 0, 0), some (.goto 4, 3, 121, 0, 0, 0), none, none, some (.iconst 0, 1, 0, 0, 0, 0), some (.ireturn, 1, 0, 0, 0, 0), some (.iconst (-1), 1, 0, 0, 0, 0), some (.ireturn, 1, 0, 0, 0, 0), none, none, none, none]]
def xc_X9_setAt : List (List (Option xr_R)) := [[some (.aload_n 0, 1, 0, 0, 0, 0), some (.invokevirtual 132, 3, 141, 0, 3, 158), none, none, some (.astore_n 3, 1, 0, 0, 0, 0), some (.iload_n 1, 1, 0, 0, 0, 0), some (.tableswitch 102 1 4 #[30, 53, 76, 89], 30, 0, 0, 0, 0), none, none, none, none, none, none, none, none, none],
  [none, none, none, none, none, none, none, none, none, none, none, none, none, none, none, none],
  [none, none, none, none, some (.iload_n 2, 1, 0, 0, 0, 0), some (.ifCond .lt 20, 3, 57, 0, 0, 0), none, none, some (.iload_n 2, 1, 0, 0, 0, 0), some (.aload_n 3, 1, 0, 0, 0, 0), some (.getfield 140, 3, 2, 9, 1, 180), none, none, some (.if_icmp .ge 12, 3, 57, 0, 0, 0), none, none],
  [some (.aload_n 3, 1, 0, 0, 0, 0), some (.getfield 167, 3, 2, 0, 1, 164), none, none, some (.iload_n 2, 1, 0, 0, 0, 0), some (.iaload, 1, 0, 0, 0, 0), some (.goto 4, 3, 58, 0, 0, 0), none, none, some (.iconst (-1), 1, 0, 0, 0, 0), some (.ireturn, 1, 0, 0, 0, 0), some (.iload_n 2, 1, 0, 0, 0, 0), some (.ifCond .lt 20, 3, 80, 0, 0, 0), none, none, some (.iload_n 2, 1, 0, 0, 0, 0)],
  [some (.aload_n 3, 1, 0, 0, 0, 0), some (.getfield 143, 3, 2, 10, 1, 183), none, none, some (.if_icmp .ge 12, 3, 80, 0, 0, 0), none, none, some (.aload_n 3, 1, 0, 0, 0, 0), some (.getfield 171, 3, 2, 1, 1, 167), none, none, some (.iload_n 2, 1, 0, 0, 0, 0), some (.iaload, 1, 0, 0, 0, 0), some (.goto 4, 3, 81, 0, 0, 0), none, none],
  [some (.iconst (-1), 1, 0, 0, 0, 0), some (.ireturn, 1, 0, 0, 0, 0), some (.iload_n 2, 1, 0, 0, 0, 0), some (.ifCond .ne 10, 3, 93, 0, 0, 0), none, none, some (.aload_n 3, 1, 0, 0, 0, 0), some (.getfield 146, 3, 2, 11, 1, 185), none, none, some (.goto 4, 3, 94, 0, 0, 0), none, none, some (.iconst (-1), 1, 0, 0, 0, 0), some (.ireturn, 1, 0, 0, 0, 0), some (.iload_n 2, 1, 0, 0, 0, 0)],
  [some (.ifCond .ne 10, 3, 106, 0, 0, 0), none, none, some (.aload_n 3, 1, 0, 0, 0, 0), some (.getfield 155, 3, 2, 12, 1, 187), none, none, some (.goto 4, 3, 107, 0, 0, 0), none, none, some (.iconst (-1), 1, 0, 0, 0, 0), some (.ireturn, 1, 0, 0, 0, 0), some (.iconst (-1), 1, 0, 0, 0, 0), some (.ireturn, 1, 0, 0, 0, 0), none, none]]
def xc_X9_stronger : List (List (Option xr_R)) := [[some (.aload_n 0, 1, 0, 0, 0, 0), some (.iload_n 1, 1, 0, 0, 0, 0), some (.invokevirtual 174, 3, 138, 0, 3, 239), none, none, some (.ifCond .eq 11, 3, 16, 0, 0, 0), none, none, some (.aload_n 0, 1, 0, 0, 0, 0), some (.iload_n 2, 1, 0, 0, 0, 0), some (.invokevirtual 174, 3, 138, 0, 3, 239), none, none, some (.ifCond .ne 6, 3, 19, 0, 0, 0), none, none],
  [some (.bipush (-2), 2, 0, 0, 0, 0), none, some (.ireturn, 1, 0, 0, 0, 0), some (.aload_n 0, 1, 0, 0, 0, 0), some (.invokevirtual 132, 3, 141, 0, 3, 158), none, none, some (.iload_n 1, 1, 0, 0, 0, 0), some (.iload_n 2, 1, 0, 0, 0, 0), some (.invokevirtual 177, 3, 33, 0, 4, 3), none, none, some (.ireturn, 1, 0, 0, 0, 0), none, none, none]]
def xc_X9_turns : List (List (Option xr_R)) := [[some (.aload_n 0, 1, 0, 0, 0, 0), some (.iload_n 1, 1, 0, 0, 0, 0), some (.invokevirtual 174, 3, 138, 0, 3, 239), none, none, some (.ifCond .eq 15, 3, 20, 0, 0, 0), none, none, some (.aload_n 0, 1, 0, 0, 0, 0), some (.invokevirtual 132, 3, 141, 0, 3, 158), none, none, some (.getfield 181, 3, 2, 2, 1, 169), none, none, some (.iload_n 1, 1, 0, 0, 0, 0)],
  [some (.iaload, 1, 0, 0, 0, 0), some (.goto 4, 3, 21, 0, 0, 0), none, none, some (.iconst (-1), 1, 0, 0, 0, 0), some (.ireturn, 1, 0, 0, 0, 0), none, none, none, none, none, none, none, none, none, none]]
def xc_X9_share : List (List (Option xr_R)) := [[some (.aload_n 0, 1, 0, 0, 0, 0), some (.iload_n 1, 1, 0, 0, 0, 0), some (.invokevirtual 174, 3, 138, 0, 3, 239), none, none, some (.ifCond .eq 21, 3, 26, 0, 0, 0), none, none, some (.iload_n 2, 1, 0, 0, 0, 0), some (.ifCond .lt 17, 3, 26, 0, 0, 0), none, none, some (.iload_n 2, 1, 0, 0, 0, 0), some (.iconst 2, 1, 0, 0, 0, 0), some (.if_icmp .gt 12, 3, 26, 0, 0, 0), none],
  [none, some (.iload_n 3, 1, 0, 0, 0, 0), some (.ifCond .lt 8, 3, 26, 0, 0, 0), none, none, some (.iload_n 3, 1, 0, 0, 0, 0), some (.iconst 1, 1, 0, 0, 0, 0), some (.if_icmp .le 11, 3, 34, 0, 0, 0), none, none, none, none, none, some (.dup, 1, 0, 0, 0, 0), none, none],
  [none, some (.athrow, 1, 0, 0, 0, 0), some (.aload_n 0, 1, 0, 0, 0, 0), some (.invokevirtual 132, 3, 141, 0, 3, 158), none, none, some (.astore 4, 2, 0, 0, 0, 0), none, some (.aload 4, 2, 0, 0, 0, 0), none, some (.iload_n 1, 1, 0, 0, 0, 0), some (.iload_n 2, 1, 0, 0, 0, 0), some (.invokevirtual 187, 3, 36, 0, 5, 55), none, none, some (.lstore 5, 2, 0, 0, 0, 0)],
  [none, some (.aload 4, 2, 0, 0, 0, 0), none, some (.iload_n 2, 1, 0, 0, 0, 0), some (.invokevirtual 191, 3, 37, 0, 5, 70), none, none, some (.lstore 7, 2, 0, 0, 0, 0), none, some (.lload 5, 2, 0, 0, 0, 0), none, some (.lload 7, 2, 0, 0, 0, 0), none, some (.invokestatic 195, 3, 142, 0, 5, 74), none, none],
  [some (.lstore 9, 2, 0, 0, 0, 0), none, some (.lload 5, 2, 0, 0, 0, 0), none, some (.lconst 0, 1, 0, 0, 0, 0), some (.lcmp, 1, 0, 0, 0, 0), some (.ifCond .eq 10, 3, 80, 0, 0, 0), none, none, some (.lload 9, 2, 0, 0, 0, 0), none, some (.lconst 0, 1, 0, 0, 0, 0), some (.lcmp, 1, 0, 0, 0, 0), some (.ifCond .gt 13, 3, 90, 0, 0, 0), none, none],
  [some (.iload_n 3, 1, 0, 0, 0, 0), some (.ifCond .ne 7, 3, 88, 0, 0, 0), none, none, some (.lconst 0, 1, 0, 0, 0, 0), some (.goto 4, 3, 89, 0, 0, 0), none, none, some (.lconst 1, 1, 0, 0, 0, 0), some (.lreturn, 1, 0, 0, 0, 0), some (.iload_n 3, 1, 0, 0, 0, 0), some (.ifCond .ne 11, 3, 102, 0, 0, 0), none, none, some (.lload 5, 2, 0, 0, 0, 0), none],
  [some (.lload 9, 2, 0, 0, 0, 0), none, some (.ldiv, 1, 0, 0, 0, 0), some (.goto 8, 3, 107, 0, 0, 0), none, none, some (.lload 7, 2, 0, 0, 0, 0), none, some (.lload 9, 2, 0, 0, 0, 0), none, some (.ldiv, 1, 0, 0, 0, 0), some (.lreturn, 1, 0, 0, 0, 0), none, none, none, none]]
def xc_X9_chance : List (List (Option xr_R)) := [[some (.iload_n 1, 1, 0, 0, 0, 0), some (.ifCond .lt 9, 3, 10, 0, 0, 0), none, none, some (.iload_n 1, 1, 0, 0, 0, 0), some (.bipush 10, 2, 0, 0, 0, 0), none, some (.if_icmp .le 9, 3, 16, 0, 0, 0), none, none, some (.ldc2_w 199, 3, 18446744073709551615, 0, 4, 12), none, none, some (.goto 11, 3, 24, 0, 0, 0), none, none],
  [some (.aload_n 0, 1, 0, 0, 0, 0), some (.invokevirtual 132, 3, 141, 0, 3, 158), none, none, some (.iload_n 1, 1, 0, 0, 0, 0), some (.invokevirtual 201, 3, 40, 0, 4, 13), none, none, some (.lreturn, 1, 0, 0, 0, 0), none, none, none, none, none, none, none]]
def xc_X9_ally : List (List (Option xr_R)) := [[some (.aload_n 0, 1, 0, 0, 0, 0), some (.iload_n 1, 1, 0, 0, 0, 0), some (.invokevirtual 174, 3, 138, 0, 3, 239), none, none, some (.ifCond .eq 14, 3, 19, 0, 0, 0), none, none, some (.aload_n 0, 1, 0, 0, 0, 0), some (.invokevirtual 132, 3, 141, 0, 3, 158), none, none, some (.iload_n 1, 1, 0, 0, 0, 0), some (.invokevirtual 204, 3, 42, 0, 4, 24), none, none],
  [some (.goto 4, 3, 20, 0, 0, 0), none, none, some (.iconst (-1), 1, 0, 0, 0, 0), some (.ireturn, 1, 0, 0, 0, 0), none, none, none, none, none, none, none, none, none, none, none]]
def xc_X9_weigh : List (List (Option xr_R)) := [[some (.aload_n 0, 1, 0, 0, 0, 0), some (.invokevirtual 132, 3, 141, 0, 3, 158), none, none, some (.pop, 1, 0, 0, 0, 0), some (.aload_n 0, 1, 0, 0, 0, 0), some (.getfield 52, 3, 9, 5, 2, 99), none, none, some (.invokevirtual 207, 3, 72, 0, 4, 36), none, none, some (.ireturn, 1, 0, 0, 0, 0), none, none, none]]
def xc_X9_weight : List (List (Option xr_R)) := [[some (.iload_n 1, 1, 0, 0, 0, 0), some (.bipush 12, 2, 0, 0, 0, 0), none, some (.if_icmp .ne 11, 3, 14, 0, 0, 0), none, none, some (.aload_n 0, 1, 0, 0, 0, 0), some (.getfield 52, 3, 9, 5, 2, 99), none, none, some (.getfield 210, 3, 5, 1, 1, 224), none, none, some (.ireturn, 1, 0, 0, 0, 0), some (.aload_n 0, 1, 0, 0, 0, 0), some (.iload_n 1, 1, 0, 0, 0, 0)],
  [some (.invokevirtual 174, 3, 138, 0, 3, 239), none, none, some (.ifCond .eq 15, 3, 34, 0, 0, 0), none, none, some (.aload_n 0, 1, 0, 0, 0, 0), some (.getfield 52, 3, 9, 5, 2, 99), none, none, some (.getfield 213, 3, 5, 0, 1, 222), none, none, some (.iload_n 1, 1, 0, 0, 0, 0), some (.iaload, 1, 0, 0, 0, 0), some (.goto 4, 3, 35, 0, 0, 0)],
  [none, none, some (.iconst (-1), 1, 0, 0, 0, 0), some (.ireturn, 1, 0, 0, 0, 0), none, none, none, none, none, none, none, none, none, none, none, none]]
def xc_X9_rank : List (List (Option xr_R)) := [[some (.aload_n 0, 1, 0, 0, 0, 0), some (.iload_n 1, 1, 0, 0, 0, 0), some (.invokevirtual 174, 3, 138, 0, 3, 239), none, none, some (.ifCond .eq 33, 3, 38, 0, 0, 0), none, none, some (.aload_n 0, 1, 0, 0, 0, 0), some (.getfield 10, 3, 9, 0, 2, 94), none, none, some (.getfield 93, 3, 8, 1, 1, 39), none, none, some (.bipush 7, 2, 0, 0, 0, 0)],
  [none, some (.if_icmp .ne 21, 3, 38, 0, 0, 0), none, none, some (.aload_n 0, 1, 0, 0, 0, 0), some (.getfield 59, 3, 9, 6, 2, 100), none, none, some (.aload_n 0, 1, 0, 0, 0, 0), some (.getfield 10, 3, 9, 0, 2, 94), none, none, some (.invokevirtual 216, 3, 2, 0, 4, 107), none, none, some (.ifCond .eq 7, 3, 38, 0, 0, 0)],
  [none, none, some (.iconst 1, 1, 0, 0, 0, 0), some (.goto 4, 3, 39, 0, 0, 0), none, none, some (.iconst 0, 1, 0, 0, 0, 0), some (.istore_n 2, 1, 0, 0, 0, 0), some (.iload_n 2, 1, 0, 0, 0, 0), some (.ifCond .eq 15, 3, 56, 0, 0, 0), none, none, some (.aload_n 0, 1, 0, 0, 0, 0), some (.getfield 59, 3, 9, 6, 2, 100), none, none],
  [some (.iload_n 1, 1, 0, 0, 0, 0), some (.aload_n 0, 1, 0, 0, 0, 0), some (.getfield 10, 3, 9, 0, 2, 94), none, none, some (.invokevirtual 220, 3, 3, 0, 4, 115), none, none, some (.aload_n 0, 1, 0, 0, 0, 0), some (.getfield 10, 3, 9, 0, 2, 94), none, none, some (.iconst 0, 1, 0, 0, 0, 0), some (.putfield 93, 3, 8, 1, 1, 39), none, none],
  [some (.iload_n 2, 1, 0, 0, 0, 0), some (.ireturn, 1, 0, 0, 0, 0), none, none, none, none, none, none, none, none, none, none, none, none, none, none]]
def xc_X9_beats : List (List (Option xr_R)) := [[some (.iload_n 1, 1, 0, 0, 0, 0), some (.invokestatic 224, 3, 1, 0, 4, 123), none, none, some (.ifCond .eq 15, 3, 19, 0, 0, 0), none, none, some (.iload_n 2, 1, 0, 0, 0, 0), some (.invokestatic 224, 3, 1, 0, 4, 123), none, none, some (.ifCond .eq 8, 3, 19, 0, 0, 0), none, none, some (.iload_n 1, 1, 0, 0, 0, 0), some (.iload_n 2, 1, 0, 0, 0, 0)],
  [some (.if_icmp .ne 5, 3, 21, 0, 0, 0), none, none, some (.iconst (-1), 1, 0, 0, 0, 0), some (.ireturn, 1, 0, 0, 0, 0), some (.aload_n 0, 1, 0, 0, 0, 0), some (.aload_n 0, 1, 0, 0, 0, 0), some (.getfield 74, 3, 9, 10, 2, 104), none, none, some (.invokevirtual 125, 3, 140, 0, 3, 146), none, none, some (.aload_n 0, 1, 0, 0, 0, 0), some (.getfield 59, 3, 9, 6, 2, 100), none],
  [none, some (.iload_n 1, 1, 0, 0, 0, 0), some (.iload_n 2, 1, 0, 0, 0, 0), some (.aload_n 0, 1, 0, 0, 0, 0), some (.getfield 80, 3, 9, 9, 2, 103), none, none, some (.invokevirtual 227, 3, 4, 0, 4, 124), none, none, some (.invokevirtual 129, 3, 102, 0, 3, 150), none, none, some (.ifCond .eq 7, 3, 52, 0, 0, 0), none, none],
  [some (.iconst 1, 1, 0, 0, 0, 0), some (.goto 4, 3, 53, 0, 0, 0), none, none, some (.iconst 0, 1, 0, 0, 0, 0), some (.ireturn, 1, 0, 0, 0, 0), none, none, none, none, none, none, none, none, none, none]]
def xc_X9_free : List (List (Option xr_R)) := [[some (.aload_n 0, 1, 0, 0, 0, 0), some (.getfield 59, 3, 9, 6, 2, 100), none, none, some (.aload_n 0, 1, 0, 0, 0, 0), some (.aload_n 0, 1, 0, 0, 0, 0), some (.getfield 74, 3, 9, 10, 2, 104), none, none, some (.invokevirtual 125, 3, 140, 0, 3, 146), none, none, some (.aload_n 0, 1, 0, 0, 0, 0), some (.getfield 80, 3, 9, 9, 2, 103), none, none],
  [some (.invokevirtual 231, 3, 5, 0, 4, 132), none, none, some (.aload_n 0, 1, 0, 0, 0, 0), some (.getfield 59, 3, 9, 6, 2, 100), none, none, some (.invokevirtual 234, 3, 7, 0, 4, 138), none, none, some (.ireturn, 1, 0, 0, 0, 0), none, none, none, none, none]]
def xc_X9_top : List (List (Option xr_R)) := [[some (.aload_n 0, 1, 0, 0, 0, 0), some (.getfield 59, 3, 9, 6, 2, 100), none, none, some (.aload_n 0, 1, 0, 0, 0, 0), some (.aload_n 0, 1, 0, 0, 0, 0), some (.getfield 74, 3, 9, 10, 2, 104), none, none, some (.invokevirtual 125, 3, 140, 0, 3, 146), none, none, some (.aload_n 0, 1, 0, 0, 0, 0), some (.getfield 80, 3, 9, 9, 2, 103), none, none],
  [some (.invokevirtual 231, 3, 5, 0, 4, 132), none, none, some (.aload_n 0, 1, 0, 0, 0, 0), some (.getfield 59, 3, 9, 6, 2, 100), none, none, some (.invokevirtual 237, 3, 8, 0, 4, 146), none, none, some (.ireturn, 1, 0, 0, 0, 0), none, none, none, none, none]]
def xc_X9_leads : List (List (Option xr_R)) := [[some (.iconst (-1), 1, 0, 0, 0, 0), some (.istore_n 2, 1, 0, 0, 0, 0), some (.aload_n 0, 1, 0, 0, 0, 0), some (.getfield 59, 3, 9, 6, 2, 100), none, none, some (.aload_n 0, 1, 0, 0, 0, 0), some (.getfield 10, 3, 9, 0, 2, 94), none, none, some (.invokevirtual 216, 3, 2, 0, 4, 107), none, none, some (.ifCond .eq 52, 3, 65, 0, 0, 0), none, none],
  [some (.aload_n 0, 1, 0, 0, 0, 0), some (.getfield 59, 3, 9, 6, 2, 100), none, none, some (.aload_n 0, 1, 0, 0, 0, 0), some (.aload_n 0, 1, 0, 0, 0, 0), some (.getfield 74, 3, 9, 10, 2, 104), none, none, some (.invokevirtual 125, 3, 140, 0, 3, 146), none, none, some (.aload_n 0, 1, 0, 0, 0, 0), some (.getfield 80, 3, 9, 9, 2, 103), none, none],
  [some (.invokevirtual 231, 3, 5, 0, 4, 132), none, none, some (.iload_n 1, 1, 0, 0, 0, 0), some (.ifCond .eq 17, 3, 53, 0, 0, 0), none, none, some (.aload_n 0, 1, 0, 0, 0, 0), some (.getfield 59, 3, 9, 6, 2, 100), none, none, some (.aload_n 0, 1, 0, 0, 0, 0), some (.getfield 10, 3, 9, 0, 2, 94), none, none, some (.invokevirtual 240, 3, 12, 0, 4, 162)],
  [none, none, some (.goto 14, 3, 64, 0, 0, 0), none, none, some (.aload_n 0, 1, 0, 0, 0, 0), some (.getfield 59, 3, 9, 6, 2, 100), none, none, some (.aload_n 0, 1, 0, 0, 0, 0), some (.getfield 10, 3, 9, 0, 2, 94), none, none, some (.invokevirtual 244, 3, 11, 0, 4, 170), none, none],
  [some (.istore_n 2, 1, 0, 0, 0, 0), some (.aload_n 0, 1, 0, 0, 0, 0), some (.getfield 10, 3, 9, 0, 2, 94), none, none, some (.iconst 0, 1, 0, 0, 0, 0), some (.putfield 93, 3, 8, 1, 1, 39), none, none, some (.iload_n 2, 1, 0, 0, 0, 0), some (.ireturn, 1, 0, 0, 0, 0), none, none, none, none, none]]
def xc_X9_rows : List (List (Option xr_R)) := [[some (.iload_n 1, 1, 0, 0, 0, 0), some (.invokestatic 224, 3, 1, 0, 4, 123), none, none, some (.ifCond .ne 5, 3, 9, 0, 0, 0), none, none, some (.iconst (-1), 1, 0, 0, 0, 0), some (.ireturn, 1, 0, 0, 0, 0), some (.aload_n 0, 1, 0, 0, 0, 0), some (.getfield 59, 3, 9, 6, 2, 100), none, none, some (.aload_n 0, 1, 0, 0, 0, 0), some (.aload_n 0, 1, 0, 0, 0, 0), some (.getfield 74, 3, 9, 10, 2, 104)],
  [none, none, some (.invokevirtual 125, 3, 140, 0, 3, 146), none, none, some (.aload_n 0, 1, 0, 0, 0, 0), some (.getfield 80, 3, 9, 9, 2, 103), none, none, some (.invokevirtual 231, 3, 5, 0, 4, 132), none, none, some (.aload_n 0, 1, 0, 0, 0, 0), some (.getfield 59, 3, 9, 6, 2, 100), none, none],
  [some (.iload_n 1, 1, 0, 0, 0, 0), some (.invokevirtual 247, 3, 13, 0, 4, 178), none, none, some (.ireturn, 1, 0, 0, 0, 0), none, none, none, none, none, none, none, none, none, none, none]]
def xc_X9_rowAt : List (List (Option xr_R)) := [[some (.iload_n 1, 1, 0, 0, 0, 0), some (.invokestatic 224, 3, 1, 0, 4, 123), none, none, some (.ifCond .eq 15, 3, 19, 0, 0, 0), none, none, some (.aload_n 0, 1, 0, 0, 0, 0), some (.getfield 59, 3, 9, 6, 2, 100), none, none, some (.getfield 250, 3, 0, 0, 2, 39), none, none, some (.iload_n 1, 1, 0, 0, 0, 0), some (.iaload, 1, 0, 0, 0, 0)],
  [some (.goto 4, 3, 20, 0, 0, 0), none, none, some (.iconst (-1), 1, 0, 0, 0, 0), some (.ireturn, 1, 0, 0, 0, 0), none, none, none, none, none, none, none, none, none, none, none]]
def xc_X9_vote : List (List (Option xr_R)) := [[some (.aload_n 0, 1, 0, 0, 0, 0), some (.iload_n 1, 1, 0, 0, 0, 0), some (.invokevirtual 121, 3, 139, 0, 3, 142), none, none, some (.ifCond .eq 19, 3, 24, 0, 0, 0), none, none, some (.aload_n 0, 1, 0, 0, 0, 0), some (.getfield 66, 3, 9, 7, 2, 101), none, none, some (.iload_n 1, 1, 0, 0, 0, 0), some (.iload_n 2, 1, 0, 0, 0, 0), some (.aload_n 0, 1, 0, 0, 0, 0), some (.getfield 74, 3, 9, 10, 2, 104)],
  [none, none, some (.invokevirtual 253, 3, 18, 0, 4, 202), none, none, some (.goto 4, 3, 25, 0, 0, 0), none, none, some (.iconst (-1), 1, 0, 0, 0, 0), some (.ireturn, 1, 0, 0, 0, 0), none, none, none, none, none, none]]
def xc_X9_unfit : List (List (Option xr_R)) := [[some (.iconst 0, 1, 0, 0, 0, 0), some (.istore_n 2, 1, 0, 0, 0, 0), some (.iload_n 2, 1, 0, 0, 0, 0), some (.aload_n 0, 1, 0, 0, 0, 0), some (.getfield 66, 3, 9, 7, 2, 101), none, none, some (.getfield 96, 3, 1, 3, 2, 75), none, none, some (.if_icmp .ge 55, 3, 65, 0, 0, 0), none, none, some (.aload_n 0, 1, 0, 0, 0, 0), some (.getfield 66, 3, 9, 7, 2, 101), none],
  [none, some (.getfield 257, 3, 1, 1, 2, 71), none, none, some (.iload_n 2, 1, 0, 0, 0, 0), some (.iaload, 1, 0, 0, 0, 0), some (.istore_n 3, 1, 0, 0, 0, 0), some (.iload_n 3, 1, 0, 0, 0, 0), some (.iload_n 1, 1, 0, 0, 0, 0), some (.if_icmp .gt 34, 3, 59, 0, 0, 0), none, none, some (.aload_n 0, 1, 0, 0, 0, 0), some (.iload_n 3, 1, 0, 0, 0, 0), some (.invokevirtual 125, 3, 140, 0, 3, 146), none],
  [none, some (.aload_n 0, 1, 0, 0, 0, 0), some (.getfield 66, 3, 9, 7, 2, 101), none, none, some (.getfield 260, 3, 1, 0, 2, 69), none, none, some (.iload_n 2, 1, 0, 0, 0, 0), some (.iaload, 1, 0, 0, 0, 0), some (.invokevirtual 129, 3, 102, 0, 3, 150), none, none, some (.aload_n 0, 1, 0, 0, 0, 0), some (.getfield 66, 3, 9, 7, 2, 101), none],
  [none, some (.getfield 263, 3, 1, 2, 2, 73), none, none, some (.iload_n 2, 1, 0, 0, 0, 0), some (.baload, 1, 0, 0, 0, 0), some (.if_icmp .eq 5, 3, 59, 0, 0, 0), none, none, some (.iload_n 2, 1, 0, 0, 0, 0), some (.ireturn, 1, 0, 0, 0, 0), some (.iinc 2 1, 3, 0, 0, 0, 0), none, none, some (.goto (-60), 3, 2, 0, 0, 0), none],
  [none, some (.iconst (-1), 1, 0, 0, 0, 0), some (.ireturn, 1, 0, 0, 0, 0), none, none, none, none, none, none, none, none, none, none, none, none, none]]
def xc_X9_sure : List (List (Option xr_R)) := [[some (.aload_n 0, 1, 0, 0, 0, 0), some (.iload_n 1, 1, 0, 0, 0, 0), some (.invokevirtual 121, 3, 139, 0, 3, 142), none, none, some (.ifCond .eq 15, 3, 20, 0, 0, 0), none, none, some (.aload_n 0, 1, 0, 0, 0, 0), some (.getfield 66, 3, 9, 7, 2, 101), none, none, some (.iload_n 1, 1, 0, 0, 0, 0), some (.iload_n 2, 1, 0, 0, 0, 0), some (.invokevirtual 267, 3, 19, 0, 4, 214), none],
  [none, some (.goto 4, 3, 21, 0, 0, 0), none, none, some (.iconst (-1), 1, 0, 0, 0, 0), some (.ireturn, 1, 0, 0, 0, 0), none, none, none, none, none, none, none, none, none, none]]
def xc_X9_open : List (List (Option xr_R)) := [[some (.iconst 0, 1, 0, 0, 0, 0), some (.istore_n 2, 1, 0, 0, 0, 0), some (.iconst 0, 1, 0, 0, 0, 0), some (.istore_n 3, 1, 0, 0, 0, 0), some (.iload_n 3, 1, 0, 0, 0, 0), some (.iconst 1, 1, 0, 0, 0, 0), some (.aload_n 0, 1, 0, 0, 0, 0), some (.getfield 80, 3, 9, 9, 2, 103), none, none, some (.ishl, 1, 0, 0, 0, 0), some (.if_icmp .ge 25, 3, 36, 0, 0, 0), none, none, some (.aload_n 0, 1, 0, 0, 0, 0), some (.getfield 66, 3, 9, 7, 2, 101)],
  [none, none, some (.iload_n 3, 1, 0, 0, 0, 0), some (.iload_n 1, 1, 0, 0, 0, 0), some (.invokevirtual 267, 3, 19, 0, 4, 214), none, none, some (.iconst 2, 1, 0, 0, 0, 0), some (.if_icmp .ne 6, 3, 30, 0, 0, 0), none, none, some (.iinc 2 1, 3, 0, 0, 0, 0), none, none, some (.iinc 3 1, 3, 0, 0, 0, 0), none],
  [none, some (.goto (-29), 3, 4, 0, 0, 0), none, none, some (.iload_n 2, 1, 0, 0, 0, 0), some (.ireturn, 1, 0, 0, 0, 0), none, none, none, none, none, none, none, none, none, none]]
def xc_X9_count : List (List (Option xr_R)) := [[some (.iload_n 1, 1, 0, 0, 0, 0), some (.tableswitch 66 0 4 #[35, 40, 45, 50, 58], 35, 0, 0, 0, 0), none, none, none, none, none, none, none, none, none, none, none, none, none, none],
  [none, none, none, none, none, none, none, none, none, none, none, none, none, none, none, none],
  [none, none, none, none, some (.aload_n 0, 1, 0, 0, 0, 0), some (.getfield 74, 3, 9, 10, 2, 104), none, none, some (.ireturn, 1, 0, 0, 0, 0), some (.aload_n 0, 1, 0, 0, 0, 0), some (.getfield 80, 3, 9, 9, 2, 103), none, none, some (.ireturn, 1, 0, 0, 0, 0), some (.aload_n 0, 1, 0, 0, 0, 0), some (.getfield 70, 3, 9, 8, 2, 102)],
  [none, none, some (.ireturn, 1, 0, 0, 0, 0), some (.aload_n 0, 1, 0, 0, 0, 0), some (.getfield 66, 3, 9, 7, 2, 101), none, none, some (.getfield 96, 3, 1, 3, 2, 75), none, none, some (.ireturn, 1, 0, 0, 0, 0), some (.aload_n 0, 1, 0, 0, 0, 0), some (.getfield 10, 3, 9, 0, 2, 94), none, none, some (.getfield 93, 3, 8, 1, 1, 39)],
  [none, none, some (.ireturn, 1, 0, 0, 0, 0), some (.iconst (-1), 1, 0, 0, 0, 0), some (.ireturn, 1, 0, 0, 0, 0), none, none, none, none, none, none, none, none, none, none, none]]
def xc_X9_isMember : List (List (Option xr_R)) := [[some (.iload_n 1, 1, 0, 0, 0, 0), some (.ifCond .lt 15, 3, 16, 0, 0, 0), none, none, some (.iload_n 1, 1, 0, 0, 0, 0), some (.aload_n 0, 1, 0, 0, 0, 0), some (.getfield 80, 3, 9, 9, 2, 103), none, none, some (.if_icmp .ge 7, 3, 16, 0, 0, 0), none, none, some (.iconst 1, 1, 0, 0, 0, 0), some (.goto 4, 3, 17, 0, 0, 0), none, none],
  [some (.iconst 0, 1, 0, 0, 0, 0), some (.ireturn, 1, 0, 0, 0, 0), none, none, none, none, none, none, none, none, none, none, none, none, none, none]]
def xc_X9_isSet : List (List (Option xr_R)) := [[some (.iload_n 1, 1, 0, 0, 0, 0), some (.ifCond .lt 17, 3, 18, 0, 0, 0), none, none, some (.iload_n 1, 1, 0, 0, 0, 0), some (.iconst 1, 1, 0, 0, 0, 0), some (.aload_n 0, 1, 0, 0, 0, 0), some (.getfield 80, 3, 9, 9, 2, 103), none, none, some (.ishl, 1, 0, 0, 0, 0), some (.if_icmp .ge 7, 3, 18, 0, 0, 0), none, none, some (.iconst 1, 1, 0, 0, 0, 0), some (.goto 4, 3, 19, 0, 0, 0)],
  [none, none, some (.iconst 0, 1, 0, 0, 0, 0), some (.ireturn, 1, 0, 0, 0, 0), none, none, none, none, none, none, none, none, none, none, none, none]]
def xc_X9_inForce : List (List (Option xr_R)) := [[some (.aload_n 0, 1, 0, 0, 0, 0), some (.getfield 30, 3, 9, 2, 2, 96), none, none, some (.astore_n 2, 1, 0, 0, 0, 0), some (.iconst 0, 1, 0, 0, 0, 0), some (.istore_n 3, 1, 0, 0, 0, 0), some (.iload_n 3, 1, 0, 0, 0, 0), some (.aload_n 0, 1, 0, 0, 0, 0), some (.getfield 70, 3, 9, 8, 2, 102), none, none, some (.if_icmp .ge 46, 3, 58, 0, 0, 0), none, none, some (.aload_n 0, 1, 0, 0, 0, 0)],
  [some (.getfield 34, 3, 9, 3, 2, 97), none, none, some (.iload_n 3, 1, 0, 0, 0, 0), some (.aaload, 1, 0, 0, 0, 0), some (.astore 4, 2, 0, 0, 0, 0), none, some (.aload 4, 2, 0, 0, 0, 0), none, some (.ifnull 27, 3, 0, 0, 0, 0), none, none, some (.aload 4, 2, 0, 0, 0, 0), none, some (.getfield 270, 3, 7, 0, 1, 147), none],
  [none, some (.iload_n 1, 1, 0, 0, 0, 0), some (.if_icmp .gt 18, 3, 52, 0, 0, 0), none, none, some (.aload 4, 2, 0, 0, 0, 0), none, some (.getfield 270, 3, 7, 0, 1, 147), none, none, some (.aload_n 2, 1, 0, 0, 0, 0), some (.getfield 270, 3, 7, 0, 1, 147), none, none, some (.if_icmp .lt 6, 3, 52, 0, 0, 0), none],
  [none, some (.aload 4, 2, 0, 0, 0, 0), none, some (.astore_n 2, 1, 0, 0, 0, 0), some (.iinc 3 1, 3, 0, 0, 0, 0), none, none, some (.goto (-48), 3, 7, 0, 0, 0), none, none, some (.aload_n 2, 1, 0, 0, 0, 0), some (.areturn, 1, 0, 0, 0, 0), none, none, none, none]]
def xc_X9_powersToday : List (List (Option xr_R)) := [[some (.aload_n 0, 1, 0, 0, 0, 0), some (.getfield 43, 3, 9, 4, 2, 98), none, none, some (.aload_n 0, 1, 0, 0, 0, 0), some (.aload_n 0, 1, 0, 0, 0, 0), some (.getfield 74, 3, 9, 10, 2, 104), none, none, some (.invokevirtual 125, 3, 140, 0, 3, 146), none, none, some (.aload_n 0, 1, 0, 0, 0, 0), some (.getfield 80, 3, 9, 9, 2, 103), none, none],
  [some (.invokevirtual 273, 3, 22, 0, 3, 162), none, none, some (.aload_n 0, 1, 0, 0, 0, 0), some (.getfield 43, 3, 9, 4, 2, 98), none, none, some (.areturn, 1, 0, 0, 0, 0), none, none, none, none, none, none, none, none]]
def xc_X9_commonDivisor : List (List (Option xr_R)) := [[some (.lload_n 0, 1, 0, 0, 0, 0), some (.lstore 4, 2, 0, 0, 0, 0), none, some (.lload_n 2, 1, 0, 0, 0, 0), some (.lstore 6, 2, 0, 0, 0, 0), none, some (.iconst 0, 1, 0, 0, 0, 0), some (.istore 8, 2, 0, 0, 0, 0), none, some (.iload 8, 2, 0, 0, 0, 0), none, some (.bipush 100, 2, 0, 0, 0, 0), none, some (.if_icmp .ge 31, 3, 44, 0, 0, 0), none, none],
  [some (.lload 6, 2, 0, 0, 0, 0), none, some (.lconst 0, 1, 0, 0, 0, 0), some (.lcmp, 1, 0, 0, 0, 0), some (.ifCond .eq 24, 3, 44, 0, 0, 0), none, none, some (.lload 4, 2, 0, 0, 0, 0), none, some (.lload 6, 2, 0, 0, 0, 0), none, some (.lrem, 1, 0, 0, 0, 0), some (.lstore 9, 2, 0, 0, 0, 0), none, some (.lload 6, 2, 0, 0, 0, 0), none],
  [some (.lstore 4, 2, 0, 0, 0, 0), none, some (.lload 9, 2, 0, 0, 0, 0), none, some (.lstore 6, 2, 0, 0, 0, 0), none, some (.iinc 8 1, 3, 0, 0, 0, 0), none, none, some (.goto (-32), 3, 9, 0, 0, 0), none, none, some (.lload 4, 2, 0, 0, 0, 0), none, some (.lreturn, 1, 0, 0, 0, 0), none]]
def xc_X10_init : List (List (Option xr_R)) := [[some (.aload_n 0, 1, 0, 0, 0, 0), some (.invokespecial 1, 3, 0, 1, 5, 82), none, none, some (.aload_n 0, 1, 0, 0, 0, 0), some (.sipush 640, 3, 0, 0, 0, 0), none, none, some (.newarray .int, 2, 0, 0, 0, 0), none, some (.putfield 7, 3, 10, 1, 5, 87), none, none, some (.aload_n 0, 1, 0, 0, 0, 0), some (.iconst 3, 1, 0, 0, 0, 0), some (.putfield 13, 3, 10, 4, 5, 90)],
  [none, none, some (.aload_n 0, 1, 0, 0, 0, 0), some (.ldc 17, 2, 53248, 0, 5, 83), none, some (.newarray .boolean, 2, 0, 0, 0, 0), none, some (.putfield 18, 3, 10, 16, 5, 102), none, none, some (.aload_n 0, 1, 0, 0, 0, 0), some (.ldc 17, 2, 53248, 0, 5, 83), none, some (.newarray .boolean, 2, 0, 0, 0, 0), none, some (.putfield 22, 3, 10, 17, 5, 103)],
  [none, none, some (.aload_n 0, 1, 0, 0, 0, 0), some (.ldc 25, 2, 65536, 0, 5, 84), none, some (.newarray .boolean, 2, 0, 0, 0, 0), none, some (.putfield 26, 3, 10, 18, 5, 104), none, none, some (.aload_n 0, 1, 0, 0, 0, 0), some (.ldc 29, 2, 32768, 0, 5, 85), none, some (.newarray .boolean, 2, 0, 0, 0, 0), none, some (.putfield 30, 3, 10, 19, 5, 105)],
  [none, none, some (.aload_n 0, 1, 0, 0, 0, 0), some (.sipush 4096, 3, 0, 0, 0, 0), none, none, some (.newarray .boolean, 2, 0, 0, 0, 0), none, some (.putfield 33, 3, 10, 20, 5, 106), none, none, some (.aload_n 0, 1, 0, 0, 0, 0), some (.ldc 17, 2, 53248, 0, 5, 83), none, some (.newarray .int, 2, 0, 0, 0, 0), none],
  [some (.putfield 36, 3, 10, 21, 5, 107), none, none, some (.aload_n 0, 1, 0, 0, 0, 0), some (.bipush 13, 2, 0, 0, 0, 0), none, some (.newarray .int, 2, 0, 0, 0, 0), none, some (.putfield 39, 3, 10, 22, 5, 108), none, none, some (.aload_n 0, 1, 0, 0, 0, 0), some (.bipush 13, 2, 0, 0, 0, 0), none, some (.newarray .int, 2, 0, 0, 0, 0), none],
  [some (.putfield 42, 3, 10, 23, 5, 109), none, none, some (.aload_n 0, 1, 0, 0, 0, 0), some (.bipush 13, 2, 0, 0, 0, 0), none, some (.newarray .int, 2, 0, 0, 0, 0), none, some (.putfield 45, 3, 10, 24, 5, 110), none, none, some (.aload_n 0, 1, 0, 0, 0, 0), some (.bipush 16, 2, 0, 0, 0, 0), none, some (.newarray .long, 2, 0, 0, 0, 0), none],
  [some (.putfield 48, 3, 10, 25, 5, 111), none, none, some (.aload_n 0, 1, 0, 0, 0, 0), some (.bipush 8, 2, 0, 0, 0, 0), none, some (.newarray .int, 2, 0, 0, 0, 0), none, some (.putfield 52, 3, 10, 31, 5, 117), none, none, some (.aload_n 0, 1, 0, 0, 0, 0), some (.bipush 8, 2, 0, 0, 0, 0), none, some (.newarray .int, 2, 0, 0, 0, 0), none],
  [some (.putfield 55, 3, 10, 32, 5, 118), none, none, some (.aload_n 0, 1, 0, 0, 0, 0), some (.sipush 4096, 3, 0, 0, 0, 0), none, none, some (.newarray .boolean, 2, 0, 0, 0, 0), none, some (.putfield 58, 3, 10, 34, 5, 120), none, none, some (.aload_n 0, 1, 0, 0, 0, 0), some (.bipush 12, 2, 0, 0, 0, 0), none, some (.newarray .int, 2, 0, 0, 0, 0)],
  [none, some (.putfield 61, 3, 10, 38, 5, 124), none, none, some (.aload_n 0, 1, 0, 0, 0, 0), some (.bipush 12, 2, 0, 0, 0, 0), none, some (.newarray .int, 2, 0, 0, 0, 0), none, some (.putfield 64, 3, 10, 39, 5, 125), none, none, some (.aload_n 0, 1, 0, 0, 0, 0), some (.bipush 12, 2, 0, 0, 0, 0), none, some (.newarray .int, 2, 0, 0, 0, 0)],
  [none, some (.putfield 67, 3, 10, 40, 5, 126), none, none, some (.aload_n 0, 1, 0, 0, 0, 0), some (.bipush 12, 2, 0, 0, 0, 0), none, some (.newarray .int, 2, 0, 0, 0, 0), none, some (.putfield 70, 3, 10, 41, 5, 127), none, none, some (.aload_n 0, 1, 0, 0, 0, 0), some (.bipush 13, 2, 0, 0, 0, 0), none, some (.newarray .int, 2, 0, 0, 0, 0)],
  [none, some (.putfield 73, 3, 10, 42, 5, 128), none, none, some (.aload_n 0, 1, 0, 0, 0, 0), some (.sipush 924, 3, 0, 0, 0, 0), none, none, some (.newarray .int, 2, 0, 0, 0, 0), none, some (.putfield 76, 3, 10, 43, 5, 129), none, none, some (.aload_n 0, 1, 0, 0, 0, 0), some (.sipush 924, 3, 0, 0, 0, 0), none],
  [none, some (.newarray .int, 2, 0, 0, 0, 0), none, some (.putfield 79, 3, 10, 44, 5, 130), none, none, some (.aload_n 0, 1, 0, 0, 0, 0), some (.sipush 144, 3, 0, 0, 0, 0), none, none, some (.newarray .boolean, 2, 0, 0, 0, 0), none, some (.putfield 82, 3, 10, 45, 5, 131), none, none, some (.aload_n 0, 1, 0, 0, 0, 0)],
  [some (.bipush 84, 2, 0, 0, 0, 0), none, some (.newarray .int, 2, 0, 0, 0, 0), none, some (.dup, 1, 0, 0, 0, 0), some (.iconst 0, 1, 0, 0, 0, 0), some (.iconst 0, 1, 0, 0, 0, 0), some (.iastore, 1, 0, 0, 0, 0), some (.dup, 1, 0, 0, 0, 0), some (.iconst 1, 1, 0, 0, 0, 0), some (.iconst 1, 1, 0, 0, 0, 0), some (.iastore, 1, 0, 0, 0, 0), some (.dup, 1, 0, 0, 0, 0), some (.iconst 2, 1, 0, 0, 0, 0), some (.iconst 2, 1, 0, 0, 0, 0), some (.iastore, 1, 0, 0, 0, 0)],
  [some (.dup, 1, 0, 0, 0, 0), some (.iconst 3, 1, 0, 0, 0, 0), some (.iconst 3, 1, 0, 0, 0, 0), some (.iastore, 1, 0, 0, 0, 0), some (.dup, 1, 0, 0, 0, 0), some (.iconst 4, 1, 0, 0, 0, 0), some (.iconst 4, 1, 0, 0, 0, 0), some (.iastore, 1, 0, 0, 0, 0), some (.dup, 1, 0, 0, 0, 0), some (.iconst 5, 1, 0, 0, 0, 0), some (.iconst 5, 1, 0, 0, 0, 0), some (.iastore, 1, 0, 0, 0, 0), some (.dup, 1, 0, 0, 0, 0), some (.bipush 6, 2, 0, 0, 0, 0), none, some (.bipush 6, 2, 0, 0, 0, 0)],
  [none, some (.iastore, 1, 0, 0, 0, 0), some (.dup, 1, 0, 0, 0, 0), some (.bipush 7, 2, 0, 0, 0, 0), none, some (.iconst 0, 1, 0, 0, 0, 0), some (.iastore, 1, 0, 0, 0, 0), some (.dup, 1, 0, 0, 0, 0), some (.bipush 8, 2, 0, 0, 0, 0), none, some (.iconst 1, 1, 0, 0, 0, 0), some (.iastore, 1, 0, 0, 0, 0), some (.dup, 1, 0, 0, 0, 0), some (.bipush 9, 2, 0, 0, 0, 0), none, some (.iconst 2, 1, 0, 0, 0, 0)],
  [some (.iastore, 1, 0, 0, 0, 0), some (.dup, 1, 0, 0, 0, 0), some (.bipush 10, 2, 0, 0, 0, 0), none, some (.iconst 3, 1, 0, 0, 0, 0), some (.iastore, 1, 0, 0, 0, 0), some (.dup, 1, 0, 0, 0, 0), some (.bipush 11, 2, 0, 0, 0, 0), none, some (.iconst 4, 1, 0, 0, 0, 0), some (.iastore, 1, 0, 0, 0, 0), some (.dup, 1, 0, 0, 0, 0), some (.bipush 12, 2, 0, 0, 0, 0), none, some (.iconst 5, 1, 0, 0, 0, 0), some (.iastore, 1, 0, 0, 0, 0)],
  [some (.dup, 1, 0, 0, 0, 0), some (.bipush 13, 2, 0, 0, 0, 0), none, some (.bipush 6, 2, 0, 0, 0, 0), none, some (.iastore, 1, 0, 0, 0, 0), some (.dup, 1, 0, 0, 0, 0), some (.bipush 14, 2, 0, 0, 0, 0), none, some (.iconst 0, 1, 0, 0, 0, 0), some (.iastore, 1, 0, 0, 0, 0), some (.dup, 1, 0, 0, 0, 0), some (.bipush 15, 2, 0, 0, 0, 0), none, some (.iconst 1, 1, 0, 0, 0, 0), some (.iastore, 1, 0, 0, 0, 0)],
  [some (.dup, 1, 0, 0, 0, 0), some (.bipush 16, 2, 0, 0, 0, 0), none, some (.iconst 2, 1, 0, 0, 0, 0), some (.iastore, 1, 0, 0, 0, 0), some (.dup, 1, 0, 0, 0, 0), some (.bipush 17, 2, 0, 0, 0, 0), none, some (.iconst 3, 1, 0, 0, 0, 0), some (.iastore, 1, 0, 0, 0, 0), some (.dup, 1, 0, 0, 0, 0), some (.bipush 18, 2, 0, 0, 0, 0), none, some (.iconst 4, 1, 0, 0, 0, 0), some (.iastore, 1, 0, 0, 0, 0), some (.dup, 1, 0, 0, 0, 0)],
  [some (.bipush 19, 2, 0, 0, 0, 0), none, some (.iconst 5, 1, 0, 0, 0, 0), some (.iastore, 1, 0, 0, 0, 0), some (.dup, 1, 0, 0, 0, 0), some (.bipush 20, 2, 0, 0, 0, 0), none, some (.bipush 6, 2, 0, 0, 0, 0), none, some (.iastore, 1, 0, 0, 0, 0), some (.dup, 1, 0, 0, 0, 0), some (.bipush 21, 2, 0, 0, 0, 0), none, some (.iconst 0, 1, 0, 0, 0, 0), some (.iastore, 1, 0, 0, 0, 0), some (.dup, 1, 0, 0, 0, 0)],
  [some (.bipush 22, 2, 0, 0, 0, 0), none, some (.iconst 1, 1, 0, 0, 0, 0), some (.iastore, 1, 0, 0, 0, 0), some (.dup, 1, 0, 0, 0, 0), some (.bipush 23, 2, 0, 0, 0, 0), none, some (.iconst 2, 1, 0, 0, 0, 0), some (.iastore, 1, 0, 0, 0, 0), some (.dup, 1, 0, 0, 0, 0), some (.bipush 24, 2, 0, 0, 0, 0), none, some (.iconst 3, 1, 0, 0, 0, 0), some (.iastore, 1, 0, 0, 0, 0), some (.dup, 1, 0, 0, 0, 0), some (.bipush 25, 2, 0, 0, 0, 0)],
  [none, some (.iconst 4, 1, 0, 0, 0, 0), some (.iastore, 1, 0, 0, 0, 0), some (.dup, 1, 0, 0, 0, 0), some (.bipush 26, 2, 0, 0, 0, 0), none, some (.iconst 5, 1, 0, 0, 0, 0), some (.iastore, 1, 0, 0, 0, 0), some (.dup, 1, 0, 0, 0, 0), some (.bipush 27, 2, 0, 0, 0, 0), none, some (.bipush 6, 2, 0, 0, 0, 0), none, some (.iastore, 1, 0, 0, 0, 0), some (.dup, 1, 0, 0, 0, 0), some (.bipush 28, 2, 0, 0, 0, 0)],
  [none, some (.iconst 0, 1, 0, 0, 0, 0), some (.iastore, 1, 0, 0, 0, 0), some (.dup, 1, 0, 0, 0, 0), some (.bipush 29, 2, 0, 0, 0, 0), none, some (.iconst 1, 1, 0, 0, 0, 0), some (.iastore, 1, 0, 0, 0, 0), some (.dup, 1, 0, 0, 0, 0), some (.bipush 30, 2, 0, 0, 0, 0), none, some (.iconst 2, 1, 0, 0, 0, 0), some (.iastore, 1, 0, 0, 0, 0), some (.dup, 1, 0, 0, 0, 0), some (.bipush 31, 2, 0, 0, 0, 0), none],
  [some (.iconst 3, 1, 0, 0, 0, 0), some (.iastore, 1, 0, 0, 0, 0), some (.dup, 1, 0, 0, 0, 0), some (.bipush 32, 2, 0, 0, 0, 0), none, some (.iconst 4, 1, 0, 0, 0, 0), some (.iastore, 1, 0, 0, 0, 0), some (.dup, 1, 0, 0, 0, 0), some (.bipush 33, 2, 0, 0, 0, 0), none, some (.iconst 5, 1, 0, 0, 0, 0), some (.iastore, 1, 0, 0, 0, 0), some (.dup, 1, 0, 0, 0, 0), some (.bipush 34, 2, 0, 0, 0, 0), none, some (.bipush 6, 2, 0, 0, 0, 0)],
  [none, some (.iastore, 1, 0, 0, 0, 0), some (.dup, 1, 0, 0, 0, 0), some (.bipush 35, 2, 0, 0, 0, 0), none, some (.iconst 0, 1, 0, 0, 0, 0), some (.iastore, 1, 0, 0, 0, 0), some (.dup, 1, 0, 0, 0, 0), some (.bipush 36, 2, 0, 0, 0, 0), none, some (.iconst 1, 1, 0, 0, 0, 0), some (.iastore, 1, 0, 0, 0, 0), some (.dup, 1, 0, 0, 0, 0), some (.bipush 37, 2, 0, 0, 0, 0), none, some (.iconst 2, 1, 0, 0, 0, 0)],
  [some (.iastore, 1, 0, 0, 0, 0), some (.dup, 1, 0, 0, 0, 0), some (.bipush 38, 2, 0, 0, 0, 0), none, some (.iconst 3, 1, 0, 0, 0, 0), some (.iastore, 1, 0, 0, 0, 0), some (.dup, 1, 0, 0, 0, 0), some (.bipush 39, 2, 0, 0, 0, 0), none, some (.iconst 4, 1, 0, 0, 0, 0), some (.iastore, 1, 0, 0, 0, 0), some (.dup, 1, 0, 0, 0, 0), some (.bipush 40, 2, 0, 0, 0, 0), none, some (.iconst 5, 1, 0, 0, 0, 0), some (.iastore, 1, 0, 0, 0, 0)],
  [some (.dup, 1, 0, 0, 0, 0), some (.bipush 41, 2, 0, 0, 0, 0), none, some (.bipush 6, 2, 0, 0, 0, 0), none, some (.iastore, 1, 0, 0, 0, 0), some (.dup, 1, 0, 0, 0, 0), some (.bipush 42, 2, 0, 0, 0, 0), none, some (.iconst 0, 1, 0, 0, 0, 0), some (.iastore, 1, 0, 0, 0, 0), some (.dup, 1, 0, 0, 0, 0), some (.bipush 43, 2, 0, 0, 0, 0), none, some (.iconst 1, 1, 0, 0, 0, 0), some (.iastore, 1, 0, 0, 0, 0)],
  [some (.dup, 1, 0, 0, 0, 0), some (.bipush 44, 2, 0, 0, 0, 0), none, some (.iconst 2, 1, 0, 0, 0, 0), some (.iastore, 1, 0, 0, 0, 0), some (.dup, 1, 0, 0, 0, 0), some (.bipush 45, 2, 0, 0, 0, 0), none, some (.iconst 3, 1, 0, 0, 0, 0), some (.iastore, 1, 0, 0, 0, 0), some (.dup, 1, 0, 0, 0, 0), some (.bipush 46, 2, 0, 0, 0, 0), none, some (.iconst 4, 1, 0, 0, 0, 0), some (.iastore, 1, 0, 0, 0, 0), some (.dup, 1, 0, 0, 0, 0)],
  [some (.bipush 47, 2, 0, 0, 0, 0), none, some (.iconst 5, 1, 0, 0, 0, 0), some (.iastore, 1, 0, 0, 0, 0), some (.dup, 1, 0, 0, 0, 0), some (.bipush 48, 2, 0, 0, 0, 0), none, some (.bipush 6, 2, 0, 0, 0, 0), none, some (.iastore, 1, 0, 0, 0, 0), some (.dup, 1, 0, 0, 0, 0), some (.bipush 49, 2, 0, 0, 0, 0), none, some (.iconst 0, 1, 0, 0, 0, 0), some (.iastore, 1, 0, 0, 0, 0), some (.dup, 1, 0, 0, 0, 0)],
  [some (.bipush 50, 2, 0, 0, 0, 0), none, some (.iconst 1, 1, 0, 0, 0, 0), some (.iastore, 1, 0, 0, 0, 0), some (.dup, 1, 0, 0, 0, 0), some (.bipush 51, 2, 0, 0, 0, 0), none, some (.iconst 2, 1, 0, 0, 0, 0), some (.iastore, 1, 0, 0, 0, 0), some (.dup, 1, 0, 0, 0, 0), some (.bipush 52, 2, 0, 0, 0, 0), none, some (.iconst 3, 1, 0, 0, 0, 0), some (.iastore, 1, 0, 0, 0, 0), some (.dup, 1, 0, 0, 0, 0), some (.bipush 53, 2, 0, 0, 0, 0)],
  [none, some (.iconst 4, 1, 0, 0, 0, 0), some (.iastore, 1, 0, 0, 0, 0), some (.dup, 1, 0, 0, 0, 0), some (.bipush 54, 2, 0, 0, 0, 0), none, some (.iconst 5, 1, 0, 0, 0, 0), some (.iastore, 1, 0, 0, 0, 0), some (.dup, 1, 0, 0, 0, 0), some (.bipush 55, 2, 0, 0, 0, 0), none, some (.bipush 6, 2, 0, 0, 0, 0), none, some (.iastore, 1, 0, 0, 0, 0), some (.dup, 1, 0, 0, 0, 0), some (.bipush 56, 2, 0, 0, 0, 0)],
  [none, some (.iconst 0, 1, 0, 0, 0, 0), some (.iastore, 1, 0, 0, 0, 0), some (.dup, 1, 0, 0, 0, 0), some (.bipush 57, 2, 0, 0, 0, 0), none, some (.iconst 1, 1, 0, 0, 0, 0), some (.iastore, 1, 0, 0, 0, 0), some (.dup, 1, 0, 0, 0, 0), some (.bipush 58, 2, 0, 0, 0, 0), none, some (.iconst 2, 1, 0, 0, 0, 0), some (.iastore, 1, 0, 0, 0, 0), some (.dup, 1, 0, 0, 0, 0), some (.bipush 59, 2, 0, 0, 0, 0), none],
  [some (.iconst 3, 1, 0, 0, 0, 0), some (.iastore, 1, 0, 0, 0, 0), some (.dup, 1, 0, 0, 0, 0), some (.bipush 60, 2, 0, 0, 0, 0), none, some (.iconst 4, 1, 0, 0, 0, 0), some (.iastore, 1, 0, 0, 0, 0), some (.dup, 1, 0, 0, 0, 0), some (.bipush 61, 2, 0, 0, 0, 0), none, some (.iconst 5, 1, 0, 0, 0, 0), some (.iastore, 1, 0, 0, 0, 0), some (.dup, 1, 0, 0, 0, 0), some (.bipush 62, 2, 0, 0, 0, 0), none, some (.bipush 6, 2, 0, 0, 0, 0)],
  [none, some (.iastore, 1, 0, 0, 0, 0), some (.dup, 1, 0, 0, 0, 0), some (.bipush 63, 2, 0, 0, 0, 0), none, some (.iconst 0, 1, 0, 0, 0, 0), some (.iastore, 1, 0, 0, 0, 0), some (.dup, 1, 0, 0, 0, 0), some (.bipush 64, 2, 0, 0, 0, 0), none, some (.iconst 1, 1, 0, 0, 0, 0), some (.iastore, 1, 0, 0, 0, 0), some (.dup, 1, 0, 0, 0, 0), some (.bipush 65, 2, 0, 0, 0, 0), none, some (.iconst 2, 1, 0, 0, 0, 0)],
  [some (.iastore, 1, 0, 0, 0, 0), some (.dup, 1, 0, 0, 0, 0), some (.bipush 66, 2, 0, 0, 0, 0), none, some (.iconst 3, 1, 0, 0, 0, 0), some (.iastore, 1, 0, 0, 0, 0), some (.dup, 1, 0, 0, 0, 0), some (.bipush 67, 2, 0, 0, 0, 0), none, some (.iconst 4, 1, 0, 0, 0, 0), some (.iastore, 1, 0, 0, 0, 0), some (.dup, 1, 0, 0, 0, 0), some (.bipush 68, 2, 0, 0, 0, 0), none, some (.iconst 5, 1, 0, 0, 0, 0), some (.iastore, 1, 0, 0, 0, 0)],
  [some (.dup, 1, 0, 0, 0, 0), some (.bipush 69, 2, 0, 0, 0, 0), none, some (.bipush 6, 2, 0, 0, 0, 0), none, some (.iastore, 1, 0, 0, 0, 0), some (.dup, 1, 0, 0, 0, 0), some (.bipush 70, 2, 0, 0, 0, 0), none, some (.iconst 0, 1, 0, 0, 0, 0), some (.iastore, 1, 0, 0, 0, 0), some (.dup, 1, 0, 0, 0, 0), some (.bipush 71, 2, 0, 0, 0, 0), none, some (.iconst 1, 1, 0, 0, 0, 0), some (.iastore, 1, 0, 0, 0, 0)],
  [some (.dup, 1, 0, 0, 0, 0), some (.bipush 72, 2, 0, 0, 0, 0), none, some (.iconst 2, 1, 0, 0, 0, 0), some (.iastore, 1, 0, 0, 0, 0), some (.dup, 1, 0, 0, 0, 0), some (.bipush 73, 2, 0, 0, 0, 0), none, some (.iconst 3, 1, 0, 0, 0, 0), some (.iastore, 1, 0, 0, 0, 0), some (.dup, 1, 0, 0, 0, 0), some (.bipush 74, 2, 0, 0, 0, 0), none, some (.iconst 4, 1, 0, 0, 0, 0), some (.iastore, 1, 0, 0, 0, 0), some (.dup, 1, 0, 0, 0, 0)],
  [some (.bipush 75, 2, 0, 0, 0, 0), none, some (.iconst 5, 1, 0, 0, 0, 0), some (.iastore, 1, 0, 0, 0, 0), some (.dup, 1, 0, 0, 0, 0), some (.bipush 76, 2, 0, 0, 0, 0), none, some (.bipush 6, 2, 0, 0, 0, 0), none, some (.iastore, 1, 0, 0, 0, 0), some (.dup, 1, 0, 0, 0, 0), some (.bipush 77, 2, 0, 0, 0, 0), none, some (.iconst 0, 1, 0, 0, 0, 0), some (.iastore, 1, 0, 0, 0, 0), some (.dup, 1, 0, 0, 0, 0)],
  [some (.bipush 78, 2, 0, 0, 0, 0), none, some (.iconst 1, 1, 0, 0, 0, 0), some (.iastore, 1, 0, 0, 0, 0), some (.dup, 1, 0, 0, 0, 0), some (.bipush 79, 2, 0, 0, 0, 0), none, some (.iconst 2, 1, 0, 0, 0, 0), some (.iastore, 1, 0, 0, 0, 0), some (.dup, 1, 0, 0, 0, 0), some (.bipush 80, 2, 0, 0, 0, 0), none, some (.iconst 3, 1, 0, 0, 0, 0), some (.iastore, 1, 0, 0, 0, 0), some (.dup, 1, 0, 0, 0, 0), some (.bipush 81, 2, 0, 0, 0, 0)],
  [none, some (.iconst 4, 1, 0, 0, 0, 0), some (.iastore, 1, 0, 0, 0, 0), some (.dup, 1, 0, 0, 0, 0), some (.bipush 82, 2, 0, 0, 0, 0), none, some (.iconst 5, 1, 0, 0, 0, 0), some (.iastore, 1, 0, 0, 0, 0), some (.dup, 1, 0, 0, 0, 0), some (.bipush 83, 2, 0, 0, 0, 0), none, some (.bipush 6, 2, 0, 0, 0, 0), none, some (.iastore, 1, 0, 0, 0, 0), some (.putfield 85, 3, 10, 53, 5, 139), none],
  [none, some (.aload_n 0, 1, 0, 0, 0, 0), some (.bipush 49, 2, 0, 0, 0, 0), none, some (.newarray .boolean, 2, 0, 0, 0, 0), none, some (.putfield 88, 3, 10, 54, 5, 140), none, none, some (.aload_n 0, 1, 0, 0, 0, 0), some (.bipush 49, 2, 0, 0, 0, 0), none, some (.newarray .boolean, 2, 0, 0, 0, 0), none, some (.putfield 91, 3, 10, 55, 5, 141), none],
  [none, some (.aload_n 0, 1, 0, 0, 0, 0), some (.bipush 56, 2, 0, 0, 0, 0), none, some (.newarray .int, 2, 0, 0, 0, 0), none, some (.putfield 94, 3, 10, 56, 5, 142), none, none, some (.aload_n 0, 1, 0, 0, 0, 0), some (.bipush 7, 2, 0, 0, 0, 0), none, some (.newarray .int, 2, 0, 0, 0, 0), none, some (.putfield 97, 3, 10, 57, 5, 143), none],
  [none, some (.aload_n 0, 1, 0, 0, 0, 0), some (.bipush 7, 2, 0, 0, 0, 0), none, some (.newarray .int, 2, 0, 0, 0, 0), none, some (.putfield 100, 3, 10, 58, 5, 144), none, none, some (.aload_n 0, 1, 0, 0, 0, 0), some (.bipush 60, 2, 0, 0, 0, 0), none, some (.newarray .int, 2, 0, 0, 0, 0), none, some (.putfield 103, 3, 10, 60, 5, 146), none],
  [none, some (.aload_n 0, 1, 0, 0, 0, 0), some (.bipush 60, 2, 0, 0, 0, 0), none, some (.newarray .int, 2, 0, 0, 0, 0), none, some (.putfield 106, 3, 10, 61, 5, 147), none, none, some (.aload_n 0, 1, 0, 0, 0, 0), some (.bipush 60, 2, 0, 0, 0, 0), none, some (.newarray .boolean, 2, 0, 0, 0, 0), none, some (.putfield 109, 3, 10, 62, 5, 148), none],
  [none, some (.return_, 1, 0, 0, 0, 0), none, none, none, none, none, none, none, none, none, none, none, none, none, none]]
def xc_X10_refuse : List (List (Option xr_R)) := [[some (.aload_n 0, 1, 0, 0, 0, 0), some (.iconst 1, 1, 0, 0, 0, 0), some (.putfield 112, 3, 10, 0, 5, 86), none, none, some (.iconst 0, 1, 0, 0, 0, 0), some (.ireturn, 1, 0, 0, 0, 0), none, none, none, none, none, none, none, none, none]]
def xc_X10_come : List (List (Option xr_R)) := [[some (.bipush 24, 2, 0, 0, 0, 0), none, some (.istore_n 2, 1, 0, 0, 0, 0), some (.iload_n 2, 1, 0, 0, 0, 0), some (.ifCond .lt 35, 3, 39, 0, 0, 0), none, none, some (.aload_n 0, 1, 0, 0, 0, 0), some (.getfield 7, 3, 10, 1, 5, 87), none, none, some (.aload_n 0, 1, 0, 0, 0, 0), some (.getfield 115, 3, 10, 2, 5, 88), none, none, some (.iload_n 1, 1, 0, 0, 0, 0)],
  [some (.iload_n 2, 1, 0, 0, 0, 0), some (.iushr, 1, 0, 0, 0, 0), some (.sipush 255, 3, 0, 0, 0, 0), none, none, some (.iand, 1, 0, 0, 0, 0), some (.iastore, 1, 0, 0, 0, 0), some (.aload_n 0, 1, 0, 0, 0, 0), some (.dup, 1, 0, 0, 0, 0), some (.getfield 115, 3, 10, 2, 5, 88), none, none, some (.iconst 1, 1, 0, 0, 0, 0), some (.iadd, 1, 0, 0, 0, 0), some (.putfield 115, 3, 10, 2, 5, 88), none],
  [none, some (.iinc 2 (-8), 3, 0, 0, 0, 0), none, none, some (.goto (-33), 3, 3, 0, 0, 0), none, none, some (.return_, 1, 0, 0, 0, 0), none, none, none, none, none, none, none, none]]
def xc_X10_feed : List (List (Option xr_R)) := [[some (.aload_n 0, 1, 0, 0, 0, 0), some (.iconst 0, 1, 0, 0, 0, 0), some (.putfield 112, 3, 10, 0, 5, 86), none, none, some (.aload_n 0, 1, 0, 0, 0, 0), some (.getfield 115, 3, 10, 2, 5, 88), none, none, some (.bipush 20, 2, 0, 0, 0, 0), none, some (.iadd, 1, 0, 0, 0, 0), some (.sipush 640, 3, 0, 0, 0, 0), none, none, some (.if_icmp .le 5, 3, 20, 0, 0, 0)],
  [none, none, some (.iconst (-1), 1, 0, 0, 0, 0), some (.ireturn, 1, 0, 0, 0, 0), some (.aload_n 0, 1, 0, 0, 0, 0), some (.iload_n 1, 1, 0, 0, 0, 0), some (.invokevirtual 118, 3, 145, 0, 6, 43), none, none, some (.aload_n 0, 1, 0, 0, 0, 0), some (.iload_n 2, 1, 0, 0, 0, 0), some (.invokevirtual 118, 3, 145, 0, 6, 43), none, none, some (.aload_n 0, 1, 0, 0, 0, 0), some (.iload_n 3, 1, 0, 0, 0, 0)],
  [some (.invokevirtual 118, 3, 145, 0, 6, 43), none, none, some (.aload_n 0, 1, 0, 0, 0, 0), some (.iload 4, 2, 0, 0, 0, 0), none, some (.invokevirtual 118, 3, 145, 0, 6, 43), none, none, some (.aload_n 0, 1, 0, 0, 0, 0), some (.iload 5, 2, 0, 0, 0, 0), none, some (.invokevirtual 118, 3, 145, 0, 6, 43), none, none, some (.aload_n 0, 1, 0, 0, 0, 0)],
  [some (.getfield 115, 3, 10, 2, 5, 88), none, none, some (.ireturn, 1, 0, 0, 0, 0), none, none, none, none, none, none, none, none, none, none, none, none]]
def xc_X10_end : List (List (Option xr_R)) := [[some (.aload_n 0, 1, 0, 0, 0, 0), some (.iconst 0, 1, 0, 0, 0, 0), some (.putfield 112, 3, 10, 0, 5, 86), none, none, some (.iload_n 1, 1, 0, 0, 0, 0), some (.ifCond .lt 11, 3, 17, 0, 0, 0), none, none, some (.iload_n 1, 1, 0, 0, 0, 0), some (.aload_n 0, 1, 0, 0, 0, 0), some (.getfield 115, 3, 10, 2, 5, 88), none, none, some (.if_icmp .le 5, 3, 19, 0, 0, 0), none],
  [none, some (.iconst 0, 1, 0, 0, 0, 0), some (.ireturn, 1, 0, 0, 0, 0), some (.aload_n 0, 1, 0, 0, 0, 0), some (.iload_n 1, 1, 0, 0, 0, 0), some (.putfield 115, 3, 10, 2, 5, 88), none, none, some (.iconst 1, 1, 0, 0, 0, 0), some (.ireturn, 1, 0, 0, 0, 0), none, none, none, none, none, none]]
def xc_X10_take : List (List (Option xr_R)) := [[some (.aload_n 0, 1, 0, 0, 0, 0), some (.getfield 115, 3, 10, 2, 5, 88), none, none, some (.istore_n 1, 1, 0, 0, 0, 0), some (.aload_n 0, 1, 0, 0, 0, 0), some (.iconst 0, 1, 0, 0, 0, 0), some (.putfield 115, 3, 10, 2, 5, 88), none, none, some (.iload_n 1, 1, 0, 0, 0, 0), some (.ireturn, 1, 0, 0, 0, 0), none, none, none, none]]
def xc_X10_isIn : List (List (Option xr_R)) := [[some (.iload_n 0, 1, 0, 0, 0, 0), some (.iload_n 1, 1, 0, 0, 0, 0), some (.if_icmp .lt 12, 3, 14, 0, 0, 0), none, none, some (.iload_n 0, 1, 0, 0, 0, 0), some (.iload_n 2, 1, 0, 0, 0, 0), some (.if_icmp .gt 7, 3, 14, 0, 0, 0), none, none, some (.iconst 1, 1, 0, 0, 0, 0), some (.goto 4, 3, 15, 0, 0, 0), none, none, some (.iconst 0, 1, 0, 0, 0, 0), some (.ireturn, 1, 0, 0, 0, 0)]]
def xc_X10_next : List (List (Option xr_R)) := [[some (.aload_n 0, 1, 0, 0, 0, 0), some (.iconst 0, 1, 0, 0, 0, 0), some (.putfield 112, 3, 10, 0, 5, 86), none, none, some (.iload_n 1, 1, 0, 0, 0, 0), some (.iconst 0, 1, 0, 0, 0, 0), some (.sipush 999, 3, 0, 0, 0, 0), none, none, some (.invokestatic 122, 3, 149, 0, 6, 55), none, none, some (.ifCond .eq 15, 3, 28, 0, 0, 0), none, none],
  [some (.aload_n 0, 1, 0, 0, 0, 0), some (.getfield 126, 3, 10, 3, 5, 89), none, none, some (.iload_n 1, 1, 0, 0, 0, 0), some (.iadd, 1, 0, 0, 0, 0), some (.sipush 999, 3, 0, 0, 0, 0), none, none, some (.if_icmp .le 5, 3, 30, 0, 0, 0), none, none, some (.iconst (-1), 1, 0, 0, 0, 0), some (.ireturn, 1, 0, 0, 0, 0), some (.aload_n 0, 1, 0, 0, 0, 0), some (.dup, 1, 0, 0, 0, 0)],
  [some (.getfield 126, 3, 10, 3, 5, 89), none, none, some (.iload_n 1, 1, 0, 0, 0, 0), some (.iadd, 1, 0, 0, 0, 0), some (.putfield 126, 3, 10, 3, 5, 89), none, none, some (.aload_n 0, 1, 0, 0, 0, 0), some (.getfield 126, 3, 10, 3, 5, 89), none, none, some (.ireturn, 1, 0, 0, 0, 0), none, none, none]]
def xc_X10_members : List (List (Option xr_R)) := [[some (.aload_n 0, 1, 0, 0, 0, 0), some (.iconst 0, 1, 0, 0, 0, 0), some (.putfield 112, 3, 10, 0, 5, 86), none, none, some (.iload_n 1, 1, 0, 0, 0, 0), some (.iconst 1, 1, 0, 0, 0, 0), some (.bipush 12, 2, 0, 0, 0, 0), none, some (.invokestatic 122, 3, 149, 0, 6, 55), none, none, some (.ifCond .eq 24, 3, 36, 0, 0, 0), none, none, some (.aload_n 0, 1, 0, 0, 0, 0)],
  [some (.getfield 129, 3, 10, 33, 5, 119), none, none, some (.ifCond .gt 17, 3, 36, 0, 0, 0), none, none, some (.aload_n 0, 1, 0, 0, 0, 0), some (.getfield 132, 3, 10, 63, 5, 149), none, none, some (.ifCond .gt 10, 3, 36, 0, 0, 0), none, none, some (.aload_n 0, 1, 0, 0, 0, 0), some (.getfield 135, 3, 10, 5, 5, 91), none],
  [none, some (.ifCond .eq 5, 3, 38, 0, 0, 0), none, none, some (.iconst 0, 1, 0, 0, 0, 0), some (.ireturn, 1, 0, 0, 0, 0), some (.aload_n 0, 1, 0, 0, 0, 0), some (.iload_n 1, 1, 0, 0, 0, 0), some (.putfield 13, 3, 10, 4, 5, 90), none, none, some (.iconst 1, 1, 0, 0, 0, 0), some (.ireturn, 1, 0, 0, 0, 0), none, none, none]]
def xc_X10_isMember : List (List (Option xr_R)) := [[some (.iload_n 1, 1, 0, 0, 0, 0), some (.ifCond .lt 15, 3, 16, 0, 0, 0), none, none, some (.iload_n 1, 1, 0, 0, 0, 0), some (.aload_n 0, 1, 0, 0, 0, 0), some (.getfield 13, 3, 10, 4, 5, 90), none, none, some (.if_icmp .ge 7, 3, 16, 0, 0, 0), none, none, some (.iconst 1, 1, 0, 0, 0, 0), some (.goto 4, 3, 17, 0, 0, 0), none, none],
  [some (.iconst 0, 1, 0, 0, 0, 0), some (.ireturn, 1, 0, 0, 0, 0), none, none, none, none, none, none, none, none, none, none, none, none, none, none]]
def xc_X10_isSet : List (List (Option xr_R)) := [[some (.iload_n 1, 1, 0, 0, 0, 0), some (.ifCond .lt 17, 3, 18, 0, 0, 0), none, none, some (.iload_n 1, 1, 0, 0, 0, 0), some (.iconst 1, 1, 0, 0, 0, 0), some (.aload_n 0, 1, 0, 0, 0, 0), some (.getfield 13, 3, 10, 4, 5, 90), none, none, some (.ishl, 1, 0, 0, 0, 0), some (.if_icmp .ge 7, 3, 18, 0, 0, 0), none, none, some (.iconst 1, 1, 0, 0, 0, 0), some (.goto 4, 3, 19, 0, 0, 0)],
  [none, none, some (.iconst 0, 1, 0, 0, 0, 0), some (.ireturn, 1, 0, 0, 0, 0), none, none, none, none, none, none, none, none, none, none, none, none]]
def xc_X10_sizeOf : List (List (Option xr_R)) := [[some (.iconst 0, 1, 0, 0, 0, 0), some (.istore_n 1, 1, 0, 0, 0, 0), some (.iconst 0, 1, 0, 0, 0, 0), some (.istore_n 2, 1, 0, 0, 0, 0), some (.iload_n 2, 1, 0, 0, 0, 0), some (.bipush 12, 2, 0, 0, 0, 0), none, some (.if_icmp .ge 17, 3, 24, 0, 0, 0), none, none, some (.iload_n 1, 1, 0, 0, 0, 0), some (.iload_n 0, 1, 0, 0, 0, 0), some (.iload_n 2, 1, 0, 0, 0, 0), some (.ishr, 1, 0, 0, 0, 0), some (.iconst 1, 1, 0, 0, 0, 0), some (.iand, 1, 0, 0, 0, 0)],
  [some (.iadd, 1, 0, 0, 0, 0), some (.istore_n 1, 1, 0, 0, 0, 0), some (.iinc 2 1, 3, 0, 0, 0, 0), none, none, some (.goto (-17), 3, 4, 0, 0, 0), none, none, some (.iload_n 1, 1, 0, 0, 0, 0), some (.ireturn, 1, 0, 0, 0, 0), none, none, none, none, none, none]]
def xc_X10_byteAt : List (List (Option xr_R)) := [[some (.iload_n 1, 1, 0, 0, 0, 0), some (.aload_n 0, 1, 0, 0, 0, 0), some (.getfield 139, 3, 10, 6, 5, 92), none, none, some (.if_icmp .ge 12, 3, 17, 0, 0, 0), none, none, some (.aload_n 0, 1, 0, 0, 0, 0), some (.getfield 7, 3, 10, 1, 5, 87), none, none, some (.iload_n 1, 1, 0, 0, 0, 0), some (.iaload, 1, 0, 0, 0, 0), some (.goto 4, 3, 18, 0, 0, 0), none],
  [none, some (.iconst 0, 1, 0, 0, 0, 0), some (.ireturn, 1, 0, 0, 0, 0), none, none, none, none, none, none, none, none, none, none, none, none, none]]
def xc_X10_isDigit : List (List (Option xr_R)) := [[some (.iload_n 0, 1, 0, 0, 0, 0), some (.bipush 48, 2, 0, 0, 0, 0), none, some (.if_icmp .lt 13, 3, 16, 0, 0, 0), none, none, some (.iload_n 0, 1, 0, 0, 0, 0), some (.bipush 57, 2, 0, 0, 0, 0), none, some (.if_icmp .gt 7, 3, 16, 0, 0, 0), none, none, some (.iconst 1, 1, 0, 0, 0, 0), some (.goto 4, 3, 17, 0, 0, 0), none, none],
  [some (.iconst 0, 1, 0, 0, 0, 0), some (.ireturn, 1, 0, 0, 0, 0), none, none, none, none, none, none, none, none, none, none, none, none, none, none]]
def xc_X10_isLetter : List (List (Option xr_R)) := [[some (.iload_n 0, 1, 0, 0, 0, 0), some (.bipush 97, 2, 0, 0, 0, 0), none, some (.if_icmp .lt 13, 3, 16, 0, 0, 0), none, none, some (.iload_n 0, 1, 0, 0, 0, 0), some (.bipush 122, 2, 0, 0, 0, 0), none, some (.if_icmp .gt 7, 3, 16, 0, 0, 0), none, none, some (.iconst 1, 1, 0, 0, 0, 0), some (.goto 4, 3, 17, 0, 0, 0), none, none],
  [some (.iconst 0, 1, 0, 0, 0, 0), some (.ireturn, 1, 0, 0, 0, 0), none, none, none, none, none, none, none, none, none, none, none, none, none, none]]
def xc_X10_isMark : List (List (Option xr_R)) := [[some (.iload_n 0, 1, 0, 0, 0, 0), some (.bipush 59, 2, 0, 0, 0, 0), none, some (.if_icmp .eq 39, 3, 42, 0, 0, 0), none, none, some (.iload_n 0, 1, 0, 0, 0, 0), some (.bipush 58, 2, 0, 0, 0, 0), none, some (.if_icmp .eq 33, 3, 42, 0, 0, 0), none, none, some (.iload_n 0, 1, 0, 0, 0, 0), some (.bipush 42, 2, 0, 0, 0, 0), none, some (.if_icmp .eq 27, 3, 42, 0, 0, 0)],
  [none, none, some (.iload_n 0, 1, 0, 0, 0, 0), some (.bipush 40, 2, 0, 0, 0, 0), none, some (.if_icmp .eq 21, 3, 42, 0, 0, 0), none, none, some (.iload_n 0, 1, 0, 0, 0, 0), some (.bipush 41, 2, 0, 0, 0, 0), none, some (.if_icmp .eq 15, 3, 42, 0, 0, 0), none, none, some (.iload_n 0, 1, 0, 0, 0, 0), some (.bipush 91, 2, 0, 0, 0, 0)],
  [none, some (.if_icmp .eq 9, 3, 42, 0, 0, 0), none, none, some (.iload_n 0, 1, 0, 0, 0, 0), some (.bipush 93, 2, 0, 0, 0, 0), none, some (.if_icmp .ne 7, 3, 46, 0, 0, 0), none, none, some (.iconst 1, 1, 0, 0, 0, 0), some (.goto 4, 3, 47, 0, 0, 0), none, none, some (.iconst 0, 1, 0, 0, 0, 0), some (.ireturn, 1, 0, 0, 0, 0)]]
def xc_X10_go : List (List (Option xr_R)) := [[some (.aload_n 0, 1, 0, 0, 0, 0), some (.getfield 142, 3, 10, 7, 5, 93), none, none, some (.aload_n 0, 1, 0, 0, 0, 0), some (.getfield 139, 3, 10, 6, 5, 92), none, none, some (.if_icmp .ge 44, 3, 52, 0, 0, 0), none, none, some (.aload_n 0, 1, 0, 0, 0, 0), some (.getfield 7, 3, 10, 1, 5, 87), none, none, some (.aload_n 0, 1, 0, 0, 0, 0)],
  [some (.getfield 142, 3, 10, 7, 5, 93), none, none, some (.iaload, 1, 0, 0, 0, 0), some (.bipush 32, 2, 0, 0, 0, 0), none, some (.if_icmp .eq 17, 3, 39, 0, 0, 0), none, none, some (.aload_n 0, 1, 0, 0, 0, 0), some (.getfield 7, 3, 10, 1, 5, 87), none, none, some (.aload_n 0, 1, 0, 0, 0, 0), some (.getfield 142, 3, 10, 7, 5, 93), none],
  [none, some (.iaload, 1, 0, 0, 0, 0), some (.bipush 10, 2, 0, 0, 0, 0), none, some (.if_icmp .ne 16, 3, 52, 0, 0, 0), none, none, some (.aload_n 0, 1, 0, 0, 0, 0), some (.dup, 1, 0, 0, 0, 0), some (.getfield 142, 3, 10, 7, 5, 93), none, none, some (.iconst 1, 1, 0, 0, 0, 0), some (.iadd, 1, 0, 0, 0, 0), some (.putfield 142, 3, 10, 7, 5, 93), none],
  [none, some (.goto (-49), 3, 0, 0, 0, 0), none, none, some (.aload_n 0, 1, 0, 0, 0, 0), some (.aload_n 0, 1, 0, 0, 0, 0), some (.getfield 142, 3, 10, 7, 5, 93), none, none, some (.putfield 145, 3, 10, 8, 5, 94), none, none, some (.aload_n 0, 1, 0, 0, 0, 0), some (.getfield 139, 3, 10, 6, 5, 92), none, none],
  [some (.sipush 600, 3, 0, 0, 0, 0), none, none, some (.if_icmp .le 26, 3, 93, 0, 0, 0), none, none, some (.aload_n 0, 1, 0, 0, 0, 0), some (.getfield 145, 3, 10, 8, 5, 94), none, none, some (.sipush 600, 3, 0, 0, 0, 0), none, none, some (.if_icmp .lt 16, 3, 93, 0, 0, 0), none, none],
  [some (.aload_n 0, 1, 0, 0, 0, 0), some (.sipush 600, 3, 0, 0, 0, 0), none, none, some (.putfield 145, 3, 10, 8, 5, 94), none, none, some (.aload_n 0, 1, 0, 0, 0, 0), some (.iconst 1, 1, 0, 0, 0, 0), some (.putfield 148, 3, 10, 9, 5, 95), none, none, some (.return_, 1, 0, 0, 0, 0), some (.aload_n 0, 1, 0, 0, 0, 0), some (.getfield 142, 3, 10, 7, 5, 93), none],
  [none, some (.aload_n 0, 1, 0, 0, 0, 0), some (.getfield 139, 3, 10, 6, 5, 92), none, none, some (.if_icmp .lt 9, 3, 110, 0, 0, 0), none, none, some (.aload_n 0, 1, 0, 0, 0, 0), some (.iconst 0, 1, 0, 0, 0, 0), some (.putfield 148, 3, 10, 9, 5, 95), none, none, some (.return_, 1, 0, 0, 0, 0), some (.aload_n 0, 1, 0, 0, 0, 0), some (.getfield 7, 3, 10, 1, 5, 87)],
  [none, none, some (.aload_n 0, 1, 0, 0, 0, 0), some (.getfield 142, 3, 10, 7, 5, 93), none, none, some (.iaload, 1, 0, 0, 0, 0), some (.istore_n 1, 1, 0, 0, 0, 0), some (.iload_n 1, 1, 0, 0, 0, 0), some (.invokestatic 151, 3, 157, 0, 6, 74), none, none, some (.ifCond .ne 42, 3, 166, 0, 0, 0), none, none, some (.iload_n 1, 1, 0, 0, 0, 0)],
  [some (.invokestatic 155, 3, 156, 0, 6, 77), none, none, some (.ifCond .ne 35, 3, 166, 0, 0, 0), none, none, some (.aload_n 0, 1, 0, 0, 0, 0), some (.iload_n 1, 1, 0, 0, 0, 0), some (.invokestatic 158, 3, 158, 0, 6, 80), none, none, some (.ifCond .eq 7, 3, 146, 0, 0, 0), none, none, some (.iconst 4, 1, 0, 0, 0, 0), some (.goto 4, 3, 147, 0, 0, 0)],
  [none, none, some (.iconst 1, 1, 0, 0, 0, 0), some (.putfield 148, 3, 10, 9, 5, 95), none, none, some (.aload_n 0, 1, 0, 0, 0, 0), some (.iload_n 1, 1, 0, 0, 0, 0), some (.putfield 161, 3, 10, 11, 5, 97), none, none, some (.aload_n 0, 1, 0, 0, 0, 0), some (.dup, 1, 0, 0, 0, 0), some (.getfield 142, 3, 10, 7, 5, 93), none, none],
  [some (.iconst 1, 1, 0, 0, 0, 0), some (.iadd, 1, 0, 0, 0, 0), some (.putfield 142, 3, 10, 7, 5, 93), none, none, some (.return_, 1, 0, 0, 0, 0), some (.iload_n 1, 1, 0, 0, 0, 0), some (.invokestatic 151, 3, 157, 0, 6, 74), none, none, some (.istore_n 2, 1, 0, 0, 0, 0), some (.iconst 1, 1, 0, 0, 0, 0), some (.istore_n 3, 1, 0, 0, 0, 0), some (.aload_n 0, 1, 0, 0, 0, 0), some (.lconst 0, 1, 0, 0, 0, 0), some (.putfield 164, 3, 10, 15, 5, 101)],
  [none, none, some (.aload_n 0, 1, 0, 0, 0, 0), some (.iconst 0, 1, 0, 0, 0, 0), some (.putfield 168, 3, 10, 10, 5, 96), none, none, some (.aload_n 0, 1, 0, 0, 0, 0), some (.aload_n 0, 1, 0, 0, 0, 0), some (.getfield 142, 3, 10, 7, 5, 93), none, none, some (.invokevirtual 171, 3, 155, 0, 6, 83), none, none, some (.invokestatic 151, 3, 157, 0, 6, 74)],
  [none, none, some (.ifCond .ne 17, 3, 211, 0, 0, 0), none, none, some (.aload_n 0, 1, 0, 0, 0, 0), some (.aload_n 0, 1, 0, 0, 0, 0), some (.getfield 142, 3, 10, 7, 5, 93), none, none, some (.invokevirtual 171, 3, 155, 0, 6, 83), none, none, some (.invokestatic 155, 3, 156, 0, 6, 77), none, none],
  [some (.ifCond .eq 110, 3, 318, 0, 0, 0), none, none, some (.aload_n 0, 1, 0, 0, 0, 0), some (.getfield 7, 3, 10, 1, 5, 87), none, none, some (.aload_n 0, 1, 0, 0, 0, 0), some (.getfield 142, 3, 10, 7, 5, 93), none, none, some (.iaload, 1, 0, 0, 0, 0), some (.istore 4, 2, 0, 0, 0, 0), none, some (.iload_n 3, 1, 0, 0, 0, 0), some (.ifCond .eq 16, 3, 239, 0, 0, 0)],
  [none, none, some (.iload 4, 2, 0, 0, 0, 0), none, some (.invokestatic 151, 3, 157, 0, 6, 74), none, none, some (.iload_n 2, 1, 0, 0, 0, 0), some (.if_icmp .ne 7, 3, 239, 0, 0, 0), none, none, some (.iconst 1, 1, 0, 0, 0, 0), some (.goto 4, 3, 240, 0, 0, 0), none, none, some (.iconst 0, 1, 0, 0, 0, 0)],
  [some (.istore_n 3, 1, 0, 0, 0, 0), some (.aload_n 0, 1, 0, 0, 0, 0), some (.getfield 142, 3, 10, 7, 5, 93), none, none, some (.aload_n 0, 1, 0, 0, 0, 0), some (.getfield 145, 3, 10, 8, 5, 94), none, none, some (.isub, 1, 0, 0, 0, 0), some (.bipush 8, 2, 0, 0, 0, 0), none, some (.if_icmp .ge 23, 3, 275, 0, 0, 0), none, none, some (.aload_n 0, 1, 0, 0, 0, 0)],
  [some (.ldc2_w 175, 3, 27, 0, 6, 87), none, none, some (.aload_n 0, 1, 0, 0, 0, 0), some (.getfield 164, 3, 10, 15, 5, 101), none, none, some (.lmul, 1, 0, 0, 0, 0), some (.iload 4, 2, 0, 0, 0, 0), none, some (.i2l, 1, 0, 0, 0, 0), some (.ladd, 1, 0, 0, 0, 0), some (.ldc2_w 177, 3, 96, 0, 6, 88), none, none, some (.lsub, 1, 0, 0, 0, 0)],
  [some (.putfield 164, 3, 10, 15, 5, 101), none, none, some (.aload_n 0, 1, 0, 0, 0, 0), some (.getfield 142, 3, 10, 7, 5, 93), none, none, some (.aload_n 0, 1, 0, 0, 0, 0), some (.getfield 145, 3, 10, 8, 5, 94), none, none, some (.isub, 1, 0, 0, 0, 0), some (.iconst 3, 1, 0, 0, 0, 0), some (.if_icmp .ge 20, 3, 305, 0, 0, 0), none, none],
  [some (.aload_n 0, 1, 0, 0, 0, 0), some (.bipush 10, 2, 0, 0, 0, 0), none, some (.aload_n 0, 1, 0, 0, 0, 0), some (.getfield 168, 3, 10, 10, 5, 96), none, none, some (.imul, 1, 0, 0, 0, 0), some (.iload 4, 2, 0, 0, 0, 0), none, some (.iadd, 1, 0, 0, 0, 0), some (.bipush 48, 2, 0, 0, 0, 0), none, some (.isub, 1, 0, 0, 0, 0), some (.putfield 168, 3, 10, 10, 5, 96), none],
  [none, some (.aload_n 0, 1, 0, 0, 0, 0), some (.dup, 1, 0, 0, 0, 0), some (.getfield 142, 3, 10, 7, 5, 93), none, none, some (.iconst 1, 1, 0, 0, 0, 0), some (.iadd, 1, 0, 0, 0, 0), some (.putfield 142, 3, 10, 7, 5, 93), none, none, some (.goto (-132), 3, 183, 0, 0, 0), none, none, some (.aload_n 0, 1, 0, 0, 0, 0), some (.aload_n 0, 1, 0, 0, 0, 0)],
  [some (.getfield 142, 3, 10, 7, 5, 93), none, none, some (.aload_n 0, 1, 0, 0, 0, 0), some (.getfield 145, 3, 10, 8, 5, 94), none, none, some (.isub, 1, 0, 0, 0, 0), some (.putfield 179, 3, 10, 12, 5, 98), none, none, some (.aload_n 0, 1, 0, 0, 0, 0), some (.iload_n 3, 1, 0, 0, 0, 0), some (.ifCond .eq 20, 3, 353, 0, 0, 0), none, none],
  [some (.aload_n 0, 1, 0, 0, 0, 0), some (.getfield 179, 3, 10, 12, 5, 98), none, none, some (.iload_n 2, 1, 0, 0, 0, 0), some (.ifCond .eq 8, 3, 349, 0, 0, 0), none, none, some (.bipush 8, 2, 0, 0, 0, 0), none, some (.goto 4, 3, 350, 0, 0, 0), none, none, some (.iconst 3, 1, 0, 0, 0, 0), some (.if_icmp .le 7, 3, 357, 0, 0, 0), none],
  [none, some (.iconst 1, 1, 0, 0, 0, 0), some (.goto 12, 3, 366, 0, 0, 0), none, none, some (.iload_n 2, 1, 0, 0, 0, 0), some (.ifCond .eq 7, 3, 365, 0, 0, 0), none, none, some (.iconst 2, 1, 0, 0, 0, 0), some (.goto 4, 3, 366, 0, 0, 0), none, none, some (.iconst 3, 1, 0, 0, 0, 0), some (.putfield 148, 3, 10, 9, 5, 95), none],
  [none, some (.return_, 1, 0, 0, 0, 0), none, none, none, none, none, none, none, none, none, none, none, none, none, none]]
def xc_X10_spelt : List (List (Option xr_R)) := [[some (.ldc2_w 175, 3, 27, 0, 6, 87), none, none, some (.iload_n 0, 1, 0, 0, 0, 0), some (.i2l, 1, 0, 0, 0, 0), some (.ldc2_w 177, 3, 96, 0, 6, 88), none, none, some (.lsub, 1, 0, 0, 0, 0), some (.lmul, 1, 0, 0, 0, 0), some (.iload_n 1, 1, 0, 0, 0, 0), some (.i2l, 1, 0, 0, 0, 0), some (.ladd, 1, 0, 0, 0, 0), some (.ldc2_w 177, 3, 96, 0, 6, 88), none, none],
  [some (.lsub, 1, 0, 0, 0, 0), some (.lstore 5, 2, 0, 0, 0, 0), none, some (.iload_n 2, 1, 0, 0, 0, 0), some (.ifCond .le 18, 3, 38, 0, 0, 0), none, none, some (.ldc2_w 175, 3, 27, 0, 6, 87), none, none, some (.lload 5, 2, 0, 0, 0, 0), none, some (.lmul, 1, 0, 0, 0, 0), some (.iload_n 2, 1, 0, 0, 0, 0), some (.i2l, 1, 0, 0, 0, 0), some (.ladd, 1, 0, 0, 0, 0)],
  [some (.ldc2_w 177, 3, 96, 0, 6, 88), none, none, some (.lsub, 1, 0, 0, 0, 0), some (.lstore 5, 2, 0, 0, 0, 0), none, some (.iload_n 3, 1, 0, 0, 0, 0), some (.ifCond .le 18, 3, 57, 0, 0, 0), none, none, some (.ldc2_w 175, 3, 27, 0, 6, 87), none, none, some (.lload 5, 2, 0, 0, 0, 0), none, some (.lmul, 1, 0, 0, 0, 0)],
  [some (.iload_n 3, 1, 0, 0, 0, 0), some (.i2l, 1, 0, 0, 0, 0), some (.ladd, 1, 0, 0, 0, 0), some (.ldc2_w 177, 3, 96, 0, 6, 88), none, none, some (.lsub, 1, 0, 0, 0, 0), some (.lstore 5, 2, 0, 0, 0, 0), none, some (.iload 4, 2, 0, 0, 0, 0), none, some (.ifCond .le 20, 3, 79, 0, 0, 0), none, none, some (.ldc2_w 175, 3, 27, 0, 6, 87), none],
  [none, some (.lload 5, 2, 0, 0, 0, 0), none, some (.lmul, 1, 0, 0, 0, 0), some (.iload 4, 2, 0, 0, 0, 0), none, some (.i2l, 1, 0, 0, 0, 0), some (.ladd, 1, 0, 0, 0, 0), some (.ldc2_w 177, 3, 96, 0, 6, 88), none, none, some (.lsub, 1, 0, 0, 0, 0), some (.goto 5, 3, 81, 0, 0, 0), none, none, some (.lload 5, 2, 0, 0, 0, 0)],
  [none, some (.lreturn, 1, 0, 0, 0, 0), none, none, none, none, none, none, none, none, none, none, none, none, none, none]]
def xc_X10_isKey : List (List (Option xr_R)) := [[some (.aload_n 0, 1, 0, 0, 0, 0), some (.getfield 148, 3, 10, 9, 5, 95), none, none, some (.iconst 2, 1, 0, 0, 0, 0), some (.if_icmp .ne 16, 3, 21, 0, 0, 0), none, none, some (.aload_n 0, 1, 0, 0, 0, 0), some (.getfield 164, 3, 10, 15, 5, 101), none, none, some (.lload_n 1, 1, 0, 0, 0, 0), some (.lcmp, 1, 0, 0, 0, 0), some (.ifCond .ne 7, 3, 21, 0, 0, 0), none],
  [none, some (.iconst 1, 1, 0, 0, 0, 0), some (.goto 4, 3, 22, 0, 0, 0), none, none, some (.iconst 0, 1, 0, 0, 0, 0), some (.ireturn, 1, 0, 0, 0, 0), none, none, none, none, none, none, none, none, none]]
def xc_X10_isBody : List (List (Option xr_R)) := [[some (.aload_n 0, 1, 0, 0, 0, 0), some (.bipush 98, 2, 0, 0, 0, 0), none, some (.bipush 111, 2, 0, 0, 0, 0), none, some (.bipush 100, 2, 0, 0, 0, 0), none, some (.bipush 121, 2, 0, 0, 0, 0), none, some (.iconst 0, 1, 0, 0, 0, 0), some (.invokestatic 182, 3, 160, 0, 6, 93), none, none, some (.invokevirtual 186, 3, 161, 0, 6, 96), none, none],
  [some (.ireturn, 1, 0, 0, 0, 0), none, none, none, none, none, none, none, none, none, none, none, none, none, none, none]]
def xc_X10_isCarry : List (List (Option xr_R)) := [[some (.aload_n 0, 1, 0, 0, 0, 0), some (.bipush 99, 2, 0, 0, 0, 0), none, some (.bipush 97, 2, 0, 0, 0, 0), none, some (.bipush 114, 2, 0, 0, 0, 0), none, some (.bipush 114, 2, 0, 0, 0, 0), none, some (.bipush 121, 2, 0, 0, 0, 0), none, some (.invokestatic 182, 3, 160, 0, 6, 93), none, none, some (.invokevirtual 186, 3, 161, 0, 6, 96), none],
  [none, some (.ireturn, 1, 0, 0, 0, 0), none, none, none, none, none, none, none, none, none, none, none, none, none, none]]
def xc_X10_isAnd : List (List (Option xr_R)) := [[some (.aload_n 0, 1, 0, 0, 0, 0), some (.bipush 97, 2, 0, 0, 0, 0), none, some (.bipush 110, 2, 0, 0, 0, 0), none, some (.bipush 100, 2, 0, 0, 0, 0), none, some (.iconst 0, 1, 0, 0, 0, 0), some (.iconst 0, 1, 0, 0, 0, 0), some (.invokestatic 182, 3, 160, 0, 6, 93), none, none, some (.invokevirtual 186, 3, 161, 0, 6, 96), none, none, some (.ireturn, 1, 0, 0, 0, 0)]]
def xc_X10_isOr : List (List (Option xr_R)) := [[some (.aload_n 0, 1, 0, 0, 0, 0), some (.bipush 111, 2, 0, 0, 0, 0), none, some (.bipush 114, 2, 0, 0, 0, 0), none, some (.iconst 0, 1, 0, 0, 0, 0), some (.iconst 0, 1, 0, 0, 0, 0), some (.iconst 0, 1, 0, 0, 0, 0), some (.invokestatic 182, 3, 160, 0, 6, 93), none, none, some (.invokevirtual 186, 3, 161, 0, 6, 96), none, none, some (.ireturn, 1, 0, 0, 0, 0), none]]
def xc_X10_isOf : List (List (Option xr_R)) := [[some (.aload_n 0, 1, 0, 0, 0, 0), some (.bipush 111, 2, 0, 0, 0, 0), none, some (.bipush 102, 2, 0, 0, 0, 0), none, some (.iconst 0, 1, 0, 0, 0, 0), some (.iconst 0, 1, 0, 0, 0, 0), some (.iconst 0, 1, 0, 0, 0, 0), some (.invokestatic 182, 3, 160, 0, 6, 93), none, none, some (.invokevirtual 186, 3, 161, 0, 6, 96), none, none, some (.ireturn, 1, 0, 0, 0, 0), none]]
def xc_X10_isName : List (List (Option xr_R)) := [[some (.aload_n 0, 1, 0, 0, 0, 0), some (.getfield 148, 3, 10, 9, 5, 95), none, none, some (.iconst 2, 1, 0, 0, 0, 0), some (.if_icmp .ne 50, 3, 55, 0, 0, 0), none, none, some (.aload_n 0, 1, 0, 0, 0, 0), some (.getfield 179, 3, 10, 12, 5, 98), none, none, some (.iconst 1, 1, 0, 0, 0, 0), some (.if_icmp .le 42, 3, 55, 0, 0, 0), none, none],
  [some (.aload_n 0, 1, 0, 0, 0, 0), some (.invokevirtual 190, 3, 162, 0, 6, 89), none, none, some (.ifCond .ne 35, 3, 55, 0, 0, 0), none, none, some (.aload_n 0, 1, 0, 0, 0, 0), some (.invokevirtual 194, 3, 163, 0, 6, 108), none, none, some (.ifCond .ne 28, 3, 55, 0, 0, 0), none, none, some (.aload_n 0, 1, 0, 0, 0, 0), some (.invokevirtual 197, 3, 164, 0, 6, 112)],
  [none, none, some (.ifCond .ne 21, 3, 55, 0, 0, 0), none, none, some (.aload_n 0, 1, 0, 0, 0, 0), some (.invokevirtual 200, 3, 165, 0, 6, 116), none, none, some (.ifCond .ne 14, 3, 55, 0, 0, 0), none, none, some (.aload_n 0, 1, 0, 0, 0, 0), some (.invokevirtual 203, 3, 166, 0, 6, 120), none, none],
  [some (.ifCond .ne 7, 3, 55, 0, 0, 0), none, none, some (.iconst 1, 1, 0, 0, 0, 0), some (.goto 4, 3, 56, 0, 0, 0), none, none, some (.iconst 0, 1, 0, 0, 0, 0), some (.ireturn, 1, 0, 0, 0, 0), none, none, none, none, none, none, none]]
def xc_X10_isSign : List (List (Option xr_R)) := [[some (.aload_n 0, 1, 0, 0, 0, 0), some (.getfield 148, 3, 10, 9, 5, 95), none, none, some (.iconst 4, 1, 0, 0, 0, 0), some (.if_icmp .ne 15, 3, 20, 0, 0, 0), none, none, some (.aload_n 0, 1, 0, 0, 0, 0), some (.getfield 161, 3, 10, 11, 5, 97), none, none, some (.iload_n 1, 1, 0, 0, 0, 0), some (.if_icmp .ne 7, 3, 20, 0, 0, 0), none, none],
  [some (.iconst 1, 1, 0, 0, 0, 0), some (.goto 4, 3, 21, 0, 0, 0), none, none, some (.iconst 0, 1, 0, 0, 0, 0), some (.ireturn, 1, 0, 0, 0, 0), none, none, none, none, none, none, none, none, none, none]]
def xc_X10_bad : List (List (Option xr_R)) := [[some (.aload_n 0, 1, 0, 0, 0, 0), some (.aload_n 0, 1, 0, 0, 0, 0), some (.getfield 148, 3, 10, 9, 5, 95), none, none, some (.iconst 1, 1, 0, 0, 0, 0), some (.if_icmp .ne 7, 3, 13, 0, 0, 0), none, none, some (.iconst 1, 1, 0, 0, 0, 0), some (.goto 4, 3, 14, 0, 0, 0), none, none, some (.iload_n 1, 1, 0, 0, 0, 0), some (.putfield 206, 3, 10, 13, 5, 99), none],
  [none, some (.aload_n 0, 1, 0, 0, 0, 0), some (.aload_n 0, 1, 0, 0, 0, 0), some (.getfield 145, 3, 10, 8, 5, 94), none, none, some (.putfield 209, 3, 10, 14, 5, 100), none, none, some (.iconst 0, 1, 0, 0, 0, 0), some (.ireturn, 1, 0, 0, 0, 0), none, none, none, none, none]]
def xc_X10_badAt : List (List (Option xr_R)) := [[some (.aload_n 0, 1, 0, 0, 0, 0), some (.iload_n 1, 1, 0, 0, 0, 0), some (.putfield 206, 3, 10, 13, 5, 99), none, none, some (.aload_n 0, 1, 0, 0, 0, 0), some (.iload_n 2, 1, 0, 0, 0, 0), some (.putfield 209, 3, 10, 14, 5, 100), none, none, some (.iconst 0, 1, 0, 0, 0, 0), some (.ireturn, 1, 0, 0, 0, 0), none, none, none, none]]
def xc_X10_openRule : List (List (Option xr_R)) := [[some (.aload_n 0, 1, 0, 0, 0, 0), some (.getfield 39, 3, 10, 22, 5, 108), none, none, some (.aload_n 0, 1, 0, 0, 0, 0), some (.getfield 212, 3, 10, 28, 5, 114), none, none, some (.iload_n 1, 1, 0, 0, 0, 0), some (.iastore, 1, 0, 0, 0, 0), some (.iconst 0, 1, 0, 0, 0, 0), some (.istore_n 2, 1, 0, 0, 0, 0), some (.iload_n 2, 1, 0, 0, 0, 0), some (.sipush 4096, 3, 0, 0, 0, 0), none, none],
  [some (.if_icmp .ge 41, 3, 57, 0, 0, 0), none, none, some (.aload_n 0, 1, 0, 0, 0, 0), some (.getfield 18, 3, 10, 16, 5, 102), none, none, some (.sipush 4096, 3, 0, 0, 0, 0), none, none, some (.aload_n 0, 1, 0, 0, 0, 0), some (.getfield 212, 3, 10, 28, 5, 114), none, none, some (.imul, 1, 0, 0, 0, 0), some (.iload_n 2, 1, 0, 0, 0, 0)],
  [some (.iadd, 1, 0, 0, 0, 0), some (.iconst 0, 1, 0, 0, 0, 0), some (.bastore, 1, 0, 0, 0, 0), some (.aload_n 0, 1, 0, 0, 0, 0), some (.getfield 22, 3, 10, 17, 5, 103), none, none, some (.sipush 4096, 3, 0, 0, 0, 0), none, none, some (.aload_n 0, 1, 0, 0, 0, 0), some (.getfield 212, 3, 10, 28, 5, 114), none, none, some (.imul, 1, 0, 0, 0, 0), some (.iload_n 2, 1, 0, 0, 0, 0)],
  [some (.iadd, 1, 0, 0, 0, 0), some (.iconst 1, 1, 0, 0, 0, 0), some (.bastore, 1, 0, 0, 0, 0), some (.iinc 2 1, 3, 0, 0, 0, 0), none, none, some (.goto (-42), 3, 12, 0, 0, 0), none, none, some (.aload_n 0, 1, 0, 0, 0, 0), some (.iconst 1, 1, 0, 0, 0, 0), some (.putfield 215, 3, 10, 29, 5, 115), none, none, some (.aload_n 0, 1, 0, 0, 0, 0), some (.invokevirtual 218, 3, 159, 0, 6, 70)],
  [none, none, some (.return_, 1, 0, 0, 0, 0), none, none, none, none, none, none, none, none, none, none, none, none, none]]
def xc_X10_openList : List (List (Option xr_R)) := [[some (.aload_n 0, 1, 0, 0, 0, 0), some (.getfield 39, 3, 10, 22, 5, 108), none, none, some (.aload_n 0, 1, 0, 0, 0, 0), some (.getfield 212, 3, 10, 28, 5, 114), none, none, some (.iconst 2, 1, 0, 0, 0, 0), some (.iastore, 1, 0, 0, 0, 0), some (.aload_n 0, 1, 0, 0, 0, 0), some (.getfield 45, 3, 10, 24, 5, 110), none, none, some (.aload_n 0, 1, 0, 0, 0, 0), some (.getfield 212, 3, 10, 28, 5, 114)],
  [none, none, some (.iload_n 1, 1, 0, 0, 0, 0), some (.iastore, 1, 0, 0, 0, 0), some (.aload_n 0, 1, 0, 0, 0, 0), some (.getfield 42, 3, 10, 23, 5, 109), none, none, some (.aload_n 0, 1, 0, 0, 0, 0), some (.getfield 212, 3, 10, 28, 5, 114), none, none, some (.iconst 1, 1, 0, 0, 0, 0), some (.iastore, 1, 0, 0, 0, 0), some (.iconst 0, 1, 0, 0, 0, 0), some (.istore_n 2, 1, 0, 0, 0, 0)],
  [some (.iload_n 2, 1, 0, 0, 0, 0), some (.sipush 4096, 3, 0, 0, 0, 0), none, none, some (.if_icmp .ge 25, 3, 61, 0, 0, 0), none, none, some (.aload_n 0, 1, 0, 0, 0, 0), some (.getfield 36, 3, 10, 21, 5, 107), none, none, some (.sipush 4096, 3, 0, 0, 0, 0), none, none, some (.aload_n 0, 1, 0, 0, 0, 0), some (.getfield 212, 3, 10, 28, 5, 114)],
  [none, none, some (.imul, 1, 0, 0, 0, 0), some (.iload_n 2, 1, 0, 0, 0, 0), some (.iadd, 1, 0, 0, 0, 0), some (.iconst 0, 1, 0, 0, 0, 0), some (.iastore, 1, 0, 0, 0, 0), some (.iinc 2 1, 3, 0, 0, 0, 0), none, none, some (.goto (-26), 3, 32, 0, 0, 0), none, none, some (.aload_n 0, 1, 0, 0, 0, 0), some (.iconst 1, 1, 0, 0, 0, 0), some (.putfield 215, 3, 10, 29, 5, 115)],
  [none, none, some (.aload_n 0, 1, 0, 0, 0, 0), some (.invokevirtual 218, 3, 159, 0, 6, 70), none, none, some (.return_, 1, 0, 0, 0, 0), none, none, none, none, none, none, none, none, none]]
def xc_X10_begin : List (List (Option xr_R)) := [[some (.aload_n 0, 1, 0, 0, 0, 0), some (.getfield 39, 3, 10, 22, 5, 108), none, none, some (.aload_n 0, 1, 0, 0, 0, 0), some (.getfield 212, 3, 10, 28, 5, 114), none, none, some (.iaload, 1, 0, 0, 0, 0), some (.iconst 2, 1, 0, 0, 0, 0), some (.if_icmp .ne 16, 3, 26, 0, 0, 0), none, none, some (.aload_n 0, 1, 0, 0, 0, 0), some (.getfield 148, 3, 10, 9, 5, 95), none],
  [none, some (.iconst 3, 1, 0, 0, 0, 0), some (.if_icmp .ne 8, 3, 26, 0, 0, 0), none, none, some (.aload_n 0, 1, 0, 0, 0, 0), some (.invokevirtual 221, 3, 174, 0, 6, 148), none, none, some (.ireturn, 1, 0, 0, 0, 0), some (.aload_n 0, 1, 0, 0, 0, 0), some (.invokevirtual 224, 3, 177, 0, 6, 152), none, none, some (.ireturn, 1, 0, 0, 0, 0), none]]
def xc_X10_beginItem : List (List (Option xr_R)) := [[some (.aload_n 0, 1, 0, 0, 0, 0), some (.getfield 168, 3, 10, 10, 5, 96), none, none, some (.istore_n 1, 1, 0, 0, 0, 0), some (.aload_n 0, 1, 0, 0, 0, 0), some (.getfield 145, 3, 10, 8, 5, 94), none, none, some (.istore_n 2, 1, 0, 0, 0, 0), some (.aload_n 0, 1, 0, 0, 0, 0), some (.invokevirtual 218, 3, 159, 0, 6, 70), none, none, some (.aload_n 0, 1, 0, 0, 0, 0), some (.bipush 42, 2, 0, 0, 0, 0)],
  [none, some (.invokevirtual 227, 3, 168, 0, 6, 132), none, none, some (.ifCond .eq 22, 3, 42, 0, 0, 0), none, none, some (.aload_n 0, 1, 0, 0, 0, 0), some (.getfield 42, 3, 10, 23, 5, 109), none, none, some (.aload_n 0, 1, 0, 0, 0, 0), some (.getfield 212, 3, 10, 28, 5, 114), none, none, some (.iload_n 1, 1, 0, 0, 0, 0)],
  [some (.iastore, 1, 0, 0, 0, 0), some (.aload_n 0, 1, 0, 0, 0, 0), some (.invokevirtual 218, 3, 159, 0, 6, 70), none, none, some (.aload_n 0, 1, 0, 0, 0, 0), some (.invokevirtual 224, 3, 177, 0, 6, 152), none, none, some (.ireturn, 1, 0, 0, 0, 0), some (.aload_n 0, 1, 0, 0, 0, 0), some (.getfield 42, 3, 10, 23, 5, 109), none, none, some (.aload_n 0, 1, 0, 0, 0, 0), some (.getfield 212, 3, 10, 28, 5, 114)],
  [none, none, some (.iconst 1, 1, 0, 0, 0, 0), some (.iastore, 1, 0, 0, 0, 0), some (.aload_n 0, 1, 0, 0, 0, 0), some (.invokevirtual 203, 3, 166, 0, 6, 120), none, none, some (.ifCond .ne 9, 3, 65, 0, 0, 0), none, none, some (.aload_n 0, 1, 0, 0, 0, 0), some (.iconst 1, 1, 0, 0, 0, 0), some (.invokevirtual 230, 3, 169, 0, 6, 124), none, none],
  [some (.ireturn, 1, 0, 0, 0, 0), some (.iload_n 1, 1, 0, 0, 0, 0), some (.ifCond .ne 10, 3, 76, 0, 0, 0), none, none, some (.aload_n 0, 1, 0, 0, 0, 0), some (.iconst 2, 1, 0, 0, 0, 0), some (.iload_n 2, 1, 0, 0, 0, 0), some (.invokevirtual 233, 3, 170, 0, 6, 168), none, none, some (.ireturn, 1, 0, 0, 0, 0), some (.aload_n 0, 1, 0, 0, 0, 0), some (.getfield 237, 3, 10, 27, 5, 113), none, none],
  [some (.bipush 120, 2, 0, 0, 0, 0), none, some (.if_icmp .ne 10, 3, 92, 0, 0, 0), none, none, some (.aload_n 0, 1, 0, 0, 0, 0), some (.iconst 4, 1, 0, 0, 0, 0), some (.iload_n 2, 1, 0, 0, 0, 0), some (.invokevirtual 233, 3, 170, 0, 6, 168), none, none, some (.ireturn, 1, 0, 0, 0, 0), some (.aload_n 0, 1, 0, 0, 0, 0), some (.dup, 1, 0, 0, 0, 0), some (.getfield 237, 3, 10, 27, 5, 113), none],
  [none, some (.iconst 1, 1, 0, 0, 0, 0), some (.iadd, 1, 0, 0, 0, 0), some (.putfield 237, 3, 10, 27, 5, 113), none, none, some (.aload_n 0, 1, 0, 0, 0, 0), some (.iload_n 1, 1, 0, 0, 0, 0), some (.invokevirtual 240, 3, 175, 0, 6, 160), none, none, some (.ireturn, 1, 0, 0, 0, 0), none, none, none, none]]
def xc_X10_beginList : List (List (Option xr_R)) := [[some (.aload_n 0, 1, 0, 0, 0, 0), some (.invokevirtual 203, 3, 166, 0, 6, 120), none, none, some (.ifCond .ne 9, 3, 13, 0, 0, 0), none, none, some (.aload_n 0, 1, 0, 0, 0, 0), some (.iconst 1, 1, 0, 0, 0, 0), some (.invokevirtual 230, 3, 169, 0, 6, 124), none, none, some (.ireturn, 1, 0, 0, 0, 0), some (.aload_n 0, 1, 0, 0, 0, 0), some (.invokevirtual 218, 3, 159, 0, 6, 70), none],
  [none, some (.aload_n 0, 1, 0, 0, 0, 0), some (.bipush 91, 2, 0, 0, 0, 0), none, some (.invokevirtual 227, 3, 168, 0, 6, 132), none, none, some (.ifCond .ne 9, 3, 32, 0, 0, 0), none, none, some (.aload_n 0, 1, 0, 0, 0, 0), some (.iconst 1, 1, 0, 0, 0, 0), some (.invokevirtual 230, 3, 169, 0, 6, 124), none, none, some (.ireturn, 1, 0, 0, 0, 0)],
  [some (.aload_n 0, 1, 0, 0, 0, 0), some (.getfield 212, 3, 10, 28, 5, 114), none, none, some (.bipush 12, 2, 0, 0, 0, 0), none, some (.if_icmp .ne 9, 3, 47, 0, 0, 0), none, none, some (.aload_n 0, 1, 0, 0, 0, 0), some (.iconst 4, 1, 0, 0, 0, 0), some (.invokevirtual 230, 3, 169, 0, 6, 124), none, none, some (.ireturn, 1, 0, 0, 0, 0), some (.aload_n 0, 1, 0, 0, 0, 0)],
  [some (.dup, 1, 0, 0, 0, 0), some (.getfield 212, 3, 10, 28, 5, 114), none, none, some (.iconst 1, 1, 0, 0, 0, 0), some (.iadd, 1, 0, 0, 0, 0), some (.putfield 212, 3, 10, 28, 5, 114), none, none, some (.aload_n 0, 1, 0, 0, 0, 0), some (.iload_n 1, 1, 0, 0, 0, 0), some (.invokevirtual 243, 3, 172, 0, 6, 164), none, none, some (.iconst 1, 1, 0, 0, 0, 0), some (.ireturn, 1, 0, 0, 0, 0)]]
def xc_X10_nameAtHand : List (List (Option xr_R)) := [[some (.iconst 0, 1, 0, 0, 0, 0), some (.istore_n 1, 1, 0, 0, 0, 0), some (.iload_n 1, 1, 0, 0, 0, 0), some (.aload_n 0, 1, 0, 0, 0, 0), some (.getfield 246, 3, 10, 26, 5, 112), none, none, some (.if_icmp .ge 25, 3, 32, 0, 0, 0), none, none, some (.aload_n 0, 1, 0, 0, 0, 0), some (.getfield 48, 3, 10, 25, 5, 111), none, none, some (.iload_n 1, 1, 0, 0, 0, 0), some (.laload, 1, 0, 0, 0, 0)],
  [some (.aload_n 0, 1, 0, 0, 0, 0), some (.getfield 164, 3, 10, 15, 5, 101), none, none, some (.lcmp, 1, 0, 0, 0, 0), some (.ifCond .ne 5, 3, 26, 0, 0, 0), none, none, some (.iload_n 1, 1, 0, 0, 0, 0), some (.ireturn, 1, 0, 0, 0, 0), some (.iinc 1 1, 3, 0, 0, 0, 0), none, none, some (.goto (-27), 3, 2, 0, 0, 0), none, none],
  [some (.iconst (-1), 1, 0, 0, 0, 0), some (.ireturn, 1, 0, 0, 0, 0), none, none, none, none, none, none, none, none, none, none, none, none, none, none]]
def xc_X10_beginOne : List (List (Option xr_R)) := [[some (.aload_n 0, 1, 0, 0, 0, 0), some (.getfield 148, 3, 10, 9, 5, 95), none, none, some (.iconst 2, 1, 0, 0, 0, 0), some (.if_icmp .ne 15, 3, 20, 0, 0, 0), none, none, some (.aload_n 0, 1, 0, 0, 0, 0), some (.getfield 179, 3, 10, 12, 5, 98), none, none, some (.iconst 1, 1, 0, 0, 0, 0), some (.if_icmp .ne 7, 3, 20, 0, 0, 0), none, none],
  [some (.iconst 1, 1, 0, 0, 0, 0), some (.goto 4, 3, 21, 0, 0, 0), none, none, some (.iconst 0, 1, 0, 0, 0, 0), some (.istore_n 1, 1, 0, 0, 0, 0), some (.aload_n 0, 1, 0, 0, 0, 0), some (.getfield 148, 3, 10, 9, 5, 95), none, none, some (.iconst 3, 1, 0, 0, 0, 0), some (.if_icmp .eq 29, 3, 56, 0, 0, 0), none, none, some (.aload_n 0, 1, 0, 0, 0, 0), some (.bipush 40, 2, 0, 0, 0, 0)],
  [none, some (.invokevirtual 227, 3, 168, 0, 6, 132), none, none, some (.ifCond .ne 20, 3, 56, 0, 0, 0), none, none, some (.iload_n 1, 1, 0, 0, 0, 0), some (.ifCond .ne 16, 3, 56, 0, 0, 0), none, none, some (.aload_n 0, 1, 0, 0, 0, 0), some (.invokevirtual 249, 3, 167, 0, 6, 104), none, none, some (.ifCond .ne 9, 3, 56, 0, 0, 0)],
  [none, none, some (.aload_n 0, 1, 0, 0, 0, 0), some (.iconst 1, 1, 0, 0, 0, 0), some (.invokevirtual 230, 3, 169, 0, 6, 124), none, none, some (.ireturn, 1, 0, 0, 0, 0), some (.aload_n 0, 1, 0, 0, 0, 0), some (.getfield 148, 3, 10, 9, 5, 95), none, none, some (.iconst 3, 1, 0, 0, 0, 0), some (.if_icmp .ne 16, 3, 77, 0, 0, 0), none, none],
  [some (.aload_n 0, 1, 0, 0, 0, 0), some (.getfield 168, 3, 10, 10, 5, 96), none, none, some (.ifCond .ne 9, 3, 77, 0, 0, 0), none, none, some (.aload_n 0, 1, 0, 0, 0, 0), some (.iconst 2, 1, 0, 0, 0, 0), some (.invokevirtual 230, 3, 169, 0, 6, 124), none, none, some (.ireturn, 1, 0, 0, 0, 0), some (.iload_n 1, 1, 0, 0, 0, 0), some (.ifCond .eq 23, 3, 101, 0, 0, 0), none],
  [none, some (.aload_n 0, 1, 0, 0, 0, 0), some (.aload_n 0, 1, 0, 0, 0, 0), some (.getfield 164, 3, 10, 15, 5, 101), none, none, some (.l2i, 1, 0, 0, 0, 0), some (.iconst 1, 1, 0, 0, 0, 0), some (.isub, 1, 0, 0, 0, 0), some (.invokevirtual 252, 3, 152, 0, 6, 156), none, none, some (.ifCond .ne 9, 3, 101, 0, 0, 0), none, none, some (.aload_n 0, 1, 0, 0, 0, 0)],
  [some (.iconst 2, 1, 0, 0, 0, 0), some (.invokevirtual 230, 3, 169, 0, 6, 124), none, none, some (.ireturn, 1, 0, 0, 0, 0), some (.aload_n 0, 1, 0, 0, 0, 0), some (.invokevirtual 249, 3, 167, 0, 6, 104), none, none, some (.ifCond .eq 17, 3, 122, 0, 0, 0), none, none, some (.aload_n 0, 1, 0, 0, 0, 0), some (.invokevirtual 255, 3, 176, 0, 6, 128), none, none],
  [some (.iconst (-1), 1, 0, 0, 0, 0), some (.if_icmp .ne 9, 3, 122, 0, 0, 0), none, none, some (.aload_n 0, 1, 0, 0, 0, 0), some (.iconst 3, 1, 0, 0, 0, 0), some (.invokevirtual 230, 3, 169, 0, 6, 124), none, none, some (.ireturn, 1, 0, 0, 0, 0), some (.aload_n 0, 1, 0, 0, 0, 0), some (.getfield 237, 3, 10, 27, 5, 113), none, none, some (.bipush 120, 2, 0, 0, 0, 0), none],
  [some (.if_icmp .ne 9, 3, 137, 0, 0, 0), none, none, some (.aload_n 0, 1, 0, 0, 0, 0), some (.iconst 4, 1, 0, 0, 0, 0), some (.invokevirtual 230, 3, 169, 0, 6, 124), none, none, some (.ireturn, 1, 0, 0, 0, 0), some (.aload_n 0, 1, 0, 0, 0, 0), some (.bipush 40, 2, 0, 0, 0, 0), none, some (.invokevirtual 227, 3, 168, 0, 6, 132), none, none, some (.ifCond .eq 18, 3, 161, 0, 0, 0)],
  [none, none, some (.aload_n 0, 1, 0, 0, 0, 0), some (.getfield 212, 3, 10, 28, 5, 114), none, none, some (.bipush 12, 2, 0, 0, 0, 0), none, some (.if_icmp .ne 9, 3, 161, 0, 0, 0), none, none, some (.aload_n 0, 1, 0, 0, 0, 0), some (.iconst 4, 1, 0, 0, 0, 0), some (.invokevirtual 230, 3, 169, 0, 6, 124), none, none],
  [some (.ireturn, 1, 0, 0, 0, 0), some (.aload_n 0, 1, 0, 0, 0, 0), some (.dup, 1, 0, 0, 0, 0), some (.getfield 237, 3, 10, 27, 5, 113), none, none, some (.iconst 1, 1, 0, 0, 0, 0), some (.iadd, 1, 0, 0, 0, 0), some (.putfield 237, 3, 10, 27, 5, 113), none, none, some (.aload_n 0, 1, 0, 0, 0, 0), some (.getfield 148, 3, 10, 9, 5, 95), none, none, some (.iconst 3, 1, 0, 0, 0, 0)],
  [some (.if_icmp .ne 18, 3, 194, 0, 0, 0), none, none, some (.aload_n 0, 1, 0, 0, 0, 0), some (.getfield 168, 3, 10, 10, 5, 96), none, none, some (.istore_n 2, 1, 0, 0, 0, 0), some (.aload_n 0, 1, 0, 0, 0, 0), some (.invokevirtual 218, 3, 159, 0, 6, 70), none, none, some (.aload_n 0, 1, 0, 0, 0, 0), some (.iload_n 2, 1, 0, 0, 0, 0), some (.invokevirtual 240, 3, 175, 0, 6, 160), none],
  [none, some (.ireturn, 1, 0, 0, 0, 0), some (.aload_n 0, 1, 0, 0, 0, 0), some (.getfield 148, 3, 10, 9, 5, 95), none, none, some (.iconst 4, 1, 0, 0, 0, 0), some (.if_icmp .ne 20, 3, 219, 0, 0, 0), none, none, some (.aload_n 0, 1, 0, 0, 0, 0), some (.dup, 1, 0, 0, 0, 0), some (.getfield 212, 3, 10, 28, 5, 114), none, none, some (.iconst 1, 1, 0, 0, 0, 0)],
  [some (.iadd, 1, 0, 0, 0, 0), some (.putfield 212, 3, 10, 28, 5, 114), none, none, some (.aload_n 0, 1, 0, 0, 0, 0), some (.iconst 1, 1, 0, 0, 0, 0), some (.invokevirtual 259, 3, 171, 0, 6, 140), none, none, some (.iconst 1, 1, 0, 0, 0, 0), some (.ireturn, 1, 0, 0, 0, 0), some (.aload_n 0, 1, 0, 0, 0, 0), some (.getfield 164, 3, 10, 15, 5, 101), none, none, some (.l2i, 1, 0, 0, 0, 0)],
  [some (.iconst 1, 1, 0, 0, 0, 0), some (.isub, 1, 0, 0, 0, 0), some (.istore_n 2, 1, 0, 0, 0, 0), some (.aload_n 0, 1, 0, 0, 0, 0), some (.invokevirtual 255, 3, 176, 0, 6, 128), none, none, some (.istore_n 3, 1, 0, 0, 0, 0), some (.iconst 0, 1, 0, 0, 0, 0), some (.istore 4, 2, 0, 0, 0, 0), none, some (.iload 4, 2, 0, 0, 0, 0), none, some (.sipush 4096, 3, 0, 0, 0, 0), none, none],
  [some (.if_icmp .ge 51, 3, 291, 0, 0, 0), none, none, some (.aload_n 0, 1, 0, 0, 0, 0), some (.getfield 33, 3, 10, 20, 5, 106), none, none, some (.iload 4, 2, 0, 0, 0, 0), none, some (.iload_n 1, 1, 0, 0, 0, 0), some (.ifCond .eq 21, 3, 271, 0, 0, 0), none, none, some (.iload 4, 2, 0, 0, 0, 0), none, some (.iload_n 2, 1, 0, 0, 0, 0)],
  [some (.ishr, 1, 0, 0, 0, 0), some (.iconst 1, 1, 0, 0, 0, 0), some (.iand, 1, 0, 0, 0, 0), some (.iconst 1, 1, 0, 0, 0, 0), some (.if_icmp .ne 7, 3, 267, 0, 0, 0), none, none, some (.iconst 1, 1, 0, 0, 0, 0), some (.goto 20, 3, 284, 0, 0, 0), none, none, some (.iconst 0, 1, 0, 0, 0, 0), some (.goto 16, 3, 284, 0, 0, 0), none, none, some (.aload_n 0, 1, 0, 0, 0, 0)],
  [some (.getfield 26, 3, 10, 18, 5, 104), none, none, some (.sipush 4096, 3, 0, 0, 0, 0), none, none, some (.iload_n 3, 1, 0, 0, 0, 0), some (.imul, 1, 0, 0, 0, 0), some (.iload 4, 2, 0, 0, 0, 0), none, some (.iadd, 1, 0, 0, 0, 0), some (.baload, 1, 0, 0, 0, 0), some (.bastore, 1, 0, 0, 0, 0), some (.iinc 4 1, 3, 0, 0, 0, 0), none, none],
  [some (.goto (-53), 3, 235, 0, 0, 0), none, none, some (.aload_n 0, 1, 0, 0, 0, 0), some (.invokevirtual 218, 3, 159, 0, 6, 70), none, none, some (.aload_n 0, 1, 0, 0, 0, 0), some (.iconst 0, 1, 0, 0, 0, 0), some (.putfield 215, 3, 10, 29, 5, 115), none, none, some (.iconst 1, 1, 0, 0, 0, 0), some (.ireturn, 1, 0, 0, 0, 0), none, none]]
def xc_X10_end_ : List (List (Option xr_R)) := [[some (.sipush 4096, 3, 0, 0, 0, 0), none, none, some (.aload_n 0, 1, 0, 0, 0, 0), some (.getfield 212, 3, 10, 28, 5, 114), none, none, some (.imul, 1, 0, 0, 0, 0), some (.istore_n 1, 1, 0, 0, 0, 0), some (.aload_n 0, 1, 0, 0, 0, 0), some (.getfield 39, 3, 10, 22, 5, 108), none, none, some (.aload_n 0, 1, 0, 0, 0, 0), some (.getfield 212, 3, 10, 28, 5, 114), none],
  [none, some (.iaload, 1, 0, 0, 0, 0), some (.iconst 2, 1, 0, 0, 0, 0), some (.if_icmp .ne 135, 3, 154, 0, 0, 0), none, none, some (.iconst 0, 1, 0, 0, 0, 0), some (.istore_n 2, 1, 0, 0, 0, 0), some (.iload_n 2, 1, 0, 0, 0, 0), some (.sipush 4096, 3, 0, 0, 0, 0), none, none, some (.if_icmp .ge 38, 3, 66, 0, 0, 0), none, none, some (.aload_n 0, 1, 0, 0, 0, 0)],
  [some (.getfield 33, 3, 10, 20, 5, 106), none, none, some (.iload_n 2, 1, 0, 0, 0, 0), some (.baload, 1, 0, 0, 0, 0), some (.ifCond .eq 23, 3, 60, 0, 0, 0), none, none, some (.aload_n 0, 1, 0, 0, 0, 0), some (.getfield 36, 3, 10, 21, 5, 107), none, none, some (.iload_n 1, 1, 0, 0, 0, 0), some (.iload_n 2, 1, 0, 0, 0, 0), some (.iadd, 1, 0, 0, 0, 0), some (.dup2, 1, 0, 0, 0, 0)],
  [some (.iaload, 1, 0, 0, 0, 0), some (.aload_n 0, 1, 0, 0, 0, 0), some (.getfield 42, 3, 10, 23, 5, 109), none, none, some (.aload_n 0, 1, 0, 0, 0, 0), some (.getfield 212, 3, 10, 28, 5, 114), none, none, some (.iaload, 1, 0, 0, 0, 0), some (.iadd, 1, 0, 0, 0, 0), some (.iastore, 1, 0, 0, 0, 0), some (.iinc 2 1, 3, 0, 0, 0, 0), none, none, some (.goto (-39), 3, 24, 0, 0, 0)],
  [none, none, some (.aload_n 0, 1, 0, 0, 0, 0), some (.getfield 42, 3, 10, 23, 5, 109), none, none, some (.aload_n 0, 1, 0, 0, 0, 0), some (.getfield 212, 3, 10, 28, 5, 114), none, none, some (.iconst 1, 1, 0, 0, 0, 0), some (.iastore, 1, 0, 0, 0, 0), some (.aload_n 0, 1, 0, 0, 0, 0), some (.bipush 93, 2, 0, 0, 0, 0), none, some (.invokevirtual 227, 3, 168, 0, 6, 132)],
  [none, none, some (.ifCond .ne 10, 3, 92, 0, 0, 0), none, none, some (.aload_n 0, 1, 0, 0, 0, 0), some (.iconst 1, 1, 0, 0, 0, 0), some (.putfield 215, 3, 10, 29, 5, 115), none, none, some (.iconst 1, 1, 0, 0, 0, 0), some (.ireturn, 1, 0, 0, 0, 0), some (.iconst 0, 1, 0, 0, 0, 0), some (.istore_n 2, 1, 0, 0, 0, 0), some (.iload_n 2, 1, 0, 0, 0, 0), some (.sipush 4096, 3, 0, 0, 0, 0)],
  [none, none, some (.if_icmp .ge 40, 3, 138, 0, 0, 0), none, none, some (.aload_n 0, 1, 0, 0, 0, 0), some (.getfield 33, 3, 10, 20, 5, 106), none, none, some (.iload_n 2, 1, 0, 0, 0, 0), some (.aload_n 0, 1, 0, 0, 0, 0), some (.getfield 36, 3, 10, 21, 5, 107), none, none, some (.iload_n 1, 1, 0, 0, 0, 0), some (.iload_n 2, 1, 0, 0, 0, 0)],
  [some (.iadd, 1, 0, 0, 0, 0), some (.iaload, 1, 0, 0, 0, 0), some (.aload_n 0, 1, 0, 0, 0, 0), some (.getfield 45, 3, 10, 24, 5, 110), none, none, some (.aload_n 0, 1, 0, 0, 0, 0), some (.getfield 212, 3, 10, 28, 5, 114), none, none, some (.iaload, 1, 0, 0, 0, 0), some (.if_icmp .lt 7, 3, 130, 0, 0, 0), none, none, some (.iconst 1, 1, 0, 0, 0, 0), some (.goto 4, 3, 131, 0, 0, 0)],
  [none, none, some (.iconst 0, 1, 0, 0, 0, 0), some (.bastore, 1, 0, 0, 0, 0), some (.iinc 2 1, 3, 0, 0, 0, 0), none, none, some (.goto (-41), 3, 94, 0, 0, 0), none, none, some (.aload_n 0, 1, 0, 0, 0, 0), some (.dup, 1, 0, 0, 0, 0), some (.getfield 212, 3, 10, 28, 5, 114), none, none, some (.iconst 1, 1, 0, 0, 0, 0)],
  [some (.isub, 1, 0, 0, 0, 0), some (.putfield 212, 3, 10, 28, 5, 114), none, none, some (.aload_n 0, 1, 0, 0, 0, 0), some (.invokevirtual 218, 3, 159, 0, 6, 70), none, none, some (.iconst 1, 1, 0, 0, 0, 0), some (.ireturn, 1, 0, 0, 0, 0), some (.iconst 0, 1, 0, 0, 0, 0), some (.istore_n 2, 1, 0, 0, 0, 0), some (.iload_n 2, 1, 0, 0, 0, 0), some (.sipush 4096, 3, 0, 0, 0, 0), none, none],
  [some (.if_icmp .ge 42, 3, 202, 0, 0, 0), none, none, some (.aload_n 0, 1, 0, 0, 0, 0), some (.getfield 22, 3, 10, 17, 5, 103), none, none, some (.iload_n 1, 1, 0, 0, 0, 0), some (.iload_n 2, 1, 0, 0, 0, 0), some (.iadd, 1, 0, 0, 0, 0), some (.aload_n 0, 1, 0, 0, 0, 0), some (.getfield 22, 3, 10, 17, 5, 103), none, none, some (.iload_n 1, 1, 0, 0, 0, 0), some (.iload_n 2, 1, 0, 0, 0, 0)],
  [some (.iadd, 1, 0, 0, 0, 0), some (.baload, 1, 0, 0, 0, 0), some (.ifCond .eq 16, 3, 194, 0, 0, 0), none, none, some (.aload_n 0, 1, 0, 0, 0, 0), some (.getfield 33, 3, 10, 20, 5, 106), none, none, some (.iload_n 2, 1, 0, 0, 0, 0), some (.baload, 1, 0, 0, 0, 0), some (.ifCond .eq 7, 3, 194, 0, 0, 0), none, none, some (.iconst 1, 1, 0, 0, 0, 0), some (.goto 4, 3, 195, 0, 0, 0)],
  [none, none, some (.iconst 0, 1, 0, 0, 0, 0), some (.bastore, 1, 0, 0, 0, 0), some (.iinc 2 1, 3, 0, 0, 0, 0), none, none, some (.goto (-43), 3, 156, 0, 0, 0), none, none, some (.aload_n 0, 1, 0, 0, 0, 0), some (.invokevirtual 197, 3, 164, 0, 6, 112), none, none, some (.ifCond .eq 14, 3, 220, 0, 0, 0), none],
  [none, some (.aload_n 0, 1, 0, 0, 0, 0), some (.iconst 1, 1, 0, 0, 0, 0), some (.putfield 215, 3, 10, 29, 5, 115), none, none, some (.aload_n 0, 1, 0, 0, 0, 0), some (.invokevirtual 218, 3, 159, 0, 6, 70), none, none, some (.iconst 1, 1, 0, 0, 0, 0), some (.ireturn, 1, 0, 0, 0, 0), some (.iconst 0, 1, 0, 0, 0, 0), some (.istore_n 2, 1, 0, 0, 0, 0), some (.iload_n 2, 1, 0, 0, 0, 0), some (.sipush 4096, 3, 0, 0, 0, 0)],
  [none, none, some (.if_icmp .ge 53, 3, 279, 0, 0, 0), none, none, some (.aload_n 0, 1, 0, 0, 0, 0), some (.getfield 18, 3, 10, 16, 5, 102), none, none, some (.iload_n 1, 1, 0, 0, 0, 0), some (.iload_n 2, 1, 0, 0, 0, 0), some (.iadd, 1, 0, 0, 0, 0), some (.aload_n 0, 1, 0, 0, 0, 0), some (.getfield 18, 3, 10, 16, 5, 102), none, none],
  [some (.iload_n 1, 1, 0, 0, 0, 0), some (.iload_n 2, 1, 0, 0, 0, 0), some (.iadd, 1, 0, 0, 0, 0), some (.baload, 1, 0, 0, 0, 0), some (.ifCond .ne 14, 3, 258, 0, 0, 0), none, none, some (.aload_n 0, 1, 0, 0, 0, 0), some (.getfield 22, 3, 10, 17, 5, 103), none, none, some (.iload_n 1, 1, 0, 0, 0, 0), some (.iload_n 2, 1, 0, 0, 0, 0), some (.iadd, 1, 0, 0, 0, 0), some (.baload, 1, 0, 0, 0, 0), some (.ifCond .eq 7, 3, 262, 0, 0, 0)],
  [none, none, some (.iconst 1, 1, 0, 0, 0, 0), some (.goto 4, 3, 263, 0, 0, 0), none, none, some (.iconst 0, 1, 0, 0, 0, 0), some (.bastore, 1, 0, 0, 0, 0), some (.aload_n 0, 1, 0, 0, 0, 0), some (.getfield 22, 3, 10, 17, 5, 103), none, none, some (.iload_n 1, 1, 0, 0, 0, 0), some (.iload_n 2, 1, 0, 0, 0, 0), some (.iadd, 1, 0, 0, 0, 0), some (.iconst 1, 1, 0, 0, 0, 0)],
  [some (.bastore, 1, 0, 0, 0, 0), some (.iinc 2 1, 3, 0, 0, 0, 0), none, none, some (.goto (-54), 3, 222, 0, 0, 0), none, none, some (.aload_n 0, 1, 0, 0, 0, 0), some (.invokevirtual 200, 3, 165, 0, 6, 116), none, none, some (.ifCond .eq 14, 3, 297, 0, 0, 0), none, none, some (.aload_n 0, 1, 0, 0, 0, 0), some (.iconst 1, 1, 0, 0, 0, 0)],
  [some (.putfield 215, 3, 10, 29, 5, 115), none, none, some (.aload_n 0, 1, 0, 0, 0, 0), some (.invokevirtual 218, 3, 159, 0, 6, 70), none, none, some (.iconst 1, 1, 0, 0, 0, 0), some (.ireturn, 1, 0, 0, 0, 0), some (.iconst 0, 1, 0, 0, 0, 0), some (.istore_n 2, 1, 0, 0, 0, 0), some (.iload_n 2, 1, 0, 0, 0, 0), some (.sipush 4096, 3, 0, 0, 0, 0), none, none, some (.if_icmp .ge 23, 3, 326, 0, 0, 0)],
  [none, none, some (.aload_n 0, 1, 0, 0, 0, 0), some (.getfield 33, 3, 10, 20, 5, 106), none, none, some (.iload_n 2, 1, 0, 0, 0, 0), some (.aload_n 0, 1, 0, 0, 0, 0), some (.getfield 18, 3, 10, 16, 5, 102), none, none, some (.iload_n 1, 1, 0, 0, 0, 0), some (.iload_n 2, 1, 0, 0, 0, 0), some (.iadd, 1, 0, 0, 0, 0), some (.baload, 1, 0, 0, 0, 0), some (.bastore, 1, 0, 0, 0, 0)],
  [some (.iinc 2 1, 3, 0, 0, 0, 0), none, none, some (.goto (-24), 3, 299, 0, 0, 0), none, none, some (.aload_n 0, 1, 0, 0, 0, 0), some (.getfield 39, 3, 10, 22, 5, 108), none, none, some (.aload_n 0, 1, 0, 0, 0, 0), some (.getfield 212, 3, 10, 28, 5, 114), none, none, some (.iaload, 1, 0, 0, 0, 0), some (.ifCond .ne 31, 3, 366, 0, 0, 0)],
  [none, none, some (.aload_n 0, 1, 0, 0, 0, 0), some (.iconst 1, 1, 0, 0, 0, 0), some (.putfield 262, 3, 10, 30, 5, 116), none, none, some (.aload_n 0, 1, 0, 0, 0, 0), some (.bipush 59, 2, 0, 0, 0, 0), none, some (.invokevirtual 227, 3, 168, 0, 6, 132), none, none, some (.ifCond .ne 11, 3, 360, 0, 0, 0), none, none],
  [some (.aload_n 0, 1, 0, 0, 0, 0), some (.iconst 1, 1, 0, 0, 0, 0), some (.invokevirtual 230, 3, 169, 0, 6, 124), none, none, some (.ifCond .eq 7, 3, 364, 0, 0, 0), none, none, some (.iconst 1, 1, 0, 0, 0, 0), some (.goto 4, 3, 365, 0, 0, 0), none, none, some (.iconst 0, 1, 0, 0, 0, 0), some (.ireturn, 1, 0, 0, 0, 0), some (.aload_n 0, 1, 0, 0, 0, 0), some (.bipush 41, 2, 0, 0, 0, 0)],
  [none, some (.invokevirtual 227, 3, 168, 0, 6, 132), none, none, some (.ifCond .ne 9, 3, 381, 0, 0, 0), none, none, some (.aload_n 0, 1, 0, 0, 0, 0), some (.iconst 1, 1, 0, 0, 0, 0), some (.invokevirtual 230, 3, 169, 0, 6, 124), none, none, some (.ireturn, 1, 0, 0, 0, 0), some (.aload_n 0, 1, 0, 0, 0, 0), some (.dup, 1, 0, 0, 0, 0), some (.getfield 212, 3, 10, 28, 5, 114)],
  [none, none, some (.iconst 1, 1, 0, 0, 0, 0), some (.isub, 1, 0, 0, 0, 0), some (.putfield 212, 3, 10, 28, 5, 114), none, none, some (.aload_n 0, 1, 0, 0, 0, 0), some (.invokevirtual 218, 3, 159, 0, 6, 70), none, none, some (.iconst 1, 1, 0, 0, 0, 0), some (.ireturn, 1, 0, 0, 0, 0), none, none, none]]
def xc_X10_readRule : List (List (Option xr_R)) := [[some (.aload_n 0, 1, 0, 0, 0, 0), some (.iconst 0, 1, 0, 0, 0, 0), some (.putfield 212, 3, 10, 28, 5, 114), none, none, some (.aload_n 0, 1, 0, 0, 0, 0), some (.iconst 0, 1, 0, 0, 0, 0), some (.putfield 262, 3, 10, 30, 5, 116), none, none, some (.aload_n 0, 1, 0, 0, 0, 0), some (.iconst 0, 1, 0, 0, 0, 0), some (.invokevirtual 259, 3, 171, 0, 6, 140), none, none, some (.aload_n 0, 1, 0, 0, 0, 0)],
  [some (.getfield 262, 3, 10, 30, 5, 116), none, none, some (.ifCond .ne 29, 3, 48, 0, 0, 0), none, none, some (.aload_n 0, 1, 0, 0, 0, 0), some (.getfield 215, 3, 10, 29, 5, 115), none, none, some (.ifCond .eq 13, 3, 39, 0, 0, 0), none, none, some (.aload_n 0, 1, 0, 0, 0, 0), some (.invokevirtual 265, 3, 173, 0, 6, 144), none],
  [none, some (.ifCond .eq 13, 3, 46, 0, 0, 0), none, none, some (.goto (-21), 3, 15, 0, 0, 0), none, none, some (.aload_n 0, 1, 0, 0, 0, 0), some (.invokevirtual 268, 3, 178, 0, 6, 172), none, none, some (.ifCond .ne (-28), 3, 15, 0, 0, 0), none, none, some (.iconst 0, 1, 0, 0, 0, 0), some (.ireturn, 1, 0, 0, 0, 0)],
  [some (.aload_n 0, 1, 0, 0, 0, 0), some (.invokevirtual 218, 3, 159, 0, 6, 70), none, none, some (.iconst 1, 1, 0, 0, 0, 0), some (.ireturn, 1, 0, 0, 0, 0), none, none, none, none, none, none, none, none, none, none]]
def xc_X10_readBody : List (List (Option xr_R)) := [[some (.aload_n 0, 1, 0, 0, 0, 0), some (.invokevirtual 218, 3, 159, 0, 6, 70), none, none, some (.aload_n 0, 1, 0, 0, 0, 0), some (.invokevirtual 249, 3, 167, 0, 6, 104), none, none, some (.ifCond .ne 9, 3, 17, 0, 0, 0), none, none, some (.aload_n 0, 1, 0, 0, 0, 0), some (.iconst 1, 1, 0, 0, 0, 0), some (.invokevirtual 230, 3, 169, 0, 6, 124), none, none],
  [some (.ireturn, 1, 0, 0, 0, 0), some (.aload_n 0, 1, 0, 0, 0, 0), some (.invokevirtual 255, 3, 176, 0, 6, 128), none, none, some (.iconst (-1), 1, 0, 0, 0, 0), some (.if_icmp .eq 9, 3, 31, 0, 0, 0), none, none, some (.aload_n 0, 1, 0, 0, 0, 0), some (.iconst 3, 1, 0, 0, 0, 0), some (.invokevirtual 230, 3, 169, 0, 6, 124), none, none, some (.ireturn, 1, 0, 0, 0, 0), some (.aload_n 0, 1, 0, 0, 0, 0)],
  [some (.getfield 246, 3, 10, 26, 5, 112), none, none, some (.bipush 16, 2, 0, 0, 0, 0), none, some (.if_icmp .ne 9, 3, 46, 0, 0, 0), none, none, some (.aload_n 0, 1, 0, 0, 0, 0), some (.iconst 4, 1, 0, 0, 0, 0), some (.invokevirtual 230, 3, 169, 0, 6, 124), none, none, some (.ireturn, 1, 0, 0, 0, 0), some (.aload_n 0, 1, 0, 0, 0, 0), some (.getfield 164, 3, 10, 15, 5, 101)],
  [none, none, some (.lstore_n 1, 1, 0, 0, 0, 0), some (.aload_n 0, 1, 0, 0, 0, 0), some (.invokevirtual 218, 3, 159, 0, 6, 70), none, none, some (.aload_n 0, 1, 0, 0, 0, 0), some (.bipush 58, 2, 0, 0, 0, 0), none, some (.invokevirtual 227, 3, 168, 0, 6, 132), none, none, some (.ifCond .ne 9, 3, 70, 0, 0, 0), none, none],
  [some (.aload_n 0, 1, 0, 0, 0, 0), some (.iconst 1, 1, 0, 0, 0, 0), some (.invokevirtual 230, 3, 169, 0, 6, 124), none, none, some (.ireturn, 1, 0, 0, 0, 0), some (.aload_n 0, 1, 0, 0, 0, 0), some (.invokevirtual 271, 3, 179, 0, 6, 136), none, none, some (.ifCond .ne 5, 3, 79, 0, 0, 0), none, none, some (.iconst 0, 1, 0, 0, 0, 0), some (.ireturn, 1, 0, 0, 0, 0), some (.aload_n 0, 1, 0, 0, 0, 0)],
  [some (.getfield 48, 3, 10, 25, 5, 111), none, none, some (.aload_n 0, 1, 0, 0, 0, 0), some (.getfield 246, 3, 10, 26, 5, 112), none, none, some (.lload_n 1, 1, 0, 0, 0, 0), some (.lastore, 1, 0, 0, 0, 0), some (.iconst 0, 1, 0, 0, 0, 0), some (.istore_n 3, 1, 0, 0, 0, 0), some (.iload_n 3, 1, 0, 0, 0, 0), some (.sipush 4096, 3, 0, 0, 0, 0), none, none, some (.if_icmp .ge 30, 3, 125, 0, 0, 0)],
  [none, none, some (.aload_n 0, 1, 0, 0, 0, 0), some (.getfield 26, 3, 10, 18, 5, 104), none, none, some (.sipush 4096, 3, 0, 0, 0, 0), none, none, some (.aload_n 0, 1, 0, 0, 0, 0), some (.getfield 246, 3, 10, 26, 5, 112), none, none, some (.imul, 1, 0, 0, 0, 0), some (.iload_n 3, 1, 0, 0, 0, 0), some (.iadd, 1, 0, 0, 0, 0)],
  [some (.aload_n 0, 1, 0, 0, 0, 0), some (.getfield 33, 3, 10, 20, 5, 106), none, none, some (.iload_n 3, 1, 0, 0, 0, 0), some (.baload, 1, 0, 0, 0, 0), some (.bastore, 1, 0, 0, 0, 0), some (.iinc 3 1, 3, 0, 0, 0, 0), none, none, some (.goto (-31), 3, 91, 0, 0, 0), none, none, some (.aload_n 0, 1, 0, 0, 0, 0), some (.dup, 1, 0, 0, 0, 0), some (.getfield 246, 3, 10, 26, 5, 112)],
  [none, none, some (.iconst 1, 1, 0, 0, 0, 0), some (.iadd, 1, 0, 0, 0, 0), some (.putfield 246, 3, 10, 26, 5, 112), none, none, some (.iconst 1, 1, 0, 0, 0, 0), some (.ireturn, 1, 0, 0, 0, 0), none, none, none, none, none, none, none]]
def xc_X10_statute : List (List (Option xr_R)) := [[some (.aload_n 0, 1, 0, 0, 0, 0), some (.iconst 0, 1, 0, 0, 0, 0), some (.putfield 112, 3, 10, 0, 5, 86), none, none, some (.aload_n 0, 1, 0, 0, 0, 0), some (.aload_n 0, 1, 0, 0, 0, 0), some (.invokevirtual 274, 3, 148, 0, 6, 66), none, none, some (.putfield 139, 3, 10, 6, 5, 92), none, none, some (.aload_n 0, 1, 0, 0, 0, 0), some (.getfield 129, 3, 10, 33, 5, 119), none],
  [none, some (.bipush 8, 2, 0, 0, 0, 0), none, some (.if_icmp .eq 17, 3, 36, 0, 0, 0), none, none, some (.iload_n 1, 1, 0, 0, 0, 0), some (.aload_n 0, 1, 0, 0, 0, 0), some (.getfield 126, 3, 10, 3, 5, 89), none, none, some (.sipush 999, 3, 0, 0, 0, 0), none, none, some (.invokestatic 122, 3, 149, 0, 6, 55), none],
  [none, some (.ifCond .ne 7, 3, 40, 0, 0, 0), none, none, some (.sipush (-1000), 3, 0, 0, 0, 0), none, none, some (.ireturn, 1, 0, 0, 0, 0), some (.aload_n 0, 1, 0, 0, 0, 0), some (.iconst 0, 1, 0, 0, 0, 0), some (.putfield 206, 3, 10, 13, 5, 99), none, none, some (.aload_n 0, 1, 0, 0, 0, 0), some (.iconst 0, 1, 0, 0, 0, 0), some (.putfield 246, 3, 10, 26, 5, 112)],
  [none, none, some (.aload_n 0, 1, 0, 0, 0, 0), some (.iconst 0, 1, 0, 0, 0, 0), some (.putfield 237, 3, 10, 27, 5, 113), none, none, some (.aload_n 0, 1, 0, 0, 0, 0), some (.iconst 0, 1, 0, 0, 0, 0), some (.putfield 142, 3, 10, 7, 5, 93), none, none, some (.aload_n 0, 1, 0, 0, 0, 0), some (.invokevirtual 218, 3, 159, 0, 6, 70), none, none],
  [some (.aload_n 0, 1, 0, 0, 0, 0), some (.invokevirtual 190, 3, 162, 0, 6, 89), none, none, some (.ifCond .eq 17, 3, 85, 0, 0, 0), none, none, some (.aload_n 0, 1, 0, 0, 0, 0), some (.invokevirtual 277, 3, 180, 0, 6, 100), none, none, some (.ifCond .ne (-11), 3, 64, 0, 0, 0), none, none, some (.iconst (-1), 1, 0, 0, 0, 0), some (.aload_n 0, 1, 0, 0, 0, 0)],
  [some (.getfield 209, 3, 10, 14, 5, 100), none, none, some (.isub, 1, 0, 0, 0, 0), some (.ireturn, 1, 0, 0, 0, 0), some (.aload_n 0, 1, 0, 0, 0, 0), some (.invokevirtual 194, 3, 163, 0, 6, 108), none, none, some (.ifCond .ne 11, 3, 100, 0, 0, 0), none, none, some (.aload_n 0, 1, 0, 0, 0, 0), some (.iconst 1, 1, 0, 0, 0, 0), some (.invokevirtual 230, 3, 169, 0, 6, 124), none],
  [none, some (.ifCond .eq 7, 3, 104, 0, 0, 0), none, none, some (.iconst 1, 1, 0, 0, 0, 0), some (.goto 4, 3, 105, 0, 0, 0), none, none, some (.iconst 0, 1, 0, 0, 0, 0), some (.istore_n 2, 1, 0, 0, 0, 0), some (.iload_n 2, 1, 0, 0, 0, 0), some (.ifCond .eq 25, 3, 132, 0, 0, 0), none, none, some (.aload_n 0, 1, 0, 0, 0, 0), some (.invokevirtual 271, 3, 179, 0, 6, 136)],
  [none, none, some (.ifCond .eq 18, 3, 132, 0, 0, 0), none, none, some (.aload_n 0, 1, 0, 0, 0, 0), some (.getfield 148, 3, 10, 9, 5, 95), none, none, some (.ifCond .eq 18, 3, 139, 0, 0, 0), none, none, some (.aload_n 0, 1, 0, 0, 0, 0), some (.iconst 1, 1, 0, 0, 0, 0), some (.invokevirtual 230, 3, 169, 0, 6, 124), none],
  [none, some (.ifCond .ne 10, 3, 139, 0, 0, 0), none, none, some (.iconst (-1), 1, 0, 0, 0, 0), some (.aload_n 0, 1, 0, 0, 0, 0), some (.getfield 209, 3, 10, 14, 5, 100), none, none, some (.isub, 1, 0, 0, 0, 0), some (.ireturn, 1, 0, 0, 0, 0), some (.iconst 0, 1, 0, 0, 0, 0), some (.istore_n 3, 1, 0, 0, 0, 0), some (.iload_n 3, 1, 0, 0, 0, 0), some (.sipush 4096, 3, 0, 0, 0, 0), none],
  [none, some (.if_icmp .ge 30, 3, 175, 0, 0, 0), none, none, some (.aload_n 0, 1, 0, 0, 0, 0), some (.getfield 30, 3, 10, 19, 5, 105), none, none, some (.sipush 4096, 3, 0, 0, 0, 0), none, none, some (.aload_n 0, 1, 0, 0, 0, 0), some (.getfield 129, 3, 10, 33, 5, 119), none, none, some (.imul, 1, 0, 0, 0, 0)],
  [some (.iload_n 3, 1, 0, 0, 0, 0), some (.iadd, 1, 0, 0, 0, 0), some (.aload_n 0, 1, 0, 0, 0, 0), some (.getfield 33, 3, 10, 20, 5, 106), none, none, some (.iload_n 3, 1, 0, 0, 0, 0), some (.baload, 1, 0, 0, 0, 0), some (.bastore, 1, 0, 0, 0, 0), some (.iinc 3 1, 3, 0, 0, 0, 0), none, none, some (.goto (-31), 3, 141, 0, 0, 0), none, none, some (.aload_n 0, 1, 0, 0, 0, 0)],
  [some (.getfield 52, 3, 10, 31, 5, 117), none, none, some (.aload_n 0, 1, 0, 0, 0, 0), some (.getfield 129, 3, 10, 33, 5, 119), none, none, some (.iload_n 1, 1, 0, 0, 0, 0), some (.iastore, 1, 0, 0, 0, 0), some (.aload_n 0, 1, 0, 0, 0, 0), some (.getfield 55, 3, 10, 32, 5, 118), none, none, some (.aload_n 0, 1, 0, 0, 0, 0), some (.getfield 129, 3, 10, 33, 5, 119), none],
  [none, some (.aload_n 0, 1, 0, 0, 0, 0), some (.getfield 126, 3, 10, 3, 5, 89), none, none, some (.iastore, 1, 0, 0, 0, 0), some (.aload_n 0, 1, 0, 0, 0, 0), some (.dup, 1, 0, 0, 0, 0), some (.getfield 129, 3, 10, 33, 5, 119), none, none, some (.iconst 1, 1, 0, 0, 0, 0), some (.iadd, 1, 0, 0, 0, 0), some (.putfield 129, 3, 10, 33, 5, 119), none, none],
  [some (.aload_n 0, 1, 0, 0, 0, 0), some (.getfield 246, 3, 10, 26, 5, 112), none, none, some (.ireturn, 1, 0, 0, 0, 0), none, none, none, none, none, none, none, none, none, none, none]]
def xc_X10_fault : List (List (Option xr_R)) := [[some (.aload_n 0, 1, 0, 0, 0, 0), some (.iconst 0, 1, 0, 0, 0, 0), some (.putfield 112, 3, 10, 0, 5, 86), none, none, some (.aload_n 0, 1, 0, 0, 0, 0), some (.getfield 206, 3, 10, 13, 5, 99), none, none, some (.ireturn, 1, 0, 0, 0, 0), none, none, none, none, none, none]]
def xc_X10_inForce : List (List (Option xr_R)) := [[some (.iconst (-1), 1, 0, 0, 0, 0), some (.istore_n 3, 1, 0, 0, 0, 0), some (.iconst 0, 1, 0, 0, 0, 0), some (.istore 4, 2, 0, 0, 0, 0), none, some (.iload 4, 2, 0, 0, 0, 0), none, some (.aload_n 0, 1, 0, 0, 0, 0), some (.getfield 129, 3, 10, 33, 5, 119), none, none, some (.if_icmp .ge 55, 3, 66, 0, 0, 0), none, none, some (.aload_n 0, 1, 0, 0, 0, 0), some (.getfield 55, 3, 10, 32, 5, 118)],
  [none, none, some (.iload 4, 2, 0, 0, 0, 0), none, some (.iaload, 1, 0, 0, 0, 0), some (.iload_n 2, 1, 0, 0, 0, 0), some (.if_icmp .gt 38, 3, 60, 0, 0, 0), none, none, some (.aload_n 0, 1, 0, 0, 0, 0), some (.getfield 52, 3, 10, 31, 5, 117), none, none, some (.iload 4, 2, 0, 0, 0, 0), none, some (.iaload, 1, 0, 0, 0, 0)],
  [some (.iload_n 1, 1, 0, 0, 0, 0), some (.if_icmp .gt 27, 3, 60, 0, 0, 0), none, none, some (.iload_n 3, 1, 0, 0, 0, 0), some (.iconst (-1), 1, 0, 0, 0, 0), some (.if_icmp .eq 19, 3, 57, 0, 0, 0), none, none, some (.aload_n 0, 1, 0, 0, 0, 0), some (.getfield 52, 3, 10, 31, 5, 117), none, none, some (.iload 4, 2, 0, 0, 0, 0), none, some (.iaload, 1, 0, 0, 0, 0)],
  [some (.aload_n 0, 1, 0, 0, 0, 0), some (.getfield 52, 3, 10, 31, 5, 117), none, none, some (.iload_n 3, 1, 0, 0, 0, 0), some (.iaload, 1, 0, 0, 0, 0), some (.if_icmp .lt 6, 3, 60, 0, 0, 0), none, none, some (.iload 4, 2, 0, 0, 0, 0), none, some (.istore_n 3, 1, 0, 0, 0, 0), some (.iinc 4 1, 3, 0, 0, 0, 0), none, none, some (.goto (-58), 3, 5, 0, 0, 0)],
  [none, none, some (.iload_n 3, 1, 0, 0, 0, 0), some (.ireturn, 1, 0, 0, 0, 0), none, none, none, none, none, none, none, none, none, none, none, none]]
def xc_X10_carriesBy : List (List (Option xr_R)) := [[some (.iload_n 1, 1, 0, 0, 0, 0), some (.iconst (-1), 1, 0, 0, 0, 0), some (.if_icmp .ne 23, 3, 25, 0, 0, 0), none, none, some (.iload_n 2, 1, 0, 0, 0, 0), some (.iconst 1, 1, 0, 0, 0, 0), some (.aload_n 0, 1, 0, 0, 0, 0), some (.getfield 13, 3, 10, 4, 5, 90), none, none, some (.ishl, 1, 0, 0, 0, 0), some (.iconst 1, 1, 0, 0, 0, 0), some (.isub, 1, 0, 0, 0, 0), some (.if_icmp .ne 7, 3, 21, 0, 0, 0), none],
  [none, some (.iconst 1, 1, 0, 0, 0, 0), some (.goto 19, 3, 37, 0, 0, 0), none, none, some (.iconst 0, 1, 0, 0, 0, 0), some (.goto 15, 3, 37, 0, 0, 0), none, none, some (.aload_n 0, 1, 0, 0, 0, 0), some (.getfield 30, 3, 10, 19, 5, 105), none, none, some (.sipush 4096, 3, 0, 0, 0, 0), none, none],
  [some (.iload_n 1, 1, 0, 0, 0, 0), some (.imul, 1, 0, 0, 0, 0), some (.iload_n 2, 1, 0, 0, 0, 0), some (.iadd, 1, 0, 0, 0, 0), some (.baload, 1, 0, 0, 0, 0), some (.ireturn, 1, 0, 0, 0, 0), none, none, none, none, none, none, none, none, none, none]]
def xc_X10_carries : List (List (Option xr_R)) := [[some (.aload_n 0, 1, 0, 0, 0, 0), some (.iconst 0, 1, 0, 0, 0, 0), some (.putfield 112, 3, 10, 0, 5, 86), none, none, some (.aload_n 0, 1, 0, 0, 0, 0), some (.iload_n 1, 1, 0, 0, 0, 0), some (.invokevirtual 280, 3, 153, 0, 6, 184), none, none, some (.ifCond .eq 14, 3, 24, 0, 0, 0), none, none, some (.iload_n 2, 1, 0, 0, 0, 0), some (.iconst 0, 1, 0, 0, 0, 0), some (.sipush 999, 3, 0, 0, 0, 0)],
  [none, none, some (.invokestatic 122, 3, 149, 0, 6, 55), none, none, some (.ifCond .ne 5, 3, 26, 0, 0, 0), none, none, some (.iconst (-1), 1, 0, 0, 0, 0), some (.ireturn, 1, 0, 0, 0, 0), some (.aload_n 0, 1, 0, 0, 0, 0), some (.aload_n 0, 1, 0, 0, 0, 0), some (.iload_n 2, 1, 0, 0, 0, 0), some (.sipush 999, 3, 0, 0, 0, 0), none, none],
  [some (.invokevirtual 283, 3, 183, 0, 6, 188), none, none, some (.iload_n 1, 1, 0, 0, 0, 0), some (.invokevirtual 287, 3, 184, 0, 6, 192), none, none, some (.ifCond .eq 7, 3, 46, 0, 0, 0), none, none, some (.iconst 1, 1, 0, 0, 0, 0), some (.goto 4, 3, 47, 0, 0, 0), none, none, some (.iconst 0, 1, 0, 0, 0, 0), some (.ireturn, 1, 0, 0, 0, 0)]]
def xc_X10_lay : List (List (Option xr_R)) := [[some (.aload_n 0, 1, 0, 0, 0, 0), some (.aload_n 0, 1, 0, 0, 0, 0), some (.getfield 126, 3, 10, 3, 5, 89), none, none, some (.sipush 999, 3, 0, 0, 0, 0), none, none, some (.invokevirtual 283, 3, 183, 0, 6, 188), none, none, some (.istore_n 1, 1, 0, 0, 0, 0), some (.aload_n 0, 1, 0, 0, 0, 0), some (.iconst 1, 1, 0, 0, 0, 0), some (.aload_n 0, 1, 0, 0, 0, 0), some (.getfield 13, 3, 10, 4, 5, 90)],
  [none, none, some (.ishl, 1, 0, 0, 0, 0), some (.putfield 290, 3, 10, 35, 5, 121), none, none, some (.iconst 0, 1, 0, 0, 0, 0), some (.istore_n 2, 1, 0, 0, 0, 0), some (.iload_n 2, 1, 0, 0, 0, 0), some (.aload_n 0, 1, 0, 0, 0, 0), some (.getfield 290, 3, 10, 35, 5, 121), none, none, some (.if_icmp .ge 21, 3, 50, 0, 0, 0), none, none],
  [some (.aload_n 0, 1, 0, 0, 0, 0), some (.getfield 58, 3, 10, 34, 5, 120), none, none, some (.iload_n 2, 1, 0, 0, 0, 0), some (.aload_n 0, 1, 0, 0, 0, 0), some (.iload_n 1, 1, 0, 0, 0, 0), some (.iload_n 2, 1, 0, 0, 0, 0), some (.invokevirtual 287, 3, 184, 0, 6, 192), none, none, some (.bastore, 1, 0, 0, 0, 0), some (.iinc 2 1, 3, 0, 0, 0, 0), none, none, some (.goto (-23), 3, 24, 0, 0, 0)],
  [none, none, some (.return_, 1, 0, 0, 0, 0), none, none, none, none, none, none, none, none, none, none, none, none, none]]
def xc_X10_isLeast : List (List (Option xr_R)) := [[some (.aload_n 0, 1, 0, 0, 0, 0), some (.getfield 58, 3, 10, 34, 5, 120), none, none, some (.iload_n 1, 1, 0, 0, 0, 0), some (.baload, 1, 0, 0, 0, 0), some (.ifCond .ne 5, 3, 11, 0, 0, 0), none, none, some (.iconst 0, 1, 0, 0, 0, 0), some (.ireturn, 1, 0, 0, 0, 0), some (.iconst 0, 1, 0, 0, 0, 0), some (.istore_n 2, 1, 0, 0, 0, 0), some (.iload_n 2, 1, 0, 0, 0, 0), some (.aload_n 0, 1, 0, 0, 0, 0), some (.getfield 13, 3, 10, 4, 5, 90)],
  [none, none, some (.if_icmp .ge 35, 3, 53, 0, 0, 0), none, none, some (.iload_n 1, 1, 0, 0, 0, 0), some (.iload_n 2, 1, 0, 0, 0, 0), some (.ishr, 1, 0, 0, 0, 0), some (.iconst 1, 1, 0, 0, 0, 0), some (.iand, 1, 0, 0, 0, 0), some (.iconst 1, 1, 0, 0, 0, 0), some (.if_icmp .ne 20, 3, 47, 0, 0, 0), none, none, some (.aload_n 0, 1, 0, 0, 0, 0), some (.getfield 58, 3, 10, 34, 5, 120)],
  [none, none, some (.iload_n 1, 1, 0, 0, 0, 0), some (.iconst 1, 1, 0, 0, 0, 0), some (.iload_n 2, 1, 0, 0, 0, 0), some (.ishl, 1, 0, 0, 0, 0), some (.iconst (-1), 1, 0, 0, 0, 0), some (.ixor, 1, 0, 0, 0, 0), some (.iand, 1, 0, 0, 0, 0), some (.baload, 1, 0, 0, 0, 0), some (.ifCond .eq 5, 3, 47, 0, 0, 0), none, none, some (.iconst 0, 1, 0, 0, 0, 0), some (.ireturn, 1, 0, 0, 0, 0), some (.iinc 2 1, 3, 0, 0, 0, 0)],
  [none, none, some (.goto (-37), 3, 13, 0, 0, 0), none, none, some (.iconst 1, 1, 0, 0, 0, 0), some (.ireturn, 1, 0, 0, 0, 0), none, none, none, none, none, none, none, none, none]]
def xc_X10_hinders : List (List (Option xr_R)) := [[some (.aload_n 0, 1, 0, 0, 0, 0), some (.getfield 58, 3, 10, 34, 5, 120), none, none, some (.aload_n 0, 1, 0, 0, 0, 0), some (.getfield 290, 3, 10, 35, 5, 121), none, none, some (.iconst 1, 1, 0, 0, 0, 0), some (.isub, 1, 0, 0, 0, 0), some (.iload_n 1, 1, 0, 0, 0, 0), some (.iconst (-1), 1, 0, 0, 0, 0), some (.ixor, 1, 0, 0, 0, 0), some (.iand, 1, 0, 0, 0, 0), some (.baload, 1, 0, 0, 0, 0), some (.ifCond .ne 7, 3, 22, 0, 0, 0)],
  [none, none, some (.iconst 1, 1, 0, 0, 0, 0), some (.goto 4, 3, 23, 0, 0, 0), none, none, some (.iconst 0, 1, 0, 0, 0, 0), some (.ireturn, 1, 0, 0, 0, 0), none, none, none, none, none, none, none, none]]
def xc_X10_isLeastHinder : List (List (Option xr_R)) := [[some (.aload_n 0, 1, 0, 0, 0, 0), some (.iload_n 1, 1, 0, 0, 0, 0), some (.invokevirtual 293, 3, 188, 0, 6, 220), none, none, some (.ifCond .ne 5, 3, 10, 0, 0, 0), none, none, some (.iconst 0, 1, 0, 0, 0, 0), some (.ireturn, 1, 0, 0, 0, 0), some (.iconst 0, 1, 0, 0, 0, 0), some (.istore_n 2, 1, 0, 0, 0, 0), some (.iload_n 2, 1, 0, 0, 0, 0), some (.aload_n 0, 1, 0, 0, 0, 0), some (.getfield 13, 3, 10, 4, 5, 90), none],
  [none, some (.if_icmp .ge 34, 3, 51, 0, 0, 0), none, none, some (.iload_n 1, 1, 0, 0, 0, 0), some (.iload_n 2, 1, 0, 0, 0, 0), some (.ishr, 1, 0, 0, 0, 0), some (.iconst 1, 1, 0, 0, 0, 0), some (.iand, 1, 0, 0, 0, 0), some (.iconst 1, 1, 0, 0, 0, 0), some (.if_icmp .ne 19, 3, 45, 0, 0, 0), none, none, some (.aload_n 0, 1, 0, 0, 0, 0), some (.iload_n 1, 1, 0, 0, 0, 0), some (.iconst 1, 1, 0, 0, 0, 0)],
  [some (.iload_n 2, 1, 0, 0, 0, 0), some (.ishl, 1, 0, 0, 0, 0), some (.iconst (-1), 1, 0, 0, 0, 0), some (.ixor, 1, 0, 0, 0, 0), some (.iand, 1, 0, 0, 0, 0), some (.invokevirtual 293, 3, 188, 0, 6, 220), none, none, some (.ifCond .eq 5, 3, 45, 0, 0, 0), none, none, some (.iconst 0, 1, 0, 0, 0, 0), some (.ireturn, 1, 0, 0, 0, 0), some (.iinc 2 1, 3, 0, 0, 0, 0), none, none],
  [some (.goto (-36), 3, 12, 0, 0, 0), none, none, some (.iconst 1, 1, 0, 0, 0, 0), some (.ireturn, 1, 0, 0, 0, 0), none, none, none, none, none, none, none, none, none, none, none]]
def xc_X10_isOfKind : List (List (Option xr_R)) := [[some (.iload_n 2, 1, 0, 0, 0, 0), some (.iconst 1, 1, 0, 0, 0, 0), some (.if_icmp .ne 11, 3, 13, 0, 0, 0), none, none, some (.aload_n 0, 1, 0, 0, 0, 0), some (.iload_n 1, 1, 0, 0, 0, 0), some (.invokevirtual 296, 3, 187, 0, 6, 212), none, none, some (.goto 8, 3, 18, 0, 0, 0), none, none, some (.aload_n 0, 1, 0, 0, 0, 0), some (.iload_n 1, 1, 0, 0, 0, 0), some (.invokevirtual 299, 3, 189, 0, 6, 216)],
  [none, none, some (.ireturn, 1, 0, 0, 0, 0), none, none, none, none, none, none, none, none, none, none, none, none, none]]
def xc_X10_countOf : List (List (Option xr_R)) := [[some (.iconst 0, 1, 0, 0, 0, 0), some (.istore_n 2, 1, 0, 0, 0, 0), some (.iconst 0, 1, 0, 0, 0, 0), some (.istore_n 3, 1, 0, 0, 0, 0), some (.iload_n 3, 1, 0, 0, 0, 0), some (.aload_n 0, 1, 0, 0, 0, 0), some (.getfield 290, 3, 10, 35, 5, 121), none, none, some (.if_icmp .ge 21, 3, 30, 0, 0, 0), none, none, some (.aload_n 0, 1, 0, 0, 0, 0), some (.iload_n 3, 1, 0, 0, 0, 0), some (.iload_n 1, 1, 0, 0, 0, 0), some (.invokevirtual 302, 3, 190, 0, 6, 208)],
  [none, none, some (.ifCond .eq 6, 3, 24, 0, 0, 0), none, none, some (.iinc 2 1, 3, 0, 0, 0, 0), none, none, some (.iinc 3 1, 3, 0, 0, 0, 0), none, none, some (.goto (-23), 3, 4, 0, 0, 0), none, none, some (.iload_n 2, 1, 0, 0, 0, 0), some (.ireturn, 1, 0, 0, 0, 0)]]
def xc_X10_whoIs : List (List (Option xr_R)) := [[some (.aload_n 0, 1, 0, 0, 0, 0), some (.getfield 290, 3, 10, 35, 5, 121), none, none, some (.iconst 1, 1, 0, 0, 0, 0), some (.isub, 1, 0, 0, 0, 0), some (.istore_n 2, 1, 0, 0, 0, 0), some (.iconst 0, 1, 0, 0, 0, 0), some (.istore_n 3, 1, 0, 0, 0, 0), some (.iconst 0, 1, 0, 0, 0, 0), some (.istore 4, 2, 0, 0, 0, 0), none, some (.iconst 0, 1, 0, 0, 0, 0), some (.istore 5, 2, 0, 0, 0, 0), none, some (.iload 5, 2, 0, 0, 0, 0)],
  [none, some (.aload_n 0, 1, 0, 0, 0, 0), some (.getfield 290, 3, 10, 35, 5, 121), none, none, some (.if_icmp .ge 34, 3, 55, 0, 0, 0), none, none, some (.aload_n 0, 1, 0, 0, 0, 0), some (.iload 5, 2, 0, 0, 0, 0), none, some (.invokevirtual 296, 3, 187, 0, 6, 212), none, none, some (.ifCond .ne 6, 3, 36, 0, 0, 0), none],
  [none, some (.goto 16, 3, 49, 0, 0, 0), none, none, some (.iconst 1, 1, 0, 0, 0, 0), some (.istore 4, 2, 0, 0, 0, 0), none, some (.iload_n 2, 1, 0, 0, 0, 0), some (.iload 5, 2, 0, 0, 0, 0), none, some (.iand, 1, 0, 0, 0, 0), some (.istore_n 2, 1, 0, 0, 0, 0), some (.iload_n 3, 1, 0, 0, 0, 0), some (.iload 5, 2, 0, 0, 0, 0), none, some (.ior, 1, 0, 0, 0, 0)],
  [some (.istore_n 3, 1, 0, 0, 0, 0), some (.iinc 5 1, 3, 0, 0, 0, 0), none, none, some (.goto (-37), 3, 15, 0, 0, 0), none, none, some (.iload_n 1, 1, 0, 0, 0, 0), some (.ifCond .eq 16, 3, 72, 0, 0, 0), none, none, some (.aload_n 0, 1, 0, 0, 0, 0), some (.getfield 290, 3, 10, 35, 5, 121), none, none, some (.iconst 1, 1, 0, 0, 0, 0)],
  [some (.isub, 1, 0, 0, 0, 0), some (.iload_n 3, 1, 0, 0, 0, 0), some (.iconst (-1), 1, 0, 0, 0, 0), some (.ixor, 1, 0, 0, 0, 0), some (.iand, 1, 0, 0, 0, 0), some (.goto 13, 3, 82, 0, 0, 0), none, none, some (.iload 4, 2, 0, 0, 0, 0), none, some (.ifCond .eq 7, 3, 81, 0, 0, 0), none, none, some (.iload_n 2, 1, 0, 0, 0, 0), some (.goto 4, 3, 82, 0, 0, 0), none],
  [none, some (.iconst 0, 1, 0, 0, 0, 0), some (.ireturn, 1, 0, 0, 0, 0), none, none, none, none, none, none, none, none, none, none, none, none, none]]
def xc_X10_isProper : List (List (Option xr_R)) := [[some (.iconst 0, 1, 0, 0, 0, 0), some (.istore_n 1, 1, 0, 0, 0, 0), some (.iload_n 1, 1, 0, 0, 0, 0), some (.aload_n 0, 1, 0, 0, 0, 0), some (.getfield 290, 3, 10, 35, 5, 121), none, none, some (.if_icmp .ge 38, 3, 45, 0, 0, 0), none, none, some (.aload_n 0, 1, 0, 0, 0, 0), some (.getfield 58, 3, 10, 34, 5, 120), none, none, some (.iload_n 1, 1, 0, 0, 0, 0), some (.baload, 1, 0, 0, 0, 0)],
  [some (.ifCond .eq 23, 3, 39, 0, 0, 0), none, none, some (.aload_n 0, 1, 0, 0, 0, 0), some (.getfield 58, 3, 10, 34, 5, 120), none, none, some (.aload_n 0, 1, 0, 0, 0, 0), some (.getfield 290, 3, 10, 35, 5, 121), none, none, some (.iconst 1, 1, 0, 0, 0, 0), some (.isub, 1, 0, 0, 0, 0), some (.iload_n 1, 1, 0, 0, 0, 0), some (.iconst (-1), 1, 0, 0, 0, 0), some (.ixor, 1, 0, 0, 0, 0)],
  [some (.iand, 1, 0, 0, 0, 0), some (.baload, 1, 0, 0, 0, 0), some (.ifCond .eq 5, 3, 39, 0, 0, 0), none, none, some (.iconst 0, 1, 0, 0, 0, 0), some (.ireturn, 1, 0, 0, 0, 0), some (.iinc 1 1, 3, 0, 0, 0, 0), none, none, some (.goto (-40), 3, 2, 0, 0, 0), none, none, some (.iconst 1, 1, 0, 0, 0, 0), some (.ireturn, 1, 0, 0, 0, 0), none]]
def xc_X10_isStrong : List (List (Option xr_R)) := [[some (.iconst 0, 1, 0, 0, 0, 0), some (.istore_n 1, 1, 0, 0, 0, 0), some (.iload_n 1, 1, 0, 0, 0, 0), some (.aload_n 0, 1, 0, 0, 0, 0), some (.getfield 290, 3, 10, 35, 5, 121), none, none, some (.if_icmp .ge 38, 3, 45, 0, 0, 0), none, none, some (.aload_n 0, 1, 0, 0, 0, 0), some (.getfield 58, 3, 10, 34, 5, 120), none, none, some (.iload_n 1, 1, 0, 0, 0, 0), some (.baload, 1, 0, 0, 0, 0)],
  [some (.ifCond .ne 23, 3, 39, 0, 0, 0), none, none, some (.aload_n 0, 1, 0, 0, 0, 0), some (.getfield 58, 3, 10, 34, 5, 120), none, none, some (.aload_n 0, 1, 0, 0, 0, 0), some (.getfield 290, 3, 10, 35, 5, 121), none, none, some (.iconst 1, 1, 0, 0, 0, 0), some (.isub, 1, 0, 0, 0, 0), some (.iload_n 1, 1, 0, 0, 0, 0), some (.iconst (-1), 1, 0, 0, 0, 0), some (.ixor, 1, 0, 0, 0, 0)],
  [some (.iand, 1, 0, 0, 0, 0), some (.baload, 1, 0, 0, 0, 0), some (.ifCond .ne 5, 3, 39, 0, 0, 0), none, none, some (.iconst 0, 1, 0, 0, 0, 0), some (.ireturn, 1, 0, 0, 0, 0), some (.iinc 1 1, 3, 0, 0, 0, 0), none, none, some (.goto (-40), 3, 2, 0, 0, 0), none, none, some (.iconst 1, 1, 0, 0, 0, 0), some (.ireturn, 1, 0, 0, 0, 0), none]]
def xc_X10_held : List (List (Option xr_R)) := [[some (.iconst 3, 1, 0, 0, 0, 0), some (.istore_n 3, 1, 0, 0, 0, 0), some (.iconst 0, 1, 0, 0, 0, 0), some (.istore 4, 2, 0, 0, 0, 0), none, some (.iload 4, 2, 0, 0, 0, 0), none, some (.aload_n 0, 1, 0, 0, 0, 0), some (.getfield 290, 3, 10, 35, 5, 121), none, none, some (.if_icmp .ge 86, 3, 97, 0, 0, 0), none, none, some (.iload 4, 2, 0, 0, 0, 0), none],
  [some (.iload_n 1, 1, 0, 0, 0, 0), some (.ishr, 1, 0, 0, 0, 0), some (.iconst 1, 1, 0, 0, 0, 0), some (.iand, 1, 0, 0, 0, 0), some (.iconst 1, 1, 0, 0, 0, 0), some (.if_icmp .eq 70, 3, 91, 0, 0, 0), none, none, some (.iload 4, 2, 0, 0, 0, 0), none, some (.iload_n 2, 1, 0, 0, 0, 0), some (.ishr, 1, 0, 0, 0, 0), some (.iconst 1, 1, 0, 0, 0, 0), some (.iand, 1, 0, 0, 0, 0), some (.iconst 1, 1, 0, 0, 0, 0), some (.if_icmp .ne 6, 3, 37, 0, 0, 0)],
  [none, none, some (.goto 57, 3, 91, 0, 0, 0), none, none, some (.aload_n 0, 1, 0, 0, 0, 0), some (.getfield 58, 3, 10, 34, 5, 120), none, none, some (.iload 4, 2, 0, 0, 0, 0), none, some (.iconst 1, 1, 0, 0, 0, 0), some (.iload_n 1, 1, 0, 0, 0, 0), some (.ishl, 1, 0, 0, 0, 0), some (.ior, 1, 0, 0, 0, 0), some (.baload, 1, 0, 0, 0, 0)],
  [some (.istore 5, 2, 0, 0, 0, 0), none, some (.aload_n 0, 1, 0, 0, 0, 0), some (.getfield 58, 3, 10, 34, 5, 120), none, none, some (.iload 4, 2, 0, 0, 0, 0), none, some (.iconst 1, 1, 0, 0, 0, 0), some (.iload_n 2, 1, 0, 0, 0, 0), some (.ishl, 1, 0, 0, 0, 0), some (.ior, 1, 0, 0, 0, 0), some (.baload, 1, 0, 0, 0, 0), some (.istore 6, 2, 0, 0, 0, 0), none, some (.iload 6, 2, 0, 0, 0, 0)],
  [none, some (.ifCond .eq 12, 3, 77, 0, 0, 0), none, none, some (.iload 5, 2, 0, 0, 0, 0), none, some (.ifCond .ne 7, 3, 77, 0, 0, 0), none, none, some (.iload_n 3, 1, 0, 0, 0, 0), some (.iconst 2, 1, 0, 0, 0, 0), some (.iand, 1, 0, 0, 0, 0), some (.istore_n 3, 1, 0, 0, 0, 0), some (.iload 5, 2, 0, 0, 0, 0), none, some (.ifCond .eq 12, 3, 91, 0, 0, 0)],
  [none, none, some (.iload 6, 2, 0, 0, 0, 0), none, some (.ifCond .ne 7, 3, 91, 0, 0, 0), none, none, some (.iload_n 3, 1, 0, 0, 0, 0), some (.iconst 1, 1, 0, 0, 0, 0), some (.iand, 1, 0, 0, 0, 0), some (.istore_n 3, 1, 0, 0, 0, 0), some (.iinc 4 1, 3, 0, 0, 0, 0), none, none, some (.goto (-89), 3, 5, 0, 0, 0), none],
  [none, some (.iload_n 3, 1, 0, 0, 0, 0), some (.ireturn, 1, 0, 0, 0, 0), none, none, none, none, none, none, none, none, none, none, none, none, none]]
def xc_X10_isLined : List (List (Option xr_R)) := [[some (.iconst 0, 1, 0, 0, 0, 0), some (.istore_n 1, 1, 0, 0, 0, 0), some (.iload_n 1, 1, 0, 0, 0, 0), some (.aload_n 0, 1, 0, 0, 0, 0), some (.getfield 13, 3, 10, 4, 5, 90), none, none, some (.if_icmp .ge 38, 3, 45, 0, 0, 0), none, none, some (.iload_n 1, 1, 0, 0, 0, 0), some (.iconst 1, 1, 0, 0, 0, 0), some (.iadd, 1, 0, 0, 0, 0), some (.istore_n 2, 1, 0, 0, 0, 0), some (.iload_n 2, 1, 0, 0, 0, 0), some (.aload_n 0, 1, 0, 0, 0, 0)],
  [some (.getfield 13, 3, 10, 4, 5, 90), none, none, some (.if_icmp .ge 20, 3, 39, 0, 0, 0), none, none, some (.aload_n 0, 1, 0, 0, 0, 0), some (.iload_n 1, 1, 0, 0, 0, 0), some (.iload_n 2, 1, 0, 0, 0, 0), some (.invokevirtual 305, 3, 195, 0, 7, 3), none, none, some (.ifCond .ne 5, 3, 33, 0, 0, 0), none, none, some (.iconst 0, 1, 0, 0, 0, 0)],
  [some (.ireturn, 1, 0, 0, 0, 0), some (.iinc 2 1, 3, 0, 0, 0, 0), none, none, some (.goto (-22), 3, 14, 0, 0, 0), none, none, some (.iinc 1 1, 3, 0, 0, 0, 0), none, none, some (.goto (-40), 3, 2, 0, 0, 0), none, none, some (.iconst 1, 1, 0, 0, 0, 0), some (.ireturn, 1, 0, 0, 0, 0), none]]
def xc_X10_many : List (List (Option xr_R)) := [[some (.aload_n 0, 1, 0, 0, 0, 0), some (.iconst 0, 1, 0, 0, 0, 0), some (.putfield 112, 3, 10, 0, 5, 86), none, none, some (.aload_n 0, 1, 0, 0, 0, 0), some (.invokevirtual 308, 3, 186, 0, 6, 200), none, none, some (.iconst 0, 1, 0, 0, 0, 0), some (.istore_n 2, 1, 0, 0, 0, 0), some (.iload_n 1, 1, 0, 0, 0, 0), some (.tableswitch 141 0 7 #[48, 78, 78, 84, 93, 102, 115, 128], 48, 0, 0, 0, 0), none, none, none],
  [none, none, none, none, none, none, none, none, none, none, none, none, none, none, none, none],
  [none, none, none, none, none, none, none, none, none, none, none, none, none, none, none, none],
  [none, none, none, none, none, none, none, none, none, none, none, none, some (.iconst 0, 1, 0, 0, 0, 0), some (.istore_n 3, 1, 0, 0, 0, 0), some (.iload_n 3, 1, 0, 0, 0, 0), some (.aload_n 0, 1, 0, 0, 0, 0)],
  [some (.getfield 290, 3, 10, 35, 5, 121), none, none, some (.if_icmp .ge 21, 3, 88, 0, 0, 0), none, none, some (.aload_n 0, 1, 0, 0, 0, 0), some (.getfield 58, 3, 10, 34, 5, 120), none, none, some (.iload_n 3, 1, 0, 0, 0, 0), some (.baload, 1, 0, 0, 0, 0), some (.ifCond .eq 6, 3, 82, 0, 0, 0), none, none, some (.iinc 2 1, 3, 0, 0, 0, 0)],
  [none, none, some (.iinc 3 1, 3, 0, 0, 0, 0), none, none, some (.goto (-23), 3, 62, 0, 0, 0), none, none, some (.iload_n 2, 1, 0, 0, 0, 0), some (.ireturn, 1, 0, 0, 0, 0), some (.aload_n 0, 1, 0, 0, 0, 0), some (.iload_n 1, 1, 0, 0, 0, 0), some (.invokevirtual 311, 3, 191, 0, 6, 204), none, none, some (.ireturn, 1, 0, 0, 0, 0)],
  [some (.aload_n 0, 1, 0, 0, 0, 0), some (.iconst 0, 1, 0, 0, 0, 0), some (.invokevirtual 314, 3, 192, 0, 6, 224), none, none, some (.invokestatic 318, 3, 154, 0, 6, 228), none, none, some (.ireturn, 1, 0, 0, 0, 0), some (.aload_n 0, 1, 0, 0, 0, 0), some (.iconst 1, 1, 0, 0, 0, 0), some (.invokevirtual 314, 3, 192, 0, 6, 224), none, none, some (.invokestatic 318, 3, 154, 0, 6, 228), none],
  [none, some (.ireturn, 1, 0, 0, 0, 0), some (.aload_n 0, 1, 0, 0, 0, 0), some (.invokevirtual 321, 3, 193, 0, 6, 231), none, none, some (.ifCond .eq 7, 3, 125, 0, 0, 0), none, none, some (.iconst 1, 1, 0, 0, 0, 0), some (.goto 4, 3, 126, 0, 0, 0), none, none, some (.iconst 0, 1, 0, 0, 0, 0), some (.ireturn, 1, 0, 0, 0, 0), some (.aload_n 0, 1, 0, 0, 0, 0)],
  [some (.invokevirtual 324, 3, 194, 0, 6, 235), none, none, some (.ifCond .eq 7, 3, 138, 0, 0, 0), none, none, some (.iconst 1, 1, 0, 0, 0, 0), some (.goto 4, 3, 139, 0, 0, 0), none, none, some (.iconst 0, 1, 0, 0, 0, 0), some (.ireturn, 1, 0, 0, 0, 0), some (.aload_n 0, 1, 0, 0, 0, 0), some (.invokevirtual 327, 3, 196, 0, 6, 239), none, none],
  [some (.ifCond .eq 7, 3, 151, 0, 0, 0), none, none, some (.iconst 1, 1, 0, 0, 0, 0), some (.goto 4, 3, 152, 0, 0, 0), none, none, some (.iconst 0, 1, 0, 0, 0, 0), some (.ireturn, 1, 0, 0, 0, 0), some (.iconst (-1), 1, 0, 0, 0, 0), some (.ireturn, 1, 0, 0, 0, 0), none, none, none, none, none]]
def xc_X10_setAt : List (List (Option xr_R)) := [[some (.aload_n 0, 1, 0, 0, 0, 0), some (.iconst 0, 1, 0, 0, 0, 0), some (.putfield 112, 3, 10, 0, 5, 86), none, none, some (.iload_n 1, 1, 0, 0, 0, 0), some (.iconst 1, 1, 0, 0, 0, 0), some (.iconst 4, 1, 0, 0, 0, 0), some (.invokestatic 122, 3, 149, 0, 6, 55), none, none, some (.ifCond .eq 7, 3, 18, 0, 0, 0), none, none, some (.iload_n 2, 1, 0, 0, 0, 0), some (.ifCond .ge 5, 3, 20, 0, 0, 0)],
  [none, none, some (.iconst (-1), 1, 0, 0, 0, 0), some (.ireturn, 1, 0, 0, 0, 0), some (.aload_n 0, 1, 0, 0, 0, 0), some (.invokevirtual 308, 3, 186, 0, 6, 200), none, none, some (.iload_n 1, 1, 0, 0, 0, 0), some (.iconst 2, 1, 0, 0, 0, 0), some (.if_icmp .le 26, 3, 52, 0, 0, 0), none, none, some (.iload_n 2, 1, 0, 0, 0, 0), some (.ifCond .ne 20, 3, 50, 0, 0, 0), none],
  [none, some (.aload_n 0, 1, 0, 0, 0, 0), some (.iload_n 1, 1, 0, 0, 0, 0), some (.iconst 4, 1, 0, 0, 0, 0), some (.if_icmp .ne 7, 3, 43, 0, 0, 0), none, none, some (.iconst 1, 1, 0, 0, 0, 0), some (.goto 4, 3, 44, 0, 0, 0), none, none, some (.iconst 0, 1, 0, 0, 0, 0), some (.invokevirtual 314, 3, 192, 0, 6, 224), none, none, some (.goto 4, 3, 51, 0, 0, 0)],
  [none, none, some (.iconst (-1), 1, 0, 0, 0, 0), some (.ireturn, 1, 0, 0, 0, 0), some (.iload_n 2, 1, 0, 0, 0, 0), some (.istore_n 3, 1, 0, 0, 0, 0), some (.iconst 0, 1, 0, 0, 0, 0), some (.istore 4, 2, 0, 0, 0, 0), none, some (.iload 4, 2, 0, 0, 0, 0), none, some (.aload_n 0, 1, 0, 0, 0, 0), some (.getfield 13, 3, 10, 4, 5, 90), none, none, some (.if_icmp .gt 60, 3, 123, 0, 0, 0)],
  [none, none, some (.iconst 0, 1, 0, 0, 0, 0), some (.istore 5, 2, 0, 0, 0, 0), none, some (.iload 5, 2, 0, 0, 0, 0), none, some (.aload_n 0, 1, 0, 0, 0, 0), some (.getfield 290, 3, 10, 35, 5, 121), none, none, some (.if_icmp .ge 42, 3, 117, 0, 0, 0), none, none, some (.iload 5, 2, 0, 0, 0, 0), none],
  [some (.invokestatic 318, 3, 154, 0, 6, 228), none, none, some (.iload 4, 2, 0, 0, 0, 0), none, some (.if_icmp .ne 26, 3, 111, 0, 0, 0), none, none, some (.aload_n 0, 1, 0, 0, 0, 0), some (.iload 5, 2, 0, 0, 0, 0), none, some (.iload_n 1, 1, 0, 0, 0, 0), some (.invokevirtual 302, 3, 190, 0, 6, 208), none, none, some (.ifCond .ne 6, 3, 101, 0, 0, 0)],
  [none, none, some (.goto 13, 3, 111, 0, 0, 0), none, none, some (.iload_n 3, 1, 0, 0, 0, 0), some (.ifCond .ne 6, 3, 108, 0, 0, 0), none, none, some (.iload 5, 2, 0, 0, 0, 0), none, some (.ireturn, 1, 0, 0, 0, 0), some (.iinc 3 (-1), 3, 0, 0, 0, 0), none, none, some (.iinc 5 1, 3, 0, 0, 0, 0)],
  [none, none, some (.goto (-45), 3, 69, 0, 0, 0), none, none, some (.iinc 4 1, 3, 0, 0, 0, 0), none, none, some (.goto (-63), 3, 57, 0, 0, 0), none, none, some (.iconst (-1), 1, 0, 0, 0, 0), some (.ireturn, 1, 0, 0, 0, 0), none, none, none]]
def xc_X10_stronger : List (List (Option xr_R)) := [[some (.aload_n 0, 1, 0, 0, 0, 0), some (.iconst 0, 1, 0, 0, 0, 0), some (.putfield 112, 3, 10, 0, 5, 86), none, none, some (.aload_n 0, 1, 0, 0, 0, 0), some (.iload_n 1, 1, 0, 0, 0, 0), some (.invokevirtual 252, 3, 152, 0, 6, 156), none, none, some (.ifCond .eq 11, 3, 21, 0, 0, 0), none, none, some (.aload_n 0, 1, 0, 0, 0, 0), some (.iload_n 2, 1, 0, 0, 0, 0), some (.invokevirtual 252, 3, 152, 0, 6, 156)],
  [none, none, some (.ifCond .ne 6, 3, 24, 0, 0, 0), none, none, some (.bipush (-2), 2, 0, 0, 0, 0), none, some (.ireturn, 1, 0, 0, 0, 0), some (.iload_n 1, 1, 0, 0, 0, 0), some (.iload_n 2, 1, 0, 0, 0, 0), some (.if_icmp .ne 5, 3, 31, 0, 0, 0), none, none, some (.iconst 0, 1, 0, 0, 0, 0), some (.ireturn, 1, 0, 0, 0, 0), some (.aload_n 0, 1, 0, 0, 0, 0)],
  [some (.invokevirtual 308, 3, 186, 0, 6, 200), none, none, some (.aload_n 0, 1, 0, 0, 0, 0), some (.iload_n 1, 1, 0, 0, 0, 0), some (.iload_n 2, 1, 0, 0, 0, 0), some (.invokevirtual 305, 3, 195, 0, 7, 3), none, none, some (.istore_n 3, 1, 0, 0, 0, 0), some (.iload_n 3, 1, 0, 0, 0, 0), some (.iconst 3, 1, 0, 0, 0, 0), some (.if_icmp .ne 7, 3, 51, 0, 0, 0), none, none, some (.iconst 0, 1, 0, 0, 0, 0)],
  [some (.goto 22, 3, 70, 0, 0, 0), none, none, some (.iload_n 3, 1, 0, 0, 0, 0), some (.iconst 1, 1, 0, 0, 0, 0), some (.if_icmp .ne 7, 3, 60, 0, 0, 0), none, none, some (.iconst 1, 1, 0, 0, 0, 0), some (.goto 13, 3, 70, 0, 0, 0), none, none, some (.iload_n 3, 1, 0, 0, 0, 0), some (.iconst 2, 1, 0, 0, 0, 0), some (.if_icmp .ne 7, 3, 69, 0, 0, 0), none],
  [none, some (.iconst (-1), 1, 0, 0, 0, 0), some (.goto 4, 3, 70, 0, 0, 0), none, none, some (.iconst 2, 1, 0, 0, 0, 0), some (.ireturn, 1, 0, 0, 0, 0), none, none, none, none, none, none, none, none, none]]
def xc_X10_turnsOf : List (List (Option xr_R)) := [[some (.iconst 0, 1, 0, 0, 0, 0), some (.istore_n 2, 1, 0, 0, 0, 0), some (.iconst 0, 1, 0, 0, 0, 0), some (.istore_n 3, 1, 0, 0, 0, 0), some (.iload_n 3, 1, 0, 0, 0, 0), some (.aload_n 0, 1, 0, 0, 0, 0), some (.getfield 290, 3, 10, 35, 5, 121), none, none, some (.if_icmp .ge 42, 3, 51, 0, 0, 0), none, none, some (.iload_n 3, 1, 0, 0, 0, 0), some (.iload_n 1, 1, 0, 0, 0, 0), some (.ishr, 1, 0, 0, 0, 0), some (.iconst 1, 1, 0, 0, 0, 0)],
  [some (.iand, 1, 0, 0, 0, 0), some (.ifCond .ne 28, 3, 45, 0, 0, 0), none, none, some (.aload_n 0, 1, 0, 0, 0, 0), some (.getfield 58, 3, 10, 34, 5, 120), none, none, some (.iload_n 3, 1, 0, 0, 0, 0), some (.baload, 1, 0, 0, 0, 0), some (.ifCond .ne 19, 3, 45, 0, 0, 0), none, none, some (.aload_n 0, 1, 0, 0, 0, 0), some (.getfield 58, 3, 10, 34, 5, 120), none],
  [none, some (.iload_n 3, 1, 0, 0, 0, 0), some (.iconst 1, 1, 0, 0, 0, 0), some (.iload_n 1, 1, 0, 0, 0, 0), some (.ishl, 1, 0, 0, 0, 0), some (.ior, 1, 0, 0, 0, 0), some (.baload, 1, 0, 0, 0, 0), some (.ifCond .eq 6, 3, 45, 0, 0, 0), none, none, some (.iinc 2 1, 3, 0, 0, 0, 0), none, none, some (.iinc 3 1, 3, 0, 0, 0, 0), none, none],
  [some (.goto (-44), 3, 4, 0, 0, 0), none, none, some (.iload_n 2, 1, 0, 0, 0, 0), some (.ireturn, 1, 0, 0, 0, 0), none, none, none, none, none, none, none, none, none, none, none]]
def xc_X10_turns : List (List (Option xr_R)) := [[some (.aload_n 0, 1, 0, 0, 0, 0), some (.iconst 0, 1, 0, 0, 0, 0), some (.putfield 112, 3, 10, 0, 5, 86), none, none, some (.aload_n 0, 1, 0, 0, 0, 0), some (.iload_n 1, 1, 0, 0, 0, 0), some (.invokevirtual 252, 3, 152, 0, 6, 156), none, none, some (.ifCond .ne 5, 3, 15, 0, 0, 0), none, none, some (.iconst (-1), 1, 0, 0, 0, 0), some (.ireturn, 1, 0, 0, 0, 0), some (.aload_n 0, 1, 0, 0, 0, 0)],
  [some (.invokevirtual 308, 3, 186, 0, 6, 200), none, none, some (.aload_n 0, 1, 0, 0, 0, 0), some (.iload_n 1, 1, 0, 0, 0, 0), some (.invokevirtual 330, 3, 200, 0, 7, 19), none, none, some (.ireturn, 1, 0, 0, 0, 0), none, none, none, none, none, none, none]]
def xc_X10_lessen : List (List (Option xr_R)) := [[some (.lload_n 1, 1, 0, 0, 0, 0), some (.lstore 5, 2, 0, 0, 0, 0), none, some (.lload_n 3, 1, 0, 0, 0, 0), some (.lstore 7, 2, 0, 0, 0, 0), none, some (.lload 7, 2, 0, 0, 0, 0), none, some (.lconst 0, 1, 0, 0, 0, 0), some (.lcmp, 1, 0, 0, 0, 0), some (.ifCond .eq 21, 3, 31, 0, 0, 0), none, none, some (.lload 5, 2, 0, 0, 0, 0), none, some (.lload 7, 2, 0, 0, 0, 0)],
  [none, some (.lrem, 1, 0, 0, 0, 0), some (.lstore 9, 2, 0, 0, 0, 0), none, some (.lload 7, 2, 0, 0, 0, 0), none, some (.lstore 5, 2, 0, 0, 0, 0), none, some (.lload 9, 2, 0, 0, 0, 0), none, some (.lstore 7, 2, 0, 0, 0, 0), none, some (.goto (-22), 3, 6, 0, 0, 0), none, none, some (.aload_n 0, 1, 0, 0, 0, 0)],
  [some (.lload_n 1, 1, 0, 0, 0, 0), some (.lconst 0, 1, 0, 0, 0, 0), some (.lcmp, 1, 0, 0, 0, 0), some (.ifCond .ne 7, 3, 42, 0, 0, 0), none, none, some (.lconst 0, 1, 0, 0, 0, 0), some (.goto 7, 3, 46, 0, 0, 0), none, none, some (.lload_n 1, 1, 0, 0, 0, 0), some (.lload 5, 2, 0, 0, 0, 0), none, some (.ldiv, 1, 0, 0, 0, 0), some (.putfield 333, 3, 10, 36, 5, 122), none],
  [none, some (.aload_n 0, 1, 0, 0, 0, 0), some (.lload_n 1, 1, 0, 0, 0, 0), some (.lconst 0, 1, 0, 0, 0, 0), some (.lcmp, 1, 0, 0, 0, 0), some (.ifCond .ne 7, 3, 60, 0, 0, 0), none, none, some (.lconst 1, 1, 0, 0, 0, 0), some (.goto 7, 3, 64, 0, 0, 0), none, none, some (.lload_n 3, 1, 0, 0, 0, 0), some (.lload 5, 2, 0, 0, 0, 0), none, some (.ldiv, 1, 0, 0, 0, 0)],
  [some (.putfield 336, 3, 10, 37, 5, 123), none, none, some (.return_, 1, 0, 0, 0, 0), none, none, none, none, none, none, none, none, none, none, none, none]]
def xc_X10_orders : List (List (Option xr_R)) := [[some (.lconst 1, 1, 0, 0, 0, 0), some (.lstore_n 1, 1, 0, 0, 0, 0), some (.iconst 2, 1, 0, 0, 0, 0), some (.istore_n 3, 1, 0, 0, 0, 0), some (.iload_n 3, 1, 0, 0, 0, 0), some (.iload_n 0, 1, 0, 0, 0, 0), some (.if_icmp .gt 14, 3, 20, 0, 0, 0), none, none, some (.lload_n 1, 1, 0, 0, 0, 0), some (.iload_n 3, 1, 0, 0, 0, 0), some (.i2l, 1, 0, 0, 0, 0), some (.lmul, 1, 0, 0, 0, 0), some (.lstore_n 1, 1, 0, 0, 0, 0), some (.iinc 3 1, 3, 0, 0, 0, 0), none],
  [none, some (.goto (-13), 3, 4, 0, 0, 0), none, none, some (.lload_n 1, 1, 0, 0, 0, 0), some (.lreturn, 1, 0, 0, 0, 0), none, none, none, none, none, none, none, none, none, none]]
def xc_X10_shareOfSets : List (List (Option xr_R)) := [[some (.lconst 0, 1, 0, 0, 0, 0), some (.lstore_n 2, 1, 0, 0, 0, 0), some (.iconst 0, 1, 0, 0, 0, 0), some (.istore 4, 2, 0, 0, 0, 0), none, some (.iload 4, 2, 0, 0, 0, 0), none, some (.aload_n 0, 1, 0, 0, 0, 0), some (.getfield 13, 3, 10, 4, 5, 90), none, none, some (.if_icmp .ge 19, 3, 30, 0, 0, 0), none, none, some (.lload_n 2, 1, 0, 0, 0, 0), some (.aload_n 0, 1, 0, 0, 0, 0)],
  [some (.iload 4, 2, 0, 0, 0, 0), none, some (.invokevirtual 330, 3, 200, 0, 7, 19), none, none, some (.i2l, 1, 0, 0, 0, 0), some (.ladd, 1, 0, 0, 0, 0), some (.lstore_n 2, 1, 0, 0, 0, 0), some (.iinc 4 1, 3, 0, 0, 0, 0), none, none, some (.goto (-22), 3, 5, 0, 0, 0), none, none, some (.aload_n 0, 1, 0, 0, 0, 0), some (.aload_n 0, 1, 0, 0, 0, 0)],
  [some (.iload_n 1, 1, 0, 0, 0, 0), some (.invokevirtual 330, 3, 200, 0, 7, 19), none, none, some (.i2l, 1, 0, 0, 0, 0), some (.lload_n 2, 1, 0, 0, 0, 0), some (.lconst 0, 1, 0, 0, 0, 0), some (.lcmp, 1, 0, 0, 0, 0), some (.ifCond .ne 7, 3, 47, 0, 0, 0), none, none, some (.lconst 1, 1, 0, 0, 0, 0), some (.goto 4, 3, 48, 0, 0, 0), none, none, some (.lload_n 2, 1, 0, 0, 0, 0)],
  [some (.invokevirtual 339, 3, 202, 0, 7, 35), none, none, some (.return_, 1, 0, 0, 0, 0), none, none, none, none, none, none, none, none, none, none, none, none]]
def xc_X10_shareOfOrders : List (List (Option xr_R)) := [[some (.lconst 0, 1, 0, 0, 0, 0), some (.lstore_n 2, 1, 0, 0, 0, 0), some (.iconst 0, 1, 0, 0, 0, 0), some (.istore 4, 2, 0, 0, 0, 0), none, some (.iload 4, 2, 0, 0, 0, 0), none, some (.aload_n 0, 1, 0, 0, 0, 0), some (.getfield 290, 3, 10, 35, 5, 121), none, none, some (.if_icmp .ge 69, 3, 80, 0, 0, 0), none, none, some (.iload 4, 2, 0, 0, 0, 0), none],
  [some (.iload_n 1, 1, 0, 0, 0, 0), some (.ishr, 1, 0, 0, 0, 0), some (.iconst 1, 1, 0, 0, 0, 0), some (.iand, 1, 0, 0, 0, 0), some (.ifCond .ne 54, 3, 74, 0, 0, 0), none, none, some (.aload_n 0, 1, 0, 0, 0, 0), some (.getfield 58, 3, 10, 34, 5, 120), none, none, some (.iload 4, 2, 0, 0, 0, 0), none, some (.baload, 1, 0, 0, 0, 0), some (.ifCond .ne 44, 3, 74, 0, 0, 0), none],
  [none, some (.aload_n 0, 1, 0, 0, 0, 0), some (.getfield 58, 3, 10, 34, 5, 120), none, none, some (.iload 4, 2, 0, 0, 0, 0), none, some (.iconst 1, 1, 0, 0, 0, 0), some (.iload_n 1, 1, 0, 0, 0, 0), some (.ishl, 1, 0, 0, 0, 0), some (.ior, 1, 0, 0, 0, 0), some (.baload, 1, 0, 0, 0, 0), some (.ifCond .eq 30, 3, 74, 0, 0, 0), none, none, some (.lload_n 2, 1, 0, 0, 0, 0)],
  [some (.iload 4, 2, 0, 0, 0, 0), none, some (.invokestatic 318, 3, 154, 0, 6, 228), none, none, some (.invokestatic 343, 3, 203, 0, 7, 43), none, none, some (.aload_n 0, 1, 0, 0, 0, 0), some (.getfield 13, 3, 10, 4, 5, 90), none, none, some (.iconst 1, 1, 0, 0, 0, 0), some (.isub, 1, 0, 0, 0, 0), some (.iload 4, 2, 0, 0, 0, 0), none],
  [some (.invokestatic 318, 3, 154, 0, 6, 228), none, none, some (.isub, 1, 0, 0, 0, 0), some (.invokestatic 343, 3, 203, 0, 7, 43), none, none, some (.lmul, 1, 0, 0, 0, 0), some (.ladd, 1, 0, 0, 0, 0), some (.lstore_n 2, 1, 0, 0, 0, 0), some (.iinc 4 1, 3, 0, 0, 0, 0), none, none, some (.goto (-72), 3, 5, 0, 0, 0), none, none],
  [some (.aload_n 0, 1, 0, 0, 0, 0), some (.lload_n 2, 1, 0, 0, 0, 0), some (.aload_n 0, 1, 0, 0, 0, 0), some (.getfield 13, 3, 10, 4, 5, 90), none, none, some (.invokestatic 343, 3, 203, 0, 7, 43), none, none, some (.invokevirtual 339, 3, 202, 0, 7, 35), none, none, some (.return_, 1, 0, 0, 0, 0), none, none, none]]
def xc_X10_shareOfLeast : List (List (Option xr_R)) := [[some (.lconst 0, 1, 0, 0, 0, 0), some (.lstore_n 2, 1, 0, 0, 0, 0), some (.lconst 0, 1, 0, 0, 0, 0), some (.lstore 4, 2, 0, 0, 0, 0), none, some (.iconst 0, 1, 0, 0, 0, 0), some (.istore 6, 2, 0, 0, 0, 0), none, some (.iload 6, 2, 0, 0, 0, 0), none, some (.aload_n 0, 1, 0, 0, 0, 0), some (.getfield 290, 3, 10, 35, 5, 121), none, none, some (.if_icmp .ge 50, 3, 64, 0, 0, 0), none],
  [none, some (.aload_n 0, 1, 0, 0, 0, 0), some (.iload 6, 2, 0, 0, 0, 0), none, some (.invokevirtual 296, 3, 187, 0, 6, 212), none, none, some (.ifCond .ne 6, 3, 29, 0, 0, 0), none, none, some (.goto 32, 3, 58, 0, 0, 0), none, none, some (.lload 4, 2, 0, 0, 0, 0), none, some (.lconst 1, 1, 0, 0, 0, 0)],
  [some (.ladd, 1, 0, 0, 0, 0), some (.lstore 4, 2, 0, 0, 0, 0), none, some (.iload 6, 2, 0, 0, 0, 0), none, some (.iload_n 1, 1, 0, 0, 0, 0), some (.ishr, 1, 0, 0, 0, 0), some (.iconst 1, 1, 0, 0, 0, 0), some (.iand, 1, 0, 0, 0, 0), some (.iconst 1, 1, 0, 0, 0, 0), some (.if_icmp .ne 16, 3, 58, 0, 0, 0), none, none, some (.lload_n 2, 1, 0, 0, 0, 0), some (.ldc2_w 347, 3, 27720, 0, 7, 50), none],
  [none, some (.iload 6, 2, 0, 0, 0, 0), none, some (.invokestatic 318, 3, 154, 0, 6, 228), none, none, some (.i2l, 1, 0, 0, 0, 0), some (.ldiv, 1, 0, 0, 0, 0), some (.ladd, 1, 0, 0, 0, 0), some (.lstore_n 2, 1, 0, 0, 0, 0), some (.iinc 6 1, 3, 0, 0, 0, 0), none, none, some (.goto (-53), 3, 8, 0, 0, 0), none, none],
  [some (.aload_n 0, 1, 0, 0, 0, 0), some (.lload_n 2, 1, 0, 0, 0, 0), some (.lload 4, 2, 0, 0, 0, 0), none, some (.lconst 0, 1, 0, 0, 0, 0), some (.lcmp, 1, 0, 0, 0, 0), some (.ifCond .ne 7, 3, 77, 0, 0, 0), none, none, some (.lconst 1, 1, 0, 0, 0, 0), some (.goto 9, 3, 83, 0, 0, 0), none, none, some (.ldc2_w 347, 3, 27720, 0, 7, 50), none, none],
  [some (.lload 4, 2, 0, 0, 0, 0), none, some (.lmul, 1, 0, 0, 0, 0), some (.invokevirtual 339, 3, 202, 0, 7, 35), none, none, some (.return_, 1, 0, 0, 0, 0), none, none, none, none, none, none, none, none, none]]
def xc_X10_share : List (List (Option xr_R)) := [[some (.aload_n 0, 1, 0, 0, 0, 0), some (.iload_n 1, 1, 0, 0, 0, 0), some (.invokevirtual 252, 3, 152, 0, 6, 156), none, none, some (.ifCond .eq 21, 3, 26, 0, 0, 0), none, none, some (.iload_n 2, 1, 0, 0, 0, 0), some (.iconst 0, 1, 0, 0, 0, 0), some (.iconst 2, 1, 0, 0, 0, 0), some (.invokestatic 122, 3, 149, 0, 6, 55), none, none, some (.ifCond .eq 12, 3, 26, 0, 0, 0), none],
  [none, some (.iload_n 3, 1, 0, 0, 0, 0), some (.iconst 0, 1, 0, 0, 0, 0), some (.iconst 1, 1, 0, 0, 0, 0), some (.invokestatic 122, 3, 149, 0, 6, 55), none, none, some (.ifCond .ne 9, 3, 32, 0, 0, 0), none, none, some (.aload_n 0, 1, 0, 0, 0, 0), some (.invokevirtual 349, 3, 144, 0, 7, 27), none, none, some (.i2l, 1, 0, 0, 0, 0), some (.lreturn, 1, 0, 0, 0, 0)],
  [some (.aload_n 0, 1, 0, 0, 0, 0), some (.iconst 0, 1, 0, 0, 0, 0), some (.putfield 112, 3, 10, 0, 5, 86), none, none, some (.aload_n 0, 1, 0, 0, 0, 0), some (.invokevirtual 308, 3, 186, 0, 6, 200), none, none, some (.iload_n 2, 1, 0, 0, 0, 0), some (.ifCond .ne 11, 3, 53, 0, 0, 0), none, none, some (.aload_n 0, 1, 0, 0, 0, 0), some (.iload_n 1, 1, 0, 0, 0, 0), some (.invokevirtual 352, 3, 204, 0, 7, 31)],
  [none, none, some (.goto 21, 3, 71, 0, 0, 0), none, none, some (.iload_n 2, 1, 0, 0, 0, 0), some (.iconst 1, 1, 0, 0, 0, 0), some (.if_icmp .ne 11, 3, 66, 0, 0, 0), none, none, some (.aload_n 0, 1, 0, 0, 0, 0), some (.iload_n 1, 1, 0, 0, 0, 0), some (.invokevirtual 355, 3, 205, 0, 7, 39), none, none, some (.goto 8, 3, 71, 0, 0, 0)],
  [none, none, some (.aload_n 0, 1, 0, 0, 0, 0), some (.iload_n 1, 1, 0, 0, 0, 0), some (.invokevirtual 358, 3, 206, 0, 7, 46), none, none, some (.iload_n 3, 1, 0, 0, 0, 0), some (.ifCond .ne 10, 3, 82, 0, 0, 0), none, none, some (.aload_n 0, 1, 0, 0, 0, 0), some (.getfield 333, 3, 10, 36, 5, 122), none, none, some (.goto 7, 3, 86, 0, 0, 0)],
  [none, none, some (.aload_n 0, 1, 0, 0, 0, 0), some (.getfield 336, 3, 10, 37, 5, 123), none, none, some (.lreturn, 1, 0, 0, 0, 0), none, none, none, none, none, none, none, none, none]]
def xc_X10_power : List (List (Option xr_R)) := [[some (.lconst 1, 1, 0, 0, 0, 0), some (.lstore_n 3, 1, 0, 0, 0, 0), some (.iconst 0, 1, 0, 0, 0, 0), some (.istore 5, 2, 0, 0, 0, 0), none, some (.iload 5, 2, 0, 0, 0, 0), none, some (.iload_n 2, 1, 0, 0, 0, 0), some (.if_icmp .ge 13, 3, 21, 0, 0, 0), none, none, some (.lload_n 3, 1, 0, 0, 0, 0), some (.lload_n 0, 1, 0, 0, 0, 0), some (.lmul, 1, 0, 0, 0, 0), some (.lstore_n 3, 1, 0, 0, 0, 0), some (.iinc 5 1, 3, 0, 0, 0, 0)],
  [none, none, some (.goto (-13), 3, 5, 0, 0, 0), none, none, some (.lload_n 3, 1, 0, 0, 0, 0), some (.lreturn, 1, 0, 0, 0, 0), none, none, none, none, none, none, none, none, none]]
def xc_X10_chance : List (List (Option xr_R)) := [[some (.aload_n 0, 1, 0, 0, 0, 0), some (.iconst 0, 1, 0, 0, 0, 0), some (.putfield 112, 3, 10, 0, 5, 86), none, none, some (.iload_n 1, 1, 0, 0, 0, 0), some (.iconst 0, 1, 0, 0, 0, 0), some (.bipush 10, 2, 0, 0, 0, 0), none, some (.invokestatic 122, 3, 149, 0, 6, 55), none, none, some (.ifCond .ne 7, 3, 19, 0, 0, 0), none, none, some (.ldc2_w 361, 3, 18446744073709551615, 0, 7, 55)],
  [none, none, some (.lreturn, 1, 0, 0, 0, 0), some (.aload_n 0, 1, 0, 0, 0, 0), some (.invokevirtual 308, 3, 186, 0, 6, 200), none, none, some (.lconst 0, 1, 0, 0, 0, 0), some (.lstore_n 2, 1, 0, 0, 0, 0), some (.iconst 0, 1, 0, 0, 0, 0), some (.istore 4, 2, 0, 0, 0, 0), none, some (.iload 4, 2, 0, 0, 0, 0), none, some (.aload_n 0, 1, 0, 0, 0, 0), some (.getfield 290, 3, 10, 35, 5, 121)],
  [none, none, some (.if_icmp .ge 51, 3, 85, 0, 0, 0), none, none, some (.aload_n 0, 1, 0, 0, 0, 0), some (.getfield 58, 3, 10, 34, 5, 120), none, none, some (.iload 4, 2, 0, 0, 0, 0), none, some (.baload, 1, 0, 0, 0, 0), some (.ifCond .eq 35, 3, 79, 0, 0, 0), none, none, some (.lload_n 2, 1, 0, 0, 0, 0)],
  [some (.iload_n 1, 1, 0, 0, 0, 0), some (.i2l, 1, 0, 0, 0, 0), some (.iload 4, 2, 0, 0, 0, 0), none, some (.invokestatic 318, 3, 154, 0, 6, 228), none, none, some (.invokestatic 363, 3, 208, 0, 7, 56), none, none, some (.bipush 10, 2, 0, 0, 0, 0), none, some (.iload_n 1, 1, 0, 0, 0, 0), some (.isub, 1, 0, 0, 0, 0), some (.i2l, 1, 0, 0, 0, 0), some (.aload_n 0, 1, 0, 0, 0, 0)],
  [some (.getfield 13, 3, 10, 4, 5, 90), none, none, some (.iload 4, 2, 0, 0, 0, 0), none, some (.invokestatic 318, 3, 154, 0, 6, 228), none, none, some (.isub, 1, 0, 0, 0, 0), some (.invokestatic 363, 3, 208, 0, 7, 56), none, none, some (.lmul, 1, 0, 0, 0, 0), some (.ladd, 1, 0, 0, 0, 0), some (.lstore_n 2, 1, 0, 0, 0, 0), some (.iinc 4 1, 3, 0, 0, 0, 0)],
  [none, none, some (.goto (-54), 3, 28, 0, 0, 0), none, none, some (.lload_n 2, 1, 0, 0, 0, 0), some (.lreturn, 1, 0, 0, 0, 0), none, none, none, none, none, none, none, none, none]]
def xc_X10_ally : List (List (Option xr_R)) := [[some (.aload_n 0, 1, 0, 0, 0, 0), some (.iconst 0, 1, 0, 0, 0, 0), some (.putfield 112, 3, 10, 0, 5, 86), none, none, some (.aload_n 0, 1, 0, 0, 0, 0), some (.iload_n 1, 1, 0, 0, 0, 0), some (.invokevirtual 252, 3, 152, 0, 6, 156), none, none, some (.ifCond .ne 5, 3, 15, 0, 0, 0), none, none, some (.iconst (-1), 1, 0, 0, 0, 0), some (.ireturn, 1, 0, 0, 0, 0), some (.aload_n 0, 1, 0, 0, 0, 0)],
  [some (.invokevirtual 308, 3, 186, 0, 6, 200), none, none, some (.iconst (-1), 1, 0, 0, 0, 0), some (.istore_n 2, 1, 0, 0, 0, 0), some (.iconst (-1), 1, 0, 0, 0, 0), some (.istore_n 3, 1, 0, 0, 0, 0), some (.iconst 0, 1, 0, 0, 0, 0), some (.istore 4, 2, 0, 0, 0, 0), none, some (.iload 4, 2, 0, 0, 0, 0), none, some (.aload_n 0, 1, 0, 0, 0, 0), some (.getfield 13, 3, 10, 4, 5, 90), none, none],
  [some (.if_icmp .ge 124, 3, 156, 0, 0, 0), none, none, some (.iload 4, 2, 0, 0, 0, 0), none, some (.iload_n 1, 1, 0, 0, 0, 0), some (.if_icmp .ne 6, 3, 44, 0, 0, 0), none, none, some (.goto 109, 3, 150, 0, 0, 0), none, none, some (.iconst 0, 1, 0, 0, 0, 0), some (.istore 5, 2, 0, 0, 0, 0), none, some (.iconst 0, 1, 0, 0, 0, 0)],
  [some (.istore 6, 2, 0, 0, 0, 0), none, some (.iload 6, 2, 0, 0, 0, 0), none, some (.aload_n 0, 1, 0, 0, 0, 0), some (.getfield 290, 3, 10, 35, 5, 121), none, none, some (.if_icmp .ge 79, 3, 135, 0, 0, 0), none, none, some (.iload 6, 2, 0, 0, 0, 0), none, some (.iload_n 1, 1, 0, 0, 0, 0), some (.ishr, 1, 0, 0, 0, 0), some (.iconst 1, 1, 0, 0, 0, 0)],
  [some (.iand, 1, 0, 0, 0, 0), some (.ifCond .ne 64, 3, 129, 0, 0, 0), none, none, some (.iload 6, 2, 0, 0, 0, 0), none, some (.iload 4, 2, 0, 0, 0, 0), none, some (.ishr, 1, 0, 0, 0, 0), some (.iconst 1, 1, 0, 0, 0, 0), some (.iand, 1, 0, 0, 0, 0), some (.ifCond .ne 54, 3, 129, 0, 0, 0), none, none, some (.aload_n 0, 1, 0, 0, 0, 0), some (.getfield 58, 3, 10, 34, 5, 120)],
  [none, none, some (.iload 6, 2, 0, 0, 0, 0), none, some (.iconst 1, 1, 0, 0, 0, 0), some (.iload_n 1, 1, 0, 0, 0, 0), some (.ishl, 1, 0, 0, 0, 0), some (.ior, 1, 0, 0, 0, 0), some (.baload, 1, 0, 0, 0, 0), some (.ifCond .ne 40, 3, 129, 0, 0, 0), none, none, some (.aload_n 0, 1, 0, 0, 0, 0), some (.getfield 58, 3, 10, 34, 5, 120), none, none],
  [some (.iload 6, 2, 0, 0, 0, 0), none, some (.iconst 1, 1, 0, 0, 0, 0), some (.iload 4, 2, 0, 0, 0, 0), none, some (.ishl, 1, 0, 0, 0, 0), some (.ior, 1, 0, 0, 0, 0), some (.baload, 1, 0, 0, 0, 0), some (.ifCond .ne 25, 3, 129, 0, 0, 0), none, none, some (.aload_n 0, 1, 0, 0, 0, 0), some (.getfield 58, 3, 10, 34, 5, 120), none, none, some (.iload 6, 2, 0, 0, 0, 0)],
  [none, some (.iconst 1, 1, 0, 0, 0, 0), some (.iload_n 1, 1, 0, 0, 0, 0), some (.ishl, 1, 0, 0, 0, 0), some (.ior, 1, 0, 0, 0, 0), some (.iconst 1, 1, 0, 0, 0, 0), some (.iload 4, 2, 0, 0, 0, 0), none, some (.ishl, 1, 0, 0, 0, 0), some (.ior, 1, 0, 0, 0, 0), some (.baload, 1, 0, 0, 0, 0), some (.ifCond .eq 6, 3, 129, 0, 0, 0), none, none, some (.iinc 5 1, 3, 0, 0, 0, 0), none],
  [none, some (.iinc 6 1, 3, 0, 0, 0, 0), none, none, some (.goto (-82), 3, 50, 0, 0, 0), none, none, some (.iload 5, 2, 0, 0, 0, 0), none, some (.iload_n 3, 1, 0, 0, 0, 0), some (.if_icmp .gt 6, 3, 144, 0, 0, 0), none, none, some (.goto 9, 3, 150, 0, 0, 0), none, none],
  [some (.iload 5, 2, 0, 0, 0, 0), none, some (.istore_n 3, 1, 0, 0, 0, 0), some (.iload 4, 2, 0, 0, 0, 0), none, some (.istore_n 2, 1, 0, 0, 0, 0), some (.iinc 4 1, 3, 0, 0, 0, 0), none, none, some (.goto (-127), 3, 26, 0, 0, 0), none, none, some (.iload_n 2, 1, 0, 0, 0, 0), some (.ireturn, 1, 0, 0, 0, 0), none, none]]
def xc_X10_findSorts : List (List (Option xr_R)) := [[some (.aload_n 0, 1, 0, 0, 0, 0), some (.iconst 0, 1, 0, 0, 0, 0), some (.putfield 367, 3, 10, 46, 5, 132), none, none, some (.iconst 0, 1, 0, 0, 0, 0), some (.istore_n 1, 1, 0, 0, 0, 0), some (.iload_n 1, 1, 0, 0, 0, 0), some (.aload_n 0, 1, 0, 0, 0, 0), some (.getfield 13, 3, 10, 4, 5, 90), none, none, some (.if_icmp .ge 132, 3, 144, 0, 0, 0), none, none, some (.aload_n 0, 1, 0, 0, 0, 0)],
  [some (.getfield 61, 3, 10, 38, 5, 124), none, none, some (.iload_n 1, 1, 0, 0, 0, 0), some (.iconst (-1), 1, 0, 0, 0, 0), some (.iastore, 1, 0, 0, 0, 0), some (.iconst 0, 1, 0, 0, 0, 0), some (.istore_n 2, 1, 0, 0, 0, 0), some (.iload_n 2, 1, 0, 0, 0, 0), some (.aload_n 0, 1, 0, 0, 0, 0), some (.getfield 367, 3, 10, 46, 5, 132), none, none, some (.if_icmp .ge 41, 3, 70, 0, 0, 0), none, none],
  [some (.aload_n 0, 1, 0, 0, 0, 0), some (.getfield 61, 3, 10, 38, 5, 124), none, none, some (.iload_n 1, 1, 0, 0, 0, 0), some (.iaload, 1, 0, 0, 0, 0), some (.iconst (-1), 1, 0, 0, 0, 0), some (.if_icmp .ne 31, 3, 70, 0, 0, 0), none, none, some (.aload_n 0, 1, 0, 0, 0, 0), some (.iload_n 1, 1, 0, 0, 0, 0), some (.aload_n 0, 1, 0, 0, 0, 0), some (.getfield 67, 3, 10, 40, 5, 126), none, none],
  [some (.iload_n 2, 1, 0, 0, 0, 0), some (.iaload, 1, 0, 0, 0, 0), some (.invokevirtual 305, 3, 195, 0, 7, 3), none, none, some (.iconst 3, 1, 0, 0, 0, 0), some (.if_icmp .ne 10, 3, 64, 0, 0, 0), none, none, some (.aload_n 0, 1, 0, 0, 0, 0), some (.getfield 61, 3, 10, 38, 5, 124), none, none, some (.iload_n 1, 1, 0, 0, 0, 0), some (.iload_n 2, 1, 0, 0, 0, 0), some (.iastore, 1, 0, 0, 0, 0)],
  [some (.iinc 2 1, 3, 0, 0, 0, 0), none, none, some (.goto (-43), 3, 24, 0, 0, 0), none, none, some (.aload_n 0, 1, 0, 0, 0, 0), some (.getfield 61, 3, 10, 38, 5, 124), none, none, some (.iload_n 1, 1, 0, 0, 0, 0), some (.iaload, 1, 0, 0, 0, 0), some (.iconst (-1), 1, 0, 0, 0, 0), some (.if_icmp .eq 21, 3, 98, 0, 0, 0), none, none],
  [some (.aload_n 0, 1, 0, 0, 0, 0), some (.getfield 64, 3, 10, 39, 5, 125), none, none, some (.aload_n 0, 1, 0, 0, 0, 0), some (.getfield 61, 3, 10, 38, 5, 124), none, none, some (.iload_n 1, 1, 0, 0, 0, 0), some (.iaload, 1, 0, 0, 0, 0), some (.dup2, 1, 0, 0, 0, 0), some (.iaload, 1, 0, 0, 0, 0), some (.iconst 1, 1, 0, 0, 0, 0), some (.iadd, 1, 0, 0, 0, 0), some (.iastore, 1, 0, 0, 0, 0), some (.goto 43, 3, 138, 0, 0, 0)],
  [none, none, some (.aload_n 0, 1, 0, 0, 0, 0), some (.getfield 61, 3, 10, 38, 5, 124), none, none, some (.iload_n 1, 1, 0, 0, 0, 0), some (.aload_n 0, 1, 0, 0, 0, 0), some (.getfield 367, 3, 10, 46, 5, 132), none, none, some (.iastore, 1, 0, 0, 0, 0), some (.aload_n 0, 1, 0, 0, 0, 0), some (.getfield 67, 3, 10, 40, 5, 126), none, none],
  [some (.aload_n 0, 1, 0, 0, 0, 0), some (.getfield 367, 3, 10, 46, 5, 132), none, none, some (.iload_n 1, 1, 0, 0, 0, 0), some (.iastore, 1, 0, 0, 0, 0), some (.aload_n 0, 1, 0, 0, 0, 0), some (.getfield 64, 3, 10, 39, 5, 125), none, none, some (.aload_n 0, 1, 0, 0, 0, 0), some (.getfield 367, 3, 10, 46, 5, 132), none, none, some (.iconst 1, 1, 0, 0, 0, 0), some (.iastore, 1, 0, 0, 0, 0)],
  [some (.aload_n 0, 1, 0, 0, 0, 0), some (.dup, 1, 0, 0, 0, 0), some (.getfield 367, 3, 10, 46, 5, 132), none, none, some (.iconst 1, 1, 0, 0, 0, 0), some (.iadd, 1, 0, 0, 0, 0), some (.putfield 367, 3, 10, 46, 5, 132), none, none, some (.iinc 1 1, 3, 0, 0, 0, 0), none, none, some (.goto (-134), 3, 7, 0, 0, 0), none, none],
  [some (.iconst 0, 1, 0, 0, 0, 0), some (.istore_n 1, 1, 0, 0, 0, 0), some (.iload_n 1, 1, 0, 0, 0, 0), some (.aload_n 0, 1, 0, 0, 0, 0), some (.getfield 367, 3, 10, 46, 5, 132), none, none, some (.if_icmp .ge 66, 3, 217, 0, 0, 0), none, none, some (.iconst 0, 1, 0, 0, 0, 0), some (.istore_n 2, 1, 0, 0, 0, 0), some (.iload_n 2, 1, 0, 0, 0, 0), some (.aload_n 0, 1, 0, 0, 0, 0), some (.getfield 367, 3, 10, 46, 5, 132), none],
  [none, some (.if_icmp .ge 50, 3, 211, 0, 0, 0), none, none, some (.aload_n 0, 1, 0, 0, 0, 0), some (.getfield 82, 3, 10, 45, 5, 131), none, none, some (.bipush 12, 2, 0, 0, 0, 0), none, some (.iload_n 1, 1, 0, 0, 0, 0), some (.imul, 1, 0, 0, 0, 0), some (.iload_n 2, 1, 0, 0, 0, 0), some (.iadd, 1, 0, 0, 0, 0), some (.iload_n 1, 1, 0, 0, 0, 0), some (.iload_n 2, 1, 0, 0, 0, 0)],
  [some (.if_icmp .eq 27, 3, 203, 0, 0, 0), none, none, some (.aload_n 0, 1, 0, 0, 0, 0), some (.aload_n 0, 1, 0, 0, 0, 0), some (.getfield 67, 3, 10, 40, 5, 126), none, none, some (.iload_n 1, 1, 0, 0, 0, 0), some (.iaload, 1, 0, 0, 0, 0), some (.aload_n 0, 1, 0, 0, 0, 0), some (.getfield 67, 3, 10, 40, 5, 126), none, none, some (.iload_n 2, 1, 0, 0, 0, 0), some (.iaload, 1, 0, 0, 0, 0)],
  [some (.invokevirtual 305, 3, 195, 0, 7, 3), none, none, some (.iconst 1, 1, 0, 0, 0, 0), some (.if_icmp .ne 7, 3, 203, 0, 0, 0), none, none, some (.iconst 1, 1, 0, 0, 0, 0), some (.goto 4, 3, 204, 0, 0, 0), none, none, some (.iconst 0, 1, 0, 0, 0, 0), some (.bastore, 1, 0, 0, 0, 0), some (.iinc 2 1, 3, 0, 0, 0, 0), none, none],
  [some (.goto (-52), 3, 156, 0, 0, 0), none, none, some (.iinc 1 1, 3, 0, 0, 0, 0), none, none, some (.goto (-68), 3, 146, 0, 0, 0), none, none, some (.return_, 1, 0, 0, 0, 0), none, none, none, none, none, none]]
def xc_X10_findEnds : List (List (Option xr_R)) := [[some (.aload_n 0, 1, 0, 0, 0, 0), some (.iconst 0, 1, 0, 0, 0, 0), some (.putfield 370, 3, 10, 47, 5, 133), none, none, some (.aload_n 0, 1, 0, 0, 0, 0), some (.iconst 0, 1, 0, 0, 0, 0), some (.putfield 373, 3, 10, 48, 5, 134), none, none, some (.iconst 0, 1, 0, 0, 0, 0), some (.istore_n 1, 1, 0, 0, 0, 0), some (.iload_n 1, 1, 0, 0, 0, 0), some (.aload_n 0, 1, 0, 0, 0, 0), some (.getfield 290, 3, 10, 35, 5, 121), none],
  [none, some (.if_icmp .ge 74, 3, 91, 0, 0, 0), none, none, some (.aload_n 0, 1, 0, 0, 0, 0), some (.iload_n 1, 1, 0, 0, 0, 0), some (.invokevirtual 296, 3, 187, 0, 6, 212), none, none, some (.ifCond .eq 23, 3, 48, 0, 0, 0), none, none, some (.aload_n 0, 1, 0, 0, 0, 0), some (.getfield 76, 3, 10, 43, 5, 129), none, none],
  [some (.aload_n 0, 1, 0, 0, 0, 0), some (.getfield 370, 3, 10, 47, 5, 133), none, none, some (.iload_n 1, 1, 0, 0, 0, 0), some (.iastore, 1, 0, 0, 0, 0), some (.aload_n 0, 1, 0, 0, 0, 0), some (.dup, 1, 0, 0, 0, 0), some (.getfield 370, 3, 10, 47, 5, 133), none, none, some (.iconst 1, 1, 0, 0, 0, 0), some (.iadd, 1, 0, 0, 0, 0), some (.putfield 370, 3, 10, 47, 5, 133), none, none],
  [some (.aload_n 0, 1, 0, 0, 0, 0), some (.iload_n 1, 1, 0, 0, 0, 0), some (.invokevirtual 299, 3, 189, 0, 6, 216), none, none, some (.ifCond .eq 32, 3, 85, 0, 0, 0), none, none, some (.aload_n 0, 1, 0, 0, 0, 0), some (.getfield 79, 3, 10, 44, 5, 130), none, none, some (.aload_n 0, 1, 0, 0, 0, 0), some (.getfield 373, 3, 10, 48, 5, 134), none, none],
  [some (.aload_n 0, 1, 0, 0, 0, 0), some (.getfield 290, 3, 10, 35, 5, 121), none, none, some (.iconst 1, 1, 0, 0, 0, 0), some (.isub, 1, 0, 0, 0, 0), some (.iload_n 1, 1, 0, 0, 0, 0), some (.iconst (-1), 1, 0, 0, 0, 0), some (.ixor, 1, 0, 0, 0, 0), some (.iand, 1, 0, 0, 0, 0), some (.iastore, 1, 0, 0, 0, 0), some (.aload_n 0, 1, 0, 0, 0, 0), some (.dup, 1, 0, 0, 0, 0), some (.getfield 373, 3, 10, 48, 5, 134), none, none],
  [some (.iconst 1, 1, 0, 0, 0, 0), some (.iadd, 1, 0, 0, 0, 0), some (.putfield 373, 3, 10, 48, 5, 134), none, none, some (.iinc 1 1, 3, 0, 0, 0, 0), none, none, some (.goto (-76), 3, 12, 0, 0, 0), none, none, some (.return_, 1, 0, 0, 0, 0), none, none, none, none]]
def xc_X10_sumOf : List (List (Option xr_R)) := [[some (.iconst 0, 1, 0, 0, 0, 0), some (.istore_n 2, 1, 0, 0, 0, 0), some (.iconst 0, 1, 0, 0, 0, 0), some (.istore_n 3, 1, 0, 0, 0, 0), some (.iload_n 3, 1, 0, 0, 0, 0), some (.aload_n 0, 1, 0, 0, 0, 0), some (.getfield 13, 3, 10, 4, 5, 90), none, none, some (.if_icmp .ge 32, 3, 41, 0, 0, 0), none, none, some (.iload_n 1, 1, 0, 0, 0, 0), some (.iload_n 3, 1, 0, 0, 0, 0), some (.ishr, 1, 0, 0, 0, 0), some (.iconst 1, 1, 0, 0, 0, 0)],
  [some (.iand, 1, 0, 0, 0, 0), some (.iconst 1, 1, 0, 0, 0, 0), some (.if_icmp .ne 17, 3, 35, 0, 0, 0), none, none, some (.iload_n 2, 1, 0, 0, 0, 0), some (.aload_n 0, 1, 0, 0, 0, 0), some (.getfield 70, 3, 10, 41, 5, 127), none, none, some (.aload_n 0, 1, 0, 0, 0, 0), some (.getfield 61, 3, 10, 38, 5, 124), none, none, some (.iload_n 3, 1, 0, 0, 0, 0), some (.iaload, 1, 0, 0, 0, 0)],
  [some (.iaload, 1, 0, 0, 0, 0), some (.iadd, 1, 0, 0, 0, 0), some (.istore_n 2, 1, 0, 0, 0, 0), some (.iinc 3 1, 3, 0, 0, 0, 0), none, none, some (.goto (-34), 3, 4, 0, 0, 0), none, none, some (.iload_n 2, 1, 0, 0, 0, 0), some (.ireturn, 1, 0, 0, 0, 0), none, none, none, none, none]]
def xc_X10_isRight : List (List (Option xr_R)) := [[some (.ldc_w 376, 3, 100000, 0, 7, 87), none, none, some (.istore_n 1, 1, 0, 0, 0, 0), some (.iconst 0, 1, 0, 0, 0, 0), some (.istore_n 2, 1, 0, 0, 0, 0), some (.iload_n 2, 1, 0, 0, 0, 0), some (.aload_n 0, 1, 0, 0, 0, 0), some (.getfield 370, 3, 10, 47, 5, 133), none, none, some (.if_icmp .ge 27, 3, 38, 0, 0, 0), none, none, some (.aload_n 0, 1, 0, 0, 0, 0), some (.aload_n 0, 1, 0, 0, 0, 0)],
  [some (.getfield 76, 3, 10, 43, 5, 129), none, none, some (.iload_n 2, 1, 0, 0, 0, 0), some (.iaload, 1, 0, 0, 0, 0), some (.invokevirtual 377, 3, 213, 0, 7, 88), none, none, some (.istore_n 3, 1, 0, 0, 0, 0), some (.iload_n 3, 1, 0, 0, 0, 0), some (.iload_n 1, 1, 0, 0, 0, 0), some (.if_icmp .ge 5, 3, 32, 0, 0, 0), none, none, some (.iload_n 3, 1, 0, 0, 0, 0), some (.istore_n 1, 1, 0, 0, 0, 0)],
  [some (.iinc 2 1, 3, 0, 0, 0, 0), none, none, some (.goto (-29), 3, 6, 0, 0, 0), none, none, some (.iconst 0, 1, 0, 0, 0, 0), some (.istore_n 2, 1, 0, 0, 0, 0), some (.iload_n 2, 1, 0, 0, 0, 0), some (.aload_n 0, 1, 0, 0, 0, 0), some (.getfield 373, 3, 10, 48, 5, 134), none, none, some (.if_icmp .ge 25, 3, 70, 0, 0, 0), none, none],
  [some (.aload_n 0, 1, 0, 0, 0, 0), some (.aload_n 0, 1, 0, 0, 0, 0), some (.getfield 79, 3, 10, 44, 5, 130), none, none, some (.iload_n 2, 1, 0, 0, 0, 0), some (.iaload, 1, 0, 0, 0, 0), some (.invokevirtual 377, 3, 213, 0, 7, 88), none, none, some (.iload_n 1, 1, 0, 0, 0, 0), some (.if_icmp .lt 5, 3, 64, 0, 0, 0), none, none, some (.iconst 0, 1, 0, 0, 0, 0), some (.ireturn, 1, 0, 0, 0, 0)],
  [some (.iinc 2 1, 3, 0, 0, 0, 0), none, none, some (.goto (-27), 3, 40, 0, 0, 0), none, none, some (.aload_n 0, 1, 0, 0, 0, 0), some (.iload_n 1, 1, 0, 0, 0, 0), some (.putfield 380, 3, 10, 50, 5, 136), none, none, some (.iconst 1, 1, 0, 0, 0, 0), some (.ireturn, 1, 0, 0, 0, 0), none, none, none]]
def xc_X10_mayBe : List (List (Option xr_R)) := [[some (.iconst 0, 1, 0, 0, 0, 0), some (.istore_n 3, 1, 0, 0, 0, 0), some (.iload_n 3, 1, 0, 0, 0, 0), some (.iload_n 1, 1, 0, 0, 0, 0), some (.if_icmp .ge 61, 3, 65, 0, 0, 0), none, none, some (.aload_n 0, 1, 0, 0, 0, 0), some (.getfield 82, 3, 10, 45, 5, 131), none, none, some (.bipush 12, 2, 0, 0, 0, 0), none, some (.iload_n 3, 1, 0, 0, 0, 0), some (.imul, 1, 0, 0, 0, 0), some (.iload_n 1, 1, 0, 0, 0, 0)],
  [some (.iadd, 1, 0, 0, 0, 0), some (.baload, 1, 0, 0, 0, 0), some (.ifCond .eq 15, 3, 33, 0, 0, 0), none, none, some (.aload_n 0, 1, 0, 0, 0, 0), some (.getfield 70, 3, 10, 41, 5, 127), none, none, some (.iload_n 3, 1, 0, 0, 0, 0), some (.iaload, 1, 0, 0, 0, 0), some (.iload_n 2, 1, 0, 0, 0, 0), some (.if_icmp .gt 5, 3, 33, 0, 0, 0), none, none, some (.iconst 0, 1, 0, 0, 0, 0)],
  [some (.ireturn, 1, 0, 0, 0, 0), some (.aload_n 0, 1, 0, 0, 0, 0), some (.getfield 82, 3, 10, 45, 5, 131), none, none, some (.bipush 12, 2, 0, 0, 0, 0), none, some (.iload_n 1, 1, 0, 0, 0, 0), some (.imul, 1, 0, 0, 0, 0), some (.iload_n 3, 1, 0, 0, 0, 0), some (.iadd, 1, 0, 0, 0, 0), some (.baload, 1, 0, 0, 0, 0), some (.ifCond .eq 15, 3, 59, 0, 0, 0), none, none, some (.iload_n 2, 1, 0, 0, 0, 0)],
  [some (.aload_n 0, 1, 0, 0, 0, 0), some (.getfield 70, 3, 10, 41, 5, 127), none, none, some (.iload_n 3, 1, 0, 0, 0, 0), some (.iaload, 1, 0, 0, 0, 0), some (.if_icmp .gt 5, 3, 59, 0, 0, 0), none, none, some (.iconst 0, 1, 0, 0, 0, 0), some (.ireturn, 1, 0, 0, 0, 0), some (.iinc 3 1, 3, 0, 0, 0, 0), none, none, some (.goto (-60), 3, 2, 0, 0, 0), none],
  [none, some (.iconst 1, 1, 0, 0, 0, 0), some (.ireturn, 1, 0, 0, 0, 0), none, none, none, none, none, none, none, none, none, none, none, none, none]]
def xc_X10_trySum : List (List (Option xr_R)) := [[some (.iconst 0, 1, 0, 0, 0, 0), some (.istore_n 2, 1, 0, 0, 0, 0), some (.iload_n 1, 1, 0, 0, 0, 0), some (.istore_n 3, 1, 0, 0, 0, 0), some (.aload_n 0, 1, 0, 0, 0, 0), some (.getfield 70, 3, 10, 41, 5, 127), none, none, some (.iconst 0, 1, 0, 0, 0, 0), some (.bipush 100, 2, 0, 0, 0, 0), none, some (.iastore, 1, 0, 0, 0, 0), some (.iload_n 2, 1, 0, 0, 0, 0), some (.ifCond .lt 171, 3, 184, 0, 0, 0), none, none],
  [some (.aload_n 0, 1, 0, 0, 0, 0), some (.getfield 70, 3, 10, 41, 5, 127), none, none, some (.iload_n 2, 1, 0, 0, 0, 0), some (.iaload, 1, 0, 0, 0, 0), some (.bipush 100, 2, 0, 0, 0, 0), none, some (.if_icmp .ge 19, 3, 43, 0, 0, 0), none, none, some (.iload_n 3, 1, 0, 0, 0, 0), some (.aload_n 0, 1, 0, 0, 0, 0), some (.getfield 64, 3, 10, 39, 5, 125), none, none],
  [some (.iload_n 2, 1, 0, 0, 0, 0), some (.iaload, 1, 0, 0, 0, 0), some (.aload_n 0, 1, 0, 0, 0, 0), some (.getfield 70, 3, 10, 41, 5, 127), none, none, some (.iload_n 2, 1, 0, 0, 0, 0), some (.iaload, 1, 0, 0, 0, 0), some (.imul, 1, 0, 0, 0, 0), some (.iadd, 1, 0, 0, 0, 0), some (.istore_n 3, 1, 0, 0, 0, 0), some (.aload_n 0, 1, 0, 0, 0, 0), some (.getfield 70, 3, 10, 41, 5, 127), none, none, some (.iload_n 2, 1, 0, 0, 0, 0)],
  [some (.iaload, 1, 0, 0, 0, 0), some (.iconst 1, 1, 0, 0, 0, 0), some (.isub, 1, 0, 0, 0, 0), some (.istore 4, 2, 0, 0, 0, 0), none, some (.iload 4, 2, 0, 0, 0, 0), none, some (.ifCond .lt 32, 3, 87, 0, 0, 0), none, none, some (.aload_n 0, 1, 0, 0, 0, 0), some (.getfield 64, 3, 10, 39, 5, 125), none, none, some (.iload_n 2, 1, 0, 0, 0, 0), some (.iaload, 1, 0, 0, 0, 0)],
  [some (.iload 4, 2, 0, 0, 0, 0), none, some (.imul, 1, 0, 0, 0, 0), some (.iload_n 3, 1, 0, 0, 0, 0), some (.if_icmp .gt 13, 3, 81, 0, 0, 0), none, none, some (.aload_n 0, 1, 0, 0, 0, 0), some (.iload_n 2, 1, 0, 0, 0, 0), some (.iload 4, 2, 0, 0, 0, 0), none, some (.invokevirtual 383, 3, 215, 0, 7, 79), none, none, some (.ifCond .ne 9, 3, 87, 0, 0, 0), none],
  [none, some (.iinc 4 (-1), 3, 0, 0, 0, 0), none, none, some (.goto (-31), 3, 53, 0, 0, 0), none, none, some (.iload 4, 2, 0, 0, 0, 0), none, some (.ifCond .ge 9, 3, 98, 0, 0, 0), none, none, some (.iinc 2 (-1), 3, 0, 0, 0, 0), none, none, some (.goto (-83), 3, 12, 0, 0, 0)],
  [none, none, some (.aload_n 0, 1, 0, 0, 0, 0), some (.getfield 70, 3, 10, 41, 5, 127), none, none, some (.iload_n 2, 1, 0, 0, 0, 0), some (.iload 4, 2, 0, 0, 0, 0), none, some (.iastore, 1, 0, 0, 0, 0), some (.iload_n 3, 1, 0, 0, 0, 0), some (.aload_n 0, 1, 0, 0, 0, 0), some (.getfield 64, 3, 10, 39, 5, 125), none, none, some (.iload_n 2, 1, 0, 0, 0, 0)],
  [some (.iaload, 1, 0, 0, 0, 0), some (.iload 4, 2, 0, 0, 0, 0), none, some (.imul, 1, 0, 0, 0, 0), some (.isub, 1, 0, 0, 0, 0), some (.istore_n 3, 1, 0, 0, 0, 0), some (.iload_n 2, 1, 0, 0, 0, 0), some (.aload_n 0, 1, 0, 0, 0, 0), some (.getfield 367, 3, 10, 46, 5, 132), none, none, some (.iconst 1, 1, 0, 0, 0, 0), some (.isub, 1, 0, 0, 0, 0), some (.if_icmp .ge 17, 3, 142, 0, 0, 0), none, none],
  [some (.iinc 2 1, 3, 0, 0, 0, 0), none, none, some (.aload_n 0, 1, 0, 0, 0, 0), some (.getfield 70, 3, 10, 41, 5, 127), none, none, some (.iload_n 2, 1, 0, 0, 0, 0), some (.bipush 100, 2, 0, 0, 0, 0), none, some (.iastore, 1, 0, 0, 0, 0), some (.goto (-127), 3, 12, 0, 0, 0), none, none, some (.iload_n 3, 1, 0, 0, 0, 0), some (.ifCond .le 6, 3, 149, 0, 0, 0)],
  [none, none, some (.goto (-134), 3, 12, 0, 0, 0), none, none, some (.aload_n 0, 1, 0, 0, 0, 0), some (.dup, 1, 0, 0, 0, 0), some (.getfield 386, 3, 10, 49, 5, 135), none, none, some (.iconst 1, 1, 0, 0, 0, 0), some (.iadd, 1, 0, 0, 0, 0), some (.putfield 386, 3, 10, 49, 5, 135), none, none, some (.aload_n 0, 1, 0, 0, 0, 0)],
  [some (.getfield 386, 3, 10, 49, 5, 135), none, none, some (.sipush 5000, 3, 0, 0, 0, 0), none, none, some (.if_icmp .le 6, 3, 172, 0, 0, 0), none, none, some (.bipush (-2), 2, 0, 0, 0, 0), none, some (.ireturn, 1, 0, 0, 0, 0), some (.aload_n 0, 1, 0, 0, 0, 0), some (.invokevirtual 389, 3, 214, 0, 7, 83), none, none],
  [some (.ifCond .eq 5, 3, 181, 0, 0, 0), none, none, some (.iconst 1, 1, 0, 0, 0, 0), some (.ireturn, 1, 0, 0, 0, 0), some (.goto (-169), 3, 12, 0, 0, 0), none, none, some (.iconst 0, 1, 0, 0, 0, 0), some (.ireturn, 1, 0, 0, 0, 0), none, none, none, none, none, none]]
def xc_X10_weigh : List (List (Option xr_R)) := [[some (.aload_n 0, 1, 0, 0, 0, 0), some (.iconst 0, 1, 0, 0, 0, 0), some (.putfield 112, 3, 10, 0, 5, 86), none, none, some (.aload_n 0, 1, 0, 0, 0, 0), some (.invokevirtual 308, 3, 186, 0, 6, 200), none, none, some (.aload_n 0, 1, 0, 0, 0, 0), some (.invokevirtual 327, 3, 196, 0, 6, 239), none, none, some (.ifCond .eq 26, 3, 39, 0, 0, 0), none, none],
  [some (.aload_n 0, 1, 0, 0, 0, 0), some (.getfield 58, 3, 10, 34, 5, 120), none, none, some (.iconst 0, 1, 0, 0, 0, 0), some (.baload, 1, 0, 0, 0, 0), some (.ifCond .ne 17, 3, 39, 0, 0, 0), none, none, some (.aload_n 0, 1, 0, 0, 0, 0), some (.getfield 58, 3, 10, 34, 5, 120), none, none, some (.aload_n 0, 1, 0, 0, 0, 0), some (.getfield 290, 3, 10, 35, 5, 121), none],
  [none, some (.iconst 1, 1, 0, 0, 0, 0), some (.isub, 1, 0, 0, 0, 0), some (.baload, 1, 0, 0, 0, 0), some (.ifCond .ne 5, 3, 41, 0, 0, 0), none, none, some (.iconst (-1), 1, 0, 0, 0, 0), some (.ireturn, 1, 0, 0, 0, 0), some (.aload_n 0, 1, 0, 0, 0, 0), some (.invokevirtual 392, 3, 211, 0, 7, 67), none, none, some (.aload_n 0, 1, 0, 0, 0, 0), some (.invokevirtual 395, 3, 212, 0, 7, 71), none],
  [none, some (.aload_n 0, 1, 0, 0, 0, 0), some (.iconst 0, 1, 0, 0, 0, 0), some (.putfield 386, 3, 10, 49, 5, 135), none, none, some (.iconst 0, 1, 0, 0, 0, 0), some (.istore_n 1, 1, 0, 0, 0, 0), some (.iload_n 1, 1, 0, 0, 0, 0), some (.bipush 60, 2, 0, 0, 0, 0), none, some (.if_icmp .gt 88, 3, 147, 0, 0, 0), none, none, some (.aload_n 0, 1, 0, 0, 0, 0), some (.iload_n 1, 1, 0, 0, 0, 0)],
  [some (.invokevirtual 398, 3, 216, 0, 7, 75), none, none, some (.istore_n 2, 1, 0, 0, 0, 0), some (.iload_n 2, 1, 0, 0, 0, 0), some (.ifCond .ne 6, 3, 75, 0, 0, 0), none, none, some (.goto 69, 3, 141, 0, 0, 0), none, none, some (.iload_n 2, 1, 0, 0, 0, 0), some (.ifCond .ge 6, 3, 82, 0, 0, 0), none, none, some (.bipush (-2), 2, 0, 0, 0, 0)],
  [none, some (.ireturn, 1, 0, 0, 0, 0), some (.iconst 0, 1, 0, 0, 0, 0), some (.istore_n 3, 1, 0, 0, 0, 0), some (.iload_n 3, 1, 0, 0, 0, 0), some (.aload_n 0, 1, 0, 0, 0, 0), some (.getfield 13, 3, 10, 4, 5, 90), none, none, some (.if_icmp .ge 26, 3, 115, 0, 0, 0), none, none, some (.aload_n 0, 1, 0, 0, 0, 0), some (.getfield 73, 3, 10, 42, 5, 128), none, none],
  [some (.iload_n 3, 1, 0, 0, 0, 0), some (.aload_n 0, 1, 0, 0, 0, 0), some (.getfield 70, 3, 10, 41, 5, 127), none, none, some (.aload_n 0, 1, 0, 0, 0, 0), some (.getfield 61, 3, 10, 38, 5, 124), none, none, some (.iload_n 3, 1, 0, 0, 0, 0), some (.iaload, 1, 0, 0, 0, 0), some (.iaload, 1, 0, 0, 0, 0), some (.iastore, 1, 0, 0, 0, 0), some (.iinc 3 1, 3, 0, 0, 0, 0), none, none],
  [some (.goto (-28), 3, 84, 0, 0, 0), none, none, some (.aload_n 0, 1, 0, 0, 0, 0), some (.getfield 73, 3, 10, 42, 5, 128), none, none, some (.bipush 12, 2, 0, 0, 0, 0), none, some (.aload_n 0, 1, 0, 0, 0, 0), some (.getfield 380, 3, 10, 50, 5, 136), none, none, some (.iastore, 1, 0, 0, 0, 0), some (.aload_n 0, 1, 0, 0, 0, 0), some (.aload_n 0, 1, 0, 0, 0, 0)],
  [some (.getfield 13, 3, 10, 4, 5, 90), none, none, some (.putfield 401, 3, 10, 52, 5, 138), none, none, some (.aload_n 0, 1, 0, 0, 0, 0), some (.iconst 1, 1, 0, 0, 0, 0), some (.putfield 404, 3, 10, 51, 5, 137), none, none, some (.iload_n 1, 1, 0, 0, 0, 0), some (.ireturn, 1, 0, 0, 0, 0), some (.iinc 1 1, 3, 0, 0, 0, 0), none, none],
  [some (.goto (-88), 3, 56, 0, 0, 0), none, none, some (.iconst (-1), 1, 0, 0, 0, 0), some (.ireturn, 1, 0, 0, 0, 0), none, none, none, none, none, none, none, none, none, none, none]]
def xc_X10_weight : List (List (Option xr_R)) := [[some (.aload_n 0, 1, 0, 0, 0, 0), some (.iconst 0, 1, 0, 0, 0, 0), some (.putfield 112, 3, 10, 0, 5, 86), none, none, some (.aload_n 0, 1, 0, 0, 0, 0), some (.getfield 404, 3, 10, 51, 5, 137), none, none, some (.ifCond .eq 30, 3, 39, 0, 0, 0), none, none, some (.iload_n 1, 1, 0, 0, 0, 0), some (.ifCond .lt 11, 3, 24, 0, 0, 0), none, none],
  [some (.iload_n 1, 1, 0, 0, 0, 0), some (.aload_n 0, 1, 0, 0, 0, 0), some (.getfield 401, 3, 10, 52, 5, 138), none, none, some (.if_icmp .lt 9, 3, 30, 0, 0, 0), none, none, some (.iload_n 1, 1, 0, 0, 0, 0), some (.bipush 12, 2, 0, 0, 0, 0), none, some (.if_icmp .ne 12, 3, 39, 0, 0, 0), none, none, some (.aload_n 0, 1, 0, 0, 0, 0), some (.getfield 73, 3, 10, 42, 5, 128)],
  [none, none, some (.iload_n 1, 1, 0, 0, 0, 0), some (.iaload, 1, 0, 0, 0, 0), some (.goto 4, 3, 40, 0, 0, 0), none, none, some (.iconst (-1), 1, 0, 0, 0, 0), some (.ireturn, 1, 0, 0, 0, 0), none, none, none, none, none, none, none]]
def xc_X10_areOptions : List (List (Option xr_R)) := [[some (.iconst 0, 1, 0, 0, 0, 0), some (.istore_n 2, 1, 0, 0, 0, 0), some (.iconst 0, 1, 0, 0, 0, 0), some (.istore_n 3, 1, 0, 0, 0, 0), some (.iload_n 3, 1, 0, 0, 0, 0), some (.iload_n 1, 1, 0, 0, 0, 0), some (.if_icmp .ge 47, 3, 53, 0, 0, 0), none, none, some (.aload_n 0, 1, 0, 0, 0, 0), some (.getfield 7, 3, 10, 1, 5, 87), none, none, some (.iload_n 3, 1, 0, 0, 0, 0), some (.iaload, 1, 0, 0, 0, 0), some (.bipush 7, 2, 0, 0, 0, 0)],
  [none, some (.if_icmp .ge 17, 3, 34, 0, 0, 0), none, none, some (.iload_n 2, 1, 0, 0, 0, 0), some (.aload_n 0, 1, 0, 0, 0, 0), some (.getfield 7, 3, 10, 1, 5, 87), none, none, some (.iload_n 3, 1, 0, 0, 0, 0), some (.iaload, 1, 0, 0, 0, 0), some (.ishr, 1, 0, 0, 0, 0), some (.iconst 1, 1, 0, 0, 0, 0), some (.iand, 1, 0, 0, 0, 0), some (.iconst 1, 1, 0, 0, 0, 0), some (.if_icmp .ne 5, 3, 36, 0, 0, 0)],
  [none, none, some (.iconst 0, 1, 0, 0, 0, 0), some (.ireturn, 1, 0, 0, 0, 0), some (.iload_n 2, 1, 0, 0, 0, 0), some (.iconst 1, 1, 0, 0, 0, 0), some (.aload_n 0, 1, 0, 0, 0, 0), some (.getfield 7, 3, 10, 1, 5, 87), none, none, some (.iload_n 3, 1, 0, 0, 0, 0), some (.iaload, 1, 0, 0, 0, 0), some (.ishl, 1, 0, 0, 0, 0), some (.ior, 1, 0, 0, 0, 0), some (.istore_n 2, 1, 0, 0, 0, 0), some (.iinc 3 1, 3, 0, 0, 0, 0)],
  [none, none, some (.goto (-46), 3, 4, 0, 0, 0), none, none, some (.iconst 1, 1, 0, 0, 0, 0), some (.ireturn, 1, 0, 0, 0, 0), none, none, none, none, none, none, none, none, none]]
def xc_X10_rank : List (List (Option xr_R)) := [[some (.aload_n 0, 1, 0, 0, 0, 0), some (.iconst 0, 1, 0, 0, 0, 0), some (.putfield 112, 3, 10, 0, 5, 86), none, none, some (.aload_n 0, 1, 0, 0, 0, 0), some (.invokevirtual 274, 3, 148, 0, 6, 66), none, none, some (.istore_n 2, 1, 0, 0, 0, 0), some (.aload_n 0, 1, 0, 0, 0, 0), some (.iload_n 1, 1, 0, 0, 0, 0), some (.invokevirtual 252, 3, 152, 0, 6, 156), none, none, some (.ifCond .eq 17, 3, 32, 0, 0, 0)],
  [none, none, some (.iload_n 2, 1, 0, 0, 0, 0), some (.bipush 7, 2, 0, 0, 0, 0), none, some (.if_icmp .ne 11, 3, 32, 0, 0, 0), none, none, some (.aload_n 0, 1, 0, 0, 0, 0), some (.iload_n 2, 1, 0, 0, 0, 0), some (.invokevirtual 407, 3, 219, 0, 7, 100), none, none, some (.ifCond .ne 5, 3, 34, 0, 0, 0), none, none],
  [some (.iconst 0, 1, 0, 0, 0, 0), some (.ireturn, 1, 0, 0, 0, 0), some (.iconst 0, 1, 0, 0, 0, 0), some (.istore_n 3, 1, 0, 0, 0, 0), some (.iload_n 3, 1, 0, 0, 0, 0), some (.bipush 7, 2, 0, 0, 0, 0), none, some (.if_icmp .ge 26, 3, 65, 0, 0, 0), none, none, some (.aload_n 0, 1, 0, 0, 0, 0), some (.getfield 85, 3, 10, 53, 5, 139), none, none, some (.bipush 7, 2, 0, 0, 0, 0), none],
  [some (.iload_n 1, 1, 0, 0, 0, 0), some (.imul, 1, 0, 0, 0, 0), some (.aload_n 0, 1, 0, 0, 0, 0), some (.getfield 7, 3, 10, 1, 5, 87), none, none, some (.iload_n 3, 1, 0, 0, 0, 0), some (.iaload, 1, 0, 0, 0, 0), some (.iadd, 1, 0, 0, 0, 0), some (.iload_n 3, 1, 0, 0, 0, 0), some (.iastore, 1, 0, 0, 0, 0), some (.iinc 3 1, 3, 0, 0, 0, 0), none, none, some (.goto (-26), 3, 36, 0, 0, 0), none],
  [none, some (.aload_n 0, 1, 0, 0, 0, 0), some (.iconst 1, 1, 0, 0, 0, 0), some (.putfield 135, 3, 10, 5, 5, 91), none, none, some (.iconst 1, 1, 0, 0, 0, 0), some (.ireturn, 1, 0, 0, 0, 0), none, none, none, none, none, none, none, none]]
def xc_X10_beatsOf : List (List (Option xr_R)) := [[some (.iconst 0, 1, 0, 0, 0, 0), some (.istore_n 3, 1, 0, 0, 0, 0), some (.iconst 0, 1, 0, 0, 0, 0), some (.istore 4, 2, 0, 0, 0, 0), none, some (.iload 4, 2, 0, 0, 0, 0), none, some (.aload_n 0, 1, 0, 0, 0, 0), some (.getfield 13, 3, 10, 4, 5, 90), none, none, some (.if_icmp .ge 43, 3, 54, 0, 0, 0), none, none, some (.aload_n 0, 1, 0, 0, 0, 0), some (.getfield 85, 3, 10, 53, 5, 139)],
  [none, none, some (.bipush 7, 2, 0, 0, 0, 0), none, some (.iload 4, 2, 0, 0, 0, 0), none, some (.imul, 1, 0, 0, 0, 0), some (.iload_n 1, 1, 0, 0, 0, 0), some (.iadd, 1, 0, 0, 0, 0), some (.iaload, 1, 0, 0, 0, 0), some (.aload_n 0, 1, 0, 0, 0, 0), some (.getfield 85, 3, 10, 53, 5, 139), none, none, some (.bipush 7, 2, 0, 0, 0, 0), none],
  [some (.iload 4, 2, 0, 0, 0, 0), none, some (.imul, 1, 0, 0, 0, 0), some (.iload_n 2, 1, 0, 0, 0, 0), some (.iadd, 1, 0, 0, 0, 0), some (.iaload, 1, 0, 0, 0, 0), some (.if_icmp .ge 10, 3, 48, 0, 0, 0), none, none, some (.iload_n 3, 1, 0, 0, 0, 0), some (.iconst 1, 1, 0, 0, 0, 0), some (.iload 4, 2, 0, 0, 0, 0), none, some (.ishl, 1, 0, 0, 0, 0), some (.ior, 1, 0, 0, 0, 0), some (.istore_n 3, 1, 0, 0, 0, 0)],
  [some (.iinc 4 1, 3, 0, 0, 0, 0), none, none, some (.goto (-46), 3, 5, 0, 0, 0), none, none, some (.aload_n 0, 1, 0, 0, 0, 0), some (.getfield 58, 3, 10, 34, 5, 120), none, none, some (.iload_n 3, 1, 0, 0, 0, 0), some (.baload, 1, 0, 0, 0, 0), some (.ireturn, 1, 0, 0, 0, 0), none, none, none]]
def xc_X10_layOptions : List (List (Option xr_R)) := [[some (.aload_n 0, 1, 0, 0, 0, 0), some (.invokevirtual 308, 3, 186, 0, 6, 200), none, none, some (.iconst 0, 1, 0, 0, 0, 0), some (.istore_n 1, 1, 0, 0, 0, 0), some (.iload_n 1, 1, 0, 0, 0, 0), some (.bipush 7, 2, 0, 0, 0, 0), none, some (.if_icmp .ge 75, 3, 84, 0, 0, 0), none, none, some (.iconst 0, 1, 0, 0, 0, 0), some (.istore_n 2, 1, 0, 0, 0, 0), some (.iload_n 2, 1, 0, 0, 0, 0), some (.bipush 7, 2, 0, 0, 0, 0)],
  [none, some (.if_icmp .ge 61, 3, 78, 0, 0, 0), none, none, some (.aload_n 0, 1, 0, 0, 0, 0), some (.getfield 88, 3, 10, 54, 5, 140), none, none, some (.bipush 7, 2, 0, 0, 0, 0), none, some (.iload_n 1, 1, 0, 0, 0, 0), some (.imul, 1, 0, 0, 0, 0), some (.iload_n 2, 1, 0, 0, 0, 0), some (.iadd, 1, 0, 0, 0, 0), some (.iload_n 1, 1, 0, 0, 0, 0), some (.iload_n 2, 1, 0, 0, 0, 0)],
  [some (.if_icmp .eq 16, 3, 48, 0, 0, 0), none, none, some (.aload_n 0, 1, 0, 0, 0, 0), some (.iload_n 1, 1, 0, 0, 0, 0), some (.iload_n 2, 1, 0, 0, 0, 0), some (.invokevirtual 410, 3, 221, 0, 7, 115), none, none, some (.ifCond .eq 7, 3, 48, 0, 0, 0), none, none, some (.iconst 1, 1, 0, 0, 0, 0), some (.goto 4, 3, 49, 0, 0, 0), none, none],
  [some (.iconst 0, 1, 0, 0, 0, 0), some (.bastore, 1, 0, 0, 0, 0), some (.aload_n 0, 1, 0, 0, 0, 0), some (.getfield 91, 3, 10, 55, 5, 141), none, none, some (.bipush 7, 2, 0, 0, 0, 0), none, some (.iload_n 2, 1, 0, 0, 0, 0), some (.imul, 1, 0, 0, 0, 0), some (.iload_n 1, 1, 0, 0, 0, 0), some (.iadd, 1, 0, 0, 0, 0), some (.aload_n 0, 1, 0, 0, 0, 0), some (.getfield 88, 3, 10, 54, 5, 140), none, none],
  [some (.bipush 7, 2, 0, 0, 0, 0), none, some (.iload_n 1, 1, 0, 0, 0, 0), some (.imul, 1, 0, 0, 0, 0), some (.iload_n 2, 1, 0, 0, 0, 0), some (.iadd, 1, 0, 0, 0, 0), some (.baload, 1, 0, 0, 0, 0), some (.bastore, 1, 0, 0, 0, 0), some (.iinc 2 1, 3, 0, 0, 0, 0), none, none, some (.goto (-61), 3, 14, 0, 0, 0), none, none, some (.iinc 1 1, 3, 0, 0, 0, 0), none],
  [none, some (.goto (-75), 3, 6, 0, 0, 0), none, none, some (.iconst 0, 1, 0, 0, 0, 0), some (.istore_n 1, 1, 0, 0, 0, 0), some (.iload_n 1, 1, 0, 0, 0, 0), some (.bipush 7, 2, 0, 0, 0, 0), none, some (.if_icmp .ge 77, 3, 166, 0, 0, 0), none, none, some (.iconst 0, 1, 0, 0, 0, 0), some (.istore_n 2, 1, 0, 0, 0, 0), some (.iload_n 2, 1, 0, 0, 0, 0), some (.bipush 7, 2, 0, 0, 0, 0)],
  [none, some (.if_icmp .ge 63, 3, 160, 0, 0, 0), none, none, some (.iconst 0, 1, 0, 0, 0, 0), some (.istore_n 3, 1, 0, 0, 0, 0), some (.iload_n 3, 1, 0, 0, 0, 0), some (.bipush 7, 2, 0, 0, 0, 0), none, some (.if_icmp .ge 49, 3, 154, 0, 0, 0), none, none, some (.aload_n 0, 1, 0, 0, 0, 0), some (.getfield 91, 3, 10, 55, 5, 141), none, none],
  [some (.bipush 7, 2, 0, 0, 0, 0), none, some (.iload_n 2, 1, 0, 0, 0, 0), some (.imul, 1, 0, 0, 0, 0), some (.iload_n 1, 1, 0, 0, 0, 0), some (.iadd, 1, 0, 0, 0, 0), some (.baload, 1, 0, 0, 0, 0), some (.ifCond .eq 29, 3, 148, 0, 0, 0), none, none, some (.aload_n 0, 1, 0, 0, 0, 0), some (.getfield 91, 3, 10, 55, 5, 141), none, none, some (.bipush 7, 2, 0, 0, 0, 0), none],
  [some (.iload_n 1, 1, 0, 0, 0, 0), some (.imul, 1, 0, 0, 0, 0), some (.iload_n 3, 1, 0, 0, 0, 0), some (.iadd, 1, 0, 0, 0, 0), some (.baload, 1, 0, 0, 0, 0), some (.ifCond .eq 15, 3, 148, 0, 0, 0), none, none, some (.aload_n 0, 1, 0, 0, 0, 0), some (.getfield 91, 3, 10, 55, 5, 141), none, none, some (.bipush 7, 2, 0, 0, 0, 0), none, some (.iload_n 2, 1, 0, 0, 0, 0), some (.imul, 1, 0, 0, 0, 0)],
  [some (.iload_n 3, 1, 0, 0, 0, 0), some (.iadd, 1, 0, 0, 0, 0), some (.iconst 1, 1, 0, 0, 0, 0), some (.bastore, 1, 0, 0, 0, 0), some (.iinc 3 1, 3, 0, 0, 0, 0), none, none, some (.goto (-49), 3, 102, 0, 0, 0), none, none, some (.iinc 2 1, 3, 0, 0, 0, 0), none, none, some (.goto (-63), 3, 94, 0, 0, 0), none, none],
  [some (.iinc 1 1, 3, 0, 0, 0, 0), none, none, some (.goto (-77), 3, 86, 0, 0, 0), none, none, some (.return_, 1, 0, 0, 0, 0), none, none, none, none, none, none, none, none, none]]
def xc_X10_isOption : List (List (Option xr_R)) := [[some (.iload_n 0, 1, 0, 0, 0, 0), some (.ifCond .lt 13, 3, 14, 0, 0, 0), none, none, some (.iload_n 0, 1, 0, 0, 0, 0), some (.bipush 7, 2, 0, 0, 0, 0), none, some (.if_icmp .ge 7, 3, 14, 0, 0, 0), none, none, some (.iconst 1, 1, 0, 0, 0, 0), some (.goto 4, 3, 15, 0, 0, 0), none, none, some (.iconst 0, 1, 0, 0, 0, 0), some (.ireturn, 1, 0, 0, 0, 0)]]
def xc_X10_beats : List (List (Option xr_R)) := [[some (.aload_n 0, 1, 0, 0, 0, 0), some (.iconst 0, 1, 0, 0, 0, 0), some (.putfield 112, 3, 10, 0, 5, 86), none, none, some (.iload_n 1, 1, 0, 0, 0, 0), some (.invokestatic 413, 3, 223, 0, 7, 108), none, none, some (.ifCond .eq 15, 3, 24, 0, 0, 0), none, none, some (.iload_n 2, 1, 0, 0, 0, 0), some (.invokestatic 413, 3, 223, 0, 7, 108), none, none],
  [some (.ifCond .eq 8, 3, 24, 0, 0, 0), none, none, some (.iload_n 1, 1, 0, 0, 0, 0), some (.iload_n 2, 1, 0, 0, 0, 0), some (.if_icmp .ne 5, 3, 26, 0, 0, 0), none, none, some (.iconst (-1), 1, 0, 0, 0, 0), some (.ireturn, 1, 0, 0, 0, 0), some (.aload_n 0, 1, 0, 0, 0, 0), some (.invokevirtual 416, 3, 222, 0, 7, 111), none, none, some (.aload_n 0, 1, 0, 0, 0, 0), some (.getfield 88, 3, 10, 54, 5, 140)],
  [none, none, some (.bipush 7, 2, 0, 0, 0, 0), none, some (.iload_n 1, 1, 0, 0, 0, 0), some (.imul, 1, 0, 0, 0, 0), some (.iload_n 2, 1, 0, 0, 0, 0), some (.iadd, 1, 0, 0, 0, 0), some (.baload, 1, 0, 0, 0, 0), some (.ifCond .eq 7, 3, 48, 0, 0, 0), none, none, some (.iconst 1, 1, 0, 0, 0, 0), some (.goto 4, 3, 49, 0, 0, 0), none, none],
  [some (.iconst 0, 1, 0, 0, 0, 0), some (.ireturn, 1, 0, 0, 0, 0), none, none, none, none, none, none, none, none, none, none, none, none, none, none]]
def xc_X10_free : List (List (Option xr_R)) := [[some (.aload_n 0, 1, 0, 0, 0, 0), some (.iconst 0, 1, 0, 0, 0, 0), some (.putfield 112, 3, 10, 0, 5, 86), none, none, some (.aload_n 0, 1, 0, 0, 0, 0), some (.invokevirtual 416, 3, 222, 0, 7, 111), none, none, some (.iconst 0, 1, 0, 0, 0, 0), some (.istore_n 1, 1, 0, 0, 0, 0), some (.iconst 0, 1, 0, 0, 0, 0), some (.istore_n 2, 1, 0, 0, 0, 0), some (.iload_n 2, 1, 0, 0, 0, 0), some (.bipush 7, 2, 0, 0, 0, 0), none],
  [some (.if_icmp .ge 54, 3, 70, 0, 0, 0), none, none, some (.iconst 1, 1, 0, 0, 0, 0), some (.istore_n 3, 1, 0, 0, 0, 0), some (.iconst 0, 1, 0, 0, 0, 0), some (.istore 4, 2, 0, 0, 0, 0), none, some (.iload 4, 2, 0, 0, 0, 0), none, some (.bipush 7, 2, 0, 0, 0, 0), none, some (.if_icmp .ge 26, 3, 54, 0, 0, 0), none, none, some (.aload_n 0, 1, 0, 0, 0, 0)],
  [some (.getfield 88, 3, 10, 54, 5, 140), none, none, some (.bipush 7, 2, 0, 0, 0, 0), none, some (.iload 4, 2, 0, 0, 0, 0), none, some (.imul, 1, 0, 0, 0, 0), some (.iload_n 2, 1, 0, 0, 0, 0), some (.iadd, 1, 0, 0, 0, 0), some (.baload, 1, 0, 0, 0, 0), some (.ifCond .eq 5, 3, 48, 0, 0, 0), none, none, some (.iconst 0, 1, 0, 0, 0, 0), some (.istore_n 3, 1, 0, 0, 0, 0)],
  [some (.iinc 4 1, 3, 0, 0, 0, 0), none, none, some (.goto (-27), 3, 24, 0, 0, 0), none, none, some (.iload_n 3, 1, 0, 0, 0, 0), some (.ifCond .eq 9, 3, 64, 0, 0, 0), none, none, some (.iload_n 1, 1, 0, 0, 0, 0), some (.iconst 1, 1, 0, 0, 0, 0), some (.iload_n 2, 1, 0, 0, 0, 0), some (.ishl, 1, 0, 0, 0, 0), some (.ior, 1, 0, 0, 0, 0), some (.istore_n 1, 1, 0, 0, 0, 0)],
  [some (.iinc 2 1, 3, 0, 0, 0, 0), none, none, some (.goto (-54), 3, 13, 0, 0, 0), none, none, some (.iload_n 1, 1, 0, 0, 0, 0), some (.ireturn, 1, 0, 0, 0, 0), none, none, none, none, none, none, none, none]]
def xc_X10_top : List (List (Option xr_R)) := [[some (.aload_n 0, 1, 0, 0, 0, 0), some (.iconst 0, 1, 0, 0, 0, 0), some (.putfield 112, 3, 10, 0, 5, 86), none, none, some (.aload_n 0, 1, 0, 0, 0, 0), some (.invokevirtual 416, 3, 222, 0, 7, 111), none, none, some (.iconst 0, 1, 0, 0, 0, 0), some (.istore_n 1, 1, 0, 0, 0, 0), some (.iconst 0, 1, 0, 0, 0, 0), some (.istore_n 2, 1, 0, 0, 0, 0), some (.iload_n 2, 1, 0, 0, 0, 0), some (.bipush 7, 2, 0, 0, 0, 0), none],
  [some (.if_icmp .ge 69, 3, 85, 0, 0, 0), none, none, some (.iconst 1, 1, 0, 0, 0, 0), some (.istore_n 3, 1, 0, 0, 0, 0), some (.iconst 0, 1, 0, 0, 0, 0), some (.istore 4, 2, 0, 0, 0, 0), none, some (.iload 4, 2, 0, 0, 0, 0), none, some (.bipush 7, 2, 0, 0, 0, 0), none, some (.if_icmp .ge 41, 3, 69, 0, 0, 0), none, none, some (.aload_n 0, 1, 0, 0, 0, 0)],
  [some (.getfield 91, 3, 10, 55, 5, 141), none, none, some (.bipush 7, 2, 0, 0, 0, 0), none, some (.iload_n 2, 1, 0, 0, 0, 0), some (.imul, 1, 0, 0, 0, 0), some (.iload 4, 2, 0, 0, 0, 0), none, some (.iadd, 1, 0, 0, 0, 0), some (.baload, 1, 0, 0, 0, 0), some (.ifCond .eq 20, 3, 63, 0, 0, 0), none, none, some (.aload_n 0, 1, 0, 0, 0, 0), some (.getfield 91, 3, 10, 55, 5, 141)],
  [none, none, some (.bipush 7, 2, 0, 0, 0, 0), none, some (.iload 4, 2, 0, 0, 0, 0), none, some (.imul, 1, 0, 0, 0, 0), some (.iload_n 2, 1, 0, 0, 0, 0), some (.iadd, 1, 0, 0, 0, 0), some (.baload, 1, 0, 0, 0, 0), some (.ifCond .ne 5, 3, 63, 0, 0, 0), none, none, some (.iconst 0, 1, 0, 0, 0, 0), some (.istore_n 3, 1, 0, 0, 0, 0), some (.iinc 4 1, 3, 0, 0, 0, 0)],
  [none, none, some (.goto (-42), 3, 24, 0, 0, 0), none, none, some (.iload_n 3, 1, 0, 0, 0, 0), some (.ifCond .eq 9, 3, 79, 0, 0, 0), none, none, some (.iload_n 1, 1, 0, 0, 0, 0), some (.iconst 1, 1, 0, 0, 0, 0), some (.iload_n 2, 1, 0, 0, 0, 0), some (.ishl, 1, 0, 0, 0, 0), some (.ior, 1, 0, 0, 0, 0), some (.istore_n 1, 1, 0, 0, 0, 0), some (.iinc 2 1, 3, 0, 0, 0, 0)],
  [none, none, some (.goto (-69), 3, 13, 0, 0, 0), none, none, some (.iload_n 1, 1, 0, 0, 0, 0), some (.ireturn, 1, 0, 0, 0, 0), none, none, none, none, none, none, none, none, none]]
def xc_X10_leads : List (List (Option xr_R)) := [[some (.aload_n 0, 1, 0, 0, 0, 0), some (.iconst 0, 1, 0, 0, 0, 0), some (.putfield 112, 3, 10, 0, 5, 86), none, none, some (.aload_n 0, 1, 0, 0, 0, 0), some (.invokevirtual 274, 3, 148, 0, 6, 66), none, none, some (.istore_n 2, 1, 0, 0, 0, 0), some (.iload_n 2, 1, 0, 0, 0, 0), some (.iconst 1, 1, 0, 0, 0, 0), some (.bipush 7, 2, 0, 0, 0, 0), none, some (.invokestatic 122, 3, 149, 0, 6, 55), none],
  [none, some (.ifCond .eq 11, 3, 28, 0, 0, 0), none, none, some (.aload_n 0, 1, 0, 0, 0, 0), some (.iload_n 2, 1, 0, 0, 0, 0), some (.invokevirtual 407, 3, 219, 0, 7, 100), none, none, some (.ifCond .ne 5, 3, 30, 0, 0, 0), none, none, some (.iconst (-1), 1, 0, 0, 0, 0), some (.ireturn, 1, 0, 0, 0, 0), some (.aload_n 0, 1, 0, 0, 0, 0), some (.invokevirtual 416, 3, 222, 0, 7, 111)],
  [none, none, some (.iload_n 1, 1, 0, 0, 0, 0), some (.ifCond .ne 34, 3, 69, 0, 0, 0), none, none, some (.iconst 0, 1, 0, 0, 0, 0), some (.istore_n 3, 1, 0, 0, 0, 0), some (.iload_n 3, 1, 0, 0, 0, 0), some (.iload_n 2, 1, 0, 0, 0, 0), some (.if_icmp .ge 21, 3, 63, 0, 0, 0), none, none, some (.aload_n 0, 1, 0, 0, 0, 0), some (.getfield 97, 3, 10, 57, 5, 143), none],
  [none, some (.iload_n 3, 1, 0, 0, 0, 0), some (.aload_n 0, 1, 0, 0, 0, 0), some (.getfield 7, 3, 10, 1, 5, 87), none, none, some (.iload_n 3, 1, 0, 0, 0, 0), some (.iaload, 1, 0, 0, 0, 0), some (.iastore, 1, 0, 0, 0, 0), some (.iinc 3 1, 3, 0, 0, 0, 0), none, none, some (.goto (-20), 3, 40, 0, 0, 0), none, none, some (.aload_n 0, 1, 0, 0, 0, 0)],
  [some (.iload_n 2, 1, 0, 0, 0, 0), some (.invokevirtual 419, 3, 228, 0, 7, 131), none, none, some (.ireturn, 1, 0, 0, 0, 0), some (.iconst 0, 1, 0, 0, 0, 0), some (.istore_n 3, 1, 0, 0, 0, 0), some (.iload_n 3, 1, 0, 0, 0, 0), some (.bipush 7, 2, 0, 0, 0, 0), none, some (.if_icmp .ge 21, 3, 95, 0, 0, 0), none, none, some (.aload_n 0, 1, 0, 0, 0, 0), some (.getfield 94, 3, 10, 56, 5, 142), none],
  [none, some (.bipush 7, 2, 0, 0, 0, 0), none, some (.iload_n 2, 1, 0, 0, 0, 0), some (.imul, 1, 0, 0, 0, 0), some (.iload_n 3, 1, 0, 0, 0, 0), some (.iadd, 1, 0, 0, 0, 0), some (.iload_n 3, 1, 0, 0, 0, 0), some (.iastore, 1, 0, 0, 0, 0), some (.iinc 3 1, 3, 0, 0, 0, 0), none, none, some (.goto (-21), 3, 71, 0, 0, 0), none, none, some (.iload_n 2, 1, 0, 0, 0, 0)],
  [some (.iconst 1, 1, 0, 0, 0, 0), some (.isub, 1, 0, 0, 0, 0), some (.istore_n 3, 1, 0, 0, 0, 0), some (.iload_n 3, 1, 0, 0, 0, 0), some (.ifCond .le 105, 3, 205, 0, 0, 0), none, none, some (.iconst 0, 1, 0, 0, 0, 0), some (.istore 4, 2, 0, 0, 0, 0), none, some (.iload 4, 2, 0, 0, 0, 0), none, some (.bipush 7, 2, 0, 0, 0, 0), none, some (.if_icmp .ge 89, 3, 199, 0, 0, 0), none],
  [none, some (.aload_n 0, 1, 0, 0, 0, 0), some (.getfield 94, 3, 10, 56, 5, 142), none, none, some (.bipush 7, 2, 0, 0, 0, 0), none, some (.iload_n 3, 1, 0, 0, 0, 0), some (.imul, 1, 0, 0, 0, 0), some (.bipush 7, 2, 0, 0, 0, 0), none, some (.iadd, 1, 0, 0, 0, 0), some (.aload_n 0, 1, 0, 0, 0, 0), some (.getfield 7, 3, 10, 1, 5, 87), none, none],
  [some (.iload_n 3, 1, 0, 0, 0, 0), some (.iaload, 1, 0, 0, 0, 0), some (.iadd, 1, 0, 0, 0, 0), some (.iaload, 1, 0, 0, 0, 0), some (.istore 5, 2, 0, 0, 0, 0), none, some (.aload_n 0, 1, 0, 0, 0, 0), some (.getfield 94, 3, 10, 56, 5, 142), none, none, some (.bipush 7, 2, 0, 0, 0, 0), none, some (.iload_n 3, 1, 0, 0, 0, 0), some (.imul, 1, 0, 0, 0, 0), some (.bipush 7, 2, 0, 0, 0, 0), none],
  [some (.iadd, 1, 0, 0, 0, 0), some (.iload 4, 2, 0, 0, 0, 0), none, some (.iadd, 1, 0, 0, 0, 0), some (.iaload, 1, 0, 0, 0, 0), some (.istore 6, 2, 0, 0, 0, 0), none, some (.aload_n 0, 1, 0, 0, 0, 0), some (.getfield 94, 3, 10, 56, 5, 142), none, none, some (.bipush 7, 2, 0, 0, 0, 0), none, some (.iload_n 3, 1, 0, 0, 0, 0), some (.imul, 1, 0, 0, 0, 0), some (.iload 4, 2, 0, 0, 0, 0)],
  [none, some (.iadd, 1, 0, 0, 0, 0), some (.iload 5, 2, 0, 0, 0, 0), none, some (.iload 6, 2, 0, 0, 0, 0), none, some (.if_icmp .eq 24, 3, 190, 0, 0, 0), none, none, some (.aload_n 0, 1, 0, 0, 0, 0), some (.getfield 88, 3, 10, 54, 5, 140), none, none, some (.bipush 7, 2, 0, 0, 0, 0), none, some (.iload 5, 2, 0, 0, 0, 0)],
  [none, some (.imul, 1, 0, 0, 0, 0), some (.iload 6, 2, 0, 0, 0, 0), none, some (.iadd, 1, 0, 0, 0, 0), some (.baload, 1, 0, 0, 0, 0), some (.ifCond .eq 8, 3, 190, 0, 0, 0), none, none, some (.iload 5, 2, 0, 0, 0, 0), none, some (.goto 5, 3, 192, 0, 0, 0), none, none, some (.iload 6, 2, 0, 0, 0, 0), none],
  [some (.iastore, 1, 0, 0, 0, 0), some (.iinc 4 1, 3, 0, 0, 0, 0), none, none, some (.goto (-90), 3, 106, 0, 0, 0), none, none, some (.iinc 3 (-1), 3, 0, 0, 0, 0), none, none, some (.goto (-103), 3, 99, 0, 0, 0), none, none, some (.aload_n 0, 1, 0, 0, 0, 0), some (.getfield 94, 3, 10, 56, 5, 142), none],
  [none, some (.bipush 7, 2, 0, 0, 0, 0), none, some (.aload_n 0, 1, 0, 0, 0, 0), some (.getfield 7, 3, 10, 1, 5, 87), none, none, some (.iconst 0, 1, 0, 0, 0, 0), some (.iaload, 1, 0, 0, 0, 0), some (.iadd, 1, 0, 0, 0, 0), some (.iaload, 1, 0, 0, 0, 0), some (.ireturn, 1, 0, 0, 0, 0), none, none, none, none]]
def xc_X10_endOf : List (List (Option xr_R)) := [[some (.aload_n 0, 1, 0, 0, 0, 0), some (.getfield 97, 3, 10, 57, 5, 143), none, none, some (.iconst 0, 1, 0, 0, 0, 0), some (.iaload, 1, 0, 0, 0, 0), some (.istore_n 2, 1, 0, 0, 0, 0), some (.iconst 1, 1, 0, 0, 0, 0), some (.istore_n 3, 1, 0, 0, 0, 0), some (.iload_n 3, 1, 0, 0, 0, 0), some (.iload_n 1, 1, 0, 0, 0, 0), some (.if_icmp .ge 35, 3, 46, 0, 0, 0), none, none, some (.aload_n 0, 1, 0, 0, 0, 0), some (.getfield 88, 3, 10, 54, 5, 140)],
  [none, none, some (.bipush 7, 2, 0, 0, 0, 0), none, some (.aload_n 0, 1, 0, 0, 0, 0), some (.getfield 97, 3, 10, 57, 5, 143), none, none, some (.iload_n 3, 1, 0, 0, 0, 0), some (.iaload, 1, 0, 0, 0, 0), some (.imul, 1, 0, 0, 0, 0), some (.iload_n 2, 1, 0, 0, 0, 0), some (.iadd, 1, 0, 0, 0, 0), some (.baload, 1, 0, 0, 0, 0), some (.ifCond .eq 10, 3, 40, 0, 0, 0), none],
  [none, some (.aload_n 0, 1, 0, 0, 0, 0), some (.getfield 97, 3, 10, 57, 5, 143), none, none, some (.iload_n 3, 1, 0, 0, 0, 0), some (.iaload, 1, 0, 0, 0, 0), some (.istore_n 2, 1, 0, 0, 0, 0), some (.iinc 3 1, 3, 0, 0, 0, 0), none, none, some (.goto (-34), 3, 9, 0, 0, 0), none, none, some (.iload_n 2, 1, 0, 0, 0, 0), some (.ireturn, 1, 0, 0, 0, 0)]]
def xc_X10_rows : List (List (Option xr_R)) := [[some (.aload_n 0, 1, 0, 0, 0, 0), some (.iconst 0, 1, 0, 0, 0, 0), some (.putfield 112, 3, 10, 0, 5, 86), none, none, some (.iload_n 1, 1, 0, 0, 0, 0), some (.invokestatic 413, 3, 223, 0, 7, 108), none, none, some (.ifCond .ne 5, 3, 14, 0, 0, 0), none, none, some (.iconst (-1), 1, 0, 0, 0, 0), some (.ireturn, 1, 0, 0, 0, 0), some (.aload_n 0, 1, 0, 0, 0, 0), some (.invokevirtual 416, 3, 222, 0, 7, 111)],
  [none, none, some (.iconst 0, 1, 0, 0, 0, 0), some (.istore_n 2, 1, 0, 0, 0, 0), some (.iload_n 2, 1, 0, 0, 0, 0), some (.bipush 7, 2, 0, 0, 0, 0), none, some (.if_icmp .ge 16, 3, 39, 0, 0, 0), none, none, some (.aload_n 0, 1, 0, 0, 0, 0), some (.getfield 97, 3, 10, 57, 5, 143), none, none, some (.iload_n 2, 1, 0, 0, 0, 0), some (.iload_n 2, 1, 0, 0, 0, 0)],
  [some (.iastore, 1, 0, 0, 0, 0), some (.iinc 2 1, 3, 0, 0, 0, 0), none, none, some (.goto (-16), 3, 20, 0, 0, 0), none, none, some (.iconst 0, 1, 0, 0, 0, 0), some (.istore_n 2, 1, 0, 0, 0, 0), some (.iconst 1, 1, 0, 0, 0, 0), some (.istore_n 3, 1, 0, 0, 0, 0), some (.iload_n 3, 1, 0, 0, 0, 0), some (.ifCond .eq 63, 3, 107, 0, 0, 0), none, none, some (.aload_n 0, 1, 0, 0, 0, 0)],
  [some (.bipush 7, 2, 0, 0, 0, 0), none, some (.invokevirtual 419, 3, 228, 0, 7, 131), none, none, some (.iload_n 1, 1, 0, 0, 0, 0), some (.if_icmp .ne 45, 3, 99, 0, 0, 0), none, none, some (.iconst 0, 1, 0, 0, 0, 0), some (.istore 4, 2, 0, 0, 0, 0), none, some (.iload 4, 2, 0, 0, 0, 0), none, some (.bipush 7, 2, 0, 0, 0, 0), none],
  [some (.if_icmp .ge 27, 3, 91, 0, 0, 0), none, none, some (.iload_n 2, 1, 0, 0, 0, 0), some (.ifCond .ne 23, 3, 91, 0, 0, 0), none, none, some (.aload_n 0, 1, 0, 0, 0, 0), some (.getfield 100, 3, 10, 58, 5, 144), none, none, some (.iload 4, 2, 0, 0, 0, 0), none, some (.aload_n 0, 1, 0, 0, 0, 0), some (.getfield 97, 3, 10, 57, 5, 143), none],
  [none, some (.iload 4, 2, 0, 0, 0, 0), none, some (.iaload, 1, 0, 0, 0, 0), some (.iastore, 1, 0, 0, 0, 0), some (.iinc 4 1, 3, 0, 0, 0, 0), none, none, some (.goto (-28), 3, 60, 0, 0, 0), none, none, some (.iinc 2 1, 3, 0, 0, 0, 0), none, none, some (.aload_n 0, 1, 0, 0, 0, 0), some (.iconst 1, 1, 0, 0, 0, 0)],
  [some (.putfield 422, 3, 10, 59, 5, 145), none, none, some (.aload_n 0, 1, 0, 0, 0, 0), some (.invokevirtual 425, 3, 230, 0, 7, 139), none, none, some (.istore_n 3, 1, 0, 0, 0, 0), some (.goto (-61), 3, 43, 0, 0, 0), none, none, some (.iload_n 2, 1, 0, 0, 0, 0), some (.ireturn, 1, 0, 0, 0, 0), none, none, none]]
def xc_X10_goOn : List (List (Option xr_R)) := [[some (.iconst 5, 1, 0, 0, 0, 0), some (.istore_n 1, 1, 0, 0, 0, 0), some (.iload_n 1, 1, 0, 0, 0, 0), some (.ifCond .lt 26, 3, 29, 0, 0, 0), none, none, some (.aload_n 0, 1, 0, 0, 0, 0), some (.getfield 97, 3, 10, 57, 5, 143), none, none, some (.iload_n 1, 1, 0, 0, 0, 0), some (.iaload, 1, 0, 0, 0, 0), some (.aload_n 0, 1, 0, 0, 0, 0), some (.getfield 97, 3, 10, 57, 5, 143), none, none],
  [some (.iload_n 1, 1, 0, 0, 0, 0), some (.iconst 1, 1, 0, 0, 0, 0), some (.iadd, 1, 0, 0, 0, 0), some (.iaload, 1, 0, 0, 0, 0), some (.if_icmp .le 9, 3, 29, 0, 0, 0), none, none, some (.iinc 1 (-1), 3, 0, 0, 0, 0), none, none, some (.goto (-24), 3, 2, 0, 0, 0), none, none, some (.iload_n 1, 1, 0, 0, 0, 0), some (.ifCond .ge 5, 3, 35, 0, 0, 0), none],
  [none, some (.iconst 0, 1, 0, 0, 0, 0), some (.ireturn, 1, 0, 0, 0, 0), some (.bipush 6, 2, 0, 0, 0, 0), none, some (.istore_n 2, 1, 0, 0, 0, 0), some (.aload_n 0, 1, 0, 0, 0, 0), some (.getfield 97, 3, 10, 57, 5, 143), none, none, some (.iload_n 2, 1, 0, 0, 0, 0), some (.iaload, 1, 0, 0, 0, 0), some (.aload_n 0, 1, 0, 0, 0, 0), some (.getfield 97, 3, 10, 57, 5, 143), none, none],
  [some (.iload_n 1, 1, 0, 0, 0, 0), some (.iaload, 1, 0, 0, 0, 0), some (.if_icmp .ge 9, 3, 59, 0, 0, 0), none, none, some (.iinc 2 (-1), 3, 0, 0, 0, 0), none, none, some (.goto (-18), 3, 38, 0, 0, 0), none, none, some (.aload_n 0, 1, 0, 0, 0, 0), some (.getfield 97, 3, 10, 57, 5, 143), none, none, some (.iload_n 1, 1, 0, 0, 0, 0)],
  [some (.iaload, 1, 0, 0, 0, 0), some (.istore_n 3, 1, 0, 0, 0, 0), some (.aload_n 0, 1, 0, 0, 0, 0), some (.getfield 97, 3, 10, 57, 5, 143), none, none, some (.iload_n 1, 1, 0, 0, 0, 0), some (.aload_n 0, 1, 0, 0, 0, 0), some (.getfield 97, 3, 10, 57, 5, 143), none, none, some (.iload_n 2, 1, 0, 0, 0, 0), some (.iaload, 1, 0, 0, 0, 0), some (.iastore, 1, 0, 0, 0, 0), some (.aload_n 0, 1, 0, 0, 0, 0), some (.getfield 97, 3, 10, 57, 5, 143)],
  [none, none, some (.iload_n 2, 1, 0, 0, 0, 0), some (.iload_n 3, 1, 0, 0, 0, 0), some (.iastore, 1, 0, 0, 0, 0), some (.iload_n 1, 1, 0, 0, 0, 0), some (.iconst 1, 1, 0, 0, 0, 0), some (.iadd, 1, 0, 0, 0, 0), some (.istore 4, 2, 0, 0, 0, 0), none, some (.bipush 6, 2, 0, 0, 0, 0), none, some (.istore 5, 2, 0, 0, 0, 0), none, some (.iload 4, 2, 0, 0, 0, 0), none],
  [some (.iload 5, 2, 0, 0, 0, 0), none, some (.if_icmp .ge 42, 3, 140, 0, 0, 0), none, none, some (.aload_n 0, 1, 0, 0, 0, 0), some (.getfield 97, 3, 10, 57, 5, 143), none, none, some (.iload 4, 2, 0, 0, 0, 0), none, some (.iaload, 1, 0, 0, 0, 0), some (.istore_n 3, 1, 0, 0, 0, 0), some (.aload_n 0, 1, 0, 0, 0, 0), some (.getfield 97, 3, 10, 57, 5, 143), none],
  [none, some (.iload 4, 2, 0, 0, 0, 0), none, some (.aload_n 0, 1, 0, 0, 0, 0), some (.getfield 97, 3, 10, 57, 5, 143), none, none, some (.iload 5, 2, 0, 0, 0, 0), none, some (.iaload, 1, 0, 0, 0, 0), some (.iastore, 1, 0, 0, 0, 0), some (.aload_n 0, 1, 0, 0, 0, 0), some (.getfield 97, 3, 10, 57, 5, 143), none, none, some (.iload 5, 2, 0, 0, 0, 0)],
  [none, some (.iload_n 3, 1, 0, 0, 0, 0), some (.iastore, 1, 0, 0, 0, 0), some (.iinc 4 1, 3, 0, 0, 0, 0), none, none, some (.iinc 5 (-1), 3, 0, 0, 0, 0), none, none, some (.goto (-43), 3, 94, 0, 0, 0), none, none, some (.iconst 1, 1, 0, 0, 0, 0), some (.ireturn, 1, 0, 0, 0, 0), none, none]]
def xc_X10_rowAt : List (List (Option xr_R)) := [[some (.aload_n 0, 1, 0, 0, 0, 0), some (.iconst 0, 1, 0, 0, 0, 0), some (.putfield 112, 3, 10, 0, 5, 86), none, none, some (.aload_n 0, 1, 0, 0, 0, 0), some (.getfield 422, 3, 10, 59, 5, 145), none, none, some (.ifCond .eq 19, 3, 28, 0, 0, 0), none, none, some (.iload_n 1, 1, 0, 0, 0, 0), some (.invokestatic 413, 3, 223, 0, 7, 108), none, none],
  [some (.ifCond .eq 12, 3, 28, 0, 0, 0), none, none, some (.aload_n 0, 1, 0, 0, 0, 0), some (.getfield 100, 3, 10, 58, 5, 144), none, none, some (.iload_n 1, 1, 0, 0, 0, 0), some (.iaload, 1, 0, 0, 0, 0), some (.goto 4, 3, 29, 0, 0, 0), none, none, some (.iconst (-1), 1, 0, 0, 0, 0), some (.ireturn, 1, 0, 0, 0, 0), none, none]]
def xc_X10_vote : List (List (Option xr_R)) := [[some (.aload_n 0, 1, 0, 0, 0, 0), some (.iconst 0, 1, 0, 0, 0, 0), some (.putfield 112, 3, 10, 0, 5, 86), none, none, some (.aload_n 0, 1, 0, 0, 0, 0), some (.getfield 132, 3, 10, 63, 5, 149), none, none, some (.bipush 60, 2, 0, 0, 0, 0), none, some (.if_icmp .eq 11, 3, 22, 0, 0, 0), none, none, some (.aload_n 0, 1, 0, 0, 0, 0), some (.iload_n 1, 1, 0, 0, 0, 0)],
  [some (.invokevirtual 280, 3, 153, 0, 6, 184), none, none, some (.ifCond .ne 5, 3, 24, 0, 0, 0), none, none, some (.iconst (-1), 1, 0, 0, 0, 0), some (.ireturn, 1, 0, 0, 0, 0), some (.aload_n 0, 1, 0, 0, 0, 0), some (.getfield 103, 3, 10, 60, 5, 146), none, none, some (.aload_n 0, 1, 0, 0, 0, 0), some (.getfield 132, 3, 10, 63, 5, 149), none, none],
  [some (.iload_n 1, 1, 0, 0, 0, 0), some (.iastore, 1, 0, 0, 0, 0), some (.aload_n 0, 1, 0, 0, 0, 0), some (.getfield 106, 3, 10, 61, 5, 147), none, none, some (.aload_n 0, 1, 0, 0, 0, 0), some (.getfield 132, 3, 10, 63, 5, 149), none, none, some (.aload_n 0, 1, 0, 0, 0, 0), some (.getfield 126, 3, 10, 3, 5, 89), none, none, some (.iastore, 1, 0, 0, 0, 0), some (.aload_n 0, 1, 0, 0, 0, 0)],
  [some (.getfield 109, 3, 10, 62, 5, 148), none, none, some (.aload_n 0, 1, 0, 0, 0, 0), some (.getfield 132, 3, 10, 63, 5, 149), none, none, some (.iload_n 2, 1, 0, 0, 0, 0), some (.bastore, 1, 0, 0, 0, 0), some (.aload_n 0, 1, 0, 0, 0, 0), some (.dup, 1, 0, 0, 0, 0), some (.getfield 132, 3, 10, 63, 5, 149), none, none, some (.iconst 1, 1, 0, 0, 0, 0), some (.iadd, 1, 0, 0, 0, 0)],
  [some (.putfield 132, 3, 10, 63, 5, 149), none, none, some (.aload_n 0, 1, 0, 0, 0, 0), some (.getfield 132, 3, 10, 63, 5, 149), none, none, some (.iconst 1, 1, 0, 0, 0, 0), some (.isub, 1, 0, 0, 0, 0), some (.ireturn, 1, 0, 0, 0, 0), none, none, none, none, none, none]]
def xc_X10_unfit : List (List (Option xr_R)) := [[some (.aload_n 0, 1, 0, 0, 0, 0), some (.iconst 0, 1, 0, 0, 0, 0), some (.putfield 112, 3, 10, 0, 5, 86), none, none, some (.iconst 0, 1, 0, 0, 0, 0), some (.istore_n 2, 1, 0, 0, 0, 0), some (.iload_n 2, 1, 0, 0, 0, 0), some (.aload_n 0, 1, 0, 0, 0, 0), some (.getfield 132, 3, 10, 63, 5, 149), none, none, some (.if_icmp .ge 51, 3, 63, 0, 0, 0), none, none, some (.aload_n 0, 1, 0, 0, 0, 0)],
  [some (.getfield 106, 3, 10, 61, 5, 147), none, none, some (.iload_n 2, 1, 0, 0, 0, 0), some (.iaload, 1, 0, 0, 0, 0), some (.iload_n 1, 1, 0, 0, 0, 0), some (.if_icmp .gt 35, 3, 57, 0, 0, 0), none, none, some (.aload_n 0, 1, 0, 0, 0, 0), some (.aload_n 0, 1, 0, 0, 0, 0), some (.aload_n 0, 1, 0, 0, 0, 0), some (.getfield 106, 3, 10, 61, 5, 147), none, none, some (.iload_n 2, 1, 0, 0, 0, 0)],
  [some (.iaload, 1, 0, 0, 0, 0), some (.iload_n 1, 1, 0, 0, 0, 0), some (.invokevirtual 283, 3, 183, 0, 6, 188), none, none, some (.aload_n 0, 1, 0, 0, 0, 0), some (.getfield 103, 3, 10, 60, 5, 146), none, none, some (.iload_n 2, 1, 0, 0, 0, 0), some (.iaload, 1, 0, 0, 0, 0), some (.invokevirtual 287, 3, 184, 0, 6, 192), none, none, some (.aload_n 0, 1, 0, 0, 0, 0), some (.getfield 109, 3, 10, 62, 5, 148)],
  [none, none, some (.iload_n 2, 1, 0, 0, 0, 0), some (.baload, 1, 0, 0, 0, 0), some (.if_icmp .eq 5, 3, 57, 0, 0, 0), none, none, some (.iload_n 2, 1, 0, 0, 0, 0), some (.ireturn, 1, 0, 0, 0, 0), some (.iinc 2 1, 3, 0, 0, 0, 0), none, none, some (.goto (-53), 3, 7, 0, 0, 0), none, none, some (.iconst (-1), 1, 0, 0, 0, 0)],
  [some (.ireturn, 1, 0, 0, 0, 0), none, none, none, none, none, none, none, none, none, none, none, none, none, none, none]]
def xc_X10_sureOf : List (List (Option xr_R)) := [[some (.iconst 0, 1, 0, 0, 0, 0), some (.istore_n 3, 1, 0, 0, 0, 0), some (.iconst 0, 1, 0, 0, 0, 0), some (.istore 4, 2, 0, 0, 0, 0), none, some (.iconst 0, 1, 0, 0, 0, 0), some (.istore 5, 2, 0, 0, 0, 0), none, some (.iload 5, 2, 0, 0, 0, 0), none, some (.aload_n 0, 1, 0, 0, 0, 0), some (.getfield 132, 3, 10, 63, 5, 149), none, none, some (.if_icmp .ge 80, 3, 94, 0, 0, 0), none],
  [none, some (.aload_n 0, 1, 0, 0, 0, 0), some (.getfield 106, 3, 10, 61, 5, 147), none, none, some (.iload 5, 2, 0, 0, 0, 0), none, some (.iaload, 1, 0, 0, 0, 0), some (.iload_n 2, 1, 0, 0, 0, 0), some (.if_icmp .le 6, 3, 31, 0, 0, 0), none, none, some (.goto 60, 3, 88, 0, 0, 0), none, none, some (.aload_n 0, 1, 0, 0, 0, 0)],
  [some (.getfield 109, 3, 10, 62, 5, 148), none, none, some (.iload 5, 2, 0, 0, 0, 0), none, some (.baload, 1, 0, 0, 0, 0), some (.ifCond .eq 24, 3, 62, 0, 0, 0), none, none, some (.iload_n 1, 1, 0, 0, 0, 0), some (.aload_n 0, 1, 0, 0, 0, 0), some (.getfield 103, 3, 10, 60, 5, 146), none, none, some (.iload 5, 2, 0, 0, 0, 0), none],
  [some (.iaload, 1, 0, 0, 0, 0), some (.iand, 1, 0, 0, 0, 0), some (.aload_n 0, 1, 0, 0, 0, 0), some (.getfield 103, 3, 10, 60, 5, 146), none, none, some (.iload 5, 2, 0, 0, 0, 0), none, some (.iaload, 1, 0, 0, 0, 0), some (.if_icmp .ne 5, 3, 62, 0, 0, 0), none, none, some (.iconst 1, 1, 0, 0, 0, 0), some (.istore_n 3, 1, 0, 0, 0, 0), some (.aload_n 0, 1, 0, 0, 0, 0), some (.getfield 109, 3, 10, 62, 5, 148)],
  [none, none, some (.iload 5, 2, 0, 0, 0, 0), none, some (.baload, 1, 0, 0, 0, 0), some (.ifCond .ne 19, 3, 88, 0, 0, 0), none, none, some (.iload_n 1, 1, 0, 0, 0, 0), some (.aload_n 0, 1, 0, 0, 0, 0), some (.getfield 103, 3, 10, 60, 5, 146), none, none, some (.iload 5, 2, 0, 0, 0, 0), none, some (.iaload, 1, 0, 0, 0, 0)],
  [some (.iand, 1, 0, 0, 0, 0), some (.iload_n 1, 1, 0, 0, 0, 0), some (.if_icmp .ne 6, 3, 88, 0, 0, 0), none, none, some (.iconst 1, 1, 0, 0, 0, 0), some (.istore 4, 2, 0, 0, 0, 0), none, some (.iinc 5 1, 3, 0, 0, 0, 0), none, none, some (.goto (-83), 3, 8, 0, 0, 0), none, none, some (.iload_n 3, 1, 0, 0, 0, 0), some (.ifCond .eq 16, 3, 111, 0, 0, 0)],
  [none, none, some (.iload 4, 2, 0, 0, 0, 0), none, some (.ifCond .eq 7, 3, 107, 0, 0, 0), none, none, some (.iconst 3, 1, 0, 0, 0, 0), some (.goto 17, 3, 121, 0, 0, 0), none, none, some (.iconst 1, 1, 0, 0, 0, 0), some (.goto 13, 3, 121, 0, 0, 0), none, none, some (.iload 4, 2, 0, 0, 0, 0)],
  [none, some (.ifCond .eq 7, 3, 120, 0, 0, 0), none, none, some (.iconst 0, 1, 0, 0, 0, 0), some (.goto 4, 3, 121, 0, 0, 0), none, none, some (.iconst 2, 1, 0, 0, 0, 0), some (.ireturn, 1, 0, 0, 0, 0), none, none, none, none, none, none]]
def xc_X10_sure : List (List (Option xr_R)) := [[some (.aload_n 0, 1, 0, 0, 0, 0), some (.iconst 0, 1, 0, 0, 0, 0), some (.putfield 112, 3, 10, 0, 5, 86), none, none, some (.aload_n 0, 1, 0, 0, 0, 0), some (.iload_n 1, 1, 0, 0, 0, 0), some (.invokevirtual 280, 3, 153, 0, 6, 184), none, none, some (.ifCond .eq 12, 3, 22, 0, 0, 0), none, none, some (.aload_n 0, 1, 0, 0, 0, 0), some (.iload_n 1, 1, 0, 0, 0, 0), some (.iload_n 2, 1, 0, 0, 0, 0)],
  [some (.invokevirtual 428, 3, 234, 0, 7, 159), none, none, some (.goto 4, 3, 23, 0, 0, 0), none, none, some (.iconst (-1), 1, 0, 0, 0, 0), some (.ireturn, 1, 0, 0, 0, 0), none, none, none, none, none, none, none, none]]
def xc_X10_open : List (List (Option xr_R)) := [[some (.aload_n 0, 1, 0, 0, 0, 0), some (.iconst 0, 1, 0, 0, 0, 0), some (.putfield 112, 3, 10, 0, 5, 86), none, none, some (.iconst 0, 1, 0, 0, 0, 0), some (.istore_n 2, 1, 0, 0, 0, 0), some (.iconst 0, 1, 0, 0, 0, 0), some (.istore_n 3, 1, 0, 0, 0, 0), some (.iload_n 3, 1, 0, 0, 0, 0), some (.iconst 1, 1, 0, 0, 0, 0), some (.aload_n 0, 1, 0, 0, 0, 0), some (.getfield 13, 3, 10, 4, 5, 90), none, none, some (.ishl, 1, 0, 0, 0, 0)],
  [some (.if_icmp .ge 22, 3, 38, 0, 0, 0), none, none, some (.aload_n 0, 1, 0, 0, 0, 0), some (.iload_n 3, 1, 0, 0, 0, 0), some (.iload_n 1, 1, 0, 0, 0, 0), some (.invokevirtual 428, 3, 234, 0, 7, 159), none, none, some (.iconst 2, 1, 0, 0, 0, 0), some (.if_icmp .ne 6, 3, 32, 0, 0, 0), none, none, some (.iinc 2 1, 3, 0, 0, 0, 0), none, none],
  [some (.iinc 3 1, 3, 0, 0, 0, 0), none, none, some (.goto (-26), 3, 9, 0, 0, 0), none, none, some (.iload_n 2, 1, 0, 0, 0, 0), some (.ireturn, 1, 0, 0, 0, 0), none, none, none, none, none, none, none, none]]
def xc_X10_count : List (List (Option xr_R)) := [[some (.aload_n 0, 1, 0, 0, 0, 0), some (.iconst 0, 1, 0, 0, 0, 0), some (.putfield 112, 3, 10, 0, 5, 86), none, none, some (.iload_n 1, 1, 0, 0, 0, 0), some (.tableswitch 59 0 4 #[34, 39, 44, 49, 54], 34, 0, 0, 0, 0), none, none, none, none, none, none, none, none, none],
  [none, none, none, none, none, none, none, none, none, none, none, none, none, none, none, none],
  [none, none, none, none, none, none, none, none, some (.aload_n 0, 1, 0, 0, 0, 0), some (.getfield 126, 3, 10, 3, 5, 89), none, none, some (.ireturn, 1, 0, 0, 0, 0), some (.aload_n 0, 1, 0, 0, 0, 0), some (.getfield 13, 3, 10, 4, 5, 90), none],
  [none, some (.ireturn, 1, 0, 0, 0, 0), some (.aload_n 0, 1, 0, 0, 0, 0), some (.getfield 129, 3, 10, 33, 5, 119), none, none, some (.ireturn, 1, 0, 0, 0, 0), some (.aload_n 0, 1, 0, 0, 0, 0), some (.getfield 132, 3, 10, 63, 5, 149), none, none, some (.ireturn, 1, 0, 0, 0, 0), some (.aload_n 0, 1, 0, 0, 0, 0), some (.getfield 115, 3, 10, 2, 5, 88), none, none],
  [some (.ireturn, 1, 0, 0, 0, 0), some (.iconst (-1), 1, 0, 0, 0, 0), some (.ireturn, 1, 0, 0, 0, 0), none, none, none, none, none, none, none, none, none, none, none, none, none]]
def xc_J6_bitCount_0f7a4 : List (List (Option xr_R)) := [[some (.iload_n 0, 1, 0, 0, 0, 0), some (.iload_n 0, 1, 0, 0, 0, 0), some (.iconst 1, 1, 0, 0, 0, 0), some (.iushr, 1, 0, 0, 0, 0), some (.ldc_w 265, 3, 1431655765, 0, 3, 186), none, none, some (.iand, 1, 0, 0, 0, 0), some (.isub, 1, 0, 0, 0, 0), some (.istore_n 0, 1, 0, 0, 0, 0), some (.iload_n 0, 1, 0, 0, 0, 0), some (.ldc_w 266, 3, 858993459, 0, 3, 187), none, none, some (.iand, 1, 0, 0, 0, 0), some (.iload_n 0, 1, 0, 0, 0, 0)],
  [some (.iconst 2, 1, 0, 0, 0, 0), some (.iushr, 1, 0, 0, 0, 0), some (.ldc_w 266, 3, 858993459, 0, 3, 187), none, none, some (.iand, 1, 0, 0, 0, 0), some (.iadd, 1, 0, 0, 0, 0), some (.istore_n 0, 1, 0, 0, 0, 0), some (.iload_n 0, 1, 0, 0, 0, 0), some (.iload_n 0, 1, 0, 0, 0, 0), some (.iconst 4, 1, 0, 0, 0, 0), some (.iushr, 1, 0, 0, 0, 0), some (.iadd, 1, 0, 0, 0, 0), some (.ldc_w 267, 3, 252645135, 0, 3, 188), none, none],
  [some (.iand, 1, 0, 0, 0, 0), some (.istore_n 0, 1, 0, 0, 0, 0), some (.iload_n 0, 1, 0, 0, 0, 0), some (.iload_n 0, 1, 0, 0, 0, 0), some (.bipush 8, 2, 0, 0, 0, 0), none, some (.iushr, 1, 0, 0, 0, 0), some (.iadd, 1, 0, 0, 0, 0), some (.istore_n 0, 1, 0, 0, 0, 0), some (.iload_n 0, 1, 0, 0, 0, 0), some (.iload_n 0, 1, 0, 0, 0, 0), some (.bipush 16, 2, 0, 0, 0, 0), none, some (.iushr, 1, 0, 0, 0, 0), some (.iadd, 1, 0, 0, 0, 0), some (.istore_n 0, 1, 0, 0, 0, 0)],
  [some (.iload_n 0, 1, 0, 0, 0, 0), some (.bipush 63, 2, 0, 0, 0, 0), none, some (.iand, 1, 0, 0, 0, 0), some (.ireturn, 1, 0, 0, 0, 0), none, none, none, none, none, none, none, none, none, none, none]]
def xc_L_law : List (List (Option xr_R)) := [[some (.new 8, 3, 9, 0, 1, 22), none, none, some (.dup, 1, 0, 0, 0, 0), some (.invokespecial 15, 3, 109, 0, 1, 24), none, none, some (.astore_n 1, 1, 0, 0, 0, 0), some (.new 16, 3, 10, 0, 5, 77), none, none, some (.dup, 1, 0, 0, 0, 0), some (.invokespecial 18, 3, 143, 0, 5, 79), none, none, some (.astore_n 2, 1, 0, 0, 0, 0)],
  [some (.iconst 1, 1, 0, 0, 0, 0), some (.newarray .long, 2, 0, 0, 0, 0), none, some (.astore_n 3, 1, 0, 0, 0, 0), some (.iconst 0, 1, 0, 0, 0, 0), some (.istore 4, 2, 0, 0, 0, 0), none, some (.iload 4, 2, 0, 0, 0, 0), none, some (.aload_n 0, 1, 0, 0, 0, 0), some (.arraylength, 1, 0, 0, 0, 0), some (.bipush 6, 2, 0, 0, 0, 0), none, some (.isub, 1, 0, 0, 0, 0), some (.if_icmp .gt 975, 3, 1005, 0, 0, 0), none],
  [none, some (.aload_n 0, 1, 0, 0, 0, 0), some (.iload 4, 2, 0, 0, 0, 0), none, some (.iaload, 1, 0, 0, 0, 0), some (.bipush 31, 2, 0, 0, 0, 0), none, some (.iand, 1, 0, 0, 0, 0), some (.tableswitch 959 0 27 #[128, 201, 226, 251, 276, 301, 314, 351, 376, 413, 450, 475, 527, 552, 577, 590, 615, 640, 677, 690, 703, 744, 769, 794, 847, 872, 909, 934], 128, 0, 0, 0, 0), none, none, none, none, none, none, none],
  [none, none, none, none, none, none, none, none, none, none, none, none, none, none, none, none],
  [none, none, none, none, none, none, none, none, none, none, none, none, none, none, none, none],
  [none, none, none, none, none, none, none, none, none, none, none, none, none, none, none, none],
  [none, none, none, none, none, none, none, none, none, none, none, none, none, none, none, none],
  [none, none, none, none, none, none, none, none, none, none, none, none, none, none, none, none],
  [none, none, none, none, none, none, none, none, none, none, none, none, none, none, none, none],
  [none, none, none, none, none, none, none, none, none, none, none, none, none, none, none, none],
  [none, none, none, none, none, none, none, none, some (.aload_n 1, 1, 0, 0, 0, 0), some (.aload_n 0, 1, 0, 0, 0, 0), some (.iload 4, 2, 0, 0, 0, 0), none, some (.iconst 1, 1, 0, 0, 0, 0), some (.iadd, 1, 0, 0, 0, 0), some (.iaload, 1, 0, 0, 0, 0), some (.aload_n 0, 1, 0, 0, 0, 0)],
  [some (.iload 4, 2, 0, 0, 0, 0), none, some (.iconst 2, 1, 0, 0, 0, 0), some (.iadd, 1, 0, 0, 0, 0), some (.iaload, 1, 0, 0, 0, 0), some (.aload_n 0, 1, 0, 0, 0, 0), some (.iload 4, 2, 0, 0, 0, 0), none, some (.iconst 3, 1, 0, 0, 0, 0), some (.iadd, 1, 0, 0, 0, 0), some (.iaload, 1, 0, 0, 0, 0), some (.aload_n 0, 1, 0, 0, 0, 0), some (.iload 4, 2, 0, 0, 0, 0), none, some (.iconst 4, 1, 0, 0, 0, 0), some (.iadd, 1, 0, 0, 0, 0)],
  [some (.iaload, 1, 0, 0, 0, 0), some (.aload_n 0, 1, 0, 0, 0, 0), some (.iload 4, 2, 0, 0, 0, 0), none, some (.iconst 5, 1, 0, 0, 0, 0), some (.iadd, 1, 0, 0, 0, 0), some (.iaload, 1, 0, 0, 0, 0), some (.invokevirtual 19, 3, 110, 0, 2, 131), none, none, some (.pop, 1, 0, 0, 0, 0), some (.aload_n 2, 1, 0, 0, 0, 0), some (.aload_n 0, 1, 0, 0, 0, 0), some (.iload 4, 2, 0, 0, 0, 0), none, some (.iconst 1, 1, 0, 0, 0, 0)],
  [some (.iadd, 1, 0, 0, 0, 0), some (.iaload, 1, 0, 0, 0, 0), some (.aload_n 0, 1, 0, 0, 0, 0), some (.iload 4, 2, 0, 0, 0, 0), none, some (.iconst 2, 1, 0, 0, 0, 0), some (.iadd, 1, 0, 0, 0, 0), some (.iaload, 1, 0, 0, 0, 0), some (.aload_n 0, 1, 0, 0, 0, 0), some (.iload 4, 2, 0, 0, 0, 0), none, some (.iconst 3, 1, 0, 0, 0, 0), some (.iadd, 1, 0, 0, 0, 0), some (.iaload, 1, 0, 0, 0, 0), some (.aload_n 0, 1, 0, 0, 0, 0), some (.iload 4, 2, 0, 0, 0, 0)],
  [none, some (.iconst 4, 1, 0, 0, 0, 0), some (.iadd, 1, 0, 0, 0, 0), some (.iaload, 1, 0, 0, 0, 0), some (.aload_n 0, 1, 0, 0, 0, 0), some (.iload 4, 2, 0, 0, 0, 0), none, some (.iconst 5, 1, 0, 0, 0, 0), some (.iadd, 1, 0, 0, 0, 0), some (.iaload, 1, 0, 0, 0, 0), some (.invokevirtual 23, 3, 146, 0, 6, 39), none, none, some (.pop, 1, 0, 0, 0, 0), some (.goto 761, 3, 999, 0, 0, 0), none],
  [none, some (.aload_n 1, 1, 0, 0, 0, 0), some (.aload_n 0, 1, 0, 0, 0, 0), some (.iload 4, 2, 0, 0, 0, 0), none, some (.iconst 1, 1, 0, 0, 0, 0), some (.iadd, 1, 0, 0, 0, 0), some (.iaload, 1, 0, 0, 0, 0), some (.invokevirtual 24, 3, 111, 0, 2, 143), none, none, some (.pop, 1, 0, 0, 0, 0), some (.aload_n 2, 1, 0, 0, 0, 0), some (.aload_n 0, 1, 0, 0, 0, 0), some (.iload 4, 2, 0, 0, 0, 0), none],
  [some (.iconst 1, 1, 0, 0, 0, 0), some (.iadd, 1, 0, 0, 0, 0), some (.iaload, 1, 0, 0, 0, 0), some (.invokevirtual 28, 3, 147, 0, 6, 47), none, none, some (.pop, 1, 0, 0, 0, 0), some (.goto 736, 3, 999, 0, 0, 0), none, none, some (.aload_n 1, 1, 0, 0, 0, 0), some (.aload_n 0, 1, 0, 0, 0, 0), some (.iload 4, 2, 0, 0, 0, 0), none, some (.iconst 1, 1, 0, 0, 0, 0), some (.iadd, 1, 0, 0, 0, 0)],
  [some (.iaload, 1, 0, 0, 0, 0), some (.invokevirtual 29, 3, 112, 0, 2, 147), none, none, some (.aload_n 2, 1, 0, 0, 0, 0), some (.aload_n 0, 1, 0, 0, 0, 0), some (.iload 4, 2, 0, 0, 0, 0), none, some (.iconst 1, 1, 0, 0, 0, 0), some (.iadd, 1, 0, 0, 0, 0), some (.iaload, 1, 0, 0, 0, 0), some (.invokevirtual 33, 3, 150, 0, 6, 51), none, none, some (.if_icmp .eq 713, 3, 999, 0, 0, 0), none],
  [none, some (.iconst 0, 1, 0, 0, 0, 0), some (.ireturn, 1, 0, 0, 0, 0), some (.aload_n 1, 1, 0, 0, 0, 0), some (.aload_n 0, 1, 0, 0, 0, 0), some (.iload 4, 2, 0, 0, 0, 0), none, some (.iconst 1, 1, 0, 0, 0, 0), some (.iadd, 1, 0, 0, 0, 0), some (.iaload, 1, 0, 0, 0, 0), some (.invokevirtual 34, 3, 113, 0, 2, 151), none, none, some (.pop, 1, 0, 0, 0, 0), some (.aload_n 2, 1, 0, 0, 0, 0), some (.aload_n 0, 1, 0, 0, 0, 0)],
  [some (.iload 4, 2, 0, 0, 0, 0), none, some (.iconst 1, 1, 0, 0, 0, 0), some (.iadd, 1, 0, 0, 0, 0), some (.iaload, 1, 0, 0, 0, 0), some (.invokevirtual 37, 3, 151, 0, 6, 58), none, none, some (.pop, 1, 0, 0, 0, 0), some (.goto 686, 3, 999, 0, 0, 0), none, none, some (.aload_n 1, 1, 0, 0, 0, 0), some (.aload_n 0, 1, 0, 0, 0, 0), some (.iload 4, 2, 0, 0, 0, 0), none],
  [some (.iconst 1, 1, 0, 0, 0, 0), some (.iadd, 1, 0, 0, 0, 0), some (.iaload, 1, 0, 0, 0, 0), some (.invokevirtual 38, 3, 114, 0, 2, 155), none, none, some (.pop, 1, 0, 0, 0, 0), some (.aload_n 2, 1, 0, 0, 0, 0), some (.aload_n 0, 1, 0, 0, 0, 0), some (.iload 4, 2, 0, 0, 0, 0), none, some (.iconst 1, 1, 0, 0, 0, 0), some (.iadd, 1, 0, 0, 0, 0), some (.iaload, 1, 0, 0, 0, 0), some (.invokevirtual 41, 3, 181, 0, 6, 62), none],
  [none, some (.pop, 1, 0, 0, 0, 0), some (.goto 661, 3, 999, 0, 0, 0), none, none, some (.aload_n 1, 1, 0, 0, 0, 0), some (.invokevirtual 42, 3, 115, 0, 3, 134), none, none, some (.pop, 1, 0, 0, 0, 0), some (.aload_n 2, 1, 0, 0, 0, 0), some (.invokevirtual 46, 3, 182, 0, 6, 176), none, none, some (.pop, 1, 0, 0, 0, 0), some (.goto 648, 3, 999, 0, 0, 0)],
  [none, none, some (.aload_n 1, 1, 0, 0, 0, 0), some (.aload_n 0, 1, 0, 0, 0, 0), some (.iload 4, 2, 0, 0, 0, 0), none, some (.iconst 1, 1, 0, 0, 0, 0), some (.iadd, 1, 0, 0, 0, 0), some (.iaload, 1, 0, 0, 0, 0), some (.aload_n 0, 1, 0, 0, 0, 0), some (.iload 4, 2, 0, 0, 0, 0), none, some (.iconst 2, 1, 0, 0, 0, 0), some (.iadd, 1, 0, 0, 0, 0), some (.iaload, 1, 0, 0, 0, 0), some (.invokevirtual 47, 3, 116, 0, 3, 138)],
  [none, none, some (.pop, 1, 0, 0, 0, 0), some (.aload_n 2, 1, 0, 0, 0, 0), some (.aload_n 0, 1, 0, 0, 0, 0), some (.iload 4, 2, 0, 0, 0, 0), none, some (.iconst 1, 1, 0, 0, 0, 0), some (.iadd, 1, 0, 0, 0, 0), some (.iaload, 1, 0, 0, 0, 0), some (.aload_n 0, 1, 0, 0, 0, 0), some (.iload 4, 2, 0, 0, 0, 0), none, some (.iconst 2, 1, 0, 0, 0, 0), some (.iadd, 1, 0, 0, 0, 0), some (.iaload, 1, 0, 0, 0, 0)],
  [some (.invokevirtual 51, 3, 185, 0, 6, 180), none, none, some (.pop, 1, 0, 0, 0, 0), some (.goto 611, 3, 999, 0, 0, 0), none, none, some (.aload_n 1, 1, 0, 0, 0, 0), some (.aload_n 0, 1, 0, 0, 0, 0), some (.iload 4, 2, 0, 0, 0, 0), none, some (.iconst 1, 1, 0, 0, 0, 0), some (.iadd, 1, 0, 0, 0, 0), some (.iaload, 1, 0, 0, 0, 0), some (.invokevirtual 52, 3, 117, 0, 3, 154), none],
  [none, some (.pop, 1, 0, 0, 0, 0), some (.aload_n 2, 1, 0, 0, 0, 0), some (.aload_n 0, 1, 0, 0, 0, 0), some (.iload 4, 2, 0, 0, 0, 0), none, some (.iconst 1, 1, 0, 0, 0, 0), some (.iadd, 1, 0, 0, 0, 0), some (.iaload, 1, 0, 0, 0, 0), some (.invokevirtual 55, 3, 197, 0, 6, 196), none, none, some (.pop, 1, 0, 0, 0, 0), some (.goto 586, 3, 999, 0, 0, 0), none, none],
  [some (.aload_n 1, 1, 0, 0, 0, 0), some (.aload_n 0, 1, 0, 0, 0, 0), some (.iload 4, 2, 0, 0, 0, 0), none, some (.iconst 1, 1, 0, 0, 0, 0), some (.iadd, 1, 0, 0, 0, 0), some (.iaload, 1, 0, 0, 0, 0), some (.aload_n 0, 1, 0, 0, 0, 0), some (.iload 4, 2, 0, 0, 0, 0), none, some (.iconst 2, 1, 0, 0, 0, 0), some (.iadd, 1, 0, 0, 0, 0), some (.iaload, 1, 0, 0, 0, 0), some (.invokevirtual 56, 3, 118, 0, 3, 231), none, none],
  [some (.pop, 1, 0, 0, 0, 0), some (.aload_n 2, 1, 0, 0, 0, 0), some (.aload_n 0, 1, 0, 0, 0, 0), some (.iload 4, 2, 0, 0, 0, 0), none, some (.iconst 1, 1, 0, 0, 0, 0), some (.iadd, 1, 0, 0, 0, 0), some (.iaload, 1, 0, 0, 0, 0), some (.aload_n 0, 1, 0, 0, 0, 0), some (.iload 4, 2, 0, 0, 0, 0), none, some (.iconst 2, 1, 0, 0, 0, 0), some (.iadd, 1, 0, 0, 0, 0), some (.iaload, 1, 0, 0, 0, 0), some (.invokevirtual 59, 3, 198, 0, 7, 7), none],
  [none, some (.pop, 1, 0, 0, 0, 0), some (.goto 549, 3, 999, 0, 0, 0), none, none, some (.aload_n 1, 1, 0, 0, 0, 0), some (.aload_n 0, 1, 0, 0, 0, 0), some (.iload 4, 2, 0, 0, 0, 0), none, some (.iconst 1, 1, 0, 0, 0, 0), some (.iadd, 1, 0, 0, 0, 0), some (.iaload, 1, 0, 0, 0, 0), some (.aload_n 0, 1, 0, 0, 0, 0), some (.iload 4, 2, 0, 0, 0, 0), none, some (.iconst 2, 1, 0, 0, 0, 0)],
  [some (.iadd, 1, 0, 0, 0, 0), some (.iaload, 1, 0, 0, 0, 0), some (.invokevirtual 60, 3, 119, 0, 3, 235), none, none, some (.pop, 1, 0, 0, 0, 0), some (.aload_n 2, 1, 0, 0, 0, 0), some (.aload_n 0, 1, 0, 0, 0, 0), some (.iload 4, 2, 0, 0, 0, 0), none, some (.iconst 1, 1, 0, 0, 0, 0), some (.iadd, 1, 0, 0, 0, 0), some (.iaload, 1, 0, 0, 0, 0), some (.aload_n 0, 1, 0, 0, 0, 0), some (.iload 4, 2, 0, 0, 0, 0), none],
  [some (.iconst 2, 1, 0, 0, 0, 0), some (.iadd, 1, 0, 0, 0, 0), some (.iaload, 1, 0, 0, 0, 0), some (.invokevirtual 63, 3, 199, 0, 7, 11), none, none, some (.pop, 1, 0, 0, 0, 0), some (.goto 512, 3, 999, 0, 0, 0), none, none, some (.aload_n 1, 1, 0, 0, 0, 0), some (.aload_n 0, 1, 0, 0, 0, 0), some (.iload 4, 2, 0, 0, 0, 0), none, some (.iconst 1, 1, 0, 0, 0, 0), some (.iadd, 1, 0, 0, 0, 0)],
  [some (.iaload, 1, 0, 0, 0, 0), some (.invokevirtual 64, 3, 120, 0, 4, 4), none, none, some (.pop, 1, 0, 0, 0, 0), some (.aload_n 2, 1, 0, 0, 0, 0), some (.aload_n 0, 1, 0, 0, 0, 0), some (.iload 4, 2, 0, 0, 0, 0), none, some (.iconst 1, 1, 0, 0, 0, 0), some (.iadd, 1, 0, 0, 0, 0), some (.iaload, 1, 0, 0, 0, 0), some (.invokevirtual 67, 3, 201, 0, 7, 15), none, none, some (.pop, 1, 0, 0, 0, 0)],
  [some (.goto 487, 3, 999, 0, 0, 0), none, none, some (.aload_n 1, 1, 0, 0, 0, 0), some (.aload_n 0, 1, 0, 0, 0, 0), some (.iload 4, 2, 0, 0, 0, 0), none, some (.iconst 1, 1, 0, 0, 0, 0), some (.iadd, 1, 0, 0, 0, 0), some (.iaload, 1, 0, 0, 0, 0), some (.aload_n 0, 1, 0, 0, 0, 0), some (.iload 4, 2, 0, 0, 0, 0), none, some (.iconst 2, 1, 0, 0, 0, 0), some (.iadd, 1, 0, 0, 0, 0), some (.iaload, 1, 0, 0, 0, 0)],
  [some (.aload_n 0, 1, 0, 0, 0, 0), some (.iload 4, 2, 0, 0, 0, 0), none, some (.iconst 3, 1, 0, 0, 0, 0), some (.iadd, 1, 0, 0, 0, 0), some (.iaload, 1, 0, 0, 0, 0), some (.aload_n 3, 1, 0, 0, 0, 0), none, none, none, some (.istore 5, 2, 0, 0, 0, 0), none, some (.aload_n 2, 1, 0, 0, 0, 0), some (.aload_n 0, 1, 0, 0, 0, 0), some (.iload 4, 2, 0, 0, 0, 0), none],
  [some (.iconst 1, 1, 0, 0, 0, 0), some (.iadd, 1, 0, 0, 0, 0), some (.iaload, 1, 0, 0, 0, 0), some (.aload_n 0, 1, 0, 0, 0, 0), some (.iload 4, 2, 0, 0, 0, 0), none, some (.iconst 2, 1, 0, 0, 0, 0), some (.iadd, 1, 0, 0, 0, 0), some (.iaload, 1, 0, 0, 0, 0), some (.aload_n 0, 1, 0, 0, 0, 0), some (.iload 4, 2, 0, 0, 0, 0), none, some (.iconst 3, 1, 0, 0, 0, 0), some (.iadd, 1, 0, 0, 0, 0), some (.iaload, 1, 0, 0, 0, 0), some (.invokevirtual 73, 3, 207, 0, 7, 23)],
  [none, none, some (.lstore 6, 2, 0, 0, 0, 0), none, some (.goto 435, 3, 999, 0, 0, 0), none, none, some (.aload_n 1, 1, 0, 0, 0, 0), some (.aload_n 0, 1, 0, 0, 0, 0), some (.iload 4, 2, 0, 0, 0, 0), none, some (.iconst 1, 1, 0, 0, 0, 0), some (.iadd, 1, 0, 0, 0, 0), some (.iaload, 1, 0, 0, 0, 0), some (.invokevirtual 74, 3, 122, 0, 4, 8), none],
  [none, some (.pop2, 1, 0, 0, 0, 0), some (.aload_n 2, 1, 0, 0, 0, 0), some (.aload_n 0, 1, 0, 0, 0, 0), some (.iload 4, 2, 0, 0, 0, 0), none, some (.iconst 1, 1, 0, 0, 0, 0), some (.iadd, 1, 0, 0, 0, 0), some (.iaload, 1, 0, 0, 0, 0), some (.invokevirtual 78, 3, 209, 0, 7, 51), none, none, some (.pop2, 1, 0, 0, 0, 0), some (.goto 410, 3, 999, 0, 0, 0), none, none],
  [some (.aload_n 1, 1, 0, 0, 0, 0), some (.aload_n 0, 1, 0, 0, 0, 0), some (.iload 4, 2, 0, 0, 0, 0), none, some (.iconst 1, 1, 0, 0, 0, 0), some (.iadd, 1, 0, 0, 0, 0), some (.iaload, 1, 0, 0, 0, 0), some (.invokevirtual 79, 3, 123, 0, 4, 20), none, none, some (.pop, 1, 0, 0, 0, 0), some (.aload_n 2, 1, 0, 0, 0, 0), some (.aload_n 0, 1, 0, 0, 0, 0), some (.iload 4, 2, 0, 0, 0, 0), none, some (.iconst 1, 1, 0, 0, 0, 0)],
  [some (.iadd, 1, 0, 0, 0, 0), some (.iaload, 1, 0, 0, 0, 0), some (.invokevirtual 82, 3, 210, 0, 7, 59), none, none, some (.pop, 1, 0, 0, 0, 0), some (.goto 385, 3, 999, 0, 0, 0), none, none, some (.aload_n 1, 1, 0, 0, 0, 0), some (.invokevirtual 83, 3, 124, 0, 4, 32), none, none, some (.pop, 1, 0, 0, 0, 0), some (.aload_n 2, 1, 0, 0, 0, 0), some (.invokevirtual 86, 3, 217, 0, 7, 63)],
  [none, none, some (.pop, 1, 0, 0, 0, 0), some (.goto 372, 3, 999, 0, 0, 0), none, none, some (.aload_n 1, 1, 0, 0, 0, 0), some (.aload_n 0, 1, 0, 0, 0, 0), some (.iload 4, 2, 0, 0, 0, 0), none, some (.iconst 1, 1, 0, 0, 0, 0), some (.iadd, 1, 0, 0, 0, 0), some (.iaload, 1, 0, 0, 0, 0), some (.invokevirtual 87, 3, 125, 0, 4, 99), none, none],
  [some (.pop, 1, 0, 0, 0, 0), some (.aload_n 2, 1, 0, 0, 0, 0), some (.aload_n 0, 1, 0, 0, 0, 0), some (.iload 4, 2, 0, 0, 0, 0), none, some (.iconst 1, 1, 0, 0, 0, 0), some (.iadd, 1, 0, 0, 0, 0), some (.iaload, 1, 0, 0, 0, 0), some (.invokevirtual 90, 3, 218, 0, 7, 92), none, none, some (.pop, 1, 0, 0, 0, 0), some (.goto 347, 3, 999, 0, 0, 0), none, none, some (.aload_n 1, 1, 0, 0, 0, 0)],
  [some (.aload_n 0, 1, 0, 0, 0, 0), some (.iload 4, 2, 0, 0, 0, 0), none, some (.iconst 1, 1, 0, 0, 0, 0), some (.iadd, 1, 0, 0, 0, 0), some (.iaload, 1, 0, 0, 0, 0), some (.invokevirtual 91, 3, 126, 0, 4, 103), none, none, some (.pop, 1, 0, 0, 0, 0), some (.aload_n 2, 1, 0, 0, 0, 0), some (.aload_n 0, 1, 0, 0, 0, 0), some (.iload 4, 2, 0, 0, 0, 0), none, some (.iconst 1, 1, 0, 0, 0, 0), some (.iadd, 1, 0, 0, 0, 0)],
  [some (.iaload, 1, 0, 0, 0, 0), some (.invokevirtual 94, 3, 220, 0, 7, 96), none, none, some (.pop, 1, 0, 0, 0, 0), some (.goto 322, 3, 999, 0, 0, 0), none, none, some (.aload_n 1, 1, 0, 0, 0, 0), some (.aload_n 0, 1, 0, 0, 0, 0), some (.iload 4, 2, 0, 0, 0, 0), none, some (.iconst 1, 1, 0, 0, 0, 0), some (.iadd, 1, 0, 0, 0, 0), some (.iaload, 1, 0, 0, 0, 0), some (.aload_n 0, 1, 0, 0, 0, 0)],
  [some (.iload 4, 2, 0, 0, 0, 0), none, some (.iconst 2, 1, 0, 0, 0, 0), some (.iadd, 1, 0, 0, 0, 0), some (.iaload, 1, 0, 0, 0, 0), some (.invokevirtual 95, 3, 127, 0, 4, 119), none, none, some (.pop, 1, 0, 0, 0, 0), some (.aload_n 2, 1, 0, 0, 0, 0), some (.aload_n 0, 1, 0, 0, 0, 0), some (.iload 4, 2, 0, 0, 0, 0), none, some (.iconst 1, 1, 0, 0, 0, 0), some (.iadd, 1, 0, 0, 0, 0), some (.iaload, 1, 0, 0, 0, 0)],
  [some (.aload_n 0, 1, 0, 0, 0, 0), some (.iload 4, 2, 0, 0, 0, 0), none, some (.iconst 2, 1, 0, 0, 0, 0), some (.iadd, 1, 0, 0, 0, 0), some (.iaload, 1, 0, 0, 0, 0), some (.invokevirtual 98, 3, 224, 0, 7, 104), none, none, some (.pop, 1, 0, 0, 0, 0), some (.goto 285, 3, 999, 0, 0, 0), none, none, some (.aload_n 1, 1, 0, 0, 0, 0), some (.invokevirtual 99, 3, 128, 0, 4, 128), none],
  [none, some (.pop, 1, 0, 0, 0, 0), some (.aload_n 2, 1, 0, 0, 0, 0), some (.invokevirtual 102, 3, 225, 0, 7, 119), none, none, some (.pop, 1, 0, 0, 0, 0), some (.goto 272, 3, 999, 0, 0, 0), none, none, some (.aload_n 1, 1, 0, 0, 0, 0), some (.invokevirtual 103, 3, 129, 0, 4, 142), none, none, some (.pop, 1, 0, 0, 0, 0), some (.aload_n 2, 1, 0, 0, 0, 0)],
  [some (.invokevirtual 106, 3, 226, 0, 7, 123), none, none, some (.pop, 1, 0, 0, 0, 0), some (.goto 259, 3, 999, 0, 0, 0), none, none, some (.aload_n 1, 1, 0, 0, 0, 0), some (.aload_n 0, 1, 0, 0, 0, 0), some (.iload 4, 2, 0, 0, 0, 0), none, some (.iconst 1, 1, 0, 0, 0, 0), some (.iadd, 1, 0, 0, 0, 0), some (.iaload, 1, 0, 0, 0, 0), some (.ifCond .eq 7, 3, 757, 0, 0, 0), none],
  [none, some (.iconst 1, 1, 0, 0, 0, 0), some (.goto 4, 3, 758, 0, 0, 0), none, none, some (.iconst 0, 1, 0, 0, 0, 0), some (.invokevirtual 107, 3, 130, 0, 4, 158), none, none, some (.pop, 1, 0, 0, 0, 0), some (.aload_n 2, 1, 0, 0, 0, 0), some (.aload_n 0, 1, 0, 0, 0, 0), some (.iload 4, 2, 0, 0, 0, 0), none, some (.iconst 1, 1, 0, 0, 0, 0), some (.iadd, 1, 0, 0, 0, 0)],
  [some (.iaload, 1, 0, 0, 0, 0), some (.ifCond .eq 7, 3, 776, 0, 0, 0), none, none, some (.iconst 1, 1, 0, 0, 0, 0), some (.goto 4, 3, 777, 0, 0, 0), none, none, some (.iconst 0, 1, 0, 0, 0, 0), some (.invokevirtual 111, 3, 227, 0, 7, 127), none, none, some (.pop, 1, 0, 0, 0, 0), some (.goto 218, 3, 999, 0, 0, 0), none, none],
  [some (.aload_n 1, 1, 0, 0, 0, 0), some (.aload_n 0, 1, 0, 0, 0, 0), some (.iload 4, 2, 0, 0, 0, 0), none, some (.iconst 1, 1, 0, 0, 0, 0), some (.iadd, 1, 0, 0, 0, 0), some (.iaload, 1, 0, 0, 0, 0), some (.invokevirtual 112, 3, 131, 0, 4, 174), none, none, some (.pop, 1, 0, 0, 0, 0), some (.aload_n 2, 1, 0, 0, 0, 0), some (.aload_n 0, 1, 0, 0, 0, 0), some (.iload 4, 2, 0, 0, 0, 0), none, some (.iconst 1, 1, 0, 0, 0, 0)],
  [some (.iadd, 1, 0, 0, 0, 0), some (.iaload, 1, 0, 0, 0, 0), some (.invokevirtual 115, 3, 229, 0, 7, 135), none, none, some (.pop, 1, 0, 0, 0, 0), some (.goto 193, 3, 999, 0, 0, 0), none, none, some (.aload_n 1, 1, 0, 0, 0, 0), some (.aload_n 0, 1, 0, 0, 0, 0), some (.iload 4, 2, 0, 0, 0, 0), none, some (.iconst 1, 1, 0, 0, 0, 0), some (.iadd, 1, 0, 0, 0, 0), some (.iaload, 1, 0, 0, 0, 0)],
  [some (.invokevirtual 116, 3, 132, 0, 4, 194), none, none, some (.pop, 1, 0, 0, 0, 0), some (.aload_n 2, 1, 0, 0, 0, 0), some (.aload_n 0, 1, 0, 0, 0, 0), some (.iload 4, 2, 0, 0, 0, 0), none, some (.iconst 1, 1, 0, 0, 0, 0), some (.iadd, 1, 0, 0, 0, 0), some (.iaload, 1, 0, 0, 0, 0), some (.invokevirtual 119, 3, 231, 0, 7, 143), none, none, some (.pop, 1, 0, 0, 0, 0), some (.goto 168, 3, 999, 0, 0, 0)],
  [none, none, some (.aload_n 1, 1, 0, 0, 0, 0), some (.aload_n 0, 1, 0, 0, 0, 0), some (.iload 4, 2, 0, 0, 0, 0), none, some (.iconst 1, 1, 0, 0, 0, 0), some (.iadd, 1, 0, 0, 0, 0), some (.iaload, 1, 0, 0, 0, 0), some (.aload_n 0, 1, 0, 0, 0, 0), some (.iload 4, 2, 0, 0, 0, 0), none, some (.iconst 2, 1, 0, 0, 0, 0), some (.iadd, 1, 0, 0, 0, 0), some (.iaload, 1, 0, 0, 0, 0), some (.ifCond .eq 7, 3, 854, 0, 0, 0)],
  [none, none, some (.iconst 1, 1, 0, 0, 0, 0), some (.goto 4, 3, 855, 0, 0, 0), none, none, some (.iconst 0, 1, 0, 0, 0, 0), some (.invokevirtual 120, 3, 133, 0, 4, 198), none, none, some (.pop, 1, 0, 0, 0, 0), some (.aload_n 2, 1, 0, 0, 0, 0), some (.aload_n 0, 1, 0, 0, 0, 0), some (.iload 4, 2, 0, 0, 0, 0), none, some (.iconst 1, 1, 0, 0, 0, 0)],
  [some (.iadd, 1, 0, 0, 0, 0), some (.iaload, 1, 0, 0, 0, 0), some (.aload_n 0, 1, 0, 0, 0, 0), some (.iload 4, 2, 0, 0, 0, 0), none, some (.iconst 2, 1, 0, 0, 0, 0), some (.iadd, 1, 0, 0, 0, 0), some (.iaload, 1, 0, 0, 0, 0), some (.ifCond .eq 7, 3, 879, 0, 0, 0), none, none, some (.iconst 1, 1, 0, 0, 0, 0), some (.goto 4, 3, 880, 0, 0, 0), none, none, some (.iconst 0, 1, 0, 0, 0, 0)],
  [some (.invokevirtual 124, 3, 232, 0, 7, 147), none, none, some (.pop, 1, 0, 0, 0, 0), some (.goto 115, 3, 999, 0, 0, 0), none, none, some (.aload_n 1, 1, 0, 0, 0, 0), some (.aload_n 0, 1, 0, 0, 0, 0), some (.iload 4, 2, 0, 0, 0, 0), none, some (.iconst 1, 1, 0, 0, 0, 0), some (.iadd, 1, 0, 0, 0, 0), some (.iaload, 1, 0, 0, 0, 0), some (.invokevirtual 125, 3, 134, 0, 4, 206), none],
  [none, some (.pop, 1, 0, 0, 0, 0), some (.aload_n 2, 1, 0, 0, 0, 0), some (.aload_n 0, 1, 0, 0, 0, 0), some (.iload 4, 2, 0, 0, 0, 0), none, some (.iconst 1, 1, 0, 0, 0, 0), some (.iadd, 1, 0, 0, 0, 0), some (.iaload, 1, 0, 0, 0, 0), some (.invokevirtual 128, 3, 233, 0, 7, 151), none, none, some (.pop, 1, 0, 0, 0, 0), some (.goto 90, 3, 999, 0, 0, 0), none, none],
  [some (.aload_n 1, 1, 0, 0, 0, 0), some (.aload_n 0, 1, 0, 0, 0, 0), some (.iload 4, 2, 0, 0, 0, 0), none, some (.iconst 1, 1, 0, 0, 0, 0), some (.iadd, 1, 0, 0, 0, 0), some (.iaload, 1, 0, 0, 0, 0), some (.aload_n 0, 1, 0, 0, 0, 0), some (.iload 4, 2, 0, 0, 0, 0), none, some (.iconst 2, 1, 0, 0, 0, 0), some (.iadd, 1, 0, 0, 0, 0), some (.iaload, 1, 0, 0, 0, 0), some (.invokevirtual 129, 3, 135, 0, 4, 210), none, none],
  [some (.pop, 1, 0, 0, 0, 0), some (.aload_n 2, 1, 0, 0, 0, 0), some (.aload_n 0, 1, 0, 0, 0, 0), some (.iload 4, 2, 0, 0, 0, 0), none, some (.iconst 1, 1, 0, 0, 0, 0), some (.iadd, 1, 0, 0, 0, 0), some (.iaload, 1, 0, 0, 0, 0), some (.aload_n 0, 1, 0, 0, 0, 0), some (.iload 4, 2, 0, 0, 0, 0), none, some (.iconst 2, 1, 0, 0, 0, 0), some (.iadd, 1, 0, 0, 0, 0), some (.iaload, 1, 0, 0, 0, 0), some (.invokevirtual 132, 3, 235, 0, 7, 155), none],
  [none, some (.pop, 1, 0, 0, 0, 0), some (.goto 53, 3, 999, 0, 0, 0), none, none, some (.aload_n 1, 1, 0, 0, 0, 0), some (.aload_n 0, 1, 0, 0, 0, 0), some (.iload 4, 2, 0, 0, 0, 0), none, some (.iconst 1, 1, 0, 0, 0, 0), some (.iadd, 1, 0, 0, 0, 0), some (.iaload, 1, 0, 0, 0, 0), some (.invokevirtual 133, 3, 136, 0, 4, 218), none, none, some (.pop, 1, 0, 0, 0, 0)],
  [some (.aload_n 2, 1, 0, 0, 0, 0), some (.aload_n 0, 1, 0, 0, 0, 0), some (.iload 4, 2, 0, 0, 0, 0), none, some (.iconst 1, 1, 0, 0, 0, 0), some (.iadd, 1, 0, 0, 0, 0), some (.iaload, 1, 0, 0, 0, 0), some (.invokevirtual 136, 3, 236, 0, 7, 163), none, none, some (.pop, 1, 0, 0, 0, 0), some (.goto 28, 3, 999, 0, 0, 0), none, none, some (.aload_n 1, 1, 0, 0, 0, 0), some (.aload_n 0, 1, 0, 0, 0, 0)],
  [some (.iload 4, 2, 0, 0, 0, 0), none, some (.iconst 1, 1, 0, 0, 0, 0), some (.iadd, 1, 0, 0, 0, 0), some (.iaload, 1, 0, 0, 0, 0), some (.invokevirtual 137, 3, 137, 0, 4, 222), none, none, some (.pop, 1, 0, 0, 0, 0), some (.aload_n 2, 1, 0, 0, 0, 0), some (.aload_n 0, 1, 0, 0, 0, 0), some (.iload 4, 2, 0, 0, 0, 0), none, some (.iconst 1, 1, 0, 0, 0, 0), some (.iadd, 1, 0, 0, 0, 0), some (.iaload, 1, 0, 0, 0, 0)],
  [some (.invokevirtual 140, 3, 237, 0, 7, 167), none, none, some (.pop, 1, 0, 0, 0, 0), some (.goto 3, 3, 999, 0, 0, 0), none, none, some (.iinc 4 6, 3, 0, 0, 0, 0), none, none, some (.goto (-979), 3, 23, 0, 0, 0), none, none, some (.iconst 1, 1, 0, 0, 0, 0), some (.ireturn, 1, 0, 0, 0, 0), none]]
def xmi_X0_init : xm_M := (RX0, yX0_init, cX0_init, 2, none, 2, 0, 0)
def xmi_X0_isOption : xm_M := (RX0, yX0_isOption, cX0_isOption, 1, (some (.boolean)), 1, 1, 0)
def xmi_X0_isRow : xm_M := (RX0, yX0_isRow, cX0_isRow, 5, (some (.boolean)), 0, 1, 0)
def xmi_X0_order : xm_M := (RX0, yX0_order, cX0_order, 5, none, 0, 2, 0)
def xmi_X0_whoPrefer : xm_M := (RX0, yX0_whoPrefer, cX0_whoPrefer, 6, (some (.int)), 0, 3, 0)
def xmi_X0_match : xm_M := (RX0, yX0_match, cX0_match, 5, none, 0, 2, 0)
def xmi_X0_wins : xm_M := (RX0, yX0_wins, cX0_wins, 3, (some (.boolean)), 0, 2, 0)
def xmi_X0_unbeaten : xm_M := (RX0, yX0_unbeaten, cX0_unbeaten, 3, (some (.int)), 0, 0, 0)
def xmi_X0_best : xm_M := (RX0, yX0_best, cX0_best, 5, (some (.int)), 0, 0, 0)
def xmi_X0_findReach : xm_M := (RX0, yX0_findReach, cX0_findReach, 3, none, 0, 0, 0)
def xmi_X0_stands : xm_M := (RX0, yX0_stands, cX0_stands, 3, (some (.int)), 0, 2, 0)
def xmi_X0_follow : xm_M := (RX0, yX0_follow, cX0_follow, 4, (some (.int)), 0, 1, 0)
def xmi_X0_foresee : xm_M := (RX0, yX0_foresee, cX0_foresee, 6, (some (.int)), 0, 1, 0)
def xmi_X0_countRows : xm_M := (RX0, yX0_countRows, cX0_countRows, 4, (some (.int)), 0, 1, 0)
def xmi_X0_waysFrom : xm_M := (RX0, yX0_waysFrom, cX0_waysFrom, 3, (some (.int)), 0, 2, 0)
def xmi_X0_countWays : xm_M := (RX0, yX0_countWays, cX0_countWays, 6, none, 0, 1, 0)
def xmi_X0_findFirstRow : xm_M := (RX0, yX0_findFirstRow, cX0_findFirstRow, 6, none, 0, 0, 0)
def xmi_X1_init : xm_M := (RX1, yX1_init, cX1_init, 1, none, 2, 0, 1)
def xmi_X1_add : xm_M := (RX1, yX1_add, cX1_add, 4, (some (.int)), 0, 3, 1)
def xmi_X1_judge : xm_M := (RX1, yX1_judge, cX1_judge, 6, (some (.int)), 0, 2, 1)
def xmi_X2_init : xm_M := (RX2, yX2_init, cX2_init, 2, none, 2, 1, 2)
def xmi_X2_isOf : xm_M := (RX2, yX2_isOf, cX2_isOf, 3, (some (.boolean)), 0, 2, 2)
def xmi_X2_study : xm_M := (RX2, yX2_study, cX2_study, 4, none, 0, 2, 2)
def xmi_X2_list : xm_M := (RX2, yX2_list, cX2_list, 6, (some (.int)), 0, 2, 2)
def xmi_X2_isMinimal : xm_M := (RX2, yX2_isMinimal, cX2_isMinimal, 4, (some (.boolean)), 0, 2, 2)
def xmi_X2_does : xm_M := (RX2, yX2_does, cX2_does, 3, (some (.boolean)), 0, 2, 2)
def xmi_X2_markNeeded : xm_M := (RX2, yX2_markNeeded, cX2_markNeeded, 2, none, 0, 0, 2)
def xmi_X2_turnsBy : xm_M := (RX2, yX2_turnsBy, cX2_turnsBy, 3, (some (.boolean)), 0, 2, 2)
def xmi_X2_countSwings : xm_M := (RX2, yX2_countSwings, cX2_countSwings, 4, (some (.int)), 0, 1, 2)
def xmi_X2_countCarrying : xm_M := (RX2, yX2_countCarrying, cX2_countCarrying, 3, (some (.int)), 0, 0, 2)
def xmi_X2_isProper : xm_M := (RX2, yX2_isProper, cX2_isProper, 2, (some (.boolean)), 0, 0, 2)
def xmi_X2_isStrong : xm_M := (RX2, yX2_isStrong, cX2_isStrong, 2, (some (.boolean)), 0, 0, 2)
def xmi_X2_isLined : xm_M := (RX2, yX2_isLined, cX2_isLined, 3, (some (.boolean)), 0, 0, 2)
def xmi_X2_compare : xm_M := (RX2, yX2_compare, cX2_compare, 5, (some (.int)), 0, 2, 2)
def xmi_X2_compareAll : xm_M := (RX2, yX2_compareAll, cX2_compareAll, 3, none, 0, 0, 2)
def xmi_X2_isAtLeast : xm_M := (RX2, yX2_isAtLeast, cX2_isAtLeast, 5, (some (.boolean)), 0, 2, 2)
def xmi_X2_upperShare : xm_M := (RX2, yX2_upperShare, cX2_upperShare, 3, (some (.long)), 0, 2, 2)
def xmi_X2_lowerShare : xm_M := (RX2, yX2_lowerShare, cX2_lowerShare, 5, (some (.long)), 0, 1, 2)
def xmi_X2_ordersOf : xm_M := (RX2, yX2_ordersOf, cX2_ordersOf, 6, (some (.long)), 0, 1, 2)
def xmi_X2_partsOf : xm_M := (RX2, yX2_partsOf, cX2_partsOf, 6, (some (.long)), 0, 1, 2)
def xmi_X2_chanceOf : xm_M := (RX2, yX2_chanceOf, cX2_chanceOf, 5, (some (.long)), 0, 1, 2)
def xmi_X2_power : xm_M := (RX2, yX2_power, cX2_power, 5, (some (.long)), 1, 2, 2)
def xmi_X2_allyOf : xm_M := (RX2, yX2_allyOf, cX2_allyOf, 6, (some (.int)), 0, 1, 2)
def xmi_X2_countTogether : xm_M := (RX2, yX2_countTogether, cX2_countTogether, 6, (some (.int)), 0, 2, 2)
def xmi_X3_init : xm_M := (RX3, yX3_init, cX3_init, 1, none, 2, 0, 3)
def xmi_X3_clear : xm_M := (RX3, yX3_clear, cX3_clear, 1, none, 0, 0, 3)
def xmi_X3_add : xm_M := (RX3, yX3_add, cX3_add, 3, none, 0, 2, 3)
def xmi_X3_fill : xm_M := (RX3, yX3_fill, cX3_fill, 4, none, 0, 2, 3)
def xmi_X3_run : xm_M := (RX3, yX3_run, cX3_run, 8, (some (.boolean)), 0, 1, 3)
def xmi_X3_join : xm_M := (RX3, yX3_join, cX3_join, 4, (some (.int)), 1, 4, 3)
def xmi_X3_push : xm_M := (RX3, yX3_push, cX3_push, 3, (some (.int)), 0, 2, 3)
def xmi_X3_peek : xm_M := (RX3, yX3_peek, cX3_peek, 2, (some (.int)), 0, 1, 3)
def xmi_X3_replace : xm_M := (RX3, yX3_replace, cX3_replace, 3, none, 0, 2, 3)
def xmi_X4_init : xm_M := (RX4, yX4_init, cX4_init, 2, none, 2, 1, 4)
def xmi_X4_read : xm_M := (RX4, yX4_read, cX4_read, 4, none, 0, 1, 4)
def xmi_X4_fail : xm_M := (RX4, yX4_fail, cX4_fail, 3, (some (.boolean)), 0, 2, 4)
def xmi_X4_takeWord : xm_M := (RX4, yX4_takeWord, cX4_takeWord, 2, (some (.boolean)), 0, 1, 4)
def xmi_X4_takeSign : xm_M := (RX4, yX4_takeSign, cX4_takeSign, 2, (some (.boolean)), 0, 1, 4)
def xmi_X4_takeEnd : xm_M := (RX4, yX4_takeEnd, cX4_takeEnd, 2, (some (.boolean)), 0, 0, 4)
def xmi_X4_takeOpening : xm_M := (RX4, yX4_takeOpening, cX4_takeOpening, 2, (some (.boolean)), 0, 1, 4)
def xmi_X4_readBody : xm_M := (RX4, yX4_readBody, cX4_readBody, 3, (some (.boolean)), 0, 0, 4)
def xmi_X4_takeNewName : xm_M := (RX4, yX4_takeNewName, cX4_takeNewName, 1, (some (.boolean)), 0, 0, 4)
def xmi_X4_toldName : xm_M := (RX4, yX4_toldName, cX4_toldName, 2, (some (.int)), 0, 0, 4)
def xmi_X4_readRule : xm_M := (RX4, yX4_readRule, cX4_readRule, 3, (some (.boolean)), 0, 0, 4)
def xmi_X4_readAll : xm_M := (RX4, yX4_readAll, cX4_readAll, 3, (some (.boolean)), 0, 0, 4)
def xmi_X4_readOne : xm_M := (RX4, yX4_readOne, cX4_readOne, 3, (some (.boolean)), 0, 0, 4)
def xmi_X4_noteMember : xm_M := (RX4, yX4_noteMember, cX4_noteMember, 2, (some (.boolean)), 0, 0, 4)
def xmi_X4_noteName : xm_M := (RX4, yX4_noteName, cX4_noteName, 2, (some (.boolean)), 0, 0, 4)
def xmi_X4_countOne : xm_M := (RX4, yX4_countOne, cX4_countOne, 2, (some (.boolean)), 0, 1, 4)
def xmi_X4_readQuota : xm_M := (RX4, yX4_readQuota, cX4_readQuota, 5, (some (.boolean)), 0, 2, 4)
def xmi_X4_readItem : xm_M := (RX4, yX4_readItem, cX4_readItem, 5, (some (.boolean)), 0, 0, 4)
def xmi_X5_init : xm_M := (RX5, yX5_init, cX5_init, 3, none, 2, 1, 5)
def xmi_X5_look : xm_M := (RX5, yX5_look, cX5_look, 1, (some (.int)), 0, 0, 5)
def xmi_X5_search : xm_M := (RX5, yX5_search, cX5_search, 1, (some (.int)), 0, 0, 5)
def xmi_X5_findClasses : xm_M := (RX5, yX5_findClasses, cX5_findClasses, 2, none, 0, 0, 5)
def xmi_X5_isFirst : xm_M := (RX5, yX5_isFirst, cX5_isFirst, 3, (some (.boolean)), 0, 1, 5)
def xmi_X5_strengthOf : xm_M := (RX5, yX5_strengthOf, cX5_strengthOf, 4, (some (.int)), 0, 1, 5)
def xmi_X5_place : xm_M := (RX5, yX5_place, cX5_place, 7, none, 0, 2, 5)
def xmi_X5_lowest : xm_M := (RX5, yX5_lowest, cX5_lowest, 3, (some (.int)), 0, 1, 5)
def xmi_X5_highest : xm_M := (RX5, yX5_highest, cX5_highest, 4, (some (.int)), 0, 2, 5)
def xmi_X5_leastRest : xm_M := (RX5, yX5_leastRest, cX5_leastRest, 4, (some (.int)), 0, 0, 5)
def xmi_X5_mostRest : xm_M := (RX5, yX5_mostRest, cX5_mostRest, 4, (some (.int)), 0, 0, 5)
def xmi_X5_tryRow : xm_M := (RX5, yX5_tryRow, cX5_tryRow, 2, none, 0, 0, 5)
def xmi_X5_doesTheSame : xm_M := (RX5, yX5_doesTheSame, cX5_doesTheSame, 1, (some (.boolean)), 0, 0, 5)
def xmi_X5_lightest : xm_M := (RX5, yX5_lightest, cX5_lightest, 7, (some (.int)), 0, 2, 5)
def xmi_X5_weightOf : xm_M := (RX5, yX5_weightOf, cX5_weightOf, 4, (some (.int)), 0, 1, 5)
def xmi_X5_tell : xm_M := (RX5, yX5_tell, cX5_tell, 2, none, 0, 0, 5)
def xmi_X6_init : xm_M := (RX6, yX6_init, cX6_init, 2, none, 2, 1, 6)
def xmi_X6_begin : xm_M := (RX6, yX6_begin, cX6_begin, 1, none, 0, 0, 6)
def xmi_X6_isCut : xm_M := (RX6, yX6_isCut, cX6_isCut, 1, (some (.boolean)), 0, 0, 6)
def xmi_X6_advance : xm_M := (RX6, yX6_advance, cX6_advance, 1, none, 0, 0, 6)
def xmi_X6_takeRun : xm_M := (RX6, yX6_takeRun, cX6_takeRun, 4, none, 0, 0, 6)
def xmi_X6_isWord : xm_M := (RX6, yX6_isWord, cX6_isWord, 3, (some (.boolean)), 0, 1, 6)
def xmi_X6_isName : xm_M := (RX6, yX6_isName, cX6_isName, 2, (some (.boolean)), 0, 0, 6)
def xmi_X6_isLone : xm_M := (RX6, yX6_isLone, cX6_isLone, 1, (some (.boolean)), 0, 0, 6)
def xmi_X6_letter : xm_M := (RX6, yX6_letter, cX6_letter, 1, (some (.int)), 0, 0, 6)
def xmi_X6_isLike : xm_M := (RX6, yX6_isLike, cX6_isLike, 4, (some (.boolean)), 0, 2, 6)
def xmi_X6_isBlank : xm_M := (RX6, yX6_isBlank, cX6_isBlank, 1, (some (.boolean)), 1, 1, 6)
def xmi_X6_isLetter : xm_M := (RX6, yX6_isLetter, cX6_isLetter, 1, (some (.boolean)), 1, 1, 6)
def xmi_X6_isDigit : xm_M := (RX6, yX6_isDigit, cX6_isDigit, 1, (some (.boolean)), 1, 1, 6)
def xmi_X6_isSign : xm_M := (RX6, yX6_isSign, cX6_isSign, 1, (some (.boolean)), 1, 1, 6)
def xmi_X7_init : xm_M := (RX7, yX7_init, cX7_init, 2, none, 2, 1, 7)
def xmi_X7_holds : xm_M := (RX7, yX7_holds, cX7_holds, 3, (some (.boolean)), 0, 1, 7)
def xmi_X7_add : xm_M := (RX7, yX7_add, cX7_add, 3, none, 0, 1, 7)
def xmi_X7_needAll : xm_M := (RX7, yX7_needAll, cX7_needAll, 3, none, 0, 1, 7)
def xmi_X8_init : xm_M := (RX8, yX8_init, cX8_init, 1, none, 2, 0, 8)
def xmi_X8_hasRoom : xm_M := (RX8, yX8_hasRoom, cX8_hasRoom, 1, (some (.boolean)), 0, 0, 8)
def xmi_X8_put : xm_M := (RX8, yX8_put, cX8_put, 3, none, 0, 1, 8)
def xmi_X8_at : xm_M := (RX8, yX8_at, cX8_at, 2, (some (.int)), 0, 1, 8)
def xmi_X9_init : xm_M := (RX9, yX9_init, cX9_init, 1, none, 2, 0, 9)
def xmi_X9_feed : xm_M := (RX9, yX9_feed, cX9_feed, 6, (some (.int)), 0, 5, 9)
def xmi_X9_end : xm_M := (RX9, yX9_end, cX9_end, 2, (some (.boolean)), 0, 1, 9)
def xmi_X9_next : xm_M := (RX9, yX9_next, cX9_next, 2, (some (.int)), 0, 1, 9)
def xmi_X9_members : xm_M := (RX9, yX9_members, cX9_members, 3, (some (.boolean)), 0, 1, 9)
def xmi_X9_statute : xm_M := (RX9, yX9_statute, cX9_statute, 3, (some (.int)), 0, 1, 9)
def xmi_X9_fault : xm_M := (RX9, yX9_fault, cX9_fault, 1, (some (.int)), 0, 0, 9)
def xmi_X9_carries : xm_M := (RX9, yX9_carries, cX9_carries, 3, (some (.int)), 0, 2, 9)
def xmi_X9_many : xm_M := (RX9, yX9_many, cX9_many, 3, (some (.int)), 0, 1, 9)
def xmi_X9_setAt : xm_M := (RX9, yX9_setAt, cX9_setAt, 4, (some (.int)), 0, 2, 9)
def xmi_X9_stronger : xm_M := (RX9, yX9_stronger, cX9_stronger, 3, (some (.int)), 0, 2, 9)
def xmi_X9_turns : xm_M := (RX9, yX9_turns, cX9_turns, 2, (some (.int)), 0, 1, 9)
def xmi_X9_share : xm_M := (RX9, yX9_share, cX9_share, 11, (some (.long)), 0, 3, 9)
def xmi_X9_chance : xm_M := (RX9, yX9_chance, cX9_chance, 2, (some (.long)), 0, 1, 9)
def xmi_X9_ally : xm_M := (RX9, yX9_ally, cX9_ally, 2, (some (.int)), 0, 1, 9)
def xmi_X9_weigh : xm_M := (RX9, yX9_weigh, cX9_weigh, 1, (some (.int)), 0, 0, 9)
def xmi_X9_weight : xm_M := (RX9, yX9_weight, cX9_weight, 2, (some (.int)), 0, 1, 9)
def xmi_X9_rank : xm_M := (RX9, yX9_rank, cX9_rank, 3, (some (.boolean)), 0, 1, 9)
def xmi_X9_beats : xm_M := (RX9, yX9_beats, cX9_beats, 3, (some (.int)), 0, 2, 9)
def xmi_X9_free : xm_M := (RX9, yX9_free, cX9_free, 1, (some (.int)), 0, 0, 9)
def xmi_X9_top : xm_M := (RX9, yX9_top, cX9_top, 1, (some (.int)), 0, 0, 9)
def xmi_X9_leads : xm_M := (RX9, yX9_leads, cX9_leads, 3, (some (.int)), 0, 1, 9)
def xmi_X9_rows : xm_M := (RX9, yX9_rows, cX9_rows, 2, (some (.int)), 0, 1, 9)
def xmi_X9_rowAt : xm_M := (RX9, yX9_rowAt, cX9_rowAt, 2, (some (.int)), 0, 1, 9)
def xmi_X9_vote : xm_M := (RX9, yX9_vote, cX9_vote, 3, (some (.int)), 0, 2, 9)
def xmi_X9_unfit : xm_M := (RX9, yX9_unfit, cX9_unfit, 4, (some (.int)), 0, 1, 9)
def xmi_X9_sure : xm_M := (RX9, yX9_sure, cX9_sure, 3, (some (.int)), 0, 2, 9)
def xmi_X9_open : xm_M := (RX9, yX9_open, cX9_open, 4, (some (.int)), 0, 1, 9)
def xmi_X9_count : xm_M := (RX9, yX9_count, cX9_count, 2, (some (.int)), 0, 1, 9)
def xmi_X9_isMember : xm_M := (RX9, yX9_isMember, cX9_isMember, 2, (some (.boolean)), 0, 1, 9)
def xmi_X9_isSet : xm_M := (RX9, yX9_isSet, cX9_isSet, 2, (some (.boolean)), 0, 1, 9)
def xmi_X9_inForce : xm_M := (RX9, yX9_inForce, cX9_inForce, 5, (some (.object "CarryHouse$Statute")), 0, 1, 9)
def xmi_X9_powersToday : xm_M := (RX9, yX9_powersToday, cX9_powersToday, 1, (some (.object "CarryHouse$Powers")), 0, 0, 9)
def xmi_X9_commonDivisor : xm_M := (RX9, yX9_commonDivisor, cX9_commonDivisor, 11, (some (.long)), 1, 2, 9)
def xmi_X10_init : xm_M := (RX10, yX10_init, cX10_init, 1, none, 2, 0, 10)
def xmi_X10_refuse : xm_M := (RX10, yX10_refuse, cX10_refuse, 1, (some (.int)), 0, 0, 10)
def xmi_X10_come : xm_M := (RX10, yX10_come, cX10_come, 3, none, 0, 1, 10)
def xmi_X10_feed : xm_M := (RX10, yX10_feed, cX10_feed, 6, (some (.int)), 0, 5, 10)
def xmi_X10_end : xm_M := (RX10, yX10_end, cX10_end, 2, (some (.boolean)), 0, 1, 10)
def xmi_X10_take : xm_M := (RX10, yX10_take, cX10_take, 2, (some (.int)), 0, 0, 10)
def xmi_X10_isIn : xm_M := (RX10, yX10_isIn, cX10_isIn, 3, (some (.boolean)), 1, 3, 10)
def xmi_X10_next : xm_M := (RX10, yX10_next, cX10_next, 2, (some (.int)), 0, 1, 10)
def xmi_X10_members : xm_M := (RX10, yX10_members, cX10_members, 2, (some (.boolean)), 0, 1, 10)
def xmi_X10_isMember : xm_M := (RX10, yX10_isMember, cX10_isMember, 2, (some (.boolean)), 0, 1, 10)
def xmi_X10_isSet : xm_M := (RX10, yX10_isSet, cX10_isSet, 2, (some (.boolean)), 0, 1, 10)
def xmi_X10_sizeOf : xm_M := (RX10, yX10_sizeOf, cX10_sizeOf, 3, (some (.int)), 1, 1, 10)
def xmi_X10_byteAt : xm_M := (RX10, yX10_byteAt, cX10_byteAt, 2, (some (.int)), 0, 1, 10)
def xmi_X10_isDigit : xm_M := (RX10, yX10_isDigit, cX10_isDigit, 1, (some (.boolean)), 1, 1, 10)
def xmi_X10_isLetter : xm_M := (RX10, yX10_isLetter, cX10_isLetter, 1, (some (.boolean)), 1, 1, 10)
def xmi_X10_isMark : xm_M := (RX10, yX10_isMark, cX10_isMark, 1, (some (.boolean)), 1, 1, 10)
def xmi_X10_go : xm_M := (RX10, yX10_go, cX10_go, 5, none, 0, 0, 10)
def xmi_X10_spelt : xm_M := (RX10, yX10_spelt, cX10_spelt, 7, (some (.long)), 1, 5, 10)
def xmi_X10_isKey : xm_M := (RX10, yX10_isKey, cX10_isKey, 3, (some (.boolean)), 0, 1, 10)
def xmi_X10_isBody : xm_M := (RX10, yX10_isBody, cX10_isBody, 1, (some (.boolean)), 0, 0, 10)
def xmi_X10_isCarry : xm_M := (RX10, yX10_isCarry, cX10_isCarry, 1, (some (.boolean)), 0, 0, 10)
def xmi_X10_isAnd : xm_M := (RX10, yX10_isAnd, cX10_isAnd, 1, (some (.boolean)), 0, 0, 10)
def xmi_X10_isOr : xm_M := (RX10, yX10_isOr, cX10_isOr, 1, (some (.boolean)), 0, 0, 10)
def xmi_X10_isOf : xm_M := (RX10, yX10_isOf, cX10_isOf, 1, (some (.boolean)), 0, 0, 10)
def xmi_X10_isName : xm_M := (RX10, yX10_isName, cX10_isName, 1, (some (.boolean)), 0, 0, 10)
def xmi_X10_isSign : xm_M := (RX10, yX10_isSign, cX10_isSign, 2, (some (.boolean)), 0, 1, 10)
def xmi_X10_bad : xm_M := (RX10, yX10_bad, cX10_bad, 2, (some (.boolean)), 0, 1, 10)
def xmi_X10_badAt : xm_M := (RX10, yX10_badAt, cX10_badAt, 3, (some (.boolean)), 0, 2, 10)
def xmi_X10_openRule : xm_M := (RX10, yX10_openRule, cX10_openRule, 3, none, 0, 1, 10)
def xmi_X10_openList : xm_M := (RX10, yX10_openList, cX10_openList, 3, none, 0, 1, 10)
def xmi_X10_begin : xm_M := (RX10, yX10_begin, cX10_begin, 1, (some (.boolean)), 0, 0, 10)
def xmi_X10_beginItem : xm_M := (RX10, yX10_beginItem, cX10_beginItem, 3, (some (.boolean)), 0, 0, 10)
def xmi_X10_beginList : xm_M := (RX10, yX10_beginList, cX10_beginList, 2, (some (.boolean)), 0, 1, 10)
def xmi_X10_nameAtHand : xm_M := (RX10, yX10_nameAtHand, cX10_nameAtHand, 2, (some (.int)), 0, 0, 10)
def xmi_X10_beginOne : xm_M := (RX10, yX10_beginOne, cX10_beginOne, 5, (some (.boolean)), 0, 0, 10)
def xmi_X10_end_ : xm_M := (RX10, yX10_end_, cX10_end_, 3, (some (.boolean)), 0, 0, 10)
def xmi_X10_readRule : xm_M := (RX10, yX10_readRule, cX10_readRule, 1, (some (.boolean)), 0, 0, 10)
def xmi_X10_readBody : xm_M := (RX10, yX10_readBody, cX10_readBody, 4, (some (.boolean)), 0, 0, 10)
def xmi_X10_statute : xm_M := (RX10, yX10_statute, cX10_statute, 4, (some (.int)), 0, 1, 10)
def xmi_X10_fault : xm_M := (RX10, yX10_fault, cX10_fault, 1, (some (.int)), 0, 0, 10)
def xmi_X10_inForce : xm_M := (RX10, yX10_inForce, cX10_inForce, 5, (some (.int)), 0, 2, 10)
def xmi_X10_carriesBy : xm_M := (RX10, yX10_carriesBy, cX10_carriesBy, 3, (some (.boolean)), 0, 2, 10)
def xmi_X10_carries : xm_M := (RX10, yX10_carries, cX10_carries, 3, (some (.int)), 0, 2, 10)
def xmi_X10_lay : xm_M := (RX10, yX10_lay, cX10_lay, 3, none, 0, 0, 10)
def xmi_X10_isLeast : xm_M := (RX10, yX10_isLeast, cX10_isLeast, 3, (some (.boolean)), 0, 1, 10)
def xmi_X10_hinders : xm_M := (RX10, yX10_hinders, cX10_hinders, 2, (some (.boolean)), 0, 1, 10)
def xmi_X10_isLeastHinder : xm_M := (RX10, yX10_isLeastHinder, cX10_isLeastHinder, 3, (some (.boolean)), 0, 1, 10)
def xmi_X10_isOfKind : xm_M := (RX10, yX10_isOfKind, cX10_isOfKind, 3, (some (.boolean)), 0, 2, 10)
def xmi_X10_countOf : xm_M := (RX10, yX10_countOf, cX10_countOf, 4, (some (.int)), 0, 1, 10)
def xmi_X10_whoIs : xm_M := (RX10, yX10_whoIs, cX10_whoIs, 6, (some (.int)), 0, 1, 10)
def xmi_X10_isProper : xm_M := (RX10, yX10_isProper, cX10_isProper, 2, (some (.boolean)), 0, 0, 10)
def xmi_X10_isStrong : xm_M := (RX10, yX10_isStrong, cX10_isStrong, 2, (some (.boolean)), 0, 0, 10)
def xmi_X10_held : xm_M := (RX10, yX10_held, cX10_held, 7, (some (.int)), 0, 2, 10)
def xmi_X10_isLined : xm_M := (RX10, yX10_isLined, cX10_isLined, 3, (some (.boolean)), 0, 0, 10)
def xmi_X10_many : xm_M := (RX10, yX10_many, cX10_many, 4, (some (.int)), 0, 1, 10)
def xmi_X10_setAt : xm_M := (RX10, yX10_setAt, cX10_setAt, 6, (some (.int)), 0, 2, 10)
def xmi_X10_stronger : xm_M := (RX10, yX10_stronger, cX10_stronger, 4, (some (.int)), 0, 2, 10)
def xmi_X10_turnsOf : xm_M := (RX10, yX10_turnsOf, cX10_turnsOf, 4, (some (.int)), 0, 1, 10)
def xmi_X10_turns : xm_M := (RX10, yX10_turns, cX10_turns, 2, (some (.int)), 0, 1, 10)
def xmi_X10_lessen : xm_M := (RX10, yX10_lessen, cX10_lessen, 11, none, 0, 2, 10)
def xmi_X10_orders : xm_M := (RX10, yX10_orders, cX10_orders, 4, (some (.long)), 1, 1, 10)
def xmi_X10_shareOfSets : xm_M := (RX10, yX10_shareOfSets, cX10_shareOfSets, 5, none, 0, 1, 10)
def xmi_X10_shareOfOrders : xm_M := (RX10, yX10_shareOfOrders, cX10_shareOfOrders, 5, none, 0, 1, 10)
def xmi_X10_shareOfLeast : xm_M := (RX10, yX10_shareOfLeast, cX10_shareOfLeast, 7, none, 0, 1, 10)
def xmi_X10_share : xm_M := (RX10, yX10_share, cX10_share, 4, (some (.long)), 0, 3, 10)
def xmi_X10_power : xm_M := (RX10, yX10_power, cX10_power, 6, (some (.long)), 1, 2, 10)
def xmi_X10_chance : xm_M := (RX10, yX10_chance, cX10_chance, 5, (some (.long)), 0, 1, 10)
def xmi_X10_ally : xm_M := (RX10, yX10_ally, cX10_ally, 7, (some (.int)), 0, 1, 10)
def xmi_X10_findSorts : xm_M := (RX10, yX10_findSorts, cX10_findSorts, 3, none, 0, 0, 10)
def xmi_X10_findEnds : xm_M := (RX10, yX10_findEnds, cX10_findEnds, 2, none, 0, 0, 10)
def xmi_X10_sumOf : xm_M := (RX10, yX10_sumOf, cX10_sumOf, 4, (some (.int)), 0, 1, 10)
def xmi_X10_isRight : xm_M := (RX10, yX10_isRight, cX10_isRight, 4, (some (.boolean)), 0, 0, 10)
def xmi_X10_mayBe : xm_M := (RX10, yX10_mayBe, cX10_mayBe, 4, (some (.boolean)), 0, 2, 10)
def xmi_X10_trySum : xm_M := (RX10, yX10_trySum, cX10_trySum, 5, (some (.int)), 0, 1, 10)
def xmi_X10_weigh : xm_M := (RX10, yX10_weigh, cX10_weigh, 4, (some (.int)), 0, 0, 10)
def xmi_X10_weight : xm_M := (RX10, yX10_weight, cX10_weight, 2, (some (.int)), 0, 1, 10)
def xmi_X10_areOptions : xm_M := (RX10, yX10_areOptions, cX10_areOptions, 4, (some (.boolean)), 0, 1, 10)
def xmi_X10_rank : xm_M := (RX10, yX10_rank, cX10_rank, 4, (some (.boolean)), 0, 1, 10)
def xmi_X10_beatsOf : xm_M := (RX10, yX10_beatsOf, cX10_beatsOf, 5, (some (.boolean)), 0, 2, 10)
def xmi_X10_layOptions : xm_M := (RX10, yX10_layOptions, cX10_layOptions, 4, none, 0, 0, 10)
def xmi_X10_isOption : xm_M := (RX10, yX10_isOption, cX10_isOption, 1, (some (.boolean)), 1, 1, 10)
def xmi_X10_beats : xm_M := (RX10, yX10_beats, cX10_beats, 3, (some (.int)), 0, 2, 10)
def xmi_X10_free : xm_M := (RX10, yX10_free, cX10_free, 5, (some (.int)), 0, 0, 10)
def xmi_X10_top : xm_M := (RX10, yX10_top, cX10_top, 5, (some (.int)), 0, 0, 10)
def xmi_X10_leads : xm_M := (RX10, yX10_leads, cX10_leads, 7, (some (.int)), 0, 1, 10)
def xmi_X10_endOf : xm_M := (RX10, yX10_endOf, cX10_endOf, 4, (some (.int)), 0, 1, 10)
def xmi_X10_rows : xm_M := (RX10, yX10_rows, cX10_rows, 5, (some (.int)), 0, 1, 10)
def xmi_X10_goOn : xm_M := (RX10, yX10_goOn, cX10_goOn, 6, (some (.boolean)), 0, 0, 10)
def xmi_X10_rowAt : xm_M := (RX10, yX10_rowAt, cX10_rowAt, 2, (some (.int)), 0, 1, 10)
def xmi_X10_vote : xm_M := (RX10, yX10_vote, cX10_vote, 3, (some (.int)), 0, 2, 10)
def xmi_X10_unfit : xm_M := (RX10, yX10_unfit, cX10_unfit, 3, (some (.int)), 0, 1, 10)
def xmi_X10_sureOf : xm_M := (RX10, yX10_sureOf, cX10_sureOf, 6, (some (.int)), 0, 2, 10)
def xmi_X10_sure : xm_M := (RX10, yX10_sure, cX10_sure, 3, (some (.int)), 0, 2, 10)
def xmi_X10_open : xm_M := (RX10, yX10_open, cX10_open, 4, (some (.int)), 0, 1, 10)
def xmi_X10_count : xm_M := (RX10, yX10_count, cX10_count, 2, (some (.int)), 0, 1, 10)
def xmi_J6_bitCount_0f7a4 : xm_M := (RJ6, yJ6_bitCount_0f7a4, cJ6_bitCount_0f7a4, 1, (some (.int)), 1, 1, 99)
def xmi_L_law : xm_M := (RL, yL_law, cL_law, 8, (some .boolean), 3, 1, 99)
/-- the methods, sixteen to a row -/
def xm_r0 : List xm_M := [xmi_X0_init,
  xmi_X0_isOption,
  xmi_X0_isRow,
  xmi_X0_order,
  xmi_X0_whoPrefer,
  xmi_X0_match,
  xmi_X0_wins,
  xmi_X0_unbeaten,
  xmi_X0_best,
  xmi_X0_findReach,
  xmi_X0_stands,
  xmi_X0_follow,
  xmi_X0_foresee,
  xmi_X0_countRows,
  xmi_X0_waysFrom,
  xmi_X0_countWays]
def xm_r1 : List xm_M := [xmi_X0_findFirstRow,
  xmi_X1_init,
  xmi_X1_add,
  xmi_X1_judge,
  xmi_X2_init,
  xmi_X2_isOf,
  xmi_X2_study,
  xmi_X2_list,
  xmi_X2_isMinimal,
  xmi_X2_does,
  xmi_X2_markNeeded,
  xmi_X2_turnsBy,
  xmi_X2_countSwings,
  xmi_X2_countCarrying,
  xmi_X2_isProper,
  xmi_X2_isStrong]
def xm_r2 : List xm_M := [xmi_X2_isLined,
  xmi_X2_compare,
  xmi_X2_compareAll,
  xmi_X2_isAtLeast,
  xmi_X2_upperShare,
  xmi_X2_lowerShare,
  xmi_X2_ordersOf,
  xmi_X2_partsOf,
  xmi_X2_chanceOf,
  xmi_X2_power,
  xmi_X2_allyOf,
  xmi_X2_countTogether,
  xmi_X3_init,
  xmi_X3_clear,
  xmi_X3_add,
  xmi_X3_fill]
def xm_r3 : List xm_M := [xmi_X3_run,
  xmi_X3_join,
  xmi_X3_push,
  xmi_X3_peek,
  xmi_X3_replace,
  xmi_X4_init,
  xmi_X4_read,
  xmi_X4_fail,
  xmi_X4_takeWord,
  xmi_X4_takeSign,
  xmi_X4_takeEnd,
  xmi_X4_takeOpening,
  xmi_X4_readBody,
  xmi_X4_takeNewName,
  xmi_X4_toldName,
  xmi_X4_readRule]
def xm_r4 : List xm_M := [xmi_X4_readAll,
  xmi_X4_readOne,
  xmi_X4_noteMember,
  xmi_X4_noteName,
  xmi_X4_countOne,
  xmi_X4_readQuota,
  xmi_X4_readItem,
  xmi_X5_init,
  xmi_X5_look,
  xmi_X5_search,
  xmi_X5_findClasses,
  xmi_X5_isFirst,
  xmi_X5_strengthOf,
  xmi_X5_place,
  xmi_X5_lowest,
  xmi_X5_highest]
def xm_r5 : List xm_M := [xmi_X5_leastRest,
  xmi_X5_mostRest,
  xmi_X5_tryRow,
  xmi_X5_doesTheSame,
  xmi_X5_lightest,
  xmi_X5_weightOf,
  xmi_X5_tell,
  xmi_X6_init,
  xmi_X6_begin,
  xmi_X6_isCut,
  xmi_X6_advance,
  xmi_X6_takeRun,
  xmi_X6_isWord,
  xmi_X6_isName,
  xmi_X6_isLone,
  xmi_X6_letter]
def xm_r6 : List xm_M := [xmi_X6_isLike,
  xmi_X6_isBlank,
  xmi_X6_isLetter,
  xmi_X6_isDigit,
  xmi_X6_isSign,
  xmi_X7_init,
  xmi_X7_holds,
  xmi_X7_add,
  xmi_X7_needAll,
  xmi_X8_init,
  xmi_X8_hasRoom,
  xmi_X8_put,
  xmi_X8_at,
  xmi_X9_init,
  xmi_X9_feed,
  xmi_X9_end]
def xm_r7 : List xm_M := [xmi_X9_next,
  xmi_X9_members,
  xmi_X9_statute,
  xmi_X9_fault,
  xmi_X9_carries,
  xmi_X9_many,
  xmi_X9_setAt,
  xmi_X9_stronger,
  xmi_X9_turns,
  xmi_X9_share,
  xmi_X9_chance,
  xmi_X9_ally,
  xmi_X9_weigh,
  xmi_X9_weight,
  xmi_X9_rank,
  xmi_X9_beats]
def xm_r8 : List xm_M := [xmi_X9_free,
  xmi_X9_top,
  xmi_X9_leads,
  xmi_X9_rows,
  xmi_X9_rowAt,
  xmi_X9_vote,
  xmi_X9_unfit,
  xmi_X9_sure,
  xmi_X9_open,
  xmi_X9_count,
  xmi_X9_isMember,
  xmi_X9_isSet,
  xmi_X9_inForce,
  xmi_X9_powersToday,
  xmi_X9_commonDivisor,
  xmi_X10_init]
def xm_r9 : List xm_M := [xmi_X10_refuse,
  xmi_X10_come,
  xmi_X10_feed,
  xmi_X10_end,
  xmi_X10_take,
  xmi_X10_isIn,
  xmi_X10_next,
  xmi_X10_members,
  xmi_X10_isMember,
  xmi_X10_isSet,
  xmi_X10_sizeOf,
  xmi_X10_byteAt,
  xmi_X10_isDigit,
  xmi_X10_isLetter,
  xmi_X10_isMark,
  xmi_X10_go]
def xm_r10 : List xm_M := [xmi_X10_spelt,
  xmi_X10_isKey,
  xmi_X10_isBody,
  xmi_X10_isCarry,
  xmi_X10_isAnd,
  xmi_X10_isOr,
  xmi_X10_isOf,
  xmi_X10_isName,
  xmi_X10_isSign,
  xmi_X10_bad,
  xmi_X10_badAt,
  xmi_X10_openRule,
  xmi_X10_openList,
  xmi_X10_begin,
  xmi_X10_beginItem,
  xmi_X10_beginList]
def xm_r11 : List xm_M := [xmi_X10_nameAtHand,
  xmi_X10_beginOne,
  xmi_X10_end_,
  xmi_X10_readRule,
  xmi_X10_readBody,
  xmi_X10_statute,
  xmi_X10_fault,
  xmi_X10_inForce,
  xmi_X10_carriesBy,
  xmi_X10_carries,
  xmi_X10_lay,
  xmi_X10_isLeast,
  xmi_X10_hinders,
  xmi_X10_isLeastHinder,
  xmi_X10_isOfKind,
  xmi_X10_countOf]
def xm_r12 : List xm_M := [xmi_X10_whoIs,
  xmi_X10_isProper,
  xmi_X10_isStrong,
  xmi_X10_held,
  xmi_X10_isLined,
  xmi_X10_many,
  xmi_X10_setAt,
  xmi_X10_stronger,
  xmi_X10_turnsOf,
  xmi_X10_turns,
  xmi_X10_lessen,
  xmi_X10_orders,
  xmi_X10_shareOfSets,
  xmi_X10_shareOfOrders,
  xmi_X10_shareOfLeast,
  xmi_X10_share]
def xm_r13 : List xm_M := [xmi_X10_power,
  xmi_X10_chance,
  xmi_X10_ally,
  xmi_X10_findSorts,
  xmi_X10_findEnds,
  xmi_X10_sumOf,
  xmi_X10_isRight,
  xmi_X10_mayBe,
  xmi_X10_trySum,
  xmi_X10_weigh,
  xmi_X10_weight,
  xmi_X10_areOptions,
  xmi_X10_rank,
  xmi_X10_beatsOf,
  xmi_X10_layOptions,
  xmi_X10_isOption]
def xm_r14 : List xm_M := [xmi_X10_beats,
  xmi_X10_free,
  xmi_X10_top,
  xmi_X10_leads,
  xmi_X10_endOf,
  xmi_X10_rows,
  xmi_X10_goOn,
  xmi_X10_rowAt,
  xmi_X10_vote,
  xmi_X10_unfit,
  xmi_X10_sureOf,
  xmi_X10_sure,
  xmi_X10_open,
  xmi_X10_count,
  xmi_J6_bitCount_0f7a4,
  xmi_L_law]
def xm_t : List (List xm_M) := [xm_r0, xm_r1, xm_r2, xm_r3, xm_r4, xm_r5, xm_r6, xm_r7, xm_r8, xm_r9, xm_r10, xm_r11, xm_r12, xm_r13, xm_r14]
def xc_r0 : List (List (List (Option xr_R))) := [xc_X0_init, xc_X0_isOption, xc_X0_isRow, xc_X0_order, xc_X0_whoPrefer, xc_X0_match, xc_X0_wins, xc_X0_unbeaten, xc_X0_best, xc_X0_findReach, xc_X0_stands, xc_X0_follow, xc_X0_foresee, xc_X0_countRows, xc_X0_waysFrom, xc_X0_countWays]
def xc_r1 : List (List (List (Option xr_R))) := [xc_X0_findFirstRow, xc_X1_init, xc_X1_add, xc_X1_judge, xc_X2_init, xc_X2_isOf, xc_X2_study, xc_X2_list, xc_X2_isMinimal, xc_X2_does, xc_X2_markNeeded, xc_X2_turnsBy, xc_X2_countSwings, xc_X2_countCarrying, xc_X2_isProper, xc_X2_isStrong]
def xc_r2 : List (List (List (Option xr_R))) := [xc_X2_isLined, xc_X2_compare, xc_X2_compareAll, xc_X2_isAtLeast, xc_X2_upperShare, xc_X2_lowerShare, xc_X2_ordersOf, xc_X2_partsOf, xc_X2_chanceOf, xc_X2_power, xc_X2_allyOf, xc_X2_countTogether, xc_X3_init, xc_X3_clear, xc_X3_add, xc_X3_fill]
def xc_r3 : List (List (List (Option xr_R))) := [xc_X3_run, xc_X3_join, xc_X3_push, xc_X3_peek, xc_X3_replace, xc_X4_init, xc_X4_read, xc_X4_fail, xc_X4_takeWord, xc_X4_takeSign, xc_X4_takeEnd, xc_X4_takeOpening, xc_X4_readBody, xc_X4_takeNewName, xc_X4_toldName, xc_X4_readRule]
def xc_r4 : List (List (List (Option xr_R))) := [xc_X4_readAll, xc_X4_readOne, xc_X4_noteMember, xc_X4_noteName, xc_X4_countOne, xc_X4_readQuota, xc_X4_readItem, xc_X5_init, xc_X5_look, xc_X5_search, xc_X5_findClasses, xc_X5_isFirst, xc_X5_strengthOf, xc_X5_place, xc_X5_lowest, xc_X5_highest]
def xc_r5 : List (List (List (Option xr_R))) := [xc_X5_leastRest, xc_X5_mostRest, xc_X5_tryRow, xc_X5_doesTheSame, xc_X5_lightest, xc_X5_weightOf, xc_X5_tell, xc_X6_init, xc_X6_begin, xc_X6_isCut, xc_X6_advance, xc_X6_takeRun, xc_X6_isWord, xc_X6_isName, xc_X6_isLone, xc_X6_letter]
def xc_r6 : List (List (List (Option xr_R))) := [xc_X6_isLike, xc_X6_isBlank, xc_X6_isLetter, xc_X6_isDigit, xc_X6_isSign, xc_X7_init, xc_X7_holds, xc_X7_add, xc_X7_needAll, xc_X8_init, xc_X8_hasRoom, xc_X8_put, xc_X8_at, xc_X9_init, xc_X9_feed, xc_X9_end]
def xc_r7 : List (List (List (Option xr_R))) := [xc_X9_next, xc_X9_members, xc_X9_statute, xc_X9_fault, xc_X9_carries, xc_X9_many, xc_X9_setAt, xc_X9_stronger, xc_X9_turns, xc_X9_share, xc_X9_chance, xc_X9_ally, xc_X9_weigh, xc_X9_weight, xc_X9_rank, xc_X9_beats]
def xc_r8 : List (List (List (Option xr_R))) := [xc_X9_free, xc_X9_top, xc_X9_leads, xc_X9_rows, xc_X9_rowAt, xc_X9_vote, xc_X9_unfit, xc_X9_sure, xc_X9_open, xc_X9_count, xc_X9_isMember, xc_X9_isSet, xc_X9_inForce, xc_X9_powersToday, xc_X9_commonDivisor, xc_X10_init]
def xc_r9 : List (List (List (Option xr_R))) := [xc_X10_refuse, xc_X10_come, xc_X10_feed, xc_X10_end, xc_X10_take, xc_X10_isIn, xc_X10_next, xc_X10_members, xc_X10_isMember, xc_X10_isSet, xc_X10_sizeOf, xc_X10_byteAt, xc_X10_isDigit, xc_X10_isLetter, xc_X10_isMark, xc_X10_go]
def xc_r10 : List (List (List (Option xr_R))) := [xc_X10_spelt, xc_X10_isKey, xc_X10_isBody, xc_X10_isCarry, xc_X10_isAnd, xc_X10_isOr, xc_X10_isOf, xc_X10_isName, xc_X10_isSign, xc_X10_bad, xc_X10_badAt, xc_X10_openRule, xc_X10_openList, xc_X10_begin, xc_X10_beginItem, xc_X10_beginList]
def xc_r11 : List (List (List (Option xr_R))) := [xc_X10_nameAtHand, xc_X10_beginOne, xc_X10_end_, xc_X10_readRule, xc_X10_readBody, xc_X10_statute, xc_X10_fault, xc_X10_inForce, xc_X10_carriesBy, xc_X10_carries, xc_X10_lay, xc_X10_isLeast, xc_X10_hinders, xc_X10_isLeastHinder, xc_X10_isOfKind, xc_X10_countOf]
def xc_r12 : List (List (List (Option xr_R))) := [xc_X10_whoIs, xc_X10_isProper, xc_X10_isStrong, xc_X10_held, xc_X10_isLined, xc_X10_many, xc_X10_setAt, xc_X10_stronger, xc_X10_turnsOf, xc_X10_turns, xc_X10_lessen, xc_X10_orders, xc_X10_shareOfSets, xc_X10_shareOfOrders, xc_X10_shareOfLeast, xc_X10_share]
def xc_r13 : List (List (List (Option xr_R))) := [xc_X10_power, xc_X10_chance, xc_X10_ally, xc_X10_findSorts, xc_X10_findEnds, xc_X10_sumOf, xc_X10_isRight, xc_X10_mayBe, xc_X10_trySum, xc_X10_weigh, xc_X10_weight, xc_X10_areOptions, xc_X10_rank, xc_X10_beatsOf, xc_X10_layOptions, xc_X10_isOption]
def xc_r14 : List (List (List (Option xr_R))) := [xc_X10_beats, xc_X10_free, xc_X10_top, xc_X10_leads, xc_X10_endOf, xc_X10_rows, xc_X10_goOn, xc_X10_rowAt, xc_X10_vote, xc_X10_unfit, xc_X10_sureOf, xc_X10_sure, xc_X10_open, xc_X10_count, xc_J6_bitCount_0f7a4, xc_L_law]
def xc_t : List (List (List (List (Option xr_R)))) := [xc_r0, xc_r1, xc_r2, xc_r3, xc_r4, xc_r5, xc_r6, xc_r7, xc_r8, xc_r9, xc_r10, xc_r11, xc_r12, xc_r13, xc_r14]
def xcl (cd : List (List (Option xr_R))) (pc : Nat) : Option xr_R := (cd.getD (pc / 16) []).getD (pc % 16) none
def xM (mid : Nat) : Option xm_M := (xm_t.getD (mid / 16) [])[mid % 16]?
def xC (mid pc : Nat) : Option xr_R := xcl ((xc_t.getD (mid / 16) []).getD (mid % 16) []) pc
abbrev xi_X0_init : Nat := 0
abbrev xi_X0_isOption : Nat := 1
abbrev xi_X0_isRow : Nat := 2
abbrev xi_X0_order : Nat := 3
abbrev xi_X0_whoPrefer : Nat := 4
abbrev xi_X0_match : Nat := 5
abbrev xi_X0_wins : Nat := 6
abbrev xi_X0_unbeaten : Nat := 7
abbrev xi_X0_best : Nat := 8
abbrev xi_X0_findReach : Nat := 9
abbrev xi_X0_stands : Nat := 10
abbrev xi_X0_follow : Nat := 11
abbrev xi_X0_foresee : Nat := 12
abbrev xi_X0_countRows : Nat := 13
abbrev xi_X0_waysFrom : Nat := 14
abbrev xi_X0_countWays : Nat := 15
abbrev xi_X0_findFirstRow : Nat := 16
abbrev xi_X1_init : Nat := 17
abbrev xi_X1_add : Nat := 18
abbrev xi_X1_judge : Nat := 19
abbrev xi_X2_init : Nat := 20
abbrev xi_X2_isOf : Nat := 21
abbrev xi_X2_study : Nat := 22
abbrev xi_X2_list : Nat := 23
abbrev xi_X2_isMinimal : Nat := 24
abbrev xi_X2_does : Nat := 25
abbrev xi_X2_markNeeded : Nat := 26
abbrev xi_X2_turnsBy : Nat := 27
abbrev xi_X2_countSwings : Nat := 28
abbrev xi_X2_countCarrying : Nat := 29
abbrev xi_X2_isProper : Nat := 30
abbrev xi_X2_isStrong : Nat := 31
abbrev xi_X2_isLined : Nat := 32
abbrev xi_X2_compare : Nat := 33
abbrev xi_X2_compareAll : Nat := 34
abbrev xi_X2_isAtLeast : Nat := 35
abbrev xi_X2_upperShare : Nat := 36
abbrev xi_X2_lowerShare : Nat := 37
abbrev xi_X2_ordersOf : Nat := 38
abbrev xi_X2_partsOf : Nat := 39
abbrev xi_X2_chanceOf : Nat := 40
abbrev xi_X2_power : Nat := 41
abbrev xi_X2_allyOf : Nat := 42
abbrev xi_X2_countTogether : Nat := 43
abbrev xi_X3_init : Nat := 44
abbrev xi_X3_clear : Nat := 45
abbrev xi_X3_add : Nat := 46
abbrev xi_X3_fill : Nat := 47
abbrev xi_X3_run : Nat := 48
abbrev xi_X3_join : Nat := 49
abbrev xi_X3_push : Nat := 50
abbrev xi_X3_peek : Nat := 51
abbrev xi_X3_replace : Nat := 52
abbrev xi_X4_init : Nat := 53
abbrev xi_X4_read : Nat := 54
abbrev xi_X4_fail : Nat := 55
abbrev xi_X4_takeWord : Nat := 56
abbrev xi_X4_takeSign : Nat := 57
abbrev xi_X4_takeEnd : Nat := 58
abbrev xi_X4_takeOpening : Nat := 59
abbrev xi_X4_readBody : Nat := 60
abbrev xi_X4_takeNewName : Nat := 61
abbrev xi_X4_toldName : Nat := 62
abbrev xi_X4_readRule : Nat := 63
abbrev xi_X4_readAll : Nat := 64
abbrev xi_X4_readOne : Nat := 65
abbrev xi_X4_noteMember : Nat := 66
abbrev xi_X4_noteName : Nat := 67
abbrev xi_X4_countOne : Nat := 68
abbrev xi_X4_readQuota : Nat := 69
abbrev xi_X4_readItem : Nat := 70
abbrev xi_X5_init : Nat := 71
abbrev xi_X5_look : Nat := 72
abbrev xi_X5_search : Nat := 73
abbrev xi_X5_findClasses : Nat := 74
abbrev xi_X5_isFirst : Nat := 75
abbrev xi_X5_strengthOf : Nat := 76
abbrev xi_X5_place : Nat := 77
abbrev xi_X5_lowest : Nat := 78
abbrev xi_X5_highest : Nat := 79
abbrev xi_X5_leastRest : Nat := 80
abbrev xi_X5_mostRest : Nat := 81
abbrev xi_X5_tryRow : Nat := 82
abbrev xi_X5_doesTheSame : Nat := 83
abbrev xi_X5_lightest : Nat := 84
abbrev xi_X5_weightOf : Nat := 85
abbrev xi_X5_tell : Nat := 86
abbrev xi_X6_init : Nat := 87
abbrev xi_X6_begin : Nat := 88
abbrev xi_X6_isCut : Nat := 89
abbrev xi_X6_advance : Nat := 90
abbrev xi_X6_takeRun : Nat := 91
abbrev xi_X6_isWord : Nat := 92
abbrev xi_X6_isName : Nat := 93
abbrev xi_X6_isLone : Nat := 94
abbrev xi_X6_letter : Nat := 95
abbrev xi_X6_isLike : Nat := 96
abbrev xi_X6_isBlank : Nat := 97
abbrev xi_X6_isLetter : Nat := 98
abbrev xi_X6_isDigit : Nat := 99
abbrev xi_X6_isSign : Nat := 100
abbrev xi_X7_init : Nat := 101
abbrev xi_X7_holds : Nat := 102
abbrev xi_X7_add : Nat := 103
abbrev xi_X7_needAll : Nat := 104
abbrev xi_X8_init : Nat := 105
abbrev xi_X8_hasRoom : Nat := 106
abbrev xi_X8_put : Nat := 107
abbrev xi_X8_at : Nat := 108
abbrev xi_X9_init : Nat := 109
abbrev xi_X9_feed : Nat := 110
abbrev xi_X9_end : Nat := 111
abbrev xi_X9_next : Nat := 112
abbrev xi_X9_members : Nat := 113
abbrev xi_X9_statute : Nat := 114
abbrev xi_X9_fault : Nat := 115
abbrev xi_X9_carries : Nat := 116
abbrev xi_X9_many : Nat := 117
abbrev xi_X9_setAt : Nat := 118
abbrev xi_X9_stronger : Nat := 119
abbrev xi_X9_turns : Nat := 120
abbrev xi_X9_share : Nat := 121
abbrev xi_X9_chance : Nat := 122
abbrev xi_X9_ally : Nat := 123
abbrev xi_X9_weigh : Nat := 124
abbrev xi_X9_weight : Nat := 125
abbrev xi_X9_rank : Nat := 126
abbrev xi_X9_beats : Nat := 127
abbrev xi_X9_free : Nat := 128
abbrev xi_X9_top : Nat := 129
abbrev xi_X9_leads : Nat := 130
abbrev xi_X9_rows : Nat := 131
abbrev xi_X9_rowAt : Nat := 132
abbrev xi_X9_vote : Nat := 133
abbrev xi_X9_unfit : Nat := 134
abbrev xi_X9_sure : Nat := 135
abbrev xi_X9_open : Nat := 136
abbrev xi_X9_count : Nat := 137
abbrev xi_X9_isMember : Nat := 138
abbrev xi_X9_isSet : Nat := 139
abbrev xi_X9_inForce : Nat := 140
abbrev xi_X9_powersToday : Nat := 141
abbrev xi_X9_commonDivisor : Nat := 142
abbrev xi_X10_init : Nat := 143
abbrev xi_X10_refuse : Nat := 144
abbrev xi_X10_come : Nat := 145
abbrev xi_X10_feed : Nat := 146
abbrev xi_X10_end : Nat := 147
abbrev xi_X10_take : Nat := 148
abbrev xi_X10_isIn : Nat := 149
abbrev xi_X10_next : Nat := 150
abbrev xi_X10_members : Nat := 151
abbrev xi_X10_isMember : Nat := 152
abbrev xi_X10_isSet : Nat := 153
abbrev xi_X10_sizeOf : Nat := 154
abbrev xi_X10_byteAt : Nat := 155
abbrev xi_X10_isDigit : Nat := 156
abbrev xi_X10_isLetter : Nat := 157
abbrev xi_X10_isMark : Nat := 158
abbrev xi_X10_go : Nat := 159
abbrev xi_X10_spelt : Nat := 160
abbrev xi_X10_isKey : Nat := 161
abbrev xi_X10_isBody : Nat := 162
abbrev xi_X10_isCarry : Nat := 163
abbrev xi_X10_isAnd : Nat := 164
abbrev xi_X10_isOr : Nat := 165
abbrev xi_X10_isOf : Nat := 166
abbrev xi_X10_isName : Nat := 167
abbrev xi_X10_isSign : Nat := 168
abbrev xi_X10_bad : Nat := 169
abbrev xi_X10_badAt : Nat := 170
abbrev xi_X10_openRule : Nat := 171
abbrev xi_X10_openList : Nat := 172
abbrev xi_X10_begin : Nat := 173
abbrev xi_X10_beginItem : Nat := 174
abbrev xi_X10_beginList : Nat := 175
abbrev xi_X10_nameAtHand : Nat := 176
abbrev xi_X10_beginOne : Nat := 177
abbrev xi_X10_end_ : Nat := 178
abbrev xi_X10_readRule : Nat := 179
abbrev xi_X10_readBody : Nat := 180
abbrev xi_X10_statute : Nat := 181
abbrev xi_X10_fault : Nat := 182
abbrev xi_X10_inForce : Nat := 183
abbrev xi_X10_carriesBy : Nat := 184
abbrev xi_X10_carries : Nat := 185
abbrev xi_X10_lay : Nat := 186
abbrev xi_X10_isLeast : Nat := 187
abbrev xi_X10_hinders : Nat := 188
abbrev xi_X10_isLeastHinder : Nat := 189
abbrev xi_X10_isOfKind : Nat := 190
abbrev xi_X10_countOf : Nat := 191
abbrev xi_X10_whoIs : Nat := 192
abbrev xi_X10_isProper : Nat := 193
abbrev xi_X10_isStrong : Nat := 194
abbrev xi_X10_held : Nat := 195
abbrev xi_X10_isLined : Nat := 196
abbrev xi_X10_many : Nat := 197
abbrev xi_X10_setAt : Nat := 198
abbrev xi_X10_stronger : Nat := 199
abbrev xi_X10_turnsOf : Nat := 200
abbrev xi_X10_turns : Nat := 201
abbrev xi_X10_lessen : Nat := 202
abbrev xi_X10_orders : Nat := 203
abbrev xi_X10_shareOfSets : Nat := 204
abbrev xi_X10_shareOfOrders : Nat := 205
abbrev xi_X10_shareOfLeast : Nat := 206
abbrev xi_X10_share : Nat := 207
abbrev xi_X10_power : Nat := 208
abbrev xi_X10_chance : Nat := 209
abbrev xi_X10_ally : Nat := 210
abbrev xi_X10_findSorts : Nat := 211
abbrev xi_X10_findEnds : Nat := 212
abbrev xi_X10_sumOf : Nat := 213
abbrev xi_X10_isRight : Nat := 214
abbrev xi_X10_mayBe : Nat := 215
abbrev xi_X10_trySum : Nat := 216
abbrev xi_X10_weigh : Nat := 217
abbrev xi_X10_weight : Nat := 218
abbrev xi_X10_areOptions : Nat := 219
abbrev xi_X10_rank : Nat := 220
abbrev xi_X10_beatsOf : Nat := 221
abbrev xi_X10_layOptions : Nat := 222
abbrev xi_X10_isOption : Nat := 223
abbrev xi_X10_beats : Nat := 224
abbrev xi_X10_free : Nat := 225
abbrev xi_X10_top : Nat := 226
abbrev xi_X10_leads : Nat := 227
abbrev xi_X10_endOf : Nat := 228
abbrev xi_X10_rows : Nat := 229
abbrev xi_X10_goOn : Nat := 230
abbrev xi_X10_rowAt : Nat := 231
abbrev xi_X10_vote : Nat := 232
abbrev xi_X10_unfit : Nat := 233
abbrev xi_X10_sureOf : Nat := 234
abbrev xi_X10_sure : Nat := 235
abbrev xi_X10_open : Nat := 236
abbrev xi_X10_count : Nat := 237
abbrev xi_J6_bitCount_0f7a4 : Nat := 238
abbrev xi_L_law : Nat := 239
end XT
end
section
section XCK
def xm_b (mi : xm_M) (w2 w3 w4 : Nat × Nat) : Bool :=
  (xw_b w2.1 w2.2 (.initialized mi.2.1.cls) && (decide (mi.1 = mi.2.1.cls) && (_root_.Jvm.plainName mi.2.1.cls && (decide (mi.2.1.cls ≠ "java/lang/invoke/MethodHandle" ∧ mi.2.1.cls ≠ "java/lang/invoke/VarHandle" ∧ (parseMethodDescriptor mi.2.1.desc).map (fun d => d.parameters.length) = some mi.2.2.2.2.2.2.1) && (Nat.ble mi.2.2.2.1 20 && (match mi.2.2.2.2.2.1 with
    | 0 => xw_b w3.1 w3.2 (.instanceMethod mi.2.1) && (xw_b w4.1 w4.2 (.selects mi.2.1.cls mi.2.1 mi.2.1) && (match vwCl[mi.2.2.2.2.2.2.2]? with
      | some q => decide (q.1 = mi.2.1.cls)
      | none => false))
    | 1 => xw_b w3.1 w3.2 (.static mi.2.1)
    | 2 => xw_b w3.1 w3.2 (.instanceMethod mi.2.1) && (decide (mi.2.1.name = "<init>") && decide (mi.2.2.2.2.1 = none))
    | _ => false))))))
theorem xm_b_ok {mi : xm_M} {w2 w3 w4 : Nat × Nat} (h : xm_b mi w2 w3 w4 = true) (hw : Cond.code mi.2.1 mi.2.2.1 mi.2.2.2.1 mi.2.2.2.2.1 ∈ xG) : xm_ok mi := by
  unfold xm_b at h
  obtain ⟨a2, h⟩ := xw_bb h
  obtain ⟨a3, h⟩ := xw_bb h
  obtain ⟨a4, h⟩ := xw_bb h
  obtain ⟨a5, h⟩ := xw_bb h
  obtain ⟨a6, h⟩ := xw_bb h
  refine ⟨hw, xw_in a2, of_decide_eq_true a3, a4, of_decide_eq_true a5, xw_ble a6, fun z => ?_, fun z => ?_, fun z => ?_⟩
  · rw [z] at h
    try dsimp only at h
    obtain ⟨b1, h⟩ := xw_bb h
    obtain ⟨b2, h⟩ := xw_bb h
    refine ⟨xw_in b1, xw_in b2, ?_⟩
    cases hq : vwCl[mi.2.2.2.2.2.2.2]? with
    | none => rw [hq] at h; cases h
    | some q =>
      rw [hq] at h
      obtain ⟨C, T, N⟩ := q
      exact ⟨T, N, by rw [← of_decide_eq_true h]⟩
  · rw [z] at h
    exact xw_in h
  · rw [z] at h
    try dsimp only at h
    obtain ⟨b1, h⟩ := xw_bb h
    obtain ⟨b2, h⟩ := xw_bb h
    exact ⟨xw_in b1, of_decide_eq_true b2, of_decide_eq_true h⟩
def xc_b (mi : xm_M) (cd : List (List (Option xr_R))) (lo n : Nat) : Bool := (List.range n).all (fun j => match xcl cd (lo + j) with
  | some r => xr_b mi.1 (xm_ini mi) mi.2.2.1 (lo + j) r && xr_c xM mi.1 r
  | none => true)
def xc_up (mi : xm_M) (cd : List (List (Option xr_R))) (N : Nat) : Prop := ∀ (pc : Nat) (r : xr_R), pc < N → xcl cd pc = some r → xr_b mi.1 (xm_ini mi) mi.2.2.1 pc r = true ∧ xr_c xM mi.1 r = true
theorem xc_up_0 {mi : xm_M} {cd : List (List (Option xr_R))} : xc_up mi cd 0 := fun pc r h => absurd h (Nat.not_lt_zero pc)
theorem xc_up_s {mi : xm_M} {cd : List (List (Option xr_R))} {lo n : Nat} (h : xc_up mi cd lo) (hb : xc_b mi cd lo n = true) : xc_up mi cd (lo + n) := by
  intro pc r hp hr
  by_cases hl : pc < lo
  · exact h pc r hl hr
  · have h1 := List.all_eq_true.mp hb (pc - lo) (List.mem_range.mpr (by omega))
    rw [show lo + (pc - lo) = pc by omega, hr] at h1
    exact xw_bb h1
theorem xc_up_e {mi : xm_M} {cd : List (List (Option xr_R))} {N : Nat} (h : xc_up mi cd N) (hN : cd.length * 16 ≤ N) : ∀ (pc : Nat) (r : xr_R), xcl cd pc = some r → xr_b mi.1 (xm_ini mi) mi.2.2.1 pc r = true ∧ xr_c xM mi.1 r = true := by
  intro pc r hr
  by_cases hp : pc < N
  · exact h pc r hp hr
  · have hq : cd.length ≤ pc / 16 := by omega
    unfold xcl at hr
    have : cd.getD (pc / 16) [] = [] := by rw [List.getD_eq_getElem?_getD, List.getElem?_eq_none hq]; rfl
    rw [this] at hr
    cases hr
theorem xw_in2 {K i : Nat} {w : Cond} (h : (xtb K)[i]? = some w) (hg : goodWord w = true) : w ∈ xG := List.mem_filter.mpr ⟨xtb_in (List.mem_of_getElem? h), hg⟩
end XCK
end
section
section XCK0
set_option maxRecDepth 20000 in
theorem xo_m_X0_init : xm_b xmi_X0_init (1, 9) (2, 35) (99, 0) = true := by decide +kernel
theorem xo_w_X0_init : Cond.code xmi_X0_init.2.1 xmi_X0_init.2.2.1 xmi_X0_init.2.2.2.1 xmi_X0_init.2.2.2.2.1 ∈ xG := xw_in2 (K := 2) (i := 36) rfl rfl
set_option maxRecDepth 20000 in
theorem xo_c_X0_init_0 : xc_b xmi_X0_init xc_X0_init 0 112 = true := by decide +kernel
theorem xo_r_X0_init : ∀ (pc : Nat) (r : xr_R), xcl xc_X0_init pc = some r → xr_b xmi_X0_init.1 (xm_ini xmi_X0_init) xmi_X0_init.2.2.1 pc r = true ∧ xr_c xM xmi_X0_init.1 r = true := xc_up_e (mi := xmi_X0_init) (cd := xc_X0_init) (N := 112) (xc_up_s (mi := xmi_X0_init) (cd := xc_X0_init) (lo := 0) (n := 112) xc_up_0 xo_c_X0_init_0) (by decide +kernel)
set_option maxRecDepth 20000 in
theorem xo_m_X0_isOption : xm_b xmi_X0_isOption (1, 9) (4, 113) (99, 0) = true := by decide +kernel
theorem xo_w_X0_isOption : Cond.code xmi_X0_isOption.2.1 xmi_X0_isOption.2.2.1 xmi_X0_isOption.2.2.2.1 xmi_X0_isOption.2.2.2.2.1 ∈ xG := xw_in2 (K := 4) (i := 114) rfl rfl
set_option maxRecDepth 20000 in
theorem xo_c_X0_isOption_0 : xc_b xmi_X0_isOption xc_X0_isOption 0 16 = true := by decide +kernel
theorem xo_r_X0_isOption : ∀ (pc : Nat) (r : xr_R), xcl xc_X0_isOption pc = some r → xr_b xmi_X0_isOption.1 (xm_ini xmi_X0_isOption) xmi_X0_isOption.2.2.1 pc r = true ∧ xr_c xM xmi_X0_isOption.1 r = true := xc_up_e (mi := xmi_X0_isOption) (cd := xc_X0_isOption) (N := 16) (xc_up_s (mi := xmi_X0_isOption) (cd := xc_X0_isOption) (lo := 0) (n := 16) xc_up_0 xo_c_X0_isOption_0) (by decide +kernel)
set_option maxRecDepth 20000 in
theorem xo_m_X0_isRow : xm_b xmi_X0_isRow (1, 9) (4, 108) (4, 109) = true := by decide +kernel
theorem xo_w_X0_isRow : Cond.code xmi_X0_isRow.2.1 xmi_X0_isRow.2.2.1 xmi_X0_isRow.2.2.2.1 xmi_X0_isRow.2.2.2.2.1 ∈ xG := xw_in2 (K := 4) (i := 110) rfl rfl
set_option maxRecDepth 20000 in
theorem xo_c_X0_isRow_0 : xc_b xmi_X0_isRow xc_X0_isRow 0 80 = true := by decide +kernel
theorem xo_r_X0_isRow : ∀ (pc : Nat) (r : xr_R), xcl xc_X0_isRow pc = some r → xr_b xmi_X0_isRow.1 (xm_ini xmi_X0_isRow) xmi_X0_isRow.2.2.1 pc r = true ∧ xr_c xM xmi_X0_isRow.1 r = true := xc_up_e (mi := xmi_X0_isRow) (cd := xc_X0_isRow) (N := 80) (xc_up_s (mi := xmi_X0_isRow) (cd := xc_X0_isRow) (lo := 0) (n := 80) xc_up_0 xo_c_X0_isRow_0) (by decide +kernel)
end XCK0
end
section
section XCK1
set_option maxRecDepth 20000 in
theorem xo_m_X0_order : xm_b xmi_X0_order (1, 9) (4, 116) (4, 117) = true := by decide +kernel
theorem xo_w_X0_order : Cond.code xmi_X0_order.2.1 xmi_X0_order.2.2.1 xmi_X0_order.2.2.2.1 xmi_X0_order.2.2.2.2.1 ∈ xG := xw_in2 (K := 4) (i := 118) rfl rfl
set_option maxRecDepth 20000 in
theorem xo_c_X0_order_0 : xc_b xmi_X0_order xc_X0_order 0 48 = true := by decide +kernel
theorem xo_r_X0_order : ∀ (pc : Nat) (r : xr_R), xcl xc_X0_order pc = some r → xr_b xmi_X0_order.1 (xm_ini xmi_X0_order) xmi_X0_order.2.2.1 pc r = true ∧ xr_c xM xmi_X0_order.1 r = true := xc_up_e (mi := xmi_X0_order) (cd := xc_X0_order) (N := 48) (xc_up_s (mi := xmi_X0_order) (cd := xc_X0_order) (lo := 0) (n := 48) xc_up_0 xo_c_X0_order_0) (by decide +kernel)
set_option maxRecDepth 20000 in
theorem xo_m_X0_whoPrefer : xm_b xmi_X0_whoPrefer (1, 9) (4, 125) (4, 126) = true := by decide +kernel
theorem xo_w_X0_whoPrefer : Cond.code xmi_X0_whoPrefer.2.1 xmi_X0_whoPrefer.2.2.1 xmi_X0_whoPrefer.2.2.2.1 xmi_X0_whoPrefer.2.2.2.2.1 ∈ xG := xw_in2 (K := 4) (i := 127) rfl rfl
set_option maxRecDepth 20000 in
theorem xo_c_X0_whoPrefer_0 : xc_b xmi_X0_whoPrefer xc_X0_whoPrefer 0 64 = true := by decide +kernel
theorem xo_r_X0_whoPrefer : ∀ (pc : Nat) (r : xr_R), xcl xc_X0_whoPrefer pc = some r → xr_b xmi_X0_whoPrefer.1 (xm_ini xmi_X0_whoPrefer) xmi_X0_whoPrefer.2.2.1 pc r = true ∧ xr_c xM xmi_X0_whoPrefer.1 r = true := xc_up_e (mi := xmi_X0_whoPrefer) (cd := xc_X0_whoPrefer) (N := 64) (xc_up_s (mi := xmi_X0_whoPrefer) (cd := xc_X0_whoPrefer) (lo := 0) (n := 64) xc_up_0 xo_c_X0_whoPrefer_0) (by decide +kernel)
set_option maxRecDepth 20000 in
theorem xo_m_X0_match : xm_b xmi_X0_match (1, 9) (4, 133) (4, 134) = true := by decide +kernel
theorem xo_w_X0_match : Cond.code xmi_X0_match.2.1 xmi_X0_match.2.2.1 xmi_X0_match.2.2.2.1 xmi_X0_match.2.2.2.2.1 ∈ xG := xw_in2 (K := 4) (i := 135) rfl rfl
set_option maxRecDepth 20000 in
theorem xo_c_X0_match_0 : xc_b xmi_X0_match xc_X0_match 0 80 = true := by decide +kernel
theorem xo_r_X0_match : ∀ (pc : Nat) (r : xr_R), xcl xc_X0_match pc = some r → xr_b xmi_X0_match.1 (xm_ini xmi_X0_match) xmi_X0_match.2.2.1 pc r = true ∧ xr_c xM xmi_X0_match.1 r = true := xc_up_e (mi := xmi_X0_match) (cd := xc_X0_match) (N := 80) (xc_up_s (mi := xmi_X0_match) (cd := xc_X0_match) (lo := 0) (n := 80) xc_up_0 xo_c_X0_match_0) (by decide +kernel)
set_option maxRecDepth 20000 in
theorem xo_m_X0_wins : xm_b xmi_X0_wins (1, 9) (4, 156) (0, 49) = true := by decide +kernel
theorem xo_w_X0_wins : Cond.code xmi_X0_wins.2.1 xmi_X0_wins.2.2.1 xmi_X0_wins.2.2.2.1 xmi_X0_wins.2.2.2.2.1 ∈ xG := xw_in2 (K := 4) (i := 157) rfl rfl
set_option maxRecDepth 20000 in
theorem xo_c_X0_wins_0 : xc_b xmi_X0_wins xc_X0_wins 0 32 = true := by decide +kernel
theorem xo_r_X0_wins : ∀ (pc : Nat) (r : xr_R), xcl xc_X0_wins pc = some r → xr_b xmi_X0_wins.1 (xm_ini xmi_X0_wins) xmi_X0_wins.2.2.1 pc r = true ∧ xr_c xM xmi_X0_wins.1 r = true := xc_up_e (mi := xmi_X0_wins) (cd := xc_X0_wins) (N := 32) (xc_up_s (mi := xmi_X0_wins) (cd := xc_X0_wins) (lo := 0) (n := 32) xc_up_0 xo_c_X0_wins_0) (by decide +kernel)
set_option maxRecDepth 20000 in
theorem xo_m_X0_unbeaten : xm_b xmi_X0_unbeaten (1, 9) (4, 139) (4, 140) = true := by decide +kernel
theorem xo_w_X0_unbeaten : Cond.code xmi_X0_unbeaten.2.1 xmi_X0_unbeaten.2.2.1 xmi_X0_unbeaten.2.2.2.1 xmi_X0_unbeaten.2.2.2.2.1 ∈ xG := xw_in2 (K := 4) (i := 141) rfl rfl
set_option maxRecDepth 20000 in
theorem xo_c_X0_unbeaten_0 : xc_b xmi_X0_unbeaten xc_X0_unbeaten 0 32 = true := by decide +kernel
theorem xo_r_X0_unbeaten : ∀ (pc : Nat) (r : xr_R), xcl xc_X0_unbeaten pc = some r → xr_b xmi_X0_unbeaten.1 (xm_ini xmi_X0_unbeaten) xmi_X0_unbeaten.2.2.1 pc r = true ∧ xr_c xM xmi_X0_unbeaten.1 r = true := xc_up_e (mi := xmi_X0_unbeaten) (cd := xc_X0_unbeaten) (N := 32) (xc_up_s (mi := xmi_X0_unbeaten) (cd := xc_X0_unbeaten) (lo := 0) (n := 32) xc_up_0 xo_c_X0_unbeaten_0) (by decide +kernel)
set_option maxRecDepth 20000 in
theorem xo_m_X0_best : xm_b xmi_X0_best (1, 9) (4, 147) (4, 148) = true := by decide +kernel
theorem xo_w_X0_best : Cond.code xmi_X0_best.2.1 xmi_X0_best.2.2.1 xmi_X0_best.2.2.2.1 xmi_X0_best.2.2.2.2.1 ∈ xG := xw_in2 (K := 4) (i := 149) rfl rfl
set_option maxRecDepth 20000 in
theorem xo_c_X0_best_0 : xc_b xmi_X0_best xc_X0_best 0 80 = true := by decide +kernel
theorem xo_r_X0_best : ∀ (pc : Nat) (r : xr_R), xcl xc_X0_best pc = some r → xr_b xmi_X0_best.1 (xm_ini xmi_X0_best) xmi_X0_best.2.2.1 pc r = true ∧ xr_c xM xmi_X0_best.1 r = true := xc_up_e (mi := xmi_X0_best) (cd := xc_X0_best) (N := 80) (xc_up_s (mi := xmi_X0_best) (cd := xc_X0_best) (lo := 0) (n := 80) xc_up_0 xo_c_X0_best_0) (by decide +kernel)
set_option maxRecDepth 20000 in
theorem xo_m_X0_findReach : xm_b xmi_X0_findReach (1, 9) (4, 152) (0, 48) = true := by decide +kernel
theorem xo_w_X0_findReach : Cond.code xmi_X0_findReach.2.1 xmi_X0_findReach.2.2.1 xmi_X0_findReach.2.2.2.1 xmi_X0_findReach.2.2.2.2.1 ∈ xG := xw_in2 (K := 4) (i := 153) rfl rfl
set_option maxRecDepth 20000 in
theorem xo_c_X0_findReach_0 : xc_b xmi_X0_findReach xc_X0_findReach 0 112 = true := by decide +kernel
set_option maxRecDepth 20000 in
theorem xo_c_X0_findReach_112 : xc_b xmi_X0_findReach xc_X0_findReach 112 16 = true := by decide +kernel
theorem xo_r_X0_findReach : ∀ (pc : Nat) (r : xr_R), xcl xc_X0_findReach pc = some r → xr_b xmi_X0_findReach.1 (xm_ini xmi_X0_findReach) xmi_X0_findReach.2.2.1 pc r = true ∧ xr_c xM xmi_X0_findReach.1 r = true := xc_up_e (mi := xmi_X0_findReach) (cd := xc_X0_findReach) (N := 128) (xc_up_s (mi := xmi_X0_findReach) (cd := xc_X0_findReach) (lo := 112) (n := 16) (xc_up_s (mi := xmi_X0_findReach) (cd := xc_X0_findReach) (lo := 0) (n := 112) xc_up_0 xo_c_X0_findReach_0) xo_c_X0_findReach_112) (by decide +kernel)
set_option maxRecDepth 20000 in
theorem xo_m_X0_stands : xm_b xmi_X0_stands (1, 9) (4, 168) (0, 50) = true := by decide +kernel
theorem xo_w_X0_stands : Cond.code xmi_X0_stands.2.1 xmi_X0_stands.2.2.1 xmi_X0_stands.2.2.2.1 xmi_X0_stands.2.2.2.2.1 ∈ xG := xw_in2 (K := 4) (i := 169) rfl rfl
set_option maxRecDepth 20000 in
theorem xo_c_X0_stands_0 : xc_b xmi_X0_stands xc_X0_stands 0 16 = true := by decide +kernel
theorem xo_r_X0_stands : ∀ (pc : Nat) (r : xr_R), xcl xc_X0_stands pc = some r → xr_b xmi_X0_stands.1 (xm_ini xmi_X0_stands) xmi_X0_stands.2.2.1 pc r = true ∧ xr_c xM xmi_X0_stands.1 r = true := xc_up_e (mi := xmi_X0_stands) (cd := xc_X0_stands) (N := 16) (xc_up_s (mi := xmi_X0_stands) (cd := xc_X0_stands) (lo := 0) (n := 16) xc_up_0 xo_c_X0_stands_0) (by decide +kernel)
set_option maxRecDepth 20000 in
theorem xo_m_X0_follow : xm_b xmi_X0_follow (1, 9) (4, 171) (4, 172) = true := by decide +kernel
theorem xo_w_X0_follow : Cond.code xmi_X0_follow.2.1 xmi_X0_follow.2.2.1 xmi_X0_follow.2.2.2.1 xmi_X0_follow.2.2.2.2.1 ∈ xG := xw_in2 (K := 4) (i := 173) rfl rfl
set_option maxRecDepth 20000 in
theorem xo_c_X0_follow_0 : xc_b xmi_X0_follow xc_X0_follow 0 48 = true := by decide +kernel
theorem xo_r_X0_follow : ∀ (pc : Nat) (r : xr_R), xcl xc_X0_follow pc = some r → xr_b xmi_X0_follow.1 (xm_ini xmi_X0_follow) xmi_X0_follow.2.2.1 pc r = true ∧ xr_c xM xmi_X0_follow.1 r = true := xc_up_e (mi := xmi_X0_follow) (cd := xc_X0_follow) (N := 48) (xc_up_s (mi := xmi_X0_follow) (cd := xc_X0_follow) (lo := 0) (n := 48) xc_up_0 xo_c_X0_follow_0) (by decide +kernel)
set_option maxRecDepth 20000 in
theorem xo_m_X0_foresee : xm_b xmi_X0_foresee (1, 9) (4, 163) (4, 164) = true := by decide +kernel
theorem xo_w_X0_foresee : Cond.code xmi_X0_foresee.2.1 xmi_X0_foresee.2.2.1 xmi_X0_foresee.2.2.2.1 xmi_X0_foresee.2.2.2.2.1 ∈ xG := xw_in2 (K := 4) (i := 165) rfl rfl
set_option maxRecDepth 20000 in
theorem xo_c_X0_foresee_0 : xc_b xmi_X0_foresee xc_X0_foresee 0 112 = true := by decide +kernel
theorem xo_r_X0_foresee : ∀ (pc : Nat) (r : xr_R), xcl xc_X0_foresee pc = some r → xr_b xmi_X0_foresee.1 (xm_ini xmi_X0_foresee) xmi_X0_foresee.2.2.1 pc r = true ∧ xr_c xM xmi_X0_foresee.1 r = true := xc_up_e (mi := xmi_X0_foresee) (cd := xc_X0_foresee) (N := 112) (xc_up_s (mi := xmi_X0_foresee) (cd := xc_X0_foresee) (lo := 0) (n := 112) xc_up_0 xo_c_X0_foresee_0) (by decide +kernel)
set_option maxRecDepth 20000 in
theorem xo_m_X0_countRows : xm_b xmi_X0_countRows (1, 9) (4, 179) (4, 180) = true := by decide +kernel
theorem xo_w_X0_countRows : Cond.code xmi_X0_countRows.2.1 xmi_X0_countRows.2.2.1 xmi_X0_countRows.2.2.2.1 xmi_X0_countRows.2.2.2.2.1 ∈ xG := xw_in2 (K := 4) (i := 181) rfl rfl
set_option maxRecDepth 20000 in
theorem xo_c_X0_countRows_0 : xc_b xmi_X0_countRows xc_X0_countRows 0 48 = true := by decide +kernel
theorem xo_r_X0_countRows : ∀ (pc : Nat) (r : xr_R), xcl xc_X0_countRows pc = some r → xr_b xmi_X0_countRows.1 (xm_ini xmi_X0_countRows) xmi_X0_countRows.2.2.1 pc r = true ∧ xr_c xM xmi_X0_countRows.1 r = true := xc_up_e (mi := xmi_X0_countRows) (cd := xc_X0_countRows) (N := 48) (xc_up_s (mi := xmi_X0_countRows) (cd := xc_X0_countRows) (lo := 0) (n := 48) xc_up_0 xo_c_X0_countRows_0) (by decide +kernel)
set_option maxRecDepth 20000 in
theorem xo_m_X0_waysFrom : xm_b xmi_X0_waysFrom (1, 9) (4, 188) (0, 52) = true := by decide +kernel
theorem xo_w_X0_waysFrom : Cond.code xmi_X0_waysFrom.2.1 xmi_X0_waysFrom.2.2.1 xmi_X0_waysFrom.2.2.2.1 xmi_X0_waysFrom.2.2.2.2.1 ∈ xG := xw_in2 (K := 4) (i := 189) rfl rfl
set_option maxRecDepth 20000 in
theorem xo_c_X0_waysFrom_0 : xc_b xmi_X0_waysFrom xc_X0_waysFrom 0 16 = true := by decide +kernel
theorem xo_r_X0_waysFrom : ∀ (pc : Nat) (r : xr_R), xcl xc_X0_waysFrom pc = some r → xr_b xmi_X0_waysFrom.1 (xm_ini xmi_X0_waysFrom) xmi_X0_waysFrom.2.2.1 pc r = true ∧ xr_c xM xmi_X0_waysFrom.1 r = true := xc_up_e (mi := xmi_X0_waysFrom) (cd := xc_X0_waysFrom) (N := 16) (xc_up_s (mi := xmi_X0_waysFrom) (cd := xc_X0_waysFrom) (lo := 0) (n := 16) xc_up_0 xo_c_X0_waysFrom_0) (by decide +kernel)
set_option maxRecDepth 20000 in
theorem xo_m_X0_countWays : xm_b xmi_X0_countWays (1, 9) (4, 184) (0, 51) = true := by decide +kernel
theorem xo_w_X0_countWays : Cond.code xmi_X0_countWays.2.1 xmi_X0_countWays.2.2.1 xmi_X0_countWays.2.2.2.1 xmi_X0_countWays.2.2.2.2.1 ∈ xG := xw_in2 (K := 4) (i := 185) rfl rfl
set_option maxRecDepth 20000 in
theorem xo_c_X0_countWays_0 : xc_b xmi_X0_countWays xc_X0_countWays 0 112 = true := by decide +kernel
set_option maxRecDepth 20000 in
theorem xo_c_X0_countWays_112 : xc_b xmi_X0_countWays xc_X0_countWays 112 16 = true := by decide +kernel
theorem xo_r_X0_countWays : ∀ (pc : Nat) (r : xr_R), xcl xc_X0_countWays pc = some r → xr_b xmi_X0_countWays.1 (xm_ini xmi_X0_countWays) xmi_X0_countWays.2.2.1 pc r = true ∧ xr_c xM xmi_X0_countWays.1 r = true := xc_up_e (mi := xmi_X0_countWays) (cd := xc_X0_countWays) (N := 128) (xc_up_s (mi := xmi_X0_countWays) (cd := xc_X0_countWays) (lo := 112) (n := 16) (xc_up_s (mi := xmi_X0_countWays) (cd := xc_X0_countWays) (lo := 0) (n := 112) xc_up_0 xo_c_X0_countWays_0) xo_c_X0_countWays_112) (by decide +kernel)
set_option maxRecDepth 20000 in
theorem xo_m_X0_findFirstRow : xm_b xmi_X0_findFirstRow (1, 9) (4, 192) (0, 53) = true := by decide +kernel
theorem xo_w_X0_findFirstRow : Cond.code xmi_X0_findFirstRow.2.1 xmi_X0_findFirstRow.2.2.1 xmi_X0_findFirstRow.2.2.2.1 xmi_X0_findFirstRow.2.2.2.2.1 ∈ xG := xw_in2 (K := 4) (i := 193) rfl rfl
set_option maxRecDepth 20000 in
theorem xo_c_X0_findFirstRow_0 : xc_b xmi_X0_findFirstRow xc_X0_findFirstRow 0 112 = true := by decide +kernel
theorem xo_r_X0_findFirstRow : ∀ (pc : Nat) (r : xr_R), xcl xc_X0_findFirstRow pc = some r → xr_b xmi_X0_findFirstRow.1 (xm_ini xmi_X0_findFirstRow) xmi_X0_findFirstRow.2.2.1 pc r = true ∧ xr_c xM xmi_X0_findFirstRow.1 r = true := xc_up_e (mi := xmi_X0_findFirstRow) (cd := xc_X0_findFirstRow) (N := 112) (xc_up_s (mi := xmi_X0_findFirstRow) (cd := xc_X0_findFirstRow) (lo := 0) (n := 112) xc_up_0 xo_c_X0_findFirstRow_0) (by decide +kernel)
set_option maxRecDepth 20000 in
theorem xo_m_X1_init : xm_b xmi_X1_init (1, 10) (2, 65) (99, 0) = true := by decide +kernel
theorem xo_w_X1_init : Cond.code xmi_X1_init.2.1 xmi_X1_init.2.2.1 xmi_X1_init.2.2.2.1 xmi_X1_init.2.2.2.2.1 ∈ xG := xw_in2 (K := 2) (i := 66) rfl rfl
set_option maxRecDepth 20000 in
theorem xo_c_X1_init_0 : xc_b xmi_X1_init xc_X1_init 0 48 = true := by decide +kernel
theorem xo_r_X1_init : ∀ (pc : Nat) (r : xr_R), xcl xc_X1_init pc = some r → xr_b xmi_X1_init.1 (xm_ini xmi_X1_init) xmi_X1_init.2.2.1 pc r = true ∧ xr_c xM xmi_X1_init.1 r = true := xc_up_e (mi := xmi_X1_init) (cd := xc_X1_init) (N := 48) (xc_up_s (mi := xmi_X1_init) (cd := xc_X1_init) (lo := 0) (n := 48) xc_up_0 xo_c_X1_init_0) (by decide +kernel)
set_option maxRecDepth 20000 in
theorem xo_m_X1_add : xm_b xmi_X1_add (1, 10) (4, 203) (4, 204) = true := by decide +kernel
theorem xo_w_X1_add : Cond.code xmi_X1_add.2.1 xmi_X1_add.2.2.1 xmi_X1_add.2.2.2.1 xmi_X1_add.2.2.2.2.1 ∈ xG := xw_in2 (K := 4) (i := 205) rfl rfl
set_option maxRecDepth 20000 in
theorem xo_c_X1_add_0 : xc_b xmi_X1_add xc_X1_add 0 64 = true := by decide +kernel
theorem xo_r_X1_add : ∀ (pc : Nat) (r : xr_R), xcl xc_X1_add pc = some r → xr_b xmi_X1_add.1 (xm_ini xmi_X1_add) xmi_X1_add.2.2.1 pc r = true ∧ xr_c xM xmi_X1_add.1 r = true := xc_up_e (mi := xmi_X1_add) (cd := xc_X1_add) (N := 64) (xc_up_s (mi := xmi_X1_add) (cd := xc_X1_add) (lo := 0) (n := 64) xc_up_0 xo_c_X1_add_0) (by decide +kernel)
set_option maxRecDepth 20000 in
theorem xo_m_X1_judge : xm_b xmi_X1_judge (1, 10) (4, 215) (4, 216) = true := by decide +kernel
theorem xo_w_X1_judge : Cond.code xmi_X1_judge.2.1 xmi_X1_judge.2.2.1 xmi_X1_judge.2.2.2.1 xmi_X1_judge.2.2.2.2.1 ∈ xG := xw_in2 (K := 4) (i := 217) rfl rfl
set_option maxRecDepth 20000 in
theorem xo_c_X1_judge_0 : xc_b xmi_X1_judge xc_X1_judge 0 112 = true := by decide +kernel
set_option maxRecDepth 20000 in
theorem xo_c_X1_judge_112 : xc_b xmi_X1_judge xc_X1_judge 112 16 = true := by decide +kernel
theorem xo_r_X1_judge : ∀ (pc : Nat) (r : xr_R), xcl xc_X1_judge pc = some r → xr_b xmi_X1_judge.1 (xm_ini xmi_X1_judge) xmi_X1_judge.2.2.1 pc r = true ∧ xr_c xM xmi_X1_judge.1 r = true := xc_up_e (mi := xmi_X1_judge) (cd := xc_X1_judge) (N := 128) (xc_up_s (mi := xmi_X1_judge) (cd := xc_X1_judge) (lo := 112) (n := 16) (xc_up_s (mi := xmi_X1_judge) (cd := xc_X1_judge) (lo := 0) (n := 112) xc_up_0 xo_c_X1_judge_0) xo_c_X1_judge_112) (by decide +kernel)
set_option maxRecDepth 20000 in
theorem xo_m_X2_init : xm_b xmi_X2_init (1, 7) (1, 159) (99, 0) = true := by decide +kernel
theorem xo_w_X2_init : Cond.code xmi_X2_init.2.1 xmi_X2_init.2.2.1 xmi_X2_init.2.2.2.1 xmi_X2_init.2.2.2.2.1 ∈ xG := xw_in2 (K := 1) (i := 160) rfl rfl
set_option maxRecDepth 20000 in
theorem xo_c_X2_init_0 : xc_b xmi_X2_init xc_X2_init 0 80 = true := by decide +kernel
theorem xo_r_X2_init : ∀ (pc : Nat) (r : xr_R), xcl xc_X2_init pc = some r → xr_b xmi_X2_init.1 (xm_ini xmi_X2_init) xmi_X2_init.2.2.1 pc r = true ∧ xr_c xM xmi_X2_init.1 r = true := xc_up_e (mi := xmi_X2_init) (cd := xc_X2_init) (N := 80) (xc_up_s (mi := xmi_X2_init) (cd := xc_X2_init) (lo := 0) (n := 80) xc_up_0 xo_c_X2_init_0) (by decide +kernel)
set_option maxRecDepth 20000 in
theorem xo_m_X2_isOf : xm_b xmi_X2_isOf (1, 7) (3, 167) (3, 168) = true := by decide +kernel
theorem xo_w_X2_isOf : Cond.code xmi_X2_isOf.2.1 xmi_X2_isOf.2.2.1 xmi_X2_isOf.2.2.2.1 xmi_X2_isOf.2.2.2.2.1 ∈ xG := xw_in2 (K := 3) (i := 169) rfl rfl
set_option maxRecDepth 20000 in
theorem xo_c_X2_isOf_0 : xc_b xmi_X2_isOf xc_X2_isOf 0 32 = true := by decide +kernel
theorem xo_r_X2_isOf : ∀ (pc : Nat) (r : xr_R), xcl xc_X2_isOf pc = some r → xr_b xmi_X2_isOf.1 (xm_ini xmi_X2_isOf) xmi_X2_isOf.2.2.1 pc r = true ∧ xr_c xM xmi_X2_isOf.1 r = true := xc_up_e (mi := xmi_X2_isOf) (cd := xc_X2_isOf) (N := 32) (xc_up_s (mi := xmi_X2_isOf) (cd := xc_X2_isOf) (lo := 0) (n := 32) xc_up_0 xo_c_X2_isOf_0) (by decide +kernel)
set_option maxRecDepth 20000 in
theorem xo_m_X2_study : xm_b xmi_X2_study (1, 7) (3, 163) (3, 164) = true := by decide +kernel
theorem xo_w_X2_study : Cond.code xmi_X2_study.2.1 xmi_X2_study.2.2.1 xmi_X2_study.2.2.2.1 xmi_X2_study.2.2.2.2.1 ∈ xG := xw_in2 (K := 3) (i := 165) rfl rfl
set_option maxRecDepth 20000 in
theorem xo_c_X2_study_0 : xc_b xmi_X2_study xc_X2_study 0 96 = true := by decide +kernel
theorem xo_r_X2_study : ∀ (pc : Nat) (r : xr_R), xcl xc_X2_study pc = some r → xr_b xmi_X2_study.1 (xm_ini xmi_X2_study) xmi_X2_study.2.2.1 pc r = true ∧ xr_c xM xmi_X2_study.1 r = true := xc_up_e (mi := xmi_X2_study) (cd := xc_X2_study) (N := 96) (xc_up_s (mi := xmi_X2_study) (cd := xc_X2_study) (lo := 0) (n := 96) xc_up_0 xo_c_X2_study_0) (by decide +kernel)
set_option maxRecDepth 20000 in
theorem xo_m_X2_list : xm_b xmi_X2_list (1, 7) (3, 172) (0, 24) = true := by decide +kernel
theorem xo_w_X2_list : Cond.code xmi_X2_list.2.1 xmi_X2_list.2.2.1 xmi_X2_list.2.2.2.1 xmi_X2_list.2.2.2.2.1 ∈ xG := xw_in2 (K := 3) (i := 173) rfl rfl
set_option maxRecDepth 20000 in
theorem xo_c_X2_list_0 : xc_b xmi_X2_list xc_X2_list 0 112 = true := by decide +kernel
set_option maxRecDepth 20000 in
theorem xo_c_X2_list_112 : xc_b xmi_X2_list xc_X2_list 112 64 = true := by decide +kernel
theorem xo_r_X2_list : ∀ (pc : Nat) (r : xr_R), xcl xc_X2_list pc = some r → xr_b xmi_X2_list.1 (xm_ini xmi_X2_list) xmi_X2_list.2.2.1 pc r = true ∧ xr_c xM xmi_X2_list.1 r = true := xc_up_e (mi := xmi_X2_list) (cd := xc_X2_list) (N := 176) (xc_up_s (mi := xmi_X2_list) (cd := xc_X2_list) (lo := 112) (n := 64) (xc_up_s (mi := xmi_X2_list) (cd := xc_X2_list) (lo := 0) (n := 112) xc_up_0 xo_c_X2_list_0) xo_c_X2_list_112) (by decide +kernel)
set_option maxRecDepth 20000 in
theorem xo_m_X2_isMinimal : xm_b xmi_X2_isMinimal (1, 7) (3, 176) (0, 25) = true := by decide +kernel
theorem xo_w_X2_isMinimal : Cond.code xmi_X2_isMinimal.2.1 xmi_X2_isMinimal.2.2.1 xmi_X2_isMinimal.2.2.2.1 xmi_X2_isMinimal.2.2.2.2.1 ∈ xG := xw_in2 (K := 3) (i := 177) rfl rfl
set_option maxRecDepth 20000 in
theorem xo_c_X2_isMinimal_0 : xc_b xmi_X2_isMinimal xc_X2_isMinimal 0 64 = true := by decide +kernel
theorem xo_r_X2_isMinimal : ∀ (pc : Nat) (r : xr_R), xcl xc_X2_isMinimal pc = some r → xr_b xmi_X2_isMinimal.1 (xm_ini xmi_X2_isMinimal) xmi_X2_isMinimal.2.2.1 pc r = true ∧ xr_c xM xmi_X2_isMinimal.1 r = true := xc_up_e (mi := xmi_X2_isMinimal) (cd := xc_X2_isMinimal) (N := 64) (xc_up_s (mi := xmi_X2_isMinimal) (cd := xc_X2_isMinimal) (lo := 0) (n := 64) xc_up_0 xo_c_X2_isMinimal_0) (by decide +kernel)
set_option maxRecDepth 20000 in
theorem xo_m_X2_does : xm_b xmi_X2_does (1, 7) (3, 180) (0, 26) = true := by decide +kernel
theorem xo_w_X2_does : Cond.code xmi_X2_does.2.1 xmi_X2_does.2.2.1 xmi_X2_does.2.2.2.1 xmi_X2_does.2.2.2.2.1 ∈ xG := xw_in2 (K := 3) (i := 181) rfl rfl
set_option maxRecDepth 20000 in
theorem xo_c_X2_does_0 : xc_b xmi_X2_does xc_X2_does 0 48 = true := by decide +kernel
theorem xo_r_X2_does : ∀ (pc : Nat) (r : xr_R), xcl xc_X2_does pc = some r → xr_b xmi_X2_does.1 (xm_ini xmi_X2_does) xmi_X2_does.2.2.1 pc r = true ∧ xr_c xM xmi_X2_does.1 r = true := xc_up_e (mi := xmi_X2_does) (cd := xc_X2_does) (N := 48) (xc_up_s (mi := xmi_X2_does) (cd := xc_X2_does) (lo := 0) (n := 48) xc_up_0 xo_c_X2_does_0) (by decide +kernel)
set_option maxRecDepth 20000 in
theorem xo_m_X2_markNeeded : xm_b xmi_X2_markNeeded (1, 7) (3, 192) (0, 27) = true := by decide +kernel
theorem xo_w_X2_markNeeded : Cond.code xmi_X2_markNeeded.2.1 xmi_X2_markNeeded.2.2.1 xmi_X2_markNeeded.2.2.2.1 xmi_X2_markNeeded.2.2.2.2.1 ∈ xG := xw_in2 (K := 3) (i := 193) rfl rfl
set_option maxRecDepth 20000 in
theorem xo_c_X2_markNeeded_0 : xc_b xmi_X2_markNeeded xc_X2_markNeeded 0 80 = true := by decide +kernel
theorem xo_r_X2_markNeeded : ∀ (pc : Nat) (r : xr_R), xcl xc_X2_markNeeded pc = some r → xr_b xmi_X2_markNeeded.1 (xm_ini xmi_X2_markNeeded) xmi_X2_markNeeded.2.2.1 pc r = true ∧ xr_c xM xmi_X2_markNeeded.1 r = true := xc_up_e (mi := xmi_X2_markNeeded) (cd := xc_X2_markNeeded) (N := 80) (xc_up_s (mi := xmi_X2_markNeeded) (cd := xc_X2_markNeeded) (lo := 0) (n := 80) xc_up_0 xo_c_X2_markNeeded_0) (by decide +kernel)
set_option maxRecDepth 20000 in
theorem xo_m_X2_turnsBy : xm_b xmi_X2_turnsBy (1, 7) (3, 200) (0, 29) = true := by decide +kernel
theorem xo_w_X2_turnsBy : Cond.code xmi_X2_turnsBy.2.1 xmi_X2_turnsBy.2.2.1 xmi_X2_turnsBy.2.2.2.1 xmi_X2_turnsBy.2.2.2.2.1 ∈ xG := xw_in2 (K := 3) (i := 201) rfl rfl
set_option maxRecDepth 20000 in
theorem xo_c_X2_turnsBy_0 : xc_b xmi_X2_turnsBy xc_X2_turnsBy 0 48 = true := by decide +kernel
theorem xo_r_X2_turnsBy : ∀ (pc : Nat) (r : xr_R), xcl xc_X2_turnsBy pc = some r → xr_b xmi_X2_turnsBy.1 (xm_ini xmi_X2_turnsBy) xmi_X2_turnsBy.2.2.1 pc r = true ∧ xr_c xM xmi_X2_turnsBy.1 r = true := xc_up_e (mi := xmi_X2_turnsBy) (cd := xc_X2_turnsBy) (N := 48) (xc_up_s (mi := xmi_X2_turnsBy) (cd := xc_X2_turnsBy) (lo := 0) (n := 48) xc_up_0 xo_c_X2_turnsBy_0) (by decide +kernel)
set_option maxRecDepth 20000 in
theorem xo_m_X2_countSwings : xm_b xmi_X2_countSwings (1, 7) (3, 196) (0, 28) = true := by decide +kernel
theorem xo_w_X2_countSwings : Cond.code xmi_X2_countSwings.2.1 xmi_X2_countSwings.2.2.1 xmi_X2_countSwings.2.2.2.1 xmi_X2_countSwings.2.2.2.2.1 ∈ xG := xw_in2 (K := 3) (i := 197) rfl rfl
set_option maxRecDepth 20000 in
theorem xo_c_X2_countSwings_0 : xc_b xmi_X2_countSwings xc_X2_countSwings 0 32 = true := by decide +kernel
theorem xo_r_X2_countSwings : ∀ (pc : Nat) (r : xr_R), xcl xc_X2_countSwings pc = some r → xr_b xmi_X2_countSwings.1 (xm_ini xmi_X2_countSwings) xmi_X2_countSwings.2.2.1 pc r = true ∧ xr_c xM xmi_X2_countSwings.1 r = true := xc_up_e (mi := xmi_X2_countSwings) (cd := xc_X2_countSwings) (N := 32) (xc_up_s (mi := xmi_X2_countSwings) (cd := xc_X2_countSwings) (lo := 0) (n := 32) xc_up_0 xo_c_X2_countSwings_0) (by decide +kernel)
set_option maxRecDepth 20000 in
theorem xo_m_X2_countCarrying : xm_b xmi_X2_countCarrying (1, 7) (3, 211) (3, 212) = true := by decide +kernel
theorem xo_w_X2_countCarrying : Cond.code xmi_X2_countCarrying.2.1 xmi_X2_countCarrying.2.2.1 xmi_X2_countCarrying.2.2.2.1 xmi_X2_countCarrying.2.2.2.2.1 ∈ xG := xw_in2 (K := 3) (i := 213) rfl rfl
set_option maxRecDepth 20000 in
theorem xo_c_X2_countCarrying_0 : xc_b xmi_X2_countCarrying xc_X2_countCarrying 0 48 = true := by decide +kernel
theorem xo_r_X2_countCarrying : ∀ (pc : Nat) (r : xr_R), xcl xc_X2_countCarrying pc = some r → xr_b xmi_X2_countCarrying.1 (xm_ini xmi_X2_countCarrying) xmi_X2_countCarrying.2.2.1 pc r = true ∧ xr_c xM xmi_X2_countCarrying.1 r = true := xc_up_e (mi := xmi_X2_countCarrying) (cd := xc_X2_countCarrying) (N := 48) (xc_up_s (mi := xmi_X2_countCarrying) (cd := xc_X2_countCarrying) (lo := 0) (n := 48) xc_up_0 xo_c_X2_countCarrying_0) (by decide +kernel)
set_option maxRecDepth 20000 in
theorem xo_m_X2_isProper : xm_b xmi_X2_isProper (1, 7) (3, 216) (3, 217) = true := by decide +kernel
theorem xo_w_X2_isProper : Cond.code xmi_X2_isProper.2.1 xmi_X2_isProper.2.2.1 xmi_X2_isProper.2.2.2.1 xmi_X2_isProper.2.2.2.2.1 ∈ xG := xw_in2 (K := 3) (i := 218) rfl rfl
set_option maxRecDepth 20000 in
theorem xo_c_X2_isProper_0 : xc_b xmi_X2_isProper xc_X2_isProper 0 64 = true := by decide +kernel
theorem xo_r_X2_isProper : ∀ (pc : Nat) (r : xr_R), xcl xc_X2_isProper pc = some r → xr_b xmi_X2_isProper.1 (xm_ini xmi_X2_isProper) xmi_X2_isProper.2.2.1 pc r = true ∧ xr_c xM xmi_X2_isProper.1 r = true := xc_up_e (mi := xmi_X2_isProper) (cd := xc_X2_isProper) (N := 64) (xc_up_s (mi := xmi_X2_isProper) (cd := xc_X2_isProper) (lo := 0) (n := 64) xc_up_0 xo_c_X2_isProper_0) (by decide +kernel)
end XCK1
end
section
section XCK2
set_option maxRecDepth 20000 in
theorem xo_m_X2_isStrong : xm_b xmi_X2_isStrong (1, 7) (3, 220) (3, 221) = true := by decide +kernel
theorem xo_w_X2_isStrong : Cond.code xmi_X2_isStrong.2.1 xmi_X2_isStrong.2.2.1 xmi_X2_isStrong.2.2.2.1 xmi_X2_isStrong.2.2.2.2.1 ∈ xG := xw_in2 (K := 3) (i := 222) rfl rfl
set_option maxRecDepth 20000 in
theorem xo_c_X2_isStrong_0 : xc_b xmi_X2_isStrong xc_X2_isStrong 0 64 = true := by decide +kernel
theorem xo_r_X2_isStrong : ∀ (pc : Nat) (r : xr_R), xcl xc_X2_isStrong pc = some r → xr_b xmi_X2_isStrong.1 (xm_ini xmi_X2_isStrong) xmi_X2_isStrong.2.2.1 pc r = true ∧ xr_c xM xmi_X2_isStrong.1 r = true := xc_up_e (mi := xmi_X2_isStrong) (cd := xc_X2_isStrong) (N := 64) (xc_up_s (mi := xmi_X2_isStrong) (cd := xc_X2_isStrong) (lo := 0) (n := 64) xc_up_0 xo_c_X2_isStrong_0) (by decide +kernel)
set_option maxRecDepth 20000 in
theorem xo_m_X2_isLined : xm_b xmi_X2_isLined (1, 7) (3, 224) (3, 225) = true := by decide +kernel
theorem xo_w_X2_isLined : Cond.code xmi_X2_isLined.2.1 xmi_X2_isLined.2.2.1 xmi_X2_isLined.2.2.2.1 xmi_X2_isLined.2.2.2.2.1 ∈ xG := xw_in2 (K := 3) (i := 226) rfl rfl
set_option maxRecDepth 20000 in
theorem xo_c_X2_isLined_0 : xc_b xmi_X2_isLined xc_X2_isLined 0 48 = true := by decide +kernel
theorem xo_r_X2_isLined : ∀ (pc : Nat) (r : xr_R), xcl xc_X2_isLined pc = some r → xr_b xmi_X2_isLined.1 (xm_ini xmi_X2_isLined) xmi_X2_isLined.2.2.1 pc r = true ∧ xr_c xM xmi_X2_isLined.1 r = true := xc_up_e (mi := xmi_X2_isLined) (cd := xc_X2_isLined) (N := 48) (xc_up_s (mi := xmi_X2_isLined) (cd := xc_X2_isLined) (lo := 0) (n := 48) xc_up_0 xo_c_X2_isLined_0) (by decide +kernel)
set_option maxRecDepth 20000 in
theorem xo_m_X2_compare : xm_b xmi_X2_compare (1, 7) (3, 228) (3, 229) = true := by decide +kernel
theorem xo_w_X2_compare : Cond.code xmi_X2_compare.2.1 xmi_X2_compare.2.2.1 xmi_X2_compare.2.2.2.1 xmi_X2_compare.2.2.2.2.1 ∈ xG := xw_in2 (K := 3) (i := 230) rfl rfl
set_option maxRecDepth 20000 in
theorem xo_c_X2_compare_0 : xc_b xmi_X2_compare xc_X2_compare 0 80 = true := by decide +kernel
theorem xo_r_X2_compare : ∀ (pc : Nat) (r : xr_R), xcl xc_X2_compare pc = some r → xr_b xmi_X2_compare.1 (xm_ini xmi_X2_compare) xmi_X2_compare.2.2.1 pc r = true ∧ xr_c xM xmi_X2_compare.1 r = true := xc_up_e (mi := xmi_X2_compare) (cd := xc_X2_compare) (N := 80) (xc_up_s (mi := xmi_X2_compare) (cd := xc_X2_compare) (lo := 0) (n := 80) xc_up_0 xo_c_X2_compare_0) (by decide +kernel)
set_option maxRecDepth 20000 in
theorem xo_m_X2_compareAll : xm_b xmi_X2_compareAll (1, 7) (3, 204) (0, 30) = true := by decide +kernel
theorem xo_w_X2_compareAll : Cond.code xmi_X2_compareAll.2.1 xmi_X2_compareAll.2.2.1 xmi_X2_compareAll.2.2.2.1 xmi_X2_compareAll.2.2.2.2.1 ∈ xG := xw_in2 (K := 3) (i := 205) rfl rfl
set_option maxRecDepth 20000 in
theorem xo_c_X2_compareAll_0 : xc_b xmi_X2_compareAll xc_X2_compareAll 0 64 = true := by decide +kernel
theorem xo_r_X2_compareAll : ∀ (pc : Nat) (r : xr_R), xcl xc_X2_compareAll pc = some r → xr_b xmi_X2_compareAll.1 (xm_ini xmi_X2_compareAll) xmi_X2_compareAll.2.2.1 pc r = true ∧ xr_c xM xmi_X2_compareAll.1 r = true := xc_up_e (mi := xmi_X2_compareAll) (cd := xc_X2_compareAll) (N := 64) (xc_up_s (mi := xmi_X2_compareAll) (cd := xc_X2_compareAll) (lo := 0) (n := 64) xc_up_0 xo_c_X2_compareAll_0) (by decide +kernel)
set_option maxRecDepth 20000 in
theorem xo_m_X2_isAtLeast : xm_b xmi_X2_isAtLeast (1, 7) (3, 208) (0, 31) = true := by decide +kernel
theorem xo_w_X2_isAtLeast : Cond.code xmi_X2_isAtLeast.2.1 xmi_X2_isAtLeast.2.2.1 xmi_X2_isAtLeast.2.2.2.1 xmi_X2_isAtLeast.2.2.2.2.1 ∈ xG := xw_in2 (K := 3) (i := 209) rfl rfl
set_option maxRecDepth 20000 in
theorem xo_c_X2_isAtLeast_0 : xc_b xmi_X2_isAtLeast xc_X2_isAtLeast 0 80 = true := by decide +kernel
theorem xo_r_X2_isAtLeast : ∀ (pc : Nat) (r : xr_R), xcl xc_X2_isAtLeast pc = some r → xr_b xmi_X2_isAtLeast.1 (xm_ini xmi_X2_isAtLeast) xmi_X2_isAtLeast.2.2.1 pc r = true ∧ xr_c xM xmi_X2_isAtLeast.1 r = true := xc_up_e (mi := xmi_X2_isAtLeast) (cd := xc_X2_isAtLeast) (N := 80) (xc_up_s (mi := xmi_X2_isAtLeast) (cd := xc_X2_isAtLeast) (lo := 0) (n := 80) xc_up_0 xo_c_X2_isAtLeast_0) (by decide +kernel)
set_option maxRecDepth 20000 in
theorem xo_m_X2_upperShare : xm_b xmi_X2_upperShare (1, 7) (5, 56) (5, 57) = true := by decide +kernel
theorem xo_w_X2_upperShare : Cond.code xmi_X2_upperShare.2.1 xmi_X2_upperShare.2.2.1 xmi_X2_upperShare.2.2.2.1 xmi_X2_upperShare.2.2.2.2.1 ∈ xG := xw_in2 (K := 5) (i := 58) rfl rfl
set_option maxRecDepth 20000 in
theorem xo_c_X2_upperShare_0 : xc_b xmi_X2_upperShare xc_X2_upperShare 0 32 = true := by decide +kernel
theorem xo_r_X2_upperShare : ∀ (pc : Nat) (r : xr_R), xcl xc_X2_upperShare pc = some r → xr_b xmi_X2_upperShare.1 (xm_ini xmi_X2_upperShare) xmi_X2_upperShare.2.2.1 pc r = true ∧ xr_c xM xmi_X2_upperShare.1 r = true := xc_up_e (mi := xmi_X2_upperShare) (cd := xc_X2_upperShare) (N := 32) (xc_up_s (mi := xmi_X2_upperShare) (cd := xc_X2_upperShare) (lo := 0) (n := 32) xc_up_0 xo_c_X2_upperShare_0) (by decide +kernel)
set_option maxRecDepth 20000 in
theorem xo_m_X2_lowerShare : xm_b xmi_X2_lowerShare (1, 7) (5, 71) (5, 72) = true := by decide +kernel
theorem xo_w_X2_lowerShare : Cond.code xmi_X2_lowerShare.2.1 xmi_X2_lowerShare.2.2.1 xmi_X2_lowerShare.2.2.2.1 xmi_X2_lowerShare.2.2.2.2.1 ∈ xG := xw_in2 (K := 5) (i := 73) rfl rfl
set_option maxRecDepth 20000 in
theorem xo_c_X2_lowerShare_0 : xc_b xmi_X2_lowerShare xc_X2_lowerShare 0 64 = true := by decide +kernel
theorem xo_r_X2_lowerShare : ∀ (pc : Nat) (r : xr_R), xcl xc_X2_lowerShare pc = some r → xr_b xmi_X2_lowerShare.1 (xm_ini xmi_X2_lowerShare) xmi_X2_lowerShare.2.2.1 pc r = true ∧ xr_c xM xmi_X2_lowerShare.1 r = true := xc_up_e (mi := xmi_X2_lowerShare) (cd := xc_X2_lowerShare) (N := 64) (xc_up_s (mi := xmi_X2_lowerShare) (cd := xc_X2_lowerShare) (lo := 0) (n := 64) xc_up_0 xo_c_X2_lowerShare_0) (by decide +kernel)
set_option maxRecDepth 20000 in
theorem xo_m_X2_ordersOf : xm_b xmi_X2_ordersOf (1, 7) (5, 61) (0, 55) = true := by decide +kernel
theorem xo_w_X2_ordersOf : Cond.code xmi_X2_ordersOf.2.1 xmi_X2_ordersOf.2.2.1 xmi_X2_ordersOf.2.2.2.1 xmi_X2_ordersOf.2.2.2.2.1 ∈ xG := xw_in2 (K := 5) (i := 62) rfl rfl
set_option maxRecDepth 20000 in
theorem xo_c_X2_ordersOf_0 : xc_b xmi_X2_ordersOf xc_X2_ordersOf 0 64 = true := by decide +kernel
theorem xo_r_X2_ordersOf : ∀ (pc : Nat) (r : xr_R), xcl xc_X2_ordersOf pc = some r → xr_b xmi_X2_ordersOf.1 (xm_ini xmi_X2_ordersOf) xmi_X2_ordersOf.2.2.1 pc r = true ∧ xr_c xM xmi_X2_ordersOf.1 r = true := xc_up_e (mi := xmi_X2_ordersOf) (cd := xc_X2_ordersOf) (N := 64) (xc_up_s (mi := xmi_X2_ordersOf) (cd := xc_X2_ordersOf) (lo := 0) (n := 64) xc_up_0 xo_c_X2_ordersOf_0) (by decide +kernel)
set_option maxRecDepth 20000 in
theorem xo_m_X2_partsOf : xm_b xmi_X2_partsOf (1, 7) (5, 67) (0, 56) = true := by decide +kernel
theorem xo_w_X2_partsOf : Cond.code xmi_X2_partsOf.2.1 xmi_X2_partsOf.2.2.1 xmi_X2_partsOf.2.2.2.1 xmi_X2_partsOf.2.2.2.2.1 ∈ xG := xw_in2 (K := 5) (i := 68) rfl rfl
set_option maxRecDepth 20000 in
theorem xo_c_X2_partsOf_0 : xc_b xmi_X2_partsOf xc_X2_partsOf 0 64 = true := by decide +kernel
theorem xo_r_X2_partsOf : ∀ (pc : Nat) (r : xr_R), xcl xc_X2_partsOf pc = some r → xr_b xmi_X2_partsOf.1 (xm_ini xmi_X2_partsOf) xmi_X2_partsOf.2.2.1 pc r = true ∧ xr_c xM xmi_X2_partsOf.1 r = true := xc_up_e (mi := xmi_X2_partsOf) (cd := xc_X2_partsOf) (N := 64) (xc_up_s (mi := xmi_X2_partsOf) (cd := xc_X2_partsOf) (lo := 0) (n := 64) xc_up_0 xo_c_X2_partsOf_0) (by decide +kernel)
set_option maxRecDepth 20000 in
theorem xo_m_X2_chanceOf : xm_b xmi_X2_chanceOf (1, 7) (4, 14) (4, 15) = true := by decide +kernel
theorem xo_w_X2_chanceOf : Cond.code xmi_X2_chanceOf.2.1 xmi_X2_chanceOf.2.2.1 xmi_X2_chanceOf.2.2.2.1 xmi_X2_chanceOf.2.2.2.2.1 ∈ xG := xw_in2 (K := 4) (i := 16) rfl rfl
set_option maxRecDepth 20000 in
theorem xo_c_X2_chanceOf_0 : xc_b xmi_X2_chanceOf xc_X2_chanceOf 0 112 = true := by decide +kernel
set_option maxRecDepth 20000 in
theorem xo_c_X2_chanceOf_112 : xc_b xmi_X2_chanceOf xc_X2_chanceOf 112 16 = true := by decide +kernel
theorem xo_r_X2_chanceOf : ∀ (pc : Nat) (r : xr_R), xcl xc_X2_chanceOf pc = some r → xr_b xmi_X2_chanceOf.1 (xm_ini xmi_X2_chanceOf) xmi_X2_chanceOf.2.2.1 pc r = true ∧ xr_c xM xmi_X2_chanceOf.1 r = true := xc_up_e (mi := xmi_X2_chanceOf) (cd := xc_X2_chanceOf) (N := 128) (xc_up_s (mi := xmi_X2_chanceOf) (cd := xc_X2_chanceOf) (lo := 112) (n := 16) (xc_up_s (mi := xmi_X2_chanceOf) (cd := xc_X2_chanceOf) (lo := 0) (n := 112) xc_up_0 xo_c_X2_chanceOf_0) xo_c_X2_chanceOf_112) (by decide +kernel)
set_option maxRecDepth 20000 in
theorem xo_m_X2_power : xm_b xmi_X2_power (1, 7) (4, 18) (99, 0) = true := by decide +kernel
theorem xo_w_X2_power : Cond.code xmi_X2_power.2.1 xmi_X2_power.2.2.1 xmi_X2_power.2.2.2.1 xmi_X2_power.2.2.2.2.1 ∈ xG := xw_in2 (K := 4) (i := 19) rfl rfl
set_option maxRecDepth 20000 in
theorem xo_c_X2_power_0 : xc_b xmi_X2_power xc_X2_power 0 32 = true := by decide +kernel
theorem xo_r_X2_power : ∀ (pc : Nat) (r : xr_R), xcl xc_X2_power pc = some r → xr_b xmi_X2_power.1 (xm_ini xmi_X2_power) xmi_X2_power.2.2.1 pc r = true ∧ xr_c xM xmi_X2_power.1 r = true := xc_up_e (mi := xmi_X2_power) (cd := xc_X2_power) (N := 32) (xc_up_s (mi := xmi_X2_power) (cd := xc_X2_power) (lo := 0) (n := 32) xc_up_0 xo_c_X2_power_0) (by decide +kernel)
set_option maxRecDepth 20000 in
theorem xo_m_X2_allyOf : xm_b xmi_X2_allyOf (1, 7) (4, 25) (4, 26) = true := by decide +kernel
theorem xo_w_X2_allyOf : Cond.code xmi_X2_allyOf.2.1 xmi_X2_allyOf.2.2.1 xmi_X2_allyOf.2.2.2.1 xmi_X2_allyOf.2.2.2.2.1 ∈ xG := xw_in2 (K := 4) (i := 27) rfl rfl
set_option maxRecDepth 20000 in
theorem xo_c_X2_allyOf_0 : xc_b xmi_X2_allyOf xc_X2_allyOf 0 64 = true := by decide +kernel
theorem xo_r_X2_allyOf : ∀ (pc : Nat) (r : xr_R), xcl xc_X2_allyOf pc = some r → xr_b xmi_X2_allyOf.1 (xm_ini xmi_X2_allyOf) xmi_X2_allyOf.2.2.1 pc r = true ∧ xr_c xM xmi_X2_allyOf.1 r = true := xc_up_e (mi := xmi_X2_allyOf) (cd := xc_X2_allyOf) (N := 64) (xc_up_s (mi := xmi_X2_allyOf) (cd := xc_X2_allyOf) (lo := 0) (n := 64) xc_up_0 xo_c_X2_allyOf_0) (by decide +kernel)
set_option maxRecDepth 20000 in
theorem xo_m_X2_countTogether : xm_b xmi_X2_countTogether (1, 7) (4, 30) (0, 33) = true := by decide +kernel
theorem xo_w_X2_countTogether : Cond.code xmi_X2_countTogether.2.1 xmi_X2_countTogether.2.2.1 xmi_X2_countTogether.2.2.2.1 xmi_X2_countTogether.2.2.2.2.1 ∈ xG := xw_in2 (K := 4) (i := 31) rfl rfl
set_option maxRecDepth 20000 in
theorem xo_c_X2_countTogether_0 : xc_b xmi_X2_countTogether xc_X2_countTogether 0 96 = true := by decide +kernel
theorem xo_r_X2_countTogether : ∀ (pc : Nat) (r : xr_R), xcl xc_X2_countTogether pc = some r → xr_b xmi_X2_countTogether.1 (xm_ini xmi_X2_countTogether) xmi_X2_countTogether.2.2.1 pc r = true ∧ xr_c xM xmi_X2_countTogether.1 r = true := xc_up_e (mi := xmi_X2_countTogether) (cd := xc_X2_countTogether) (N := 96) (xc_up_s (mi := xmi_X2_countTogether) (cd := xc_X2_countTogether) (lo := 0) (n := 96) xc_up_0 xo_c_X2_countTogether_0) (by decide +kernel)
set_option maxRecDepth 20000 in
theorem xo_m_X3_init : xm_b xmi_X3_init (1, 4) (1, 56) (99, 0) = true := by decide +kernel
theorem xo_w_X3_init : Cond.code xmi_X3_init.2.1 xmi_X3_init.2.2.1 xmi_X3_init.2.2.2.1 xmi_X3_init.2.2.2.2.1 ∈ xG := xw_in2 (K := 1) (i := 57) rfl rfl
set_option maxRecDepth 20000 in
theorem xo_c_X3_init_0 : xc_b xmi_X3_init xc_X3_init 0 48 = true := by decide +kernel
theorem xo_r_X3_init : ∀ (pc : Nat) (r : xr_R), xcl xc_X3_init pc = some r → xr_b xmi_X3_init.1 (xm_ini xmi_X3_init) xmi_X3_init.2.2.1 pc r = true ∧ xr_c xM xmi_X3_init.1 r = true := xc_up_e (mi := xmi_X3_init) (cd := xc_X3_init) (N := 48) (xc_up_s (mi := xmi_X3_init) (cd := xc_X3_init) (lo := 0) (n := 48) xc_up_0 xo_c_X3_init_0) (by decide +kernel)
set_option maxRecDepth 20000 in
theorem xo_m_X3_clear : xm_b xmi_X3_clear (1, 4) (2, 164) (2, 165) = true := by decide +kernel
theorem xo_w_X3_clear : Cond.code xmi_X3_clear.2.1 xmi_X3_clear.2.2.1 xmi_X3_clear.2.2.2.1 xmi_X3_clear.2.2.2.2.1 ∈ xG := xw_in2 (K := 2) (i := 166) rfl rfl
set_option maxRecDepth 20000 in
theorem xo_c_X3_clear_0 : xc_b xmi_X3_clear xc_X3_clear 0 16 = true := by decide +kernel
theorem xo_r_X3_clear : ∀ (pc : Nat) (r : xr_R), xcl xc_X3_clear pc = some r → xr_b xmi_X3_clear.1 (xm_ini xmi_X3_clear) xmi_X3_clear.2.2.1 pc r = true ∧ xr_c xM xmi_X3_clear.1 r = true := xc_up_e (mi := xmi_X3_clear) (cd := xc_X3_clear) (N := 16) (xc_up_s (mi := xmi_X3_clear) (cd := xc_X3_clear) (lo := 0) (n := 16) xc_up_0 xo_c_X3_clear_0) (by decide +kernel)
set_option maxRecDepth 20000 in
theorem xo_m_X3_add : xm_b xmi_X3_add (1, 4) (3, 76) (3, 77) = true := by decide +kernel
theorem xo_w_X3_add : Cond.code xmi_X3_add.2.1 xmi_X3_add.2.2.1 xmi_X3_add.2.2.2.1 xmi_X3_add.2.2.2.2.1 ∈ xG := xw_in2 (K := 3) (i := 78) rfl rfl
set_option maxRecDepth 20000 in
theorem xo_c_X3_add_0 : xc_b xmi_X3_add xc_X3_add 0 48 = true := by decide +kernel
theorem xo_r_X3_add : ∀ (pc : Nat) (r : xr_R), xcl xc_X3_add pc = some r → xr_b xmi_X3_add.1 (xm_ini xmi_X3_add) xmi_X3_add.2.2.1 pc r = true ∧ xr_c xM xmi_X3_add.1 r = true := xc_up_e (mi := xmi_X3_add) (cd := xc_X3_add) (N := 48) (xc_up_s (mi := xmi_X3_add) (cd := xc_X3_add) (lo := 0) (n := 48) xc_up_0 xo_c_X3_add_0) (by decide +kernel)
set_option maxRecDepth 20000 in
theorem xo_m_X3_fill : xm_b xmi_X3_fill (1, 4) (3, 111) (3, 112) = true := by decide +kernel
theorem xo_w_X3_fill : Cond.code xmi_X3_fill.2.1 xmi_X3_fill.2.2.1 xmi_X3_fill.2.2.2.1 xmi_X3_fill.2.2.2.2.1 ∈ xG := xw_in2 (K := 3) (i := 113) rfl rfl
set_option maxRecDepth 20000 in
theorem xo_c_X3_fill_0 : xc_b xmi_X3_fill xc_X3_fill 0 32 = true := by decide +kernel
theorem xo_r_X3_fill : ∀ (pc : Nat) (r : xr_R), xcl xc_X3_fill pc = some r → xr_b xmi_X3_fill.1 (xm_ini xmi_X3_fill) xmi_X3_fill.2.2.1 pc r = true ∧ xr_c xM xmi_X3_fill.1 r = true := xc_up_e (mi := xmi_X3_fill) (cd := xc_X3_fill) (N := 32) (xc_up_s (mi := xmi_X3_fill) (cd := xc_X3_fill) (lo := 0) (n := 32) xc_up_0 xo_c_X3_fill_0) (by decide +kernel)
set_option maxRecDepth 20000 in
theorem xo_m_X3_run : xm_b xmi_X3_run (1, 4) (3, 116) (0, 17) = true := by decide +kernel
theorem xo_w_X3_run : Cond.code xmi_X3_run.2.1 xmi_X3_run.2.2.1 xmi_X3_run.2.2.2.1 xmi_X3_run.2.2.2.2.1 ∈ xG := xw_in2 (K := 3) (i := 117) rfl rfl
set_option maxRecDepth 20000 in
theorem xo_c_X3_run_0 : xc_b xmi_X3_run xc_X3_run 0 112 = true := by decide +kernel
set_option maxRecDepth 20000 in
theorem xo_c_X3_run_112 : xc_b xmi_X3_run xc_X3_run 112 80 = true := by decide +kernel
theorem xo_r_X3_run : ∀ (pc : Nat) (r : xr_R), xcl xc_X3_run pc = some r → xr_b xmi_X3_run.1 (xm_ini xmi_X3_run) xmi_X3_run.2.2.1 pc r = true ∧ xr_c xM xmi_X3_run.1 r = true := xc_up_e (mi := xmi_X3_run) (cd := xc_X3_run) (N := 192) (xc_up_s (mi := xmi_X3_run) (cd := xc_X3_run) (lo := 112) (n := 80) (xc_up_s (mi := xmi_X3_run) (cd := xc_X3_run) (lo := 0) (n := 112) xc_up_0 xo_c_X3_run_0) xo_c_X3_run_112) (by decide +kernel)
set_option maxRecDepth 20000 in
theorem xo_m_X3_join : xm_b xmi_X3_join (1, 4) (3, 131) (99, 0) = true := by decide +kernel
theorem xo_w_X3_join : Cond.code xmi_X3_join.2.1 xmi_X3_join.2.2.1 xmi_X3_join.2.2.2.1 xmi_X3_join.2.2.2.2.1 ∈ xG := xw_in2 (K := 3) (i := 132) rfl rfl
set_option maxRecDepth 20000 in
theorem xo_c_X3_join_0 : xc_b xmi_X3_join xc_X3_join 0 32 = true := by decide +kernel
theorem xo_r_X3_join : ∀ (pc : Nat) (r : xr_R), xcl xc_X3_join pc = some r → xr_b xmi_X3_join.1 (xm_ini xmi_X3_join) xmi_X3_join.2.2.1 pc r = true ∧ xr_c xM xmi_X3_join.1 r = true := xc_up_e (mi := xmi_X3_join) (cd := xc_X3_join) (N := 32) (xc_up_s (mi := xmi_X3_join) (cd := xc_X3_join) (lo := 0) (n := 32) xc_up_0 xo_c_X3_join_0) (by decide +kernel)
set_option maxRecDepth 20000 in
theorem xo_m_X3_push : xm_b xmi_X3_push (1, 4) (3, 120) (0, 18) = true := by decide +kernel
theorem xo_w_X3_push : Cond.code xmi_X3_push.2.1 xmi_X3_push.2.2.1 xmi_X3_push.2.2.2.1 xmi_X3_push.2.2.2.2.1 ∈ xG := xw_in2 (K := 3) (i := 121) rfl rfl
set_option maxRecDepth 20000 in
theorem xo_c_X3_push_0 : xc_b xmi_X3_push xc_X3_push 0 32 = true := by decide +kernel
theorem xo_r_X3_push : ∀ (pc : Nat) (r : xr_R), xcl xc_X3_push pc = some r → xr_b xmi_X3_push.1 (xm_ini xmi_X3_push) xmi_X3_push.2.2.1 pc r = true ∧ xr_c xM xmi_X3_push.1 r = true := xc_up_e (mi := xmi_X3_push) (cd := xc_X3_push) (N := 32) (xc_up_s (mi := xmi_X3_push) (cd := xc_X3_push) (lo := 0) (n := 32) xc_up_0 xo_c_X3_push_0) (by decide +kernel)
set_option maxRecDepth 20000 in
theorem xo_m_X3_peek : xm_b xmi_X3_peek (1, 4) (3, 124) (0, 19) = true := by decide +kernel
theorem xo_w_X3_peek : Cond.code xmi_X3_peek.2.1 xmi_X3_peek.2.2.1 xmi_X3_peek.2.2.2.1 xmi_X3_peek.2.2.2.2.1 ∈ xG := xw_in2 (K := 3) (i := 125) rfl rfl
set_option maxRecDepth 20000 in
theorem xo_c_X3_peek_0 : xc_b xmi_X3_peek xc_X3_peek 0 32 = true := by decide +kernel
theorem xo_r_X3_peek : ∀ (pc : Nat) (r : xr_R), xcl xc_X3_peek pc = some r → xr_b xmi_X3_peek.1 (xm_ini xmi_X3_peek) xmi_X3_peek.2.2.1 pc r = true ∧ xr_c xM xmi_X3_peek.1 r = true := xc_up_e (mi := xmi_X3_peek) (cd := xc_X3_peek) (N := 32) (xc_up_s (mi := xmi_X3_peek) (cd := xc_X3_peek) (lo := 0) (n := 32) xc_up_0 xo_c_X3_peek_0) (by decide +kernel)
set_option maxRecDepth 20000 in
theorem xo_m_X3_replace : xm_b xmi_X3_replace (1, 4) (3, 128) (0, 20) = true := by decide +kernel
theorem xo_w_X3_replace : Cond.code xmi_X3_replace.2.1 xmi_X3_replace.2.2.1 xmi_X3_replace.2.2.2.1 xmi_X3_replace.2.2.2.2.1 ∈ xG := xw_in2 (K := 3) (i := 129) rfl rfl
set_option maxRecDepth 20000 in
theorem xo_c_X3_replace_0 : xc_b xmi_X3_replace xc_X3_replace 0 32 = true := by decide +kernel
theorem xo_r_X3_replace : ∀ (pc : Nat) (r : xr_R), xcl xc_X3_replace pc = some r → xr_b xmi_X3_replace.1 (xm_ini xmi_X3_replace) xmi_X3_replace.2.2.1 pc r = true ∧ xr_c xM xmi_X3_replace.1 r = true := xc_up_e (mi := xmi_X3_replace) (cd := xc_X3_replace) (N := 32) (xc_up_s (mi := xmi_X3_replace) (cd := xc_X3_replace) (lo := 0) (n := 32) xc_up_0 xo_c_X3_replace_0) (by decide +kernel)
set_option maxRecDepth 20000 in
theorem xo_m_X4_init : xm_b xmi_X4_init (1, 3) (1, 50) (99, 0) = true := by decide +kernel
theorem xo_w_X4_init : Cond.code xmi_X4_init.2.1 xmi_X4_init.2.2.1 xmi_X4_init.2.2.2.1 xmi_X4_init.2.2.2.2.1 ∈ xG := xw_in2 (K := 1) (i := 51) rfl rfl
set_option maxRecDepth 20000 in
theorem xo_c_X4_init_0 : xc_b xmi_X4_init xc_X4_init 0 48 = true := by decide +kernel
theorem xo_r_X4_init : ∀ (pc : Nat) (r : xr_R), xcl xc_X4_init pc = some r → xr_b xmi_X4_init.1 (xm_ini xmi_X4_init) xmi_X4_init.2.2.1 pc r = true ∧ xr_c xM xmi_X4_init.1 r = true := xc_up_e (mi := xmi_X4_init) (cd := xc_X4_init) (N := 48) (xc_up_s (mi := xmi_X4_init) (cd := xc_X4_init) (lo := 0) (n := 48) xc_up_0 xo_c_X4_init_0) (by decide +kernel)
set_option maxRecDepth 20000 in
theorem xo_m_X4_read : xm_b xmi_X4_read (1, 3) (2, 160) (2, 161) = true := by decide +kernel
theorem xo_w_X4_read : Cond.code xmi_X4_read.2.1 xmi_X4_read.2.2.1 xmi_X4_read.2.2.2.1 xmi_X4_read.2.2.2.2.1 ∈ xG := xw_in2 (K := 2) (i := 162) rfl rfl
set_option maxRecDepth 20000 in
theorem xo_c_X4_read_0 : xc_b xmi_X4_read xc_X4_read 0 112 = true := by decide +kernel
set_option maxRecDepth 20000 in
theorem xo_c_X4_read_112 : xc_b xmi_X4_read xc_X4_read 112 16 = true := by decide +kernel
theorem xo_r_X4_read : ∀ (pc : Nat) (r : xr_R), xcl xc_X4_read pc = some r → xr_b xmi_X4_read.1 (xm_ini xmi_X4_read) xmi_X4_read.2.2.1 pc r = true ∧ xr_c xM xmi_X4_read.1 r = true := xc_up_e (mi := xmi_X4_read) (cd := xc_X4_read) (N := 128) (xc_up_s (mi := xmi_X4_read) (cd := xc_X4_read) (lo := 112) (n := 16) (xc_up_s (mi := xmi_X4_read) (cd := xc_X4_read) (lo := 0) (n := 112) xc_up_0 xo_c_X4_read_0) xo_c_X4_read_112) (by decide +kernel)
set_option maxRecDepth 20000 in
theorem xo_m_X4_fail : xm_b xmi_X4_fail (1, 3) (3, 32) (0, 3) = true := by decide +kernel
theorem xo_w_X4_fail : Cond.code xmi_X4_fail.2.1 xmi_X4_fail.2.2.1 xmi_X4_fail.2.2.2.1 xmi_X4_fail.2.2.2.2.1 ∈ xG := xw_in2 (K := 3) (i := 33) rfl rfl
set_option maxRecDepth 20000 in
theorem xo_c_X4_fail_0 : xc_b xmi_X4_fail xc_X4_fail 0 16 = true := by decide +kernel
theorem xo_r_X4_fail : ∀ (pc : Nat) (r : xr_R), xcl xc_X4_fail pc = some r → xr_b xmi_X4_fail.1 (xm_ini xmi_X4_fail) xmi_X4_fail.2.2.1 pc r = true ∧ xr_c xM xmi_X4_fail.1 r = true := xc_up_e (mi := xmi_X4_fail) (cd := xc_X4_fail) (N := 16) (xc_up_s (mi := xmi_X4_fail) (cd := xc_X4_fail) (lo := 0) (n := 16) xc_up_0 xo_c_X4_fail_0) (by decide +kernel)
set_option maxRecDepth 20000 in
theorem xo_m_X4_takeWord : xm_b xmi_X4_takeWord (1, 3) (3, 69) (0, 11) = true := by decide +kernel
theorem xo_w_X4_takeWord : Cond.code xmi_X4_takeWord.2.1 xmi_X4_takeWord.2.2.1 xmi_X4_takeWord.2.2.2.1 xmi_X4_takeWord.2.2.2.2.1 ∈ xG := xw_in2 (K := 3) (i := 70) rfl rfl
set_option maxRecDepth 20000 in
theorem xo_c_X4_takeWord_0 : xc_b xmi_X4_takeWord xc_X4_takeWord 0 48 = true := by decide +kernel
theorem xo_r_X4_takeWord : ∀ (pc : Nat) (r : xr_R), xcl xc_X4_takeWord pc = some r → xr_b xmi_X4_takeWord.1 (xm_ini xmi_X4_takeWord) xmi_X4_takeWord.2.2.1 pc r = true ∧ xr_c xM xmi_X4_takeWord.1 r = true := xc_up_e (mi := xmi_X4_takeWord) (cd := xc_X4_takeWord) (N := 48) (xc_up_s (mi := xmi_X4_takeWord) (cd := xc_X4_takeWord) (lo := 0) (n := 48) xc_up_0 xo_c_X4_takeWord_0) (by decide +kernel)
set_option maxRecDepth 20000 in
theorem xo_m_X4_takeSign : xm_b xmi_X4_takeSign (1, 3) (3, 44) (0, 5) = true := by decide +kernel
theorem xo_w_X4_takeSign : Cond.code xmi_X4_takeSign.2.1 xmi_X4_takeSign.2.2.1 xmi_X4_takeSign.2.2.2.1 xmi_X4_takeSign.2.2.2.2.1 ∈ xG := xw_in2 (K := 3) (i := 45) rfl rfl
set_option maxRecDepth 20000 in
theorem xo_c_X4_takeSign_0 : xc_b xmi_X4_takeSign xc_X4_takeSign 0 48 = true := by decide +kernel
theorem xo_r_X4_takeSign : ∀ (pc : Nat) (r : xr_R), xcl xc_X4_takeSign pc = some r → xr_b xmi_X4_takeSign.1 (xm_ini xmi_X4_takeSign) xmi_X4_takeSign.2.2.1 pc r = true ∧ xr_c xM xmi_X4_takeSign.1 r = true := xc_up_e (mi := xmi_X4_takeSign) (cd := xc_X4_takeSign) (N := 48) (xc_up_s (mi := xmi_X4_takeSign) (cd := xc_X4_takeSign) (lo := 0) (n := 48) xc_up_0 xo_c_X4_takeSign_0) (by decide +kernel)
set_option maxRecDepth 20000 in
theorem xo_m_X4_takeEnd : xm_b xmi_X4_takeEnd (1, 3) (3, 104) (0, 16) = true := by decide +kernel
theorem xo_w_X4_takeEnd : Cond.code xmi_X4_takeEnd.2.1 xmi_X4_takeEnd.2.2.1 xmi_X4_takeEnd.2.2.2.1 xmi_X4_takeEnd.2.2.2.2.1 ∈ xG := xw_in2 (K := 3) (i := 105) rfl rfl
set_option maxRecDepth 20000 in
theorem xo_c_X4_takeEnd_0 : xc_b xmi_X4_takeEnd xc_X4_takeEnd 0 64 = true := by decide +kernel
theorem xo_r_X4_takeEnd : ∀ (pc : Nat) (r : xr_R), xcl xc_X4_takeEnd pc = some r → xr_b xmi_X4_takeEnd.1 (xm_ini xmi_X4_takeEnd) xmi_X4_takeEnd.2.2.1 pc r = true ∧ xr_c xM xmi_X4_takeEnd.1 r = true := xc_up_e (mi := xmi_X4_takeEnd) (cd := xc_X4_takeEnd) (N := 64) (xc_up_s (mi := xmi_X4_takeEnd) (cd := xc_X4_takeEnd) (lo := 0) (n := 64) xc_up_0 xo_c_X4_takeEnd_0) (by decide +kernel)
set_option maxRecDepth 20000 in
theorem xo_m_X4_takeOpening : xm_b xmi_X4_takeOpening (1, 3) (3, 73) (0, 12) = true := by decide +kernel
theorem xo_w_X4_takeOpening : Cond.code xmi_X4_takeOpening.2.1 xmi_X4_takeOpening.2.2.1 xmi_X4_takeOpening.2.2.2.1 xmi_X4_takeOpening.2.2.2.2.1 ∈ xG := xw_in2 (K := 3) (i := 74) rfl rfl
set_option maxRecDepth 20000 in
theorem xo_c_X4_takeOpening_0 : xc_b xmi_X4_takeOpening xc_X4_takeOpening 0 80 = true := by decide +kernel
theorem xo_r_X4_takeOpening : ∀ (pc : Nat) (r : xr_R), xcl xc_X4_takeOpening pc = some r → xr_b xmi_X4_takeOpening.1 (xm_ini xmi_X4_takeOpening) xmi_X4_takeOpening.2.2.1 pc r = true ∧ xr_c xM xmi_X4_takeOpening.1 r = true := xc_up_e (mi := xmi_X4_takeOpening) (cd := xc_X4_takeOpening) (N := 80) (xc_up_s (mi := xmi_X4_takeOpening) (cd := xc_X4_takeOpening) (lo := 0) (n := 80) xc_up_0 xo_c_X4_takeOpening_0) (by decide +kernel)
set_option maxRecDepth 20000 in
theorem xo_m_X4_readBody : xm_b xmi_X4_readBody (1, 3) (3, 13) (0, 1) = true := by decide +kernel
theorem xo_w_X4_readBody : Cond.code xmi_X4_readBody.2.1 xmi_X4_readBody.2.2.1 xmi_X4_readBody.2.2.2.1 xmi_X4_readBody.2.2.2.2.1 ∈ xG := xw_in2 (K := 3) (i := 14) rfl rfl
set_option maxRecDepth 20000 in
theorem xo_c_X4_readBody_0 : xc_b xmi_X4_readBody xc_X4_readBody 0 112 = true := by decide +kernel
theorem xo_r_X4_readBody : ∀ (pc : Nat) (r : xr_R), xcl xc_X4_readBody pc = some r → xr_b xmi_X4_readBody.1 (xm_ini xmi_X4_readBody) xmi_X4_readBody.2.2.1 pc r = true ∧ xr_c xM xmi_X4_readBody.1 r = true := xc_up_e (mi := xmi_X4_readBody) (cd := xc_X4_readBody) (N := 112) (xc_up_s (mi := xmi_X4_readBody) (cd := xc_X4_readBody) (lo := 0) (n := 112) xc_up_0 xo_c_X4_readBody_0) (by decide +kernel)
set_option maxRecDepth 20000 in
theorem xo_m_X4_takeNewName : xm_b xmi_X4_takeNewName (1, 3) (3, 18) (0, 2) = true := by decide +kernel
theorem xo_w_X4_takeNewName : Cond.code xmi_X4_takeNewName.2.1 xmi_X4_takeNewName.2.2.1 xmi_X4_takeNewName.2.2.2.1 xmi_X4_takeNewName.2.2.2.2.1 ∈ xG := xw_in2 (K := 3) (i := 19) rfl rfl
set_option maxRecDepth 20000 in
theorem xo_c_X4_takeNewName_0 : xc_b xmi_X4_takeNewName xc_X4_takeNewName 0 80 = true := by decide +kernel
theorem xo_r_X4_takeNewName : ∀ (pc : Nat) (r : xr_R), xcl xc_X4_takeNewName pc = some r → xr_b xmi_X4_takeNewName.1 (xm_ini xmi_X4_takeNewName) xmi_X4_takeNewName.2.2.1 pc r = true ∧ xr_c xM xmi_X4_takeNewName.1 r = true := xc_up_e (mi := xmi_X4_takeNewName) (cd := xc_X4_takeNewName) (N := 80) (xc_up_s (mi := xmi_X4_takeNewName) (cd := xc_X4_takeNewName) (lo := 0) (n := 80) xc_up_0 xo_c_X4_takeNewName_0) (by decide +kernel)
set_option maxRecDepth 20000 in
theorem xo_m_X4_toldName : xm_b xmi_X4_toldName (1, 3) (3, 36) (0, 4) = true := by decide +kernel
theorem xo_w_X4_toldName : Cond.code xmi_X4_toldName.2.1 xmi_X4_toldName.2.2.1 xmi_X4_toldName.2.2.2.1 xmi_X4_toldName.2.2.2.2.1 ∈ xG := xw_in2 (K := 3) (i := 37) rfl rfl
set_option maxRecDepth 20000 in
theorem xo_c_X4_toldName_0 : xc_b xmi_X4_toldName xc_X4_toldName 0 48 = true := by decide +kernel
theorem xo_r_X4_toldName : ∀ (pc : Nat) (r : xr_R), xcl xc_X4_toldName pc = some r → xr_b xmi_X4_toldName.1 (xm_ini xmi_X4_toldName) xmi_X4_toldName.2.2.1 pc r = true ∧ xr_c xM xmi_X4_toldName.1 r = true := xc_up_e (mi := xmi_X4_toldName) (cd := xc_X4_toldName) (N := 48) (xc_up_s (mi := xmi_X4_toldName) (cd := xc_X4_toldName) (lo := 0) (n := 48) xc_up_0 xo_c_X4_toldName_0) (by decide +kernel)
set_option maxRecDepth 20000 in
theorem xo_m_X4_readRule : xm_b xmi_X4_readRule (1, 3) (3, 48) (0, 6) = true := by decide +kernel
theorem xo_w_X4_readRule : Cond.code xmi_X4_readRule.2.1 xmi_X4_readRule.2.2.1 xmi_X4_readRule.2.2.2.1 xmi_X4_readRule.2.2.2.2.1 ∈ xG := xw_in2 (K := 3) (i := 49) rfl rfl
set_option maxRecDepth 20000 in
theorem xo_c_X4_readRule_0 : xc_b xmi_X4_readRule xc_X4_readRule 0 64 = true := by decide +kernel
theorem xo_r_X4_readRule : ∀ (pc : Nat) (r : xr_R), xcl xc_X4_readRule pc = some r → xr_b xmi_X4_readRule.1 (xm_ini xmi_X4_readRule) xmi_X4_readRule.2.2.1 pc r = true ∧ xr_c xM xmi_X4_readRule.1 r = true := xc_up_e (mi := xmi_X4_readRule) (cd := xc_X4_readRule) (N := 64) (xc_up_s (mi := xmi_X4_readRule) (cd := xc_X4_readRule) (lo := 0) (n := 64) xc_up_0 xo_c_X4_readRule_0) (by decide +kernel)
end XCK2
end
section
section XCK3
set_option maxRecDepth 20000 in
theorem xo_m_X4_readAll : xm_b xmi_X4_readAll (1, 3) (3, 52) (0, 7) = true := by decide +kernel
theorem xo_w_X4_readAll : Cond.code xmi_X4_readAll.2.1 xmi_X4_readAll.2.2.1 xmi_X4_readAll.2.2.2.1 xmi_X4_readAll.2.2.2.2.1 ∈ xG := xw_in2 (K := 3) (i := 53) rfl rfl
set_option maxRecDepth 20000 in
theorem xo_c_X4_readAll_0 : xc_b xmi_X4_readAll xc_X4_readAll 0 64 = true := by decide +kernel
theorem xo_r_X4_readAll : ∀ (pc : Nat) (r : xr_R), xcl xc_X4_readAll pc = some r → xr_b xmi_X4_readAll.1 (xm_ini xmi_X4_readAll) xmi_X4_readAll.2.2.1 pc r = true ∧ xr_c xM xmi_X4_readAll.1 r = true := xc_up_e (mi := xmi_X4_readAll) (cd := xc_X4_readAll) (N := 64) (xc_up_s (mi := xmi_X4_readAll) (cd := xc_X4_readAll) (lo := 0) (n := 64) xc_up_0 xo_c_X4_readAll_0) (by decide +kernel)
set_option maxRecDepth 20000 in
theorem xo_m_X4_readOne : xm_b xmi_X4_readOne (1, 3) (3, 56) (0, 8) = true := by decide +kernel
theorem xo_w_X4_readOne : Cond.code xmi_X4_readOne.2.1 xmi_X4_readOne.2.2.1 xmi_X4_readOne.2.2.2.1 xmi_X4_readOne.2.2.2.2.1 ∈ xG := xw_in2 (K := 3) (i := 57) rfl rfl
set_option maxRecDepth 20000 in
theorem xo_c_X4_readOne_0 : xc_b xmi_X4_readOne xc_X4_readOne 0 112 = true := by decide +kernel
set_option maxRecDepth 20000 in
theorem xo_c_X4_readOne_112 : xc_b xmi_X4_readOne xc_X4_readOne 112 48 = true := by decide +kernel
theorem xo_r_X4_readOne : ∀ (pc : Nat) (r : xr_R), xcl xc_X4_readOne pc = some r → xr_b xmi_X4_readOne.1 (xm_ini xmi_X4_readOne) xmi_X4_readOne.2.2.1 pc r = true ∧ xr_c xM xmi_X4_readOne.1 r = true := xc_up_e (mi := xmi_X4_readOne) (cd := xc_X4_readOne) (N := 160) (xc_up_s (mi := xmi_X4_readOne) (cd := xc_X4_readOne) (lo := 112) (n := 48) (xc_up_s (mi := xmi_X4_readOne) (cd := xc_X4_readOne) (lo := 0) (n := 112) xc_up_0 xo_c_X4_readOne_0) xo_c_X4_readOne_112) (by decide +kernel)
set_option maxRecDepth 20000 in
theorem xo_m_X4_noteMember : xm_b xmi_X4_noteMember (1, 3) (3, 89) (0, 14) = true := by decide +kernel
theorem xo_w_X4_noteMember : Cond.code xmi_X4_noteMember.2.1 xmi_X4_noteMember.2.2.1 xmi_X4_noteMember.2.2.2.1 xmi_X4_noteMember.2.2.2.2.1 ∈ xG := xw_in2 (K := 3) (i := 90) rfl rfl
set_option maxRecDepth 20000 in
theorem xo_c_X4_noteMember_0 : xc_b xmi_X4_noteMember xc_X4_noteMember 0 48 = true := by decide +kernel
theorem xo_r_X4_noteMember : ∀ (pc : Nat) (r : xr_R), xcl xc_X4_noteMember pc = some r → xr_b xmi_X4_noteMember.1 (xm_ini xmi_X4_noteMember) xmi_X4_noteMember.2.2.1 pc r = true ∧ xr_c xM xmi_X4_noteMember.1 r = true := xc_up_e (mi := xmi_X4_noteMember) (cd := xc_X4_noteMember) (N := 48) (xc_up_s (mi := xmi_X4_noteMember) (cd := xc_X4_noteMember) (lo := 0) (n := 48) xc_up_0 xo_c_X4_noteMember_0) (by decide +kernel)
set_option maxRecDepth 20000 in
theorem xo_m_X4_noteName : xm_b xmi_X4_noteName (1, 3) (3, 97) (0, 15) = true := by decide +kernel
theorem xo_w_X4_noteName : Cond.code xmi_X4_noteName.2.1 xmi_X4_noteName.2.2.1 xmi_X4_noteName.2.2.2.1 xmi_X4_noteName.2.2.2.2.1 ∈ xG := xw_in2 (K := 3) (i := 98) rfl rfl
set_option maxRecDepth 20000 in
theorem xo_c_X4_noteName_0 : xc_b xmi_X4_noteName xc_X4_noteName 0 64 = true := by decide +kernel
theorem xo_r_X4_noteName : ∀ (pc : Nat) (r : xr_R), xcl xc_X4_noteName pc = some r → xr_b xmi_X4_noteName.1 (xm_ini xmi_X4_noteName) xmi_X4_noteName.2.2.1 pc r = true ∧ xr_c xM xmi_X4_noteName.1 r = true := xc_up_e (mi := xmi_X4_noteName) (cd := xc_X4_noteName) (N := 64) (xc_up_s (mi := xmi_X4_noteName) (cd := xc_X4_noteName) (lo := 0) (n := 64) xc_up_0 xo_c_X4_noteName_0) (by decide +kernel)
set_option maxRecDepth 20000 in
theorem xo_m_X4_countOne : xm_b xmi_X4_countOne (1, 3) (3, 64) (0, 10) = true := by decide +kernel
theorem xo_w_X4_countOne : Cond.code xmi_X4_countOne.2.1 xmi_X4_countOne.2.2.1 xmi_X4_countOne.2.2.2.1 xmi_X4_countOne.2.2.2.2.1 ∈ xG := xw_in2 (K := 3) (i := 65) rfl rfl
set_option maxRecDepth 20000 in
theorem xo_c_X4_countOne_0 : xc_b xmi_X4_countOne xc_X4_countOne 0 48 = true := by decide +kernel
theorem xo_r_X4_countOne : ∀ (pc : Nat) (r : xr_R), xcl xc_X4_countOne pc = some r → xr_b xmi_X4_countOne.1 (xm_ini xmi_X4_countOne) xmi_X4_countOne.2.2.1 pc r = true ∧ xr_c xM xmi_X4_countOne.1 r = true := xc_up_e (mi := xmi_X4_countOne) (cd := xc_X4_countOne) (N := 48) (xc_up_s (mi := xmi_X4_countOne) (cd := xc_X4_countOne) (lo := 0) (n := 48) xc_up_0 xo_c_X4_countOne_0) (by decide +kernel)
set_option maxRecDepth 20000 in
theorem xo_m_X4_readQuota : xm_b xmi_X4_readQuota (1, 3) (3, 60) (0, 9) = true := by decide +kernel
theorem xo_w_X4_readQuota : Cond.code xmi_X4_readQuota.2.1 xmi_X4_readQuota.2.2.1 xmi_X4_readQuota.2.2.2.1 xmi_X4_readQuota.2.2.2.2.1 ∈ xG := xw_in2 (K := 3) (i := 61) rfl rfl
set_option maxRecDepth 20000 in
theorem xo_c_X4_readQuota_0 : xc_b xmi_X4_readQuota xc_X4_readQuota 0 112 = true := by decide +kernel
set_option maxRecDepth 20000 in
theorem xo_c_X4_readQuota_112 : xc_b xmi_X4_readQuota xc_X4_readQuota 112 32 = true := by decide +kernel
theorem xo_r_X4_readQuota : ∀ (pc : Nat) (r : xr_R), xcl xc_X4_readQuota pc = some r → xr_b xmi_X4_readQuota.1 (xm_ini xmi_X4_readQuota) xmi_X4_readQuota.2.2.1 pc r = true ∧ xr_c xM xmi_X4_readQuota.1 r = true := xc_up_e (mi := xmi_X4_readQuota) (cd := xc_X4_readQuota) (N := 144) (xc_up_s (mi := xmi_X4_readQuota) (cd := xc_X4_readQuota) (lo := 112) (n := 32) (xc_up_s (mi := xmi_X4_readQuota) (cd := xc_X4_readQuota) (lo := 0) (n := 112) xc_up_0 xo_c_X4_readQuota_0) xo_c_X4_readQuota_112) (by decide +kernel)
set_option maxRecDepth 20000 in
theorem xo_m_X4_readItem : xm_b xmi_X4_readItem (1, 3) (3, 81) (0, 13) = true := by decide +kernel
theorem xo_w_X4_readItem : Cond.code xmi_X4_readItem.2.1 xmi_X4_readItem.2.2.1 xmi_X4_readItem.2.2.2.1 xmi_X4_readItem.2.2.2.2.1 ∈ xG := xw_in2 (K := 3) (i := 82) rfl rfl
set_option maxRecDepth 20000 in
theorem xo_c_X4_readItem_0 : xc_b xmi_X4_readItem xc_X4_readItem 0 112 = true := by decide +kernel
set_option maxRecDepth 20000 in
theorem xo_c_X4_readItem_112 : xc_b xmi_X4_readItem xc_X4_readItem 112 16 = true := by decide +kernel
theorem xo_r_X4_readItem : ∀ (pc : Nat) (r : xr_R), xcl xc_X4_readItem pc = some r → xr_b xmi_X4_readItem.1 (xm_ini xmi_X4_readItem) xmi_X4_readItem.2.2.1 pc r = true ∧ xr_c xM xmi_X4_readItem.1 r = true := xc_up_e (mi := xmi_X4_readItem) (cd := xc_X4_readItem) (N := 128) (xc_up_s (mi := xmi_X4_readItem) (cd := xc_X4_readItem) (lo := 112) (n := 16) (xc_up_s (mi := xmi_X4_readItem) (cd := xc_X4_readItem) (lo := 0) (n := 112) xc_up_0 xo_c_X4_readItem_0) xo_c_X4_readItem_112) (by decide +kernel)
set_option maxRecDepth 20000 in
theorem xo_m_X5_init : xm_b xmi_X5_init (1, 8) (1, 218) (99, 0) = true := by decide +kernel
theorem xo_w_X5_init : Cond.code xmi_X5_init.2.1 xmi_X5_init.2.2.1 xmi_X5_init.2.2.2.1 xmi_X5_init.2.2.2.2.1 ∈ xG := xw_in2 (K := 1) (i := 219) rfl rfl
set_option maxRecDepth 20000 in
theorem xo_c_X5_init_0 : xc_b xmi_X5_init xc_X5_init 0 112 = true := by decide +kernel
theorem xo_r_X5_init : ∀ (pc : Nat) (r : xr_R), xcl xc_X5_init pc = some r → xr_b xmi_X5_init.1 (xm_ini xmi_X5_init) xmi_X5_init.2.2.1 pc r = true ∧ xr_c xM xmi_X5_init.1 r = true := xc_up_e (mi := xmi_X5_init) (cd := xc_X5_init) (N := 112) (xc_up_s (mi := xmi_X5_init) (cd := xc_X5_init) (lo := 0) (n := 112) xc_up_0 xo_c_X5_init_0) (by decide +kernel)
set_option maxRecDepth 20000 in
theorem xo_m_X5_look : xm_b xmi_X5_look (1, 8) (4, 37) (4, 38) = true := by decide +kernel
theorem xo_w_X5_look : Cond.code xmi_X5_look.2.1 xmi_X5_look.2.2.1 xmi_X5_look.2.2.2.1 xmi_X5_look.2.2.2.2.1 ∈ xG := xw_in2 (K := 4) (i := 39) rfl rfl
set_option maxRecDepth 20000 in
theorem xo_c_X5_look_0 : xc_b xmi_X5_look xc_X5_look 0 64 = true := by decide +kernel
theorem xo_r_X5_look : ∀ (pc : Nat) (r : xr_R), xcl xc_X5_look pc = some r → xr_b xmi_X5_look.1 (xm_ini xmi_X5_look) xmi_X5_look.2.2.1 pc r = true ∧ xr_c xM xmi_X5_look.1 r = true := xc_up_e (mi := xmi_X5_look) (cd := xc_X5_look) (N := 64) (xc_up_s (mi := xmi_X5_look) (cd := xc_X5_look) (lo := 0) (n := 64) xc_up_0 xo_c_X5_look_0) (by decide +kernel)
set_option maxRecDepth 20000 in
theorem xo_m_X5_search : xm_b xmi_X5_search (1, 8) (4, 43) (0, 34) = true := by decide +kernel
theorem xo_w_X5_search : Cond.code xmi_X5_search.2.1 xmi_X5_search.2.2.1 xmi_X5_search.2.2.2.1 xmi_X5_search.2.2.2.2.1 ∈ xG := xw_in2 (K := 4) (i := 44) rfl rfl
set_option maxRecDepth 20000 in
theorem xo_c_X5_search_0 : xc_b xmi_X5_search xc_X5_search 0 112 = true := by decide +kernel
set_option maxRecDepth 20000 in
theorem xo_c_X5_search_112 : xc_b xmi_X5_search xc_X5_search 112 32 = true := by decide +kernel
theorem xo_r_X5_search : ∀ (pc : Nat) (r : xr_R), xcl xc_X5_search pc = some r → xr_b xmi_X5_search.1 (xm_ini xmi_X5_search) xmi_X5_search.2.2.1 pc r = true ∧ xr_c xM xmi_X5_search.1 r = true := xc_up_e (mi := xmi_X5_search) (cd := xc_X5_search) (N := 144) (xc_up_s (mi := xmi_X5_search) (cd := xc_X5_search) (lo := 112) (n := 32) (xc_up_s (mi := xmi_X5_search) (cd := xc_X5_search) (lo := 0) (n := 112) xc_up_0 xo_c_X5_search_0) xo_c_X5_search_112) (by decide +kernel)
set_option maxRecDepth 20000 in
theorem xo_m_X5_findClasses : xm_b xmi_X5_findClasses (1, 8) (4, 48) (0, 35) = true := by decide +kernel
theorem xo_w_X5_findClasses : Cond.code xmi_X5_findClasses.2.1 xmi_X5_findClasses.2.2.1 xmi_X5_findClasses.2.2.2.1 xmi_X5_findClasses.2.2.2.2.1 ∈ xG := xw_in2 (K := 4) (i := 49) rfl rfl
set_option maxRecDepth 20000 in
theorem xo_c_X5_findClasses_0 : xc_b xmi_X5_findClasses xc_X5_findClasses 0 112 = true := by decide +kernel
set_option maxRecDepth 20000 in
theorem xo_c_X5_findClasses_112 : xc_b xmi_X5_findClasses xc_X5_findClasses 112 16 = true := by decide +kernel
theorem xo_r_X5_findClasses : ∀ (pc : Nat) (r : xr_R), xcl xc_X5_findClasses pc = some r → xr_b xmi_X5_findClasses.1 (xm_ini xmi_X5_findClasses) xmi_X5_findClasses.2.2.1 pc r = true ∧ xr_c xM xmi_X5_findClasses.1 r = true := xc_up_e (mi := xmi_X5_findClasses) (cd := xc_X5_findClasses) (N := 128) (xc_up_s (mi := xmi_X5_findClasses) (cd := xc_X5_findClasses) (lo := 112) (n := 16) (xc_up_s (mi := xmi_X5_findClasses) (cd := xc_X5_findClasses) (lo := 0) (n := 112) xc_up_0 xo_c_X5_findClasses_0) xo_c_X5_findClasses_112) (by decide +kernel)
set_option maxRecDepth 20000 in
theorem xo_m_X5_isFirst : xm_b xmi_X5_isFirst (1, 8) (4, 52) (0, 36) = true := by decide +kernel
theorem xo_w_X5_isFirst : Cond.code xmi_X5_isFirst.2.1 xmi_X5_isFirst.2.2.1 xmi_X5_isFirst.2.2.2.1 xmi_X5_isFirst.2.2.2.2.1 ∈ xG := xw_in2 (K := 4) (i := 53) rfl rfl
set_option maxRecDepth 20000 in
theorem xo_c_X5_isFirst_0 : xc_b xmi_X5_isFirst xc_X5_isFirst 0 32 = true := by decide +kernel
theorem xo_r_X5_isFirst : ∀ (pc : Nat) (r : xr_R), xcl xc_X5_isFirst pc = some r → xr_b xmi_X5_isFirst.1 (xm_ini xmi_X5_isFirst) xmi_X5_isFirst.2.2.1 pc r = true ∧ xr_c xM xmi_X5_isFirst.1 r = true := xc_up_e (mi := xmi_X5_isFirst) (cd := xc_X5_isFirst) (N := 32) (xc_up_s (mi := xmi_X5_isFirst) (cd := xc_X5_isFirst) (lo := 0) (n := 32) xc_up_0 xo_c_X5_isFirst_0) (by decide +kernel)
set_option maxRecDepth 20000 in
theorem xo_m_X5_strengthOf : xm_b xmi_X5_strengthOf (1, 8) (4, 57) (0, 37) = true := by decide +kernel
theorem xo_w_X5_strengthOf : Cond.code xmi_X5_strengthOf.2.1 xmi_X5_strengthOf.2.2.1 xmi_X5_strengthOf.2.2.2.1 xmi_X5_strengthOf.2.2.2.2.1 ∈ xG := xw_in2 (K := 4) (i := 58) rfl rfl
set_option maxRecDepth 20000 in
theorem xo_c_X5_strengthOf_0 : xc_b xmi_X5_strengthOf xc_X5_strengthOf 0 48 = true := by decide +kernel
theorem xo_r_X5_strengthOf : ∀ (pc : Nat) (r : xr_R), xcl xc_X5_strengthOf pc = some r → xr_b xmi_X5_strengthOf.1 (xm_ini xmi_X5_strengthOf) xmi_X5_strengthOf.2.2.1 pc r = true ∧ xr_c xM xmi_X5_strengthOf.1 r = true := xc_up_e (mi := xmi_X5_strengthOf) (cd := xc_X5_strengthOf) (N := 48) (xc_up_s (mi := xmi_X5_strengthOf) (cd := xc_X5_strengthOf) (lo := 0) (n := 48) xc_up_0 xo_c_X5_strengthOf_0) (by decide +kernel)
set_option maxRecDepth 20000 in
theorem xo_m_X5_place : xm_b xmi_X5_place (1, 8) (4, 61) (0, 38) = true := by decide +kernel
theorem xo_w_X5_place : Cond.code xmi_X5_place.2.1 xmi_X5_place.2.2.1 xmi_X5_place.2.2.2.1 xmi_X5_place.2.2.2.2.1 ∈ xG := xw_in2 (K := 4) (i := 62) rfl rfl
set_option maxRecDepth 20000 in
theorem xo_c_X5_place_0 : xc_b xmi_X5_place xc_X5_place 0 112 = true := by decide +kernel
set_option maxRecDepth 20000 in
theorem xo_c_X5_place_112 : xc_b xmi_X5_place xc_X5_place 112 16 = true := by decide +kernel
theorem xo_r_X5_place : ∀ (pc : Nat) (r : xr_R), xcl xc_X5_place pc = some r → xr_b xmi_X5_place.1 (xm_ini xmi_X5_place) xmi_X5_place.2.2.1 pc r = true ∧ xr_c xM xmi_X5_place.1 r = true := xc_up_e (mi := xmi_X5_place) (cd := xc_X5_place) (N := 128) (xc_up_s (mi := xmi_X5_place) (cd := xc_X5_place) (lo := 112) (n := 16) (xc_up_s (mi := xmi_X5_place) (cd := xc_X5_place) (lo := 0) (n := 112) xc_up_0 xo_c_X5_place_0) xo_c_X5_place_112) (by decide +kernel)
set_option maxRecDepth 20000 in
theorem xo_m_X5_lowest : xm_b xmi_X5_lowest (1, 8) (4, 85) (0, 44) = true := by decide +kernel
theorem xo_w_X5_lowest : Cond.code xmi_X5_lowest.2.1 xmi_X5_lowest.2.2.1 xmi_X5_lowest.2.2.2.1 xmi_X5_lowest.2.2.2.2.1 ∈ xG := xw_in2 (K := 4) (i := 86) rfl rfl
set_option maxRecDepth 20000 in
theorem xo_c_X5_lowest_0 : xc_b xmi_X5_lowest xc_X5_lowest 0 48 = true := by decide +kernel
theorem xo_r_X5_lowest : ∀ (pc : Nat) (r : xr_R), xcl xc_X5_lowest pc = some r → xr_b xmi_X5_lowest.1 (xm_ini xmi_X5_lowest) xmi_X5_lowest.2.2.1 pc r = true ∧ xr_c xM xmi_X5_lowest.1 r = true := xc_up_e (mi := xmi_X5_lowest) (cd := xc_X5_lowest) (N := 48) (xc_up_s (mi := xmi_X5_lowest) (cd := xc_X5_lowest) (lo := 0) (n := 48) xc_up_0 xo_c_X5_lowest_0) (by decide +kernel)
set_option maxRecDepth 20000 in
theorem xo_m_X5_highest : xm_b xmi_X5_highest (1, 8) (4, 89) (0, 45) = true := by decide +kernel
theorem xo_w_X5_highest : Cond.code xmi_X5_highest.2.1 xmi_X5_highest.2.2.1 xmi_X5_highest.2.2.2.1 xmi_X5_highest.2.2.2.2.1 ∈ xG := xw_in2 (K := 4) (i := 90) rfl rfl
set_option maxRecDepth 20000 in
theorem xo_c_X5_highest_0 : xc_b xmi_X5_highest xc_X5_highest 0 48 = true := by decide +kernel
theorem xo_r_X5_highest : ∀ (pc : Nat) (r : xr_R), xcl xc_X5_highest pc = some r → xr_b xmi_X5_highest.1 (xm_ini xmi_X5_highest) xmi_X5_highest.2.2.1 pc r = true ∧ xr_c xM xmi_X5_highest.1 r = true := xc_up_e (mi := xmi_X5_highest) (cd := xc_X5_highest) (N := 48) (xc_up_s (mi := xmi_X5_highest) (cd := xc_X5_highest) (lo := 0) (n := 48) xc_up_0 xo_c_X5_highest_0) (by decide +kernel)
set_option maxRecDepth 20000 in
theorem xo_m_X5_leastRest : xm_b xmi_X5_leastRest (1, 8) (4, 93) (0, 46) = true := by decide +kernel
theorem xo_w_X5_leastRest : Cond.code xmi_X5_leastRest.2.1 xmi_X5_leastRest.2.2.1 xmi_X5_leastRest.2.2.2.1 xmi_X5_leastRest.2.2.2.2.1 ∈ xG := xw_in2 (K := 4) (i := 94) rfl rfl
set_option maxRecDepth 20000 in
theorem xo_c_X5_leastRest_0 : xc_b xmi_X5_leastRest xc_X5_leastRest 0 64 = true := by decide +kernel
theorem xo_r_X5_leastRest : ∀ (pc : Nat) (r : xr_R), xcl xc_X5_leastRest pc = some r → xr_b xmi_X5_leastRest.1 (xm_ini xmi_X5_leastRest) xmi_X5_leastRest.2.2.1 pc r = true ∧ xr_c xM xmi_X5_leastRest.1 r = true := xc_up_e (mi := xmi_X5_leastRest) (cd := xc_X5_leastRest) (N := 64) (xc_up_s (mi := xmi_X5_leastRest) (cd := xc_X5_leastRest) (lo := 0) (n := 64) xc_up_0 xo_c_X5_leastRest_0) (by decide +kernel)
set_option maxRecDepth 20000 in
theorem xo_m_X5_mostRest : xm_b xmi_X5_mostRest (1, 8) (4, 97) (0, 47) = true := by decide +kernel
theorem xo_w_X5_mostRest : Cond.code xmi_X5_mostRest.2.1 xmi_X5_mostRest.2.2.1 xmi_X5_mostRest.2.2.2.1 xmi_X5_mostRest.2.2.2.2.1 ∈ xG := xw_in2 (K := 4) (i := 98) rfl rfl
set_option maxRecDepth 20000 in
theorem xo_c_X5_mostRest_0 : xc_b xmi_X5_mostRest xc_X5_mostRest 0 80 = true := by decide +kernel
theorem xo_r_X5_mostRest : ∀ (pc : Nat) (r : xr_R), xcl xc_X5_mostRest pc = some r → xr_b xmi_X5_mostRest.1 (xm_ini xmi_X5_mostRest) xmi_X5_mostRest.2.2.1 pc r = true ∧ xr_c xM xmi_X5_mostRest.1 r = true := xc_up_e (mi := xmi_X5_mostRest) (cd := xc_X5_mostRest) (N := 80) (xc_up_s (mi := xmi_X5_mostRest) (cd := xc_X5_mostRest) (lo := 0) (n := 80) xc_up_0 xo_c_X5_mostRest_0) (by decide +kernel)
set_option maxRecDepth 20000 in
theorem xo_m_X5_tryRow : xm_b xmi_X5_tryRow (1, 8) (4, 65) (0, 39) = true := by decide +kernel
theorem xo_w_X5_tryRow : Cond.code xmi_X5_tryRow.2.1 xmi_X5_tryRow.2.2.1 xmi_X5_tryRow.2.2.2.1 xmi_X5_tryRow.2.2.2.2.1 ∈ xG := xw_in2 (K := 4) (i := 66) rfl rfl
set_option maxRecDepth 20000 in
theorem xo_c_X5_tryRow_0 : xc_b xmi_X5_tryRow xc_X5_tryRow 0 96 = true := by decide +kernel
theorem xo_r_X5_tryRow : ∀ (pc : Nat) (r : xr_R), xcl xc_X5_tryRow pc = some r → xr_b xmi_X5_tryRow.1 (xm_ini xmi_X5_tryRow) xmi_X5_tryRow.2.2.1 pc r = true ∧ xr_c xM xmi_X5_tryRow.1 r = true := xc_up_e (mi := xmi_X5_tryRow) (cd := xc_X5_tryRow) (N := 96) (xc_up_s (mi := xmi_X5_tryRow) (cd := xc_X5_tryRow) (lo := 0) (n := 96) xc_up_0 xo_c_X5_tryRow_0) (by decide +kernel)
set_option maxRecDepth 20000 in
theorem xo_m_X5_doesTheSame : xm_b xmi_X5_doesTheSame (1, 8) (4, 69) (0, 40) = true := by decide +kernel
theorem xo_w_X5_doesTheSame : Cond.code xmi_X5_doesTheSame.2.1 xmi_X5_doesTheSame.2.2.1 xmi_X5_doesTheSame.2.2.2.1 xmi_X5_doesTheSame.2.2.2.2.1 ∈ xG := xw_in2 (K := 4) (i := 70) rfl rfl
set_option maxRecDepth 20000 in
theorem xo_c_X5_doesTheSame_0 : xc_b xmi_X5_doesTheSame xc_X5_doesTheSame 0 112 = true := by decide +kernel
theorem xo_r_X5_doesTheSame : ∀ (pc : Nat) (r : xr_R), xcl xc_X5_doesTheSame pc = some r → xr_b xmi_X5_doesTheSame.1 (xm_ini xmi_X5_doesTheSame) xmi_X5_doesTheSame.2.2.1 pc r = true ∧ xr_c xM xmi_X5_doesTheSame.1 r = true := xc_up_e (mi := xmi_X5_doesTheSame) (cd := xc_X5_doesTheSame) (N := 112) (xc_up_s (mi := xmi_X5_doesTheSame) (cd := xc_X5_doesTheSame) (lo := 0) (n := 112) xc_up_0 xo_c_X5_doesTheSame_0) (by decide +kernel)
set_option maxRecDepth 20000 in
theorem xo_m_X5_lightest : xm_b xmi_X5_lightest (1, 8) (4, 77) (0, 42) = true := by decide +kernel
theorem xo_w_X5_lightest : Cond.code xmi_X5_lightest.2.1 xmi_X5_lightest.2.2.1 xmi_X5_lightest.2.2.2.1 xmi_X5_lightest.2.2.2.2.1 ∈ xG := xw_in2 (K := 4) (i := 78) rfl rfl
set_option maxRecDepth 20000 in
theorem xo_c_X5_lightest_0 : xc_b xmi_X5_lightest xc_X5_lightest 0 64 = true := by decide +kernel
theorem xo_r_X5_lightest : ∀ (pc : Nat) (r : xr_R), xcl xc_X5_lightest pc = some r → xr_b xmi_X5_lightest.1 (xm_ini xmi_X5_lightest) xmi_X5_lightest.2.2.1 pc r = true ∧ xr_c xM xmi_X5_lightest.1 r = true := xc_up_e (mi := xmi_X5_lightest) (cd := xc_X5_lightest) (N := 64) (xc_up_s (mi := xmi_X5_lightest) (cd := xc_X5_lightest) (lo := 0) (n := 64) xc_up_0 xo_c_X5_lightest_0) (by decide +kernel)
set_option maxRecDepth 20000 in
theorem xo_m_X5_weightOf : xm_b xmi_X5_weightOf (1, 8) (4, 73) (0, 41) = true := by decide +kernel
theorem xo_w_X5_weightOf : Cond.code xmi_X5_weightOf.2.1 xmi_X5_weightOf.2.2.1 xmi_X5_weightOf.2.2.2.1 xmi_X5_weightOf.2.2.2.2.1 ∈ xG := xw_in2 (K := 4) (i := 74) rfl rfl
set_option maxRecDepth 20000 in
theorem xo_c_X5_weightOf_0 : xc_b xmi_X5_weightOf xc_X5_weightOf 0 48 = true := by decide +kernel
theorem xo_r_X5_weightOf : ∀ (pc : Nat) (r : xr_R), xcl xc_X5_weightOf pc = some r → xr_b xmi_X5_weightOf.1 (xm_ini xmi_X5_weightOf) xmi_X5_weightOf.2.2.1 pc r = true ∧ xr_c xM xmi_X5_weightOf.1 r = true := xc_up_e (mi := xmi_X5_weightOf) (cd := xc_X5_weightOf) (N := 48) (xc_up_s (mi := xmi_X5_weightOf) (cd := xc_X5_weightOf) (lo := 0) (n := 48) xc_up_0 xo_c_X5_weightOf_0) (by decide +kernel)
set_option maxRecDepth 20000 in
theorem xo_m_X5_tell : xm_b xmi_X5_tell (1, 8) (4, 81) (0, 43) = true := by decide +kernel
theorem xo_w_X5_tell : Cond.code xmi_X5_tell.2.1 xmi_X5_tell.2.2.1 xmi_X5_tell.2.2.2.1 xmi_X5_tell.2.2.2.2.1 ∈ xG := xw_in2 (K := 4) (i := 82) rfl rfl
set_option maxRecDepth 20000 in
theorem xo_c_X5_tell_0 : xc_b xmi_X5_tell xc_X5_tell 0 64 = true := by decide +kernel
theorem xo_r_X5_tell : ∀ (pc : Nat) (r : xr_R), xcl xc_X5_tell pc = some r → xr_b xmi_X5_tell.1 (xm_ini xmi_X5_tell) xmi_X5_tell.2.2.1 pc r = true ∧ xr_c xM xmi_X5_tell.1 r = true := xc_up_e (mi := xmi_X5_tell) (cd := xc_X5_tell) (N := 64) (xc_up_s (mi := xmi_X5_tell) (cd := xc_X5_tell) (lo := 0) (n := 64) xc_up_0 xo_c_X5_tell_0) (by decide +kernel)
set_option maxRecDepth 20000 in
theorem xo_m_X6_init : xm_b xmi_X6_init (1, 5) (1, 76) (99, 0) = true := by decide +kernel
theorem xo_w_X6_init : Cond.code xmi_X6_init.2.1 xmi_X6_init.2.2.1 xmi_X6_init.2.2.2.1 xmi_X6_init.2.2.2.2.1 ∈ xG := xw_in2 (K := 1) (i := 77) rfl rfl
set_option maxRecDepth 20000 in
theorem xo_c_X6_init_0 : xc_b xmi_X6_init xc_X6_init 0 16 = true := by decide +kernel
theorem xo_r_X6_init : ∀ (pc : Nat) (r : xr_R), xcl xc_X6_init pc = some r → xr_b xmi_X6_init.1 (xm_ini xmi_X6_init) xmi_X6_init.2.2.1 pc r = true ∧ xr_c xM xmi_X6_init.1 r = true := xc_up_e (mi := xmi_X6_init) (cd := xc_X6_init) (N := 16) (xc_up_s (mi := xmi_X6_init) (cd := xc_X6_init) (lo := 0) (n := 16) xc_up_0 xo_c_X6_init_0) (by decide +kernel)
set_option maxRecDepth 20000 in
theorem xo_m_X6_begin : xm_b xmi_X6_begin (1, 5) (2, 168) (2, 169) = true := by decide +kernel
theorem xo_w_X6_begin : Cond.code xmi_X6_begin.2.1 xmi_X6_begin.2.2.1 xmi_X6_begin.2.2.2.1 xmi_X6_begin.2.2.2.2.1 ∈ xG := xw_in2 (K := 2) (i := 170) rfl rfl
set_option maxRecDepth 20000 in
theorem xo_c_X6_begin_0 : xc_b xmi_X6_begin xc_X6_begin 0 32 = true := by decide +kernel
theorem xo_r_X6_begin : ∀ (pc : Nat) (r : xr_R), xcl xc_X6_begin pc = some r → xr_b xmi_X6_begin.1 (xm_ini xmi_X6_begin) xmi_X6_begin.2.2.1 pc r = true ∧ xr_c xM xmi_X6_begin.1 r = true := xc_up_e (mi := xmi_X6_begin) (cd := xc_X6_begin) (N := 32) (xc_up_s (mi := xmi_X6_begin) (cd := xc_X6_begin) (lo := 0) (n := 32) xc_up_0 xo_c_X6_begin_0) (by decide +kernel)
set_option maxRecDepth 20000 in
theorem xo_m_X6_isCut : xm_b xmi_X6_isCut (1, 5) (3, 107) (3, 108) = true := by decide +kernel
theorem xo_w_X6_isCut : Cond.code xmi_X6_isCut.2.1 xmi_X6_isCut.2.2.1 xmi_X6_isCut.2.2.2.1 xmi_X6_isCut.2.2.2.2.1 ∈ xG := xw_in2 (K := 3) (i := 109) rfl rfl
set_option maxRecDepth 20000 in
theorem xo_c_X6_isCut_0 : xc_b xmi_X6_isCut xc_X6_isCut 0 32 = true := by decide +kernel
theorem xo_r_X6_isCut : ∀ (pc : Nat) (r : xr_R), xcl xc_X6_isCut pc = some r → xr_b xmi_X6_isCut.1 (xm_ini xmi_X6_isCut) xmi_X6_isCut.2.2.1 pc r = true ∧ xr_c xM xmi_X6_isCut.1 r = true := xc_up_e (mi := xmi_X6_isCut) (cd := xc_X6_isCut) (N := 32) (xc_up_s (mi := xmi_X6_isCut) (cd := xc_X6_isCut) (lo := 0) (n := 32) xc_up_0 xo_c_X6_isCut_0) (by decide +kernel)
set_option maxRecDepth 20000 in
theorem xo_m_X6_advance : xm_b xmi_X6_advance (1, 5) (2, 175) (2, 176) = true := by decide +kernel
theorem xo_w_X6_advance : Cond.code xmi_X6_advance.2.1 xmi_X6_advance.2.2.1 xmi_X6_advance.2.2.2.1 xmi_X6_advance.2.2.2.2.1 ∈ xG := xw_in2 (K := 2) (i := 177) rfl rfl
set_option maxRecDepth 20000 in
theorem xo_c_X6_advance_0 : xc_b xmi_X6_advance xc_X6_advance 0 112 = true := by decide +kernel
set_option maxRecDepth 20000 in
theorem xo_c_X6_advance_112 : xc_b xmi_X6_advance xc_X6_advance 112 64 = true := by decide +kernel
theorem xo_r_X6_advance : ∀ (pc : Nat) (r : xr_R), xcl xc_X6_advance pc = some r → xr_b xmi_X6_advance.1 (xm_ini xmi_X6_advance) xmi_X6_advance.2.2.1 pc r = true ∧ xr_c xM xmi_X6_advance.1 r = true := xc_up_e (mi := xmi_X6_advance) (cd := xc_X6_advance) (N := 176) (xc_up_s (mi := xmi_X6_advance) (cd := xc_X6_advance) (lo := 112) (n := 64) (xc_up_s (mi := xmi_X6_advance) (cd := xc_X6_advance) (lo := 0) (n := 112) xc_up_0 xo_c_X6_advance_0) xo_c_X6_advance_112) (by decide +kernel)
end XCK3
end
section
section XCK4
set_option maxRecDepth 20000 in
theorem xo_m_X6_takeRun : xm_b xmi_X6_takeRun (1, 5) (2, 193) (0, 0) = true := by decide +kernel
theorem xo_w_X6_takeRun : Cond.code xmi_X6_takeRun.2.1 xmi_X6_takeRun.2.2.1 xmi_X6_takeRun.2.2.2.1 xmi_X6_takeRun.2.2.2.2.1 ∈ xG := xw_in2 (K := 2) (i := 194) rfl rfl
set_option maxRecDepth 20000 in
theorem xo_c_X6_takeRun_0 : xc_b xmi_X6_takeRun xc_X6_takeRun 0 112 = true := by decide +kernel
set_option maxRecDepth 20000 in
theorem xo_c_X6_takeRun_112 : xc_b xmi_X6_takeRun xc_X6_takeRun 112 32 = true := by decide +kernel
theorem xo_r_X6_takeRun : ∀ (pc : Nat) (r : xr_R), xcl xc_X6_takeRun pc = some r → xr_b xmi_X6_takeRun.1 (xm_ini xmi_X6_takeRun) xmi_X6_takeRun.2.2.1 pc r = true ∧ xr_c xM xmi_X6_takeRun.1 r = true := xc_up_e (mi := xmi_X6_takeRun) (cd := xc_X6_takeRun) (N := 144) (xc_up_s (mi := xmi_X6_takeRun) (cd := xc_X6_takeRun) (lo := 112) (n := 32) (xc_up_s (mi := xmi_X6_takeRun) (cd := xc_X6_takeRun) (lo := 0) (n := 112) xc_up_0 xo_c_X6_takeRun_0) xo_c_X6_takeRun_112) (by decide +kernel)
set_option maxRecDepth 20000 in
theorem xo_m_X6_isWord : xm_b xmi_X6_isWord (1, 5) (2, 200) (2, 201) = true := by decide +kernel
theorem xo_w_X6_isWord : Cond.code xmi_X6_isWord.2.1 xmi_X6_isWord.2.2.1 xmi_X6_isWord.2.2.2.1 xmi_X6_isWord.2.2.2.2.1 ∈ xG := xw_in2 (K := 2) (i := 202) rfl rfl
set_option maxRecDepth 20000 in
theorem xo_c_X6_isWord_0 : xc_b xmi_X6_isWord xc_X6_isWord 0 80 = true := by decide +kernel
theorem xo_r_X6_isWord : ∀ (pc : Nat) (r : xr_R), xcl xc_X6_isWord pc = some r → xr_b xmi_X6_isWord.1 (xm_ini xmi_X6_isWord) xmi_X6_isWord.2.2.1 pc r = true ∧ xr_c xM xmi_X6_isWord.1 r = true := xc_up_e (mi := xmi_X6_isWord) (cd := xc_X6_isWord) (N := 80) (xc_up_s (mi := xmi_X6_isWord) (cd := xc_X6_isWord) (lo := 0) (n := 80) xc_up_0 xo_c_X6_isWord_0) (by decide +kernel)
set_option maxRecDepth 20000 in
theorem xo_m_X6_isName : xm_b xmi_X6_isName (1, 5) (3, 21) (3, 22) = true := by decide +kernel
theorem xo_w_X6_isName : Cond.code xmi_X6_isName.2.1 xmi_X6_isName.2.2.1 xmi_X6_isName.2.2.2.1 xmi_X6_isName.2.2.2.2.1 ∈ xG := xw_in2 (K := 3) (i := 23) rfl rfl
set_option maxRecDepth 20000 in
theorem xo_c_X6_isName_0 : xc_b xmi_X6_isName xc_X6_isName 0 96 = true := by decide +kernel
theorem xo_r_X6_isName : ∀ (pc : Nat) (r : xr_R), xcl xc_X6_isName pc = some r → xr_b xmi_X6_isName.1 (xm_ini xmi_X6_isName) xmi_X6_isName.2.2.1 pc r = true ∧ xr_c xM xmi_X6_isName.1 r = true := xc_up_e (mi := xmi_X6_isName) (cd := xc_X6_isName) (N := 96) (xc_up_s (mi := xmi_X6_isName) (cd := xc_X6_isName) (lo := 0) (n := 96) xc_up_0 xo_c_X6_isName_0) (by decide +kernel)
set_option maxRecDepth 20000 in
theorem xo_m_X6_isLone : xm_b xmi_X6_isLone (1, 5) (3, 84) (3, 85) = true := by decide +kernel
theorem xo_w_X6_isLone : Cond.code xmi_X6_isLone.2.1 xmi_X6_isLone.2.2.1 xmi_X6_isLone.2.2.2.1 xmi_X6_isLone.2.2.2.2.1 ∈ xG := xw_in2 (K := 3) (i := 86) rfl rfl
set_option maxRecDepth 20000 in
theorem xo_c_X6_isLone_0 : xc_b xmi_X6_isLone xc_X6_isLone 0 32 = true := by decide +kernel
theorem xo_r_X6_isLone : ∀ (pc : Nat) (r : xr_R), xcl xc_X6_isLone pc = some r → xr_b xmi_X6_isLone.1 (xm_ini xmi_X6_isLone) xmi_X6_isLone.2.2.1 pc r = true ∧ xr_c xM xmi_X6_isLone.1 r = true := xc_up_e (mi := xmi_X6_isLone) (cd := xc_X6_isLone) (N := 32) (xc_up_s (mi := xmi_X6_isLone) (cd := xc_X6_isLone) (lo := 0) (n := 32) xc_up_0 xo_c_X6_isLone_0) (by decide +kernel)
set_option maxRecDepth 20000 in
theorem xo_m_X6_letter : xm_b xmi_X6_letter (1, 5) (3, 92) (3, 93) = true := by decide +kernel
theorem xo_w_X6_letter : Cond.code xmi_X6_letter.2.1 xmi_X6_letter.2.2.1 xmi_X6_letter.2.2.2.1 xmi_X6_letter.2.2.2.2.1 ∈ xG := xw_in2 (K := 3) (i := 94) rfl rfl
set_option maxRecDepth 20000 in
theorem xo_c_X6_letter_0 : xc_b xmi_X6_letter xc_X6_letter 0 16 = true := by decide +kernel
theorem xo_r_X6_letter : ∀ (pc : Nat) (r : xr_R), xcl xc_X6_letter pc = some r → xr_b xmi_X6_letter.1 (xm_ini xmi_X6_letter) xmi_X6_letter.2.2.1 pc r = true ∧ xr_c xM xmi_X6_letter.1 r = true := xc_up_e (mi := xmi_X6_letter) (cd := xc_X6_letter) (N := 16) (xc_up_s (mi := xmi_X6_letter) (cd := xc_X6_letter) (lo := 0) (n := 16) xc_up_0 xo_c_X6_letter_0) (by decide +kernel)
set_option maxRecDepth 20000 in
theorem xo_m_X6_isLike : xm_b xmi_X6_isLike (1, 5) (3, 39) (3, 40) = true := by decide +kernel
theorem xo_w_X6_isLike : Cond.code xmi_X6_isLike.2.1 xmi_X6_isLike.2.2.1 xmi_X6_isLike.2.2.2.1 xmi_X6_isLike.2.2.2.2.1 ∈ xG := xw_in2 (K := 3) (i := 41) rfl rfl
set_option maxRecDepth 20000 in
theorem xo_c_X6_isLike_0 : xc_b xmi_X6_isLike xc_X6_isLike 0 64 = true := by decide +kernel
theorem xo_r_X6_isLike : ∀ (pc : Nat) (r : xr_R), xcl xc_X6_isLike pc = some r → xr_b xmi_X6_isLike.1 (xm_ini xmi_X6_isLike) xmi_X6_isLike.2.2.1 pc r = true ∧ xr_c xM xmi_X6_isLike.1 r = true := xc_up_e (mi := xmi_X6_isLike) (cd := xc_X6_isLike) (N := 64) (xc_up_s (mi := xmi_X6_isLike) (cd := xc_X6_isLike) (lo := 0) (n := 64) xc_up_0 xo_c_X6_isLike_0) (by decide +kernel)
set_option maxRecDepth 20000 in
theorem xo_m_X6_isBlank : xm_b xmi_X6_isBlank (1, 5) (2, 183) (99, 0) = true := by decide +kernel
theorem xo_w_X6_isBlank : Cond.code xmi_X6_isBlank.2.1 xmi_X6_isBlank.2.2.1 xmi_X6_isBlank.2.2.2.1 xmi_X6_isBlank.2.2.2.2.1 ∈ xG := xw_in2 (K := 2) (i := 184) rfl rfl
set_option maxRecDepth 20000 in
theorem xo_c_X6_isBlank_0 : xc_b xmi_X6_isBlank xc_X6_isBlank 0 32 = true := by decide +kernel
theorem xo_r_X6_isBlank : ∀ (pc : Nat) (r : xr_R), xcl xc_X6_isBlank pc = some r → xr_b xmi_X6_isBlank.1 (xm_ini xmi_X6_isBlank) xmi_X6_isBlank.2.2.1 pc r = true ∧ xr_c xM xmi_X6_isBlank.1 r = true := xc_up_e (mi := xmi_X6_isBlank) (cd := xc_X6_isBlank) (N := 32) (xc_up_s (mi := xmi_X6_isBlank) (cd := xc_X6_isBlank) (lo := 0) (n := 32) xc_up_0 xo_c_X6_isBlank_0) (by decide +kernel)
set_option maxRecDepth 20000 in
theorem xo_m_X6_isLetter : xm_b xmi_X6_isLetter (1, 5) (2, 186) (99, 0) = true := by decide +kernel
theorem xo_w_X6_isLetter : Cond.code xmi_X6_isLetter.2.1 xmi_X6_isLetter.2.2.1 xmi_X6_isLetter.2.2.2.1 xmi_X6_isLetter.2.2.2.2.1 ∈ xG := xw_in2 (K := 2) (i := 187) rfl rfl
set_option maxRecDepth 20000 in
theorem xo_c_X6_isLetter_0 : xc_b xmi_X6_isLetter xc_X6_isLetter 0 32 = true := by decide +kernel
theorem xo_r_X6_isLetter : ∀ (pc : Nat) (r : xr_R), xcl xc_X6_isLetter pc = some r → xr_b xmi_X6_isLetter.1 (xm_ini xmi_X6_isLetter) xmi_X6_isLetter.2.2.1 pc r = true ∧ xr_c xM xmi_X6_isLetter.1 r = true := xc_up_e (mi := xmi_X6_isLetter) (cd := xc_X6_isLetter) (N := 32) (xc_up_s (mi := xmi_X6_isLetter) (cd := xc_X6_isLetter) (lo := 0) (n := 32) xc_up_0 xo_c_X6_isLetter_0) (by decide +kernel)
set_option maxRecDepth 20000 in
theorem xo_m_X6_isDigit : xm_b xmi_X6_isDigit (1, 5) (2, 189) (99, 0) = true := by decide +kernel
theorem xo_w_X6_isDigit : Cond.code xmi_X6_isDigit.2.1 xmi_X6_isDigit.2.2.1 xmi_X6_isDigit.2.2.2.1 xmi_X6_isDigit.2.2.2.2.1 ∈ xG := xw_in2 (K := 2) (i := 190) rfl rfl
set_option maxRecDepth 20000 in
theorem xo_c_X6_isDigit_0 : xc_b xmi_X6_isDigit xc_X6_isDigit 0 32 = true := by decide +kernel
theorem xo_r_X6_isDigit : ∀ (pc : Nat) (r : xr_R), xcl xc_X6_isDigit pc = some r → xr_b xmi_X6_isDigit.1 (xm_ini xmi_X6_isDigit) xmi_X6_isDigit.2.2.1 pc r = true ∧ xr_c xM xmi_X6_isDigit.1 r = true := xc_up_e (mi := xmi_X6_isDigit) (cd := xc_X6_isDigit) (N := 32) (xc_up_s (mi := xmi_X6_isDigit) (cd := xc_X6_isDigit) (lo := 0) (n := 32) xc_up_0 xo_c_X6_isDigit_0) (by decide +kernel)
set_option maxRecDepth 20000 in
theorem xo_m_X6_isSign : xm_b xmi_X6_isSign (1, 5) (2, 196) (99, 0) = true := by decide +kernel
theorem xo_w_X6_isSign : Cond.code xmi_X6_isSign.2.1 xmi_X6_isSign.2.2.1 xmi_X6_isSign.2.2.2.1 xmi_X6_isSign.2.2.2.2.1 ∈ xG := xw_in2 (K := 2) (i := 197) rfl rfl
set_option maxRecDepth 20000 in
theorem xo_c_X6_isSign_0 : xc_b xmi_X6_isSign xc_X6_isSign 0 48 = true := by decide +kernel
theorem xo_r_X6_isSign : ∀ (pc : Nat) (r : xr_R), xcl xc_X6_isSign pc = some r → xr_b xmi_X6_isSign.1 (xm_ini xmi_X6_isSign) xmi_X6_isSign.2.2.1 pc r = true ∧ xr_c xM xmi_X6_isSign.1 r = true := xc_up_e (mi := xmi_X6_isSign) (cd := xc_X6_isSign) (N := 48) (xc_up_s (mi := xmi_X6_isSign) (cd := xc_X6_isSign) (lo := 0) (n := 48) xc_up_0 xo_c_X6_isSign_0) (by decide +kernel)
set_option maxRecDepth 20000 in
theorem xo_m_X7_init : xm_b xmi_X7_init (1, 6) (1, 143) (99, 0) = true := by decide +kernel
theorem xo_w_X7_init : Cond.code xmi_X7_init.2.1 xmi_X7_init.2.2.1 xmi_X7_init.2.2.2.1 xmi_X7_init.2.2.2.2.1 ∈ xG := xw_in2 (K := 1) (i := 144) rfl rfl
set_option maxRecDepth 20000 in
theorem xo_c_X7_init_0 : xc_b xmi_X7_init xc_X7_init 0 32 = true := by decide +kernel
theorem xo_r_X7_init : ∀ (pc : Nat) (r : xr_R), xcl xc_X7_init pc = some r → xr_b xmi_X7_init.1 (xm_ini xmi_X7_init) xmi_X7_init.2.2.1 pc r = true ∧ xr_c xM xmi_X7_init.1 r = true := xc_up_e (mi := xmi_X7_init) (cd := xc_X7_init) (N := 32) (xc_up_s (mi := xmi_X7_init) (cd := xc_X7_init) (lo := 0) (n := 32) xc_up_0 xo_c_X7_init_0) (by decide +kernel)
set_option maxRecDepth 20000 in
theorem xo_m_X7_holds : xm_b xmi_X7_holds (1, 6) (3, 151) (3, 152) = true := by decide +kernel
theorem xo_w_X7_holds : Cond.code xmi_X7_holds.2.1 xmi_X7_holds.2.2.1 xmi_X7_holds.2.2.2.1 xmi_X7_holds.2.2.2.2.1 ∈ xG := xw_in2 (K := 3) (i := 153) rfl rfl
set_option maxRecDepth 20000 in
theorem xo_c_X7_holds_0 : xc_b xmi_X7_holds xc_X7_holds 0 48 = true := by decide +kernel
theorem xo_r_X7_holds : ∀ (pc : Nat) (r : xr_R), xcl xc_X7_holds pc = some r → xr_b xmi_X7_holds.1 (xm_ini xmi_X7_holds) xmi_X7_holds.2.2.1 pc r = true ∧ xr_c xM xmi_X7_holds.1 r = true := xc_up_e (mi := xmi_X7_holds) (cd := xc_X7_holds) (N := 48) (xc_up_s (mi := xmi_X7_holds) (cd := xc_X7_holds) (lo := 0) (n := 48) xc_up_0 xo_c_X7_holds_0) (by decide +kernel)
set_option maxRecDepth 20000 in
theorem xo_m_X7_add : xm_b xmi_X7_add (1, 6) (2, 91) (2, 92) = true := by decide +kernel
theorem xo_w_X7_add : Cond.code xmi_X7_add.2.1 xmi_X7_add.2.2.1 xmi_X7_add.2.2.2.1 xmi_X7_add.2.2.2.2.1 ∈ xG := xw_in2 (K := 2) (i := 93) rfl rfl
set_option maxRecDepth 20000 in
theorem xo_c_X7_add_0 : xc_b xmi_X7_add xc_X7_add 0 32 = true := by decide +kernel
theorem xo_r_X7_add : ∀ (pc : Nat) (r : xr_R), xcl xc_X7_add pc = some r → xr_b xmi_X7_add.1 (xm_ini xmi_X7_add) xmi_X7_add.2.2.1 pc r = true ∧ xr_c xM xmi_X7_add.1 r = true := xc_up_e (mi := xmi_X7_add) (cd := xc_X7_add) (N := 32) (xc_up_s (mi := xmi_X7_add) (cd := xc_X7_add) (lo := 0) (n := 32) xc_up_0 xo_c_X7_add_0) (by decide +kernel)
set_option maxRecDepth 20000 in
theorem xo_m_X7_needAll : xm_b xmi_X7_needAll (1, 6) (2, 87) (2, 88) = true := by decide +kernel
theorem xo_w_X7_needAll : Cond.code xmi_X7_needAll.2.1 xmi_X7_needAll.2.2.1 xmi_X7_needAll.2.2.2.1 xmi_X7_needAll.2.2.2.2.1 ∈ xG := xw_in2 (K := 2) (i := 89) rfl rfl
set_option maxRecDepth 20000 in
theorem xo_c_X7_needAll_0 : xc_b xmi_X7_needAll xc_X7_needAll 0 32 = true := by decide +kernel
theorem xo_r_X7_needAll : ∀ (pc : Nat) (r : xr_R), xcl xc_X7_needAll pc = some r → xr_b xmi_X7_needAll.1 (xm_ini xmi_X7_needAll) xmi_X7_needAll.2.2.1 pc r = true ∧ xr_c xM xmi_X7_needAll.1 r = true := xc_up_e (mi := xmi_X7_needAll) (cd := xc_X7_needAll) (N := 32) (xc_up_s (mi := xmi_X7_needAll) (cd := xc_X7_needAll) (lo := 0) (n := 32) xc_up_0 xo_c_X7_needAll_0) (by decide +kernel)
set_option maxRecDepth 20000 in
theorem xo_m_X8_init : xm_b xmi_X8_init (1, 2) (1, 33) (99, 0) = true := by decide +kernel
theorem xo_w_X8_init : Cond.code xmi_X8_init.2.1 xmi_X8_init.2.2.1 xmi_X8_init.2.2.2.1 xmi_X8_init.2.2.2.2.1 ∈ xG := xw_in2 (K := 1) (i := 34) rfl rfl
set_option maxRecDepth 20000 in
theorem xo_c_X8_init_0 : xc_b xmi_X8_init xc_X8_init 0 32 = true := by decide +kernel
theorem xo_r_X8_init : ∀ (pc : Nat) (r : xr_R), xcl xc_X8_init pc = some r → xr_b xmi_X8_init.1 (xm_ini xmi_X8_init) xmi_X8_init.2.2.1 pc r = true ∧ xr_c xM xmi_X8_init.1 r = true := xc_up_e (mi := xmi_X8_init) (cd := xc_X8_init) (N := 32) (xc_up_s (mi := xmi_X8_init) (cd := xc_X8_init) (lo := 0) (n := 32) xc_up_0 xo_c_X8_init_0) (by decide +kernel)
set_option maxRecDepth 20000 in
theorem xo_m_X8_hasRoom : xm_b xmi_X8_hasRoom (1, 2) (2, 136) (2, 137) = true := by decide +kernel
theorem xo_w_X8_hasRoom : Cond.code xmi_X8_hasRoom.2.1 xmi_X8_hasRoom.2.2.1 xmi_X8_hasRoom.2.2.2.1 xmi_X8_hasRoom.2.2.2.2.1 ∈ xG := xw_in2 (K := 2) (i := 138) rfl rfl
set_option maxRecDepth 20000 in
theorem xo_c_X8_hasRoom_0 : xc_b xmi_X8_hasRoom xc_X8_hasRoom 0 32 = true := by decide +kernel
theorem xo_r_X8_hasRoom : ∀ (pc : Nat) (r : xr_R), xcl xc_X8_hasRoom pc = some r → xr_b xmi_X8_hasRoom.1 (xm_ini xmi_X8_hasRoom) xmi_X8_hasRoom.2.2.1 pc r = true ∧ xr_c xM xmi_X8_hasRoom.1 r = true := xc_up_e (mi := xmi_X8_hasRoom) (cd := xc_X8_hasRoom) (N := 32) (xc_up_s (mi := xmi_X8_hasRoom) (cd := xc_X8_hasRoom) (lo := 0) (n := 32) xc_up_0 xo_c_X8_hasRoom_0) (by decide +kernel)
set_option maxRecDepth 20000 in
theorem xo_m_X8_put : xm_b xmi_X8_put (1, 2) (2, 140) (2, 141) = true := by decide +kernel
theorem xo_w_X8_put : Cond.code xmi_X8_put.2.1 xmi_X8_put.2.2.1 xmi_X8_put.2.2.2.1 xmi_X8_put.2.2.2.2.1 ∈ xG := xw_in2 (K := 2) (i := 142) rfl rfl
set_option maxRecDepth 20000 in
theorem xo_c_X8_put_0 : xc_b xmi_X8_put xc_X8_put 0 48 = true := by decide +kernel
theorem xo_r_X8_put : ∀ (pc : Nat) (r : xr_R), xcl xc_X8_put pc = some r → xr_b xmi_X8_put.1 (xm_ini xmi_X8_put) xmi_X8_put.2.2.1 pc r = true ∧ xr_c xM xmi_X8_put.1 r = true := xc_up_e (mi := xmi_X8_put) (cd := xc_X8_put) (N := 48) (xc_up_s (mi := xmi_X8_put) (cd := xc_X8_put) (lo := 0) (n := 48) xc_up_0 xo_c_X8_put_0) (by decide +kernel)
set_option maxRecDepth 20000 in
theorem xo_m_X8_at : xm_b xmi_X8_at (1, 2) (2, 179) (2, 180) = true := by decide +kernel
theorem xo_w_X8_at : Cond.code xmi_X8_at.2.1 xmi_X8_at.2.2.1 xmi_X8_at.2.2.2.1 xmi_X8_at.2.2.2.2.1 ∈ xG := xw_in2 (K := 2) (i := 181) rfl rfl
set_option maxRecDepth 20000 in
theorem xo_c_X8_at_0 : xc_b xmi_X8_at xc_X8_at 0 32 = true := by decide +kernel
theorem xo_r_X8_at : ∀ (pc : Nat) (r : xr_R), xcl xc_X8_at pc = some r → xr_b xmi_X8_at.1 (xm_ini xmi_X8_at) xmi_X8_at.2.2.1 pc r = true ∧ xr_c xM xmi_X8_at.1 r = true := xc_up_e (mi := xmi_X8_at) (cd := xc_X8_at) (N := 32) (xc_up_s (mi := xmi_X8_at) (cd := xc_X8_at) (lo := 0) (n := 32) xc_up_0 xo_c_X8_at_0) (by decide +kernel)
set_option maxRecDepth 20000 in
theorem xo_m_X9_init : xm_b xmi_X9_init (1, 1) (1, 25) (99, 0) = true := by decide +kernel
theorem xo_w_X9_init : Cond.code xmi_X9_init.2.1 xmi_X9_init.2.2.1 xmi_X9_init.2.2.2.1 xmi_X9_init.2.2.2.2.1 ∈ xG := xw_in2 (K := 1) (i := 26) rfl rfl
set_option maxRecDepth 20000 in
theorem xo_c_X9_init_0 : xc_b xmi_X9_init xc_X9_init 0 112 = true := by decide +kernel
set_option maxRecDepth 20000 in
theorem xo_c_X9_init_112 : xc_b xmi_X9_init xc_X9_init 112 32 = true := by decide +kernel
theorem xo_r_X9_init : ∀ (pc : Nat) (r : xr_R), xcl xc_X9_init pc = some r → xr_b xmi_X9_init.1 (xm_ini xmi_X9_init) xmi_X9_init.2.2.1 pc r = true ∧ xr_c xM xmi_X9_init.1 r = true := xc_up_e (mi := xmi_X9_init) (cd := xc_X9_init) (N := 144) (xc_up_s (mi := xmi_X9_init) (cd := xc_X9_init) (lo := 112) (n := 32) (xc_up_s (mi := xmi_X9_init) (cd := xc_X9_init) (lo := 0) (n := 112) xc_up_0 xo_c_X9_init_0) xo_c_X9_init_112) (by decide +kernel)
set_option maxRecDepth 20000 in
theorem xo_m_X9_feed : xm_b xmi_X9_feed (1, 1) (2, 132) (2, 133) = true := by decide +kernel
theorem xo_w_X9_feed : Cond.code xmi_X9_feed.2.1 xmi_X9_feed.2.2.1 xmi_X9_feed.2.2.2.1 xmi_X9_feed.2.2.2.2.1 ∈ xG := xw_in2 (K := 2) (i := 134) rfl rfl
set_option maxRecDepth 20000 in
theorem xo_c_X9_feed_0 : xc_b xmi_X9_feed xc_X9_feed 0 64 = true := by decide +kernel
theorem xo_r_X9_feed : ∀ (pc : Nat) (r : xr_R), xcl xc_X9_feed pc = some r → xr_b xmi_X9_feed.1 (xm_ini xmi_X9_feed) xmi_X9_feed.2.2.1 pc r = true ∧ xr_c xM xmi_X9_feed.1 r = true := xc_up_e (mi := xmi_X9_feed) (cd := xc_X9_feed) (N := 64) (xc_up_s (mi := xmi_X9_feed) (cd := xc_X9_feed) (lo := 0) (n := 64) xc_up_0 xo_c_X9_feed_0) (by decide +kernel)
set_option maxRecDepth 20000 in
theorem xo_m_X9_end : xm_b xmi_X9_end (1, 1) (2, 144) (2, 145) = true := by decide +kernel
theorem xo_w_X9_end : Cond.code xmi_X9_end.2.1 xmi_X9_end.2.2.1 xmi_X9_end.2.2.2.1 xmi_X9_end.2.2.2.2.1 ∈ xG := xw_in2 (K := 2) (i := 146) rfl rfl
set_option maxRecDepth 20000 in
theorem xo_c_X9_end_0 : xc_b xmi_X9_end xc_X9_end 0 32 = true := by decide +kernel
theorem xo_r_X9_end : ∀ (pc : Nat) (r : xr_R), xcl xc_X9_end pc = some r → xr_b xmi_X9_end.1 (xm_ini xmi_X9_end) xmi_X9_end.2.2.1 pc r = true ∧ xr_c xM xmi_X9_end.1 r = true := xc_up_e (mi := xmi_X9_end) (cd := xc_X9_end) (N := 32) (xc_up_s (mi := xmi_X9_end) (cd := xc_X9_end) (lo := 0) (n := 32) xc_up_0 xo_c_X9_end_0) (by decide +kernel)
set_option maxRecDepth 20000 in
theorem xo_m_X9_next : xm_b xmi_X9_next (1, 1) (2, 148) (2, 149) = true := by decide +kernel
theorem xo_w_X9_next : Cond.code xmi_X9_next.2.1 xmi_X9_next.2.2.1 xmi_X9_next.2.2.2.1 xmi_X9_next.2.2.2.2.1 ∈ xG := xw_in2 (K := 2) (i := 150) rfl rfl
set_option maxRecDepth 20000 in
theorem xo_c_X9_next_0 : xc_b xmi_X9_next xc_X9_next 0 48 = true := by decide +kernel
theorem xo_r_X9_next : ∀ (pc : Nat) (r : xr_R), xcl xc_X9_next pc = some r → xr_b xmi_X9_next.1 (xm_ini xmi_X9_next) xmi_X9_next.2.2.1 pc r = true ∧ xr_c xM xmi_X9_next.1 r = true := xc_up_e (mi := xmi_X9_next) (cd := xc_X9_next) (N := 48) (xc_up_s (mi := xmi_X9_next) (cd := xc_X9_next) (lo := 0) (n := 48) xc_up_0 xo_c_X9_next_0) (by decide +kernel)
set_option maxRecDepth 20000 in
theorem xo_m_X9_members : xm_b xmi_X9_members (1, 1) (2, 152) (2, 153) = true := by decide +kernel
theorem xo_w_X9_members : Cond.code xmi_X9_members.2.1 xmi_X9_members.2.2.1 xmi_X9_members.2.2.2.1 xmi_X9_members.2.2.2.2.1 ∈ xG := xw_in2 (K := 2) (i := 154) rfl rfl
set_option maxRecDepth 20000 in
theorem xo_c_X9_members_0 : xc_b xmi_X9_members xc_X9_members 0 80 = true := by decide +kernel
theorem xo_r_X9_members : ∀ (pc : Nat) (r : xr_R), xcl xc_X9_members pc = some r → xr_b xmi_X9_members.1 (xm_ini xmi_X9_members) xmi_X9_members.2.2.1 pc r = true ∧ xr_c xM xmi_X9_members.1 r = true := xc_up_e (mi := xmi_X9_members) (cd := xc_X9_members) (N := 80) (xc_up_s (mi := xmi_X9_members) (cd := xc_X9_members) (lo := 0) (n := 80) xc_up_0 xo_c_X9_members_0) (by decide +kernel)
set_option maxRecDepth 20000 in
theorem xo_m_X9_statute : xm_b xmi_X9_statute (1, 1) (2, 156) (2, 157) = true := by decide +kernel
theorem xo_w_X9_statute : Cond.code xmi_X9_statute.2.1 xmi_X9_statute.2.2.1 xmi_X9_statute.2.2.2.1 xmi_X9_statute.2.2.2.2.1 ∈ xG := xw_in2 (K := 2) (i := 158) rfl rfl
set_option maxRecDepth 20000 in
theorem xo_c_X9_statute_0 : xc_b xmi_X9_statute xc_X9_statute 0 112 = true := by decide +kernel
set_option maxRecDepth 20000 in
theorem xo_c_X9_statute_112 : xc_b xmi_X9_statute xc_X9_statute 112 32 = true := by decide +kernel
theorem xo_r_X9_statute : ∀ (pc : Nat) (r : xr_R), xcl xc_X9_statute pc = some r → xr_b xmi_X9_statute.1 (xm_ini xmi_X9_statute) xmi_X9_statute.2.2.1 pc r = true ∧ xr_c xM xmi_X9_statute.1 r = true := xc_up_e (mi := xmi_X9_statute) (cd := xc_X9_statute) (N := 144) (xc_up_s (mi := xmi_X9_statute) (cd := xc_X9_statute) (lo := 112) (n := 32) (xc_up_s (mi := xmi_X9_statute) (cd := xc_X9_statute) (lo := 0) (n := 112) xc_up_0 xo_c_X9_statute_0) xo_c_X9_statute_112) (by decide +kernel)
set_option maxRecDepth 20000 in
theorem xo_m_X9_fault : xm_b xmi_X9_fault (1, 1) (3, 135) (3, 136) = true := by decide +kernel
theorem xo_w_X9_fault : Cond.code xmi_X9_fault.2.1 xmi_X9_fault.2.2.1 xmi_X9_fault.2.2.2.1 xmi_X9_fault.2.2.2.2.1 ∈ xG := xw_in2 (K := 3) (i := 137) rfl rfl
set_option maxRecDepth 20000 in
theorem xo_c_X9_fault_0 : xc_b xmi_X9_fault xc_X9_fault 0 16 = true := by decide +kernel
theorem xo_r_X9_fault : ∀ (pc : Nat) (r : xr_R), xcl xc_X9_fault pc = some r → xr_b xmi_X9_fault.1 (xm_ini xmi_X9_fault) xmi_X9_fault.2.2.1 pc r = true ∧ xr_c xM xmi_X9_fault.1 r = true := xc_up_e (mi := xmi_X9_fault) (cd := xc_X9_fault) (N := 16) (xc_up_s (mi := xmi_X9_fault) (cd := xc_X9_fault) (lo := 0) (n := 16) xc_up_0 xo_c_X9_fault_0) (by decide +kernel)
set_option maxRecDepth 20000 in
theorem xo_m_X9_carries : xm_b xmi_X9_carries (1, 1) (3, 139) (3, 140) = true := by decide +kernel
theorem xo_w_X9_carries : Cond.code xmi_X9_carries.2.1 xmi_X9_carries.2.2.1 xmi_X9_carries.2.2.2.1 xmi_X9_carries.2.2.2.2.1 ∈ xG := xw_in2 (K := 3) (i := 141) rfl rfl
set_option maxRecDepth 20000 in
theorem xo_c_X9_carries_0 : xc_b xmi_X9_carries xc_X9_carries 0 48 = true := by decide +kernel
theorem xo_r_X9_carries : ∀ (pc : Nat) (r : xr_R), xcl xc_X9_carries pc = some r → xr_b xmi_X9_carries.1 (xm_ini xmi_X9_carries) xmi_X9_carries.2.2.1 pc r = true ∧ xr_c xM xmi_X9_carries.1 r = true := xc_up_e (mi := xmi_X9_carries) (cd := xc_X9_carries) (N := 48) (xc_up_s (mi := xmi_X9_carries) (cd := xc_X9_carries) (lo := 0) (n := 48) xc_up_0 xo_c_X9_carries_0) (by decide +kernel)
set_option maxRecDepth 20000 in
theorem xo_m_X9_many : xm_b xmi_X9_many (1, 1) (3, 155) (3, 156) = true := by decide +kernel
theorem xo_w_X9_many : Cond.code xmi_X9_many.2.1 xmi_X9_many.2.2.1 xmi_X9_many.2.2.2.1 xmi_X9_many.2.2.2.2.1 ∈ xG := xw_in2 (K := 3) (i := 157) rfl rfl
set_option maxRecDepth 20000 in
theorem xo_c_X9_many_0 : xc_b xmi_X9_many xc_X9_many 0 112 = true := by decide +kernel
set_option maxRecDepth 20000 in
theorem xo_c_X9_many_112 : xc_b xmi_X9_many xc_X9_many 112 16 = true := by decide +kernel
theorem xo_r_X9_many : ∀ (pc : Nat) (r : xr_R), xcl xc_X9_many pc = some r → xr_b xmi_X9_many.1 (xm_ini xmi_X9_many) xmi_X9_many.2.2.1 pc r = true ∧ xr_c xM xmi_X9_many.1 r = true := xc_up_e (mi := xmi_X9_many) (cd := xc_X9_many) (N := 128) (xc_up_s (mi := xmi_X9_many) (cd := xc_X9_many) (lo := 112) (n := 16) (xc_up_s (mi := xmi_X9_many) (cd := xc_X9_many) (lo := 0) (n := 112) xc_up_0 xo_c_X9_many_0) xo_c_X9_many_112) (by decide +kernel)
set_option maxRecDepth 20000 in
theorem xo_m_X9_setAt : xm_b xmi_X9_setAt (1, 1) (3, 232) (3, 233) = true := by decide +kernel
theorem xo_w_X9_setAt : Cond.code xmi_X9_setAt.2.1 xmi_X9_setAt.2.2.1 xmi_X9_setAt.2.2.2.1 xmi_X9_setAt.2.2.2.2.1 ∈ xG := xw_in2 (K := 3) (i := 234) rfl rfl
set_option maxRecDepth 20000 in
theorem xo_c_X9_setAt_0 : xc_b xmi_X9_setAt xc_X9_setAt 0 112 = true := by decide +kernel
theorem xo_r_X9_setAt : ∀ (pc : Nat) (r : xr_R), xcl xc_X9_setAt pc = some r → xr_b xmi_X9_setAt.1 (xm_ini xmi_X9_setAt) xmi_X9_setAt.2.2.1 pc r = true ∧ xr_c xM xmi_X9_setAt.1 r = true := xc_up_e (mi := xmi_X9_setAt) (cd := xc_X9_setAt) (N := 112) (xc_up_s (mi := xmi_X9_setAt) (cd := xc_X9_setAt) (lo := 0) (n := 112) xc_up_0 xo_c_X9_setAt_0) (by decide +kernel)
set_option maxRecDepth 20000 in
theorem xo_m_X9_stronger : xm_b xmi_X9_stronger (1, 1) (3, 236) (3, 237) = true := by decide +kernel
theorem xo_w_X9_stronger : Cond.code xmi_X9_stronger.2.1 xmi_X9_stronger.2.2.1 xmi_X9_stronger.2.2.2.1 xmi_X9_stronger.2.2.2.2.1 ∈ xG := xw_in2 (K := 3) (i := 238) rfl rfl
set_option maxRecDepth 20000 in
theorem xo_c_X9_stronger_0 : xc_b xmi_X9_stronger xc_X9_stronger 0 32 = true := by decide +kernel
theorem xo_r_X9_stronger : ∀ (pc : Nat) (r : xr_R), xcl xc_X9_stronger pc = some r → xr_b xmi_X9_stronger.1 (xm_ini xmi_X9_stronger) xmi_X9_stronger.2.2.1 pc r = true ∧ xr_c xM xmi_X9_stronger.1 r = true := xc_up_e (mi := xmi_X9_stronger) (cd := xc_X9_stronger) (N := 32) (xc_up_s (mi := xmi_X9_stronger) (cd := xc_X9_stronger) (lo := 0) (n := 32) xc_up_0 xo_c_X9_stronger_0) (by decide +kernel)
set_option maxRecDepth 20000 in
theorem xo_m_X9_turns : xm_b xmi_X9_turns (1, 1) (4, 5) (4, 6) = true := by decide +kernel
theorem xo_w_X9_turns : Cond.code xmi_X9_turns.2.1 xmi_X9_turns.2.2.1 xmi_X9_turns.2.2.2.1 xmi_X9_turns.2.2.2.2.1 ∈ xG := xw_in2 (K := 4) (i := 7) rfl rfl
set_option maxRecDepth 20000 in
theorem xo_c_X9_turns_0 : xc_b xmi_X9_turns xc_X9_turns 0 32 = true := by decide +kernel
theorem xo_r_X9_turns : ∀ (pc : Nat) (r : xr_R), xcl xc_X9_turns pc = some r → xr_b xmi_X9_turns.1 (xm_ini xmi_X9_turns) xmi_X9_turns.2.2.1 pc r = true ∧ xr_c xM xmi_X9_turns.1 r = true := xc_up_e (mi := xmi_X9_turns) (cd := xc_X9_turns) (N := 32) (xc_up_s (mi := xmi_X9_turns) (cd := xc_X9_turns) (lo := 0) (n := 32) xc_up_0 xo_c_X9_turns_0) (by decide +kernel)
set_option maxRecDepth 20000 in
theorem xo_m_X9_share : xm_b xmi_X9_share (1, 1) (4, 231) (4, 232) = true := by decide +kernel
theorem xo_w_X9_share : Cond.code xmi_X9_share.2.1 xmi_X9_share.2.2.1 xmi_X9_share.2.2.2.1 xmi_X9_share.2.2.2.2.1 ∈ xG := xw_in2 (K := 4) (i := 233) rfl rfl
set_option maxRecDepth 20000 in
theorem xo_c_X9_share_0 : xc_b xmi_X9_share xc_X9_share 0 112 = true := by decide +kernel
theorem xo_r_X9_share : ∀ (pc : Nat) (r : xr_R), xcl xc_X9_share pc = some r → xr_b xmi_X9_share.1 (xm_ini xmi_X9_share) xmi_X9_share.2.2.1 pc r = true ∧ xr_c xM xmi_X9_share.1 r = true := xc_up_e (mi := xmi_X9_share) (cd := xc_X9_share) (N := 112) (xc_up_s (mi := xmi_X9_share) (cd := xc_X9_share) (lo := 0) (n := 112) xc_up_0 xo_c_X9_share_0) (by decide +kernel)
set_option maxRecDepth 20000 in
theorem xo_m_X9_chance : xm_b xmi_X9_chance (1, 1) (4, 9) (4, 10) = true := by decide +kernel
theorem xo_w_X9_chance : Cond.code xmi_X9_chance.2.1 xmi_X9_chance.2.2.1 xmi_X9_chance.2.2.2.1 xmi_X9_chance.2.2.2.2.1 ∈ xG := xw_in2 (K := 4) (i := 11) rfl rfl
set_option maxRecDepth 20000 in
theorem xo_c_X9_chance_0 : xc_b xmi_X9_chance xc_X9_chance 0 32 = true := by decide +kernel
theorem xo_r_X9_chance : ∀ (pc : Nat) (r : xr_R), xcl xc_X9_chance pc = some r → xr_b xmi_X9_chance.1 (xm_ini xmi_X9_chance) xmi_X9_chance.2.2.1 pc r = true ∧ xr_c xM xmi_X9_chance.1 r = true := xc_up_e (mi := xmi_X9_chance) (cd := xc_X9_chance) (N := 32) (xc_up_s (mi := xmi_X9_chance) (cd := xc_X9_chance) (lo := 0) (n := 32) xc_up_0 xo_c_X9_chance_0) (by decide +kernel)
set_option maxRecDepth 20000 in
theorem xo_m_X9_ally : xm_b xmi_X9_ally (1, 1) (4, 21) (4, 22) = true := by decide +kernel
theorem xo_w_X9_ally : Cond.code xmi_X9_ally.2.1 xmi_X9_ally.2.2.1 xmi_X9_ally.2.2.2.1 xmi_X9_ally.2.2.2.2.1 ∈ xG := xw_in2 (K := 4) (i := 23) rfl rfl
set_option maxRecDepth 20000 in
theorem xo_c_X9_ally_0 : xc_b xmi_X9_ally xc_X9_ally 0 32 = true := by decide +kernel
theorem xo_r_X9_ally : ∀ (pc : Nat) (r : xr_R), xcl xc_X9_ally pc = some r → xr_b xmi_X9_ally.1 (xm_ini xmi_X9_ally) xmi_X9_ally.2.2.1 pc r = true ∧ xr_c xM xmi_X9_ally.1 r = true := xc_up_e (mi := xmi_X9_ally) (cd := xc_X9_ally) (N := 32) (xc_up_s (mi := xmi_X9_ally) (cd := xc_X9_ally) (lo := 0) (n := 32) xc_up_0 xo_c_X9_ally_0) (by decide +kernel)
set_option maxRecDepth 20000 in
theorem xo_m_X9_weigh : xm_b xmi_X9_weigh (1, 1) (4, 33) (4, 34) = true := by decide +kernel
theorem xo_w_X9_weigh : Cond.code xmi_X9_weigh.2.1 xmi_X9_weigh.2.2.1 xmi_X9_weigh.2.2.2.1 xmi_X9_weigh.2.2.2.2.1 ∈ xG := xw_in2 (K := 4) (i := 35) rfl rfl
set_option maxRecDepth 20000 in
theorem xo_c_X9_weigh_0 : xc_b xmi_X9_weigh xc_X9_weigh 0 16 = true := by decide +kernel
theorem xo_r_X9_weigh : ∀ (pc : Nat) (r : xr_R), xcl xc_X9_weigh pc = some r → xr_b xmi_X9_weigh.1 (xm_ini xmi_X9_weigh) xmi_X9_weigh.2.2.1 pc r = true ∧ xr_c xM xmi_X9_weigh.1 r = true := xc_up_e (mi := xmi_X9_weigh) (cd := xc_X9_weigh) (N := 16) (xc_up_s (mi := xmi_X9_weigh) (cd := xc_X9_weigh) (lo := 0) (n := 16) xc_up_0 xo_c_X9_weigh_0) (by decide +kernel)
set_option maxRecDepth 20000 in
theorem xo_m_X9_weight : xm_b xmi_X9_weight (1, 1) (4, 100) (4, 101) = true := by decide +kernel
theorem xo_w_X9_weight : Cond.code xmi_X9_weight.2.1 xmi_X9_weight.2.2.1 xmi_X9_weight.2.2.2.1 xmi_X9_weight.2.2.2.2.1 ∈ xG := xw_in2 (K := 4) (i := 102) rfl rfl
set_option maxRecDepth 20000 in
theorem xo_c_X9_weight_0 : xc_b xmi_X9_weight xc_X9_weight 0 48 = true := by decide +kernel
theorem xo_r_X9_weight : ∀ (pc : Nat) (r : xr_R), xcl xc_X9_weight pc = some r → xr_b xmi_X9_weight.1 (xm_ini xmi_X9_weight) xmi_X9_weight.2.2.1 pc r = true ∧ xr_c xM xmi_X9_weight.1 r = true := xc_up_e (mi := xmi_X9_weight) (cd := xc_X9_weight) (N := 48) (xc_up_s (mi := xmi_X9_weight) (cd := xc_X9_weight) (lo := 0) (n := 48) xc_up_0 xo_c_X9_weight_0) (by decide +kernel)
set_option maxRecDepth 20000 in
theorem xo_m_X9_rank : xm_b xmi_X9_rank (1, 1) (4, 104) (4, 105) = true := by decide +kernel
theorem xo_w_X9_rank : Cond.code xmi_X9_rank.2.1 xmi_X9_rank.2.2.1 xmi_X9_rank.2.2.2.1 xmi_X9_rank.2.2.2.2.1 ∈ xG := xw_in2 (K := 4) (i := 106) rfl rfl
set_option maxRecDepth 20000 in
theorem xo_c_X9_rank_0 : xc_b xmi_X9_rank xc_X9_rank 0 80 = true := by decide +kernel
theorem xo_r_X9_rank : ∀ (pc : Nat) (r : xr_R), xcl xc_X9_rank pc = some r → xr_b xmi_X9_rank.1 (xm_ini xmi_X9_rank) xmi_X9_rank.2.2.1 pc r = true ∧ xr_c xM xmi_X9_rank.1 r = true := xc_up_e (mi := xmi_X9_rank) (cd := xc_X9_rank) (N := 80) (xc_up_s (mi := xmi_X9_rank) (cd := xc_X9_rank) (lo := 0) (n := 80) xc_up_0 xo_c_X9_rank_0) (by decide +kernel)
set_option maxRecDepth 20000 in
theorem xo_m_X9_beats : xm_b xmi_X9_beats (1, 1) (4, 120) (4, 121) = true := by decide +kernel
theorem xo_w_X9_beats : Cond.code xmi_X9_beats.2.1 xmi_X9_beats.2.2.1 xmi_X9_beats.2.2.2.1 xmi_X9_beats.2.2.2.2.1 ∈ xG := xw_in2 (K := 4) (i := 122) rfl rfl
set_option maxRecDepth 20000 in
theorem xo_c_X9_beats_0 : xc_b xmi_X9_beats xc_X9_beats 0 64 = true := by decide +kernel
theorem xo_r_X9_beats : ∀ (pc : Nat) (r : xr_R), xcl xc_X9_beats pc = some r → xr_b xmi_X9_beats.1 (xm_ini xmi_X9_beats) xmi_X9_beats.2.2.1 pc r = true ∧ xr_c xM xmi_X9_beats.1 r = true := xc_up_e (mi := xmi_X9_beats) (cd := xc_X9_beats) (N := 64) (xc_up_s (mi := xmi_X9_beats) (cd := xc_X9_beats) (lo := 0) (n := 64) xc_up_0 xo_c_X9_beats_0) (by decide +kernel)
set_option maxRecDepth 20000 in
theorem xo_m_X9_free : xm_b xmi_X9_free (1, 1) (4, 129) (4, 130) = true := by decide +kernel
theorem xo_w_X9_free : Cond.code xmi_X9_free.2.1 xmi_X9_free.2.2.1 xmi_X9_free.2.2.2.1 xmi_X9_free.2.2.2.2.1 ∈ xG := xw_in2 (K := 4) (i := 131) rfl rfl
set_option maxRecDepth 20000 in
theorem xo_c_X9_free_0 : xc_b xmi_X9_free xc_X9_free 0 32 = true := by decide +kernel
theorem xo_r_X9_free : ∀ (pc : Nat) (r : xr_R), xcl xc_X9_free pc = some r → xr_b xmi_X9_free.1 (xm_ini xmi_X9_free) xmi_X9_free.2.2.1 pc r = true ∧ xr_c xM xmi_X9_free.1 r = true := xc_up_e (mi := xmi_X9_free) (cd := xc_X9_free) (N := 32) (xc_up_s (mi := xmi_X9_free) (cd := xc_X9_free) (lo := 0) (n := 32) xc_up_0 xo_c_X9_free_0) (by decide +kernel)
set_option maxRecDepth 20000 in
theorem xo_m_X9_top : xm_b xmi_X9_top (1, 1) (4, 143) (4, 144) = true := by decide +kernel
theorem xo_w_X9_top : Cond.code xmi_X9_top.2.1 xmi_X9_top.2.2.1 xmi_X9_top.2.2.2.1 xmi_X9_top.2.2.2.2.1 ∈ xG := xw_in2 (K := 4) (i := 145) rfl rfl
set_option maxRecDepth 20000 in
theorem xo_c_X9_top_0 : xc_b xmi_X9_top xc_X9_top 0 32 = true := by decide +kernel
theorem xo_r_X9_top : ∀ (pc : Nat) (r : xr_R), xcl xc_X9_top pc = some r → xr_b xmi_X9_top.1 (xm_ini xmi_X9_top) xmi_X9_top.2.2.1 pc r = true ∧ xr_c xM xmi_X9_top.1 r = true := xc_up_e (mi := xmi_X9_top) (cd := xc_X9_top) (N := 32) (xc_up_s (mi := xmi_X9_top) (cd := xc_X9_top) (lo := 0) (n := 32) xc_up_0 xo_c_X9_top_0) (by decide +kernel)
set_option maxRecDepth 20000 in
theorem xo_m_X9_leads : xm_b xmi_X9_leads (1, 1) (4, 159) (4, 160) = true := by decide +kernel
theorem xo_w_X9_leads : Cond.code xmi_X9_leads.2.1 xmi_X9_leads.2.2.1 xmi_X9_leads.2.2.2.1 xmi_X9_leads.2.2.2.2.1 ∈ xG := xw_in2 (K := 4) (i := 161) rfl rfl
set_option maxRecDepth 20000 in
theorem xo_c_X9_leads_0 : xc_b xmi_X9_leads xc_X9_leads 0 80 = true := by decide +kernel
theorem xo_r_X9_leads : ∀ (pc : Nat) (r : xr_R), xcl xc_X9_leads pc = some r → xr_b xmi_X9_leads.1 (xm_ini xmi_X9_leads) xmi_X9_leads.2.2.1 pc r = true ∧ xr_c xM xmi_X9_leads.1 r = true := xc_up_e (mi := xmi_X9_leads) (cd := xc_X9_leads) (N := 80) (xc_up_s (mi := xmi_X9_leads) (cd := xc_X9_leads) (lo := 0) (n := 80) xc_up_0 xo_c_X9_leads_0) (by decide +kernel)
end XCK4
end
section
section XCK5
set_option maxRecDepth 20000 in
theorem xo_m_X9_rows : xm_b xmi_X9_rows (1, 1) (4, 175) (4, 176) = true := by decide +kernel
theorem xo_w_X9_rows : Cond.code xmi_X9_rows.2.1 xmi_X9_rows.2.2.1 xmi_X9_rows.2.2.2.1 xmi_X9_rows.2.2.2.2.1 ∈ xG := xw_in2 (K := 4) (i := 177) rfl rfl
set_option maxRecDepth 20000 in
theorem xo_c_X9_rows_0 : xc_b xmi_X9_rows xc_X9_rows 0 48 = true := by decide +kernel
theorem xo_r_X9_rows : ∀ (pc : Nat) (r : xr_R), xcl xc_X9_rows pc = some r → xr_b xmi_X9_rows.1 (xm_ini xmi_X9_rows) xmi_X9_rows.2.2.1 pc r = true ∧ xr_c xM xmi_X9_rows.1 r = true := xc_up_e (mi := xmi_X9_rows) (cd := xc_X9_rows) (N := 48) (xc_up_s (mi := xmi_X9_rows) (cd := xc_X9_rows) (lo := 0) (n := 48) xc_up_0 xo_c_X9_rows_0) (by decide +kernel)
set_option maxRecDepth 20000 in
theorem xo_m_X9_rowAt : xm_b xmi_X9_rowAt (1, 1) (4, 195) (4, 196) = true := by decide +kernel
theorem xo_w_X9_rowAt : Cond.code xmi_X9_rowAt.2.1 xmi_X9_rowAt.2.2.1 xmi_X9_rowAt.2.2.2.1 xmi_X9_rowAt.2.2.2.2.1 ∈ xG := xw_in2 (K := 4) (i := 197) rfl rfl
set_option maxRecDepth 20000 in
theorem xo_c_X9_rowAt_0 : xc_b xmi_X9_rowAt xc_X9_rowAt 0 32 = true := by decide +kernel
theorem xo_r_X9_rowAt : ∀ (pc : Nat) (r : xr_R), xcl xc_X9_rowAt pc = some r → xr_b xmi_X9_rowAt.1 (xm_ini xmi_X9_rowAt) xmi_X9_rowAt.2.2.1 pc r = true ∧ xr_c xM xmi_X9_rowAt.1 r = true := xc_up_e (mi := xmi_X9_rowAt) (cd := xc_X9_rowAt) (N := 32) (xc_up_s (mi := xmi_X9_rowAt) (cd := xc_X9_rowAt) (lo := 0) (n := 32) xc_up_0 xo_c_X9_rowAt_0) (by decide +kernel)
set_option maxRecDepth 20000 in
theorem xo_m_X9_vote : xm_b xmi_X9_vote (1, 1) (4, 199) (4, 200) = true := by decide +kernel
theorem xo_w_X9_vote : Cond.code xmi_X9_vote.2.1 xmi_X9_vote.2.2.1 xmi_X9_vote.2.2.2.1 xmi_X9_vote.2.2.2.2.1 ∈ xG := xw_in2 (K := 4) (i := 201) rfl rfl
set_option maxRecDepth 20000 in
theorem xo_c_X9_vote_0 : xc_b xmi_X9_vote xc_X9_vote 0 32 = true := by decide +kernel
theorem xo_r_X9_vote : ∀ (pc : Nat) (r : xr_R), xcl xc_X9_vote pc = some r → xr_b xmi_X9_vote.1 (xm_ini xmi_X9_vote) xmi_X9_vote.2.2.1 pc r = true ∧ xr_c xM xmi_X9_vote.1 r = true := xc_up_e (mi := xmi_X9_vote) (cd := xc_X9_vote) (N := 32) (xc_up_s (mi := xmi_X9_vote) (cd := xc_X9_vote) (lo := 0) (n := 32) xc_up_0 xo_c_X9_vote_0) (by decide +kernel)
set_option maxRecDepth 20000 in
theorem xo_m_X9_unfit : xm_b xmi_X9_unfit (1, 1) (4, 207) (4, 208) = true := by decide +kernel
theorem xo_w_X9_unfit : Cond.code xmi_X9_unfit.2.1 xmi_X9_unfit.2.2.1 xmi_X9_unfit.2.2.2.1 xmi_X9_unfit.2.2.2.2.1 ∈ xG := xw_in2 (K := 4) (i := 209) rfl rfl
set_option maxRecDepth 20000 in
theorem xo_c_X9_unfit_0 : xc_b xmi_X9_unfit xc_X9_unfit 0 80 = true := by decide +kernel
theorem xo_r_X9_unfit : ∀ (pc : Nat) (r : xr_R), xcl xc_X9_unfit pc = some r → xr_b xmi_X9_unfit.1 (xm_ini xmi_X9_unfit) xmi_X9_unfit.2.2.1 pc r = true ∧ xr_c xM xmi_X9_unfit.1 r = true := xc_up_e (mi := xmi_X9_unfit) (cd := xc_X9_unfit) (N := 80) (xc_up_s (mi := xmi_X9_unfit) (cd := xc_X9_unfit) (lo := 0) (n := 80) xc_up_0 xo_c_X9_unfit_0) (by decide +kernel)
set_option maxRecDepth 20000 in
theorem xo_m_X9_sure : xm_b xmi_X9_sure (1, 1) (4, 211) (4, 212) = true := by decide +kernel
theorem xo_w_X9_sure : Cond.code xmi_X9_sure.2.1 xmi_X9_sure.2.2.1 xmi_X9_sure.2.2.2.1 xmi_X9_sure.2.2.2.2.1 ∈ xG := xw_in2 (K := 4) (i := 213) rfl rfl
set_option maxRecDepth 20000 in
theorem xo_c_X9_sure_0 : xc_b xmi_X9_sure xc_X9_sure 0 32 = true := by decide +kernel
theorem xo_r_X9_sure : ∀ (pc : Nat) (r : xr_R), xcl xc_X9_sure pc = some r → xr_b xmi_X9_sure.1 (xm_ini xmi_X9_sure) xmi_X9_sure.2.2.1 pc r = true ∧ xr_c xM xmi_X9_sure.1 r = true := xc_up_e (mi := xmi_X9_sure) (cd := xc_X9_sure) (N := 32) (xc_up_s (mi := xmi_X9_sure) (cd := xc_X9_sure) (lo := 0) (n := 32) xc_up_0 xo_c_X9_sure_0) (by decide +kernel)
set_option maxRecDepth 20000 in
theorem xo_m_X9_open : xm_b xmi_X9_open (1, 1) (4, 219) (4, 220) = true := by decide +kernel
theorem xo_w_X9_open : Cond.code xmi_X9_open.2.1 xmi_X9_open.2.2.1 xmi_X9_open.2.2.2.1 xmi_X9_open.2.2.2.2.1 ∈ xG := xw_in2 (K := 4) (i := 221) rfl rfl
set_option maxRecDepth 20000 in
theorem xo_c_X9_open_0 : xc_b xmi_X9_open xc_X9_open 0 48 = true := by decide +kernel
theorem xo_r_X9_open : ∀ (pc : Nat) (r : xr_R), xcl xc_X9_open pc = some r → xr_b xmi_X9_open.1 (xm_ini xmi_X9_open) xmi_X9_open.2.2.1 pc r = true ∧ xr_c xM xmi_X9_open.1 r = true := xc_up_e (mi := xmi_X9_open) (cd := xc_X9_open) (N := 48) (xc_up_s (mi := xmi_X9_open) (cd := xc_X9_open) (lo := 0) (n := 48) xc_up_0 xo_c_X9_open_0) (by decide +kernel)
set_option maxRecDepth 20000 in
theorem xo_m_X9_count : xm_b xmi_X9_count (1, 1) (4, 223) (4, 224) = true := by decide +kernel
theorem xo_w_X9_count : Cond.code xmi_X9_count.2.1 xmi_X9_count.2.2.1 xmi_X9_count.2.2.2.1 xmi_X9_count.2.2.2.2.1 ∈ xG := xw_in2 (K := 4) (i := 225) rfl rfl
set_option maxRecDepth 20000 in
theorem xo_c_X9_count_0 : xc_b xmi_X9_count xc_X9_count 0 80 = true := by decide +kernel
theorem xo_r_X9_count : ∀ (pc : Nat) (r : xr_R), xcl xc_X9_count pc = some r → xr_b xmi_X9_count.1 (xm_ini xmi_X9_count) xmi_X9_count.2.2.1 pc r = true ∧ xr_c xM xmi_X9_count.1 r = true := xc_up_e (mi := xmi_X9_count) (cd := xc_X9_count) (N := 80) (xc_up_s (mi := xmi_X9_count) (cd := xc_X9_count) (lo := 0) (n := 80) xc_up_0 xo_c_X9_count_0) (by decide +kernel)
set_option maxRecDepth 20000 in
theorem xo_m_X9_isMember : xm_b xmi_X9_isMember (1, 1) (4, 1) (0, 32) = true := by decide +kernel
theorem xo_w_X9_isMember : Cond.code xmi_X9_isMember.2.1 xmi_X9_isMember.2.2.1 xmi_X9_isMember.2.2.2.1 xmi_X9_isMember.2.2.2.2.1 ∈ xG := xw_in2 (K := 4) (i := 2) rfl rfl
set_option maxRecDepth 20000 in
theorem xo_c_X9_isMember_0 : xc_b xmi_X9_isMember xc_X9_isMember 0 32 = true := by decide +kernel
theorem xo_r_X9_isMember : ∀ (pc : Nat) (r : xr_R), xcl xc_X9_isMember pc = some r → xr_b xmi_X9_isMember.1 (xm_ini xmi_X9_isMember) xmi_X9_isMember.2.2.1 pc r = true ∧ xr_c xM xmi_X9_isMember.1 r = true := xc_up_e (mi := xmi_X9_isMember) (cd := xc_X9_isMember) (N := 32) (xc_up_s (mi := xmi_X9_isMember) (cd := xc_X9_isMember) (lo := 0) (n := 32) xc_up_0 xo_c_X9_isMember_0) (by decide +kernel)
set_option maxRecDepth 20000 in
theorem xo_m_X9_isSet : xm_b xmi_X9_isSet (1, 1) (3, 144) (0, 21) = true := by decide +kernel
theorem xo_w_X9_isSet : Cond.code xmi_X9_isSet.2.1 xmi_X9_isSet.2.2.1 xmi_X9_isSet.2.2.2.1 xmi_X9_isSet.2.2.2.2.1 ∈ xG := xw_in2 (K := 3) (i := 145) rfl rfl
set_option maxRecDepth 20000 in
theorem xo_c_X9_isSet_0 : xc_b xmi_X9_isSet xc_X9_isSet 0 32 = true := by decide +kernel
theorem xo_r_X9_isSet : ∀ (pc : Nat) (r : xr_R), xcl xc_X9_isSet pc = some r → xr_b xmi_X9_isSet.1 (xm_ini xmi_X9_isSet) xmi_X9_isSet.2.2.1 pc r = true ∧ xr_c xM xmi_X9_isSet.1 r = true := xc_up_e (mi := xmi_X9_isSet) (cd := xc_X9_isSet) (N := 32) (xc_up_s (mi := xmi_X9_isSet) (cd := xc_X9_isSet) (lo := 0) (n := 32) xc_up_0 xo_c_X9_isSet_0) (by decide +kernel)
set_option maxRecDepth 20000 in
theorem xo_m_X9_inForce : xm_b xmi_X9_inForce (1, 1) (3, 148) (0, 22) = true := by decide +kernel
theorem xo_w_X9_inForce : Cond.code xmi_X9_inForce.2.1 xmi_X9_inForce.2.2.1 xmi_X9_inForce.2.2.2.1 xmi_X9_inForce.2.2.2.2.1 ∈ xG := xw_in2 (K := 3) (i := 149) rfl rfl
set_option maxRecDepth 20000 in
theorem xo_c_X9_inForce_0 : xc_b xmi_X9_inForce xc_X9_inForce 0 64 = true := by decide +kernel
theorem xo_r_X9_inForce : ∀ (pc : Nat) (r : xr_R), xcl xc_X9_inForce pc = some r → xr_b xmi_X9_inForce.1 (xm_ini xmi_X9_inForce) xmi_X9_inForce.2.2.1 pc r = true ∧ xr_c xM xmi_X9_inForce.1 r = true := xc_up_e (mi := xmi_X9_inForce) (cd := xc_X9_inForce) (N := 64) (xc_up_s (mi := xmi_X9_inForce) (cd := xc_X9_inForce) (lo := 0) (n := 64) xc_up_0 xo_c_X9_inForce_0) (by decide +kernel)
set_option maxRecDepth 20000 in
theorem xo_m_X9_powersToday : xm_b xmi_X9_powersToday (1, 1) (3, 160) (0, 23) = true := by decide +kernel
theorem xo_w_X9_powersToday : Cond.code xmi_X9_powersToday.2.1 xmi_X9_powersToday.2.2.1 xmi_X9_powersToday.2.2.2.1 xmi_X9_powersToday.2.2.2.2.1 ∈ xG := xw_in2 (K := 3) (i := 161) rfl rfl
set_option maxRecDepth 20000 in
theorem xo_c_X9_powersToday_0 : xc_b xmi_X9_powersToday xc_X9_powersToday 0 32 = true := by decide +kernel
theorem xo_r_X9_powersToday : ∀ (pc : Nat) (r : xr_R), xcl xc_X9_powersToday pc = some r → xr_b xmi_X9_powersToday.1 (xm_ini xmi_X9_powersToday) xmi_X9_powersToday.2.2.1 pc r = true ∧ xr_c xM xmi_X9_powersToday.1 r = true := xc_up_e (mi := xmi_X9_powersToday) (cd := xc_X9_powersToday) (N := 32) (xc_up_s (mi := xmi_X9_powersToday) (cd := xc_X9_powersToday) (lo := 0) (n := 32) xc_up_0 xo_c_X9_powersToday_0) (by decide +kernel)
set_option maxRecDepth 20000 in
theorem xo_m_X9_commonDivisor : xm_b xmi_X9_commonDivisor (1, 1) (5, 75) (99, 0) = true := by decide +kernel
theorem xo_w_X9_commonDivisor : Cond.code xmi_X9_commonDivisor.2.1 xmi_X9_commonDivisor.2.2.1 xmi_X9_commonDivisor.2.2.2.1 xmi_X9_commonDivisor.2.2.2.2.1 ∈ xG := xw_in2 (K := 5) (i := 76) rfl rfl
set_option maxRecDepth 20000 in
theorem xo_c_X9_commonDivisor_0 : xc_b xmi_X9_commonDivisor xc_X9_commonDivisor 0 48 = true := by decide +kernel
theorem xo_r_X9_commonDivisor : ∀ (pc : Nat) (r : xr_R), xcl xc_X9_commonDivisor pc = some r → xr_b xmi_X9_commonDivisor.1 (xm_ini xmi_X9_commonDivisor) xmi_X9_commonDivisor.2.2.1 pc r = true ∧ xr_c xM xmi_X9_commonDivisor.1 r = true := xc_up_e (mi := xmi_X9_commonDivisor) (cd := xc_X9_commonDivisor) (N := 48) (xc_up_s (mi := xmi_X9_commonDivisor) (cd := xc_X9_commonDivisor) (lo := 0) (n := 48) xc_up_0 xo_c_X9_commonDivisor_0) (by decide +kernel)
set_option maxRecDepth 20000 in
theorem xo_m_X10_init : xm_b xmi_X10_init (1, 11) (5, 80) (99, 0) = true := by decide +kernel
theorem xo_w_X10_init : Cond.code xmi_X10_init.2.1 xmi_X10_init.2.2.1 xmi_X10_init.2.2.2.1 xmi_X10_init.2.2.2.2.1 ∈ xG := xw_in2 (K := 5) (i := 81) rfl rfl
set_option maxRecDepth 20000 in
theorem xo_c_X10_init_0 : xc_b xmi_X10_init xc_X10_init 0 48 = true := by decide +kernel
set_option maxRecDepth 20000 in
theorem xo_c_X10_init_48 : xc_b xmi_X10_init xc_X10_init 48 48 = true := by decide +kernel
set_option maxRecDepth 20000 in
theorem xo_c_X10_init_96 : xc_b xmi_X10_init xc_X10_init 96 48 = true := by decide +kernel
set_option maxRecDepth 20000 in
theorem xo_c_X10_init_144 : xc_b xmi_X10_init xc_X10_init 144 48 = true := by decide +kernel
set_option maxRecDepth 20000 in
theorem xo_c_X10_init_192 : xc_b xmi_X10_init xc_X10_init 192 48 = true := by decide +kernel
set_option maxRecDepth 20000 in
theorem xo_c_X10_init_240 : xc_b xmi_X10_init xc_X10_init 240 48 = true := by decide +kernel
set_option maxRecDepth 20000 in
theorem xo_c_X10_init_288 : xc_b xmi_X10_init xc_X10_init 288 48 = true := by decide +kernel
set_option maxRecDepth 20000 in
theorem xo_c_X10_init_336 : xc_b xmi_X10_init xc_X10_init 336 48 = true := by decide +kernel
set_option maxRecDepth 20000 in
theorem xo_c_X10_init_384 : xc_b xmi_X10_init xc_X10_init 384 48 = true := by decide +kernel
set_option maxRecDepth 20000 in
theorem xo_c_X10_init_432 : xc_b xmi_X10_init xc_X10_init 432 48 = true := by decide +kernel
set_option maxRecDepth 20000 in
theorem xo_c_X10_init_480 : xc_b xmi_X10_init xc_X10_init 480 48 = true := by decide +kernel
set_option maxRecDepth 20000 in
theorem xo_c_X10_init_528 : xc_b xmi_X10_init xc_X10_init 528 48 = true := by decide +kernel
set_option maxRecDepth 20000 in
theorem xo_c_X10_init_576 : xc_b xmi_X10_init xc_X10_init 576 48 = true := by decide +kernel
set_option maxRecDepth 20000 in
theorem xo_c_X10_init_624 : xc_b xmi_X10_init xc_X10_init 624 48 = true := by decide +kernel
set_option maxRecDepth 20000 in
theorem xo_c_X10_init_672 : xc_b xmi_X10_init xc_X10_init 672 32 = true := by decide +kernel
theorem xo_r_X10_init : ∀ (pc : Nat) (r : xr_R), xcl xc_X10_init pc = some r → xr_b xmi_X10_init.1 (xm_ini xmi_X10_init) xmi_X10_init.2.2.1 pc r = true ∧ xr_c xM xmi_X10_init.1 r = true := xc_up_e (mi := xmi_X10_init) (cd := xc_X10_init) (N := 704) (xc_up_s (mi := xmi_X10_init) (cd := xc_X10_init) (lo := 672) (n := 32) (xc_up_s (mi := xmi_X10_init) (cd := xc_X10_init) (lo := 624) (n := 48) (xc_up_s (mi := xmi_X10_init) (cd := xc_X10_init) (lo := 576) (n := 48) (xc_up_s (mi := xmi_X10_init) (cd := xc_X10_init) (lo := 528) (n := 48) (xc_up_s (mi := xmi_X10_init) (cd := xc_X10_init) (lo := 480) (n := 48) (xc_up_s (mi := xmi_X10_init) (cd := xc_X10_init) (lo := 432) (n := 48) (xc_up_s (mi := xmi_X10_init) (cd := xc_X10_init) (lo := 384) (n := 48) (xc_up_s (mi := xmi_X10_init) (cd := xc_X10_init) (lo := 336) (n := 48) (xc_up_s (mi := xmi_X10_init) (cd := xc_X10_init) (lo := 288) (n := 48) (xc_up_s (mi := xmi_X10_init) (cd := xc_X10_init) (lo := 240) (n := 48) (xc_up_s (mi := xmi_X10_init) (cd := xc_X10_init) (lo := 192) (n := 48) (xc_up_s (mi := xmi_X10_init) (cd := xc_X10_init) (lo := 144) (n := 48) (xc_up_s (mi := xmi_X10_init) (cd := xc_X10_init) (lo := 96) (n := 48) (xc_up_s (mi := xmi_X10_init) (cd := xc_X10_init) (lo := 48) (n := 48) (xc_up_s (mi := xmi_X10_init) (cd := xc_X10_init) (lo := 0) (n := 48) xc_up_0 xo_c_X10_init_0) xo_c_X10_init_48) xo_c_X10_init_96) xo_c_X10_init_144) xo_c_X10_init_192) xo_c_X10_init_240) xo_c_X10_init_288) xo_c_X10_init_336) xo_c_X10_init_384) xo_c_X10_init_432) xo_c_X10_init_480) xo_c_X10_init_528) xo_c_X10_init_576) xo_c_X10_init_624) xo_c_X10_init_672) (by decide +kernel)
set_option maxRecDepth 20000 in
theorem xo_m_X10_refuse : xm_b xmi_X10_refuse (1, 11) (7, 29) (0, 97) = true := by decide +kernel
theorem xo_w_X10_refuse : Cond.code xmi_X10_refuse.2.1 xmi_X10_refuse.2.2.1 xmi_X10_refuse.2.2.2.1 xmi_X10_refuse.2.2.2.2.1 ∈ xG := xw_in2 (K := 7) (i := 30) rfl rfl
set_option maxRecDepth 20000 in
theorem xo_c_X10_refuse_0 : xc_b xmi_X10_refuse xc_X10_refuse 0 16 = true := by decide +kernel
theorem xo_r_X10_refuse : ∀ (pc : Nat) (r : xr_R), xcl xc_X10_refuse pc = some r → xr_b xmi_X10_refuse.1 (xm_ini xmi_X10_refuse) xmi_X10_refuse.2.2.1 pc r = true ∧ xr_c xM xmi_X10_refuse.1 r = true := xc_up_e (mi := xmi_X10_refuse) (cd := xc_X10_refuse) (N := 16) (xc_up_s (mi := xmi_X10_refuse) (cd := xc_X10_refuse) (lo := 0) (n := 16) xc_up_0 xo_c_X10_refuse_0) (by decide +kernel)
set_option maxRecDepth 20000 in
theorem xo_m_X10_come : xm_b xmi_X10_come (1, 11) (6, 45) (0, 57) = true := by decide +kernel
theorem xo_w_X10_come : Cond.code xmi_X10_come.2.1 xmi_X10_come.2.2.1 xmi_X10_come.2.2.2.1 xmi_X10_come.2.2.2.2.1 ∈ xG := xw_in2 (K := 6) (i := 46) rfl rfl
set_option maxRecDepth 20000 in
theorem xo_c_X10_come_0 : xc_b xmi_X10_come xc_X10_come 0 48 = true := by decide +kernel
theorem xo_r_X10_come : ∀ (pc : Nat) (r : xr_R), xcl xc_X10_come pc = some r → xr_b xmi_X10_come.1 (xm_ini xmi_X10_come) xmi_X10_come.2.2.1 pc r = true ∧ xr_c xM xmi_X10_come.1 r = true := xc_up_e (mi := xmi_X10_come) (cd := xc_X10_come) (N := 48) (xc_up_s (mi := xmi_X10_come) (cd := xc_X10_come) (lo := 0) (n := 48) xc_up_0 xo_c_X10_come_0) (by decide +kernel)
set_option maxRecDepth 20000 in
theorem xo_m_X10_feed : xm_b xmi_X10_feed (1, 11) (6, 40) (6, 41) = true := by decide +kernel
theorem xo_w_X10_feed : Cond.code xmi_X10_feed.2.1 xmi_X10_feed.2.2.1 xmi_X10_feed.2.2.2.1 xmi_X10_feed.2.2.2.2.1 ∈ xG := xw_in2 (K := 6) (i := 42) rfl rfl
set_option maxRecDepth 20000 in
theorem xo_c_X10_feed_0 : xc_b xmi_X10_feed xc_X10_feed 0 64 = true := by decide +kernel
theorem xo_r_X10_feed : ∀ (pc : Nat) (r : xr_R), xcl xc_X10_feed pc = some r → xr_b xmi_X10_feed.1 (xm_ini xmi_X10_feed) xmi_X10_feed.2.2.1 pc r = true ∧ xr_c xM xmi_X10_feed.1 r = true := xc_up_e (mi := xmi_X10_feed) (cd := xc_X10_feed) (N := 64) (xc_up_s (mi := xmi_X10_feed) (cd := xc_X10_feed) (lo := 0) (n := 64) xc_up_0 xo_c_X10_feed_0) (by decide +kernel)
set_option maxRecDepth 20000 in
theorem xo_m_X10_end : xm_b xmi_X10_end (1, 11) (6, 48) (6, 49) = true := by decide +kernel
theorem xo_w_X10_end : Cond.code xmi_X10_end.2.1 xmi_X10_end.2.2.1 xmi_X10_end.2.2.2.1 xmi_X10_end.2.2.2.2.1 ∈ xG := xw_in2 (K := 6) (i := 50) rfl rfl
set_option maxRecDepth 20000 in
theorem xo_c_X10_end_0 : xc_b xmi_X10_end xc_X10_end 0 32 = true := by decide +kernel
theorem xo_r_X10_end : ∀ (pc : Nat) (r : xr_R), xcl xc_X10_end pc = some r → xr_b xmi_X10_end.1 (xm_ini xmi_X10_end) xmi_X10_end.2.2.1 pc r = true ∧ xr_c xM xmi_X10_end.1 r = true := xc_up_e (mi := xmi_X10_end) (cd := xc_X10_end) (N := 32) (xc_up_s (mi := xmi_X10_end) (cd := xc_X10_end) (lo := 0) (n := 32) xc_up_0 xo_c_X10_end_0) (by decide +kernel)
set_option maxRecDepth 20000 in
theorem xo_m_X10_take : xm_b xmi_X10_take (1, 11) (6, 68) (0, 58) = true := by decide +kernel
theorem xo_w_X10_take : Cond.code xmi_X10_take.2.1 xmi_X10_take.2.2.1 xmi_X10_take.2.2.2.1 xmi_X10_take.2.2.2.2.1 ∈ xG := xw_in2 (K := 6) (i := 69) rfl rfl
set_option maxRecDepth 20000 in
theorem xo_c_X10_take_0 : xc_b xmi_X10_take xc_X10_take 0 16 = true := by decide +kernel
theorem xo_r_X10_take : ∀ (pc : Nat) (r : xr_R), xcl xc_X10_take pc = some r → xr_b xmi_X10_take.1 (xm_ini xmi_X10_take) xmi_X10_take.2.2.1 pc r = true ∧ xr_c xM xmi_X10_take.1 r = true := xc_up_e (mi := xmi_X10_take) (cd := xc_X10_take) (N := 16) (xc_up_s (mi := xmi_X10_take) (cd := xc_X10_take) (lo := 0) (n := 16) xc_up_0 xo_c_X10_take_0) (by decide +kernel)
set_option maxRecDepth 20000 in
theorem xo_m_X10_isIn : xm_b xmi_X10_isIn (1, 11) (6, 56) (99, 0) = true := by decide +kernel
theorem xo_w_X10_isIn : Cond.code xmi_X10_isIn.2.1 xmi_X10_isIn.2.2.1 xmi_X10_isIn.2.2.2.1 xmi_X10_isIn.2.2.2.2.1 ∈ xG := xw_in2 (K := 6) (i := 57) rfl rfl
set_option maxRecDepth 20000 in
theorem xo_c_X10_isIn_0 : xc_b xmi_X10_isIn xc_X10_isIn 0 16 = true := by decide +kernel
theorem xo_r_X10_isIn : ∀ (pc : Nat) (r : xr_R), xcl xc_X10_isIn pc = some r → xr_b xmi_X10_isIn.1 (xm_ini xmi_X10_isIn) xmi_X10_isIn.2.2.1 pc r = true ∧ xr_c xM xmi_X10_isIn.1 r = true := xc_up_e (mi := xmi_X10_isIn) (cd := xc_X10_isIn) (N := 16) (xc_up_s (mi := xmi_X10_isIn) (cd := xc_X10_isIn) (lo := 0) (n := 16) xc_up_0 xo_c_X10_isIn_0) (by decide +kernel)
set_option maxRecDepth 20000 in
theorem xo_m_X10_next : xm_b xmi_X10_next (1, 11) (6, 52) (6, 53) = true := by decide +kernel
theorem xo_w_X10_next : Cond.code xmi_X10_next.2.1 xmi_X10_next.2.2.1 xmi_X10_next.2.2.2.1 xmi_X10_next.2.2.2.2.1 ∈ xG := xw_in2 (K := 6) (i := 54) rfl rfl
set_option maxRecDepth 20000 in
theorem xo_c_X10_next_0 : xc_b xmi_X10_next xc_X10_next 0 48 = true := by decide +kernel
theorem xo_r_X10_next : ∀ (pc : Nat) (r : xr_R), xcl xc_X10_next pc = some r → xr_b xmi_X10_next.1 (xm_ini xmi_X10_next) xmi_X10_next.2.2.1 pc r = true ∧ xr_c xM xmi_X10_next.1 r = true := xc_up_e (mi := xmi_X10_next) (cd := xc_X10_next) (N := 48) (xc_up_s (mi := xmi_X10_next) (cd := xc_X10_next) (lo := 0) (n := 48) xc_up_0 xo_c_X10_next_0) (by decide +kernel)
set_option maxRecDepth 20000 in
theorem xo_m_X10_members : xm_b xmi_X10_members (1, 11) (6, 59) (6, 60) = true := by decide +kernel
theorem xo_w_X10_members : Cond.code xmi_X10_members.2.1 xmi_X10_members.2.2.1 xmi_X10_members.2.2.2.1 xmi_X10_members.2.2.2.2.1 ∈ xG := xw_in2 (K := 6) (i := 61) rfl rfl
set_option maxRecDepth 20000 in
theorem xo_c_X10_members_0 : xc_b xmi_X10_members xc_X10_members 0 48 = true := by decide +kernel
theorem xo_r_X10_members : ∀ (pc : Nat) (r : xr_R), xcl xc_X10_members pc = some r → xr_b xmi_X10_members.1 (xm_ini xmi_X10_members) xmi_X10_members.2.2.1 pc r = true ∧ xr_c xM xmi_X10_members.1 r = true := xc_up_e (mi := xmi_X10_members) (cd := xc_X10_members) (N := 48) (xc_up_s (mi := xmi_X10_members) (cd := xc_X10_members) (lo := 0) (n := 48) xc_up_0 xo_c_X10_members_0) (by decide +kernel)
set_option maxRecDepth 20000 in
theorem xo_m_X10_isMember : xm_b xmi_X10_isMember (1, 11) (6, 158) (0, 77) = true := by decide +kernel
theorem xo_w_X10_isMember : Cond.code xmi_X10_isMember.2.1 xmi_X10_isMember.2.2.1 xmi_X10_isMember.2.2.2.1 xmi_X10_isMember.2.2.2.2.1 ∈ xG := xw_in2 (K := 6) (i := 159) rfl rfl
set_option maxRecDepth 20000 in
theorem xo_c_X10_isMember_0 : xc_b xmi_X10_isMember xc_X10_isMember 0 32 = true := by decide +kernel
theorem xo_r_X10_isMember : ∀ (pc : Nat) (r : xr_R), xcl xc_X10_isMember pc = some r → xr_b xmi_X10_isMember.1 (xm_ini xmi_X10_isMember) xmi_X10_isMember.2.2.1 pc r = true ∧ xr_c xM xmi_X10_isMember.1 r = true := xc_up_e (mi := xmi_X10_isMember) (cd := xc_X10_isMember) (N := 32) (xc_up_s (mi := xmi_X10_isMember) (cd := xc_X10_isMember) (lo := 0) (n := 32) xc_up_0 xo_c_X10_isMember_0) (by decide +kernel)
set_option maxRecDepth 20000 in
theorem xo_m_X10_isSet : xm_b xmi_X10_isSet (1, 11) (6, 186) (0, 82) = true := by decide +kernel
theorem xo_w_X10_isSet : Cond.code xmi_X10_isSet.2.1 xmi_X10_isSet.2.2.1 xmi_X10_isSet.2.2.2.1 xmi_X10_isSet.2.2.2.2.1 ∈ xG := xw_in2 (K := 6) (i := 187) rfl rfl
set_option maxRecDepth 20000 in
theorem xo_c_X10_isSet_0 : xc_b xmi_X10_isSet xc_X10_isSet 0 32 = true := by decide +kernel
theorem xo_r_X10_isSet : ∀ (pc : Nat) (r : xr_R), xcl xc_X10_isSet pc = some r → xr_b xmi_X10_isSet.1 (xm_ini xmi_X10_isSet) xmi_X10_isSet.2.2.1 pc r = true ∧ xr_c xM xmi_X10_isSet.1 r = true := xc_up_e (mi := xmi_X10_isSet) (cd := xc_X10_isSet) (N := 32) (xc_up_s (mi := xmi_X10_isSet) (cd := xc_X10_isSet) (lo := 0) (n := 32) xc_up_0 xo_c_X10_isSet_0) (by decide +kernel)
set_option maxRecDepth 20000 in
theorem xo_m_X10_sizeOf : xm_b xmi_X10_sizeOf (1, 11) (6, 229) (99, 0) = true := by decide +kernel
theorem xo_w_X10_sizeOf : Cond.code xmi_X10_sizeOf.2.1 xmi_X10_sizeOf.2.2.1 xmi_X10_sizeOf.2.2.2.1 xmi_X10_sizeOf.2.2.2.2.1 ∈ xG := xw_in2 (K := 6) (i := 230) rfl rfl
set_option maxRecDepth 20000 in
theorem xo_c_X10_sizeOf_0 : xc_b xmi_X10_sizeOf xc_X10_sizeOf 0 32 = true := by decide +kernel
theorem xo_r_X10_sizeOf : ∀ (pc : Nat) (r : xr_R), xcl xc_X10_sizeOf pc = some r → xr_b xmi_X10_sizeOf.1 (xm_ini xmi_X10_sizeOf) xmi_X10_sizeOf.2.2.1 pc r = true ∧ xr_c xM xmi_X10_sizeOf.1 r = true := xc_up_e (mi := xmi_X10_sizeOf) (cd := xc_X10_sizeOf) (N := 32) (xc_up_s (mi := xmi_X10_sizeOf) (cd := xc_X10_sizeOf) (lo := 0) (n := 32) xc_up_0 xo_c_X10_sizeOf_0) (by decide +kernel)
set_option maxRecDepth 20000 in
theorem xo_m_X10_byteAt : xm_b xmi_X10_byteAt (1, 11) (6, 85) (0, 60) = true := by decide +kernel
theorem xo_w_X10_byteAt : Cond.code xmi_X10_byteAt.2.1 xmi_X10_byteAt.2.2.1 xmi_X10_byteAt.2.2.2.1 xmi_X10_byteAt.2.2.2.2.1 ∈ xG := xw_in2 (K := 6) (i := 86) rfl rfl
set_option maxRecDepth 20000 in
theorem xo_c_X10_byteAt_0 : xc_b xmi_X10_byteAt xc_X10_byteAt 0 32 = true := by decide +kernel
theorem xo_r_X10_byteAt : ∀ (pc : Nat) (r : xr_R), xcl xc_X10_byteAt pc = some r → xr_b xmi_X10_byteAt.1 (xm_ini xmi_X10_byteAt) xmi_X10_byteAt.2.2.1 pc r = true ∧ xr_c xM xmi_X10_byteAt.1 r = true := xc_up_e (mi := xmi_X10_byteAt) (cd := xc_X10_byteAt) (N := 32) (xc_up_s (mi := xmi_X10_byteAt) (cd := xc_X10_byteAt) (lo := 0) (n := 32) xc_up_0 xo_c_X10_byteAt_0) (by decide +kernel)
set_option maxRecDepth 20000 in
theorem xo_m_X10_isDigit : xm_b xmi_X10_isDigit (1, 11) (6, 78) (99, 0) = true := by decide +kernel
theorem xo_w_X10_isDigit : Cond.code xmi_X10_isDigit.2.1 xmi_X10_isDigit.2.2.1 xmi_X10_isDigit.2.2.2.1 xmi_X10_isDigit.2.2.2.2.1 ∈ xG := xw_in2 (K := 6) (i := 79) rfl rfl
set_option maxRecDepth 20000 in
theorem xo_c_X10_isDigit_0 : xc_b xmi_X10_isDigit xc_X10_isDigit 0 32 = true := by decide +kernel
theorem xo_r_X10_isDigit : ∀ (pc : Nat) (r : xr_R), xcl xc_X10_isDigit pc = some r → xr_b xmi_X10_isDigit.1 (xm_ini xmi_X10_isDigit) xmi_X10_isDigit.2.2.1 pc r = true ∧ xr_c xM xmi_X10_isDigit.1 r = true := xc_up_e (mi := xmi_X10_isDigit) (cd := xc_X10_isDigit) (N := 32) (xc_up_s (mi := xmi_X10_isDigit) (cd := xc_X10_isDigit) (lo := 0) (n := 32) xc_up_0 xo_c_X10_isDigit_0) (by decide +kernel)
set_option maxRecDepth 20000 in
theorem xo_m_X10_isLetter : xm_b xmi_X10_isLetter (1, 11) (6, 75) (99, 0) = true := by decide +kernel
theorem xo_w_X10_isLetter : Cond.code xmi_X10_isLetter.2.1 xmi_X10_isLetter.2.2.1 xmi_X10_isLetter.2.2.2.1 xmi_X10_isLetter.2.2.2.2.1 ∈ xG := xw_in2 (K := 6) (i := 76) rfl rfl
set_option maxRecDepth 20000 in
theorem xo_c_X10_isLetter_0 : xc_b xmi_X10_isLetter xc_X10_isLetter 0 32 = true := by decide +kernel
theorem xo_r_X10_isLetter : ∀ (pc : Nat) (r : xr_R), xcl xc_X10_isLetter pc = some r → xr_b xmi_X10_isLetter.1 (xm_ini xmi_X10_isLetter) xmi_X10_isLetter.2.2.1 pc r = true ∧ xr_c xM xmi_X10_isLetter.1 r = true := xc_up_e (mi := xmi_X10_isLetter) (cd := xc_X10_isLetter) (N := 32) (xc_up_s (mi := xmi_X10_isLetter) (cd := xc_X10_isLetter) (lo := 0) (n := 32) xc_up_0 xo_c_X10_isLetter_0) (by decide +kernel)
set_option maxRecDepth 20000 in
theorem xo_m_X10_isMark : xm_b xmi_X10_isMark (1, 11) (6, 81) (99, 0) = true := by decide +kernel
theorem xo_w_X10_isMark : Cond.code xmi_X10_isMark.2.1 xmi_X10_isMark.2.2.1 xmi_X10_isMark.2.2.2.1 xmi_X10_isMark.2.2.2.2.1 ∈ xG := xw_in2 (K := 6) (i := 82) rfl rfl
set_option maxRecDepth 20000 in
theorem xo_c_X10_isMark_0 : xc_b xmi_X10_isMark xc_X10_isMark 0 48 = true := by decide +kernel
theorem xo_r_X10_isMark : ∀ (pc : Nat) (r : xr_R), xcl xc_X10_isMark pc = some r → xr_b xmi_X10_isMark.1 (xm_ini xmi_X10_isMark) xmi_X10_isMark.2.2.1 pc r = true ∧ xr_c xM xmi_X10_isMark.1 r = true := xc_up_e (mi := xmi_X10_isMark) (cd := xc_X10_isMark) (N := 48) (xc_up_s (mi := xmi_X10_isMark) (cd := xc_X10_isMark) (lo := 0) (n := 48) xc_up_0 xo_c_X10_isMark_0) (by decide +kernel)
set_option maxRecDepth 20000 in
theorem xo_m_X10_go : xm_b xmi_X10_go (1, 11) (6, 72) (0, 59) = true := by decide +kernel
theorem xo_w_X10_go : Cond.code xmi_X10_go.2.1 xmi_X10_go.2.2.1 xmi_X10_go.2.2.2.1 xmi_X10_go.2.2.2.2.1 ∈ xG := xw_in2 (K := 6) (i := 73) rfl rfl
set_option maxRecDepth 20000 in
theorem xo_c_X10_go_0 : xc_b xmi_X10_go xc_X10_go 0 112 = true := by decide +kernel
set_option maxRecDepth 20000 in
theorem xo_c_X10_go_112 : xc_b xmi_X10_go xc_X10_go 112 112 = true := by decide +kernel
set_option maxRecDepth 20000 in
theorem xo_c_X10_go_224 : xc_b xmi_X10_go xc_X10_go 224 112 = true := by decide +kernel
set_option maxRecDepth 20000 in
theorem xo_c_X10_go_336 : xc_b xmi_X10_go xc_X10_go 336 48 = true := by decide +kernel
theorem xo_r_X10_go : ∀ (pc : Nat) (r : xr_R), xcl xc_X10_go pc = some r → xr_b xmi_X10_go.1 (xm_ini xmi_X10_go) xmi_X10_go.2.2.1 pc r = true ∧ xr_c xM xmi_X10_go.1 r = true := xc_up_e (mi := xmi_X10_go) (cd := xc_X10_go) (N := 384) (xc_up_s (mi := xmi_X10_go) (cd := xc_X10_go) (lo := 336) (n := 48) (xc_up_s (mi := xmi_X10_go) (cd := xc_X10_go) (lo := 224) (n := 112) (xc_up_s (mi := xmi_X10_go) (cd := xc_X10_go) (lo := 112) (n := 112) (xc_up_s (mi := xmi_X10_go) (cd := xc_X10_go) (lo := 0) (n := 112) xc_up_0 xo_c_X10_go_0) xo_c_X10_go_112) xo_c_X10_go_224) xo_c_X10_go_336) (by decide +kernel)
end XCK5
end
section
section XCK6
set_option maxRecDepth 20000 in
theorem xo_m_X10_spelt : xm_b xmi_X10_spelt (1, 11) (6, 94) (99, 0) = true := by decide +kernel
theorem xo_w_X10_spelt : Cond.code xmi_X10_spelt.2.1 xmi_X10_spelt.2.2.1 xmi_X10_spelt.2.2.2.1 xmi_X10_spelt.2.2.2.2.1 ∈ xG := xw_in2 (K := 6) (i := 95) rfl rfl
set_option maxRecDepth 20000 in
theorem xo_c_X10_spelt_0 : xc_b xmi_X10_spelt xc_X10_spelt 0 96 = true := by decide +kernel
theorem xo_r_X10_spelt : ∀ (pc : Nat) (r : xr_R), xcl xc_X10_spelt pc = some r → xr_b xmi_X10_spelt.1 (xm_ini xmi_X10_spelt) xmi_X10_spelt.2.2.1 pc r = true ∧ xr_c xM xmi_X10_spelt.1 r = true := xc_up_e (mi := xmi_X10_spelt) (cd := xc_X10_spelt) (N := 96) (xc_up_s (mi := xmi_X10_spelt) (cd := xc_X10_spelt) (lo := 0) (n := 96) xc_up_0 xo_c_X10_spelt_0) (by decide +kernel)
set_option maxRecDepth 20000 in
theorem xo_m_X10_isKey : xm_b xmi_X10_isKey (1, 11) (6, 98) (0, 62) = true := by decide +kernel
theorem xo_w_X10_isKey : Cond.code xmi_X10_isKey.2.1 xmi_X10_isKey.2.2.1 xmi_X10_isKey.2.2.2.1 xmi_X10_isKey.2.2.2.2.1 ∈ xG := xw_in2 (K := 6) (i := 99) rfl rfl
set_option maxRecDepth 20000 in
theorem xo_c_X10_isKey_0 : xc_b xmi_X10_isKey xc_X10_isKey 0 32 = true := by decide +kernel
theorem xo_r_X10_isKey : ∀ (pc : Nat) (r : xr_R), xcl xc_X10_isKey pc = some r → xr_b xmi_X10_isKey.1 (xm_ini xmi_X10_isKey) xmi_X10_isKey.2.2.1 pc r = true ∧ xr_c xM xmi_X10_isKey.1 r = true := xc_up_e (mi := xmi_X10_isKey) (cd := xc_X10_isKey) (N := 32) (xc_up_s (mi := xmi_X10_isKey) (cd := xc_X10_isKey) (lo := 0) (n := 32) xc_up_0 xo_c_X10_isKey_0) (by decide +kernel)
set_option maxRecDepth 20000 in
theorem xo_m_X10_isBody : xm_b xmi_X10_isBody (1, 11) (6, 91) (0, 61) = true := by decide +kernel
theorem xo_w_X10_isBody : Cond.code xmi_X10_isBody.2.1 xmi_X10_isBody.2.2.1 xmi_X10_isBody.2.2.2.1 xmi_X10_isBody.2.2.2.2.1 ∈ xG := xw_in2 (K := 6) (i := 92) rfl rfl
set_option maxRecDepth 20000 in
theorem xo_c_X10_isBody_0 : xc_b xmi_X10_isBody xc_X10_isBody 0 32 = true := by decide +kernel
theorem xo_r_X10_isBody : ∀ (pc : Nat) (r : xr_R), xcl xc_X10_isBody pc = some r → xr_b xmi_X10_isBody.1 (xm_ini xmi_X10_isBody) xmi_X10_isBody.2.2.1 pc r = true ∧ xr_c xM xmi_X10_isBody.1 r = true := xc_up_e (mi := xmi_X10_isBody) (cd := xc_X10_isBody) (N := 32) (xc_up_s (mi := xmi_X10_isBody) (cd := xc_X10_isBody) (lo := 0) (n := 32) xc_up_0 xo_c_X10_isBody_0) (by decide +kernel)
set_option maxRecDepth 20000 in
theorem xo_m_X10_isCarry : xm_b xmi_X10_isCarry (1, 11) (6, 110) (0, 65) = true := by decide +kernel
theorem xo_w_X10_isCarry : Cond.code xmi_X10_isCarry.2.1 xmi_X10_isCarry.2.2.1 xmi_X10_isCarry.2.2.2.1 xmi_X10_isCarry.2.2.2.2.1 ∈ xG := xw_in2 (K := 6) (i := 111) rfl rfl
set_option maxRecDepth 20000 in
theorem xo_c_X10_isCarry_0 : xc_b xmi_X10_isCarry xc_X10_isCarry 0 32 = true := by decide +kernel
theorem xo_r_X10_isCarry : ∀ (pc : Nat) (r : xr_R), xcl xc_X10_isCarry pc = some r → xr_b xmi_X10_isCarry.1 (xm_ini xmi_X10_isCarry) xmi_X10_isCarry.2.2.1 pc r = true ∧ xr_c xM xmi_X10_isCarry.1 r = true := xc_up_e (mi := xmi_X10_isCarry) (cd := xc_X10_isCarry) (N := 32) (xc_up_s (mi := xmi_X10_isCarry) (cd := xc_X10_isCarry) (lo := 0) (n := 32) xc_up_0 xo_c_X10_isCarry_0) (by decide +kernel)
set_option maxRecDepth 20000 in
theorem xo_m_X10_isAnd : xm_b xmi_X10_isAnd (1, 11) (6, 114) (0, 66) = true := by decide +kernel
theorem xo_w_X10_isAnd : Cond.code xmi_X10_isAnd.2.1 xmi_X10_isAnd.2.2.1 xmi_X10_isAnd.2.2.2.1 xmi_X10_isAnd.2.2.2.2.1 ∈ xG := xw_in2 (K := 6) (i := 115) rfl rfl
set_option maxRecDepth 20000 in
theorem xo_c_X10_isAnd_0 : xc_b xmi_X10_isAnd xc_X10_isAnd 0 16 = true := by decide +kernel
theorem xo_r_X10_isAnd : ∀ (pc : Nat) (r : xr_R), xcl xc_X10_isAnd pc = some r → xr_b xmi_X10_isAnd.1 (xm_ini xmi_X10_isAnd) xmi_X10_isAnd.2.2.1 pc r = true ∧ xr_c xM xmi_X10_isAnd.1 r = true := xc_up_e (mi := xmi_X10_isAnd) (cd := xc_X10_isAnd) (N := 16) (xc_up_s (mi := xmi_X10_isAnd) (cd := xc_X10_isAnd) (lo := 0) (n := 16) xc_up_0 xo_c_X10_isAnd_0) (by decide +kernel)
set_option maxRecDepth 20000 in
theorem xo_m_X10_isOr : xm_b xmi_X10_isOr (1, 11) (6, 118) (0, 67) = true := by decide +kernel
theorem xo_w_X10_isOr : Cond.code xmi_X10_isOr.2.1 xmi_X10_isOr.2.2.1 xmi_X10_isOr.2.2.2.1 xmi_X10_isOr.2.2.2.2.1 ∈ xG := xw_in2 (K := 6) (i := 119) rfl rfl
set_option maxRecDepth 20000 in
theorem xo_c_X10_isOr_0 : xc_b xmi_X10_isOr xc_X10_isOr 0 16 = true := by decide +kernel
theorem xo_r_X10_isOr : ∀ (pc : Nat) (r : xr_R), xcl xc_X10_isOr pc = some r → xr_b xmi_X10_isOr.1 (xm_ini xmi_X10_isOr) xmi_X10_isOr.2.2.1 pc r = true ∧ xr_c xM xmi_X10_isOr.1 r = true := xc_up_e (mi := xmi_X10_isOr) (cd := xc_X10_isOr) (N := 16) (xc_up_s (mi := xmi_X10_isOr) (cd := xc_X10_isOr) (lo := 0) (n := 16) xc_up_0 xo_c_X10_isOr_0) (by decide +kernel)
set_option maxRecDepth 20000 in
theorem xo_m_X10_isOf : xm_b xmi_X10_isOf (1, 11) (6, 122) (0, 68) = true := by decide +kernel
theorem xo_w_X10_isOf : Cond.code xmi_X10_isOf.2.1 xmi_X10_isOf.2.2.1 xmi_X10_isOf.2.2.2.1 xmi_X10_isOf.2.2.2.2.1 ∈ xG := xw_in2 (K := 6) (i := 123) rfl rfl
set_option maxRecDepth 20000 in
theorem xo_c_X10_isOf_0 : xc_b xmi_X10_isOf xc_X10_isOf 0 16 = true := by decide +kernel
theorem xo_r_X10_isOf : ∀ (pc : Nat) (r : xr_R), xcl xc_X10_isOf pc = some r → xr_b xmi_X10_isOf.1 (xm_ini xmi_X10_isOf) xmi_X10_isOf.2.2.1 pc r = true ∧ xr_c xM xmi_X10_isOf.1 r = true := xc_up_e (mi := xmi_X10_isOf) (cd := xc_X10_isOf) (N := 16) (xc_up_s (mi := xmi_X10_isOf) (cd := xc_X10_isOf) (lo := 0) (n := 16) xc_up_0 xo_c_X10_isOf_0) (by decide +kernel)
set_option maxRecDepth 20000 in
theorem xo_m_X10_isName : xm_b xmi_X10_isName (1, 11) (6, 106) (0, 64) = true := by decide +kernel
theorem xo_w_X10_isName : Cond.code xmi_X10_isName.2.1 xmi_X10_isName.2.2.1 xmi_X10_isName.2.2.2.1 xmi_X10_isName.2.2.2.2.1 ∈ xG := xw_in2 (K := 6) (i := 107) rfl rfl
set_option maxRecDepth 20000 in
theorem xo_c_X10_isName_0 : xc_b xmi_X10_isName xc_X10_isName 0 64 = true := by decide +kernel
theorem xo_r_X10_isName : ∀ (pc : Nat) (r : xr_R), xcl xc_X10_isName pc = some r → xr_b xmi_X10_isName.1 (xm_ini xmi_X10_isName) xmi_X10_isName.2.2.1 pc r = true ∧ xr_c xM xmi_X10_isName.1 r = true := xc_up_e (mi := xmi_X10_isName) (cd := xc_X10_isName) (N := 64) (xc_up_s (mi := xmi_X10_isName) (cd := xc_X10_isName) (lo := 0) (n := 64) xc_up_0 xo_c_X10_isName_0) (by decide +kernel)
set_option maxRecDepth 20000 in
theorem xo_m_X10_isSign : xm_b xmi_X10_isSign (1, 11) (6, 134) (0, 71) = true := by decide +kernel
theorem xo_w_X10_isSign : Cond.code xmi_X10_isSign.2.1 xmi_X10_isSign.2.2.1 xmi_X10_isSign.2.2.2.1 xmi_X10_isSign.2.2.2.2.1 ∈ xG := xw_in2 (K := 6) (i := 135) rfl rfl
set_option maxRecDepth 20000 in
theorem xo_c_X10_isSign_0 : xc_b xmi_X10_isSign xc_X10_isSign 0 32 = true := by decide +kernel
theorem xo_r_X10_isSign : ∀ (pc : Nat) (r : xr_R), xcl xc_X10_isSign pc = some r → xr_b xmi_X10_isSign.1 (xm_ini xmi_X10_isSign) xmi_X10_isSign.2.2.1 pc r = true ∧ xr_c xM xmi_X10_isSign.1 r = true := xc_up_e (mi := xmi_X10_isSign) (cd := xc_X10_isSign) (N := 32) (xc_up_s (mi := xmi_X10_isSign) (cd := xc_X10_isSign) (lo := 0) (n := 32) xc_up_0 xo_c_X10_isSign_0) (by decide +kernel)
set_option maxRecDepth 20000 in
theorem xo_m_X10_bad : xm_b xmi_X10_bad (1, 11) (6, 126) (0, 69) = true := by decide +kernel
theorem xo_w_X10_bad : Cond.code xmi_X10_bad.2.1 xmi_X10_bad.2.2.1 xmi_X10_bad.2.2.2.1 xmi_X10_bad.2.2.2.2.1 ∈ xG := xw_in2 (K := 6) (i := 127) rfl rfl
set_option maxRecDepth 20000 in
theorem xo_c_X10_bad_0 : xc_b xmi_X10_bad xc_X10_bad 0 32 = true := by decide +kernel
theorem xo_r_X10_bad : ∀ (pc : Nat) (r : xr_R), xcl xc_X10_bad pc = some r → xr_b xmi_X10_bad.1 (xm_ini xmi_X10_bad) xmi_X10_bad.2.2.1 pc r = true ∧ xr_c xM xmi_X10_bad.1 r = true := xc_up_e (mi := xmi_X10_bad) (cd := xc_X10_bad) (N := 32) (xc_up_s (mi := xmi_X10_bad) (cd := xc_X10_bad) (lo := 0) (n := 32) xc_up_0 xo_c_X10_bad_0) (by decide +kernel)
set_option maxRecDepth 20000 in
theorem xo_m_X10_badAt : xm_b xmi_X10_badAt (1, 11) (6, 170) (0, 80) = true := by decide +kernel
theorem xo_w_X10_badAt : Cond.code xmi_X10_badAt.2.1 xmi_X10_badAt.2.2.1 xmi_X10_badAt.2.2.2.1 xmi_X10_badAt.2.2.2.2.1 ∈ xG := xw_in2 (K := 6) (i := 171) rfl rfl
set_option maxRecDepth 20000 in
theorem xo_c_X10_badAt_0 : xc_b xmi_X10_badAt xc_X10_badAt 0 16 = true := by decide +kernel
theorem xo_r_X10_badAt : ∀ (pc : Nat) (r : xr_R), xcl xc_X10_badAt pc = some r → xr_b xmi_X10_badAt.1 (xm_ini xmi_X10_badAt) xmi_X10_badAt.2.2.1 pc r = true ∧ xr_c xM xmi_X10_badAt.1 r = true := xc_up_e (mi := xmi_X10_badAt) (cd := xc_X10_badAt) (N := 16) (xc_up_s (mi := xmi_X10_badAt) (cd := xc_X10_badAt) (lo := 0) (n := 16) xc_up_0 xo_c_X10_badAt_0) (by decide +kernel)
set_option maxRecDepth 20000 in
theorem xo_m_X10_openRule : xm_b xmi_X10_openRule (1, 11) (6, 142) (0, 73) = true := by decide +kernel
theorem xo_w_X10_openRule : Cond.code xmi_X10_openRule.2.1 xmi_X10_openRule.2.2.1 xmi_X10_openRule.2.2.2.1 xmi_X10_openRule.2.2.2.2.1 ∈ xG := xw_in2 (K := 6) (i := 143) rfl rfl
set_option maxRecDepth 20000 in
theorem xo_c_X10_openRule_0 : xc_b xmi_X10_openRule xc_X10_openRule 0 80 = true := by decide +kernel
theorem xo_r_X10_openRule : ∀ (pc : Nat) (r : xr_R), xcl xc_X10_openRule pc = some r → xr_b xmi_X10_openRule.1 (xm_ini xmi_X10_openRule) xmi_X10_openRule.2.2.1 pc r = true ∧ xr_c xM xmi_X10_openRule.1 r = true := xc_up_e (mi := xmi_X10_openRule) (cd := xc_X10_openRule) (N := 80) (xc_up_s (mi := xmi_X10_openRule) (cd := xc_X10_openRule) (lo := 0) (n := 80) xc_up_0 xo_c_X10_openRule_0) (by decide +kernel)
set_option maxRecDepth 20000 in
theorem xo_m_X10_openList : xm_b xmi_X10_openList (1, 11) (6, 166) (0, 79) = true := by decide +kernel
theorem xo_w_X10_openList : Cond.code xmi_X10_openList.2.1 xmi_X10_openList.2.2.1 xmi_X10_openList.2.2.2.1 xmi_X10_openList.2.2.2.2.1 ∈ xG := xw_in2 (K := 6) (i := 167) rfl rfl
set_option maxRecDepth 20000 in
theorem xo_c_X10_openList_0 : xc_b xmi_X10_openList xc_X10_openList 0 80 = true := by decide +kernel
theorem xo_r_X10_openList : ∀ (pc : Nat) (r : xr_R), xcl xc_X10_openList pc = some r → xr_b xmi_X10_openList.1 (xm_ini xmi_X10_openList) xmi_X10_openList.2.2.1 pc r = true ∧ xr_c xM xmi_X10_openList.1 r = true := xc_up_e (mi := xmi_X10_openList) (cd := xc_X10_openList) (N := 80) (xc_up_s (mi := xmi_X10_openList) (cd := xc_X10_openList) (lo := 0) (n := 80) xc_up_0 xo_c_X10_openList_0) (by decide +kernel)
set_option maxRecDepth 20000 in
theorem xo_m_X10_begin : xm_b xmi_X10_begin (1, 11) (6, 146) (0, 74) = true := by decide +kernel
theorem xo_w_X10_begin : Cond.code xmi_X10_begin.2.1 xmi_X10_begin.2.2.1 xmi_X10_begin.2.2.2.1 xmi_X10_begin.2.2.2.2.1 ∈ xG := xw_in2 (K := 6) (i := 147) rfl rfl
set_option maxRecDepth 20000 in
theorem xo_c_X10_begin_0 : xc_b xmi_X10_begin xc_X10_begin 0 32 = true := by decide +kernel
theorem xo_r_X10_begin : ∀ (pc : Nat) (r : xr_R), xcl xc_X10_begin pc = some r → xr_b xmi_X10_begin.1 (xm_ini xmi_X10_begin) xmi_X10_begin.2.2.1 pc r = true ∧ xr_c xM xmi_X10_begin.1 r = true := xc_up_e (mi := xmi_X10_begin) (cd := xc_X10_begin) (N := 32) (xc_up_s (mi := xmi_X10_begin) (cd := xc_X10_begin) (lo := 0) (n := 32) xc_up_0 xo_c_X10_begin_0) (by decide +kernel)
set_option maxRecDepth 20000 in
theorem xo_m_X10_beginItem : xm_b xmi_X10_beginItem (1, 11) (6, 150) (0, 75) = true := by decide +kernel
theorem xo_w_X10_beginItem : Cond.code xmi_X10_beginItem.2.1 xmi_X10_beginItem.2.2.1 xmi_X10_beginItem.2.2.2.1 xmi_X10_beginItem.2.2.2.2.1 ∈ xG := xw_in2 (K := 6) (i := 151) rfl rfl
set_option maxRecDepth 20000 in
theorem xo_c_X10_beginItem_0 : xc_b xmi_X10_beginItem xc_X10_beginItem 0 112 = true := by decide +kernel
theorem xo_r_X10_beginItem : ∀ (pc : Nat) (r : xr_R), xcl xc_X10_beginItem pc = some r → xr_b xmi_X10_beginItem.1 (xm_ini xmi_X10_beginItem) xmi_X10_beginItem.2.2.1 pc r = true ∧ xr_c xM xmi_X10_beginItem.1 r = true := xc_up_e (mi := xmi_X10_beginItem) (cd := xc_X10_beginItem) (N := 112) (xc_up_s (mi := xmi_X10_beginItem) (cd := xc_X10_beginItem) (lo := 0) (n := 112) xc_up_0 xo_c_X10_beginItem_0) (by decide +kernel)
set_option maxRecDepth 20000 in
theorem xo_m_X10_beginList : xm_b xmi_X10_beginList (1, 11) (6, 162) (0, 78) = true := by decide +kernel
theorem xo_w_X10_beginList : Cond.code xmi_X10_beginList.2.1 xmi_X10_beginList.2.2.1 xmi_X10_beginList.2.2.2.1 xmi_X10_beginList.2.2.2.2.1 ∈ xG := xw_in2 (K := 6) (i := 163) rfl rfl
set_option maxRecDepth 20000 in
theorem xo_c_X10_beginList_0 : xc_b xmi_X10_beginList xc_X10_beginList 0 64 = true := by decide +kernel
theorem xo_r_X10_beginList : ∀ (pc : Nat) (r : xr_R), xcl xc_X10_beginList pc = some r → xr_b xmi_X10_beginList.1 (xm_ini xmi_X10_beginList) xmi_X10_beginList.2.2.1 pc r = true ∧ xr_c xM xmi_X10_beginList.1 r = true := xc_up_e (mi := xmi_X10_beginList) (cd := xc_X10_beginList) (N := 64) (xc_up_s (mi := xmi_X10_beginList) (cd := xc_X10_beginList) (lo := 0) (n := 64) xc_up_0 xo_c_X10_beginList_0) (by decide +kernel)
set_option maxRecDepth 20000 in
theorem xo_m_X10_nameAtHand : xm_b xmi_X10_nameAtHand (1, 11) (6, 130) (0, 70) = true := by decide +kernel
theorem xo_w_X10_nameAtHand : Cond.code xmi_X10_nameAtHand.2.1 xmi_X10_nameAtHand.2.2.1 xmi_X10_nameAtHand.2.2.2.1 xmi_X10_nameAtHand.2.2.2.2.1 ∈ xG := xw_in2 (K := 6) (i := 131) rfl rfl
set_option maxRecDepth 20000 in
theorem xo_c_X10_nameAtHand_0 : xc_b xmi_X10_nameAtHand xc_X10_nameAtHand 0 48 = true := by decide +kernel
theorem xo_r_X10_nameAtHand : ∀ (pc : Nat) (r : xr_R), xcl xc_X10_nameAtHand pc = some r → xr_b xmi_X10_nameAtHand.1 (xm_ini xmi_X10_nameAtHand) xmi_X10_nameAtHand.2.2.1 pc r = true ∧ xr_c xM xmi_X10_nameAtHand.1 r = true := xc_up_e (mi := xmi_X10_nameAtHand) (cd := xc_X10_nameAtHand) (N := 48) (xc_up_s (mi := xmi_X10_nameAtHand) (cd := xc_X10_nameAtHand) (lo := 0) (n := 48) xc_up_0 xo_c_X10_nameAtHand_0) (by decide +kernel)
set_option maxRecDepth 20000 in
theorem xo_m_X10_beginOne : xm_b xmi_X10_beginOne (1, 11) (6, 154) (0, 76) = true := by decide +kernel
theorem xo_w_X10_beginOne : Cond.code xmi_X10_beginOne.2.1 xmi_X10_beginOne.2.2.1 xmi_X10_beginOne.2.2.2.1 xmi_X10_beginOne.2.2.2.2.1 ∈ xG := xw_in2 (K := 6) (i := 155) rfl rfl
set_option maxRecDepth 20000 in
theorem xo_c_X10_beginOne_0 : xc_b xmi_X10_beginOne xc_X10_beginOne 0 112 = true := by decide +kernel
set_option maxRecDepth 20000 in
theorem xo_c_X10_beginOne_112 : xc_b xmi_X10_beginOne xc_X10_beginOne 112 112 = true := by decide +kernel
set_option maxRecDepth 20000 in
theorem xo_c_X10_beginOne_224 : xc_b xmi_X10_beginOne xc_X10_beginOne 224 80 = true := by decide +kernel
theorem xo_r_X10_beginOne : ∀ (pc : Nat) (r : xr_R), xcl xc_X10_beginOne pc = some r → xr_b xmi_X10_beginOne.1 (xm_ini xmi_X10_beginOne) xmi_X10_beginOne.2.2.1 pc r = true ∧ xr_c xM xmi_X10_beginOne.1 r = true := xc_up_e (mi := xmi_X10_beginOne) (cd := xc_X10_beginOne) (N := 304) (xc_up_s (mi := xmi_X10_beginOne) (cd := xc_X10_beginOne) (lo := 224) (n := 80) (xc_up_s (mi := xmi_X10_beginOne) (cd := xc_X10_beginOne) (lo := 112) (n := 112) (xc_up_s (mi := xmi_X10_beginOne) (cd := xc_X10_beginOne) (lo := 0) (n := 112) xc_up_0 xo_c_X10_beginOne_0) xo_c_X10_beginOne_112) xo_c_X10_beginOne_224) (by decide +kernel)
set_option maxRecDepth 20000 in
theorem xo_m_X10_end_ : xm_b xmi_X10_end_ (1, 11) (6, 174) (0, 81) = true := by decide +kernel
theorem xo_w_X10_end_ : Cond.code xmi_X10_end_.2.1 xmi_X10_end_.2.2.1 xmi_X10_end_.2.2.2.1 xmi_X10_end_.2.2.2.2.1 ∈ xG := xw_in2 (K := 6) (i := 175) rfl rfl
set_option maxRecDepth 20000 in
theorem xo_c_X10_end__0 : xc_b xmi_X10_end_ xc_X10_end_ 0 48 = true := by decide +kernel
set_option maxRecDepth 20000 in
theorem xo_c_X10_end__48 : xc_b xmi_X10_end_ xc_X10_end_ 48 48 = true := by decide +kernel
set_option maxRecDepth 20000 in
theorem xo_c_X10_end__96 : xc_b xmi_X10_end_ xc_X10_end_ 96 48 = true := by decide +kernel
set_option maxRecDepth 20000 in
theorem xo_c_X10_end__144 : xc_b xmi_X10_end_ xc_X10_end_ 144 48 = true := by decide +kernel
set_option maxRecDepth 20000 in
theorem xo_c_X10_end__192 : xc_b xmi_X10_end_ xc_X10_end_ 192 48 = true := by decide +kernel
set_option maxRecDepth 20000 in
theorem xo_c_X10_end__240 : xc_b xmi_X10_end_ xc_X10_end_ 240 48 = true := by decide +kernel
set_option maxRecDepth 20000 in
theorem xo_c_X10_end__288 : xc_b xmi_X10_end_ xc_X10_end_ 288 48 = true := by decide +kernel
set_option maxRecDepth 20000 in
theorem xo_c_X10_end__336 : xc_b xmi_X10_end_ xc_X10_end_ 336 48 = true := by decide +kernel
set_option maxRecDepth 20000 in
theorem xo_c_X10_end__384 : xc_b xmi_X10_end_ xc_X10_end_ 384 16 = true := by decide +kernel
theorem xo_r_X10_end_ : ∀ (pc : Nat) (r : xr_R), xcl xc_X10_end_ pc = some r → xr_b xmi_X10_end_.1 (xm_ini xmi_X10_end_) xmi_X10_end_.2.2.1 pc r = true ∧ xr_c xM xmi_X10_end_.1 r = true := xc_up_e (mi := xmi_X10_end_) (cd := xc_X10_end_) (N := 400) (xc_up_s (mi := xmi_X10_end_) (cd := xc_X10_end_) (lo := 384) (n := 16) (xc_up_s (mi := xmi_X10_end_) (cd := xc_X10_end_) (lo := 336) (n := 48) (xc_up_s (mi := xmi_X10_end_) (cd := xc_X10_end_) (lo := 288) (n := 48) (xc_up_s (mi := xmi_X10_end_) (cd := xc_X10_end_) (lo := 240) (n := 48) (xc_up_s (mi := xmi_X10_end_) (cd := xc_X10_end_) (lo := 192) (n := 48) (xc_up_s (mi := xmi_X10_end_) (cd := xc_X10_end_) (lo := 144) (n := 48) (xc_up_s (mi := xmi_X10_end_) (cd := xc_X10_end_) (lo := 96) (n := 48) (xc_up_s (mi := xmi_X10_end_) (cd := xc_X10_end_) (lo := 48) (n := 48) (xc_up_s (mi := xmi_X10_end_) (cd := xc_X10_end_) (lo := 0) (n := 48) xc_up_0 xo_c_X10_end__0) xo_c_X10_end__48) xo_c_X10_end__96) xo_c_X10_end__144) xo_c_X10_end__192) xo_c_X10_end__240) xo_c_X10_end__288) xo_c_X10_end__336) xo_c_X10_end__384) (by decide +kernel)
set_option maxRecDepth 20000 in
theorem xo_m_X10_readRule : xm_b xmi_X10_readRule (1, 11) (6, 138) (0, 72) = true := by decide +kernel
theorem xo_w_X10_readRule : Cond.code xmi_X10_readRule.2.1 xmi_X10_readRule.2.2.1 xmi_X10_readRule.2.2.2.1 xmi_X10_readRule.2.2.2.2.1 ∈ xG := xw_in2 (K := 6) (i := 139) rfl rfl
set_option maxRecDepth 20000 in
theorem xo_c_X10_readRule_0 : xc_b xmi_X10_readRule xc_X10_readRule 0 64 = true := by decide +kernel
theorem xo_r_X10_readRule : ∀ (pc : Nat) (r : xr_R), xcl xc_X10_readRule pc = some r → xr_b xmi_X10_readRule.1 (xm_ini xmi_X10_readRule) xmi_X10_readRule.2.2.1 pc r = true ∧ xr_c xM xmi_X10_readRule.1 r = true := xc_up_e (mi := xmi_X10_readRule) (cd := xc_X10_readRule) (N := 64) (xc_up_s (mi := xmi_X10_readRule) (cd := xc_X10_readRule) (lo := 0) (n := 64) xc_up_0 xo_c_X10_readRule_0) (by decide +kernel)
set_option maxRecDepth 20000 in
theorem xo_m_X10_readBody : xm_b xmi_X10_readBody (1, 11) (6, 102) (0, 63) = true := by decide +kernel
theorem xo_w_X10_readBody : Cond.code xmi_X10_readBody.2.1 xmi_X10_readBody.2.2.1 xmi_X10_readBody.2.2.2.1 xmi_X10_readBody.2.2.2.2.1 ∈ xG := xw_in2 (K := 6) (i := 103) rfl rfl
set_option maxRecDepth 20000 in
theorem xo_c_X10_readBody_0 : xc_b xmi_X10_readBody xc_X10_readBody 0 112 = true := by decide +kernel
set_option maxRecDepth 20000 in
theorem xo_c_X10_readBody_112 : xc_b xmi_X10_readBody xc_X10_readBody 112 32 = true := by decide +kernel
theorem xo_r_X10_readBody : ∀ (pc : Nat) (r : xr_R), xcl xc_X10_readBody pc = some r → xr_b xmi_X10_readBody.1 (xm_ini xmi_X10_readBody) xmi_X10_readBody.2.2.1 pc r = true ∧ xr_c xM xmi_X10_readBody.1 r = true := xc_up_e (mi := xmi_X10_readBody) (cd := xc_X10_readBody) (N := 144) (xc_up_s (mi := xmi_X10_readBody) (cd := xc_X10_readBody) (lo := 112) (n := 32) (xc_up_s (mi := xmi_X10_readBody) (cd := xc_X10_readBody) (lo := 0) (n := 112) xc_up_0 xo_c_X10_readBody_0) xo_c_X10_readBody_112) (by decide +kernel)
set_option maxRecDepth 20000 in
theorem xo_m_X10_statute : xm_b xmi_X10_statute (1, 11) (6, 63) (6, 64) = true := by decide +kernel
theorem xo_w_X10_statute : Cond.code xmi_X10_statute.2.1 xmi_X10_statute.2.2.1 xmi_X10_statute.2.2.2.1 xmi_X10_statute.2.2.2.2.1 ∈ xG := xw_in2 (K := 6) (i := 65) rfl rfl
set_option maxRecDepth 20000 in
theorem xo_c_X10_statute_0 : xc_b xmi_X10_statute xc_X10_statute 0 112 = true := by decide +kernel
set_option maxRecDepth 20000 in
theorem xo_c_X10_statute_112 : xc_b xmi_X10_statute xc_X10_statute 112 112 = true := by decide +kernel
theorem xo_r_X10_statute : ∀ (pc : Nat) (r : xr_R), xcl xc_X10_statute pc = some r → xr_b xmi_X10_statute.1 (xm_ini xmi_X10_statute) xmi_X10_statute.2.2.1 pc r = true ∧ xr_c xM xmi_X10_statute.1 r = true := xc_up_e (mi := xmi_X10_statute) (cd := xc_X10_statute) (N := 224) (xc_up_s (mi := xmi_X10_statute) (cd := xc_X10_statute) (lo := 112) (n := 112) (xc_up_s (mi := xmi_X10_statute) (cd := xc_X10_statute) (lo := 0) (n := 112) xc_up_0 xo_c_X10_statute_0) xo_c_X10_statute_112) (by decide +kernel)
set_option maxRecDepth 20000 in
theorem xo_m_X10_fault : xm_b xmi_X10_fault (1, 11) (6, 177) (6, 178) = true := by decide +kernel
theorem xo_w_X10_fault : Cond.code xmi_X10_fault.2.1 xmi_X10_fault.2.2.1 xmi_X10_fault.2.2.2.1 xmi_X10_fault.2.2.2.2.1 ∈ xG := xw_in2 (K := 6) (i := 179) rfl rfl
set_option maxRecDepth 20000 in
theorem xo_c_X10_fault_0 : xc_b xmi_X10_fault xc_X10_fault 0 16 = true := by decide +kernel
theorem xo_r_X10_fault : ∀ (pc : Nat) (r : xr_R), xcl xc_X10_fault pc = some r → xr_b xmi_X10_fault.1 (xm_ini xmi_X10_fault) xmi_X10_fault.2.2.1 pc r = true ∧ xr_c xM xmi_X10_fault.1 r = true := xc_up_e (mi := xmi_X10_fault) (cd := xc_X10_fault) (N := 16) (xc_up_s (mi := xmi_X10_fault) (cd := xc_X10_fault) (lo := 0) (n := 16) xc_up_0 xo_c_X10_fault_0) (by decide +kernel)
end XCK6
end
section
section XCK7
set_option maxRecDepth 20000 in
theorem xo_m_X10_inForce : xm_b xmi_X10_inForce (1, 11) (6, 190) (0, 83) = true := by decide +kernel
theorem xo_w_X10_inForce : Cond.code xmi_X10_inForce.2.1 xmi_X10_inForce.2.2.1 xmi_X10_inForce.2.2.2.1 xmi_X10_inForce.2.2.2.2.1 ∈ xG := xw_in2 (K := 6) (i := 191) rfl rfl
set_option maxRecDepth 20000 in
theorem xo_c_X10_inForce_0 : xc_b xmi_X10_inForce xc_X10_inForce 0 80 = true := by decide +kernel
theorem xo_r_X10_inForce : ∀ (pc : Nat) (r : xr_R), xcl xc_X10_inForce pc = some r → xr_b xmi_X10_inForce.1 (xm_ini xmi_X10_inForce) xmi_X10_inForce.2.2.1 pc r = true ∧ xr_c xM xmi_X10_inForce.1 r = true := xc_up_e (mi := xmi_X10_inForce) (cd := xc_X10_inForce) (N := 80) (xc_up_s (mi := xmi_X10_inForce) (cd := xc_X10_inForce) (lo := 0) (n := 80) xc_up_0 xo_c_X10_inForce_0) (by decide +kernel)
set_option maxRecDepth 20000 in
theorem xo_m_X10_carriesBy : xm_b xmi_X10_carriesBy (1, 11) (6, 194) (0, 84) = true := by decide +kernel
theorem xo_w_X10_carriesBy : Cond.code xmi_X10_carriesBy.2.1 xmi_X10_carriesBy.2.2.1 xmi_X10_carriesBy.2.2.2.1 xmi_X10_carriesBy.2.2.2.2.1 ∈ xG := xw_in2 (K := 6) (i := 195) rfl rfl
set_option maxRecDepth 20000 in
theorem xo_c_X10_carriesBy_0 : xc_b xmi_X10_carriesBy xc_X10_carriesBy 0 48 = true := by decide +kernel
theorem xo_r_X10_carriesBy : ∀ (pc : Nat) (r : xr_R), xcl xc_X10_carriesBy pc = some r → xr_b xmi_X10_carriesBy.1 (xm_ini xmi_X10_carriesBy) xmi_X10_carriesBy.2.2.1 pc r = true ∧ xr_c xM xmi_X10_carriesBy.1 r = true := xc_up_e (mi := xmi_X10_carriesBy) (cd := xc_X10_carriesBy) (N := 48) (xc_up_s (mi := xmi_X10_carriesBy) (cd := xc_X10_carriesBy) (lo := 0) (n := 48) xc_up_0 xo_c_X10_carriesBy_0) (by decide +kernel)
set_option maxRecDepth 20000 in
theorem xo_m_X10_carries : xm_b xmi_X10_carries (1, 11) (6, 181) (6, 182) = true := by decide +kernel
theorem xo_w_X10_carries : Cond.code xmi_X10_carries.2.1 xmi_X10_carries.2.2.1 xmi_X10_carries.2.2.2.1 xmi_X10_carries.2.2.2.2.1 ∈ xG := xw_in2 (K := 6) (i := 183) rfl rfl
set_option maxRecDepth 20000 in
theorem xo_c_X10_carries_0 : xc_b xmi_X10_carries xc_X10_carries 0 48 = true := by decide +kernel
theorem xo_r_X10_carries : ∀ (pc : Nat) (r : xr_R), xcl xc_X10_carries pc = some r → xr_b xmi_X10_carries.1 (xm_ini xmi_X10_carries) xmi_X10_carries.2.2.1 pc r = true ∧ xr_c xM xmi_X10_carries.1 r = true := xc_up_e (mi := xmi_X10_carries) (cd := xc_X10_carries) (N := 48) (xc_up_s (mi := xmi_X10_carries) (cd := xc_X10_carries) (lo := 0) (n := 48) xc_up_0 xo_c_X10_carries_0) (by decide +kernel)
set_option maxRecDepth 20000 in
theorem xo_m_X10_lay : xm_b xmi_X10_lay (1, 11) (6, 202) (0, 85) = true := by decide +kernel
theorem xo_w_X10_lay : Cond.code xmi_X10_lay.2.1 xmi_X10_lay.2.2.1 xmi_X10_lay.2.2.2.1 xmi_X10_lay.2.2.2.2.1 ∈ xG := xw_in2 (K := 6) (i := 203) rfl rfl
set_option maxRecDepth 20000 in
theorem xo_c_X10_lay_0 : xc_b xmi_X10_lay xc_X10_lay 0 64 = true := by decide +kernel
theorem xo_r_X10_lay : ∀ (pc : Nat) (r : xr_R), xcl xc_X10_lay pc = some r → xr_b xmi_X10_lay.1 (xm_ini xmi_X10_lay) xmi_X10_lay.2.2.1 pc r = true ∧ xr_c xM xmi_X10_lay.1 r = true := xc_up_e (mi := xmi_X10_lay) (cd := xc_X10_lay) (N := 64) (xc_up_s (mi := xmi_X10_lay) (cd := xc_X10_lay) (lo := 0) (n := 64) xc_up_0 xo_c_X10_lay_0) (by decide +kernel)
set_option maxRecDepth 20000 in
theorem xo_m_X10_isLeast : xm_b xmi_X10_isLeast (1, 11) (6, 214) (0, 88) = true := by decide +kernel
theorem xo_w_X10_isLeast : Cond.code xmi_X10_isLeast.2.1 xmi_X10_isLeast.2.2.1 xmi_X10_isLeast.2.2.2.1 xmi_X10_isLeast.2.2.2.2.1 ∈ xG := xw_in2 (K := 6) (i := 215) rfl rfl
set_option maxRecDepth 20000 in
theorem xo_c_X10_isLeast_0 : xc_b xmi_X10_isLeast xc_X10_isLeast 0 64 = true := by decide +kernel
theorem xo_r_X10_isLeast : ∀ (pc : Nat) (r : xr_R), xcl xc_X10_isLeast pc = some r → xr_b xmi_X10_isLeast.1 (xm_ini xmi_X10_isLeast) xmi_X10_isLeast.2.2.1 pc r = true ∧ xr_c xM xmi_X10_isLeast.1 r = true := xc_up_e (mi := xmi_X10_isLeast) (cd := xc_X10_isLeast) (N := 64) (xc_up_s (mi := xmi_X10_isLeast) (cd := xc_X10_isLeast) (lo := 0) (n := 64) xc_up_0 xo_c_X10_isLeast_0) (by decide +kernel)
set_option maxRecDepth 20000 in
theorem xo_m_X10_hinders : xm_b xmi_X10_hinders (1, 11) (6, 222) (0, 90) = true := by decide +kernel
theorem xo_w_X10_hinders : Cond.code xmi_X10_hinders.2.1 xmi_X10_hinders.2.2.1 xmi_X10_hinders.2.2.2.1 xmi_X10_hinders.2.2.2.2.1 ∈ xG := xw_in2 (K := 6) (i := 223) rfl rfl
set_option maxRecDepth 20000 in
theorem xo_c_X10_hinders_0 : xc_b xmi_X10_hinders xc_X10_hinders 0 32 = true := by decide +kernel
theorem xo_r_X10_hinders : ∀ (pc : Nat) (r : xr_R), xcl xc_X10_hinders pc = some r → xr_b xmi_X10_hinders.1 (xm_ini xmi_X10_hinders) xmi_X10_hinders.2.2.1 pc r = true ∧ xr_c xM xmi_X10_hinders.1 r = true := xc_up_e (mi := xmi_X10_hinders) (cd := xc_X10_hinders) (N := 32) (xc_up_s (mi := xmi_X10_hinders) (cd := xc_X10_hinders) (lo := 0) (n := 32) xc_up_0 xo_c_X10_hinders_0) (by decide +kernel)
set_option maxRecDepth 20000 in
theorem xo_m_X10_isLeastHinder : xm_b xmi_X10_isLeastHinder (1, 11) (6, 218) (0, 89) = true := by decide +kernel
theorem xo_w_X10_isLeastHinder : Cond.code xmi_X10_isLeastHinder.2.1 xmi_X10_isLeastHinder.2.2.1 xmi_X10_isLeastHinder.2.2.2.1 xmi_X10_isLeastHinder.2.2.2.2.1 ∈ xG := xw_in2 (K := 6) (i := 219) rfl rfl
set_option maxRecDepth 20000 in
theorem xo_c_X10_isLeastHinder_0 : xc_b xmi_X10_isLeastHinder xc_X10_isLeastHinder 0 64 = true := by decide +kernel
theorem xo_r_X10_isLeastHinder : ∀ (pc : Nat) (r : xr_R), xcl xc_X10_isLeastHinder pc = some r → xr_b xmi_X10_isLeastHinder.1 (xm_ini xmi_X10_isLeastHinder) xmi_X10_isLeastHinder.2.2.1 pc r = true ∧ xr_c xM xmi_X10_isLeastHinder.1 r = true := xc_up_e (mi := xmi_X10_isLeastHinder) (cd := xc_X10_isLeastHinder) (N := 64) (xc_up_s (mi := xmi_X10_isLeastHinder) (cd := xc_X10_isLeastHinder) (lo := 0) (n := 64) xc_up_0 xo_c_X10_isLeastHinder_0) (by decide +kernel)
set_option maxRecDepth 20000 in
theorem xo_m_X10_isOfKind : xm_b xmi_X10_isOfKind (1, 11) (6, 210) (0, 87) = true := by decide +kernel
theorem xo_w_X10_isOfKind : Cond.code xmi_X10_isOfKind.2.1 xmi_X10_isOfKind.2.2.1 xmi_X10_isOfKind.2.2.2.1 xmi_X10_isOfKind.2.2.2.2.1 ∈ xG := xw_in2 (K := 6) (i := 211) rfl rfl
set_option maxRecDepth 20000 in
theorem xo_c_X10_isOfKind_0 : xc_b xmi_X10_isOfKind xc_X10_isOfKind 0 32 = true := by decide +kernel
theorem xo_r_X10_isOfKind : ∀ (pc : Nat) (r : xr_R), xcl xc_X10_isOfKind pc = some r → xr_b xmi_X10_isOfKind.1 (xm_ini xmi_X10_isOfKind) xmi_X10_isOfKind.2.2.1 pc r = true ∧ xr_c xM xmi_X10_isOfKind.1 r = true := xc_up_e (mi := xmi_X10_isOfKind) (cd := xc_X10_isOfKind) (N := 32) (xc_up_s (mi := xmi_X10_isOfKind) (cd := xc_X10_isOfKind) (lo := 0) (n := 32) xc_up_0 xo_c_X10_isOfKind_0) (by decide +kernel)
set_option maxRecDepth 20000 in
theorem xo_m_X10_countOf : xm_b xmi_X10_countOf (1, 11) (6, 206) (0, 86) = true := by decide +kernel
theorem xo_w_X10_countOf : Cond.code xmi_X10_countOf.2.1 xmi_X10_countOf.2.2.1 xmi_X10_countOf.2.2.2.1 xmi_X10_countOf.2.2.2.2.1 ∈ xG := xw_in2 (K := 6) (i := 207) rfl rfl
set_option maxRecDepth 20000 in
theorem xo_c_X10_countOf_0 : xc_b xmi_X10_countOf xc_X10_countOf 0 32 = true := by decide +kernel
theorem xo_r_X10_countOf : ∀ (pc : Nat) (r : xr_R), xcl xc_X10_countOf pc = some r → xr_b xmi_X10_countOf.1 (xm_ini xmi_X10_countOf) xmi_X10_countOf.2.2.1 pc r = true ∧ xr_c xM xmi_X10_countOf.1 r = true := xc_up_e (mi := xmi_X10_countOf) (cd := xc_X10_countOf) (N := 32) (xc_up_s (mi := xmi_X10_countOf) (cd := xc_X10_countOf) (lo := 0) (n := 32) xc_up_0 xo_c_X10_countOf_0) (by decide +kernel)
set_option maxRecDepth 20000 in
theorem xo_m_X10_whoIs : xm_b xmi_X10_whoIs (1, 11) (6, 226) (0, 91) = true := by decide +kernel
theorem xo_w_X10_whoIs : Cond.code xmi_X10_whoIs.2.1 xmi_X10_whoIs.2.2.1 xmi_X10_whoIs.2.2.2.1 xmi_X10_whoIs.2.2.2.2.1 ∈ xG := xw_in2 (K := 6) (i := 227) rfl rfl
set_option maxRecDepth 20000 in
theorem xo_c_X10_whoIs_0 : xc_b xmi_X10_whoIs xc_X10_whoIs 0 96 = true := by decide +kernel
theorem xo_r_X10_whoIs : ∀ (pc : Nat) (r : xr_R), xcl xc_X10_whoIs pc = some r → xr_b xmi_X10_whoIs.1 (xm_ini xmi_X10_whoIs) xmi_X10_whoIs.2.2.1 pc r = true ∧ xr_c xM xmi_X10_whoIs.1 r = true := xc_up_e (mi := xmi_X10_whoIs) (cd := xc_X10_whoIs) (N := 96) (xc_up_s (mi := xmi_X10_whoIs) (cd := xc_X10_whoIs) (lo := 0) (n := 96) xc_up_0 xo_c_X10_whoIs_0) (by decide +kernel)
set_option maxRecDepth 20000 in
theorem xo_m_X10_isProper : xm_b xmi_X10_isProper (1, 11) (6, 233) (0, 92) = true := by decide +kernel
theorem xo_w_X10_isProper : Cond.code xmi_X10_isProper.2.1 xmi_X10_isProper.2.2.1 xmi_X10_isProper.2.2.2.1 xmi_X10_isProper.2.2.2.2.1 ∈ xG := xw_in2 (K := 6) (i := 234) rfl rfl
set_option maxRecDepth 20000 in
theorem xo_c_X10_isProper_0 : xc_b xmi_X10_isProper xc_X10_isProper 0 48 = true := by decide +kernel
theorem xo_r_X10_isProper : ∀ (pc : Nat) (r : xr_R), xcl xc_X10_isProper pc = some r → xr_b xmi_X10_isProper.1 (xm_ini xmi_X10_isProper) xmi_X10_isProper.2.2.1 pc r = true ∧ xr_c xM xmi_X10_isProper.1 r = true := xc_up_e (mi := xmi_X10_isProper) (cd := xc_X10_isProper) (N := 48) (xc_up_s (mi := xmi_X10_isProper) (cd := xc_X10_isProper) (lo := 0) (n := 48) xc_up_0 xo_c_X10_isProper_0) (by decide +kernel)
set_option maxRecDepth 20000 in
theorem xo_m_X10_isStrong : xm_b xmi_X10_isStrong (1, 11) (6, 237) (0, 93) = true := by decide +kernel
theorem xo_w_X10_isStrong : Cond.code xmi_X10_isStrong.2.1 xmi_X10_isStrong.2.2.1 xmi_X10_isStrong.2.2.2.1 xmi_X10_isStrong.2.2.2.2.1 ∈ xG := xw_in2 (K := 6) (i := 238) rfl rfl
set_option maxRecDepth 20000 in
theorem xo_c_X10_isStrong_0 : xc_b xmi_X10_isStrong xc_X10_isStrong 0 48 = true := by decide +kernel
theorem xo_r_X10_isStrong : ∀ (pc : Nat) (r : xr_R), xcl xc_X10_isStrong pc = some r → xr_b xmi_X10_isStrong.1 (xm_ini xmi_X10_isStrong) xmi_X10_isStrong.2.2.1 pc r = true ∧ xr_c xM xmi_X10_isStrong.1 r = true := xc_up_e (mi := xmi_X10_isStrong) (cd := xc_X10_isStrong) (N := 48) (xc_up_s (mi := xmi_X10_isStrong) (cd := xc_X10_isStrong) (lo := 0) (n := 48) xc_up_0 xo_c_X10_isStrong_0) (by decide +kernel)
set_option maxRecDepth 20000 in
theorem xo_m_X10_held : xm_b xmi_X10_held (1, 11) (7, 5) (0, 95) = true := by decide +kernel
theorem xo_w_X10_held : Cond.code xmi_X10_held.2.1 xmi_X10_held.2.2.1 xmi_X10_held.2.2.2.1 xmi_X10_held.2.2.2.2.1 ∈ xG := xw_in2 (K := 7) (i := 6) rfl rfl
set_option maxRecDepth 20000 in
theorem xo_c_X10_held_0 : xc_b xmi_X10_held xc_X10_held 0 112 = true := by decide +kernel
theorem xo_r_X10_held : ∀ (pc : Nat) (r : xr_R), xcl xc_X10_held pc = some r → xr_b xmi_X10_held.1 (xm_ini xmi_X10_held) xmi_X10_held.2.2.1 pc r = true ∧ xr_c xM xmi_X10_held.1 r = true := xc_up_e (mi := xmi_X10_held) (cd := xc_X10_held) (N := 112) (xc_up_s (mi := xmi_X10_held) (cd := xc_X10_held) (lo := 0) (n := 112) xc_up_0 xo_c_X10_held_0) (by decide +kernel)
set_option maxRecDepth 20000 in
theorem xo_m_X10_isLined : xm_b xmi_X10_isLined (1, 11) (7, 1) (0, 94) = true := by decide +kernel
theorem xo_w_X10_isLined : Cond.code xmi_X10_isLined.2.1 xmi_X10_isLined.2.2.1 xmi_X10_isLined.2.2.2.1 xmi_X10_isLined.2.2.2.2.1 ∈ xG := xw_in2 (K := 7) (i := 2) rfl rfl
set_option maxRecDepth 20000 in
theorem xo_c_X10_isLined_0 : xc_b xmi_X10_isLined xc_X10_isLined 0 48 = true := by decide +kernel
theorem xo_r_X10_isLined : ∀ (pc : Nat) (r : xr_R), xcl xc_X10_isLined pc = some r → xr_b xmi_X10_isLined.1 (xm_ini xmi_X10_isLined) xmi_X10_isLined.2.2.1 pc r = true ∧ xr_c xM xmi_X10_isLined.1 r = true := xc_up_e (mi := xmi_X10_isLined) (cd := xc_X10_isLined) (N := 48) (xc_up_s (mi := xmi_X10_isLined) (cd := xc_X10_isLined) (lo := 0) (n := 48) xc_up_0 xo_c_X10_isLined_0) (by decide +kernel)
set_option maxRecDepth 20000 in
theorem xo_m_X10_many : xm_b xmi_X10_many (1, 11) (6, 197) (6, 198) = true := by decide +kernel
theorem xo_w_X10_many : Cond.code xmi_X10_many.2.1 xmi_X10_many.2.2.1 xmi_X10_many.2.2.2.1 xmi_X10_many.2.2.2.2.1 ∈ xG := xw_in2 (K := 6) (i := 199) rfl rfl
set_option maxRecDepth 20000 in
theorem xo_c_X10_many_0 : xc_b xmi_X10_many xc_X10_many 0 112 = true := by decide +kernel
set_option maxRecDepth 20000 in
theorem xo_c_X10_many_112 : xc_b xmi_X10_many xc_X10_many 112 48 = true := by decide +kernel
theorem xo_r_X10_many : ∀ (pc : Nat) (r : xr_R), xcl xc_X10_many pc = some r → xr_b xmi_X10_many.1 (xm_ini xmi_X10_many) xmi_X10_many.2.2.1 pc r = true ∧ xr_c xM xmi_X10_many.1 r = true := xc_up_e (mi := xmi_X10_many) (cd := xc_X10_many) (N := 160) (xc_up_s (mi := xmi_X10_many) (cd := xc_X10_many) (lo := 112) (n := 48) (xc_up_s (mi := xmi_X10_many) (cd := xc_X10_many) (lo := 0) (n := 112) xc_up_0 xo_c_X10_many_0) xo_c_X10_many_112) (by decide +kernel)
set_option maxRecDepth 20000 in
theorem xo_m_X10_setAt : xm_b xmi_X10_setAt (1, 11) (7, 8) (7, 9) = true := by decide +kernel
theorem xo_w_X10_setAt : Cond.code xmi_X10_setAt.2.1 xmi_X10_setAt.2.2.1 xmi_X10_setAt.2.2.2.1 xmi_X10_setAt.2.2.2.2.1 ∈ xG := xw_in2 (K := 7) (i := 10) rfl rfl
set_option maxRecDepth 20000 in
theorem xo_c_X10_setAt_0 : xc_b xmi_X10_setAt xc_X10_setAt 0 112 = true := by decide +kernel
set_option maxRecDepth 20000 in
theorem xo_c_X10_setAt_112 : xc_b xmi_X10_setAt xc_X10_setAt 112 16 = true := by decide +kernel
theorem xo_r_X10_setAt : ∀ (pc : Nat) (r : xr_R), xcl xc_X10_setAt pc = some r → xr_b xmi_X10_setAt.1 (xm_ini xmi_X10_setAt) xmi_X10_setAt.2.2.1 pc r = true ∧ xr_c xM xmi_X10_setAt.1 r = true := xc_up_e (mi := xmi_X10_setAt) (cd := xc_X10_setAt) (N := 128) (xc_up_s (mi := xmi_X10_setAt) (cd := xc_X10_setAt) (lo := 112) (n := 16) (xc_up_s (mi := xmi_X10_setAt) (cd := xc_X10_setAt) (lo := 0) (n := 112) xc_up_0 xo_c_X10_setAt_0) xo_c_X10_setAt_112) (by decide +kernel)
set_option maxRecDepth 20000 in
theorem xo_m_X10_stronger : xm_b xmi_X10_stronger (1, 11) (7, 12) (7, 13) = true := by decide +kernel
theorem xo_w_X10_stronger : Cond.code xmi_X10_stronger.2.1 xmi_X10_stronger.2.2.1 xmi_X10_stronger.2.2.2.1 xmi_X10_stronger.2.2.2.2.1 ∈ xG := xw_in2 (K := 7) (i := 14) rfl rfl
set_option maxRecDepth 20000 in
theorem xo_c_X10_stronger_0 : xc_b xmi_X10_stronger xc_X10_stronger 0 80 = true := by decide +kernel
theorem xo_r_X10_stronger : ∀ (pc : Nat) (r : xr_R), xcl xc_X10_stronger pc = some r → xr_b xmi_X10_stronger.1 (xm_ini xmi_X10_stronger) xmi_X10_stronger.2.2.1 pc r = true ∧ xr_c xM xmi_X10_stronger.1 r = true := xc_up_e (mi := xmi_X10_stronger) (cd := xc_X10_stronger) (N := 80) (xc_up_s (mi := xmi_X10_stronger) (cd := xc_X10_stronger) (lo := 0) (n := 80) xc_up_0 xo_c_X10_stronger_0) (by decide +kernel)
set_option maxRecDepth 20000 in
theorem xo_m_X10_turnsOf : xm_b xmi_X10_turnsOf (1, 11) (7, 21) (0, 96) = true := by decide +kernel
theorem xo_w_X10_turnsOf : Cond.code xmi_X10_turnsOf.2.1 xmi_X10_turnsOf.2.2.1 xmi_X10_turnsOf.2.2.2.1 xmi_X10_turnsOf.2.2.2.2.1 ∈ xG := xw_in2 (K := 7) (i := 22) rfl rfl
set_option maxRecDepth 20000 in
theorem xo_c_X10_turnsOf_0 : xc_b xmi_X10_turnsOf xc_X10_turnsOf 0 64 = true := by decide +kernel
theorem xo_r_X10_turnsOf : ∀ (pc : Nat) (r : xr_R), xcl xc_X10_turnsOf pc = some r → xr_b xmi_X10_turnsOf.1 (xm_ini xmi_X10_turnsOf) xmi_X10_turnsOf.2.2.1 pc r = true ∧ xr_c xM xmi_X10_turnsOf.1 r = true := xc_up_e (mi := xmi_X10_turnsOf) (cd := xc_X10_turnsOf) (N := 64) (xc_up_s (mi := xmi_X10_turnsOf) (cd := xc_X10_turnsOf) (lo := 0) (n := 64) xc_up_0 xo_c_X10_turnsOf_0) (by decide +kernel)
set_option maxRecDepth 20000 in
theorem xo_m_X10_turns : xm_b xmi_X10_turns (1, 11) (7, 16) (7, 17) = true := by decide +kernel
theorem xo_w_X10_turns : Cond.code xmi_X10_turns.2.1 xmi_X10_turns.2.2.1 xmi_X10_turns.2.2.2.1 xmi_X10_turns.2.2.2.2.1 ∈ xG := xw_in2 (K := 7) (i := 18) rfl rfl
set_option maxRecDepth 20000 in
theorem xo_c_X10_turns_0 : xc_b xmi_X10_turns xc_X10_turns 0 32 = true := by decide +kernel
theorem xo_r_X10_turns : ∀ (pc : Nat) (r : xr_R), xcl xc_X10_turns pc = some r → xr_b xmi_X10_turns.1 (xm_ini xmi_X10_turns) xmi_X10_turns.2.2.1 pc r = true ∧ xr_c xM xmi_X10_turns.1 r = true := xc_up_e (mi := xmi_X10_turns) (cd := xc_X10_turns) (N := 32) (xc_up_s (mi := xmi_X10_turns) (cd := xc_X10_turns) (lo := 0) (n := 32) xc_up_0 xo_c_X10_turns_0) (by decide +kernel)
set_option maxRecDepth 20000 in
theorem xo_m_X10_lessen : xm_b xmi_X10_lessen (1, 11) (7, 37) (0, 99) = true := by decide +kernel
theorem xo_w_X10_lessen : Cond.code xmi_X10_lessen.2.1 xmi_X10_lessen.2.2.1 xmi_X10_lessen.2.2.2.1 xmi_X10_lessen.2.2.2.2.1 ∈ xG := xw_in2 (K := 7) (i := 38) rfl rfl
set_option maxRecDepth 20000 in
theorem xo_c_X10_lessen_0 : xc_b xmi_X10_lessen xc_X10_lessen 0 80 = true := by decide +kernel
theorem xo_r_X10_lessen : ∀ (pc : Nat) (r : xr_R), xcl xc_X10_lessen pc = some r → xr_b xmi_X10_lessen.1 (xm_ini xmi_X10_lessen) xmi_X10_lessen.2.2.1 pc r = true ∧ xr_c xM xmi_X10_lessen.1 r = true := xc_up_e (mi := xmi_X10_lessen) (cd := xc_X10_lessen) (N := 80) (xc_up_s (mi := xmi_X10_lessen) (cd := xc_X10_lessen) (lo := 0) (n := 80) xc_up_0 xo_c_X10_lessen_0) (by decide +kernel)
set_option maxRecDepth 20000 in
theorem xo_m_X10_orders : xm_b xmi_X10_orders (1, 11) (7, 44) (99, 0) = true := by decide +kernel
theorem xo_w_X10_orders : Cond.code xmi_X10_orders.2.1 xmi_X10_orders.2.2.1 xmi_X10_orders.2.2.2.1 xmi_X10_orders.2.2.2.2.1 ∈ xG := xw_in2 (K := 7) (i := 45) rfl rfl
set_option maxRecDepth 20000 in
theorem xo_c_X10_orders_0 : xc_b xmi_X10_orders xc_X10_orders 0 32 = true := by decide +kernel
theorem xo_r_X10_orders : ∀ (pc : Nat) (r : xr_R), xcl xc_X10_orders pc = some r → xr_b xmi_X10_orders.1 (xm_ini xmi_X10_orders) xmi_X10_orders.2.2.1 pc r = true ∧ xr_c xM xmi_X10_orders.1 r = true := xc_up_e (mi := xmi_X10_orders) (cd := xc_X10_orders) (N := 32) (xc_up_s (mi := xmi_X10_orders) (cd := xc_X10_orders) (lo := 0) (n := 32) xc_up_0 xo_c_X10_orders_0) (by decide +kernel)
set_option maxRecDepth 20000 in
theorem xo_m_X10_shareOfSets : xm_b xmi_X10_shareOfSets (1, 11) (7, 33) (0, 98) = true := by decide +kernel
theorem xo_w_X10_shareOfSets : Cond.code xmi_X10_shareOfSets.2.1 xmi_X10_shareOfSets.2.2.1 xmi_X10_shareOfSets.2.2.2.1 xmi_X10_shareOfSets.2.2.2.2.1 ∈ xG := xw_in2 (K := 7) (i := 34) rfl rfl
set_option maxRecDepth 20000 in
theorem xo_c_X10_shareOfSets_0 : xc_b xmi_X10_shareOfSets xc_X10_shareOfSets 0 64 = true := by decide +kernel
theorem xo_r_X10_shareOfSets : ∀ (pc : Nat) (r : xr_R), xcl xc_X10_shareOfSets pc = some r → xr_b xmi_X10_shareOfSets.1 (xm_ini xmi_X10_shareOfSets) xmi_X10_shareOfSets.2.2.1 pc r = true ∧ xr_c xM xmi_X10_shareOfSets.1 r = true := xc_up_e (mi := xmi_X10_shareOfSets) (cd := xc_X10_shareOfSets) (N := 64) (xc_up_s (mi := xmi_X10_shareOfSets) (cd := xc_X10_shareOfSets) (lo := 0) (n := 64) xc_up_0 xo_c_X10_shareOfSets_0) (by decide +kernel)
set_option maxRecDepth 20000 in
theorem xo_m_X10_shareOfOrders : xm_b xmi_X10_shareOfOrders (1, 11) (7, 41) (0, 100) = true := by decide +kernel
theorem xo_w_X10_shareOfOrders : Cond.code xmi_X10_shareOfOrders.2.1 xmi_X10_shareOfOrders.2.2.1 xmi_X10_shareOfOrders.2.2.2.1 xmi_X10_shareOfOrders.2.2.2.2.1 ∈ xG := xw_in2 (K := 7) (i := 42) rfl rfl
set_option maxRecDepth 20000 in
theorem xo_c_X10_shareOfOrders_0 : xc_b xmi_X10_shareOfOrders xc_X10_shareOfOrders 0 96 = true := by decide +kernel
theorem xo_r_X10_shareOfOrders : ∀ (pc : Nat) (r : xr_R), xcl xc_X10_shareOfOrders pc = some r → xr_b xmi_X10_shareOfOrders.1 (xm_ini xmi_X10_shareOfOrders) xmi_X10_shareOfOrders.2.2.1 pc r = true ∧ xr_c xM xmi_X10_shareOfOrders.1 r = true := xc_up_e (mi := xmi_X10_shareOfOrders) (cd := xc_X10_shareOfOrders) (N := 96) (xc_up_s (mi := xmi_X10_shareOfOrders) (cd := xc_X10_shareOfOrders) (lo := 0) (n := 96) xc_up_0 xo_c_X10_shareOfOrders_0) (by decide +kernel)
set_option maxRecDepth 20000 in
theorem xo_m_X10_shareOfLeast : xm_b xmi_X10_shareOfLeast (1, 11) (7, 48) (0, 101) = true := by decide +kernel
theorem xo_w_X10_shareOfLeast : Cond.code xmi_X10_shareOfLeast.2.1 xmi_X10_shareOfLeast.2.2.1 xmi_X10_shareOfLeast.2.2.2.1 xmi_X10_shareOfLeast.2.2.2.2.1 ∈ xG := xw_in2 (K := 7) (i := 49) rfl rfl
set_option maxRecDepth 20000 in
theorem xo_c_X10_shareOfLeast_0 : xc_b xmi_X10_shareOfLeast xc_X10_shareOfLeast 0 96 = true := by decide +kernel
theorem xo_r_X10_shareOfLeast : ∀ (pc : Nat) (r : xr_R), xcl xc_X10_shareOfLeast pc = some r → xr_b xmi_X10_shareOfLeast.1 (xm_ini xmi_X10_shareOfLeast) xmi_X10_shareOfLeast.2.2.1 pc r = true ∧ xr_c xM xmi_X10_shareOfLeast.1 r = true := xc_up_e (mi := xmi_X10_shareOfLeast) (cd := xc_X10_shareOfLeast) (N := 96) (xc_up_s (mi := xmi_X10_shareOfLeast) (cd := xc_X10_shareOfLeast) (lo := 0) (n := 96) xc_up_0 xo_c_X10_shareOfLeast_0) (by decide +kernel)
set_option maxRecDepth 20000 in
theorem xo_m_X10_share : xm_b xmi_X10_share (1, 11) (7, 24) (7, 25) = true := by decide +kernel
theorem xo_w_X10_share : Cond.code xmi_X10_share.2.1 xmi_X10_share.2.2.1 xmi_X10_share.2.2.2.1 xmi_X10_share.2.2.2.2.1 ∈ xG := xw_in2 (K := 7) (i := 26) rfl rfl
set_option maxRecDepth 20000 in
theorem xo_c_X10_share_0 : xc_b xmi_X10_share xc_X10_share 0 96 = true := by decide +kernel
theorem xo_r_X10_share : ∀ (pc : Nat) (r : xr_R), xcl xc_X10_share pc = some r → xr_b xmi_X10_share.1 (xm_ini xmi_X10_share) xmi_X10_share.2.2.1 pc r = true ∧ xr_c xM xmi_X10_share.1 r = true := xc_up_e (mi := xmi_X10_share) (cd := xc_X10_share) (N := 96) (xc_up_s (mi := xmi_X10_share) (cd := xc_X10_share) (lo := 0) (n := 96) xc_up_0 xo_c_X10_share_0) (by decide +kernel)
set_option maxRecDepth 20000 in
theorem xo_m_X10_power : xm_b xmi_X10_power (1, 11) (7, 57) (99, 0) = true := by decide +kernel
theorem xo_w_X10_power : Cond.code xmi_X10_power.2.1 xmi_X10_power.2.2.1 xmi_X10_power.2.2.2.1 xmi_X10_power.2.2.2.2.1 ∈ xG := xw_in2 (K := 7) (i := 58) rfl rfl
set_option maxRecDepth 20000 in
theorem xo_c_X10_power_0 : xc_b xmi_X10_power xc_X10_power 0 32 = true := by decide +kernel
theorem xo_r_X10_power : ∀ (pc : Nat) (r : xr_R), xcl xc_X10_power pc = some r → xr_b xmi_X10_power.1 (xm_ini xmi_X10_power) xmi_X10_power.2.2.1 pc r = true ∧ xr_c xM xmi_X10_power.1 r = true := xc_up_e (mi := xmi_X10_power) (cd := xc_X10_power) (N := 32) (xc_up_s (mi := xmi_X10_power) (cd := xc_X10_power) (lo := 0) (n := 32) xc_up_0 xo_c_X10_power_0) (by decide +kernel)
set_option maxRecDepth 20000 in
theorem xo_m_X10_chance : xm_b xmi_X10_chance (1, 11) (7, 52) (7, 53) = true := by decide +kernel
theorem xo_w_X10_chance : Cond.code xmi_X10_chance.2.1 xmi_X10_chance.2.2.1 xmi_X10_chance.2.2.2.1 xmi_X10_chance.2.2.2.2.1 ∈ xG := xw_in2 (K := 7) (i := 54) rfl rfl
set_option maxRecDepth 20000 in
theorem xo_c_X10_chance_0 : xc_b xmi_X10_chance xc_X10_chance 0 96 = true := by decide +kernel
theorem xo_r_X10_chance : ∀ (pc : Nat) (r : xr_R), xcl xc_X10_chance pc = some r → xr_b xmi_X10_chance.1 (xm_ini xmi_X10_chance) xmi_X10_chance.2.2.1 pc r = true ∧ xr_c xM xmi_X10_chance.1 r = true := xc_up_e (mi := xmi_X10_chance) (cd := xc_X10_chance) (N := 96) (xc_up_s (mi := xmi_X10_chance) (cd := xc_X10_chance) (lo := 0) (n := 96) xc_up_0 xo_c_X10_chance_0) (by decide +kernel)
set_option maxRecDepth 20000 in
theorem xo_m_X10_ally : xm_b xmi_X10_ally (1, 11) (7, 60) (7, 61) = true := by decide +kernel
theorem xo_w_X10_ally : Cond.code xmi_X10_ally.2.1 xmi_X10_ally.2.2.1 xmi_X10_ally.2.2.2.1 xmi_X10_ally.2.2.2.2.1 ∈ xG := xw_in2 (K := 7) (i := 62) rfl rfl
set_option maxRecDepth 20000 in
theorem xo_c_X10_ally_0 : xc_b xmi_X10_ally xc_X10_ally 0 112 = true := by decide +kernel
set_option maxRecDepth 20000 in
theorem xo_c_X10_ally_112 : xc_b xmi_X10_ally xc_X10_ally 112 48 = true := by decide +kernel
theorem xo_r_X10_ally : ∀ (pc : Nat) (r : xr_R), xcl xc_X10_ally pc = some r → xr_b xmi_X10_ally.1 (xm_ini xmi_X10_ally) xmi_X10_ally.2.2.1 pc r = true ∧ xr_c xM xmi_X10_ally.1 r = true := xc_up_e (mi := xmi_X10_ally) (cd := xc_X10_ally) (N := 160) (xc_up_s (mi := xmi_X10_ally) (cd := xc_X10_ally) (lo := 112) (n := 48) (xc_up_s (mi := xmi_X10_ally) (cd := xc_X10_ally) (lo := 0) (n := 112) xc_up_0 xo_c_X10_ally_0) xo_c_X10_ally_112) (by decide +kernel)
end XCK7
end
section
section XCK8
set_option maxRecDepth 20000 in
theorem xo_m_X10_findSorts : xm_b xmi_X10_findSorts (1, 11) (7, 69) (0, 102) = true := by decide +kernel
theorem xo_w_X10_findSorts : Cond.code xmi_X10_findSorts.2.1 xmi_X10_findSorts.2.2.1 xmi_X10_findSorts.2.2.2.1 xmi_X10_findSorts.2.2.2.2.1 ∈ xG := xw_in2 (K := 7) (i := 70) rfl rfl
set_option maxRecDepth 20000 in
theorem xo_c_X10_findSorts_0 : xc_b xmi_X10_findSorts xc_X10_findSorts 0 112 = true := by decide +kernel
set_option maxRecDepth 20000 in
theorem xo_c_X10_findSorts_112 : xc_b xmi_X10_findSorts xc_X10_findSorts 112 112 = true := by decide +kernel
theorem xo_r_X10_findSorts : ∀ (pc : Nat) (r : xr_R), xcl xc_X10_findSorts pc = some r → xr_b xmi_X10_findSorts.1 (xm_ini xmi_X10_findSorts) xmi_X10_findSorts.2.2.1 pc r = true ∧ xr_c xM xmi_X10_findSorts.1 r = true := xc_up_e (mi := xmi_X10_findSorts) (cd := xc_X10_findSorts) (N := 224) (xc_up_s (mi := xmi_X10_findSorts) (cd := xc_X10_findSorts) (lo := 112) (n := 112) (xc_up_s (mi := xmi_X10_findSorts) (cd := xc_X10_findSorts) (lo := 0) (n := 112) xc_up_0 xo_c_X10_findSorts_0) xo_c_X10_findSorts_112) (by decide +kernel)
set_option maxRecDepth 20000 in
theorem xo_m_X10_findEnds : xm_b xmi_X10_findEnds (1, 11) (7, 73) (0, 103) = true := by decide +kernel
theorem xo_w_X10_findEnds : Cond.code xmi_X10_findEnds.2.1 xmi_X10_findEnds.2.2.1 xmi_X10_findEnds.2.2.2.1 xmi_X10_findEnds.2.2.2.2.1 ∈ xG := xw_in2 (K := 7) (i := 74) rfl rfl
set_option maxRecDepth 20000 in
theorem xo_c_X10_findEnds_0 : xc_b xmi_X10_findEnds xc_X10_findEnds 0 96 = true := by decide +kernel
theorem xo_r_X10_findEnds : ∀ (pc : Nat) (r : xr_R), xcl xc_X10_findEnds pc = some r → xr_b xmi_X10_findEnds.1 (xm_ini xmi_X10_findEnds) xmi_X10_findEnds.2.2.1 pc r = true ∧ xr_c xM xmi_X10_findEnds.1 r = true := xc_up_e (mi := xmi_X10_findEnds) (cd := xc_X10_findEnds) (N := 96) (xc_up_s (mi := xmi_X10_findEnds) (cd := xc_X10_findEnds) (lo := 0) (n := 96) xc_up_0 xo_c_X10_findEnds_0) (by decide +kernel)
set_option maxRecDepth 20000 in
theorem xo_m_X10_sumOf : xm_b xmi_X10_sumOf (1, 11) (7, 90) (0, 107) = true := by decide +kernel
theorem xo_w_X10_sumOf : Cond.code xmi_X10_sumOf.2.1 xmi_X10_sumOf.2.2.1 xmi_X10_sumOf.2.2.2.1 xmi_X10_sumOf.2.2.2.2.1 ∈ xG := xw_in2 (K := 7) (i := 91) rfl rfl
set_option maxRecDepth 20000 in
theorem xo_c_X10_sumOf_0 : xc_b xmi_X10_sumOf xc_X10_sumOf 0 48 = true := by decide +kernel
theorem xo_r_X10_sumOf : ∀ (pc : Nat) (r : xr_R), xcl xc_X10_sumOf pc = some r → xr_b xmi_X10_sumOf.1 (xm_ini xmi_X10_sumOf) xmi_X10_sumOf.2.2.1 pc r = true ∧ xr_c xM xmi_X10_sumOf.1 r = true := xc_up_e (mi := xmi_X10_sumOf) (cd := xc_X10_sumOf) (N := 48) (xc_up_s (mi := xmi_X10_sumOf) (cd := xc_X10_sumOf) (lo := 0) (n := 48) xc_up_0 xo_c_X10_sumOf_0) (by decide +kernel)
set_option maxRecDepth 20000 in
theorem xo_m_X10_isRight : xm_b xmi_X10_isRight (1, 11) (7, 85) (0, 106) = true := by decide +kernel
theorem xo_w_X10_isRight : Cond.code xmi_X10_isRight.2.1 xmi_X10_isRight.2.2.1 xmi_X10_isRight.2.2.2.1 xmi_X10_isRight.2.2.2.2.1 ∈ xG := xw_in2 (K := 7) (i := 86) rfl rfl
set_option maxRecDepth 20000 in
theorem xo_c_X10_isRight_0 : xc_b xmi_X10_isRight xc_X10_isRight 0 80 = true := by decide +kernel
theorem xo_r_X10_isRight : ∀ (pc : Nat) (r : xr_R), xcl xc_X10_isRight pc = some r → xr_b xmi_X10_isRight.1 (xm_ini xmi_X10_isRight) xmi_X10_isRight.2.2.1 pc r = true ∧ xr_c xM xmi_X10_isRight.1 r = true := xc_up_e (mi := xmi_X10_isRight) (cd := xc_X10_isRight) (N := 80) (xc_up_s (mi := xmi_X10_isRight) (cd := xc_X10_isRight) (lo := 0) (n := 80) xc_up_0 xo_c_X10_isRight_0) (by decide +kernel)
set_option maxRecDepth 20000 in
theorem xo_m_X10_mayBe : xm_b xmi_X10_mayBe (1, 11) (7, 81) (0, 105) = true := by decide +kernel
theorem xo_w_X10_mayBe : Cond.code xmi_X10_mayBe.2.1 xmi_X10_mayBe.2.2.1 xmi_X10_mayBe.2.2.2.1 xmi_X10_mayBe.2.2.2.2.1 ∈ xG := xw_in2 (K := 7) (i := 82) rfl rfl
set_option maxRecDepth 20000 in
theorem xo_c_X10_mayBe_0 : xc_b xmi_X10_mayBe xc_X10_mayBe 0 80 = true := by decide +kernel
theorem xo_r_X10_mayBe : ∀ (pc : Nat) (r : xr_R), xcl xc_X10_mayBe pc = some r → xr_b xmi_X10_mayBe.1 (xm_ini xmi_X10_mayBe) xmi_X10_mayBe.2.2.1 pc r = true ∧ xr_c xM xmi_X10_mayBe.1 r = true := xc_up_e (mi := xmi_X10_mayBe) (cd := xc_X10_mayBe) (N := 80) (xc_up_s (mi := xmi_X10_mayBe) (cd := xc_X10_mayBe) (lo := 0) (n := 80) xc_up_0 xo_c_X10_mayBe_0) (by decide +kernel)
set_option maxRecDepth 20000 in
theorem xo_m_X10_trySum : xm_b xmi_X10_trySum (1, 11) (7, 77) (0, 104) = true := by decide +kernel
theorem xo_w_X10_trySum : Cond.code xmi_X10_trySum.2.1 xmi_X10_trySum.2.2.1 xmi_X10_trySum.2.2.2.1 xmi_X10_trySum.2.2.2.2.1 ∈ xG := xw_in2 (K := 7) (i := 78) rfl rfl
set_option maxRecDepth 20000 in
theorem xo_c_X10_trySum_0 : xc_b xmi_X10_trySum xc_X10_trySum 0 112 = true := by decide +kernel
set_option maxRecDepth 20000 in
theorem xo_c_X10_trySum_112 : xc_b xmi_X10_trySum xc_X10_trySum 112 80 = true := by decide +kernel
theorem xo_r_X10_trySum : ∀ (pc : Nat) (r : xr_R), xcl xc_X10_trySum pc = some r → xr_b xmi_X10_trySum.1 (xm_ini xmi_X10_trySum) xmi_X10_trySum.2.2.1 pc r = true ∧ xr_c xM xmi_X10_trySum.1 r = true := xc_up_e (mi := xmi_X10_trySum) (cd := xc_X10_trySum) (N := 192) (xc_up_s (mi := xmi_X10_trySum) (cd := xc_X10_trySum) (lo := 112) (n := 80) (xc_up_s (mi := xmi_X10_trySum) (cd := xc_X10_trySum) (lo := 0) (n := 112) xc_up_0 xo_c_X10_trySum_0) xo_c_X10_trySum_112) (by decide +kernel)
set_option maxRecDepth 20000 in
theorem xo_m_X10_weigh : xm_b xmi_X10_weigh (1, 11) (7, 64) (7, 65) = true := by decide +kernel
theorem xo_w_X10_weigh : Cond.code xmi_X10_weigh.2.1 xmi_X10_weigh.2.2.1 xmi_X10_weigh.2.2.2.1 xmi_X10_weigh.2.2.2.2.1 ∈ xG := xw_in2 (K := 7) (i := 66) rfl rfl
set_option maxRecDepth 20000 in
theorem xo_c_X10_weigh_0 : xc_b xmi_X10_weigh xc_X10_weigh 0 112 = true := by decide +kernel
set_option maxRecDepth 20000 in
theorem xo_c_X10_weigh_112 : xc_b xmi_X10_weigh xc_X10_weigh 112 48 = true := by decide +kernel
theorem xo_r_X10_weigh : ∀ (pc : Nat) (r : xr_R), xcl xc_X10_weigh pc = some r → xr_b xmi_X10_weigh.1 (xm_ini xmi_X10_weigh) xmi_X10_weigh.2.2.1 pc r = true ∧ xr_c xM xmi_X10_weigh.1 r = true := xc_up_e (mi := xmi_X10_weigh) (cd := xc_X10_weigh) (N := 160) (xc_up_s (mi := xmi_X10_weigh) (cd := xc_X10_weigh) (lo := 112) (n := 48) (xc_up_s (mi := xmi_X10_weigh) (cd := xc_X10_weigh) (lo := 0) (n := 112) xc_up_0 xo_c_X10_weigh_0) xo_c_X10_weigh_112) (by decide +kernel)
set_option maxRecDepth 20000 in
theorem xo_m_X10_weight : xm_b xmi_X10_weight (1, 11) (7, 93) (7, 94) = true := by decide +kernel
theorem xo_w_X10_weight : Cond.code xmi_X10_weight.2.1 xmi_X10_weight.2.2.1 xmi_X10_weight.2.2.2.1 xmi_X10_weight.2.2.2.2.1 ∈ xG := xw_in2 (K := 7) (i := 95) rfl rfl
set_option maxRecDepth 20000 in
theorem xo_c_X10_weight_0 : xc_b xmi_X10_weight xc_X10_weight 0 48 = true := by decide +kernel
theorem xo_r_X10_weight : ∀ (pc : Nat) (r : xr_R), xcl xc_X10_weight pc = some r → xr_b xmi_X10_weight.1 (xm_ini xmi_X10_weight) xmi_X10_weight.2.2.1 pc r = true ∧ xr_c xM xmi_X10_weight.1 r = true := xc_up_e (mi := xmi_X10_weight) (cd := xc_X10_weight) (N := 48) (xc_up_s (mi := xmi_X10_weight) (cd := xc_X10_weight) (lo := 0) (n := 48) xc_up_0 xo_c_X10_weight_0) (by decide +kernel)
set_option maxRecDepth 20000 in
theorem xo_m_X10_areOptions : xm_b xmi_X10_areOptions (1, 11) (7, 102) (0, 108) = true := by decide +kernel
theorem xo_w_X10_areOptions : Cond.code xmi_X10_areOptions.2.1 xmi_X10_areOptions.2.2.1 xmi_X10_areOptions.2.2.2.1 xmi_X10_areOptions.2.2.2.2.1 ∈ xG := xw_in2 (K := 7) (i := 103) rfl rfl
set_option maxRecDepth 20000 in
theorem xo_c_X10_areOptions_0 : xc_b xmi_X10_areOptions xc_X10_areOptions 0 64 = true := by decide +kernel
theorem xo_r_X10_areOptions : ∀ (pc : Nat) (r : xr_R), xcl xc_X10_areOptions pc = some r → xr_b xmi_X10_areOptions.1 (xm_ini xmi_X10_areOptions) xmi_X10_areOptions.2.2.1 pc r = true ∧ xr_c xM xmi_X10_areOptions.1 r = true := xc_up_e (mi := xmi_X10_areOptions) (cd := xc_X10_areOptions) (N := 64) (xc_up_s (mi := xmi_X10_areOptions) (cd := xc_X10_areOptions) (lo := 0) (n := 64) xc_up_0 xo_c_X10_areOptions_0) (by decide +kernel)
set_option maxRecDepth 20000 in
theorem xo_m_X10_rank : xm_b xmi_X10_rank (1, 11) (7, 97) (7, 98) = true := by decide +kernel
theorem xo_w_X10_rank : Cond.code xmi_X10_rank.2.1 xmi_X10_rank.2.2.1 xmi_X10_rank.2.2.2.1 xmi_X10_rank.2.2.2.2.1 ∈ xG := xw_in2 (K := 7) (i := 99) rfl rfl
set_option maxRecDepth 20000 in
theorem xo_c_X10_rank_0 : xc_b xmi_X10_rank xc_X10_rank 0 80 = true := by decide +kernel
theorem xo_r_X10_rank : ∀ (pc : Nat) (r : xr_R), xcl xc_X10_rank pc = some r → xr_b xmi_X10_rank.1 (xm_ini xmi_X10_rank) xmi_X10_rank.2.2.1 pc r = true ∧ xr_c xM xmi_X10_rank.1 r = true := xc_up_e (mi := xmi_X10_rank) (cd := xc_X10_rank) (N := 80) (xc_up_s (mi := xmi_X10_rank) (cd := xc_X10_rank) (lo := 0) (n := 80) xc_up_0 xo_c_X10_rank_0) (by decide +kernel)
set_option maxRecDepth 20000 in
theorem xo_m_X10_beatsOf : xm_b xmi_X10_beatsOf (1, 11) (7, 117) (0, 110) = true := by decide +kernel
theorem xo_w_X10_beatsOf : Cond.code xmi_X10_beatsOf.2.1 xmi_X10_beatsOf.2.2.1 xmi_X10_beatsOf.2.2.2.1 xmi_X10_beatsOf.2.2.2.2.1 ∈ xG := xw_in2 (K := 7) (i := 118) rfl rfl
set_option maxRecDepth 20000 in
theorem xo_c_X10_beatsOf_0 : xc_b xmi_X10_beatsOf xc_X10_beatsOf 0 64 = true := by decide +kernel
theorem xo_r_X10_beatsOf : ∀ (pc : Nat) (r : xr_R), xcl xc_X10_beatsOf pc = some r → xr_b xmi_X10_beatsOf.1 (xm_ini xmi_X10_beatsOf) xmi_X10_beatsOf.2.2.1 pc r = true ∧ xr_c xM xmi_X10_beatsOf.1 r = true := xc_up_e (mi := xmi_X10_beatsOf) (cd := xc_X10_beatsOf) (N := 64) (xc_up_s (mi := xmi_X10_beatsOf) (cd := xc_X10_beatsOf) (lo := 0) (n := 64) xc_up_0 xo_c_X10_beatsOf_0) (by decide +kernel)
set_option maxRecDepth 20000 in
theorem xo_m_X10_layOptions : xm_b xmi_X10_layOptions (1, 11) (7, 113) (0, 109) = true := by decide +kernel
theorem xo_w_X10_layOptions : Cond.code xmi_X10_layOptions.2.1 xmi_X10_layOptions.2.2.1 xmi_X10_layOptions.2.2.2.1 xmi_X10_layOptions.2.2.2.2.1 ∈ xG := xw_in2 (K := 7) (i := 114) rfl rfl
set_option maxRecDepth 20000 in
theorem xo_c_X10_layOptions_0 : xc_b xmi_X10_layOptions xc_X10_layOptions 0 112 = true := by decide +kernel
set_option maxRecDepth 20000 in
theorem xo_c_X10_layOptions_112 : xc_b xmi_X10_layOptions xc_X10_layOptions 112 64 = true := by decide +kernel
theorem xo_r_X10_layOptions : ∀ (pc : Nat) (r : xr_R), xcl xc_X10_layOptions pc = some r → xr_b xmi_X10_layOptions.1 (xm_ini xmi_X10_layOptions) xmi_X10_layOptions.2.2.1 pc r = true ∧ xr_c xM xmi_X10_layOptions.1 r = true := xc_up_e (mi := xmi_X10_layOptions) (cd := xc_X10_layOptions) (N := 176) (xc_up_s (mi := xmi_X10_layOptions) (cd := xc_X10_layOptions) (lo := 112) (n := 64) (xc_up_s (mi := xmi_X10_layOptions) (cd := xc_X10_layOptions) (lo := 0) (n := 112) xc_up_0 xo_c_X10_layOptions_0) xo_c_X10_layOptions_112) (by decide +kernel)
set_option maxRecDepth 20000 in
theorem xo_m_X10_isOption : xm_b xmi_X10_isOption (1, 11) (7, 109) (99, 0) = true := by decide +kernel
theorem xo_w_X10_isOption : Cond.code xmi_X10_isOption.2.1 xmi_X10_isOption.2.2.1 xmi_X10_isOption.2.2.2.1 xmi_X10_isOption.2.2.2.2.1 ∈ xG := xw_in2 (K := 7) (i := 110) rfl rfl
set_option maxRecDepth 20000 in
theorem xo_c_X10_isOption_0 : xc_b xmi_X10_isOption xc_X10_isOption 0 16 = true := by decide +kernel
theorem xo_r_X10_isOption : ∀ (pc : Nat) (r : xr_R), xcl xc_X10_isOption pc = some r → xr_b xmi_X10_isOption.1 (xm_ini xmi_X10_isOption) xmi_X10_isOption.2.2.1 pc r = true ∧ xr_c xM xmi_X10_isOption.1 r = true := xc_up_e (mi := xmi_X10_isOption) (cd := xc_X10_isOption) (N := 16) (xc_up_s (mi := xmi_X10_isOption) (cd := xc_X10_isOption) (lo := 0) (n := 16) xc_up_0 xo_c_X10_isOption_0) (by decide +kernel)
set_option maxRecDepth 20000 in
theorem xo_m_X10_beats : xm_b xmi_X10_beats (1, 11) (7, 105) (7, 106) = true := by decide +kernel
theorem xo_w_X10_beats : Cond.code xmi_X10_beats.2.1 xmi_X10_beats.2.2.1 xmi_X10_beats.2.2.2.1 xmi_X10_beats.2.2.2.2.1 ∈ xG := xw_in2 (K := 7) (i := 107) rfl rfl
set_option maxRecDepth 20000 in
theorem xo_c_X10_beats_0 : xc_b xmi_X10_beats xc_X10_beats 0 64 = true := by decide +kernel
theorem xo_r_X10_beats : ∀ (pc : Nat) (r : xr_R), xcl xc_X10_beats pc = some r → xr_b xmi_X10_beats.1 (xm_ini xmi_X10_beats) xmi_X10_beats.2.2.1 pc r = true ∧ xr_c xM xmi_X10_beats.1 r = true := xc_up_e (mi := xmi_X10_beats) (cd := xc_X10_beats) (N := 64) (xc_up_s (mi := xmi_X10_beats) (cd := xc_X10_beats) (lo := 0) (n := 64) xc_up_0 xo_c_X10_beats_0) (by decide +kernel)
set_option maxRecDepth 20000 in
theorem xo_m_X10_free : xm_b xmi_X10_free (1, 11) (7, 120) (7, 121) = true := by decide +kernel
theorem xo_w_X10_free : Cond.code xmi_X10_free.2.1 xmi_X10_free.2.2.1 xmi_X10_free.2.2.2.1 xmi_X10_free.2.2.2.2.1 ∈ xG := xw_in2 (K := 7) (i := 122) rfl rfl
set_option maxRecDepth 20000 in
theorem xo_c_X10_free_0 : xc_b xmi_X10_free xc_X10_free 0 80 = true := by decide +kernel
theorem xo_r_X10_free : ∀ (pc : Nat) (r : xr_R), xcl xc_X10_free pc = some r → xr_b xmi_X10_free.1 (xm_ini xmi_X10_free) xmi_X10_free.2.2.1 pc r = true ∧ xr_c xM xmi_X10_free.1 r = true := xc_up_e (mi := xmi_X10_free) (cd := xc_X10_free) (N := 80) (xc_up_s (mi := xmi_X10_free) (cd := xc_X10_free) (lo := 0) (n := 80) xc_up_0 xo_c_X10_free_0) (by decide +kernel)
set_option maxRecDepth 20000 in
theorem xo_m_X10_top : xm_b xmi_X10_top (1, 11) (7, 124) (7, 125) = true := by decide +kernel
theorem xo_w_X10_top : Cond.code xmi_X10_top.2.1 xmi_X10_top.2.2.1 xmi_X10_top.2.2.2.1 xmi_X10_top.2.2.2.2.1 ∈ xG := xw_in2 (K := 7) (i := 126) rfl rfl
set_option maxRecDepth 20000 in
theorem xo_c_X10_top_0 : xc_b xmi_X10_top xc_X10_top 0 96 = true := by decide +kernel
theorem xo_r_X10_top : ∀ (pc : Nat) (r : xr_R), xcl xc_X10_top pc = some r → xr_b xmi_X10_top.1 (xm_ini xmi_X10_top) xmi_X10_top.2.2.1 pc r = true ∧ xr_c xM xmi_X10_top.1 r = true := xc_up_e (mi := xmi_X10_top) (cd := xc_X10_top) (N := 96) (xc_up_s (mi := xmi_X10_top) (cd := xc_X10_top) (lo := 0) (n := 96) xc_up_0 xo_c_X10_top_0) (by decide +kernel)
set_option maxRecDepth 20000 in
theorem xo_m_X10_leads : xm_b xmi_X10_leads (1, 11) (7, 128) (7, 129) = true := by decide +kernel
theorem xo_w_X10_leads : Cond.code xmi_X10_leads.2.1 xmi_X10_leads.2.2.1 xmi_X10_leads.2.2.2.1 xmi_X10_leads.2.2.2.2.1 ∈ xG := xw_in2 (K := 7) (i := 130) rfl rfl
set_option maxRecDepth 20000 in
theorem xo_c_X10_leads_0 : xc_b xmi_X10_leads xc_X10_leads 0 112 = true := by decide +kernel
set_option maxRecDepth 20000 in
theorem xo_c_X10_leads_112 : xc_b xmi_X10_leads xc_X10_leads 112 112 = true := by decide +kernel
theorem xo_r_X10_leads : ∀ (pc : Nat) (r : xr_R), xcl xc_X10_leads pc = some r → xr_b xmi_X10_leads.1 (xm_ini xmi_X10_leads) xmi_X10_leads.2.2.1 pc r = true ∧ xr_c xM xmi_X10_leads.1 r = true := xc_up_e (mi := xmi_X10_leads) (cd := xc_X10_leads) (N := 224) (xc_up_s (mi := xmi_X10_leads) (cd := xc_X10_leads) (lo := 112) (n := 112) (xc_up_s (mi := xmi_X10_leads) (cd := xc_X10_leads) (lo := 0) (n := 112) xc_up_0 xo_c_X10_leads_0) xo_c_X10_leads_112) (by decide +kernel)
set_option maxRecDepth 20000 in
theorem xo_m_X10_endOf : xm_b xmi_X10_endOf (1, 11) (7, 133) (0, 111) = true := by decide +kernel
theorem xo_w_X10_endOf : Cond.code xmi_X10_endOf.2.1 xmi_X10_endOf.2.2.1 xmi_X10_endOf.2.2.2.1 xmi_X10_endOf.2.2.2.2.1 ∈ xG := xw_in2 (K := 7) (i := 134) rfl rfl
set_option maxRecDepth 20000 in
theorem xo_c_X10_endOf_0 : xc_b xmi_X10_endOf xc_X10_endOf 0 48 = true := by decide +kernel
theorem xo_r_X10_endOf : ∀ (pc : Nat) (r : xr_R), xcl xc_X10_endOf pc = some r → xr_b xmi_X10_endOf.1 (xm_ini xmi_X10_endOf) xmi_X10_endOf.2.2.1 pc r = true ∧ xr_c xM xmi_X10_endOf.1 r = true := xc_up_e (mi := xmi_X10_endOf) (cd := xc_X10_endOf) (N := 48) (xc_up_s (mi := xmi_X10_endOf) (cd := xc_X10_endOf) (lo := 0) (n := 48) xc_up_0 xo_c_X10_endOf_0) (by decide +kernel)
end XCK8
end
section
section XCK9
set_option maxRecDepth 20000 in
theorem xo_m_X10_rows : xm_b xmi_X10_rows (1, 11) (7, 136) (7, 137) = true := by decide +kernel
theorem xo_w_X10_rows : Cond.code xmi_X10_rows.2.1 xmi_X10_rows.2.2.1 xmi_X10_rows.2.2.2.1 xmi_X10_rows.2.2.2.2.1 ∈ xG := xw_in2 (K := 7) (i := 138) rfl rfl
set_option maxRecDepth 20000 in
theorem xo_c_X10_rows_0 : xc_b xmi_X10_rows xc_X10_rows 0 112 = true := by decide +kernel
theorem xo_r_X10_rows : ∀ (pc : Nat) (r : xr_R), xcl xc_X10_rows pc = some r → xr_b xmi_X10_rows.1 (xm_ini xmi_X10_rows) xmi_X10_rows.2.2.1 pc r = true ∧ xr_c xM xmi_X10_rows.1 r = true := xc_up_e (mi := xmi_X10_rows) (cd := xc_X10_rows) (N := 112) (xc_up_s (mi := xmi_X10_rows) (cd := xc_X10_rows) (lo := 0) (n := 112) xc_up_0 xo_c_X10_rows_0) (by decide +kernel)
set_option maxRecDepth 20000 in
theorem xo_m_X10_goOn : xm_b xmi_X10_goOn (1, 11) (7, 141) (0, 112) = true := by decide +kernel
theorem xo_w_X10_goOn : Cond.code xmi_X10_goOn.2.1 xmi_X10_goOn.2.2.1 xmi_X10_goOn.2.2.2.1 xmi_X10_goOn.2.2.2.2.1 ∈ xG := xw_in2 (K := 7) (i := 142) rfl rfl
set_option maxRecDepth 20000 in
theorem xo_c_X10_goOn_0 : xc_b xmi_X10_goOn xc_X10_goOn 0 112 = true := by decide +kernel
set_option maxRecDepth 20000 in
theorem xo_c_X10_goOn_112 : xc_b xmi_X10_goOn xc_X10_goOn 112 32 = true := by decide +kernel
theorem xo_r_X10_goOn : ∀ (pc : Nat) (r : xr_R), xcl xc_X10_goOn pc = some r → xr_b xmi_X10_goOn.1 (xm_ini xmi_X10_goOn) xmi_X10_goOn.2.2.1 pc r = true ∧ xr_c xM xmi_X10_goOn.1 r = true := xc_up_e (mi := xmi_X10_goOn) (cd := xc_X10_goOn) (N := 144) (xc_up_s (mi := xmi_X10_goOn) (cd := xc_X10_goOn) (lo := 112) (n := 32) (xc_up_s (mi := xmi_X10_goOn) (cd := xc_X10_goOn) (lo := 0) (n := 112) xc_up_0 xo_c_X10_goOn_0) xo_c_X10_goOn_112) (by decide +kernel)
set_option maxRecDepth 20000 in
theorem xo_m_X10_rowAt : xm_b xmi_X10_rowAt (1, 11) (7, 144) (7, 145) = true := by decide +kernel
theorem xo_w_X10_rowAt : Cond.code xmi_X10_rowAt.2.1 xmi_X10_rowAt.2.2.1 xmi_X10_rowAt.2.2.2.1 xmi_X10_rowAt.2.2.2.2.1 ∈ xG := xw_in2 (K := 7) (i := 146) rfl rfl
set_option maxRecDepth 20000 in
theorem xo_c_X10_rowAt_0 : xc_b xmi_X10_rowAt xc_X10_rowAt 0 32 = true := by decide +kernel
theorem xo_r_X10_rowAt : ∀ (pc : Nat) (r : xr_R), xcl xc_X10_rowAt pc = some r → xr_b xmi_X10_rowAt.1 (xm_ini xmi_X10_rowAt) xmi_X10_rowAt.2.2.1 pc r = true ∧ xr_c xM xmi_X10_rowAt.1 r = true := xc_up_e (mi := xmi_X10_rowAt) (cd := xc_X10_rowAt) (N := 32) (xc_up_s (mi := xmi_X10_rowAt) (cd := xc_X10_rowAt) (lo := 0) (n := 32) xc_up_0 xo_c_X10_rowAt_0) (by decide +kernel)
set_option maxRecDepth 20000 in
theorem xo_m_X10_vote : xm_b xmi_X10_vote (1, 11) (7, 148) (7, 149) = true := by decide +kernel
theorem xo_w_X10_vote : Cond.code xmi_X10_vote.2.1 xmi_X10_vote.2.2.1 xmi_X10_vote.2.2.2.1 xmi_X10_vote.2.2.2.2.1 ∈ xG := xw_in2 (K := 7) (i := 150) rfl rfl
set_option maxRecDepth 20000 in
theorem xo_c_X10_vote_0 : xc_b xmi_X10_vote xc_X10_vote 0 80 = true := by decide +kernel
theorem xo_r_X10_vote : ∀ (pc : Nat) (r : xr_R), xcl xc_X10_vote pc = some r → xr_b xmi_X10_vote.1 (xm_ini xmi_X10_vote) xmi_X10_vote.2.2.1 pc r = true ∧ xr_c xM xmi_X10_vote.1 r = true := xc_up_e (mi := xmi_X10_vote) (cd := xc_X10_vote) (N := 80) (xc_up_s (mi := xmi_X10_vote) (cd := xc_X10_vote) (lo := 0) (n := 80) xc_up_0 xo_c_X10_vote_0) (by decide +kernel)
set_option maxRecDepth 20000 in
theorem xo_m_X10_unfit : xm_b xmi_X10_unfit (1, 11) (7, 152) (7, 153) = true := by decide +kernel
theorem xo_w_X10_unfit : Cond.code xmi_X10_unfit.2.1 xmi_X10_unfit.2.2.1 xmi_X10_unfit.2.2.2.1 xmi_X10_unfit.2.2.2.2.1 ∈ xG := xw_in2 (K := 7) (i := 154) rfl rfl
set_option maxRecDepth 20000 in
theorem xo_c_X10_unfit_0 : xc_b xmi_X10_unfit xc_X10_unfit 0 80 = true := by decide +kernel
theorem xo_r_X10_unfit : ∀ (pc : Nat) (r : xr_R), xcl xc_X10_unfit pc = some r → xr_b xmi_X10_unfit.1 (xm_ini xmi_X10_unfit) xmi_X10_unfit.2.2.1 pc r = true ∧ xr_c xM xmi_X10_unfit.1 r = true := xc_up_e (mi := xmi_X10_unfit) (cd := xc_X10_unfit) (N := 80) (xc_up_s (mi := xmi_X10_unfit) (cd := xc_X10_unfit) (lo := 0) (n := 80) xc_up_0 xo_c_X10_unfit_0) (by decide +kernel)
set_option maxRecDepth 20000 in
theorem xo_m_X10_sureOf : xm_b xmi_X10_sureOf (1, 11) (7, 161) (0, 113) = true := by decide +kernel
theorem xo_w_X10_sureOf : Cond.code xmi_X10_sureOf.2.1 xmi_X10_sureOf.2.2.1 xmi_X10_sureOf.2.2.2.1 xmi_X10_sureOf.2.2.2.2.1 ∈ xG := xw_in2 (K := 7) (i := 162) rfl rfl
set_option maxRecDepth 20000 in
theorem xo_c_X10_sureOf_0 : xc_b xmi_X10_sureOf xc_X10_sureOf 0 112 = true := by decide +kernel
set_option maxRecDepth 20000 in
theorem xo_c_X10_sureOf_112 : xc_b xmi_X10_sureOf xc_X10_sureOf 112 16 = true := by decide +kernel
theorem xo_r_X10_sureOf : ∀ (pc : Nat) (r : xr_R), xcl xc_X10_sureOf pc = some r → xr_b xmi_X10_sureOf.1 (xm_ini xmi_X10_sureOf) xmi_X10_sureOf.2.2.1 pc r = true ∧ xr_c xM xmi_X10_sureOf.1 r = true := xc_up_e (mi := xmi_X10_sureOf) (cd := xc_X10_sureOf) (N := 128) (xc_up_s (mi := xmi_X10_sureOf) (cd := xc_X10_sureOf) (lo := 112) (n := 16) (xc_up_s (mi := xmi_X10_sureOf) (cd := xc_X10_sureOf) (lo := 0) (n := 112) xc_up_0 xo_c_X10_sureOf_0) xo_c_X10_sureOf_112) (by decide +kernel)
set_option maxRecDepth 20000 in
theorem xo_m_X10_sure : xm_b xmi_X10_sure (1, 11) (7, 156) (7, 157) = true := by decide +kernel
theorem xo_w_X10_sure : Cond.code xmi_X10_sure.2.1 xmi_X10_sure.2.2.1 xmi_X10_sure.2.2.2.1 xmi_X10_sure.2.2.2.2.1 ∈ xG := xw_in2 (K := 7) (i := 158) rfl rfl
set_option maxRecDepth 20000 in
theorem xo_c_X10_sure_0 : xc_b xmi_X10_sure xc_X10_sure 0 32 = true := by decide +kernel
theorem xo_r_X10_sure : ∀ (pc : Nat) (r : xr_R), xcl xc_X10_sure pc = some r → xr_b xmi_X10_sure.1 (xm_ini xmi_X10_sure) xmi_X10_sure.2.2.1 pc r = true ∧ xr_c xM xmi_X10_sure.1 r = true := xc_up_e (mi := xmi_X10_sure) (cd := xc_X10_sure) (N := 32) (xc_up_s (mi := xmi_X10_sure) (cd := xc_X10_sure) (lo := 0) (n := 32) xc_up_0 xo_c_X10_sure_0) (by decide +kernel)
set_option maxRecDepth 20000 in
theorem xo_m_X10_open : xm_b xmi_X10_open (1, 11) (7, 164) (7, 165) = true := by decide +kernel
theorem xo_w_X10_open : Cond.code xmi_X10_open.2.1 xmi_X10_open.2.2.1 xmi_X10_open.2.2.2.1 xmi_X10_open.2.2.2.2.1 ∈ xG := xw_in2 (K := 7) (i := 166) rfl rfl
set_option maxRecDepth 20000 in
theorem xo_c_X10_open_0 : xc_b xmi_X10_open xc_X10_open 0 48 = true := by decide +kernel
theorem xo_r_X10_open : ∀ (pc : Nat) (r : xr_R), xcl xc_X10_open pc = some r → xr_b xmi_X10_open.1 (xm_ini xmi_X10_open) xmi_X10_open.2.2.1 pc r = true ∧ xr_c xM xmi_X10_open.1 r = true := xc_up_e (mi := xmi_X10_open) (cd := xc_X10_open) (N := 48) (xc_up_s (mi := xmi_X10_open) (cd := xc_X10_open) (lo := 0) (n := 48) xc_up_0 xo_c_X10_open_0) (by decide +kernel)
set_option maxRecDepth 20000 in
theorem xo_m_X10_count : xm_b xmi_X10_count (1, 11) (7, 168) (7, 169) = true := by decide +kernel
theorem xo_w_X10_count : Cond.code xmi_X10_count.2.1 xmi_X10_count.2.2.1 xmi_X10_count.2.2.2.1 xmi_X10_count.2.2.2.2.1 ∈ xG := xw_in2 (K := 7) (i := 170) rfl rfl
set_option maxRecDepth 20000 in
theorem xo_c_X10_count_0 : xc_b xmi_X10_count xc_X10_count 0 80 = true := by decide +kernel
theorem xo_r_X10_count : ∀ (pc : Nat) (r : xr_R), xcl xc_X10_count pc = some r → xr_b xmi_X10_count.1 (xm_ini xmi_X10_count) xmi_X10_count.2.2.1 pc r = true ∧ xr_c xM xmi_X10_count.1 r = true := xc_up_e (mi := xmi_X10_count) (cd := xc_X10_count) (N := 80) (xc_up_s (mi := xmi_X10_count) (cd := xc_X10_count) (lo := 0) (n := 80) xc_up_0 xo_c_X10_count_0) (by decide +kernel)
set_option maxRecDepth 20000 in
theorem xo_m_J6_bitCount_0f7a4 : xm_b xmi_J6_bitCount_0f7a4 (1, 17) (3, 184) (99, 0) = true := by decide +kernel
theorem xo_w_J6_bitCount_0f7a4 : Cond.code xmi_J6_bitCount_0f7a4.2.1 xmi_J6_bitCount_0f7a4.2.2.1 xmi_J6_bitCount_0f7a4.2.2.2.1 xmi_J6_bitCount_0f7a4.2.2.2.2.1 ∈ xG := xw_in2 (K := 3) (i := 185) rfl rfl
set_option maxRecDepth 20000 in
theorem xo_c_J6_bitCount_0f7a4_0 : xc_b xmi_J6_bitCount_0f7a4 xc_J6_bitCount_0f7a4 0 64 = true := by decide +kernel
theorem xo_r_J6_bitCount_0f7a4 : ∀ (pc : Nat) (r : xr_R), xcl xc_J6_bitCount_0f7a4 pc = some r → xr_b xmi_J6_bitCount_0f7a4.1 (xm_ini xmi_J6_bitCount_0f7a4) xmi_J6_bitCount_0f7a4.2.2.1 pc r = true ∧ xr_c xM xmi_J6_bitCount_0f7a4.1 r = true := xc_up_e (mi := xmi_J6_bitCount_0f7a4) (cd := xc_J6_bitCount_0f7a4) (N := 64) (xc_up_s (mi := xmi_J6_bitCount_0f7a4) (cd := xc_J6_bitCount_0f7a4) (lo := 0) (n := 64) xc_up_0 xo_c_J6_bitCount_0f7a4_0) (by decide +kernel)
set_option maxRecDepth 20000 in
theorem xo_c_L_law_0 : xc_b xmi_L_law xc_L_law 0 48 = true := by decide +kernel
set_option maxRecDepth 20000 in
theorem xo_c_L_law_48 : xc_b xmi_L_law xc_L_law 48 48 = true := by decide +kernel
set_option maxRecDepth 20000 in
theorem xo_c_L_law_96 : xc_b xmi_L_law xc_L_law 96 48 = true := by decide +kernel
set_option maxRecDepth 20000 in
theorem xo_c_L_law_144 : xc_b xmi_L_law xc_L_law 144 48 = true := by decide +kernel
set_option maxRecDepth 20000 in
theorem xo_c_L_law_192 : xc_b xmi_L_law xc_L_law 192 48 = true := by decide +kernel
set_option maxRecDepth 20000 in
theorem xo_c_L_law_240 : xc_b xmi_L_law xc_L_law 240 48 = true := by decide +kernel
set_option maxRecDepth 20000 in
theorem xo_c_L_law_288 : xc_b xmi_L_law xc_L_law 288 48 = true := by decide +kernel
set_option maxRecDepth 20000 in
theorem xo_c_L_law_336 : xc_b xmi_L_law xc_L_law 336 48 = true := by decide +kernel
set_option maxRecDepth 20000 in
theorem xo_c_L_law_384 : xc_b xmi_L_law xc_L_law 384 48 = true := by decide +kernel
set_option maxRecDepth 20000 in
theorem xo_c_L_law_432 : xc_b xmi_L_law xc_L_law 432 48 = true := by decide +kernel
set_option maxRecDepth 20000 in
theorem xo_c_L_law_480 : xc_b xmi_L_law xc_L_law 480 48 = true := by decide +kernel
set_option maxRecDepth 20000 in
theorem xo_c_L_law_528 : xc_b xmi_L_law xc_L_law 528 48 = true := by decide +kernel
set_option maxRecDepth 20000 in
theorem xo_c_L_law_576 : xc_b xmi_L_law xc_L_law 576 48 = true := by decide +kernel
set_option maxRecDepth 20000 in
theorem xo_c_L_law_624 : xc_b xmi_L_law xc_L_law 624 48 = true := by decide +kernel
set_option maxRecDepth 20000 in
theorem xo_c_L_law_672 : xc_b xmi_L_law xc_L_law 672 48 = true := by decide +kernel
set_option maxRecDepth 20000 in
theorem xo_c_L_law_720 : xc_b xmi_L_law xc_L_law 720 48 = true := by decide +kernel
set_option maxRecDepth 20000 in
theorem xo_c_L_law_768 : xc_b xmi_L_law xc_L_law 768 48 = true := by decide +kernel
set_option maxRecDepth 20000 in
theorem xo_c_L_law_816 : xc_b xmi_L_law xc_L_law 816 48 = true := by decide +kernel
set_option maxRecDepth 20000 in
theorem xo_c_L_law_864 : xc_b xmi_L_law xc_L_law 864 48 = true := by decide +kernel
set_option maxRecDepth 20000 in
theorem xo_c_L_law_912 : xc_b xmi_L_law xc_L_law 912 48 = true := by decide +kernel
set_option maxRecDepth 20000 in
theorem xo_c_L_law_960 : xc_b xmi_L_law xc_L_law 960 48 = true := by decide +kernel
theorem xo_r_L_law : ∀ (pc : Nat) (r : xr_R), xcl xc_L_law pc = some r → xr_b xmi_L_law.1 (xm_ini xmi_L_law) xmi_L_law.2.2.1 pc r = true ∧ xr_c xM xmi_L_law.1 r = true := xc_up_e (mi := xmi_L_law) (cd := xc_L_law) (N := 1008) (xc_up_s (mi := xmi_L_law) (cd := xc_L_law) (lo := 960) (n := 48) (xc_up_s (mi := xmi_L_law) (cd := xc_L_law) (lo := 912) (n := 48) (xc_up_s (mi := xmi_L_law) (cd := xc_L_law) (lo := 864) (n := 48) (xc_up_s (mi := xmi_L_law) (cd := xc_L_law) (lo := 816) (n := 48) (xc_up_s (mi := xmi_L_law) (cd := xc_L_law) (lo := 768) (n := 48) (xc_up_s (mi := xmi_L_law) (cd := xc_L_law) (lo := 720) (n := 48) (xc_up_s (mi := xmi_L_law) (cd := xc_L_law) (lo := 672) (n := 48) (xc_up_s (mi := xmi_L_law) (cd := xc_L_law) (lo := 624) (n := 48) (xc_up_s (mi := xmi_L_law) (cd := xc_L_law) (lo := 576) (n := 48) (xc_up_s (mi := xmi_L_law) (cd := xc_L_law) (lo := 528) (n := 48) (xc_up_s (mi := xmi_L_law) (cd := xc_L_law) (lo := 480) (n := 48) (xc_up_s (mi := xmi_L_law) (cd := xc_L_law) (lo := 432) (n := 48) (xc_up_s (mi := xmi_L_law) (cd := xc_L_law) (lo := 384) (n := 48) (xc_up_s (mi := xmi_L_law) (cd := xc_L_law) (lo := 336) (n := 48) (xc_up_s (mi := xmi_L_law) (cd := xc_L_law) (lo := 288) (n := 48) (xc_up_s (mi := xmi_L_law) (cd := xc_L_law) (lo := 240) (n := 48) (xc_up_s (mi := xmi_L_law) (cd := xc_L_law) (lo := 192) (n := 48) (xc_up_s (mi := xmi_L_law) (cd := xc_L_law) (lo := 144) (n := 48) (xc_up_s (mi := xmi_L_law) (cd := xc_L_law) (lo := 96) (n := 48) (xc_up_s (mi := xmi_L_law) (cd := xc_L_law) (lo := 48) (n := 48) (xc_up_s (mi := xmi_L_law) (cd := xc_L_law) (lo := 0) (n := 48) xc_up_0 xo_c_L_law_0) xo_c_L_law_48) xo_c_L_law_96) xo_c_L_law_144) xo_c_L_law_192) xo_c_L_law_240) xo_c_L_law_288) xo_c_L_law_336) xo_c_L_law_384) xo_c_L_law_432) xo_c_L_law_480) xo_c_L_law_528) xo_c_L_law_576) xo_c_L_law_624) xo_c_L_law_672) xo_c_L_law_720) xo_c_L_law_768) xo_c_L_law_816) xo_c_L_law_864) xo_c_L_law_912) xo_c_L_law_960) (by decide +kernel)
end XCK9
end
section
section XPR
theorem xo_row0 : ∀ (j : Nat) (mi : xm_M), xm_r0[j]? = some mi → (mi.2.2.2.2.2.1 ≠ 3 → xm_ok mi) ∧ ∀ (pc : Nat) (r : xr_R), xcl (xc_r0.getD j []) pc = some r → xr_b mi.1 (xm_ini mi) mi.2.2.1 pc r = true ∧ xr_c xM mi.1 r = true := by
  intro j mi h
  match j, h with
  | 0, h => cases h; exact ⟨fun _ => xm_b_ok xo_m_X0_init xo_w_X0_init, xo_r_X0_init⟩
  | 1, h => cases h; exact ⟨fun _ => xm_b_ok xo_m_X0_isOption xo_w_X0_isOption, xo_r_X0_isOption⟩
  | 2, h => cases h; exact ⟨fun _ => xm_b_ok xo_m_X0_isRow xo_w_X0_isRow, xo_r_X0_isRow⟩
  | 3, h => cases h; exact ⟨fun _ => xm_b_ok xo_m_X0_order xo_w_X0_order, xo_r_X0_order⟩
  | 4, h => cases h; exact ⟨fun _ => xm_b_ok xo_m_X0_whoPrefer xo_w_X0_whoPrefer, xo_r_X0_whoPrefer⟩
  | 5, h => cases h; exact ⟨fun _ => xm_b_ok xo_m_X0_match xo_w_X0_match, xo_r_X0_match⟩
  | 6, h => cases h; exact ⟨fun _ => xm_b_ok xo_m_X0_wins xo_w_X0_wins, xo_r_X0_wins⟩
  | 7, h => cases h; exact ⟨fun _ => xm_b_ok xo_m_X0_unbeaten xo_w_X0_unbeaten, xo_r_X0_unbeaten⟩
  | 8, h => cases h; exact ⟨fun _ => xm_b_ok xo_m_X0_best xo_w_X0_best, xo_r_X0_best⟩
  | 9, h => cases h; exact ⟨fun _ => xm_b_ok xo_m_X0_findReach xo_w_X0_findReach, xo_r_X0_findReach⟩
  | 10, h => cases h; exact ⟨fun _ => xm_b_ok xo_m_X0_stands xo_w_X0_stands, xo_r_X0_stands⟩
  | 11, h => cases h; exact ⟨fun _ => xm_b_ok xo_m_X0_follow xo_w_X0_follow, xo_r_X0_follow⟩
  | 12, h => cases h; exact ⟨fun _ => xm_b_ok xo_m_X0_foresee xo_w_X0_foresee, xo_r_X0_foresee⟩
  | 13, h => cases h; exact ⟨fun _ => xm_b_ok xo_m_X0_countRows xo_w_X0_countRows, xo_r_X0_countRows⟩
  | 14, h => cases h; exact ⟨fun _ => xm_b_ok xo_m_X0_waysFrom xo_w_X0_waysFrom, xo_r_X0_waysFrom⟩
  | 15, h => cases h; exact ⟨fun _ => xm_b_ok xo_m_X0_countWays xo_w_X0_countWays, xo_r_X0_countWays⟩
  | j + 16, h => simp [xm_r0] at h
theorem xo_row1 : ∀ (j : Nat) (mi : xm_M), xm_r1[j]? = some mi → (mi.2.2.2.2.2.1 ≠ 3 → xm_ok mi) ∧ ∀ (pc : Nat) (r : xr_R), xcl (xc_r1.getD j []) pc = some r → xr_b mi.1 (xm_ini mi) mi.2.2.1 pc r = true ∧ xr_c xM mi.1 r = true := by
  intro j mi h
  match j, h with
  | 0, h => cases h; exact ⟨fun _ => xm_b_ok xo_m_X0_findFirstRow xo_w_X0_findFirstRow, xo_r_X0_findFirstRow⟩
  | 1, h => cases h; exact ⟨fun _ => xm_b_ok xo_m_X1_init xo_w_X1_init, xo_r_X1_init⟩
  | 2, h => cases h; exact ⟨fun _ => xm_b_ok xo_m_X1_add xo_w_X1_add, xo_r_X1_add⟩
  | 3, h => cases h; exact ⟨fun _ => xm_b_ok xo_m_X1_judge xo_w_X1_judge, xo_r_X1_judge⟩
  | 4, h => cases h; exact ⟨fun _ => xm_b_ok xo_m_X2_init xo_w_X2_init, xo_r_X2_init⟩
  | 5, h => cases h; exact ⟨fun _ => xm_b_ok xo_m_X2_isOf xo_w_X2_isOf, xo_r_X2_isOf⟩
  | 6, h => cases h; exact ⟨fun _ => xm_b_ok xo_m_X2_study xo_w_X2_study, xo_r_X2_study⟩
  | 7, h => cases h; exact ⟨fun _ => xm_b_ok xo_m_X2_list xo_w_X2_list, xo_r_X2_list⟩
  | 8, h => cases h; exact ⟨fun _ => xm_b_ok xo_m_X2_isMinimal xo_w_X2_isMinimal, xo_r_X2_isMinimal⟩
  | 9, h => cases h; exact ⟨fun _ => xm_b_ok xo_m_X2_does xo_w_X2_does, xo_r_X2_does⟩
  | 10, h => cases h; exact ⟨fun _ => xm_b_ok xo_m_X2_markNeeded xo_w_X2_markNeeded, xo_r_X2_markNeeded⟩
  | 11, h => cases h; exact ⟨fun _ => xm_b_ok xo_m_X2_turnsBy xo_w_X2_turnsBy, xo_r_X2_turnsBy⟩
  | 12, h => cases h; exact ⟨fun _ => xm_b_ok xo_m_X2_countSwings xo_w_X2_countSwings, xo_r_X2_countSwings⟩
  | 13, h => cases h; exact ⟨fun _ => xm_b_ok xo_m_X2_countCarrying xo_w_X2_countCarrying, xo_r_X2_countCarrying⟩
  | 14, h => cases h; exact ⟨fun _ => xm_b_ok xo_m_X2_isProper xo_w_X2_isProper, xo_r_X2_isProper⟩
  | 15, h => cases h; exact ⟨fun _ => xm_b_ok xo_m_X2_isStrong xo_w_X2_isStrong, xo_r_X2_isStrong⟩
  | j + 16, h => simp [xm_r1] at h
theorem xo_row2 : ∀ (j : Nat) (mi : xm_M), xm_r2[j]? = some mi → (mi.2.2.2.2.2.1 ≠ 3 → xm_ok mi) ∧ ∀ (pc : Nat) (r : xr_R), xcl (xc_r2.getD j []) pc = some r → xr_b mi.1 (xm_ini mi) mi.2.2.1 pc r = true ∧ xr_c xM mi.1 r = true := by
  intro j mi h
  match j, h with
  | 0, h => cases h; exact ⟨fun _ => xm_b_ok xo_m_X2_isLined xo_w_X2_isLined, xo_r_X2_isLined⟩
  | 1, h => cases h; exact ⟨fun _ => xm_b_ok xo_m_X2_compare xo_w_X2_compare, xo_r_X2_compare⟩
  | 2, h => cases h; exact ⟨fun _ => xm_b_ok xo_m_X2_compareAll xo_w_X2_compareAll, xo_r_X2_compareAll⟩
  | 3, h => cases h; exact ⟨fun _ => xm_b_ok xo_m_X2_isAtLeast xo_w_X2_isAtLeast, xo_r_X2_isAtLeast⟩
  | 4, h => cases h; exact ⟨fun _ => xm_b_ok xo_m_X2_upperShare xo_w_X2_upperShare, xo_r_X2_upperShare⟩
  | 5, h => cases h; exact ⟨fun _ => xm_b_ok xo_m_X2_lowerShare xo_w_X2_lowerShare, xo_r_X2_lowerShare⟩
  | 6, h => cases h; exact ⟨fun _ => xm_b_ok xo_m_X2_ordersOf xo_w_X2_ordersOf, xo_r_X2_ordersOf⟩
  | 7, h => cases h; exact ⟨fun _ => xm_b_ok xo_m_X2_partsOf xo_w_X2_partsOf, xo_r_X2_partsOf⟩
  | 8, h => cases h; exact ⟨fun _ => xm_b_ok xo_m_X2_chanceOf xo_w_X2_chanceOf, xo_r_X2_chanceOf⟩
  | 9, h => cases h; exact ⟨fun _ => xm_b_ok xo_m_X2_power xo_w_X2_power, xo_r_X2_power⟩
  | 10, h => cases h; exact ⟨fun _ => xm_b_ok xo_m_X2_allyOf xo_w_X2_allyOf, xo_r_X2_allyOf⟩
  | 11, h => cases h; exact ⟨fun _ => xm_b_ok xo_m_X2_countTogether xo_w_X2_countTogether, xo_r_X2_countTogether⟩
  | 12, h => cases h; exact ⟨fun _ => xm_b_ok xo_m_X3_init xo_w_X3_init, xo_r_X3_init⟩
  | 13, h => cases h; exact ⟨fun _ => xm_b_ok xo_m_X3_clear xo_w_X3_clear, xo_r_X3_clear⟩
  | 14, h => cases h; exact ⟨fun _ => xm_b_ok xo_m_X3_add xo_w_X3_add, xo_r_X3_add⟩
  | 15, h => cases h; exact ⟨fun _ => xm_b_ok xo_m_X3_fill xo_w_X3_fill, xo_r_X3_fill⟩
  | j + 16, h => simp [xm_r2] at h
theorem xo_row3 : ∀ (j : Nat) (mi : xm_M), xm_r3[j]? = some mi → (mi.2.2.2.2.2.1 ≠ 3 → xm_ok mi) ∧ ∀ (pc : Nat) (r : xr_R), xcl (xc_r3.getD j []) pc = some r → xr_b mi.1 (xm_ini mi) mi.2.2.1 pc r = true ∧ xr_c xM mi.1 r = true := by
  intro j mi h
  match j, h with
  | 0, h => cases h; exact ⟨fun _ => xm_b_ok xo_m_X3_run xo_w_X3_run, xo_r_X3_run⟩
  | 1, h => cases h; exact ⟨fun _ => xm_b_ok xo_m_X3_join xo_w_X3_join, xo_r_X3_join⟩
  | 2, h => cases h; exact ⟨fun _ => xm_b_ok xo_m_X3_push xo_w_X3_push, xo_r_X3_push⟩
  | 3, h => cases h; exact ⟨fun _ => xm_b_ok xo_m_X3_peek xo_w_X3_peek, xo_r_X3_peek⟩
  | 4, h => cases h; exact ⟨fun _ => xm_b_ok xo_m_X3_replace xo_w_X3_replace, xo_r_X3_replace⟩
  | 5, h => cases h; exact ⟨fun _ => xm_b_ok xo_m_X4_init xo_w_X4_init, xo_r_X4_init⟩
  | 6, h => cases h; exact ⟨fun _ => xm_b_ok xo_m_X4_read xo_w_X4_read, xo_r_X4_read⟩
  | 7, h => cases h; exact ⟨fun _ => xm_b_ok xo_m_X4_fail xo_w_X4_fail, xo_r_X4_fail⟩
  | 8, h => cases h; exact ⟨fun _ => xm_b_ok xo_m_X4_takeWord xo_w_X4_takeWord, xo_r_X4_takeWord⟩
  | 9, h => cases h; exact ⟨fun _ => xm_b_ok xo_m_X4_takeSign xo_w_X4_takeSign, xo_r_X4_takeSign⟩
  | 10, h => cases h; exact ⟨fun _ => xm_b_ok xo_m_X4_takeEnd xo_w_X4_takeEnd, xo_r_X4_takeEnd⟩
  | 11, h => cases h; exact ⟨fun _ => xm_b_ok xo_m_X4_takeOpening xo_w_X4_takeOpening, xo_r_X4_takeOpening⟩
  | 12, h => cases h; exact ⟨fun _ => xm_b_ok xo_m_X4_readBody xo_w_X4_readBody, xo_r_X4_readBody⟩
  | 13, h => cases h; exact ⟨fun _ => xm_b_ok xo_m_X4_takeNewName xo_w_X4_takeNewName, xo_r_X4_takeNewName⟩
  | 14, h => cases h; exact ⟨fun _ => xm_b_ok xo_m_X4_toldName xo_w_X4_toldName, xo_r_X4_toldName⟩
  | 15, h => cases h; exact ⟨fun _ => xm_b_ok xo_m_X4_readRule xo_w_X4_readRule, xo_r_X4_readRule⟩
  | j + 16, h => simp [xm_r3] at h
theorem xo_row4 : ∀ (j : Nat) (mi : xm_M), xm_r4[j]? = some mi → (mi.2.2.2.2.2.1 ≠ 3 → xm_ok mi) ∧ ∀ (pc : Nat) (r : xr_R), xcl (xc_r4.getD j []) pc = some r → xr_b mi.1 (xm_ini mi) mi.2.2.1 pc r = true ∧ xr_c xM mi.1 r = true := by
  intro j mi h
  match j, h with
  | 0, h => cases h; exact ⟨fun _ => xm_b_ok xo_m_X4_readAll xo_w_X4_readAll, xo_r_X4_readAll⟩
  | 1, h => cases h; exact ⟨fun _ => xm_b_ok xo_m_X4_readOne xo_w_X4_readOne, xo_r_X4_readOne⟩
  | 2, h => cases h; exact ⟨fun _ => xm_b_ok xo_m_X4_noteMember xo_w_X4_noteMember, xo_r_X4_noteMember⟩
  | 3, h => cases h; exact ⟨fun _ => xm_b_ok xo_m_X4_noteName xo_w_X4_noteName, xo_r_X4_noteName⟩
  | 4, h => cases h; exact ⟨fun _ => xm_b_ok xo_m_X4_countOne xo_w_X4_countOne, xo_r_X4_countOne⟩
  | 5, h => cases h; exact ⟨fun _ => xm_b_ok xo_m_X4_readQuota xo_w_X4_readQuota, xo_r_X4_readQuota⟩
  | 6, h => cases h; exact ⟨fun _ => xm_b_ok xo_m_X4_readItem xo_w_X4_readItem, xo_r_X4_readItem⟩
  | 7, h => cases h; exact ⟨fun _ => xm_b_ok xo_m_X5_init xo_w_X5_init, xo_r_X5_init⟩
  | 8, h => cases h; exact ⟨fun _ => xm_b_ok xo_m_X5_look xo_w_X5_look, xo_r_X5_look⟩
  | 9, h => cases h; exact ⟨fun _ => xm_b_ok xo_m_X5_search xo_w_X5_search, xo_r_X5_search⟩
  | 10, h => cases h; exact ⟨fun _ => xm_b_ok xo_m_X5_findClasses xo_w_X5_findClasses, xo_r_X5_findClasses⟩
  | 11, h => cases h; exact ⟨fun _ => xm_b_ok xo_m_X5_isFirst xo_w_X5_isFirst, xo_r_X5_isFirst⟩
  | 12, h => cases h; exact ⟨fun _ => xm_b_ok xo_m_X5_strengthOf xo_w_X5_strengthOf, xo_r_X5_strengthOf⟩
  | 13, h => cases h; exact ⟨fun _ => xm_b_ok xo_m_X5_place xo_w_X5_place, xo_r_X5_place⟩
  | 14, h => cases h; exact ⟨fun _ => xm_b_ok xo_m_X5_lowest xo_w_X5_lowest, xo_r_X5_lowest⟩
  | 15, h => cases h; exact ⟨fun _ => xm_b_ok xo_m_X5_highest xo_w_X5_highest, xo_r_X5_highest⟩
  | j + 16, h => simp [xm_r4] at h
theorem xo_row5 : ∀ (j : Nat) (mi : xm_M), xm_r5[j]? = some mi → (mi.2.2.2.2.2.1 ≠ 3 → xm_ok mi) ∧ ∀ (pc : Nat) (r : xr_R), xcl (xc_r5.getD j []) pc = some r → xr_b mi.1 (xm_ini mi) mi.2.2.1 pc r = true ∧ xr_c xM mi.1 r = true := by
  intro j mi h
  match j, h with
  | 0, h => cases h; exact ⟨fun _ => xm_b_ok xo_m_X5_leastRest xo_w_X5_leastRest, xo_r_X5_leastRest⟩
  | 1, h => cases h; exact ⟨fun _ => xm_b_ok xo_m_X5_mostRest xo_w_X5_mostRest, xo_r_X5_mostRest⟩
  | 2, h => cases h; exact ⟨fun _ => xm_b_ok xo_m_X5_tryRow xo_w_X5_tryRow, xo_r_X5_tryRow⟩
  | 3, h => cases h; exact ⟨fun _ => xm_b_ok xo_m_X5_doesTheSame xo_w_X5_doesTheSame, xo_r_X5_doesTheSame⟩
  | 4, h => cases h; exact ⟨fun _ => xm_b_ok xo_m_X5_lightest xo_w_X5_lightest, xo_r_X5_lightest⟩
  | 5, h => cases h; exact ⟨fun _ => xm_b_ok xo_m_X5_weightOf xo_w_X5_weightOf, xo_r_X5_weightOf⟩
  | 6, h => cases h; exact ⟨fun _ => xm_b_ok xo_m_X5_tell xo_w_X5_tell, xo_r_X5_tell⟩
  | 7, h => cases h; exact ⟨fun _ => xm_b_ok xo_m_X6_init xo_w_X6_init, xo_r_X6_init⟩
  | 8, h => cases h; exact ⟨fun _ => xm_b_ok xo_m_X6_begin xo_w_X6_begin, xo_r_X6_begin⟩
  | 9, h => cases h; exact ⟨fun _ => xm_b_ok xo_m_X6_isCut xo_w_X6_isCut, xo_r_X6_isCut⟩
  | 10, h => cases h; exact ⟨fun _ => xm_b_ok xo_m_X6_advance xo_w_X6_advance, xo_r_X6_advance⟩
  | 11, h => cases h; exact ⟨fun _ => xm_b_ok xo_m_X6_takeRun xo_w_X6_takeRun, xo_r_X6_takeRun⟩
  | 12, h => cases h; exact ⟨fun _ => xm_b_ok xo_m_X6_isWord xo_w_X6_isWord, xo_r_X6_isWord⟩
  | 13, h => cases h; exact ⟨fun _ => xm_b_ok xo_m_X6_isName xo_w_X6_isName, xo_r_X6_isName⟩
  | 14, h => cases h; exact ⟨fun _ => xm_b_ok xo_m_X6_isLone xo_w_X6_isLone, xo_r_X6_isLone⟩
  | 15, h => cases h; exact ⟨fun _ => xm_b_ok xo_m_X6_letter xo_w_X6_letter, xo_r_X6_letter⟩
  | j + 16, h => simp [xm_r5] at h
theorem xo_row6 : ∀ (j : Nat) (mi : xm_M), xm_r6[j]? = some mi → (mi.2.2.2.2.2.1 ≠ 3 → xm_ok mi) ∧ ∀ (pc : Nat) (r : xr_R), xcl (xc_r6.getD j []) pc = some r → xr_b mi.1 (xm_ini mi) mi.2.2.1 pc r = true ∧ xr_c xM mi.1 r = true := by
  intro j mi h
  match j, h with
  | 0, h => cases h; exact ⟨fun _ => xm_b_ok xo_m_X6_isLike xo_w_X6_isLike, xo_r_X6_isLike⟩
  | 1, h => cases h; exact ⟨fun _ => xm_b_ok xo_m_X6_isBlank xo_w_X6_isBlank, xo_r_X6_isBlank⟩
  | 2, h => cases h; exact ⟨fun _ => xm_b_ok xo_m_X6_isLetter xo_w_X6_isLetter, xo_r_X6_isLetter⟩
  | 3, h => cases h; exact ⟨fun _ => xm_b_ok xo_m_X6_isDigit xo_w_X6_isDigit, xo_r_X6_isDigit⟩
  | 4, h => cases h; exact ⟨fun _ => xm_b_ok xo_m_X6_isSign xo_w_X6_isSign, xo_r_X6_isSign⟩
  | 5, h => cases h; exact ⟨fun _ => xm_b_ok xo_m_X7_init xo_w_X7_init, xo_r_X7_init⟩
  | 6, h => cases h; exact ⟨fun _ => xm_b_ok xo_m_X7_holds xo_w_X7_holds, xo_r_X7_holds⟩
  | 7, h => cases h; exact ⟨fun _ => xm_b_ok xo_m_X7_add xo_w_X7_add, xo_r_X7_add⟩
  | 8, h => cases h; exact ⟨fun _ => xm_b_ok xo_m_X7_needAll xo_w_X7_needAll, xo_r_X7_needAll⟩
  | 9, h => cases h; exact ⟨fun _ => xm_b_ok xo_m_X8_init xo_w_X8_init, xo_r_X8_init⟩
  | 10, h => cases h; exact ⟨fun _ => xm_b_ok xo_m_X8_hasRoom xo_w_X8_hasRoom, xo_r_X8_hasRoom⟩
  | 11, h => cases h; exact ⟨fun _ => xm_b_ok xo_m_X8_put xo_w_X8_put, xo_r_X8_put⟩
  | 12, h => cases h; exact ⟨fun _ => xm_b_ok xo_m_X8_at xo_w_X8_at, xo_r_X8_at⟩
  | 13, h => cases h; exact ⟨fun _ => xm_b_ok xo_m_X9_init xo_w_X9_init, xo_r_X9_init⟩
  | 14, h => cases h; exact ⟨fun _ => xm_b_ok xo_m_X9_feed xo_w_X9_feed, xo_r_X9_feed⟩
  | 15, h => cases h; exact ⟨fun _ => xm_b_ok xo_m_X9_end xo_w_X9_end, xo_r_X9_end⟩
  | j + 16, h => simp [xm_r6] at h
theorem xo_row7 : ∀ (j : Nat) (mi : xm_M), xm_r7[j]? = some mi → (mi.2.2.2.2.2.1 ≠ 3 → xm_ok mi) ∧ ∀ (pc : Nat) (r : xr_R), xcl (xc_r7.getD j []) pc = some r → xr_b mi.1 (xm_ini mi) mi.2.2.1 pc r = true ∧ xr_c xM mi.1 r = true := by
  intro j mi h
  match j, h with
  | 0, h => cases h; exact ⟨fun _ => xm_b_ok xo_m_X9_next xo_w_X9_next, xo_r_X9_next⟩
  | 1, h => cases h; exact ⟨fun _ => xm_b_ok xo_m_X9_members xo_w_X9_members, xo_r_X9_members⟩
  | 2, h => cases h; exact ⟨fun _ => xm_b_ok xo_m_X9_statute xo_w_X9_statute, xo_r_X9_statute⟩
  | 3, h => cases h; exact ⟨fun _ => xm_b_ok xo_m_X9_fault xo_w_X9_fault, xo_r_X9_fault⟩
  | 4, h => cases h; exact ⟨fun _ => xm_b_ok xo_m_X9_carries xo_w_X9_carries, xo_r_X9_carries⟩
  | 5, h => cases h; exact ⟨fun _ => xm_b_ok xo_m_X9_many xo_w_X9_many, xo_r_X9_many⟩
  | 6, h => cases h; exact ⟨fun _ => xm_b_ok xo_m_X9_setAt xo_w_X9_setAt, xo_r_X9_setAt⟩
  | 7, h => cases h; exact ⟨fun _ => xm_b_ok xo_m_X9_stronger xo_w_X9_stronger, xo_r_X9_stronger⟩
  | 8, h => cases h; exact ⟨fun _ => xm_b_ok xo_m_X9_turns xo_w_X9_turns, xo_r_X9_turns⟩
  | 9, h => cases h; exact ⟨fun _ => xm_b_ok xo_m_X9_share xo_w_X9_share, xo_r_X9_share⟩
  | 10, h => cases h; exact ⟨fun _ => xm_b_ok xo_m_X9_chance xo_w_X9_chance, xo_r_X9_chance⟩
  | 11, h => cases h; exact ⟨fun _ => xm_b_ok xo_m_X9_ally xo_w_X9_ally, xo_r_X9_ally⟩
  | 12, h => cases h; exact ⟨fun _ => xm_b_ok xo_m_X9_weigh xo_w_X9_weigh, xo_r_X9_weigh⟩
  | 13, h => cases h; exact ⟨fun _ => xm_b_ok xo_m_X9_weight xo_w_X9_weight, xo_r_X9_weight⟩
  | 14, h => cases h; exact ⟨fun _ => xm_b_ok xo_m_X9_rank xo_w_X9_rank, xo_r_X9_rank⟩
  | 15, h => cases h; exact ⟨fun _ => xm_b_ok xo_m_X9_beats xo_w_X9_beats, xo_r_X9_beats⟩
  | j + 16, h => simp [xm_r7] at h
theorem xo_row8 : ∀ (j : Nat) (mi : xm_M), xm_r8[j]? = some mi → (mi.2.2.2.2.2.1 ≠ 3 → xm_ok mi) ∧ ∀ (pc : Nat) (r : xr_R), xcl (xc_r8.getD j []) pc = some r → xr_b mi.1 (xm_ini mi) mi.2.2.1 pc r = true ∧ xr_c xM mi.1 r = true := by
  intro j mi h
  match j, h with
  | 0, h => cases h; exact ⟨fun _ => xm_b_ok xo_m_X9_free xo_w_X9_free, xo_r_X9_free⟩
  | 1, h => cases h; exact ⟨fun _ => xm_b_ok xo_m_X9_top xo_w_X9_top, xo_r_X9_top⟩
  | 2, h => cases h; exact ⟨fun _ => xm_b_ok xo_m_X9_leads xo_w_X9_leads, xo_r_X9_leads⟩
  | 3, h => cases h; exact ⟨fun _ => xm_b_ok xo_m_X9_rows xo_w_X9_rows, xo_r_X9_rows⟩
  | 4, h => cases h; exact ⟨fun _ => xm_b_ok xo_m_X9_rowAt xo_w_X9_rowAt, xo_r_X9_rowAt⟩
  | 5, h => cases h; exact ⟨fun _ => xm_b_ok xo_m_X9_vote xo_w_X9_vote, xo_r_X9_vote⟩
  | 6, h => cases h; exact ⟨fun _ => xm_b_ok xo_m_X9_unfit xo_w_X9_unfit, xo_r_X9_unfit⟩
  | 7, h => cases h; exact ⟨fun _ => xm_b_ok xo_m_X9_sure xo_w_X9_sure, xo_r_X9_sure⟩
  | 8, h => cases h; exact ⟨fun _ => xm_b_ok xo_m_X9_open xo_w_X9_open, xo_r_X9_open⟩
  | 9, h => cases h; exact ⟨fun _ => xm_b_ok xo_m_X9_count xo_w_X9_count, xo_r_X9_count⟩
  | 10, h => cases h; exact ⟨fun _ => xm_b_ok xo_m_X9_isMember xo_w_X9_isMember, xo_r_X9_isMember⟩
  | 11, h => cases h; exact ⟨fun _ => xm_b_ok xo_m_X9_isSet xo_w_X9_isSet, xo_r_X9_isSet⟩
  | 12, h => cases h; exact ⟨fun _ => xm_b_ok xo_m_X9_inForce xo_w_X9_inForce, xo_r_X9_inForce⟩
  | 13, h => cases h; exact ⟨fun _ => xm_b_ok xo_m_X9_powersToday xo_w_X9_powersToday, xo_r_X9_powersToday⟩
  | 14, h => cases h; exact ⟨fun _ => xm_b_ok xo_m_X9_commonDivisor xo_w_X9_commonDivisor, xo_r_X9_commonDivisor⟩
  | 15, h => cases h; exact ⟨fun _ => xm_b_ok xo_m_X10_init xo_w_X10_init, xo_r_X10_init⟩
  | j + 16, h => simp [xm_r8] at h
theorem xo_row9 : ∀ (j : Nat) (mi : xm_M), xm_r9[j]? = some mi → (mi.2.2.2.2.2.1 ≠ 3 → xm_ok mi) ∧ ∀ (pc : Nat) (r : xr_R), xcl (xc_r9.getD j []) pc = some r → xr_b mi.1 (xm_ini mi) mi.2.2.1 pc r = true ∧ xr_c xM mi.1 r = true := by
  intro j mi h
  match j, h with
  | 0, h => cases h; exact ⟨fun _ => xm_b_ok xo_m_X10_refuse xo_w_X10_refuse, xo_r_X10_refuse⟩
  | 1, h => cases h; exact ⟨fun _ => xm_b_ok xo_m_X10_come xo_w_X10_come, xo_r_X10_come⟩
  | 2, h => cases h; exact ⟨fun _ => xm_b_ok xo_m_X10_feed xo_w_X10_feed, xo_r_X10_feed⟩
  | 3, h => cases h; exact ⟨fun _ => xm_b_ok xo_m_X10_end xo_w_X10_end, xo_r_X10_end⟩
  | 4, h => cases h; exact ⟨fun _ => xm_b_ok xo_m_X10_take xo_w_X10_take, xo_r_X10_take⟩
  | 5, h => cases h; exact ⟨fun _ => xm_b_ok xo_m_X10_isIn xo_w_X10_isIn, xo_r_X10_isIn⟩
  | 6, h => cases h; exact ⟨fun _ => xm_b_ok xo_m_X10_next xo_w_X10_next, xo_r_X10_next⟩
  | 7, h => cases h; exact ⟨fun _ => xm_b_ok xo_m_X10_members xo_w_X10_members, xo_r_X10_members⟩
  | 8, h => cases h; exact ⟨fun _ => xm_b_ok xo_m_X10_isMember xo_w_X10_isMember, xo_r_X10_isMember⟩
  | 9, h => cases h; exact ⟨fun _ => xm_b_ok xo_m_X10_isSet xo_w_X10_isSet, xo_r_X10_isSet⟩
  | 10, h => cases h; exact ⟨fun _ => xm_b_ok xo_m_X10_sizeOf xo_w_X10_sizeOf, xo_r_X10_sizeOf⟩
  | 11, h => cases h; exact ⟨fun _ => xm_b_ok xo_m_X10_byteAt xo_w_X10_byteAt, xo_r_X10_byteAt⟩
  | 12, h => cases h; exact ⟨fun _ => xm_b_ok xo_m_X10_isDigit xo_w_X10_isDigit, xo_r_X10_isDigit⟩
  | 13, h => cases h; exact ⟨fun _ => xm_b_ok xo_m_X10_isLetter xo_w_X10_isLetter, xo_r_X10_isLetter⟩
  | 14, h => cases h; exact ⟨fun _ => xm_b_ok xo_m_X10_isMark xo_w_X10_isMark, xo_r_X10_isMark⟩
  | 15, h => cases h; exact ⟨fun _ => xm_b_ok xo_m_X10_go xo_w_X10_go, xo_r_X10_go⟩
  | j + 16, h => simp [xm_r9] at h
theorem xo_row10 : ∀ (j : Nat) (mi : xm_M), xm_r10[j]? = some mi → (mi.2.2.2.2.2.1 ≠ 3 → xm_ok mi) ∧ ∀ (pc : Nat) (r : xr_R), xcl (xc_r10.getD j []) pc = some r → xr_b mi.1 (xm_ini mi) mi.2.2.1 pc r = true ∧ xr_c xM mi.1 r = true := by
  intro j mi h
  match j, h with
  | 0, h => cases h; exact ⟨fun _ => xm_b_ok xo_m_X10_spelt xo_w_X10_spelt, xo_r_X10_spelt⟩
  | 1, h => cases h; exact ⟨fun _ => xm_b_ok xo_m_X10_isKey xo_w_X10_isKey, xo_r_X10_isKey⟩
  | 2, h => cases h; exact ⟨fun _ => xm_b_ok xo_m_X10_isBody xo_w_X10_isBody, xo_r_X10_isBody⟩
  | 3, h => cases h; exact ⟨fun _ => xm_b_ok xo_m_X10_isCarry xo_w_X10_isCarry, xo_r_X10_isCarry⟩
  | 4, h => cases h; exact ⟨fun _ => xm_b_ok xo_m_X10_isAnd xo_w_X10_isAnd, xo_r_X10_isAnd⟩
  | 5, h => cases h; exact ⟨fun _ => xm_b_ok xo_m_X10_isOr xo_w_X10_isOr, xo_r_X10_isOr⟩
  | 6, h => cases h; exact ⟨fun _ => xm_b_ok xo_m_X10_isOf xo_w_X10_isOf, xo_r_X10_isOf⟩
  | 7, h => cases h; exact ⟨fun _ => xm_b_ok xo_m_X10_isName xo_w_X10_isName, xo_r_X10_isName⟩
  | 8, h => cases h; exact ⟨fun _ => xm_b_ok xo_m_X10_isSign xo_w_X10_isSign, xo_r_X10_isSign⟩
  | 9, h => cases h; exact ⟨fun _ => xm_b_ok xo_m_X10_bad xo_w_X10_bad, xo_r_X10_bad⟩
  | 10, h => cases h; exact ⟨fun _ => xm_b_ok xo_m_X10_badAt xo_w_X10_badAt, xo_r_X10_badAt⟩
  | 11, h => cases h; exact ⟨fun _ => xm_b_ok xo_m_X10_openRule xo_w_X10_openRule, xo_r_X10_openRule⟩
  | 12, h => cases h; exact ⟨fun _ => xm_b_ok xo_m_X10_openList xo_w_X10_openList, xo_r_X10_openList⟩
  | 13, h => cases h; exact ⟨fun _ => xm_b_ok xo_m_X10_begin xo_w_X10_begin, xo_r_X10_begin⟩
  | 14, h => cases h; exact ⟨fun _ => xm_b_ok xo_m_X10_beginItem xo_w_X10_beginItem, xo_r_X10_beginItem⟩
  | 15, h => cases h; exact ⟨fun _ => xm_b_ok xo_m_X10_beginList xo_w_X10_beginList, xo_r_X10_beginList⟩
  | j + 16, h => simp [xm_r10] at h
theorem xo_row11 : ∀ (j : Nat) (mi : xm_M), xm_r11[j]? = some mi → (mi.2.2.2.2.2.1 ≠ 3 → xm_ok mi) ∧ ∀ (pc : Nat) (r : xr_R), xcl (xc_r11.getD j []) pc = some r → xr_b mi.1 (xm_ini mi) mi.2.2.1 pc r = true ∧ xr_c xM mi.1 r = true := by
  intro j mi h
  match j, h with
  | 0, h => cases h; exact ⟨fun _ => xm_b_ok xo_m_X10_nameAtHand xo_w_X10_nameAtHand, xo_r_X10_nameAtHand⟩
  | 1, h => cases h; exact ⟨fun _ => xm_b_ok xo_m_X10_beginOne xo_w_X10_beginOne, xo_r_X10_beginOne⟩
  | 2, h => cases h; exact ⟨fun _ => xm_b_ok xo_m_X10_end_ xo_w_X10_end_, xo_r_X10_end_⟩
  | 3, h => cases h; exact ⟨fun _ => xm_b_ok xo_m_X10_readRule xo_w_X10_readRule, xo_r_X10_readRule⟩
  | 4, h => cases h; exact ⟨fun _ => xm_b_ok xo_m_X10_readBody xo_w_X10_readBody, xo_r_X10_readBody⟩
  | 5, h => cases h; exact ⟨fun _ => xm_b_ok xo_m_X10_statute xo_w_X10_statute, xo_r_X10_statute⟩
  | 6, h => cases h; exact ⟨fun _ => xm_b_ok xo_m_X10_fault xo_w_X10_fault, xo_r_X10_fault⟩
  | 7, h => cases h; exact ⟨fun _ => xm_b_ok xo_m_X10_inForce xo_w_X10_inForce, xo_r_X10_inForce⟩
  | 8, h => cases h; exact ⟨fun _ => xm_b_ok xo_m_X10_carriesBy xo_w_X10_carriesBy, xo_r_X10_carriesBy⟩
  | 9, h => cases h; exact ⟨fun _ => xm_b_ok xo_m_X10_carries xo_w_X10_carries, xo_r_X10_carries⟩
  | 10, h => cases h; exact ⟨fun _ => xm_b_ok xo_m_X10_lay xo_w_X10_lay, xo_r_X10_lay⟩
  | 11, h => cases h; exact ⟨fun _ => xm_b_ok xo_m_X10_isLeast xo_w_X10_isLeast, xo_r_X10_isLeast⟩
  | 12, h => cases h; exact ⟨fun _ => xm_b_ok xo_m_X10_hinders xo_w_X10_hinders, xo_r_X10_hinders⟩
  | 13, h => cases h; exact ⟨fun _ => xm_b_ok xo_m_X10_isLeastHinder xo_w_X10_isLeastHinder, xo_r_X10_isLeastHinder⟩
  | 14, h => cases h; exact ⟨fun _ => xm_b_ok xo_m_X10_isOfKind xo_w_X10_isOfKind, xo_r_X10_isOfKind⟩
  | 15, h => cases h; exact ⟨fun _ => xm_b_ok xo_m_X10_countOf xo_w_X10_countOf, xo_r_X10_countOf⟩
  | j + 16, h => simp [xm_r11] at h
theorem xo_row12 : ∀ (j : Nat) (mi : xm_M), xm_r12[j]? = some mi → (mi.2.2.2.2.2.1 ≠ 3 → xm_ok mi) ∧ ∀ (pc : Nat) (r : xr_R), xcl (xc_r12.getD j []) pc = some r → xr_b mi.1 (xm_ini mi) mi.2.2.1 pc r = true ∧ xr_c xM mi.1 r = true := by
  intro j mi h
  match j, h with
  | 0, h => cases h; exact ⟨fun _ => xm_b_ok xo_m_X10_whoIs xo_w_X10_whoIs, xo_r_X10_whoIs⟩
  | 1, h => cases h; exact ⟨fun _ => xm_b_ok xo_m_X10_isProper xo_w_X10_isProper, xo_r_X10_isProper⟩
  | 2, h => cases h; exact ⟨fun _ => xm_b_ok xo_m_X10_isStrong xo_w_X10_isStrong, xo_r_X10_isStrong⟩
  | 3, h => cases h; exact ⟨fun _ => xm_b_ok xo_m_X10_held xo_w_X10_held, xo_r_X10_held⟩
  | 4, h => cases h; exact ⟨fun _ => xm_b_ok xo_m_X10_isLined xo_w_X10_isLined, xo_r_X10_isLined⟩
  | 5, h => cases h; exact ⟨fun _ => xm_b_ok xo_m_X10_many xo_w_X10_many, xo_r_X10_many⟩
  | 6, h => cases h; exact ⟨fun _ => xm_b_ok xo_m_X10_setAt xo_w_X10_setAt, xo_r_X10_setAt⟩
  | 7, h => cases h; exact ⟨fun _ => xm_b_ok xo_m_X10_stronger xo_w_X10_stronger, xo_r_X10_stronger⟩
  | 8, h => cases h; exact ⟨fun _ => xm_b_ok xo_m_X10_turnsOf xo_w_X10_turnsOf, xo_r_X10_turnsOf⟩
  | 9, h => cases h; exact ⟨fun _ => xm_b_ok xo_m_X10_turns xo_w_X10_turns, xo_r_X10_turns⟩
  | 10, h => cases h; exact ⟨fun _ => xm_b_ok xo_m_X10_lessen xo_w_X10_lessen, xo_r_X10_lessen⟩
  | 11, h => cases h; exact ⟨fun _ => xm_b_ok xo_m_X10_orders xo_w_X10_orders, xo_r_X10_orders⟩
  | 12, h => cases h; exact ⟨fun _ => xm_b_ok xo_m_X10_shareOfSets xo_w_X10_shareOfSets, xo_r_X10_shareOfSets⟩
  | 13, h => cases h; exact ⟨fun _ => xm_b_ok xo_m_X10_shareOfOrders xo_w_X10_shareOfOrders, xo_r_X10_shareOfOrders⟩
  | 14, h => cases h; exact ⟨fun _ => xm_b_ok xo_m_X10_shareOfLeast xo_w_X10_shareOfLeast, xo_r_X10_shareOfLeast⟩
  | 15, h => cases h; exact ⟨fun _ => xm_b_ok xo_m_X10_share xo_w_X10_share, xo_r_X10_share⟩
  | j + 16, h => simp [xm_r12] at h
theorem xo_row13 : ∀ (j : Nat) (mi : xm_M), xm_r13[j]? = some mi → (mi.2.2.2.2.2.1 ≠ 3 → xm_ok mi) ∧ ∀ (pc : Nat) (r : xr_R), xcl (xc_r13.getD j []) pc = some r → xr_b mi.1 (xm_ini mi) mi.2.2.1 pc r = true ∧ xr_c xM mi.1 r = true := by
  intro j mi h
  match j, h with
  | 0, h => cases h; exact ⟨fun _ => xm_b_ok xo_m_X10_power xo_w_X10_power, xo_r_X10_power⟩
  | 1, h => cases h; exact ⟨fun _ => xm_b_ok xo_m_X10_chance xo_w_X10_chance, xo_r_X10_chance⟩
  | 2, h => cases h; exact ⟨fun _ => xm_b_ok xo_m_X10_ally xo_w_X10_ally, xo_r_X10_ally⟩
  | 3, h => cases h; exact ⟨fun _ => xm_b_ok xo_m_X10_findSorts xo_w_X10_findSorts, xo_r_X10_findSorts⟩
  | 4, h => cases h; exact ⟨fun _ => xm_b_ok xo_m_X10_findEnds xo_w_X10_findEnds, xo_r_X10_findEnds⟩
  | 5, h => cases h; exact ⟨fun _ => xm_b_ok xo_m_X10_sumOf xo_w_X10_sumOf, xo_r_X10_sumOf⟩
  | 6, h => cases h; exact ⟨fun _ => xm_b_ok xo_m_X10_isRight xo_w_X10_isRight, xo_r_X10_isRight⟩
  | 7, h => cases h; exact ⟨fun _ => xm_b_ok xo_m_X10_mayBe xo_w_X10_mayBe, xo_r_X10_mayBe⟩
  | 8, h => cases h; exact ⟨fun _ => xm_b_ok xo_m_X10_trySum xo_w_X10_trySum, xo_r_X10_trySum⟩
  | 9, h => cases h; exact ⟨fun _ => xm_b_ok xo_m_X10_weigh xo_w_X10_weigh, xo_r_X10_weigh⟩
  | 10, h => cases h; exact ⟨fun _ => xm_b_ok xo_m_X10_weight xo_w_X10_weight, xo_r_X10_weight⟩
  | 11, h => cases h; exact ⟨fun _ => xm_b_ok xo_m_X10_areOptions xo_w_X10_areOptions, xo_r_X10_areOptions⟩
  | 12, h => cases h; exact ⟨fun _ => xm_b_ok xo_m_X10_rank xo_w_X10_rank, xo_r_X10_rank⟩
  | 13, h => cases h; exact ⟨fun _ => xm_b_ok xo_m_X10_beatsOf xo_w_X10_beatsOf, xo_r_X10_beatsOf⟩
  | 14, h => cases h; exact ⟨fun _ => xm_b_ok xo_m_X10_layOptions xo_w_X10_layOptions, xo_r_X10_layOptions⟩
  | 15, h => cases h; exact ⟨fun _ => xm_b_ok xo_m_X10_isOption xo_w_X10_isOption, xo_r_X10_isOption⟩
  | j + 16, h => simp [xm_r13] at h
theorem xo_row14 : ∀ (j : Nat) (mi : xm_M), xm_r14[j]? = some mi → (mi.2.2.2.2.2.1 ≠ 3 → xm_ok mi) ∧ ∀ (pc : Nat) (r : xr_R), xcl (xc_r14.getD j []) pc = some r → xr_b mi.1 (xm_ini mi) mi.2.2.1 pc r = true ∧ xr_c xM mi.1 r = true := by
  intro j mi h
  match j, h with
  | 0, h => cases h; exact ⟨fun _ => xm_b_ok xo_m_X10_beats xo_w_X10_beats, xo_r_X10_beats⟩
  | 1, h => cases h; exact ⟨fun _ => xm_b_ok xo_m_X10_free xo_w_X10_free, xo_r_X10_free⟩
  | 2, h => cases h; exact ⟨fun _ => xm_b_ok xo_m_X10_top xo_w_X10_top, xo_r_X10_top⟩
  | 3, h => cases h; exact ⟨fun _ => xm_b_ok xo_m_X10_leads xo_w_X10_leads, xo_r_X10_leads⟩
  | 4, h => cases h; exact ⟨fun _ => xm_b_ok xo_m_X10_endOf xo_w_X10_endOf, xo_r_X10_endOf⟩
  | 5, h => cases h; exact ⟨fun _ => xm_b_ok xo_m_X10_rows xo_w_X10_rows, xo_r_X10_rows⟩
  | 6, h => cases h; exact ⟨fun _ => xm_b_ok xo_m_X10_goOn xo_w_X10_goOn, xo_r_X10_goOn⟩
  | 7, h => cases h; exact ⟨fun _ => xm_b_ok xo_m_X10_rowAt xo_w_X10_rowAt, xo_r_X10_rowAt⟩
  | 8, h => cases h; exact ⟨fun _ => xm_b_ok xo_m_X10_vote xo_w_X10_vote, xo_r_X10_vote⟩
  | 9, h => cases h; exact ⟨fun _ => xm_b_ok xo_m_X10_unfit xo_w_X10_unfit, xo_r_X10_unfit⟩
  | 10, h => cases h; exact ⟨fun _ => xm_b_ok xo_m_X10_sureOf xo_w_X10_sureOf, xo_r_X10_sureOf⟩
  | 11, h => cases h; exact ⟨fun _ => xm_b_ok xo_m_X10_sure xo_w_X10_sure, xo_r_X10_sure⟩
  | 12, h => cases h; exact ⟨fun _ => xm_b_ok xo_m_X10_open xo_w_X10_open, xo_r_X10_open⟩
  | 13, h => cases h; exact ⟨fun _ => xm_b_ok xo_m_X10_count xo_w_X10_count, xo_r_X10_count⟩
  | 14, h => cases h; exact ⟨fun _ => xm_b_ok xo_m_J6_bitCount_0f7a4 xo_w_J6_bitCount_0f7a4, xo_r_J6_bitCount_0f7a4⟩
  | 15, h => cases h; exact ⟨fun z => absurd rfl z, xo_r_L_law⟩
  | j + 16, h => simp [xm_r14] at h
theorem xo_tab : ∀ (q j : Nat) (mi : xm_M), (xm_t.getD q [])[j]? = some mi → (mi.2.2.2.2.2.1 ≠ 3 → xm_ok mi) ∧ ∀ (pc : Nat) (r : xr_R), xcl ((xc_t.getD q []).getD j []) pc = some r → xr_b mi.1 (xm_ini mi) mi.2.2.1 pc r = true ∧ xr_c xM mi.1 r = true := by
  intro q j mi h
  match q, h with
  | 0, h => exact xo_row0 j mi h
  | 1, h => exact xo_row1 j mi h
  | 2, h => exact xo_row2 j mi h
  | 3, h => exact xo_row3 j mi h
  | 4, h => exact xo_row4 j mi h
  | 5, h => exact xo_row5 j mi h
  | 6, h => exact xo_row6 j mi h
  | 7, h => exact xo_row7 j mi h
  | 8, h => exact xo_row8 j mi h
  | 9, h => exact xo_row9 j mi h
  | 10, h => exact xo_row10 j mi h
  | 11, h => exact xo_row11 j mi h
  | 12, h => exact xo_row12 j mi h
  | 13, h => exact xo_row13 j mi h
  | 14, h => exact xo_row14 j mi h
  | q + 15, h => simp [xm_t] at h
/-- THE PROGRAM'S TABLES HOLD -/
theorem xP : xP_ok xM xC := ⟨fun mid mi h => xo_tab (mid / 16) (mid % 16) mi h, ⟨xw_in (K := 1) (i := 28) (by decide +kernel), xw_in (K := 1) (i := 29) (by decide +kernel)⟩, xw_in (K := 2) (i := 172) (by decide +kernel), xw_in (K := 1) (i := 12) (by decide +kernel), xw_in (K := 2) (i := 173) (by decide +kernel)⟩
/-- EVERY RUN OF THE PROGRAM -/
theorem xS (f : Nat) : xS_ok xM xC f := xS_all xP f
end XPR
end
section
section XLG
/-- more steps do no harm -/
theorem xe_x_more {M : Nat → Option xm_M} {Cd : Nat → Nat → Option xr_R} : ∀ (f : Nat) (scr : Option (Nat × (Nat → Int32))) (d mid : Nat) (mi : xm_M) (st : xs_S) (o : Option Value × xh_H × Nat × Nat), xe_x M Cd scr f d mid mi st = some o → xe_x M Cd scr (f + 1) d mid mi st = some o := by
  intro f
  induction f with
  | zero => intro scr d mid mi st o he; cases he
  | succ f ih =>
    intro scr d mid mi st o he
    obtain ⟨pc, lv, st, h, c, s⟩ := st
    unfold xe_x at he ⊢
    cases hr : Cd mid pc with
    | none => rw [hr] at he; cases he
    | some r =>
      rw [hr] at he
      dsimp only at he ⊢
      cases hi : xe_isr r.1 with
      | true => rw [hi] at he; exact he
      | false =>
        rw [hi] at he
        simp only [cond_false] at he ⊢
        cases h2 : xe_2 scr mi.2.2.2.1 r d pc lv st h c s with
        | some o1 =>
          rw [h2] at he
          exact ih _ _ _ _ _ _ he
        | none =>
          rw [h2] at he
          dsimp only at he ⊢
          cases d with
          | zero => cases he
          | succ d' =>
            dsimp only at he ⊢
            cases hcl : xe_cl M r st h with
            | none => rw [hcl] at he; cases he
            | some t =>
              obtain ⟨mj, As, q⟩ := t
              rw [hcl] at he
              dsimp only at he ⊢
              cases hx : xe_x M Cd none f d' r.2.2.1 mj (0, lv_args 0 As, [], h, 0, 0) with
              | none => rw [hx] at he; cases he
              | some t =>
                obtain ⟨v, h', mc, ms⟩ := t
                rw [hx] at he
                rw [ih _ _ _ _ _ _ hx]
                exact ih _ _ _ _ _ _ he
theorem xe_x_le {M : Nat → Option xm_M} {Cd : Nat → Nat → Option xr_R} {f g : Nat} (hfg : f ≤ g) {scr : Option (Nat × (Nat → Int32))} {d mid : Nat} {mi : xm_M} {st : xs_S} {o : Option Value × xh_H × Nat × Nat} (h : xe_x M Cd scr f d mid mi st = some o) : xe_x M Cd scr g d mid mi st = some o := by
  induction hfg with
  | refl => exact h
  | step _ ih => exact xe_x_more _ _ _ _ _ _ _ ih
/-- A RUN COMES TO ITS END: the words of our proofs -/
def xR (scr : Option (Nat × (Nat → Int32))) (d mid : Nat) (mi : xm_M) (st : xs_S) (o : Option Value × xh_H × Nat × Nat) : Prop := ∃ f : Nat, xe_x xM xC scr f d mid mi st = some o
variable {scr : Option (Nat × (Nat → Int32))} {d mid : Nat} {mi : xm_M} {pc : Nat} {lv : List (Nat × Value)} {st : List Value} {h : xh_H} {c s : Nat} {o : Option Value × xh_H × Nat × Nat} {r : xr_R}
theorem xR_step {o1 : xs_S} (hr : xC mid pc = some r) (hi : xe_isr r.1 = false) (h2 : xe_2 scr mi.2.2.2.1 r d pc lv st h c s = some o1) (k : xR scr d mid mi o1 o) : xR scr d mid mi (pc, lv, st, h, c, s) o := by
  obtain ⟨f, hf⟩ := k
  refine ⟨f + 1, ?_⟩
  unfold xe_x
  rw [hr]
  dsimp only
  rw [hi]
  simp only [cond_false]
  rw [h2]
  exact hf
theorem xR_ret {v : Option Value} (hr : xC mid pc = some r) (hi : xe_isr r.1 = true) (hv : xe_rv r.1 mi.2.2.2.2.1 st = some v) : xR scr d mid mi (pc, lv, st, h, c, s) (v, h, c, s) := by
  refine ⟨1, ?_⟩
  unfold xe_x
  rw [hr]
  dsimp only
  rw [hi]
  simp only [cond_true]
  rw [hv]
  rfl
theorem xR_call {mj : xm_M} {As q : List Value} {v : Option Value} {h' : xh_H} {mc ms : Nat} (hr : xC mid pc = some r) (hi : xe_isr r.1 = false) (h2 : xe_2 scr mi.2.2.2.1 r (d + 1) pc lv st h c s = none) (hcl : xe_cl xM r st h = some (mj, As, q)) (hm : xR none d r.2.2.1 mj (0, lv_args 0 As, [], h, 0, 0) (v, h', mc, ms)) (k : xR scr (d + 1) mid mi (pc + 3, lv, v.toList ++ q, h', c + mc, s + ms) o) : xR scr (d + 1) mid mi (pc, lv, st, h, c, s) o := by
  obtain ⟨f1, hf1⟩ := hm
  obtain ⟨f2, hf2⟩ := k
  refine ⟨(f1 + f2) + 1, ?_⟩
  unfold xe_x
  rw [hr]
  dsimp only
  rw [hi]
  simp only [cond_false]
  rw [h2]
  dsimp only
  rw [hcl]
  dsimp only
  rw [xe_x_le (Nat.le_add_right f1 f2) hf1]
  exact xe_x_le (Nat.le_add_left f2 f1) hf2
/-- a closed run, by the kernel -/
theorem xR_of {f : Nat} {S : xs_S} (h : xe_x xM xC scr f d mid mi S = some o) : xR scr d mid mi S o := ⟨f, h⟩
end XLG
end
section
section XSG
/-- a run up to a place of its own frame -/
def xe_u (M : Nat → Option xm_M) (Cd : Nat → Nat → Option xr_R) (scr : Option (Nat × (Nat → Int32))) (stop : Nat) : Nat → Nat → Nat → xm_M → xs_S → Option xs_S
  | 0, _, _, _, _ => none
  | f + 1, d, mid, mi, (pc, lv, st, h, c, s) => cond (Nat.beq pc stop) (some (pc, lv, st, h, c, s)) (match Cd mid pc with
    | none => none
    | some r => cond (xe_isr r.1) none
      (match xe_2 scr mi.2.2.2.1 r d pc lv st h c s with
      | some o => xe_u M Cd scr stop f d mid mi o
      | none => (match d with
        | 0 => none
        | d' + 1 => (match xe_cl M r st h with
          | none => none
          | some (mj, As, q) => (match xe_x M Cd none f d' r.2.2.1 mj (0, lv_args 0 As, [], h, 0, 0) with
            | none => none
            | some (v, h', mc, ms) => xe_u M Cd scr stop f (d' + 1) mid mi (pc + 3, lv, v.toList ++ q, h', c + mc, s + ms))))))
variable {scr : Option (Nat × (Nat → Int32))} {mid : Nat} {mi : xm_M} {pc : Nat} {lv : List (Nat × Value)} {st q : List Value} {h : xh_H} {c s : Nat} {o : Option Value × xh_H × Nat × Nat} {r : xr_R}
theorem xR_u {stop : Nat} : ∀ (f d : Nat) (S o1 : xs_S), xe_u xM xC scr stop f d mid mi S = some o1 → xR scr d mid mi o1 o → xR scr d mid mi S o := by
  intro f
  induction f with
  | zero => intro d S o1 he k; cases he
  | succ f ih =>
    intro d S o1 he k
    obtain ⟨pc, lv, st, h, c, s⟩ := S
    unfold xe_u at he
    cases hb : Nat.beq pc stop with
    | true => rw [hb] at he; cases he; exact k
    | false =>
      rw [hb] at he
      simp only [cond_false] at he
      cases hr : xC mid pc with
      | none => rw [hr] at he; cases he
      | some r =>
        rw [hr] at he
        dsimp only at he
        cases hi : xe_isr r.1 with
        | true => rw [hi] at he; cases he
        | false =>
          rw [hi] at he
          simp only [cond_false] at he
          cases h2 : xe_2 scr mi.2.2.2.1 r d pc lv st h c s with
          | some o2 =>
            rw [h2] at he
            exact xR_step hr hi h2 (ih _ _ _ he k)
          | none =>
            rw [h2] at he
            dsimp only at he
            cases d with
            | zero => cases he
            | succ d' =>
              dsimp only at he
              cases hcl : xe_cl xM r st h with
              | none => rw [hcl] at he; cases he
              | some t =>
                obtain ⟨mj, As, q⟩ := t
                rw [hcl] at he
                dsimp only at he
                cases hx : xe_x xM xC none f d' r.2.2.1 mj (0, lv_args 0 As, [], h, 0, 0) with
                | none => rw [hx] at he; cases he
                | some t =>
                  obtain ⟨v, h', mc, ms⟩ := t
                  rw [hx] at he
                  exact xR_call hr hi h2 hcl ⟨f, hx⟩ (ih _ _ _ he k)
variable {d : Nat}
theorem xR_if {k : ClassFile.Cond} {off : Int} {tgt b K i : Nat} {x : Int32} (hr : xC mid pc = some (.ifCond k off, 3, tgt, b, K, i)) (kt : xe_c k x 0 = true → xR scr d mid mi (tgt, lv, q, h, c, s) o) (kf : xe_c k x 0 = false → xR scr d mid mi (pc + 3, lv, q, h, c, s) o) : xR scr d mid mi (pc, lv, .int x :: q, h, c, s) o := by
  cases hb : xe_c k x 0 with
  | true => exact xR_step hr rfl (by simp [xe_2, xe_1, xp_i, hb]) (kt hb)
  | false => exact xR_step hr rfl (by simp [xe_2, xe_1, xp_i, hb]) (kf hb)
theorem xR_ic {k : ClassFile.Cond} {off : Int} {tgt b K i : Nat} {x y : Int32} (hr : xC mid pc = some (.if_icmp k off, 3, tgt, b, K, i)) (kt : xe_c k x y = true → xR scr d mid mi (tgt, lv, q, h, c, s) o) (kf : xe_c k x y = false → xR scr d mid mi (pc + 3, lv, q, h, c, s) o) : xR scr d mid mi (pc, lv, .int y :: .int x :: q, h, c, s) o := by
  cases hb : xe_c k x y with
  | true => exact xR_step hr rfl (by simp [xe_2, xe_1, xp_ii, hb]) (kt hb)
  | false => exact xR_step hr rfl (by simp [xe_2, xe_1, xp_ii, hb]) (kf hb)
/-- a closed run: by the kernel, what it returns and makes; its heap by name -/
def xh_of (t : Option (Option Value × xh_H × Nat × Nat)) : xh_H := match t with
  | some (_, h, _, _) => h
  | none => ([], [], [], [])
def xe_b (t : Option (Option Value × xh_H × Nat × Nat)) (v : Option Value) (c s : Nat) : Bool := match t with
  | some (v', _, c', s') => decide (v' = v) && (Nat.beq c' c && Nat.beq s' s)
  | none => false
theorem xe_b_ok {t : Option (Option Value × xh_H × Nat × Nat)} {v : Option Value} {c s : Nat} (hb : xe_b t v c s = true) : t = some (v, xh_of t, c, s) := by
  match t, hb with
  | some (v', h, c', s'), hb =>
    obtain ⟨h1, h2⟩ := xw_bb hb
    obtain ⟨h2, h3⟩ := xw_bb h2
    rw [of_decide_eq_true h1, xw_beq h2, xw_beq h3]
    rfl
theorem xR_cl {f : Nat} {S : xs_S} {v : Option Value} (hb : xe_b (xe_x xM xC scr f d mid mi S) v c s = true) : xR scr d mid mi S (v, xh_of (xe_x xM xC scr f d mid mi S), c, s) := ⟨f, xe_b_ok hb⟩
def xh_eq (a b : xh_H) : Bool := decide (a.1 = b.1) && (decide (a.2.1 = b.2.1) && (decide (a.2.2.1 = b.2.2.1) && decide (a.2.2.2 = b.2.2.2)))
theorem xh_eq_ok {a b : xh_H} (h : xh_eq a b = true) : a = b := by
  obtain ⟨h1, h⟩ := xw_bb h
  obtain ⟨h2, h⟩ := xw_bb h
  obtain ⟨h3, h4⟩ := xw_bb h
  obtain ⟨a1, a2, a3, a4⟩ := a
  obtain ⟨b1, b2, b3, b4⟩ := b
  have h1 : a1 = b1 := of_decide_eq_true h1
  have h2 : a2 = b2 := of_decide_eq_true h2
  have h3 : a3 = b3 := of_decide_eq_true h3
  have h4 : a4 = b4 := of_decide_eq_true h4
  rw [h1, h2, h3, h4]
/-- a closed run up to a place, with its state; a closed run, with its end -/
def xu_b (t : Option xs_S) (o : xs_S) : Bool := match t with
  | some (pc, lv, st, h, c, s) => Nat.beq pc o.1 && (decide (lv = o.2.1) && (decide (st = o.2.2.1) && (xh_eq h o.2.2.2.1 && (Nat.beq c o.2.2.2.2.1 && Nat.beq s o.2.2.2.2.2))))
  | none => false
theorem xu_b_ok {t : Option xs_S} {o : xs_S} (hb : xu_b t o = true) : t = some o := by
  match t, hb with
  | some (pc, lv, st, h, c, s), hb =>
    obtain ⟨pc', lv', st', h', c', s'⟩ := o
    obtain ⟨h1, hb⟩ := xw_bb hb
    obtain ⟨h2, hb⟩ := xw_bb hb
    obtain ⟨h3, hb⟩ := xw_bb hb
    obtain ⟨h4, hb⟩ := xw_bb hb
    obtain ⟨h5, h6⟩ := xw_bb hb
    have h1 : pc = pc' := xw_beq h1
    have h2 : lv = lv' := of_decide_eq_true h2
    have h3 : st = st' := of_decide_eq_true h3
    have h4 : h = h' := xh_eq_ok h4
    have h5 : c = c' := xw_beq h5
    have h6 : s = s' := xw_beq h6
    rw [h1, h2, h3, h4, h5, h6]
def xx_b (t : Option (Option Value × xh_H × Nat × Nat)) (o : Option Value × xh_H × Nat × Nat) : Bool := match t with
  | some (v, h, c, s) => decide (v = o.1) && (xh_eq h o.2.1 && (Nat.beq c o.2.2.1 && Nat.beq s o.2.2.2))
  | none => false
theorem xx_b_ok {t : Option (Option Value × xh_H × Nat × Nat)} {o : Option Value × xh_H × Nat × Nat} (hb : xx_b t o = true) : t = some o := by
  match t, hb with
  | some (v, h, c, s), hb =>
    obtain ⟨v', h', c', s'⟩ := o
    obtain ⟨h1, hb⟩ := xw_bb hb
    obtain ⟨h2, hb⟩ := xw_bb hb
    obtain ⟨h3, h4⟩ := xw_bb hb
    have h1 : v = v' := of_decide_eq_true h1
    have h2 : h = h' := xh_eq_ok h2
    have h3 : c = c' := xw_beq h3
    have h4 : s = s' := xw_beq h4
    rw [h1, h2, h3, h4]
end XSG
end
section
/-! THE CLAIM OUT OF ONE WALK OF THE LAW'S BODY. Your part is whole_start (and what it stands on); all else here is the same for every law, but numbers. -/
def R_law : String := "CarryHouseLaw"
def lw_P (b : Addr) (xs : List Int32) (args : Array Value) (s : State) : Prop := args = #[.ref b] ∧ s.IntsAt b xs ∧ xs.length ≤ 3072 ∧ (Jvm.Cond.and given_1 narrow_1).before args s = true
def lw_Q (_ : Array Value) (s : State) (o : Outcome) (t : State) : Prop := o = .returned (some (.int 1)) ∧ Framed s o t [] 601024 7293034
def lw_Z (below : List Frame) (a : Array Value) (s : State) : State → Prop := fun t => ∃ o, t.status = .running ∧ Ended t below o ∧ lw_Q a s o t
/-- the law's own end, with 1 on the stack, nothing written that was there before, its room as the claim has it -/
theorem lw_ret {p : Program} {l : Launch} {e : Env} {s : State} {m : MethodId} {below : List Frame} {meth : Method} {c : Code} {b : Nat} (hx : p.tables.exec = Jvm.exec) (hb : c.code = code) (hr : meth.sig.returnType = ret) (hlocks : meth.locks = false) {pc : Nat} {H : Heap} {ls : Array Slot} (hdg : decode code pc = .ok (.ireturn, 1)) : W p l e room_1 s m #[Value.ref b] below meth c H [] 601024 7293034 (lw_Z below #[Value.ref b] s) (F0 m pc ls [.int 1]) := by
  intro T hT X
  obtain ⟨fs, hret, hrun, hended, hW, hframe⟩ := X.leave (v := some (.int 1)) (hlocks := hlocks) (fun h => by rw [hr] at h; cases h)
  have hmeth' : T.vm.method? m = some meth := X.method'
  refine ⟨T.setFrames fs, ?_, .returned (some (.int 1)), hrun, hended, rfl, ⟨_, rfl⟩, hW, hframe⟩
  jvm_step X.here [X.here.top, hx, hb, hdg, hmeth', hr, ret, narrow_b1]
  (try refine ⟨rfl, ?_⟩); (try refine ⟨rfl, ?_⟩)
  first | (intro acts; rw [hret _ acts rfl rfl rfl]) | rw [hret _ _ rfl rfl rfl]
  exact Steps.refl _
/-- what holds at the law's entry: the machine, the code, the tables' words (any of lw_tbl by 'hts w (by decide +kernel)'), the script of L ints xs at the cell b, what the Statement gives of the start (any of its parts by flat_of_before) -/
def lw_At (p : Program) (s : State) (m : MethodId) (meth : Method) (c : Code) (b L : Nat) (xs : Nat → Int32) : Prop :=
  p.tables.exec = Jvm.exec ∧ c.code = code ∧ meth.sig.returnType = ret ∧ c.maxLocals = 8 ∧ s.vm.findClass R_law = some m.cls ∧ (∀ w ∈ lw_tbl, w.before #[Value.ref b] s = true) ∧ va_X b L xs s s.heap ∧ b < s.heap.size ∧ meth.locks = false ∧ (Jvm.Cond.and given_1 narrow_1).before #[Value.ref b] s = true
end
section
section XST
theorem xl_arr {args : Array Value} {s : State} {ty : FieldType} (h : (Cond.arrayClass ty).before args s = true) (hp : ∀ C, ty ≠ .object C) : ∃ cA : ClassId, ArrOfT s cA ty ∧ va_RA s cA ty := by
  obtain ⟨cA, kA, comp, h1, h2, h3⟩ := Cond.arrayClass_spec h
  refine ⟨cA, fun n z => ⟨fun k h => (by cases h), kA, h2, comp, h3⟩, ?_⟩
  cases ty with
  | object C => exact absurd rfl (hp C)
  | _ => exact h1
theorem xl_arrq {s : State} (h : va_AO RX7 s) : ∃ cA : ClassId, ArrOfT s cA (.object RX7) ∧ va_RA s cA (.object RX7) := by
  obtain ⟨comp, cA, kA, h1, -, h2, h3, h4⟩ := Cond.arrayOver_spec (show (Cond.arrayOver (.object RX7)).holds #[] s none s [] = true from h)
  exact ⟨cA, fun n z => ⟨fun k h => (by cases h), kA, h2, comp, h3⟩, kA, comp, h2, h3, h1, h4⟩
theorem xl_str {args : Array Value} {s : State} {own : String} {k : Nat} (h : (Cond.exactly (.string own k) "java/lang/String").before args s = true) : ∃ a : Nat, (Term.string own k).eval args s none [] s = some (.ref a) := by
  obtain ⟨a, c, cA, kA, q1, -⟩ := Cond.exactly_spec (args := args) (first := s) (o := none) (s := s) (idx := []) (t := .string own k) (cls := "java/lang/String") h
  exact ⟨a, q1⟩
set_option maxRecDepth 20000 in
theorem xl_eq1 : Jvm.Cond.eq (.string "CarryHouse$Reader" 59) (.string "CarryHouse$Scanner" 75) ∈ flatC (Jvm.Cond.and given_1 narrow_1) := by decide +kernel
set_option maxRecDepth 20000 in
theorem xl_eq2 : Jvm.Cond.eq (.string "CarryHouse$Scanner" 81) (.string "CarryHouse$Reader" 69) ∈ flatC (Jvm.Cond.and given_1 narrow_1) := by decide +kernel
set_option maxRecDepth 20000 in
theorem xl_eq3 : Jvm.Cond.eq (.string "CarryHouse$Scanner" 83) (.string "CarryHouse$Reader" 128) ∈ flatC (Jvm.Cond.and given_1 narrow_1) := by decide +kernel
set_option maxRecDepth 20000 in
theorem xl_eq4 : Jvm.Cond.eq (.string "CarryHouse$Scanner" 85) (.string "CarryHouse$Reader" 123) ∈ flatC (Jvm.Cond.and given_1 narrow_1) := by decide +kernel
set_option maxRecDepth 20000 in
theorem xl_eq5 : Jvm.Cond.eq (.string "CarryHouse$Scanner" 87) (.string "CarryHouse$Reader" 154) ∈ flatC (Jvm.Cond.and given_1 narrow_1) := by decide +kernel
set_option maxRecDepth 20000 in
theorem xl_ex : ∀ q ∈ [("CarryHouse$Reader", 59), ("CarryHouse$Scanner", 81), ("CarryHouse$Scanner", 83), ("CarryHouse$Scanner", 85), ("CarryHouse$Scanner", 87)], Jvm.Cond.exactly (.string q.1 q.2) "java/lang/String" ∈ flatC (Jvm.Cond.and given_1 narrow_1) := by decide +kernel
set_option maxRecDepth 20000 in
theorem xl_fa : Jvm.Cond.arrayOf (.static "CarryHouse$Powers" "FACTORIALS" "[J") .long ∈ flatC (Jvm.Cond.and given_1 narrow_1) := by decide +kernel
set_option maxRecDepth 20000 in
theorem xl_fl : Jvm.Cond.eq (.length (.static "CarryHouse$Powers" "FACTORIALS" "[J")) (.int 13) ∈ flatC (Jvm.Cond.and given_1 narrow_1) := by decide +kernel
set_option maxRecDepth 20000 in
theorem xl_fe : ∀ j, j < 13 → Jvm.Cond.eq (.elem (.static "CarryHouse$Powers" "FACTORIALS" "[J") (.int (Int32.ofNat j))) (.long (xo_f j)) ∈ flatC (Jvm.Cond.and given_1 narrow_1) := by decide +kernel
theorem xl_s0 : Cond.stringRef RX4 59 "body" ∈ lw_tbl := xtb_in (K := 2) (List.mem_of_getElem? (i := 198) (by decide +kernel))
theorem xl_s1 : Cond.stringRef RX6 75 "body" ∈ lw_tbl := xtb_in (K := 3) (List.mem_of_getElem? (i := 24) (by decide +kernel))
theorem xl_s2 : Cond.stringRef RX6 81 "carry" ∈ lw_tbl := xtb_in (K := 3) (List.mem_of_getElem? (i := 26) (by decide +kernel))
theorem xl_s3 : Cond.stringRef RX6 83 "and" ∈ lw_tbl := xtb_in (K := 3) (List.mem_of_getElem? (i := 27) (by decide +kernel))
theorem xl_s4 : Cond.stringRef RX6 85 "or" ∈ lw_tbl := xtb_in (K := 3) (List.mem_of_getElem? (i := 28) (by decide +kernel))
theorem xl_s5 : Cond.stringRef RX6 87 "of" ∈ lw_tbl := xtb_in (K := 3) (List.mem_of_getElem? (i := 29) (by decide +kernel))
theorem xl_s6 : Cond.stringRef RX4 154 "of" ∈ lw_tbl := xtb_in (K := 3) (List.mem_of_getElem? (i := 66) (by decide +kernel))
theorem xl_s7 : Cond.stringRef RX4 128 "and" ∈ lw_tbl := xtb_in (K := 3) (List.mem_of_getElem? (i := 99) (by decide +kernel))
theorem xl_s8 : Cond.stringRef RX4 123 "or" ∈ lw_tbl := xtb_in (K := 3) (List.mem_of_getElem? (i := 100) (by decide +kernel))
theorem xl_s9 : Cond.stringRef RX4 69 "carry" ∈ lw_tbl := xtb_in (K := 3) (List.mem_of_getElem? (i := 101) (by decide +kernel))
theorem xl_ls : Cond.laysStatic RX2 "FACTORIALS" "[J" ∈ lw_tbl := xtb_in (K := 5) (List.mem_of_getElem? (i := 64) (by decide +kernel))
def xl_sp (b t a0 a1 a2 a3 a4 : Nat) (k : Nat) : Nat := [b, t, a0, a1, a2, a3, a4].getD k 0
set_option maxHeartbeats 4000000 in
/-- the law's frame -/
theorem xl_ctx {p : Program} {s : State} {m : MethodId} {meth : Method} {c : Code} {b L : Nat} {xs : Nat → Int32} (C0 : lw_At p s m meth c b L xs) : ∃ (D : va_G) (cy : Nat → ClassId) (sp : Nat → Nat), sp 0 = b ∧ xc_X p s m #[Value.ref b] meth c code 8 RL false D cy (fun q : Nat => s.heap.size ≤ q) sp := by
  obtain ⟨hx, hb, hr, hml, hown, hts, hX, hbl, hlocks, hgv⟩ := id C0
  have hs := flat_of_before _ hgv
  have hG : ∀ w ∈ xG, w.before #[Value.ref b] s = true := fun w hw => hts w (List.mem_filter.mp hw).1
  have kn : ∀ (ci : Nat) (C : String) (T : u_T) (N : Nat), vwCl[ci]? = some (C, T, N) → ∃ (cC : ClassId) (iS : Nat → Nat), u_Kn s C T N cC iS := fun ci C T N hc => by
    obtain ⟨-, k2, -, -, -, k6, -⟩ := xk_ok ci C T N hc
    exact u_known (n := N) hG k2 (hG _ k6)
  have kn2 : ∀ ci : Nat, ∃ q : ClassId × (Nat → Nat), ∀ (C : String) (T : u_T) (N : Nat), vwCl[ci]? = some (C, T, N) → u_Kn s C T N q.1 q.2 := fun ci => by
    cases hc : vwCl[ci]? with
    | none => exact ⟨(0, fun _ => 0), fun C T N h => by cases h⟩
    | some t =>
      obtain ⟨C, T, N⟩ := t
      obtain ⟨cC, iS, h⟩ := kn ci C T N hc
      exact ⟨(cC, iS), fun C' T' N' h' => by cases h'; exact h⟩
  obtain ⟨dd, hdd⟩ := Classical.axiomOfChoice kn2
  have hAO : va_AO RX7 s := va_AO.of (hts _ xk_ov)
  obtain ⟨c1, e1⟩ := xl_arr (hG _ xk_aI) (fun C h => by cases h)
  obtain ⟨c2, e2⟩ := xl_arr (hG _ xk_aB) (fun C h => by cases h)
  obtain ⟨c3, e3⟩ := xl_arr (hG _ xk_aZ) (fun C h => by cases h)
  obtain ⟨c4, e4⟩ := xl_arr (hG _ xk_aJ) (fun C h => by cases h)
  obtain ⟨c5, e5⟩ := xl_arrq hAO
  have hA0 : ∀ a : Nat, a < s.heap.size → ¬ (fun q : Nat => s.heap.size ≤ q) a := fun a h1 h2 => by have h2 : s.heap.size ≤ a := h2; omega
  obtain ⟨t, ht, hT⟩ := va_Tof (f := fun j => .long (xo_f j)) (A := fun q : Nat => s.heap.size ≤ q) (N := 13) (by decide) (hs _ xl_fa) (va_eqt (hs _ xl_fl)) (fun j hj => va_eqtl (hs _ (xl_fe j hj))) hA0
  have hZ := va_Zref (A := fun q : Nat => s.heap.size ≤ q) (hts _ xl_ls) (hG _ xk_n2) ht hA0
  obtain ⟨a0, f0⟩ := xl_str (hs _ (xl_ex ("CarryHouse$Reader", 59) (by decide)))
  obtain ⟨a1, f1⟩ := xl_str (hs _ (xl_ex ("CarryHouse$Scanner", 81) (by decide)))
  obtain ⟨a2, f2⟩ := xl_str (hs _ (xl_ex ("CarryHouse$Scanner", 83) (by decide)))
  obtain ⟨a3, f3⟩ := xl_str (hs _ (xl_ex ("CarryHouse$Scanner", 85) (by decide)))
  obtain ⟨a4, f4⟩ := xl_str (hs _ (xl_ex ("CarryHouse$Scanner", 87) (by decide)))
  refine ⟨(fun k => (dd k).1, fun k => (dd k).2), fun k => [0, c1, c2, c3, c4, c5].getD k 0, xl_sp b t a0 a1 a2 a3 a4, rfl, hx, hb, hml, hown, hG, ⟨fun ci q hq => ?_, fun k q hq => ?_⟩, fun q h => h, ⟨fun k q hq => ?_, hAO, hZ, hT⟩, fun z => by cases z⟩
  · obtain ⟨C, T, N⟩ := q
    exact hdd ci C T N hq
  · match k, hq with
    | 0, hq => cases hq; exact e1
    | 1, hq => cases hq; exact e2
    | 2, hq => cases hq; exact e3
    | 3, hq => cases hq; exact e4
    | 4, hq => cases hq; exact e5
    | k + 5, hq => simp [xh_ts] at hq
  · match k, hq with
    | 0, hq => cases hq; exact vk_R.of (hts _ xl_s0) f0
    | 1, hq => cases hq; exact vk_R.of (hts _ xl_s1) (va_eqR (hs _ xl_eq1) f0)
    | 2, hq => cases hq; exact vk_R.of (hts _ xl_s2) f1
    | 3, hq => cases hq; exact vk_R.of (hts _ xl_s3) f2
    | 4, hq => cases hq; exact vk_R.of (hts _ xl_s4) f3
    | 5, hq => cases hq; exact vk_R.of (hts _ xl_s5) f4
    | 6, hq => cases hq; exact vk_R.of (hts _ xl_s6) (va_eqR (hs _ xl_eq5) f4)
    | 7, hq => cases hq; exact vk_R.of (hts _ xl_s7) (va_eqR (hs _ xl_eq3) f2)
    | 8, hq => cases hq; exact vk_R.of (hts _ xl_s8) (va_eqR (hs _ xl_eq4) f3)
    | 9, hq => cases hq; exact vk_R.of (hts _ xl_s9) (va_eqR (hs _ xl_eq2) f1)
    | k + 10, hq => simp [xo_s] at hq
set_option maxHeartbeats 4000000 in
/-- THE LAW OUT OF A RUN: what a proof of the claim has to show of our machine alone -/
theorem xl_go {p : Program} {e : Env} {s : State} {m : MethodId} {below : List Frame} {meth : Method} {c : Code} (l : Launch) {b L : Nat} {xs : Nat → Int32} (C0 : lw_At p s m meth c b L xs) (hrun : ∃ (f d : Nat) (h' : xh_H) (c' s' : Nat), d ≤ 2048 ∧ c' ≤ 601024 ∧ s' ≤ 7293034 ∧ xe_x xM xC (some (L, xs)) f d xi_L_law xmi_L_law (0, [(0, .float 0)], [], ([], [], [], []), 0, 0) = some (some (.int 1), h', c', s')) : W p l e room_1 s m #[Value.ref b] below meth c s.heap [] 0 0 (lw_Z below #[Value.ref b] s) (entryFrame m ([Value.ref b] : List Value).toArray 8) := by
  obtain ⟨f, d, h', c', s', hd, hc, hs, he⟩ := hrun
  obtain ⟨D, cy, sp, hsp, X⟩ := xl_ctx C0
  obtain ⟨hx, hb, hr, hml, hown, hts, hX, hbl, hlocks, hgv⟩ := id C0
  have hl := lv_entry ([.ref b]) (n := 8) (Nat.le_of_ble_eq_true rfl)
  rw [lg_entry_eq]
  refine xS f p l e room_1 s m _ below meth c s.heap [] _ _ D (fun q : Nat => s.heap.size ≤ q) (fun k => s.heap.size + k) sp cy (some (L, xs)) d xi_L_law xmi_L_law 0 [(0, .float 0)] [] ([], [], [], []) 0 0 (some (.int 1)) h' c' s' he rfl X ⟨hd, ?_, hc, hs⟩ ?_ ⟨⟨fun k q h => by simp [xh_ws] at h, ⟨fun i j p q h => by simp [xh_ws] at h, fun k q h => by simp [xh_ws] at h⟩, fun j => ?_⟩, va_S.rf, ?_⟩ ?_
  · show 40 * d ≤ 84000
    omega
  · intro L' xs' z
    cases z
    rw [hsp]
    exact ⟨hX, hbl, Nat.not_le.mpr hbl⟩
  · show s.heap.size + (0 + j) = s.heap.size + j
    rw [Nat.zero_add]
  · have e0 : xl_m (fun k => s.heap.size + k) sp [(0, .float 0)] = [(0, .ref b)] := by
      show [(0, Value.ref (sp 0))] = [(0, Value.ref b)]
      rw [hsp]
    rw [e0]
    exact hl
  · intro H1 locs1 ls1 lv1 pc1 ri st1 S1 hd1 hrv
    have hst : st1 = [.int 1] ∧ ri = .ireturn := by
      unfold xe_rv at hrv
      repeat' split at hrv
      all_goals first
        | (cases hrv; done)
        | (cases hrv; exact ⟨rfl, rfl⟩)
        | (obtain ⟨_, h2⟩ := xw_c hrv; cases h2; exact ⟨rfl, rfl⟩)
    obtain ⟨rfl, rfl⟩ := hst
    refine va_forget S1.2.1.2.2 ?_
    refine W.widen hc hs ?_
    exact lw_ret hx hb hr hlocks hd1
end XST
end
section
section XAR
theorem bm_id {z : Int} (h1 : -2147483648 ≤ z) (h2 : z ≤ 2147483647) : z.bmod (2 ^ 32) = z := by
  simp only [Int.bmod]
  split <;> omega
theorem ar_rng (x : Int32) : -2147483648 ≤ x.toInt ∧ x.toInt ≤ 2147483647 := by
  have h1 := x.le_toInt
  have h2 := x.toInt_lt
  omega
theorem ar_add {x y : Int32} (h1 : -2147483648 ≤ x.toInt + y.toInt) (h2 : x.toInt + y.toInt ≤ 2147483647) : (x + y).toInt = x.toInt + y.toInt := by
  rw [Int32.toInt_add]
  exact bm_id h1 h2
theorem ar_sub {x y : Int32} (h1 : -2147483648 ≤ x.toInt - y.toInt) (h2 : x.toInt - y.toInt ≤ 2147483647) : (x - y).toInt = x.toInt - y.toInt := by
  rw [Int32.toInt_sub]
  exact bm_id h1 h2
theorem ar_mul {x y : Int32} (h1 : -2147483648 ≤ x.toInt * y.toInt) (h2 : x.toInt * y.toInt ≤ 2147483647) : (x * y).toInt = x.toInt * y.toInt := by
  rw [Int32.toInt_mul]
  exact bm_id h1 h2
theorem ar_nn {x : Int32} (h : 0 ≤ x.toInt) : x.toInt = (x.toBitVec.toNat : Int) ∧ x.toBitVec.toNat < 2147483648 := by
  have e : x.toInt = x.toBitVec.toInt := rfl
  have l := x.toBitVec.isLt
  rw [e, BitVec.toInt_eq_toNat_cond] at h
  rw [e, BitVec.toInt_eq_toNat_cond]
  split at h
  · rename_i h2
    rw [if_pos h2]
    exact ⟨rfl, by omega⟩
  · omega
theorem ar_of {x : Int32} (h : x.toBitVec.toNat < 2147483648) : x.toInt = (x.toBitVec.toNat : Int) := by
  have e : x.toInt = x.toBitVec.toInt := rfl
  rw [e, BitVec.toInt_eq_toNat_cond, if_pos (by omega)]
theorem ar_and1 {x y : Int32} (h : 0 ≤ y.toInt) : 0 ≤ (x &&& y).toInt ∧ (x &&& y).toInt ≤ y.toInt := by
  obtain ⟨e, l⟩ := ar_nn h
  have h1 : (x &&& y).toBitVec.toNat = x.toBitVec.toNat &&& y.toBitVec.toNat := BitVec.toNat_and ..
  have h2 : x.toBitVec.toNat &&& y.toBitVec.toNat ≤ y.toBitVec.toNat := Nat.and_le_right
  rw [ar_of (x := x &&& y) (by omega), e, h1]
  omega
theorem ar_and2 {x y : Int32} (h : 0 ≤ x.toInt) : 0 ≤ (x &&& y).toInt ∧ (x &&& y).toInt ≤ x.toInt := by
  obtain ⟨e, l⟩ := ar_nn h
  have h1 : (x &&& y).toBitVec.toNat = x.toBitVec.toNat &&& y.toBitVec.toNat := BitVec.toNat_and ..
  have h2 : x.toBitVec.toNat &&& y.toBitVec.toNat ≤ x.toBitVec.toNat := Nat.and_le_left
  rw [ar_of (x := x &&& y) (by omega), e, h1]
  omega
theorem ar_p31 {k : Nat} (hk : k ≤ 31) : 2 ^ k ≤ 2147483648 := Nat.pow_le_pow_right (by decide) hk
theorem ar_or {x y : Int32} {k : Nat} (hk : k ≤ 31) (hx : 0 ≤ x.toInt) (hy : 0 ≤ y.toInt) (hx2 : x.toInt < ((2 ^ k : Nat) : Int)) (hy2 : y.toInt < ((2 ^ k : Nat) : Int)) : 0 ≤ (x ||| y).toInt ∧ (x ||| y).toInt < ((2 ^ k : Nat) : Int) := by
  obtain ⟨e, l⟩ := ar_nn hx
  obtain ⟨e2, l2⟩ := ar_nn hy
  have hp := ar_p31 hk
  have h1 : (x ||| y).toBitVec.toNat = x.toBitVec.toNat ||| y.toBitVec.toNat := BitVec.toNat_or ..
  have h2 : x.toBitVec.toNat ||| y.toBitVec.toNat < 2 ^ k := Nat.or_lt_two_pow (by omega) (by omega)
  rw [ar_of (x := x ||| y) (by omega), h1]
  omega
theorem ar_xor {x y : Int32} {k : Nat} (hk : k ≤ 31) (hx : 0 ≤ x.toInt) (hy : 0 ≤ y.toInt) (hx2 : x.toInt < ((2 ^ k : Nat) : Int)) (hy2 : y.toInt < ((2 ^ k : Nat) : Int)) : 0 ≤ (x ^^^ y).toInt ∧ (x ^^^ y).toInt < ((2 ^ k : Nat) : Int) := by
  obtain ⟨e, l⟩ := ar_nn hx
  obtain ⟨e2, l2⟩ := ar_nn hy
  have hp := ar_p31 hk
  have h1 : (x ^^^ y).toBitVec.toNat = x.toBitVec.toNat ^^^ y.toBitVec.toNat := BitVec.toNat_xor ..
  have h2 : x.toBitVec.toNat ^^^ y.toBitVec.toNat < 2 ^ k := Nat.xor_lt_two_pow (by omega) (by omega)
  rw [ar_of (x := x ^^^ y) (by omega), h1]
  omega
theorem ar_sh : ∀ k, k < 32 → ((nI k &&& 31 : Int32).toBitVec.smod 32).toNat = k := by decide +kernel
theorem ar_shl {x : Int32} {k : Nat} (hk : k < 32) (hx : 0 ≤ x.toInt) (h : x.toInt * ((2 ^ k : Nat) : Int) ≤ 2147483647) : (x <<< (nI k &&& 31)).toInt = x.toInt * ((2 ^ k : Nat) : Int) := by
  obtain ⟨e, l⟩ := ar_nn hx
  have e1 : (x <<< (nI k &&& 31)).toBitVec = x.toBitVec <<< ((nI k &&& 31 : Int32).toBitVec.smod 32) := rfl
  have e2 : (x <<< (nI k &&& 31)).toBitVec.toNat = x.toBitVec.toNat * 2 ^ k % 2 ^ 32 := by
    rw [e1, BitVec.shiftLeft_eq', ar_sh k hk, BitVec.toNat_shiftLeft, Nat.shiftLeft_eq]
  rw [e] at h ⊢
  have h' : x.toBitVec.toNat * 2 ^ k ≤ 2147483647 := by
    have h2 : ((x.toBitVec.toNat * 2 ^ k : Nat) : Int) ≤ ((2147483647 : Nat) : Int) := by
      rw [Int.natCast_mul]
      exact h
    exact Int.ofNat_le.mp h2
  rw [Nat.mod_eq_of_lt (by omega)] at e2
  rw [ar_of (x := x <<< (nI k &&& 31)) (by omega), e2, Int.natCast_mul]
theorem ar_shr {x : Int32} {k : Nat} (hk : k < 32) : (x >>> (nI k &&& 31)).toInt = x.toInt / ((2 ^ k : Nat) : Int) := by
  have e1 : (x >>> (nI k &&& 31)).toBitVec = x.toBitVec.sshiftRight' ((nI k &&& 31 : Int32).toBitVec.smod 32) := rfl
  have e : (x >>> (nI k &&& 31)).toInt = (x >>> (nI k &&& 31)).toBitVec.toInt := rfl
  rw [e, e1, BitVec.sshiftRight', ar_sh k hk, BitVec.toInt_sshiftRight, Int.shiftRight_eq_div_pow]
  rfl
end XAR
end
section
section XAB
/-- a name: (0, i) local i at a block's head; (0, 100 + i) argument i; (c + 1, k) field k of cell c at the head -/
abbrev aN : Type := Nat × Nat
/-- facts: a name's bounds -/
abbrev aF : Type := List (aN × Int × Int)
/-- an abstract value: kind (0 int, 1 long, 2 reference, 3 reference or null, 4 what is not ours), bounds (or the kind of cell), which name plus what, what holds if it is not 0, if it is 0 -/
abbrev aV : Type := Nat × Int × Int × Option (aN × Int) × aF × aF
/-- an abstract frame: locals, stack, facts, fields -/
abbrev aS : Type := List (Nat × aV) × List aV × aF × List (aN × aV)
/-- a cell's kind: of the first 72 each its own; behind them statutes (as cell 11) and their bits (as cell 12) by turns -/
def a_tg (q : Nat) : Nat := cond (Nat.blt q 72) q (cond (Nat.beq (q % 2) 0) 11 12)
def a_f (σ : aN → Int) (F : aF) : Prop := ∀ q ∈ F, q.2.1 ≤ σ q.1 ∧ σ q.1 ≤ q.2.2
def a_i (σ : aN → Int) (a : aV) (x : Int32) : Prop := a.2.1 ≤ x.toInt ∧ x.toInt ≤ a.2.2.1 ∧ (∀ n c, a.2.2.2.1 = some (n, c) → x.toInt = σ n + c) ∧ (x ≠ 0 → a_f σ a.2.2.2.2.1) ∧ (x = 0 → a_f σ a.2.2.2.2.2)
def a_r (n t q : Nat) : Prop := q < n ∧ a_tg q = t
def a_v (σ : aN → Int) (n : Nat) (a : aV) (v : Value) : Prop := match a.1 with
  | 0 => ∃ x, v = .int x ∧ a_i σ a x
  | 1 => ∃ x : Int64, v = .long x ∧ a.2.1 ≤ x.toInt ∧ x.toInt ≤ a.2.2.1
  | 2 => ∃ q, v = .ref q ∧ a_r n a.2.1.toNat q
  | 3 => v = .null ∨ ∃ q, v = .ref q ∧ a_r n a.2.1.toNat q
  | _ => ∃ u, v = .float u
def a_st (σ : aN → Int) (n : Nat) : List aV → List Value → Prop
  | [], [] => True
  | a :: A, v :: V => a_v σ n a v ∧ a_st σ n A V
  | _, _ => False
def a_nq (a b : aN) : Bool := Nat.beq a.1 b.1 && Nat.beq a.2 b.2
theorem a_nq_ok {a b : aN} (h : a_nq a b = true) : a = b := by
  obtain ⟨h1, h2⟩ := xw_bb h
  exact Prod.ext (xw_beq h1) (xw_beq h2)
theorem a_nq_no {a b : aN} (h : a_nq a b = false) : a ≠ b := by
  intro e
  subst e
  unfold a_nq at h
  rw [Nat.beq_refl, Nat.beq_refl] at h
  cases h
def a_fd : aF → aN → Option (Int × Int)
  | [], _ => none
  | q :: t, n => cond (a_nq q.1 n) (some q.2) (a_fd t n)
theorem a_fd_ok {σ : aN → Int} {n : aN} {p : Int × Int} : ∀ {E : aF}, a_f σ E → a_fd E n = some p → p.1 ≤ σ n ∧ σ n ≤ p.2 := by
  intro E
  induction E with
  | nil => intro _ h; cases h
  | cons q t ih =>
    intro hE h
    unfold a_fd at h
    cases hb : a_nq q.1 n with
    | true =>
      rw [hb] at h
      cases h
      have e := a_nq_ok hb
      subst e
      exact hE q List.mem_cons_self
    | false =>
      rw [hb] at h
      exact ih (fun q hq => hE q (List.mem_cons_of_mem _ hq)) h
/-- bounds of a value, by what is known of its name -/
def a_bd (E : aF) (a : aV) : Int × Int := match a.2.2.2.1 with
  | none => (a.2.1, a.2.2.1)
  | some (n, c) => (match a_fd E n with
    | none => (a.2.1, a.2.2.1)
    | some (l, h) => (max a.2.1 (l + c), min a.2.2.1 (h + c)))
theorem a_bd_ok {σ : aN → Int} {E : aF} {a : aV} {x : Int32} (hE : a_f σ E) (h : a_i σ a x) : (a_bd E a).1 ≤ x.toInt ∧ x.toInt ≤ (a_bd E a).2 := by
  obtain ⟨h1, h2, h3, -⟩ := h
  unfold a_bd
  split
  · exact ⟨h1, h2⟩
  · rename_i n c e
    split
    · exact ⟨h1, h2⟩
    · rename_i l hh e2
      have h4 := a_fd_ok hE e2
      have h5 := h3 n c e
      dsimp only at h4 ⊢
      omega
/-- one fact more -/
def a_ad (E : aF) (q : aN × Int × Int) : aF := match a_fd E q.1 with
  | none => q :: E
  | some (l, h) => (q.1, max l q.2.1, min h q.2.2) :: E
theorem a_ad_ok {σ : aN → Int} {E : aF} {q : aN × Int × Int} (hE : a_f σ E) (h : q.2.1 ≤ σ q.1 ∧ σ q.1 ≤ q.2.2) : a_f σ (a_ad E q) := by
  unfold a_ad
  split
  · intro p hp
    rcases List.mem_cons.mp hp with rfl | hp
    · exact h
    · exact hE p hp
  · rename_i l hh e
    have h4 := a_fd_ok hE e
    intro p hp
    rcases List.mem_cons.mp hp with rfl | hp
    · dsimp only at h4 ⊢
      omega
    · exact hE p hp
def a_ads : aF → aF → aF
  | E, [] => E
  | E, q :: t => a_ads (a_ad E q) t
theorem a_ads_ok {σ : aN → Int} : ∀ {F E : aF}, a_f σ E → a_f σ F → a_f σ (a_ads E F) := by
  intro F
  induction F with
  | nil => intro E hE _; exact hE
  | cons q t ih =>
    intro E hE hF
    exact ih (a_ad_ok hE (hF q List.mem_cons_self)) (fun p hp => hF p (List.mem_cons_of_mem _ hp))
/-- a value is found between two numbers -/
def a_rf (E : aF) (a : aV) (lo hi : Int) : Option aF :=
  cond (decide (min (a_bd E a).2 hi < max (a_bd E a).1 lo)) none
    (some (a_ads (match a.2.2.2.1 with
      | none => E
      | some (n, c) => a_ad E (n, max (a_bd E a).1 lo - c, min (a_bd E a).2 hi - c))
      (cond (decide (0 < max (a_bd E a).1 lo) || decide (min (a_bd E a).2 hi < 0)) a.2.2.2.2.1
        (cond (decide (0 ≤ max (a_bd E a).1 lo) && decide (min (a_bd E a).2 hi ≤ 0)) a.2.2.2.2.2 []))))
theorem a_rf_ok {σ : aN → Int} {E : aF} {a : aV} {x : Int32} {lo hi : Int} (hE : a_f σ E) (h : a_i σ a x) (h1 : lo ≤ x.toInt) (h2 : x.toInt ≤ hi) : ∃ E', a_rf E a lo hi = some E' ∧ a_f σ E' := by
  have hb := a_bd_ok hE h
  obtain ⟨-, -, h3, h4, h5⟩ := h
  unfold a_rf
  have hn : decide (min (a_bd E a).2 hi < max (a_bd E a).1 lo) = false := by
    rw [decide_eq_false_iff_not]
    omega
  rw [hn]
  refine ⟨_, rfl, a_ads_ok ?_ ?_⟩
  · split
    · exact hE
    · rename_i n c e
      have h6 := h3 n c e
      refine a_ad_ok hE ?_
      dsimp only
      omega
  · cases hc : (decide (0 < max (a_bd E a).1 lo) || decide (min (a_bd E a).2 hi < 0)) with
    | true =>
      refine h4 (fun e => ?_)
      rw [e] at hb h1 h2
      rw [Bool.or_eq_true, decide_eq_true_eq, decide_eq_true_eq] at hc
      have e0 : (0 : Int32).toInt = 0 := rfl
      omega
    | false =>
      cases hd : (decide (0 ≤ max (a_bd E a).1 lo) && decide (min (a_bd E a).2 hi ≤ 0)) with
      | true =>
        refine h5 ?_
        rw [Bool.and_eq_true, decide_eq_true_eq, decide_eq_true_eq] at hd
        have e0 : (0 : Int32).toInt = 0 := rfl
        exact Int32.toInt_inj.mp (by omega)
      | false => intro q hq; cases hq
/-- what a comparison tells: bounds for the one and for the other -/
def a_cb (k : ClassFile.Cond) (x y : Int × Int) : (Int × Int) × (Int × Int) := match k with
  | .eq => (y, x)
  | .ne => ((cond (decide (y.1 = y.2) && decide (x.1 = y.1)) (x.1 + 1) x.1, cond (decide (y.1 = y.2) && decide (x.2 = y.1)) (x.2 - 1) x.2), y)
  | .lt => ((x.1, y.2 - 1), (x.1 + 1, y.2))
  | .ge => ((y.1, x.2), (y.1, x.2))
  | .gt => ((y.1 + 1, x.2), (y.1, x.2 - 1))
  | .le => ((x.1, y.2), (x.1, y.2))
theorem a_ce {k : ClassFile.Cond} {x y : Int32} (z : xe_c k x y = true) : match k with
  | .eq => x.toInt = y.toInt
  | .ne => x.toInt ≠ y.toInt
  | .lt => x.toInt < y.toInt
  | .ge => y.toInt ≤ x.toInt
  | .gt => y.toInt < x.toInt
  | .le => x.toInt ≤ y.toInt := by
  cases k
  · have h := of_decide_eq_true z
    exact congrArg Int32.toInt h
  · intro e
    have h := Int32.toInt_inj.mp e
    unfold xe_c at z
    simp [h] at z
  · exact Int32.lt_iff_toInt_lt.mp (of_decide_eq_true z)
  · exact Int32.le_iff_toInt_le.mp (of_decide_eq_true z)
  · exact Int32.lt_iff_toInt_lt.mp (of_decide_eq_true z)
  · exact Int32.le_iff_toInt_le.mp (of_decide_eq_true z)
theorem a_cb_ok {k : ClassFile.Cond} {x y : Int32} {p q : Int × Int} (z : xe_c k x y = true) (hx : p.1 ≤ x.toInt ∧ x.toInt ≤ p.2) (hy : q.1 ≤ y.toInt ∧ y.toInt ≤ q.2) : ((a_cb k p q).1.1 ≤ x.toInt ∧ x.toInt ≤ (a_cb k p q).1.2) ∧ ((a_cb k p q).2.1 ≤ y.toInt ∧ y.toInt ≤ (a_cb k p q).2.2) := by
  have h := a_ce z
  cases k
  · dsimp only at h
    simp only [a_cb]
    omega
  · dsimp only at h
    simp only [a_cb]
    refine ⟨⟨?_, ?_⟩, hy⟩
    · cases hc : (decide (q.1 = q.2) && decide (p.1 = q.1)) with
      | true =>
        rw [Bool.and_eq_true, decide_eq_true_eq, decide_eq_true_eq] at hc
        simp only [cond_true]
        omega
      | false => exact hx.1
    · cases hc : (decide (q.1 = q.2) && decide (p.2 = q.1)) with
      | true =>
        rw [Bool.and_eq_true, decide_eq_true_eq, decide_eq_true_eq] at hc
        simp only [cond_true]
        omega
      | false => exact hx.2
  all_goals
    dsimp only at h
    simp only [a_cb]
    omega
def a_neg (k : ClassFile.Cond) : ClassFile.Cond := match k with
  | .eq => .ne
  | .ne => .eq
  | .lt => .ge
  | .ge => .lt
  | .gt => .le
  | .le => .gt
theorem a_neg_ok {k : ClassFile.Cond} {x y : Int32} (z : xe_c k x y = false) : xe_c (a_neg k) x y = true := by
  cases k
  · have z : decide (x = y) = false := z
    show (!decide (x = y)) = true
    rw [z]; rfl
  · have z : (!decide (x = y)) = false := z
    show decide (x = y) = true
    cases h : decide (x = y) with
    | true => rfl
    | false => rw [h] at z; cases z
  · have h := of_decide_eq_false z
    exact decide_eq_true (by rw [Int32.lt_iff_toInt_lt] at h; rw [Int32.le_iff_toInt_le]; omega)
  · have h := of_decide_eq_false z
    exact decide_eq_true (by rw [Int32.le_iff_toInt_le] at h; rw [Int32.lt_iff_toInt_lt]; omega)
  · have h := of_decide_eq_false z
    exact decide_eq_true (by rw [Int32.lt_iff_toInt_lt] at h; rw [Int32.le_iff_toInt_le]; omega)
  · have h := of_decide_eq_false z
    exact decide_eq_true (by rw [Int32.le_iff_toInt_le] at h; rw [Int32.lt_iff_toInt_lt]; omega)
/-- the facts where a comparison holds (none: it can't) -/
def a_cmp (k : ClassFile.Cond) (E : aF) (x y : aV) : Option aF := match a_rf E x (a_cb k (a_bd E x) (a_bd E y)).1.1 (a_cb k (a_bd E x) (a_bd E y)).1.2 with
  | none => none
  | some E1 => a_rf E1 y (a_cb k (a_bd E x) (a_bd E y)).2.1 (a_cb k (a_bd E x) (a_bd E y)).2.2
theorem a_cmp_ok {σ : aN → Int} {k : ClassFile.Cond} {E : aF} {a b : aV} {x y : Int32} (hE : a_f σ E) (hx : a_i σ a x) (hy : a_i σ b y) (z : xe_c k x y = true) : ∃ E', a_cmp k E a b = some E' ∧ a_f σ E' := by
  obtain ⟨c1, c2⟩ := a_cb_ok z (a_bd_ok hE hx) (a_bd_ok hE hy)
  obtain ⟨E1, h1, h2⟩ := a_rf_ok hE hx c1.1 c1.2
  obtain ⟨E2, h3, h4⟩ := a_rf_ok h2 hy c2.1 c2.2
  refine ⟨E2, ?_, h4⟩
  unfold a_cmp
  rw [h1]
  exact h3
end XAB
end
section
section XAI
/-- the shapes of the first 72 cells -/
def a_sh : List (Nat × Nat) := [(0, 9), (0, 8), (2, 640), (0, 4), (0, 3), (1, 400), (1, 400), (1, 64), (0, 6), (1, 16), (1, 16), (0, 7), (4, 64), (5, 8), (0, 2), (1, 924), (1, 924), (1, 12), (1, 14), (1, 12), (4, 13), (0, 5), (1, 12), (1, 12), (1, 12), (1, 12), (1, 12), (1, 12), (0, 0), (1, 7), (1, 84), (1, 7), (1, 7), (1, 7), (1, 896), (0, 1), (1, 60), (1, 60), (3, 60), (0, 10), (1, 640), (3, 53248), (3, 53248), (3, 65536), (3, 32768), (3, 4096), (1, 53248), (1, 13), (1, 13), (1, 13), (4, 16), (1, 8), (1, 8), (3, 4096), (1, 12), (1, 12), (1, 12), (1, 12), (1, 13), (1, 924), (1, 924), (3, 144), (1, 84), (3, 49), (3, 49), (1, 56), (1, 7), (1, 7), (1, 60), (1, 60), (3, 60), (4, 1)]
abbrev aT : Type := List (List (Nat × Int × Int))
def a_e (h : xh_H) (c k : Nat) (e : Nat × Int × Int) : Prop := match e.1 with
  | 0 => e.2.1 ≤ (xg 0 h.2.1 c k).toInt ∧ (xg 0 h.2.1 c k).toInt ≤ e.2.2
  | 1 => e.2.1 ≤ (xg 0 h.2.2.1 c k).toInt ∧ (xg 0 h.2.2.1 c k).toInt ≤ e.2.2
  | 2 => ∃ q, xg none h.2.2.2 c k = some q ∧ a_r h.1.length e.2.1.toNat q
  | 3 => ∀ q, xg none h.2.2.2 c k = some q → a_r h.1.length e.2.1.toNat q
  | _ => True
def a_sz (s : Nat × Nat) : Nat := match s.1 with
  | 0 => xh_N s.2
  | _ => s.2
def a_ent (tb : aT) (s : Nat × Nat) (t k : Nat) : Nat × Int × Int := match s.1 with
  | 0 => (tb.getD t []).getD k (9, 0, 0)
  | _ => (tb.getD t []).getD 0 (9, 0, 0)
/-- THE HEAP KEEPS ITS BOUNDS -/
def a_inv (tb : aT) (h : xh_H) : Prop := ∀ c s, h.1[c]? = some s → a_sh[a_tg c]? = some s ∧ ∀ k, k < a_sz s → a_e h c k (a_ent tb s (a_tg c) k)
/-- a cell of which there is one, an object -/
def a_ob (c : Nat) : Bool := match a_sh[c]? with
  | some (0, ci) => !(Nat.beq ci 7)
  | _ => false
set_option maxRecDepth 10000 in
theorem a_ob_lt : ∀ c, a_ob c = true → c < 72 ∧ c ≠ 11 ∧ c ≠ 12 := by
  intro c h
  by_cases hc : c < 72
  · refine ⟨hc, ?_, ?_⟩
    · intro e; subst e; revert h; decide
    · intro e; subst e; revert h; decide
  · unfold a_ob at h
    rw [List.getElem?_eq_none (by show 72 ≤ c; omega)] at h
    cases h
theorem a_tg_lt {q : Nat} (h : q < 72) : a_tg q = q := by
  unfold a_tg
  rw [show Nat.blt q 72 = true from Nat.blt_eq.mpr h]
  rfl
theorem a_tg_ge {q : Nat} (h : ¬ q < 72) : a_tg q = 11 ∨ a_tg q = 12 := by
  unfold a_tg
  rw [show Nat.blt q 72 = false from by rw [Bool.eq_false_iff]; intro z; exact h (Nat.blt_eq.mp z)]
  cases Nat.beq (q % 2) 0
  · exact Or.inr rfl
  · exact Or.inl rfl
theorem a_r_ob {n t q : Nat} (ht : a_ob t = true) (h : a_r n t q) : q = t := by
  obtain ⟨h1, h2, h3⟩ := a_ob_lt t ht
  by_cases hq : q < 72
  · rw [← h.2, a_tg_lt hq]
  · rcases a_tg_ge hq with e | e
    · exact absurd (h.2.symm.trans e) h2
    · exact absurd (h.2.symm.trans e) h3
/-- what holds of a frame -/
def a_s (tb : aT) (σ : aN → Int) (h0 : xh_H) (md : List (Nat × Nat)) (A : aS) (lv : List (Nat × Value)) (st : List Value) (h : xh_H) : Prop :=
  a_inv tb h ∧ h.1 = h0.1 ∧ (∀ q ∈ A.1, ∃ v, xl_get lv q.1 = some v ∧ a_v σ h.1.length q.2 v) ∧ a_st σ h.1.length A.2.1 st ∧ a_f σ A.2.2.1 ∧ (∀ q ∈ A.2.2.2, a_ob q.1.1 = true ∧ a_v σ h.1.length q.2 (.int (xg 0 h.2.1 q.1.1 q.1.2))) ∧ ∀ c k, a_ob c = true → (c, k) ∉ md → xg 0 h.2.1 c k = xg 0 h0.2.1 c k
def a_lk : List (Nat × aV) → Nat → Option aV
  | [], _ => none
  | q :: t, i => cond (Nat.beq q.1 i) (some q.2) (a_lk t i)
theorem a_lk_mem {L : List (Nat × aV)} {i : Nat} {a : aV} (h : a_lk L i = some a) : (i, a) ∈ L := by
  induction L with
  | nil => cases h
  | cons q t ih =>
    unfold a_lk at h
    cases hb : Nat.beq q.1 i with
    | true =>
      rw [hb] at h
      have h1 := Nat.eq_of_beq_eq_true hb
      cases h
      subst h1
      exact List.mem_cons_self
    | false => rw [hb] at h; exact List.mem_cons_of_mem _ (ih h)
def a_kf (L : List (aN × aV)) (n : aN) : Option aV := match L with
  | [] => none
  | q :: t => cond (a_nq q.1 n) (some q.2) (a_kf t n)
theorem a_kf_mem {n : aN} {a : aV} : ∀ {L : List (aN × aV)}, a_kf L n = some a → (n, a) ∈ L := by
  intro L
  induction L with
  | nil => intro h; cases h
  | cons q t ih =>
    intro h
    unfold a_kf at h
    cases hb : a_nq q.1 n with
    | true =>
      rw [hb] at h
      have h1 := a_nq_ok hb
      cases h
      subst h1
      exact List.mem_cons_self
    | false => rw [hb] at h; exact List.mem_cons_of_mem _ (ih h)
def a_set (L : List (Nat × aV)) (i : Nat) (a : aV) : List (Nat × aV) := (i, a) :: L.filter (fun q => !(Nat.beq q.1 i) && !(Nat.beq (q.1 + 1) i && Nat.beq q.2.1 1))
theorem xl_get_f {p : Nat × Value → Bool} {j : Nat} {v : Value} (hp : p (j, v) = true) : ∀ {lv : List (Nat × Value)}, xl_get lv j = some v → xl_get (lv.filter p) j = some v := by
  intro lv
  induction lv with
  | nil => intro h; cases h
  | cons q t ih =>
    intro h
    unfold xl_get at h
    cases hb : Nat.beq q.1 j with
    | true =>
      rw [hb] at h
      cases h
      have e := Nat.eq_of_beq_eq_true hb
      have e2 : q = (j, q.2) := Prod.ext e rfl
      have hq : p q = true := by rw [e2]; exact hp
      rw [List.filter_cons_of_pos hq]
      unfold xl_get
      rw [hb]
      rfl
    | false =>
      rw [hb] at h
      cases hq : p q with
      | true =>
        rw [List.filter_cons_of_pos hq]
        unfold xl_get
        rw [hb]
        exact ih h
      | false =>
        rw [List.filter_cons_of_neg (by rw [hq]; decide)]
        exact ih h
theorem a_v_cat {σ : aN → Int} {n : Nat} {a : aV} {v : Value} (h : a_v σ n a v) (hk : Nat.beq a.1 1 = false) : v.category = 1 := by
  unfold a_v at h
  split at h
  · obtain ⟨x, rfl, _⟩ := h; rfl
  · rename_i e; rw [e] at hk; cases hk
  · obtain ⟨q, rfl, _⟩ := h; rfl
  · rcases h with rfl | ⟨q, rfl, _⟩ <;> rfl
  · obtain ⟨u, rfl⟩ := h; rfl
theorem a_set_ok {σ : aN → Int} {n : Nat} {L : List (Nat × aV)} {lv : List (Nat × Value)} {i : Nat} {a : aV} {v : Value} (hL : ∀ q ∈ L, ∃ v, xl_get lv q.1 = some v ∧ a_v σ n q.2 v) (hv : a_v σ n a v) : ∀ q ∈ a_set L i a, ∃ v', xl_get (xl_1 lv i v) q.1 = some v' ∧ a_v σ n q.2 v' := by
  intro q hq
  rcases List.mem_cons.mp hq with rfl | hq
  · refine ⟨v, ?_, hv⟩
    unfold xl_1 xl_get
    rw [Nat.beq_refl]
    rfl
  · obtain ⟨hq, hp⟩ := List.mem_filter.mp hq
    obtain ⟨w, h1, h2⟩ := hL q hq
    refine ⟨w, ?_, h2⟩
    rw [Bool.and_eq_true, Bool.not_eq_true', Bool.not_eq_true'] at hp
    unfold xl_1 xl_get
    have hb : Nat.beq i q.1 = false := by
      rw [Bool.eq_false_iff]
      intro z
      have e := Nat.eq_of_beq_eq_true z
      rw [← e, Nat.beq_refl] at hp
      cases hp.1
    rw [hb]
    refine xl_get_f ?_ h1
    have e1 : (q.1 == i) = false := by
      rw [beq_eq_false_iff_ne]
      intro e
      rw [e, Nat.beq_refl] at hp
      cases hp.1
    dsimp only
    rw [e1]
    cases hc : (q.1 + 1 == i) with
    | false => rfl
    | true =>
      have e2 : Nat.beq (q.1 + 1) i = true := by rw [beq_iff_eq] at hc; rw [hc]; exact Nat.beq_refl i
      have hk : Nat.beq q.2.1 1 = false := by
        have := hp.2
        rw [e2] at this
        exact this
      rw [a_v_cat h2 hk]
      rfl
end XAI
end
section
section XAO
def a_I (lo hi : Int) : aV := (0, lo, hi, none, [], [])
def a_top : aV := a_I (-2147483648) 2147483647
theorem a_I_ok {σ : aN → Int} {lo hi : Int} {x : Int32} (h1 : lo ≤ x.toInt) (h2 : x.toInt ≤ hi) : a_i σ (a_I lo hi) x := ⟨h1, h2, fun n c e => (by cases e), fun _ q hq => (by cases hq), fun _ q hq => (by cases hq)⟩
theorem a_top_ok {σ : aN → Int} (x : Int32) : a_i σ a_top x := a_I_ok (ar_rng x).1 (ar_rng x).2
def a_in (p : Int × Int) : Bool := decide (-2147483648 ≤ p.1) && decide (p.2 ≤ 2147483647)
theorem a_in_ok {p : Int × Int} (h : a_in p = true) : -2147483648 ≤ p.1 ∧ p.2 ≤ 2147483647 := by
  obtain ⟨h1, h2⟩ := xw_bb h
  exact ⟨of_decide_eq_true h1, of_decide_eq_true h2⟩
def a_os (o : Option (aN × Int)) (d : Int) : Option (aN × Int) := match o with
  | none => none
  | some (n, c) => some (n, c + d)
theorem a_os_ok {σ : aN → Int} {o : Option (aN × Int)} {d z : Int} (h : ∀ n c, o = some (n, c) → z = σ n + c) : ∀ n c, a_os o d = some (n, c) → z + d = σ n + c := by
  intro n c e
  cases o with
  | none => cases e
  | some q =>
    obtain ⟨m, b⟩ := q
    have h1 := h m b rfl
    cases e
    omega
def a_sum (ox oy : Option (aN × Int)) (bx bY : Int × Int) : aV := cond (a_in (bx.1 + bY.1, bx.2 + bY.2)) (0, bx.1 + bY.1, bx.2 + bY.2, cond (decide (bY.1 = bY.2)) (a_os ox bY.1) (cond (decide (bx.1 = bx.2)) (a_os oy bx.1) none), [], []) a_top
theorem a_sum_ok {σ : aN → Int} {a b : aV} {E : aF} {x y : Int32} (hE : a_f σ E) (hx : a_i σ a x) (hy : a_i σ b y) : a_i σ (a_sum a.2.2.2.1 b.2.2.2.1 (a_bd E a) (a_bd E b)) (x + y) := by
  have h1 := a_bd_ok hE hx
  have h2 := a_bd_ok hE hy
  unfold a_sum
  cases hc : a_in ((a_bd E a).1 + (a_bd E b).1, (a_bd E a).2 + (a_bd E b).2) with
  | false => exact a_top_ok _
  | true =>
    obtain ⟨c1, c2⟩ := a_in_ok hc
    dsimp only at c1 c2
    have e : (x + y).toInt = x.toInt + y.toInt := ar_add (by omega) (by omega)
    refine ⟨(by dsimp only [cond_true]; omega), (by dsimp only [cond_true]; omega), ?_, fun _ q hq => (by cases hq), fun _ q hq => (by cases hq)⟩
    dsimp only [cond_true]
    rw [e]
    cases hd : decide ((a_bd E b).1 = (a_bd E b).2) with
    | true =>
      have hd := of_decide_eq_true hd
      have ey : y.toInt = (a_bd E b).1 := by omega
      rw [ey]
      exact a_os_ok hx.2.2.1
    | false =>
      cases hd2 : decide ((a_bd E a).1 = (a_bd E a).2) with
      | true =>
        have hd2 := of_decide_eq_true hd2
        have ex : x.toInt = (a_bd E a).1 := by omega
        rw [ex, Int.add_comm]
        exact a_os_ok hy.2.2.1
      | false => intro n c z; cases z
def a_dif (ox : Option (aN × Int)) (bx bY : Int × Int) : aV := cond (a_in (bx.1 - bY.2, bx.2 - bY.1)) (0, bx.1 - bY.2, bx.2 - bY.1, cond (decide (bY.1 = bY.2)) (a_os ox (-bY.1)) none, [], []) a_top
theorem a_dif_ok {σ : aN → Int} {a b : aV} {E : aF} {x y : Int32} (hE : a_f σ E) (hx : a_i σ a x) (hy : a_i σ b y) : a_i σ (a_dif a.2.2.2.1 (a_bd E a) (a_bd E b)) (x - y) := by
  have h1 := a_bd_ok hE hx
  have h2 := a_bd_ok hE hy
  unfold a_dif
  cases hc : a_in ((a_bd E a).1 - (a_bd E b).2, (a_bd E a).2 - (a_bd E b).1) with
  | false => exact a_top_ok _
  | true =>
    obtain ⟨c1, c2⟩ := a_in_ok hc
    dsimp only at c1 c2
    have e : (x - y).toInt = x.toInt - y.toInt := ar_sub (by omega) (by omega)
    refine ⟨(by dsimp only [cond_true]; omega), (by dsimp only [cond_true]; omega), ?_, fun _ q hq => (by cases hq), fun _ q hq => (by cases hq)⟩
    dsimp only [cond_true]
    rw [e]
    cases hd : decide ((a_bd E b).1 = (a_bd E b).2) with
    | true =>
      have hd := of_decide_eq_true hd
      have ey : x.toInt - y.toInt = x.toInt + -(a_bd E b).1 := by omega
      rw [ey]
      exact a_os_ok hx.2.2.1
    | false => intro n c z; cases z
def a_prd (bx bY : Int × Int) : aV := cond (decide (0 ≤ bx.1) && (decide (0 ≤ bY.1) && decide (bx.2 * bY.2 ≤ 2147483647))) (a_I (bx.1 * bY.1) (bx.2 * bY.2)) a_top
theorem a_prd_ok {σ : aN → Int} {a b : aV} {E : aF} {x y : Int32} (hE : a_f σ E) (hx : a_i σ a x) (hy : a_i σ b y) : a_i σ (a_prd (a_bd E a) (a_bd E b)) (x * y) := by
  have h1 := a_bd_ok hE hx
  have h2 := a_bd_ok hE hy
  unfold a_prd
  cases hc : (decide (0 ≤ (a_bd E a).1) && (decide (0 ≤ (a_bd E b).1) && decide ((a_bd E a).2 * (a_bd E b).2 ≤ 2147483647))) with
  | false => exact a_top_ok _
  | true =>
    obtain ⟨c1, c2⟩ := xw_bb hc
    obtain ⟨c2, c3⟩ := xw_bb c2
    have c1 := of_decide_eq_true c1
    have c2 := of_decide_eq_true c2
    have c3 := of_decide_eq_true c3
    have m1 : (a_bd E a).1 * (a_bd E b).1 ≤ x.toInt * y.toInt := Int.mul_le_mul h1.1 h2.1 c2 (by omega)
    have m2 : x.toInt * y.toInt ≤ (a_bd E a).2 * (a_bd E b).2 := Int.mul_le_mul h1.2 h2.2 (by omega) (by omega)
    have m3 : 0 ≤ (a_bd E a).1 * (a_bd E b).1 := Int.mul_nonneg c1 c2
    have e : (x * y).toInt = x.toInt * y.toInt := ar_mul (by omega) (by omega)
    exact a_I_ok (by omega) (by omega)
def a_and (bx bY : Int × Int) : aV := cond (decide (0 ≤ bY.1)) (cond (decide (0 ≤ bx.1)) (a_I 0 (min bx.2 bY.2)) (a_I 0 bY.2)) (cond (decide (0 ≤ bx.1)) (a_I 0 bx.2) a_top)
theorem a_and_ok {σ : aN → Int} {a b : aV} {E : aF} {x y : Int32} (hE : a_f σ E) (hx : a_i σ a x) (hy : a_i σ b y) : a_i σ (a_and (a_bd E a) (a_bd E b)) (x &&& y) := by
  have h1 := a_bd_ok hE hx
  have h2 := a_bd_ok hE hy
  unfold a_and
  cases hy1 : decide (0 ≤ (a_bd E b).1) with
  | true =>
    have hy1 := of_decide_eq_true hy1
    have q1 := ar_and1 (x := x) (y := y) (by omega)
    cases hx1 : decide (0 ≤ (a_bd E a).1) with
    | true =>
      have hx1 := of_decide_eq_true hx1
      have q2 := ar_and2 (x := x) (y := y) (by omega)
      exact a_I_ok (by omega) (by omega)
    | false => exact a_I_ok (by omega) (by omega)
  | false =>
    cases hx1 : decide (0 ≤ (a_bd E a).1) with
    | true =>
      have hx1 := of_decide_eq_true hx1
      have q2 := ar_and2 (x := x) (y := y) (by omega)
      exact a_I_ok (by omega) (by omega)
    | false => exact a_top_ok _
def a_lg (z : Int) : Nat := Nat.log2 z.toNat + 1
theorem a_lg_ok {z : Int} : z < ((2 ^ a_lg z : Nat) : Int) := by
  have h : z.toNat < 2 ^ (Nat.log2 z.toNat + 1) := Nat.lt_log2_self
  unfold a_lg
  omega
def a_or (bx bY : Int × Int) : aV := cond (decide (0 ≤ bx.1) && (decide (0 ≤ bY.1) && Nat.ble (a_lg (max bx.2 bY.2)) 31)) (a_I 0 (((2 ^ a_lg (max bx.2 bY.2) : Nat) : Int) - 1)) a_top
theorem a_or_ok {σ : aN → Int} {a b : aV} {E : aF} {x y : Int32} (hE : a_f σ E) (hx : a_i σ a x) (hy : a_i σ b y) : a_i σ (a_or (a_bd E a) (a_bd E b)) (x ||| y) ∧ a_i σ (a_or (a_bd E a) (a_bd E b)) (x ^^^ y) := by
  have h1 := a_bd_ok hE hx
  have h2 := a_bd_ok hE hy
  unfold a_or
  cases hc : (decide (0 ≤ (a_bd E a).1) && (decide (0 ≤ (a_bd E b).1) && Nat.ble (a_lg (max (a_bd E a).2 (a_bd E b).2)) 31)) with
  | false => exact ⟨a_top_ok _, a_top_ok _⟩
  | true =>
    obtain ⟨c1, c2⟩ := xw_bb hc
    obtain ⟨c2, c3⟩ := xw_bb c2
    have c1 := of_decide_eq_true c1
    have c2 := of_decide_eq_true c2
    have c3 := xw_ble c3
    have l := a_lg_ok (z := max (a_bd E a).2 (a_bd E b).2)
    have q1 := ar_or (x := x) (y := y) c3 (by omega) (by omega) (by omega) (by omega)
    have q2 := ar_xor (x := x) (y := y) c3 (by omega) (by omega) (by omega) (by omega)
    exact ⟨a_I_ok (by omega) (by omega), a_I_ok (by omega) (by omega)⟩
def a_shl (bx bY : Int × Int) : aV := cond (decide (0 ≤ bx.1) && (decide (0 ≤ bY.1) && (decide (bY.2 ≤ 31) && decide (bx.2 * ((2 ^ bY.2.toNat : Nat) : Int) ≤ 2147483647)))) (a_I (bx.1 * ((2 ^ bY.1.toNat : Nat) : Int)) (bx.2 * ((2 ^ bY.2.toNat : Nat) : Int))) a_top
theorem a_nIx {y : Int32} (h1 : 0 ≤ y.toInt) : y = nI y.toInt.toNat ∧ y.toInt.toNat < 2 ^ 31 := by
  obtain ⟨j, hj, e⟩ := nI_of (x := y) (by rw [Int32.lt_iff_toInt_lt]; show ¬ y.toInt < 0; omega)
  have e2 := nI_toInt hj
  subst e
  rw [e2]
  exact ⟨rfl, hj⟩
theorem a_pw {i j : Nat} (h : i ≤ j) : ((2 ^ i : Nat) : Int) ≤ ((2 ^ j : Nat) : Int) := by
  have := Nat.pow_le_pow_right (n := 2) (by decide) h
  exact Int.ofNat_le.mpr this
theorem a_pp (i : Nat) : (1 : Int) ≤ ((2 ^ i : Nat) : Int) := by
  have : 0 < 2 ^ i := Nat.two_pow_pos i
  omega
theorem a_shl_ok {σ : aN → Int} {a b : aV} {E : aF} {x y : Int32} (hE : a_f σ E) (hx : a_i σ a x) (hy : a_i σ b y) : a_i σ (a_shl (a_bd E a) (a_bd E b)) (x <<< (y &&& 31)) := by
  have h1 := a_bd_ok hE hx
  have h2 := a_bd_ok hE hy
  unfold a_shl
  cases hc : (decide (0 ≤ (a_bd E a).1) && (decide (0 ≤ (a_bd E b).1) && (decide ((a_bd E b).2 ≤ 31) && decide ((a_bd E a).2 * ((2 ^ (a_bd E b).2.toNat : Nat) : Int) ≤ 2147483647)))) with
  | false => exact a_top_ok _
  | true =>
    obtain ⟨c1, c2⟩ := xw_bb hc
    obtain ⟨c2, c3⟩ := xw_bb c2
    obtain ⟨c3, c4⟩ := xw_bb c3
    have c1 := of_decide_eq_true c1
    have c2 := of_decide_eq_true c2
    have c3 := of_decide_eq_true c3
    have c4 := of_decide_eq_true c4
    obtain ⟨e, -⟩ := a_nIx (y := y) (by omega)
    have p1 := a_pw (i := (a_bd E b).1.toNat) (j := y.toInt.toNat) (by omega)
    have p2 := a_pw (i := y.toInt.toNat) (j := (a_bd E b).2.toNat) (by omega)
    have p0 := a_pp (a_bd E b).1.toNat
    have m1 : (a_bd E a).1 * ((2 ^ (a_bd E b).1.toNat : Nat) : Int) ≤ x.toInt * ((2 ^ y.toInt.toNat : Nat) : Int) := Int.mul_le_mul h1.1 p1 (by omega) (by omega)
    have m2 : x.toInt * ((2 ^ y.toInt.toNat : Nat) : Int) ≤ (a_bd E a).2 * ((2 ^ (a_bd E b).2.toNat : Nat) : Int) := Int.mul_le_mul h1.2 p2 (by omega) (by omega)
    have q := ar_shl (x := x) (k := y.toInt.toNat) (by omega) (by omega) (by omega)
    rw [← e] at q
    exact a_I_ok (by omega) (by omega)
def a_shr (bx bY : Int × Int) : aV := cond (decide (0 ≤ bY.1) && decide (bY.2 ≤ 31)) (cond (decide (0 ≤ bx.1)) (a_I 0 (bx.2 / ((2 ^ bY.1.toNat : Nat) : Int))) (a_I bx.1 (max bx.2 0))) a_top
theorem a_shr_ok {σ : aN → Int} {a b : aV} {E : aF} {x y : Int32} (hE : a_f σ E) (hx : a_i σ a x) (hy : a_i σ b y) : a_i σ (a_shr (a_bd E a) (a_bd E b)) (x >>> (y &&& 31)) := by
  have h1 := a_bd_ok hE hx
  have h2 := a_bd_ok hE hy
  unfold a_shr
  cases hc : (decide (0 ≤ (a_bd E b).1) && decide ((a_bd E b).2 ≤ 31)) with
  | false => exact a_top_ok _
  | true =>
    obtain ⟨c2, c3⟩ := xw_bb hc
    have c2 := of_decide_eq_true c2
    have c3 := of_decide_eq_true c3
    obtain ⟨e, -⟩ := a_nIx (y := y) (by omega)
    have q := ar_shr (x := x) (k := y.toInt.toNat) (by omega)
    rw [← e] at q
    have p0 := a_pp y.toInt.toNat
    have p1 := a_pw (i := (a_bd E b).1.toNat) (j := y.toInt.toNat) (by omega)
    have p2 := a_pp (a_bd E b).1.toNat
    cases hx1 : decide (0 ≤ (a_bd E a).1) with
    | true =>
      have hx1 := of_decide_eq_true hx1
      refine a_I_ok ?_ ?_
      · rw [q]; exact Int.ediv_nonneg (by omega) (by omega)
      · rw [q]
        refine Int.le_trans (b := x.toInt / ((2 ^ (a_bd E b).1.toNat : Nat) : Int)) ?_ (Int.ediv_le_ediv (by omega) h1.2)
        exact Int.le_ediv_of_mul_le (by omega) (Int.le_trans (Int.mul_le_mul_of_nonneg_left p1 (Int.ediv_nonneg (by omega) (by omega))) (Int.ediv_mul_le _ (by omega)))
    | false =>
      refine a_I_ok ?_ ?_
      · rw [q]
        by_cases hn : 0 ≤ x.toInt
        · have : 0 ≤ x.toInt / ((2 ^ y.toInt.toNat : Nat) : Int) := Int.ediv_nonneg hn (by omega)
          have hf := of_decide_eq_false hx1
          omega
        · refine Int.le_trans h1.1 (Int.le_ediv_of_mul_le (by omega) ?_)
          have : x.toInt * ((2 ^ y.toInt.toNat : Nat) : Int) ≤ x.toInt * 1 := Int.mul_le_mul_of_nonpos_left (by omega) p0
          omega
      · rw [q]
        by_cases hn : 0 ≤ x.toInt
        · have : x.toInt / ((2 ^ y.toInt.toNat : Nat) : Int) ≤ x.toInt := Int.ediv_le_self _ hn
          omega
        · have : x.toInt / ((2 ^ y.toInt.toNat : Nat) : Int) < 0 := Int.ediv_neg_of_neg_of_pos (by omega) (by omega)
          omega
end XAO
end
section
section XAS
theorem a_e_congr {h h' : xh_H} {c k : Nat} {e : Nat × Int × Int} (h1 : h'.1 = h.1) (h2 : xg 0 h'.2.1 c k = xg 0 h.2.1 c k) (h3 : h'.2.2 = h.2.2) (he : a_e h c k e) : a_e h' c k e := by
  unfold a_e at he ⊢
  rw [h1, h2, h3]
  exact he
/-- an int is written -/
theorem a_inv_ui {tb : aT} {h : xh_H} {c k : Nat} {x : Int32} {s : Nat × Nat} {lo hi : Int} (hi0 : a_inv tb h) (hs : h.1[c]? = some s) (he : a_ent tb s (a_tg c) k = (0, lo, hi)) (h1 : lo ≤ x.toInt) (h2 : x.toInt ≤ hi) : a_inv tb (xh_ui h c k x) := by
  intro c' s' hc'
  have hc2 : h.1[c']? = some s' := hc'
  obtain ⟨g1, g2⟩ := hi0 c' s' hc2
  refine ⟨g1, fun k' hk' => ?_⟩
  by_cases e : c' = c ∧ k' = k
  · obtain ⟨rfl, rfl⟩ := e
    rw [hs] at hc2
    cases hc2
    rw [he]
    show lo ≤ (xg 0 (xh_up 0 h.2.1 c' k' x) c' k').toInt ∧ (xg 0 (xh_up 0 h.2.1 c' k' x) c' k').toInt ≤ hi
    rw [xh_up_s]
    exact ⟨h1, h2⟩
  · refine a_e_congr (h := h) rfl ?_ rfl (g2 k' hk')
    show xg 0 (xh_up 0 h.2.1 c k x) c' k' = xg 0 h.2.1 c' k'
    by_cases e1 : c' = c
    · subst e1
      exact xh_up_k (fun z => e ⟨rfl, z⟩)
    · rw [xh_up_o e1]
def a_pi (S : List aV) : Option (aV × List aV) := match S with
  | a :: q => cond (Nat.beq a.1 0) (some (a, q)) none
  | [] => none
theorem a_pi_ok {σ : aN → Int} {n : Nat} {S : List aV} {st : List Value} {a : aV} {q : List aV} (h : a_st σ n S st) (he : a_pi S = some (a, q)) : ∃ x V, st = .int x :: V ∧ a_i σ a x ∧ a_st σ n q V ∧ a.1 = 0 := by
  unfold a_pi at he
  match S, st, h, he with
  | b :: S, v :: V, h, he =>
    obtain ⟨h1, h2⟩ := xw_c he
    cases h2
    have h1 := xw_beq h1
    obtain ⟨g1, g2⟩ := h
    unfold a_v at g1
    rw [h1] at g1
    obtain ⟨x, rfl, g1⟩ := g1
    exact ⟨x, V, rfl, g1, g2, h1⟩
def a_pr (S : List aV) : Option (Nat × List aV) := match S with
  | a :: q => cond (Nat.beq a.1 2) (some (a.2.1.toNat, q)) none
  | [] => none
theorem a_pr_ok {σ : aN → Int} {n : Nat} {S : List aV} {st : List Value} {t : Nat} {q : List aV} (h : a_st σ n S st) (he : a_pr S = some (t, q)) : ∃ b V, st = .ref b :: V ∧ a_r n t b ∧ a_st σ n q V := by
  unfold a_pr at he
  match S, st, h, he with
  | a :: S, v :: V, h, he =>
    obtain ⟨h1, h2⟩ := xw_c he
    cases h2
    have h1 := xw_beq h1
    obtain ⟨g1, g2⟩ := h
    unfold a_v at g1
    rw [h1] at g1
    obtain ⟨b, rfl, g1⟩ := g1
    exact ⟨b, V, rfl, g1, g2⟩
theorem a_vi {σ : aN → Int} {n : Nat} {a : aV} {x : Int32} (hk : a.1 = 0) (h : a_i σ a x) : a_v σ n a (.int x) := by
  unfold a_v
  rw [hk]
  exact ⟨x, rfl, h⟩
def a_kk (k kind : Nat) : Bool := match k with
  | 0 => Nat.beq kind 0
  | 1 => Nat.beq kind 1
  | _ => Nat.ble 2 kind
theorem a_kk_ok {σ : aN → Int} {n k : Nat} {a : aV} {v : Value} (hk : k ≤ 2) (h : a_v σ n a v) (he : a_kk k a.1 = true) : xv_k k v = true := by
  unfold a_v at h
  match k, hk, he with
  | 0, _, he =>
    have he := xw_beq he
    rw [he] at h
    obtain ⟨x, rfl, _⟩ := h
    rfl
  | 1, _, he =>
    have he := xw_beq he
    rw [he] at h
    obtain ⟨x, rfl, _⟩ := h
    rfl
  | 2, _, he =>
    have he := xw_ble he
    split at h
    · omega
    · omega
    · obtain ⟨q, rfl, _⟩ := h; rfl
    · rcases h with rfl | ⟨q, rfl, _⟩ <;> rfl
    · obtain ⟨u, rfl⟩ := h; rfl
def a_ld (k i len : Nat) (A : aS) : Option (Nat × aS) := match a_lk A.1 i with
  | some a => cond (a_kk k a.1) (some (len, A.1, a :: A.2.1, A.2.2)) none
  | none => none
def a_sv (k i len nL : Nat) (A : aS) : Option (Nat × aS) := match A.2.1 with
  | a :: q => cond (a_kk k a.1 && (Nat.ble (i + 1) nL && !(Nat.beq a.1 1))) (some (len, a_set A.1 i a, q, A.2.2)) none
  | [] => none
variable {tb : aT} {σ : aN → Int} {h0 : xh_H} {md : List (Nat × Nat)} {A A' : aS} {lv : List (Nat × Value)} {st : List Value} {h : xh_H} {nL d pc n : Nat}
theorem a_ld_ok {k i len : Nat} (hk : k ≤ 2) (hs : a_s tb σ h0 md A lv st h) (he : a_ld k i len A = some (n, A')) : ∃ lv' st' h', xe_ld k i len pc lv st h 0 0 = some (pc + n, lv', st', h', 0, 0) ∧ a_s tb σ h0 md A' lv' st' h' := by
  obtain ⟨i1, i2, i3, i4, i5, i6, i7⟩ := hs
  unfold a_ld at he
  split at he
  · rename_i a ha
    obtain ⟨h1, h2⟩ := xw_c he
    cases h2
    obtain ⟨v, g1, g2⟩ := i3 _ (a_lk_mem ha)
    refine ⟨lv, v :: st, h, ?_, i1, i2, i3, ⟨g2, i4⟩, i5, i6, i7⟩
    unfold xe_ld
    rw [g1]
    dsimp only
    rw [a_kk_ok hk g2 h1]
    rfl
  · cases he
theorem a_sv_ok {k i len : Nat} (hk : k ≤ 2) (hs : a_s tb σ h0 md A lv st h) (he : a_sv k i len nL A = some (n, A')) : ∃ lv' st' h', xe_st1 k i len pc nL lv st h 0 0 = some (pc + n, lv', st', h', 0, 0) ∧ a_s tb σ h0 md A' lv' st' h' := by
  obtain ⟨i1, i2, i3, i4, i5, i6, i7⟩ := hs
  unfold a_sv at he
  split at he
  · rename_i a q ha
    obtain ⟨h1, h2⟩ := xw_c he
    cases h2
    obtain ⟨h1, h3⟩ := xw_bb h1
    obtain ⟨h3, h4⟩ := xw_bb h3
    rw [ha] at i4
    match st, i4 with
    | v :: V, i4 =>
      refine ⟨xl_1 lv i v, V, h, ?_, i1, i2, a_set_ok i3 i4.1, i4.2, i5, i6, i7⟩
      unfold xe_st1
      dsimp only
      rw [a_kk_ok hk i4.1 h1, h3]
      rfl
  · cases he
/-- a field's or an element's bounds, as a value -/
def a_tv (e : Nat × Int × Int) : Option aV := match e.1 with
  | 0 => some (a_I e.2.1 e.2.2)
  | 1 => some (1, e.2.1, e.2.2, none, [], [])
  | 2 => some (2, e.2.1, 0, none, [], [])
  | 3 => some (3, e.2.1, 0, none, [], [])
  | _ => none
/-- which kind of entry a type wants -/
def a_ty (ty : FieldType) (k : Nat) : Bool := match ty with
  | .int => Nat.beq k 0
  | .boolean => Nat.beq k 0
  | .long => Nat.beq k 1
  | .object _ => Nat.ble 2 k
  | .array _ => Nat.ble 2 k
  | _ => false
theorem a_tv_ok {c k : Nat} {e : Nat × Int × Int} {a : aV} {ty : FieldType} (he : a_e h c k e) (hv : a_tv e = some a) (ht : a_ty ty e.1 = true) : a_v σ h.1.length a (xh_get h c ty k) := by
  obtain ⟨ek, lo, hi⟩ := e
  unfold a_tv at hv
  unfold a_e at he
  dsimp only at hv he ht
  have hn : ∀ (hk : 2 ≤ ek), xh_get h c ty k = va_rf (xg none h.2.2.2 c k) := by
    intro hk
    cases ty <;> first | rfl | (simp [a_ty] at ht; done) | (have := xw_beq ht; omega)
  match ek, hv, he, ht, hn with
  | 0, hv, he, ht, _ =>
    cases hv
    have e2 : xh_get h c ty k = .int (xg 0 h.2.1 c k) := by cases ty <;> first | rfl | (cases ht; done)
    rw [e2]
    exact ⟨_, rfl, a_I_ok he.1 he.2⟩
  | 1, hv, he, ht, _ =>
    cases hv
    have e2 : xh_get h c ty k = .long (xg 0 h.2.2.1 c k) := by cases ty <;> first | rfl | (cases ht; done)
    rw [e2]
    exact ⟨_, rfl, he.1, he.2⟩
  | 2, hv, he, ht, hn =>
    cases hv
    rw [hn (by omega)]
    obtain ⟨q, e1, e2⟩ := he
    rw [e1]
    exact ⟨q, rfl, e2⟩
  | 3, hv, he, ht, hn =>
    cases hv
    rw [hn (by omega)]
    cases e1 : xg none h.2.2.2 c k with
    | none => exact Or.inl rfl
    | some q => exact Or.inr ⟨q, rfl, he q e1⟩
  | k + 4, hv, _, _, _ => cases hv
def a_gf (tb : aT) (F : List (aN × aV)) (t ci k : Nat) : Option aV := cond (decide (a_sh[t]? = some (0, ci)) && (Nat.blt k (xh_N ci) && a_ty (xh_ty ci k) (a_ent tb (0, ci) t k).1))
  (match a_kf F (t, k) with
    | some a => cond (Nat.beq (a_ent tb (0, ci) t k).1 0 && Nat.beq a.1 0) (some a) none
    | none => a_tv (a_ent tb (0, ci) t k)) none
theorem a_sh_at {t b : Nat} {s : Nat × Nat} (hi : a_inv tb h) (hb : a_r h.1.length t b) (hs : a_sh[t]? = some s) : h.1[b]? = some s := by
  obtain ⟨h1, h2⟩ := hb
  have e : h.1[b]? = some h.1[b] := List.getElem?_eq_getElem h1
  have := (hi b _ e).1
  rw [h2, hs] at this
  cases this
  exact e
theorem a_gf_ok {F : List (aN × aV)} {t ci k b : Nat} {a : aV} (hi : a_inv tb h) (hF : ∀ q ∈ F, a_ob q.1.1 = true ∧ a_v σ h.1.length q.2 (.int (xg 0 h.2.1 q.1.1 q.1.2))) (hb : a_r h.1.length t b) (he : a_gf tb F t ci k = some a) : h.1[b]? = some (0, ci) ∧ a_v σ h.1.length a (xh_get h b (xh_ty ci k) k) := by
  unfold a_gf at he
  obtain ⟨h1, h2⟩ := xw_c he
  obtain ⟨h1, h3⟩ := xw_bb h1
  obtain ⟨h3, h4⟩ := xw_bb h3
  have h1 := of_decide_eq_true h1
  have h3 := Nat.blt_eq.mp h3
  have hsh := a_sh_at hi hb h1
  refine ⟨hsh, ?_⟩
  have g := (hi b _ hsh).2 k h3
  rw [hb.2] at g
  split at h2
  · rename_i a' ha
    obtain ⟨h5, h6⟩ := xw_c h2
    cases h6
    obtain ⟨h5, h6⟩ := xw_bb h5
    have h5 := xw_beq h5
    obtain ⟨o1, o2⟩ := hF _ (a_kf_mem ha)
    have eb := a_r_ob o1 hb
    subst eb
    rw [h5] at h4
    have e2 : xh_get h b (xh_ty ci k) k = .int (xg 0 h.2.1 b k) := by
      revert h4
      cases xh_ty ci k <;> intro h4 <;> first | rfl | (cases h4; done)
    rw [e2]
    exact o2
  · exact a_tv_ok g h2 h4
end XAS
end
