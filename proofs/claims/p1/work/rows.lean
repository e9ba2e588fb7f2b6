section
-- ===== PART A: goes FIRST, ahead of the names: the tables' words, and 'selects' of the private methods out of them =====
/-- a private method of a class that the tables say can be made, by its rows of tables_1 -/
def lw_okq (q : MethodName × Nat) : Prop := (q.1.cls ≠ "java/lang/invoke/MethodHandle" ∧ q.1.cls ≠ "java/lang/invoke/VarHandle") ∧ Cond.instantiable q.1.cls q.2 ∈ tables_1 ∧ Cond.privateMethod q.1 ∈ tables_1 ∧ Cond.instanceMethod q.1 ∈ tables_1
theorem lw_p0 : lw_okq (⟨"ClassGate$Reader", "takes", "(I)Z"⟩, 5) := ⟨⟨by decide +kernel, by decide +kernel⟩, List.mem_of_getElem? (i := 229) (by decide +kernel), List.mem_of_getElem? (i := 255) (by decide +kernel), List.mem_of_getElem? (i := 256) (by decide +kernel)⟩
theorem lw_p1 : lw_okq (⟨"ClassGate$Reader", "takesEntry", "(I)Z"⟩, 5) := ⟨⟨by decide +kernel, by decide +kernel⟩, List.mem_of_getElem? (i := 229) (by decide +kernel), List.mem_of_getElem? (i := 286) (by decide +kernel), List.mem_of_getElem? (i := 287) (by decide +kernel)⟩
theorem lw_p2 : lw_okq (⟨"ClassGate$Reader", "isTag", "(I)Z"⟩, 5) := ⟨⟨by decide +kernel, by decide +kernel⟩, List.mem_of_getElem? (i := 229) (by decide +kernel), List.mem_of_getElem? (i := 290) (by decide +kernel), List.mem_of_getElem? (i := 291) (by decide +kernel)⟩
theorem lw_p3 : lw_okq (⟨"ClassGate$Reader", "takesText", "(I)Z"⟩, 5) := ⟨⟨by decide +kernel, by decide +kernel⟩, List.mem_of_getElem? (i := 229) (by decide +kernel), List.mem_of_getElem? (i := 298) (by decide +kernel), List.mem_of_getElem? (i := 299) (by decide +kernel)⟩
theorem lw_p4 : lw_okq (⟨"ClassGate$Reader", "characterSize", "(I)I"⟩, 5) := ⟨⟨by decide +kernel, by decide +kernel⟩, List.mem_of_getElem? (i := 229) (by decide +kernel), List.mem_of_getElem? (i := 302) (by decide +kernel), List.mem_of_getElem? (i := 303) (by decide +kernel)⟩
theorem lw_p5 : lw_okq (⟨"ClassGate$Reader", "characterOf", "(I)I"⟩, 5) := ⟨⟨by decide +kernel, by decide +kernel⟩, List.mem_of_getElem? (i := 229) (by decide +kernel), List.mem_of_getElem? (i := 310) (by decide +kernel), List.mem_of_getElem? (i := 311) (by decide +kernel)⟩
theorem lw_p6 : lw_okq (⟨"ClassGate$Reader", "takesIndexes", "(II)Z"⟩, 5) := ⟨⟨by decide +kernel, by decide +kernel⟩, List.mem_of_getElem? (i := 229) (by decide +kernel), List.mem_of_getElem? (i := 322) (by decide +kernel), List.mem_of_getElem? (i := 323) (by decide +kernel)⟩
theorem lw_p7 : lw_okq (⟨"ClassGate$Reader", "roomFor", "(I)I"⟩, 5) := ⟨⟨by decide +kernel, by decide +kernel⟩, List.mem_of_getElem? (i := 229) (by decide +kernel), List.mem_of_getElem? (i := 342) (by decide +kernel), List.mem_of_getElem? (i := 343) (by decide +kernel)⟩
theorem lw_p8 : lw_okq (⟨"ClassGate$Reader", "takesMembers", "([LClassGate$Member;I)Z"⟩, 5) := ⟨⟨by decide +kernel, by decide +kernel⟩, List.mem_of_getElem? (i := 229) (by decide +kernel), List.mem_of_getElem? (i := 349) (by decide +kernel), List.mem_of_getElem? (i := 350) (by decide +kernel)⟩
theorem lw_p9 : lw_okq (⟨"ClassGate$Reader", "takesAttributes", "()Z"⟩, 5) := ⟨⟨by decide +kernel, by decide +kernel⟩, List.mem_of_getElem? (i := 229) (by decide +kernel), List.mem_of_getElem? (i := 353) (by decide +kernel), List.mem_of_getElem? (i := 354) (by decide +kernel)⟩
theorem lw_p10 : lw_okq (⟨"ClassGate$Pool", "shapeOf", "(II)I"⟩, 8) := ⟨⟨by decide +kernel, by decide +kernel⟩, List.mem_of_getElem? (i := 75) (by decide +kernel), List.mem_of_getElem? (i := 429) (by decide +kernel), List.mem_of_getElem? (i := 430) (by decide +kernel)⟩
theorem lw_p11 : lw_okq (⟨"ClassGate$Pool", "methodShape", "(II)I"⟩, 8) := ⟨⟨by decide +kernel, by decide +kernel⟩, List.mem_of_getElem? (i := 75) (by decide +kernel), List.mem_of_getElem? (i := 433) (by decide +kernel), List.mem_of_getElem? (i := 434) (by decide +kernel)⟩
theorem lw_p12 : lw_okq (⟨"ClassGate$Pool", "typeEnd", "(II)I"⟩, 8) := ⟨⟨by decide +kernel, by decide +kernel⟩, List.mem_of_getElem? (i := 75) (by decide +kernel), List.mem_of_getElem? (i := 440) (by decide +kernel), List.mem_of_getElem? (i := 441) (by decide +kernel)⟩
theorem lw_p13 : lw_okq (⟨"ClassGate$Pool", "nameEnd", "(II)I"⟩, 8) := ⟨⟨by decide +kernel, by decide +kernel⟩, List.mem_of_getElem? (i := 75) (by decide +kernel), List.mem_of_getElem? (i := 444) (by decide +kernel), List.mem_of_getElem? (i := 445) (by decide +kernel)⟩
theorem lw_p14 : lw_okq (⟨"ClassGate$PoolCheck", "linksHold", "(I)Z"⟩, 3) := ⟨⟨by decide +kernel, by decide +kernel⟩, List.mem_of_getElem? (i := 448) (by decide +kernel), List.mem_of_getElem? (i := 512) (by decide +kernel), List.mem_of_getElem? (i := 513) (by decide +kernel)⟩
theorem lw_p15 : lw_okq (⟨"ClassGate$PoolCheck", "pairHolds", "(I)Z"⟩, 3) := ⟨⟨by decide +kernel, by decide +kernel⟩, List.mem_of_getElem? (i := 448) (by decide +kernel), List.mem_of_getElem? (i := 521) (by decide +kernel), List.mem_of_getElem? (i := 522) (by decide +kernel)⟩
def lw_privs_1 : List (MethodName × Nat) := [(⟨"ClassGate$Reader", "takes", "(I)Z"⟩, 5), (⟨"ClassGate$Reader", "takesEntry", "(I)Z"⟩, 5), (⟨"ClassGate$Reader", "isTag", "(I)Z"⟩, 5), (⟨"ClassGate$Reader", "takesText", "(I)Z"⟩, 5), (⟨"ClassGate$Reader", "characterSize", "(I)I"⟩, 5), (⟨"ClassGate$Reader", "characterOf", "(I)I"⟩, 5), (⟨"ClassGate$Reader", "takesIndexes", "(II)Z"⟩, 5), (⟨"ClassGate$Reader", "roomFor", "(I)I"⟩, 5), (⟨"ClassGate$Reader", "takesMembers", "([LClassGate$Member;I)Z"⟩, 5), (⟨"ClassGate$Reader", "takesAttributes", "()Z"⟩, 5), (⟨"ClassGate$Pool", "shapeOf", "(II)I"⟩, 8), (⟨"ClassGate$Pool", "methodShape", "(II)I"⟩, 8), (⟨"ClassGate$Pool", "typeEnd", "(II)I"⟩, 8), (⟨"ClassGate$Pool", "nameEnd", "(II)I"⟩, 8), (⟨"ClassGate$PoolCheck", "linksHold", "(I)Z"⟩, 3), (⟨"ClassGate$PoolCheck", "pairHolds", "(I)Z"⟩, 3)]
theorem lw_r1 : ∀ q ∈ lw_privs_1, lw_okq q := List.forall_mem_cons.mpr ⟨lw_p0, List.forall_mem_cons.mpr ⟨lw_p1, List.forall_mem_cons.mpr ⟨lw_p2, List.forall_mem_cons.mpr ⟨lw_p3, List.forall_mem_cons.mpr ⟨lw_p4, List.forall_mem_cons.mpr ⟨lw_p5, List.forall_mem_cons.mpr ⟨lw_p6, List.forall_mem_cons.mpr ⟨lw_p7, List.forall_mem_cons.mpr ⟨lw_p8, List.forall_mem_cons.mpr ⟨lw_p9, List.forall_mem_cons.mpr ⟨lw_p10, List.forall_mem_cons.mpr ⟨lw_p11, List.forall_mem_cons.mpr ⟨lw_p12, List.forall_mem_cons.mpr ⟨lw_p13, List.forall_mem_cons.mpr ⟨lw_p14, List.forall_mem_cons.mpr ⟨lw_p15, fun _ h => absurd h List.not_mem_nil⟩⟩⟩⟩⟩⟩⟩⟩⟩⟩⟩⟩⟩⟩⟩⟩
theorem lw_p16 : lw_okq (⟨"ClassGate$PoolCheck", "memberHolds", "(I)Z"⟩, 3) := ⟨⟨by decide +kernel, by decide +kernel⟩, List.mem_of_getElem? (i := 448) (by decide +kernel), List.mem_of_getElem? (i := 529) (by decide +kernel), List.mem_of_getElem? (i := 530) (by decide +kernel)⟩
theorem lw_p17 : lw_okq (⟨"ClassGate$PoolCheck", "isMember", "(I)Z"⟩, 3) := ⟨⟨by decide +kernel, by decide +kernel⟩, List.mem_of_getElem? (i := 448) (by decide +kernel), List.mem_of_getElem? (i := 533) (by decide +kernel), List.mem_of_getElem? (i := 534) (by decide +kernel)⟩
theorem lw_p18 : lw_okq (⟨"ClassGate$PoolCheck", "brokenRule", "(I)I"⟩, 3) := ⟨⟨by decide +kernel, by decide +kernel⟩, List.mem_of_getElem? (i := 448) (by decide +kernel), List.mem_of_getElem? (i := 537) (by decide +kernel), List.mem_of_getElem? (i := 538) (by decide +kernel)⟩
theorem lw_p19 : lw_okq (⟨"ClassGate$PoolCheck", "isNameWithType", "(I)Z"⟩, 3) := ⟨⟨by decide +kernel, by decide +kernel⟩, List.mem_of_getElem? (i := 448) (by decide +kernel), List.mem_of_getElem? (i := 557) (by decide +kernel), List.mem_of_getElem? (i := 558) (by decide +kernel)⟩
theorem lw_p20 : lw_okq (⟨"ClassGate$PoolCheck", "isMethodRef", "(I)Z"⟩, 3) := ⟨⟨by decide +kernel, by decide +kernel⟩, List.mem_of_getElem? (i := 448) (by decide +kernel), List.mem_of_getElem? (i := 575) (by decide +kernel), List.mem_of_getElem? (i := 576) (by decide +kernel)⟩
theorem lw_p21 : lw_okq (⟨"ClassGate$PoolCheck", "isHandle", "(II)Z"⟩, 3) := ⟨⟨by decide +kernel, by decide +kernel⟩, List.mem_of_getElem? (i := 448) (by decide +kernel), List.mem_of_getElem? (i := 651) (by decide +kernel), List.mem_of_getElem? (i := 652) (by decide +kernel)⟩
theorem lw_p22 : lw_okq (⟨"ClassGate$ClassCheck", "fieldHolds", "(LClassGate$Member;I)Z"⟩, 5) := ⟨⟨by decide +kernel, by decide +kernel⟩, List.mem_of_getElem? (i := 486) (by decide +kernel), List.mem_of_getElem? (i := 697) (by decide +kernel), List.mem_of_getElem? (i := 698) (by decide +kernel)⟩
theorem lw_p23 : lw_okq (⟨"ClassGate$ClassCheck", "fieldFlagsHold", "(I)Z"⟩, 5) := ⟨⟨by decide +kernel, by decide +kernel⟩, List.mem_of_getElem? (i := 486) (by decide +kernel), List.mem_of_getElem? (i := 701) (by decide +kernel), List.mem_of_getElem? (i := 702) (by decide +kernel)⟩
theorem lw_p24 : lw_okq (⟨"ClassGate$AttributeCheck", "isNew", "(II)Z"⟩, 5) := ⟨⟨by decide +kernel, by decide +kernel⟩, List.mem_of_getElem? (i := 464) (by decide +kernel), List.mem_of_getElem? (i := 728) (by decide +kernel), List.mem_of_getElem? (i := 729) (by decide +kernel)⟩
theorem lw_p25 : lw_okq (⟨"ClassGate$AttributeCheck", "hasSeen", "(I)Z"⟩, 5) := ⟨⟨by decide +kernel, by decide +kernel⟩, List.mem_of_getElem? (i := 464) (by decide +kernel), List.mem_of_getElem? (i := 734) (by decide +kernel), List.mem_of_getElem? (i := 735) (by decide +kernel)⟩
theorem lw_p26 : lw_okq (⟨"ClassGate$AttributeCheck", "behind", "(I)I"⟩, 5) := ⟨⟨by decide +kernel, by decide +kernel⟩, List.mem_of_getElem? (i := 464) (by decide +kernel), List.mem_of_getElem? (i := 738) (by decide +kernel), List.mem_of_getElem? (i := 739) (by decide +kernel)⟩
theorem lw_p27 : lw_okq (⟨"ClassGate$AttributeCheck", "formEnd", "(III)I"⟩, 5) := ⟨⟨by decide +kernel, by decide +kernel⟩, List.mem_of_getElem? (i := 464) (by decide +kernel), List.mem_of_getElem? (i := 743) (by decide +kernel), List.mem_of_getElem? (i := 744) (by decide +kernel)⟩
theorem lw_p28 : lw_okq (⟨"ClassGate$AttributeCheck", "bootstrapsEnd", "(II)I"⟩, 5) := ⟨⟨by decide +kernel, by decide +kernel⟩, List.mem_of_getElem? (i := 464) (by decide +kernel), List.mem_of_getElem? (i := 747) (by decide +kernel), List.mem_of_getElem? (i := 748) (by decide +kernel)⟩
theorem lw_p29 : lw_okq (⟨"ClassGate$AttributeCheck", "recordEnd", "(II)I"⟩, 5) := ⟨⟨by decide +kernel, by decide +kernel⟩, List.mem_of_getElem? (i := 464) (by decide +kernel), List.mem_of_getElem? (i := 751) (by decide +kernel), List.mem_of_getElem? (i := 752) (by decide +kernel)⟩
theorem lw_p30 : lw_okq (⟨"ClassGate$AttributeCheck", "codeEnd", "(II)I"⟩, 5) := ⟨⟨by decide +kernel, by decide +kernel⟩, List.mem_of_getElem? (i := 464) (by decide +kernel), List.mem_of_getElem? (i := 760) (by decide +kernel), List.mem_of_getElem? (i := 761) (by decide +kernel)⟩
theorem lw_p31 : lw_okq (⟨"ClassGate$AttributeCheck", "constantTag", "(I)I"⟩, 5) := ⟨⟨by decide +kernel, by decide +kernel⟩, List.mem_of_getElem? (i := 464) (by decide +kernel), List.mem_of_getElem? (i := 768) (by decide +kernel), List.mem_of_getElem? (i := 769) (by decide +kernel)⟩
def lw_privs_2 : List (MethodName × Nat) := [(⟨"ClassGate$PoolCheck", "memberHolds", "(I)Z"⟩, 3), (⟨"ClassGate$PoolCheck", "isMember", "(I)Z"⟩, 3), (⟨"ClassGate$PoolCheck", "brokenRule", "(I)I"⟩, 3), (⟨"ClassGate$PoolCheck", "isNameWithType", "(I)Z"⟩, 3), (⟨"ClassGate$PoolCheck", "isMethodRef", "(I)Z"⟩, 3), (⟨"ClassGate$PoolCheck", "isHandle", "(II)Z"⟩, 3), (⟨"ClassGate$ClassCheck", "fieldHolds", "(LClassGate$Member;I)Z"⟩, 5), (⟨"ClassGate$ClassCheck", "fieldFlagsHold", "(I)Z"⟩, 5), (⟨"ClassGate$AttributeCheck", "isNew", "(II)Z"⟩, 5), (⟨"ClassGate$AttributeCheck", "hasSeen", "(I)Z"⟩, 5), (⟨"ClassGate$AttributeCheck", "behind", "(I)I"⟩, 5), (⟨"ClassGate$AttributeCheck", "formEnd", "(III)I"⟩, 5), (⟨"ClassGate$AttributeCheck", "bootstrapsEnd", "(II)I"⟩, 5), (⟨"ClassGate$AttributeCheck", "recordEnd", "(II)I"⟩, 5), (⟨"ClassGate$AttributeCheck", "codeEnd", "(II)I"⟩, 5), (⟨"ClassGate$AttributeCheck", "constantTag", "(I)I"⟩, 5)]
theorem lw_r2 : ∀ q ∈ lw_privs_2, lw_okq q := List.forall_mem_cons.mpr ⟨lw_p16, List.forall_mem_cons.mpr ⟨lw_p17, List.forall_mem_cons.mpr ⟨lw_p18, List.forall_mem_cons.mpr ⟨lw_p19, List.forall_mem_cons.mpr ⟨lw_p20, List.forall_mem_cons.mpr ⟨lw_p21, List.forall_mem_cons.mpr ⟨lw_p22, List.forall_mem_cons.mpr ⟨lw_p23, List.forall_mem_cons.mpr ⟨lw_p24, List.forall_mem_cons.mpr ⟨lw_p25, List.forall_mem_cons.mpr ⟨lw_p26, List.forall_mem_cons.mpr ⟨lw_p27, List.forall_mem_cons.mpr ⟨lw_p28, List.forall_mem_cons.mpr ⟨lw_p29, List.forall_mem_cons.mpr ⟨lw_p30, List.forall_mem_cons.mpr ⟨lw_p31, fun _ h => absurd h List.not_mem_nil⟩⟩⟩⟩⟩⟩⟩⟩⟩⟩⟩⟩⟩⟩⟩⟩
theorem lw_p32 : lw_okq (⟨"ClassGate$ClassCheck", "methodHolds", "(LClassGate$Member;I)Z"⟩, 5) := ⟨⟨by decide +kernel, by decide +kernel⟩, List.mem_of_getElem? (i := 486) (by decide +kernel), List.mem_of_getElem? (i := 780) (by decide +kernel), List.mem_of_getElem? (i := 781) (by decide +kernel)⟩
theorem lw_p33 : lw_okq (⟨"ClassGate$ClassCheck", "methodNameHolds", "(I)Z"⟩, 5) := ⟨⟨by decide +kernel, by decide +kernel⟩, List.mem_of_getElem? (i := 486) (by decide +kernel), List.mem_of_getElem? (i := 784) (by decide +kernel), List.mem_of_getElem? (i := 785) (by decide +kernel)⟩
theorem lw_p34 : lw_okq (⟨"ClassGate$ClassCheck", "methodFlagsHold", "(LClassGate$Member;)Z"⟩, 5) := ⟨⟨by decide +kernel, by decide +kernel⟩, List.mem_of_getElem? (i := 486) (by decide +kernel), List.mem_of_getElem? (i := 791) (by decide +kernel), List.mem_of_getElem? (i := 792) (by decide +kernel)⟩
theorem lw_p35 : lw_okq (⟨"ClassGate$ClassCheck", "abstractHolds", "(LClassGate$Member;)Z"⟩, 5) := ⟨⟨by decide +kernel, by decide +kernel⟩, List.mem_of_getElem? (i := 486) (by decide +kernel), List.mem_of_getElem? (i := 796) (by decide +kernel), List.mem_of_getElem? (i := 797) (by decide +kernel)⟩
theorem lw_p36 : lw_okq (⟨"ClassGate$ClassCheck", "interfaceMethodHolds", "(LClassGate$Member;)Z"⟩, 5) := ⟨⟨by decide +kernel, by decide +kernel⟩, List.mem_of_getElem? (i := 486) (by decide +kernel), List.mem_of_getElem? (i := 800) (by decide +kernel), List.mem_of_getElem? (i := 801) (by decide +kernel)⟩
theorem lw_p37 : lw_okq (⟨"ClassGate$ClassCheck", "methodDescriptorHolds", "(LClassGate$Member;)Z"⟩, 5) := ⟨⟨by decide +kernel, by decide +kernel⟩, List.mem_of_getElem? (i := 486) (by decide +kernel), List.mem_of_getElem? (i := 808) (by decide +kernel), List.mem_of_getElem? (i := 809) (by decide +kernel)⟩
theorem lw_p38 : lw_okq (⟨"ClassGate$AttributeCheck", "methodKind", "(I)I"⟩, 5) := ⟨⟨by decide +kernel, by decide +kernel⟩, List.mem_of_getElem? (i := 464) (by decide +kernel), List.mem_of_getElem? (i := 818) (by decide +kernel), List.mem_of_getElem? (i := 819) (by decide +kernel)⟩
theorem lw_p39 : lw_okq (⟨"ClassGate$AttributeCheck", "codeHolds", "(LClassGate$Member;I)Z"⟩, 5) := ⟨⟨by decide +kernel, by decide +kernel⟩, List.mem_of_getElem? (i := 464) (by decide +kernel), List.mem_of_getElem? (i := 824) (by decide +kernel), List.mem_of_getElem? (i := 825) (by decide +kernel)⟩
theorem lw_p40 : lw_okq (⟨"ClassGate$AttributeCheck", "rowHolds", "(LClassGate$Code;I)Z"⟩, 5) := ⟨⟨by decide +kernel, by decide +kernel⟩, List.mem_of_getElem? (i := 464) (by decide +kernel), List.mem_of_getElem? (i := 930) (by decide +kernel), List.mem_of_getElem? (i := 931) (by decide +kernel)⟩
theorem lw_p41 : lw_okq (⟨"ClassGate$AttributeCheck", "codeAttributesHold", "(I)Z"⟩, 5) := ⟨⟨by decide +kernel, by decide +kernel⟩, List.mem_of_getElem? (i := 464) (by decide +kernel), List.mem_of_getElem? (i := 934) (by decide +kernel), List.mem_of_getElem? (i := 935) (by decide +kernel)⟩
theorem lw_p42 : lw_okq (⟨"ClassGate$AttributeCheck", "areClasses", "(I)Z"⟩, 5) := ⟨⟨by decide +kernel, by decide +kernel⟩, List.mem_of_getElem? (i := 464) (by decide +kernel), List.mem_of_getElem? (i := 939) (by decide +kernel), List.mem_of_getElem? (i := 940) (by decide +kernel)⟩
theorem lw_p43 : lw_okq (⟨"ClassGate$ClassCheck", "codeIsDue", "(LClassGate$Member;)Z"⟩, 5) := ⟨⟨by decide +kernel, by decide +kernel⟩, List.mem_of_getElem? (i := 486) (by decide +kernel), List.mem_of_getElem? (i := 943) (by decide +kernel), List.mem_of_getElem? (i := 944) (by decide +kernel)⟩
theorem lw_p44 : lw_okq (⟨"ClassGate$AttributeCheck", "classKind", "(I)I"⟩, 5) := ⟨⟨by decide +kernel, by decide +kernel⟩, List.mem_of_getElem? (i := 464) (by decide +kernel), List.mem_of_getElem? (i := 951) (by decide +kernel), List.mem_of_getElem? (i := 952) (by decide +kernel)⟩
theorem lw_p45 : lw_okq (⟨"ClassGate$AttributeCheck", "brokenRule", "(II)I"⟩, 5) := ⟨⟨by decide +kernel, by decide +kernel⟩, List.mem_of_getElem? (i := 464) (by decide +kernel), List.mem_of_getElem? (i := 961) (by decide +kernel), List.mem_of_getElem? (i := 962) (by decide +kernel)⟩
theorem lw_p46 : lw_okq (⟨"ClassGate$AttributeCheck", "innerClassesHold", "(I)Z"⟩, 5) := ⟨⟨by decide +kernel, by decide +kernel⟩, List.mem_of_getElem? (i := 464) (by decide +kernel), List.mem_of_getElem? (i := 965) (by decide +kernel), List.mem_of_getElem? (i := 966) (by decide +kernel)⟩
theorem lw_p47 : lw_okq (⟨"ClassGate$AttributeCheck", "recordHolds", "(I)Z"⟩, 5) := ⟨⟨by decide +kernel, by decide +kernel⟩, List.mem_of_getElem? (i := 464) (by decide +kernel), List.mem_of_getElem? (i := 970) (by decide +kernel), List.mem_of_getElem? (i := 971) (by decide +kernel)⟩
def lw_privs_3 : List (MethodName × Nat) := [(⟨"ClassGate$ClassCheck", "methodHolds", "(LClassGate$Member;I)Z"⟩, 5), (⟨"ClassGate$ClassCheck", "methodNameHolds", "(I)Z"⟩, 5), (⟨"ClassGate$ClassCheck", "methodFlagsHold", "(LClassGate$Member;)Z"⟩, 5), (⟨"ClassGate$ClassCheck", "abstractHolds", "(LClassGate$Member;)Z"⟩, 5), (⟨"ClassGate$ClassCheck", "interfaceMethodHolds", "(LClassGate$Member;)Z"⟩, 5), (⟨"ClassGate$ClassCheck", "methodDescriptorHolds", "(LClassGate$Member;)Z"⟩, 5), (⟨"ClassGate$AttributeCheck", "methodKind", "(I)I"⟩, 5), (⟨"ClassGate$AttributeCheck", "codeHolds", "(LClassGate$Member;I)Z"⟩, 5), (⟨"ClassGate$AttributeCheck", "rowHolds", "(LClassGate$Code;I)Z"⟩, 5), (⟨"ClassGate$AttributeCheck", "codeAttributesHold", "(I)Z"⟩, 5), (⟨"ClassGate$AttributeCheck", "areClasses", "(I)Z"⟩, 5), (⟨"ClassGate$ClassCheck", "codeIsDue", "(LClassGate$Member;)Z"⟩, 5), (⟨"ClassGate$AttributeCheck", "classKind", "(I)I"⟩, 5), (⟨"ClassGate$AttributeCheck", "brokenRule", "(II)I"⟩, 5), (⟨"ClassGate$AttributeCheck", "innerClassesHold", "(I)Z"⟩, 5), (⟨"ClassGate$AttributeCheck", "recordHolds", "(I)Z"⟩, 5)]
theorem lw_r3 : ∀ q ∈ lw_privs_3, lw_okq q := List.forall_mem_cons.mpr ⟨lw_p32, List.forall_mem_cons.mpr ⟨lw_p33, List.forall_mem_cons.mpr ⟨lw_p34, List.forall_mem_cons.mpr ⟨lw_p35, List.forall_mem_cons.mpr ⟨lw_p36, List.forall_mem_cons.mpr ⟨lw_p37, List.forall_mem_cons.mpr ⟨lw_p38, List.forall_mem_cons.mpr ⟨lw_p39, List.forall_mem_cons.mpr ⟨lw_p40, List.forall_mem_cons.mpr ⟨lw_p41, List.forall_mem_cons.mpr ⟨lw_p42, List.forall_mem_cons.mpr ⟨lw_p43, List.forall_mem_cons.mpr ⟨lw_p44, List.forall_mem_cons.mpr ⟨lw_p45, List.forall_mem_cons.mpr ⟨lw_p46, List.forall_mem_cons.mpr ⟨lw_p47, fun _ h => absurd h List.not_mem_nil⟩⟩⟩⟩⟩⟩⟩⟩⟩⟩⟩⟩⟩⟩⟩⟩
theorem lw_p48 : lw_okq (⟨"ClassGate$AttributeCheck", "bootstrapsHold", "()Z"⟩, 5) := ⟨⟨by decide +kernel, by decide +kernel⟩, List.mem_of_getElem? (i := 464) (by decide +kernel), List.mem_of_getElem? (i := 976) (by decide +kernel), List.mem_of_getElem? (i := 977) (by decide +kernel)⟩
theorem lw_p49 : lw_okq (⟨"ClassGate", "codeOf", "(I)LClassGate$Code;"⟩, 5) := ⟨⟨by decide +kernel, by decide +kernel⟩, List.mem_of_getElem? (i := 28) (by decide +kernel), List.mem_of_getElem? (i := 1029) (by decide +kernel), List.mem_of_getElem? (i := 1030) (by decide +kernel)⟩
theorem lw_p50 : lw_okq (⟨"ClassGate$Instruction", "u1", "(I)I"⟩, 12) := ⟨⟨by decide +kernel, by decide +kernel⟩, List.mem_of_getElem? (i := 836) (by decide +kernel), List.mem_of_getElem? (i := 1046) (by decide +kernel), List.mem_of_getElem? (i := 1047) (by decide +kernel)⟩
theorem lw_p51 : lw_okq (⟨"ClassGate$Instruction", "isSwitchTaken", "()Z"⟩, 12) := ⟨⟨by decide +kernel, by decide +kernel⟩, List.mem_of_getElem? (i := 836) (by decide +kernel), List.mem_of_getElem? (i := 1055) (by decide +kernel), List.mem_of_getElem? (i := 1056) (by decide +kernel)⟩
theorem lw_p52 : lw_okq (⟨"ClassGate$Instruction", "isTableTaken", "()Z"⟩, 12) := ⟨⟨by decide +kernel, by decide +kernel⟩, List.mem_of_getElem? (i := 836) (by decide +kernel), List.mem_of_getElem? (i := 1059) (by decide +kernel), List.mem_of_getElem? (i := 1060) (by decide +kernel)⟩
theorem lw_p53 : lw_okq (⟨"ClassGate$Instruction", "s4", "(I)I"⟩, 12) := ⟨⟨by decide +kernel, by decide +kernel⟩, List.mem_of_getElem? (i := 836) (by decide +kernel), List.mem_of_getElem? (i := 1063) (by decide +kernel), List.mem_of_getElem? (i := 1064) (by decide +kernel)⟩
theorem lw_p54 : lw_okq (⟨"ClassGate$Instruction", "isLookupTaken", "()Z"⟩, 12) := ⟨⟨by decide +kernel, by decide +kernel⟩, List.mem_of_getElem? (i := 836) (by decide +kernel), List.mem_of_getElem? (i := 1069) (by decide +kernel), List.mem_of_getElem? (i := 1070) (by decide +kernel)⟩
theorem lw_p55 : lw_okq (⟨"ClassGate$Instruction", "isWideTaken", "()Z"⟩, 12) := ⟨⟨by decide +kernel, by decide +kernel⟩, List.mem_of_getElem? (i := 836) (by decide +kernel), List.mem_of_getElem? (i := 1077) (by decide +kernel), List.mem_of_getElem? (i := 1078) (by decide +kernel)⟩
theorem lw_p56 : lw_okq (⟨"ClassGate$Instruction", "u2", "(I)I"⟩, 12) := ⟨⟨by decide +kernel, by decide +kernel⟩, List.mem_of_getElem? (i := 836) (by decide +kernel), List.mem_of_getElem? (i := 1081) (by decide +kernel), List.mem_of_getElem? (i := 1082) (by decide +kernel)⟩
theorem lw_p57 : lw_okq (⟨"ClassGate$Instruction", "isLocalTaken", "(I)Z"⟩, 12) := ⟨⟨by decide +kernel, by decide +kernel⟩, List.mem_of_getElem? (i := 836) (by decide +kernel), List.mem_of_getElem? (i := 1089) (by decide +kernel), List.mem_of_getElem? (i := 1090) (by decide +kernel)⟩
theorem lw_p58 : lw_okq (⟨"ClassGate$Instruction", "areOperandsTaken", "()Z"⟩, 12) := ⟨⟨by decide +kernel, by decide +kernel⟩, List.mem_of_getElem? (i := 836) (by decide +kernel), List.mem_of_getElem? (i := 1096) (by decide +kernel), List.mem_of_getElem? (i := 1097) (by decide +kernel)⟩
theorem lw_p59 : lw_okq (⟨"ClassGate$Instruction", "isShortLocalTaken", "(II)Z"⟩, 12) := ⟨⟨by decide +kernel, by decide +kernel⟩, List.mem_of_getElem? (i := 836) (by decide +kernel), List.mem_of_getElem? (i := 1100) (by decide +kernel), List.mem_of_getElem? (i := 1101) (by decide +kernel)⟩
theorem lw_p60 : lw_okq (⟨"ClassGate$Instruction", "isJumpTaken", "(II)Z"⟩, 12) := ⟨⟨by decide +kernel, by decide +kernel⟩, List.mem_of_getElem? (i := 836) (by decide +kernel), List.mem_of_getElem? (i := 1104) (by decide +kernel), List.mem_of_getElem? (i := 1105) (by decide +kernel)⟩
theorem lw_p61 : lw_okq (⟨"ClassGate$Instruction", "isIndexTaken", "()Z"⟩, 12) := ⟨⟨by decide +kernel, by decide +kernel⟩, List.mem_of_getElem? (i := 836) (by decide +kernel), List.mem_of_getElem? (i := 1108) (by decide +kernel), List.mem_of_getElem? (i := 1109) (by decide +kernel)⟩
theorem lw_p62 : lw_okq (⟨"ClassGate$Code", "operandsHold", "()Z"⟩, 11) := ⟨⟨by decide +kernel, by decide +kernel⟩, List.mem_of_getElem? (i := 828) (by decide +kernel), List.mem_of_getElem? (i := 1112) (by decide +kernel), List.mem_of_getElem? (i := 1113) (by decide +kernel)⟩
theorem lw_p63 : lw_okq (⟨"ClassGate$Code", "isLoadedByLdc", "(I)Z"⟩, 11) := ⟨⟨by decide +kernel, by decide +kernel⟩, List.mem_of_getElem? (i := 828) (by decide +kernel), List.mem_of_getElem? (i := 1117) (by decide +kernel), List.mem_of_getElem? (i := 1118) (by decide +kernel)⟩
def lw_privs_4 : List (MethodName × Nat) := [(⟨"ClassGate$AttributeCheck", "bootstrapsHold", "()Z"⟩, 5), (⟨"ClassGate", "codeOf", "(I)LClassGate$Code;"⟩, 5), (⟨"ClassGate$Instruction", "u1", "(I)I"⟩, 12), (⟨"ClassGate$Instruction", "isSwitchTaken", "()Z"⟩, 12), (⟨"ClassGate$Instruction", "isTableTaken", "()Z"⟩, 12), (⟨"ClassGate$Instruction", "s4", "(I)I"⟩, 12), (⟨"ClassGate$Instruction", "isLookupTaken", "()Z"⟩, 12), (⟨"ClassGate$Instruction", "isWideTaken", "()Z"⟩, 12), (⟨"ClassGate$Instruction", "u2", "(I)I"⟩, 12), (⟨"ClassGate$Instruction", "isLocalTaken", "(I)Z"⟩, 12), (⟨"ClassGate$Instruction", "areOperandsTaken", "()Z"⟩, 12), (⟨"ClassGate$Instruction", "isShortLocalTaken", "(II)Z"⟩, 12), (⟨"ClassGate$Instruction", "isJumpTaken", "(II)Z"⟩, 12), (⟨"ClassGate$Instruction", "isIndexTaken", "()Z"⟩, 12), (⟨"ClassGate$Code", "operandsHold", "()Z"⟩, 11), (⟨"ClassGate$Code", "isLoadedByLdc", "(I)Z"⟩, 11)]
theorem lw_r4 : ∀ q ∈ lw_privs_4, lw_okq q := List.forall_mem_cons.mpr ⟨lw_p48, List.forall_mem_cons.mpr ⟨lw_p49, List.forall_mem_cons.mpr ⟨lw_p50, List.forall_mem_cons.mpr ⟨lw_p51, List.forall_mem_cons.mpr ⟨lw_p52, List.forall_mem_cons.mpr ⟨lw_p53, List.forall_mem_cons.mpr ⟨lw_p54, List.forall_mem_cons.mpr ⟨lw_p55, List.forall_mem_cons.mpr ⟨lw_p56, List.forall_mem_cons.mpr ⟨lw_p57, List.forall_mem_cons.mpr ⟨lw_p58, List.forall_mem_cons.mpr ⟨lw_p59, List.forall_mem_cons.mpr ⟨lw_p60, List.forall_mem_cons.mpr ⟨lw_p61, List.forall_mem_cons.mpr ⟨lw_p62, List.forall_mem_cons.mpr ⟨lw_p63, fun _ h => absurd h List.not_mem_nil⟩⟩⟩⟩⟩⟩⟩⟩⟩⟩⟩⟩⟩⟩⟩⟩
theorem lw_p64 : lw_okq (⟨"ClassGate$Code", "isOfTwoPlaces", "(I)Z"⟩, 11) := ⟨⟨by decide +kernel, by decide +kernel⟩, List.mem_of_getElem? (i := 828) (by decide +kernel), List.mem_of_getElem? (i := 1123) (by decide +kernel), List.mem_of_getElem? (i := 1124) (by decide +kernel)⟩
theorem lw_p65 : lw_okq (⟨"ClassGate$Code", "callHolds", "(I)Z"⟩, 11) := ⟨⟨by decide +kernel, by decide +kernel⟩, List.mem_of_getElem? (i := 828) (by decide +kernel), List.mem_of_getElem? (i := 1132) (by decide +kernel), List.mem_of_getElem? (i := 1133) (by decide +kernel)⟩
theorem lw_p66 : lw_okq (⟨"ClassGate$Code", "isMethodOfEither", "(I)Z"⟩, 11) := ⟨⟨by decide +kernel, by decide +kernel⟩, List.mem_of_getElem? (i := 828) (by decide +kernel), List.mem_of_getElem? (i := 1137) (by decide +kernel), List.mem_of_getElem? (i := 1138) (by decide +kernel)⟩
theorem lw_p67 : lw_okq (⟨"ClassGate$Code", "targetsHold", "()Z"⟩, 11) := ⟨⟨by decide +kernel, by decide +kernel⟩, List.mem_of_getElem? (i := 828) (by decide +kernel), List.mem_of_getElem? (i := 1142) (by decide +kernel), List.mem_of_getElem? (i := 1143) (by decide +kernel)⟩
theorem lw_p68 : lw_okq (⟨"ClassGate$Code", "numberAt", "(J)I"⟩, 11) := ⟨⟨by decide +kernel, by decide +kernel⟩, List.mem_of_getElem? (i := 828) (by decide +kernel), List.mem_of_getElem? (i := 1150) (by decide +kernel), List.mem_of_getElem? (i := 1151) (by decide +kernel)⟩
theorem lw_p69 : lw_okq (⟨"ClassGate$Code", "startOf", "(I)I"⟩, 11) := ⟨⟨by decide +kernel, by decide +kernel⟩, List.mem_of_getElem? (i := 828) (by decide +kernel), List.mem_of_getElem? (i := 1162) (by decide +kernel), List.mem_of_getElem? (i := 1163) (by decide +kernel)⟩
theorem lw_p70 : lw_okq (⟨"java/lang/Throwable", "fillInStackTrace", "(I)Ljava/lang/Throwable;"⟩, 6) := ⟨⟨by decide +kernel, by decide +kernel⟩, List.mem_of_getElem? (i := 1214) (by decide +kernel), List.mem_of_getElem? (i := 1212) (by decide +kernel), List.mem_of_getElem? (i := 1213) (by decide +kernel)⟩
theorem lw_p71 : lw_okq (⟨"ClassGate", "takeWord", "(I)V"⟩, 5) := ⟨⟨by decide +kernel, by decide +kernel⟩, List.mem_of_getElem? (i := 28) (by decide +kernel), List.mem_of_getElem? (i := 1243) (by decide +kernel), List.mem_of_getElem? (i := 1244) (by decide +kernel)⟩
theorem lw_p72 : lw_okq (⟨"ClassGate$ClassFile", "attributeNumber", "(I)I"⟩, 17) := ⟨⟨by decide +kernel, by decide +kernel⟩, List.mem_of_getElem? (i := 59) (by decide +kernel), List.mem_of_getElem? (i := 1297) (by decide +kernel), List.mem_of_getElem? (i := 1298) (by decide +kernel)⟩
theorem lw_p73 : lw_okq (⟨"ClassGate$Member", "codeNumber", "(I)I"⟩, 11) := ⟨⟨by decide +kernel, by decide +kernel⟩, List.mem_of_getElem? (i := 356) (by decide +kernel), List.mem_of_getElem? (i := 1323) (by decide +kernel), List.mem_of_getElem? (i := 1324) (by decide +kernel)⟩
theorem lw_p74 : lw_okq (⟨"ClassGateModel", "clear", "()V"⟩, 82) := ⟨⟨by decide +kernel, by decide +kernel⟩, List.mem_of_getElem? (i := 1356) (by decide +kernel), List.mem_of_getElem? (i := 1378) (by decide +kernel), List.mem_of_getElem? (i := 1379) (by decide +kernel)⟩
theorem lw_p75 : lw_okq (⟨"ClassGateModel", "symbol", "(Ljava/lang/String;)I"⟩, 82) := ⟨⟨by decide +kernel, by decide +kernel⟩, List.mem_of_getElem? (i := 1356) (by decide +kernel), List.mem_of_getElem? (i := 1383) (by decide +kernel), List.mem_of_getElem? (i := 1384) (by decide +kernel)⟩
theorem lw_p76 : lw_okq (⟨"ClassGateModel", "symbol", "(I)I"⟩, 82) := ⟨⟨by decide +kernel, by decide +kernel⟩, List.mem_of_getElem? (i := 1356) (by decide +kernel), List.mem_of_getElem? (i := 1389) (by decide +kernel), List.mem_of_getElem? (i := 1390) (by decide +kernel)⟩
theorem lw_p77 : lw_okq (⟨"ClassGateModel", "four", "(I)V"⟩, 82) := ⟨⟨by decide +kernel, by decide +kernel⟩, List.mem_of_getElem? (i := 1356) (by decide +kernel), List.mem_of_getElem? (i := 1646) (by decide +kernel), List.mem_of_getElem? (i := 1647) (by decide +kernel)⟩
theorem lw_p78 : lw_okq (⟨"ClassGateModel", "bad", "()I"⟩, 82) := ⟨⟨by decide +kernel, by decide +kernel⟩, List.mem_of_getElem? (i := 1356) (by decide +kernel), List.mem_of_getElem? (i := 1654) (by decide +kernel), List.mem_of_getElem? (i := 1655) (by decide +kernel)⟩
theorem lw_p79 : lw_okq (⟨"ClassGateModel", "parse", "([BI)Z"⟩, 82) := ⟨⟨by decide +kernel, by decide +kernel⟩, List.mem_of_getElem? (i := 1356) (by decide +kernel), List.mem_of_getElem? (i := 1662) (by decide +kernel), List.mem_of_getElem? (i := 1663) (by decide +kernel)⟩
def lw_privs_5 : List (MethodName × Nat) := [(⟨"ClassGate$Code", "isOfTwoPlaces", "(I)Z"⟩, 11), (⟨"ClassGate$Code", "callHolds", "(I)Z"⟩, 11), (⟨"ClassGate$Code", "isMethodOfEither", "(I)Z"⟩, 11), (⟨"ClassGate$Code", "targetsHold", "()Z"⟩, 11), (⟨"ClassGate$Code", "numberAt", "(J)I"⟩, 11), (⟨"ClassGate$Code", "startOf", "(I)I"⟩, 11), (⟨"java/lang/Throwable", "fillInStackTrace", "(I)Ljava/lang/Throwable;"⟩, 6), (⟨"ClassGate", "takeWord", "(I)V"⟩, 5), (⟨"ClassGate$ClassFile", "attributeNumber", "(I)I"⟩, 17), (⟨"ClassGate$Member", "codeNumber", "(I)I"⟩, 11), (⟨"ClassGateModel", "clear", "()V"⟩, 82), (⟨"ClassGateModel", "symbol", "(Ljava/lang/String;)I"⟩, 82), (⟨"ClassGateModel", "symbol", "(I)I"⟩, 82), (⟨"ClassGateModel", "four", "(I)V"⟩, 82), (⟨"ClassGateModel", "bad", "()I"⟩, 82), (⟨"ClassGateModel", "parse", "([BI)Z"⟩, 82)]
theorem lw_r5 : ∀ q ∈ lw_privs_5, lw_okq q := List.forall_mem_cons.mpr ⟨lw_p64, List.forall_mem_cons.mpr ⟨lw_p65, List.forall_mem_cons.mpr ⟨lw_p66, List.forall_mem_cons.mpr ⟨lw_p67, List.forall_mem_cons.mpr ⟨lw_p68, List.forall_mem_cons.mpr ⟨lw_p69, List.forall_mem_cons.mpr ⟨lw_p70, List.forall_mem_cons.mpr ⟨lw_p71, List.forall_mem_cons.mpr ⟨lw_p72, List.forall_mem_cons.mpr ⟨lw_p73, List.forall_mem_cons.mpr ⟨lw_p74, List.forall_mem_cons.mpr ⟨lw_p75, List.forall_mem_cons.mpr ⟨lw_p76, List.forall_mem_cons.mpr ⟨lw_p77, List.forall_mem_cons.mpr ⟨lw_p78, List.forall_mem_cons.mpr ⟨lw_p79, fun _ h => absurd h List.not_mem_nil⟩⟩⟩⟩⟩⟩⟩⟩⟩⟩⟩⟩⟩⟩⟩⟩
theorem lw_p80 : lw_okq (⟨"ClassGateModel", "checkFile", "()Z"⟩, 82) := ⟨⟨by decide +kernel, by decide +kernel⟩, List.mem_of_getElem? (i := 1356) (by decide +kernel), List.mem_of_getElem? (i := 1666) (by decide +kernel), List.mem_of_getElem? (i := 1667) (by decide +kernel)⟩
theorem lw_p81 : lw_okq (⟨"ClassGateModel", "readFile", "()Z"⟩, 82) := ⟨⟨by decide +kernel, by decide +kernel⟩, List.mem_of_getElem? (i := 1356) (by decide +kernel), List.mem_of_getElem? (i := 1670) (by decide +kernel), List.mem_of_getElem? (i := 1671) (by decide +kernel)⟩
theorem lw_p82 : lw_okq (⟨"ClassGateModel", "item", "(J)Z"⟩, 82) := ⟨⟨by decide +kernel, by decide +kernel⟩, List.mem_of_getElem? (i := 1356) (by decide +kernel), List.mem_of_getElem? (i := 1675) (by decide +kernel), List.mem_of_getElem? (i := 1676) (by decide +kernel)⟩
theorem lw_p83 : lw_okq (⟨"ClassGateModel", "wrong", "(II)Z"⟩, 82) := ⟨⟨by decide +kernel, by decide +kernel⟩, List.mem_of_getElem? (i := 1356) (by decide +kernel), List.mem_of_getElem? (i := 1679) (by decide +kernel), List.mem_of_getElem? (i := 1680) (by decide +kernel)⟩
theorem lw_p84 : lw_okq (⟨"ClassGateModel", "u4", "(I)J"⟩, 82) := ⟨⟨by decide +kernel, by decide +kernel⟩, List.mem_of_getElem? (i := 1356) (by decide +kernel), List.mem_of_getElem? (i := 1683) (by decide +kernel), List.mem_of_getElem? (i := 1684) (by decide +kernel)⟩
theorem lw_p85 : lw_okq (⟨"ClassGateModel", "u2", "(I)I"⟩, 82) := ⟨⟨by decide +kernel, by decide +kernel⟩, List.mem_of_getElem? (i := 1356) (by decide +kernel), List.mem_of_getElem? (i := 1687) (by decide +kernel), List.mem_of_getElem? (i := 1688) (by decide +kernel)⟩
theorem lw_p86 : lw_okq (⟨"ClassGateModel", "u1", "(I)I"⟩, 82) := ⟨⟨by decide +kernel, by decide +kernel⟩, List.mem_of_getElem? (i := 1356) (by decide +kernel), List.mem_of_getElem? (i := 1691) (by decide +kernel), List.mem_of_getElem? (i := 1692) (by decide +kernel)⟩
theorem lw_p87 : lw_okq (⟨"ClassGateModel", "readPool", "()Z"⟩, 82) := ⟨⟨by decide +kernel, by decide +kernel⟩, List.mem_of_getElem? (i := 1356) (by decide +kernel), List.mem_of_getElem? (i := 1697) (by decide +kernel), List.mem_of_getElem? (i := 1698) (by decide +kernel)⟩
theorem lw_p88 : lw_okq (⟨"ClassGateModel", "utf8", "(III)Z"⟩, 82) := ⟨⟨by decide +kernel, by decide +kernel⟩, List.mem_of_getElem? (i := 1356) (by decide +kernel), List.mem_of_getElem? (i := 1701) (by decide +kernel), List.mem_of_getElem? (i := 1702) (by decide +kernel)⟩
theorem lw_p89 : lw_okq (⟨"ClassGateModel", "members", "()Z"⟩, 82) := ⟨⟨by decide +kernel, by decide +kernel⟩, List.mem_of_getElem? (i := 1356) (by decide +kernel), List.mem_of_getElem? (i := 1705) (by decide +kernel), List.mem_of_getElem? (i := 1706) (by decide +kernel)⟩
theorem lw_p90 : lw_okq (⟨"ClassGateModel", "attributes", "()Z"⟩, 82) := ⟨⟨by decide +kernel, by decide +kernel⟩, List.mem_of_getElem? (i := 1356) (by decide +kernel), List.mem_of_getElem? (i := 1709) (by decide +kernel), List.mem_of_getElem? (i := 1710) (by decide +kernel)⟩
theorem lw_p91 : lw_okq (⟨"ClassGateModel", "checkPool", "()Z"⟩, 82) := ⟨⟨by decide +kernel, by decide +kernel⟩, List.mem_of_getElem? (i := 1356) (by decide +kernel), List.mem_of_getElem? (i := 1713) (by decide +kernel), List.mem_of_getElem? (i := 1714) (by decide +kernel)⟩
theorem lw_p92 : lw_okq (⟨"ClassGateModel", "indexes", "(IIZ)Z"⟩, 82) := ⟨⟨by decide +kernel, by decide +kernel⟩, List.mem_of_getElem? (i := 1356) (by decide +kernel), List.mem_of_getElem? (i := 1717) (by decide +kernel), List.mem_of_getElem? (i := 1718) (by decide +kernel)⟩
theorem lw_p93 : lw_okq (⟨"ClassGateModel", "index", "(II)I"⟩, 82) := ⟨⟨by decide +kernel, by decide +kernel⟩, List.mem_of_getElem? (i := 1356) (by decide +kernel), List.mem_of_getElem? (i := 1721) (by decide +kernel), List.mem_of_getElem? (i := 1722) (by decide +kernel)⟩
theorem lw_p94 : lw_okq (⟨"ClassGateModel", "tag", "(I)I"⟩, 82) := ⟨⟨by decide +kernel, by decide +kernel⟩, List.mem_of_getElem? (i := 1356) (by decide +kernel), List.mem_of_getElem? (i := 1725) (by decide +kernel), List.mem_of_getElem? (i := 1726) (by decide +kernel)⟩
theorem lw_p95 : lw_okq (⟨"ClassGateModel", "symOf", "(I)I"⟩, 82) := ⟨⟨by decide +kernel, by decide +kernel⟩, List.mem_of_getElem? (i := 1356) (by decide +kernel), List.mem_of_getElem? (i := 1729) (by decide +kernel), List.mem_of_getElem? (i := 1730) (by decide +kernel)⟩
def lw_privs_6 : List (MethodName × Nat) := [(⟨"ClassGateModel", "checkFile", "()Z"⟩, 82), (⟨"ClassGateModel", "readFile", "()Z"⟩, 82), (⟨"ClassGateModel", "item", "(J)Z"⟩, 82), (⟨"ClassGateModel", "wrong", "(II)Z"⟩, 82), (⟨"ClassGateModel", "u4", "(I)J"⟩, 82), (⟨"ClassGateModel", "u2", "(I)I"⟩, 82), (⟨"ClassGateModel", "u1", "(I)I"⟩, 82), (⟨"ClassGateModel", "readPool", "()Z"⟩, 82), (⟨"ClassGateModel", "utf8", "(III)Z"⟩, 82), (⟨"ClassGateModel", "members", "()Z"⟩, 82), (⟨"ClassGateModel", "attributes", "()Z"⟩, 82), (⟨"ClassGateModel", "checkPool", "()Z"⟩, 82), (⟨"ClassGateModel", "indexes", "(IIZ)Z"⟩, 82), (⟨"ClassGateModel", "index", "(II)I"⟩, 82), (⟨"ClassGateModel", "tag", "(I)I"⟩, 82), (⟨"ClassGateModel", "symOf", "(I)I"⟩, 82)]
theorem lw_r6 : ∀ q ∈ lw_privs_6, lw_okq q := List.forall_mem_cons.mpr ⟨lw_p80, List.forall_mem_cons.mpr ⟨lw_p81, List.forall_mem_cons.mpr ⟨lw_p82, List.forall_mem_cons.mpr ⟨lw_p83, List.forall_mem_cons.mpr ⟨lw_p84, List.forall_mem_cons.mpr ⟨lw_p85, List.forall_mem_cons.mpr ⟨lw_p86, List.forall_mem_cons.mpr ⟨lw_p87, List.forall_mem_cons.mpr ⟨lw_p88, List.forall_mem_cons.mpr ⟨lw_p89, List.forall_mem_cons.mpr ⟨lw_p90, List.forall_mem_cons.mpr ⟨lw_p91, List.forall_mem_cons.mpr ⟨lw_p92, List.forall_mem_cons.mpr ⟨lw_p93, List.forall_mem_cons.mpr ⟨lw_p94, List.forall_mem_cons.mpr ⟨lw_p95, fun _ h => absurd h List.not_mem_nil⟩⟩⟩⟩⟩⟩⟩⟩⟩⟩⟩⟩⟩⟩⟩⟩
theorem lw_p96 : lw_okq (⟨"ClassGateModel", "classText", "(I)Z"⟩, 82) := ⟨⟨by decide +kernel, by decide +kernel⟩, List.mem_of_getElem? (i := 1356) (by decide +kernel), List.mem_of_getElem? (i := 1733) (by decide +kernel), List.mem_of_getElem? (i := 1734) (by decide +kernel)⟩
theorem lw_p97 : lw_okq (⟨"ClassGateModel", "length", "(I)I"⟩, 82) := ⟨⟨by decide +kernel, by decide +kernel⟩, List.mem_of_getElem? (i := 1356) (by decide +kernel), List.mem_of_getElem? (i := 1737) (by decide +kernel), List.mem_of_getElem? (i := 1738) (by decide +kernel)⟩
theorem lw_p98 : lw_okq (⟨"ClassGateModel", "at", "(II)C"⟩, 82) := ⟨⟨by decide +kernel, by decide +kernel⟩, List.mem_of_getElem? (i := 1356) (by decide +kernel), List.mem_of_getElem? (i := 1741) (by decide +kernel), List.mem_of_getElem? (i := 1742) (by decide +kernel)⟩
theorem lw_p99 : lw_okq (⟨"ClassGateModel", "fieldText", "(II)I"⟩, 82) := ⟨⟨by decide +kernel, by decide +kernel⟩, List.mem_of_getElem? (i := 1356) (by decide +kernel), List.mem_of_getElem? (i := 1745) (by decide +kernel), List.mem_of_getElem? (i := 1746) (by decide +kernel)⟩
theorem lw_p100 : lw_okq (⟨"ClassGateModel", "nameText", "(III)Z"⟩, 82) := ⟨⟨by decide +kernel, by decide +kernel⟩, List.mem_of_getElem? (i := 1356) (by decide +kernel), List.mem_of_getElem? (i := 1749) (by decide +kernel), List.mem_of_getElem? (i := 1750) (by decide +kernel)⟩
theorem lw_p101 : lw_okq (⟨"ClassGateModel", "unqualified", "(IZ)Z"⟩, 82) := ⟨⟨by decide +kernel, by decide +kernel⟩, List.mem_of_getElem? (i := 1356) (by decide +kernel), List.mem_of_getElem? (i := 1753) (by decide +kernel), List.mem_of_getElem? (i := 1754) (by decide +kernel)⟩
theorem lw_p102 : lw_okq (⟨"ClassGateModel", "isField", "(I)Z"⟩, 82) := ⟨⟨by decide +kernel, by decide +kernel⟩, List.mem_of_getElem? (i := 1356) (by decide +kernel), List.mem_of_getElem? (i := 1757) (by decide +kernel), List.mem_of_getElem? (i := 1758) (by decide +kernel)⟩
theorem lw_p103 : lw_okq (⟨"ClassGateModel", "isMethod", "(I)Z"⟩, 82) := ⟨⟨by decide +kernel, by decide +kernel⟩, List.mem_of_getElem? (i := 1356) (by decide +kernel), List.mem_of_getElem? (i := 1761) (by decide +kernel), List.mem_of_getElem? (i := 1762) (by decide +kernel)⟩
theorem lw_p104 : lw_okq (⟨"ClassGateModel", "places0", "(I)I"⟩, 82) := ⟨⟨by decide +kernel, by decide +kernel⟩, List.mem_of_getElem? (i := 1356) (by decide +kernel), List.mem_of_getElem? (i := 1765) (by decide +kernel), List.mem_of_getElem? (i := 1766) (by decide +kernel)⟩
theorem lw_p105 : lw_okq (⟨"ClassGateModel", "angles", "(I)Z"⟩, 82) := ⟨⟨by decide +kernel, by decide +kernel⟩, List.mem_of_getElem? (i := 1356) (by decide +kernel), List.mem_of_getElem? (i := 1769) (by decide +kernel), List.mem_of_getElem? (i := 1770) (by decide +kernel)⟩
theorem lw_p106 : lw_okq (⟨"ClassGateModel", "endsV", "(I)Z"⟩, 82) := ⟨⟨by decide +kernel, by decide +kernel⟩, List.mem_of_getElem? (i := 1356) (by decide +kernel), List.mem_of_getElem? (i := 1773) (by decide +kernel), List.mem_of_getElem? (i := 1774) (by decide +kernel)⟩
theorem lw_p107 : lw_okq (⟨"ClassGateModel", "handleEntry", "(I)Z"⟩, 82) := ⟨⟨by decide +kernel, by decide +kernel⟩, List.mem_of_getElem? (i := 1356) (by decide +kernel), List.mem_of_getElem? (i := 1777) (by decide +kernel), List.mem_of_getElem? (i := 1778) (by decide +kernel)⟩
theorem lw_p108 : lw_okq (⟨"ClassGateModel", "checkClass", "()Z"⟩, 82) := ⟨⟨by decide +kernel, by decide +kernel⟩, List.mem_of_getElem? (i := 1356) (by decide +kernel), List.mem_of_getElem? (i := 1781) (by decide +kernel), List.mem_of_getElem? (i := 1782) (by decide +kernel)⟩
theorem lw_p109 : lw_okq (⟨"ClassGateModel", "plainClass", "(I)Z"⟩, 82) := ⟨⟨by decide +kernel, by decide +kernel⟩, List.mem_of_getElem? (i := 1356) (by decide +kernel), List.mem_of_getElem? (i := 1786) (by decide +kernel), List.mem_of_getElem? (i := 1787) (by decide +kernel)⟩
theorem lw_p110 : lw_okq (⟨"ClassGateModel", "className", "(I)I"⟩, 82) := ⟨⟨by decide +kernel, by decide +kernel⟩, List.mem_of_getElem? (i := 1356) (by decide +kernel), List.mem_of_getElem? (i := 1790) (by decide +kernel), List.mem_of_getElem? (i := 1791) (by decide +kernel)⟩
theorem lw_p111 : lw_okq (⟨"ClassGateModel", "checkFields", "()Z"⟩, 82) := ⟨⟨by decide +kernel, by decide +kernel⟩, List.mem_of_getElem? (i := 1356) (by decide +kernel), List.mem_of_getElem? (i := 1794) (by decide +kernel), List.mem_of_getElem? (i := 1795) (by decide +kernel)⟩
def lw_privs_7 : List (MethodName × Nat) := [(⟨"ClassGateModel", "classText", "(I)Z"⟩, 82), (⟨"ClassGateModel", "length", "(I)I"⟩, 82), (⟨"ClassGateModel", "at", "(II)C"⟩, 82), (⟨"ClassGateModel", "fieldText", "(II)I"⟩, 82), (⟨"ClassGateModel", "nameText", "(III)Z"⟩, 82), (⟨"ClassGateModel", "unqualified", "(IZ)Z"⟩, 82), (⟨"ClassGateModel", "isField", "(I)Z"⟩, 82), (⟨"ClassGateModel", "isMethod", "(I)Z"⟩, 82), (⟨"ClassGateModel", "places0", "(I)I"⟩, 82), (⟨"ClassGateModel", "angles", "(I)Z"⟩, 82), (⟨"ClassGateModel", "endsV", "(I)Z"⟩, 82), (⟨"ClassGateModel", "handleEntry", "(I)Z"⟩, 82), (⟨"ClassGateModel", "checkClass", "()Z"⟩, 82), (⟨"ClassGateModel", "plainClass", "(I)Z"⟩, 82), (⟨"ClassGateModel", "className", "(I)I"⟩, 82), (⟨"ClassGateModel", "checkFields", "()Z"⟩, 82)]
theorem lw_r7 : ∀ q ∈ lw_privs_7, lw_okq q := List.forall_mem_cons.mpr ⟨lw_p96, List.forall_mem_cons.mpr ⟨lw_p97, List.forall_mem_cons.mpr ⟨lw_p98, List.forall_mem_cons.mpr ⟨lw_p99, List.forall_mem_cons.mpr ⟨lw_p100, List.forall_mem_cons.mpr ⟨lw_p101, List.forall_mem_cons.mpr ⟨lw_p102, List.forall_mem_cons.mpr ⟨lw_p103, List.forall_mem_cons.mpr ⟨lw_p104, List.forall_mem_cons.mpr ⟨lw_p105, List.forall_mem_cons.mpr ⟨lw_p106, List.forall_mem_cons.mpr ⟨lw_p107, List.forall_mem_cons.mpr ⟨lw_p108, List.forall_mem_cons.mpr ⟨lw_p109, List.forall_mem_cons.mpr ⟨lw_p110, List.forall_mem_cons.mpr ⟨lw_p111, fun _ h => absurd h List.not_mem_nil⟩⟩⟩⟩⟩⟩⟩⟩⟩⟩⟩⟩⟩⟩⟩⟩
theorem lw_p112 : lw_okq (⟨"ClassGateModel", "checkAttributes", "(III)I"⟩, 82) := ⟨⟨by decide +kernel, by decide +kernel⟩, List.mem_of_getElem? (i := 1356) (by decide +kernel), List.mem_of_getElem? (i := 1801) (by decide +kernel), List.mem_of_getElem? (i := 1802) (by decide +kernel)⟩
theorem lw_p113 : lw_okq (⟨"ClassGateModel", "is", "(ILjava/lang/String;)Z"⟩, 82) := ⟨⟨by decide +kernel, by decide +kernel⟩, List.mem_of_getElem? (i := 1356) (by decide +kernel), List.mem_of_getElem? (i := 1805) (by decide +kernel), List.mem_of_getElem? (i := 1806) (by decide +kernel)⟩
theorem lw_p114 : lw_okq (⟨"ClassGateModel", "attribute", "(IIIIII)I"⟩, 82) := ⟨⟨by decide +kernel, by decide +kernel⟩, List.mem_of_getElem? (i := 1356) (by decide +kernel), List.mem_of_getElem? (i := 1809) (by decide +kernel), List.mem_of_getElem? (i := 1810) (by decide +kernel)⟩
theorem lw_p115 : lw_okq (⟨"ClassGateModel", "code", "(IIII)I"⟩, 82) := ⟨⟨by decide +kernel, by decide +kernel⟩, List.mem_of_getElem? (i := 1356) (by decide +kernel), List.mem_of_getElem? (i := 1814) (by decide +kernel), List.mem_of_getElem? (i := 1815) (by decide +kernel)⟩
theorem lw_p116 : lw_okq (⟨"ClassGateModel", "bootstraps", "(II)I"⟩, 82) := ⟨⟨by decide +kernel, by decide +kernel⟩, List.mem_of_getElem? (i := 1356) (by decide +kernel), List.mem_of_getElem? (i := 1819) (by decide +kernel), List.mem_of_getElem? (i := 1820) (by decide +kernel)⟩
theorem lw_p117 : lw_okq (⟨"ClassGateModel", "components", "(II)I"⟩, 82) := ⟨⟨by decide +kernel, by decide +kernel⟩, List.mem_of_getElem? (i := 1356) (by decide +kernel), List.mem_of_getElem? (i := 1823) (by decide +kernel), List.mem_of_getElem? (i := 1824) (by decide +kernel)⟩
theorem lw_p118 : lw_okq (⟨"ClassGateModel", "checkMethods", "()Z"⟩, 82) := ⟨⟨by decide +kernel, by decide +kernel⟩, List.mem_of_getElem? (i := 1356) (by decide +kernel), List.mem_of_getElem? (i := 1827) (by decide +kernel), List.mem_of_getElem? (i := 1828) (by decide +kernel)⟩
theorem lw_p119 : lw_okq (⟨"ClassGateModel", "flagsFit", "(IZZ)Z"⟩, 82) := ⟨⟨by decide +kernel, by decide +kernel⟩, List.mem_of_getElem? (i := 1356) (by decide +kernel), List.mem_of_getElem? (i := 1831) (by decide +kernel), List.mem_of_getElem? (i := 1832) (by decide +kernel)⟩
theorem lw_p120 : lw_okq (⟨"ClassGateModel", "wide", "(II)Z"⟩, 82) := ⟨⟨by decide +kernel, by decide +kernel⟩, List.mem_of_getElem? (i := 1356) (by decide +kernel), List.mem_of_getElem? (i := 1875) (by decide +kernel), List.mem_of_getElem? (i := 1876) (by decide +kernel)⟩
theorem lw_p121 : lw_okq (⟨"ClassGateModel", "noCode", "(I)Z"⟩, 82) := ⟨⟨by decide +kernel, by decide +kernel⟩, List.mem_of_getElem? (i := 1356) (by decide +kernel), List.mem_of_getElem? (i := 1883) (by decide +kernel), List.mem_of_getElem? (i := 1884) (by decide +kernel)⟩
theorem lw_p122 : lw_okq (⟨"ClassGateModel", "cuts", "(I)Z"⟩, 82) := ⟨⟨by decide +kernel, by decide +kernel⟩, List.mem_of_getElem? (i := 1356) (by decide +kernel), List.mem_of_getElem? (i := 1887) (by decide +kernel), List.mem_of_getElem? (i := 1888) (by decide +kernel)⟩
theorem lw_p123 : lw_okq (⟨"ClassGateModel", "b1", "(I)I"⟩, 82) := ⟨⟨by decide +kernel, by decide +kernel⟩, List.mem_of_getElem? (i := 1356) (by decide +kernel), List.mem_of_getElem? (i := 1891) (by decide +kernel), List.mem_of_getElem? (i := 1892) (by decide +kernel)⟩
theorem lw_p124 : lw_okq (⟨"ClassGateModel", "formed", "(II)I"⟩, 82) := ⟨⟨by decide +kernel, by decide +kernel⟩, List.mem_of_getElem? (i := 1356) (by decide +kernel), List.mem_of_getElem? (i := 1895) (by decide +kernel), List.mem_of_getElem? (i := 1896) (by decide +kernel)⟩
theorem lw_p125 : lw_okq (⟨"ClassGateModel", "b4", "(I)I"⟩, 82) := ⟨⟨by decide +kernel, by decide +kernel⟩, List.mem_of_getElem? (i := 1356) (by decide +kernel), List.mem_of_getElem? (i := 1902) (by decide +kernel), List.mem_of_getElem? (i := 1903) (by decide +kernel)⟩
theorem lw_p126 : lw_okq (⟨"ClassGateModel", "operands", "(II)Z"⟩, 82) := ⟨⟨by decide +kernel, by decide +kernel⟩, List.mem_of_getElem? (i := 1356) (by decide +kernel), List.mem_of_getElem? (i := 1909) (by decide +kernel), List.mem_of_getElem? (i := 1910) (by decide +kernel)⟩
theorem lw_p127 : lw_okq (⟨"ClassGateModel", "local", "(II)Z"⟩, 82) := ⟨⟨by decide +kernel, by decide +kernel⟩, List.mem_of_getElem? (i := 1356) (by decide +kernel), List.mem_of_getElem? (i := 1913) (by decide +kernel), List.mem_of_getElem? (i := 1914) (by decide +kernel)⟩
def lw_privs_8 : List (MethodName × Nat) := [(⟨"ClassGateModel", "checkAttributes", "(III)I"⟩, 82), (⟨"ClassGateModel", "is", "(ILjava/lang/String;)Z"⟩, 82), (⟨"ClassGateModel", "attribute", "(IIIIII)I"⟩, 82), (⟨"ClassGateModel", "code", "(IIII)I"⟩, 82), (⟨"ClassGateModel", "bootstraps", "(II)I"⟩, 82), (⟨"ClassGateModel", "components", "(II)I"⟩, 82), (⟨"ClassGateModel", "checkMethods", "()Z"⟩, 82), (⟨"ClassGateModel", "flagsFit", "(IZZ)Z"⟩, 82), (⟨"ClassGateModel", "wide", "(II)Z"⟩, 82), (⟨"ClassGateModel", "noCode", "(I)Z"⟩, 82), (⟨"ClassGateModel", "cuts", "(I)Z"⟩, 82), (⟨"ClassGateModel", "b1", "(I)I"⟩, 82), (⟨"ClassGateModel", "formed", "(II)I"⟩, 82), (⟨"ClassGateModel", "b4", "(I)I"⟩, 82), (⟨"ClassGateModel", "operands", "(II)Z"⟩, 82), (⟨"ClassGateModel", "local", "(II)Z"⟩, 82)]
theorem lw_r8 : ∀ q ∈ lw_privs_8, lw_okq q := List.forall_mem_cons.mpr ⟨lw_p112, List.forall_mem_cons.mpr ⟨lw_p113, List.forall_mem_cons.mpr ⟨lw_p114, List.forall_mem_cons.mpr ⟨lw_p115, List.forall_mem_cons.mpr ⟨lw_p116, List.forall_mem_cons.mpr ⟨lw_p117, List.forall_mem_cons.mpr ⟨lw_p118, List.forall_mem_cons.mpr ⟨lw_p119, List.forall_mem_cons.mpr ⟨lw_p120, List.forall_mem_cons.mpr ⟨lw_p121, List.forall_mem_cons.mpr ⟨lw_p122, List.forall_mem_cons.mpr ⟨lw_p123, List.forall_mem_cons.mpr ⟨lw_p124, List.forall_mem_cons.mpr ⟨lw_p125, List.forall_mem_cons.mpr ⟨lw_p126, List.forall_mem_cons.mpr ⟨lw_p127, fun _ h => absurd h List.not_mem_nil⟩⟩⟩⟩⟩⟩⟩⟩⟩⟩⟩⟩⟩⟩⟩⟩
theorem lw_p128 : lw_okq (⟨"ClassGateModel", "b2", "(I)I"⟩, 82) := ⟨⟨by decide +kernel, by decide +kernel⟩, List.mem_of_getElem? (i := 1356) (by decide +kernel), List.mem_of_getElem? (i := 1917) (by decide +kernel), List.mem_of_getElem? (i := 1918) (by decide +kernel)⟩
theorem lw_p129 : lw_okq (⟨"ClassGateModel", "descOf", "(I)I"⟩, 82) := ⟨⟨by decide +kernel, by decide +kernel⟩, List.mem_of_getElem? (i := 1356) (by decide +kernel), List.mem_of_getElem? (i := 1921) (by decide +kernel), List.mem_of_getElem? (i := 1922) (by decide +kernel)⟩
theorem lw_p130 : lw_okq (⟨"ClassGateModel", "nameOf", "(I)I"⟩, 82) := ⟨⟨by decide +kernel, by decide +kernel⟩, List.mem_of_getElem? (i := 1356) (by decide +kernel), List.mem_of_getElem? (i := 1925) (by decide +kernel), List.mem_of_getElem? (i := 1926) (by decide +kernel)⟩
theorem lw_p131 : lw_okq (⟨"ClassGateModel", "aims", "(I)Z"⟩, 82) := ⟨⟨by decide +kernel, by decide +kernel⟩, List.mem_of_getElem? (i := 1356) (by decide +kernel), List.mem_of_getElem? (i := 1929) (by decide +kernel), List.mem_of_getElem? (i := 1930) (by decide +kernel)⟩
theorem lw_p132 : lw_okq (⟨"ClassGateModel", "s2", "(I)I"⟩, 82) := ⟨⟨by decide +kernel, by decide +kernel⟩, List.mem_of_getElem? (i := 1356) (by decide +kernel), List.mem_of_getElem? (i := 1933) (by decide +kernel), List.mem_of_getElem? (i := 1934) (by decide +kernel)⟩
theorem lw_p133 : lw_okq (⟨"ClassGateModel", "starts", "(J)Z"⟩, 82) := ⟨⟨by decide +kernel, by decide +kernel⟩, List.mem_of_getElem? (i := 1356) (by decide +kernel), List.mem_of_getElem? (i := 1937) (by decide +kernel), List.mem_of_getElem? (i := 1938) (by decide +kernel)⟩
theorem lw_p134 : lw_okq (⟨"ClassGateModel", "ways", "(I)I"⟩, 82) := ⟨⟨by decide +kernel, by decide +kernel⟩, List.mem_of_getElem? (i := 1356) (by decide +kernel), List.mem_of_getElem? (i := 1941) (by decide +kernel), List.mem_of_getElem? (i := 1942) (by decide +kernel)⟩
theorem lw_p135 : lw_okq (⟨"ClassGateModel", "wayAt", "(II)I"⟩, 82) := ⟨⟨by decide +kernel, by decide +kernel⟩, List.mem_of_getElem? (i := 1356) (by decide +kernel), List.mem_of_getElem? (i := 1945) (by decide +kernel), List.mem_of_getElem? (i := 1946) (by decide +kernel)⟩
theorem lw_p136 : lw_okq (⟨"ClassGateModel", "plain", "(II)I"⟩, 82) := ⟨⟨by decide +kernel, by decide +kernel⟩, List.mem_of_getElem? (i := 1356) (by decide +kernel), List.mem_of_getElem? (i := 1953) (by decide +kernel), List.mem_of_getElem? (i := 1954) (by decide +kernel)⟩
theorem lw_p137 : lw_okq (⟨"ClassGateModel", "first", "(II)I"⟩, 82) := ⟨⟨by decide +kernel, by decide +kernel⟩, List.mem_of_getElem? (i := 1356) (by decide +kernel), List.mem_of_getElem? (i := 1957) (by decide +kernel), List.mem_of_getElem? (i := 1958) (by decide +kernel)⟩
theorem lw_p138 : lw_okq (⟨"ClassGateModel", "second", "(II)I"⟩, 82) := ⟨⟨by decide +kernel, by decide +kernel⟩, List.mem_of_getElem? (i := 1356) (by decide +kernel), List.mem_of_getElem? (i := 1961) (by decide +kernel), List.mem_of_getElem? (i := 1962) (by decide +kernel)⟩
def lw_privs_9 : List (MethodName × Nat) := [(⟨"ClassGateModel", "b2", "(I)I"⟩, 82), (⟨"ClassGateModel", "descOf", "(I)I"⟩, 82), (⟨"ClassGateModel", "nameOf", "(I)I"⟩, 82), (⟨"ClassGateModel", "aims", "(I)Z"⟩, 82), (⟨"ClassGateModel", "s2", "(I)I"⟩, 82), (⟨"ClassGateModel", "starts", "(J)Z"⟩, 82), (⟨"ClassGateModel", "ways", "(I)I"⟩, 82), (⟨"ClassGateModel", "wayAt", "(II)I"⟩, 82), (⟨"ClassGateModel", "plain", "(II)I"⟩, 82), (⟨"ClassGateModel", "first", "(II)I"⟩, 82), (⟨"ClassGateModel", "second", "(II)I"⟩, 82)]
theorem lw_r9 : ∀ q ∈ lw_privs_9, lw_okq q := List.forall_mem_cons.mpr ⟨lw_p128, List.forall_mem_cons.mpr ⟨lw_p129, List.forall_mem_cons.mpr ⟨lw_p130, List.forall_mem_cons.mpr ⟨lw_p131, List.forall_mem_cons.mpr ⟨lw_p132, List.forall_mem_cons.mpr ⟨lw_p133, List.forall_mem_cons.mpr ⟨lw_p134, List.forall_mem_cons.mpr ⟨lw_p135, List.forall_mem_cons.mpr ⟨lw_p136, List.forall_mem_cons.mpr ⟨lw_p137, List.forall_mem_cons.mpr ⟨lw_p138, fun _ h => absurd h List.not_mem_nil⟩⟩⟩⟩⟩⟩⟩⟩⟩⟩⟩
def lw_privs : List (MethodName × Nat) := lw_privs_1 ++ (lw_privs_2 ++ (lw_privs_3 ++ (lw_privs_4 ++ (lw_privs_5 ++ (lw_privs_6 ++ (lw_privs_7 ++ (lw_privs_8 ++ (lw_privs_9))))))))
def lw_tbl : List Cond := k2_sels lw_privs ++ tables_1
theorem lw_privs_ok : ∀ q ∈ lw_privs, lw_okq q := by
  show ∀ q ∈ lw_privs_1 ++ (lw_privs_2 ++ (lw_privs_3 ++ (lw_privs_4 ++ (lw_privs_5 ++ (lw_privs_6 ++ (lw_privs_7 ++ (lw_privs_8 ++ (lw_privs_9)))))))), lw_okq q
  exact List.forall_mem_append.mpr ⟨lw_r1, List.forall_mem_append.mpr ⟨lw_r2, List.forall_mem_append.mpr ⟨lw_r3, List.forall_mem_append.mpr ⟨lw_r4, List.forall_mem_append.mpr ⟨lw_r5, List.forall_mem_append.mpr ⟨lw_r6, List.forall_mem_append.mpr ⟨lw_r7, List.forall_mem_append.mpr ⟨lw_r8, lw_r9⟩⟩⟩⟩⟩⟩⟩⟩
end
section
/-! ===== BEGIN words of one list among another's, by their places ===== -/
theorem goodIn_r {big : List Cond} (ws : List Cond) (ps : List Nat) (hp : ws = ps.filterMap (fun i => big[i]?)) (h : ws.all goodWord = true) : GoodIn big ws := by
  intro w hw
  have h1 := List.all_eq_true.mp h w hw
  rw [hp] at hw
  obtain ⟨i, -, hi⟩ := List.mem_filterMap.mp hw
  have hm : w ∈ big := by first | exact List.mem_of_getElem? hi | exact List.getElem?_mem hi
  exact ⟨hm, good_of_word h1⟩
theorem goodIn_app {big a b : List Cond} (ha : GoodIn big a) (hb : GoodIn big b) : GoodIn big (a ++ b) := fun w h => (List.mem_append.mp h).elim (ha w) (hb w)
theorem goodIn_ca {big a b : List Cond} {c : Cond} (ha : GoodIn big (c :: a)) (hb : GoodIn big b) : GoodIn big (c :: (a ++ b)) := fun w h => (List.mem_cons.mp h).elim (fun e => ha w (List.mem_cons.mpr (Or.inl e))) (fun h => (List.mem_append.mp h).elim (fun h => ha w (List.mem_cons.mpr (Or.inr h))) (hb w))
theorem goodIn_sub {big ws : List Cond} (hm : ∀ w ∈ ws, w ∈ big) (h : ws.all goodWord = true) : GoodIn big ws := fun w hw => ⟨hm w hw, good_of_word (List.all_eq_true.mp h w hw)⟩
/-! ===== END ===== -/

/-! ===== BEGIN exceptions that leave a method, and their catching by the caller (launches without stack traces) ===== -/
section VXA
/-! The laws vx_back, vx_callV, vx_callS, vx_callSW, vx_throw0, vx_throwS follow proofs of the library, with one case more: JvmDerived/Free/Laws.lean (Back.of_free), Shelf42/LK1.lean (callV, callS), Shelf/KitTraced.lean (throwNew0V, throwNewS). -/
/-- where a method has thrown q: the class by its name, the cell, what was written, the world -/
def vx_T (XC : String → State → State → Prop) (st : State) (q : Addr) (t : State) (mc ms : Nat) (free : Addr → Prop) : Prop :=
  ∃ (E : String) (ce : Cell) (L : List Loc), XC E st t ∧ t.heap[q]? = some ce ∧ ce.vm = .none ∧ st.vm.findClass E = some ce.cls ∧ st.WarmedH t.vm ∧ st.sameButNew ({ t with vm := st.vm } : State) L mc ms ∧ ∀ z ∈ L, free z.base
def vx_Q (Qc : Array Value → State → Outcome → State → Prop) (XC : String → State → State → Prop) (mc ms : Nat) (free : Addr → Prop) : Array Value → State → Outcome → State → Prop := fun a st o t =>
  (Qc a st o t ∧ ∃ L, FrameEnd st o t L mc ms ∧ ∀ q ∈ L, free q.base) ∨ ∃ q, o = .threw q ∧ vx_T XC st q t mc ms free
/-- a callee that returns or throws -/
def vx_Met (l : Launch) (y : MethodName) (ws : List Cond) (rm : Room) (Pc : Array Value → State → Prop) (Qc : Array Value → State → Outcome → State → Prop) (XC : String → State → State → Prop) (mc ms : Nat) (free : Addr → Prop) : Prop :=
  MetFree l y (headSpec ws rm) Pc (fun _ _ _ _ _ => True) (vx_Q Qc XC mc ms free)
def vx_Post (XC : String → State → State → Prop) (mc ms : Nat) (free : Addr → Prop) : Pt → Array Value → Addr → Pt → Prop := fun A a q B =>
  ∃ (g : JFrame) (mk : MethodId) (t : State) (L : List Loc) (E : String) (ce : Cell), B.U.heap = t.heap ∧ B.U.vm = t.vm ∧ XC E (A.U.calling g mk a) t ∧ t.heap[q]? = some ce ∧ ce.vm = .none ∧ A.U.vm.findClass E = some ce.cls ∧ B.locs = A.locs ++ L ∧ (∀ z ∈ L, free z.base) ∧ B.cells = A.cells + mc ∧ B.slots = A.slots + ms
def vx_Back (l : Launch) (R : Room) (p : Program) (e : Env) (below : List Frame) (s : State) (sargs : Array Value) (y : MethodName) (len W9 : Nat)
    (Pre : Pt → Array Value → Prop) (Post : Pt → Array Value → Option Value → Pt → Prop) (PostX : Pt → Array Value → Addr → Pt → Prop) : Prop :=
  ∀ (m : MethodId) (meth : Method) (c : Code) (A : Pt) (g : JFrame) (ig : Instr) (mk : MethodId) (a : Array Value),
    Stand p l e R s m sargs below meth c A.U A.locs A.cells A.slots → g.method = m → g.locals.size = c.maxLocals → decode c.code g.pc = .ok (ig, len) →
    2 * g.monitorRoom + (g.stack.map fun v => v.category).sum ≤ W9 → A.U.methodNamed? y = some mk → Pre A a →
    (∃ (v : Option Value) (B : Pt), Stand p l e R s m sargs below meth c B.U B.locs B.cells B.slots ∧ Post A a v B ∧
      Steps p.tables e below (doInvoke e (A.U.setTop g) [] mk a).1 (B.U.setTop { g with pc := g.pc + len, stack := v.toList ++ g.stack })) ∨
    (∃ (q : Addr) (B : Pt), Stand p l e R s m sargs below meth c B.U B.locs B.cells B.slots ∧ PostX A a q B ∧
      Steps p.tables e below (doInvoke e (A.U.setTop g) [] mk a).1 ((B.U.setTop g).pushFrame (.throwing q)))
section Payer
variable {l : Launch} {R : Room} {p : Program} {e : Env} {below : List Frame} {s : State} {sargs : Array Value} {y : MethodName} {len W9 : Nat}
theorem vx_back {ws : List Cond} {rm : Room} {Pc : Array Value → State → Prop} {Qc : Array Value → State → Outcome → State → Prop} {XC : String → State → State → Prop} {mc ms : Nat} {free : Addr → Prop} {bytes : ByteArray} {maxL : Nat} {ret : Option FieldType}
    (hM : vx_Met l y ws rm Pc Qc XC mc ms free) (hblind : FrameBlind Pc) (hrc : rm.cells = mc) (hrs : rm.slots = ms)
    (hframes : rm.frames + 1 ≤ R.frames) (hlocals : W9 + (maxL + 11) + rm.locals ≤ R.locals)
    (hws : ∀ w ∈ ws, ∀ a' U, s.WarmedH U.vm → w.before a' U = true) (hcode : Cond.code y bytes maxL ret ∈ ws) (hinit : ∀ a' U, s.WarmedH U.vm → (Cond.initialized y.cls).before a' U = true) :
    vx_Back l R p e below s sargs y len W9 (PreOf R mc ms Pc) (PostOf Qc mc ms free) (vx_Post XC mc ms free) := by
  intro m meth c A g ig mk a X hg hsize hdg hW hn hp
  have h1 : (headSpec ws rm).pre.before a A.U = true := atoms_intro fun w hw => hws w hw _ _ X.warmed
  have h2 : (Cond.code y bytes maxL ret).before a A.U = true := hws _ hcode _ _ X.warmed
  have h3 : (Cond.initialized y.cls).before a A.U = true := hinit _ _ X.warmed
  have h4 : A.cells + (headSpec ws rm).room.cells ≤ R.cells := by rw [show (headSpec ws rm).room.cells = mc from hrc]; exact hp.1
  have h5 : A.slots + (headSpec ws rm).room.slots ≤ R.slots := by rw [show (headSpec ws rm).room.slots = ms from hrs]; exact hp.2.1
  have hPc : Pc a (A.U.calling g mk a) := hblind _ _ _ _ hp.2.2
  obtain ⟨U, Ls, c0, s0⟩ := A
  dsimp only [Pt.U, Pt.locs, Pt.cells, Pt.slots] at h1 h2 h3 h4 h5 X hn hPc ⊢
  obtain ⟨methY, cY, hmY, hcY, -, hlY, -, -, -, -⟩ := Cond.code_spec hn h2
  obtain ⟨kY, hkY, -⟩ := className_of_methodNamed hn
  have hinitY : kY.init = .initialized := Cond.initialized_spec (findClass_of_methodNamed hn) hkY h3
  have h : At U g.method c below := by rw [hg]; exact X.here
  have hlocals9 : W9 + (maxL + 11) + (headSpec ws rm).room.locals ≤ R.locals := hlocals
  have happ : (headSpec ws rm).appliesLoose y e.platform (U.calling g mk a) = true :=
    Spec.appliesLoose_calling (g := g) h hdg hn hkY hinitY
      (X.room_calling (g := g) (R' := (headSpec ws rm).room) hsize hmY hcY hframes (by rw [hlY]; omega) h4 h5) h1
  obtain ⟨mid, hmid⟩ := h.above
  have hfr : (U.setTop g).frames = (.java g :: mid) ++ below := by rw [State.frames_setTop' g h.top, hmid]; rfl
  obtain ⟨o, s₂, hsteps, -, hend, hq⟩ := Steps.callFree hM p X.admits X.cas X.clock (acts := []) hfr happ hPc trivial
  have hq' : vx_Q Qc XC mc ms free a (U.calling g mk a) o s₂ := hq
  rw [State.frames_setTop' g h.top] at hend
  obtain ⟨g₀, hg0⟩ := Option.isSome_iff_exists.mp h.top
  obtain ⟨r, hr⟩ := State.topJava?_eq_some.mp hg0
  have hr' : (({ U with heap := s₂.heap, slotsUsed := s₂.slotsUsed } : State).setVm s₂.vm).frames = .java g₀ :: r := hr
  rcases hq' with ⟨hqc, L, hfe, hL⟩ | ⟨q, rfl, E, ce, L, hx, hce, hcv, hcl, hW₂, hsm, hL⟩
  · obtain ⟨⟨v, rfl⟩, hW₂, e2, q2, q3, q4, q5, q6⟩ := id hfe
    have e3 : s₂ = ({ (U.calling g mk a).setFrames s₂.frames with heap := s₂.heap, slotsUsed := s₂.slotsUsed } : State).setVm s₂.vm := by
      have : s₂ = ({ s₂ with vm := (U.calling g mk a).vm } : State).setVm s₂.vm := rfl
      rw [e2] at this
      exact this
    obtain ⟨c₂, i₂, len₂, hc₂, hd₂, hf₂⟩ := hend
    have hW' : U.WarmedH s₂.vm := hW₂
    have hcc : c₂ = c := by
      have h1 : s₂.code? g.method = U.code? g.method := by
        rw [State.code?_eq, State.code?_eq, hW'.alike.method?]
      exact Option.some.inj (hc₂.symm.trans (h1.trans h.code))
    subst hcc
    have hlen : len₂ = len := by rw [hdg] at hd₂; cases hd₂; rfl
    subst hlen
    have hs₂ : s₂ = (({ U with heap := s₂.heap, slotsUsed := s₂.slotsUsed } : State).setVm s₂.vm).setTop { g with pc := g.pc + len₂, stack := v.toList ++ g.stack } := by
      refine e3.trans ?_
      rw [hf₂, State.calling_eq h.top, State.setFrames_setFrames, State.setTop_of_frames _ hr', hr]
      rfl
    have hsame : U.sameButNew ({ U with heap := s₂.heap, slotsUsed := s₂.slotsUsed } : State) L mc ms := by
      refine ⟨?_, q2, q3, q4, q5, q6⟩
      obtain ⟨t, ht, -⟩ := State.frames_cons hr
      show ({ U with heap := s₂.heap, slotsUsed := s₂.slotsUsed } : State) = { U.setFrames U.frames with heap := s₂.heap, slotsUsed := s₂.slotsUsed }
      rw [State.setFrames_self ht]
    subst hg
    refine Or.inl ⟨v, ⟨(({ U with heap := s₂.heap, slotsUsed := s₂.slotsUsed } : State).setVm s₂.vm), Ls ++ L, c0 + mc, s0 + ms⟩,
      ⟨X.admits, X.cas, X.clock, X.frames, X.room, X.hears, X.method, X.code, (X.here.setHeapUsed s₂.heap s₂.slotsUsed).setVm hW'.alike, X.tail, State.WarmedH.trans X.warmed hW', X.limits, X.bytes, X.same.trans (hsame.setVm s.vm)⟩,
      ⟨g, mk, s₂, L, rfl, rfl, hqc, rfl, hL, rfl, rfl⟩, ?_⟩
    show Steps p.tables e below _ ((({ U with heap := s₂.heap, slotsUsed := s₂.slotsUsed } : State).setVm s₂.vm).setTop { g with pc := g.pc + len₂, stack := v.toList ++ g.stack })
    rw [← hs₂]
    exact hsteps
  · obtain ⟨e2, q2, q3, q4, q5, q6⟩ := id hsm
    have e3 : s₂ = ({ (U.calling g mk a).setFrames s₂.frames with heap := s₂.heap, slotsUsed := s₂.slotsUsed } : State).setVm s₂.vm := by
      have : s₂ = ({ s₂ with vm := (U.calling g mk a).vm } : State).setVm s₂.vm := rfl
      rw [e2] at this
      exact this
    have hf₂ : s₂.frames = .throwing q :: .java g :: U.frames.tail := hend
    have hW' : U.WarmedH s₂.vm := hW₂
    have hs₂ : s₂ = ((({ U with heap := s₂.heap, slotsUsed := s₂.slotsUsed } : State).setVm s₂.vm).setTop g).pushFrame (.throwing q) := by
      refine e3.trans ?_
      rw [hf₂, State.calling_eq h.top, State.setFrames_setFrames, State.pushFrame, State.frames_setTop _ hr', State.setTop_of_frames _ hr', State.setFrames_setFrames, hr]
      rfl
    have hsame : U.sameButNew ({ U with heap := s₂.heap, slotsUsed := s₂.slotsUsed } : State) L mc ms := by
      refine ⟨?_, q2, q3, q4, q5, q6⟩
      obtain ⟨t, ht, -⟩ := State.frames_cons hr
      show ({ U with heap := s₂.heap, slotsUsed := s₂.slotsUsed } : State) = { U.setFrames U.frames with heap := s₂.heap, slotsUsed := s₂.slotsUsed }
      rw [State.setFrames_self ht]
    subst hg
    refine Or.inr ⟨q, ⟨(({ U with heap := s₂.heap, slotsUsed := s₂.slotsUsed } : State).setVm s₂.vm), Ls ++ L, c0 + mc, s0 + ms⟩,
      ⟨X.admits, X.cas, X.clock, X.frames, X.room, X.hears, X.method, X.code, (X.here.setHeapUsed s₂.heap s₂.slotsUsed).setVm hW'.alike, X.tail, State.WarmedH.trans X.warmed hW', X.limits, X.bytes, X.same.trans (hsame.setVm s.vm)⟩,
      ⟨g, mk, s₂, L, E, ce, rfl, rfl, hx, hce, hcv, hcl, rfl, hL, rfl, rfl⟩, ?_⟩
    show Steps p.tables e below _ (((({ U with heap := s₂.heap, slotsUsed := s₂.slotsUsed } : State).setVm s₂.vm).setTop g).pushFrame (.throwing q))
    rw [← hs₂]
    exact hsteps
end Payer
section Calls
variable {p : Program} {l : Launch} {e : Env} {R : Room} {s : State} {m : MethodId} {args : Array Value} {below : List Frame} {meth : Method} {c : Code} {T : State} {locs : List Loc} {cells slots : Nat}
theorem vx_callV (X : Stand p l e R s m args below meth c T locs cells slots) (hexec : p.tables.exec = Jvm.exec) {own C : String} {index : Nat} {y : MethodName} {bytes : ByteArray} {maxL : Nat} {ret : Option FieldType}
    (hown : s.vm.findClass own = some m.cls) (hlink : (Cond.methodLink own index y).before args s = true) (hinst : (Cond.instanceMethod y).before args s = true) (hsel : (Cond.selects C y y).before args s = true)
    (hcode : (Cond.code y bytes maxL ret).before args s = true) (hy : y.cls ≠ "java/lang/invoke/MethodHandle" ∧ y.cls ≠ "java/lang/invoke/VarHandle")
    {W9 : Nat} {Pre : Pt → Array Value → Prop} {Post : Pt → Array Value → Option Value → Pt → Prop} {PostX : Pt → Array Value → Addr → Pt → Prop} (hK : vx_Back l R p e below s args y 3 W9 Pre Post PostX)
    {b : Addr} {cellB : Cell} (hcell : T.heap[b]? = some cellB) (hobj : cellB.vm.isStatics = false) (hcls : s.vm.findClass C = some cellB.cls)
    {g : JFrame} (hg : g.method = m) (hsize : g.locals.size = c.maxLocals) {argsL rest : List Value} (hlen : ∀ sig, parseMethodDescriptor y.desc = some sig → argsL.length = sig.parameters.length)
    (hstack : g.stack = argsL.reverse ++ .ref b :: rest) (hW : 2 * g.monitorRoom + (rest.map fun v => v.category).sum ≤ W9) (hdg : decode c.code g.pc = .ok (.invokevirtual index, 3))
    (hpre : ∀ vm₁, s.WarmedH vm₁ → Pre ⟨T.setVm vm₁, locs, cells, slots⟩ (Value.ref b :: argsL).toArray) :
    (∃ (v : Option Value) (vm₁ : Vm) (B : Pt), s.WarmedH vm₁ ∧ Stand p l e R s m args below meth c B.U B.locs B.cells B.slots ∧ Post ⟨T.setVm vm₁, locs, cells, slots⟩ (Value.ref b :: argsL).toArray v B ∧
      ∀ target, Steps p.tables e below (B.U.setTop { g with pc := g.pc + 3, stack := v.toList ++ rest }) target → Steps p.tables e below (T.setTop g) target) ∨
    (∃ (q : Addr) (vm₁ : Vm) (B : Pt), s.WarmedH vm₁ ∧ Stand p l e R s m args below meth c B.U B.locs B.cells B.slots ∧ PostX ⟨T.setVm vm₁, locs, cells, slots⟩ (Value.ref b :: argsL).toArray q B ∧
      Steps p.tables e below (T.setTop g) ((B.U.setTop { g with stack := rest }).pushFrame (.throwing q))) := by
  obtain ⟨mk, methM, hnamed, hmethM, hstM, habM⟩ := Cond.instanceMethod_spec hinst
  obtain ⟨methM', cM, hmethM', -, -, -, -, -, -, hsigM⟩ := Cond.code_spec hnamed hcode
  cases hmethM.symm.trans hmethM'
  obtain ⟨c2, r2, m2, q1, q2, q3, q4, kP, hkP, hkPi⟩ := Cond.selects_spec hsel
  cases hcls.symm.trans q1
  cases (State.methodFound?_of_named hnamed hy).symm.trans q2
  cases hnamed.symm.trans q3
  have hselP : selectMethod e.platform s.vm cellB.cls mk = .method mk := by rw [Launch.admits_selectMethod X.admits]; exact q4
  obtain ⟨vm₁, X₁, hstep₁⟩ := X.invokevirtual hexec hown hlink hnamed hmethM hstM hkP hkPi hy (a := b) (cell := cellB) hcell
    (fun z h => by rw [h] at hobj; cases hobj) hselP hmethM habM hkP hkPi (g := g) hg (argsL := argsL) (rest := rest) (hlen _ hsigM) hstack hdg
  rcases hK m meth c ⟨T.setVm vm₁, locs, cells, slots⟩ { g with stack := rest } (.invokevirtual index) mk (Value.ref b :: argsL).toArray X₁ hg hsize hdg hW (X₁.named hnamed) (hpre vm₁ X₁.warmed) with ⟨v, B, X', hpost, hsteps⟩ | ⟨q, B, X', hpost, hsteps⟩
  · exact Or.inl ⟨v, vm₁, B, X₁.warmed, X', hpost, fun target h => hstep₁ _ fun acts => by rw [doInvoke_state]; exact hsteps.trans h⟩
  · exact Or.inr ⟨q, vm₁, B, X₁.warmed, X', hpost, hstep₁ _ fun acts => by rw [doInvoke_state]; exact hsteps⟩
theorem vx_callS (X : Stand p l e R s m args below meth c T locs cells slots) (hexec : p.tables.exec = Jvm.exec) {own : String} {index : Nat} {y : MethodName} {bytes : ByteArray} {maxL : Nat} {ret : Option FieldType}
    (hown : s.vm.findClass own = some m.cls) (hlink : (Cond.methodLink own index y).before args s = true) (hstat : (Cond.static y).before args s = true) (hinit : (Cond.initialized y.cls).before args s = true)
    (hcode : (Cond.code y bytes maxL ret).before args s = true) (hy : y.cls ≠ "java/lang/invoke/MethodHandle" ∧ y.cls ≠ "java/lang/invoke/VarHandle")
    {W9 : Nat} {Pre : Pt → Array Value → Prop} {Post : Pt → Array Value → Option Value → Pt → Prop} {PostX : Pt → Array Value → Addr → Pt → Prop} (hK : vx_Back l R p e below s args y 3 W9 Pre Post PostX)
    {g : JFrame} (hg : g.method = m) (hsize : g.locals.size = c.maxLocals) {argsL rest : List Value} (hlen : ∀ sig, parseMethodDescriptor y.desc = some sig → argsL.length = sig.parameters.length)
    (hstack : g.stack = argsL.reverse ++ rest) (hW : 2 * g.monitorRoom + (rest.map fun v => v.category).sum ≤ W9) (hdg : decode c.code g.pc = .ok (.invokestatic index, 3))
    (hpre : ∀ vm₁, s.WarmedH vm₁ → Pre ⟨T.setVm vm₁, locs, cells, slots⟩ argsL.toArray) :
    (∃ (v : Option Value) (vm₁ : Vm) (B : Pt), s.WarmedH vm₁ ∧ Stand p l e R s m args below meth c B.U B.locs B.cells B.slots ∧ Post ⟨T.setVm vm₁, locs, cells, slots⟩ argsL.toArray v B ∧
      ∀ target, Steps p.tables e below (B.U.setTop { g with pc := g.pc + 3, stack := v.toList ++ rest }) target → Steps p.tables e below (T.setTop g) target) ∨
    (∃ (q : Addr) (vm₁ : Vm) (B : Pt), s.WarmedH vm₁ ∧ Stand p l e R s m args below meth c B.U B.locs B.cells B.slots ∧ PostX ⟨T.setVm vm₁, locs, cells, slots⟩ argsL.toArray q B ∧
      Steps p.tables e below (T.setTop g) ((B.U.setTop { g with stack := rest }).pushFrame (.throwing q))) := by
  obtain ⟨mk, hnamed⟩ := Cond.code_named hcode
  obtain ⟨methM, cM, hmethM, -, -, -, -, -, -, hsigM⟩ := Cond.code_spec hnamed hcode
  have hstatic : methM.isStatic = true := Cond.static_spec hnamed hmethM hstat
  obtain ⟨kP, hkP, -⟩ := className_of_methodNamed hnamed
  have hinitP : kP.init = .initialized := Cond.initialized_spec (findClass_of_methodNamed hnamed) hkP hinit
  obtain ⟨vm₁, X₁, hstep₁⟩ := X.invokestatic hexec hown hlink hnamed hmethM hstatic hkP hinitP hy (g := g) hg (argsL := argsL) (rest := rest) (hlen _ hsigM) hstack hdg
  rcases hK m meth c ⟨T.setVm vm₁, locs, cells, slots⟩ { g with stack := rest } (.invokestatic index) mk argsL.toArray X₁ hg hsize hdg hW (X₁.named hnamed) (hpre vm₁ X₁.warmed) with ⟨v, B, X', hpost, hsteps⟩ | ⟨q, B, X', hpost, hsteps⟩
  · exact Or.inl ⟨v, vm₁, B, X₁.warmed, X', hpost, fun target h => hstep₁ _ fun acts => by rw [doInvoke_state]; exact hsteps.trans h⟩
  · exact Or.inr ⟨q, vm₁, B, X₁.warmed, X', hpost, hstep₁ _ fun acts => by rw [doInvoke_state]; exact hsteps⟩
end Calls
theorem vx_cls {s : State} {T : State} {vm₁ : Vm} {E : String} {k : ClassId} (hW : s.WarmedH vm₁) (h : (T.setVm vm₁).vm.findClass E = some k) : s.vm.findClass E = some k := by
  have h1 : vm₁.findClass E = some k := h
  rw [hW.alike.findClass] at h1
  exact h1
/-- the method's frame g, with q thrown over it -/
def vx_W (p : Program) (l : Launch) (e : Env) (R : Room) (s : State) (m : MethodId) (args : Array Value) (below : List Frame) (meth : Method) (c : Code) (H : Heap) (locs : List Loc) (cells slots : Nat) (Q : State → Prop) (g : JFrame) (q : Addr) : Prop :=
  ∀ T : State, T.heap = H → Stand p l e R s m args below meth c T locs cells slots → ∃ t, Steps p.tables e below ((T.setTop g).pushFrame (.throwing q)) t ∧ Q t
def vx_Run (p : Program) (l : Launch) (e : Env) (R : Room) (s : State) (m : MethodId) (args : Array Value) (below : List Frame) (meth : Method) (c : Code) (H : Heap) (locs : List Loc) (cells slots mc ms : Nat) (g : JFrame) (rest : List Value) (Qa : State → Outcome → State → Prop) (XC : String → State → State → Prop) (free : Addr → Prop) : Prop :=
  ∀ T : State, T.heap = H → Stand p l e R s m args below meth c T locs cells slots →
    (∃ (v : Option Value) (st₀ t T' : State) (L : List Loc), st₀.heap = H ∧ Stand p l e R s m args below meth c T' (locs ++ L) (cells + mc) (slots + ms) ∧ (∀ q ∈ L, free q.base) ∧ T'.heap = t.heap ∧ T'.vm = t.vm ∧ Qa st₀ (.returned v) t ∧
      Goes p e below T g T' { g with pc := g.pc + 3, stack := v.toList ++ rest }) ∨
    (∃ (q : Addr) (st₀ t T' : State) (L : List Loc) (E : String) (ce : Cell), st₀.heap = H ∧ Stand p l e R s m args below meth c T' (locs ++ L) (cells + mc) (slots + ms) ∧ (∀ z ∈ L, free z.base) ∧ T'.heap = t.heap ∧ T'.vm = t.vm ∧ XC E st₀ t ∧ t.heap[q]? = some ce ∧ ce.vm = .none ∧ s.vm.findClass E = some ce.cls ∧
      Steps p.tables e below (T.setTop g) ((T'.setTop { g with stack := rest }).pushFrame (.throwing q)))
def vx_X {S : Type} (px : S → Prop) (B : String → S → State → Prop) (A : Nat → Prop) : String → State → State → Prop := fun E st t => ∃ u : S, px u ∧ B E u t ∧ va_F A st t
section Runs
variable {p : Program} {l : Launch} {e : Env} {R : Room} {s : State} {m : MethodId} {args : Array Value} {below : List Frame} {meth : Method} {c : Code} {H : Heap} {locs : List Loc} {cells slots : Nat}
variable {y : MethodName} {bytes cc : ByteArray} {maxL nL mc ms n index : Nat} {ret : Option FieldType} {ws : List Cond} {rm : Room} {Pc : Array Value → State → Prop} {Qc : Array Value → State → Outcome → State → Prop} {XC : String → State → State → Prop} {free : Addr → Prop} {Ts : List Cond} {own C : String} {b : Addr} {As rest : List Value} {g : JFrame}
theorem vx_callBack (cb : CallB R s args own index y bytes maxL ret ws rm mc ms n) (hM : vx_Met l y ws rm Pc Qc XC mc ms free) (hbl : FrameBlind Pc) : vx_Back l R p e below s args y 3 8 (PreOf R mc ms Pc) (PostOf Qc mc ms free) (vx_Post XC mc ms free) := by
  obtain ⟨hrc, hrs, hfr, hlo, hws, hcw, -, hini, -⟩ := cb
  exact vx_back (bytes := bytes) (maxL := maxL) (ret := ret) hM hbl hrc hrs hfr hlo hws hcw (fun a' U hW => word_at hW (Or.inl (by first | rfl | simp [Cond.onTables, Cond.keeps, Cond.steady])) hini)
theorem vx_runV (S : CallFix p m c cc nL s args Ts own) (hM : vx_Met l y ws rm Pc Qc XC mc ms free) (cw : CallW R s args own C index y bytes maxL ret ws rm mc ms n) (hp : PreV s H C b Pc As)
    (hg : g.method = m) (hn : As.length = n) (hsize : g.locals.size = nL) (hstack : g.stack = As.reverse ++ .ref b :: rest) (hW : 2 * g.monitorRoom + (rest.map fun v => v.category).sum ≤ 8) (hdg : decode cc g.pc = .ok (.invokevirtual index, 3)) (hf : cells + mc ≤ R.cells ∧ slots + ms ≤ R.slots) :
    vx_Run p l e R s m args below meth c H locs cells slots mc ms g rest (Qc (Value.ref b :: As).toArray) XC free := by
  have hK : vx_Back l R p e below s args y 3 8 (PreOf R mc ms Pc) (PostOf Qc mc ms free) (vx_Post XC mc ms free) := vx_callBack cw.1 hM hp.1
  obtain ⟨⟨-, -, -, -, -, -, hcode, -, hy, hlen, hl⟩, hin, hse⟩ := cw
  obtain ⟨hx, hb, hml, ho, -⟩ := S
  obtain ⟨-, ⟨cellB, hcB, hoB, hclB⟩, hPc⟩ := hp
  intro T hT X
  rcases vx_callV X hx (C := C) (bytes := bytes) (maxL := maxL) (ret := ret) ho hl hin hse hcode hy hK (by rw [hT]; exact hcB) hoB hclB hg (hsize.trans hml.symm) (argsL := As) (rest := rest) (fun sig h => hn.trans (hlen sig h)) hstack hW (by rw [hb]; exact hdg)
    (fun vm₁ hW₁ => ⟨hf.1, hf.2, hPc (T.setVm vm₁) hT hW₁⟩) with ⟨v, vm₁, ⟨U', l2, c2, s2⟩, hW₁, X', ⟨g', mk, t, L, e1, e2, hq, h1, hL, h2, h3⟩, st⟩ | ⟨q, vm₁, ⟨U', l2, c2, s2⟩, hW₁, X', ⟨g', mk, t, L, E, ce, e1, e2, hq, hce, hcv, hcl, h1, hL, h2, h3⟩, st⟩
  · dsimp only [Pt.U, Pt.locs, Pt.cells, Pt.slots] at X' e1 e2 h1 h2 h3 st
    subst h1; subst h2; subst h3
    exact Or.inl ⟨v, (T.setVm vm₁).calling g' mk (Value.ref b :: As).toArray, t, U', L, hT, X', hL, e1, e2, hq, st⟩
  · dsimp only [Pt.U, Pt.locs, Pt.cells, Pt.slots] at X' e1 e2 h1 h2 h3 st hcl
    subst h1; subst h2; subst h3
    exact Or.inr ⟨q, (T.setVm vm₁).calling g' mk (Value.ref b :: As).toArray, t, U', L, E, ce, hT, X', hL, e1, e2, hq, hce, hcv, vx_cls hW₁ hcl, st⟩
theorem vx_runS (S : CallFix p m c cc nL s args Ts own) (hM : vx_Met l y ws rm Pc Qc XC mc ms free) (cw : CallB R s args own index y bytes maxL ret ws rm mc ms n ∧ (Cond.static y).before args s = true) (hp : PreS s H Pc As)
    (hg : g.method = m) (hn : As.length = n) (hsize : g.locals.size = nL) (hstack : g.stack = As.reverse ++ rest) (hW : 2 * g.monitorRoom + (rest.map fun v => v.category).sum ≤ 8) (hdg : decode cc g.pc = .ok (.invokestatic index, 3)) (hf : cells + mc ≤ R.cells ∧ slots + ms ≤ R.slots) :
    vx_Run p l e R s m args below meth c H locs cells slots mc ms g rest (Qc As.toArray) XC free := by
  have hK : vx_Back l R p e below s args y 3 8 (PreOf R mc ms Pc) (PostOf Qc mc ms free) (vx_Post XC mc ms free) := vx_callBack cw.1 hM hp.1
  obtain ⟨⟨-, -, -, -, -, -, hcode, hini, hy, hlen, hl⟩, hstt⟩ := cw
  obtain ⟨hx, hb, hml, ho, -⟩ := S
  intro T hT X
  rcases vx_callS X hx (bytes := bytes) (maxL := maxL) (ret := ret) ho hl hstt hini hcode hy hK hg (hsize.trans hml.symm) (argsL := As) (rest := rest) (fun sig h => hn.trans (hlen sig h)) hstack hW (by rw [hb]; exact hdg)
    (fun vm₁ hW₁ => ⟨hf.1, hf.2, hp.2 (T.setVm vm₁) hT hW₁⟩) with ⟨v, vm₁, ⟨U', l2, c2, s2⟩, hW₁, X', ⟨g', mk, t, L, e1, e2, hq, h1, hL, h2, h3⟩, st⟩ | ⟨q, vm₁, ⟨U', l2, c2, s2⟩, hW₁, X', ⟨g', mk, t, L, E, ce, e1, e2, hq, hce, hcv, hcl, h1, hL, h2, h3⟩, st⟩
  · dsimp only [Pt.U, Pt.locs, Pt.cells, Pt.slots] at X' e1 e2 h1 h2 h3 st
    subst h1; subst h2; subst h3
    exact Or.inl ⟨v, (T.setVm vm₁).calling g' mk As.toArray, t, U', L, hT, X', hL, e1, e2, hq, st⟩
  · dsimp only [Pt.U, Pt.locs, Pt.cells, Pt.slots] at X' e1 e2 h1 h2 h3 st hcl
    subst h1; subst h2; subst h3
    exact Or.inr ⟨q, (T.setVm vm₁).calling g' mk As.toArray, t, U', L, E, ce, hT, X', hL, e1, e2, hq, hce, hcv, vx_cls hW₁ hcl, st⟩
end Runs
section Rows
variable {p : Program} {l : Launch} {e : Env} {R : Room} {s : State} {m : MethodId} {args : Array Value} {below : List Frame} {meth : Method} {c : Code} {H : Heap} {locs : List Loc} {cells slots : Nat} {Q : State → Prop}
variable {mc ms : Nat} {free : Addr → Prop} {A0 A1 : Nat → Prop} {H0 : Heap} {a : Array Value} {pc : Nat} {ls : Array Slot} {st0 rest : List Value}
theorem vx_keep {st₀ t T' : State} {L : List Loc} (h0 : st₀.heap = H) (e1 : T'.heap = t.heap) (hS : va_S A0 H0 H locs) (hA : ∀ q, q < H.size → A1 q → A0 q) (hf : ∀ q, free q → A0 q) (hL : ∀ q ∈ L, free q.base) (hF : va_F A1 st₀ t) :
    H.size ≤ T'.heap.size ∧ (∀ q : Nat, q < H.size → ¬ A1 q → T'.heap[q]? = H[q]?) ∧ va_S A0 H0 T'.heap (locs ++ L) := by
  obtain ⟨hz, hk⟩ := hF
  rw [h0] at hz hk
  exact ⟨by rw [e1]; exact hz, fun q h1 h2 => by rw [e1]; exact hk q h1 h2,
    ⟨Nat.le_trans hS.1 (by rw [e1]; exact hz), fun q h1 h2 => by rw [e1, hk q (Nat.lt_of_lt_of_le h1 hS.1) (fun z => h2 (hA q (Nat.lt_of_lt_of_le h1 hS.1) z))]; exact hS.2.1 q h1 h2, fun q hq => by
      rcases List.mem_append.mp hq with h | h
      · exact hS.2.2 q h
      · exact hf _ (hL q h)⟩⟩
theorem vx_calli {S SX : Type} {post : Int32 → S → Prop} {px : SX → Prop} {B : S → State → Prop} {BX : String → SX → State → Prop} {AX : Nat → Prop} (hr : vx_Run p l e R s m args below meth c H locs cells slots mc ms (F0 m pc ls st0) rest (va_Qi post B A1 a) (vx_X px BX AX) free) (hS : va_S A0 H0 H locs) (hA : ∀ q, q < H.size → A1 q → A0 q) (hf : ∀ q, free q → A0 q) (hAX : ∀ q, q < H.size → AX q → A0 q)
    (kx : ∀ (E : String) (ce : Cell) (q9 : Addr) (u : SX) (t : State) (H1 : Heap) (locs1 : List Loc), t.heap = H1 → s.vm.Alike t.vm → px u → BX E u t → H.size ≤ H1.size → (∀ q : Nat, q < H.size → ¬ AX q → H1[q]? = H[q]?) → va_S A0 H0 H1 locs1 → H1[q9]? = some ce → ce.vm = .none → s.vm.findClass E = some ce.cls → vx_W p l e R s m args below meth c H1 locs1 (cells + mc) (slots + ms) Q (F0 m pc ls rest) q9)
    (kk : ∀ (r : Int32) (u : S) (t : State) (H1 : Heap) (locs1 : List Loc), t.heap = H1 → s.vm.Alike t.vm → post r u → B u t → H.size ≤ H1.size → (∀ q : Nat, q < H.size → ¬ A1 q → H1[q]? = H[q]?) → va_S A0 H0 H1 locs1 → W p l e R s m args below meth c H1 locs1 (cells + mc) (slots + ms) Q (F0 m (pc + 3) ls (.int r :: rest))) : W p l e R s m args below meth c H locs cells slots Q (F0 m pc ls st0) := by
  intro T hT X
  rcases hr T hT X with ⟨v, st₀, t, T', L, h0, X', hL, e1, e2, ⟨⟨r, u, hv, hp, hb⟩, hF⟩, st⟩ | ⟨q, st₀, t, T', L, E, ce, h0, X', hL, e1, e2, ⟨u, hp, hb, hF⟩, hce, hcv, hcl, st⟩
  · cases hv
    obtain ⟨k1, k2, k3⟩ := vx_keep h0 e1 hS hA hf hL hF
    obtain ⟨t2, a1, b1⟩ := kk r u t T'.heap (locs ++ L) e1.symm (by rw [← e2]; exact X'.warmed.alike) hp hb k1 k2 k3 T' rfl X'
    exact ⟨t2, st t2 a1, b1⟩
  · obtain ⟨k1, k2, k3⟩ := vx_keep h0 e1 hS hAX hf hL hF
    obtain ⟨t2, a1, b1⟩ := kx E ce q u t T'.heap (locs ++ L) e1.symm (by rw [← e2]; exact X'.warmed.alike) hp hb k1 k2 k3 (by rw [e1]; exact hce) hcv hcl T' rfl X'
    exact ⟨t2, st.trans a1, b1⟩
theorem vx_calll {S SX : Type} {post : Int64 → S → Prop} {px : SX → Prop} {B : S → State → Prop} {BX : String → SX → State → Prop} {AX : Nat → Prop} (hr : vx_Run p l e R s m args below meth c H locs cells slots mc ms (F0 m pc ls st0) rest (va_Ql post B A1 a) (vx_X px BX AX) free) (hS : va_S A0 H0 H locs) (hA : ∀ q, q < H.size → A1 q → A0 q) (hf : ∀ q, free q → A0 q) (hAX : ∀ q, q < H.size → AX q → A0 q)
    (kx : ∀ (E : String) (ce : Cell) (q9 : Addr) (u : SX) (t : State) (H1 : Heap) (locs1 : List Loc), t.heap = H1 → s.vm.Alike t.vm → px u → BX E u t → H.size ≤ H1.size → (∀ q : Nat, q < H.size → ¬ AX q → H1[q]? = H[q]?) → va_S A0 H0 H1 locs1 → H1[q9]? = some ce → ce.vm = .none → s.vm.findClass E = some ce.cls → vx_W p l e R s m args below meth c H1 locs1 (cells + mc) (slots + ms) Q (F0 m pc ls rest) q9)
    (kk : ∀ (r : Int64) (u : S) (t : State) (H1 : Heap) (locs1 : List Loc), t.heap = H1 → s.vm.Alike t.vm → post r u → B u t → H.size ≤ H1.size → (∀ q : Nat, q < H.size → ¬ A1 q → H1[q]? = H[q]?) → va_S A0 H0 H1 locs1 → W p l e R s m args below meth c H1 locs1 (cells + mc) (slots + ms) Q (F0 m (pc + 3) ls (.long r :: rest))) : W p l e R s m args below meth c H locs cells slots Q (F0 m pc ls st0) := by
  intro T hT X
  rcases hr T hT X with ⟨v, st₀, t, T', L, h0, X', hL, e1, e2, ⟨⟨r, u, hv, hp, hb⟩, hF⟩, st⟩ | ⟨q, st₀, t, T', L, E, ce, h0, X', hL, e1, e2, ⟨u, hp, hb, hF⟩, hce, hcv, hcl, st⟩
  · cases hv
    obtain ⟨k1, k2, k3⟩ := vx_keep h0 e1 hS hA hf hL hF
    obtain ⟨t2, a1, b1⟩ := kk r u t T'.heap (locs ++ L) e1.symm (by rw [← e2]; exact X'.warmed.alike) hp hb k1 k2 k3 T' rfl X'
    exact ⟨t2, st t2 a1, b1⟩
  · obtain ⟨k1, k2, k3⟩ := vx_keep h0 e1 hS hAX hf hL hF
    obtain ⟨t2, a1, b1⟩ := kx E ce q u t T'.heap (locs ++ L) e1.symm (by rw [← e2]; exact X'.warmed.alike) hp hb k1 k2 k3 (by rw [e1]; exact hce) hcv hcl T' rfl X'
    exact ⟨t2, st.trans a1, b1⟩
theorem vx_callf {S SX : Type} {post : UInt32 → S → Prop} {px : SX → Prop} {B : S → State → Prop} {BX : String → SX → State → Prop} {AX : Nat → Prop} (hr : vx_Run p l e R s m args below meth c H locs cells slots mc ms (F0 m pc ls st0) rest (va_Qf post B A1 a) (vx_X px BX AX) free) (hS : va_S A0 H0 H locs) (hA : ∀ q, q < H.size → A1 q → A0 q) (hf : ∀ q, free q → A0 q) (hAX : ∀ q, q < H.size → AX q → A0 q)
    (kx : ∀ (E : String) (ce : Cell) (q9 : Addr) (u : SX) (t : State) (H1 : Heap) (locs1 : List Loc), t.heap = H1 → s.vm.Alike t.vm → px u → BX E u t → H.size ≤ H1.size → (∀ q : Nat, q < H.size → ¬ AX q → H1[q]? = H[q]?) → va_S A0 H0 H1 locs1 → H1[q9]? = some ce → ce.vm = .none → s.vm.findClass E = some ce.cls → vx_W p l e R s m args below meth c H1 locs1 (cells + mc) (slots + ms) Q (F0 m pc ls rest) q9)
    (kk : ∀ (r : UInt32) (u : S) (t : State) (H1 : Heap) (locs1 : List Loc), t.heap = H1 → s.vm.Alike t.vm → post r u → B u t → H.size ≤ H1.size → (∀ q : Nat, q < H.size → ¬ A1 q → H1[q]? = H[q]?) → va_S A0 H0 H1 locs1 → W p l e R s m args below meth c H1 locs1 (cells + mc) (slots + ms) Q (F0 m (pc + 3) ls (.float r :: rest))) : W p l e R s m args below meth c H locs cells slots Q (F0 m pc ls st0) := by
  intro T hT X
  rcases hr T hT X with ⟨v, st₀, t, T', L, h0, X', hL, e1, e2, ⟨⟨r, u, hv, hp, hb⟩, hF⟩, st⟩ | ⟨q, st₀, t, T', L, E, ce, h0, X', hL, e1, e2, ⟨u, hp, hb, hF⟩, hce, hcv, hcl, st⟩
  · cases hv
    obtain ⟨k1, k2, k3⟩ := vx_keep h0 e1 hS hA hf hL hF
    obtain ⟨t2, a1, b1⟩ := kk r u t T'.heap (locs ++ L) e1.symm (by rw [← e2]; exact X'.warmed.alike) hp hb k1 k2 k3 T' rfl X'
    exact ⟨t2, st t2 a1, b1⟩
  · obtain ⟨k1, k2, k3⟩ := vx_keep h0 e1 hS hAX hf hL hF
    obtain ⟨t2, a1, b1⟩ := kx E ce q u t T'.heap (locs ++ L) e1.symm (by rw [← e2]; exact X'.warmed.alike) hp hb k1 k2 k3 (by rw [e1]; exact hce) hcv hcl T' rfl X'
    exact ⟨t2, st.trans a1, b1⟩
theorem vx_calld {S SX : Type} {post : UInt64 → S → Prop} {px : SX → Prop} {B : S → State → Prop} {BX : String → SX → State → Prop} {AX : Nat → Prop} (hr : vx_Run p l e R s m args below meth c H locs cells slots mc ms (F0 m pc ls st0) rest (va_Qd post B A1 a) (vx_X px BX AX) free) (hS : va_S A0 H0 H locs) (hA : ∀ q, q < H.size → A1 q → A0 q) (hf : ∀ q, free q → A0 q) (hAX : ∀ q, q < H.size → AX q → A0 q)
    (kx : ∀ (E : String) (ce : Cell) (q9 : Addr) (u : SX) (t : State) (H1 : Heap) (locs1 : List Loc), t.heap = H1 → s.vm.Alike t.vm → px u → BX E u t → H.size ≤ H1.size → (∀ q : Nat, q < H.size → ¬ AX q → H1[q]? = H[q]?) → va_S A0 H0 H1 locs1 → H1[q9]? = some ce → ce.vm = .none → s.vm.findClass E = some ce.cls → vx_W p l e R s m args below meth c H1 locs1 (cells + mc) (slots + ms) Q (F0 m pc ls rest) q9)
    (kk : ∀ (r : UInt64) (u : S) (t : State) (H1 : Heap) (locs1 : List Loc), t.heap = H1 → s.vm.Alike t.vm → post r u → B u t → H.size ≤ H1.size → (∀ q : Nat, q < H.size → ¬ A1 q → H1[q]? = H[q]?) → va_S A0 H0 H1 locs1 → W p l e R s m args below meth c H1 locs1 (cells + mc) (slots + ms) Q (F0 m (pc + 3) ls (.double r :: rest))) : W p l e R s m args below meth c H locs cells slots Q (F0 m pc ls st0) := by
  intro T hT X
  rcases hr T hT X with ⟨v, st₀, t, T', L, h0, X', hL, e1, e2, ⟨⟨r, u, hv, hp, hb⟩, hF⟩, st⟩ | ⟨q, st₀, t, T', L, E, ce, h0, X', hL, e1, e2, ⟨u, hp, hb, hF⟩, hce, hcv, hcl, st⟩
  · cases hv
    obtain ⟨k1, k2, k3⟩ := vx_keep h0 e1 hS hA hf hL hF
    obtain ⟨t2, a1, b1⟩ := kk r u t T'.heap (locs ++ L) e1.symm (by rw [← e2]; exact X'.warmed.alike) hp hb k1 k2 k3 T' rfl X'
    exact ⟨t2, st t2 a1, b1⟩
  · obtain ⟨k1, k2, k3⟩ := vx_keep h0 e1 hS hAX hf hL hF
    obtain ⟨t2, a1, b1⟩ := kx E ce q u t T'.heap (locs ++ L) e1.symm (by rw [← e2]; exact X'.warmed.alike) hp hb k1 k2 k3 (by rw [e1]; exact hce) hcv hcl T' rfl X'
    exact ⟨t2, st.trans a1, b1⟩
theorem vx_callv {S SX : Type} {post : S → Prop} {px : SX → Prop} {B : S → State → Prop} {BX : String → SX → State → Prop} {AX : Nat → Prop} (hr : vx_Run p l e R s m args below meth c H locs cells slots mc ms (F0 m pc ls st0) rest (va_Qv post B A1 a) (vx_X px BX AX) free) (hS : va_S A0 H0 H locs) (hA : ∀ q, q < H.size → A1 q → A0 q) (hf : ∀ q, free q → A0 q) (hAX : ∀ q, q < H.size → AX q → A0 q)
    (kx : ∀ (E : String) (ce : Cell) (q9 : Addr) (u : SX) (t : State) (H1 : Heap) (locs1 : List Loc), t.heap = H1 → s.vm.Alike t.vm → px u → BX E u t → H.size ≤ H1.size → (∀ q : Nat, q < H.size → ¬ AX q → H1[q]? = H[q]?) → va_S A0 H0 H1 locs1 → H1[q9]? = some ce → ce.vm = .none → s.vm.findClass E = some ce.cls → vx_W p l e R s m args below meth c H1 locs1 (cells + mc) (slots + ms) Q (F0 m pc ls rest) q9)
    (kk : ∀ (u : S) (t : State) (H1 : Heap) (locs1 : List Loc), t.heap = H1 → s.vm.Alike t.vm → post u → B u t → H.size ≤ H1.size → (∀ q : Nat, q < H.size → ¬ A1 q → H1[q]? = H[q]?) → va_S A0 H0 H1 locs1 → W p l e R s m args below meth c H1 locs1 (cells + mc) (slots + ms) Q (F0 m (pc + 3) ls (rest))) : W p l e R s m args below meth c H locs cells slots Q (F0 m pc ls st0) := by
  intro T hT X
  rcases hr T hT X with ⟨v, st₀, t, T', L, h0, X', hL, e1, e2, ⟨⟨u, hv, hp, hb⟩, hF⟩, st⟩ | ⟨q, st₀, t, T', L, E, ce, h0, X', hL, e1, e2, ⟨u, hp, hb, hF⟩, hce, hcv, hcl, st⟩
  · cases hv
    obtain ⟨k1, k2, k3⟩ := vx_keep h0 e1 hS hA hf hL hF
    obtain ⟨t2, a1, b1⟩ := kk u t T'.heap (locs ++ L) e1.symm (by rw [← e2]; exact X'.warmed.alike) hp hb k1 k2 k3 T' rfl X'
    exact ⟨t2, st t2 a1, b1⟩
  · obtain ⟨k1, k2, k3⟩ := vx_keep h0 e1 hS hAX hf hL hF
    obtain ⟨t2, a1, b1⟩ := kx E ce q u t T'.heap (locs ++ L) e1.symm (by rw [← e2]; exact X'.warmed.alike) hp hb k1 k2 k3 (by rw [e1]; exact hce) hcv hcl T' rfl X'
    exact ⟨t2, st.trans a1, b1⟩
end Rows
section Ends
variable {p : Program} {l : Launch} {e : Env} {R : Room} {s : State} {m : MethodId} {args : Array Value} {below : List Frame} {meth : Method} {c : Code} {H : Heap} {locs : List Loc} {cells slots : Nat} {Q : State → Prop}
variable {mc ms : Nat} {free : Addr → Prop} {A0 A1 : Nat → Prop} {H0 : Heap} {a : Array Value} {ls : Array Slot} {st0 rest : List Value}
variable {Qc : Array Value → State → Outcome → State → Prop} {XC : String → State → State → Prop}
/-- what a body that may throw owes at its end -/
def vx_MQ (below : List Frame) (Qc : Array Value → State → Outcome → State → Prop) (XC : String → State → State → Prop) (a : Array Value) (s : State) (mc ms : Nat) (free : Addr → Prop) : State → Prop := fun t =>
  ∃ o, t.status = .running ∧ Ended t below o ∧ vx_Q Qc XC mc ms free a s o t
theorem vx_ret {g : JFrame} {mc ms : Nat} (k : W p l e R s m args below meth c H locs cells slots (MQ below Qc args s mc ms free) g) : W p l e R s m args below meth c H locs cells slots (vx_MQ below Qc XC args s mc ms free) g := by
  intro T hT X
  obtain ⟨t, a1, o, b1, b2, b3, b4⟩ := k T hT X
  exact ⟨t, a1, o, b1, b2, Or.inl ⟨b3, b4⟩⟩
/-- not caught here: it goes on to the caller -/
theorem vx_widen {g : JFrame} {q : Addr} {k n : Nat} (h1 : cells ≤ k) (h2 : slots ≤ n) (kk : vx_W p l e R s m args below meth c H locs k n Q g q) : vx_W p l e R s m args below meth c H locs cells slots Q g q := fun T hT X => kk T hT (stand_widen X h1 h2)
theorem vx_out {pc : Nat} {E : String} {ce : Cell} {q : Addr} {mc ms : Nat} (hout : ∀ x ∈ c.exceptionTable.toList, covers x pc = false) (hlocks : meth.locks = false) (hcell : H[q]? = some ce) (hv : ce.vm = .none) (hcl : s.vm.findClass E = some ce.cls)
    (hx : ∀ t : State, t.heap = H → s.vm.Alike t.vm → XC E s t) (hf : ∀ z ∈ locs, free z.base) (hc : cells ≤ mc) (hs : slots ≤ ms) :
    vx_W p l e R s m args below meth c H locs cells slots (vx_MQ below Qc XC args s mc ms free) (F0 m pc ls rest) q := by
  intro T hT X
  obtain ⟨st1, hrun, hend, hW, hsm⟩ := X.leaveThrown q (g := F0 m pc ls rest) rfl rfl rfl hout hlocks
  have hcell9 : (T.setFrames (.throwing q :: below)).heap[q]? = some ce := by
    show T.heap[q]? = some ce
    rw [hT]; exact hcell
  exact ⟨_, st1, .threw q, hrun, hend, Or.inr ⟨q, rfl, E, ce, locs, hx _ hT hW.alike, hcell9, hv, hcl, hW, hsm.mono hc hs, hf⟩⟩
theorem vx_frame {U : State} {k n : Nat} (h : s.sameButNew ({ U with vm := s.vm } : State) locs k n) : s.heap.size ≤ U.heap.size ∧ ∀ q : Nat, q < s.heap.size → (∀ z ∈ locs, z.base ≠ q) → U.heap[q]? = s.heap[q]? := by
  obtain ⟨-, h2, -, -, -, h6⟩ := h
  refine ⟨h2, fun q hq hz => ?_⟩
  obtain ⟨c9, e1, e2, e3, e4⟩ := h6 q _ (Array.getElem?_eq_getElem hq)
  have hs : c9.slots = (s.heap[q]).slots := Array.ext_getElem? fun i => e4 i fun hm => hz _ hm rfl
  have h9 : c9 = s.heap[q] := by
    rw [hs] at e2
    exact e2
  have e5 : U.heap[q]? = some c9 := e1
  rw [e5, h9, Array.getElem?_eq_getElem hq]
/-- the words of a throw but the four that speak of the heap -/
def vx_no (w : Cond) : Bool := decide (w ≠ .isRef (.static Bundle.tN "UNASSIGNED_STACK" Bundle.steD)) && decide (w ≠ .isRef (.static Bundle.tN "SUPPRESSED_SENTINEL" Bundle.listD)) && decide (w ≠ .laysStatic Bundle.tN "UNASSIGNED_STACK" Bundle.steD) && decide (w ≠ .laysStatic Bundle.tN "SUPPRESSED_SENTINEL" Bundle.listD)
def vx_at0 (own : String) (ic : Nat) (X : String) (names : List String) : List Cond := (Bundle.ownAtoms0 own ic X names).filter vx_no
def vx_atS (own : String) (ic : Nat) (X : String) (names : List String) : List Cond := (Bundle.ownAtoms own ic X names).filter vx_no
/-- a word that the tables alone decide, or a good one -/
def vx_ot (w : Cond) : Bool := w.onTables || goodWord w
theorem vx_ot_at {args a' : Array Value} {s U : State} {w : Cond} (hW : s.WarmedH U.vm) (hvm : s.vm = U.vm) (hg : vx_ot w = true) (h : w.before args s = true) : w.before a' U = true := by
  simp only [vx_ot, Bool.or_eq_true] at hg
  rcases hg with hg | hg
  · exact va_tabs hg hvm h
  · exact word_at hW (good_of_word hg) h
/-- a list's words: the good ones out of the method's own list, the others by premises of their own -/
theorem vx_hat {args : Array Value} {s : State} {L B : List Cond} (h1 : ∀ w ∈ L.filter goodWord, w.before args s = true) (h2 : ∀ w ∈ L.filter (fun w => !goodWord w), w ∈ B) (h3 : ∀ w ∈ B, w.before args s = true) : ∀ w ∈ L, w.before args s = true := by
  intro w hw
  by_cases g : goodWord w = true
  · exact h1 w (List.mem_filter.mpr ⟨hw, g⟩)
  · refine h3 w (h2 w (List.mem_filter.mpr ⟨hw, ?_⟩))
    show (!goodWord w) = true
    cases hgw : goodWord w
    · rfl
    · exact absurd hgw g
theorem vx_c {args : Array Value} {s : State} {w : Cond} {B : List Cond} (h : w.before args s = true) (t : ∀ w ∈ B, w.before args s = true) : ∀ w' ∈ w :: B, w'.before args s = true := fun w' h' => (List.mem_cons.mp h').elim (fun e => by rw [e]; exact h) (t w')
theorem vx_n {args : Array Value} {s : State} : ∀ w ∈ ([] : List Cond), w.before args s = true := fun _ h => nomatch h
theorem vx_own {args : Array Value} {s : State} {L : List Cond} (h1 : ∀ w ∈ L.filter vx_no, w.before args s = true)
    (hU : (Cond.isRef (.static Bundle.tN "UNASSIGNED_STACK" Bundle.steD)).before args s = true) (hN : (Cond.isRef (.static Bundle.tN "SUPPRESSED_SENTINEL" Bundle.listD)).before args s = true)
    (lU : (Cond.laysStatic Bundle.tN "UNASSIGNED_STACK" Bundle.steD).before args s = true) (lN : (Cond.laysStatic Bundle.tN "SUPPRESSED_SENTINEL" Bundle.listD).before args s = true) : ∀ w ∈ L, w.before args s = true := by
  intro w hw
  by_cases e1 : w = .isRef (.static Bundle.tN "UNASSIGNED_STACK" Bundle.steD)
  · rw [e1]; exact hU
  · by_cases e2 : w = .isRef (.static Bundle.tN "SUPPRESSED_SENTINEL" Bundle.listD)
    · rw [e2]; exact hN
    · by_cases e3 : w = .laysStatic Bundle.tN "UNASSIGNED_STACK" Bundle.steD
      · rw [e3]; exact lU
      · by_cases e4 : w = .laysStatic Bundle.tN "SUPPRESSED_SENTINEL" Bundle.listD
        · rw [e4]; exact lN
        · exact h1 w (List.mem_filter.mpr ⟨hw, by unfold vx_no; rw [decide_eq_true e1, decide_eq_true e2, decide_eq_true e3, decide_eq_true e4]; rfl⟩)
/-- where a static field lies, its class's statics cell in H -/
def vx_L (C n d : String) (A : Nat → Prop) (U : State) (H : Heap) : Prop := ∃ (c : ClassId) (k : Class) (i : Nat) (f : Field) (a : Nat) (cell : Cell), U.vm.findClass C = some c ∧ U.fieldFound? C n d = some (c, k, i, f) ∧ f.isStatic = true ∧ k.statics = some a ∧ H[a]? = some cell ∧ cell.vm.isStatics = true ∧ cell.cls = c ∧ f.slot < cell.slots.size ∧ k.staticTypes[f.slot]? = some f.type ∧ ¬ A a
theorem vx_L.moved {C n d : String} {A : Nat → Prop} {u U : State} {H : Heap} (hvm : u.vm.Alike U.vm) (h : vx_L C n d A u H) : vx_L C n d A U H := by
  obtain ⟨c, k, i, f, a, cell, h1, h2, h3, h4, h5, h6, h7, h8, h9, h10⟩ := h
  obtain ⟨k', hi', he⟩ := State.fieldFound?_setVm hvm h2
  exact ⟨c, k', i, f, a, cell, by rw [hvm.findClass]; exact h1, hi', h3, by rw [he]; exact h4, h5, h6, h7, h8, by rw [he]; exact h9, h10⟩
theorem vx_L.kept {C n d : String} {A : Nat → Prop} {U : State} {H H1 : Heap} (h : vx_L C n d A U H) (hq : ∀ a : Nat, a < H.size → ¬ A a → H1[a]? = H[a]?) : vx_L C n d A U H1 := by
  obtain ⟨c, k, i, f, a, cell, h1, h2, h3, h4, h5, h6, h7, h8, h9, h10⟩ := h
  exact ⟨c, k, i, f, a, cell, h1, h2, h3, h4, by rw [hq a (Array.getElem?_eq_some_iff.mp h5).1 h10]; exact h5, h6, h7, h8, h9, h10⟩
theorem vx_L.narrow {C n d : String} {A B : Nat → Prop} {U : State} {H : Heap} (h : vx_L C n d A U H) (hAB : ∀ q, B q → A q) : vx_L C n d B U H := by
  obtain ⟨c, k, i, f, a, cell, h1, h2, h3, h4, h5, h6, h7, h8, h9, h10⟩ := h
  exact ⟨c, k, i, f, a, cell, h1, h2, h3, h4, h5, h6, h7, h8, h9, fun z => h10 (hAB _ z)⟩
theorem vx_L.word {C n d : String} {A : Nat → Prop} {s : State} {args : Array Value} (h : vx_L C n d A s s.heap) : (Cond.laysStatic C n d).before args s = true := by
  obtain ⟨c, k, i, f, a, cell, h1, h2, h3, h4, h5, h6, h7, h8, h9, -⟩ := h
  show (Cond.laysStatic C n d).holds args s none s [] = true
  exact Cond.laysStatic_of h1 h2 h3 h4 h5 h6 h7 h8 h9
/-- .. and what it holds: null or some reference -/
def vx_Zq (C n d : String) (A : Nat → Prop) (U : State) (H : Heap) : Prop := va_Zq C n d A U H ∧ vx_L C n d A U H
theorem vx_Zq.moved {C n d : String} {A : Nat → Prop} {u U : State} {H : Heap} (hvm : u.vm.Alike U.vm) (h : vx_Zq C n d A u H) : vx_Zq C n d A U H := ⟨va_Zq.moved hvm h.1, vx_L.moved hvm h.2⟩
theorem vx_Zq.kept {C n d : String} {A : Nat → Prop} {U : State} {H H1 : Heap} (h : vx_Zq C n d A U H) (hq : ∀ a : Nat, a < H.size → ¬ A a → H1[a]? = H[a]?) : vx_Zq C n d A U H1 := ⟨va_Zq.kept h.1 hq, vx_L.kept h.2 hq⟩
theorem vx_Zq.narrow {C n d : String} {A B : Nat → Prop} {U : State} {H : Heap} (h : vx_Zq C n d A U H) (hAB : ∀ q, B q → A q) : vx_Zq C n d B U H := ⟨va_Zq.narrow h.1 hAB, vx_L.narrow h.2 hAB⟩
theorem vx_Zqof {args : Array Value} {s : State} {C n d : String} {A : Nat → Prop} (hl : (Cond.laysStatic C n d).before args s = true) (hini : (Cond.initialized C).before args s = true) (h : (Cond.isRef (.static C n d)).before args s = true) (hA : ∀ a : Nat, a < s.heap.size → ¬ A a) : vx_Zq C n d A s s.heap := by
  refine ⟨va_Zqof hl hini h hA, ?_⟩
  obtain ⟨c, k, i, f, a, cell, h1, h2, h3, h4, h5, h6, h7, h8, h9⟩ := Cond.laysStatic_spec hl
  exact ⟨c, k, i, f, a, cell, h1, h2, h3, h4, h5, h6, h7, h8, h9, hA a (Array.getElem?_eq_some_iff.mp h5).1⟩
theorem vx_isRef {C n d : String} {v : Value} {A : Nat → Prop} {s : State} {args : Array Value} (h : va_Z C n d v A s s.heap) (hv : v.isRef = true) : (Cond.isRef (.static C n d)).before args s = true := by
  obtain ⟨cf, kf, fi, f, a, cell, h1, h2, h3, h4, h5, h6, h7, -⟩ := h
  have he : (Term.static C n d).eval args s none [] s = some v := by
    simp [Term.eval, State.fieldNamed?, h1, h2, h4, h5, h6, h7]
  simp only [Cond.before, Cond.holds, Cond.value, he]
  cases v <;> simp_all [Value.isRef]
theorem vx_isRefq {C n d : String} {A : Nat → Prop} {s : State} {args : Array Value} (h : va_Zq C n d A s s.heap) : (Cond.isRef (.static C n d)).before args s = true := by
  rcases h with h | ⟨t, h⟩
  · exact vx_isRef h rfl
  · exact vx_isRef h rfl
/-- the same frame, seen from here: as if the method were called anew in this heap -/
theorem vx_rebase {T : State} (X : Stand p l e R s m args below meth c T locs cells slots) {R' : Room} (hf : R'.frames ≤ R.frames) (hl : R'.locals ≤ R.locals) (hc : cells + R'.cells ≤ R.cells) (hs : slots + R'.slots ≤ R.slots) :
    Stand p l e R' ((T.setVm s.vm).setFrames (.invoking m args :: below)) m args below meth c T [] 0 0 := by
  have htop : (T.setVm s.vm).topJava?.isSome := X.here.top
  have hF : ((T.setVm s.vm).setFrames (.invoking m args :: below)).frames = .invoking m args :: below := State.frames_setFrames _ (State.cur_lt_of_top htop)
  obtain ⟨g₀, hg0⟩ := Option.isSome_iff_exists.mp htop
  obtain ⟨r, hr⟩ := State.topJava?_eq_some.mp hg0
  have hl9 : e.platform.stackLimits (T.setVm s.vm).me = e.platform.stackLimits s.me := X.limits
  have hb9 : (T.setVm s.vm).me.stackBytes = s.me.stackBytes := X.bytes
  refine ⟨X.admits, X.cas, X.clock, hF, ?_, X.hears, X.method, X.code, X.here, X.tail, X.warmed, ?_, ?_, ?_⟩
  · have h := X.room
    have hU : ((T.setVm s.vm).setFrames (.invoking m args :: below)).localsInUse = s.localsInUse := by
      rw [State.localsInUse_invoking hF (meth := meth) (c := c) X.method X.code, State.localsInUse_invoking X.frames X.method X.code]
    simp only [State.hasRoom, Bool.and_eq_true, decide_eq_true_eq] at h ⊢
    obtain ⟨⟨⟨⟨h1, h2, h3, h4, h5, h6⟩, h7⟩, h8⟩, h9⟩ := h
    rw [X.frames, List.length_cons] at h2 h3
    have q1 := X.heapSize
    have q2 := X.used
    simp only [hF, hU, List.length_cons, State.stackLimits_setFrames, State.stackBytes_setFrames, hl9, hb9]
    refine ⟨⟨⟨⟨by omega, by omega, by omega, by omega, by omega, h6⟩, ?_⟩, ?_⟩, X.book⟩
    · show T.heap.size + R'.cells ≤ e.platform.maxCells
      omega
    · show T.slotsUsed + R'.slots ≤ e.platform.maxSlots
      omega
  · rw [State.stackLimits_setFrames]; rfl
  · rw [State.stackBytes_setFrames]; rfl
  · refine ⟨?_, Nat.le_refl _, Nat.le_refl _, ?_, ?_, fun a c9 h9 => ⟨c9, h9, rfl, rfl, fun _ _ => rfl⟩⟩
    · obtain ⟨t, ht, -⟩ := State.frames_cons hr
      show T.setVm s.vm = { ((T.setVm s.vm).setFrames (.invoking m args :: below)).setFrames (T.setVm s.vm).frames with heap := T.heap, slotsUsed := T.slotsUsed }
      rw [State.setFrames_setFrames, State.setFrames_self ht]
      rfl
    · show T.slotsUsed = T.slotsUsed + ((T.heap.toList.drop T.heap.size).map (·.slots.size)).sum
      rw [List.drop_eq_nil_of_le (Nat.le_of_eq Array.length_toList)]
      rfl
    · show ((T.heap.toList.drop T.heap.size).map (·.slots.size)).sum ≤ 0
      rw [List.drop_eq_nil_of_le (Nat.le_of_eq Array.length_toList)]
      exact Nat.le_refl _
/-- 'throw new E()': new; dup; invokespecial; athrow -/
theorem vx_throw0 {cc : ByteArray} {pc : Nat} (hexec : p.tables.exec = Jvm.exec) (hb : c.code = cc) (hl : l.stackTraces = false) {own cls : String} {names : List String} {ik ic mc ms : Nat} {A : Nat → Prop}
    (hown : s.vm.findClass own = some m.cls) (hcls : Bundle.fit cls = true) (hnames : ∀ n ∈ names, Bundle.fit n = true)
    (hk : (Cond.classLink own ik cls).before args s = true) (hini : (Cond.initialized cls).before args s = true) (hat : ∀ w ∈ vx_at0 own ic cls names, w.before args s = true)
    (hgood : ∀ w ∈ Cond.classLink own ik cls :: Cond.initialized cls :: vx_at0 own ic cls names, vx_ot w = true)
    (hU : vx_Zq Bundle.tN "UNASSIGNED_STACK" Bundle.steD A s s.heap) (hN : vx_Zq Bundle.tN "SUPPRESSED_SENTINEL" Bundle.listD A s s.heap) (hS : va_S A s.heap H locs) (hsize : ls.size = c.maxLocals)
    (d0 : decode cc pc = .ok (.new ik, 3)) (d3 : decode cc (pc + 3) = .ok (.dup, 1)) (d4 : decode cc (pc + 4) = .ok (.invokespecial ic, 3)) (d7 : decode cc (pc + 7) = .ok (.athrow, 1))
    (hout : ∀ x ∈ c.exceptionTable.toList, covers x (pc + 7) = false)
    (hRframes : names.length + 3 < R.frames) (hRlocals : (rest.map fun v => v.category).sum + (13 * (names.length + 1) + 42) ≤ R.locals) (hRcells : cells + 1 ≤ R.cells) (hRslots : slots + 6 ≤ R.slots) (hlocks : meth.locks = false)
    (hx : ∀ t : State, s.vm.Alike t.vm → H.size ≤ t.heap.size → (∀ q : Nat, q < H.size → t.heap[q]? = H[q]?) → XC cls s t)
    (hf : ∀ z ∈ locs, free z.base) (hc : cells + 1 ≤ mc) (hs : slots + 6 ≤ ms) :
    W p l e R s m args below meth c H locs cells slots (vx_MQ below Qc XC args s mc ms free) (F0 m pc ls rest) := by
  intro T hT X
  have htr : e.platform.stackTraces = false := (show e.platform.stackTraces = l.stackTraces by rw [X.admits.platform]).trans hl
  have Y := vx_rebase X (R' := { frames := R.frames, locals := R.locals, cells := 1, slots := 6 }) (Nat.le_refl _) (Nat.le_refl _) hRcells hRslots
  obtain ⟨s', hA⟩ : ∃ z, z = (T.setVm s.vm).setFrames (.invoking m args :: below) := ⟨_, rfl⟩
  rw [← hA] at Y
  have hvm : s'.vm = s.vm := by rw [hA]; rfl
  have hhp : s'.heap = H := by rw [hA]; exact hT
  have hW0 : s.WarmedH s'.vm := by rw [hvm]; exact State.WarmedH.refl s
  have hat' : ∀ w ∈ vx_at0 own ic cls names, w.before args s' = true := fun w hw => vx_ot_at hW0 hvm.symm (hgood w (List.mem_cons_of_mem _ (List.mem_cons_of_mem _ hw))) (hat w hw)
  have hk' : (Cond.classLink own ik cls).before args s' = true := vx_ot_at hW0 hvm.symm (hgood _ List.mem_cons_self) hk
  have hini' : (Cond.initialized cls).before args s' = true := vx_ot_at hW0 hvm.symm (hgood _ (List.mem_cons_of_mem _ List.mem_cons_self)) hini
  have hU' : vx_Zq Bundle.tN "UNASSIGNED_STACK" Bundle.steD A s' s'.heap := by rw [hhp]; exact vx_Zq.moved hW0.alike (hU.kept hS.2.1)
  have hN' : vx_Zq Bundle.tN "SUPPRESSED_SENTINEL" Bundle.listD A s' s'.heap := by rw [hhp]; exact vx_Zq.moved hW0.alike (hN.kept hS.2.1)
  have h : ∀ w ∈ Bundle.ownAtoms0 own ic cls names, w.before args s' = true := vx_own hat' (vx_isRefq hU'.1) (vx_isRefq hN'.1) hU'.2.word hN'.2.word
  have hown' : s'.vm.findClass own = some m.cls := by rw [hvm]; exact hown
  have hins : (Cond.instantiable cls 6).before args s' = true := h _ (by simp [Bundle.ownAtoms0])
  obtain ⟨vm₁, cX, kX, hfX, hkX, -, -, X₁, st1⟩ := Y.newCold hexec (own := own) (C := cls) (index := ik) (n := 6) hown' hk' hins hini'
    (g := F0 m pc ls rest) rfl (by rw [hb]; exact d0) (Nat.le_refl _) (Nat.le_refl _)
  generalize hT1 : (T.setVm vm₁).pushCell { cls := cX, slots := kX.instanceTypes.map defaultValue, vm := .none } = T1 at X₁ st1
  have hcat : (Value.ref T.heap.size).category = 1 := rfl
  have hcellA : T1.heap[T.heap.size]? = some (freshCell cX kX) := by rw [← hT1]; exact State.heap_pushCell_size _ _
  have d3' : decode c.code (pc + 3) = .ok (.dup, 1) := by rw [hb]; exact d3
  obtain ⟨U, hsteps, hrun, hend, hW, hsame, ce, hce, hO⟩ := X₁.ctorThrow0 hexec htr (own := own) (cls := cls) (names := names) (ic := ic) hown' hcls hnames h (fun x hx => nomatch hx) hfX hkX hcellA (by rw [hhp, hT]; exact Nat.le_refl _)
    (g := { method := m, pc := pc + 4, locals := ls, stack := .ref T.heap.size :: .ref T.heap.size :: rest, locked := none }) rfl hsize rfl rfl (rest := rest) rfl
    (by rw [hb]; exact d4) (by rw [hb]; exact d7) hout hRframes (by simp only [List.map_cons, List.sum_cons, hcat]; omega) hlocks
  obtain ⟨f1, f2⟩ := vx_frame hsame
  rw [hhp] at f1 f2
  have hWs : s.WarmedH U.vm := State.WarmedH.trans hW0 hW
  have hcl : s.vm.findClass cls = some ce.cls := by
    have h9 := hO.cls
    rw [hvm] at h9
    exact h9
  have hall : s.sameButNew ({ U with vm := s.vm } : State) locs mc ms := by
    subst hA
    obtain ⟨e1, e2⟩ := hsame
    rw [State.setFrames_setFrames] at e1
    have h2 : (T.setVm s.vm).sameButNew ({ U with vm := s.vm } : State) [] (0 + 1) (0 + 6) := ⟨e1, e2⟩
    have h3 := X.same.trans h2
    rw [List.append_nil] at h3
    exact h3.mono hc hs
  refine ⟨U, ?_, .threw T.heap.size, hrun, hend, Or.inr ⟨T.heap.size, rfl, cls, ce, locs, hx U hWs.alike f1 (fun q hq => f2 q hq (fun z hz => nomatch hz)), hce, hO.vm, hcl, hWs, hall, hf⟩⟩
  refine st1 _ ?_
  show Steps p.tables e below (T1.setTop { method := m, pc := pc + 3, locals := ls, stack := .ref T.heap.size :: rest, locked := none }) _
  jvm_step X₁.here [X₁.here.top, hexec, d3', Value.category]
  exact hsteps
/-- 'throw new E("text")': new; dup; ldc; invokespecial; athrow -/
theorem vx_throwS {cc : ByteArray} {pc : Nat} (hexec : p.tables.exec = Jvm.exec) (hb : c.code = cc) (hl : l.stackTraces = false) {own cls text : String} {names : List String} {ik is ic mc ms sa : Nat} {A : Nat → Prop}
    (hown : s.vm.findClass own = some m.cls) (hcls : Bundle.fit cls = true) (hnames : ∀ n ∈ names, Bundle.fit n = true)
    (hk : (Cond.classLink own ik cls).before args s = true) (hini : (Cond.initialized cls).before args s = true) (hstr : vk_R own is text sa s) (hat : ∀ w ∈ vx_atS own ic cls names, w.before args s = true)
    (hgood : ∀ w ∈ Cond.classLink own ik cls :: Cond.initialized cls :: vx_atS own ic cls names, vx_ot w = true)
    (hU : vx_Zq Bundle.tN "UNASSIGNED_STACK" Bundle.steD A s s.heap) (hN : vx_Zq Bundle.tN "SUPPRESSED_SENTINEL" Bundle.listD A s s.heap) (hS : va_S A s.heap H locs) (hsize : ls.size = c.maxLocals)
    (d0 : decode cc pc = .ok (.new ik, 3)) (d3 : decode cc (pc + 3) = .ok (.dup, 1)) (d4 : decode cc (pc + 4) = .ok (.ldc is, 2)) (d6 : decode cc (pc + 6) = .ok (.invokespecial ic, 3)) (d9 : decode cc (pc + 9) = .ok (.athrow, 1))
    (hout : ∀ x ∈ c.exceptionTable.toList, covers x (pc + 9) = false)
    (hRframes : names.length + 3 < R.frames) (hRlocals : (rest.map fun v => v.category).sum + (13 * (names.length + 1) + 43) ≤ R.locals) (hRcells : cells + 1 ≤ R.cells) (hRslots : slots + 6 ≤ R.slots) (hlocks : meth.locks = false)
    (hx : ∀ t : State, s.vm.Alike t.vm → H.size ≤ t.heap.size → (∀ q : Nat, q < H.size → t.heap[q]? = H[q]?) → XC cls s t)
    (hf : ∀ z ∈ locs, free z.base) (hc : cells + 1 ≤ mc) (hs : slots + 6 ≤ ms) :
    W p l e R s m args below meth c H locs cells slots (vx_MQ below Qc XC args s mc ms free) (F0 m pc ls rest) := by
  intro T hT X
  have htr : e.platform.stackTraces = false := (show e.platform.stackTraces = l.stackTraces by rw [X.admits.platform]).trans hl
  have Y := vx_rebase X (R' := { frames := R.frames, locals := R.locals, cells := 1, slots := 6 }) (Nat.le_refl _) (Nat.le_refl _) hRcells hRslots
  obtain ⟨s', hA⟩ : ∃ z, z = (T.setVm s.vm).setFrames (.invoking m args :: below) := ⟨_, rfl⟩
  rw [← hA] at Y
  have hvm : s'.vm = s.vm := by rw [hA]; rfl
  have hhp : s'.heap = H := by rw [hA]; exact hT
  have hW0 : s.WarmedH s'.vm := by rw [hvm]; exact State.WarmedH.refl s
  have hat' : ∀ w ∈ vx_atS own ic cls names, w.before args s' = true := fun w hw => vx_ot_at hW0 hvm.symm (hgood w (List.mem_cons_of_mem _ (List.mem_cons_of_mem _ hw))) (hat w hw)
  have hk' : (Cond.classLink own ik cls).before args s' = true := vx_ot_at hW0 hvm.symm (hgood _ List.mem_cons_self) hk
  have hini' : (Cond.initialized cls).before args s' = true := vx_ot_at hW0 hvm.symm (hgood _ (List.mem_cons_of_mem _ List.mem_cons_self)) hini
  have hU' : vx_Zq Bundle.tN "UNASSIGNED_STACK" Bundle.steD A s' s'.heap := by rw [hhp]; exact vx_Zq.moved hW0.alike (hU.kept hS.2.1)
  have hN' : vx_Zq Bundle.tN "SUPPRESSED_SENTINEL" Bundle.listD A s' s'.heap := by rw [hhp]; exact vx_Zq.moved hW0.alike (hN.kept hS.2.1)
  have h : ∀ w ∈ Bundle.ownAtoms own ic cls names, w.before args s' = true := vx_own hat' (vx_isRefq hU'.1) (vx_isRefq hN'.1) hU'.2.word hN'.2.word
  have hown' : s'.vm.findClass own = some m.cls := by rw [hvm]; exact hown
  have hins : (Cond.instantiable cls 6).before args s' = true := h _ (by simp [Bundle.ownAtoms])
  obtain ⟨vm₁, cX, kX, hfX, hkX, -, -, X₁, st1⟩ := Y.newCold hexec (own := own) (C := cls) (index := ik) (n := 6) hown' hk' hins hini'
    (g := F0 m pc ls rest) rfl (by rw [hb]; exact d0) (Nat.le_refl _) (Nat.le_refl _)
  generalize hT1 : (T.setVm vm₁).pushCell { cls := cX, slots := kX.instanceTypes.map defaultValue, vm := .none } = T1 at X₁ st1
  have hcat : (Value.ref T.heap.size).category = 1 := rfl
  have hcellA : T1.heap[T.heap.size]? = some (freshCell cX kX) := by rw [← hT1]; exact State.heap_pushCell_size _ _
  have d3' : decode c.code (pc + 3) = .ok (.dup, 1) := by rw [hb]; exact d3
  have d4' : decode c.code (pc + 4) = .ok (.ldc is, 2) := by rw [hb]; exact d4
  have hstr' : vk_R own is text sa s' := vk_R.warm hW0 hstr
  obtain ⟨U, hsteps, hrun, hend, hW, hsame, ce, hce, hO⟩ := X₁.ctorThrowS hexec htr (own := own) (cls := cls) (names := names) (ic := ic) hown' hcls hnames h (fun x hx => nomatch hx) hfX hkX hcellA (by rw [hhp, hT]; exact Nat.le_refl _) (msg := .ref sa) rfl
    (g := { method := m, pc := pc + 6, locals := ls, stack := .ref sa :: .ref T.heap.size :: .ref T.heap.size :: rest, locked := none }) rfl hsize rfl rfl (rest := rest) rfl
    (by rw [hb]; exact d6) (by rw [hb]; exact d9) hout hRframes (by simp only [List.map_cons, List.sum_cons, hcat]; omega) hlocks
  obtain ⟨f1, f2⟩ := vx_frame hsame
  rw [hhp] at f1 f2
  have hWs : s.WarmedH U.vm := State.WarmedH.trans hW0 hW
  have hcl : s.vm.findClass cls = some ce.cls := by
    have h9 := hO.cls
    rw [hvm] at h9
    exact h9
  have hall : s.sameButNew ({ U with vm := s.vm } : State) locs mc ms := by
    subst hA
    obtain ⟨e1, e2⟩ := hsame
    rw [State.setFrames_setFrames] at e1
    have h2 : (T.setVm s.vm).sameButNew ({ U with vm := s.vm } : State) [] (0 + 1) (0 + 6) := ⟨e1, e2⟩
    have h3 := X.same.trans h2
    rw [List.append_nil] at h3
    exact h3.mono hc hs
  refine ⟨U, ?_, .threw T.heap.size, hrun, hend, Or.inr ⟨T.heap.size, rfl, cls, ce, locs, hx U hWs.alike f1 (fun q hq => f2 q hq (fun z hz => nomatch hz)), hce, hO.vm, hcl, hWs, hall, hf⟩⟩
  refine st1 _ ?_
  show Steps p.tables e below (T1.setTop { method := m, pc := pc + 3, locals := ls, stack := .ref T.heap.size :: rest, locked := none }) _
  jvm_step X₁.here [X₁.here.top, hexec, d3', Value.category]
  exact X₁.ldcString hexec (own := own) (text := text) (index := is) (a := sa) hown' hstr'.1 hstr'.2
    (g := { method := m, pc := pc + 4, locals := ls, stack := .ref T.heap.size :: .ref T.heap.size :: rest, locked := none }) rfl d4' _ hsteps
/-- 'throw new E("text")', the text by a wide index -/
theorem vx_throwSW {cc : ByteArray} {pc : Nat} (hexec : p.tables.exec = Jvm.exec) (hb : c.code = cc) (hl : l.stackTraces = false) {own cls text : String} {names : List String} {ik is ic mc ms sa : Nat} {A : Nat → Prop}
    (hown : s.vm.findClass own = some m.cls) (hcls : Bundle.fit cls = true) (hnames : ∀ n ∈ names, Bundle.fit n = true)
    (hk : (Cond.classLink own ik cls).before args s = true) (hini : (Cond.initialized cls).before args s = true) (hstr : vk_R own is text sa s) (hat : ∀ w ∈ vx_atS own ic cls names, w.before args s = true)
    (hgood : ∀ w ∈ Cond.classLink own ik cls :: Cond.initialized cls :: vx_atS own ic cls names, vx_ot w = true)
    (hU : vx_Zq Bundle.tN "UNASSIGNED_STACK" Bundle.steD A s s.heap) (hN : vx_Zq Bundle.tN "SUPPRESSED_SENTINEL" Bundle.listD A s s.heap) (hS : va_S A s.heap H locs) (hsize : ls.size = c.maxLocals)
    (d0 : decode cc pc = .ok (.new ik, 3)) (d3 : decode cc (pc + 3) = .ok (.dup, 1)) (d4 : decode cc (pc + 4) = .ok (.ldc_w is, 3)) (d7 : decode cc (pc + 7) = .ok (.invokespecial ic, 3)) (d10 : decode cc (pc + 10) = .ok (.athrow, 1))
    (hout : ∀ x ∈ c.exceptionTable.toList, covers x (pc + 10) = false)
    (hRframes : names.length + 3 < R.frames) (hRlocals : (rest.map fun v => v.category).sum + (13 * (names.length + 1) + 43) ≤ R.locals) (hRcells : cells + 1 ≤ R.cells) (hRslots : slots + 6 ≤ R.slots) (hlocks : meth.locks = false)
    (hx : ∀ t : State, s.vm.Alike t.vm → H.size ≤ t.heap.size → (∀ q : Nat, q < H.size → t.heap[q]? = H[q]?) → XC cls s t)
    (hf : ∀ z ∈ locs, free z.base) (hc : cells + 1 ≤ mc) (hs : slots + 6 ≤ ms) :
    W p l e R s m args below meth c H locs cells slots (vx_MQ below Qc XC args s mc ms free) (F0 m pc ls rest) := by
  intro T hT X
  have htr : e.platform.stackTraces = false := (show e.platform.stackTraces = l.stackTraces by rw [X.admits.platform]).trans hl
  have Y := vx_rebase X (R' := { frames := R.frames, locals := R.locals, cells := 1, slots := 6 }) (Nat.le_refl _) (Nat.le_refl _) hRcells hRslots
  obtain ⟨s', hA⟩ : ∃ z, z = (T.setVm s.vm).setFrames (.invoking m args :: below) := ⟨_, rfl⟩
  rw [← hA] at Y
  have hvm : s'.vm = s.vm := by rw [hA]; rfl
  have hhp : s'.heap = H := by rw [hA]; exact hT
  have hW0 : s.WarmedH s'.vm := by rw [hvm]; exact State.WarmedH.refl s
  have hat' : ∀ w ∈ vx_atS own ic cls names, w.before args s' = true := fun w hw => vx_ot_at hW0 hvm.symm (hgood w (List.mem_cons_of_mem _ (List.mem_cons_of_mem _ hw))) (hat w hw)
  have hk' : (Cond.classLink own ik cls).before args s' = true := vx_ot_at hW0 hvm.symm (hgood _ List.mem_cons_self) hk
  have hini' : (Cond.initialized cls).before args s' = true := vx_ot_at hW0 hvm.symm (hgood _ (List.mem_cons_of_mem _ List.mem_cons_self)) hini
  have hU' : vx_Zq Bundle.tN "UNASSIGNED_STACK" Bundle.steD A s' s'.heap := by rw [hhp]; exact vx_Zq.moved hW0.alike (hU.kept hS.2.1)
  have hN' : vx_Zq Bundle.tN "SUPPRESSED_SENTINEL" Bundle.listD A s' s'.heap := by rw [hhp]; exact vx_Zq.moved hW0.alike (hN.kept hS.2.1)
  have h : ∀ w ∈ Bundle.ownAtoms own ic cls names, w.before args s' = true := vx_own hat' (vx_isRefq hU'.1) (vx_isRefq hN'.1) hU'.2.word hN'.2.word
  have hown' : s'.vm.findClass own = some m.cls := by rw [hvm]; exact hown
  have hins : (Cond.instantiable cls 6).before args s' = true := h _ (by simp [Bundle.ownAtoms])
  obtain ⟨vm₁, cX, kX, hfX, hkX, -, -, X₁, st1⟩ := Y.newCold hexec (own := own) (C := cls) (index := ik) (n := 6) hown' hk' hins hini'
    (g := F0 m pc ls rest) rfl (by rw [hb]; exact d0) (Nat.le_refl _) (Nat.le_refl _)
  generalize hT1 : (T.setVm vm₁).pushCell { cls := cX, slots := kX.instanceTypes.map defaultValue, vm := .none } = T1 at X₁ st1
  have hcat : (Value.ref T.heap.size).category = 1 := rfl
  have hcellA : T1.heap[T.heap.size]? = some (freshCell cX kX) := by rw [← hT1]; exact State.heap_pushCell_size _ _
  have d3' : decode c.code (pc + 3) = .ok (.dup, 1) := by rw [hb]; exact d3
  have d4' : decode c.code (pc + 4) = .ok (.ldc_w is, 3) := by rw [hb]; exact d4
  have hstr' : vk_R own is text sa s' := vk_R.warm hW0 hstr
  obtain ⟨U, hsteps, hrun, hend, hW, hsame, ce, hce, hO⟩ := X₁.ctorThrowS hexec htr (own := own) (cls := cls) (names := names) (ic := ic) hown' hcls hnames h (fun x hx => nomatch hx) hfX hkX hcellA (by rw [hhp, hT]; exact Nat.le_refl _) (msg := .ref sa) rfl
    (g := { method := m, pc := pc + 7, locals := ls, stack := .ref sa :: .ref T.heap.size :: .ref T.heap.size :: rest, locked := none }) rfl hsize rfl rfl (rest := rest) rfl
    (by rw [hb]; exact d7) (by rw [hb]; exact d10) hout hRframes (by simp only [List.map_cons, List.sum_cons, hcat]; omega) hlocks
  obtain ⟨f1, f2⟩ := vx_frame hsame
  rw [hhp] at f1 f2
  have hWs : s.WarmedH U.vm := State.WarmedH.trans hW0 hW
  have hcl : s.vm.findClass cls = some ce.cls := by
    have h9 := hO.cls
    rw [hvm] at h9
    exact h9
  have hall : s.sameButNew ({ U with vm := s.vm } : State) locs mc ms := by
    subst hA
    obtain ⟨e1, e2⟩ := hsame
    rw [State.setFrames_setFrames] at e1
    have h2 : (T.setVm s.vm).sameButNew ({ U with vm := s.vm } : State) [] (0 + 1) (0 + 6) := ⟨e1, e2⟩
    have h3 := X.same.trans h2
    rw [List.append_nil] at h3
    exact h3.mono hc hs
  refine ⟨U, ?_, .threw T.heap.size, hrun, hend, Or.inr ⟨T.heap.size, rfl, cls, ce, locs, hx U hWs.alike f1 (fun q hq => f2 q hq (fun z hz => nomatch hz)), hce, hO.vm, hcl, hWs, hall, hf⟩⟩
  refine st1 _ ?_
  show Steps p.tables e below (T1.setTop { method := m, pc := pc + 3, locals := ls, stack := .ref T.heap.size :: rest, locked := none }) _
  jvm_step X₁.here [X₁.here.top, hexec, d3', Value.category]
  exact X₁.ldcStringW hexec (own := own) (text := text) (index := is) (a := sa) hown' hstr'.1 hstr'.2
    (g := { method := m, pc := pc + 4, locals := ls, stack := .ref T.heap.size :: .ref T.heap.size :: rest, locked := none }) rfl d4' _ hsteps
end Ends
section Bodies
variable {l : Launch}
theorem vx_ofW {y : MethodName} {ws ws' : List Cond} {rm : Room} {Pc : Array Value → State → Prop} {Qc : Array Value → State → Outcome → State → Prop} {XC : String → State → State → Prop} {mc ms : Nat} {free : Addr → Prop} {cc : ByteArray} {maxL : Nat} {ret : Option FieldType}
    (hy : plainName y.cls = true) (hw : ws = Cond.code y cc maxL ret :: ws')
    (body : ∀ p e s m args below meth c s₁, BodyLoose p l y (headSpec ws rm) cc maxL ret e s m args below meth c s₁ → c.maxLocals = maxL → (∀ x ∈ c.exceptionTable.toList, False) → Pc args s →
      W p l e (headSpec ws rm).room s m args below meth c s.heap [] 0 0 (vx_MQ below Qc XC args s mc ms free) (entryFrame m args maxL)) : vx_Met l y ws rm Pc Qc XC mc ms free := by
  refine MetFree.of_bodyS (code := cc) (maxLocals := maxL) (ret := ret) hy ?_ ?_
  · intro args s m h hn
    obtain ⟨meth, c, h1, h2, h3, h4, h5, h6, -, -⟩ := Cond.code_spec hn (atoms_spec (ws := ws) h _ (by rw [hw]; exact List.mem_cons_self))
    exact ⟨meth, c, h1, h2, h3, h4, h5, h6⟩
  · intro p e s m args below meth c s₁ B hml hP _
    have hh0 : s₁.heap = s.heap := by rw [B.state]; rfl
    have ht : ∀ x ∈ c.exceptionTable.toList, False := by
      obtain ⟨meth9, c9, h1, h2, -, -, -, -, h7, -⟩ := Cond.code_spec B.named (atoms_spec (ws := ws) B.pre _ (by rw [hw]; exact List.mem_cons_self))
      cases Option.some.inj (h1.symm.trans B.method)
      cases Option.some.inj (h2.symm.trans (Stand.of_body B).code)
      intro x hx
      rw [Array.isEmpty_iff.mp h7] at hx
      cases hx
    obtain ⟨t, a1, o, b1, b2, b3⟩ := body p e s m args below meth c s₁ B hml ht hP s₁ hh0 (Stand.of_body B)
    exact ⟨t, o, a1, b1, b2, b3⟩
/-- the table of a body with handlers -/
theorem vx_table {p : Program} {x y : MethodName} {S : Spec} {cc bytes : ByteArray} {maxL maxL' : Nat} {ret ret' : Option FieldType} {e : Env} {s s₁ : State} {m : MethodId} {args : Array Value} {below : List Frame} {meth : Method} {c : Code} {hh : List (Nat × Nat × Nat × Nat)}
    (B : BodyLoose p l y S cc maxL ret e s m args below meth c s₁) (h : (Cond.codeWith y bytes maxL' ret' hh).before args s = true) : c.exceptionTable.toList = tableOf hh := by
  obtain ⟨m9, meth9, c9, hn9, h1, h2, -, -, h6, -⟩ := Cond.codeWith_spec h
  cases Option.some.inj (hn9.symm.trans B.named)
  cases Option.some.inj (h1.symm.trans B.method)
  cases Option.some.inj (h2.symm.trans (Stand.of_body B).code)
  rw [← h6, table_eq]
end Bodies
end VXA
/-! ===== END ===== -/
/-! ===== BEGIN a static call of a method with an exception table ===== -/
section VXS
variable {p : Program} {l : Launch} {e : Env} {R : Room} {s : State} {m : MethodId} {args : Array Value} {below : List Frame} {meth : Method} {c : Code} {T : State} {H : Heap} {locs : List Loc} {cells slots : Nat}
abbrev vx_CSW (R : Room) (s : State) (args : Array Value) (own : String) (index : Nat) (y : MethodName) (bytes : ByteArray) (maxL : Nat) (ret : Option FieldType) (hh : List (Nat × Nat × Nat × Nat)) (ws : List Cond) (rm : Room) (mc ms n : Nat) : Prop :=
  (rm.cells = mc ∧ rm.slots = ms ∧ rm.frames + 1 ≤ R.frames ∧ 8 + (maxL + 11) + rm.locals ≤ R.locals ∧ (∀ w ∈ ws, ∀ (a' : Array Value) (U : State), s.WarmedH U.vm → w.before a' U = true) ∧ Cond.codeWith y bytes maxL ret hh ∈ ws) ∧
  (Cond.codeWith y bytes maxL ret hh).before args s = true ∧ (Cond.initialized y.cls).before args s = true ∧ (y.cls ≠ "java/lang/invoke/MethodHandle" ∧ y.cls ≠ "java/lang/invoke/VarHandle") ∧
  (∀ sig, parseMethodDescriptor y.desc = some sig → n = sig.parameters.length) ∧ (Cond.methodLink own index y).before args s = true ∧ (Cond.static y).before args s = true
theorem vx_cwSW {own : String} {index maxL mc ms : Nat} {y : MethodName} {bytes : ByteArray} {ret : Option FieldType} {hh : List (Nat × Nat × Nat × Nat)} {Ts ws ws' : List Cond} {rm : Room} (n : Nat) (ht : ∀ w ∈ Ts, w.before args s = true) (hT : GoodIn Ts (va_wsS own index y ws)) (hw : ws = Cond.codeWith y bytes maxL ret hh :: ws') (hrc : rm.cells = mc) (hrs : rm.slots = ms)
    (hd : y.cls ≠ "java/lang/invoke/MethodHandle" ∧ y.cls ≠ "java/lang/invoke/VarHandle" ∧ (parseMethodDescriptor y.desc).map (fun d => d.parameters.length) = some n) (hR : rm.frames + 1 ≤ R.frames ∧ 8 + (maxL + 11) + rm.locals ≤ R.locals) :
    vx_CSW R s args own index y bytes maxL ret hh ws rm mc ms n := by
  have ok : ∀ w ∈ va_wsS own index y ws, w.before args s = true := fun w h => ht w (hT w h).1
  have hG : GoodIn Ts ws := fun w h => hT w (by unfold va_wsS; exact List.mem_append_right _ h)
  have hc : Cond.codeWith y bytes maxL ret hh ∈ ws := by rw [hw]; exact List.mem_cons_self
  refine ⟨⟨hrc, hrs, hR.1, hR.2, pay_in ht hG, hc⟩, ht _ (hG _ hc).1, ok _ (by simp [va_wsS]), ⟨hd.1, hd.2.1⟩, fun sig h => ?_, ok _ (by simp [va_wsS]), ok _ (by simp [va_wsS])⟩
  have h2 := hd.2.2
  rw [h] at h2
  exact (Option.some.inj h2).symm
theorem vx_callSW (X : Stand p l e R s m args below meth c T locs cells slots) (hexec : p.tables.exec = Jvm.exec) {own : String} {index : Nat} {y : MethodName} {bytes : ByteArray} {maxL : Nat} {ret : Option FieldType} {hh : List (Nat × Nat × Nat × Nat)}
    (hown : s.vm.findClass own = some m.cls) (hlink : (Cond.methodLink own index y).before args s = true) (hstat : (Cond.static y).before args s = true) (hinit : (Cond.initialized y.cls).before args s = true)
    (hcode : (Cond.codeWith y bytes maxL ret hh).before args s = true) (hy : y.cls ≠ "java/lang/invoke/MethodHandle" ∧ y.cls ≠ "java/lang/invoke/VarHandle")
    {W9 : Nat} {Pre : Pt → Array Value → Prop} {Post : Pt → Array Value → Option Value → Pt → Prop} (hK : Back l R p e below s args y 3 W9 Pre Post)
    {g : JFrame} (hg : g.method = m) (hsize : g.locals.size = c.maxLocals) {argsL rest : List Value} (hlen : ∀ sig, parseMethodDescriptor y.desc = some sig → argsL.length = sig.parameters.length)
    (hstack : g.stack = argsL.reverse ++ rest) (hW : 2 * g.monitorRoom + (rest.map fun v => v.category).sum ≤ W9) (hdg : decode c.code g.pc = .ok (.invokestatic index, 3))
    (hpre : ∀ vm₁, s.WarmedH vm₁ → Pre ⟨T.setVm vm₁, locs, cells, slots⟩ argsL.toArray) :
    ∃ (v : Option Value) (vm₁ : Vm) (B : Pt), s.WarmedH vm₁ ∧ Stand p l e R s m args below meth c B.U B.locs B.cells B.slots ∧ Post ⟨T.setVm vm₁, locs, cells, slots⟩ argsL.toArray v B ∧
      ∀ target, Steps p.tables e below (B.U.setTop { g with pc := g.pc + 3, stack := v.toList ++ rest }) target → Steps p.tables e below (T.setTop g) target := by
  obtain ⟨mk, methM, cM, hnamed, hmethM, -, -, -, -, -, -, hsigM⟩ := Cond.codeWith_spec hcode
  have hstatic : methM.isStatic = true := Cond.static_spec hnamed hmethM hstat
  obtain ⟨kP, hkP, -⟩ := className_of_methodNamed hnamed
  have hinitP : kP.init = .initialized := Cond.initialized_spec (findClass_of_methodNamed hnamed) hkP hinit
  obtain ⟨vm₁, X₁, hstep₁⟩ := X.invokestatic hexec hown hlink hnamed hmethM hstatic hkP hinitP hy (g := g) hg (argsL := argsL) (rest := rest) (hlen _ hsigM) hstack hdg
  obtain ⟨v, B, X', hpost, hsteps⟩ := hK m meth c ⟨T.setVm vm₁, locs, cells, slots⟩ { g with stack := rest } (.invokestatic index) mk argsL.toArray X₁ hg hsize hdg hW (X₁.named hnamed) (hpre vm₁ X₁.warmed)
  exact ⟨v, vm₁, B, X₁.warmed, X', hpost, fun target h => hstep₁ _ fun acts => by rw [doInvoke_state]; exact hsteps.trans h⟩
theorem vx_runSW {y : MethodName} {bytes cc : ByteArray} {maxL nL mc ms n index : Nat} {ret : Option FieldType} {hh : List (Nat × Nat × Nat × Nat)} {ws : List Cond} {rm : Room} {Pc : Array Value → State → Prop} {Qc : Array Value → State → Outcome → State → Prop} {free : Addr → Prop} {Ts : List Cond} {own : String} {As rest : List Value} {g : JFrame}
    (S : CallFix p m c cc nL s args Ts own) (hM : Met l y ws rm Pc Qc mc ms free) (cw : vx_CSW R s args own index y bytes maxL ret hh ws rm mc ms n) (hp : PreS s H Pc As)
    (hg : g.method = m) (hn : As.length = n) (hsize : g.locals.size = nL) (hstack : g.stack = As.reverse ++ rest) (hW : 2 * g.monitorRoom + (rest.map fun v => v.category).sum ≤ 8) (hdg : decode cc g.pc = .ok (.invokestatic index, 3)) (hf : cells + mc ≤ R.cells ∧ slots + ms ≤ R.slots) :
    va_Run p l e R s m args below meth c H locs cells slots mc ms g rest (Qc As.toArray) (free) := by
  obtain ⟨⟨hrc, hrs, hfr, hlo, hws, hcw⟩, hcode, hini, hy, hlen, hl, hstt⟩ := cw
  have hK : Back l R p e below s args y 3 8 (PreOf R mc ms Pc) (PostOf Qc mc ms free) := va_backW (hh := hh) (bytes := bytes) (maxL := maxL) (ret := ret) hM hp.1 hrc hrs hfr hlo hws hcw (fun a' U hW => word_at hW (Or.inl (by first | rfl | simp [Cond.onTables, Cond.keeps, Cond.steady])) hini)
  obtain ⟨hx, hb, hml, ho, -⟩ := S
  intro T hT X
  obtain ⟨v, vm₁, ⟨U', l2, c2, s2⟩, hW₁, X', ⟨g', mk, t, L, e1, e2, hq, h1, hL, h2, h3⟩, st⟩ := vx_callSW X hx (hh := hh) (bytes := bytes) (maxL := maxL) (ret := ret) ho hl hstt hini hcode hy hK hg (hsize.trans hml.symm) (argsL := As) (rest := rest) (fun sig h => hn.trans (hlen sig h)) hstack hW (by rw [hb]; exact hdg)
    (fun vm₁ hW₁ => ⟨hf.1, hf.2, hp.2 (T.setVm vm₁) hT hW₁⟩)
  dsimp only [Pt.U, Pt.locs, Pt.cells, Pt.slots] at X' e1 e2 h1 h2 h3 st
  subst h1; subst h2; subst h3
  exact ⟨v, (T.setVm vm₁).calling g' mk As.toArray, t, U', L, hT, X', hL, e1, e2, hq, st⟩
/-- a thing of a world lies in the heap -/
theorem vx_lt {D : va_G} {cl : List vw_C} {ws : va_W} {H1 : Heap} (h : va_P D cl ws H1) {k : Nat} {q : Nat × va_E} (hk : ws[k]? = some q) : q.1 < H1.size := (h k q hk).lt
end VXS
/-! ===== END ===== -/
/-! ===== BEGIN methods with a table of their own: called by a name, returning or throwing ===== -/
section VXH
/-! vx_backW, vx_callVX, vx_callSX, vx_callVW, vx_runVW, vx_runVX, vx_runSX, vx_ofWH follow the same proofs as their sisters above (Free/Laws.lean, Shelf42/LK1.lean); vx_outP calls Shelf42/NT130.lean (outThrough). -/
section
variable {l : Launch} {R : Room} {p : Program} {e : Env} {below : List Frame} {s : State} {sargs : Array Value} {y : MethodName} {len W9 : Nat}
theorem vx_backW {ws : List Cond} {rm : Room} {Pc : Array Value → State → Prop} {Qc : Array Value → State → Outcome → State → Prop} {XC : String → State → State → Prop} {mc ms : Nat} {free : Addr → Prop} {bytes : ByteArray} {maxL : Nat} {ret : Option FieldType} {hh : List (Nat × Nat × Nat × Nat)}
    (hM : vx_Met l y ws rm Pc Qc XC mc ms free) (hblind : FrameBlind Pc) (hrc : rm.cells = mc) (hrs : rm.slots = ms)
    (hframes : rm.frames + 1 ≤ R.frames) (hlocals : W9 + (maxL + 11) + rm.locals ≤ R.locals)
    (hws : ∀ w ∈ ws, ∀ a' U, s.WarmedH U.vm → w.before a' U = true) (hcode : Cond.codeWith y bytes maxL ret hh ∈ ws) (hinit : ∀ a' U, s.WarmedH U.vm → (Cond.initialized y.cls).before a' U = true) :
    vx_Back l R p e below s sargs y len W9 (PreOf R mc ms Pc) (PostOf Qc mc ms free) (vx_Post XC mc ms free) := by
  intro m meth c A g ig mk a X hg hsize hdg hW hn hp
  have h1 : (headSpec ws rm).pre.before a A.U = true := atoms_intro fun w hw => hws w hw _ _ X.warmed
  have h2 : (Cond.codeWith y bytes maxL ret hh).before a A.U = true := hws _ hcode _ _ X.warmed
  have h3 : (Cond.initialized y.cls).before a A.U = true := hinit _ _ X.warmed
  have h4 : A.cells + (headSpec ws rm).room.cells ≤ R.cells := by rw [show (headSpec ws rm).room.cells = mc from hrc]; exact hp.1
  have h5 : A.slots + (headSpec ws rm).room.slots ≤ R.slots := by rw [show (headSpec ws rm).room.slots = ms from hrs]; exact hp.2.1
  have hPc : Pc a (A.U.calling g mk a) := hblind _ _ _ _ hp.2.2
  obtain ⟨U, Ls, c0, s0⟩ := A
  dsimp only [Pt.U, Pt.locs, Pt.cells, Pt.slots] at h1 h2 h3 h4 h5 X hn hPc ⊢
  obtain ⟨m9, methY, cY, hn9, hmY, hcY, -, hlY, -⟩ := Cond.codeWith_spec h2
  cases Option.some.inj (hn9.symm.trans hn)
  obtain ⟨kY, hkY, -⟩ := className_of_methodNamed hn
  have hinitY : kY.init = .initialized := Cond.initialized_spec (findClass_of_methodNamed hn) hkY h3
  have h : At U g.method c below := by rw [hg]; exact X.here
  have hlocals9 : W9 + (maxL + 11) + (headSpec ws rm).room.locals ≤ R.locals := hlocals
  have happ : (headSpec ws rm).appliesLoose y e.platform (U.calling g mk a) = true :=
    Spec.appliesLoose_calling (g := g) h hdg hn hkY hinitY
      (X.room_calling (g := g) (R' := (headSpec ws rm).room) hsize hmY hcY hframes (by rw [hlY]; omega) h4 h5) h1
  obtain ⟨mid, hmid⟩ := h.above
  have hfr : (U.setTop g).frames = (.java g :: mid) ++ below := by rw [State.frames_setTop' g h.top, hmid]; rfl
  obtain ⟨o, s₂, hsteps, -, hend, hq⟩ := Steps.callFree hM p X.admits X.cas X.clock (acts := []) hfr happ hPc trivial
  have hq' : vx_Q Qc XC mc ms free a (U.calling g mk a) o s₂ := hq
  rw [State.frames_setTop' g h.top] at hend
  obtain ⟨g₀, hg0⟩ := Option.isSome_iff_exists.mp h.top
  obtain ⟨r, hr⟩ := State.topJava?_eq_some.mp hg0
  have hr' : (({ U with heap := s₂.heap, slotsUsed := s₂.slotsUsed } : State).setVm s₂.vm).frames = .java g₀ :: r := hr
  rcases hq' with ⟨hqc, L, hfe, hL⟩ | ⟨q, rfl, E, ce, L, hx, hce, hcv, hcl, hW₂, hsm, hL⟩
  · obtain ⟨⟨v, rfl⟩, hW₂, e2, q2, q3, q4, q5, q6⟩ := id hfe
    have e3 : s₂ = ({ (U.calling g mk a).setFrames s₂.frames with heap := s₂.heap, slotsUsed := s₂.slotsUsed } : State).setVm s₂.vm := by
      have : s₂ = ({ s₂ with vm := (U.calling g mk a).vm } : State).setVm s₂.vm := rfl
      rw [e2] at this
      exact this
    obtain ⟨c₂, i₂, len₂, hc₂, hd₂, hf₂⟩ := hend
    have hW' : U.WarmedH s₂.vm := hW₂
    have hcc : c₂ = c := by
      have h1 : s₂.code? g.method = U.code? g.method := by
        rw [State.code?_eq, State.code?_eq, hW'.alike.method?]
      exact Option.some.inj (hc₂.symm.trans (h1.trans h.code))
    subst hcc
    have hlen : len₂ = len := by rw [hdg] at hd₂; cases hd₂; rfl
    subst hlen
    have hs₂ : s₂ = (({ U with heap := s₂.heap, slotsUsed := s₂.slotsUsed } : State).setVm s₂.vm).setTop { g with pc := g.pc + len₂, stack := v.toList ++ g.stack } := by
      refine e3.trans ?_
      rw [hf₂, State.calling_eq h.top, State.setFrames_setFrames, State.setTop_of_frames _ hr', hr]
      rfl
    have hsame : U.sameButNew ({ U with heap := s₂.heap, slotsUsed := s₂.slotsUsed } : State) L mc ms := by
      refine ⟨?_, q2, q3, q4, q5, q6⟩
      obtain ⟨t, ht, -⟩ := State.frames_cons hr
      show ({ U with heap := s₂.heap, slotsUsed := s₂.slotsUsed } : State) = { U.setFrames U.frames with heap := s₂.heap, slotsUsed := s₂.slotsUsed }
      rw [State.setFrames_self ht]
    subst hg
    refine Or.inl ⟨v, ⟨(({ U with heap := s₂.heap, slotsUsed := s₂.slotsUsed } : State).setVm s₂.vm), Ls ++ L, c0 + mc, s0 + ms⟩,
      ⟨X.admits, X.cas, X.clock, X.frames, X.room, X.hears, X.method, X.code, (X.here.setHeapUsed s₂.heap s₂.slotsUsed).setVm hW'.alike, X.tail, State.WarmedH.trans X.warmed hW', X.limits, X.bytes, X.same.trans (hsame.setVm s.vm)⟩,
      ⟨g, mk, s₂, L, rfl, rfl, hqc, rfl, hL, rfl, rfl⟩, ?_⟩
    show Steps p.tables e below _ ((({ U with heap := s₂.heap, slotsUsed := s₂.slotsUsed } : State).setVm s₂.vm).setTop { g with pc := g.pc + len₂, stack := v.toList ++ g.stack })
    rw [← hs₂]
    exact hsteps
  · obtain ⟨e2, q2, q3, q4, q5, q6⟩ := id hsm
    have e3 : s₂ = ({ (U.calling g mk a).setFrames s₂.frames with heap := s₂.heap, slotsUsed := s₂.slotsUsed } : State).setVm s₂.vm := by
      have : s₂ = ({ s₂ with vm := (U.calling g mk a).vm } : State).setVm s₂.vm := rfl
      rw [e2] at this
      exact this
    have hf₂ : s₂.frames = .throwing q :: .java g :: U.frames.tail := hend
    have hW' : U.WarmedH s₂.vm := hW₂
    have hs₂ : s₂ = ((({ U with heap := s₂.heap, slotsUsed := s₂.slotsUsed } : State).setVm s₂.vm).setTop g).pushFrame (.throwing q) := by
      refine e3.trans ?_
      rw [hf₂, State.calling_eq h.top, State.setFrames_setFrames, State.pushFrame, State.frames_setTop _ hr', State.setTop_of_frames _ hr', State.setFrames_setFrames, hr]
      rfl
    have hsame : U.sameButNew ({ U with heap := s₂.heap, slotsUsed := s₂.slotsUsed } : State) L mc ms := by
      refine ⟨?_, q2, q3, q4, q5, q6⟩
      obtain ⟨t, ht, -⟩ := State.frames_cons hr
      show ({ U with heap := s₂.heap, slotsUsed := s₂.slotsUsed } : State) = { U.setFrames U.frames with heap := s₂.heap, slotsUsed := s₂.slotsUsed }
      rw [State.setFrames_self ht]
    subst hg
    refine Or.inr ⟨q, ⟨(({ U with heap := s₂.heap, slotsUsed := s₂.slotsUsed } : State).setVm s₂.vm), Ls ++ L, c0 + mc, s0 + ms⟩,
      ⟨X.admits, X.cas, X.clock, X.frames, X.room, X.hears, X.method, X.code, (X.here.setHeapUsed s₂.heap s₂.slotsUsed).setVm hW'.alike, X.tail, State.WarmedH.trans X.warmed hW', X.limits, X.bytes, X.same.trans (hsame.setVm s.vm)⟩,
      ⟨g, mk, s₂, L, E, ce, rfl, rfl, hx, hce, hcv, hcl, rfl, hL, rfl, rfl⟩, ?_⟩
    show Steps p.tables e below _ (((({ U with heap := s₂.heap, slotsUsed := s₂.slotsUsed } : State).setVm s₂.vm).setTop g).pushFrame (.throwing q))
    rw [← hs₂]
    exact hsteps
end
variable {p : Program} {l : Launch} {e : Env} {R : Room} {s : State} {m : MethodId} {args : Array Value} {below : List Frame} {meth : Method} {c : Code} {T : State} {H : Heap} {locs : List Loc} {cells slots : Nat}
theorem vx_callVX (X : Stand p l e R s m args below meth c T locs cells slots) (hexec : p.tables.exec = Jvm.exec) {own C : String} {index : Nat} {y : MethodName} {bytes : ByteArray} {maxL : Nat} {ret : Option FieldType} {hh : List (Nat × Nat × Nat × Nat)}
    (hown : s.vm.findClass own = some m.cls) (hlink : (Cond.methodLink own index y).before args s = true) (hinst : (Cond.instanceMethod y).before args s = true) (hsel : (Cond.selects C y y).before args s = true)
    (hcode : (Cond.codeWith y bytes maxL ret hh).before args s = true) (hy : y.cls ≠ "java/lang/invoke/MethodHandle" ∧ y.cls ≠ "java/lang/invoke/VarHandle")
    {W9 : Nat} {Pre : Pt → Array Value → Prop} {Post : Pt → Array Value → Option Value → Pt → Prop} {PostX : Pt → Array Value → Addr → Pt → Prop} (hK : vx_Back l R p e below s args y 3 W9 Pre Post PostX)
    {b : Addr} {cellB : Cell} (hcell : T.heap[b]? = some cellB) (hobj : cellB.vm.isStatics = false) (hcls : s.vm.findClass C = some cellB.cls)
    {g : JFrame} (hg : g.method = m) (hsize : g.locals.size = c.maxLocals) {argsL rest : List Value} (hlen : ∀ sig, parseMethodDescriptor y.desc = some sig → argsL.length = sig.parameters.length)
    (hstack : g.stack = argsL.reverse ++ .ref b :: rest) (hW : 2 * g.monitorRoom + (rest.map fun v => v.category).sum ≤ W9) (hdg : decode c.code g.pc = .ok (.invokevirtual index, 3))
    (hpre : ∀ vm₁, s.WarmedH vm₁ → Pre ⟨T.setVm vm₁, locs, cells, slots⟩ (Value.ref b :: argsL).toArray) :
    (∃ (v : Option Value) (vm₁ : Vm) (B : Pt), s.WarmedH vm₁ ∧ Stand p l e R s m args below meth c B.U B.locs B.cells B.slots ∧ Post ⟨T.setVm vm₁, locs, cells, slots⟩ (Value.ref b :: argsL).toArray v B ∧
      ∀ target, Steps p.tables e below (B.U.setTop { g with pc := g.pc + 3, stack := v.toList ++ rest }) target → Steps p.tables e below (T.setTop g) target) ∨
    (∃ (q : Addr) (vm₁ : Vm) (B : Pt), s.WarmedH vm₁ ∧ Stand p l e R s m args below meth c B.U B.locs B.cells B.slots ∧ PostX ⟨T.setVm vm₁, locs, cells, slots⟩ (Value.ref b :: argsL).toArray q B ∧
      Steps p.tables e below (T.setTop g) ((B.U.setTop { g with stack := rest }).pushFrame (.throwing q))) := by
  obtain ⟨mk, methM, hnamed, hmethM, hstM, habM⟩ := Cond.instanceMethod_spec hinst
  obtain ⟨m8, methM', cM, hn8, hmethM', -, -, -, -, -, -, hsigM⟩ := Cond.codeWith_spec hcode
  cases Option.some.inj (hn8.symm.trans hnamed)
  cases hmethM.symm.trans hmethM'
  obtain ⟨c2, r2, m2, q1, q2, q3, q4, kP, hkP, hkPi⟩ := Cond.selects_spec hsel
  cases hcls.symm.trans q1
  cases (State.methodFound?_of_named hnamed hy).symm.trans q2
  cases hnamed.symm.trans q3
  have hselP : selectMethod e.platform s.vm cellB.cls mk = .method mk := by rw [Launch.admits_selectMethod X.admits]; exact q4
  obtain ⟨vm₁, X₁, hstep₁⟩ := X.invokevirtual hexec hown hlink hnamed hmethM hstM hkP hkPi hy (a := b) (cell := cellB) hcell
    (fun z h => by rw [h] at hobj; cases hobj) hselP hmethM habM hkP hkPi (g := g) hg (argsL := argsL) (rest := rest) (hlen _ hsigM) hstack hdg
  rcases hK m meth c ⟨T.setVm vm₁, locs, cells, slots⟩ { g with stack := rest } (.invokevirtual index) mk (Value.ref b :: argsL).toArray X₁ hg hsize hdg hW (X₁.named hnamed) (hpre vm₁ X₁.warmed) with ⟨v, B, X', hpost, hsteps⟩ | ⟨q, B, X', hpost, hsteps⟩
  · exact Or.inl ⟨v, vm₁, B, X₁.warmed, X', hpost, fun target h => hstep₁ _ fun acts => by rw [doInvoke_state]; exact hsteps.trans h⟩
  · exact Or.inr ⟨q, vm₁, B, X₁.warmed, X', hpost, hstep₁ _ fun acts => by rw [doInvoke_state]; exact hsteps⟩
theorem vx_callSX (X : Stand p l e R s m args below meth c T locs cells slots) (hexec : p.tables.exec = Jvm.exec) {own : String} {index : Nat} {y : MethodName} {bytes : ByteArray} {maxL : Nat} {ret : Option FieldType} {hh : List (Nat × Nat × Nat × Nat)}
    (hown : s.vm.findClass own = some m.cls) (hlink : (Cond.methodLink own index y).before args s = true) (hstat : (Cond.static y).before args s = true) (hinit : (Cond.initialized y.cls).before args s = true)
    (hcode : (Cond.codeWith y bytes maxL ret hh).before args s = true) (hy : y.cls ≠ "java/lang/invoke/MethodHandle" ∧ y.cls ≠ "java/lang/invoke/VarHandle")
    {W9 : Nat} {Pre : Pt → Array Value → Prop} {Post : Pt → Array Value → Option Value → Pt → Prop} {PostX : Pt → Array Value → Addr → Pt → Prop} (hK : vx_Back l R p e below s args y 3 W9 Pre Post PostX)
    {g : JFrame} (hg : g.method = m) (hsize : g.locals.size = c.maxLocals) {argsL rest : List Value} (hlen : ∀ sig, parseMethodDescriptor y.desc = some sig → argsL.length = sig.parameters.length)
    (hstack : g.stack = argsL.reverse ++ rest) (hW : 2 * g.monitorRoom + (rest.map fun v => v.category).sum ≤ W9) (hdg : decode c.code g.pc = .ok (.invokestatic index, 3))
    (hpre : ∀ vm₁, s.WarmedH vm₁ → Pre ⟨T.setVm vm₁, locs, cells, slots⟩ argsL.toArray) :
    (∃ (v : Option Value) (vm₁ : Vm) (B : Pt), s.WarmedH vm₁ ∧ Stand p l e R s m args below meth c B.U B.locs B.cells B.slots ∧ Post ⟨T.setVm vm₁, locs, cells, slots⟩ argsL.toArray v B ∧
      ∀ target, Steps p.tables e below (B.U.setTop { g with pc := g.pc + 3, stack := v.toList ++ rest }) target → Steps p.tables e below (T.setTop g) target) ∨
    (∃ (q : Addr) (vm₁ : Vm) (B : Pt), s.WarmedH vm₁ ∧ Stand p l e R s m args below meth c B.U B.locs B.cells B.slots ∧ PostX ⟨T.setVm vm₁, locs, cells, slots⟩ argsL.toArray q B ∧
      Steps p.tables e below (T.setTop g) ((B.U.setTop { g with stack := rest }).pushFrame (.throwing q))) := by
  obtain ⟨mk, methM, cM, hnamed, hmethM, -, -, -, -, -, -, hsigM⟩ := Cond.codeWith_spec hcode
  have hstatic : methM.isStatic = true := Cond.static_spec hnamed hmethM hstat
  obtain ⟨kP, hkP, -⟩ := className_of_methodNamed hnamed
  have hinitP : kP.init = .initialized := Cond.initialized_spec (findClass_of_methodNamed hnamed) hkP hinit
  obtain ⟨vm₁, X₁, hstep₁⟩ := X.invokestatic hexec hown hlink hnamed hmethM hstatic hkP hinitP hy (g := g) hg (argsL := argsL) (rest := rest) (hlen _ hsigM) hstack hdg
  rcases hK m meth c ⟨T.setVm vm₁, locs, cells, slots⟩ { g with stack := rest } (.invokestatic index) mk argsL.toArray X₁ hg hsize hdg hW (X₁.named hnamed) (hpre vm₁ X₁.warmed) with ⟨v, B, X', hpost, hsteps⟩ | ⟨q, B, X', hpost, hsteps⟩
  · exact Or.inl ⟨v, vm₁, B, X₁.warmed, X', hpost, fun target h => hstep₁ _ fun acts => by rw [doInvoke_state]; exact hsteps.trans h⟩
  · exact Or.inr ⟨q, vm₁, B, X₁.warmed, X', hpost, hstep₁ _ fun acts => by rw [doInvoke_state]; exact hsteps⟩
theorem vx_callVW (X : Stand p l e R s m args below meth c T locs cells slots) (hexec : p.tables.exec = Jvm.exec) {own C : String} {index : Nat} {y : MethodName} {bytes : ByteArray} {maxL : Nat} {ret : Option FieldType} {hh : List (Nat × Nat × Nat × Nat)}
    (hown : s.vm.findClass own = some m.cls) (hlink : (Cond.methodLink own index y).before args s = true) (hinst : (Cond.instanceMethod y).before args s = true) (hsel : (Cond.selects C y y).before args s = true)
    (hcode : (Cond.codeWith y bytes maxL ret hh).before args s = true) (hy : y.cls ≠ "java/lang/invoke/MethodHandle" ∧ y.cls ≠ "java/lang/invoke/VarHandle")
    {W9 : Nat} {Pre : Pt → Array Value → Prop} {Post : Pt → Array Value → Option Value → Pt → Prop} (hK : Back l R p e below s args y 3 W9 Pre Post)
    {b : Addr} {cellB : Cell} (hcell : T.heap[b]? = some cellB) (hobj : cellB.vm.isStatics = false) (hcls : s.vm.findClass C = some cellB.cls)
    {g : JFrame} (hg : g.method = m) (hsize : g.locals.size = c.maxLocals) {argsL rest : List Value} (hlen : ∀ sig, parseMethodDescriptor y.desc = some sig → argsL.length = sig.parameters.length)
    (hstack : g.stack = argsL.reverse ++ .ref b :: rest) (hW : 2 * g.monitorRoom + (rest.map fun v => v.category).sum ≤ W9) (hdg : decode c.code g.pc = .ok (.invokevirtual index, 3))
    (hpre : ∀ vm₁, s.WarmedH vm₁ → Pre ⟨T.setVm vm₁, locs, cells, slots⟩ (Value.ref b :: argsL).toArray) :
    ∃ (v : Option Value) (vm₁ : Vm) (B : Pt), s.WarmedH vm₁ ∧ Stand p l e R s m args below meth c B.U B.locs B.cells B.slots ∧ Post ⟨T.setVm vm₁, locs, cells, slots⟩ (Value.ref b :: argsL).toArray v B ∧
      ∀ target, Steps p.tables e below (B.U.setTop { g with pc := g.pc + 3, stack := v.toList ++ rest }) target → Steps p.tables e below (T.setTop g) target := by
  obtain ⟨mk, methM, hnamed, hmethM, hstM, habM⟩ := Cond.instanceMethod_spec hinst
  obtain ⟨m8, methM', cM, hn8, hmethM', -, -, -, -, -, -, hsigM⟩ := Cond.codeWith_spec hcode
  cases Option.some.inj (hn8.symm.trans hnamed)
  cases hmethM.symm.trans hmethM'
  obtain ⟨c2, r2, m2, q1, q2, q3, q4, kP, hkP, hkPi⟩ := Cond.selects_spec hsel
  cases hcls.symm.trans q1
  cases (State.methodFound?_of_named hnamed hy).symm.trans q2
  cases hnamed.symm.trans q3
  have hselP : selectMethod e.platform s.vm cellB.cls mk = .method mk := by rw [Launch.admits_selectMethod X.admits]; exact q4
  obtain ⟨vm₁, X₁, hstep₁⟩ := X.invokevirtual hexec hown hlink hnamed hmethM hstM hkP hkPi hy (a := b) (cell := cellB) hcell
    (fun z h => by rw [h] at hobj; cases hobj) hselP hmethM habM hkP hkPi (g := g) hg (argsL := argsL) (rest := rest) (hlen _ hsigM) hstack hdg
  obtain ⟨v, B, X', hpost, hsteps⟩ := hK m meth c ⟨T.setVm vm₁, locs, cells, slots⟩ { g with stack := rest } (.invokevirtual index) mk (Value.ref b :: argsL).toArray X₁ hg hsize hdg hW (X₁.named hnamed) (hpre vm₁ X₁.warmed)
  exact ⟨v, vm₁, B, X₁.warmed, X', hpost, fun target h => hstep₁ _ fun acts => by rw [doInvoke_state]; exact hsteps.trans h⟩
abbrev vx_CVW (R : Room) (s : State) (args : Array Value) (own C : String) (index : Nat) (y : MethodName) (bytes : ByteArray) (maxL : Nat) (ret : Option FieldType) (hh : List (Nat × Nat × Nat × Nat)) (ws : List Cond) (rm : Room) (mc ms n : Nat) : Prop :=
  (rm.cells = mc ∧ rm.slots = ms ∧ rm.frames + 1 ≤ R.frames ∧ 8 + (maxL + 11) + rm.locals ≤ R.locals ∧ (∀ w ∈ ws, ∀ (a' : Array Value) (U : State), s.WarmedH U.vm → w.before a' U = true) ∧ Cond.codeWith y bytes maxL ret hh ∈ ws) ∧
  (Cond.codeWith y bytes maxL ret hh).before args s = true ∧ (Cond.initialized y.cls).before args s = true ∧ (y.cls ≠ "java/lang/invoke/MethodHandle" ∧ y.cls ≠ "java/lang/invoke/VarHandle") ∧
  (∀ sig, parseMethodDescriptor y.desc = some sig → n = sig.parameters.length) ∧ (Cond.methodLink own index y).before args s = true ∧ (Cond.instanceMethod y).before args s = true ∧ (Cond.selects C y y).before args s = true
theorem vx_cwVW {own C : String} {index maxL mc ms : Nat} {y : MethodName} {bytes : ByteArray} {ret : Option FieldType} {hh : List (Nat × Nat × Nat × Nat)} {Ts ws ws' : List Cond} {rm : Room} (n : Nat) (ht : ∀ w ∈ Ts, w.before args s = true) (hT : GoodIn Ts (wsV own index C y ws)) (hw : ws = Cond.codeWith y bytes maxL ret hh :: ws') (hrc : rm.cells = mc) (hrs : rm.slots = ms)
    (hd : y.cls = C ∧ y.cls ≠ "java/lang/invoke/MethodHandle" ∧ y.cls ≠ "java/lang/invoke/VarHandle" ∧ (parseMethodDescriptor y.desc).map (fun d => d.parameters.length) = some n) (hR : rm.frames + 1 ≤ R.frames ∧ 8 + (maxL + 11) + rm.locals ≤ R.locals) :
    vx_CVW R s args own C index y bytes maxL ret hh ws rm mc ms n := by
  obtain ⟨hC, hd⟩ := hd
  subst hC
  have ok : ∀ w ∈ wsV own index y.cls y ws, w.before args s = true := fun w h => ht w (hT w h).1
  have hG : GoodIn Ts ws := fun w h => hT w (by unfold wsV; exact List.mem_append_right _ h)
  have hc : Cond.codeWith y bytes maxL ret hh ∈ ws := by rw [hw]; exact List.mem_cons_self
  refine ⟨⟨hrc, hrs, hR.1, hR.2, pay_in ht hG, hc⟩, ht _ (hG _ hc).1, ok _ (by simp [wsV]), ⟨hd.1, hd.2.1⟩, fun sig h => ?_, ok _ (by simp [wsV]), ok _ (by simp [wsV]), ok _ (by simp [wsV])⟩
  have h2 := hd.2.2
  rw [h] at h2
  exact (Option.some.inj h2).symm
theorem vx_runVW {y : MethodName} {bytes cc : ByteArray} {maxL nL mc ms n index : Nat} {ret : Option FieldType} {hh : List (Nat × Nat × Nat × Nat)} {ws : List Cond} {rm : Room} {Pc : Array Value → State → Prop} {Qc : Array Value → State → Outcome → State → Prop} {free : Addr → Prop} {Ts : List Cond} {own C : String} {b : Addr} {As rest : List Value} {g : JFrame}
    (S : CallFix p m c cc nL s args Ts own) (hM : Met l y ws rm Pc Qc mc ms free) (cw : vx_CVW R s args own C index y bytes maxL ret hh ws rm mc ms n) (hp : PreV s H C b Pc As)
    (hg : g.method = m) (hn : As.length = n) (hsize : g.locals.size = nL) (hstack : g.stack = As.reverse ++ .ref b :: rest) (hW : 2 * g.monitorRoom + (rest.map fun v => v.category).sum ≤ 8) (hdg : decode cc g.pc = .ok (.invokevirtual index, 3)) (hf : cells + mc ≤ R.cells ∧ slots + ms ≤ R.slots) :
    va_Run p l e R s m args below meth c H locs cells slots mc ms g rest (Qc (Value.ref b :: As).toArray) free := by
  obtain ⟨⟨hrc, hrs, hfr, hlo, hws, hcw⟩, hcode, hini, hy, hlen, hl, hin, hse⟩ := cw
  have hK : Back l R p e below s args y 3 8 (PreOf R mc ms Pc) (PostOf Qc mc ms free) := va_backW (hh := hh) (bytes := bytes) (maxL := maxL) (ret := ret) hM hp.1 hrc hrs hfr hlo hws hcw (fun a' U hW => word_at hW (Or.inl (by first | rfl | simp [Cond.onTables, Cond.keeps, Cond.steady])) hini)
  obtain ⟨hx, hb, hml, ho, -⟩ := S
  obtain ⟨-, ⟨cellB, hcB, hoB, hclB⟩, hPc⟩ := hp
  intro T hT X
  obtain ⟨v, vm₁, ⟨U', l2, c2, s2⟩, hW₁, X', ⟨g', mk, t, L, e1, e2, hq, h1, hL, h2, h3⟩, st⟩ := vx_callVW X hx (C := C) (hh := hh) (bytes := bytes) (maxL := maxL) (ret := ret) ho hl hin hse hcode hy hK (by rw [hT]; exact hcB) hoB hclB hg (hsize.trans hml.symm) (argsL := As) (rest := rest) (fun sig h => hn.trans (hlen sig h)) hstack hW (by rw [hb]; exact hdg)
    (fun vm₁ hW₁ => ⟨hf.1, hf.2, hPc (T.setVm vm₁) hT hW₁⟩)
  dsimp only [Pt.U, Pt.locs, Pt.cells, Pt.slots] at X' e1 e2 h1 h2 h3 st
  subst h1; subst h2; subst h3
  exact ⟨v, (T.setVm vm₁).calling g' mk (Value.ref b :: As).toArray, t, U', L, hT, X', hL, e1, e2, hq, st⟩
section
variable {y : MethodName} {bytes cc : ByteArray} {maxL nL mc ms n index : Nat} {ret : Option FieldType} {ws : List Cond} {rm : Room} {Pc : Array Value → State → Prop} {Qc : Array Value → State → Outcome → State → Prop} {XC : String → State → State → Prop} {free : Addr → Prop} {Ts : List Cond} {own C : String} {b : Addr} {As rest : List Value} {g : JFrame}
theorem vx_runVX {hh : List (Nat × Nat × Nat × Nat)} (S : CallFix p m c cc nL s args Ts own) (hM : vx_Met l y ws rm Pc Qc XC mc ms free) (cw : vx_CVW R s args own C index y bytes maxL ret hh ws rm mc ms n) (hp : PreV s H C b Pc As)
    (hg : g.method = m) (hn : As.length = n) (hsize : g.locals.size = nL) (hstack : g.stack = As.reverse ++ .ref b :: rest) (hW : 2 * g.monitorRoom + (rest.map fun v => v.category).sum ≤ 8) (hdg : decode cc g.pc = .ok (.invokevirtual index, 3)) (hf : cells + mc ≤ R.cells ∧ slots + ms ≤ R.slots) :
    vx_Run p l e R s m args below meth c H locs cells slots mc ms g rest (Qc (Value.ref b :: As).toArray) XC free := by
  obtain ⟨⟨hrc, hrs, hfr, hlo, hws, hcw⟩, hcode, hini, hy, hlen, hl, hin, hse⟩ := cw
  have hK : vx_Back l R p e below s args y 3 8 (PreOf R mc ms Pc) (PostOf Qc mc ms free) (vx_Post XC mc ms free) := vx_backW (hh := hh) (bytes := bytes) (maxL := maxL) (ret := ret) hM hp.1 hrc hrs hfr hlo hws hcw (fun a' U hW => word_at hW (Or.inl (by first | rfl | simp [Cond.onTables, Cond.keeps, Cond.steady])) hini)
  obtain ⟨hx, hb, hml, ho, -⟩ := S
  obtain ⟨-, ⟨cellB, hcB, hoB, hclB⟩, hPc⟩ := hp
  intro T hT X
  rcases vx_callVX X hx (C := C) (hh := hh) (bytes := bytes) (maxL := maxL) (ret := ret) ho hl hin hse hcode hy hK (by rw [hT]; exact hcB) hoB hclB hg (hsize.trans hml.symm) (argsL := As) (rest := rest) (fun sig h => hn.trans (hlen sig h)) hstack hW (by rw [hb]; exact hdg)
    (fun vm₁ hW₁ => ⟨hf.1, hf.2, hPc (T.setVm vm₁) hT hW₁⟩) with ⟨v, vm₁, ⟨U', l2, c2, s2⟩, hW₁, X', ⟨g', mk, t, L, e1, e2, hq, h1, hL, h2, h3⟩, st⟩ | ⟨q, vm₁, ⟨U', l2, c2, s2⟩, hW₁, X', ⟨g', mk, t, L, E, ce, e1, e2, hq, hce, hcv, hcl, h1, hL, h2, h3⟩, st⟩
  · dsimp only [Pt.U, Pt.locs, Pt.cells, Pt.slots] at X' e1 e2 h1 h2 h3 st
    subst h1; subst h2; subst h3
    exact Or.inl ⟨v, (T.setVm vm₁).calling g' mk (Value.ref b :: As).toArray, t, U', L, hT, X', hL, e1, e2, hq, st⟩
  · dsimp only [Pt.U, Pt.locs, Pt.cells, Pt.slots] at X' e1 e2 h1 h2 h3 st hcl
    subst h1; subst h2; subst h3
    exact Or.inr ⟨q, (T.setVm vm₁).calling g' mk (Value.ref b :: As).toArray, t, U', L, E, ce, hT, X', hL, e1, e2, hq, hce, hcv, vx_cls hW₁ hcl, st⟩
theorem vx_runSX {hh : List (Nat × Nat × Nat × Nat)} (S : CallFix p m c cc nL s args Ts own) (hM : vx_Met l y ws rm Pc Qc XC mc ms free) (cw : vx_CSW R s args own index y bytes maxL ret hh ws rm mc ms n) (hp : PreS s H Pc As)
    (hg : g.method = m) (hn : As.length = n) (hsize : g.locals.size = nL) (hstack : g.stack = As.reverse ++ rest) (hW : 2 * g.monitorRoom + (rest.map fun v => v.category).sum ≤ 8) (hdg : decode cc g.pc = .ok (.invokestatic index, 3)) (hf : cells + mc ≤ R.cells ∧ slots + ms ≤ R.slots) :
    vx_Run p l e R s m args below meth c H locs cells slots mc ms g rest (Qc As.toArray) XC free := by
  obtain ⟨⟨hrc, hrs, hfr, hlo, hws, hcw⟩, hcode, hini, hy, hlen, hl, hstt⟩ := cw
  have hK : vx_Back l R p e below s args y 3 8 (PreOf R mc ms Pc) (PostOf Qc mc ms free) (vx_Post XC mc ms free) := vx_backW (hh := hh) (bytes := bytes) (maxL := maxL) (ret := ret) hM hp.1 hrc hrs hfr hlo hws hcw (fun a' U hW => word_at hW (Or.inl (by first | rfl | simp [Cond.onTables, Cond.keeps, Cond.steady])) hini)
  obtain ⟨hx, hb, hml, ho, -⟩ := S
  intro T hT X
  rcases vx_callSX X hx (hh := hh) (bytes := bytes) (maxL := maxL) (ret := ret) ho hl hstt hini hcode hy hK hg (hsize.trans hml.symm) (argsL := As) (rest := rest) (fun sig h => hn.trans (hlen sig h)) hstack hW (by rw [hb]; exact hdg)
    (fun vm₁ hW₁ => ⟨hf.1, hf.2, hp.2 (T.setVm vm₁) hT hW₁⟩) with ⟨v, vm₁, ⟨U', l2, c2, s2⟩, hW₁, X', ⟨g', mk, t, L, e1, e2, hq, h1, hL, h2, h3⟩, st⟩ | ⟨q, vm₁, ⟨U', l2, c2, s2⟩, hW₁, X', ⟨g', mk, t, L, E, ce, e1, e2, hq, hce, hcv, hcl, h1, hL, h2, h3⟩, st⟩
  · dsimp only [Pt.U, Pt.locs, Pt.cells, Pt.slots] at X' e1 e2 h1 h2 h3 st
    subst h1; subst h2; subst h3
    exact Or.inl ⟨v, (T.setVm vm₁).calling g' mk As.toArray, t, U', L, hT, X', hL, e1, e2, hq, st⟩
  · dsimp only [Pt.U, Pt.locs, Pt.cells, Pt.slots] at X' e1 e2 h1 h2 h3 st hcl
    subst h1; subst h2; subst h3
    exact Or.inr ⟨q, (T.setVm vm₁).calling g' mk As.toArray, t, U', L, E, ce, hT, X', hL, e1, e2, hq, hce, hcv, vx_cls hW₁ hcl, st⟩
end
end VXH
theorem vx_ofWH {l : Launch} {y : MethodName} {ws ws' : List Cond} {rm : Room} {Pc : Array Value → State → Prop} {Qc : Array Value → State → Outcome → State → Prop} {XC : String → State → State → Prop} {mc ms : Nat} {free : Addr → Prop} {cc : ByteArray} {maxL : Nat} {ret : Option FieldType} {hh : List (Nat × Nat × Nat × Nat)}
    (hy : plainName y.cls = true) (hw : ws = Cond.codeWith y cc maxL ret hh :: ws')
    (body : ∀ p e s m args below meth c s₁, BodyLoose p l y (headSpec ws rm) cc maxL ret e s m args below meth c s₁ → c.maxLocals = maxL → Pc args s →
      W p l e (headSpec ws rm).room s m args below meth c s.heap [] 0 0 (vx_MQ below Qc XC args s mc ms free) (entryFrame m args maxL)) : vx_Met l y ws rm Pc Qc XC mc ms free := by
  refine MetFree.of_bodyS (code := cc) (maxLocals := maxL) (ret := ret) hy ?_ ?_
  · intro args s m h hn
    obtain ⟨m9, meth, c, hn9, h1, h2, h3, h4, -, h5, h6, -⟩ := Cond.codeWith_spec (atoms_spec (ws := ws) h _ (by rw [hw]; exact List.mem_cons_self))
    cases hn.symm.trans hn9
    exact ⟨meth, c, h1, h2, h3, h4, h5, h6⟩
  · intro p e s m args below meth c s₁ B hml hP _
    have hh0 : s₁.heap = s.heap := by rw [B.state]; rfl
    obtain ⟨t, a1, o, b1, b2, b3⟩ := body p e s m args below meth c s₁ B hml hP s₁ hh0 (Stand.of_body B)
    exact ⟨t, o, a1, b1, b2, b3⟩
/-! ===== END ===== -/

/-! ===== BEGIN printed: names, fields, word lists, decode rows ===== -/
def RX0 : String := "ClassGate$AttributeCheck"
def TX0 : u_T := fun k => match k with
  | 0 => ("ClassGate$AttributeCheck", "file", "LClassGate$ClassFile;", true)
  | 1 => ("ClassGate$AttributeCheck", "bytes", "LClassGate$Bytes;", true)
  | 2 => ("ClassGate$AttributeCheck", "pool", "LClassGate$Pool;", true)
  | 3 => ("ClassGate$AttributeCheck", "verdict", "LClassGate$Verdict;", true)
  | _ => ("ClassGate$AttributeCheck", "seen", "I", false)
def tyX0 : Nat → FieldType := fun k => match k with
  | 0 => .object "ClassGate$ClassFile"
  | 1 => .object "ClassGate$Bytes"
  | 2 => .object "ClassGate$Pool"
  | 3 => .object "ClassGate$Verdict"
  | _ => .int
abbrev wsX00 : List Cond := u_ws RX0 TX0 5
theorem nmX0 : ∀ a, a < 5 → ∀ b, b < 5 → a ≠ b → (TX0 a).2.1 ≠ (TX0 b).2.1 := by decide +kernel
theorem tyX0_ok : ∀ k, k < 5 → parseFieldDescriptor (TX0 k).2.2.1 = some (tyX0 k) := by decide +kernel
abbrev cX0_init : ByteArray := prog_2_method_1_code
def yX0_init : MethodName := ⟨RX0, "<init>", "(LClassGate$ClassFile;LClassGate$Verdict;)V"⟩
abbrev cX0_ofField : ByteArray := prog_2_method_2_code
def yX0_ofField : MethodName := ⟨RX0, "ofField", "(LClassGate$Member;)Z"⟩
abbrev cX0_ofMethod : ByteArray := prog_2_method_3_code
def yX0_ofMethod : MethodName := ⟨RX0, "ofMethod", "(LClassGate$Member;)Z"⟩
abbrev cX0_ofClass : ByteArray := prog_2_method_4_code
def yX0_ofClass : MethodName := ⟨RX0, "ofClass", "()Z"⟩
abbrev cX0_behind : ByteArray := prog_2_method_5_code
def yX0_behind : MethodName := ⟨RX0, "behind", "(I)I"⟩
abbrev cX0_methodKind : ByteArray := prog_2_method_6_code
def yX0_methodKind : MethodName := ⟨RX0, "methodKind", "(I)I"⟩
abbrev cX0_classKind : ByteArray := prog_2_method_7_code
def yX0_classKind : MethodName := ⟨RX0, "classKind", "(I)I"⟩
abbrev cX0_hasSeen : ByteArray := prog_2_method_8_code
def yX0_hasSeen : MethodName := ⟨RX0, "hasSeen", "(I)Z"⟩
abbrev cX0_isNew : ByteArray := prog_2_method_9_code
def yX0_isNew : MethodName := ⟨RX0, "isNew", "(II)Z"⟩
abbrev cX0_formEnd : ByteArray := prog_2_method_10_code
def yX0_formEnd : MethodName := ⟨RX0, "formEnd", "(III)I"⟩
abbrev cX0_bootstrapsEnd : ByteArray := prog_2_method_11_code
def yX0_bootstrapsEnd : MethodName := ⟨RX0, "bootstrapsEnd", "(II)I"⟩
abbrev cX0_recordEnd : ByteArray := prog_2_method_12_code
def yX0_recordEnd : MethodName := ⟨RX0, "recordEnd", "(II)I"⟩
abbrev cX0_codeEnd : ByteArray := prog_2_method_13_code
def yX0_codeEnd : MethodName := ⟨RX0, "codeEnd", "(II)I"⟩
abbrev cX0_constantTag : ByteArray := prog_2_method_14_code
def yX0_constantTag : MethodName := ⟨RX0, "constantTag", "(I)I"⟩
abbrev cX0_areClasses : ByteArray := prog_2_method_15_code
def yX0_areClasses : MethodName := ⟨RX0, "areClasses", "(I)Z"⟩
abbrev cX0_brokenRule : ByteArray := prog_2_method_16_code
def yX0_brokenRule : MethodName := ⟨RX0, "brokenRule", "(II)I"⟩
abbrev cX0_innerClassesHold : ByteArray := prog_2_method_17_code
def yX0_innerClassesHold : MethodName := ⟨RX0, "innerClassesHold", "(I)Z"⟩
abbrev cX0_recordHolds : ByteArray := prog_2_method_18_code
def yX0_recordHolds : MethodName := ⟨RX0, "recordHolds", "(I)Z"⟩
abbrev cX0_bootstrapsHold : ByteArray := prog_2_method_19_code
def yX0_bootstrapsHold : MethodName := ⟨RX0, "bootstrapsHold", "()Z"⟩
abbrev cX0_isLoadable : ByteArray := prog_2_method_20_code
def yX0_isLoadable : MethodName := ⟨RX0, "isLoadable", "(I)Z"⟩
abbrev cX0_codeHolds : ByteArray := prog_2_method_21_code
def yX0_codeHolds : MethodName := ⟨RX0, "codeHolds", "(LClassGate$Member;I)Z"⟩
abbrev cX0_rowHolds : ByteArray := prog_2_method_22_code
def yX0_rowHolds : MethodName := ⟨RX0, "rowHolds", "(LClassGate$Code;I)Z"⟩
abbrev cX0_codeAttributesHold : ByteArray := prog_2_method_23_code
def yX0_codeAttributesHold : MethodName := ⟨RX0, "codeAttributesHold", "(I)Z"⟩
def RX1 : String := "ClassGate$Bytes"
def TX1 : u_T := fun k => match k with
  | _ => ("ClassGate$Bytes", "data", "[B", true)
def tyX1 : Nat → FieldType := fun k => match k with
  | _ => .array .byte
abbrev wsX10 : List Cond := u_ws RX1 TX1 1
theorem nmX1 : ∀ a, a < 1 → ∀ b, b < 1 → a ≠ b → (TX1 a).2.1 ≠ (TX1 b).2.1 := by decide +kernel
theorem tyX1_ok : ∀ k, k < 1 → parseFieldDescriptor (TX1 k).2.2.1 = some (tyX1 k) := by decide +kernel
abbrev cX1_init : ByteArray := prog_3_method_1_code
def yX1_init : MethodName := ⟨RX1, "<init>", "([B)V"⟩
abbrev cX1_size : ByteArray := prog_3_method_2_code
def yX1_size : MethodName := ⟨RX1, "size", "()I"⟩
abbrev cX1_u1 : ByteArray := prog_3_method_3_code
def yX1_u1 : MethodName := ⟨RX1, "u1", "(I)I"⟩
abbrev cX1_u2 : ByteArray := prog_3_method_4_code
def yX1_u2 : MethodName := ⟨RX1, "u2", "(I)I"⟩
abbrev cX1_u4 : ByteArray := prog_3_method_5_code
def yX1_u4 : MethodName := ⟨RX1, "u4", "(I)I"⟩
abbrev cX1_goesOn : ByteArray := prog_3_method_6_code
def yX1_goesOn : MethodName := ⟨RX1, "goesOn", "(II)Z"⟩
abbrev cX1_attributesEnd : ByteArray := prog_3_method_7_code
def yX1_attributesEnd : MethodName := ⟨RX1, "attributesEnd", "(III)I"⟩
def RX2 : String := "ClassGate$ClassCheck"
def TX2 : u_T := fun k => match k with
  | 0 => ("ClassGate$ClassCheck", "file", "LClassGate$ClassFile;", true)
  | 1 => ("ClassGate$ClassCheck", "bytes", "LClassGate$Bytes;", true)
  | 2 => ("ClassGate$ClassCheck", "pool", "LClassGate$Pool;", true)
  | 3 => ("ClassGate$ClassCheck", "verdict", "LClassGate$Verdict;", true)
  | _ => ("ClassGate$ClassCheck", "attributeCheck", "LClassGate$AttributeCheck;", true)
def tyX2 : Nat → FieldType := fun k => match k with
  | 0 => .object "ClassGate$ClassFile"
  | 1 => .object "ClassGate$Bytes"
  | 2 => .object "ClassGate$Pool"
  | 3 => .object "ClassGate$Verdict"
  | _ => .object "ClassGate$AttributeCheck"
abbrev wsX20 : List Cond := u_ws RX2 TX2 5
theorem nmX2 : ∀ a, a < 5 → ∀ b, b < 5 → a ≠ b → (TX2 a).2.1 ≠ (TX2 b).2.1 := by decide +kernel
theorem tyX2_ok : ∀ k, k < 5 → parseFieldDescriptor (TX2 k).2.2.1 = some (tyX2 k) := by decide +kernel
abbrev cX2_init : ByteArray := prog_4_method_1_code
def yX2_init : MethodName := ⟨RX2, "<init>", "(LClassGate$ClassFile;LClassGate$Verdict;LClassGate$AttributeCheck;)V"⟩
abbrev cX2_headHolds : ByteArray := prog_4_method_2_code
def yX2_headHolds : MethodName := ⟨RX2, "headHolds", "()Z"⟩
abbrev cX2_classFlagsHold : ByteArray := prog_4_method_3_code
def yX2_classFlagsHold : MethodName := ⟨RX2, "classFlagsHold", "(I)Z"⟩
abbrev cX2_hasAll : ByteArray := prog_4_method_4_code
def yX2_hasAll : MethodName := ⟨RX2, "hasAll", "(II)Z"⟩
abbrev cX2_interfacesHold : ByteArray := prog_4_method_5_code
def yX2_interfacesHold : MethodName := ⟨RX2, "interfacesHold", "()Z"⟩
abbrev cX2_fieldsHold : ByteArray := prog_4_method_6_code
def yX2_fieldsHold : MethodName := ⟨RX2, "fieldsHold", "()Z"⟩
abbrev cX2_fieldHolds : ByteArray := prog_4_method_7_code
def yX2_fieldHolds : MethodName := ⟨RX2, "fieldHolds", "(LClassGate$Member;I)Z"⟩
abbrev cX2_fieldFlagsHold : ByteArray := prog_4_method_8_code
def yX2_fieldFlagsHold : MethodName := ⟨RX2, "fieldFlagsHold", "(I)Z"⟩
abbrev cX2_hasOneAccessAtMost : ByteArray := prog_4_method_9_code
def yX2_hasOneAccessAtMost : MethodName := ⟨RX2, "hasOneAccessAtMost", "(I)Z"⟩
abbrev cX2_methodsHold : ByteArray := prog_4_method_10_code
def yX2_methodsHold : MethodName := ⟨RX2, "methodsHold", "()Z"⟩
abbrev cX2_methodHolds : ByteArray := prog_4_method_11_code
def yX2_methodHolds : MethodName := ⟨RX2, "methodHolds", "(LClassGate$Member;I)Z"⟩
abbrev cX2_methodNameHolds : ByteArray := prog_4_method_12_code
def yX2_methodNameHolds : MethodName := ⟨RX2, "methodNameHolds", "(I)Z"⟩
abbrev cX2_methodFlagsHold : ByteArray := prog_4_method_13_code
def yX2_methodFlagsHold : MethodName := ⟨RX2, "methodFlagsHold", "(LClassGate$Member;)Z"⟩
abbrev cX2_abstractHolds : ByteArray := prog_4_method_14_code
def yX2_abstractHolds : MethodName := ⟨RX2, "abstractHolds", "(LClassGate$Member;)Z"⟩
abbrev cX2_interfaceMethodHolds : ByteArray := prog_4_method_15_code
def yX2_interfaceMethodHolds : MethodName := ⟨RX2, "interfaceMethodHolds", "(LClassGate$Member;)Z"⟩
abbrev cX2_methodDescriptorHolds : ByteArray := prog_4_method_16_code
def yX2_methodDescriptorHolds : MethodName := ⟨RX2, "methodDescriptorHolds", "(LClassGate$Member;)Z"⟩
abbrev cX2_codeIsDue : ByteArray := prog_4_method_17_code
def yX2_codeIsDue : MethodName := ⟨RX2, "codeIsDue", "(LClassGate$Member;)Z"⟩
def RX3 : String := "ClassGate$ClassFile"
def TX3 : u_T := fun k => match k with
  | 0 => ("ClassGate$ClassFile", "bytes", "LClassGate$Bytes;", true)
  | 1 => ("ClassGate$ClassFile", "pool", "LClassGate$Pool;", false)
  | 2 => ("ClassGate$ClassFile", "minor", "I", false)
  | 3 => ("ClassGate$ClassFile", "major", "I", false)
  | 4 => ("ClassGate$ClassFile", "flagsAt", "I", false)
  | 5 => ("ClassGate$ClassFile", "interfaceCount", "I", false)
  | 6 => ("ClassGate$ClassFile", "fields", "[LClassGate$Member;", false)
  | 7 => ("ClassGate$ClassFile", "methods", "[LClassGate$Member;", false)
  | 8 => ("ClassGate$ClassFile", "attributeCount", "I", false)
  | 9 => ("ClassGate$ClassFile", "attributesAt", "I", false)
  | 10 => ("ClassGate$ClassFile", "known", "I", false)
  | 11 => ("ClassGate$ClassFile", "bootstrapCount", "I", false)
  | 12 => ("ClassGate$ClassFile", "bootstrapsAt", "I", false)
  | 13 => ("ClassGate$ClassFile", "innerCount", "I", false)
  | 14 => ("ClassGate$ClassFile", "nestCount", "I", false)
  | 15 => ("ClassGate$ClassFile", "permittedCount", "I", false)
  | _ => ("ClassGate$ClassFile", "recordCount", "I", false)
def tyX3 : Nat → FieldType := fun k => match k with
  | 0 => .object "ClassGate$Bytes"
  | 1 => .object "ClassGate$Pool"
  | 2 => .int
  | 3 => .int
  | 4 => .int
  | 5 => .int
  | 6 => .array (.object "ClassGate$Member")
  | 7 => .array (.object "ClassGate$Member")
  | 8 => .int
  | 9 => .int
  | 10 => .int
  | 11 => .int
  | 12 => .int
  | 13 => .int
  | 14 => .int
  | 15 => .int
  | _ => .int
abbrev wsX30 : List Cond := u_ws RX3 TX3 17
theorem nmX3 : ∀ a, a < 17 → ∀ b, b < 17 → a ≠ b → (TX3 a).2.1 ≠ (TX3 b).2.1 := by decide +kernel
theorem tyX3_ok : ∀ k, k < 17 → parseFieldDescriptor (TX3 k).2.2.1 = some (tyX3 k) := by decide +kernel
abbrev cX3_init : ByteArray := prog_5_method_1_code
def yX3_init : MethodName := ⟨RX3, "<init>", "(LClassGate$Bytes;)V"⟩
abbrev cX3_has : ByteArray := prog_5_method_2_code
def yX3_has : MethodName := ⟨RX3, "has", "(I)Z"⟩
abbrev cX3_number : ByteArray := prog_5_method_3_code
def yX3_number : MethodName := ⟨RX3, "number", "(I)I"⟩
abbrev cX3_attributeNumber : ByteArray := prog_5_method_4_code
def yX3_attributeNumber : MethodName := ⟨RX3, "attributeNumber", "(I)I"⟩
abbrev cX3_memberAt : ByteArray := prog_5_method_5_code
def yX3_memberAt : MethodName := ⟨RX3, "memberAt", "(ZI)LClassGate$Member;"⟩
abbrev cX3_bootstrapPart : ByteArray := prog_5_method_6_code
def yX3_bootstrapPart : MethodName := ⟨RX3, "bootstrapPart", "(II)I"⟩
def RX4 : String := "ClassGate$Code"
def TX4 : u_T := fun k => match k with
  | 0 => ("ClassGate$Code", "maxStack", "I", true)
  | 1 => ("ClassGate$Code", "maxLocals", "I", true)
  | 2 => ("ClassGate$Code", "length", "I", true)
  | 3 => ("ClassGate$Code", "rowsAt", "I", true)
  | 4 => ("ClassGate$Code", "rowCount", "I", true)
  | 5 => ("ClassGate$Code", "pool", "LClassGate$Pool;", true)
  | 6 => ("ClassGate$Code", "major", "I", true)
  | 7 => ("ClassGate$Code", "one", "LClassGate$Instruction;", true)
  | 8 => ("ClassGate$Code", "cutResult", "I", false)
  | 9 => ("ClassGate$Code", "starts", "[I", false)
  | _ => ("ClassGate$Code", "numbers", "[I", false)
def tyX4 : Nat → FieldType := fun k => match k with
  | 0 => .int
  | 1 => .int
  | 2 => .int
  | 3 => .int
  | 4 => .int
  | 5 => .object "ClassGate$Pool"
  | 6 => .int
  | 7 => .object "ClassGate$Instruction"
  | 8 => .int
  | 9 => .array .int
  | _ => .array .int
abbrev wsX40 : List Cond := u_ws RX4 TX4 11
theorem nmX4 : ∀ a, a < 11 → ∀ b, b < 11 → a ≠ b → (TX4 a).2.1 ≠ (TX4 b).2.1 := by decide +kernel
theorem tyX4_ok : ∀ k, k < 11 → parseFieldDescriptor (TX4 k).2.2.1 = some (tyX4 k) := by decide +kernel
abbrev cX4_init : ByteArray := prog_6_method_1_code
def yX4_init : MethodName := ⟨RX4, "<init>", "(LClassGate$ClassFile;I)V"⟩
abbrev cX4_cutUp : ByteArray := prog_6_method_2_code
def yX4_cutUp : MethodName := ⟨RX4, "cutUp", "()I"⟩
abbrev cX4_startOf : ByteArray := prog_6_method_3_code
def yX4_startOf : MethodName := ⟨RX4, "startOf", "(I)I"⟩
abbrev cX4_numberAt : ByteArray := prog_6_method_4_code
def yX4_numberAt : MethodName := ⟨RX4, "numberAt", "(J)I"⟩
abbrev cX4_number : ByteArray := prog_6_method_5_code
def yX4_number : MethodName := ⟨RX4, "number", "(II)I"⟩
abbrev cX4_switchPlace : ByteArray := prog_6_method_6_code
def yX4_switchPlace : MethodName := ⟨RX4, "switchPlace", "(IIZ)I"⟩
abbrev cX4_targetsHold : ByteArray := prog_6_method_7_code
def yX4_targetsHold : MethodName := ⟨RX4, "targetsHold", "()Z"⟩
abbrev cX4_operandsHold : ByteArray := prog_6_method_8_code
def yX4_operandsHold : MethodName := ⟨RX4, "operandsHold", "()Z"⟩
abbrev cX4_callHolds : ByteArray := prog_6_method_9_code
def yX4_callHolds : MethodName := ⟨RX4, "callHolds", "(I)Z"⟩
abbrev cX4_isMethodOfEither : ByteArray := prog_6_method_10_code
def yX4_isMethodOfEither : MethodName := ⟨RX4, "isMethodOfEither", "(I)Z"⟩
abbrev cX4_isLoadedByLdc : ByteArray := prog_6_method_11_code
def yX4_isLoadedByLdc : MethodName := ⟨RX4, "isLoadedByLdc", "(I)Z"⟩
abbrev cX4_isOfTwoPlaces : ByteArray := prog_6_method_12_code
def yX4_isOfTwoPlaces : MethodName := ⟨RX4, "isOfTwoPlaces", "(I)Z"⟩
def RX5 : String := "ClassGate$Instruction"
def TX5 : u_T := fun k => match k with
  | 0 => ("ClassGate$Instruction", "bytes", "LClassGate$Bytes;", true)
  | 1 => ("ClassGate$Instruction", "codeAt", "I", true)
  | 2 => ("ClassGate$Instruction", "codeLength", "I", true)
  | 3 => ("ClassGate$Instruction", "opcode", "I", false)
  | 4 => ("ClassGate$Instruction", "size", "I", false)
  | 5 => ("ClassGate$Instruction", "first", "I", false)
  | 6 => ("ClassGate$Instruction", "second", "I", false)
  | 7 => ("ClassGate$Instruction", "localPlaces", "I", false)
  | 8 => ("ClassGate$Instruction", "targetCount", "I", false)
  | 9 => ("ClassGate$Instruction", "pc", "I", false)
  | 10 => ("ClassGate$Instruction", "offset", "I", false)
  | _ => ("ClassGate$Instruction", "switchAt", "I", false)
def tyX5 : Nat → FieldType := fun k => match k with
  | 0 => .object "ClassGate$Bytes"
  | 1 => .int
  | 2 => .int
  | 3 => .int
  | 4 => .int
  | 5 => .int
  | 6 => .int
  | 7 => .int
  | 8 => .int
  | 9 => .int
  | 10 => .int
  | _ => .int
abbrev wsX50 : List Cond := u_ws RX5 TX5 12
theorem nmX5 : ∀ a, a < 12 → ∀ b, b < 12 → a ≠ b → (TX5 a).2.1 ≠ (TX5 b).2.1 := by decide +kernel
theorem tyX5_ok : ∀ k, k < 12 → parseFieldDescriptor (TX5 k).2.2.1 = some (tyX5 k) := by decide +kernel
abbrev cX5_init : ByteArray := prog_7_method_1_code
def yX5_init : MethodName := ⟨RX5, "<init>", "(LClassGate$Bytes;II)V"⟩
abbrev cX5_isSwitch : ByteArray := prog_7_method_2_code
def yX5_isSwitch : MethodName := ⟨RX5, "isSwitch", "()Z"⟩
abbrev cX5_isJump : ByteArray := prog_7_method_3_code
def yX5_isJump : MethodName := ⟨RX5, "isJump", "()Z"⟩
abbrev cX5_u1 : ByteArray := prog_7_method_4_code
def yX5_u1 : MethodName := ⟨RX5, "u1", "(I)I"⟩
abbrev cX5_u2 : ByteArray := prog_7_method_5_code
def yX5_u2 : MethodName := ⟨RX5, "u2", "(I)I"⟩
abbrev cX5_s4 : ByteArray := prog_7_method_6_code
def yX5_s4 : MethodName := ⟨RX5, "s4", "(I)I"⟩
abbrev cX5_isTakenApart : ByteArray := prog_7_method_7_code
def yX5_isTakenApart : MethodName := ⟨RX5, "isTakenApart", "(I)Z"⟩
abbrev cX5_sizeOf : ByteArray := prog_7_method_8_code
def yX5_sizeOf : MethodName := ⟨RX5, "sizeOf", "(I)I"⟩
abbrev cX5_isLocalOpcode : ByteArray := prog_7_method_9_code
def yX5_isLocalOpcode : MethodName := ⟨RX5, "isLocalOpcode", "(I)Z"⟩
abbrev cX5_areOperandsTaken : ByteArray := prog_7_method_10_code
def yX5_areOperandsTaken : MethodName := ⟨RX5, "areOperandsTaken", "()Z"⟩
abbrev cX5_isShortLocalTaken : ByteArray := prog_7_method_11_code
def yX5_isShortLocalTaken : MethodName := ⟨RX5, "isShortLocalTaken", "(II)Z"⟩
abbrev cX5_isLocalTaken : ByteArray := prog_7_method_12_code
def yX5_isLocalTaken : MethodName := ⟨RX5, "isLocalTaken", "(I)Z"⟩
abbrev cX5_isJumpTaken : ByteArray := prog_7_method_13_code
def yX5_isJumpTaken : MethodName := ⟨RX5, "isJumpTaken", "(II)Z"⟩
abbrev cX5_isIndexTaken : ByteArray := prog_7_method_14_code
def yX5_isIndexTaken : MethodName := ⟨RX5, "isIndexTaken", "()Z"⟩
abbrev cX5_isWideTaken : ByteArray := prog_7_method_15_code
def yX5_isWideTaken : MethodName := ⟨RX5, "isWideTaken", "()Z"⟩
abbrev cX5_isSwitchTaken : ByteArray := prog_7_method_16_code
def yX5_isSwitchTaken : MethodName := ⟨RX5, "isSwitchTaken", "()Z"⟩
abbrev cX5_isTableTaken : ByteArray := prog_7_method_17_code
def yX5_isTableTaken : MethodName := ⟨RX5, "isTableTaken", "()Z"⟩
abbrev cX5_isLookupTaken : ByteArray := prog_7_method_18_code
def yX5_isLookupTaken : MethodName := ⟨RX5, "isLookupTaken", "()Z"⟩
abbrev cX5_keyOf : ByteArray := prog_7_method_19_code
def yX5_keyOf : MethodName := ⟨RX5, "keyOf", "(I)I"⟩
abbrev cX5_target : ByteArray := prog_7_method_20_code
def yX5_target : MethodName := ⟨RX5, "target", "(I)J"⟩
def RX6 : String := "ClassGate$Member"
def TX6 : u_T := fun k => match k with
  | 0 => ("ClassGate$Member", "begin", "I", true)
  | 1 => ("ClassGate$Member", "flags", "I", true)
  | 2 => ("ClassGate$Member", "name", "I", true)
  | 3 => ("ClassGate$Member", "descriptor", "I", true)
  | 4 => ("ClassGate$Member", "attributeCount", "I", true)
  | 5 => ("ClassGate$Member", "attributesAt", "I", true)
  | 6 => ("ClassGate$Member", "known", "I", false)
  | 7 => ("ClassGate$Member", "constant", "I", false)
  | 8 => ("ClassGate$Member", "argumentPlaces", "I", false)
  | 9 => ("ClassGate$Member", "exceptionCount", "I", false)
  | _ => ("ClassGate$Member", "code", "LClassGate$Code;", false)
def tyX6 : Nat → FieldType := fun k => match k with
  | 0 => .int
  | 1 => .int
  | 2 => .int
  | 3 => .int
  | 4 => .int
  | 5 => .int
  | 6 => .int
  | 7 => .int
  | 8 => .int
  | 9 => .int
  | _ => .object "ClassGate$Code"
abbrev wsX60 : List Cond := u_ws RX6 TX6 11
theorem nmX6 : ∀ a, a < 11 → ∀ b, b < 11 → a ≠ b → (TX6 a).2.1 ≠ (TX6 b).2.1 := by decide +kernel
theorem tyX6_ok : ∀ k, k < 11 → parseFieldDescriptor (TX6 k).2.2.1 = some (tyX6 k) := by decide +kernel
abbrev cX6_init : ByteArray := prog_8_method_1_code
def yX6_init : MethodName := ⟨RX6, "<init>", "(LClassGate$Bytes;I)V"⟩
abbrev cX6_has : ByteArray := prog_8_method_2_code
def yX6_has : MethodName := ⟨RX6, "has", "(I)Z"⟩
abbrev cX6_number : ByteArray := prog_8_method_3_code
def yX6_number : MethodName := ⟨RX6, "number", "(ZI)I"⟩
abbrev cX6_codeNumber : ByteArray := prog_8_method_4_code
def yX6_codeNumber : MethodName := ⟨RX6, "codeNumber", "(I)I"⟩
def RX7 : String := "ClassGate$Pool"
def TX7 : u_T := fun k => match k with
  | 0 => ("ClassGate$Pool", "size", "I", true)
  | 1 => ("ClassGate$Pool", "tags", "[I", true)
  | 2 => ("ClassGate$Pool", "tagPlaces", "[I", true)
  | 3 => ("ClassGate$Pool", "firsts", "[I", true)
  | 4 => ("ClassGate$Pool", "seconds", "[I", true)
  | 5 => ("ClassGate$Pool", "shapes", "[I", true)
  | 6 => ("ClassGate$Pool", "characters", "[C", true)
  | _ => ("ClassGate$Pool", "characterCount", "I", false)
def tyX7 : Nat → FieldType := fun k => match k with
  | 0 => .int
  | 1 => .array .int
  | 2 => .array .int
  | 3 => .array .int
  | 4 => .array .int
  | 5 => .array .int
  | 6 => .array .char
  | _ => .int
abbrev wsX70 : List Cond := u_ws RX7 TX7 8
theorem nmX7 : ∀ a, a < 8 → ∀ b, b < 8 → a ≠ b → (TX7 a).2.1 ≠ (TX7 b).2.1 := by decide +kernel
theorem tyX7_ok : ∀ k, k < 8 → parseFieldDescriptor (TX7 k).2.2.1 = some (tyX7 k) := by decide +kernel
abbrev cX7_init : ByteArray := prog_9_method_1_code
def yX7_init : MethodName := ⟨RX7, "<init>", "(II)V"⟩
abbrev cX7_setTag : ByteArray := prog_9_method_2_code
def yX7_setTag : MethodName := ⟨RX7, "setTag", "(III)V"⟩
abbrev cX7_setNumbers : ByteArray := prog_9_method_3_code
def yX7_setNumbers : MethodName := ⟨RX7, "setNumbers", "(III)V"⟩
abbrev cX7_addCharacter : ByteArray := prog_9_method_4_code
def yX7_addCharacter : MethodName := ⟨RX7, "addCharacter", "(I)V"⟩
abbrev cX7_tagOf : ByteArray := prog_9_method_5_code
def yX7_tagOf : MethodName := ⟨RX7, "tagOf", "(I)I"⟩
abbrev cX7_tagPlace : ByteArray := prog_9_method_6_code
def yX7_tagPlace : MethodName := ⟨RX7, "tagPlace", "(I)I"⟩
abbrev cX7_firstIndex : ByteArray := prog_9_method_7_code
def yX7_firstIndex : MethodName := ⟨RX7, "firstIndex", "(I)I"⟩
abbrev cX7_secondIndex : ByteArray := prog_9_method_8_code
def yX7_secondIndex : MethodName := ⟨RX7, "secondIndex", "(I)I"⟩
abbrev cX7_isWide : ByteArray := prog_9_method_9_code
def yX7_isWide : MethodName := ⟨RX7, "isWide", "(I)Z"⟩
abbrev cX7_textLength : ByteArray := prog_9_method_10_code
def yX7_textLength : MethodName := ⟨RX7, "textLength", "(I)I"⟩
abbrev cX7_characterAt : ByteArray := prog_9_method_11_code
def yX7_characterAt : MethodName := ⟨RX7, "characterAt", "(II)I"⟩
abbrev cX7_textIs : ByteArray := prog_9_method_12_code
def yX7_textIs : MethodName := ⟨RX7, "textIs", "(ILjava/lang/String;)Z"⟩
abbrev cX7_sameText : ByteArray := prog_9_method_13_code
def yX7_sameText : MethodName := ⟨RX7, "sameText", "(II)Z"⟩
abbrev cX7_sameMember : ByteArray := prog_9_method_14_code
def yX7_sameMember : MethodName := ⟨RX7, "sameMember", "([LClassGate$Member;III)I"⟩
abbrev cX7_hasAngle : ByteArray := prog_9_method_15_code
def yX7_hasAngle : MethodName := ⟨RX7, "hasAngle", "(I)Z"⟩
abbrev cX7_isUnqualifiedName : ByteArray := prog_9_method_16_code
def yX7_isUnqualifiedName : MethodName := ⟨RX7, "isUnqualifiedName", "(I)Z"⟩
abbrev cX7_isClassText : ByteArray := prog_9_method_17_code
def yX7_isClassText : MethodName := ⟨RX7, "isClassText", "(I)Z"⟩
abbrev cX7_isFieldDescriptor : ByteArray := prog_9_method_18_code
def yX7_isFieldDescriptor : MethodName := ⟨RX7, "isFieldDescriptor", "(I)Z"⟩
abbrev cX7_isMethodDescriptor : ByteArray := prog_9_method_19_code
def yX7_isMethodDescriptor : MethodName := ⟨RX7, "isMethodDescriptor", "(I)Z"⟩
abbrev cX7_placesTold : ByteArray := prog_9_method_20_code
def yX7_placesTold : MethodName := ⟨RX7, "placesTold", "(I)I"⟩
abbrev cX7_argumentPlaces : ByteArray := prog_9_method_21_code
def yX7_argumentPlaces : MethodName := ⟨RX7, "argumentPlaces", "(I)I"⟩
abbrev cX7_hasNoResult : ByteArray := prog_9_method_22_code
def yX7_hasNoResult : MethodName := ⟨RX7, "hasNoResult", "(I)Z"⟩
abbrev cX7_isPlainClass : ByteArray := prog_9_method_23_code
def yX7_isPlainClass : MethodName := ⟨RX7, "isPlainClass", "(I)Z"⟩
abbrev cX7_dimensionsOf : ByteArray := prog_9_method_24_code
def yX7_dimensionsOf : MethodName := ⟨RX7, "dimensionsOf", "(I)I"⟩
abbrev cX7_nameOf : ByteArray := prog_9_method_25_code
def yX7_nameOf : MethodName := ⟨RX7, "nameOf", "(I)I"⟩
abbrev cX7_descriptorOf : ByteArray := prog_9_method_26_code
def yX7_descriptorOf : MethodName := ⟨RX7, "descriptorOf", "(I)I"⟩
abbrev cX7_namesInit : ByteArray := prog_9_method_27_code
def yX7_namesInit : MethodName := ⟨RX7, "namesInit", "(I)Z"⟩
abbrev cX7_describeTexts : ByteArray := prog_9_method_28_code
def yX7_describeTexts : MethodName := ⟨RX7, "describeTexts", "()V"⟩
abbrev cX7_shapeOf : ByteArray := prog_9_method_29_code
def yX7_shapeOf : MethodName := ⟨RX7, "shapeOf", "(II)I"⟩
abbrev cX7_methodShape : ByteArray := prog_9_method_30_code
def yX7_methodShape : MethodName := ⟨RX7, "methodShape", "(II)I"⟩
abbrev cX7_placesOfType : ByteArray := prog_9_method_31_code
def yX7_placesOfType : MethodName := ⟨RX7, "placesOfType", "(C)I"⟩
abbrev cX7_typeEnd : ByteArray := prog_9_method_32_code
def yX7_typeEnd : MethodName := ⟨RX7, "typeEnd", "(II)I"⟩
abbrev cX7_nameEnd : ByteArray := prog_9_method_33_code
def yX7_nameEnd : MethodName := ⟨RX7, "nameEnd", "(II)I"⟩
def RX8 : String := "ClassGate$PoolCheck"
def TX8 : u_T := fun k => match k with
  | 0 => ("ClassGate$PoolCheck", "pool", "LClassGate$Pool;", true)
  | 1 => ("ClassGate$PoolCheck", "major", "I", true)
  | _ => ("ClassGate$PoolCheck", "verdict", "LClassGate$Verdict;", true)
def tyX8 : Nat → FieldType := fun k => match k with
  | 0 => .object "ClassGate$Pool"
  | 1 => .int
  | _ => .object "ClassGate$Verdict"
abbrev wsX80 : List Cond := u_ws RX8 TX8 3
theorem nmX8 : ∀ a, a < 3 → ∀ b, b < 3 → a ≠ b → (TX8 a).2.1 ≠ (TX8 b).2.1 := by decide +kernel
theorem tyX8_ok : ∀ k, k < 3 → parseFieldDescriptor (TX8 k).2.2.1 = some (tyX8 k) := by decide +kernel
abbrev cX8_init : ByteArray := prog_10_method_1_code
def yX8_init : MethodName := ⟨RX8, "<init>", "(LClassGate$ClassFile;LClassGate$Verdict;)V"⟩
abbrev cX8_entriesHold : ByteArray := prog_10_method_2_code
def yX8_entriesHold : MethodName := ⟨RX8, "entriesHold", "()Z"⟩
abbrev cX8_bootstrapsHold : ByteArray := prog_10_method_3_code
def yX8_bootstrapsHold : MethodName := ⟨RX8, "bootstrapsHold", "(I)Z"⟩
abbrev cX8_linksHold : ByteArray := prog_10_method_4_code
def yX8_linksHold : MethodName := ⟨RX8, "linksHold", "(I)Z"⟩
abbrev cX8_isMember : ByteArray := prog_10_method_5_code
def yX8_isMember : MethodName := ⟨RX8, "isMember", "(I)Z"⟩
abbrev cX8_memberHolds : ByteArray := prog_10_method_6_code
def yX8_memberHolds : MethodName := ⟨RX8, "memberHolds", "(I)Z"⟩
abbrev cX8_pairHolds : ByteArray := prog_10_method_7_code
def yX8_pairHolds : MethodName := ⟨RX8, "pairHolds", "(I)Z"⟩
abbrev cX8_brokenRule : ByteArray := prog_10_method_8_code
def yX8_brokenRule : MethodName := ⟨RX8, "brokenRule", "(I)I"⟩
abbrev cX8_isNameWithType : ByteArray := prog_10_method_9_code
def yX8_isNameWithType : MethodName := ⟨RX8, "isNameWithType", "(I)Z"⟩
abbrev cX8_isMethodRef : ByteArray := prog_10_method_10_code
def yX8_isMethodRef : MethodName := ⟨RX8, "isMethodRef", "(I)Z"⟩
abbrev cX8_isHandle : ByteArray := prog_10_method_11_code
def yX8_isHandle : MethodName := ⟨RX8, "isHandle", "(II)Z"⟩
def RX9 : String := "ClassGate$Reader"
def TX9 : u_T := fun k => match k with
  | 0 => ("ClassGate$Reader", "file", "LClassGate$ClassFile;", true)
  | 1 => ("ClassGate$Reader", "bytes", "LClassGate$Bytes;", true)
  | 2 => ("ClassGate$Reader", "verdict", "LClassGate$Verdict;", true)
  | 3 => ("ClassGate$Reader", "at", "I", false)
  | _ => ("ClassGate$Reader", "item", "I", false)
def tyX9 : Nat → FieldType := fun k => match k with
  | 0 => .object "ClassGate$ClassFile"
  | 1 => .object "ClassGate$Bytes"
  | 2 => .object "ClassGate$Verdict"
  | 3 => .int
  | _ => .int
abbrev wsX90 : List Cond := u_ws RX9 TX9 5
theorem nmX9 : ∀ a, a < 5 → ∀ b, b < 5 → a ≠ b → (TX9 a).2.1 ≠ (TX9 b).2.1 := by decide +kernel
theorem tyX9_ok : ∀ k, k < 5 → parseFieldDescriptor (TX9 k).2.2.1 = some (tyX9 k) := by decide +kernel
abbrev cX9_init : ByteArray := prog_11_method_1_code
def yX9_init : MethodName := ⟨RX9, "<init>", "(LClassGate$ClassFile;LClassGate$Verdict;)V"⟩
abbrev cX9_takes : ByteArray := prog_11_method_2_code
def yX9_takes : MethodName := ⟨RX9, "takes", "(I)Z"⟩
abbrev cX9_takesHead : ByteArray := prog_11_method_3_code
def yX9_takesHead : MethodName := ⟨RX9, "takesHead", "()Z"⟩
abbrev cX9_takesPool : ByteArray := prog_11_method_4_code
def yX9_takesPool : MethodName := ⟨RX9, "takesPool", "()Z"⟩
abbrev cX9_takesEntry : ByteArray := prog_11_method_5_code
def yX9_takesEntry : MethodName := ⟨RX9, "takesEntry", "(I)Z"⟩
abbrev cX9_isTag : ByteArray := prog_11_method_6_code
def yX9_isTag : MethodName := ⟨RX9, "isTag", "(I)Z"⟩
abbrev cX9_takesIndexes : ByteArray := prog_11_method_7_code
def yX9_takesIndexes : MethodName := ⟨RX9, "takesIndexes", "(II)Z"⟩
abbrev cX9_takesText : ByteArray := prog_11_method_8_code
def yX9_takesText : MethodName := ⟨RX9, "takesText", "(I)Z"⟩
abbrev cX9_characterSize : ByteArray := prog_11_method_9_code
def yX9_characterSize : MethodName := ⟨RX9, "characterSize", "(I)I"⟩
abbrev cX9_characterOf : ByteArray := prog_11_method_10_code
def yX9_characterOf : MethodName := ⟨RX9, "characterOf", "(I)I"⟩
abbrev cX9_takesClass : ByteArray := prog_11_method_11_code
def yX9_takesClass : MethodName := ⟨RX9, "takesClass", "()Z"⟩
abbrev cX9_takesFields : ByteArray := prog_11_method_12_code
def yX9_takesFields : MethodName := ⟨RX9, "takesFields", "()Z"⟩
abbrev cX9_takesMethods : ByteArray := prog_11_method_13_code
def yX9_takesMethods : MethodName := ⟨RX9, "takesMethods", "()Z"⟩
abbrev cX9_roomFor : ByteArray := prog_11_method_14_code
def yX9_roomFor : MethodName := ⟨RX9, "roomFor", "(I)I"⟩
abbrev cX9_takesMembers : ByteArray := prog_11_method_15_code
def yX9_takesMembers : MethodName := ⟨RX9, "takesMembers", "([LClassGate$Member;I)Z"⟩
abbrev cX9_takesAttributes : ByteArray := prog_11_method_16_code
def yX9_takesAttributes : MethodName := ⟨RX9, "takesAttributes", "()Z"⟩
abbrev cX9_takesEnd : ByteArray := prog_11_method_17_code
def yX9_takesEnd : MethodName := ⟨RX9, "takesEnd", "()Z"⟩
def RX10 : String := "ClassGate$Verdict"
def TX10 : u_T := fun k => match k with
  | 0 => ("ClassGate$Verdict", "rule", "I", false)
  | _ => ("ClassGate$Verdict", "wrongAt", "I", false)
def tyX10 : Nat → FieldType := fun k => match k with
  | 0 => .int
  | _ => .int
abbrev wsX100 : List Cond := u_ws RX10 TX10 2
theorem nmX10 : ∀ a, a < 2 → ∀ b, b < 2 → a ≠ b → (TX10 a).2.1 ≠ (TX10 b).2.1 := by decide +kernel
theorem tyX10_ok : ∀ k, k < 2 → parseFieldDescriptor (TX10 k).2.2.1 = some (tyX10 k) := by decide +kernel
abbrev cX10_init : ByteArray := prog_12_method_1_code
def yX10_init : MethodName := ⟨RX10, "<init>", "()V"⟩
abbrev cX10_wrong : ByteArray := prog_12_method_2_code
def yX10_wrong : MethodName := ⟨RX10, "wrong", "(II)Z"⟩
def RX11 : String := "ClassGate"
def TX11 : u_T := fun k => match k with
  | 0 => ("ClassGate", "came", "[B", false)
  | 1 => ("ClassGate", "cameCount", "I", false)
  | 2 => ("ClassGate", "file", "[B", false)
  | 3 => ("ClassGate", "kept", "LClassGate$ClassFile;", false)
  | _ => ("ClassGate", "wrongPlace", "I", false)
def tyX11 : Nat → FieldType := fun k => match k with
  | 0 => .array .byte
  | 1 => .int
  | 2 => .array .byte
  | 3 => .object "ClassGate$ClassFile"
  | _ => .int
abbrev wsX110 : List Cond := u_ws RX11 TX11 5
theorem nmX11 : ∀ a, a < 5 → ∀ b, b < 5 → a ≠ b → (TX11 a).2.1 ≠ (TX11 b).2.1 := by decide +kernel
theorem tyX11_ok : ∀ k, k < 5 → parseFieldDescriptor (TX11 k).2.2.1 = some (tyX11 k) := by decide +kernel
abbrev cX11_init : ByteArray := prog_1_method_1_code
def yX11_init : MethodName := ⟨RX11, "<init>", "()V"⟩
abbrev cX11_feed : ByteArray := prog_1_method_2_code
def yX11_feed : MethodName := ⟨RX11, "feed", "(IIIII)I"⟩
abbrev cX11_takeWord : ByteArray := prog_1_method_3_code
def yX11_takeWord : MethodName := ⟨RX11, "takeWord", "(I)V"⟩
abbrev cX11_end : ByteArray := prog_1_method_4_code
def yX11_end : MethodName := ⟨RX11, "end", "(I)I"⟩
abbrev cX11_read : ByteArray := prog_1_method_5_code
def yX11_read : MethodName := ⟨RX11, "read", "()I"⟩
abbrev cX11_isWhole : ByteArray := prog_1_method_6_code
def yX11_isWhole : MethodName := ⟨RX11, "isWhole", "(LClassGate$ClassFile;LClassGate$Verdict;)Z"⟩
abbrev cX11_holds : ByteArray := prog_1_method_7_code
def yX11_holds : MethodName := ⟨RX11, "holds", "(LClassGate$ClassFile;LClassGate$Verdict;)Z"⟩
abbrev cX11_place : ByteArray := prog_1_method_8_code
def yX11_place : MethodName := ⟨RX11, "place", "()I"⟩
abbrev cX11_count : ByteArray := prog_1_method_9_code
def yX11_count : MethodName := ⟨RX11, "count", "(I)I"⟩
abbrev cX11_entry : ByteArray := prog_1_method_10_code
def yX11_entry : MethodName := ⟨RX11, "entry", "(II)I"⟩
abbrev cX11_bits : ByteArray := prog_1_method_11_code
def yX11_bits : MethodName := ⟨RX11, "bits", "(I)J"⟩
abbrev cX11_character : ByteArray := prog_1_method_12_code
def yX11_character : MethodName := ⟨RX11, "character", "(II)I"⟩
abbrev cX11_places : ByteArray := prog_1_method_13_code
def yX11_places : MethodName := ⟨RX11, "places", "(I)I"⟩
abbrev cX11_member : ByteArray := prog_1_method_14_code
def yX11_member : MethodName := ⟨RX11, "member", "(ZII)I"⟩
abbrev cX11_find : ByteArray := prog_1_method_15_code
def yX11_find : MethodName := ⟨RX11, "find", "(ZII)I"⟩
abbrev cX11_row : ByteArray := prog_1_method_16_code
def yX11_row : MethodName := ⟨RX11, "row", "(III)I"⟩
abbrev cX11_codeOf : ByteArray := prog_1_method_17_code
def yX11_codeOf : MethodName := ⟨RX11, "codeOf", "(I)LClassGate$Code;"⟩
abbrev cX11_bootstrap : ByteArray := prog_1_method_18_code
def yX11_bootstrap : MethodName := ⟨RX11, "bootstrap", "(II)I"⟩
abbrev cX11_cut : ByteArray := prog_1_method_19_code
def yX11_cut : MethodName := ⟨RX11, "cut", "(I)I"⟩
abbrev cX11_instruction : ByteArray := prog_1_method_20_code
def yX11_instruction : MethodName := ⟨RX11, "instruction", "(III)I"⟩
abbrev cX11_jump : ByteArray := prog_1_method_21_code
def yX11_jump : MethodName := ⟨RX11, "jump", "(IIIZ)I"⟩
def RX12 : String := "ClassGateModel"
def TX12 : u_T := fun k => match k with
  | 0 => ("ClassGateModel", "thrown", "I", false)
  | 1 => ("ClassGateModel", "chars", "[C", true)
  | 2 => ("ClassGateModel", "cut", "[C", true)
  | 3 => ("ClassGateModel", "charsN", "I", false)
  | 4 => ("ClassGateModel", "symAt", "[I", true)
  | 5 => ("ClassGateModel", "symLen", "[I", true)
  | 6 => ("ClassGateModel", "symNext", "[I", true)
  | 7 => ("ClassGateModel", "symHead", "[I", true)
  | 8 => ("ClassGateModel", "syms", "I", false)
  | 9 => ("ClassGateModel", "S_INIT", "I", false)
  | 10 => ("ClassGateModel", "S_CLINIT", "I", false)
  | 11 => ("ClassGateModel", "S_OBJECT", "I", false)
  | 12 => ("ClassGateModel", "files", "[B", true)
  | 13 => ("ClassGateModel", "file", "[B", true)
  | 14 => ("ClassGateModel", "kept", "[B", true)
  | 15 => ("ClassGateModel", "came", "[B", true)
  | 16 => ("ClassGateModel", "size", "I", false)
  | 17 => ("ClassGateModel", "fileN", "I", false)
  | 18 => ("ClassGateModel", "keptN", "I", false)
  | 19 => ("ClassGateModel", "cameN", "I", false)
  | 20 => ("ClassGateModel", "pool", "I", false)
  | 21 => ("ClassGateModel", "pAt", "[I", true)
  | 22 => ("ClassGateModel", "pSym", "[I", true)
  | 23 => ("ClassGateModel", "pState", "[I", true)
  | 24 => ("ClassGateModel", "pObj", "[I", true)
  | 25 => ("ClassGateModel", "fields", "I", false)
  | 26 => ("ClassGateModel", "methods", "I", false)
  | 27 => ("ClassGateModel", "fFlags", "[I", true)
  | 28 => ("ClassGateModel", "fName", "[I", true)
  | 29 => ("ClassGateModel", "fDesc", "[I", true)
  | 30 => ("ClassGateModel", "fConst", "[I", true)
  | 31 => ("ClassGateModel", "fKnown", "[I", true)
  | 32 => ("ClassGateModel", "fNameAt", "[I", true)
  | 33 => ("ClassGateModel", "fDescAt", "[I", true)
  | 34 => ("ClassGateModel", "mFlags", "[I", true)
  | 35 => ("ClassGateModel", "mName", "[I", true)
  | 36 => ("ClassGateModel", "mDesc", "[I", true)
  | 37 => ("ClassGateModel", "mCode", "[I", true)
  | 38 => ("ClassGateModel", "mLen", "[I", true)
  | 39 => ("ClassGateModel", "mStack", "[I", true)
  | 40 => ("ClassGateModel", "mLocals", "[I", true)
  | 41 => ("ClassGateModel", "mRows", "[I", true)
  | 42 => ("ClassGateModel", "mRowN", "[I", true)
  | 43 => ("ClassGateModel", "mKnown", "[I", true)
  | 44 => ("ClassGateModel", "mThrows", "[I", true)
  | 45 => ("ClassGateModel", "mNameAt", "[I", true)
  | 46 => ("ClassGateModel", "mDescAt", "[I", true)
  | 47 => ("ClassGateModel", "rule", "I", false)
  | 48 => ("ClassGateModel", "wrongAt", "I", false)
  | 49 => ("ClassGateModel", "base", "I", false)
  | 50 => ("ClassGateModel", "pos", "I", false)
  | 51 => ("ClassGateModel", "cpBase", "I", false)
  | 52 => ("ClassGateModel", "cpN", "I", false)
  | 53 => ("ClassGateModel", "major", "I", false)
  | 54 => ("ClassGateModel", "headAt", "I", false)
  | 55 => ("ClassGateModel", "fieldsAt", "I", false)
  | 56 => ("ClassGateModel", "methodsAt", "I", false)
  | 57 => ("ClassGateModel", "attributesAt", "I", false)
  | 58 => ("ClassGateModel", "newFlags", "I", false)
  | 59 => ("ClassGateModel", "newName", "I", false)
  | 60 => ("ClassGateModel", "newSuper", "I", false)
  | 61 => ("ClassGateModel", "newIfs", "I", false)
  | 62 => ("ClassGateModel", "KNOWN", "[Ljava/lang/String;", true)
  | 63 => ("ClassGateModel", "KNOWN_IN", "[I", true)
  | 64 => ("ClassGateModel", "KNOWN_FROM", "[I", true)
  | 65 => ("ClassGateModel", "newInners", "I", false)
  | 66 => ("ClassGateModel", "newKnown", "I", false)
  | 67 => ("ClassGateModel", "newHost", "I", false)
  | 68 => ("ClassGateModel", "newMembers", "I", false)
  | 69 => ("ClassGateModel", "newPermitted", "I", false)
  | 70 => ("ClassGateModel", "newBoot", "I", false)
  | 71 => ("ClassGateModel", "newBootN", "I", false)
  | 72 => ("ClassGateModel", "newRecord", "I", false)
  | 73 => ("ClassGateModel", "lastPlace", "I", false)
  | 74 => ("ClassGateModel", "cutOf", "I", false)
  | 75 => ("ClassGateModel", "many", "I", false)
  | 76 => ("ClassGateModel", "wrongCode", "I", false)
  | 77 => ("ClassGateModel", "codeAt", "I", false)
  | 78 => ("ClassGateModel", "codeLen", "I", false)
  | 79 => ("ClassGateModel", "maxL", "I", false)
  | 80 => ("ClassGateModel", "begins", "[I", true)
  | _ => ("ClassGateModel", "which", "[I", true)
def tyX12 : Nat → FieldType := fun k => match k with
  | 0 => .int
  | 1 => .array .char
  | 2 => .array .char
  | 3 => .int
  | 4 => .array .int
  | 5 => .array .int
  | 6 => .array .int
  | 7 => .array .int
  | 8 => .int
  | 9 => .int
  | 10 => .int
  | 11 => .int
  | 12 => .array .byte
  | 13 => .array .byte
  | 14 => .array .byte
  | 15 => .array .byte
  | 16 => .int
  | 17 => .int
  | 18 => .int
  | 19 => .int
  | 20 => .int
  | 21 => .array .int
  | 22 => .array .int
  | 23 => .array .int
  | 24 => .array .int
  | 25 => .int
  | 26 => .int
  | 27 => .array .int
  | 28 => .array .int
  | 29 => .array .int
  | 30 => .array .int
  | 31 => .array .int
  | 32 => .array .int
  | 33 => .array .int
  | 34 => .array .int
  | 35 => .array .int
  | 36 => .array .int
  | 37 => .array .int
  | 38 => .array .int
  | 39 => .array .int
  | 40 => .array .int
  | 41 => .array .int
  | 42 => .array .int
  | 43 => .array .int
  | 44 => .array .int
  | 45 => .array .int
  | 46 => .array .int
  | 47 => .int
  | 48 => .int
  | 49 => .int
  | 50 => .int
  | 51 => .int
  | 52 => .int
  | 53 => .int
  | 54 => .int
  | 55 => .int
  | 56 => .int
  | 57 => .int
  | 58 => .int
  | 59 => .int
  | 60 => .int
  | 61 => .int
  | 62 => .array (.object "java/lang/String")
  | 63 => .array .int
  | 64 => .array .int
  | 65 => .int
  | 66 => .int
  | 67 => .int
  | 68 => .int
  | 69 => .int
  | 70 => .int
  | 71 => .int
  | 72 => .int
  | 73 => .int
  | 74 => .int
  | 75 => .int
  | 76 => .int
  | 77 => .int
  | 78 => .int
  | 79 => .int
  | 80 => .array .int
  | _ => .array .int
abbrev wsX120 : List Cond := u_ws RX12 TX12 82
theorem nmX12 : ∀ a, a < 82 → ∀ b, b < 82 → a ≠ b → (TX12 a).2.1 ≠ (TX12 b).2.1 := by decide +kernel
theorem tyX12_ok : ∀ k, k < 82 → parseFieldDescriptor (TX12 k).2.2.1 = some (tyX12 k) := by decide +kernel
abbrev cX12_thrown : ByteArray := prog_14_method_1_code
def yX12_thrown : MethodName := ⟨RX12, "thrown", "()I"⟩
abbrev cX12_init : ByteArray := prog_14_method_2_code
def yX12_init : MethodName := ⟨RX12, "<init>", "()V"⟩
abbrev cX12_clear : ByteArray := prog_14_method_3_code
def yX12_clear : MethodName := ⟨RX12, "clear", "()V"⟩
abbrev cX12_symbol : ByteArray := prog_14_method_4_code
def yX12_symbol : MethodName := ⟨RX12, "symbol", "(Ljava/lang/String;)I"⟩
abbrev cX12_symbol_ : ByteArray := prog_14_method_5_code
def yX12_symbol_ : MethodName := ⟨RX12, "symbol", "(I)I"⟩
abbrev cX12_length : ByteArray := prog_14_method_6_code
def yX12_length : MethodName := ⟨RX12, "length", "(I)I"⟩
abbrev cX12_at : ByteArray := prog_14_method_7_code
def yX12_at : MethodName := ⟨RX12, "at", "(II)C"⟩
abbrev cX12_is : ByteArray := prog_14_method_8_code
def yX12_is : MethodName := ⟨RX12, "is", "(ILjava/lang/String;)Z"⟩
abbrev cX12_u1 : ByteArray := prog_14_method_9_code
def yX12_u1 : MethodName := ⟨RX12, "u1", "(I)I"⟩
abbrev cX12_u2 : ByteArray := prog_14_method_10_code
def yX12_u2 : MethodName := ⟨RX12, "u2", "(I)I"⟩
abbrev cX12_u4 : ByteArray := prog_14_method_11_code
def yX12_u4 : MethodName := ⟨RX12, "u4", "(I)J"⟩
abbrev cX12_wrong : ByteArray := prog_14_method_12_code
def yX12_wrong : MethodName := ⟨RX12, "wrong", "(II)Z"⟩
abbrev cX12_item : ByteArray := prog_14_method_13_code
def yX12_item : MethodName := ⟨RX12, "item", "(J)Z"⟩
abbrev cX12_tag : ByteArray := prog_14_method_14_code
def yX12_tag : MethodName := ⟨RX12, "tag", "(I)I"⟩
abbrev cX12_index : ByteArray := prog_14_method_15_code
def yX12_index : MethodName := ⟨RX12, "index", "(II)I"⟩
abbrev cX12_symOf : ByteArray := prog_14_method_16_code
def yX12_symOf : MethodName := ⟨RX12, "symOf", "(I)I"⟩
abbrev cX12_readFile : ByteArray := prog_14_method_17_code
def yX12_readFile : MethodName := ⟨RX12, "readFile", "()Z"⟩
abbrev cX12_members : ByteArray := prog_14_method_18_code
def yX12_members : MethodName := ⟨RX12, "members", "()Z"⟩
abbrev cX12_attributes : ByteArray := prog_14_method_19_code
def yX12_attributes : MethodName := ⟨RX12, "attributes", "()Z"⟩
abbrev cX12_readPool : ByteArray := prog_14_method_20_code
def yX12_readPool : MethodName := ⟨RX12, "readPool", "()Z"⟩
abbrev cX12_utf8 : ByteArray := prog_14_method_21_code
def yX12_utf8 : MethodName := ⟨RX12, "utf8", "(III)Z"⟩
abbrev cX12_unqualified : ByteArray := prog_14_method_22_code
def yX12_unqualified : MethodName := ⟨RX12, "unqualified", "(IZ)Z"⟩
abbrev cX12_classText : ByteArray := prog_14_method_23_code
def yX12_classText : MethodName := ⟨RX12, "classText", "(I)Z"⟩
abbrev cX12_nameText : ByteArray := prog_14_method_24_code
def yX12_nameText : MethodName := ⟨RX12, "nameText", "(III)Z"⟩
abbrev cX12_fieldText : ByteArray := prog_14_method_25_code
def yX12_fieldText : MethodName := ⟨RX12, "fieldText", "(II)I"⟩
abbrev cX12_isField : ByteArray := prog_14_method_26_code
def yX12_isField : MethodName := ⟨RX12, "isField", "(I)Z"⟩
abbrev cX12_isMethod : ByteArray := prog_14_method_27_code
def yX12_isMethod : MethodName := ⟨RX12, "isMethod", "(I)Z"⟩
abbrev cX12_places0 : ByteArray := prog_14_method_28_code
def yX12_places0 : MethodName := ⟨RX12, "places0", "(I)I"⟩
abbrev cX12_endsV : ByteArray := prog_14_method_29_code
def yX12_endsV : MethodName := ⟨RX12, "endsV", "(I)Z"⟩
abbrev cX12_checkPool : ByteArray := prog_14_method_30_code
def yX12_checkPool : MethodName := ⟨RX12, "checkPool", "()Z"⟩
abbrev cX12_angles : ByteArray := prog_14_method_31_code
def yX12_angles : MethodName := ⟨RX12, "angles", "(I)Z"⟩
abbrev cX12_indexes : ByteArray := prog_14_method_32_code
def yX12_indexes : MethodName := ⟨RX12, "indexes", "(IIZ)Z"⟩
abbrev cX12_handleEntry : ByteArray := prog_14_method_33_code
def yX12_handleEntry : MethodName := ⟨RX12, "handleEntry", "(I)Z"⟩
abbrev cX12_className : ByteArray := prog_14_method_34_code
def yX12_className : MethodName := ⟨RX12, "className", "(I)I"⟩
abbrev cX12_plainClass : ByteArray := prog_14_method_35_code
def yX12_plainClass : MethodName := ⟨RX12, "plainClass", "(I)Z"⟩
abbrev cX12_checkClass : ByteArray := prog_14_method_36_code
def yX12_checkClass : MethodName := ⟨RX12, "checkClass", "()Z"⟩
abbrev cX12_several : ByteArray := prog_14_method_37_code
def yX12_several : MethodName := ⟨RX12, "several", "(IIII)Z"⟩
abbrev cX12_checkFields : ByteArray := prog_14_method_38_code
def yX12_checkFields : MethodName := ⟨RX12, "checkFields", "()Z"⟩
abbrev cX12_checkMethods : ByteArray := prog_14_method_39_code
def yX12_checkMethods : MethodName := ⟨RX12, "checkMethods", "()Z"⟩
abbrev cX12_flagsFit : ByteArray := prog_14_method_40_code
def yX12_flagsFit : MethodName := ⟨RX12, "flagsFit", "(IZZ)Z"⟩
abbrev cX12_checkAttributes : ByteArray := prog_14_method_41_code
def yX12_checkAttributes : MethodName := ⟨RX12, "checkAttributes", "(III)I"⟩
abbrev cX12_attribute : ByteArray := prog_14_method_42_code
def yX12_attribute : MethodName := ⟨RX12, "attribute", "(IIIIII)I"⟩
abbrev cX12_bootstraps : ByteArray := prog_14_method_43_code
def yX12_bootstraps : MethodName := ⟨RX12, "bootstraps", "(II)I"⟩
abbrev cX12_components : ByteArray := prog_14_method_44_code
def yX12_components : MethodName := ⟨RX12, "components", "(II)I"⟩
abbrev cX12_code : ByteArray := prog_14_method_45_code
def yX12_code : MethodName := ⟨RX12, "code", "(IIII)I"⟩
abbrev cX12_checkFile : ByteArray := prog_14_method_46_code
def yX12_checkFile : MethodName := ⟨RX12, "checkFile", "()Z"⟩
abbrev cX12_feed : ByteArray := prog_14_method_47_code
def yX12_feed : MethodName := ⟨RX12, "feed", "(IIIII)I"⟩
abbrev cX12_four : ByteArray := prog_14_method_48_code
def yX12_four : MethodName := ⟨RX12, "four", "(I)V"⟩
abbrev cX12_bad : ByteArray := prog_14_method_49_code
def yX12_bad : MethodName := ⟨RX12, "bad", "()I"⟩
abbrev cX12_end : ByteArray := prog_14_method_50_code
def yX12_end : MethodName := ⟨RX12, "end", "(I)I"⟩
abbrev cX12_read : ByteArray := prog_14_method_51_code
def yX12_read : MethodName := ⟨RX12, "read", "()I"⟩
abbrev cX12_parse : ByteArray := prog_14_method_52_code
def yX12_parse : MethodName := ⟨RX12, "parse", "([BI)Z"⟩
abbrev cX12_place : ByteArray := prog_14_method_53_code
def yX12_place : MethodName := ⟨RX12, "place", "()I"⟩
abbrev cX12_count : ByteArray := prog_14_method_54_code
def yX12_count : MethodName := ⟨RX12, "count", "(I)I"⟩
abbrev cX12_entry : ByteArray := prog_14_method_55_code
def yX12_entry : MethodName := ⟨RX12, "entry", "(II)I"⟩
abbrev cX12_bits : ByteArray := prog_14_method_56_code
def yX12_bits : MethodName := ⟨RX12, "bits", "(I)J"⟩
abbrev cX12_character : ByteArray := prog_14_method_57_code
def yX12_character : MethodName := ⟨RX12, "character", "(II)I"⟩
abbrev cX12_member : ByteArray := prog_14_method_58_code
def yX12_member : MethodName := ⟨RX12, "member", "(ZII)I"⟩
abbrev cX12_find : ByteArray := prog_14_method_59_code
def yX12_find : MethodName := ⟨RX12, "find", "(ZII)I"⟩
abbrev cX12_row : ByteArray := prog_14_method_60_code
def yX12_row : MethodName := ⟨RX12, "row", "(III)I"⟩
abbrev cX12_bootstrap : ByteArray := prog_14_method_61_code
def yX12_bootstrap : MethodName := ⟨RX12, "bootstrap", "(II)I"⟩
abbrev cX12_places : ByteArray := prog_14_method_62_code
def yX12_places : MethodName := ⟨RX12, "places", "(I)I"⟩
abbrev cX12_wide : ByteArray := prog_14_method_63_code
def yX12_wide : MethodName := ⟨RX12, "wide", "(II)Z"⟩
abbrev cX12_b1 : ByteArray := prog_14_method_64_code
def yX12_b1 : MethodName := ⟨RX12, "b1", "(I)I"⟩
abbrev cX12_b2 : ByteArray := prog_14_method_65_code
def yX12_b2 : MethodName := ⟨RX12, "b2", "(I)I"⟩
abbrev cX12_s2 : ByteArray := prog_14_method_66_code
def yX12_s2 : MethodName := ⟨RX12, "s2", "(I)I"⟩
abbrev cX12_b4 : ByteArray := prog_14_method_67_code
def yX12_b4 : MethodName := ⟨RX12, "b4", "(I)I"⟩
abbrev cX12_pad : ByteArray := prog_14_method_68_code
def yX12_pad : MethodName := ⟨RX12, "pad", "(I)I"⟩
abbrev cX12_noCode : ByteArray := prog_14_method_69_code
def yX12_noCode : MethodName := ⟨RX12, "noCode", "(I)Z"⟩
abbrev cX12_cuts : ByteArray := prog_14_method_70_code
def yX12_cuts : MethodName := ⟨RX12, "cuts", "(I)Z"⟩
abbrev cX12_formed : ByteArray := prog_14_method_71_code
def yX12_formed : MethodName := ⟨RX12, "formed", "(II)I"⟩
abbrev cX12_local : ByteArray := prog_14_method_72_code
def yX12_local : MethodName := ⟨RX12, "local", "(II)Z"⟩
abbrev cX12_nameOf : ByteArray := prog_14_method_73_code
def yX12_nameOf : MethodName := ⟨RX12, "nameOf", "(I)I"⟩
abbrev cX12_descOf : ByteArray := prog_14_method_74_code
def yX12_descOf : MethodName := ⟨RX12, "descOf", "(I)I"⟩
abbrev cX12_operands : ByteArray := prog_14_method_75_code
def yX12_operands : MethodName := ⟨RX12, "operands", "(II)Z"⟩
abbrev cX12_starts : ByteArray := prog_14_method_76_code
def yX12_starts : MethodName := ⟨RX12, "starts", "(J)Z"⟩
abbrev cX12_aims : ByteArray := prog_14_method_77_code
def yX12_aims : MethodName := ⟨RX12, "aims", "(I)Z"⟩
abbrev cX12_ways : ByteArray := prog_14_method_78_code
def yX12_ways : MethodName := ⟨RX12, "ways", "(I)I"⟩
abbrev cX12_wayAt : ByteArray := prog_14_method_79_code
def yX12_wayAt : MethodName := ⟨RX12, "wayAt", "(II)I"⟩
abbrev cX12_cut : ByteArray := prog_14_method_80_code
def yX12_cut : MethodName := ⟨RX12, "cut", "(I)I"⟩
abbrev cX12_instruction : ByteArray := prog_14_method_81_code
def yX12_instruction : MethodName := ⟨RX12, "instruction", "(III)I"⟩
abbrev cX12_plain : ByteArray := prog_14_method_82_code
def yX12_plain : MethodName := ⟨RX12, "plain", "(II)I"⟩
abbrev cX12_first : ByteArray := prog_14_method_83_code
def yX12_first : MethodName := ⟨RX12, "first", "(II)I"⟩
abbrev cX12_second : ByteArray := prog_14_method_84_code
def yX12_second : MethodName := ⟨RX12, "second", "(II)I"⟩
abbrev cX12_jump : ByteArray := prog_14_method_85_code
def yX12_jump : MethodName := ⟨RX12, "jump", "(IIIZ)I"⟩
def RJx8e188 : String := "java/lang/Cloneable"
def TJx8e188 : u_T := fun k => match k with
  | _ => ("", "", "", false)
def tyJx8e188 : Nat → FieldType := fun k => match k with
  | _ => .int
abbrev wsJx8e1880 : List Cond := u_ws RJx8e188 TJx8e188 0
theorem nmJx8e188 : ∀ a, a < 0 → ∀ b, b < 0 → a ≠ b → (TJx8e188 a).2.1 ≠ (TJx8e188 b).2.1 := by decide +kernel
theorem tyJx8e188_ok : ∀ k, k < 0 → parseFieldDescriptor (TJx8e188 k).2.2.1 = some (tyJx8e188 k) := by decide +kernel
def RJ6 : String := "java/lang/Integer"
def TJ6 : u_T := fun k => match k with
  | _ => ("", "", "", false)
def tyJ6 : Nat → FieldType := fun k => match k with
  | _ => .int
abbrev wsJ60 : List Cond := u_ws RJ6 TJ6 0
theorem nmJ6 : ∀ a, a < 0 → ∀ b, b < 0 → a ≠ b → (TJ6 a).2.1 ≠ (TJ6 b).2.1 := by decide +kernel
theorem tyJ6_ok : ∀ k, k < 0 → parseFieldDescriptor (TJ6 k).2.2.1 = some (tyJ6 k) := by decide +kernel
abbrev cJ6_bitCount_0f7a4 : ByteArray := prog_19_method_49_code
def yJ6_bitCount_0f7a4 : MethodName := ⟨RJ6, "bitCount", "(I)I"⟩
def RJ9 : String := "java/lang/Math"
def TJ9 : u_T := fun k => match k with
  | _ => ("", "", "", false)
def tyJ9 : Nat → FieldType := fun k => match k with
  | _ => .int
abbrev wsJ90 : List Cond := u_ws RJ9 TJ9 0
theorem nmJ9 : ∀ a, a < 0 → ∀ b, b < 0 → a ≠ b → (TJ9 a).2.1 ≠ (TJ9 b).2.1 := by decide +kernel
theorem tyJ9_ok : ∀ k, k < 0 → parseFieldDescriptor (TJ9 k).2.2.1 = some (tyJ9 k) := by decide +kernel
abbrev cJ9_max_7cf53 : ByteArray := prog_20_method_65_code
def yJ9_max_7cf53 : MethodName := ⟨RJ9, "max", "(II)I"⟩
abbrev cJ9_min_7cf53 : ByteArray := prog_20_method_69_code
def yJ9_min_7cf53 : MethodName := ⟨RJ9, "min", "(II)I"⟩
def RJ0 : String := "java/lang/String"
def TJ0 : u_T := fun k => match k with
  | _ => ("", "", "", false)
def tyJ0 : Nat → FieldType := fun k => match k with
  | _ => .int
abbrev wsJ00 : List Cond := u_ws RJ0 TJ0 0
theorem nmJ0 : ∀ a, a < 0 → ∀ b, b < 0 → a ≠ b → (TJ0 a).2.1 ≠ (TJ0 b).2.1 := by decide +kernel
theorem tyJ0_ok : ∀ k, k < 0 → parseFieldDescriptor (TJ0 k).2.2.1 = some (tyJ0 k) := by decide +kernel
abbrev cJ0_length_8abf5 : ByteArray := prog_22_method_54_code
def yJ0_length_8abf5 : MethodName := ⟨RJ0, "length", "()I"⟩
abbrev cJ0_charAt_5068e : ByteArray := prog_22_method_56_code
def yJ0_charAt_5068e : MethodName := ⟨RJ0, "charAt", "(I)C"⟩
abbrev cJ0_coder_7d493 : ByteArray := prog_22_method_152_code
def yJ0_coder_7d493 : MethodName := ⟨RJ0, "coder", "()B"⟩
abbrev cJ0_isLatin1_aae02 : ByteArray := prog_22_method_154_code
def yJ0_isLatin1_aae02 : MethodName := ⟨RJ0, "isLatin1", "()Z"⟩
abbrev cJ0_checkIndex_df160 : ByteArray := prog_22_method_155_code
def yJ0_checkIndex_df160 : MethodName := ⟨RJ0, "checkIndex", "(II)V"⟩
def RJ1 : String := "java/lang/StringLatin1"
def TJ1 : u_T := fun k => match k with
  | _ => ("", "", "", false)
def tyJ1 : Nat → FieldType := fun k => match k with
  | _ => .int
abbrev wsJ10 : List Cond := u_ws RJ1 TJ1 0
theorem nmJ1 : ∀ a, a < 0 → ∀ b, b < 0 → a ≠ b → (TJ1 a).2.1 ≠ (TJ1 b).2.1 := by decide +kernel
theorem tyJ1_ok : ∀ k, k < 0 → parseFieldDescriptor (TJ1 k).2.2.1 = some (tyJ1 k) := by decide +kernel
abbrev cJ1_charAt_3b067 : ByteArray := prog_23_method_2_code
def yJ1_charAt_3b067 : MethodName := ⟨RJ1, "charAt", "([BI)C"⟩
def RJ2 : String := "java/lang/StringUTF16"
def TJ2 : u_T := fun k => match k with
  | _ => ("", "", "", false)
def tyJ2 : Nat → FieldType := fun k => match k with
  | _ => .int
abbrev wsJ20 : List Cond := u_ws RJ2 TJ2 0
theorem nmJ2 : ∀ a, a < 0 → ∀ b, b < 0 → a ≠ b → (TJ2 a).2.1 ≠ (TJ2 b).2.1 := by decide +kernel
theorem tyJ2_ok : ∀ k, k < 0 → parseFieldDescriptor (TJ2 k).2.2.1 = some (tyJ2 k) := by decide +kernel
abbrev cJ2_getChar_3b067 : ByteArray := prog_24_method_5_code
def yJ2_getChar_3b067 : MethodName := ⟨RJ2, "getChar", "([BI)C"⟩
abbrev cJ2_length_9d52b : ByteArray := prog_24_method_6_code
def yJ2_length_9d52b : MethodName := ⟨RJ2, "length", "([B)I"⟩
abbrev cJ2_charAt_3b067 : ByteArray := prog_24_method_83_code
def yJ2_charAt_3b067 : MethodName := ⟨RJ2, "charAt", "([BI)C"⟩
abbrev cJ2_checkIndex_2214a : ByteArray := prog_24_method_91_code
def yJ2_checkIndex_2214a : MethodName := ⟨RJ2, "checkIndex", "(I[B)V"⟩
def RJ10 : String := "java/lang/System"
def TJ10 : u_T := fun k => match k with
  | _ => ("", "", "", false)
def tyJ10 : Nat → FieldType := fun k => match k with
  | _ => .int
abbrev wsJ100 : List Cond := u_ws RJ10 TJ10 0
theorem nmJ10 : ∀ a, a < 0 → ∀ b, b < 0 → a ≠ b → (TJ10 a).2.1 ≠ (TJ10 b).2.1 := by decide +kernel
theorem tyJ10_ok : ∀ k, k < 0 → parseFieldDescriptor (TJ10 k).2.2.1 = some (tyJ10 k) := by decide +kernel
def RJ7 : String := "java/util/Arrays"
def TJ7 : u_T := fun k => match k with
  | _ => ("", "", "", false)
def tyJ7 : Nat → FieldType := fun k => match k with
  | _ => .int
abbrev wsJ70 : List Cond := u_ws RJ7 TJ7 0
theorem nmJ7 : ∀ a, a < 0 → ∀ b, b < 0 → a ≠ b → (TJ7 a).2.1 ≠ (TJ7 b).2.1 := by decide +kernel
theorem tyJ7_ok : ∀ k, k < 0 → parseFieldDescriptor (TJ7 k).2.2.1 = some (tyJ7 k) := by decide +kernel
abbrev cJ7_copyOf_9075b : ByteArray := prog_27_method_121_code
def yJ7_copyOf_9075b : MethodName := ⟨RJ7, "copyOf", "([BI)[B"⟩
def RJ3 : String := "jdk/internal/util/Preconditions"
def TJ3 : u_T := fun k => match k with
  | _ => ("", "", "", false)
def tyJ3 : Nat → FieldType := fun k => match k with
  | _ => .int
abbrev wsJ30 : List Cond := u_ws RJ3 TJ3 0
theorem nmJ3 : ∀ a, a < 0 → ∀ b, b < 0 → a ≠ b → (TJ3 a).2.1 ≠ (TJ3 b).2.1 := by decide +kernel
theorem tyJ3_ok : ∀ k, k < 0 → parseFieldDescriptor (TJ3 k).2.2.1 = some (tyJ3 k) := by decide +kernel
abbrev cJ3_checkIndex_8e157 : ByteArray := prog_28_method_11_code
def yJ3_checkIndex_8e157 : MethodName := ⟨RJ3, "checkIndex", "(IILjava/util/function/BiFunction;)I"⟩
def RL : String := "ClassGateLaw"
abbrev cL_feed : ByteArray := method_3_code
def yL_feed : MethodName := ⟨RL, "feed", "(LClassGate;IIIII[J)I"⟩
abbrev cL_end : ByteArray := method_4_code
def yL_end : MethodName := ⟨RL, "end", "(LClassGate;I[J)I"⟩
abbrev cL_count : ByteArray := method_5_code
def yL_count : MethodName := ⟨RL, "count", "(LClassGate;I[J)I"⟩
abbrev cL_entry : ByteArray := method_6_code
def yL_entry : MethodName := ⟨RL, "entry", "(LClassGate;II[J)I"⟩
abbrev cL_member : ByteArray := method_7_code
def yL_member : MethodName := ⟨RL, "member", "(LClassGate;ZII[J)I"⟩
abbrev cL_row : ByteArray := method_8_code
def yL_row : MethodName := ⟨RL, "row", "(LClassGate;III[J)I"⟩
abbrev cL_instruction : ByteArray := method_9_code
def yL_instruction : MethodName := ⟨RL, "instruction", "(LClassGate;III[J)I"⟩
abbrev cL_law : ByteArray := code
def yL_law : MethodName := ⟨RL, "law", "([I)Z"⟩
abbrev vwCl : List vw_C := [(RX0, TX0, 5), (RX1, TX1, 1), (RX2, TX2, 5), (RX3, TX3, 17), (RX4, TX4, 11), (RX5, TX5, 12), (RX6, TX6, 11), (RX7, TX7, 8), (RX8, TX8, 3), (RX9, TX9, 5), (RX10, TX10, 2), (RX11, TX11, 5), (RX12, TX12, 82)]
end
section
/-! CONTRACTS OVER A WORLD AND WHAT STANDS OUTSIDE IT (statics, literals, links of nest mates): 'E A U H', which a run does not touch. -/
section XBA
variable {p : Program} {l : Launch} {e : Env} {R : Room} {s : State} {m : MethodId} {args : Array Value} {below : List Frame} {meth : Method} {c : Code} {H : Heap} {locs : List Loc} {cells slots : Nat} {Q : State → Prop}
def xb_ok (E : (Nat → Prop) → State → Heap → Prop) : Prop :=
  (∀ (A : Nat → Prop) (s U : State) (H : Heap), s.WarmedH U.vm → E A s H → E A U H) ∧ (∀ (A : Nat → Prop) (U : State) (H H1 : Heap), (∀ q : Nat, q < H.size → ¬ A q → H1[q]? = H[q]?) → E A U H → E A U H1) ∧ (∀ (A B : Nat → Prop) (U : State) (H : Heap), (∀ q, B q → A q) → E A U H → E B U H)
def xb_Pre (E : (Nat → Prop) → State → Heap → Prop) (D : va_G) (cl : List vw_C) (ws : va_W) (tys : List (ClassId × FieldType)) (sz : Nat) (av : List Value) : Array Value → State → Prop :=
  va_Pc av (fun U => U.heap.size = sz ∧ va_P D cl ws U.heap ∧ va_K D cl tys U ∧ va_D (fun _ => True) ws ∧ E (va_A ws sz) U U.heap)
def xb_B {S : Type} (D : va_G) (cl : List vw_C) (A : Nat → Prop) (W1 : S → va_W) (T1 : S → List (ClassId × FieldType)) : S → State → Prop := fun u t => va_P D cl (W1 u) t.heap ∧ va_K D cl (T1 u) t ∧ va_D A (W1 u)
variable {E : (Nat → Prop) → State → Heap → Prop} {D : va_G} {cl : List vw_C} {ws wc wr : va_W} {tys tc : List (ClassId × FieldType)} {A : Nat → Prop} {av : List Value}
theorem xb_blind {sz : Nat} (ok : xb_ok E) : FrameBlind (xb_Pre E D cl ws tys sz av) := by
  intro a U g mk q
  obtain ⟨h0, h1, h2, h3, h4, h5⟩ := q
  exact ⟨h0, h1, h2, va_K.moved (u := U) (U := U.calling g mk a) (Vm.Alike.refl U.vm) h3, h4, ok.1 _ U (U.calling g mk a) _ (State.WarmedH.refl U) h5⟩
theorem xb_enter (ok : xb_ok E) (hK : va_K D cl tys s) (hP : va_P D cl ws H) (hD : va_D A ws) (hS : va_S A s.heap H locs) (hA : ∀ q, s.heap.size ≤ q → A q) (hE : E A s s.heap) (isC : List Nat) (hC : isC.map (fun i => ws[i]?) = wc.map some) (hCf : isC.filterMap (fun i => ws[i]?) = wc) (hnd : va_nd isC = true) (isT : List Nat) (hT : isT.filterMap (fun i => tys[i]?) = tc) :
    ∀ U : State, U.heap = H → s.WarmedH U.vm → xb_Pre E D cl wc tc H.size av av.toArray U := by
  intro U hU hW
  refine ⟨rfl, by rw [hU], by rw [hU]; exact hP.sub isC hCf, va_K.moved hW.alike (hK.sub isT hT), (hD.sub isC hnd hC).weaken (fun _ _ _ _ => trivial), ?_⟩
  rw [hU]
  exact ok.1 _ _ _ _ hW (ok.2.2 _ _ _ _ (va_free hD hS hA isC hC) (ok.2.1 _ _ _ _ hS.2.1 hE))
variable {pc : Nat} {ls : Array Slot} {rest st0 : List Value} {a : Array Value} {mc ms : Nat}
theorem xb_goi {S : Type} {post : Int32 → S → Prop} {W1 : S → va_W} {T1 : S → List (ClassId × FieldType)} (hr : va_Run p l e R s m args below meth c H locs cells slots mc ms (F0 m pc ls st0) rest (va_Qi post (xb_B D cl (va_A wc H.size) W1 T1) (va_A wc H.size) a) (va_A wc H.size))
    (hK : va_K D cl tys s) (hP : va_P D cl ws H) (hD : va_D A ws) (hS : va_S A s.heap H locs) (hA : ∀ q, s.heap.size ≤ q → A q) (isC isR : List Nat) (hC : isC.map (fun i => ws[i]?) = wc.map some) (hR : isR.map (fun i => ws[i]?) = wr.map some) (hnr : va_nd isR = true) (hdis : ∀ i ∈ isR, i ∉ isC)
    (kk : ∀ (r : Int32) (u : S) (H1 : Heap) (locs1 : List Loc), post r u → va_P D cl (wr ++ W1 u) H1 → va_D A (wr ++ W1 u) → va_K D cl (tys ++ T1 u) s → va_S A s.heap H1 locs1 → W p l e R s m args below meth c H1 locs1 (cells + mc) (slots + ms) Q (F0 m (pc + 3) ls (.int r :: rest))) : W p l e R s m args below meth c H locs cells slots Q (F0 m pc ls st0) := by
  have hF := va_free hD hS hA isC hC
  refine va_calli hr hS (fun q _ h => hF q h) hF (fun r u t H1 locs1 ht hvm hw hB hz1 hk1 hS1 => ?_)
  obtain ⟨hP1, hK1, hD1⟩ := hB
  rw [ht] at hP1
  obtain ⟨hP2, hD2⟩ := va_join hP hD isC isR hC hR hnr hdis hk1 hF hP1 hD1
  exact kk r u H1 locs1 hw hP2 hD2 (hK.app (va_K.moved hvm.symm hK1)) hS1
theorem xb_gol {S : Type} {post : Int64 → S → Prop} {W1 : S → va_W} {T1 : S → List (ClassId × FieldType)} (hr : va_Run p l e R s m args below meth c H locs cells slots mc ms (F0 m pc ls st0) rest (va_Ql post (xb_B D cl (va_A wc H.size) W1 T1) (va_A wc H.size) a) (va_A wc H.size))
    (hK : va_K D cl tys s) (hP : va_P D cl ws H) (hD : va_D A ws) (hS : va_S A s.heap H locs) (hA : ∀ q, s.heap.size ≤ q → A q) (isC isR : List Nat) (hC : isC.map (fun i => ws[i]?) = wc.map some) (hR : isR.map (fun i => ws[i]?) = wr.map some) (hnr : va_nd isR = true) (hdis : ∀ i ∈ isR, i ∉ isC)
    (kk : ∀ (r : Int64) (u : S) (H1 : Heap) (locs1 : List Loc), post r u → va_P D cl (wr ++ W1 u) H1 → va_D A (wr ++ W1 u) → va_K D cl (tys ++ T1 u) s → va_S A s.heap H1 locs1 → W p l e R s m args below meth c H1 locs1 (cells + mc) (slots + ms) Q (F0 m (pc + 3) ls (.long r :: rest))) : W p l e R s m args below meth c H locs cells slots Q (F0 m pc ls st0) := by
  have hF := va_free hD hS hA isC hC
  refine va_calll hr hS (fun q _ h => hF q h) hF (fun r u t H1 locs1 ht hvm hw hB hz1 hk1 hS1 => ?_)
  obtain ⟨hP1, hK1, hD1⟩ := hB
  rw [ht] at hP1
  obtain ⟨hP2, hD2⟩ := va_join hP hD isC isR hC hR hnr hdis hk1 hF hP1 hD1
  exact kk r u H1 locs1 hw hP2 hD2 (hK.app (va_K.moved hvm.symm hK1)) hS1
theorem xb_gov {S : Type} {post : S → Prop} {W1 : S → va_W} {T1 : S → List (ClassId × FieldType)} (hr : va_Run p l e R s m args below meth c H locs cells slots mc ms (F0 m pc ls st0) rest (va_Qv post (xb_B D cl (va_A wc H.size) W1 T1) (va_A wc H.size) a) (va_A wc H.size))
    (hK : va_K D cl tys s) (hP : va_P D cl ws H) (hD : va_D A ws) (hS : va_S A s.heap H locs) (hA : ∀ q, s.heap.size ≤ q → A q) (isC isR : List Nat) (hC : isC.map (fun i => ws[i]?) = wc.map some) (hR : isR.map (fun i => ws[i]?) = wr.map some) (hnr : va_nd isR = true) (hdis : ∀ i ∈ isR, i ∉ isC)
    (kk : ∀ (u : S) (H1 : Heap) (locs1 : List Loc), post u → va_P D cl (wr ++ W1 u) H1 → va_D A (wr ++ W1 u) → va_K D cl (tys ++ T1 u) s → va_S A s.heap H1 locs1 → W p l e R s m args below meth c H1 locs1 (cells + mc) (slots + ms) Q (F0 m (pc + 3) ls rest)) : W p l e R s m args below meth c H locs cells slots Q (F0 m pc ls st0) := by
  have hF := va_free hD hS hA isC hC
  refine va_callv hr hS (fun q _ h => hF q h) hF (fun u t H1 locs1 ht hvm hw hB hz1 hk1 hS1 => ?_)
  obtain ⟨hP1, hK1, hD1⟩ := hB
  rw [ht] at hP1
  obtain ⟨hP2, hD2⟩ := va_join hP hD isC isR hC hR hnr hdis hk1 hF hP1 hD1
  exact kk u H1 locs1 hw hP2 hD2 (hK.app (va_K.moved hvm.symm hK1)) hS1
/-- an answer that may be null or a cell -/
theorem xb_goq {S : Type} {post : Option Nat → S → Prop} {W1 : S → va_W} {T1 : S → List (ClassId × FieldType)} (hr : va_Run p l e R s m args below meth c H locs cells slots mc ms (F0 m pc ls st0) rest (va_Qq post (xb_B D cl (va_A wc H.size) W1 T1) (va_A wc H.size) a) (va_A wc H.size))
    (hK : va_K D cl tys s) (hP : va_P D cl ws H) (hD : va_D A ws) (hS : va_S A s.heap H locs) (hA : ∀ q, s.heap.size ≤ q → A q) (isC isR : List Nat) (hC : isC.map (fun i => ws[i]?) = wc.map some) (hR : isR.map (fun i => ws[i]?) = wr.map some) (hnr : va_nd isR = true) (hdis : ∀ i ∈ isR, i ∉ isC)
    (kk : ∀ (r : Option Nat) (u : S) (H1 : Heap) (locs1 : List Loc), post r u → va_P D cl (wr ++ W1 u) H1 → va_D A (wr ++ W1 u) → va_K D cl (tys ++ T1 u) s → va_S A s.heap H1 locs1 → W p l e R s m args below meth c H1 locs1 (cells + mc) (slots + ms) Q (F0 m (pc + 3) ls (va_rf r :: rest))) : W p l e R s m args below meth c H locs cells slots Q (F0 m pc ls st0) := by
  have hF := va_free hD hS hA isC hC
  refine va_callq hr hS (fun q _ h => hF q h) hF (fun r u t H1 locs1 ht hvm hw hB hz1 hk1 hS1 => ?_)
  obtain ⟨hP1, hK1, hD1⟩ := hB
  rw [ht] at hP1
  obtain ⟨hP2, hD2⟩ := va_join hP hD isC isR hC hR hnr hdis hk1 hF hP1 hD1
  exact kk r u H1 locs1 hw hP2 hD2 (hK.app (va_K.moved hvm.symm hK1)) hS1
end XBA
section XTA
variable {p : Program} {l : Launch} {e : Env} {R : Room} {s : State} {m : MethodId} {args : Array Value} {below : List Frame} {meth : Method} {c : Code} {H : Heap} {locs : List Loc} {cells slots : Nat} {Q : State → Prop}
/-- the handler takes it: one entry in the table, its class by a link that may still be cold -/
theorem xt_caught {T : State} (X : Stand p l e R s m args below meth c T locs cells slots) {own K : String} {a0 a1 hpc ct : Nat} (hown : s.vm.findClass own = some m.cls) (hcl : (Cond.classLink own ct K).before args s = true)
    (htab : c.exceptionTable.toList = tableOf [(a0, a1, hpc, ct)]) (h0 : ct ≠ 0) {g : JFrame} (hg : g.method = m) (hcov : covers ⟨a0, a1, hpc, ct⟩ g.pc = true)
    {x : Addr} {cell : Cell} (hcell : T.heap[x]? = some cell) (hobj : cell.vm = .none) (hK : s.vm.findClass K = some cell.cls) (hself : s.vm.assignable cell.cls cell.cls = true) :
    ∃ vm' : Vm, Stand p l e R s m args below meth c (T.setVm vm') locs cells slots ∧ ∀ tg, Steps p.tables e below ((T.setVm vm').setTop { g with pc := hpc, stack := [.ref x] }) tg → Steps p.tables e below ((T.setTop g).pushFrame (.throwing x)) tg := by
  have hpl : e.platform.magicAccessors = ({} : Platform).magicAccessors := by rw [X.admits.platform]
  obtain ⟨cK, hfK, hlk⟩ := Cond.classLink_spec hown hcl e.platform hpl
  cases hfK.symm.trans hK
  subst hg
  have hlT := X.warmed.classLinks hlk
  obtain ⟨dk, _, _, ck, hdk, _, _, _, _, hck, _, hres⟩ := hlk.here
  have hWn : s.WarmedH (T.vm.noted g.method.cls ct (.cls cell.cls)) := X.warmed.noted hdk hres (State.rightAt_cls hlk)
  have hal : T.vm.Alike (T.vm.noted g.method.cls ct (.cls cell.cls)) := (Vm.Alike.refl T.vm).noted _ _ _
  obtain ⟨ck1, hck1, -⟩ := hWn.alike.2.2 _ _ hck
  refine ⟨T.vm.noted g.method.cls ct (.cls cell.cls), X.noted hWn, fun tg hrest => ?_⟩
  have hvm : ((T.setTop g).pushFrame (.throwing x)).vm = T.vm := rfl
  have hhp : ((T.setTop g).pushFrame (.throwing x)).heap = T.heap := rfl
  obtain ⟨ha, ht⟩ := (resolveClass_links e.toSetting hlT).op (op := VmOp.resolveClass g.method.cls ct) rfl
  have hfit : (T.vm.noted g.method.cls ct (.cls cell.cls)).assignable cell.cls cell.cls = true := by rw [hWn.alike.assignable]; exact hself
  have hns : ∀ k, cell.vm ≠ .statics k := fun k h => by rw [hobj] at h; cases h
  have hcov' : (decide (a0 ≤ g.pc) && decide (g.pc < a1)) = true := hcov
  have hfind : ∀ (Q : Handler → Pre) (E : CtlPost) (d : Bool) (acts : List Action), wp (findHandler g x) Q E e d acts ((T.setTop g).pushFrame (.throwing x)) ↔ Q (.found hpc) d acts (((T.setTop g).pushFrame (.throwing x)).setVm (T.vm.noted g.method.cls ct (.cls cell.cls))) := by
    intro Q E d acts
    rw [W.findHandler_eq (meth := meth) (code := c) (by rw [hvm]; exact X.method') X.code, htab]
    show wp (findHandler.go g x [⟨a0, a1, hpc, ct⟩]) Q E e d acts _ ↔ _
    simp [findHandler.go, hcov', h0, hvm, hhp, ha, ht, hcell, hns, hck1, hfit, VmOp.dirties, VmOp.acts]
  obtain ⟨hgo, hw⟩ := X.here.throwing x (g := g)
  refine Steps.head hgo hw ?_
  rw [stepThread_throwing (frames_entered X.here.top _)]
  have hst : (stepThrowing e ((T.setTop g).pushFrame (.throwing x)) x (.java g :: T.frames.tail)).Is ((((T.setTop g).pushFrame (.throwing x)).setVm (T.vm.noted g.method.cls ct (.cls cell.cls))).setFrames (.java { g with pc := hpc, stack := [.ref x] } :: T.frames.tail)) [] := by
    simp only [stepThrowing, searchFrame, vmDo]
    generalize hr : Sem.go _ e false [] ((T.setTop g).pushFrame (.throwing x)) = res
    obtain ⟨as, rfl, ha2⟩ := Sem.eq_ok_of hr (a := Handler.found hpc) (s' := ((T.setTop g).pushFrame (.throwing x)).setVm (T.vm.noted g.method.cls ct (.cls cell.cls))) (acts' := []) (by simp [hfind _ _ _ _])
    exact ⟨rfl, ha2⟩
  rw [hst.1]
  obtain ⟨g₀, hg0⟩ := Option.isSome_iff_exists.mp X.here.top
  obtain ⟨r, hr⟩ := State.topJava?_eq_some.mp hg0
  have hr' : (T.setVm (T.vm.noted g.method.cls ct (.cls cell.cls))).frames = .java g₀ :: r := hr
  rw [State.setTop_of_frames _ hr'] at hrest
  have hsw : ∀ (u : State) (v : Vm) (F G : List Frame), ((u.setFrames F).setVm v).setFrames G = (u.setVm v).setFrames G := fun u v F G => by
    rw [show (u.setFrames F).setVm v = (u.setVm v).setFrames F from rfl, State.setFrames_setFrames]
  rw [hr, List.tail_cons, State.pushFrame, hsw, State.setTop_of_frames _ hr, hsw]
  exact hrest
/-- the contract of a method that has one handler: its table is known in the walk -/
theorem xt_MetW {y : MethodName} {ws ws' : List Cond} {rm : Room} {Pc : Array Value → State → Prop} {Qc : Array Value → State → Outcome → State → Prop} {mc ms : Nat} {free : Addr → Prop} {cc : ByteArray} {maxL : Nat} {ret : Option FieldType} {hh : List (Nat × Nat × Nat × Nat)}
    (hy : plainName y.cls = true) (hw : ws = Cond.codeWith y cc maxL ret hh :: ws')
    (body : ∀ p e s m args below meth c s₁, BodyLoose p l y (headSpec ws rm) cc maxL ret e s m args below meth c s₁ → c.maxLocals = maxL → c.exceptionTable.toList = tableOf hh → Pc args s →
      W p l e (headSpec ws rm).room s m args below meth c s.heap [] 0 0 (MQ below Qc args s mc ms free) (entryFrame m args maxL)) : Met l y ws rm Pc Qc mc ms free := by
  refine va_MetW (hh := hh) hy hw ?_
  intro p e s m args below meth c s₁ B hml hP
  refine body p e s m args below meth c s₁ B hml ?_ hP
  obtain ⟨m9, meth9, c9, hn9, h1, h2, -, -, h3, -⟩ := Cond.codeWith_spec (atoms_spec (ws := ws) B.pre _ (by rw [hw]; exact List.mem_cons_self))
  cases B.named.symm.trans hn9
  cases B.method.symm.trans h1
  cases (Stand.of_body B).code.symm.trans h2
  rw [← h3, table_eq]
end XTA
end
section
def bgL_0 : List Cond := [.code yX11_init cX11_init 1 none, .methodLink RX11 1 objectInit, .code objectInit ⟨#[0xb1]⟩ 1 none, .instanceMethod objectInit, .arrayClass .byte, .fieldLink RX11 9 "ClassGate" "came" "[B", .fieldLink RX11 13 "ClassGate" "NO_BYTES" "[B", .fieldLink RX11 16 "ClassGate" "file" "[B", .fieldLink RX11 19 "ClassGate" "wrongPlace" "I", .code yX11_feed cX11_feed 6 (some .int), .fieldLink RX11 23 "ClassGate" "cameCount" "I", .constant RX11 26 65520, .classLink RX11 27 "java/lang/IllegalStateException", .initialized "java/lang/IllegalStateException", .methodLink RX11 34 yX11_takeWord, .code yX11_takeWord cX11_takeWord 2 none, .instanceMethod yX11_takeWord, .selects RX11 yX11_takeWord yX11_takeWord, .initialized RX11, .methodLink RX11 38 yJ7_copyOf_9075b, .code yJ7_copyOf_9075b cJ7_copyOf_9075b 3 (some (.array .byte)), .static yJ7_copyOf_9075b, .initialized RJ7, .code yX11_end cX11_end 2 (some .int), .classLink RX11 44 "java/lang/IllegalArgumentException", .initialized "java/lang/IllegalArgumentException", .code yX11_read cX11_read 3 (some .int), .classLink RX11 49 RX3, .initialized RX3, .instantiable RX3 17, .classLink RX11 51 RX1, .initialized RX1, .instantiable RX1 1, .methodLink RX11 53 yX1_init, .code yX1_init cX1_init 2 none, .instanceMethod yX1_init, .methodLink RX11 56 yX3_init, .code yX3_init cX3_init 2 none, .instanceMethod yX3_init, .classLink RX11 59 RX10]
def bgL_1 : List Cond := [.initialized RX10, .instantiable RX10 2, .methodLink RX11 61 yX10_init, .code yX10_init cX10_init 1 none, .instanceMethod yX10_init, .methodLink RX11 62 yX11_isWhole, .code yX11_isWhole cX11_isWhole 3 (some .boolean), .static yX11_isWhole, .fieldLink RX11 69 "ClassGate" "kept" "LClassGate$ClassFile;", .fieldLink RX11 73 "ClassGate$Verdict" "wrongAt" "I", .fieldLink RX11 76 "ClassGate$Verdict" "rule" "I", .classLink RX11 79 RX9, .initialized RX9, .instantiable RX9 5, .methodLink RX11 81 yX9_init, .code yX9_init cX9_init 3 none, .instanceMethod yX9_init, .methodLink RX11 84 yX9_takesHead, .code yX9_takesHead cX9_takesHead 1 (some .boolean), .instanceMethod yX9_takesHead, .selects RX9 yX9_takesHead yX9_takesHead, .code yX11_place cX11_place 1 (some .int), .code yX11_count cX11_count 2 (some .int), .code yX11_entry cX11_entry 3 (some .int), .fieldLink RX11 103 "ClassGate$ClassFile" "pool" "LClassGate$Pool;", .fieldLink RX11 156 "ClassGate$Pool" "size" "I", .code yX11_bits cX11_bits 4 (some .long), .fieldLink RX11 171 "ClassGate$ClassFile" "bytes" "LClassGate$Bytes;", .constantLong RX11 178 4294967295, .code yX11_character cX11_character 3 (some .int), .code yX11_places cX11_places 2 (some .int), .code yX11_member cX11_member 5 (some .int), .code yX11_find cX11_find 5 (some .int), .fieldLink RX11 198 "ClassGate$ClassFile" "methods" "[LClassGate$Member;", .fieldLink RX11 202 "ClassGate$ClassFile" "fields" "[LClassGate$Member;", .code yX11_row cX11_row 5 (some .int), .methodLink RX11 211 yX11_codeOf, .code yX11_codeOf cX11_codeOf 3 (some (.object "ClassGate$Code")), .instanceMethod yX11_codeOf, .selects RX11 yX11_codeOf yX11_codeOf]
def bgL_2 : List Cond := [.fieldLink RX11 215 "ClassGate$Code" "rowCount" "I", .fieldLink RX11 220 "ClassGate$Code" "rowsAt" "I", .fieldLink RX11 226 "ClassGate$Member" "code" "LClassGate$Code;", .code yX11_bootstrap cX11_bootstrap 3 (some .int), .code yX11_cut cX11_cut 3 (some .int), .code yX11_instruction cX11_instruction 5 (some .int), .code yX11_jump cX11_jump 6 (some .int), .code yX12_thrown cX12_thrown 1 (some .int), .fieldLink RX12 1 "ClassGateModel" "thrown" "I", .code yX12_init cX12_init 1 none, .methodLink RX12 7 objectInit, .constant RX12 13 66000, .arrayClass .char, .fieldLink RX12 14 "ClassGateModel" "chars" "[C", .fieldLink RX12 18 "ClassGateModel" "cut" "[C", .arrayClass .int, .fieldLink RX12 21 "ClassGateModel" "symAt" "[I", .fieldLink RX12 25 "ClassGateModel" "symLen" "[I", .fieldLink RX12 28 "ClassGateModel" "symNext" "[I", .fieldLink RX12 31 "ClassGateModel" "symHead" "[I", .constant RX12 34 65600, .fieldLink RX12 35 "ClassGateModel" "files" "[B", .constant RX12 39 65560, .fieldLink RX12 40 "ClassGateModel" "file" "[B", .fieldLink RX12 43 "ClassGateModel" "kept" "[B", .fieldLink RX12 46 "ClassGateModel" "came" "[B", .fieldLink RX12 49 "ClassGateModel" "keptN" "I", .constant RX12 52 65540, .fieldLink RX12 53 "ClassGateModel" "pAt" "[I", .fieldLink RX12 56 "ClassGateModel" "pSym" "[I", .fieldLink RX12 59 "ClassGateModel" "pState" "[I", .fieldLink RX12 62 "ClassGateModel" "pObj" "[I", .fieldLink RX12 65 "ClassGateModel" "fFlags" "[I", .fieldLink RX12 68 "ClassGateModel" "fName" "[I", .fieldLink RX12 71 "ClassGateModel" "fDesc" "[I", .fieldLink RX12 74 "ClassGateModel" "fConst" "[I", .fieldLink RX12 77 "ClassGateModel" "fKnown" "[I", .fieldLink RX12 80 "ClassGateModel" "fNameAt" "[I", .fieldLink RX12 83 "ClassGateModel" "fDescAt" "[I", .fieldLink RX12 86 "ClassGateModel" "mFlags" "[I"]
def bgL_3 : List Cond := [.fieldLink RX12 89 "ClassGateModel" "mName" "[I", .fieldLink RX12 92 "ClassGateModel" "mDesc" "[I", .fieldLink RX12 95 "ClassGateModel" "mCode" "[I", .fieldLink RX12 98 "ClassGateModel" "mLen" "[I", .fieldLink RX12 101 "ClassGateModel" "mStack" "[I", .fieldLink RX12 104 "ClassGateModel" "mLocals" "[I", .fieldLink RX12 107 "ClassGateModel" "mRows" "[I", .fieldLink RX12 110 "ClassGateModel" "mRowN" "[I", .fieldLink RX12 113 "ClassGateModel" "mKnown" "[I", .fieldLink RX12 116 "ClassGateModel" "mThrows" "[I", .fieldLink RX12 119 "ClassGateModel" "mNameAt" "[I", .fieldLink RX12 122 "ClassGateModel" "mDescAt" "[I", .classLink RX12 125 RJ0, .fieldLink RX12 147 "ClassGateModel" "KNOWN" "[Ljava/lang/String;", .fieldLink RX12 151 "ClassGateModel" "KNOWN_IN" "[I", .fieldLink RX12 154 "ClassGateModel" "KNOWN_FROM" "[I", .fieldLink RX12 157 "ClassGateModel" "lastPlace" "I", .fieldLink RX12 160 "ClassGateModel" "cutOf" "I", .fieldLink RX12 163 "ClassGateModel" "begins" "[I", .fieldLink RX12 166 "ClassGateModel" "which" "[I", .methodLink RX12 169 yX12_clear, .code yX12_clear cX12_clear 2 none, .instanceMethod yX12_clear, .selects RX12 yX12_clear yX12_clear, .initialized RX12, .fieldLink RX12 172 "ClassGateModel" "charsN" "I", .fieldLink RX12 175 "ClassGateModel" "syms" "I", .methodLink RX12 179 yX12_symbol, .code yX12_symbol cX12_symbol 3 (some .int), .instanceMethod yX12_symbol, .selects RX12 yX12_symbol yX12_symbol, .fieldLink RX12 183 "ClassGateModel" "S_INIT" "I", .fieldLink RX12 188 "ClassGateModel" "S_CLINIT" "I", .fieldLink RX12 192 "ClassGateModel" "S_OBJECT" "I", .fieldLink RX12 195 "ClassGateModel" "pool" "I", .fieldLink RX12 198 "ClassGateModel" "fields" "I", .fieldLink RX12 201 "ClassGateModel" "methods" "I", .methodLink RX12 204 yJ0_length_8abf5, .code yJ0_length_8abf5 cJ0_length_8abf5 1 (some .int), .instanceMethod yJ0_length_8abf5]
def bgL_4 : List Cond := [.selects RJ0 yJ0_length_8abf5 yJ0_length_8abf5, .initialized RJ0, .methodLink RX12 208 yJ0_charAt_5068e, .code yJ0_charAt_5068e cJ0_charAt_5068e 2 (some .char), .instanceMethod yJ0_charAt_5068e, .selects RJ0 yJ0_charAt_5068e yJ0_charAt_5068e, .methodLink RX12 212 yX12_symbol_, .code yX12_symbol_ cX12_symbol_ 6 (some .int), .instanceMethod yX12_symbol_, .selects RX12 yX12_symbol_ yX12_symbol_, .code yX12_wrong cX12_wrong 3 (some .boolean), .fieldLink RX12 230 "ClassGateModel" "rule" "I", .fieldLink RX12 233 "ClassGateModel" "wrongAt" "I", .code yX12_item cX12_item 3 (some .boolean), .fieldLink RX12 236 "ClassGateModel" "pos" "I", .fieldLink RX12 239 "ClassGateModel" "size" "I", .methodLink RX12 242 yX12_wrong, .instanceMethod yX12_wrong, .selects RX12 yX12_wrong yX12_wrong, .code yX12_readFile cX12_readFile 3 (some .boolean), .constantLong RX12 252 4, .methodLink RX12 254 yX12_item, .instanceMethod yX12_item, .selects RX12 yX12_item yX12_item, .constantLong RX12 262 3405691582, .constantLong RX12 264 2, .fieldLink RX12 266 "ClassGateModel" "major" "I", .fieldLink RX12 246 "ClassGateModel" "cpN" "I", .fieldLink RX12 273 "ClassGateModel" "headAt" "I", .fieldLink RX12 276 "ClassGateModel" "fieldsAt" "I", .fieldLink RX12 282 "ClassGateModel" "methodsAt" "I", .fieldLink RX12 285 "ClassGateModel" "attributesAt" "I", .code yX12_checkFile cX12_checkFile 3 (some .boolean), .fieldLink RX12 401 "ClassGateModel" "newHost" "I", .fieldLink RX12 389 "ClassGateModel" "newMembers" "I", .fieldLink RX12 392 "ClassGateModel" "newPermitted" "I", .fieldLink RX12 395 "ClassGateModel" "newInners" "I", .fieldLink RX12 376 "ClassGateModel" "newKnown" "I", .fieldLink RX12 407 "ClassGateModel" "newBoot" "I", .fieldLink RX12 410 "ClassGateModel" "newBootN" "I"]
def bgL_5 : List Cond := [.fieldLink RX12 413 "ClassGateModel" "newRecord" "I", .methodLink RX12 418 yX12_readFile, .instanceMethod yX12_readFile, .selects RX12 yX12_readFile yX12_readFile, .fieldLink RX12 249 "ClassGateModel" "cpBase" "I", .code yX12_feed cX12_feed 6 (some .int), .fieldLink RX12 433 "ClassGateModel" "cameN" "I", .methodLink RX12 436 yX12_four, .code yX12_four cX12_four 3 none, .instanceMethod yX12_four, .selects RX12 yX12_four yX12_four, .code yX12_bad cX12_bad 1 (some .int), .code yX12_end cX12_end 3 (some .int), .methodLink RX12 440 yX12_bad, .instanceMethod yX12_bad, .selects RX12 yX12_bad yX12_bad, .fieldLink RX12 443 "ClassGateModel" "fileN" "I", .code yX12_read cX12_read 4 (some .int), .methodLink RX12 446 yX12_parse, .code yX12_parse cX12_parse 4 (some .boolean), .instanceMethod yX12_parse, .selects RX12 yX12_parse yX12_parse, .methodLink RX12 450 yX12_checkFile, .instanceMethod yX12_checkFile, .selects RX12 yX12_checkFile yX12_checkFile, .code yX12_place cX12_place 1 (some .int), .code yX12_count cX12_count 4 (some .int), .fieldLink RX12 357 "ClassGateModel" "newIfs" "I", .fieldLink RX12 344 "ClassGateModel" "newFlags" "I", .code yX12_entry cX12_entry 4 (some .int), .code yX12_bits cX12_bits 3 (some .long), .code yX12_character cX12_character 3 (some .int), .code yX12_member cX12_member 4 (some .int), .code yX12_find cX12_find 7 (some .int), .code yX12_row cX12_row 4 (some .int), .code yX12_bootstrap cX12_bootstrap 5 (some .int), .code yX12_places cX12_places 5 (some .int), .code yX12_noCode cX12_noCode 2 (some .boolean), .code yX12_cut cX12_cut 2 (some .int), .methodLink RX12 519 yX12_noCode]
def bgL_6 : List Cond := [.instanceMethod yX12_noCode, .selects RX12 yX12_noCode yX12_noCode, .fieldLink RX12 471 "ClassGateModel" "many" "I", .fieldLink RX12 462 "ClassGateModel" "wrongCode" "I", .code yX12_instruction cX12_instruction 6 (some .int), .code yX12_jump cX12_jump 7 (some .int), .methodLink RX1 1 objectInit, .fieldLink RX1 7 "ClassGate$Bytes" "data" "[B", .code yX1_size cX1_size 1 (some .int), .methodLink RX3 1 objectInit, .fieldLink RX3 7 "ClassGate$ClassFile" "bytes" "LClassGate$Bytes;", .classLink RX3 13 RX7, .initialized RX7, .instantiable RX7 8, .methodLink RX3 15 yX7_init, .code yX7_init cX7_init 4 none, .instanceMethod yX7_init, .fieldLink RX3 18 "ClassGate$ClassFile" "pool" "LClassGate$Pool;", .classLink RX3 22 RX6, .fieldLink RX3 24 "ClassGate$ClassFile" "fields" "[LClassGate$Member;", .fieldLink RX3 28 "ClassGate$ClassFile" "methods" "[LClassGate$Member;", .fieldLink RX3 31 "ClassGate$ClassFile" "recordCount" "I", .methodLink RX7 3 objectInit, .fieldLink RX7 9 "ClassGate$Pool" "size" "I", .fieldLink RX7 24 "ClassGate$Pool" "tags" "[I", .fieldLink RX7 28 "ClassGate$Pool" "tagPlaces" "[I", .fieldLink RX7 31 "ClassGate$Pool" "firsts" "[I", .fieldLink RX7 34 "ClassGate$Pool" "seconds" "[I", .fieldLink RX7 37 "ClassGate$Pool" "shapes" "[I", .fieldLink RX7 40 "ClassGate$Pool" "characters" "[C", .methodLink RX9 3 objectInit, .fieldLink RX9 9 "ClassGate$Reader" "file" "LClassGate$ClassFile;", .fieldLink RX9 15 "ClassGate$Reader" "verdict" "LClassGate$Verdict;", .fieldLink RX9 19 "ClassGate$ClassFile" "bytes" "LClassGate$Bytes;", .fieldLink RX9 25 "ClassGate$Reader" "bytes" "LClassGate$Bytes;", .code yX9_takes cX9_takes 2 (some .boolean), .methodLink RX9 26 yX1_size, .instanceMethod yX1_size, .selects RX1 yX1_size yX1_size, .fieldLink RX9 32 "ClassGate$Reader" "at" "I"]
def bgL_7 : List Cond := [.methodLink RX9 36 yX10_wrong, .code yX10_wrong cX10_wrong 3 (some .boolean), .instanceMethod yX10_wrong, .selects RX10 yX10_wrong yX10_wrong, .fieldLink RX9 46 "ClassGate$Reader" "item" "I", .methodLink RX9 55 yX9_takes, .instanceMethod yX9_takes, .selects RX9 yX9_takes yX9_takes, .constant RX9 59 (-889275714), .fieldLink RX9 60 "ClassGate$ClassFile" "minor" "I", .fieldLink RX9 63 "ClassGate$ClassFile" "major" "I", .methodLink RX10 1 objectInit, .fieldLink RX10 7 "ClassGate$Verdict" "wrongAt" "I", .fieldLink RX10 13 "ClassGate$Verdict" "rule" "I", .fieldLink RJ0 9 "java/lang/String" "value" "[B", .methodLink RJ0 335 yJ0_coder_7d493, .code yJ0_coder_7d493 cJ0_coder_7d493 1 (some .byte), .instanceMethod yJ0_coder_7d493, .selects RJ0 yJ0_coder_7d493 yJ0_coder_7d493, .methodLink RJ0 492 yJ0_isLatin1_aae02, .code yJ0_isLatin1_aae02 cJ0_isLatin1_aae02 1 (some .boolean), .instanceMethod yJ0_isLatin1_aae02, .selects RJ0 yJ0_isLatin1_aae02 yJ0_isLatin1_aae02, .methodLink RJ0 495 yJ1_charAt_3b067, .code yJ1_charAt_3b067 cJ1_charAt_3b067 2 (some .char), .static yJ1_charAt_3b067, .initialized RJ1, .fieldLink RJ0 38 "java/lang/String" "COMPACT_STRINGS" "Z", .fieldLink RJ0 15 "java/lang/String" "coder" "B", .code yJ0_checkIndex_df160 cJ0_checkIndex_df160 2 none, .fieldLink RJ0 1053 "jdk/internal/util/Preconditions" "SIOOBE_FORMATTER" "Ljava/util/function/BiFunction;", .methodLink RJ0 1059 yJ3_checkIndex_8e157, .code yJ3_checkIndex_8e157 cJ3_checkIndex_8e157 3 (some .int), .static yJ3_checkIndex_8e157, .initialized RJ3, .methodLink RJ1 9 yJ0_checkIndex_df160, .static yJ0_checkIndex_df160, .codeWith yL_feed cL_feed 8 (some .int) [(0, 16, 19, 13)], .methodLink RL 7 yX11_feed, .instanceMethod yX11_feed]
def bgL_8 : List Cond := [.selects RX11 yX11_feed yX11_feed, .codeWith yL_end cL_end 4 (some .int) [(0, 9, 12, 19)], .methodLink RL 15 yX11_end, .instanceMethod yX11_end, .selects RX11 yX11_end yX11_end, .codeWith yL_count cL_count 4 (some .int) [(0, 9, 12, 19)], .methodLink RL 21 yX11_count, .instanceMethod yX11_count, .selects RX11 yX11_count yX11_count, .codeWith yL_entry cL_entry 5 (some .int) [(0, 10, 13, 19)], .methodLink RL 24 yX11_entry, .instanceMethod yX11_entry, .selects RX11 yX11_entry yX11_entry, .codeWith yL_member cL_member 6 (some .int) [(0, 12, 15, 19)], .methodLink RL 28 yX11_member, .instanceMethod yX11_member, .selects RX11 yX11_member yX11_member, .codeWith yL_row cL_row 6 (some .int) [(0, 12, 15, 19)], .methodLink RL 32 yX11_row, .instanceMethod yX11_row, .selects RX11 yX11_row yX11_row, .codeWith yL_instruction cL_instruction 6 (some .int) [(0, 12, 15, 19)], .methodLink RL 36 yX11_instruction, .instanceMethod yX11_instruction, .selects RX11 yX11_instruction yX11_instruction, .classLink RL 8 RX11, .instantiable RX11 5, .methodLink RL 39 yX11_init, .instanceMethod yX11_init, .classLink RL 40 RX12, .instantiable RX12 82, .methodLink RL 42 yX12_init, .instanceMethod yX12_init, .arrayClass .long, .methodLink RL 43 yL_feed, .static yL_feed, .initialized RL, .methodLink RL 48 yX12_feed, .instanceMethod yX12_feed, .selects RX12 yX12_feed yX12_feed]
def bgL_9 : List Cond := [.methodLink RL 49 yX12_thrown, .instanceMethod yX12_thrown, .selects RX12 yX12_thrown yX12_thrown, .methodLink RL 53 yL_end, .static yL_end, .methodLink RL 56 yX12_end, .instanceMethod yX12_end, .selects RX12 yX12_end yX12_end, .methodLink RL 57 yX11_read, .instanceMethod yX11_read, .selects RX11 yX11_read yX11_read, .methodLink RL 60 yX12_read, .instanceMethod yX12_read, .selects RX12 yX12_read yX12_read, .methodLink RL 61 yX11_place, .instanceMethod yX11_place, .selects RX11 yX11_place yX11_place, .methodLink RL 64 yX12_place, .instanceMethod yX12_place, .selects RX12 yX12_place yX12_place, .methodLink RL 65 yL_count, .static yL_count, .methodLink RL 67 yX12_count, .instanceMethod yX12_count, .selects RX12 yX12_count yX12_count, .methodLink RL 68 yL_entry, .static yL_entry, .methodLink RL 71 yX12_entry, .instanceMethod yX12_entry, .selects RX12 yX12_entry yX12_entry, .methodLink RL 72 yX11_bits, .instanceMethod yX11_bits, .selects RX11 yX11_bits yX11_bits, .methodLink RL 76 yX12_bits, .instanceMethod yX12_bits, .selects RX12 yX12_bits yX12_bits, .methodLink RL 77 yX11_character, .instanceMethod yX11_character, .selects RX11 yX11_character yX11_character, .methodLink RL 80 yX12_character]
def bgL_10 : List Cond := [.instanceMethod yX12_character, .selects RX12 yX12_character yX12_character, .methodLink RL 81 yX11_places, .instanceMethod yX11_places, .selects RX11 yX11_places yX11_places, .methodLink RL 84 yX12_places, .instanceMethod yX12_places, .selects RX12 yX12_places yX12_places, .methodLink RL 85 yL_member, .static yL_member, .methodLink RL 88 yX12_member, .instanceMethod yX12_member, .selects RX12 yX12_member yX12_member, .methodLink RL 89 yX11_find, .instanceMethod yX11_find, .selects RX11 yX11_find yX11_find, .methodLink RL 92 yX12_find, .instanceMethod yX12_find, .selects RX12 yX12_find yX12_find, .methodLink RL 93 yL_row, .static yL_row, .methodLink RL 96 yX12_row, .instanceMethod yX12_row, .selects RX12 yX12_row yX12_row, .methodLink RL 97 yX11_bootstrap, .instanceMethod yX11_bootstrap, .selects RX11 yX11_bootstrap yX11_bootstrap, .methodLink RL 100 yX12_bootstrap, .instanceMethod yX12_bootstrap, .selects RX12 yX12_bootstrap yX12_bootstrap, .methodLink RL 101 yX11_cut, .instanceMethod yX11_cut, .selects RX11 yX11_cut yX11_cut, .methodLink RL 104 yX12_cut, .instanceMethod yX12_cut, .selects RX12 yX12_cut yX12_cut, .methodLink RL 105 yL_instruction, .static yL_instruction, .methodLink RL 107 yX12_instruction, .instanceMethod yX12_instruction]
def bgL_11 : List Cond := [.selects RX12 yX12_instruction yX12_instruction, .methodLink RL 108 yX11_jump, .instanceMethod yX11_jump, .selects RX11 yX11_jump yX11_jump, .methodLink RL 112 yX12_jump, .instanceMethod yX12_jump, .selects RX12 yX12_jump yX12_jump, .laysFinal RX1 "ClassGate$Bytes" "data" "[B", .laysFinal RX3 "ClassGate$ClassFile" "bytes" "LClassGate$Bytes;", .lays RX3 "ClassGate$ClassFile" "pool" "LClassGate$Pool;", .lays RX3 "ClassGate$ClassFile" "minor" "I", .lays RX3 "ClassGate$ClassFile" "major" "I", .lays RX3 "ClassGate$ClassFile" "flagsAt" "I", .lays RX3 "ClassGate$ClassFile" "interfaceCount" "I", .lays RX3 "ClassGate$ClassFile" "fields" "[LClassGate$Member;", .lays RX3 "ClassGate$ClassFile" "methods" "[LClassGate$Member;", .lays RX3 "ClassGate$ClassFile" "attributeCount" "I", .lays RX3 "ClassGate$ClassFile" "attributesAt" "I", .lays RX3 "ClassGate$ClassFile" "known" "I", .lays RX3 "ClassGate$ClassFile" "bootstrapCount" "I", .lays RX3 "ClassGate$ClassFile" "bootstrapsAt" "I", .lays RX3 "ClassGate$ClassFile" "innerCount" "I", .lays RX3 "ClassGate$ClassFile" "nestCount" "I", .lays RX3 "ClassGate$ClassFile" "permittedCount" "I", .lays RX3 "ClassGate$ClassFile" "recordCount" "I", .laysFinal RX7 "ClassGate$Pool" "size" "I", .laysFinal RX7 "ClassGate$Pool" "tags" "[I", .laysFinal RX7 "ClassGate$Pool" "tagPlaces" "[I", .laysFinal RX7 "ClassGate$Pool" "firsts" "[I", .laysFinal RX7 "ClassGate$Pool" "seconds" "[I", .laysFinal RX7 "ClassGate$Pool" "shapes" "[I", .laysFinal RX7 "ClassGate$Pool" "characters" "[C", .lays RX7 "ClassGate$Pool" "characterCount" "I", .laysFinal RX9 "ClassGate$Reader" "file" "LClassGate$ClassFile;", .laysFinal RX9 "ClassGate$Reader" "bytes" "LClassGate$Bytes;", .laysFinal RX9 "ClassGate$Reader" "verdict" "LClassGate$Verdict;", .lays RX9 "ClassGate$Reader" "at" "I", .lays RX9 "ClassGate$Reader" "item" "I", .lays RX10 "ClassGate$Verdict" "rule" "I", .lays RX10 "ClassGate$Verdict" "wrongAt" "I"]
def bgL_12 : List Cond := [.lays RX11 "ClassGate" "came" "[B", .lays RX11 "ClassGate" "cameCount" "I", .lays RX11 "ClassGate" "file" "[B", .lays RX11 "ClassGate" "kept" "LClassGate$ClassFile;", .lays RX11 "ClassGate" "wrongPlace" "I", .lays RX12 "ClassGateModel" "thrown" "I", .laysFinal RX12 "ClassGateModel" "chars" "[C", .laysFinal RX12 "ClassGateModel" "cut" "[C", .lays RX12 "ClassGateModel" "charsN" "I", .laysFinal RX12 "ClassGateModel" "symAt" "[I", .laysFinal RX12 "ClassGateModel" "symLen" "[I", .laysFinal RX12 "ClassGateModel" "symNext" "[I", .laysFinal RX12 "ClassGateModel" "symHead" "[I", .lays RX12 "ClassGateModel" "syms" "I", .lays RX12 "ClassGateModel" "S_INIT" "I", .lays RX12 "ClassGateModel" "S_CLINIT" "I", .lays RX12 "ClassGateModel" "S_OBJECT" "I", .laysFinal RX12 "ClassGateModel" "files" "[B", .laysFinal RX12 "ClassGateModel" "file" "[B", .laysFinal RX12 "ClassGateModel" "kept" "[B", .laysFinal RX12 "ClassGateModel" "came" "[B", .lays RX12 "ClassGateModel" "size" "I", .lays RX12 "ClassGateModel" "fileN" "I", .lays RX12 "ClassGateModel" "keptN" "I", .lays RX12 "ClassGateModel" "cameN" "I", .lays RX12 "ClassGateModel" "pool" "I", .laysFinal RX12 "ClassGateModel" "pAt" "[I", .laysFinal RX12 "ClassGateModel" "pSym" "[I", .laysFinal RX12 "ClassGateModel" "pState" "[I", .laysFinal RX12 "ClassGateModel" "pObj" "[I", .lays RX12 "ClassGateModel" "fields" "I", .lays RX12 "ClassGateModel" "methods" "I", .laysFinal RX12 "ClassGateModel" "fFlags" "[I", .laysFinal RX12 "ClassGateModel" "fName" "[I", .laysFinal RX12 "ClassGateModel" "fDesc" "[I", .laysFinal RX12 "ClassGateModel" "fConst" "[I", .laysFinal RX12 "ClassGateModel" "fKnown" "[I", .laysFinal RX12 "ClassGateModel" "fNameAt" "[I", .laysFinal RX12 "ClassGateModel" "fDescAt" "[I", .laysFinal RX12 "ClassGateModel" "mFlags" "[I"]
def bgL_13 : List Cond := [.laysFinal RX12 "ClassGateModel" "mName" "[I", .laysFinal RX12 "ClassGateModel" "mDesc" "[I", .laysFinal RX12 "ClassGateModel" "mCode" "[I", .laysFinal RX12 "ClassGateModel" "mLen" "[I", .laysFinal RX12 "ClassGateModel" "mStack" "[I", .laysFinal RX12 "ClassGateModel" "mLocals" "[I", .laysFinal RX12 "ClassGateModel" "mRows" "[I", .laysFinal RX12 "ClassGateModel" "mRowN" "[I", .laysFinal RX12 "ClassGateModel" "mKnown" "[I", .laysFinal RX12 "ClassGateModel" "mThrows" "[I", .laysFinal RX12 "ClassGateModel" "mNameAt" "[I", .laysFinal RX12 "ClassGateModel" "mDescAt" "[I", .lays RX12 "ClassGateModel" "rule" "I", .lays RX12 "ClassGateModel" "wrongAt" "I", .lays RX12 "ClassGateModel" "base" "I", .lays RX12 "ClassGateModel" "pos" "I", .lays RX12 "ClassGateModel" "cpBase" "I", .lays RX12 "ClassGateModel" "cpN" "I", .lays RX12 "ClassGateModel" "major" "I", .lays RX12 "ClassGateModel" "headAt" "I", .lays RX12 "ClassGateModel" "fieldsAt" "I", .lays RX12 "ClassGateModel" "methodsAt" "I", .lays RX12 "ClassGateModel" "attributesAt" "I", .lays RX12 "ClassGateModel" "newFlags" "I", .lays RX12 "ClassGateModel" "newName" "I", .lays RX12 "ClassGateModel" "newSuper" "I", .lays RX12 "ClassGateModel" "newIfs" "I", .laysFinal RX12 "ClassGateModel" "KNOWN" "[Ljava/lang/String;", .laysFinal RX12 "ClassGateModel" "KNOWN_IN" "[I", .laysFinal RX12 "ClassGateModel" "KNOWN_FROM" "[I", .lays RX12 "ClassGateModel" "newInners" "I", .lays RX12 "ClassGateModel" "newKnown" "I", .lays RX12 "ClassGateModel" "newHost" "I", .lays RX12 "ClassGateModel" "newMembers" "I", .lays RX12 "ClassGateModel" "newPermitted" "I", .lays RX12 "ClassGateModel" "newBoot" "I", .lays RX12 "ClassGateModel" "newBootN" "I", .lays RX12 "ClassGateModel" "newRecord" "I", .lays RX12 "ClassGateModel" "lastPlace" "I", .lays RX12 "ClassGateModel" "cutOf" "I"]
def bgL_14 : List Cond := [.lays RX12 "ClassGateModel" "many" "I", .lays RX12 "ClassGateModel" "wrongCode" "I", .lays RX12 "ClassGateModel" "codeAt" "I", .lays RX12 "ClassGateModel" "codeLen" "I", .lays RX12 "ClassGateModel" "maxL" "I", .laysFinal RX12 "ClassGateModel" "begins" "[I", .laysFinal RX12 "ClassGateModel" "which" "[I", .initialized "java/lang/Throwable", .lays "java/lang/Throwable" "java/lang/Throwable" "cause" "Ljava/lang/Throwable;", .lays "java/lang/Throwable" "java/lang/Throwable" "stackTrace" "[Ljava/lang/StackTraceElement;", .lays "java/lang/Throwable" "java/lang/Throwable" "suppressedExceptions" "Ljava/util/List;", .lays "java/lang/Throwable" "java/lang/Throwable" "detailMessage" "Ljava/lang/String;", .lays "java/lang/Throwable" "java/lang/Throwable" "backtrace" "Ljava/lang/Object;", .fieldLink "java/lang/Throwable" 198 "java/lang/Throwable" "backtrace" "Ljava/lang/Object;", .superclass "java/lang/Throwable" "java/lang/Object", .instanceMethod ⟨"java/lang/Throwable", "<init>", "()V"⟩, .code ⟨"java/lang/Throwable", "<init>", "()V"⟩ prog_26_method_1_code 1 none, .methodLink "java/lang/Throwable" 1 ⟨"java/lang/Object", "<init>", "()V"⟩, .fieldLink "java/lang/Throwable" 13 "java/lang/Throwable" "UNASSIGNED_STACK" "[Ljava/lang/StackTraceElement;", .fieldLink "java/lang/Throwable" 20 "java/lang/Throwable" "SUPPRESSED_SENTINEL" "Ljava/util/List;", .methodLink "java/lang/Throwable" 27 ⟨"java/lang/Throwable", "fillInStackTrace", "()Ljava/lang/Throwable;"⟩, .instanceMethod ⟨"java/lang/Throwable", "fillInStackTrace", "()Ljava/lang/Throwable;"⟩, .selects "java/lang/IllegalArgumentException" ⟨"java/lang/Throwable", "fillInStackTrace", "()Ljava/lang/Throwable;"⟩ ⟨"java/lang/Throwable", "fillInStackTrace", "()Ljava/lang/Throwable;"⟩, .codeSync ⟨"java/lang/Throwable", "fillInStackTrace", "()Ljava/lang/Throwable;"⟩ prog_26_method_18_code 1 (some (.object "java/lang/Throwable")), .methodLink "java/lang/Throwable" 202 ⟨"java/lang/Throwable", "fillInStackTrace", "(I)Ljava/lang/Throwable;"⟩, .instanceMethod ⟨"java/lang/Throwable", "fillInStackTrace", "(I)Ljava/lang/Throwable;"⟩, .instantiable "java/lang/Throwable" 6, .native ⟨"java/lang/Throwable", "fillInStackTrace", "(I)Ljava/lang/Throwable;"⟩, .instanceMethod ⟨"java/lang/RuntimeException", "<init>", "(Ljava/lang/String;)V"⟩, .code ⟨"java/lang/RuntimeException", "<init>", "(Ljava/lang/String;)V"⟩ prog_21_method_2_code 2 none, .methodLink "java/lang/RuntimeException" 7 ⟨"java/lang/Exception", "<init>", "(Ljava/lang/String;)V"⟩, .instanceMethod ⟨"java/lang/Exception", "<init>", "(Ljava/lang/String;)V"⟩, .code ⟨"java/lang/Exception", "<init>", "(Ljava/lang/String;)V"⟩ prog_16_method_2_code 2 none, .methodLink "java/lang/Exception" 7 ⟨"java/lang/Throwable", "<init>", "(Ljava/lang/String;)V"⟩, .instanceMethod ⟨"java/lang/Throwable", "<init>", "(Ljava/lang/String;)V"⟩, .code ⟨"java/lang/Throwable", "<init>", "(Ljava/lang/String;)V"⟩ prog_26_method_2_code 2 none, .fieldLink "java/lang/Throwable" 31 "java/lang/Throwable" "detailMessage" "Ljava/lang/String;", .fieldLink "java/lang/Throwable" 7 "java/lang/Throwable" "cause" "Ljava/lang/Throwable;", .fieldLink "java/lang/Throwable" 17 "java/lang/Throwable" "stackTrace" "[Ljava/lang/StackTraceElement;", .fieldLink "java/lang/Throwable" 24 "java/lang/Throwable" "suppressedExceptions" "Ljava/util/List;"]
def bgL_15 : List Cond := [.instantiable "java/lang/IllegalArgumentException" 6, .selects "java/lang/IllegalArgumentException" ⟨"java/lang/Throwable", "fillInStackTrace", "(I)Ljava/lang/Throwable;"⟩ ⟨"java/lang/Throwable", "fillInStackTrace", "(I)Ljava/lang/Throwable;"⟩, .lays "java/lang/IllegalArgumentException" "java/lang/Throwable" "cause" "Ljava/lang/Throwable;", .lays "java/lang/IllegalArgumentException" "java/lang/Throwable" "stackTrace" "[Ljava/lang/StackTraceElement;", .lays "java/lang/IllegalArgumentException" "java/lang/Throwable" "suppressedExceptions" "Ljava/util/List;", .lays "java/lang/IllegalArgumentException" "java/lang/Throwable" "detailMessage" "Ljava/lang/String;", .lays "java/lang/IllegalArgumentException" "java/lang/Throwable" "backtrace" "Ljava/lang/Object;", .methodLink "ClassGate" 48 ⟨"java/lang/IllegalArgumentException", "<init>", "(Ljava/lang/String;)V"⟩, .instanceMethod ⟨"java/lang/IllegalArgumentException", "<init>", "(Ljava/lang/String;)V"⟩, .code ⟨"java/lang/IllegalArgumentException", "<init>", "(Ljava/lang/String;)V"⟩ prog_17_method_2_code 2 none, .methodLink "java/lang/IllegalArgumentException" 7 ⟨"java/lang/RuntimeException", "<init>", "(Ljava/lang/String;)V"⟩, .lays "java/lang/IllegalArgumentException" "java/lang/Throwable" "depth" "I", .superclass "java/lang/IllegalArgumentException" "java/lang/RuntimeException", .instanceMethod ⟨"java/lang/Object", "<init>", "()V"⟩, .classLink RL 19 "java/lang/IllegalArgumentException", .methodLink RJ7 304 Lib.Math.min.name, .static Lib.Math.min.name, .code Lib.Math.min.name Lib.Math.min.code 2 (some .int), .methodLink RX7 15 Lib.Math.min.name, .methodLink RX7 21 Lib.Math.max.name, .static Lib.Math.max.name, .code Lib.Math.max.name Lib.Math.max.code 2 (some .int), .initialized "java/lang/Math", .initialized "java/lang/System", .methodLink RJ7 150 arraycopyName, .native arraycopyName, .static arraycopyName]
def bg : List Cond := bgL_0 ++ (bgL_1 ++ (bgL_2 ++ (bgL_3 ++ (bgL_4 ++ (bgL_5 ++ (bgL_6 ++ (bgL_7 ++ (bgL_8 ++ (bgL_9 ++ (bgL_10 ++ (bgL_11 ++ (bgL_12 ++ (bgL_13 ++ (bgL_14 ++ (bgL_15)))))))))))))))
theorem tb_1 : ∀ w ∈ tables_1_1, w ∈ lw_tbl := fun w h => List.mem_append_right _ (List.mem_append_left _ h)
theorem tb_2 : ∀ w ∈ tables_1_2, w ∈ lw_tbl := fun w h => List.mem_append_right _ (List.mem_append_right _ (List.mem_append_left _ h))
theorem tb_3 : ∀ w ∈ tables_1_3, w ∈ lw_tbl := fun w h => List.mem_append_right _ (List.mem_append_right _ (List.mem_append_right _ (List.mem_append_left _ h)))
theorem tb_4 : ∀ w ∈ tables_1_4, w ∈ lw_tbl := fun w h => List.mem_append_right _ (List.mem_append_right _ (List.mem_append_right _ (List.mem_append_right _ (List.mem_append_left _ h))))
theorem tb_5 : ∀ w ∈ tables_1_5, w ∈ lw_tbl := fun w h => List.mem_append_right _ (List.mem_append_right _ (List.mem_append_right _ (List.mem_append_right _ (List.mem_append_right _ (List.mem_append_left _ h)))))
theorem tb_6 : ∀ w ∈ tables_1_6, w ∈ lw_tbl := fun w h => List.mem_append_right _ (List.mem_append_right _ (List.mem_append_right _ (List.mem_append_right _ (List.mem_append_right _ (List.mem_append_right _ (List.mem_append_left _ h))))))
theorem tb_7 : ∀ w ∈ tables_1_7, w ∈ lw_tbl := fun w h => List.mem_append_right _ (List.mem_append_right _ (List.mem_append_right _ (List.mem_append_right _ (List.mem_append_right _ (List.mem_append_right _ (List.mem_append_right _ (List.mem_append_left _ h)))))))
theorem tb_8 : ∀ w ∈ tables_1_8, w ∈ lw_tbl := fun w h => List.mem_append_right _ (List.mem_append_right _ (List.mem_append_right _ (List.mem_append_right _ (List.mem_append_right _ (List.mem_append_right _ (List.mem_append_right _ (List.mem_append_right _ (List.mem_append_left _ h))))))))
theorem tb_9 : ∀ w ∈ tables_1_9, w ∈ lw_tbl := fun w h => List.mem_append_right _ (List.mem_append_right _ (List.mem_append_right _ (List.mem_append_right _ (List.mem_append_right _ (List.mem_append_right _ (List.mem_append_right _ (List.mem_append_right _ (List.mem_append_right _ (h)))))))))
theorem bgt_0 : (.code yX11_init cX11_init 1 none : Cond) ∈ lw_tbl := tb_1 _ (List.mem_of_getElem? (i := 31) (by decide +kernel))
theorem bgt_1 : (.methodLink RX11 1 objectInit : Cond) ∈ lw_tbl := tb_1 _ (List.mem_of_getElem? (i := 32) (by decide +kernel))
theorem bgt_2 : (.code objectInit ⟨#[0xb1]⟩ 1 none : Cond) ∈ lw_tbl := tb_1 _ (List.mem_of_getElem? (i := 34) (by decide +kernel))
theorem bgt_3 : (.instanceMethod objectInit : Cond) ∈ lw_tbl := tb_1 _ (List.mem_of_getElem? (i := 33) (by decide +kernel))
theorem bgt_4 : (.arrayClass .byte : Cond) ∈ lw_tbl := tb_1 _ (List.mem_of_getElem? (i := 53) (by decide +kernel))
theorem bgt_5 : (.fieldLink RX11 9 "ClassGate" "came" "[B" : Cond) ∈ lw_tbl := tb_1 _ (List.mem_of_getElem? (i := 37) (by decide +kernel))
theorem bgt_6 : (.fieldLink RX11 13 "ClassGate" "NO_BYTES" "[B" : Cond) ∈ lw_tbl := tb_1 _ (List.mem_of_getElem? (i := 35) (by decide +kernel))
theorem bgt_7 : (.fieldLink RX11 16 "ClassGate" "file" "[B" : Cond) ∈ lw_tbl := tb_1 _ (List.mem_of_getElem? (i := 39) (by decide +kernel))
theorem bgt_8 : (.fieldLink RX11 19 "ClassGate" "wrongPlace" "I" : Cond) ∈ lw_tbl := tb_1 _ (List.mem_of_getElem? (i := 41) (by decide +kernel))
theorem bgt_9 : (.code yX11_feed cX11_feed 6 (some .int) : Cond) ∈ lw_tbl := tb_5 _ (List.mem_of_getElem? (i := 214) (by decide +kernel))
theorem bgt_10 : (.fieldLink RX11 23 "ClassGate" "cameCount" "I" : Cond) ∈ lw_tbl := tb_1 _ (List.mem_of_getElem? (i := 38) (by decide +kernel))
theorem bgt_11 : (.constant RX11 26 65520 : Cond) ∈ lw_tbl := tb_5 _ (List.mem_of_getElem? (i := 215) (by decide +kernel))
theorem bgt_12 : (.classLink RX11 27 "java/lang/IllegalStateException" : Cond) ∈ lw_tbl := tb_5 _ (List.mem_of_getElem? (i := 216) (by decide +kernel))
theorem bgt_13 : (.initialized "java/lang/IllegalStateException" : Cond) ∈ lw_tbl := tb_1 _ (List.mem_of_getElem? (i := 10) (by decide +kernel))
theorem bgt_14 : (.methodLink RX11 34 yX11_takeWord : Cond) ∈ lw_tbl := tb_6 _ (List.mem_of_getElem? (i := 42) (by decide +kernel))
theorem bgt_15 : (.code yX11_takeWord cX11_takeWord 2 none : Cond) ∈ lw_tbl := tb_6 _ (List.mem_of_getElem? (i := 45) (by decide +kernel))
theorem bgt_16 : (.instanceMethod yX11_takeWord : Cond) ∈ lw_tbl := tb_6 _ (List.mem_of_getElem? (i := 44) (by decide +kernel))
theorem bgt_17 : (.selects RX11 yX11_takeWord yX11_takeWord : Cond) ∈ lw_tbl := List.mem_of_getElem? (i := 71) (by decide +kernel)
theorem bgt_18 : (.initialized RX11 : Cond) ∈ lw_tbl := tb_1 _ (List.mem_of_getElem? (i := 1) (by decide +kernel))
theorem bgt_19 : (.methodLink RX11 38 yJ7_copyOf_9075b : Cond) ∈ lw_tbl := tb_6 _ (List.mem_of_getElem? (i := 46) (by decide +kernel))
theorem bgt_20 : (.code yJ7_copyOf_9075b cJ7_copyOf_9075b 3 (some (.array .byte)) : Cond) ∈ lw_tbl := tb_6 _ (List.mem_of_getElem? (i := 48) (by decide +kernel))
theorem bgt_21 : (.static yJ7_copyOf_9075b : Cond) ∈ lw_tbl := tb_6 _ (List.mem_of_getElem? (i := 47) (by decide +kernel))
theorem bgt_22 : (.initialized RJ7 : Cond) ∈ lw_tbl := tb_1 _ (List.mem_of_getElem? (i := 11) (by decide +kernel))
theorem bgt_23 : (.code yX11_end cX11_end 2 (some .int) : Cond) ∈ lw_tbl := tb_6 _ (List.mem_of_getElem? (i := 67) (by decide +kernel))
theorem bgt_24 : (.classLink RX11 44 "java/lang/IllegalArgumentException" : Cond) ∈ lw_tbl := tb_6 _ (List.mem_of_getElem? (i := 68) (by decide +kernel))
theorem bgt_25 : (.initialized "java/lang/IllegalArgumentException" : Cond) ∈ lw_tbl := tb_1 _ (List.mem_of_getElem? (i := 14) (by decide +kernel))
theorem bgt_26 : (.code yX11_read cX11_read 3 (some .int) : Cond) ∈ lw_tbl := tb_1 _ (List.mem_of_getElem? (i := 57) (by decide +kernel))
theorem bgt_27 : (.classLink RX11 49 RX3 : Cond) ∈ lw_tbl := tb_1 _ (List.mem_of_getElem? (i := 58) (by decide +kernel))
theorem bgt_28 : (.initialized RX3 : Cond) ∈ lw_tbl := tb_1 _ (List.mem_of_getElem? (i := 15) (by decide +kernel))
theorem bgt_29 : (.instantiable RX3 17 : Cond) ∈ lw_tbl := tb_1 _ (List.mem_of_getElem? (i := 59) (by decide +kernel))
theorem bgt_30 : (.classLink RX11 51 RX1 : Cond) ∈ lw_tbl := tb_1 _ (List.mem_of_getElem? (i := 60) (by decide +kernel))
theorem bgt_31 : (.initialized RX1 : Cond) ∈ lw_tbl := tb_1 _ (List.mem_of_getElem? (i := 16) (by decide +kernel))
theorem bgt_32 : (.instantiable RX1 1 : Cond) ∈ lw_tbl := tb_1 _ (List.mem_of_getElem? (i := 61) (by decide +kernel))
theorem bgt_33 : (.methodLink RX11 53 yX1_init : Cond) ∈ lw_tbl := tb_1 _ (List.mem_of_getElem? (i := 62) (by decide +kernel))
theorem bgt_34 : (.code yX1_init cX1_init 2 none : Cond) ∈ lw_tbl := tb_1 _ (List.mem_of_getElem? (i := 64) (by decide +kernel))
theorem bgt_35 : (.instanceMethod yX1_init : Cond) ∈ lw_tbl := tb_1 _ (List.mem_of_getElem? (i := 63) (by decide +kernel))
theorem bgt_36 : (.methodLink RX11 56 yX3_init : Cond) ∈ lw_tbl := tb_1 _ (List.mem_of_getElem? (i := 70) (by decide +kernel))
theorem bgt_37 : (.code yX3_init cX3_init 2 none : Cond) ∈ lw_tbl := tb_1 _ (List.mem_of_getElem? (i := 72) (by decide +kernel))
theorem bgt_38 : (.instanceMethod yX3_init : Cond) ∈ lw_tbl := tb_1 _ (List.mem_of_getElem? (i := 71) (by decide +kernel))
theorem bgt_39 : (.classLink RX11 59 RX10 : Cond) ∈ lw_tbl := tb_1 _ (List.mem_of_getElem? (i := 210) (by decide +kernel))
theorem bgt_40 : (.initialized RX10 : Cond) ∈ lw_tbl := tb_1 _ (List.mem_of_getElem? (i := 18) (by decide +kernel))
theorem bgt_41 : (.instantiable RX10 2 : Cond) ∈ lw_tbl := tb_1 _ (List.mem_of_getElem? (i := 211) (by decide +kernel))
theorem bgt_42 : (.methodLink RX11 61 yX10_init : Cond) ∈ lw_tbl := tb_1 _ (List.mem_of_getElem? (i := 212) (by decide +kernel))
theorem bgt_43 : (.code yX10_init cX10_init 1 none : Cond) ∈ lw_tbl := tb_1 _ (List.mem_of_getElem? (i := 214) (by decide +kernel))
theorem bgt_44 : (.instanceMethod yX10_init : Cond) ∈ lw_tbl := tb_1 _ (List.mem_of_getElem? (i := 213) (by decide +kernel))
theorem bgt_45 : (.methodLink RX11 62 yX11_isWhole : Cond) ∈ lw_tbl := tb_1 _ (List.mem_of_getElem? (i := 225) (by decide +kernel))
theorem bgt_46 : (.code yX11_isWhole cX11_isWhole 3 (some .boolean) : Cond) ∈ lw_tbl := tb_1 _ (List.mem_of_getElem? (i := 227) (by decide +kernel))
theorem bgt_47 : (.static yX11_isWhole : Cond) ∈ lw_tbl := tb_1 _ (List.mem_of_getElem? (i := 226) (by decide +kernel))
theorem bgt_48 : (.fieldLink RX11 69 "ClassGate" "kept" "LClassGate$ClassFile;" : Cond) ∈ lw_tbl := tb_1 _ (List.mem_of_getElem? (i := 40) (by decide +kernel))
theorem bgt_49 : (.fieldLink RX11 73 "ClassGate$Verdict" "wrongAt" "I" : Cond) ∈ lw_tbl := tb_1 _ (List.mem_of_getElem? (i := 219) (by decide +kernel))
theorem bgt_50 : (.fieldLink RX11 76 "ClassGate$Verdict" "rule" "I" : Cond) ∈ lw_tbl := tb_1 _ (List.mem_of_getElem? (i := 217) (by decide +kernel))
theorem bgt_51 : (.classLink RX11 79 RX9 : Cond) ∈ lw_tbl := tb_1 _ (List.mem_of_getElem? (i := 228) (by decide +kernel))
theorem bgt_52 : (.initialized RX9 : Cond) ∈ lw_tbl := tb_1 _ (List.mem_of_getElem? (i := 19) (by decide +kernel))
theorem bgt_53 : (.instantiable RX9 5 : Cond) ∈ lw_tbl := tb_1 _ (List.mem_of_getElem? (i := 229) (by decide +kernel))
theorem bgt_54 : (.methodLink RX11 81 yX9_init : Cond) ∈ lw_tbl := tb_1 _ (List.mem_of_getElem? (i := 230) (by decide +kernel))
theorem bgt_55 : (.code yX9_init cX9_init 3 none : Cond) ∈ lw_tbl := tb_1 _ (List.mem_of_getElem? (i := 232) (by decide +kernel))
theorem bgt_56 : (.instanceMethod yX9_init : Cond) ∈ lw_tbl := tb_1 _ (List.mem_of_getElem? (i := 231) (by decide +kernel))
theorem bgt_57 : (.methodLink RX11 84 yX9_takesHead : Cond) ∈ lw_tbl := tb_2 _ (List.mem_of_getElem? (i := 10) (by decide +kernel))
theorem bgt_58 : (.code yX9_takesHead cX9_takesHead 1 (some .boolean) : Cond) ∈ lw_tbl := tb_2 _ (List.mem_of_getElem? (i := 13) (by decide +kernel))
theorem bgt_59 : (.instanceMethod yX9_takesHead : Cond) ∈ lw_tbl := tb_2 _ (List.mem_of_getElem? (i := 11) (by decide +kernel))
theorem bgt_60 : (.selects RX9 yX9_takesHead yX9_takesHead : Cond) ∈ lw_tbl := tb_2 _ (List.mem_of_getElem? (i := 12) (by decide +kernel))
theorem bgt_61 : (.code yX11_place cX11_place 1 (some .int) : Cond) ∈ lw_tbl := tb_5 _ (List.mem_of_getElem? (i := 29) (by decide +kernel))
theorem bgt_62 : (.code yX11_count cX11_count 2 (some .int) : Cond) ∈ lw_tbl := tb_6 _ (List.mem_of_getElem? (i := 90) (by decide +kernel))
theorem bgt_63 : (.code yX11_entry cX11_entry 3 (some .int) : Cond) ∈ lw_tbl := tb_6 _ (List.mem_of_getElem? (i := 106) (by decide +kernel))
theorem bgt_64 : (.fieldLink RX11 103 "ClassGate$ClassFile" "pool" "LClassGate$Pool;" : Cond) ∈ lw_tbl := tb_1 _ (List.mem_of_getElem? (i := 133) (by decide +kernel))
theorem bgt_65 : (.fieldLink RX11 156 "ClassGate$Pool" "size" "I" : Cond) ∈ lw_tbl := tb_1 _ (List.mem_of_getElem? (i := 90) (by decide +kernel))
theorem bgt_66 : (.code yX11_bits cX11_bits 4 (some .long) : Cond) ∈ lw_tbl := tb_5 _ (List.mem_of_getElem? (i := 33) (by decide +kernel))
theorem bgt_67 : (.fieldLink RX11 171 "ClassGate$ClassFile" "bytes" "LClassGate$Bytes;" : Cond) ∈ lw_tbl := tb_1 _ (List.mem_of_getElem? (i := 126) (by decide +kernel))
theorem bgt_68 : (.constantLong RX11 178 4294967295 : Cond) ∈ lw_tbl := tb_5 _ (List.mem_of_getElem? (i := 37) (by decide +kernel))
theorem bgt_69 : (.code yX11_character cX11_character 3 (some .int) : Cond) ∈ lw_tbl := tb_5 _ (List.mem_of_getElem? (i := 41) (by decide +kernel))
theorem bgt_70 : (.code yX11_places cX11_places 2 (some .int) : Cond) ∈ lw_tbl := tb_5 _ (List.mem_of_getElem? (i := 46) (by decide +kernel))
theorem bgt_71 : (.code yX11_member cX11_member 5 (some .int) : Cond) ∈ lw_tbl := tb_6 _ (List.mem_of_getElem? (i := 116) (by decide +kernel))
theorem bgt_72 : (.code yX11_find cX11_find 5 (some .int) : Cond) ∈ lw_tbl := tb_5 _ (List.mem_of_getElem? (i := 54) (by decide +kernel))
theorem bgt_73 : (.fieldLink RX11 198 "ClassGate$ClassFile" "methods" "[LClassGate$Member;" : Cond) ∈ lw_tbl := tb_1 _ (List.mem_of_getElem? (i := 155) (by decide +kernel))
theorem bgt_74 : (.fieldLink RX11 202 "ClassGate$ClassFile" "fields" "[LClassGate$Member;" : Cond) ∈ lw_tbl := tb_1 _ (List.mem_of_getElem? (i := 151) (by decide +kernel))
theorem bgt_75 : (.code yX11_row cX11_row 5 (some .int) : Cond) ∈ lw_tbl := tb_6 _ (List.mem_of_getElem? (i := 132) (by decide +kernel))
theorem bgt_76 : (.methodLink RX11 211 yX11_codeOf : Cond) ∈ lw_tbl := tb_5 _ (List.mem_of_getElem? (i := 68) (by decide +kernel))
theorem bgt_77 : (.code yX11_codeOf cX11_codeOf 3 (some (.object "ClassGate$Code")) : Cond) ∈ lw_tbl := tb_5 _ (List.mem_of_getElem? (i := 71) (by decide +kernel))
theorem bgt_78 : (.instanceMethod yX11_codeOf : Cond) ∈ lw_tbl := tb_5 _ (List.mem_of_getElem? (i := 70) (by decide +kernel))
theorem bgt_79 : (.selects RX11 yX11_codeOf yX11_codeOf : Cond) ∈ lw_tbl := List.mem_of_getElem? (i := 49) (by decide +kernel)
theorem bgt_80 : (.fieldLink RX11 215 "ClassGate$Code" "rowCount" "I" : Cond) ∈ lw_tbl := tb_4 _ (List.mem_of_getElem? (i := 177) (by decide +kernel))
theorem bgt_81 : (.fieldLink RX11 220 "ClassGate$Code" "rowsAt" "I" : Cond) ∈ lw_tbl := tb_4 _ (List.mem_of_getElem? (i := 173) (by decide +kernel))
theorem bgt_82 : (.fieldLink RX11 226 "ClassGate$Member" "code" "LClassGate$Code;" : Cond) ∈ lw_tbl := tb_2 _ (List.mem_of_getElem? (i := 147) (by decide +kernel))
theorem bgt_83 : (.code yX11_bootstrap cX11_bootstrap 3 (some .int) : Cond) ∈ lw_tbl := tb_5 _ (List.mem_of_getElem? (i := 59) (by decide +kernel))
theorem bgt_84 : (.code yX11_cut cX11_cut 3 (some .int) : Cond) ∈ lw_tbl := tb_5 _ (List.mem_of_getElem? (i := 67) (by decide +kernel))
theorem bgt_85 : (.code yX11_instruction cX11_instruction 5 (some .int) : Cond) ∈ lw_tbl := tb_6 _ (List.mem_of_getElem? (i := 141) (by decide +kernel))
theorem bgt_86 : (.code yX11_jump cX11_jump 6 (some .int) : Cond) ∈ lw_tbl := tb_5 _ (List.mem_of_getElem? (i := 196) (by decide +kernel))
theorem bgt_87 : (.code yX12_thrown cX12_thrown 1 (some .int) : Cond) ∈ lw_tbl := tb_6 _ (List.mem_of_getElem? (i := 154) (by decide +kernel))
theorem bgt_88 : (.fieldLink RX12 1 "ClassGateModel" "thrown" "I" : Cond) ∈ lw_tbl := tb_6 _ (List.mem_of_getElem? (i := 194) (by decide +kernel))
theorem bgt_89 : (.code yX12_init cX12_init 1 none : Cond) ∈ lw_tbl := tb_6 _ (List.mem_of_getElem? (i := 159) (by decide +kernel))
theorem bgt_90 : (.methodLink RX12 7 objectInit : Cond) ∈ lw_tbl := tb_6 _ (List.mem_of_getElem? (i := 160) (by decide +kernel))
theorem bgt_91 : (.constant RX12 13 66000 : Cond) ∈ lw_tbl := tb_6 _ (List.mem_of_getElem? (i := 161) (by decide +kernel))
theorem bgt_92 : (.arrayClass .char : Cond) ∈ lw_tbl := tb_1 _ (List.mem_of_getElem? (i := 118) (by decide +kernel))
theorem bgt_93 : (.fieldLink RX12 14 "ClassGateModel" "chars" "[C" : Cond) ∈ lw_tbl := tb_6 _ (List.mem_of_getElem? (i := 195) (by decide +kernel))
theorem bgt_94 : (.fieldLink RX12 18 "ClassGateModel" "cut" "[C" : Cond) ∈ lw_tbl := tb_6 _ (List.mem_of_getElem? (i := 196) (by decide +kernel))
theorem bgt_95 : (.arrayClass .int : Cond) ∈ lw_tbl := tb_1 _ (List.mem_of_getElem? (i := 117) (by decide +kernel))
theorem bgt_96 : (.fieldLink RX12 21 "ClassGateModel" "symAt" "[I" : Cond) ∈ lw_tbl := tb_6 _ (List.mem_of_getElem? (i := 198) (by decide +kernel))
theorem bgt_97 : (.fieldLink RX12 25 "ClassGateModel" "symLen" "[I" : Cond) ∈ lw_tbl := tb_6 _ (List.mem_of_getElem? (i := 199) (by decide +kernel))
theorem bgt_98 : (.fieldLink RX12 28 "ClassGateModel" "symNext" "[I" : Cond) ∈ lw_tbl := tb_6 _ (List.mem_of_getElem? (i := 200) (by decide +kernel))
theorem bgt_99 : (.fieldLink RX12 31 "ClassGateModel" "symHead" "[I" : Cond) ∈ lw_tbl := tb_6 _ (List.mem_of_getElem? (i := 201) (by decide +kernel))
theorem bgt_100 : (.constant RX12 34 65600 : Cond) ∈ lw_tbl := tb_6 _ (List.mem_of_getElem? (i := 162) (by decide +kernel))
theorem bgt_101 : (.fieldLink RX12 35 "ClassGateModel" "files" "[B" : Cond) ∈ lw_tbl := tb_6 _ (List.mem_of_getElem? (i := 206) (by decide +kernel))
theorem bgt_102 : (.constant RX12 39 65560 : Cond) ∈ lw_tbl := tb_6 _ (List.mem_of_getElem? (i := 163) (by decide +kernel))
theorem bgt_103 : (.fieldLink RX12 40 "ClassGateModel" "file" "[B" : Cond) ∈ lw_tbl := tb_6 _ (List.mem_of_getElem? (i := 207) (by decide +kernel))
theorem bgt_104 : (.fieldLink RX12 43 "ClassGateModel" "kept" "[B" : Cond) ∈ lw_tbl := tb_6 _ (List.mem_of_getElem? (i := 208) (by decide +kernel))
theorem bgt_105 : (.fieldLink RX12 46 "ClassGateModel" "came" "[B" : Cond) ∈ lw_tbl := tb_6 _ (List.mem_of_getElem? (i := 209) (by decide +kernel))
theorem bgt_106 : (.fieldLink RX12 49 "ClassGateModel" "keptN" "I" : Cond) ∈ lw_tbl := tb_6 _ (List.mem_of_getElem? (i := 212) (by decide +kernel))
theorem bgt_107 : (.constant RX12 52 65540 : Cond) ∈ lw_tbl := tb_6 _ (List.mem_of_getElem? (i := 164) (by decide +kernel))
theorem bgt_108 : (.fieldLink RX12 53 "ClassGateModel" "pAt" "[I" : Cond) ∈ lw_tbl := tb_6 _ (List.mem_of_getElem? (i := 215) (by decide +kernel))
theorem bgt_109 : (.fieldLink RX12 56 "ClassGateModel" "pSym" "[I" : Cond) ∈ lw_tbl := tb_6 _ (List.mem_of_getElem? (i := 216) (by decide +kernel))
theorem bgt_110 : (.fieldLink RX12 59 "ClassGateModel" "pState" "[I" : Cond) ∈ lw_tbl := tb_6 _ (List.mem_of_getElem? (i := 217) (by decide +kernel))
theorem bgt_111 : (.fieldLink RX12 62 "ClassGateModel" "pObj" "[I" : Cond) ∈ lw_tbl := tb_6 _ (List.mem_of_getElem? (i := 218) (by decide +kernel))
theorem bgt_112 : (.fieldLink RX12 65 "ClassGateModel" "fFlags" "[I" : Cond) ∈ lw_tbl := tb_6 _ (List.mem_of_getElem? (i := 221) (by decide +kernel))
theorem bgt_113 : (.fieldLink RX12 68 "ClassGateModel" "fName" "[I" : Cond) ∈ lw_tbl := tb_6 _ (List.mem_of_getElem? (i := 222) (by decide +kernel))
theorem bgt_114 : (.fieldLink RX12 71 "ClassGateModel" "fDesc" "[I" : Cond) ∈ lw_tbl := tb_6 _ (List.mem_of_getElem? (i := 223) (by decide +kernel))
theorem bgt_115 : (.fieldLink RX12 74 "ClassGateModel" "fConst" "[I" : Cond) ∈ lw_tbl := tb_6 _ (List.mem_of_getElem? (i := 224) (by decide +kernel))
theorem bgt_116 : (.fieldLink RX12 77 "ClassGateModel" "fKnown" "[I" : Cond) ∈ lw_tbl := tb_6 _ (List.mem_of_getElem? (i := 225) (by decide +kernel))
theorem bgt_117 : (.fieldLink RX12 80 "ClassGateModel" "fNameAt" "[I" : Cond) ∈ lw_tbl := tb_6 _ (List.mem_of_getElem? (i := 226) (by decide +kernel))
theorem bgt_118 : (.fieldLink RX12 83 "ClassGateModel" "fDescAt" "[I" : Cond) ∈ lw_tbl := tb_6 _ (List.mem_of_getElem? (i := 227) (by decide +kernel))
theorem bgt_119 : (.fieldLink RX12 86 "ClassGateModel" "mFlags" "[I" : Cond) ∈ lw_tbl := tb_6 _ (List.mem_of_getElem? (i := 228) (by decide +kernel))
theorem bgt_120 : (.fieldLink RX12 89 "ClassGateModel" "mName" "[I" : Cond) ∈ lw_tbl := tb_6 _ (List.mem_of_getElem? (i := 229) (by decide +kernel))
theorem bgt_121 : (.fieldLink RX12 92 "ClassGateModel" "mDesc" "[I" : Cond) ∈ lw_tbl := tb_6 _ (List.mem_of_getElem? (i := 230) (by decide +kernel))
theorem bgt_122 : (.fieldLink RX12 95 "ClassGateModel" "mCode" "[I" : Cond) ∈ lw_tbl := tb_6 _ (List.mem_of_getElem? (i := 231) (by decide +kernel))
theorem bgt_123 : (.fieldLink RX12 98 "ClassGateModel" "mLen" "[I" : Cond) ∈ lw_tbl := tb_6 _ (List.mem_of_getElem? (i := 232) (by decide +kernel))
theorem bgt_124 : (.fieldLink RX12 101 "ClassGateModel" "mStack" "[I" : Cond) ∈ lw_tbl := tb_6 _ (List.mem_of_getElem? (i := 233) (by decide +kernel))
theorem bgt_125 : (.fieldLink RX12 104 "ClassGateModel" "mLocals" "[I" : Cond) ∈ lw_tbl := tb_6 _ (List.mem_of_getElem? (i := 234) (by decide +kernel))
theorem bgt_126 : (.fieldLink RX12 107 "ClassGateModel" "mRows" "[I" : Cond) ∈ lw_tbl := tb_6 _ (List.mem_of_getElem? (i := 235) (by decide +kernel))
theorem bgt_127 : (.fieldLink RX12 110 "ClassGateModel" "mRowN" "[I" : Cond) ∈ lw_tbl := tb_6 _ (List.mem_of_getElem? (i := 236) (by decide +kernel))
theorem bgt_128 : (.fieldLink RX12 113 "ClassGateModel" "mKnown" "[I" : Cond) ∈ lw_tbl := tb_6 _ (List.mem_of_getElem? (i := 237) (by decide +kernel))
theorem bgt_129 : (.fieldLink RX12 116 "ClassGateModel" "mThrows" "[I" : Cond) ∈ lw_tbl := tb_6 _ (List.mem_of_getElem? (i := 238) (by decide +kernel))
theorem bgt_130 : (.fieldLink RX12 119 "ClassGateModel" "mNameAt" "[I" : Cond) ∈ lw_tbl := tb_6 _ (List.mem_of_getElem? (i := 239) (by decide +kernel))
theorem bgt_131 : (.fieldLink RX12 122 "ClassGateModel" "mDescAt" "[I" : Cond) ∈ lw_tbl := tb_7 _ (List.mem_of_getElem? (i := 0) (by decide +kernel))
theorem bgt_132 : (.classLink RX12 125 RJ0 : Cond) ∈ lw_tbl := tb_6 _ (List.mem_of_getElem? (i := 165) (by decide +kernel))
theorem bgt_133 : (.fieldLink RX12 147 "ClassGateModel" "KNOWN" "[Ljava/lang/String;" : Cond) ∈ lw_tbl := tb_7 _ (List.mem_of_getElem? (i := 16) (by decide +kernel))
theorem bgt_134 : (.fieldLink RX12 151 "ClassGateModel" "KNOWN_IN" "[I" : Cond) ∈ lw_tbl := tb_7 _ (List.mem_of_getElem? (i := 17) (by decide +kernel))
theorem bgt_135 : (.fieldLink RX12 154 "ClassGateModel" "KNOWN_FROM" "[I" : Cond) ∈ lw_tbl := tb_7 _ (List.mem_of_getElem? (i := 18) (by decide +kernel))
theorem bgt_136 : (.fieldLink RX12 157 "ClassGateModel" "lastPlace" "I" : Cond) ∈ lw_tbl := tb_7 _ (List.mem_of_getElem? (i := 27) (by decide +kernel))
theorem bgt_137 : (.fieldLink RX12 160 "ClassGateModel" "cutOf" "I" : Cond) ∈ lw_tbl := tb_7 _ (List.mem_of_getElem? (i := 28) (by decide +kernel))
theorem bgt_138 : (.fieldLink RX12 163 "ClassGateModel" "begins" "[I" : Cond) ∈ lw_tbl := tb_7 _ (List.mem_of_getElem? (i := 34) (by decide +kernel))
theorem bgt_139 : (.fieldLink RX12 166 "ClassGateModel" "which" "[I" : Cond) ∈ lw_tbl := tb_7 _ (List.mem_of_getElem? (i := 35) (by decide +kernel))
theorem bgt_140 : (.methodLink RX12 169 yX12_clear : Cond) ∈ lw_tbl := tb_6 _ (List.mem_of_getElem? (i := 177) (by decide +kernel))
theorem bgt_141 : (.code yX12_clear cX12_clear 2 none : Cond) ∈ lw_tbl := tb_6 _ (List.mem_of_getElem? (i := 180) (by decide +kernel))
theorem bgt_142 : (.instanceMethod yX12_clear : Cond) ∈ lw_tbl := tb_6 _ (List.mem_of_getElem? (i := 179) (by decide +kernel))
theorem bgt_143 : (.selects RX12 yX12_clear yX12_clear : Cond) ∈ lw_tbl := List.mem_of_getElem? (i := 74) (by decide +kernel)
theorem bgt_144 : (.initialized RX12 : Cond) ∈ lw_tbl := tb_1 _ (List.mem_of_getElem? (i := 2) (by decide +kernel))
theorem bgt_145 : (.fieldLink RX12 172 "ClassGateModel" "charsN" "I" : Cond) ∈ lw_tbl := tb_6 _ (List.mem_of_getElem? (i := 197) (by decide +kernel))
theorem bgt_146 : (.fieldLink RX12 175 "ClassGateModel" "syms" "I" : Cond) ∈ lw_tbl := tb_6 _ (List.mem_of_getElem? (i := 202) (by decide +kernel))
theorem bgt_147 : (.methodLink RX12 179 yX12_symbol : Cond) ∈ lw_tbl := tb_6 _ (List.mem_of_getElem? (i := 182) (by decide +kernel))
theorem bgt_148 : (.code yX12_symbol cX12_symbol 3 (some .int) : Cond) ∈ lw_tbl := tb_6 _ (List.mem_of_getElem? (i := 185) (by decide +kernel))
theorem bgt_149 : (.instanceMethod yX12_symbol : Cond) ∈ lw_tbl := tb_6 _ (List.mem_of_getElem? (i := 184) (by decide +kernel))
theorem bgt_150 : (.selects RX12 yX12_symbol yX12_symbol : Cond) ∈ lw_tbl := List.mem_of_getElem? (i := 75) (by decide +kernel)
theorem bgt_151 : (.fieldLink RX12 183 "ClassGateModel" "S_INIT" "I" : Cond) ∈ lw_tbl := tb_6 _ (List.mem_of_getElem? (i := 203) (by decide +kernel))
theorem bgt_152 : (.fieldLink RX12 188 "ClassGateModel" "S_CLINIT" "I" : Cond) ∈ lw_tbl := tb_6 _ (List.mem_of_getElem? (i := 204) (by decide +kernel))
theorem bgt_153 : (.fieldLink RX12 192 "ClassGateModel" "S_OBJECT" "I" : Cond) ∈ lw_tbl := tb_6 _ (List.mem_of_getElem? (i := 205) (by decide +kernel))
theorem bgt_154 : (.fieldLink RX12 195 "ClassGateModel" "pool" "I" : Cond) ∈ lw_tbl := tb_6 _ (List.mem_of_getElem? (i := 214) (by decide +kernel))
theorem bgt_155 : (.fieldLink RX12 198 "ClassGateModel" "fields" "I" : Cond) ∈ lw_tbl := tb_6 _ (List.mem_of_getElem? (i := 219) (by decide +kernel))
theorem bgt_156 : (.fieldLink RX12 201 "ClassGateModel" "methods" "I" : Cond) ∈ lw_tbl := tb_6 _ (List.mem_of_getElem? (i := 220) (by decide +kernel))
theorem bgt_157 : (.methodLink RX12 204 yJ0_length_8abf5 : Cond) ∈ lw_tbl := tb_6 _ (List.mem_of_getElem? (i := 186) (by decide +kernel))
theorem bgt_158 : (.code yJ0_length_8abf5 cJ0_length_8abf5 1 (some .int) : Cond) ∈ lw_tbl := tb_3 _ (List.mem_of_getElem? (i := 120) (by decide +kernel))
theorem bgt_159 : (.instanceMethod yJ0_length_8abf5 : Cond) ∈ lw_tbl := tb_3 _ (List.mem_of_getElem? (i := 118) (by decide +kernel))
theorem bgt_160 : (.selects RJ0 yJ0_length_8abf5 yJ0_length_8abf5 : Cond) ∈ lw_tbl := tb_3 _ (List.mem_of_getElem? (i := 119) (by decide +kernel))
theorem bgt_161 : (.initialized RJ0 : Cond) ∈ lw_tbl := tb_1 _ (List.mem_of_getElem? (i := 3) (by decide +kernel))
theorem bgt_162 : (.methodLink RX12 208 yJ0_charAt_5068e : Cond) ∈ lw_tbl := tb_6 _ (List.mem_of_getElem? (i := 187) (by decide +kernel))
theorem bgt_163 : (.code yJ0_charAt_5068e cJ0_charAt_5068e 2 (some .char) : Cond) ∈ lw_tbl := tb_3 _ (List.mem_of_getElem? (i := 130) (by decide +kernel))
theorem bgt_164 : (.instanceMethod yJ0_charAt_5068e : Cond) ∈ lw_tbl := tb_3 _ (List.mem_of_getElem? (i := 128) (by decide +kernel))
theorem bgt_165 : (.selects RJ0 yJ0_charAt_5068e yJ0_charAt_5068e : Cond) ∈ lw_tbl := tb_3 _ (List.mem_of_getElem? (i := 129) (by decide +kernel))
theorem bgt_166 : (.methodLink RX12 212 yX12_symbol_ : Cond) ∈ lw_tbl := tb_6 _ (List.mem_of_getElem? (i := 188) (by decide +kernel))
theorem bgt_167 : (.code yX12_symbol_ cX12_symbol_ 6 (some .int) : Cond) ∈ lw_tbl := tb_6 _ (List.mem_of_getElem? (i := 191) (by decide +kernel))
theorem bgt_168 : (.instanceMethod yX12_symbol_ : Cond) ∈ lw_tbl := tb_6 _ (List.mem_of_getElem? (i := 190) (by decide +kernel))
theorem bgt_169 : (.selects RX12 yX12_symbol_ yX12_symbol_ : Cond) ∈ lw_tbl := List.mem_of_getElem? (i := 76) (by decide +kernel)
theorem bgt_170 : (.code yX12_wrong cX12_wrong 3 (some .boolean) : Cond) ∈ lw_tbl := tb_8 _ (List.mem_of_getElem? (i := 1) (by decide +kernel))
theorem bgt_171 : (.fieldLink RX12 230 "ClassGateModel" "rule" "I" : Cond) ∈ lw_tbl := tb_7 _ (List.mem_of_getElem? (i := 1) (by decide +kernel))
theorem bgt_172 : (.fieldLink RX12 233 "ClassGateModel" "wrongAt" "I" : Cond) ∈ lw_tbl := tb_7 _ (List.mem_of_getElem? (i := 2) (by decide +kernel))
theorem bgt_173 : (.code yX12_item cX12_item 3 (some .boolean) : Cond) ∈ lw_tbl := tb_7 _ (List.mem_of_getElem? (i := 237) (by decide +kernel))
theorem bgt_174 : (.fieldLink RX12 236 "ClassGateModel" "pos" "I" : Cond) ∈ lw_tbl := tb_7 _ (List.mem_of_getElem? (i := 4) (by decide +kernel))
theorem bgt_175 : (.fieldLink RX12 239 "ClassGateModel" "size" "I" : Cond) ∈ lw_tbl := tb_6 _ (List.mem_of_getElem? (i := 210) (by decide +kernel))
theorem bgt_176 : (.methodLink RX12 242 yX12_wrong : Cond) ∈ lw_tbl := tb_7 _ (List.mem_of_getElem? (i := 238) (by decide +kernel))
theorem bgt_177 : (.instanceMethod yX12_wrong : Cond) ∈ lw_tbl := tb_8 _ (List.mem_of_getElem? (i := 0) (by decide +kernel))
theorem bgt_178 : (.selects RX12 yX12_wrong yX12_wrong : Cond) ∈ lw_tbl := List.mem_of_getElem? (i := 83) (by decide +kernel)
theorem bgt_179 : (.code yX12_readFile cX12_readFile 3 (some .boolean) : Cond) ∈ lw_tbl := tb_7 _ (List.mem_of_getElem? (i := 232) (by decide +kernel))
theorem bgt_180 : (.constantLong RX12 252 4 : Cond) ∈ lw_tbl := tb_7 _ (List.mem_of_getElem? (i := 233) (by decide +kernel))
theorem bgt_181 : (.methodLink RX12 254 yX12_item : Cond) ∈ lw_tbl := tb_7 _ (List.mem_of_getElem? (i := 234) (by decide +kernel))
theorem bgt_182 : (.instanceMethod yX12_item : Cond) ∈ lw_tbl := tb_7 _ (List.mem_of_getElem? (i := 236) (by decide +kernel))
theorem bgt_183 : (.selects RX12 yX12_item yX12_item : Cond) ∈ lw_tbl := List.mem_of_getElem? (i := 82) (by decide +kernel)
theorem bgt_184 : (.constantLong RX12 262 3405691582 : Cond) ∈ lw_tbl := tb_8 _ (List.mem_of_getElem? (i := 14) (by decide +kernel))
theorem bgt_185 : (.constantLong RX12 264 2 : Cond) ∈ lw_tbl := tb_8 _ (List.mem_of_getElem? (i := 15) (by decide +kernel))
theorem bgt_186 : (.fieldLink RX12 266 "ClassGateModel" "major" "I" : Cond) ∈ lw_tbl := tb_7 _ (List.mem_of_getElem? (i := 7) (by decide +kernel))
theorem bgt_187 : (.fieldLink RX12 246 "ClassGateModel" "cpN" "I" : Cond) ∈ lw_tbl := tb_7 _ (List.mem_of_getElem? (i := 6) (by decide +kernel))
theorem bgt_188 : (.fieldLink RX12 273 "ClassGateModel" "headAt" "I" : Cond) ∈ lw_tbl := tb_7 _ (List.mem_of_getElem? (i := 8) (by decide +kernel))
theorem bgt_189 : (.fieldLink RX12 276 "ClassGateModel" "fieldsAt" "I" : Cond) ∈ lw_tbl := tb_7 _ (List.mem_of_getElem? (i := 9) (by decide +kernel))
theorem bgt_190 : (.fieldLink RX12 282 "ClassGateModel" "methodsAt" "I" : Cond) ∈ lw_tbl := tb_7 _ (List.mem_of_getElem? (i := 10) (by decide +kernel))
theorem bgt_191 : (.fieldLink RX12 285 "ClassGateModel" "attributesAt" "I" : Cond) ∈ lw_tbl := tb_7 _ (List.mem_of_getElem? (i := 11) (by decide +kernel))
theorem bgt_192 : (.code yX12_checkFile cX12_checkFile 3 (some .boolean) : Cond) ∈ lw_tbl := tb_7 _ (List.mem_of_getElem? (i := 228) (by decide +kernel))
theorem bgt_193 : (.fieldLink RX12 401 "ClassGateModel" "newHost" "I" : Cond) ∈ lw_tbl := tb_7 _ (List.mem_of_getElem? (i := 21) (by decide +kernel))
theorem bgt_194 : (.fieldLink RX12 389 "ClassGateModel" "newMembers" "I" : Cond) ∈ lw_tbl := tb_7 _ (List.mem_of_getElem? (i := 22) (by decide +kernel))
theorem bgt_195 : (.fieldLink RX12 392 "ClassGateModel" "newPermitted" "I" : Cond) ∈ lw_tbl := tb_7 _ (List.mem_of_getElem? (i := 23) (by decide +kernel))
theorem bgt_196 : (.fieldLink RX12 395 "ClassGateModel" "newInners" "I" : Cond) ∈ lw_tbl := tb_7 _ (List.mem_of_getElem? (i := 19) (by decide +kernel))
theorem bgt_197 : (.fieldLink RX12 376 "ClassGateModel" "newKnown" "I" : Cond) ∈ lw_tbl := tb_7 _ (List.mem_of_getElem? (i := 20) (by decide +kernel))
theorem bgt_198 : (.fieldLink RX12 407 "ClassGateModel" "newBoot" "I" : Cond) ∈ lw_tbl := tb_7 _ (List.mem_of_getElem? (i := 24) (by decide +kernel))
theorem bgt_199 : (.fieldLink RX12 410 "ClassGateModel" "newBootN" "I" : Cond) ∈ lw_tbl := tb_7 _ (List.mem_of_getElem? (i := 25) (by decide +kernel))
theorem bgt_200 : (.fieldLink RX12 413 "ClassGateModel" "newRecord" "I" : Cond) ∈ lw_tbl := tb_7 _ (List.mem_of_getElem? (i := 26) (by decide +kernel))
theorem bgt_201 : (.methodLink RX12 418 yX12_readFile : Cond) ∈ lw_tbl := tb_7 _ (List.mem_of_getElem? (i := 229) (by decide +kernel))
theorem bgt_202 : (.instanceMethod yX12_readFile : Cond) ∈ lw_tbl := tb_7 _ (List.mem_of_getElem? (i := 231) (by decide +kernel))
theorem bgt_203 : (.selects RX12 yX12_readFile yX12_readFile : Cond) ∈ lw_tbl := List.mem_of_getElem? (i := 81) (by decide +kernel)
theorem bgt_204 : (.fieldLink RX12 249 "ClassGateModel" "cpBase" "I" : Cond) ∈ lw_tbl := tb_7 _ (List.mem_of_getElem? (i := 5) (by decide +kernel))
theorem bgt_205 : (.code yX12_feed cX12_feed 6 (some .int) : Cond) ∈ lw_tbl := tb_7 _ (List.mem_of_getElem? (i := 204) (by decide +kernel))
theorem bgt_206 : (.fieldLink RX12 433 "ClassGateModel" "cameN" "I" : Cond) ∈ lw_tbl := tb_6 _ (List.mem_of_getElem? (i := 213) (by decide +kernel))
theorem bgt_207 : (.methodLink RX12 436 yX12_four : Cond) ∈ lw_tbl := tb_7 _ (List.mem_of_getElem? (i := 205) (by decide +kernel))
theorem bgt_208 : (.code yX12_four cX12_four 3 none : Cond) ∈ lw_tbl := tb_7 _ (List.mem_of_getElem? (i := 208) (by decide +kernel))
theorem bgt_209 : (.instanceMethod yX12_four : Cond) ∈ lw_tbl := tb_7 _ (List.mem_of_getElem? (i := 207) (by decide +kernel))
theorem bgt_210 : (.selects RX12 yX12_four yX12_four : Cond) ∈ lw_tbl := List.mem_of_getElem? (i := 77) (by decide +kernel)
theorem bgt_211 : (.code yX12_bad cX12_bad 1 (some .int) : Cond) ∈ lw_tbl := tb_7 _ (List.mem_of_getElem? (i := 216) (by decide +kernel))
theorem bgt_212 : (.code yX12_end cX12_end 3 (some .int) : Cond) ∈ lw_tbl := tb_7 _ (List.mem_of_getElem? (i := 212) (by decide +kernel))
theorem bgt_213 : (.methodLink RX12 440 yX12_bad : Cond) ∈ lw_tbl := tb_7 _ (List.mem_of_getElem? (i := 213) (by decide +kernel))
theorem bgt_214 : (.instanceMethod yX12_bad : Cond) ∈ lw_tbl := tb_7 _ (List.mem_of_getElem? (i := 215) (by decide +kernel))
theorem bgt_215 : (.selects RX12 yX12_bad yX12_bad : Cond) ∈ lw_tbl := List.mem_of_getElem? (i := 78) (by decide +kernel)
theorem bgt_216 : (.fieldLink RX12 443 "ClassGateModel" "fileN" "I" : Cond) ∈ lw_tbl := tb_6 _ (List.mem_of_getElem? (i := 211) (by decide +kernel))
theorem bgt_217 : (.code yX12_read cX12_read 4 (some .int) : Cond) ∈ lw_tbl := tb_7 _ (List.mem_of_getElem? (i := 220) (by decide +kernel))
theorem bgt_218 : (.methodLink RX12 446 yX12_parse : Cond) ∈ lw_tbl := tb_7 _ (List.mem_of_getElem? (i := 221) (by decide +kernel))
theorem bgt_219 : (.code yX12_parse cX12_parse 4 (some .boolean) : Cond) ∈ lw_tbl := tb_7 _ (List.mem_of_getElem? (i := 224) (by decide +kernel))
theorem bgt_220 : (.instanceMethod yX12_parse : Cond) ∈ lw_tbl := tb_7 _ (List.mem_of_getElem? (i := 223) (by decide +kernel))
theorem bgt_221 : (.selects RX12 yX12_parse yX12_parse : Cond) ∈ lw_tbl := List.mem_of_getElem? (i := 79) (by decide +kernel)
theorem bgt_222 : (.methodLink RX12 450 yX12_checkFile : Cond) ∈ lw_tbl := tb_7 _ (List.mem_of_getElem? (i := 225) (by decide +kernel))
theorem bgt_223 : (.instanceMethod yX12_checkFile : Cond) ∈ lw_tbl := tb_7 _ (List.mem_of_getElem? (i := 227) (by decide +kernel))
theorem bgt_224 : (.selects RX12 yX12_checkFile yX12_checkFile : Cond) ∈ lw_tbl := List.mem_of_getElem? (i := 80) (by decide +kernel)
theorem bgt_225 : (.code yX12_place cX12_place 1 (some .int) : Cond) ∈ lw_tbl := tb_8 _ (List.mem_of_getElem? (i := 157) (by decide +kernel))
theorem bgt_226 : (.code yX12_count cX12_count 4 (some .int) : Cond) ∈ lw_tbl := tb_8 _ (List.mem_of_getElem? (i := 161) (by decide +kernel))
theorem bgt_227 : (.fieldLink RX12 357 "ClassGateModel" "newIfs" "I" : Cond) ∈ lw_tbl := tb_7 _ (List.mem_of_getElem? (i := 15) (by decide +kernel))
theorem bgt_228 : (.fieldLink RX12 344 "ClassGateModel" "newFlags" "I" : Cond) ∈ lw_tbl := tb_7 _ (List.mem_of_getElem? (i := 12) (by decide +kernel))
theorem bgt_229 : (.code yX12_entry cX12_entry 4 (some .int) : Cond) ∈ lw_tbl := tb_8 _ (List.mem_of_getElem? (i := 165) (by decide +kernel))
theorem bgt_230 : (.code yX12_bits cX12_bits 3 (some .long) : Cond) ∈ lw_tbl := tb_8 _ (List.mem_of_getElem? (i := 169) (by decide +kernel))
theorem bgt_231 : (.code yX12_character cX12_character 3 (some .int) : Cond) ∈ lw_tbl := tb_8 _ (List.mem_of_getElem? (i := 173) (by decide +kernel))
theorem bgt_232 : (.code yX12_member cX12_member 4 (some .int) : Cond) ∈ lw_tbl := tb_8 _ (List.mem_of_getElem? (i := 177) (by decide +kernel))
theorem bgt_233 : (.code yX12_find cX12_find 7 (some .int) : Cond) ∈ lw_tbl := tb_8 _ (List.mem_of_getElem? (i := 181) (by decide +kernel))
theorem bgt_234 : (.code yX12_row cX12_row 4 (some .int) : Cond) ∈ lw_tbl := tb_8 _ (List.mem_of_getElem? (i := 185) (by decide +kernel))
theorem bgt_235 : (.code yX12_bootstrap cX12_bootstrap 5 (some .int) : Cond) ∈ lw_tbl := tb_8 _ (List.mem_of_getElem? (i := 189) (by decide +kernel))
theorem bgt_236 : (.code yX12_places cX12_places 5 (some .int) : Cond) ∈ lw_tbl := tb_8 _ (List.mem_of_getElem? (i := 193) (by decide +kernel))
theorem bgt_237 : (.code yX12_noCode cX12_noCode 2 (some .boolean) : Cond) ∈ lw_tbl := tb_8 _ (List.mem_of_getElem? (i := 205) (by decide +kernel))
theorem bgt_238 : (.code yX12_cut cX12_cut 2 (some .int) : Cond) ∈ lw_tbl := tb_8 _ (List.mem_of_getElem? (i := 201) (by decide +kernel))
theorem bgt_239 : (.methodLink RX12 519 yX12_noCode : Cond) ∈ lw_tbl := tb_8 _ (List.mem_of_getElem? (i := 202) (by decide +kernel))
theorem bgt_240 : (.instanceMethod yX12_noCode : Cond) ∈ lw_tbl := tb_8 _ (List.mem_of_getElem? (i := 204) (by decide +kernel))
theorem bgt_241 : (.selects RX12 yX12_noCode yX12_noCode : Cond) ∈ lw_tbl := List.mem_of_getElem? (i := 121) (by decide +kernel)
theorem bgt_242 : (.fieldLink RX12 471 "ClassGateModel" "many" "I" : Cond) ∈ lw_tbl := tb_7 _ (List.mem_of_getElem? (i := 29) (by decide +kernel))
theorem bgt_243 : (.fieldLink RX12 462 "ClassGateModel" "wrongCode" "I" : Cond) ∈ lw_tbl := tb_7 _ (List.mem_of_getElem? (i := 30) (by decide +kernel))
theorem bgt_244 : (.code yX12_instruction cX12_instruction 6 (some .int) : Cond) ∈ lw_tbl := tb_9 _ (List.mem_of_getElem? (i := 31) (by decide +kernel))
theorem bgt_245 : (.code yX12_jump cX12_jump 7 (some .int) : Cond) ∈ lw_tbl := tb_9 _ (List.mem_of_getElem? (i := 47) (by decide +kernel))
theorem bgt_246 : (.methodLink RX1 1 objectInit : Cond) ∈ lw_tbl := tb_1 _ (List.mem_of_getElem? (i := 65) (by decide +kernel))
theorem bgt_247 : (.fieldLink RX1 7 "ClassGate$Bytes" "data" "[B" : Cond) ∈ lw_tbl := tb_1 _ (List.mem_of_getElem? (i := 66) (by decide +kernel))
theorem bgt_248 : (.code yX1_size cX1_size 1 (some .int) : Cond) ∈ lw_tbl := tb_2 _ (List.mem_of_getElem? (i := 21) (by decide +kernel))
theorem bgt_249 : (.methodLink RX3 1 objectInit : Cond) ∈ lw_tbl := tb_1 _ (List.mem_of_getElem? (i := 73) (by decide +kernel))
theorem bgt_250 : (.fieldLink RX3 7 "ClassGate$ClassFile" "bytes" "LClassGate$Bytes;" : Cond) ∈ lw_tbl := tb_1 _ (List.mem_of_getElem? (i := 122) (by decide +kernel))
theorem bgt_251 : (.classLink RX3 13 RX7 : Cond) ∈ lw_tbl := tb_1 _ (List.mem_of_getElem? (i := 74) (by decide +kernel))
theorem bgt_252 : (.initialized RX7 : Cond) ∈ lw_tbl := tb_1 _ (List.mem_of_getElem? (i := 17) (by decide +kernel))
theorem bgt_253 : (.instantiable RX7 8 : Cond) ∈ lw_tbl := tb_1 _ (List.mem_of_getElem? (i := 75) (by decide +kernel))
theorem bgt_254 : (.methodLink RX3 15 yX7_init : Cond) ∈ lw_tbl := tb_1 _ (List.mem_of_getElem? (i := 76) (by decide +kernel))
theorem bgt_255 : (.code yX7_init cX7_init 4 none : Cond) ∈ lw_tbl := tb_1 _ (List.mem_of_getElem? (i := 78) (by decide +kernel))
theorem bgt_256 : (.instanceMethod yX7_init : Cond) ∈ lw_tbl := tb_1 _ (List.mem_of_getElem? (i := 77) (by decide +kernel))
theorem bgt_257 : (.fieldLink RX3 18 "ClassGate$ClassFile" "pool" "LClassGate$Pool;" : Cond) ∈ lw_tbl := tb_1 _ (List.mem_of_getElem? (i := 128) (by decide +kernel))
theorem bgt_258 : (.classLink RX3 22 RX6 : Cond) ∈ lw_tbl := tb_1 _ (List.mem_of_getElem? (i := 119) (by decide +kernel))
theorem bgt_259 : (.fieldLink RX3 24 "ClassGate$ClassFile" "fields" "[LClassGate$Member;" : Cond) ∈ lw_tbl := tb_1 _ (List.mem_of_getElem? (i := 148) (by decide +kernel))
theorem bgt_260 : (.fieldLink RX3 28 "ClassGate$ClassFile" "methods" "[LClassGate$Member;" : Cond) ∈ lw_tbl := tb_1 _ (List.mem_of_getElem? (i := 152) (by decide +kernel))
theorem bgt_261 : (.fieldLink RX3 31 "ClassGate$ClassFile" "recordCount" "I" : Cond) ∈ lw_tbl := tb_1 _ (List.mem_of_getElem? (i := 173) (by decide +kernel))
theorem bgt_262 : (.methodLink RX7 3 objectInit : Cond) ∈ lw_tbl := tb_1 _ (List.mem_of_getElem? (i := 79) (by decide +kernel))
theorem bgt_263 : (.fieldLink RX7 9 "ClassGate$Pool" "size" "I" : Cond) ∈ lw_tbl := tb_1 _ (List.mem_of_getElem? (i := 86) (by decide +kernel))
theorem bgt_264 : (.fieldLink RX7 24 "ClassGate$Pool" "tags" "[I" : Cond) ∈ lw_tbl := tb_1 _ (List.mem_of_getElem? (i := 91) (by decide +kernel))
theorem bgt_265 : (.fieldLink RX7 28 "ClassGate$Pool" "tagPlaces" "[I" : Cond) ∈ lw_tbl := tb_1 _ (List.mem_of_getElem? (i := 92) (by decide +kernel))
theorem bgt_266 : (.fieldLink RX7 31 "ClassGate$Pool" "firsts" "[I" : Cond) ∈ lw_tbl := tb_1 _ (List.mem_of_getElem? (i := 93) (by decide +kernel))
theorem bgt_267 : (.fieldLink RX7 34 "ClassGate$Pool" "seconds" "[I" : Cond) ∈ lw_tbl := tb_1 _ (List.mem_of_getElem? (i := 94) (by decide +kernel))
theorem bgt_268 : (.fieldLink RX7 37 "ClassGate$Pool" "shapes" "[I" : Cond) ∈ lw_tbl := tb_1 _ (List.mem_of_getElem? (i := 95) (by decide +kernel))
theorem bgt_269 : (.fieldLink RX7 40 "ClassGate$Pool" "characters" "[C" : Cond) ∈ lw_tbl := tb_1 _ (List.mem_of_getElem? (i := 96) (by decide +kernel))
theorem bgt_270 : (.methodLink RX9 3 objectInit : Cond) ∈ lw_tbl := tb_1 _ (List.mem_of_getElem? (i := 233) (by decide +kernel))
theorem bgt_271 : (.fieldLink RX9 9 "ClassGate$Reader" "file" "LClassGate$ClassFile;" : Cond) ∈ lw_tbl := tb_1 _ (List.mem_of_getElem? (i := 234) (by decide +kernel))
theorem bgt_272 : (.fieldLink RX9 15 "ClassGate$Reader" "verdict" "LClassGate$Verdict;" : Cond) ∈ lw_tbl := tb_1 _ (List.mem_of_getElem? (i := 236) (by decide +kernel))
theorem bgt_273 : (.fieldLink RX9 19 "ClassGate$ClassFile" "bytes" "LClassGate$Bytes;" : Cond) ∈ lw_tbl := tb_1 _ (List.mem_of_getElem? (i := 123) (by decide +kernel))
theorem bgt_274 : (.fieldLink RX9 25 "ClassGate$Reader" "bytes" "LClassGate$Bytes;" : Cond) ∈ lw_tbl := tb_1 _ (List.mem_of_getElem? (i := 235) (by decide +kernel))
theorem bgt_275 : (.code yX9_takes cX9_takes 2 (some .boolean) : Cond) ∈ lw_tbl := tb_2 _ (List.mem_of_getElem? (i := 17) (by decide +kernel))
theorem bgt_276 : (.methodLink RX9 26 yX1_size : Cond) ∈ lw_tbl := tb_2 _ (List.mem_of_getElem? (i := 18) (by decide +kernel))
theorem bgt_277 : (.instanceMethod yX1_size : Cond) ∈ lw_tbl := tb_2 _ (List.mem_of_getElem? (i := 19) (by decide +kernel))
theorem bgt_278 : (.selects RX1 yX1_size yX1_size : Cond) ∈ lw_tbl := tb_2 _ (List.mem_of_getElem? (i := 20) (by decide +kernel))
theorem bgt_279 : (.fieldLink RX9 32 "ClassGate$Reader" "at" "I" : Cond) ∈ lw_tbl := tb_1 _ (List.mem_of_getElem? (i := 237) (by decide +kernel))
theorem bgt_280 : (.methodLink RX9 36 yX10_wrong : Cond) ∈ lw_tbl := tb_2 _ (List.mem_of_getElem? (i := 22) (by decide +kernel))
theorem bgt_281 : (.code yX10_wrong cX10_wrong 3 (some .boolean) : Cond) ∈ lw_tbl := tb_2 _ (List.mem_of_getElem? (i := 25) (by decide +kernel))
theorem bgt_282 : (.instanceMethod yX10_wrong : Cond) ∈ lw_tbl := tb_2 _ (List.mem_of_getElem? (i := 23) (by decide +kernel))
theorem bgt_283 : (.selects RX10 yX10_wrong yX10_wrong : Cond) ∈ lw_tbl := tb_2 _ (List.mem_of_getElem? (i := 24) (by decide +kernel))
theorem bgt_284 : (.fieldLink RX9 46 "ClassGate$Reader" "item" "I" : Cond) ∈ lw_tbl := tb_1 _ (List.mem_of_getElem? (i := 238) (by decide +kernel))
theorem bgt_285 : (.methodLink RX9 55 yX9_takes : Cond) ∈ lw_tbl := tb_2 _ (List.mem_of_getElem? (i := 14) (by decide +kernel))
theorem bgt_286 : (.instanceMethod yX9_takes : Cond) ∈ lw_tbl := tb_2 _ (List.mem_of_getElem? (i := 16) (by decide +kernel))
theorem bgt_287 : (.selects RX9 yX9_takes yX9_takes : Cond) ∈ lw_tbl := List.mem_of_getElem? (i := 0) (by decide +kernel)
theorem bgt_288 : (.constant RX9 59 (-889275714) : Cond) ∈ lw_tbl := tb_2 _ (List.mem_of_getElem? (i := 38) (by decide +kernel))
theorem bgt_289 : (.fieldLink RX9 60 "ClassGate$ClassFile" "minor" "I" : Cond) ∈ lw_tbl := tb_1 _ (List.mem_of_getElem? (i := 134) (by decide +kernel))
theorem bgt_290 : (.fieldLink RX9 63 "ClassGate$ClassFile" "major" "I" : Cond) ∈ lw_tbl := tb_1 _ (List.mem_of_getElem? (i := 138) (by decide +kernel))
theorem bgt_291 : (.methodLink RX10 1 objectInit : Cond) ∈ lw_tbl := tb_1 _ (List.mem_of_getElem? (i := 215) (by decide +kernel))
theorem bgt_292 : (.fieldLink RX10 7 "ClassGate$Verdict" "wrongAt" "I" : Cond) ∈ lw_tbl := tb_1 _ (List.mem_of_getElem? (i := 218) (by decide +kernel))
theorem bgt_293 : (.fieldLink RX10 13 "ClassGate$Verdict" "rule" "I" : Cond) ∈ lw_tbl := tb_1 _ (List.mem_of_getElem? (i := 216) (by decide +kernel))
theorem bgt_294 : (.fieldLink RJ0 9 "java/lang/String" "value" "[B" : Cond) ∈ lw_tbl := tb_9 _ (List.mem_of_getElem? (i := 50) (by decide +kernel))
theorem bgt_295 : (.methodLink RJ0 335 yJ0_coder_7d493 : Cond) ∈ lw_tbl := tb_3 _ (List.mem_of_getElem? (i := 121) (by decide +kernel))
theorem bgt_296 : (.code yJ0_coder_7d493 cJ0_coder_7d493 1 (some .byte) : Cond) ∈ lw_tbl := tb_3 _ (List.mem_of_getElem? (i := 124) (by decide +kernel))
theorem bgt_297 : (.instanceMethod yJ0_coder_7d493 : Cond) ∈ lw_tbl := tb_3 _ (List.mem_of_getElem? (i := 122) (by decide +kernel))
theorem bgt_298 : (.selects RJ0 yJ0_coder_7d493 yJ0_coder_7d493 : Cond) ∈ lw_tbl := tb_3 _ (List.mem_of_getElem? (i := 123) (by decide +kernel))
theorem bgt_299 : (.methodLink RJ0 492 yJ0_isLatin1_aae02 : Cond) ∈ lw_tbl := tb_3 _ (List.mem_of_getElem? (i := 131) (by decide +kernel))
theorem bgt_300 : (.code yJ0_isLatin1_aae02 cJ0_isLatin1_aae02 1 (some .boolean) : Cond) ∈ lw_tbl := tb_3 _ (List.mem_of_getElem? (i := 134) (by decide +kernel))
theorem bgt_301 : (.instanceMethod yJ0_isLatin1_aae02 : Cond) ∈ lw_tbl := tb_3 _ (List.mem_of_getElem? (i := 132) (by decide +kernel))
theorem bgt_302 : (.selects RJ0 yJ0_isLatin1_aae02 yJ0_isLatin1_aae02 : Cond) ∈ lw_tbl := tb_3 _ (List.mem_of_getElem? (i := 133) (by decide +kernel))
theorem bgt_303 : (.methodLink RJ0 495 yJ1_charAt_3b067 : Cond) ∈ lw_tbl := tb_3 _ (List.mem_of_getElem? (i := 135) (by decide +kernel))
theorem bgt_304 : (.code yJ1_charAt_3b067 cJ1_charAt_3b067 2 (some .char) : Cond) ∈ lw_tbl := tb_3 _ (List.mem_of_getElem? (i := 137) (by decide +kernel))
theorem bgt_305 : (.static yJ1_charAt_3b067 : Cond) ∈ lw_tbl := tb_3 _ (List.mem_of_getElem? (i := 136) (by decide +kernel))
theorem bgt_306 : (.initialized RJ1 : Cond) ∈ lw_tbl := tb_1 _ (List.mem_of_getElem? (i := 4) (by decide +kernel))
theorem bgt_307 : (.fieldLink RJ0 38 "java/lang/String" "COMPACT_STRINGS" "Z" : Cond) ∈ lw_tbl := tb_3 _ (List.mem_of_getElem? (i := 125) (by decide +kernel))
theorem bgt_308 : (.fieldLink RJ0 15 "java/lang/String" "coder" "B" : Cond) ∈ lw_tbl := tb_9 _ (List.mem_of_getElem? (i := 51) (by decide +kernel))
theorem bgt_309 : (.code yJ0_checkIndex_df160 cJ0_checkIndex_df160 2 none : Cond) ∈ lw_tbl := tb_3 _ (List.mem_of_getElem? (i := 140) (by decide +kernel))
theorem bgt_310 : (.fieldLink RJ0 1053 "jdk/internal/util/Preconditions" "SIOOBE_FORMATTER" "Ljava/util/function/BiFunction;" : Cond) ∈ lw_tbl := tb_3 _ (List.mem_of_getElem? (i := 141) (by decide +kernel))
theorem bgt_311 : (.methodLink RJ0 1059 yJ3_checkIndex_8e157 : Cond) ∈ lw_tbl := tb_3 _ (List.mem_of_getElem? (i := 143) (by decide +kernel))
theorem bgt_312 : (.code yJ3_checkIndex_8e157 cJ3_checkIndex_8e157 3 (some .int) : Cond) ∈ lw_tbl := tb_3 _ (List.mem_of_getElem? (i := 145) (by decide +kernel))
theorem bgt_313 : (.static yJ3_checkIndex_8e157 : Cond) ∈ lw_tbl := tb_3 _ (List.mem_of_getElem? (i := 144) (by decide +kernel))
theorem bgt_314 : (.initialized RJ3 : Cond) ∈ lw_tbl := tb_1 _ (List.mem_of_getElem? (i := 5) (by decide +kernel))
theorem bgt_315 : (.methodLink RJ1 9 yJ0_checkIndex_df160 : Cond) ∈ lw_tbl := tb_3 _ (List.mem_of_getElem? (i := 138) (by decide +kernel))
theorem bgt_316 : (.static yJ0_checkIndex_df160 : Cond) ∈ lw_tbl := tb_3 _ (List.mem_of_getElem? (i := 139) (by decide +kernel))
theorem bgt_317 : (.codeWith yL_feed cL_feed 8 (some .int) [(0, 16, 19, 13)] : Cond) ∈ lw_tbl := tb_5 _ (List.mem_of_getElem? (i := 209) (by decide +kernel))
theorem bgt_318 : (.methodLink RL 7 yX11_feed : Cond) ∈ lw_tbl := tb_5 _ (List.mem_of_getElem? (i := 211) (by decide +kernel))
theorem bgt_319 : (.instanceMethod yX11_feed : Cond) ∈ lw_tbl := tb_5 _ (List.mem_of_getElem? (i := 212) (by decide +kernel))
theorem bgt_320 : (.selects RX11 yX11_feed yX11_feed : Cond) ∈ lw_tbl := tb_5 _ (List.mem_of_getElem? (i := 213) (by decide +kernel))
theorem bgt_321 : (.codeWith yL_end cL_end 4 (some .int) [(0, 9, 12, 19)] : Cond) ∈ lw_tbl := tb_6 _ (List.mem_of_getElem? (i := 62) (by decide +kernel))
theorem bgt_322 : (.methodLink RL 15 yX11_end : Cond) ∈ lw_tbl := tb_6 _ (List.mem_of_getElem? (i := 64) (by decide +kernel))
theorem bgt_323 : (.instanceMethod yX11_end : Cond) ∈ lw_tbl := tb_6 _ (List.mem_of_getElem? (i := 65) (by decide +kernel))
theorem bgt_324 : (.selects RX11 yX11_end yX11_end : Cond) ∈ lw_tbl := tb_6 _ (List.mem_of_getElem? (i := 66) (by decide +kernel))
theorem bgt_325 : (.codeWith yL_count cL_count 4 (some .int) [(0, 9, 12, 19)] : Cond) ∈ lw_tbl := tb_6 _ (List.mem_of_getElem? (i := 86) (by decide +kernel))
theorem bgt_326 : (.methodLink RL 21 yX11_count : Cond) ∈ lw_tbl := tb_6 _ (List.mem_of_getElem? (i := 87) (by decide +kernel))
theorem bgt_327 : (.instanceMethod yX11_count : Cond) ∈ lw_tbl := tb_6 _ (List.mem_of_getElem? (i := 88) (by decide +kernel))
theorem bgt_328 : (.selects RX11 yX11_count yX11_count : Cond) ∈ lw_tbl := tb_6 _ (List.mem_of_getElem? (i := 89) (by decide +kernel))
theorem bgt_329 : (.codeWith yL_entry cL_entry 5 (some .int) [(0, 10, 13, 19)] : Cond) ∈ lw_tbl := tb_6 _ (List.mem_of_getElem? (i := 102) (by decide +kernel))
theorem bgt_330 : (.methodLink RL 24 yX11_entry : Cond) ∈ lw_tbl := tb_6 _ (List.mem_of_getElem? (i := 103) (by decide +kernel))
theorem bgt_331 : (.instanceMethod yX11_entry : Cond) ∈ lw_tbl := tb_6 _ (List.mem_of_getElem? (i := 104) (by decide +kernel))
theorem bgt_332 : (.selects RX11 yX11_entry yX11_entry : Cond) ∈ lw_tbl := tb_6 _ (List.mem_of_getElem? (i := 105) (by decide +kernel))
theorem bgt_333 : (.codeWith yL_member cL_member 6 (some .int) [(0, 12, 15, 19)] : Cond) ∈ lw_tbl := tb_6 _ (List.mem_of_getElem? (i := 112) (by decide +kernel))
theorem bgt_334 : (.methodLink RL 28 yX11_member : Cond) ∈ lw_tbl := tb_6 _ (List.mem_of_getElem? (i := 113) (by decide +kernel))
theorem bgt_335 : (.instanceMethod yX11_member : Cond) ∈ lw_tbl := tb_6 _ (List.mem_of_getElem? (i := 114) (by decide +kernel))
theorem bgt_336 : (.selects RX11 yX11_member yX11_member : Cond) ∈ lw_tbl := tb_6 _ (List.mem_of_getElem? (i := 115) (by decide +kernel))
theorem bgt_337 : (.codeWith yL_row cL_row 6 (some .int) [(0, 12, 15, 19)] : Cond) ∈ lw_tbl := tb_6 _ (List.mem_of_getElem? (i := 128) (by decide +kernel))
theorem bgt_338 : (.methodLink RL 32 yX11_row : Cond) ∈ lw_tbl := tb_6 _ (List.mem_of_getElem? (i := 129) (by decide +kernel))
theorem bgt_339 : (.instanceMethod yX11_row : Cond) ∈ lw_tbl := tb_6 _ (List.mem_of_getElem? (i := 130) (by decide +kernel))
theorem bgt_340 : (.selects RX11 yX11_row yX11_row : Cond) ∈ lw_tbl := tb_6 _ (List.mem_of_getElem? (i := 131) (by decide +kernel))
theorem bgt_341 : (.codeWith yL_instruction cL_instruction 6 (some .int) [(0, 12, 15, 19)] : Cond) ∈ lw_tbl := tb_6 _ (List.mem_of_getElem? (i := 137) (by decide +kernel))
theorem bgt_342 : (.methodLink RL 36 yX11_instruction : Cond) ∈ lw_tbl := tb_6 _ (List.mem_of_getElem? (i := 138) (by decide +kernel))
theorem bgt_343 : (.instanceMethod yX11_instruction : Cond) ∈ lw_tbl := tb_6 _ (List.mem_of_getElem? (i := 139) (by decide +kernel))
theorem bgt_344 : (.selects RX11 yX11_instruction yX11_instruction : Cond) ∈ lw_tbl := tb_6 _ (List.mem_of_getElem? (i := 140) (by decide +kernel))
theorem bgt_345 : (.classLink RL 8 RX11 : Cond) ∈ lw_tbl := tb_1 _ (List.mem_of_getElem? (i := 27) (by decide +kernel))
theorem bgt_346 : (.instantiable RX11 5 : Cond) ∈ lw_tbl := tb_1 _ (List.mem_of_getElem? (i := 28) (by decide +kernel))
theorem bgt_347 : (.methodLink RL 39 yX11_init : Cond) ∈ lw_tbl := tb_1 _ (List.mem_of_getElem? (i := 29) (by decide +kernel))
theorem bgt_348 : (.instanceMethod yX11_init : Cond) ∈ lw_tbl := tb_1 _ (List.mem_of_getElem? (i := 30) (by decide +kernel))
theorem bgt_349 : (.classLink RL 40 RX12 : Cond) ∈ lw_tbl := tb_6 _ (List.mem_of_getElem? (i := 155) (by decide +kernel))
theorem bgt_350 : (.instantiable RX12 82 : Cond) ∈ lw_tbl := tb_6 _ (List.mem_of_getElem? (i := 156) (by decide +kernel))
theorem bgt_351 : (.methodLink RL 42 yX12_init : Cond) ∈ lw_tbl := tb_6 _ (List.mem_of_getElem? (i := 157) (by decide +kernel))
theorem bgt_352 : (.instanceMethod yX12_init : Cond) ∈ lw_tbl := tb_6 _ (List.mem_of_getElem? (i := 158) (by decide +kernel))
theorem bgt_353 : (.arrayClass .long : Cond) ∈ lw_tbl := tb_9 _ (List.mem_of_getElem? (i := 48) (by decide +kernel))
theorem bgt_354 : (.methodLink RL 43 yL_feed : Cond) ∈ lw_tbl := tb_5 _ (List.mem_of_getElem? (i := 207) (by decide +kernel))
theorem bgt_355 : (.static yL_feed : Cond) ∈ lw_tbl := tb_5 _ (List.mem_of_getElem? (i := 208) (by decide +kernel))
theorem bgt_356 : (.initialized RL : Cond) ∈ lw_tbl := tb_1 _ (List.mem_of_getElem? (i := 0) (by decide +kernel))
theorem bgt_357 : (.methodLink RL 48 yX12_feed : Cond) ∈ lw_tbl := tb_7 _ (List.mem_of_getElem? (i := 201) (by decide +kernel))
theorem bgt_358 : (.instanceMethod yX12_feed : Cond) ∈ lw_tbl := tb_7 _ (List.mem_of_getElem? (i := 202) (by decide +kernel))
theorem bgt_359 : (.selects RX12 yX12_feed yX12_feed : Cond) ∈ lw_tbl := tb_7 _ (List.mem_of_getElem? (i := 203) (by decide +kernel))
theorem bgt_360 : (.methodLink RL 49 yX12_thrown : Cond) ∈ lw_tbl := tb_6 _ (List.mem_of_getElem? (i := 151) (by decide +kernel))
theorem bgt_361 : (.instanceMethod yX12_thrown : Cond) ∈ lw_tbl := tb_6 _ (List.mem_of_getElem? (i := 152) (by decide +kernel))
theorem bgt_362 : (.selects RX12 yX12_thrown yX12_thrown : Cond) ∈ lw_tbl := tb_6 _ (List.mem_of_getElem? (i := 153) (by decide +kernel))
theorem bgt_363 : (.methodLink RL 53 yL_end : Cond) ∈ lw_tbl := tb_6 _ (List.mem_of_getElem? (i := 60) (by decide +kernel))
theorem bgt_364 : (.static yL_end : Cond) ∈ lw_tbl := tb_6 _ (List.mem_of_getElem? (i := 61) (by decide +kernel))
theorem bgt_365 : (.methodLink RL 56 yX12_end : Cond) ∈ lw_tbl := tb_7 _ (List.mem_of_getElem? (i := 209) (by decide +kernel))
theorem bgt_366 : (.instanceMethod yX12_end : Cond) ∈ lw_tbl := tb_7 _ (List.mem_of_getElem? (i := 210) (by decide +kernel))
theorem bgt_367 : (.selects RX12 yX12_end yX12_end : Cond) ∈ lw_tbl := tb_7 _ (List.mem_of_getElem? (i := 211) (by decide +kernel))
theorem bgt_368 : (.methodLink RL 57 yX11_read : Cond) ∈ lw_tbl := tb_1 _ (List.mem_of_getElem? (i := 54) (by decide +kernel))
theorem bgt_369 : (.instanceMethod yX11_read : Cond) ∈ lw_tbl := tb_1 _ (List.mem_of_getElem? (i := 55) (by decide +kernel))
theorem bgt_370 : (.selects RX11 yX11_read yX11_read : Cond) ∈ lw_tbl := tb_1 _ (List.mem_of_getElem? (i := 56) (by decide +kernel))
theorem bgt_371 : (.methodLink RL 60 yX12_read : Cond) ∈ lw_tbl := tb_7 _ (List.mem_of_getElem? (i := 217) (by decide +kernel))
theorem bgt_372 : (.instanceMethod yX12_read : Cond) ∈ lw_tbl := tb_7 _ (List.mem_of_getElem? (i := 218) (by decide +kernel))
theorem bgt_373 : (.selects RX12 yX12_read yX12_read : Cond) ∈ lw_tbl := tb_7 _ (List.mem_of_getElem? (i := 219) (by decide +kernel))
theorem bgt_374 : (.methodLink RL 61 yX11_place : Cond) ∈ lw_tbl := tb_5 _ (List.mem_of_getElem? (i := 26) (by decide +kernel))
theorem bgt_375 : (.instanceMethod yX11_place : Cond) ∈ lw_tbl := tb_5 _ (List.mem_of_getElem? (i := 27) (by decide +kernel))
theorem bgt_376 : (.selects RX11 yX11_place yX11_place : Cond) ∈ lw_tbl := tb_5 _ (List.mem_of_getElem? (i := 28) (by decide +kernel))
theorem bgt_377 : (.methodLink RL 64 yX12_place : Cond) ∈ lw_tbl := tb_8 _ (List.mem_of_getElem? (i := 154) (by decide +kernel))
theorem bgt_378 : (.instanceMethod yX12_place : Cond) ∈ lw_tbl := tb_8 _ (List.mem_of_getElem? (i := 155) (by decide +kernel))
theorem bgt_379 : (.selects RX12 yX12_place yX12_place : Cond) ∈ lw_tbl := tb_8 _ (List.mem_of_getElem? (i := 156) (by decide +kernel))
theorem bgt_380 : (.methodLink RL 65 yL_count : Cond) ∈ lw_tbl := tb_6 _ (List.mem_of_getElem? (i := 84) (by decide +kernel))
theorem bgt_381 : (.static yL_count : Cond) ∈ lw_tbl := tb_6 _ (List.mem_of_getElem? (i := 85) (by decide +kernel))
theorem bgt_382 : (.methodLink RL 67 yX12_count : Cond) ∈ lw_tbl := tb_8 _ (List.mem_of_getElem? (i := 158) (by decide +kernel))
theorem bgt_383 : (.instanceMethod yX12_count : Cond) ∈ lw_tbl := tb_8 _ (List.mem_of_getElem? (i := 159) (by decide +kernel))
theorem bgt_384 : (.selects RX12 yX12_count yX12_count : Cond) ∈ lw_tbl := tb_8 _ (List.mem_of_getElem? (i := 160) (by decide +kernel))
theorem bgt_385 : (.methodLink RL 68 yL_entry : Cond) ∈ lw_tbl := tb_6 _ (List.mem_of_getElem? (i := 100) (by decide +kernel))
theorem bgt_386 : (.static yL_entry : Cond) ∈ lw_tbl := tb_6 _ (List.mem_of_getElem? (i := 101) (by decide +kernel))
theorem bgt_387 : (.methodLink RL 71 yX12_entry : Cond) ∈ lw_tbl := tb_8 _ (List.mem_of_getElem? (i := 162) (by decide +kernel))
theorem bgt_388 : (.instanceMethod yX12_entry : Cond) ∈ lw_tbl := tb_8 _ (List.mem_of_getElem? (i := 163) (by decide +kernel))
theorem bgt_389 : (.selects RX12 yX12_entry yX12_entry : Cond) ∈ lw_tbl := tb_8 _ (List.mem_of_getElem? (i := 164) (by decide +kernel))
theorem bgt_390 : (.methodLink RL 72 yX11_bits : Cond) ∈ lw_tbl := tb_5 _ (List.mem_of_getElem? (i := 30) (by decide +kernel))
theorem bgt_391 : (.instanceMethod yX11_bits : Cond) ∈ lw_tbl := tb_5 _ (List.mem_of_getElem? (i := 31) (by decide +kernel))
theorem bgt_392 : (.selects RX11 yX11_bits yX11_bits : Cond) ∈ lw_tbl := tb_5 _ (List.mem_of_getElem? (i := 32) (by decide +kernel))
theorem bgt_393 : (.methodLink RL 76 yX12_bits : Cond) ∈ lw_tbl := tb_8 _ (List.mem_of_getElem? (i := 166) (by decide +kernel))
theorem bgt_394 : (.instanceMethod yX12_bits : Cond) ∈ lw_tbl := tb_8 _ (List.mem_of_getElem? (i := 167) (by decide +kernel))
theorem bgt_395 : (.selects RX12 yX12_bits yX12_bits : Cond) ∈ lw_tbl := tb_8 _ (List.mem_of_getElem? (i := 168) (by decide +kernel))
theorem bgt_396 : (.methodLink RL 77 yX11_character : Cond) ∈ lw_tbl := tb_5 _ (List.mem_of_getElem? (i := 38) (by decide +kernel))
theorem bgt_397 : (.instanceMethod yX11_character : Cond) ∈ lw_tbl := tb_5 _ (List.mem_of_getElem? (i := 39) (by decide +kernel))
theorem bgt_398 : (.selects RX11 yX11_character yX11_character : Cond) ∈ lw_tbl := tb_5 _ (List.mem_of_getElem? (i := 40) (by decide +kernel))
theorem bgt_399 : (.methodLink RL 80 yX12_character : Cond) ∈ lw_tbl := tb_8 _ (List.mem_of_getElem? (i := 170) (by decide +kernel))
theorem bgt_400 : (.instanceMethod yX12_character : Cond) ∈ lw_tbl := tb_8 _ (List.mem_of_getElem? (i := 171) (by decide +kernel))
theorem bgt_401 : (.selects RX12 yX12_character yX12_character : Cond) ∈ lw_tbl := tb_8 _ (List.mem_of_getElem? (i := 172) (by decide +kernel))
theorem bgt_402 : (.methodLink RL 81 yX11_places : Cond) ∈ lw_tbl := tb_5 _ (List.mem_of_getElem? (i := 43) (by decide +kernel))
theorem bgt_403 : (.instanceMethod yX11_places : Cond) ∈ lw_tbl := tb_5 _ (List.mem_of_getElem? (i := 44) (by decide +kernel))
theorem bgt_404 : (.selects RX11 yX11_places yX11_places : Cond) ∈ lw_tbl := tb_5 _ (List.mem_of_getElem? (i := 45) (by decide +kernel))
theorem bgt_405 : (.methodLink RL 84 yX12_places : Cond) ∈ lw_tbl := tb_8 _ (List.mem_of_getElem? (i := 190) (by decide +kernel))
theorem bgt_406 : (.instanceMethod yX12_places : Cond) ∈ lw_tbl := tb_8 _ (List.mem_of_getElem? (i := 191) (by decide +kernel))
theorem bgt_407 : (.selects RX12 yX12_places yX12_places : Cond) ∈ lw_tbl := tb_8 _ (List.mem_of_getElem? (i := 192) (by decide +kernel))
theorem bgt_408 : (.methodLink RL 85 yL_member : Cond) ∈ lw_tbl := tb_6 _ (List.mem_of_getElem? (i := 110) (by decide +kernel))
theorem bgt_409 : (.static yL_member : Cond) ∈ lw_tbl := tb_6 _ (List.mem_of_getElem? (i := 111) (by decide +kernel))
theorem bgt_410 : (.methodLink RL 88 yX12_member : Cond) ∈ lw_tbl := tb_8 _ (List.mem_of_getElem? (i := 174) (by decide +kernel))
theorem bgt_411 : (.instanceMethod yX12_member : Cond) ∈ lw_tbl := tb_8 _ (List.mem_of_getElem? (i := 175) (by decide +kernel))
theorem bgt_412 : (.selects RX12 yX12_member yX12_member : Cond) ∈ lw_tbl := tb_8 _ (List.mem_of_getElem? (i := 176) (by decide +kernel))
theorem bgt_413 : (.methodLink RL 89 yX11_find : Cond) ∈ lw_tbl := tb_5 _ (List.mem_of_getElem? (i := 51) (by decide +kernel))
theorem bgt_414 : (.instanceMethod yX11_find : Cond) ∈ lw_tbl := tb_5 _ (List.mem_of_getElem? (i := 52) (by decide +kernel))
theorem bgt_415 : (.selects RX11 yX11_find yX11_find : Cond) ∈ lw_tbl := tb_5 _ (List.mem_of_getElem? (i := 53) (by decide +kernel))
theorem bgt_416 : (.methodLink RL 92 yX12_find : Cond) ∈ lw_tbl := tb_8 _ (List.mem_of_getElem? (i := 178) (by decide +kernel))
theorem bgt_417 : (.instanceMethod yX12_find : Cond) ∈ lw_tbl := tb_8 _ (List.mem_of_getElem? (i := 179) (by decide +kernel))
theorem bgt_418 : (.selects RX12 yX12_find yX12_find : Cond) ∈ lw_tbl := tb_8 _ (List.mem_of_getElem? (i := 180) (by decide +kernel))
theorem bgt_419 : (.methodLink RL 93 yL_row : Cond) ∈ lw_tbl := tb_6 _ (List.mem_of_getElem? (i := 126) (by decide +kernel))
theorem bgt_420 : (.static yL_row : Cond) ∈ lw_tbl := tb_6 _ (List.mem_of_getElem? (i := 127) (by decide +kernel))
theorem bgt_421 : (.methodLink RL 96 yX12_row : Cond) ∈ lw_tbl := tb_8 _ (List.mem_of_getElem? (i := 182) (by decide +kernel))
theorem bgt_422 : (.instanceMethod yX12_row : Cond) ∈ lw_tbl := tb_8 _ (List.mem_of_getElem? (i := 183) (by decide +kernel))
theorem bgt_423 : (.selects RX12 yX12_row yX12_row : Cond) ∈ lw_tbl := tb_8 _ (List.mem_of_getElem? (i := 184) (by decide +kernel))
theorem bgt_424 : (.methodLink RL 97 yX11_bootstrap : Cond) ∈ lw_tbl := tb_5 _ (List.mem_of_getElem? (i := 56) (by decide +kernel))
theorem bgt_425 : (.instanceMethod yX11_bootstrap : Cond) ∈ lw_tbl := tb_5 _ (List.mem_of_getElem? (i := 57) (by decide +kernel))
theorem bgt_426 : (.selects RX11 yX11_bootstrap yX11_bootstrap : Cond) ∈ lw_tbl := tb_5 _ (List.mem_of_getElem? (i := 58) (by decide +kernel))
theorem bgt_427 : (.methodLink RL 100 yX12_bootstrap : Cond) ∈ lw_tbl := tb_8 _ (List.mem_of_getElem? (i := 186) (by decide +kernel))
theorem bgt_428 : (.instanceMethod yX12_bootstrap : Cond) ∈ lw_tbl := tb_8 _ (List.mem_of_getElem? (i := 187) (by decide +kernel))
theorem bgt_429 : (.selects RX12 yX12_bootstrap yX12_bootstrap : Cond) ∈ lw_tbl := tb_8 _ (List.mem_of_getElem? (i := 188) (by decide +kernel))
theorem bgt_430 : (.methodLink RL 101 yX11_cut : Cond) ∈ lw_tbl := tb_5 _ (List.mem_of_getElem? (i := 64) (by decide +kernel))
theorem bgt_431 : (.instanceMethod yX11_cut : Cond) ∈ lw_tbl := tb_5 _ (List.mem_of_getElem? (i := 65) (by decide +kernel))
theorem bgt_432 : (.selects RX11 yX11_cut yX11_cut : Cond) ∈ lw_tbl := tb_5 _ (List.mem_of_getElem? (i := 66) (by decide +kernel))
theorem bgt_433 : (.methodLink RL 104 yX12_cut : Cond) ∈ lw_tbl := tb_8 _ (List.mem_of_getElem? (i := 198) (by decide +kernel))
theorem bgt_434 : (.instanceMethod yX12_cut : Cond) ∈ lw_tbl := tb_8 _ (List.mem_of_getElem? (i := 199) (by decide +kernel))
theorem bgt_435 : (.selects RX12 yX12_cut yX12_cut : Cond) ∈ lw_tbl := tb_8 _ (List.mem_of_getElem? (i := 200) (by decide +kernel))
theorem bgt_436 : (.methodLink RL 105 yL_instruction : Cond) ∈ lw_tbl := tb_6 _ (List.mem_of_getElem? (i := 135) (by decide +kernel))
theorem bgt_437 : (.static yL_instruction : Cond) ∈ lw_tbl := tb_6 _ (List.mem_of_getElem? (i := 136) (by decide +kernel))
theorem bgt_438 : (.methodLink RL 107 yX12_instruction : Cond) ∈ lw_tbl := tb_9 _ (List.mem_of_getElem? (i := 28) (by decide +kernel))
theorem bgt_439 : (.instanceMethod yX12_instruction : Cond) ∈ lw_tbl := tb_9 _ (List.mem_of_getElem? (i := 29) (by decide +kernel))
theorem bgt_440 : (.selects RX12 yX12_instruction yX12_instruction : Cond) ∈ lw_tbl := tb_9 _ (List.mem_of_getElem? (i := 30) (by decide +kernel))
theorem bgt_441 : (.methodLink RL 108 yX11_jump : Cond) ∈ lw_tbl := tb_5 _ (List.mem_of_getElem? (i := 193) (by decide +kernel))
theorem bgt_442 : (.instanceMethod yX11_jump : Cond) ∈ lw_tbl := tb_5 _ (List.mem_of_getElem? (i := 194) (by decide +kernel))
theorem bgt_443 : (.selects RX11 yX11_jump yX11_jump : Cond) ∈ lw_tbl := tb_5 _ (List.mem_of_getElem? (i := 195) (by decide +kernel))
theorem bgt_444 : (.methodLink RL 112 yX12_jump : Cond) ∈ lw_tbl := tb_9 _ (List.mem_of_getElem? (i := 44) (by decide +kernel))
theorem bgt_445 : (.instanceMethod yX12_jump : Cond) ∈ lw_tbl := tb_9 _ (List.mem_of_getElem? (i := 45) (by decide +kernel))
theorem bgt_446 : (.selects RX12 yX12_jump yX12_jump : Cond) ∈ lw_tbl := tb_9 _ (List.mem_of_getElem? (i := 46) (by decide +kernel))
theorem bgt_447 : (.laysFinal RX1 "ClassGate$Bytes" "data" "[B" : Cond) ∈ lw_tbl := tb_1 _ (List.mem_of_getElem? (i := 67) (by decide +kernel))
theorem bgt_448 : (.laysFinal RX3 "ClassGate$ClassFile" "bytes" "LClassGate$Bytes;" : Cond) ∈ lw_tbl := tb_1 _ (List.mem_of_getElem? (i := 175) (by decide +kernel))
theorem bgt_449 : (.lays RX3 "ClassGate$ClassFile" "pool" "LClassGate$Pool;" : Cond) ∈ lw_tbl := tb_1 _ (List.mem_of_getElem? (i := 177) (by decide +kernel))
theorem bgt_450 : (.lays RX3 "ClassGate$ClassFile" "minor" "I" : Cond) ∈ lw_tbl := tb_1 _ (List.mem_of_getElem? (i := 179) (by decide +kernel))
theorem bgt_451 : (.lays RX3 "ClassGate$ClassFile" "major" "I" : Cond) ∈ lw_tbl := tb_1 _ (List.mem_of_getElem? (i := 181) (by decide +kernel))
theorem bgt_452 : (.lays RX3 "ClassGate$ClassFile" "flagsAt" "I" : Cond) ∈ lw_tbl := tb_1 _ (List.mem_of_getElem? (i := 183) (by decide +kernel))
theorem bgt_453 : (.lays RX3 "ClassGate$ClassFile" "interfaceCount" "I" : Cond) ∈ lw_tbl := tb_1 _ (List.mem_of_getElem? (i := 185) (by decide +kernel))
theorem bgt_454 : (.lays RX3 "ClassGate$ClassFile" "fields" "[LClassGate$Member;" : Cond) ∈ lw_tbl := tb_1 _ (List.mem_of_getElem? (i := 187) (by decide +kernel))
theorem bgt_455 : (.lays RX3 "ClassGate$ClassFile" "methods" "[LClassGate$Member;" : Cond) ∈ lw_tbl := tb_1 _ (List.mem_of_getElem? (i := 189) (by decide +kernel))
theorem bgt_456 : (.lays RX3 "ClassGate$ClassFile" "attributeCount" "I" : Cond) ∈ lw_tbl := tb_1 _ (List.mem_of_getElem? (i := 191) (by decide +kernel))
theorem bgt_457 : (.lays RX3 "ClassGate$ClassFile" "attributesAt" "I" : Cond) ∈ lw_tbl := tb_1 _ (List.mem_of_getElem? (i := 193) (by decide +kernel))
theorem bgt_458 : (.lays RX3 "ClassGate$ClassFile" "known" "I" : Cond) ∈ lw_tbl := tb_1 _ (List.mem_of_getElem? (i := 195) (by decide +kernel))
theorem bgt_459 : (.lays RX3 "ClassGate$ClassFile" "bootstrapCount" "I" : Cond) ∈ lw_tbl := tb_1 _ (List.mem_of_getElem? (i := 197) (by decide +kernel))
theorem bgt_460 : (.lays RX3 "ClassGate$ClassFile" "bootstrapsAt" "I" : Cond) ∈ lw_tbl := tb_1 _ (List.mem_of_getElem? (i := 199) (by decide +kernel))
theorem bgt_461 : (.lays RX3 "ClassGate$ClassFile" "innerCount" "I" : Cond) ∈ lw_tbl := tb_1 _ (List.mem_of_getElem? (i := 201) (by decide +kernel))
theorem bgt_462 : (.lays RX3 "ClassGate$ClassFile" "nestCount" "I" : Cond) ∈ lw_tbl := tb_1 _ (List.mem_of_getElem? (i := 203) (by decide +kernel))
theorem bgt_463 : (.lays RX3 "ClassGate$ClassFile" "permittedCount" "I" : Cond) ∈ lw_tbl := tb_1 _ (List.mem_of_getElem? (i := 205) (by decide +kernel))
theorem bgt_464 : (.lays RX3 "ClassGate$ClassFile" "recordCount" "I" : Cond) ∈ lw_tbl := tb_1 _ (List.mem_of_getElem? (i := 207) (by decide +kernel))
theorem bgt_465 : (.laysFinal RX7 "ClassGate$Pool" "size" "I" : Cond) ∈ lw_tbl := tb_1 _ (List.mem_of_getElem? (i := 100) (by decide +kernel))
theorem bgt_466 : (.laysFinal RX7 "ClassGate$Pool" "tags" "[I" : Cond) ∈ lw_tbl := tb_1 _ (List.mem_of_getElem? (i := 102) (by decide +kernel))
theorem bgt_467 : (.laysFinal RX7 "ClassGate$Pool" "tagPlaces" "[I" : Cond) ∈ lw_tbl := tb_1 _ (List.mem_of_getElem? (i := 104) (by decide +kernel))
theorem bgt_468 : (.laysFinal RX7 "ClassGate$Pool" "firsts" "[I" : Cond) ∈ lw_tbl := tb_1 _ (List.mem_of_getElem? (i := 106) (by decide +kernel))
theorem bgt_469 : (.laysFinal RX7 "ClassGate$Pool" "seconds" "[I" : Cond) ∈ lw_tbl := tb_1 _ (List.mem_of_getElem? (i := 108) (by decide +kernel))
theorem bgt_470 : (.laysFinal RX7 "ClassGate$Pool" "shapes" "[I" : Cond) ∈ lw_tbl := tb_1 _ (List.mem_of_getElem? (i := 110) (by decide +kernel))
theorem bgt_471 : (.laysFinal RX7 "ClassGate$Pool" "characters" "[C" : Cond) ∈ lw_tbl := tb_1 _ (List.mem_of_getElem? (i := 112) (by decide +kernel))
theorem bgt_472 : (.lays RX7 "ClassGate$Pool" "characterCount" "I" : Cond) ∈ lw_tbl := tb_1 _ (List.mem_of_getElem? (i := 114) (by decide +kernel))
theorem bgt_473 : (.laysFinal RX9 "ClassGate$Reader" "file" "LClassGate$ClassFile;" : Cond) ∈ lw_tbl := tb_1 _ (List.mem_of_getElem? (i := 239) (by decide +kernel))
theorem bgt_474 : (.laysFinal RX9 "ClassGate$Reader" "bytes" "LClassGate$Bytes;" : Cond) ∈ lw_tbl := tb_2 _ (List.mem_of_getElem? (i := 1) (by decide +kernel))
theorem bgt_475 : (.laysFinal RX9 "ClassGate$Reader" "verdict" "LClassGate$Verdict;" : Cond) ∈ lw_tbl := tb_2 _ (List.mem_of_getElem? (i := 3) (by decide +kernel))
theorem bgt_476 : (.lays RX9 "ClassGate$Reader" "at" "I" : Cond) ∈ lw_tbl := tb_2 _ (List.mem_of_getElem? (i := 5) (by decide +kernel))
theorem bgt_477 : (.lays RX9 "ClassGate$Reader" "item" "I" : Cond) ∈ lw_tbl := tb_2 _ (List.mem_of_getElem? (i := 7) (by decide +kernel))
theorem bgt_478 : (.lays RX10 "ClassGate$Verdict" "rule" "I" : Cond) ∈ lw_tbl := tb_1 _ (List.mem_of_getElem? (i := 220) (by decide +kernel))
theorem bgt_479 : (.lays RX10 "ClassGate$Verdict" "wrongAt" "I" : Cond) ∈ lw_tbl := tb_1 _ (List.mem_of_getElem? (i := 222) (by decide +kernel))
theorem bgt_480 : (.lays RX11 "ClassGate" "came" "[B" : Cond) ∈ lw_tbl := tb_1 _ (List.mem_of_getElem? (i := 42) (by decide +kernel))
theorem bgt_481 : (.lays RX11 "ClassGate" "cameCount" "I" : Cond) ∈ lw_tbl := tb_1 _ (List.mem_of_getElem? (i := 44) (by decide +kernel))
theorem bgt_482 : (.lays RX11 "ClassGate" "file" "[B" : Cond) ∈ lw_tbl := tb_1 _ (List.mem_of_getElem? (i := 46) (by decide +kernel))
theorem bgt_483 : (.lays RX11 "ClassGate" "kept" "LClassGate$ClassFile;" : Cond) ∈ lw_tbl := tb_1 _ (List.mem_of_getElem? (i := 48) (by decide +kernel))
theorem bgt_484 : (.lays RX11 "ClassGate" "wrongPlace" "I" : Cond) ∈ lw_tbl := tb_1 _ (List.mem_of_getElem? (i := 50) (by decide +kernel))
theorem bgt_485 : (.lays RX12 "ClassGateModel" "thrown" "I" : Cond) ∈ lw_tbl := tb_7 _ (List.mem_of_getElem? (i := 36) (by decide +kernel))
theorem bgt_486 : (.laysFinal RX12 "ClassGateModel" "chars" "[C" : Cond) ∈ lw_tbl := tb_7 _ (List.mem_of_getElem? (i := 38) (by decide +kernel))
theorem bgt_487 : (.laysFinal RX12 "ClassGateModel" "cut" "[C" : Cond) ∈ lw_tbl := tb_7 _ (List.mem_of_getElem? (i := 40) (by decide +kernel))
theorem bgt_488 : (.lays RX12 "ClassGateModel" "charsN" "I" : Cond) ∈ lw_tbl := tb_7 _ (List.mem_of_getElem? (i := 42) (by decide +kernel))
theorem bgt_489 : (.laysFinal RX12 "ClassGateModel" "symAt" "[I" : Cond) ∈ lw_tbl := tb_7 _ (List.mem_of_getElem? (i := 44) (by decide +kernel))
theorem bgt_490 : (.laysFinal RX12 "ClassGateModel" "symLen" "[I" : Cond) ∈ lw_tbl := tb_7 _ (List.mem_of_getElem? (i := 46) (by decide +kernel))
theorem bgt_491 : (.laysFinal RX12 "ClassGateModel" "symNext" "[I" : Cond) ∈ lw_tbl := tb_7 _ (List.mem_of_getElem? (i := 48) (by decide +kernel))
theorem bgt_492 : (.laysFinal RX12 "ClassGateModel" "symHead" "[I" : Cond) ∈ lw_tbl := tb_7 _ (List.mem_of_getElem? (i := 50) (by decide +kernel))
theorem bgt_493 : (.lays RX12 "ClassGateModel" "syms" "I" : Cond) ∈ lw_tbl := tb_7 _ (List.mem_of_getElem? (i := 52) (by decide +kernel))
theorem bgt_494 : (.lays RX12 "ClassGateModel" "S_INIT" "I" : Cond) ∈ lw_tbl := tb_7 _ (List.mem_of_getElem? (i := 54) (by decide +kernel))
theorem bgt_495 : (.lays RX12 "ClassGateModel" "S_CLINIT" "I" : Cond) ∈ lw_tbl := tb_7 _ (List.mem_of_getElem? (i := 56) (by decide +kernel))
theorem bgt_496 : (.lays RX12 "ClassGateModel" "S_OBJECT" "I" : Cond) ∈ lw_tbl := tb_7 _ (List.mem_of_getElem? (i := 58) (by decide +kernel))
theorem bgt_497 : (.laysFinal RX12 "ClassGateModel" "files" "[B" : Cond) ∈ lw_tbl := tb_7 _ (List.mem_of_getElem? (i := 60) (by decide +kernel))
theorem bgt_498 : (.laysFinal RX12 "ClassGateModel" "file" "[B" : Cond) ∈ lw_tbl := tb_7 _ (List.mem_of_getElem? (i := 62) (by decide +kernel))
theorem bgt_499 : (.laysFinal RX12 "ClassGateModel" "kept" "[B" : Cond) ∈ lw_tbl := tb_7 _ (List.mem_of_getElem? (i := 64) (by decide +kernel))
theorem bgt_500 : (.laysFinal RX12 "ClassGateModel" "came" "[B" : Cond) ∈ lw_tbl := tb_7 _ (List.mem_of_getElem? (i := 66) (by decide +kernel))
theorem bgt_501 : (.lays RX12 "ClassGateModel" "size" "I" : Cond) ∈ lw_tbl := tb_7 _ (List.mem_of_getElem? (i := 68) (by decide +kernel))
theorem bgt_502 : (.lays RX12 "ClassGateModel" "fileN" "I" : Cond) ∈ lw_tbl := tb_7 _ (List.mem_of_getElem? (i := 70) (by decide +kernel))
theorem bgt_503 : (.lays RX12 "ClassGateModel" "keptN" "I" : Cond) ∈ lw_tbl := tb_7 _ (List.mem_of_getElem? (i := 72) (by decide +kernel))
theorem bgt_504 : (.lays RX12 "ClassGateModel" "cameN" "I" : Cond) ∈ lw_tbl := tb_7 _ (List.mem_of_getElem? (i := 74) (by decide +kernel))
theorem bgt_505 : (.lays RX12 "ClassGateModel" "pool" "I" : Cond) ∈ lw_tbl := tb_7 _ (List.mem_of_getElem? (i := 76) (by decide +kernel))
theorem bgt_506 : (.laysFinal RX12 "ClassGateModel" "pAt" "[I" : Cond) ∈ lw_tbl := tb_7 _ (List.mem_of_getElem? (i := 78) (by decide +kernel))
theorem bgt_507 : (.laysFinal RX12 "ClassGateModel" "pSym" "[I" : Cond) ∈ lw_tbl := tb_7 _ (List.mem_of_getElem? (i := 80) (by decide +kernel))
theorem bgt_508 : (.laysFinal RX12 "ClassGateModel" "pState" "[I" : Cond) ∈ lw_tbl := tb_7 _ (List.mem_of_getElem? (i := 82) (by decide +kernel))
theorem bgt_509 : (.laysFinal RX12 "ClassGateModel" "pObj" "[I" : Cond) ∈ lw_tbl := tb_7 _ (List.mem_of_getElem? (i := 84) (by decide +kernel))
theorem bgt_510 : (.lays RX12 "ClassGateModel" "fields" "I" : Cond) ∈ lw_tbl := tb_7 _ (List.mem_of_getElem? (i := 86) (by decide +kernel))
theorem bgt_511 : (.lays RX12 "ClassGateModel" "methods" "I" : Cond) ∈ lw_tbl := tb_7 _ (List.mem_of_getElem? (i := 88) (by decide +kernel))
theorem bgt_512 : (.laysFinal RX12 "ClassGateModel" "fFlags" "[I" : Cond) ∈ lw_tbl := tb_7 _ (List.mem_of_getElem? (i := 90) (by decide +kernel))
theorem bgt_513 : (.laysFinal RX12 "ClassGateModel" "fName" "[I" : Cond) ∈ lw_tbl := tb_7 _ (List.mem_of_getElem? (i := 92) (by decide +kernel))
theorem bgt_514 : (.laysFinal RX12 "ClassGateModel" "fDesc" "[I" : Cond) ∈ lw_tbl := tb_7 _ (List.mem_of_getElem? (i := 94) (by decide +kernel))
theorem bgt_515 : (.laysFinal RX12 "ClassGateModel" "fConst" "[I" : Cond) ∈ lw_tbl := tb_7 _ (List.mem_of_getElem? (i := 96) (by decide +kernel))
theorem bgt_516 : (.laysFinal RX12 "ClassGateModel" "fKnown" "[I" : Cond) ∈ lw_tbl := tb_7 _ (List.mem_of_getElem? (i := 98) (by decide +kernel))
theorem bgt_517 : (.laysFinal RX12 "ClassGateModel" "fNameAt" "[I" : Cond) ∈ lw_tbl := tb_7 _ (List.mem_of_getElem? (i := 100) (by decide +kernel))
theorem bgt_518 : (.laysFinal RX12 "ClassGateModel" "fDescAt" "[I" : Cond) ∈ lw_tbl := tb_7 _ (List.mem_of_getElem? (i := 102) (by decide +kernel))
theorem bgt_519 : (.laysFinal RX12 "ClassGateModel" "mFlags" "[I" : Cond) ∈ lw_tbl := tb_7 _ (List.mem_of_getElem? (i := 104) (by decide +kernel))
theorem bgt_520 : (.laysFinal RX12 "ClassGateModel" "mName" "[I" : Cond) ∈ lw_tbl := tb_7 _ (List.mem_of_getElem? (i := 106) (by decide +kernel))
theorem bgt_521 : (.laysFinal RX12 "ClassGateModel" "mDesc" "[I" : Cond) ∈ lw_tbl := tb_7 _ (List.mem_of_getElem? (i := 108) (by decide +kernel))
theorem bgt_522 : (.laysFinal RX12 "ClassGateModel" "mCode" "[I" : Cond) ∈ lw_tbl := tb_7 _ (List.mem_of_getElem? (i := 110) (by decide +kernel))
theorem bgt_523 : (.laysFinal RX12 "ClassGateModel" "mLen" "[I" : Cond) ∈ lw_tbl := tb_7 _ (List.mem_of_getElem? (i := 112) (by decide +kernel))
theorem bgt_524 : (.laysFinal RX12 "ClassGateModel" "mStack" "[I" : Cond) ∈ lw_tbl := tb_7 _ (List.mem_of_getElem? (i := 114) (by decide +kernel))
theorem bgt_525 : (.laysFinal RX12 "ClassGateModel" "mLocals" "[I" : Cond) ∈ lw_tbl := tb_7 _ (List.mem_of_getElem? (i := 116) (by decide +kernel))
theorem bgt_526 : (.laysFinal RX12 "ClassGateModel" "mRows" "[I" : Cond) ∈ lw_tbl := tb_7 _ (List.mem_of_getElem? (i := 118) (by decide +kernel))
theorem bgt_527 : (.laysFinal RX12 "ClassGateModel" "mRowN" "[I" : Cond) ∈ lw_tbl := tb_7 _ (List.mem_of_getElem? (i := 120) (by decide +kernel))
theorem bgt_528 : (.laysFinal RX12 "ClassGateModel" "mKnown" "[I" : Cond) ∈ lw_tbl := tb_7 _ (List.mem_of_getElem? (i := 122) (by decide +kernel))
theorem bgt_529 : (.laysFinal RX12 "ClassGateModel" "mThrows" "[I" : Cond) ∈ lw_tbl := tb_7 _ (List.mem_of_getElem? (i := 124) (by decide +kernel))
theorem bgt_530 : (.laysFinal RX12 "ClassGateModel" "mNameAt" "[I" : Cond) ∈ lw_tbl := tb_7 _ (List.mem_of_getElem? (i := 126) (by decide +kernel))
theorem bgt_531 : (.laysFinal RX12 "ClassGateModel" "mDescAt" "[I" : Cond) ∈ lw_tbl := tb_7 _ (List.mem_of_getElem? (i := 128) (by decide +kernel))
theorem bgt_532 : (.lays RX12 "ClassGateModel" "rule" "I" : Cond) ∈ lw_tbl := tb_7 _ (List.mem_of_getElem? (i := 130) (by decide +kernel))
theorem bgt_533 : (.lays RX12 "ClassGateModel" "wrongAt" "I" : Cond) ∈ lw_tbl := tb_7 _ (List.mem_of_getElem? (i := 132) (by decide +kernel))
theorem bgt_534 : (.lays RX12 "ClassGateModel" "base" "I" : Cond) ∈ lw_tbl := tb_7 _ (List.mem_of_getElem? (i := 134) (by decide +kernel))
theorem bgt_535 : (.lays RX12 "ClassGateModel" "pos" "I" : Cond) ∈ lw_tbl := tb_7 _ (List.mem_of_getElem? (i := 136) (by decide +kernel))
theorem bgt_536 : (.lays RX12 "ClassGateModel" "cpBase" "I" : Cond) ∈ lw_tbl := tb_7 _ (List.mem_of_getElem? (i := 138) (by decide +kernel))
theorem bgt_537 : (.lays RX12 "ClassGateModel" "cpN" "I" : Cond) ∈ lw_tbl := tb_7 _ (List.mem_of_getElem? (i := 140) (by decide +kernel))
theorem bgt_538 : (.lays RX12 "ClassGateModel" "major" "I" : Cond) ∈ lw_tbl := tb_7 _ (List.mem_of_getElem? (i := 142) (by decide +kernel))
theorem bgt_539 : (.lays RX12 "ClassGateModel" "headAt" "I" : Cond) ∈ lw_tbl := tb_7 _ (List.mem_of_getElem? (i := 144) (by decide +kernel))
theorem bgt_540 : (.lays RX12 "ClassGateModel" "fieldsAt" "I" : Cond) ∈ lw_tbl := tb_7 _ (List.mem_of_getElem? (i := 146) (by decide +kernel))
theorem bgt_541 : (.lays RX12 "ClassGateModel" "methodsAt" "I" : Cond) ∈ lw_tbl := tb_7 _ (List.mem_of_getElem? (i := 148) (by decide +kernel))
theorem bgt_542 : (.lays RX12 "ClassGateModel" "attributesAt" "I" : Cond) ∈ lw_tbl := tb_7 _ (List.mem_of_getElem? (i := 150) (by decide +kernel))
theorem bgt_543 : (.lays RX12 "ClassGateModel" "newFlags" "I" : Cond) ∈ lw_tbl := tb_7 _ (List.mem_of_getElem? (i := 152) (by decide +kernel))
theorem bgt_544 : (.lays RX12 "ClassGateModel" "newName" "I" : Cond) ∈ lw_tbl := tb_7 _ (List.mem_of_getElem? (i := 154) (by decide +kernel))
theorem bgt_545 : (.lays RX12 "ClassGateModel" "newSuper" "I" : Cond) ∈ lw_tbl := tb_7 _ (List.mem_of_getElem? (i := 156) (by decide +kernel))
theorem bgt_546 : (.lays RX12 "ClassGateModel" "newIfs" "I" : Cond) ∈ lw_tbl := tb_7 _ (List.mem_of_getElem? (i := 158) (by decide +kernel))
theorem bgt_547 : (.laysFinal RX12 "ClassGateModel" "KNOWN" "[Ljava/lang/String;" : Cond) ∈ lw_tbl := tb_7 _ (List.mem_of_getElem? (i := 160) (by decide +kernel))
theorem bgt_548 : (.laysFinal RX12 "ClassGateModel" "KNOWN_IN" "[I" : Cond) ∈ lw_tbl := tb_7 _ (List.mem_of_getElem? (i := 162) (by decide +kernel))
theorem bgt_549 : (.laysFinal RX12 "ClassGateModel" "KNOWN_FROM" "[I" : Cond) ∈ lw_tbl := tb_7 _ (List.mem_of_getElem? (i := 164) (by decide +kernel))
theorem bgt_550 : (.lays RX12 "ClassGateModel" "newInners" "I" : Cond) ∈ lw_tbl := tb_7 _ (List.mem_of_getElem? (i := 166) (by decide +kernel))
theorem bgt_551 : (.lays RX12 "ClassGateModel" "newKnown" "I" : Cond) ∈ lw_tbl := tb_7 _ (List.mem_of_getElem? (i := 168) (by decide +kernel))
theorem bgt_552 : (.lays RX12 "ClassGateModel" "newHost" "I" : Cond) ∈ lw_tbl := tb_7 _ (List.mem_of_getElem? (i := 170) (by decide +kernel))
theorem bgt_553 : (.lays RX12 "ClassGateModel" "newMembers" "I" : Cond) ∈ lw_tbl := tb_7 _ (List.mem_of_getElem? (i := 172) (by decide +kernel))
theorem bgt_554 : (.lays RX12 "ClassGateModel" "newPermitted" "I" : Cond) ∈ lw_tbl := tb_7 _ (List.mem_of_getElem? (i := 174) (by decide +kernel))
theorem bgt_555 : (.lays RX12 "ClassGateModel" "newBoot" "I" : Cond) ∈ lw_tbl := tb_7 _ (List.mem_of_getElem? (i := 176) (by decide +kernel))
theorem bgt_556 : (.lays RX12 "ClassGateModel" "newBootN" "I" : Cond) ∈ lw_tbl := tb_7 _ (List.mem_of_getElem? (i := 178) (by decide +kernel))
theorem bgt_557 : (.lays RX12 "ClassGateModel" "newRecord" "I" : Cond) ∈ lw_tbl := tb_7 _ (List.mem_of_getElem? (i := 180) (by decide +kernel))
theorem bgt_558 : (.lays RX12 "ClassGateModel" "lastPlace" "I" : Cond) ∈ lw_tbl := tb_7 _ (List.mem_of_getElem? (i := 182) (by decide +kernel))
theorem bgt_559 : (.lays RX12 "ClassGateModel" "cutOf" "I" : Cond) ∈ lw_tbl := tb_7 _ (List.mem_of_getElem? (i := 184) (by decide +kernel))
theorem bgt_560 : (.lays RX12 "ClassGateModel" "many" "I" : Cond) ∈ lw_tbl := tb_7 _ (List.mem_of_getElem? (i := 186) (by decide +kernel))
theorem bgt_561 : (.lays RX12 "ClassGateModel" "wrongCode" "I" : Cond) ∈ lw_tbl := tb_7 _ (List.mem_of_getElem? (i := 188) (by decide +kernel))
theorem bgt_562 : (.lays RX12 "ClassGateModel" "codeAt" "I" : Cond) ∈ lw_tbl := tb_7 _ (List.mem_of_getElem? (i := 190) (by decide +kernel))
theorem bgt_563 : (.lays RX12 "ClassGateModel" "codeLen" "I" : Cond) ∈ lw_tbl := tb_7 _ (List.mem_of_getElem? (i := 192) (by decide +kernel))
theorem bgt_564 : (.lays RX12 "ClassGateModel" "maxL" "I" : Cond) ∈ lw_tbl := tb_7 _ (List.mem_of_getElem? (i := 194) (by decide +kernel))
theorem bgt_565 : (.laysFinal RX12 "ClassGateModel" "begins" "[I" : Cond) ∈ lw_tbl := tb_7 _ (List.mem_of_getElem? (i := 196) (by decide +kernel))
theorem bgt_566 : (.laysFinal RX12 "ClassGateModel" "which" "[I" : Cond) ∈ lw_tbl := tb_7 _ (List.mem_of_getElem? (i := 198) (by decide +kernel))
theorem bgt_567 : (.initialized "java/lang/Throwable" : Cond) ∈ lw_tbl := tb_1 _ (List.mem_of_getElem? (i := 7) (by decide +kernel))
theorem bgt_568 : (.lays "java/lang/Throwable" "java/lang/Throwable" "cause" "Ljava/lang/Throwable;" : Cond) ∈ lw_tbl := tb_5 _ (List.mem_of_getElem? (i := 228) (by decide +kernel))
theorem bgt_569 : (.lays "java/lang/Throwable" "java/lang/Throwable" "stackTrace" "[Ljava/lang/StackTraceElement;" : Cond) ∈ lw_tbl := tb_5 _ (List.mem_of_getElem? (i := 230) (by decide +kernel))
theorem bgt_570 : (.lays "java/lang/Throwable" "java/lang/Throwable" "suppressedExceptions" "Ljava/util/List;" : Cond) ∈ lw_tbl := tb_5 _ (List.mem_of_getElem? (i := 232) (by decide +kernel))
theorem bgt_571 : (.lays "java/lang/Throwable" "java/lang/Throwable" "detailMessage" "Ljava/lang/String;" : Cond) ∈ lw_tbl := tb_5 _ (List.mem_of_getElem? (i := 234) (by decide +kernel))
theorem bgt_572 : (.lays "java/lang/Throwable" "java/lang/Throwable" "backtrace" "Ljava/lang/Object;" : Cond) ∈ lw_tbl := tb_5 _ (List.mem_of_getElem? (i := 236) (by decide +kernel))
theorem bgt_573 : (.fieldLink "java/lang/Throwable" 198 "java/lang/Throwable" "backtrace" "Ljava/lang/Object;" : Cond) ∈ lw_tbl := tb_5 _ (List.mem_of_getElem? (i := 237) (by decide +kernel))
theorem bgt_574 : (.superclass "java/lang/Throwable" "java/lang/Object" : Cond) ∈ lw_tbl := tb_5 _ (List.mem_of_getElem? (i := 238) (by decide +kernel))
theorem bgt_575 : (.instanceMethod ⟨"java/lang/Throwable", "<init>", "()V"⟩ : Cond) ∈ lw_tbl := tb_5 _ (List.mem_of_getElem? (i := 239) (by decide +kernel))
theorem bgt_576 : (.code ⟨"java/lang/Throwable", "<init>", "()V"⟩ prog_26_method_1_code 1 none : Cond) ∈ lw_tbl := tb_6 _ (List.mem_of_getElem? (i := 0) (by decide +kernel))
theorem bgt_577 : (.methodLink "java/lang/Throwable" 1 ⟨"java/lang/Object", "<init>", "()V"⟩ : Cond) ∈ lw_tbl := tb_6 _ (List.mem_of_getElem? (i := 1) (by decide +kernel))
theorem bgt_578 : (.fieldLink "java/lang/Throwable" 13 "java/lang/Throwable" "UNASSIGNED_STACK" "[Ljava/lang/StackTraceElement;" : Cond) ∈ lw_tbl := tb_6 _ (List.mem_of_getElem? (i := 2) (by decide +kernel))
theorem bgt_579 : (.fieldLink "java/lang/Throwable" 20 "java/lang/Throwable" "SUPPRESSED_SENTINEL" "Ljava/util/List;" : Cond) ∈ lw_tbl := tb_6 _ (List.mem_of_getElem? (i := 4) (by decide +kernel))
theorem bgt_580 : (.methodLink "java/lang/Throwable" 27 ⟨"java/lang/Throwable", "fillInStackTrace", "()Ljava/lang/Throwable;"⟩ : Cond) ∈ lw_tbl := tb_6 _ (List.mem_of_getElem? (i := 6) (by decide +kernel))
theorem bgt_581 : (.instanceMethod ⟨"java/lang/Throwable", "fillInStackTrace", "()Ljava/lang/Throwable;"⟩ : Cond) ∈ lw_tbl := tb_6 _ (List.mem_of_getElem? (i := 7) (by decide +kernel))
theorem bgt_582 : (.selects "java/lang/IllegalArgumentException" ⟨"java/lang/Throwable", "fillInStackTrace", "()Ljava/lang/Throwable;"⟩ ⟨"java/lang/Throwable", "fillInStackTrace", "()Ljava/lang/Throwable;"⟩ : Cond) ∈ lw_tbl := tb_6 _ (List.mem_of_getElem? (i := 9) (by decide +kernel))
theorem bgt_583 : (.codeSync ⟨"java/lang/Throwable", "fillInStackTrace", "()Ljava/lang/Throwable;"⟩ prog_26_method_18_code 1 (some (.object "java/lang/Throwable")) : Cond) ∈ lw_tbl := tb_6 _ (List.mem_of_getElem? (i := 10) (by decide +kernel))
theorem bgt_584 : (.methodLink "java/lang/Throwable" 202 ⟨"java/lang/Throwable", "fillInStackTrace", "(I)Ljava/lang/Throwable;"⟩ : Cond) ∈ lw_tbl := tb_6 _ (List.mem_of_getElem? (i := 11) (by decide +kernel))
theorem bgt_585 : (.instanceMethod ⟨"java/lang/Throwable", "fillInStackTrace", "(I)Ljava/lang/Throwable;"⟩ : Cond) ∈ lw_tbl := tb_6 _ (List.mem_of_getElem? (i := 13) (by decide +kernel))
theorem bgt_586 : (.instantiable "java/lang/Throwable" 6 : Cond) ∈ lw_tbl := tb_6 _ (List.mem_of_getElem? (i := 14) (by decide +kernel))
theorem bgt_587 : (.native ⟨"java/lang/Throwable", "fillInStackTrace", "(I)Ljava/lang/Throwable;"⟩ : Cond) ∈ lw_tbl := tb_6 _ (List.mem_of_getElem? (i := 15) (by decide +kernel))
theorem bgt_588 : (.instanceMethod ⟨"java/lang/RuntimeException", "<init>", "(Ljava/lang/String;)V"⟩ : Cond) ∈ lw_tbl := tb_6 _ (List.mem_of_getElem? (i := 21) (by decide +kernel))
theorem bgt_589 : (.code ⟨"java/lang/RuntimeException", "<init>", "(Ljava/lang/String;)V"⟩ prog_21_method_2_code 2 none : Cond) ∈ lw_tbl := tb_6 _ (List.mem_of_getElem? (i := 22) (by decide +kernel))
theorem bgt_590 : (.methodLink "java/lang/RuntimeException" 7 ⟨"java/lang/Exception", "<init>", "(Ljava/lang/String;)V"⟩ : Cond) ∈ lw_tbl := tb_6 _ (List.mem_of_getElem? (i := 23) (by decide +kernel))
theorem bgt_591 : (.instanceMethod ⟨"java/lang/Exception", "<init>", "(Ljava/lang/String;)V"⟩ : Cond) ∈ lw_tbl := tb_6 _ (List.mem_of_getElem? (i := 24) (by decide +kernel))
theorem bgt_592 : (.code ⟨"java/lang/Exception", "<init>", "(Ljava/lang/String;)V"⟩ prog_16_method_2_code 2 none : Cond) ∈ lw_tbl := tb_6 _ (List.mem_of_getElem? (i := 25) (by decide +kernel))
theorem bgt_593 : (.methodLink "java/lang/Exception" 7 ⟨"java/lang/Throwable", "<init>", "(Ljava/lang/String;)V"⟩ : Cond) ∈ lw_tbl := tb_6 _ (List.mem_of_getElem? (i := 26) (by decide +kernel))
theorem bgt_594 : (.instanceMethod ⟨"java/lang/Throwable", "<init>", "(Ljava/lang/String;)V"⟩ : Cond) ∈ lw_tbl := tb_6 _ (List.mem_of_getElem? (i := 27) (by decide +kernel))
theorem bgt_595 : (.code ⟨"java/lang/Throwable", "<init>", "(Ljava/lang/String;)V"⟩ prog_26_method_2_code 2 none : Cond) ∈ lw_tbl := tb_6 _ (List.mem_of_getElem? (i := 28) (by decide +kernel))
theorem bgt_596 : (.fieldLink "java/lang/Throwable" 31 "java/lang/Throwable" "detailMessage" "Ljava/lang/String;" : Cond) ∈ lw_tbl := tb_6 _ (List.mem_of_getElem? (i := 30) (by decide +kernel))
theorem bgt_597 : (.fieldLink "java/lang/Throwable" 7 "java/lang/Throwable" "cause" "Ljava/lang/Throwable;" : Cond) ∈ lw_tbl := tb_6 _ (List.mem_of_getElem? (i := 31) (by decide +kernel))
theorem bgt_598 : (.fieldLink "java/lang/Throwable" 17 "java/lang/Throwable" "stackTrace" "[Ljava/lang/StackTraceElement;" : Cond) ∈ lw_tbl := tb_6 _ (List.mem_of_getElem? (i := 32) (by decide +kernel))
theorem bgt_599 : (.fieldLink "java/lang/Throwable" 24 "java/lang/Throwable" "suppressedExceptions" "Ljava/util/List;" : Cond) ∈ lw_tbl := tb_6 _ (List.mem_of_getElem? (i := 33) (by decide +kernel))
theorem bgt_600 : (.instantiable "java/lang/IllegalArgumentException" 6 : Cond) ∈ lw_tbl := tb_6 _ (List.mem_of_getElem? (i := 69) (by decide +kernel))
theorem bgt_601 : (.selects "java/lang/IllegalArgumentException" ⟨"java/lang/Throwable", "fillInStackTrace", "(I)Ljava/lang/Throwable;"⟩ ⟨"java/lang/Throwable", "fillInStackTrace", "(I)Ljava/lang/Throwable;"⟩ : Cond) ∈ lw_tbl := tb_6 _ (List.mem_of_getElem? (i := 71) (by decide +kernel))
theorem bgt_602 : (.lays "java/lang/IllegalArgumentException" "java/lang/Throwable" "cause" "Ljava/lang/Throwable;" : Cond) ∈ lw_tbl := tb_6 _ (List.mem_of_getElem? (i := 72) (by decide +kernel))
theorem bgt_603 : (.lays "java/lang/IllegalArgumentException" "java/lang/Throwable" "stackTrace" "[Ljava/lang/StackTraceElement;" : Cond) ∈ lw_tbl := tb_6 _ (List.mem_of_getElem? (i := 73) (by decide +kernel))
theorem bgt_604 : (.lays "java/lang/IllegalArgumentException" "java/lang/Throwable" "suppressedExceptions" "Ljava/util/List;" : Cond) ∈ lw_tbl := tb_6 _ (List.mem_of_getElem? (i := 74) (by decide +kernel))
theorem bgt_605 : (.lays "java/lang/IllegalArgumentException" "java/lang/Throwable" "detailMessage" "Ljava/lang/String;" : Cond) ∈ lw_tbl := tb_6 _ (List.mem_of_getElem? (i := 75) (by decide +kernel))
theorem bgt_606 : (.lays "java/lang/IllegalArgumentException" "java/lang/Throwable" "backtrace" "Ljava/lang/Object;" : Cond) ∈ lw_tbl := tb_6 _ (List.mem_of_getElem? (i := 76) (by decide +kernel))
theorem bgt_607 : (.methodLink "ClassGate" 48 ⟨"java/lang/IllegalArgumentException", "<init>", "(Ljava/lang/String;)V"⟩ : Cond) ∈ lw_tbl := tb_6 _ (List.mem_of_getElem? (i := 78) (by decide +kernel))
theorem bgt_608 : (.instanceMethod ⟨"java/lang/IllegalArgumentException", "<init>", "(Ljava/lang/String;)V"⟩ : Cond) ∈ lw_tbl := tb_6 _ (List.mem_of_getElem? (i := 79) (by decide +kernel))
theorem bgt_609 : (.code ⟨"java/lang/IllegalArgumentException", "<init>", "(Ljava/lang/String;)V"⟩ prog_17_method_2_code 2 none : Cond) ∈ lw_tbl := tb_6 _ (List.mem_of_getElem? (i := 80) (by decide +kernel))
theorem bgt_610 : (.methodLink "java/lang/IllegalArgumentException" 7 ⟨"java/lang/RuntimeException", "<init>", "(Ljava/lang/String;)V"⟩ : Cond) ∈ lw_tbl := tb_6 _ (List.mem_of_getElem? (i := 81) (by decide +kernel))
theorem bgt_611 : (.lays "java/lang/IllegalArgumentException" "java/lang/Throwable" "depth" "I" : Cond) ∈ lw_tbl := tb_6 _ (List.mem_of_getElem? (i := 82) (by decide +kernel))
theorem bgt_612 : (.superclass "java/lang/IllegalArgumentException" "java/lang/RuntimeException" : Cond) ∈ lw_tbl := tb_6 _ (List.mem_of_getElem? (i := 83) (by decide +kernel))
theorem bgt_613 : (.instanceMethod ⟨"java/lang/Object", "<init>", "()V"⟩ : Cond) ∈ lw_tbl := tb_1 _ (List.mem_of_getElem? (i := 33) (by decide +kernel))
theorem bgt_614 : (.classLink RL 19 "java/lang/IllegalArgumentException" : Cond) ∈ lw_tbl := tb_6 _ (List.mem_of_getElem? (i := 63) (by decide +kernel))
theorem bgt_615 : (.methodLink RJ7 304 Lib.Math.min.name : Cond) ∈ lw_tbl := tb_6 _ (List.mem_of_getElem? (i := 56) (by decide +kernel))
theorem bgt_616 : (.static Lib.Math.min.name : Cond) ∈ lw_tbl := tb_1 _ (List.mem_of_getElem? (i := 81) (by decide +kernel))
theorem bgt_617 : (.code Lib.Math.min.name Lib.Math.min.code 2 (some .int) : Cond) ∈ lw_tbl := tb_1 _ (List.mem_of_getElem? (i := 82) (by decide +kernel))
theorem bgt_618 : (.methodLink RX7 15 Lib.Math.min.name : Cond) ∈ lw_tbl := tb_1 _ (List.mem_of_getElem? (i := 80) (by decide +kernel))
theorem bgt_619 : (.methodLink RX7 21 Lib.Math.max.name : Cond) ∈ lw_tbl := tb_1 _ (List.mem_of_getElem? (i := 83) (by decide +kernel))
theorem bgt_620 : (.static Lib.Math.max.name : Cond) ∈ lw_tbl := tb_1 _ (List.mem_of_getElem? (i := 84) (by decide +kernel))
theorem bgt_621 : (.code Lib.Math.max.name Lib.Math.max.code 2 (some .int) : Cond) ∈ lw_tbl := tb_1 _ (List.mem_of_getElem? (i := 85) (by decide +kernel))
theorem bgt_622 : (.initialized "java/lang/Math" : Cond) ∈ lw_tbl := tb_1 _ (List.mem_of_getElem? (i := 12) (by decide +kernel))
theorem bgt_623 : (.initialized "java/lang/System" : Cond) ∈ lw_tbl := tb_1 _ (List.mem_of_getElem? (i := 13) (by decide +kernel))
theorem bgt_624 : (.methodLink RJ7 150 arraycopyName : Cond) ∈ lw_tbl := tb_6 _ (List.mem_of_getElem? (i := 57) (by decide +kernel))
theorem bgt_625 : (.native arraycopyName : Cond) ∈ lw_tbl := tb_6 _ (List.mem_of_getElem? (i := 59) (by decide +kernel))
theorem bgt_626 : (.static arraycopyName : Cond) ∈ lw_tbl := tb_6 _ (List.mem_of_getElem? (i := 58) (by decide +kernel))
theorem bgi_0 : ∀ w ∈ bgL_0, w ∈ lw_tbl := List.forall_mem_cons.mpr ⟨bgt_0, List.forall_mem_cons.mpr ⟨bgt_1, List.forall_mem_cons.mpr ⟨bgt_2, List.forall_mem_cons.mpr ⟨bgt_3, List.forall_mem_cons.mpr ⟨bgt_4, List.forall_mem_cons.mpr ⟨bgt_5, List.forall_mem_cons.mpr ⟨bgt_6, List.forall_mem_cons.mpr ⟨bgt_7, List.forall_mem_cons.mpr ⟨bgt_8, List.forall_mem_cons.mpr ⟨bgt_9, List.forall_mem_cons.mpr ⟨bgt_10, List.forall_mem_cons.mpr ⟨bgt_11, List.forall_mem_cons.mpr ⟨bgt_12, List.forall_mem_cons.mpr ⟨bgt_13, List.forall_mem_cons.mpr ⟨bgt_14, List.forall_mem_cons.mpr ⟨bgt_15, List.forall_mem_cons.mpr ⟨bgt_16, List.forall_mem_cons.mpr ⟨bgt_17, List.forall_mem_cons.mpr ⟨bgt_18, List.forall_mem_cons.mpr ⟨bgt_19, List.forall_mem_cons.mpr ⟨bgt_20, List.forall_mem_cons.mpr ⟨bgt_21, List.forall_mem_cons.mpr ⟨bgt_22, List.forall_mem_cons.mpr ⟨bgt_23, List.forall_mem_cons.mpr ⟨bgt_24, List.forall_mem_cons.mpr ⟨bgt_25, List.forall_mem_cons.mpr ⟨bgt_26, List.forall_mem_cons.mpr ⟨bgt_27, List.forall_mem_cons.mpr ⟨bgt_28, List.forall_mem_cons.mpr ⟨bgt_29, List.forall_mem_cons.mpr ⟨bgt_30, List.forall_mem_cons.mpr ⟨bgt_31, List.forall_mem_cons.mpr ⟨bgt_32, List.forall_mem_cons.mpr ⟨bgt_33, List.forall_mem_cons.mpr ⟨bgt_34, List.forall_mem_cons.mpr ⟨bgt_35, List.forall_mem_cons.mpr ⟨bgt_36, List.forall_mem_cons.mpr ⟨bgt_37, List.forall_mem_cons.mpr ⟨bgt_38, List.forall_mem_cons.mpr ⟨bgt_39, fun _ h => absurd h List.not_mem_nil⟩⟩⟩⟩⟩⟩⟩⟩⟩⟩⟩⟩⟩⟩⟩⟩⟩⟩⟩⟩⟩⟩⟩⟩⟩⟩⟩⟩⟩⟩⟩⟩⟩⟩⟩⟩⟩⟩⟩⟩
theorem bgi_1 : ∀ w ∈ bgL_1, w ∈ lw_tbl := List.forall_mem_cons.mpr ⟨bgt_40, List.forall_mem_cons.mpr ⟨bgt_41, List.forall_mem_cons.mpr ⟨bgt_42, List.forall_mem_cons.mpr ⟨bgt_43, List.forall_mem_cons.mpr ⟨bgt_44, List.forall_mem_cons.mpr ⟨bgt_45, List.forall_mem_cons.mpr ⟨bgt_46, List.forall_mem_cons.mpr ⟨bgt_47, List.forall_mem_cons.mpr ⟨bgt_48, List.forall_mem_cons.mpr ⟨bgt_49, List.forall_mem_cons.mpr ⟨bgt_50, List.forall_mem_cons.mpr ⟨bgt_51, List.forall_mem_cons.mpr ⟨bgt_52, List.forall_mem_cons.mpr ⟨bgt_53, List.forall_mem_cons.mpr ⟨bgt_54, List.forall_mem_cons.mpr ⟨bgt_55, List.forall_mem_cons.mpr ⟨bgt_56, List.forall_mem_cons.mpr ⟨bgt_57, List.forall_mem_cons.mpr ⟨bgt_58, List.forall_mem_cons.mpr ⟨bgt_59, List.forall_mem_cons.mpr ⟨bgt_60, List.forall_mem_cons.mpr ⟨bgt_61, List.forall_mem_cons.mpr ⟨bgt_62, List.forall_mem_cons.mpr ⟨bgt_63, List.forall_mem_cons.mpr ⟨bgt_64, List.forall_mem_cons.mpr ⟨bgt_65, List.forall_mem_cons.mpr ⟨bgt_66, List.forall_mem_cons.mpr ⟨bgt_67, List.forall_mem_cons.mpr ⟨bgt_68, List.forall_mem_cons.mpr ⟨bgt_69, List.forall_mem_cons.mpr ⟨bgt_70, List.forall_mem_cons.mpr ⟨bgt_71, List.forall_mem_cons.mpr ⟨bgt_72, List.forall_mem_cons.mpr ⟨bgt_73, List.forall_mem_cons.mpr ⟨bgt_74, List.forall_mem_cons.mpr ⟨bgt_75, List.forall_mem_cons.mpr ⟨bgt_76, List.forall_mem_cons.mpr ⟨bgt_77, List.forall_mem_cons.mpr ⟨bgt_78, List.forall_mem_cons.mpr ⟨bgt_79, fun _ h => absurd h List.not_mem_nil⟩⟩⟩⟩⟩⟩⟩⟩⟩⟩⟩⟩⟩⟩⟩⟩⟩⟩⟩⟩⟩⟩⟩⟩⟩⟩⟩⟩⟩⟩⟩⟩⟩⟩⟩⟩⟩⟩⟩⟩
theorem bgi_2 : ∀ w ∈ bgL_2, w ∈ lw_tbl := List.forall_mem_cons.mpr ⟨bgt_80, List.forall_mem_cons.mpr ⟨bgt_81, List.forall_mem_cons.mpr ⟨bgt_82, List.forall_mem_cons.mpr ⟨bgt_83, List.forall_mem_cons.mpr ⟨bgt_84, List.forall_mem_cons.mpr ⟨bgt_85, List.forall_mem_cons.mpr ⟨bgt_86, List.forall_mem_cons.mpr ⟨bgt_87, List.forall_mem_cons.mpr ⟨bgt_88, List.forall_mem_cons.mpr ⟨bgt_89, List.forall_mem_cons.mpr ⟨bgt_90, List.forall_mem_cons.mpr ⟨bgt_91, List.forall_mem_cons.mpr ⟨bgt_92, List.forall_mem_cons.mpr ⟨bgt_93, List.forall_mem_cons.mpr ⟨bgt_94, List.forall_mem_cons.mpr ⟨bgt_95, List.forall_mem_cons.mpr ⟨bgt_96, List.forall_mem_cons.mpr ⟨bgt_97, List.forall_mem_cons.mpr ⟨bgt_98, List.forall_mem_cons.mpr ⟨bgt_99, List.forall_mem_cons.mpr ⟨bgt_100, List.forall_mem_cons.mpr ⟨bgt_101, List.forall_mem_cons.mpr ⟨bgt_102, List.forall_mem_cons.mpr ⟨bgt_103, List.forall_mem_cons.mpr ⟨bgt_104, List.forall_mem_cons.mpr ⟨bgt_105, List.forall_mem_cons.mpr ⟨bgt_106, List.forall_mem_cons.mpr ⟨bgt_107, List.forall_mem_cons.mpr ⟨bgt_108, List.forall_mem_cons.mpr ⟨bgt_109, List.forall_mem_cons.mpr ⟨bgt_110, List.forall_mem_cons.mpr ⟨bgt_111, List.forall_mem_cons.mpr ⟨bgt_112, List.forall_mem_cons.mpr ⟨bgt_113, List.forall_mem_cons.mpr ⟨bgt_114, List.forall_mem_cons.mpr ⟨bgt_115, List.forall_mem_cons.mpr ⟨bgt_116, List.forall_mem_cons.mpr ⟨bgt_117, List.forall_mem_cons.mpr ⟨bgt_118, List.forall_mem_cons.mpr ⟨bgt_119, fun _ h => absurd h List.not_mem_nil⟩⟩⟩⟩⟩⟩⟩⟩⟩⟩⟩⟩⟩⟩⟩⟩⟩⟩⟩⟩⟩⟩⟩⟩⟩⟩⟩⟩⟩⟩⟩⟩⟩⟩⟩⟩⟩⟩⟩⟩
theorem bgi_3 : ∀ w ∈ bgL_3, w ∈ lw_tbl := List.forall_mem_cons.mpr ⟨bgt_120, List.forall_mem_cons.mpr ⟨bgt_121, List.forall_mem_cons.mpr ⟨bgt_122, List.forall_mem_cons.mpr ⟨bgt_123, List.forall_mem_cons.mpr ⟨bgt_124, List.forall_mem_cons.mpr ⟨bgt_125, List.forall_mem_cons.mpr ⟨bgt_126, List.forall_mem_cons.mpr ⟨bgt_127, List.forall_mem_cons.mpr ⟨bgt_128, List.forall_mem_cons.mpr ⟨bgt_129, List.forall_mem_cons.mpr ⟨bgt_130, List.forall_mem_cons.mpr ⟨bgt_131, List.forall_mem_cons.mpr ⟨bgt_132, List.forall_mem_cons.mpr ⟨bgt_133, List.forall_mem_cons.mpr ⟨bgt_134, List.forall_mem_cons.mpr ⟨bgt_135, List.forall_mem_cons.mpr ⟨bgt_136, List.forall_mem_cons.mpr ⟨bgt_137, List.forall_mem_cons.mpr ⟨bgt_138, List.forall_mem_cons.mpr ⟨bgt_139, List.forall_mem_cons.mpr ⟨bgt_140, List.forall_mem_cons.mpr ⟨bgt_141, List.forall_mem_cons.mpr ⟨bgt_142, List.forall_mem_cons.mpr ⟨bgt_143, List.forall_mem_cons.mpr ⟨bgt_144, List.forall_mem_cons.mpr ⟨bgt_145, List.forall_mem_cons.mpr ⟨bgt_146, List.forall_mem_cons.mpr ⟨bgt_147, List.forall_mem_cons.mpr ⟨bgt_148, List.forall_mem_cons.mpr ⟨bgt_149, List.forall_mem_cons.mpr ⟨bgt_150, List.forall_mem_cons.mpr ⟨bgt_151, List.forall_mem_cons.mpr ⟨bgt_152, List.forall_mem_cons.mpr ⟨bgt_153, List.forall_mem_cons.mpr ⟨bgt_154, List.forall_mem_cons.mpr ⟨bgt_155, List.forall_mem_cons.mpr ⟨bgt_156, List.forall_mem_cons.mpr ⟨bgt_157, List.forall_mem_cons.mpr ⟨bgt_158, List.forall_mem_cons.mpr ⟨bgt_159, fun _ h => absurd h List.not_mem_nil⟩⟩⟩⟩⟩⟩⟩⟩⟩⟩⟩⟩⟩⟩⟩⟩⟩⟩⟩⟩⟩⟩⟩⟩⟩⟩⟩⟩⟩⟩⟩⟩⟩⟩⟩⟩⟩⟩⟩⟩
theorem bgi_4 : ∀ w ∈ bgL_4, w ∈ lw_tbl := List.forall_mem_cons.mpr ⟨bgt_160, List.forall_mem_cons.mpr ⟨bgt_161, List.forall_mem_cons.mpr ⟨bgt_162, List.forall_mem_cons.mpr ⟨bgt_163, List.forall_mem_cons.mpr ⟨bgt_164, List.forall_mem_cons.mpr ⟨bgt_165, List.forall_mem_cons.mpr ⟨bgt_166, List.forall_mem_cons.mpr ⟨bgt_167, List.forall_mem_cons.mpr ⟨bgt_168, List.forall_mem_cons.mpr ⟨bgt_169, List.forall_mem_cons.mpr ⟨bgt_170, List.forall_mem_cons.mpr ⟨bgt_171, List.forall_mem_cons.mpr ⟨bgt_172, List.forall_mem_cons.mpr ⟨bgt_173, List.forall_mem_cons.mpr ⟨bgt_174, List.forall_mem_cons.mpr ⟨bgt_175, List.forall_mem_cons.mpr ⟨bgt_176, List.forall_mem_cons.mpr ⟨bgt_177, List.forall_mem_cons.mpr ⟨bgt_178, List.forall_mem_cons.mpr ⟨bgt_179, List.forall_mem_cons.mpr ⟨bgt_180, List.forall_mem_cons.mpr ⟨bgt_181, List.forall_mem_cons.mpr ⟨bgt_182, List.forall_mem_cons.mpr ⟨bgt_183, List.forall_mem_cons.mpr ⟨bgt_184, List.forall_mem_cons.mpr ⟨bgt_185, List.forall_mem_cons.mpr ⟨bgt_186, List.forall_mem_cons.mpr ⟨bgt_187, List.forall_mem_cons.mpr ⟨bgt_188, List.forall_mem_cons.mpr ⟨bgt_189, List.forall_mem_cons.mpr ⟨bgt_190, List.forall_mem_cons.mpr ⟨bgt_191, List.forall_mem_cons.mpr ⟨bgt_192, List.forall_mem_cons.mpr ⟨bgt_193, List.forall_mem_cons.mpr ⟨bgt_194, List.forall_mem_cons.mpr ⟨bgt_195, List.forall_mem_cons.mpr ⟨bgt_196, List.forall_mem_cons.mpr ⟨bgt_197, List.forall_mem_cons.mpr ⟨bgt_198, List.forall_mem_cons.mpr ⟨bgt_199, fun _ h => absurd h List.not_mem_nil⟩⟩⟩⟩⟩⟩⟩⟩⟩⟩⟩⟩⟩⟩⟩⟩⟩⟩⟩⟩⟩⟩⟩⟩⟩⟩⟩⟩⟩⟩⟩⟩⟩⟩⟩⟩⟩⟩⟩⟩
theorem bgi_5 : ∀ w ∈ bgL_5, w ∈ lw_tbl := List.forall_mem_cons.mpr ⟨bgt_200, List.forall_mem_cons.mpr ⟨bgt_201, List.forall_mem_cons.mpr ⟨bgt_202, List.forall_mem_cons.mpr ⟨bgt_203, List.forall_mem_cons.mpr ⟨bgt_204, List.forall_mem_cons.mpr ⟨bgt_205, List.forall_mem_cons.mpr ⟨bgt_206, List.forall_mem_cons.mpr ⟨bgt_207, List.forall_mem_cons.mpr ⟨bgt_208, List.forall_mem_cons.mpr ⟨bgt_209, List.forall_mem_cons.mpr ⟨bgt_210, List.forall_mem_cons.mpr ⟨bgt_211, List.forall_mem_cons.mpr ⟨bgt_212, List.forall_mem_cons.mpr ⟨bgt_213, List.forall_mem_cons.mpr ⟨bgt_214, List.forall_mem_cons.mpr ⟨bgt_215, List.forall_mem_cons.mpr ⟨bgt_216, List.forall_mem_cons.mpr ⟨bgt_217, List.forall_mem_cons.mpr ⟨bgt_218, List.forall_mem_cons.mpr ⟨bgt_219, List.forall_mem_cons.mpr ⟨bgt_220, List.forall_mem_cons.mpr ⟨bgt_221, List.forall_mem_cons.mpr ⟨bgt_222, List.forall_mem_cons.mpr ⟨bgt_223, List.forall_mem_cons.mpr ⟨bgt_224, List.forall_mem_cons.mpr ⟨bgt_225, List.forall_mem_cons.mpr ⟨bgt_226, List.forall_mem_cons.mpr ⟨bgt_227, List.forall_mem_cons.mpr ⟨bgt_228, List.forall_mem_cons.mpr ⟨bgt_229, List.forall_mem_cons.mpr ⟨bgt_230, List.forall_mem_cons.mpr ⟨bgt_231, List.forall_mem_cons.mpr ⟨bgt_232, List.forall_mem_cons.mpr ⟨bgt_233, List.forall_mem_cons.mpr ⟨bgt_234, List.forall_mem_cons.mpr ⟨bgt_235, List.forall_mem_cons.mpr ⟨bgt_236, List.forall_mem_cons.mpr ⟨bgt_237, List.forall_mem_cons.mpr ⟨bgt_238, List.forall_mem_cons.mpr ⟨bgt_239, fun _ h => absurd h List.not_mem_nil⟩⟩⟩⟩⟩⟩⟩⟩⟩⟩⟩⟩⟩⟩⟩⟩⟩⟩⟩⟩⟩⟩⟩⟩⟩⟩⟩⟩⟩⟩⟩⟩⟩⟩⟩⟩⟩⟩⟩⟩
theorem bgi_6 : ∀ w ∈ bgL_6, w ∈ lw_tbl := List.forall_mem_cons.mpr ⟨bgt_240, List.forall_mem_cons.mpr ⟨bgt_241, List.forall_mem_cons.mpr ⟨bgt_242, List.forall_mem_cons.mpr ⟨bgt_243, List.forall_mem_cons.mpr ⟨bgt_244, List.forall_mem_cons.mpr ⟨bgt_245, List.forall_mem_cons.mpr ⟨bgt_246, List.forall_mem_cons.mpr ⟨bgt_247, List.forall_mem_cons.mpr ⟨bgt_248, List.forall_mem_cons.mpr ⟨bgt_249, List.forall_mem_cons.mpr ⟨bgt_250, List.forall_mem_cons.mpr ⟨bgt_251, List.forall_mem_cons.mpr ⟨bgt_252, List.forall_mem_cons.mpr ⟨bgt_253, List.forall_mem_cons.mpr ⟨bgt_254, List.forall_mem_cons.mpr ⟨bgt_255, List.forall_mem_cons.mpr ⟨bgt_256, List.forall_mem_cons.mpr ⟨bgt_257, List.forall_mem_cons.mpr ⟨bgt_258, List.forall_mem_cons.mpr ⟨bgt_259, List.forall_mem_cons.mpr ⟨bgt_260, List.forall_mem_cons.mpr ⟨bgt_261, List.forall_mem_cons.mpr ⟨bgt_262, List.forall_mem_cons.mpr ⟨bgt_263, List.forall_mem_cons.mpr ⟨bgt_264, List.forall_mem_cons.mpr ⟨bgt_265, List.forall_mem_cons.mpr ⟨bgt_266, List.forall_mem_cons.mpr ⟨bgt_267, List.forall_mem_cons.mpr ⟨bgt_268, List.forall_mem_cons.mpr ⟨bgt_269, List.forall_mem_cons.mpr ⟨bgt_270, List.forall_mem_cons.mpr ⟨bgt_271, List.forall_mem_cons.mpr ⟨bgt_272, List.forall_mem_cons.mpr ⟨bgt_273, List.forall_mem_cons.mpr ⟨bgt_274, List.forall_mem_cons.mpr ⟨bgt_275, List.forall_mem_cons.mpr ⟨bgt_276, List.forall_mem_cons.mpr ⟨bgt_277, List.forall_mem_cons.mpr ⟨bgt_278, List.forall_mem_cons.mpr ⟨bgt_279, fun _ h => absurd h List.not_mem_nil⟩⟩⟩⟩⟩⟩⟩⟩⟩⟩⟩⟩⟩⟩⟩⟩⟩⟩⟩⟩⟩⟩⟩⟩⟩⟩⟩⟩⟩⟩⟩⟩⟩⟩⟩⟩⟩⟩⟩⟩
theorem bgi_7 : ∀ w ∈ bgL_7, w ∈ lw_tbl := List.forall_mem_cons.mpr ⟨bgt_280, List.forall_mem_cons.mpr ⟨bgt_281, List.forall_mem_cons.mpr ⟨bgt_282, List.forall_mem_cons.mpr ⟨bgt_283, List.forall_mem_cons.mpr ⟨bgt_284, List.forall_mem_cons.mpr ⟨bgt_285, List.forall_mem_cons.mpr ⟨bgt_286, List.forall_mem_cons.mpr ⟨bgt_287, List.forall_mem_cons.mpr ⟨bgt_288, List.forall_mem_cons.mpr ⟨bgt_289, List.forall_mem_cons.mpr ⟨bgt_290, List.forall_mem_cons.mpr ⟨bgt_291, List.forall_mem_cons.mpr ⟨bgt_292, List.forall_mem_cons.mpr ⟨bgt_293, List.forall_mem_cons.mpr ⟨bgt_294, List.forall_mem_cons.mpr ⟨bgt_295, List.forall_mem_cons.mpr ⟨bgt_296, List.forall_mem_cons.mpr ⟨bgt_297, List.forall_mem_cons.mpr ⟨bgt_298, List.forall_mem_cons.mpr ⟨bgt_299, List.forall_mem_cons.mpr ⟨bgt_300, List.forall_mem_cons.mpr ⟨bgt_301, List.forall_mem_cons.mpr ⟨bgt_302, List.forall_mem_cons.mpr ⟨bgt_303, List.forall_mem_cons.mpr ⟨bgt_304, List.forall_mem_cons.mpr ⟨bgt_305, List.forall_mem_cons.mpr ⟨bgt_306, List.forall_mem_cons.mpr ⟨bgt_307, List.forall_mem_cons.mpr ⟨bgt_308, List.forall_mem_cons.mpr ⟨bgt_309, List.forall_mem_cons.mpr ⟨bgt_310, List.forall_mem_cons.mpr ⟨bgt_311, List.forall_mem_cons.mpr ⟨bgt_312, List.forall_mem_cons.mpr ⟨bgt_313, List.forall_mem_cons.mpr ⟨bgt_314, List.forall_mem_cons.mpr ⟨bgt_315, List.forall_mem_cons.mpr ⟨bgt_316, List.forall_mem_cons.mpr ⟨bgt_317, List.forall_mem_cons.mpr ⟨bgt_318, List.forall_mem_cons.mpr ⟨bgt_319, fun _ h => absurd h List.not_mem_nil⟩⟩⟩⟩⟩⟩⟩⟩⟩⟩⟩⟩⟩⟩⟩⟩⟩⟩⟩⟩⟩⟩⟩⟩⟩⟩⟩⟩⟩⟩⟩⟩⟩⟩⟩⟩⟩⟩⟩⟩
theorem bgi_8 : ∀ w ∈ bgL_8, w ∈ lw_tbl := List.forall_mem_cons.mpr ⟨bgt_320, List.forall_mem_cons.mpr ⟨bgt_321, List.forall_mem_cons.mpr ⟨bgt_322, List.forall_mem_cons.mpr ⟨bgt_323, List.forall_mem_cons.mpr ⟨bgt_324, List.forall_mem_cons.mpr ⟨bgt_325, List.forall_mem_cons.mpr ⟨bgt_326, List.forall_mem_cons.mpr ⟨bgt_327, List.forall_mem_cons.mpr ⟨bgt_328, List.forall_mem_cons.mpr ⟨bgt_329, List.forall_mem_cons.mpr ⟨bgt_330, List.forall_mem_cons.mpr ⟨bgt_331, List.forall_mem_cons.mpr ⟨bgt_332, List.forall_mem_cons.mpr ⟨bgt_333, List.forall_mem_cons.mpr ⟨bgt_334, List.forall_mem_cons.mpr ⟨bgt_335, List.forall_mem_cons.mpr ⟨bgt_336, List.forall_mem_cons.mpr ⟨bgt_337, List.forall_mem_cons.mpr ⟨bgt_338, List.forall_mem_cons.mpr ⟨bgt_339, List.forall_mem_cons.mpr ⟨bgt_340, List.forall_mem_cons.mpr ⟨bgt_341, List.forall_mem_cons.mpr ⟨bgt_342, List.forall_mem_cons.mpr ⟨bgt_343, List.forall_mem_cons.mpr ⟨bgt_344, List.forall_mem_cons.mpr ⟨bgt_345, List.forall_mem_cons.mpr ⟨bgt_346, List.forall_mem_cons.mpr ⟨bgt_347, List.forall_mem_cons.mpr ⟨bgt_348, List.forall_mem_cons.mpr ⟨bgt_349, List.forall_mem_cons.mpr ⟨bgt_350, List.forall_mem_cons.mpr ⟨bgt_351, List.forall_mem_cons.mpr ⟨bgt_352, List.forall_mem_cons.mpr ⟨bgt_353, List.forall_mem_cons.mpr ⟨bgt_354, List.forall_mem_cons.mpr ⟨bgt_355, List.forall_mem_cons.mpr ⟨bgt_356, List.forall_mem_cons.mpr ⟨bgt_357, List.forall_mem_cons.mpr ⟨bgt_358, List.forall_mem_cons.mpr ⟨bgt_359, fun _ h => absurd h List.not_mem_nil⟩⟩⟩⟩⟩⟩⟩⟩⟩⟩⟩⟩⟩⟩⟩⟩⟩⟩⟩⟩⟩⟩⟩⟩⟩⟩⟩⟩⟩⟩⟩⟩⟩⟩⟩⟩⟩⟩⟩⟩
theorem bgi_9 : ∀ w ∈ bgL_9, w ∈ lw_tbl := List.forall_mem_cons.mpr ⟨bgt_360, List.forall_mem_cons.mpr ⟨bgt_361, List.forall_mem_cons.mpr ⟨bgt_362, List.forall_mem_cons.mpr ⟨bgt_363, List.forall_mem_cons.mpr ⟨bgt_364, List.forall_mem_cons.mpr ⟨bgt_365, List.forall_mem_cons.mpr ⟨bgt_366, List.forall_mem_cons.mpr ⟨bgt_367, List.forall_mem_cons.mpr ⟨bgt_368, List.forall_mem_cons.mpr ⟨bgt_369, List.forall_mem_cons.mpr ⟨bgt_370, List.forall_mem_cons.mpr ⟨bgt_371, List.forall_mem_cons.mpr ⟨bgt_372, List.forall_mem_cons.mpr ⟨bgt_373, List.forall_mem_cons.mpr ⟨bgt_374, List.forall_mem_cons.mpr ⟨bgt_375, List.forall_mem_cons.mpr ⟨bgt_376, List.forall_mem_cons.mpr ⟨bgt_377, List.forall_mem_cons.mpr ⟨bgt_378, List.forall_mem_cons.mpr ⟨bgt_379, List.forall_mem_cons.mpr ⟨bgt_380, List.forall_mem_cons.mpr ⟨bgt_381, List.forall_mem_cons.mpr ⟨bgt_382, List.forall_mem_cons.mpr ⟨bgt_383, List.forall_mem_cons.mpr ⟨bgt_384, List.forall_mem_cons.mpr ⟨bgt_385, List.forall_mem_cons.mpr ⟨bgt_386, List.forall_mem_cons.mpr ⟨bgt_387, List.forall_mem_cons.mpr ⟨bgt_388, List.forall_mem_cons.mpr ⟨bgt_389, List.forall_mem_cons.mpr ⟨bgt_390, List.forall_mem_cons.mpr ⟨bgt_391, List.forall_mem_cons.mpr ⟨bgt_392, List.forall_mem_cons.mpr ⟨bgt_393, List.forall_mem_cons.mpr ⟨bgt_394, List.forall_mem_cons.mpr ⟨bgt_395, List.forall_mem_cons.mpr ⟨bgt_396, List.forall_mem_cons.mpr ⟨bgt_397, List.forall_mem_cons.mpr ⟨bgt_398, List.forall_mem_cons.mpr ⟨bgt_399, fun _ h => absurd h List.not_mem_nil⟩⟩⟩⟩⟩⟩⟩⟩⟩⟩⟩⟩⟩⟩⟩⟩⟩⟩⟩⟩⟩⟩⟩⟩⟩⟩⟩⟩⟩⟩⟩⟩⟩⟩⟩⟩⟩⟩⟩⟩
theorem bgi_10 : ∀ w ∈ bgL_10, w ∈ lw_tbl := List.forall_mem_cons.mpr ⟨bgt_400, List.forall_mem_cons.mpr ⟨bgt_401, List.forall_mem_cons.mpr ⟨bgt_402, List.forall_mem_cons.mpr ⟨bgt_403, List.forall_mem_cons.mpr ⟨bgt_404, List.forall_mem_cons.mpr ⟨bgt_405, List.forall_mem_cons.mpr ⟨bgt_406, List.forall_mem_cons.mpr ⟨bgt_407, List.forall_mem_cons.mpr ⟨bgt_408, List.forall_mem_cons.mpr ⟨bgt_409, List.forall_mem_cons.mpr ⟨bgt_410, List.forall_mem_cons.mpr ⟨bgt_411, List.forall_mem_cons.mpr ⟨bgt_412, List.forall_mem_cons.mpr ⟨bgt_413, List.forall_mem_cons.mpr ⟨bgt_414, List.forall_mem_cons.mpr ⟨bgt_415, List.forall_mem_cons.mpr ⟨bgt_416, List.forall_mem_cons.mpr ⟨bgt_417, List.forall_mem_cons.mpr ⟨bgt_418, List.forall_mem_cons.mpr ⟨bgt_419, List.forall_mem_cons.mpr ⟨bgt_420, List.forall_mem_cons.mpr ⟨bgt_421, List.forall_mem_cons.mpr ⟨bgt_422, List.forall_mem_cons.mpr ⟨bgt_423, List.forall_mem_cons.mpr ⟨bgt_424, List.forall_mem_cons.mpr ⟨bgt_425, List.forall_mem_cons.mpr ⟨bgt_426, List.forall_mem_cons.mpr ⟨bgt_427, List.forall_mem_cons.mpr ⟨bgt_428, List.forall_mem_cons.mpr ⟨bgt_429, List.forall_mem_cons.mpr ⟨bgt_430, List.forall_mem_cons.mpr ⟨bgt_431, List.forall_mem_cons.mpr ⟨bgt_432, List.forall_mem_cons.mpr ⟨bgt_433, List.forall_mem_cons.mpr ⟨bgt_434, List.forall_mem_cons.mpr ⟨bgt_435, List.forall_mem_cons.mpr ⟨bgt_436, List.forall_mem_cons.mpr ⟨bgt_437, List.forall_mem_cons.mpr ⟨bgt_438, List.forall_mem_cons.mpr ⟨bgt_439, fun _ h => absurd h List.not_mem_nil⟩⟩⟩⟩⟩⟩⟩⟩⟩⟩⟩⟩⟩⟩⟩⟩⟩⟩⟩⟩⟩⟩⟩⟩⟩⟩⟩⟩⟩⟩⟩⟩⟩⟩⟩⟩⟩⟩⟩⟩
theorem bgi_11 : ∀ w ∈ bgL_11, w ∈ lw_tbl := List.forall_mem_cons.mpr ⟨bgt_440, List.forall_mem_cons.mpr ⟨bgt_441, List.forall_mem_cons.mpr ⟨bgt_442, List.forall_mem_cons.mpr ⟨bgt_443, List.forall_mem_cons.mpr ⟨bgt_444, List.forall_mem_cons.mpr ⟨bgt_445, List.forall_mem_cons.mpr ⟨bgt_446, List.forall_mem_cons.mpr ⟨bgt_447, List.forall_mem_cons.mpr ⟨bgt_448, List.forall_mem_cons.mpr ⟨bgt_449, List.forall_mem_cons.mpr ⟨bgt_450, List.forall_mem_cons.mpr ⟨bgt_451, List.forall_mem_cons.mpr ⟨bgt_452, List.forall_mem_cons.mpr ⟨bgt_453, List.forall_mem_cons.mpr ⟨bgt_454, List.forall_mem_cons.mpr ⟨bgt_455, List.forall_mem_cons.mpr ⟨bgt_456, List.forall_mem_cons.mpr ⟨bgt_457, List.forall_mem_cons.mpr ⟨bgt_458, List.forall_mem_cons.mpr ⟨bgt_459, List.forall_mem_cons.mpr ⟨bgt_460, List.forall_mem_cons.mpr ⟨bgt_461, List.forall_mem_cons.mpr ⟨bgt_462, List.forall_mem_cons.mpr ⟨bgt_463, List.forall_mem_cons.mpr ⟨bgt_464, List.forall_mem_cons.mpr ⟨bgt_465, List.forall_mem_cons.mpr ⟨bgt_466, List.forall_mem_cons.mpr ⟨bgt_467, List.forall_mem_cons.mpr ⟨bgt_468, List.forall_mem_cons.mpr ⟨bgt_469, List.forall_mem_cons.mpr ⟨bgt_470, List.forall_mem_cons.mpr ⟨bgt_471, List.forall_mem_cons.mpr ⟨bgt_472, List.forall_mem_cons.mpr ⟨bgt_473, List.forall_mem_cons.mpr ⟨bgt_474, List.forall_mem_cons.mpr ⟨bgt_475, List.forall_mem_cons.mpr ⟨bgt_476, List.forall_mem_cons.mpr ⟨bgt_477, List.forall_mem_cons.mpr ⟨bgt_478, List.forall_mem_cons.mpr ⟨bgt_479, fun _ h => absurd h List.not_mem_nil⟩⟩⟩⟩⟩⟩⟩⟩⟩⟩⟩⟩⟩⟩⟩⟩⟩⟩⟩⟩⟩⟩⟩⟩⟩⟩⟩⟩⟩⟩⟩⟩⟩⟩⟩⟩⟩⟩⟩⟩
theorem bgi_12 : ∀ w ∈ bgL_12, w ∈ lw_tbl := List.forall_mem_cons.mpr ⟨bgt_480, List.forall_mem_cons.mpr ⟨bgt_481, List.forall_mem_cons.mpr ⟨bgt_482, List.forall_mem_cons.mpr ⟨bgt_483, List.forall_mem_cons.mpr ⟨bgt_484, List.forall_mem_cons.mpr ⟨bgt_485, List.forall_mem_cons.mpr ⟨bgt_486, List.forall_mem_cons.mpr ⟨bgt_487, List.forall_mem_cons.mpr ⟨bgt_488, List.forall_mem_cons.mpr ⟨bgt_489, List.forall_mem_cons.mpr ⟨bgt_490, List.forall_mem_cons.mpr ⟨bgt_491, List.forall_mem_cons.mpr ⟨bgt_492, List.forall_mem_cons.mpr ⟨bgt_493, List.forall_mem_cons.mpr ⟨bgt_494, List.forall_mem_cons.mpr ⟨bgt_495, List.forall_mem_cons.mpr ⟨bgt_496, List.forall_mem_cons.mpr ⟨bgt_497, List.forall_mem_cons.mpr ⟨bgt_498, List.forall_mem_cons.mpr ⟨bgt_499, List.forall_mem_cons.mpr ⟨bgt_500, List.forall_mem_cons.mpr ⟨bgt_501, List.forall_mem_cons.mpr ⟨bgt_502, List.forall_mem_cons.mpr ⟨bgt_503, List.forall_mem_cons.mpr ⟨bgt_504, List.forall_mem_cons.mpr ⟨bgt_505, List.forall_mem_cons.mpr ⟨bgt_506, List.forall_mem_cons.mpr ⟨bgt_507, List.forall_mem_cons.mpr ⟨bgt_508, List.forall_mem_cons.mpr ⟨bgt_509, List.forall_mem_cons.mpr ⟨bgt_510, List.forall_mem_cons.mpr ⟨bgt_511, List.forall_mem_cons.mpr ⟨bgt_512, List.forall_mem_cons.mpr ⟨bgt_513, List.forall_mem_cons.mpr ⟨bgt_514, List.forall_mem_cons.mpr ⟨bgt_515, List.forall_mem_cons.mpr ⟨bgt_516, List.forall_mem_cons.mpr ⟨bgt_517, List.forall_mem_cons.mpr ⟨bgt_518, List.forall_mem_cons.mpr ⟨bgt_519, fun _ h => absurd h List.not_mem_nil⟩⟩⟩⟩⟩⟩⟩⟩⟩⟩⟩⟩⟩⟩⟩⟩⟩⟩⟩⟩⟩⟩⟩⟩⟩⟩⟩⟩⟩⟩⟩⟩⟩⟩⟩⟩⟩⟩⟩⟩
theorem bgi_13 : ∀ w ∈ bgL_13, w ∈ lw_tbl := List.forall_mem_cons.mpr ⟨bgt_520, List.forall_mem_cons.mpr ⟨bgt_521, List.forall_mem_cons.mpr ⟨bgt_522, List.forall_mem_cons.mpr ⟨bgt_523, List.forall_mem_cons.mpr ⟨bgt_524, List.forall_mem_cons.mpr ⟨bgt_525, List.forall_mem_cons.mpr ⟨bgt_526, List.forall_mem_cons.mpr ⟨bgt_527, List.forall_mem_cons.mpr ⟨bgt_528, List.forall_mem_cons.mpr ⟨bgt_529, List.forall_mem_cons.mpr ⟨bgt_530, List.forall_mem_cons.mpr ⟨bgt_531, List.forall_mem_cons.mpr ⟨bgt_532, List.forall_mem_cons.mpr ⟨bgt_533, List.forall_mem_cons.mpr ⟨bgt_534, List.forall_mem_cons.mpr ⟨bgt_535, List.forall_mem_cons.mpr ⟨bgt_536, List.forall_mem_cons.mpr ⟨bgt_537, List.forall_mem_cons.mpr ⟨bgt_538, List.forall_mem_cons.mpr ⟨bgt_539, List.forall_mem_cons.mpr ⟨bgt_540, List.forall_mem_cons.mpr ⟨bgt_541, List.forall_mem_cons.mpr ⟨bgt_542, List.forall_mem_cons.mpr ⟨bgt_543, List.forall_mem_cons.mpr ⟨bgt_544, List.forall_mem_cons.mpr ⟨bgt_545, List.forall_mem_cons.mpr ⟨bgt_546, List.forall_mem_cons.mpr ⟨bgt_547, List.forall_mem_cons.mpr ⟨bgt_548, List.forall_mem_cons.mpr ⟨bgt_549, List.forall_mem_cons.mpr ⟨bgt_550, List.forall_mem_cons.mpr ⟨bgt_551, List.forall_mem_cons.mpr ⟨bgt_552, List.forall_mem_cons.mpr ⟨bgt_553, List.forall_mem_cons.mpr ⟨bgt_554, List.forall_mem_cons.mpr ⟨bgt_555, List.forall_mem_cons.mpr ⟨bgt_556, List.forall_mem_cons.mpr ⟨bgt_557, List.forall_mem_cons.mpr ⟨bgt_558, List.forall_mem_cons.mpr ⟨bgt_559, fun _ h => absurd h List.not_mem_nil⟩⟩⟩⟩⟩⟩⟩⟩⟩⟩⟩⟩⟩⟩⟩⟩⟩⟩⟩⟩⟩⟩⟩⟩⟩⟩⟩⟩⟩⟩⟩⟩⟩⟩⟩⟩⟩⟩⟩⟩
theorem bgi_14 : ∀ w ∈ bgL_14, w ∈ lw_tbl := List.forall_mem_cons.mpr ⟨bgt_560, List.forall_mem_cons.mpr ⟨bgt_561, List.forall_mem_cons.mpr ⟨bgt_562, List.forall_mem_cons.mpr ⟨bgt_563, List.forall_mem_cons.mpr ⟨bgt_564, List.forall_mem_cons.mpr ⟨bgt_565, List.forall_mem_cons.mpr ⟨bgt_566, List.forall_mem_cons.mpr ⟨bgt_567, List.forall_mem_cons.mpr ⟨bgt_568, List.forall_mem_cons.mpr ⟨bgt_569, List.forall_mem_cons.mpr ⟨bgt_570, List.forall_mem_cons.mpr ⟨bgt_571, List.forall_mem_cons.mpr ⟨bgt_572, List.forall_mem_cons.mpr ⟨bgt_573, List.forall_mem_cons.mpr ⟨bgt_574, List.forall_mem_cons.mpr ⟨bgt_575, List.forall_mem_cons.mpr ⟨bgt_576, List.forall_mem_cons.mpr ⟨bgt_577, List.forall_mem_cons.mpr ⟨bgt_578, List.forall_mem_cons.mpr ⟨bgt_579, List.forall_mem_cons.mpr ⟨bgt_580, List.forall_mem_cons.mpr ⟨bgt_581, List.forall_mem_cons.mpr ⟨bgt_582, List.forall_mem_cons.mpr ⟨bgt_583, List.forall_mem_cons.mpr ⟨bgt_584, List.forall_mem_cons.mpr ⟨bgt_585, List.forall_mem_cons.mpr ⟨bgt_586, List.forall_mem_cons.mpr ⟨bgt_587, List.forall_mem_cons.mpr ⟨bgt_588, List.forall_mem_cons.mpr ⟨bgt_589, List.forall_mem_cons.mpr ⟨bgt_590, List.forall_mem_cons.mpr ⟨bgt_591, List.forall_mem_cons.mpr ⟨bgt_592, List.forall_mem_cons.mpr ⟨bgt_593, List.forall_mem_cons.mpr ⟨bgt_594, List.forall_mem_cons.mpr ⟨bgt_595, List.forall_mem_cons.mpr ⟨bgt_596, List.forall_mem_cons.mpr ⟨bgt_597, List.forall_mem_cons.mpr ⟨bgt_598, List.forall_mem_cons.mpr ⟨bgt_599, fun _ h => absurd h List.not_mem_nil⟩⟩⟩⟩⟩⟩⟩⟩⟩⟩⟩⟩⟩⟩⟩⟩⟩⟩⟩⟩⟩⟩⟩⟩⟩⟩⟩⟩⟩⟩⟩⟩⟩⟩⟩⟩⟩⟩⟩⟩
theorem bgi_15 : ∀ w ∈ bgL_15, w ∈ lw_tbl := List.forall_mem_cons.mpr ⟨bgt_600, List.forall_mem_cons.mpr ⟨bgt_601, List.forall_mem_cons.mpr ⟨bgt_602, List.forall_mem_cons.mpr ⟨bgt_603, List.forall_mem_cons.mpr ⟨bgt_604, List.forall_mem_cons.mpr ⟨bgt_605, List.forall_mem_cons.mpr ⟨bgt_606, List.forall_mem_cons.mpr ⟨bgt_607, List.forall_mem_cons.mpr ⟨bgt_608, List.forall_mem_cons.mpr ⟨bgt_609, List.forall_mem_cons.mpr ⟨bgt_610, List.forall_mem_cons.mpr ⟨bgt_611, List.forall_mem_cons.mpr ⟨bgt_612, List.forall_mem_cons.mpr ⟨bgt_613, List.forall_mem_cons.mpr ⟨bgt_614, List.forall_mem_cons.mpr ⟨bgt_615, List.forall_mem_cons.mpr ⟨bgt_616, List.forall_mem_cons.mpr ⟨bgt_617, List.forall_mem_cons.mpr ⟨bgt_618, List.forall_mem_cons.mpr ⟨bgt_619, List.forall_mem_cons.mpr ⟨bgt_620, List.forall_mem_cons.mpr ⟨bgt_621, List.forall_mem_cons.mpr ⟨bgt_622, List.forall_mem_cons.mpr ⟨bgt_623, List.forall_mem_cons.mpr ⟨bgt_624, List.forall_mem_cons.mpr ⟨bgt_625, List.forall_mem_cons.mpr ⟨bgt_626, fun _ h => absurd h List.not_mem_nil⟩⟩⟩⟩⟩⟩⟩⟩⟩⟩⟩⟩⟩⟩⟩⟩⟩⟩⟩⟩⟩⟩⟩⟩⟩⟩⟩
theorem bg_app {a b : List Cond} (h1 : ∀ w ∈ a, w ∈ lw_tbl) (h2 : ∀ w ∈ b, w ∈ lw_tbl) : ∀ w ∈ a ++ b, w ∈ lw_tbl := fun w h => (List.mem_append.mp h).elim (h1 w) (h2 w)
theorem bg_in : ∀ w ∈ bg, w ∈ lw_tbl := bg_app bgi_0 (bg_app bgi_1 (bg_app bgi_2 (bg_app bgi_3 (bg_app bgi_4 (bg_app bgi_5 (bg_app bgi_6 (bg_app bgi_7 (bg_app bgi_8 (bg_app bgi_9 (bg_app bgi_10 (bg_app bgi_11 (bg_app bgi_12 (bg_app bgi_13 (bg_app bgi_14 (bgi_15)))))))))))))))
theorem bg_0 : (.code yX11_init cX11_init 1 none : Cond) ∈ bg := List.mem_append_left _ (List.mem_of_getElem? (l := bgL_0) (i := 0) rfl)
theorem bg_1 : (.methodLink RX11 1 objectInit : Cond) ∈ bg := List.mem_append_left _ (List.mem_of_getElem? (l := bgL_0) (i := 1) rfl)
theorem bg_2 : (.code objectInit ⟨#[0xb1]⟩ 1 none : Cond) ∈ bg := List.mem_append_left _ (List.mem_of_getElem? (l := bgL_0) (i := 2) rfl)
theorem bg_3 : (.instanceMethod objectInit : Cond) ∈ bg := List.mem_append_left _ (List.mem_of_getElem? (l := bgL_0) (i := 3) rfl)
theorem bg_4 : (.arrayClass .byte : Cond) ∈ bg := List.mem_append_left _ (List.mem_of_getElem? (l := bgL_0) (i := 4) rfl)
theorem bg_5 : (.fieldLink RX11 9 "ClassGate" "came" "[B" : Cond) ∈ bg := List.mem_append_left _ (List.mem_of_getElem? (l := bgL_0) (i := 5) rfl)
theorem bg_6 : (.fieldLink RX11 13 "ClassGate" "NO_BYTES" "[B" : Cond) ∈ bg := List.mem_append_left _ (List.mem_of_getElem? (l := bgL_0) (i := 6) rfl)
theorem bg_7 : (.fieldLink RX11 16 "ClassGate" "file" "[B" : Cond) ∈ bg := List.mem_append_left _ (List.mem_of_getElem? (l := bgL_0) (i := 7) rfl)
theorem bg_8 : (.fieldLink RX11 19 "ClassGate" "wrongPlace" "I" : Cond) ∈ bg := List.mem_append_left _ (List.mem_of_getElem? (l := bgL_0) (i := 8) rfl)
theorem bg_9 : (.code yX11_feed cX11_feed 6 (some .int) : Cond) ∈ bg := List.mem_append_left _ (List.mem_of_getElem? (l := bgL_0) (i := 9) rfl)
theorem bg_10 : (.fieldLink RX11 23 "ClassGate" "cameCount" "I" : Cond) ∈ bg := List.mem_append_left _ (List.mem_of_getElem? (l := bgL_0) (i := 10) rfl)
theorem bg_11 : (.constant RX11 26 65520 : Cond) ∈ bg := List.mem_append_left _ (List.mem_of_getElem? (l := bgL_0) (i := 11) rfl)
theorem bg_12 : (.classLink RX11 27 "java/lang/IllegalStateException" : Cond) ∈ bg := List.mem_append_left _ (List.mem_of_getElem? (l := bgL_0) (i := 12) rfl)
theorem bg_13 : (.initialized "java/lang/IllegalStateException" : Cond) ∈ bg := List.mem_append_left _ (List.mem_of_getElem? (l := bgL_0) (i := 13) rfl)
theorem bg_14 : (.methodLink RX11 34 yX11_takeWord : Cond) ∈ bg := List.mem_append_left _ (List.mem_of_getElem? (l := bgL_0) (i := 14) rfl)
theorem bg_15 : (.code yX11_takeWord cX11_takeWord 2 none : Cond) ∈ bg := List.mem_append_left _ (List.mem_of_getElem? (l := bgL_0) (i := 15) rfl)
theorem bg_16 : (.instanceMethod yX11_takeWord : Cond) ∈ bg := List.mem_append_left _ (List.mem_of_getElem? (l := bgL_0) (i := 16) rfl)
theorem bg_17 : (.selects RX11 yX11_takeWord yX11_takeWord : Cond) ∈ bg := List.mem_append_left _ (List.mem_of_getElem? (l := bgL_0) (i := 17) rfl)
theorem bg_18 : (.initialized RX11 : Cond) ∈ bg := List.mem_append_left _ (List.mem_of_getElem? (l := bgL_0) (i := 18) rfl)
theorem bg_19 : (.methodLink RX11 38 yJ7_copyOf_9075b : Cond) ∈ bg := List.mem_append_left _ (List.mem_of_getElem? (l := bgL_0) (i := 19) rfl)
theorem bg_20 : (.code yJ7_copyOf_9075b cJ7_copyOf_9075b 3 (some (.array .byte)) : Cond) ∈ bg := List.mem_append_left _ (List.mem_of_getElem? (l := bgL_0) (i := 20) rfl)
theorem bg_21 : (.static yJ7_copyOf_9075b : Cond) ∈ bg := List.mem_append_left _ (List.mem_of_getElem? (l := bgL_0) (i := 21) rfl)
theorem bg_22 : (.initialized RJ7 : Cond) ∈ bg := List.mem_append_left _ (List.mem_of_getElem? (l := bgL_0) (i := 22) rfl)
theorem bg_23 : (.code yX11_end cX11_end 2 (some .int) : Cond) ∈ bg := List.mem_append_left _ (List.mem_of_getElem? (l := bgL_0) (i := 23) rfl)
theorem bg_24 : (.classLink RX11 44 "java/lang/IllegalArgumentException" : Cond) ∈ bg := List.mem_append_left _ (List.mem_of_getElem? (l := bgL_0) (i := 24) rfl)
theorem bg_25 : (.initialized "java/lang/IllegalArgumentException" : Cond) ∈ bg := List.mem_append_left _ (List.mem_of_getElem? (l := bgL_0) (i := 25) rfl)
theorem bg_26 : (.code yX11_read cX11_read 3 (some .int) : Cond) ∈ bg := List.mem_append_left _ (List.mem_of_getElem? (l := bgL_0) (i := 26) rfl)
theorem bg_27 : (.classLink RX11 49 RX3 : Cond) ∈ bg := List.mem_append_left _ (List.mem_of_getElem? (l := bgL_0) (i := 27) rfl)
theorem bg_28 : (.initialized RX3 : Cond) ∈ bg := List.mem_append_left _ (List.mem_of_getElem? (l := bgL_0) (i := 28) rfl)
theorem bg_29 : (.instantiable RX3 17 : Cond) ∈ bg := List.mem_append_left _ (List.mem_of_getElem? (l := bgL_0) (i := 29) rfl)
theorem bg_30 : (.classLink RX11 51 RX1 : Cond) ∈ bg := List.mem_append_left _ (List.mem_of_getElem? (l := bgL_0) (i := 30) rfl)
theorem bg_31 : (.initialized RX1 : Cond) ∈ bg := List.mem_append_left _ (List.mem_of_getElem? (l := bgL_0) (i := 31) rfl)
theorem bg_32 : (.instantiable RX1 1 : Cond) ∈ bg := List.mem_append_left _ (List.mem_of_getElem? (l := bgL_0) (i := 32) rfl)
theorem bg_33 : (.methodLink RX11 53 yX1_init : Cond) ∈ bg := List.mem_append_left _ (List.mem_of_getElem? (l := bgL_0) (i := 33) rfl)
theorem bg_34 : (.code yX1_init cX1_init 2 none : Cond) ∈ bg := List.mem_append_left _ (List.mem_of_getElem? (l := bgL_0) (i := 34) rfl)
theorem bg_35 : (.instanceMethod yX1_init : Cond) ∈ bg := List.mem_append_left _ (List.mem_of_getElem? (l := bgL_0) (i := 35) rfl)
theorem bg_36 : (.methodLink RX11 56 yX3_init : Cond) ∈ bg := List.mem_append_left _ (List.mem_of_getElem? (l := bgL_0) (i := 36) rfl)
theorem bg_37 : (.code yX3_init cX3_init 2 none : Cond) ∈ bg := List.mem_append_left _ (List.mem_of_getElem? (l := bgL_0) (i := 37) rfl)
theorem bg_38 : (.instanceMethod yX3_init : Cond) ∈ bg := List.mem_append_left _ (List.mem_of_getElem? (l := bgL_0) (i := 38) rfl)
theorem bg_39 : (.classLink RX11 59 RX10 : Cond) ∈ bg := List.mem_append_left _ (List.mem_of_getElem? (l := bgL_0) (i := 39) rfl)
theorem bg_40 : (.initialized RX10 : Cond) ∈ bg := List.mem_append_right _ (List.mem_append_left _ (List.mem_of_getElem? (l := bgL_1) (i := 0) rfl))
theorem bg_41 : (.instantiable RX10 2 : Cond) ∈ bg := List.mem_append_right _ (List.mem_append_left _ (List.mem_of_getElem? (l := bgL_1) (i := 1) rfl))
theorem bg_42 : (.methodLink RX11 61 yX10_init : Cond) ∈ bg := List.mem_append_right _ (List.mem_append_left _ (List.mem_of_getElem? (l := bgL_1) (i := 2) rfl))
theorem bg_43 : (.code yX10_init cX10_init 1 none : Cond) ∈ bg := List.mem_append_right _ (List.mem_append_left _ (List.mem_of_getElem? (l := bgL_1) (i := 3) rfl))
theorem bg_44 : (.instanceMethod yX10_init : Cond) ∈ bg := List.mem_append_right _ (List.mem_append_left _ (List.mem_of_getElem? (l := bgL_1) (i := 4) rfl))
theorem bg_45 : (.methodLink RX11 62 yX11_isWhole : Cond) ∈ bg := List.mem_append_right _ (List.mem_append_left _ (List.mem_of_getElem? (l := bgL_1) (i := 5) rfl))
theorem bg_46 : (.code yX11_isWhole cX11_isWhole 3 (some .boolean) : Cond) ∈ bg := List.mem_append_right _ (List.mem_append_left _ (List.mem_of_getElem? (l := bgL_1) (i := 6) rfl))
theorem bg_47 : (.static yX11_isWhole : Cond) ∈ bg := List.mem_append_right _ (List.mem_append_left _ (List.mem_of_getElem? (l := bgL_1) (i := 7) rfl))
theorem bg_48 : (.fieldLink RX11 69 "ClassGate" "kept" "LClassGate$ClassFile;" : Cond) ∈ bg := List.mem_append_right _ (List.mem_append_left _ (List.mem_of_getElem? (l := bgL_1) (i := 8) rfl))
theorem bg_49 : (.fieldLink RX11 73 "ClassGate$Verdict" "wrongAt" "I" : Cond) ∈ bg := List.mem_append_right _ (List.mem_append_left _ (List.mem_of_getElem? (l := bgL_1) (i := 9) rfl))
theorem bg_50 : (.fieldLink RX11 76 "ClassGate$Verdict" "rule" "I" : Cond) ∈ bg := List.mem_append_right _ (List.mem_append_left _ (List.mem_of_getElem? (l := bgL_1) (i := 10) rfl))
theorem bg_51 : (.classLink RX11 79 RX9 : Cond) ∈ bg := List.mem_append_right _ (List.mem_append_left _ (List.mem_of_getElem? (l := bgL_1) (i := 11) rfl))
theorem bg_52 : (.initialized RX9 : Cond) ∈ bg := List.mem_append_right _ (List.mem_append_left _ (List.mem_of_getElem? (l := bgL_1) (i := 12) rfl))
theorem bg_53 : (.instantiable RX9 5 : Cond) ∈ bg := List.mem_append_right _ (List.mem_append_left _ (List.mem_of_getElem? (l := bgL_1) (i := 13) rfl))
theorem bg_54 : (.methodLink RX11 81 yX9_init : Cond) ∈ bg := List.mem_append_right _ (List.mem_append_left _ (List.mem_of_getElem? (l := bgL_1) (i := 14) rfl))
theorem bg_55 : (.code yX9_init cX9_init 3 none : Cond) ∈ bg := List.mem_append_right _ (List.mem_append_left _ (List.mem_of_getElem? (l := bgL_1) (i := 15) rfl))
theorem bg_56 : (.instanceMethod yX9_init : Cond) ∈ bg := List.mem_append_right _ (List.mem_append_left _ (List.mem_of_getElem? (l := bgL_1) (i := 16) rfl))
theorem bg_57 : (.methodLink RX11 84 yX9_takesHead : Cond) ∈ bg := List.mem_append_right _ (List.mem_append_left _ (List.mem_of_getElem? (l := bgL_1) (i := 17) rfl))
theorem bg_58 : (.code yX9_takesHead cX9_takesHead 1 (some .boolean) : Cond) ∈ bg := List.mem_append_right _ (List.mem_append_left _ (List.mem_of_getElem? (l := bgL_1) (i := 18) rfl))
theorem bg_59 : (.instanceMethod yX9_takesHead : Cond) ∈ bg := List.mem_append_right _ (List.mem_append_left _ (List.mem_of_getElem? (l := bgL_1) (i := 19) rfl))
theorem bg_60 : (.selects RX9 yX9_takesHead yX9_takesHead : Cond) ∈ bg := List.mem_append_right _ (List.mem_append_left _ (List.mem_of_getElem? (l := bgL_1) (i := 20) rfl))
theorem bg_61 : (.code yX11_place cX11_place 1 (some .int) : Cond) ∈ bg := List.mem_append_right _ (List.mem_append_left _ (List.mem_of_getElem? (l := bgL_1) (i := 21) rfl))
theorem bg_62 : (.code yX11_count cX11_count 2 (some .int) : Cond) ∈ bg := List.mem_append_right _ (List.mem_append_left _ (List.mem_of_getElem? (l := bgL_1) (i := 22) rfl))
theorem bg_63 : (.code yX11_entry cX11_entry 3 (some .int) : Cond) ∈ bg := List.mem_append_right _ (List.mem_append_left _ (List.mem_of_getElem? (l := bgL_1) (i := 23) rfl))
theorem bg_64 : (.fieldLink RX11 103 "ClassGate$ClassFile" "pool" "LClassGate$Pool;" : Cond) ∈ bg := List.mem_append_right _ (List.mem_append_left _ (List.mem_of_getElem? (l := bgL_1) (i := 24) rfl))
theorem bg_65 : (.fieldLink RX11 156 "ClassGate$Pool" "size" "I" : Cond) ∈ bg := List.mem_append_right _ (List.mem_append_left _ (List.mem_of_getElem? (l := bgL_1) (i := 25) rfl))
theorem bg_66 : (.code yX11_bits cX11_bits 4 (some .long) : Cond) ∈ bg := List.mem_append_right _ (List.mem_append_left _ (List.mem_of_getElem? (l := bgL_1) (i := 26) rfl))
theorem bg_67 : (.fieldLink RX11 171 "ClassGate$ClassFile" "bytes" "LClassGate$Bytes;" : Cond) ∈ bg := List.mem_append_right _ (List.mem_append_left _ (List.mem_of_getElem? (l := bgL_1) (i := 27) rfl))
theorem bg_68 : (.constantLong RX11 178 4294967295 : Cond) ∈ bg := List.mem_append_right _ (List.mem_append_left _ (List.mem_of_getElem? (l := bgL_1) (i := 28) rfl))
theorem bg_69 : (.code yX11_character cX11_character 3 (some .int) : Cond) ∈ bg := List.mem_append_right _ (List.mem_append_left _ (List.mem_of_getElem? (l := bgL_1) (i := 29) rfl))
theorem bg_70 : (.code yX11_places cX11_places 2 (some .int) : Cond) ∈ bg := List.mem_append_right _ (List.mem_append_left _ (List.mem_of_getElem? (l := bgL_1) (i := 30) rfl))
theorem bg_71 : (.code yX11_member cX11_member 5 (some .int) : Cond) ∈ bg := List.mem_append_right _ (List.mem_append_left _ (List.mem_of_getElem? (l := bgL_1) (i := 31) rfl))
theorem bg_72 : (.code yX11_find cX11_find 5 (some .int) : Cond) ∈ bg := List.mem_append_right _ (List.mem_append_left _ (List.mem_of_getElem? (l := bgL_1) (i := 32) rfl))
theorem bg_73 : (.fieldLink RX11 198 "ClassGate$ClassFile" "methods" "[LClassGate$Member;" : Cond) ∈ bg := List.mem_append_right _ (List.mem_append_left _ (List.mem_of_getElem? (l := bgL_1) (i := 33) rfl))
theorem bg_74 : (.fieldLink RX11 202 "ClassGate$ClassFile" "fields" "[LClassGate$Member;" : Cond) ∈ bg := List.mem_append_right _ (List.mem_append_left _ (List.mem_of_getElem? (l := bgL_1) (i := 34) rfl))
theorem bg_75 : (.code yX11_row cX11_row 5 (some .int) : Cond) ∈ bg := List.mem_append_right _ (List.mem_append_left _ (List.mem_of_getElem? (l := bgL_1) (i := 35) rfl))
theorem bg_76 : (.methodLink RX11 211 yX11_codeOf : Cond) ∈ bg := List.mem_append_right _ (List.mem_append_left _ (List.mem_of_getElem? (l := bgL_1) (i := 36) rfl))
theorem bg_77 : (.code yX11_codeOf cX11_codeOf 3 (some (.object "ClassGate$Code")) : Cond) ∈ bg := List.mem_append_right _ (List.mem_append_left _ (List.mem_of_getElem? (l := bgL_1) (i := 37) rfl))
theorem bg_78 : (.instanceMethod yX11_codeOf : Cond) ∈ bg := List.mem_append_right _ (List.mem_append_left _ (List.mem_of_getElem? (l := bgL_1) (i := 38) rfl))
theorem bg_79 : (.selects RX11 yX11_codeOf yX11_codeOf : Cond) ∈ bg := List.mem_append_right _ (List.mem_append_left _ (List.mem_of_getElem? (l := bgL_1) (i := 39) rfl))
theorem bg_80 : (.fieldLink RX11 215 "ClassGate$Code" "rowCount" "I" : Cond) ∈ bg := List.mem_append_right _ (List.mem_append_right _ (List.mem_append_left _ (List.mem_of_getElem? (l := bgL_2) (i := 0) rfl)))
theorem bg_81 : (.fieldLink RX11 220 "ClassGate$Code" "rowsAt" "I" : Cond) ∈ bg := List.mem_append_right _ (List.mem_append_right _ (List.mem_append_left _ (List.mem_of_getElem? (l := bgL_2) (i := 1) rfl)))
theorem bg_82 : (.fieldLink RX11 226 "ClassGate$Member" "code" "LClassGate$Code;" : Cond) ∈ bg := List.mem_append_right _ (List.mem_append_right _ (List.mem_append_left _ (List.mem_of_getElem? (l := bgL_2) (i := 2) rfl)))
theorem bg_83 : (.code yX11_bootstrap cX11_bootstrap 3 (some .int) : Cond) ∈ bg := List.mem_append_right _ (List.mem_append_right _ (List.mem_append_left _ (List.mem_of_getElem? (l := bgL_2) (i := 3) rfl)))
theorem bg_84 : (.code yX11_cut cX11_cut 3 (some .int) : Cond) ∈ bg := List.mem_append_right _ (List.mem_append_right _ (List.mem_append_left _ (List.mem_of_getElem? (l := bgL_2) (i := 4) rfl)))
theorem bg_85 : (.code yX11_instruction cX11_instruction 5 (some .int) : Cond) ∈ bg := List.mem_append_right _ (List.mem_append_right _ (List.mem_append_left _ (List.mem_of_getElem? (l := bgL_2) (i := 5) rfl)))
theorem bg_86 : (.code yX11_jump cX11_jump 6 (some .int) : Cond) ∈ bg := List.mem_append_right _ (List.mem_append_right _ (List.mem_append_left _ (List.mem_of_getElem? (l := bgL_2) (i := 6) rfl)))
theorem bg_87 : (.code yX12_thrown cX12_thrown 1 (some .int) : Cond) ∈ bg := List.mem_append_right _ (List.mem_append_right _ (List.mem_append_left _ (List.mem_of_getElem? (l := bgL_2) (i := 7) rfl)))
theorem bg_88 : (.fieldLink RX12 1 "ClassGateModel" "thrown" "I" : Cond) ∈ bg := List.mem_append_right _ (List.mem_append_right _ (List.mem_append_left _ (List.mem_of_getElem? (l := bgL_2) (i := 8) rfl)))
theorem bg_89 : (.code yX12_init cX12_init 1 none : Cond) ∈ bg := List.mem_append_right _ (List.mem_append_right _ (List.mem_append_left _ (List.mem_of_getElem? (l := bgL_2) (i := 9) rfl)))
theorem bg_90 : (.methodLink RX12 7 objectInit : Cond) ∈ bg := List.mem_append_right _ (List.mem_append_right _ (List.mem_append_left _ (List.mem_of_getElem? (l := bgL_2) (i := 10) rfl)))
theorem bg_91 : (.constant RX12 13 66000 : Cond) ∈ bg := List.mem_append_right _ (List.mem_append_right _ (List.mem_append_left _ (List.mem_of_getElem? (l := bgL_2) (i := 11) rfl)))
theorem bg_92 : (.arrayClass .char : Cond) ∈ bg := List.mem_append_right _ (List.mem_append_right _ (List.mem_append_left _ (List.mem_of_getElem? (l := bgL_2) (i := 12) rfl)))
theorem bg_93 : (.fieldLink RX12 14 "ClassGateModel" "chars" "[C" : Cond) ∈ bg := List.mem_append_right _ (List.mem_append_right _ (List.mem_append_left _ (List.mem_of_getElem? (l := bgL_2) (i := 13) rfl)))
theorem bg_94 : (.fieldLink RX12 18 "ClassGateModel" "cut" "[C" : Cond) ∈ bg := List.mem_append_right _ (List.mem_append_right _ (List.mem_append_left _ (List.mem_of_getElem? (l := bgL_2) (i := 14) rfl)))
theorem bg_95 : (.arrayClass .int : Cond) ∈ bg := List.mem_append_right _ (List.mem_append_right _ (List.mem_append_left _ (List.mem_of_getElem? (l := bgL_2) (i := 15) rfl)))
theorem bg_96 : (.fieldLink RX12 21 "ClassGateModel" "symAt" "[I" : Cond) ∈ bg := List.mem_append_right _ (List.mem_append_right _ (List.mem_append_left _ (List.mem_of_getElem? (l := bgL_2) (i := 16) rfl)))
theorem bg_97 : (.fieldLink RX12 25 "ClassGateModel" "symLen" "[I" : Cond) ∈ bg := List.mem_append_right _ (List.mem_append_right _ (List.mem_append_left _ (List.mem_of_getElem? (l := bgL_2) (i := 17) rfl)))
theorem bg_98 : (.fieldLink RX12 28 "ClassGateModel" "symNext" "[I" : Cond) ∈ bg := List.mem_append_right _ (List.mem_append_right _ (List.mem_append_left _ (List.mem_of_getElem? (l := bgL_2) (i := 18) rfl)))
theorem bg_99 : (.fieldLink RX12 31 "ClassGateModel" "symHead" "[I" : Cond) ∈ bg := List.mem_append_right _ (List.mem_append_right _ (List.mem_append_left _ (List.mem_of_getElem? (l := bgL_2) (i := 19) rfl)))
theorem bg_100 : (.constant RX12 34 65600 : Cond) ∈ bg := List.mem_append_right _ (List.mem_append_right _ (List.mem_append_left _ (List.mem_of_getElem? (l := bgL_2) (i := 20) rfl)))
theorem bg_101 : (.fieldLink RX12 35 "ClassGateModel" "files" "[B" : Cond) ∈ bg := List.mem_append_right _ (List.mem_append_right _ (List.mem_append_left _ (List.mem_of_getElem? (l := bgL_2) (i := 21) rfl)))
theorem bg_102 : (.constant RX12 39 65560 : Cond) ∈ bg := List.mem_append_right _ (List.mem_append_right _ (List.mem_append_left _ (List.mem_of_getElem? (l := bgL_2) (i := 22) rfl)))
theorem bg_103 : (.fieldLink RX12 40 "ClassGateModel" "file" "[B" : Cond) ∈ bg := List.mem_append_right _ (List.mem_append_right _ (List.mem_append_left _ (List.mem_of_getElem? (l := bgL_2) (i := 23) rfl)))
theorem bg_104 : (.fieldLink RX12 43 "ClassGateModel" "kept" "[B" : Cond) ∈ bg := List.mem_append_right _ (List.mem_append_right _ (List.mem_append_left _ (List.mem_of_getElem? (l := bgL_2) (i := 24) rfl)))
theorem bg_105 : (.fieldLink RX12 46 "ClassGateModel" "came" "[B" : Cond) ∈ bg := List.mem_append_right _ (List.mem_append_right _ (List.mem_append_left _ (List.mem_of_getElem? (l := bgL_2) (i := 25) rfl)))
theorem bg_106 : (.fieldLink RX12 49 "ClassGateModel" "keptN" "I" : Cond) ∈ bg := List.mem_append_right _ (List.mem_append_right _ (List.mem_append_left _ (List.mem_of_getElem? (l := bgL_2) (i := 26) rfl)))
theorem bg_107 : (.constant RX12 52 65540 : Cond) ∈ bg := List.mem_append_right _ (List.mem_append_right _ (List.mem_append_left _ (List.mem_of_getElem? (l := bgL_2) (i := 27) rfl)))
theorem bg_108 : (.fieldLink RX12 53 "ClassGateModel" "pAt" "[I" : Cond) ∈ bg := List.mem_append_right _ (List.mem_append_right _ (List.mem_append_left _ (List.mem_of_getElem? (l := bgL_2) (i := 28) rfl)))
theorem bg_109 : (.fieldLink RX12 56 "ClassGateModel" "pSym" "[I" : Cond) ∈ bg := List.mem_append_right _ (List.mem_append_right _ (List.mem_append_left _ (List.mem_of_getElem? (l := bgL_2) (i := 29) rfl)))
theorem bg_110 : (.fieldLink RX12 59 "ClassGateModel" "pState" "[I" : Cond) ∈ bg := List.mem_append_right _ (List.mem_append_right _ (List.mem_append_left _ (List.mem_of_getElem? (l := bgL_2) (i := 30) rfl)))
theorem bg_111 : (.fieldLink RX12 62 "ClassGateModel" "pObj" "[I" : Cond) ∈ bg := List.mem_append_right _ (List.mem_append_right _ (List.mem_append_left _ (List.mem_of_getElem? (l := bgL_2) (i := 31) rfl)))
theorem bg_112 : (.fieldLink RX12 65 "ClassGateModel" "fFlags" "[I" : Cond) ∈ bg := List.mem_append_right _ (List.mem_append_right _ (List.mem_append_left _ (List.mem_of_getElem? (l := bgL_2) (i := 32) rfl)))
theorem bg_113 : (.fieldLink RX12 68 "ClassGateModel" "fName" "[I" : Cond) ∈ bg := List.mem_append_right _ (List.mem_append_right _ (List.mem_append_left _ (List.mem_of_getElem? (l := bgL_2) (i := 33) rfl)))
theorem bg_114 : (.fieldLink RX12 71 "ClassGateModel" "fDesc" "[I" : Cond) ∈ bg := List.mem_append_right _ (List.mem_append_right _ (List.mem_append_left _ (List.mem_of_getElem? (l := bgL_2) (i := 34) rfl)))
theorem bg_115 : (.fieldLink RX12 74 "ClassGateModel" "fConst" "[I" : Cond) ∈ bg := List.mem_append_right _ (List.mem_append_right _ (List.mem_append_left _ (List.mem_of_getElem? (l := bgL_2) (i := 35) rfl)))
theorem bg_116 : (.fieldLink RX12 77 "ClassGateModel" "fKnown" "[I" : Cond) ∈ bg := List.mem_append_right _ (List.mem_append_right _ (List.mem_append_left _ (List.mem_of_getElem? (l := bgL_2) (i := 36) rfl)))
theorem bg_117 : (.fieldLink RX12 80 "ClassGateModel" "fNameAt" "[I" : Cond) ∈ bg := List.mem_append_right _ (List.mem_append_right _ (List.mem_append_left _ (List.mem_of_getElem? (l := bgL_2) (i := 37) rfl)))
theorem bg_118 : (.fieldLink RX12 83 "ClassGateModel" "fDescAt" "[I" : Cond) ∈ bg := List.mem_append_right _ (List.mem_append_right _ (List.mem_append_left _ (List.mem_of_getElem? (l := bgL_2) (i := 38) rfl)))
theorem bg_119 : (.fieldLink RX12 86 "ClassGateModel" "mFlags" "[I" : Cond) ∈ bg := List.mem_append_right _ (List.mem_append_right _ (List.mem_append_left _ (List.mem_of_getElem? (l := bgL_2) (i := 39) rfl)))
theorem bg_120 : (.fieldLink RX12 89 "ClassGateModel" "mName" "[I" : Cond) ∈ bg := List.mem_append_right _ (List.mem_append_right _ (List.mem_append_right _ (List.mem_append_left _ (List.mem_of_getElem? (l := bgL_3) (i := 0) rfl))))
theorem bg_121 : (.fieldLink RX12 92 "ClassGateModel" "mDesc" "[I" : Cond) ∈ bg := List.mem_append_right _ (List.mem_append_right _ (List.mem_append_right _ (List.mem_append_left _ (List.mem_of_getElem? (l := bgL_3) (i := 1) rfl))))
theorem bg_122 : (.fieldLink RX12 95 "ClassGateModel" "mCode" "[I" : Cond) ∈ bg := List.mem_append_right _ (List.mem_append_right _ (List.mem_append_right _ (List.mem_append_left _ (List.mem_of_getElem? (l := bgL_3) (i := 2) rfl))))
theorem bg_123 : (.fieldLink RX12 98 "ClassGateModel" "mLen" "[I" : Cond) ∈ bg := List.mem_append_right _ (List.mem_append_right _ (List.mem_append_right _ (List.mem_append_left _ (List.mem_of_getElem? (l := bgL_3) (i := 3) rfl))))
theorem bg_124 : (.fieldLink RX12 101 "ClassGateModel" "mStack" "[I" : Cond) ∈ bg := List.mem_append_right _ (List.mem_append_right _ (List.mem_append_right _ (List.mem_append_left _ (List.mem_of_getElem? (l := bgL_3) (i := 4) rfl))))
theorem bg_125 : (.fieldLink RX12 104 "ClassGateModel" "mLocals" "[I" : Cond) ∈ bg := List.mem_append_right _ (List.mem_append_right _ (List.mem_append_right _ (List.mem_append_left _ (List.mem_of_getElem? (l := bgL_3) (i := 5) rfl))))
theorem bg_126 : (.fieldLink RX12 107 "ClassGateModel" "mRows" "[I" : Cond) ∈ bg := List.mem_append_right _ (List.mem_append_right _ (List.mem_append_right _ (List.mem_append_left _ (List.mem_of_getElem? (l := bgL_3) (i := 6) rfl))))
theorem bg_127 : (.fieldLink RX12 110 "ClassGateModel" "mRowN" "[I" : Cond) ∈ bg := List.mem_append_right _ (List.mem_append_right _ (List.mem_append_right _ (List.mem_append_left _ (List.mem_of_getElem? (l := bgL_3) (i := 7) rfl))))
theorem bg_128 : (.fieldLink RX12 113 "ClassGateModel" "mKnown" "[I" : Cond) ∈ bg := List.mem_append_right _ (List.mem_append_right _ (List.mem_append_right _ (List.mem_append_left _ (List.mem_of_getElem? (l := bgL_3) (i := 8) rfl))))
theorem bg_129 : (.fieldLink RX12 116 "ClassGateModel" "mThrows" "[I" : Cond) ∈ bg := List.mem_append_right _ (List.mem_append_right _ (List.mem_append_right _ (List.mem_append_left _ (List.mem_of_getElem? (l := bgL_3) (i := 9) rfl))))
theorem bg_130 : (.fieldLink RX12 119 "ClassGateModel" "mNameAt" "[I" : Cond) ∈ bg := List.mem_append_right _ (List.mem_append_right _ (List.mem_append_right _ (List.mem_append_left _ (List.mem_of_getElem? (l := bgL_3) (i := 10) rfl))))
theorem bg_131 : (.fieldLink RX12 122 "ClassGateModel" "mDescAt" "[I" : Cond) ∈ bg := List.mem_append_right _ (List.mem_append_right _ (List.mem_append_right _ (List.mem_append_left _ (List.mem_of_getElem? (l := bgL_3) (i := 11) rfl))))
theorem bg_132 : (.classLink RX12 125 RJ0 : Cond) ∈ bg := List.mem_append_right _ (List.mem_append_right _ (List.mem_append_right _ (List.mem_append_left _ (List.mem_of_getElem? (l := bgL_3) (i := 12) rfl))))
theorem bg_133 : (.fieldLink RX12 147 "ClassGateModel" "KNOWN" "[Ljava/lang/String;" : Cond) ∈ bg := List.mem_append_right _ (List.mem_append_right _ (List.mem_append_right _ (List.mem_append_left _ (List.mem_of_getElem? (l := bgL_3) (i := 13) rfl))))
theorem bg_134 : (.fieldLink RX12 151 "ClassGateModel" "KNOWN_IN" "[I" : Cond) ∈ bg := List.mem_append_right _ (List.mem_append_right _ (List.mem_append_right _ (List.mem_append_left _ (List.mem_of_getElem? (l := bgL_3) (i := 14) rfl))))
theorem bg_135 : (.fieldLink RX12 154 "ClassGateModel" "KNOWN_FROM" "[I" : Cond) ∈ bg := List.mem_append_right _ (List.mem_append_right _ (List.mem_append_right _ (List.mem_append_left _ (List.mem_of_getElem? (l := bgL_3) (i := 15) rfl))))
theorem bg_136 : (.fieldLink RX12 157 "ClassGateModel" "lastPlace" "I" : Cond) ∈ bg := List.mem_append_right _ (List.mem_append_right _ (List.mem_append_right _ (List.mem_append_left _ (List.mem_of_getElem? (l := bgL_3) (i := 16) rfl))))
theorem bg_137 : (.fieldLink RX12 160 "ClassGateModel" "cutOf" "I" : Cond) ∈ bg := List.mem_append_right _ (List.mem_append_right _ (List.mem_append_right _ (List.mem_append_left _ (List.mem_of_getElem? (l := bgL_3) (i := 17) rfl))))
theorem bg_138 : (.fieldLink RX12 163 "ClassGateModel" "begins" "[I" : Cond) ∈ bg := List.mem_append_right _ (List.mem_append_right _ (List.mem_append_right _ (List.mem_append_left _ (List.mem_of_getElem? (l := bgL_3) (i := 18) rfl))))
theorem bg_139 : (.fieldLink RX12 166 "ClassGateModel" "which" "[I" : Cond) ∈ bg := List.mem_append_right _ (List.mem_append_right _ (List.mem_append_right _ (List.mem_append_left _ (List.mem_of_getElem? (l := bgL_3) (i := 19) rfl))))
theorem bg_140 : (.methodLink RX12 169 yX12_clear : Cond) ∈ bg := List.mem_append_right _ (List.mem_append_right _ (List.mem_append_right _ (List.mem_append_left _ (List.mem_of_getElem? (l := bgL_3) (i := 20) rfl))))
theorem bg_141 : (.code yX12_clear cX12_clear 2 none : Cond) ∈ bg := List.mem_append_right _ (List.mem_append_right _ (List.mem_append_right _ (List.mem_append_left _ (List.mem_of_getElem? (l := bgL_3) (i := 21) rfl))))
theorem bg_142 : (.instanceMethod yX12_clear : Cond) ∈ bg := List.mem_append_right _ (List.mem_append_right _ (List.mem_append_right _ (List.mem_append_left _ (List.mem_of_getElem? (l := bgL_3) (i := 22) rfl))))
theorem bg_143 : (.selects RX12 yX12_clear yX12_clear : Cond) ∈ bg := List.mem_append_right _ (List.mem_append_right _ (List.mem_append_right _ (List.mem_append_left _ (List.mem_of_getElem? (l := bgL_3) (i := 23) rfl))))
theorem bg_144 : (.initialized RX12 : Cond) ∈ bg := List.mem_append_right _ (List.mem_append_right _ (List.mem_append_right _ (List.mem_append_left _ (List.mem_of_getElem? (l := bgL_3) (i := 24) rfl))))
theorem bg_145 : (.fieldLink RX12 172 "ClassGateModel" "charsN" "I" : Cond) ∈ bg := List.mem_append_right _ (List.mem_append_right _ (List.mem_append_right _ (List.mem_append_left _ (List.mem_of_getElem? (l := bgL_3) (i := 25) rfl))))
theorem bg_146 : (.fieldLink RX12 175 "ClassGateModel" "syms" "I" : Cond) ∈ bg := List.mem_append_right _ (List.mem_append_right _ (List.mem_append_right _ (List.mem_append_left _ (List.mem_of_getElem? (l := bgL_3) (i := 26) rfl))))
theorem bg_147 : (.methodLink RX12 179 yX12_symbol : Cond) ∈ bg := List.mem_append_right _ (List.mem_append_right _ (List.mem_append_right _ (List.mem_append_left _ (List.mem_of_getElem? (l := bgL_3) (i := 27) rfl))))
theorem bg_148 : (.code yX12_symbol cX12_symbol 3 (some .int) : Cond) ∈ bg := List.mem_append_right _ (List.mem_append_right _ (List.mem_append_right _ (List.mem_append_left _ (List.mem_of_getElem? (l := bgL_3) (i := 28) rfl))))
theorem bg_149 : (.instanceMethod yX12_symbol : Cond) ∈ bg := List.mem_append_right _ (List.mem_append_right _ (List.mem_append_right _ (List.mem_append_left _ (List.mem_of_getElem? (l := bgL_3) (i := 29) rfl))))
theorem bg_150 : (.selects RX12 yX12_symbol yX12_symbol : Cond) ∈ bg := List.mem_append_right _ (List.mem_append_right _ (List.mem_append_right _ (List.mem_append_left _ (List.mem_of_getElem? (l := bgL_3) (i := 30) rfl))))
theorem bg_151 : (.fieldLink RX12 183 "ClassGateModel" "S_INIT" "I" : Cond) ∈ bg := List.mem_append_right _ (List.mem_append_right _ (List.mem_append_right _ (List.mem_append_left _ (List.mem_of_getElem? (l := bgL_3) (i := 31) rfl))))
theorem bg_152 : (.fieldLink RX12 188 "ClassGateModel" "S_CLINIT" "I" : Cond) ∈ bg := List.mem_append_right _ (List.mem_append_right _ (List.mem_append_right _ (List.mem_append_left _ (List.mem_of_getElem? (l := bgL_3) (i := 32) rfl))))
theorem bg_153 : (.fieldLink RX12 192 "ClassGateModel" "S_OBJECT" "I" : Cond) ∈ bg := List.mem_append_right _ (List.mem_append_right _ (List.mem_append_right _ (List.mem_append_left _ (List.mem_of_getElem? (l := bgL_3) (i := 33) rfl))))
theorem bg_154 : (.fieldLink RX12 195 "ClassGateModel" "pool" "I" : Cond) ∈ bg := List.mem_append_right _ (List.mem_append_right _ (List.mem_append_right _ (List.mem_append_left _ (List.mem_of_getElem? (l := bgL_3) (i := 34) rfl))))
theorem bg_155 : (.fieldLink RX12 198 "ClassGateModel" "fields" "I" : Cond) ∈ bg := List.mem_append_right _ (List.mem_append_right _ (List.mem_append_right _ (List.mem_append_left _ (List.mem_of_getElem? (l := bgL_3) (i := 35) rfl))))
theorem bg_156 : (.fieldLink RX12 201 "ClassGateModel" "methods" "I" : Cond) ∈ bg := List.mem_append_right _ (List.mem_append_right _ (List.mem_append_right _ (List.mem_append_left _ (List.mem_of_getElem? (l := bgL_3) (i := 36) rfl))))
theorem bg_157 : (.methodLink RX12 204 yJ0_length_8abf5 : Cond) ∈ bg := List.mem_append_right _ (List.mem_append_right _ (List.mem_append_right _ (List.mem_append_left _ (List.mem_of_getElem? (l := bgL_3) (i := 37) rfl))))
theorem bg_158 : (.code yJ0_length_8abf5 cJ0_length_8abf5 1 (some .int) : Cond) ∈ bg := List.mem_append_right _ (List.mem_append_right _ (List.mem_append_right _ (List.mem_append_left _ (List.mem_of_getElem? (l := bgL_3) (i := 38) rfl))))
theorem bg_159 : (.instanceMethod yJ0_length_8abf5 : Cond) ∈ bg := List.mem_append_right _ (List.mem_append_right _ (List.mem_append_right _ (List.mem_append_left _ (List.mem_of_getElem? (l := bgL_3) (i := 39) rfl))))
theorem bg_160 : (.selects RJ0 yJ0_length_8abf5 yJ0_length_8abf5 : Cond) ∈ bg := List.mem_append_right _ (List.mem_append_right _ (List.mem_append_right _ (List.mem_append_right _ (List.mem_append_left _ (List.mem_of_getElem? (l := bgL_4) (i := 0) rfl)))))
theorem bg_161 : (.initialized RJ0 : Cond) ∈ bg := List.mem_append_right _ (List.mem_append_right _ (List.mem_append_right _ (List.mem_append_right _ (List.mem_append_left _ (List.mem_of_getElem? (l := bgL_4) (i := 1) rfl)))))
theorem bg_162 : (.methodLink RX12 208 yJ0_charAt_5068e : Cond) ∈ bg := List.mem_append_right _ (List.mem_append_right _ (List.mem_append_right _ (List.mem_append_right _ (List.mem_append_left _ (List.mem_of_getElem? (l := bgL_4) (i := 2) rfl)))))
theorem bg_163 : (.code yJ0_charAt_5068e cJ0_charAt_5068e 2 (some .char) : Cond) ∈ bg := List.mem_append_right _ (List.mem_append_right _ (List.mem_append_right _ (List.mem_append_right _ (List.mem_append_left _ (List.mem_of_getElem? (l := bgL_4) (i := 3) rfl)))))
theorem bg_164 : (.instanceMethod yJ0_charAt_5068e : Cond) ∈ bg := List.mem_append_right _ (List.mem_append_right _ (List.mem_append_right _ (List.mem_append_right _ (List.mem_append_left _ (List.mem_of_getElem? (l := bgL_4) (i := 4) rfl)))))
theorem bg_165 : (.selects RJ0 yJ0_charAt_5068e yJ0_charAt_5068e : Cond) ∈ bg := List.mem_append_right _ (List.mem_append_right _ (List.mem_append_right _ (List.mem_append_right _ (List.mem_append_left _ (List.mem_of_getElem? (l := bgL_4) (i := 5) rfl)))))
theorem bg_166 : (.methodLink RX12 212 yX12_symbol_ : Cond) ∈ bg := List.mem_append_right _ (List.mem_append_right _ (List.mem_append_right _ (List.mem_append_right _ (List.mem_append_left _ (List.mem_of_getElem? (l := bgL_4) (i := 6) rfl)))))
theorem bg_167 : (.code yX12_symbol_ cX12_symbol_ 6 (some .int) : Cond) ∈ bg := List.mem_append_right _ (List.mem_append_right _ (List.mem_append_right _ (List.mem_append_right _ (List.mem_append_left _ (List.mem_of_getElem? (l := bgL_4) (i := 7) rfl)))))
theorem bg_168 : (.instanceMethod yX12_symbol_ : Cond) ∈ bg := List.mem_append_right _ (List.mem_append_right _ (List.mem_append_right _ (List.mem_append_right _ (List.mem_append_left _ (List.mem_of_getElem? (l := bgL_4) (i := 8) rfl)))))
theorem bg_169 : (.selects RX12 yX12_symbol_ yX12_symbol_ : Cond) ∈ bg := List.mem_append_right _ (List.mem_append_right _ (List.mem_append_right _ (List.mem_append_right _ (List.mem_append_left _ (List.mem_of_getElem? (l := bgL_4) (i := 9) rfl)))))
theorem bg_170 : (.code yX12_wrong cX12_wrong 3 (some .boolean) : Cond) ∈ bg := List.mem_append_right _ (List.mem_append_right _ (List.mem_append_right _ (List.mem_append_right _ (List.mem_append_left _ (List.mem_of_getElem? (l := bgL_4) (i := 10) rfl)))))
theorem bg_171 : (.fieldLink RX12 230 "ClassGateModel" "rule" "I" : Cond) ∈ bg := List.mem_append_right _ (List.mem_append_right _ (List.mem_append_right _ (List.mem_append_right _ (List.mem_append_left _ (List.mem_of_getElem? (l := bgL_4) (i := 11) rfl)))))
theorem bg_172 : (.fieldLink RX12 233 "ClassGateModel" "wrongAt" "I" : Cond) ∈ bg := List.mem_append_right _ (List.mem_append_right _ (List.mem_append_right _ (List.mem_append_right _ (List.mem_append_left _ (List.mem_of_getElem? (l := bgL_4) (i := 12) rfl)))))
theorem bg_173 : (.code yX12_item cX12_item 3 (some .boolean) : Cond) ∈ bg := List.mem_append_right _ (List.mem_append_right _ (List.mem_append_right _ (List.mem_append_right _ (List.mem_append_left _ (List.mem_of_getElem? (l := bgL_4) (i := 13) rfl)))))
theorem bg_174 : (.fieldLink RX12 236 "ClassGateModel" "pos" "I" : Cond) ∈ bg := List.mem_append_right _ (List.mem_append_right _ (List.mem_append_right _ (List.mem_append_right _ (List.mem_append_left _ (List.mem_of_getElem? (l := bgL_4) (i := 14) rfl)))))
theorem bg_175 : (.fieldLink RX12 239 "ClassGateModel" "size" "I" : Cond) ∈ bg := List.mem_append_right _ (List.mem_append_right _ (List.mem_append_right _ (List.mem_append_right _ (List.mem_append_left _ (List.mem_of_getElem? (l := bgL_4) (i := 15) rfl)))))
theorem bg_176 : (.methodLink RX12 242 yX12_wrong : Cond) ∈ bg := List.mem_append_right _ (List.mem_append_right _ (List.mem_append_right _ (List.mem_append_right _ (List.mem_append_left _ (List.mem_of_getElem? (l := bgL_4) (i := 16) rfl)))))
theorem bg_177 : (.instanceMethod yX12_wrong : Cond) ∈ bg := List.mem_append_right _ (List.mem_append_right _ (List.mem_append_right _ (List.mem_append_right _ (List.mem_append_left _ (List.mem_of_getElem? (l := bgL_4) (i := 17) rfl)))))
theorem bg_178 : (.selects RX12 yX12_wrong yX12_wrong : Cond) ∈ bg := List.mem_append_right _ (List.mem_append_right _ (List.mem_append_right _ (List.mem_append_right _ (List.mem_append_left _ (List.mem_of_getElem? (l := bgL_4) (i := 18) rfl)))))
theorem bg_179 : (.code yX12_readFile cX12_readFile 3 (some .boolean) : Cond) ∈ bg := List.mem_append_right _ (List.mem_append_right _ (List.mem_append_right _ (List.mem_append_right _ (List.mem_append_left _ (List.mem_of_getElem? (l := bgL_4) (i := 19) rfl)))))
theorem bg_180 : (.constantLong RX12 252 4 : Cond) ∈ bg := List.mem_append_right _ (List.mem_append_right _ (List.mem_append_right _ (List.mem_append_right _ (List.mem_append_left _ (List.mem_of_getElem? (l := bgL_4) (i := 20) rfl)))))
theorem bg_181 : (.methodLink RX12 254 yX12_item : Cond) ∈ bg := List.mem_append_right _ (List.mem_append_right _ (List.mem_append_right _ (List.mem_append_right _ (List.mem_append_left _ (List.mem_of_getElem? (l := bgL_4) (i := 21) rfl)))))
theorem bg_182 : (.instanceMethod yX12_item : Cond) ∈ bg := List.mem_append_right _ (List.mem_append_right _ (List.mem_append_right _ (List.mem_append_right _ (List.mem_append_left _ (List.mem_of_getElem? (l := bgL_4) (i := 22) rfl)))))
theorem bg_183 : (.selects RX12 yX12_item yX12_item : Cond) ∈ bg := List.mem_append_right _ (List.mem_append_right _ (List.mem_append_right _ (List.mem_append_right _ (List.mem_append_left _ (List.mem_of_getElem? (l := bgL_4) (i := 23) rfl)))))
theorem bg_184 : (.constantLong RX12 262 3405691582 : Cond) ∈ bg := List.mem_append_right _ (List.mem_append_right _ (List.mem_append_right _ (List.mem_append_right _ (List.mem_append_left _ (List.mem_of_getElem? (l := bgL_4) (i := 24) rfl)))))
theorem bg_185 : (.constantLong RX12 264 2 : Cond) ∈ bg := List.mem_append_right _ (List.mem_append_right _ (List.mem_append_right _ (List.mem_append_right _ (List.mem_append_left _ (List.mem_of_getElem? (l := bgL_4) (i := 25) rfl)))))
theorem bg_186 : (.fieldLink RX12 266 "ClassGateModel" "major" "I" : Cond) ∈ bg := List.mem_append_right _ (List.mem_append_right _ (List.mem_append_right _ (List.mem_append_right _ (List.mem_append_left _ (List.mem_of_getElem? (l := bgL_4) (i := 26) rfl)))))
theorem bg_187 : (.fieldLink RX12 246 "ClassGateModel" "cpN" "I" : Cond) ∈ bg := List.mem_append_right _ (List.mem_append_right _ (List.mem_append_right _ (List.mem_append_right _ (List.mem_append_left _ (List.mem_of_getElem? (l := bgL_4) (i := 27) rfl)))))
theorem bg_188 : (.fieldLink RX12 273 "ClassGateModel" "headAt" "I" : Cond) ∈ bg := List.mem_append_right _ (List.mem_append_right _ (List.mem_append_right _ (List.mem_append_right _ (List.mem_append_left _ (List.mem_of_getElem? (l := bgL_4) (i := 28) rfl)))))
theorem bg_189 : (.fieldLink RX12 276 "ClassGateModel" "fieldsAt" "I" : Cond) ∈ bg := List.mem_append_right _ (List.mem_append_right _ (List.mem_append_right _ (List.mem_append_right _ (List.mem_append_left _ (List.mem_of_getElem? (l := bgL_4) (i := 29) rfl)))))
theorem bg_190 : (.fieldLink RX12 282 "ClassGateModel" "methodsAt" "I" : Cond) ∈ bg := List.mem_append_right _ (List.mem_append_right _ (List.mem_append_right _ (List.mem_append_right _ (List.mem_append_left _ (List.mem_of_getElem? (l := bgL_4) (i := 30) rfl)))))
theorem bg_191 : (.fieldLink RX12 285 "ClassGateModel" "attributesAt" "I" : Cond) ∈ bg := List.mem_append_right _ (List.mem_append_right _ (List.mem_append_right _ (List.mem_append_right _ (List.mem_append_left _ (List.mem_of_getElem? (l := bgL_4) (i := 31) rfl)))))
theorem bg_192 : (.code yX12_checkFile cX12_checkFile 3 (some .boolean) : Cond) ∈ bg := List.mem_append_right _ (List.mem_append_right _ (List.mem_append_right _ (List.mem_append_right _ (List.mem_append_left _ (List.mem_of_getElem? (l := bgL_4) (i := 32) rfl)))))
theorem bg_193 : (.fieldLink RX12 401 "ClassGateModel" "newHost" "I" : Cond) ∈ bg := List.mem_append_right _ (List.mem_append_right _ (List.mem_append_right _ (List.mem_append_right _ (List.mem_append_left _ (List.mem_of_getElem? (l := bgL_4) (i := 33) rfl)))))
theorem bg_194 : (.fieldLink RX12 389 "ClassGateModel" "newMembers" "I" : Cond) ∈ bg := List.mem_append_right _ (List.mem_append_right _ (List.mem_append_right _ (List.mem_append_right _ (List.mem_append_left _ (List.mem_of_getElem? (l := bgL_4) (i := 34) rfl)))))
theorem bg_195 : (.fieldLink RX12 392 "ClassGateModel" "newPermitted" "I" : Cond) ∈ bg := List.mem_append_right _ (List.mem_append_right _ (List.mem_append_right _ (List.mem_append_right _ (List.mem_append_left _ (List.mem_of_getElem? (l := bgL_4) (i := 35) rfl)))))
theorem bg_196 : (.fieldLink RX12 395 "ClassGateModel" "newInners" "I" : Cond) ∈ bg := List.mem_append_right _ (List.mem_append_right _ (List.mem_append_right _ (List.mem_append_right _ (List.mem_append_left _ (List.mem_of_getElem? (l := bgL_4) (i := 36) rfl)))))
theorem bg_197 : (.fieldLink RX12 376 "ClassGateModel" "newKnown" "I" : Cond) ∈ bg := List.mem_append_right _ (List.mem_append_right _ (List.mem_append_right _ (List.mem_append_right _ (List.mem_append_left _ (List.mem_of_getElem? (l := bgL_4) (i := 37) rfl)))))
theorem bg_198 : (.fieldLink RX12 407 "ClassGateModel" "newBoot" "I" : Cond) ∈ bg := List.mem_append_right _ (List.mem_append_right _ (List.mem_append_right _ (List.mem_append_right _ (List.mem_append_left _ (List.mem_of_getElem? (l := bgL_4) (i := 38) rfl)))))
theorem bg_199 : (.fieldLink RX12 410 "ClassGateModel" "newBootN" "I" : Cond) ∈ bg := List.mem_append_right _ (List.mem_append_right _ (List.mem_append_right _ (List.mem_append_right _ (List.mem_append_left _ (List.mem_of_getElem? (l := bgL_4) (i := 39) rfl)))))
theorem bg_200 : (.fieldLink RX12 413 "ClassGateModel" "newRecord" "I" : Cond) ∈ bg := List.mem_append_right _ (List.mem_append_right _ (List.mem_append_right _ (List.mem_append_right _ (List.mem_append_right _ (List.mem_append_left _ (List.mem_of_getElem? (l := bgL_5) (i := 0) rfl))))))
theorem bg_201 : (.methodLink RX12 418 yX12_readFile : Cond) ∈ bg := List.mem_append_right _ (List.mem_append_right _ (List.mem_append_right _ (List.mem_append_right _ (List.mem_append_right _ (List.mem_append_left _ (List.mem_of_getElem? (l := bgL_5) (i := 1) rfl))))))
theorem bg_202 : (.instanceMethod yX12_readFile : Cond) ∈ bg := List.mem_append_right _ (List.mem_append_right _ (List.mem_append_right _ (List.mem_append_right _ (List.mem_append_right _ (List.mem_append_left _ (List.mem_of_getElem? (l := bgL_5) (i := 2) rfl))))))
theorem bg_203 : (.selects RX12 yX12_readFile yX12_readFile : Cond) ∈ bg := List.mem_append_right _ (List.mem_append_right _ (List.mem_append_right _ (List.mem_append_right _ (List.mem_append_right _ (List.mem_append_left _ (List.mem_of_getElem? (l := bgL_5) (i := 3) rfl))))))
theorem bg_204 : (.fieldLink RX12 249 "ClassGateModel" "cpBase" "I" : Cond) ∈ bg := List.mem_append_right _ (List.mem_append_right _ (List.mem_append_right _ (List.mem_append_right _ (List.mem_append_right _ (List.mem_append_left _ (List.mem_of_getElem? (l := bgL_5) (i := 4) rfl))))))
theorem bg_205 : (.code yX12_feed cX12_feed 6 (some .int) : Cond) ∈ bg := List.mem_append_right _ (List.mem_append_right _ (List.mem_append_right _ (List.mem_append_right _ (List.mem_append_right _ (List.mem_append_left _ (List.mem_of_getElem? (l := bgL_5) (i := 5) rfl))))))
theorem bg_206 : (.fieldLink RX12 433 "ClassGateModel" "cameN" "I" : Cond) ∈ bg := List.mem_append_right _ (List.mem_append_right _ (List.mem_append_right _ (List.mem_append_right _ (List.mem_append_right _ (List.mem_append_left _ (List.mem_of_getElem? (l := bgL_5) (i := 6) rfl))))))
theorem bg_207 : (.methodLink RX12 436 yX12_four : Cond) ∈ bg := List.mem_append_right _ (List.mem_append_right _ (List.mem_append_right _ (List.mem_append_right _ (List.mem_append_right _ (List.mem_append_left _ (List.mem_of_getElem? (l := bgL_5) (i := 7) rfl))))))
theorem bg_208 : (.code yX12_four cX12_four 3 none : Cond) ∈ bg := List.mem_append_right _ (List.mem_append_right _ (List.mem_append_right _ (List.mem_append_right _ (List.mem_append_right _ (List.mem_append_left _ (List.mem_of_getElem? (l := bgL_5) (i := 8) rfl))))))
theorem bg_209 : (.instanceMethod yX12_four : Cond) ∈ bg := List.mem_append_right _ (List.mem_append_right _ (List.mem_append_right _ (List.mem_append_right _ (List.mem_append_right _ (List.mem_append_left _ (List.mem_of_getElem? (l := bgL_5) (i := 9) rfl))))))
theorem bg_210 : (.selects RX12 yX12_four yX12_four : Cond) ∈ bg := List.mem_append_right _ (List.mem_append_right _ (List.mem_append_right _ (List.mem_append_right _ (List.mem_append_right _ (List.mem_append_left _ (List.mem_of_getElem? (l := bgL_5) (i := 10) rfl))))))
theorem bg_211 : (.code yX12_bad cX12_bad 1 (some .int) : Cond) ∈ bg := List.mem_append_right _ (List.mem_append_right _ (List.mem_append_right _ (List.mem_append_right _ (List.mem_append_right _ (List.mem_append_left _ (List.mem_of_getElem? (l := bgL_5) (i := 11) rfl))))))
theorem bg_212 : (.code yX12_end cX12_end 3 (some .int) : Cond) ∈ bg := List.mem_append_right _ (List.mem_append_right _ (List.mem_append_right _ (List.mem_append_right _ (List.mem_append_right _ (List.mem_append_left _ (List.mem_of_getElem? (l := bgL_5) (i := 12) rfl))))))
theorem bg_213 : (.methodLink RX12 440 yX12_bad : Cond) ∈ bg := List.mem_append_right _ (List.mem_append_right _ (List.mem_append_right _ (List.mem_append_right _ (List.mem_append_right _ (List.mem_append_left _ (List.mem_of_getElem? (l := bgL_5) (i := 13) rfl))))))
theorem bg_214 : (.instanceMethod yX12_bad : Cond) ∈ bg := List.mem_append_right _ (List.mem_append_right _ (List.mem_append_right _ (List.mem_append_right _ (List.mem_append_right _ (List.mem_append_left _ (List.mem_of_getElem? (l := bgL_5) (i := 14) rfl))))))
theorem bg_215 : (.selects RX12 yX12_bad yX12_bad : Cond) ∈ bg := List.mem_append_right _ (List.mem_append_right _ (List.mem_append_right _ (List.mem_append_right _ (List.mem_append_right _ (List.mem_append_left _ (List.mem_of_getElem? (l := bgL_5) (i := 15) rfl))))))
theorem bg_216 : (.fieldLink RX12 443 "ClassGateModel" "fileN" "I" : Cond) ∈ bg := List.mem_append_right _ (List.mem_append_right _ (List.mem_append_right _ (List.mem_append_right _ (List.mem_append_right _ (List.mem_append_left _ (List.mem_of_getElem? (l := bgL_5) (i := 16) rfl))))))
theorem bg_217 : (.code yX12_read cX12_read 4 (some .int) : Cond) ∈ bg := List.mem_append_right _ (List.mem_append_right _ (List.mem_append_right _ (List.mem_append_right _ (List.mem_append_right _ (List.mem_append_left _ (List.mem_of_getElem? (l := bgL_5) (i := 17) rfl))))))
theorem bg_218 : (.methodLink RX12 446 yX12_parse : Cond) ∈ bg := List.mem_append_right _ (List.mem_append_right _ (List.mem_append_right _ (List.mem_append_right _ (List.mem_append_right _ (List.mem_append_left _ (List.mem_of_getElem? (l := bgL_5) (i := 18) rfl))))))
theorem bg_219 : (.code yX12_parse cX12_parse 4 (some .boolean) : Cond) ∈ bg := List.mem_append_right _ (List.mem_append_right _ (List.mem_append_right _ (List.mem_append_right _ (List.mem_append_right _ (List.mem_append_left _ (List.mem_of_getElem? (l := bgL_5) (i := 19) rfl))))))
theorem bg_220 : (.instanceMethod yX12_parse : Cond) ∈ bg := List.mem_append_right _ (List.mem_append_right _ (List.mem_append_right _ (List.mem_append_right _ (List.mem_append_right _ (List.mem_append_left _ (List.mem_of_getElem? (l := bgL_5) (i := 20) rfl))))))
theorem bg_221 : (.selects RX12 yX12_parse yX12_parse : Cond) ∈ bg := List.mem_append_right _ (List.mem_append_right _ (List.mem_append_right _ (List.mem_append_right _ (List.mem_append_right _ (List.mem_append_left _ (List.mem_of_getElem? (l := bgL_5) (i := 21) rfl))))))
theorem bg_222 : (.methodLink RX12 450 yX12_checkFile : Cond) ∈ bg := List.mem_append_right _ (List.mem_append_right _ (List.mem_append_right _ (List.mem_append_right _ (List.mem_append_right _ (List.mem_append_left _ (List.mem_of_getElem? (l := bgL_5) (i := 22) rfl))))))
theorem bg_223 : (.instanceMethod yX12_checkFile : Cond) ∈ bg := List.mem_append_right _ (List.mem_append_right _ (List.mem_append_right _ (List.mem_append_right _ (List.mem_append_right _ (List.mem_append_left _ (List.mem_of_getElem? (l := bgL_5) (i := 23) rfl))))))
theorem bg_224 : (.selects RX12 yX12_checkFile yX12_checkFile : Cond) ∈ bg := List.mem_append_right _ (List.mem_append_right _ (List.mem_append_right _ (List.mem_append_right _ (List.mem_append_right _ (List.mem_append_left _ (List.mem_of_getElem? (l := bgL_5) (i := 24) rfl))))))
theorem bg_225 : (.code yX12_place cX12_place 1 (some .int) : Cond) ∈ bg := List.mem_append_right _ (List.mem_append_right _ (List.mem_append_right _ (List.mem_append_right _ (List.mem_append_right _ (List.mem_append_left _ (List.mem_of_getElem? (l := bgL_5) (i := 25) rfl))))))
theorem bg_226 : (.code yX12_count cX12_count 4 (some .int) : Cond) ∈ bg := List.mem_append_right _ (List.mem_append_right _ (List.mem_append_right _ (List.mem_append_right _ (List.mem_append_right _ (List.mem_append_left _ (List.mem_of_getElem? (l := bgL_5) (i := 26) rfl))))))
theorem bg_227 : (.fieldLink RX12 357 "ClassGateModel" "newIfs" "I" : Cond) ∈ bg := List.mem_append_right _ (List.mem_append_right _ (List.mem_append_right _ (List.mem_append_right _ (List.mem_append_right _ (List.mem_append_left _ (List.mem_of_getElem? (l := bgL_5) (i := 27) rfl))))))
theorem bg_228 : (.fieldLink RX12 344 "ClassGateModel" "newFlags" "I" : Cond) ∈ bg := List.mem_append_right _ (List.mem_append_right _ (List.mem_append_right _ (List.mem_append_right _ (List.mem_append_right _ (List.mem_append_left _ (List.mem_of_getElem? (l := bgL_5) (i := 28) rfl))))))
theorem bg_229 : (.code yX12_entry cX12_entry 4 (some .int) : Cond) ∈ bg := List.mem_append_right _ (List.mem_append_right _ (List.mem_append_right _ (List.mem_append_right _ (List.mem_append_right _ (List.mem_append_left _ (List.mem_of_getElem? (l := bgL_5) (i := 29) rfl))))))
theorem bg_230 : (.code yX12_bits cX12_bits 3 (some .long) : Cond) ∈ bg := List.mem_append_right _ (List.mem_append_right _ (List.mem_append_right _ (List.mem_append_right _ (List.mem_append_right _ (List.mem_append_left _ (List.mem_of_getElem? (l := bgL_5) (i := 30) rfl))))))
theorem bg_231 : (.code yX12_character cX12_character 3 (some .int) : Cond) ∈ bg := List.mem_append_right _ (List.mem_append_right _ (List.mem_append_right _ (List.mem_append_right _ (List.mem_append_right _ (List.mem_append_left _ (List.mem_of_getElem? (l := bgL_5) (i := 31) rfl))))))
theorem bg_232 : (.code yX12_member cX12_member 4 (some .int) : Cond) ∈ bg := List.mem_append_right _ (List.mem_append_right _ (List.mem_append_right _ (List.mem_append_right _ (List.mem_append_right _ (List.mem_append_left _ (List.mem_of_getElem? (l := bgL_5) (i := 32) rfl))))))
theorem bg_233 : (.code yX12_find cX12_find 7 (some .int) : Cond) ∈ bg := List.mem_append_right _ (List.mem_append_right _ (List.mem_append_right _ (List.mem_append_right _ (List.mem_append_right _ (List.mem_append_left _ (List.mem_of_getElem? (l := bgL_5) (i := 33) rfl))))))
theorem bg_234 : (.code yX12_row cX12_row 4 (some .int) : Cond) ∈ bg := List.mem_append_right _ (List.mem_append_right _ (List.mem_append_right _ (List.mem_append_right _ (List.mem_append_right _ (List.mem_append_left _ (List.mem_of_getElem? (l := bgL_5) (i := 34) rfl))))))
theorem bg_235 : (.code yX12_bootstrap cX12_bootstrap 5 (some .int) : Cond) ∈ bg := List.mem_append_right _ (List.mem_append_right _ (List.mem_append_right _ (List.mem_append_right _ (List.mem_append_right _ (List.mem_append_left _ (List.mem_of_getElem? (l := bgL_5) (i := 35) rfl))))))
theorem bg_236 : (.code yX12_places cX12_places 5 (some .int) : Cond) ∈ bg := List.mem_append_right _ (List.mem_append_right _ (List.mem_append_right _ (List.mem_append_right _ (List.mem_append_right _ (List.mem_append_left _ (List.mem_of_getElem? (l := bgL_5) (i := 36) rfl))))))
theorem bg_237 : (.code yX12_noCode cX12_noCode 2 (some .boolean) : Cond) ∈ bg := List.mem_append_right _ (List.mem_append_right _ (List.mem_append_right _ (List.mem_append_right _ (List.mem_append_right _ (List.mem_append_left _ (List.mem_of_getElem? (l := bgL_5) (i := 37) rfl))))))
theorem bg_238 : (.code yX12_cut cX12_cut 2 (some .int) : Cond) ∈ bg := List.mem_append_right _ (List.mem_append_right _ (List.mem_append_right _ (List.mem_append_right _ (List.mem_append_right _ (List.mem_append_left _ (List.mem_of_getElem? (l := bgL_5) (i := 38) rfl))))))
theorem bg_239 : (.methodLink RX12 519 yX12_noCode : Cond) ∈ bg := List.mem_append_right _ (List.mem_append_right _ (List.mem_append_right _ (List.mem_append_right _ (List.mem_append_right _ (List.mem_append_left _ (List.mem_of_getElem? (l := bgL_5) (i := 39) rfl))))))
theorem bg_240 : (.instanceMethod yX12_noCode : Cond) ∈ bg := List.mem_append_right _ (List.mem_append_right _ (List.mem_append_right _ (List.mem_append_right _ (List.mem_append_right _ (List.mem_append_right _ (List.mem_append_left _ (List.mem_of_getElem? (l := bgL_6) (i := 0) rfl)))))))
theorem bg_241 : (.selects RX12 yX12_noCode yX12_noCode : Cond) ∈ bg := List.mem_append_right _ (List.mem_append_right _ (List.mem_append_right _ (List.mem_append_right _ (List.mem_append_right _ (List.mem_append_right _ (List.mem_append_left _ (List.mem_of_getElem? (l := bgL_6) (i := 1) rfl)))))))
theorem bg_242 : (.fieldLink RX12 471 "ClassGateModel" "many" "I" : Cond) ∈ bg := List.mem_append_right _ (List.mem_append_right _ (List.mem_append_right _ (List.mem_append_right _ (List.mem_append_right _ (List.mem_append_right _ (List.mem_append_left _ (List.mem_of_getElem? (l := bgL_6) (i := 2) rfl)))))))
theorem bg_243 : (.fieldLink RX12 462 "ClassGateModel" "wrongCode" "I" : Cond) ∈ bg := List.mem_append_right _ (List.mem_append_right _ (List.mem_append_right _ (List.mem_append_right _ (List.mem_append_right _ (List.mem_append_right _ (List.mem_append_left _ (List.mem_of_getElem? (l := bgL_6) (i := 3) rfl)))))))
theorem bg_244 : (.code yX12_instruction cX12_instruction 6 (some .int) : Cond) ∈ bg := List.mem_append_right _ (List.mem_append_right _ (List.mem_append_right _ (List.mem_append_right _ (List.mem_append_right _ (List.mem_append_right _ (List.mem_append_left _ (List.mem_of_getElem? (l := bgL_6) (i := 4) rfl)))))))
theorem bg_245 : (.code yX12_jump cX12_jump 7 (some .int) : Cond) ∈ bg := List.mem_append_right _ (List.mem_append_right _ (List.mem_append_right _ (List.mem_append_right _ (List.mem_append_right _ (List.mem_append_right _ (List.mem_append_left _ (List.mem_of_getElem? (l := bgL_6) (i := 5) rfl)))))))
theorem bg_246 : (.methodLink RX1 1 objectInit : Cond) ∈ bg := List.mem_append_right _ (List.mem_append_right _ (List.mem_append_right _ (List.mem_append_right _ (List.mem_append_right _ (List.mem_append_right _ (List.mem_append_left _ (List.mem_of_getElem? (l := bgL_6) (i := 6) rfl)))))))
theorem bg_247 : (.fieldLink RX1 7 "ClassGate$Bytes" "data" "[B" : Cond) ∈ bg := List.mem_append_right _ (List.mem_append_right _ (List.mem_append_right _ (List.mem_append_right _ (List.mem_append_right _ (List.mem_append_right _ (List.mem_append_left _ (List.mem_of_getElem? (l := bgL_6) (i := 7) rfl)))))))
theorem bg_248 : (.code yX1_size cX1_size 1 (some .int) : Cond) ∈ bg := List.mem_append_right _ (List.mem_append_right _ (List.mem_append_right _ (List.mem_append_right _ (List.mem_append_right _ (List.mem_append_right _ (List.mem_append_left _ (List.mem_of_getElem? (l := bgL_6) (i := 8) rfl)))))))
theorem bg_249 : (.methodLink RX3 1 objectInit : Cond) ∈ bg := List.mem_append_right _ (List.mem_append_right _ (List.mem_append_right _ (List.mem_append_right _ (List.mem_append_right _ (List.mem_append_right _ (List.mem_append_left _ (List.mem_of_getElem? (l := bgL_6) (i := 9) rfl)))))))
theorem bg_250 : (.fieldLink RX3 7 "ClassGate$ClassFile" "bytes" "LClassGate$Bytes;" : Cond) ∈ bg := List.mem_append_right _ (List.mem_append_right _ (List.mem_append_right _ (List.mem_append_right _ (List.mem_append_right _ (List.mem_append_right _ (List.mem_append_left _ (List.mem_of_getElem? (l := bgL_6) (i := 10) rfl)))))))
theorem bg_251 : (.classLink RX3 13 RX7 : Cond) ∈ bg := List.mem_append_right _ (List.mem_append_right _ (List.mem_append_right _ (List.mem_append_right _ (List.mem_append_right _ (List.mem_append_right _ (List.mem_append_left _ (List.mem_of_getElem? (l := bgL_6) (i := 11) rfl)))))))
theorem bg_252 : (.initialized RX7 : Cond) ∈ bg := List.mem_append_right _ (List.mem_append_right _ (List.mem_append_right _ (List.mem_append_right _ (List.mem_append_right _ (List.mem_append_right _ (List.mem_append_left _ (List.mem_of_getElem? (l := bgL_6) (i := 12) rfl)))))))
theorem bg_253 : (.instantiable RX7 8 : Cond) ∈ bg := List.mem_append_right _ (List.mem_append_right _ (List.mem_append_right _ (List.mem_append_right _ (List.mem_append_right _ (List.mem_append_right _ (List.mem_append_left _ (List.mem_of_getElem? (l := bgL_6) (i := 13) rfl)))))))
theorem bg_254 : (.methodLink RX3 15 yX7_init : Cond) ∈ bg := List.mem_append_right _ (List.mem_append_right _ (List.mem_append_right _ (List.mem_append_right _ (List.mem_append_right _ (List.mem_append_right _ (List.mem_append_left _ (List.mem_of_getElem? (l := bgL_6) (i := 14) rfl)))))))
theorem bg_255 : (.code yX7_init cX7_init 4 none : Cond) ∈ bg := List.mem_append_right _ (List.mem_append_right _ (List.mem_append_right _ (List.mem_append_right _ (List.mem_append_right _ (List.mem_append_right _ (List.mem_append_left _ (List.mem_of_getElem? (l := bgL_6) (i := 15) rfl)))))))
theorem bg_256 : (.instanceMethod yX7_init : Cond) ∈ bg := List.mem_append_right _ (List.mem_append_right _ (List.mem_append_right _ (List.mem_append_right _ (List.mem_append_right _ (List.mem_append_right _ (List.mem_append_left _ (List.mem_of_getElem? (l := bgL_6) (i := 16) rfl)))))))
theorem bg_257 : (.fieldLink RX3 18 "ClassGate$ClassFile" "pool" "LClassGate$Pool;" : Cond) ∈ bg := List.mem_append_right _ (List.mem_append_right _ (List.mem_append_right _ (List.mem_append_right _ (List.mem_append_right _ (List.mem_append_right _ (List.mem_append_left _ (List.mem_of_getElem? (l := bgL_6) (i := 17) rfl)))))))
theorem bg_258 : (.classLink RX3 22 RX6 : Cond) ∈ bg := List.mem_append_right _ (List.mem_append_right _ (List.mem_append_right _ (List.mem_append_right _ (List.mem_append_right _ (List.mem_append_right _ (List.mem_append_left _ (List.mem_of_getElem? (l := bgL_6) (i := 18) rfl)))))))
theorem bg_259 : (.fieldLink RX3 24 "ClassGate$ClassFile" "fields" "[LClassGate$Member;" : Cond) ∈ bg := List.mem_append_right _ (List.mem_append_right _ (List.mem_append_right _ (List.mem_append_right _ (List.mem_append_right _ (List.mem_append_right _ (List.mem_append_left _ (List.mem_of_getElem? (l := bgL_6) (i := 19) rfl)))))))
theorem bg_260 : (.fieldLink RX3 28 "ClassGate$ClassFile" "methods" "[LClassGate$Member;" : Cond) ∈ bg := List.mem_append_right _ (List.mem_append_right _ (List.mem_append_right _ (List.mem_append_right _ (List.mem_append_right _ (List.mem_append_right _ (List.mem_append_left _ (List.mem_of_getElem? (l := bgL_6) (i := 20) rfl)))))))
theorem bg_261 : (.fieldLink RX3 31 "ClassGate$ClassFile" "recordCount" "I" : Cond) ∈ bg := List.mem_append_right _ (List.mem_append_right _ (List.mem_append_right _ (List.mem_append_right _ (List.mem_append_right _ (List.mem_append_right _ (List.mem_append_left _ (List.mem_of_getElem? (l := bgL_6) (i := 21) rfl)))))))
theorem bg_262 : (.methodLink RX7 3 objectInit : Cond) ∈ bg := List.mem_append_right _ (List.mem_append_right _ (List.mem_append_right _ (List.mem_append_right _ (List.mem_append_right _ (List.mem_append_right _ (List.mem_append_left _ (List.mem_of_getElem? (l := bgL_6) (i := 22) rfl)))))))
theorem bg_263 : (.fieldLink RX7 9 "ClassGate$Pool" "size" "I" : Cond) ∈ bg := List.mem_append_right _ (List.mem_append_right _ (List.mem_append_right _ (List.mem_append_right _ (List.mem_append_right _ (List.mem_append_right _ (List.mem_append_left _ (List.mem_of_getElem? (l := bgL_6) (i := 23) rfl)))))))
theorem bg_264 : (.fieldLink RX7 24 "ClassGate$Pool" "tags" "[I" : Cond) ∈ bg := List.mem_append_right _ (List.mem_append_right _ (List.mem_append_right _ (List.mem_append_right _ (List.mem_append_right _ (List.mem_append_right _ (List.mem_append_left _ (List.mem_of_getElem? (l := bgL_6) (i := 24) rfl)))))))
theorem bg_265 : (.fieldLink RX7 28 "ClassGate$Pool" "tagPlaces" "[I" : Cond) ∈ bg := List.mem_append_right _ (List.mem_append_right _ (List.mem_append_right _ (List.mem_append_right _ (List.mem_append_right _ (List.mem_append_right _ (List.mem_append_left _ (List.mem_of_getElem? (l := bgL_6) (i := 25) rfl)))))))
theorem bg_266 : (.fieldLink RX7 31 "ClassGate$Pool" "firsts" "[I" : Cond) ∈ bg := List.mem_append_right _ (List.mem_append_right _ (List.mem_append_right _ (List.mem_append_right _ (List.mem_append_right _ (List.mem_append_right _ (List.mem_append_left _ (List.mem_of_getElem? (l := bgL_6) (i := 26) rfl)))))))
theorem bg_267 : (.fieldLink RX7 34 "ClassGate$Pool" "seconds" "[I" : Cond) ∈ bg := List.mem_append_right _ (List.mem_append_right _ (List.mem_append_right _ (List.mem_append_right _ (List.mem_append_right _ (List.mem_append_right _ (List.mem_append_left _ (List.mem_of_getElem? (l := bgL_6) (i := 27) rfl)))))))
theorem bg_268 : (.fieldLink RX7 37 "ClassGate$Pool" "shapes" "[I" : Cond) ∈ bg := List.mem_append_right _ (List.mem_append_right _ (List.mem_append_right _ (List.mem_append_right _ (List.mem_append_right _ (List.mem_append_right _ (List.mem_append_left _ (List.mem_of_getElem? (l := bgL_6) (i := 28) rfl)))))))
theorem bg_269 : (.fieldLink RX7 40 "ClassGate$Pool" "characters" "[C" : Cond) ∈ bg := List.mem_append_right _ (List.mem_append_right _ (List.mem_append_right _ (List.mem_append_right _ (List.mem_append_right _ (List.mem_append_right _ (List.mem_append_left _ (List.mem_of_getElem? (l := bgL_6) (i := 29) rfl)))))))
theorem bg_270 : (.methodLink RX9 3 objectInit : Cond) ∈ bg := List.mem_append_right _ (List.mem_append_right _ (List.mem_append_right _ (List.mem_append_right _ (List.mem_append_right _ (List.mem_append_right _ (List.mem_append_left _ (List.mem_of_getElem? (l := bgL_6) (i := 30) rfl)))))))
theorem bg_271 : (.fieldLink RX9 9 "ClassGate$Reader" "file" "LClassGate$ClassFile;" : Cond) ∈ bg := List.mem_append_right _ (List.mem_append_right _ (List.mem_append_right _ (List.mem_append_right _ (List.mem_append_right _ (List.mem_append_right _ (List.mem_append_left _ (List.mem_of_getElem? (l := bgL_6) (i := 31) rfl)))))))
theorem bg_272 : (.fieldLink RX9 15 "ClassGate$Reader" "verdict" "LClassGate$Verdict;" : Cond) ∈ bg := List.mem_append_right _ (List.mem_append_right _ (List.mem_append_right _ (List.mem_append_right _ (List.mem_append_right _ (List.mem_append_right _ (List.mem_append_left _ (List.mem_of_getElem? (l := bgL_6) (i := 32) rfl)))))))
theorem bg_273 : (.fieldLink RX9 19 "ClassGate$ClassFile" "bytes" "LClassGate$Bytes;" : Cond) ∈ bg := List.mem_append_right _ (List.mem_append_right _ (List.mem_append_right _ (List.mem_append_right _ (List.mem_append_right _ (List.mem_append_right _ (List.mem_append_left _ (List.mem_of_getElem? (l := bgL_6) (i := 33) rfl)))))))
theorem bg_274 : (.fieldLink RX9 25 "ClassGate$Reader" "bytes" "LClassGate$Bytes;" : Cond) ∈ bg := List.mem_append_right _ (List.mem_append_right _ (List.mem_append_right _ (List.mem_append_right _ (List.mem_append_right _ (List.mem_append_right _ (List.mem_append_left _ (List.mem_of_getElem? (l := bgL_6) (i := 34) rfl)))))))
theorem bg_275 : (.code yX9_takes cX9_takes 2 (some .boolean) : Cond) ∈ bg := List.mem_append_right _ (List.mem_append_right _ (List.mem_append_right _ (List.mem_append_right _ (List.mem_append_right _ (List.mem_append_right _ (List.mem_append_left _ (List.mem_of_getElem? (l := bgL_6) (i := 35) rfl)))))))
theorem bg_276 : (.methodLink RX9 26 yX1_size : Cond) ∈ bg := List.mem_append_right _ (List.mem_append_right _ (List.mem_append_right _ (List.mem_append_right _ (List.mem_append_right _ (List.mem_append_right _ (List.mem_append_left _ (List.mem_of_getElem? (l := bgL_6) (i := 36) rfl)))))))
theorem bg_277 : (.instanceMethod yX1_size : Cond) ∈ bg := List.mem_append_right _ (List.mem_append_right _ (List.mem_append_right _ (List.mem_append_right _ (List.mem_append_right _ (List.mem_append_right _ (List.mem_append_left _ (List.mem_of_getElem? (l := bgL_6) (i := 37) rfl)))))))
theorem bg_278 : (.selects RX1 yX1_size yX1_size : Cond) ∈ bg := List.mem_append_right _ (List.mem_append_right _ (List.mem_append_right _ (List.mem_append_right _ (List.mem_append_right _ (List.mem_append_right _ (List.mem_append_left _ (List.mem_of_getElem? (l := bgL_6) (i := 38) rfl)))))))
theorem bg_279 : (.fieldLink RX9 32 "ClassGate$Reader" "at" "I" : Cond) ∈ bg := List.mem_append_right _ (List.mem_append_right _ (List.mem_append_right _ (List.mem_append_right _ (List.mem_append_right _ (List.mem_append_right _ (List.mem_append_left _ (List.mem_of_getElem? (l := bgL_6) (i := 39) rfl)))))))
theorem bg_280 : (.methodLink RX9 36 yX10_wrong : Cond) ∈ bg := List.mem_append_right _ (List.mem_append_right _ (List.mem_append_right _ (List.mem_append_right _ (List.mem_append_right _ (List.mem_append_right _ (List.mem_append_right _ (List.mem_append_left _ (List.mem_of_getElem? (l := bgL_7) (i := 0) rfl))))))))
theorem bg_281 : (.code yX10_wrong cX10_wrong 3 (some .boolean) : Cond) ∈ bg := List.mem_append_right _ (List.mem_append_right _ (List.mem_append_right _ (List.mem_append_right _ (List.mem_append_right _ (List.mem_append_right _ (List.mem_append_right _ (List.mem_append_left _ (List.mem_of_getElem? (l := bgL_7) (i := 1) rfl))))))))
theorem bg_282 : (.instanceMethod yX10_wrong : Cond) ∈ bg := List.mem_append_right _ (List.mem_append_right _ (List.mem_append_right _ (List.mem_append_right _ (List.mem_append_right _ (List.mem_append_right _ (List.mem_append_right _ (List.mem_append_left _ (List.mem_of_getElem? (l := bgL_7) (i := 2) rfl))))))))
theorem bg_283 : (.selects RX10 yX10_wrong yX10_wrong : Cond) ∈ bg := List.mem_append_right _ (List.mem_append_right _ (List.mem_append_right _ (List.mem_append_right _ (List.mem_append_right _ (List.mem_append_right _ (List.mem_append_right _ (List.mem_append_left _ (List.mem_of_getElem? (l := bgL_7) (i := 3) rfl))))))))
theorem bg_284 : (.fieldLink RX9 46 "ClassGate$Reader" "item" "I" : Cond) ∈ bg := List.mem_append_right _ (List.mem_append_right _ (List.mem_append_right _ (List.mem_append_right _ (List.mem_append_right _ (List.mem_append_right _ (List.mem_append_right _ (List.mem_append_left _ (List.mem_of_getElem? (l := bgL_7) (i := 4) rfl))))))))
theorem bg_285 : (.methodLink RX9 55 yX9_takes : Cond) ∈ bg := List.mem_append_right _ (List.mem_append_right _ (List.mem_append_right _ (List.mem_append_right _ (List.mem_append_right _ (List.mem_append_right _ (List.mem_append_right _ (List.mem_append_left _ (List.mem_of_getElem? (l := bgL_7) (i := 5) rfl))))))))
theorem bg_286 : (.instanceMethod yX9_takes : Cond) ∈ bg := List.mem_append_right _ (List.mem_append_right _ (List.mem_append_right _ (List.mem_append_right _ (List.mem_append_right _ (List.mem_append_right _ (List.mem_append_right _ (List.mem_append_left _ (List.mem_of_getElem? (l := bgL_7) (i := 6) rfl))))))))
theorem bg_287 : (.selects RX9 yX9_takes yX9_takes : Cond) ∈ bg := List.mem_append_right _ (List.mem_append_right _ (List.mem_append_right _ (List.mem_append_right _ (List.mem_append_right _ (List.mem_append_right _ (List.mem_append_right _ (List.mem_append_left _ (List.mem_of_getElem? (l := bgL_7) (i := 7) rfl))))))))
theorem bg_288 : (.constant RX9 59 (-889275714) : Cond) ∈ bg := List.mem_append_right _ (List.mem_append_right _ (List.mem_append_right _ (List.mem_append_right _ (List.mem_append_right _ (List.mem_append_right _ (List.mem_append_right _ (List.mem_append_left _ (List.mem_of_getElem? (l := bgL_7) (i := 8) rfl))))))))
theorem bg_289 : (.fieldLink RX9 60 "ClassGate$ClassFile" "minor" "I" : Cond) ∈ bg := List.mem_append_right _ (List.mem_append_right _ (List.mem_append_right _ (List.mem_append_right _ (List.mem_append_right _ (List.mem_append_right _ (List.mem_append_right _ (List.mem_append_left _ (List.mem_of_getElem? (l := bgL_7) (i := 9) rfl))))))))
theorem bg_290 : (.fieldLink RX9 63 "ClassGate$ClassFile" "major" "I" : Cond) ∈ bg := List.mem_append_right _ (List.mem_append_right _ (List.mem_append_right _ (List.mem_append_right _ (List.mem_append_right _ (List.mem_append_right _ (List.mem_append_right _ (List.mem_append_left _ (List.mem_of_getElem? (l := bgL_7) (i := 10) rfl))))))))
theorem bg_291 : (.methodLink RX10 1 objectInit : Cond) ∈ bg := List.mem_append_right _ (List.mem_append_right _ (List.mem_append_right _ (List.mem_append_right _ (List.mem_append_right _ (List.mem_append_right _ (List.mem_append_right _ (List.mem_append_left _ (List.mem_of_getElem? (l := bgL_7) (i := 11) rfl))))))))
theorem bg_292 : (.fieldLink RX10 7 "ClassGate$Verdict" "wrongAt" "I" : Cond) ∈ bg := List.mem_append_right _ (List.mem_append_right _ (List.mem_append_right _ (List.mem_append_right _ (List.mem_append_right _ (List.mem_append_right _ (List.mem_append_right _ (List.mem_append_left _ (List.mem_of_getElem? (l := bgL_7) (i := 12) rfl))))))))
theorem bg_293 : (.fieldLink RX10 13 "ClassGate$Verdict" "rule" "I" : Cond) ∈ bg := List.mem_append_right _ (List.mem_append_right _ (List.mem_append_right _ (List.mem_append_right _ (List.mem_append_right _ (List.mem_append_right _ (List.mem_append_right _ (List.mem_append_left _ (List.mem_of_getElem? (l := bgL_7) (i := 13) rfl))))))))
theorem bg_294 : (.fieldLink RJ0 9 "java/lang/String" "value" "[B" : Cond) ∈ bg := List.mem_append_right _ (List.mem_append_right _ (List.mem_append_right _ (List.mem_append_right _ (List.mem_append_right _ (List.mem_append_right _ (List.mem_append_right _ (List.mem_append_left _ (List.mem_of_getElem? (l := bgL_7) (i := 14) rfl))))))))
theorem bg_295 : (.methodLink RJ0 335 yJ0_coder_7d493 : Cond) ∈ bg := List.mem_append_right _ (List.mem_append_right _ (List.mem_append_right _ (List.mem_append_right _ (List.mem_append_right _ (List.mem_append_right _ (List.mem_append_right _ (List.mem_append_left _ (List.mem_of_getElem? (l := bgL_7) (i := 15) rfl))))))))
theorem bg_296 : (.code yJ0_coder_7d493 cJ0_coder_7d493 1 (some .byte) : Cond) ∈ bg := List.mem_append_right _ (List.mem_append_right _ (List.mem_append_right _ (List.mem_append_right _ (List.mem_append_right _ (List.mem_append_right _ (List.mem_append_right _ (List.mem_append_left _ (List.mem_of_getElem? (l := bgL_7) (i := 16) rfl))))))))
theorem bg_297 : (.instanceMethod yJ0_coder_7d493 : Cond) ∈ bg := List.mem_append_right _ (List.mem_append_right _ (List.mem_append_right _ (List.mem_append_right _ (List.mem_append_right _ (List.mem_append_right _ (List.mem_append_right _ (List.mem_append_left _ (List.mem_of_getElem? (l := bgL_7) (i := 17) rfl))))))))
theorem bg_298 : (.selects RJ0 yJ0_coder_7d493 yJ0_coder_7d493 : Cond) ∈ bg := List.mem_append_right _ (List.mem_append_right _ (List.mem_append_right _ (List.mem_append_right _ (List.mem_append_right _ (List.mem_append_right _ (List.mem_append_right _ (List.mem_append_left _ (List.mem_of_getElem? (l := bgL_7) (i := 18) rfl))))))))
theorem bg_299 : (.methodLink RJ0 492 yJ0_isLatin1_aae02 : Cond) ∈ bg := List.mem_append_right _ (List.mem_append_right _ (List.mem_append_right _ (List.mem_append_right _ (List.mem_append_right _ (List.mem_append_right _ (List.mem_append_right _ (List.mem_append_left _ (List.mem_of_getElem? (l := bgL_7) (i := 19) rfl))))))))
theorem bg_300 : (.code yJ0_isLatin1_aae02 cJ0_isLatin1_aae02 1 (some .boolean) : Cond) ∈ bg := List.mem_append_right _ (List.mem_append_right _ (List.mem_append_right _ (List.mem_append_right _ (List.mem_append_right _ (List.mem_append_right _ (List.mem_append_right _ (List.mem_append_left _ (List.mem_of_getElem? (l := bgL_7) (i := 20) rfl))))))))
theorem bg_301 : (.instanceMethod yJ0_isLatin1_aae02 : Cond) ∈ bg := List.mem_append_right _ (List.mem_append_right _ (List.mem_append_right _ (List.mem_append_right _ (List.mem_append_right _ (List.mem_append_right _ (List.mem_append_right _ (List.mem_append_left _ (List.mem_of_getElem? (l := bgL_7) (i := 21) rfl))))))))
theorem bg_302 : (.selects RJ0 yJ0_isLatin1_aae02 yJ0_isLatin1_aae02 : Cond) ∈ bg := List.mem_append_right _ (List.mem_append_right _ (List.mem_append_right _ (List.mem_append_right _ (List.mem_append_right _ (List.mem_append_right _ (List.mem_append_right _ (List.mem_append_left _ (List.mem_of_getElem? (l := bgL_7) (i := 22) rfl))))))))
theorem bg_303 : (.methodLink RJ0 495 yJ1_charAt_3b067 : Cond) ∈ bg := List.mem_append_right _ (List.mem_append_right _ (List.mem_append_right _ (List.mem_append_right _ (List.mem_append_right _ (List.mem_append_right _ (List.mem_append_right _ (List.mem_append_left _ (List.mem_of_getElem? (l := bgL_7) (i := 23) rfl))))))))
theorem bg_304 : (.code yJ1_charAt_3b067 cJ1_charAt_3b067 2 (some .char) : Cond) ∈ bg := List.mem_append_right _ (List.mem_append_right _ (List.mem_append_right _ (List.mem_append_right _ (List.mem_append_right _ (List.mem_append_right _ (List.mem_append_right _ (List.mem_append_left _ (List.mem_of_getElem? (l := bgL_7) (i := 24) rfl))))))))
theorem bg_305 : (.static yJ1_charAt_3b067 : Cond) ∈ bg := List.mem_append_right _ (List.mem_append_right _ (List.mem_append_right _ (List.mem_append_right _ (List.mem_append_right _ (List.mem_append_right _ (List.mem_append_right _ (List.mem_append_left _ (List.mem_of_getElem? (l := bgL_7) (i := 25) rfl))))))))
theorem bg_306 : (.initialized RJ1 : Cond) ∈ bg := List.mem_append_right _ (List.mem_append_right _ (List.mem_append_right _ (List.mem_append_right _ (List.mem_append_right _ (List.mem_append_right _ (List.mem_append_right _ (List.mem_append_left _ (List.mem_of_getElem? (l := bgL_7) (i := 26) rfl))))))))
theorem bg_307 : (.fieldLink RJ0 38 "java/lang/String" "COMPACT_STRINGS" "Z" : Cond) ∈ bg := List.mem_append_right _ (List.mem_append_right _ (List.mem_append_right _ (List.mem_append_right _ (List.mem_append_right _ (List.mem_append_right _ (List.mem_append_right _ (List.mem_append_left _ (List.mem_of_getElem? (l := bgL_7) (i := 27) rfl))))))))
theorem bg_308 : (.fieldLink RJ0 15 "java/lang/String" "coder" "B" : Cond) ∈ bg := List.mem_append_right _ (List.mem_append_right _ (List.mem_append_right _ (List.mem_append_right _ (List.mem_append_right _ (List.mem_append_right _ (List.mem_append_right _ (List.mem_append_left _ (List.mem_of_getElem? (l := bgL_7) (i := 28) rfl))))))))
theorem bg_309 : (.code yJ0_checkIndex_df160 cJ0_checkIndex_df160 2 none : Cond) ∈ bg := List.mem_append_right _ (List.mem_append_right _ (List.mem_append_right _ (List.mem_append_right _ (List.mem_append_right _ (List.mem_append_right _ (List.mem_append_right _ (List.mem_append_left _ (List.mem_of_getElem? (l := bgL_7) (i := 29) rfl))))))))
theorem bg_310 : (.fieldLink RJ0 1053 "jdk/internal/util/Preconditions" "SIOOBE_FORMATTER" "Ljava/util/function/BiFunction;" : Cond) ∈ bg := List.mem_append_right _ (List.mem_append_right _ (List.mem_append_right _ (List.mem_append_right _ (List.mem_append_right _ (List.mem_append_right _ (List.mem_append_right _ (List.mem_append_left _ (List.mem_of_getElem? (l := bgL_7) (i := 30) rfl))))))))
theorem bg_311 : (.methodLink RJ0 1059 yJ3_checkIndex_8e157 : Cond) ∈ bg := List.mem_append_right _ (List.mem_append_right _ (List.mem_append_right _ (List.mem_append_right _ (List.mem_append_right _ (List.mem_append_right _ (List.mem_append_right _ (List.mem_append_left _ (List.mem_of_getElem? (l := bgL_7) (i := 31) rfl))))))))
theorem bg_312 : (.code yJ3_checkIndex_8e157 cJ3_checkIndex_8e157 3 (some .int) : Cond) ∈ bg := List.mem_append_right _ (List.mem_append_right _ (List.mem_append_right _ (List.mem_append_right _ (List.mem_append_right _ (List.mem_append_right _ (List.mem_append_right _ (List.mem_append_left _ (List.mem_of_getElem? (l := bgL_7) (i := 32) rfl))))))))
theorem bg_313 : (.static yJ3_checkIndex_8e157 : Cond) ∈ bg := List.mem_append_right _ (List.mem_append_right _ (List.mem_append_right _ (List.mem_append_right _ (List.mem_append_right _ (List.mem_append_right _ (List.mem_append_right _ (List.mem_append_left _ (List.mem_of_getElem? (l := bgL_7) (i := 33) rfl))))))))
theorem bg_314 : (.initialized RJ3 : Cond) ∈ bg := List.mem_append_right _ (List.mem_append_right _ (List.mem_append_right _ (List.mem_append_right _ (List.mem_append_right _ (List.mem_append_right _ (List.mem_append_right _ (List.mem_append_left _ (List.mem_of_getElem? (l := bgL_7) (i := 34) rfl))))))))
theorem bg_315 : (.methodLink RJ1 9 yJ0_checkIndex_df160 : Cond) ∈ bg := List.mem_append_right _ (List.mem_append_right _ (List.mem_append_right _ (List.mem_append_right _ (List.mem_append_right _ (List.mem_append_right _ (List.mem_append_right _ (List.mem_append_left _ (List.mem_of_getElem? (l := bgL_7) (i := 35) rfl))))))))
theorem bg_316 : (.static yJ0_checkIndex_df160 : Cond) ∈ bg := List.mem_append_right _ (List.mem_append_right _ (List.mem_append_right _ (List.mem_append_right _ (List.mem_append_right _ (List.mem_append_right _ (List.mem_append_right _ (List.mem_append_left _ (List.mem_of_getElem? (l := bgL_7) (i := 36) rfl))))))))
theorem bg_317 : (.codeWith yL_feed cL_feed 8 (some .int) [(0, 16, 19, 13)] : Cond) ∈ bg := List.mem_append_right _ (List.mem_append_right _ (List.mem_append_right _ (List.mem_append_right _ (List.mem_append_right _ (List.mem_append_right _ (List.mem_append_right _ (List.mem_append_left _ (List.mem_of_getElem? (l := bgL_7) (i := 37) rfl))))))))
theorem bg_318 : (.methodLink RL 7 yX11_feed : Cond) ∈ bg := List.mem_append_right _ (List.mem_append_right _ (List.mem_append_right _ (List.mem_append_right _ (List.mem_append_right _ (List.mem_append_right _ (List.mem_append_right _ (List.mem_append_left _ (List.mem_of_getElem? (l := bgL_7) (i := 38) rfl))))))))
theorem bg_319 : (.instanceMethod yX11_feed : Cond) ∈ bg := List.mem_append_right _ (List.mem_append_right _ (List.mem_append_right _ (List.mem_append_right _ (List.mem_append_right _ (List.mem_append_right _ (List.mem_append_right _ (List.mem_append_left _ (List.mem_of_getElem? (l := bgL_7) (i := 39) rfl))))))))
theorem bg_320 : (.selects RX11 yX11_feed yX11_feed : Cond) ∈ bg := List.mem_append_right _ (List.mem_append_right _ (List.mem_append_right _ (List.mem_append_right _ (List.mem_append_right _ (List.mem_append_right _ (List.mem_append_right _ (List.mem_append_right _ (List.mem_append_left _ (List.mem_of_getElem? (l := bgL_8) (i := 0) rfl)))))))))
theorem bg_321 : (.codeWith yL_end cL_end 4 (some .int) [(0, 9, 12, 19)] : Cond) ∈ bg := List.mem_append_right _ (List.mem_append_right _ (List.mem_append_right _ (List.mem_append_right _ (List.mem_append_right _ (List.mem_append_right _ (List.mem_append_right _ (List.mem_append_right _ (List.mem_append_left _ (List.mem_of_getElem? (l := bgL_8) (i := 1) rfl)))))))))
theorem bg_322 : (.methodLink RL 15 yX11_end : Cond) ∈ bg := List.mem_append_right _ (List.mem_append_right _ (List.mem_append_right _ (List.mem_append_right _ (List.mem_append_right _ (List.mem_append_right _ (List.mem_append_right _ (List.mem_append_right _ (List.mem_append_left _ (List.mem_of_getElem? (l := bgL_8) (i := 2) rfl)))))))))
theorem bg_323 : (.instanceMethod yX11_end : Cond) ∈ bg := List.mem_append_right _ (List.mem_append_right _ (List.mem_append_right _ (List.mem_append_right _ (List.mem_append_right _ (List.mem_append_right _ (List.mem_append_right _ (List.mem_append_right _ (List.mem_append_left _ (List.mem_of_getElem? (l := bgL_8) (i := 3) rfl)))))))))
theorem bg_324 : (.selects RX11 yX11_end yX11_end : Cond) ∈ bg := List.mem_append_right _ (List.mem_append_right _ (List.mem_append_right _ (List.mem_append_right _ (List.mem_append_right _ (List.mem_append_right _ (List.mem_append_right _ (List.mem_append_right _ (List.mem_append_left _ (List.mem_of_getElem? (l := bgL_8) (i := 4) rfl)))))))))
theorem bg_325 : (.codeWith yL_count cL_count 4 (some .int) [(0, 9, 12, 19)] : Cond) ∈ bg := List.mem_append_right _ (List.mem_append_right _ (List.mem_append_right _ (List.mem_append_right _ (List.mem_append_right _ (List.mem_append_right _ (List.mem_append_right _ (List.mem_append_right _ (List.mem_append_left _ (List.mem_of_getElem? (l := bgL_8) (i := 5) rfl)))))))))
theorem bg_326 : (.methodLink RL 21 yX11_count : Cond) ∈ bg := List.mem_append_right _ (List.mem_append_right _ (List.mem_append_right _ (List.mem_append_right _ (List.mem_append_right _ (List.mem_append_right _ (List.mem_append_right _ (List.mem_append_right _ (List.mem_append_left _ (List.mem_of_getElem? (l := bgL_8) (i := 6) rfl)))))))))
theorem bg_327 : (.instanceMethod yX11_count : Cond) ∈ bg := List.mem_append_right _ (List.mem_append_right _ (List.mem_append_right _ (List.mem_append_right _ (List.mem_append_right _ (List.mem_append_right _ (List.mem_append_right _ (List.mem_append_right _ (List.mem_append_left _ (List.mem_of_getElem? (l := bgL_8) (i := 7) rfl)))))))))
theorem bg_328 : (.selects RX11 yX11_count yX11_count : Cond) ∈ bg := List.mem_append_right _ (List.mem_append_right _ (List.mem_append_right _ (List.mem_append_right _ (List.mem_append_right _ (List.mem_append_right _ (List.mem_append_right _ (List.mem_append_right _ (List.mem_append_left _ (List.mem_of_getElem? (l := bgL_8) (i := 8) rfl)))))))))
theorem bg_329 : (.codeWith yL_entry cL_entry 5 (some .int) [(0, 10, 13, 19)] : Cond) ∈ bg := List.mem_append_right _ (List.mem_append_right _ (List.mem_append_right _ (List.mem_append_right _ (List.mem_append_right _ (List.mem_append_right _ (List.mem_append_right _ (List.mem_append_right _ (List.mem_append_left _ (List.mem_of_getElem? (l := bgL_8) (i := 9) rfl)))))))))
theorem bg_330 : (.methodLink RL 24 yX11_entry : Cond) ∈ bg := List.mem_append_right _ (List.mem_append_right _ (List.mem_append_right _ (List.mem_append_right _ (List.mem_append_right _ (List.mem_append_right _ (List.mem_append_right _ (List.mem_append_right _ (List.mem_append_left _ (List.mem_of_getElem? (l := bgL_8) (i := 10) rfl)))))))))
theorem bg_331 : (.instanceMethod yX11_entry : Cond) ∈ bg := List.mem_append_right _ (List.mem_append_right _ (List.mem_append_right _ (List.mem_append_right _ (List.mem_append_right _ (List.mem_append_right _ (List.mem_append_right _ (List.mem_append_right _ (List.mem_append_left _ (List.mem_of_getElem? (l := bgL_8) (i := 11) rfl)))))))))
theorem bg_332 : (.selects RX11 yX11_entry yX11_entry : Cond) ∈ bg := List.mem_append_right _ (List.mem_append_right _ (List.mem_append_right _ (List.mem_append_right _ (List.mem_append_right _ (List.mem_append_right _ (List.mem_append_right _ (List.mem_append_right _ (List.mem_append_left _ (List.mem_of_getElem? (l := bgL_8) (i := 12) rfl)))))))))
theorem bg_333 : (.codeWith yL_member cL_member 6 (some .int) [(0, 12, 15, 19)] : Cond) ∈ bg := List.mem_append_right _ (List.mem_append_right _ (List.mem_append_right _ (List.mem_append_right _ (List.mem_append_right _ (List.mem_append_right _ (List.mem_append_right _ (List.mem_append_right _ (List.mem_append_left _ (List.mem_of_getElem? (l := bgL_8) (i := 13) rfl)))))))))
theorem bg_334 : (.methodLink RL 28 yX11_member : Cond) ∈ bg := List.mem_append_right _ (List.mem_append_right _ (List.mem_append_right _ (List.mem_append_right _ (List.mem_append_right _ (List.mem_append_right _ (List.mem_append_right _ (List.mem_append_right _ (List.mem_append_left _ (List.mem_of_getElem? (l := bgL_8) (i := 14) rfl)))))))))
theorem bg_335 : (.instanceMethod yX11_member : Cond) ∈ bg := List.mem_append_right _ (List.mem_append_right _ (List.mem_append_right _ (List.mem_append_right _ (List.mem_append_right _ (List.mem_append_right _ (List.mem_append_right _ (List.mem_append_right _ (List.mem_append_left _ (List.mem_of_getElem? (l := bgL_8) (i := 15) rfl)))))))))
theorem bg_336 : (.selects RX11 yX11_member yX11_member : Cond) ∈ bg := List.mem_append_right _ (List.mem_append_right _ (List.mem_append_right _ (List.mem_append_right _ (List.mem_append_right _ (List.mem_append_right _ (List.mem_append_right _ (List.mem_append_right _ (List.mem_append_left _ (List.mem_of_getElem? (l := bgL_8) (i := 16) rfl)))))))))
theorem bg_337 : (.codeWith yL_row cL_row 6 (some .int) [(0, 12, 15, 19)] : Cond) ∈ bg := List.mem_append_right _ (List.mem_append_right _ (List.mem_append_right _ (List.mem_append_right _ (List.mem_append_right _ (List.mem_append_right _ (List.mem_append_right _ (List.mem_append_right _ (List.mem_append_left _ (List.mem_of_getElem? (l := bgL_8) (i := 17) rfl)))))))))
theorem bg_338 : (.methodLink RL 32 yX11_row : Cond) ∈ bg := List.mem_append_right _ (List.mem_append_right _ (List.mem_append_right _ (List.mem_append_right _ (List.mem_append_right _ (List.mem_append_right _ (List.mem_append_right _ (List.mem_append_right _ (List.mem_append_left _ (List.mem_of_getElem? (l := bgL_8) (i := 18) rfl)))))))))
theorem bg_339 : (.instanceMethod yX11_row : Cond) ∈ bg := List.mem_append_right _ (List.mem_append_right _ (List.mem_append_right _ (List.mem_append_right _ (List.mem_append_right _ (List.mem_append_right _ (List.mem_append_right _ (List.mem_append_right _ (List.mem_append_left _ (List.mem_of_getElem? (l := bgL_8) (i := 19) rfl)))))))))
theorem bg_340 : (.selects RX11 yX11_row yX11_row : Cond) ∈ bg := List.mem_append_right _ (List.mem_append_right _ (List.mem_append_right _ (List.mem_append_right _ (List.mem_append_right _ (List.mem_append_right _ (List.mem_append_right _ (List.mem_append_right _ (List.mem_append_left _ (List.mem_of_getElem? (l := bgL_8) (i := 20) rfl)))))))))
theorem bg_341 : (.codeWith yL_instruction cL_instruction 6 (some .int) [(0, 12, 15, 19)] : Cond) ∈ bg := List.mem_append_right _ (List.mem_append_right _ (List.mem_append_right _ (List.mem_append_right _ (List.mem_append_right _ (List.mem_append_right _ (List.mem_append_right _ (List.mem_append_right _ (List.mem_append_left _ (List.mem_of_getElem? (l := bgL_8) (i := 21) rfl)))))))))
theorem bg_342 : (.methodLink RL 36 yX11_instruction : Cond) ∈ bg := List.mem_append_right _ (List.mem_append_right _ (List.mem_append_right _ (List.mem_append_right _ (List.mem_append_right _ (List.mem_append_right _ (List.mem_append_right _ (List.mem_append_right _ (List.mem_append_left _ (List.mem_of_getElem? (l := bgL_8) (i := 22) rfl)))))))))
theorem bg_343 : (.instanceMethod yX11_instruction : Cond) ∈ bg := List.mem_append_right _ (List.mem_append_right _ (List.mem_append_right _ (List.mem_append_right _ (List.mem_append_right _ (List.mem_append_right _ (List.mem_append_right _ (List.mem_append_right _ (List.mem_append_left _ (List.mem_of_getElem? (l := bgL_8) (i := 23) rfl)))))))))
theorem bg_344 : (.selects RX11 yX11_instruction yX11_instruction : Cond) ∈ bg := List.mem_append_right _ (List.mem_append_right _ (List.mem_append_right _ (List.mem_append_right _ (List.mem_append_right _ (List.mem_append_right _ (List.mem_append_right _ (List.mem_append_right _ (List.mem_append_left _ (List.mem_of_getElem? (l := bgL_8) (i := 24) rfl)))))))))
theorem bg_345 : (.classLink RL 8 RX11 : Cond) ∈ bg := List.mem_append_right _ (List.mem_append_right _ (List.mem_append_right _ (List.mem_append_right _ (List.mem_append_right _ (List.mem_append_right _ (List.mem_append_right _ (List.mem_append_right _ (List.mem_append_left _ (List.mem_of_getElem? (l := bgL_8) (i := 25) rfl)))))))))
theorem bg_346 : (.instantiable RX11 5 : Cond) ∈ bg := List.mem_append_right _ (List.mem_append_right _ (List.mem_append_right _ (List.mem_append_right _ (List.mem_append_right _ (List.mem_append_right _ (List.mem_append_right _ (List.mem_append_right _ (List.mem_append_left _ (List.mem_of_getElem? (l := bgL_8) (i := 26) rfl)))))))))
theorem bg_347 : (.methodLink RL 39 yX11_init : Cond) ∈ bg := List.mem_append_right _ (List.mem_append_right _ (List.mem_append_right _ (List.mem_append_right _ (List.mem_append_right _ (List.mem_append_right _ (List.mem_append_right _ (List.mem_append_right _ (List.mem_append_left _ (List.mem_of_getElem? (l := bgL_8) (i := 27) rfl)))))))))
theorem bg_348 : (.instanceMethod yX11_init : Cond) ∈ bg := List.mem_append_right _ (List.mem_append_right _ (List.mem_append_right _ (List.mem_append_right _ (List.mem_append_right _ (List.mem_append_right _ (List.mem_append_right _ (List.mem_append_right _ (List.mem_append_left _ (List.mem_of_getElem? (l := bgL_8) (i := 28) rfl)))))))))
theorem bg_349 : (.classLink RL 40 RX12 : Cond) ∈ bg := List.mem_append_right _ (List.mem_append_right _ (List.mem_append_right _ (List.mem_append_right _ (List.mem_append_right _ (List.mem_append_right _ (List.mem_append_right _ (List.mem_append_right _ (List.mem_append_left _ (List.mem_of_getElem? (l := bgL_8) (i := 29) rfl)))))))))
theorem bg_350 : (.instantiable RX12 82 : Cond) ∈ bg := List.mem_append_right _ (List.mem_append_right _ (List.mem_append_right _ (List.mem_append_right _ (List.mem_append_right _ (List.mem_append_right _ (List.mem_append_right _ (List.mem_append_right _ (List.mem_append_left _ (List.mem_of_getElem? (l := bgL_8) (i := 30) rfl)))))))))
theorem bg_351 : (.methodLink RL 42 yX12_init : Cond) ∈ bg := List.mem_append_right _ (List.mem_append_right _ (List.mem_append_right _ (List.mem_append_right _ (List.mem_append_right _ (List.mem_append_right _ (List.mem_append_right _ (List.mem_append_right _ (List.mem_append_left _ (List.mem_of_getElem? (l := bgL_8) (i := 31) rfl)))))))))
theorem bg_352 : (.instanceMethod yX12_init : Cond) ∈ bg := List.mem_append_right _ (List.mem_append_right _ (List.mem_append_right _ (List.mem_append_right _ (List.mem_append_right _ (List.mem_append_right _ (List.mem_append_right _ (List.mem_append_right _ (List.mem_append_left _ (List.mem_of_getElem? (l := bgL_8) (i := 32) rfl)))))))))
theorem bg_353 : (.arrayClass .long : Cond) ∈ bg := List.mem_append_right _ (List.mem_append_right _ (List.mem_append_right _ (List.mem_append_right _ (List.mem_append_right _ (List.mem_append_right _ (List.mem_append_right _ (List.mem_append_right _ (List.mem_append_left _ (List.mem_of_getElem? (l := bgL_8) (i := 33) rfl)))))))))
theorem bg_354 : (.methodLink RL 43 yL_feed : Cond) ∈ bg := List.mem_append_right _ (List.mem_append_right _ (List.mem_append_right _ (List.mem_append_right _ (List.mem_append_right _ (List.mem_append_right _ (List.mem_append_right _ (List.mem_append_right _ (List.mem_append_left _ (List.mem_of_getElem? (l := bgL_8) (i := 34) rfl)))))))))
theorem bg_355 : (.static yL_feed : Cond) ∈ bg := List.mem_append_right _ (List.mem_append_right _ (List.mem_append_right _ (List.mem_append_right _ (List.mem_append_right _ (List.mem_append_right _ (List.mem_append_right _ (List.mem_append_right _ (List.mem_append_left _ (List.mem_of_getElem? (l := bgL_8) (i := 35) rfl)))))))))
theorem bg_356 : (.initialized RL : Cond) ∈ bg := List.mem_append_right _ (List.mem_append_right _ (List.mem_append_right _ (List.mem_append_right _ (List.mem_append_right _ (List.mem_append_right _ (List.mem_append_right _ (List.mem_append_right _ (List.mem_append_left _ (List.mem_of_getElem? (l := bgL_8) (i := 36) rfl)))))))))
theorem bg_357 : (.methodLink RL 48 yX12_feed : Cond) ∈ bg := List.mem_append_right _ (List.mem_append_right _ (List.mem_append_right _ (List.mem_append_right _ (List.mem_append_right _ (List.mem_append_right _ (List.mem_append_right _ (List.mem_append_right _ (List.mem_append_left _ (List.mem_of_getElem? (l := bgL_8) (i := 37) rfl)))))))))
theorem bg_358 : (.instanceMethod yX12_feed : Cond) ∈ bg := List.mem_append_right _ (List.mem_append_right _ (List.mem_append_right _ (List.mem_append_right _ (List.mem_append_right _ (List.mem_append_right _ (List.mem_append_right _ (List.mem_append_right _ (List.mem_append_left _ (List.mem_of_getElem? (l := bgL_8) (i := 38) rfl)))))))))
theorem bg_359 : (.selects RX12 yX12_feed yX12_feed : Cond) ∈ bg := List.mem_append_right _ (List.mem_append_right _ (List.mem_append_right _ (List.mem_append_right _ (List.mem_append_right _ (List.mem_append_right _ (List.mem_append_right _ (List.mem_append_right _ (List.mem_append_left _ (List.mem_of_getElem? (l := bgL_8) (i := 39) rfl)))))))))
theorem bg_360 : (.methodLink RL 49 yX12_thrown : Cond) ∈ bg := List.mem_append_right _ (List.mem_append_right _ (List.mem_append_right _ (List.mem_append_right _ (List.mem_append_right _ (List.mem_append_right _ (List.mem_append_right _ (List.mem_append_right _ (List.mem_append_right _ (List.mem_append_left _ (List.mem_of_getElem? (l := bgL_9) (i := 0) rfl))))))))))
theorem bg_361 : (.instanceMethod yX12_thrown : Cond) ∈ bg := List.mem_append_right _ (List.mem_append_right _ (List.mem_append_right _ (List.mem_append_right _ (List.mem_append_right _ (List.mem_append_right _ (List.mem_append_right _ (List.mem_append_right _ (List.mem_append_right _ (List.mem_append_left _ (List.mem_of_getElem? (l := bgL_9) (i := 1) rfl))))))))))
theorem bg_362 : (.selects RX12 yX12_thrown yX12_thrown : Cond) ∈ bg := List.mem_append_right _ (List.mem_append_right _ (List.mem_append_right _ (List.mem_append_right _ (List.mem_append_right _ (List.mem_append_right _ (List.mem_append_right _ (List.mem_append_right _ (List.mem_append_right _ (List.mem_append_left _ (List.mem_of_getElem? (l := bgL_9) (i := 2) rfl))))))))))
theorem bg_363 : (.methodLink RL 53 yL_end : Cond) ∈ bg := List.mem_append_right _ (List.mem_append_right _ (List.mem_append_right _ (List.mem_append_right _ (List.mem_append_right _ (List.mem_append_right _ (List.mem_append_right _ (List.mem_append_right _ (List.mem_append_right _ (List.mem_append_left _ (List.mem_of_getElem? (l := bgL_9) (i := 3) rfl))))))))))
theorem bg_364 : (.static yL_end : Cond) ∈ bg := List.mem_append_right _ (List.mem_append_right _ (List.mem_append_right _ (List.mem_append_right _ (List.mem_append_right _ (List.mem_append_right _ (List.mem_append_right _ (List.mem_append_right _ (List.mem_append_right _ (List.mem_append_left _ (List.mem_of_getElem? (l := bgL_9) (i := 4) rfl))))))))))
theorem bg_365 : (.methodLink RL 56 yX12_end : Cond) ∈ bg := List.mem_append_right _ (List.mem_append_right _ (List.mem_append_right _ (List.mem_append_right _ (List.mem_append_right _ (List.mem_append_right _ (List.mem_append_right _ (List.mem_append_right _ (List.mem_append_right _ (List.mem_append_left _ (List.mem_of_getElem? (l := bgL_9) (i := 5) rfl))))))))))
theorem bg_366 : (.instanceMethod yX12_end : Cond) ∈ bg := List.mem_append_right _ (List.mem_append_right _ (List.mem_append_right _ (List.mem_append_right _ (List.mem_append_right _ (List.mem_append_right _ (List.mem_append_right _ (List.mem_append_right _ (List.mem_append_right _ (List.mem_append_left _ (List.mem_of_getElem? (l := bgL_9) (i := 6) rfl))))))))))
theorem bg_367 : (.selects RX12 yX12_end yX12_end : Cond) ∈ bg := List.mem_append_right _ (List.mem_append_right _ (List.mem_append_right _ (List.mem_append_right _ (List.mem_append_right _ (List.mem_append_right _ (List.mem_append_right _ (List.mem_append_right _ (List.mem_append_right _ (List.mem_append_left _ (List.mem_of_getElem? (l := bgL_9) (i := 7) rfl))))))))))
theorem bg_368 : (.methodLink RL 57 yX11_read : Cond) ∈ bg := List.mem_append_right _ (List.mem_append_right _ (List.mem_append_right _ (List.mem_append_right _ (List.mem_append_right _ (List.mem_append_right _ (List.mem_append_right _ (List.mem_append_right _ (List.mem_append_right _ (List.mem_append_left _ (List.mem_of_getElem? (l := bgL_9) (i := 8) rfl))))))))))
theorem bg_369 : (.instanceMethod yX11_read : Cond) ∈ bg := List.mem_append_right _ (List.mem_append_right _ (List.mem_append_right _ (List.mem_append_right _ (List.mem_append_right _ (List.mem_append_right _ (List.mem_append_right _ (List.mem_append_right _ (List.mem_append_right _ (List.mem_append_left _ (List.mem_of_getElem? (l := bgL_9) (i := 9) rfl))))))))))
theorem bg_370 : (.selects RX11 yX11_read yX11_read : Cond) ∈ bg := List.mem_append_right _ (List.mem_append_right _ (List.mem_append_right _ (List.mem_append_right _ (List.mem_append_right _ (List.mem_append_right _ (List.mem_append_right _ (List.mem_append_right _ (List.mem_append_right _ (List.mem_append_left _ (List.mem_of_getElem? (l := bgL_9) (i := 10) rfl))))))))))
theorem bg_371 : (.methodLink RL 60 yX12_read : Cond) ∈ bg := List.mem_append_right _ (List.mem_append_right _ (List.mem_append_right _ (List.mem_append_right _ (List.mem_append_right _ (List.mem_append_right _ (List.mem_append_right _ (List.mem_append_right _ (List.mem_append_right _ (List.mem_append_left _ (List.mem_of_getElem? (l := bgL_9) (i := 11) rfl))))))))))
theorem bg_372 : (.instanceMethod yX12_read : Cond) ∈ bg := List.mem_append_right _ (List.mem_append_right _ (List.mem_append_right _ (List.mem_append_right _ (List.mem_append_right _ (List.mem_append_right _ (List.mem_append_right _ (List.mem_append_right _ (List.mem_append_right _ (List.mem_append_left _ (List.mem_of_getElem? (l := bgL_9) (i := 12) rfl))))))))))
theorem bg_373 : (.selects RX12 yX12_read yX12_read : Cond) ∈ bg := List.mem_append_right _ (List.mem_append_right _ (List.mem_append_right _ (List.mem_append_right _ (List.mem_append_right _ (List.mem_append_right _ (List.mem_append_right _ (List.mem_append_right _ (List.mem_append_right _ (List.mem_append_left _ (List.mem_of_getElem? (l := bgL_9) (i := 13) rfl))))))))))
theorem bg_374 : (.methodLink RL 61 yX11_place : Cond) ∈ bg := List.mem_append_right _ (List.mem_append_right _ (List.mem_append_right _ (List.mem_append_right _ (List.mem_append_right _ (List.mem_append_right _ (List.mem_append_right _ (List.mem_append_right _ (List.mem_append_right _ (List.mem_append_left _ (List.mem_of_getElem? (l := bgL_9) (i := 14) rfl))))))))))
theorem bg_375 : (.instanceMethod yX11_place : Cond) ∈ bg := List.mem_append_right _ (List.mem_append_right _ (List.mem_append_right _ (List.mem_append_right _ (List.mem_append_right _ (List.mem_append_right _ (List.mem_append_right _ (List.mem_append_right _ (List.mem_append_right _ (List.mem_append_left _ (List.mem_of_getElem? (l := bgL_9) (i := 15) rfl))))))))))
theorem bg_376 : (.selects RX11 yX11_place yX11_place : Cond) ∈ bg := List.mem_append_right _ (List.mem_append_right _ (List.mem_append_right _ (List.mem_append_right _ (List.mem_append_right _ (List.mem_append_right _ (List.mem_append_right _ (List.mem_append_right _ (List.mem_append_right _ (List.mem_append_left _ (List.mem_of_getElem? (l := bgL_9) (i := 16) rfl))))))))))
theorem bg_377 : (.methodLink RL 64 yX12_place : Cond) ∈ bg := List.mem_append_right _ (List.mem_append_right _ (List.mem_append_right _ (List.mem_append_right _ (List.mem_append_right _ (List.mem_append_right _ (List.mem_append_right _ (List.mem_append_right _ (List.mem_append_right _ (List.mem_append_left _ (List.mem_of_getElem? (l := bgL_9) (i := 17) rfl))))))))))
theorem bg_378 : (.instanceMethod yX12_place : Cond) ∈ bg := List.mem_append_right _ (List.mem_append_right _ (List.mem_append_right _ (List.mem_append_right _ (List.mem_append_right _ (List.mem_append_right _ (List.mem_append_right _ (List.mem_append_right _ (List.mem_append_right _ (List.mem_append_left _ (List.mem_of_getElem? (l := bgL_9) (i := 18) rfl))))))))))
theorem bg_379 : (.selects RX12 yX12_place yX12_place : Cond) ∈ bg := List.mem_append_right _ (List.mem_append_right _ (List.mem_append_right _ (List.mem_append_right _ (List.mem_append_right _ (List.mem_append_right _ (List.mem_append_right _ (List.mem_append_right _ (List.mem_append_right _ (List.mem_append_left _ (List.mem_of_getElem? (l := bgL_9) (i := 19) rfl))))))))))
theorem bg_380 : (.methodLink RL 65 yL_count : Cond) ∈ bg := List.mem_append_right _ (List.mem_append_right _ (List.mem_append_right _ (List.mem_append_right _ (List.mem_append_right _ (List.mem_append_right _ (List.mem_append_right _ (List.mem_append_right _ (List.mem_append_right _ (List.mem_append_left _ (List.mem_of_getElem? (l := bgL_9) (i := 20) rfl))))))))))
theorem bg_381 : (.static yL_count : Cond) ∈ bg := List.mem_append_right _ (List.mem_append_right _ (List.mem_append_right _ (List.mem_append_right _ (List.mem_append_right _ (List.mem_append_right _ (List.mem_append_right _ (List.mem_append_right _ (List.mem_append_right _ (List.mem_append_left _ (List.mem_of_getElem? (l := bgL_9) (i := 21) rfl))))))))))
theorem bg_382 : (.methodLink RL 67 yX12_count : Cond) ∈ bg := List.mem_append_right _ (List.mem_append_right _ (List.mem_append_right _ (List.mem_append_right _ (List.mem_append_right _ (List.mem_append_right _ (List.mem_append_right _ (List.mem_append_right _ (List.mem_append_right _ (List.mem_append_left _ (List.mem_of_getElem? (l := bgL_9) (i := 22) rfl))))))))))
theorem bg_383 : (.instanceMethod yX12_count : Cond) ∈ bg := List.mem_append_right _ (List.mem_append_right _ (List.mem_append_right _ (List.mem_append_right _ (List.mem_append_right _ (List.mem_append_right _ (List.mem_append_right _ (List.mem_append_right _ (List.mem_append_right _ (List.mem_append_left _ (List.mem_of_getElem? (l := bgL_9) (i := 23) rfl))))))))))
theorem bg_384 : (.selects RX12 yX12_count yX12_count : Cond) ∈ bg := List.mem_append_right _ (List.mem_append_right _ (List.mem_append_right _ (List.mem_append_right _ (List.mem_append_right _ (List.mem_append_right _ (List.mem_append_right _ (List.mem_append_right _ (List.mem_append_right _ (List.mem_append_left _ (List.mem_of_getElem? (l := bgL_9) (i := 24) rfl))))))))))
theorem bg_385 : (.methodLink RL 68 yL_entry : Cond) ∈ bg := List.mem_append_right _ (List.mem_append_right _ (List.mem_append_right _ (List.mem_append_right _ (List.mem_append_right _ (List.mem_append_right _ (List.mem_append_right _ (List.mem_append_right _ (List.mem_append_right _ (List.mem_append_left _ (List.mem_of_getElem? (l := bgL_9) (i := 25) rfl))))))))))
theorem bg_386 : (.static yL_entry : Cond) ∈ bg := List.mem_append_right _ (List.mem_append_right _ (List.mem_append_right _ (List.mem_append_right _ (List.mem_append_right _ (List.mem_append_right _ (List.mem_append_right _ (List.mem_append_right _ (List.mem_append_right _ (List.mem_append_left _ (List.mem_of_getElem? (l := bgL_9) (i := 26) rfl))))))))))
theorem bg_387 : (.methodLink RL 71 yX12_entry : Cond) ∈ bg := List.mem_append_right _ (List.mem_append_right _ (List.mem_append_right _ (List.mem_append_right _ (List.mem_append_right _ (List.mem_append_right _ (List.mem_append_right _ (List.mem_append_right _ (List.mem_append_right _ (List.mem_append_left _ (List.mem_of_getElem? (l := bgL_9) (i := 27) rfl))))))))))
theorem bg_388 : (.instanceMethod yX12_entry : Cond) ∈ bg := List.mem_append_right _ (List.mem_append_right _ (List.mem_append_right _ (List.mem_append_right _ (List.mem_append_right _ (List.mem_append_right _ (List.mem_append_right _ (List.mem_append_right _ (List.mem_append_right _ (List.mem_append_left _ (List.mem_of_getElem? (l := bgL_9) (i := 28) rfl))))))))))
theorem bg_389 : (.selects RX12 yX12_entry yX12_entry : Cond) ∈ bg := List.mem_append_right _ (List.mem_append_right _ (List.mem_append_right _ (List.mem_append_right _ (List.mem_append_right _ (List.mem_append_right _ (List.mem_append_right _ (List.mem_append_right _ (List.mem_append_right _ (List.mem_append_left _ (List.mem_of_getElem? (l := bgL_9) (i := 29) rfl))))))))))
theorem bg_390 : (.methodLink RL 72 yX11_bits : Cond) ∈ bg := List.mem_append_right _ (List.mem_append_right _ (List.mem_append_right _ (List.mem_append_right _ (List.mem_append_right _ (List.mem_append_right _ (List.mem_append_right _ (List.mem_append_right _ (List.mem_append_right _ (List.mem_append_left _ (List.mem_of_getElem? (l := bgL_9) (i := 30) rfl))))))))))
theorem bg_391 : (.instanceMethod yX11_bits : Cond) ∈ bg := List.mem_append_right _ (List.mem_append_right _ (List.mem_append_right _ (List.mem_append_right _ (List.mem_append_right _ (List.mem_append_right _ (List.mem_append_right _ (List.mem_append_right _ (List.mem_append_right _ (List.mem_append_left _ (List.mem_of_getElem? (l := bgL_9) (i := 31) rfl))))))))))
theorem bg_392 : (.selects RX11 yX11_bits yX11_bits : Cond) ∈ bg := List.mem_append_right _ (List.mem_append_right _ (List.mem_append_right _ (List.mem_append_right _ (List.mem_append_right _ (List.mem_append_right _ (List.mem_append_right _ (List.mem_append_right _ (List.mem_append_right _ (List.mem_append_left _ (List.mem_of_getElem? (l := bgL_9) (i := 32) rfl))))))))))
theorem bg_393 : (.methodLink RL 76 yX12_bits : Cond) ∈ bg := List.mem_append_right _ (List.mem_append_right _ (List.mem_append_right _ (List.mem_append_right _ (List.mem_append_right _ (List.mem_append_right _ (List.mem_append_right _ (List.mem_append_right _ (List.mem_append_right _ (List.mem_append_left _ (List.mem_of_getElem? (l := bgL_9) (i := 33) rfl))))))))))
theorem bg_394 : (.instanceMethod yX12_bits : Cond) ∈ bg := List.mem_append_right _ (List.mem_append_right _ (List.mem_append_right _ (List.mem_append_right _ (List.mem_append_right _ (List.mem_append_right _ (List.mem_append_right _ (List.mem_append_right _ (List.mem_append_right _ (List.mem_append_left _ (List.mem_of_getElem? (l := bgL_9) (i := 34) rfl))))))))))
theorem bg_395 : (.selects RX12 yX12_bits yX12_bits : Cond) ∈ bg := List.mem_append_right _ (List.mem_append_right _ (List.mem_append_right _ (List.mem_append_right _ (List.mem_append_right _ (List.mem_append_right _ (List.mem_append_right _ (List.mem_append_right _ (List.mem_append_right _ (List.mem_append_left _ (List.mem_of_getElem? (l := bgL_9) (i := 35) rfl))))))))))
theorem bg_396 : (.methodLink RL 77 yX11_character : Cond) ∈ bg := List.mem_append_right _ (List.mem_append_right _ (List.mem_append_right _ (List.mem_append_right _ (List.mem_append_right _ (List.mem_append_right _ (List.mem_append_right _ (List.mem_append_right _ (List.mem_append_right _ (List.mem_append_left _ (List.mem_of_getElem? (l := bgL_9) (i := 36) rfl))))))))))
theorem bg_397 : (.instanceMethod yX11_character : Cond) ∈ bg := List.mem_append_right _ (List.mem_append_right _ (List.mem_append_right _ (List.mem_append_right _ (List.mem_append_right _ (List.mem_append_right _ (List.mem_append_right _ (List.mem_append_right _ (List.mem_append_right _ (List.mem_append_left _ (List.mem_of_getElem? (l := bgL_9) (i := 37) rfl))))))))))
theorem bg_398 : (.selects RX11 yX11_character yX11_character : Cond) ∈ bg := List.mem_append_right _ (List.mem_append_right _ (List.mem_append_right _ (List.mem_append_right _ (List.mem_append_right _ (List.mem_append_right _ (List.mem_append_right _ (List.mem_append_right _ (List.mem_append_right _ (List.mem_append_left _ (List.mem_of_getElem? (l := bgL_9) (i := 38) rfl))))))))))
theorem bg_399 : (.methodLink RL 80 yX12_character : Cond) ∈ bg := List.mem_append_right _ (List.mem_append_right _ (List.mem_append_right _ (List.mem_append_right _ (List.mem_append_right _ (List.mem_append_right _ (List.mem_append_right _ (List.mem_append_right _ (List.mem_append_right _ (List.mem_append_left _ (List.mem_of_getElem? (l := bgL_9) (i := 39) rfl))))))))))
theorem bg_400 : (.instanceMethod yX12_character : Cond) ∈ bg := List.mem_append_right _ (List.mem_append_right _ (List.mem_append_right _ (List.mem_append_right _ (List.mem_append_right _ (List.mem_append_right _ (List.mem_append_right _ (List.mem_append_right _ (List.mem_append_right _ (List.mem_append_right _ (List.mem_append_left _ (List.mem_of_getElem? (l := bgL_10) (i := 0) rfl)))))))))))
theorem bg_401 : (.selects RX12 yX12_character yX12_character : Cond) ∈ bg := List.mem_append_right _ (List.mem_append_right _ (List.mem_append_right _ (List.mem_append_right _ (List.mem_append_right _ (List.mem_append_right _ (List.mem_append_right _ (List.mem_append_right _ (List.mem_append_right _ (List.mem_append_right _ (List.mem_append_left _ (List.mem_of_getElem? (l := bgL_10) (i := 1) rfl)))))))))))
theorem bg_402 : (.methodLink RL 81 yX11_places : Cond) ∈ bg := List.mem_append_right _ (List.mem_append_right _ (List.mem_append_right _ (List.mem_append_right _ (List.mem_append_right _ (List.mem_append_right _ (List.mem_append_right _ (List.mem_append_right _ (List.mem_append_right _ (List.mem_append_right _ (List.mem_append_left _ (List.mem_of_getElem? (l := bgL_10) (i := 2) rfl)))))))))))
theorem bg_403 : (.instanceMethod yX11_places : Cond) ∈ bg := List.mem_append_right _ (List.mem_append_right _ (List.mem_append_right _ (List.mem_append_right _ (List.mem_append_right _ (List.mem_append_right _ (List.mem_append_right _ (List.mem_append_right _ (List.mem_append_right _ (List.mem_append_right _ (List.mem_append_left _ (List.mem_of_getElem? (l := bgL_10) (i := 3) rfl)))))))))))
theorem bg_404 : (.selects RX11 yX11_places yX11_places : Cond) ∈ bg := List.mem_append_right _ (List.mem_append_right _ (List.mem_append_right _ (List.mem_append_right _ (List.mem_append_right _ (List.mem_append_right _ (List.mem_append_right _ (List.mem_append_right _ (List.mem_append_right _ (List.mem_append_right _ (List.mem_append_left _ (List.mem_of_getElem? (l := bgL_10) (i := 4) rfl)))))))))))
theorem bg_405 : (.methodLink RL 84 yX12_places : Cond) ∈ bg := List.mem_append_right _ (List.mem_append_right _ (List.mem_append_right _ (List.mem_append_right _ (List.mem_append_right _ (List.mem_append_right _ (List.mem_append_right _ (List.mem_append_right _ (List.mem_append_right _ (List.mem_append_right _ (List.mem_append_left _ (List.mem_of_getElem? (l := bgL_10) (i := 5) rfl)))))))))))
theorem bg_406 : (.instanceMethod yX12_places : Cond) ∈ bg := List.mem_append_right _ (List.mem_append_right _ (List.mem_append_right _ (List.mem_append_right _ (List.mem_append_right _ (List.mem_append_right _ (List.mem_append_right _ (List.mem_append_right _ (List.mem_append_right _ (List.mem_append_right _ (List.mem_append_left _ (List.mem_of_getElem? (l := bgL_10) (i := 6) rfl)))))))))))
theorem bg_407 : (.selects RX12 yX12_places yX12_places : Cond) ∈ bg := List.mem_append_right _ (List.mem_append_right _ (List.mem_append_right _ (List.mem_append_right _ (List.mem_append_right _ (List.mem_append_right _ (List.mem_append_right _ (List.mem_append_right _ (List.mem_append_right _ (List.mem_append_right _ (List.mem_append_left _ (List.mem_of_getElem? (l := bgL_10) (i := 7) rfl)))))))))))
theorem bg_408 : (.methodLink RL 85 yL_member : Cond) ∈ bg := List.mem_append_right _ (List.mem_append_right _ (List.mem_append_right _ (List.mem_append_right _ (List.mem_append_right _ (List.mem_append_right _ (List.mem_append_right _ (List.mem_append_right _ (List.mem_append_right _ (List.mem_append_right _ (List.mem_append_left _ (List.mem_of_getElem? (l := bgL_10) (i := 8) rfl)))))))))))
theorem bg_409 : (.static yL_member : Cond) ∈ bg := List.mem_append_right _ (List.mem_append_right _ (List.mem_append_right _ (List.mem_append_right _ (List.mem_append_right _ (List.mem_append_right _ (List.mem_append_right _ (List.mem_append_right _ (List.mem_append_right _ (List.mem_append_right _ (List.mem_append_left _ (List.mem_of_getElem? (l := bgL_10) (i := 9) rfl)))))))))))
theorem bg_410 : (.methodLink RL 88 yX12_member : Cond) ∈ bg := List.mem_append_right _ (List.mem_append_right _ (List.mem_append_right _ (List.mem_append_right _ (List.mem_append_right _ (List.mem_append_right _ (List.mem_append_right _ (List.mem_append_right _ (List.mem_append_right _ (List.mem_append_right _ (List.mem_append_left _ (List.mem_of_getElem? (l := bgL_10) (i := 10) rfl)))))))))))
theorem bg_411 : (.instanceMethod yX12_member : Cond) ∈ bg := List.mem_append_right _ (List.mem_append_right _ (List.mem_append_right _ (List.mem_append_right _ (List.mem_append_right _ (List.mem_append_right _ (List.mem_append_right _ (List.mem_append_right _ (List.mem_append_right _ (List.mem_append_right _ (List.mem_append_left _ (List.mem_of_getElem? (l := bgL_10) (i := 11) rfl)))))))))))
theorem bg_412 : (.selects RX12 yX12_member yX12_member : Cond) ∈ bg := List.mem_append_right _ (List.mem_append_right _ (List.mem_append_right _ (List.mem_append_right _ (List.mem_append_right _ (List.mem_append_right _ (List.mem_append_right _ (List.mem_append_right _ (List.mem_append_right _ (List.mem_append_right _ (List.mem_append_left _ (List.mem_of_getElem? (l := bgL_10) (i := 12) rfl)))))))))))
theorem bg_413 : (.methodLink RL 89 yX11_find : Cond) ∈ bg := List.mem_append_right _ (List.mem_append_right _ (List.mem_append_right _ (List.mem_append_right _ (List.mem_append_right _ (List.mem_append_right _ (List.mem_append_right _ (List.mem_append_right _ (List.mem_append_right _ (List.mem_append_right _ (List.mem_append_left _ (List.mem_of_getElem? (l := bgL_10) (i := 13) rfl)))))))))))
theorem bg_414 : (.instanceMethod yX11_find : Cond) ∈ bg := List.mem_append_right _ (List.mem_append_right _ (List.mem_append_right _ (List.mem_append_right _ (List.mem_append_right _ (List.mem_append_right _ (List.mem_append_right _ (List.mem_append_right _ (List.mem_append_right _ (List.mem_append_right _ (List.mem_append_left _ (List.mem_of_getElem? (l := bgL_10) (i := 14) rfl)))))))))))
theorem bg_415 : (.selects RX11 yX11_find yX11_find : Cond) ∈ bg := List.mem_append_right _ (List.mem_append_right _ (List.mem_append_right _ (List.mem_append_right _ (List.mem_append_right _ (List.mem_append_right _ (List.mem_append_right _ (List.mem_append_right _ (List.mem_append_right _ (List.mem_append_right _ (List.mem_append_left _ (List.mem_of_getElem? (l := bgL_10) (i := 15) rfl)))))))))))
theorem bg_416 : (.methodLink RL 92 yX12_find : Cond) ∈ bg := List.mem_append_right _ (List.mem_append_right _ (List.mem_append_right _ (List.mem_append_right _ (List.mem_append_right _ (List.mem_append_right _ (List.mem_append_right _ (List.mem_append_right _ (List.mem_append_right _ (List.mem_append_right _ (List.mem_append_left _ (List.mem_of_getElem? (l := bgL_10) (i := 16) rfl)))))))))))
theorem bg_417 : (.instanceMethod yX12_find : Cond) ∈ bg := List.mem_append_right _ (List.mem_append_right _ (List.mem_append_right _ (List.mem_append_right _ (List.mem_append_right _ (List.mem_append_right _ (List.mem_append_right _ (List.mem_append_right _ (List.mem_append_right _ (List.mem_append_right _ (List.mem_append_left _ (List.mem_of_getElem? (l := bgL_10) (i := 17) rfl)))))))))))
theorem bg_418 : (.selects RX12 yX12_find yX12_find : Cond) ∈ bg := List.mem_append_right _ (List.mem_append_right _ (List.mem_append_right _ (List.mem_append_right _ (List.mem_append_right _ (List.mem_append_right _ (List.mem_append_right _ (List.mem_append_right _ (List.mem_append_right _ (List.mem_append_right _ (List.mem_append_left _ (List.mem_of_getElem? (l := bgL_10) (i := 18) rfl)))))))))))
theorem bg_419 : (.methodLink RL 93 yL_row : Cond) ∈ bg := List.mem_append_right _ (List.mem_append_right _ (List.mem_append_right _ (List.mem_append_right _ (List.mem_append_right _ (List.mem_append_right _ (List.mem_append_right _ (List.mem_append_right _ (List.mem_append_right _ (List.mem_append_right _ (List.mem_append_left _ (List.mem_of_getElem? (l := bgL_10) (i := 19) rfl)))))))))))
theorem bg_420 : (.static yL_row : Cond) ∈ bg := List.mem_append_right _ (List.mem_append_right _ (List.mem_append_right _ (List.mem_append_right _ (List.mem_append_right _ (List.mem_append_right _ (List.mem_append_right _ (List.mem_append_right _ (List.mem_append_right _ (List.mem_append_right _ (List.mem_append_left _ (List.mem_of_getElem? (l := bgL_10) (i := 20) rfl)))))))))))
theorem bg_421 : (.methodLink RL 96 yX12_row : Cond) ∈ bg := List.mem_append_right _ (List.mem_append_right _ (List.mem_append_right _ (List.mem_append_right _ (List.mem_append_right _ (List.mem_append_right _ (List.mem_append_right _ (List.mem_append_right _ (List.mem_append_right _ (List.mem_append_right _ (List.mem_append_left _ (List.mem_of_getElem? (l := bgL_10) (i := 21) rfl)))))))))))
theorem bg_422 : (.instanceMethod yX12_row : Cond) ∈ bg := List.mem_append_right _ (List.mem_append_right _ (List.mem_append_right _ (List.mem_append_right _ (List.mem_append_right _ (List.mem_append_right _ (List.mem_append_right _ (List.mem_append_right _ (List.mem_append_right _ (List.mem_append_right _ (List.mem_append_left _ (List.mem_of_getElem? (l := bgL_10) (i := 22) rfl)))))))))))
theorem bg_423 : (.selects RX12 yX12_row yX12_row : Cond) ∈ bg := List.mem_append_right _ (List.mem_append_right _ (List.mem_append_right _ (List.mem_append_right _ (List.mem_append_right _ (List.mem_append_right _ (List.mem_append_right _ (List.mem_append_right _ (List.mem_append_right _ (List.mem_append_right _ (List.mem_append_left _ (List.mem_of_getElem? (l := bgL_10) (i := 23) rfl)))))))))))
theorem bg_424 : (.methodLink RL 97 yX11_bootstrap : Cond) ∈ bg := List.mem_append_right _ (List.mem_append_right _ (List.mem_append_right _ (List.mem_append_right _ (List.mem_append_right _ (List.mem_append_right _ (List.mem_append_right _ (List.mem_append_right _ (List.mem_append_right _ (List.mem_append_right _ (List.mem_append_left _ (List.mem_of_getElem? (l := bgL_10) (i := 24) rfl)))))))))))
theorem bg_425 : (.instanceMethod yX11_bootstrap : Cond) ∈ bg := List.mem_append_right _ (List.mem_append_right _ (List.mem_append_right _ (List.mem_append_right _ (List.mem_append_right _ (List.mem_append_right _ (List.mem_append_right _ (List.mem_append_right _ (List.mem_append_right _ (List.mem_append_right _ (List.mem_append_left _ (List.mem_of_getElem? (l := bgL_10) (i := 25) rfl)))))))))))
theorem bg_426 : (.selects RX11 yX11_bootstrap yX11_bootstrap : Cond) ∈ bg := List.mem_append_right _ (List.mem_append_right _ (List.mem_append_right _ (List.mem_append_right _ (List.mem_append_right _ (List.mem_append_right _ (List.mem_append_right _ (List.mem_append_right _ (List.mem_append_right _ (List.mem_append_right _ (List.mem_append_left _ (List.mem_of_getElem? (l := bgL_10) (i := 26) rfl)))))))))))
theorem bg_427 : (.methodLink RL 100 yX12_bootstrap : Cond) ∈ bg := List.mem_append_right _ (List.mem_append_right _ (List.mem_append_right _ (List.mem_append_right _ (List.mem_append_right _ (List.mem_append_right _ (List.mem_append_right _ (List.mem_append_right _ (List.mem_append_right _ (List.mem_append_right _ (List.mem_append_left _ (List.mem_of_getElem? (l := bgL_10) (i := 27) rfl)))))))))))
theorem bg_428 : (.instanceMethod yX12_bootstrap : Cond) ∈ bg := List.mem_append_right _ (List.mem_append_right _ (List.mem_append_right _ (List.mem_append_right _ (List.mem_append_right _ (List.mem_append_right _ (List.mem_append_right _ (List.mem_append_right _ (List.mem_append_right _ (List.mem_append_right _ (List.mem_append_left _ (List.mem_of_getElem? (l := bgL_10) (i := 28) rfl)))))))))))
theorem bg_429 : (.selects RX12 yX12_bootstrap yX12_bootstrap : Cond) ∈ bg := List.mem_append_right _ (List.mem_append_right _ (List.mem_append_right _ (List.mem_append_right _ (List.mem_append_right _ (List.mem_append_right _ (List.mem_append_right _ (List.mem_append_right _ (List.mem_append_right _ (List.mem_append_right _ (List.mem_append_left _ (List.mem_of_getElem? (l := bgL_10) (i := 29) rfl)))))))))))
theorem bg_430 : (.methodLink RL 101 yX11_cut : Cond) ∈ bg := List.mem_append_right _ (List.mem_append_right _ (List.mem_append_right _ (List.mem_append_right _ (List.mem_append_right _ (List.mem_append_right _ (List.mem_append_right _ (List.mem_append_right _ (List.mem_append_right _ (List.mem_append_right _ (List.mem_append_left _ (List.mem_of_getElem? (l := bgL_10) (i := 30) rfl)))))))))))
theorem bg_431 : (.instanceMethod yX11_cut : Cond) ∈ bg := List.mem_append_right _ (List.mem_append_right _ (List.mem_append_right _ (List.mem_append_right _ (List.mem_append_right _ (List.mem_append_right _ (List.mem_append_right _ (List.mem_append_right _ (List.mem_append_right _ (List.mem_append_right _ (List.mem_append_left _ (List.mem_of_getElem? (l := bgL_10) (i := 31) rfl)))))))))))
theorem bg_432 : (.selects RX11 yX11_cut yX11_cut : Cond) ∈ bg := List.mem_append_right _ (List.mem_append_right _ (List.mem_append_right _ (List.mem_append_right _ (List.mem_append_right _ (List.mem_append_right _ (List.mem_append_right _ (List.mem_append_right _ (List.mem_append_right _ (List.mem_append_right _ (List.mem_append_left _ (List.mem_of_getElem? (l := bgL_10) (i := 32) rfl)))))))))))
theorem bg_433 : (.methodLink RL 104 yX12_cut : Cond) ∈ bg := List.mem_append_right _ (List.mem_append_right _ (List.mem_append_right _ (List.mem_append_right _ (List.mem_append_right _ (List.mem_append_right _ (List.mem_append_right _ (List.mem_append_right _ (List.mem_append_right _ (List.mem_append_right _ (List.mem_append_left _ (List.mem_of_getElem? (l := bgL_10) (i := 33) rfl)))))))))))
theorem bg_434 : (.instanceMethod yX12_cut : Cond) ∈ bg := List.mem_append_right _ (List.mem_append_right _ (List.mem_append_right _ (List.mem_append_right _ (List.mem_append_right _ (List.mem_append_right _ (List.mem_append_right _ (List.mem_append_right _ (List.mem_append_right _ (List.mem_append_right _ (List.mem_append_left _ (List.mem_of_getElem? (l := bgL_10) (i := 34) rfl)))))))))))
theorem bg_435 : (.selects RX12 yX12_cut yX12_cut : Cond) ∈ bg := List.mem_append_right _ (List.mem_append_right _ (List.mem_append_right _ (List.mem_append_right _ (List.mem_append_right _ (List.mem_append_right _ (List.mem_append_right _ (List.mem_append_right _ (List.mem_append_right _ (List.mem_append_right _ (List.mem_append_left _ (List.mem_of_getElem? (l := bgL_10) (i := 35) rfl)))))))))))
theorem bg_436 : (.methodLink RL 105 yL_instruction : Cond) ∈ bg := List.mem_append_right _ (List.mem_append_right _ (List.mem_append_right _ (List.mem_append_right _ (List.mem_append_right _ (List.mem_append_right _ (List.mem_append_right _ (List.mem_append_right _ (List.mem_append_right _ (List.mem_append_right _ (List.mem_append_left _ (List.mem_of_getElem? (l := bgL_10) (i := 36) rfl)))))))))))
theorem bg_437 : (.static yL_instruction : Cond) ∈ bg := List.mem_append_right _ (List.mem_append_right _ (List.mem_append_right _ (List.mem_append_right _ (List.mem_append_right _ (List.mem_append_right _ (List.mem_append_right _ (List.mem_append_right _ (List.mem_append_right _ (List.mem_append_right _ (List.mem_append_left _ (List.mem_of_getElem? (l := bgL_10) (i := 37) rfl)))))))))))
theorem bg_438 : (.methodLink RL 107 yX12_instruction : Cond) ∈ bg := List.mem_append_right _ (List.mem_append_right _ (List.mem_append_right _ (List.mem_append_right _ (List.mem_append_right _ (List.mem_append_right _ (List.mem_append_right _ (List.mem_append_right _ (List.mem_append_right _ (List.mem_append_right _ (List.mem_append_left _ (List.mem_of_getElem? (l := bgL_10) (i := 38) rfl)))))))))))
theorem bg_439 : (.instanceMethod yX12_instruction : Cond) ∈ bg := List.mem_append_right _ (List.mem_append_right _ (List.mem_append_right _ (List.mem_append_right _ (List.mem_append_right _ (List.mem_append_right _ (List.mem_append_right _ (List.mem_append_right _ (List.mem_append_right _ (List.mem_append_right _ (List.mem_append_left _ (List.mem_of_getElem? (l := bgL_10) (i := 39) rfl)))))))))))
theorem bg_440 : (.selects RX12 yX12_instruction yX12_instruction : Cond) ∈ bg := List.mem_append_right _ (List.mem_append_right _ (List.mem_append_right _ (List.mem_append_right _ (List.mem_append_right _ (List.mem_append_right _ (List.mem_append_right _ (List.mem_append_right _ (List.mem_append_right _ (List.mem_append_right _ (List.mem_append_right _ (List.mem_append_left _ (List.mem_of_getElem? (l := bgL_11) (i := 0) rfl))))))))))))
theorem bg_441 : (.methodLink RL 108 yX11_jump : Cond) ∈ bg := List.mem_append_right _ (List.mem_append_right _ (List.mem_append_right _ (List.mem_append_right _ (List.mem_append_right _ (List.mem_append_right _ (List.mem_append_right _ (List.mem_append_right _ (List.mem_append_right _ (List.mem_append_right _ (List.mem_append_right _ (List.mem_append_left _ (List.mem_of_getElem? (l := bgL_11) (i := 1) rfl))))))))))))
theorem bg_442 : (.instanceMethod yX11_jump : Cond) ∈ bg := List.mem_append_right _ (List.mem_append_right _ (List.mem_append_right _ (List.mem_append_right _ (List.mem_append_right _ (List.mem_append_right _ (List.mem_append_right _ (List.mem_append_right _ (List.mem_append_right _ (List.mem_append_right _ (List.mem_append_right _ (List.mem_append_left _ (List.mem_of_getElem? (l := bgL_11) (i := 2) rfl))))))))))))
theorem bg_443 : (.selects RX11 yX11_jump yX11_jump : Cond) ∈ bg := List.mem_append_right _ (List.mem_append_right _ (List.mem_append_right _ (List.mem_append_right _ (List.mem_append_right _ (List.mem_append_right _ (List.mem_append_right _ (List.mem_append_right _ (List.mem_append_right _ (List.mem_append_right _ (List.mem_append_right _ (List.mem_append_left _ (List.mem_of_getElem? (l := bgL_11) (i := 3) rfl))))))))))))
theorem bg_444 : (.methodLink RL 112 yX12_jump : Cond) ∈ bg := List.mem_append_right _ (List.mem_append_right _ (List.mem_append_right _ (List.mem_append_right _ (List.mem_append_right _ (List.mem_append_right _ (List.mem_append_right _ (List.mem_append_right _ (List.mem_append_right _ (List.mem_append_right _ (List.mem_append_right _ (List.mem_append_left _ (List.mem_of_getElem? (l := bgL_11) (i := 4) rfl))))))))))))
theorem bg_445 : (.instanceMethod yX12_jump : Cond) ∈ bg := List.mem_append_right _ (List.mem_append_right _ (List.mem_append_right _ (List.mem_append_right _ (List.mem_append_right _ (List.mem_append_right _ (List.mem_append_right _ (List.mem_append_right _ (List.mem_append_right _ (List.mem_append_right _ (List.mem_append_right _ (List.mem_append_left _ (List.mem_of_getElem? (l := bgL_11) (i := 5) rfl))))))))))))
theorem bg_446 : (.selects RX12 yX12_jump yX12_jump : Cond) ∈ bg := List.mem_append_right _ (List.mem_append_right _ (List.mem_append_right _ (List.mem_append_right _ (List.mem_append_right _ (List.mem_append_right _ (List.mem_append_right _ (List.mem_append_right _ (List.mem_append_right _ (List.mem_append_right _ (List.mem_append_right _ (List.mem_append_left _ (List.mem_of_getElem? (l := bgL_11) (i := 6) rfl))))))))))))
theorem bg_447 : (.laysFinal RX1 "ClassGate$Bytes" "data" "[B" : Cond) ∈ bg := List.mem_append_right _ (List.mem_append_right _ (List.mem_append_right _ (List.mem_append_right _ (List.mem_append_right _ (List.mem_append_right _ (List.mem_append_right _ (List.mem_append_right _ (List.mem_append_right _ (List.mem_append_right _ (List.mem_append_right _ (List.mem_append_left _ (List.mem_of_getElem? (l := bgL_11) (i := 7) rfl))))))))))))
theorem bg_448 : (.laysFinal RX3 "ClassGate$ClassFile" "bytes" "LClassGate$Bytes;" : Cond) ∈ bg := List.mem_append_right _ (List.mem_append_right _ (List.mem_append_right _ (List.mem_append_right _ (List.mem_append_right _ (List.mem_append_right _ (List.mem_append_right _ (List.mem_append_right _ (List.mem_append_right _ (List.mem_append_right _ (List.mem_append_right _ (List.mem_append_left _ (List.mem_of_getElem? (l := bgL_11) (i := 8) rfl))))))))))))
theorem bg_449 : (.lays RX3 "ClassGate$ClassFile" "pool" "LClassGate$Pool;" : Cond) ∈ bg := List.mem_append_right _ (List.mem_append_right _ (List.mem_append_right _ (List.mem_append_right _ (List.mem_append_right _ (List.mem_append_right _ (List.mem_append_right _ (List.mem_append_right _ (List.mem_append_right _ (List.mem_append_right _ (List.mem_append_right _ (List.mem_append_left _ (List.mem_of_getElem? (l := bgL_11) (i := 9) rfl))))))))))))
theorem bg_450 : (.lays RX3 "ClassGate$ClassFile" "minor" "I" : Cond) ∈ bg := List.mem_append_right _ (List.mem_append_right _ (List.mem_append_right _ (List.mem_append_right _ (List.mem_append_right _ (List.mem_append_right _ (List.mem_append_right _ (List.mem_append_right _ (List.mem_append_right _ (List.mem_append_right _ (List.mem_append_right _ (List.mem_append_left _ (List.mem_of_getElem? (l := bgL_11) (i := 10) rfl))))))))))))
theorem bg_451 : (.lays RX3 "ClassGate$ClassFile" "major" "I" : Cond) ∈ bg := List.mem_append_right _ (List.mem_append_right _ (List.mem_append_right _ (List.mem_append_right _ (List.mem_append_right _ (List.mem_append_right _ (List.mem_append_right _ (List.mem_append_right _ (List.mem_append_right _ (List.mem_append_right _ (List.mem_append_right _ (List.mem_append_left _ (List.mem_of_getElem? (l := bgL_11) (i := 11) rfl))))))))))))
theorem bg_452 : (.lays RX3 "ClassGate$ClassFile" "flagsAt" "I" : Cond) ∈ bg := List.mem_append_right _ (List.mem_append_right _ (List.mem_append_right _ (List.mem_append_right _ (List.mem_append_right _ (List.mem_append_right _ (List.mem_append_right _ (List.mem_append_right _ (List.mem_append_right _ (List.mem_append_right _ (List.mem_append_right _ (List.mem_append_left _ (List.mem_of_getElem? (l := bgL_11) (i := 12) rfl))))))))))))
theorem bg_453 : (.lays RX3 "ClassGate$ClassFile" "interfaceCount" "I" : Cond) ∈ bg := List.mem_append_right _ (List.mem_append_right _ (List.mem_append_right _ (List.mem_append_right _ (List.mem_append_right _ (List.mem_append_right _ (List.mem_append_right _ (List.mem_append_right _ (List.mem_append_right _ (List.mem_append_right _ (List.mem_append_right _ (List.mem_append_left _ (List.mem_of_getElem? (l := bgL_11) (i := 13) rfl))))))))))))
theorem bg_454 : (.lays RX3 "ClassGate$ClassFile" "fields" "[LClassGate$Member;" : Cond) ∈ bg := List.mem_append_right _ (List.mem_append_right _ (List.mem_append_right _ (List.mem_append_right _ (List.mem_append_right _ (List.mem_append_right _ (List.mem_append_right _ (List.mem_append_right _ (List.mem_append_right _ (List.mem_append_right _ (List.mem_append_right _ (List.mem_append_left _ (List.mem_of_getElem? (l := bgL_11) (i := 14) rfl))))))))))))
theorem bg_455 : (.lays RX3 "ClassGate$ClassFile" "methods" "[LClassGate$Member;" : Cond) ∈ bg := List.mem_append_right _ (List.mem_append_right _ (List.mem_append_right _ (List.mem_append_right _ (List.mem_append_right _ (List.mem_append_right _ (List.mem_append_right _ (List.mem_append_right _ (List.mem_append_right _ (List.mem_append_right _ (List.mem_append_right _ (List.mem_append_left _ (List.mem_of_getElem? (l := bgL_11) (i := 15) rfl))))))))))))
theorem bg_456 : (.lays RX3 "ClassGate$ClassFile" "attributeCount" "I" : Cond) ∈ bg := List.mem_append_right _ (List.mem_append_right _ (List.mem_append_right _ (List.mem_append_right _ (List.mem_append_right _ (List.mem_append_right _ (List.mem_append_right _ (List.mem_append_right _ (List.mem_append_right _ (List.mem_append_right _ (List.mem_append_right _ (List.mem_append_left _ (List.mem_of_getElem? (l := bgL_11) (i := 16) rfl))))))))))))
theorem bg_457 : (.lays RX3 "ClassGate$ClassFile" "attributesAt" "I" : Cond) ∈ bg := List.mem_append_right _ (List.mem_append_right _ (List.mem_append_right _ (List.mem_append_right _ (List.mem_append_right _ (List.mem_append_right _ (List.mem_append_right _ (List.mem_append_right _ (List.mem_append_right _ (List.mem_append_right _ (List.mem_append_right _ (List.mem_append_left _ (List.mem_of_getElem? (l := bgL_11) (i := 17) rfl))))))))))))
theorem bg_458 : (.lays RX3 "ClassGate$ClassFile" "known" "I" : Cond) ∈ bg := List.mem_append_right _ (List.mem_append_right _ (List.mem_append_right _ (List.mem_append_right _ (List.mem_append_right _ (List.mem_append_right _ (List.mem_append_right _ (List.mem_append_right _ (List.mem_append_right _ (List.mem_append_right _ (List.mem_append_right _ (List.mem_append_left _ (List.mem_of_getElem? (l := bgL_11) (i := 18) rfl))))))))))))
theorem bg_459 : (.lays RX3 "ClassGate$ClassFile" "bootstrapCount" "I" : Cond) ∈ bg := List.mem_append_right _ (List.mem_append_right _ (List.mem_append_right _ (List.mem_append_right _ (List.mem_append_right _ (List.mem_append_right _ (List.mem_append_right _ (List.mem_append_right _ (List.mem_append_right _ (List.mem_append_right _ (List.mem_append_right _ (List.mem_append_left _ (List.mem_of_getElem? (l := bgL_11) (i := 19) rfl))))))))))))
theorem bg_460 : (.lays RX3 "ClassGate$ClassFile" "bootstrapsAt" "I" : Cond) ∈ bg := List.mem_append_right _ (List.mem_append_right _ (List.mem_append_right _ (List.mem_append_right _ (List.mem_append_right _ (List.mem_append_right _ (List.mem_append_right _ (List.mem_append_right _ (List.mem_append_right _ (List.mem_append_right _ (List.mem_append_right _ (List.mem_append_left _ (List.mem_of_getElem? (l := bgL_11) (i := 20) rfl))))))))))))
theorem bg_461 : (.lays RX3 "ClassGate$ClassFile" "innerCount" "I" : Cond) ∈ bg := List.mem_append_right _ (List.mem_append_right _ (List.mem_append_right _ (List.mem_append_right _ (List.mem_append_right _ (List.mem_append_right _ (List.mem_append_right _ (List.mem_append_right _ (List.mem_append_right _ (List.mem_append_right _ (List.mem_append_right _ (List.mem_append_left _ (List.mem_of_getElem? (l := bgL_11) (i := 21) rfl))))))))))))
theorem bg_462 : (.lays RX3 "ClassGate$ClassFile" "nestCount" "I" : Cond) ∈ bg := List.mem_append_right _ (List.mem_append_right _ (List.mem_append_right _ (List.mem_append_right _ (List.mem_append_right _ (List.mem_append_right _ (List.mem_append_right _ (List.mem_append_right _ (List.mem_append_right _ (List.mem_append_right _ (List.mem_append_right _ (List.mem_append_left _ (List.mem_of_getElem? (l := bgL_11) (i := 22) rfl))))))))))))
theorem bg_463 : (.lays RX3 "ClassGate$ClassFile" "permittedCount" "I" : Cond) ∈ bg := List.mem_append_right _ (List.mem_append_right _ (List.mem_append_right _ (List.mem_append_right _ (List.mem_append_right _ (List.mem_append_right _ (List.mem_append_right _ (List.mem_append_right _ (List.mem_append_right _ (List.mem_append_right _ (List.mem_append_right _ (List.mem_append_left _ (List.mem_of_getElem? (l := bgL_11) (i := 23) rfl))))))))))))
theorem bg_464 : (.lays RX3 "ClassGate$ClassFile" "recordCount" "I" : Cond) ∈ bg := List.mem_append_right _ (List.mem_append_right _ (List.mem_append_right _ (List.mem_append_right _ (List.mem_append_right _ (List.mem_append_right _ (List.mem_append_right _ (List.mem_append_right _ (List.mem_append_right _ (List.mem_append_right _ (List.mem_append_right _ (List.mem_append_left _ (List.mem_of_getElem? (l := bgL_11) (i := 24) rfl))))))))))))
theorem bg_465 : (.laysFinal RX7 "ClassGate$Pool" "size" "I" : Cond) ∈ bg := List.mem_append_right _ (List.mem_append_right _ (List.mem_append_right _ (List.mem_append_right _ (List.mem_append_right _ (List.mem_append_right _ (List.mem_append_right _ (List.mem_append_right _ (List.mem_append_right _ (List.mem_append_right _ (List.mem_append_right _ (List.mem_append_left _ (List.mem_of_getElem? (l := bgL_11) (i := 25) rfl))))))))))))
theorem bg_466 : (.laysFinal RX7 "ClassGate$Pool" "tags" "[I" : Cond) ∈ bg := List.mem_append_right _ (List.mem_append_right _ (List.mem_append_right _ (List.mem_append_right _ (List.mem_append_right _ (List.mem_append_right _ (List.mem_append_right _ (List.mem_append_right _ (List.mem_append_right _ (List.mem_append_right _ (List.mem_append_right _ (List.mem_append_left _ (List.mem_of_getElem? (l := bgL_11) (i := 26) rfl))))))))))))
theorem bg_467 : (.laysFinal RX7 "ClassGate$Pool" "tagPlaces" "[I" : Cond) ∈ bg := List.mem_append_right _ (List.mem_append_right _ (List.mem_append_right _ (List.mem_append_right _ (List.mem_append_right _ (List.mem_append_right _ (List.mem_append_right _ (List.mem_append_right _ (List.mem_append_right _ (List.mem_append_right _ (List.mem_append_right _ (List.mem_append_left _ (List.mem_of_getElem? (l := bgL_11) (i := 27) rfl))))))))))))
theorem bg_468 : (.laysFinal RX7 "ClassGate$Pool" "firsts" "[I" : Cond) ∈ bg := List.mem_append_right _ (List.mem_append_right _ (List.mem_append_right _ (List.mem_append_right _ (List.mem_append_right _ (List.mem_append_right _ (List.mem_append_right _ (List.mem_append_right _ (List.mem_append_right _ (List.mem_append_right _ (List.mem_append_right _ (List.mem_append_left _ (List.mem_of_getElem? (l := bgL_11) (i := 28) rfl))))))))))))
theorem bg_469 : (.laysFinal RX7 "ClassGate$Pool" "seconds" "[I" : Cond) ∈ bg := List.mem_append_right _ (List.mem_append_right _ (List.mem_append_right _ (List.mem_append_right _ (List.mem_append_right _ (List.mem_append_right _ (List.mem_append_right _ (List.mem_append_right _ (List.mem_append_right _ (List.mem_append_right _ (List.mem_append_right _ (List.mem_append_left _ (List.mem_of_getElem? (l := bgL_11) (i := 29) rfl))))))))))))
theorem bg_470 : (.laysFinal RX7 "ClassGate$Pool" "shapes" "[I" : Cond) ∈ bg := List.mem_append_right _ (List.mem_append_right _ (List.mem_append_right _ (List.mem_append_right _ (List.mem_append_right _ (List.mem_append_right _ (List.mem_append_right _ (List.mem_append_right _ (List.mem_append_right _ (List.mem_append_right _ (List.mem_append_right _ (List.mem_append_left _ (List.mem_of_getElem? (l := bgL_11) (i := 30) rfl))))))))))))
theorem bg_471 : (.laysFinal RX7 "ClassGate$Pool" "characters" "[C" : Cond) ∈ bg := List.mem_append_right _ (List.mem_append_right _ (List.mem_append_right _ (List.mem_append_right _ (List.mem_append_right _ (List.mem_append_right _ (List.mem_append_right _ (List.mem_append_right _ (List.mem_append_right _ (List.mem_append_right _ (List.mem_append_right _ (List.mem_append_left _ (List.mem_of_getElem? (l := bgL_11) (i := 31) rfl))))))))))))
theorem bg_472 : (.lays RX7 "ClassGate$Pool" "characterCount" "I" : Cond) ∈ bg := List.mem_append_right _ (List.mem_append_right _ (List.mem_append_right _ (List.mem_append_right _ (List.mem_append_right _ (List.mem_append_right _ (List.mem_append_right _ (List.mem_append_right _ (List.mem_append_right _ (List.mem_append_right _ (List.mem_append_right _ (List.mem_append_left _ (List.mem_of_getElem? (l := bgL_11) (i := 32) rfl))))))))))))
theorem bg_473 : (.laysFinal RX9 "ClassGate$Reader" "file" "LClassGate$ClassFile;" : Cond) ∈ bg := List.mem_append_right _ (List.mem_append_right _ (List.mem_append_right _ (List.mem_append_right _ (List.mem_append_right _ (List.mem_append_right _ (List.mem_append_right _ (List.mem_append_right _ (List.mem_append_right _ (List.mem_append_right _ (List.mem_append_right _ (List.mem_append_left _ (List.mem_of_getElem? (l := bgL_11) (i := 33) rfl))))))))))))
theorem bg_474 : (.laysFinal RX9 "ClassGate$Reader" "bytes" "LClassGate$Bytes;" : Cond) ∈ bg := List.mem_append_right _ (List.mem_append_right _ (List.mem_append_right _ (List.mem_append_right _ (List.mem_append_right _ (List.mem_append_right _ (List.mem_append_right _ (List.mem_append_right _ (List.mem_append_right _ (List.mem_append_right _ (List.mem_append_right _ (List.mem_append_left _ (List.mem_of_getElem? (l := bgL_11) (i := 34) rfl))))))))))))
theorem bg_475 : (.laysFinal RX9 "ClassGate$Reader" "verdict" "LClassGate$Verdict;" : Cond) ∈ bg := List.mem_append_right _ (List.mem_append_right _ (List.mem_append_right _ (List.mem_append_right _ (List.mem_append_right _ (List.mem_append_right _ (List.mem_append_right _ (List.mem_append_right _ (List.mem_append_right _ (List.mem_append_right _ (List.mem_append_right _ (List.mem_append_left _ (List.mem_of_getElem? (l := bgL_11) (i := 35) rfl))))))))))))
theorem bg_476 : (.lays RX9 "ClassGate$Reader" "at" "I" : Cond) ∈ bg := List.mem_append_right _ (List.mem_append_right _ (List.mem_append_right _ (List.mem_append_right _ (List.mem_append_right _ (List.mem_append_right _ (List.mem_append_right _ (List.mem_append_right _ (List.mem_append_right _ (List.mem_append_right _ (List.mem_append_right _ (List.mem_append_left _ (List.mem_of_getElem? (l := bgL_11) (i := 36) rfl))))))))))))
theorem bg_477 : (.lays RX9 "ClassGate$Reader" "item" "I" : Cond) ∈ bg := List.mem_append_right _ (List.mem_append_right _ (List.mem_append_right _ (List.mem_append_right _ (List.mem_append_right _ (List.mem_append_right _ (List.mem_append_right _ (List.mem_append_right _ (List.mem_append_right _ (List.mem_append_right _ (List.mem_append_right _ (List.mem_append_left _ (List.mem_of_getElem? (l := bgL_11) (i := 37) rfl))))))))))))
theorem bg_478 : (.lays RX10 "ClassGate$Verdict" "rule" "I" : Cond) ∈ bg := List.mem_append_right _ (List.mem_append_right _ (List.mem_append_right _ (List.mem_append_right _ (List.mem_append_right _ (List.mem_append_right _ (List.mem_append_right _ (List.mem_append_right _ (List.mem_append_right _ (List.mem_append_right _ (List.mem_append_right _ (List.mem_append_left _ (List.mem_of_getElem? (l := bgL_11) (i := 38) rfl))))))))))))
theorem bg_479 : (.lays RX10 "ClassGate$Verdict" "wrongAt" "I" : Cond) ∈ bg := List.mem_append_right _ (List.mem_append_right _ (List.mem_append_right _ (List.mem_append_right _ (List.mem_append_right _ (List.mem_append_right _ (List.mem_append_right _ (List.mem_append_right _ (List.mem_append_right _ (List.mem_append_right _ (List.mem_append_right _ (List.mem_append_left _ (List.mem_of_getElem? (l := bgL_11) (i := 39) rfl))))))))))))
theorem bg_480 : (.lays RX11 "ClassGate" "came" "[B" : Cond) ∈ bg := List.mem_append_right _ (List.mem_append_right _ (List.mem_append_right _ (List.mem_append_right _ (List.mem_append_right _ (List.mem_append_right _ (List.mem_append_right _ (List.mem_append_right _ (List.mem_append_right _ (List.mem_append_right _ (List.mem_append_right _ (List.mem_append_right _ (List.mem_append_left _ (List.mem_of_getElem? (l := bgL_12) (i := 0) rfl)))))))))))))
theorem bg_481 : (.lays RX11 "ClassGate" "cameCount" "I" : Cond) ∈ bg := List.mem_append_right _ (List.mem_append_right _ (List.mem_append_right _ (List.mem_append_right _ (List.mem_append_right _ (List.mem_append_right _ (List.mem_append_right _ (List.mem_append_right _ (List.mem_append_right _ (List.mem_append_right _ (List.mem_append_right _ (List.mem_append_right _ (List.mem_append_left _ (List.mem_of_getElem? (l := bgL_12) (i := 1) rfl)))))))))))))
theorem bg_482 : (.lays RX11 "ClassGate" "file" "[B" : Cond) ∈ bg := List.mem_append_right _ (List.mem_append_right _ (List.mem_append_right _ (List.mem_append_right _ (List.mem_append_right _ (List.mem_append_right _ (List.mem_append_right _ (List.mem_append_right _ (List.mem_append_right _ (List.mem_append_right _ (List.mem_append_right _ (List.mem_append_right _ (List.mem_append_left _ (List.mem_of_getElem? (l := bgL_12) (i := 2) rfl)))))))))))))
theorem bg_483 : (.lays RX11 "ClassGate" "kept" "LClassGate$ClassFile;" : Cond) ∈ bg := List.mem_append_right _ (List.mem_append_right _ (List.mem_append_right _ (List.mem_append_right _ (List.mem_append_right _ (List.mem_append_right _ (List.mem_append_right _ (List.mem_append_right _ (List.mem_append_right _ (List.mem_append_right _ (List.mem_append_right _ (List.mem_append_right _ (List.mem_append_left _ (List.mem_of_getElem? (l := bgL_12) (i := 3) rfl)))))))))))))
theorem bg_484 : (.lays RX11 "ClassGate" "wrongPlace" "I" : Cond) ∈ bg := List.mem_append_right _ (List.mem_append_right _ (List.mem_append_right _ (List.mem_append_right _ (List.mem_append_right _ (List.mem_append_right _ (List.mem_append_right _ (List.mem_append_right _ (List.mem_append_right _ (List.mem_append_right _ (List.mem_append_right _ (List.mem_append_right _ (List.mem_append_left _ (List.mem_of_getElem? (l := bgL_12) (i := 4) rfl)))))))))))))
theorem bg_485 : (.lays RX12 "ClassGateModel" "thrown" "I" : Cond) ∈ bg := List.mem_append_right _ (List.mem_append_right _ (List.mem_append_right _ (List.mem_append_right _ (List.mem_append_right _ (List.mem_append_right _ (List.mem_append_right _ (List.mem_append_right _ (List.mem_append_right _ (List.mem_append_right _ (List.mem_append_right _ (List.mem_append_right _ (List.mem_append_left _ (List.mem_of_getElem? (l := bgL_12) (i := 5) rfl)))))))))))))
theorem bg_486 : (.laysFinal RX12 "ClassGateModel" "chars" "[C" : Cond) ∈ bg := List.mem_append_right _ (List.mem_append_right _ (List.mem_append_right _ (List.mem_append_right _ (List.mem_append_right _ (List.mem_append_right _ (List.mem_append_right _ (List.mem_append_right _ (List.mem_append_right _ (List.mem_append_right _ (List.mem_append_right _ (List.mem_append_right _ (List.mem_append_left _ (List.mem_of_getElem? (l := bgL_12) (i := 6) rfl)))))))))))))
theorem bg_487 : (.laysFinal RX12 "ClassGateModel" "cut" "[C" : Cond) ∈ bg := List.mem_append_right _ (List.mem_append_right _ (List.mem_append_right _ (List.mem_append_right _ (List.mem_append_right _ (List.mem_append_right _ (List.mem_append_right _ (List.mem_append_right _ (List.mem_append_right _ (List.mem_append_right _ (List.mem_append_right _ (List.mem_append_right _ (List.mem_append_left _ (List.mem_of_getElem? (l := bgL_12) (i := 7) rfl)))))))))))))
theorem bg_488 : (.lays RX12 "ClassGateModel" "charsN" "I" : Cond) ∈ bg := List.mem_append_right _ (List.mem_append_right _ (List.mem_append_right _ (List.mem_append_right _ (List.mem_append_right _ (List.mem_append_right _ (List.mem_append_right _ (List.mem_append_right _ (List.mem_append_right _ (List.mem_append_right _ (List.mem_append_right _ (List.mem_append_right _ (List.mem_append_left _ (List.mem_of_getElem? (l := bgL_12) (i := 8) rfl)))))))))))))
theorem bg_489 : (.laysFinal RX12 "ClassGateModel" "symAt" "[I" : Cond) ∈ bg := List.mem_append_right _ (List.mem_append_right _ (List.mem_append_right _ (List.mem_append_right _ (List.mem_append_right _ (List.mem_append_right _ (List.mem_append_right _ (List.mem_append_right _ (List.mem_append_right _ (List.mem_append_right _ (List.mem_append_right _ (List.mem_append_right _ (List.mem_append_left _ (List.mem_of_getElem? (l := bgL_12) (i := 9) rfl)))))))))))))
theorem bg_490 : (.laysFinal RX12 "ClassGateModel" "symLen" "[I" : Cond) ∈ bg := List.mem_append_right _ (List.mem_append_right _ (List.mem_append_right _ (List.mem_append_right _ (List.mem_append_right _ (List.mem_append_right _ (List.mem_append_right _ (List.mem_append_right _ (List.mem_append_right _ (List.mem_append_right _ (List.mem_append_right _ (List.mem_append_right _ (List.mem_append_left _ (List.mem_of_getElem? (l := bgL_12) (i := 10) rfl)))))))))))))
theorem bg_491 : (.laysFinal RX12 "ClassGateModel" "symNext" "[I" : Cond) ∈ bg := List.mem_append_right _ (List.mem_append_right _ (List.mem_append_right _ (List.mem_append_right _ (List.mem_append_right _ (List.mem_append_right _ (List.mem_append_right _ (List.mem_append_right _ (List.mem_append_right _ (List.mem_append_right _ (List.mem_append_right _ (List.mem_append_right _ (List.mem_append_left _ (List.mem_of_getElem? (l := bgL_12) (i := 11) rfl)))))))))))))
theorem bg_492 : (.laysFinal RX12 "ClassGateModel" "symHead" "[I" : Cond) ∈ bg := List.mem_append_right _ (List.mem_append_right _ (List.mem_append_right _ (List.mem_append_right _ (List.mem_append_right _ (List.mem_append_right _ (List.mem_append_right _ (List.mem_append_right _ (List.mem_append_right _ (List.mem_append_right _ (List.mem_append_right _ (List.mem_append_right _ (List.mem_append_left _ (List.mem_of_getElem? (l := bgL_12) (i := 12) rfl)))))))))))))
theorem bg_493 : (.lays RX12 "ClassGateModel" "syms" "I" : Cond) ∈ bg := List.mem_append_right _ (List.mem_append_right _ (List.mem_append_right _ (List.mem_append_right _ (List.mem_append_right _ (List.mem_append_right _ (List.mem_append_right _ (List.mem_append_right _ (List.mem_append_right _ (List.mem_append_right _ (List.mem_append_right _ (List.mem_append_right _ (List.mem_append_left _ (List.mem_of_getElem? (l := bgL_12) (i := 13) rfl)))))))))))))
theorem bg_494 : (.lays RX12 "ClassGateModel" "S_INIT" "I" : Cond) ∈ bg := List.mem_append_right _ (List.mem_append_right _ (List.mem_append_right _ (List.mem_append_right _ (List.mem_append_right _ (List.mem_append_right _ (List.mem_append_right _ (List.mem_append_right _ (List.mem_append_right _ (List.mem_append_right _ (List.mem_append_right _ (List.mem_append_right _ (List.mem_append_left _ (List.mem_of_getElem? (l := bgL_12) (i := 14) rfl)))))))))))))
theorem bg_495 : (.lays RX12 "ClassGateModel" "S_CLINIT" "I" : Cond) ∈ bg := List.mem_append_right _ (List.mem_append_right _ (List.mem_append_right _ (List.mem_append_right _ (List.mem_append_right _ (List.mem_append_right _ (List.mem_append_right _ (List.mem_append_right _ (List.mem_append_right _ (List.mem_append_right _ (List.mem_append_right _ (List.mem_append_right _ (List.mem_append_left _ (List.mem_of_getElem? (l := bgL_12) (i := 15) rfl)))))))))))))
theorem bg_496 : (.lays RX12 "ClassGateModel" "S_OBJECT" "I" : Cond) ∈ bg := List.mem_append_right _ (List.mem_append_right _ (List.mem_append_right _ (List.mem_append_right _ (List.mem_append_right _ (List.mem_append_right _ (List.mem_append_right _ (List.mem_append_right _ (List.mem_append_right _ (List.mem_append_right _ (List.mem_append_right _ (List.mem_append_right _ (List.mem_append_left _ (List.mem_of_getElem? (l := bgL_12) (i := 16) rfl)))))))))))))
theorem bg_497 : (.laysFinal RX12 "ClassGateModel" "files" "[B" : Cond) ∈ bg := List.mem_append_right _ (List.mem_append_right _ (List.mem_append_right _ (List.mem_append_right _ (List.mem_append_right _ (List.mem_append_right _ (List.mem_append_right _ (List.mem_append_right _ (List.mem_append_right _ (List.mem_append_right _ (List.mem_append_right _ (List.mem_append_right _ (List.mem_append_left _ (List.mem_of_getElem? (l := bgL_12) (i := 17) rfl)))))))))))))
theorem bg_498 : (.laysFinal RX12 "ClassGateModel" "file" "[B" : Cond) ∈ bg := List.mem_append_right _ (List.mem_append_right _ (List.mem_append_right _ (List.mem_append_right _ (List.mem_append_right _ (List.mem_append_right _ (List.mem_append_right _ (List.mem_append_right _ (List.mem_append_right _ (List.mem_append_right _ (List.mem_append_right _ (List.mem_append_right _ (List.mem_append_left _ (List.mem_of_getElem? (l := bgL_12) (i := 18) rfl)))))))))))))
theorem bg_499 : (.laysFinal RX12 "ClassGateModel" "kept" "[B" : Cond) ∈ bg := List.mem_append_right _ (List.mem_append_right _ (List.mem_append_right _ (List.mem_append_right _ (List.mem_append_right _ (List.mem_append_right _ (List.mem_append_right _ (List.mem_append_right _ (List.mem_append_right _ (List.mem_append_right _ (List.mem_append_right _ (List.mem_append_right _ (List.mem_append_left _ (List.mem_of_getElem? (l := bgL_12) (i := 19) rfl)))))))))))))
theorem bg_500 : (.laysFinal RX12 "ClassGateModel" "came" "[B" : Cond) ∈ bg := List.mem_append_right _ (List.mem_append_right _ (List.mem_append_right _ (List.mem_append_right _ (List.mem_append_right _ (List.mem_append_right _ (List.mem_append_right _ (List.mem_append_right _ (List.mem_append_right _ (List.mem_append_right _ (List.mem_append_right _ (List.mem_append_right _ (List.mem_append_left _ (List.mem_of_getElem? (l := bgL_12) (i := 20) rfl)))))))))))))
theorem bg_501 : (.lays RX12 "ClassGateModel" "size" "I" : Cond) ∈ bg := List.mem_append_right _ (List.mem_append_right _ (List.mem_append_right _ (List.mem_append_right _ (List.mem_append_right _ (List.mem_append_right _ (List.mem_append_right _ (List.mem_append_right _ (List.mem_append_right _ (List.mem_append_right _ (List.mem_append_right _ (List.mem_append_right _ (List.mem_append_left _ (List.mem_of_getElem? (l := bgL_12) (i := 21) rfl)))))))))))))
theorem bg_502 : (.lays RX12 "ClassGateModel" "fileN" "I" : Cond) ∈ bg := List.mem_append_right _ (List.mem_append_right _ (List.mem_append_right _ (List.mem_append_right _ (List.mem_append_right _ (List.mem_append_right _ (List.mem_append_right _ (List.mem_append_right _ (List.mem_append_right _ (List.mem_append_right _ (List.mem_append_right _ (List.mem_append_right _ (List.mem_append_left _ (List.mem_of_getElem? (l := bgL_12) (i := 22) rfl)))))))))))))
theorem bg_503 : (.lays RX12 "ClassGateModel" "keptN" "I" : Cond) ∈ bg := List.mem_append_right _ (List.mem_append_right _ (List.mem_append_right _ (List.mem_append_right _ (List.mem_append_right _ (List.mem_append_right _ (List.mem_append_right _ (List.mem_append_right _ (List.mem_append_right _ (List.mem_append_right _ (List.mem_append_right _ (List.mem_append_right _ (List.mem_append_left _ (List.mem_of_getElem? (l := bgL_12) (i := 23) rfl)))))))))))))
theorem bg_504 : (.lays RX12 "ClassGateModel" "cameN" "I" : Cond) ∈ bg := List.mem_append_right _ (List.mem_append_right _ (List.mem_append_right _ (List.mem_append_right _ (List.mem_append_right _ (List.mem_append_right _ (List.mem_append_right _ (List.mem_append_right _ (List.mem_append_right _ (List.mem_append_right _ (List.mem_append_right _ (List.mem_append_right _ (List.mem_append_left _ (List.mem_of_getElem? (l := bgL_12) (i := 24) rfl)))))))))))))
theorem bg_505 : (.lays RX12 "ClassGateModel" "pool" "I" : Cond) ∈ bg := List.mem_append_right _ (List.mem_append_right _ (List.mem_append_right _ (List.mem_append_right _ (List.mem_append_right _ (List.mem_append_right _ (List.mem_append_right _ (List.mem_append_right _ (List.mem_append_right _ (List.mem_append_right _ (List.mem_append_right _ (List.mem_append_right _ (List.mem_append_left _ (List.mem_of_getElem? (l := bgL_12) (i := 25) rfl)))))))))))))
theorem bg_506 : (.laysFinal RX12 "ClassGateModel" "pAt" "[I" : Cond) ∈ bg := List.mem_append_right _ (List.mem_append_right _ (List.mem_append_right _ (List.mem_append_right _ (List.mem_append_right _ (List.mem_append_right _ (List.mem_append_right _ (List.mem_append_right _ (List.mem_append_right _ (List.mem_append_right _ (List.mem_append_right _ (List.mem_append_right _ (List.mem_append_left _ (List.mem_of_getElem? (l := bgL_12) (i := 26) rfl)))))))))))))
theorem bg_507 : (.laysFinal RX12 "ClassGateModel" "pSym" "[I" : Cond) ∈ bg := List.mem_append_right _ (List.mem_append_right _ (List.mem_append_right _ (List.mem_append_right _ (List.mem_append_right _ (List.mem_append_right _ (List.mem_append_right _ (List.mem_append_right _ (List.mem_append_right _ (List.mem_append_right _ (List.mem_append_right _ (List.mem_append_right _ (List.mem_append_left _ (List.mem_of_getElem? (l := bgL_12) (i := 27) rfl)))))))))))))
theorem bg_508 : (.laysFinal RX12 "ClassGateModel" "pState" "[I" : Cond) ∈ bg := List.mem_append_right _ (List.mem_append_right _ (List.mem_append_right _ (List.mem_append_right _ (List.mem_append_right _ (List.mem_append_right _ (List.mem_append_right _ (List.mem_append_right _ (List.mem_append_right _ (List.mem_append_right _ (List.mem_append_right _ (List.mem_append_right _ (List.mem_append_left _ (List.mem_of_getElem? (l := bgL_12) (i := 28) rfl)))))))))))))
theorem bg_509 : (.laysFinal RX12 "ClassGateModel" "pObj" "[I" : Cond) ∈ bg := List.mem_append_right _ (List.mem_append_right _ (List.mem_append_right _ (List.mem_append_right _ (List.mem_append_right _ (List.mem_append_right _ (List.mem_append_right _ (List.mem_append_right _ (List.mem_append_right _ (List.mem_append_right _ (List.mem_append_right _ (List.mem_append_right _ (List.mem_append_left _ (List.mem_of_getElem? (l := bgL_12) (i := 29) rfl)))))))))))))
theorem bg_510 : (.lays RX12 "ClassGateModel" "fields" "I" : Cond) ∈ bg := List.mem_append_right _ (List.mem_append_right _ (List.mem_append_right _ (List.mem_append_right _ (List.mem_append_right _ (List.mem_append_right _ (List.mem_append_right _ (List.mem_append_right _ (List.mem_append_right _ (List.mem_append_right _ (List.mem_append_right _ (List.mem_append_right _ (List.mem_append_left _ (List.mem_of_getElem? (l := bgL_12) (i := 30) rfl)))))))))))))
theorem bg_511 : (.lays RX12 "ClassGateModel" "methods" "I" : Cond) ∈ bg := List.mem_append_right _ (List.mem_append_right _ (List.mem_append_right _ (List.mem_append_right _ (List.mem_append_right _ (List.mem_append_right _ (List.mem_append_right _ (List.mem_append_right _ (List.mem_append_right _ (List.mem_append_right _ (List.mem_append_right _ (List.mem_append_right _ (List.mem_append_left _ (List.mem_of_getElem? (l := bgL_12) (i := 31) rfl)))))))))))))
theorem bg_512 : (.laysFinal RX12 "ClassGateModel" "fFlags" "[I" : Cond) ∈ bg := List.mem_append_right _ (List.mem_append_right _ (List.mem_append_right _ (List.mem_append_right _ (List.mem_append_right _ (List.mem_append_right _ (List.mem_append_right _ (List.mem_append_right _ (List.mem_append_right _ (List.mem_append_right _ (List.mem_append_right _ (List.mem_append_right _ (List.mem_append_left _ (List.mem_of_getElem? (l := bgL_12) (i := 32) rfl)))))))))))))
theorem bg_513 : (.laysFinal RX12 "ClassGateModel" "fName" "[I" : Cond) ∈ bg := List.mem_append_right _ (List.mem_append_right _ (List.mem_append_right _ (List.mem_append_right _ (List.mem_append_right _ (List.mem_append_right _ (List.mem_append_right _ (List.mem_append_right _ (List.mem_append_right _ (List.mem_append_right _ (List.mem_append_right _ (List.mem_append_right _ (List.mem_append_left _ (List.mem_of_getElem? (l := bgL_12) (i := 33) rfl)))))))))))))
theorem bg_514 : (.laysFinal RX12 "ClassGateModel" "fDesc" "[I" : Cond) ∈ bg := List.mem_append_right _ (List.mem_append_right _ (List.mem_append_right _ (List.mem_append_right _ (List.mem_append_right _ (List.mem_append_right _ (List.mem_append_right _ (List.mem_append_right _ (List.mem_append_right _ (List.mem_append_right _ (List.mem_append_right _ (List.mem_append_right _ (List.mem_append_left _ (List.mem_of_getElem? (l := bgL_12) (i := 34) rfl)))))))))))))
theorem bg_515 : (.laysFinal RX12 "ClassGateModel" "fConst" "[I" : Cond) ∈ bg := List.mem_append_right _ (List.mem_append_right _ (List.mem_append_right _ (List.mem_append_right _ (List.mem_append_right _ (List.mem_append_right _ (List.mem_append_right _ (List.mem_append_right _ (List.mem_append_right _ (List.mem_append_right _ (List.mem_append_right _ (List.mem_append_right _ (List.mem_append_left _ (List.mem_of_getElem? (l := bgL_12) (i := 35) rfl)))))))))))))
theorem bg_516 : (.laysFinal RX12 "ClassGateModel" "fKnown" "[I" : Cond) ∈ bg := List.mem_append_right _ (List.mem_append_right _ (List.mem_append_right _ (List.mem_append_right _ (List.mem_append_right _ (List.mem_append_right _ (List.mem_append_right _ (List.mem_append_right _ (List.mem_append_right _ (List.mem_append_right _ (List.mem_append_right _ (List.mem_append_right _ (List.mem_append_left _ (List.mem_of_getElem? (l := bgL_12) (i := 36) rfl)))))))))))))
theorem bg_517 : (.laysFinal RX12 "ClassGateModel" "fNameAt" "[I" : Cond) ∈ bg := List.mem_append_right _ (List.mem_append_right _ (List.mem_append_right _ (List.mem_append_right _ (List.mem_append_right _ (List.mem_append_right _ (List.mem_append_right _ (List.mem_append_right _ (List.mem_append_right _ (List.mem_append_right _ (List.mem_append_right _ (List.mem_append_right _ (List.mem_append_left _ (List.mem_of_getElem? (l := bgL_12) (i := 37) rfl)))))))))))))
theorem bg_518 : (.laysFinal RX12 "ClassGateModel" "fDescAt" "[I" : Cond) ∈ bg := List.mem_append_right _ (List.mem_append_right _ (List.mem_append_right _ (List.mem_append_right _ (List.mem_append_right _ (List.mem_append_right _ (List.mem_append_right _ (List.mem_append_right _ (List.mem_append_right _ (List.mem_append_right _ (List.mem_append_right _ (List.mem_append_right _ (List.mem_append_left _ (List.mem_of_getElem? (l := bgL_12) (i := 38) rfl)))))))))))))
theorem bg_519 : (.laysFinal RX12 "ClassGateModel" "mFlags" "[I" : Cond) ∈ bg := List.mem_append_right _ (List.mem_append_right _ (List.mem_append_right _ (List.mem_append_right _ (List.mem_append_right _ (List.mem_append_right _ (List.mem_append_right _ (List.mem_append_right _ (List.mem_append_right _ (List.mem_append_right _ (List.mem_append_right _ (List.mem_append_right _ (List.mem_append_left _ (List.mem_of_getElem? (l := bgL_12) (i := 39) rfl)))))))))))))
theorem bg_520 : (.laysFinal RX12 "ClassGateModel" "mName" "[I" : Cond) ∈ bg := List.mem_append_right _ (List.mem_append_right _ (List.mem_append_right _ (List.mem_append_right _ (List.mem_append_right _ (List.mem_append_right _ (List.mem_append_right _ (List.mem_append_right _ (List.mem_append_right _ (List.mem_append_right _ (List.mem_append_right _ (List.mem_append_right _ (List.mem_append_right _ (List.mem_append_left _ (List.mem_of_getElem? (l := bgL_13) (i := 0) rfl))))))))))))))
theorem bg_521 : (.laysFinal RX12 "ClassGateModel" "mDesc" "[I" : Cond) ∈ bg := List.mem_append_right _ (List.mem_append_right _ (List.mem_append_right _ (List.mem_append_right _ (List.mem_append_right _ (List.mem_append_right _ (List.mem_append_right _ (List.mem_append_right _ (List.mem_append_right _ (List.mem_append_right _ (List.mem_append_right _ (List.mem_append_right _ (List.mem_append_right _ (List.mem_append_left _ (List.mem_of_getElem? (l := bgL_13) (i := 1) rfl))))))))))))))
theorem bg_522 : (.laysFinal RX12 "ClassGateModel" "mCode" "[I" : Cond) ∈ bg := List.mem_append_right _ (List.mem_append_right _ (List.mem_append_right _ (List.mem_append_right _ (List.mem_append_right _ (List.mem_append_right _ (List.mem_append_right _ (List.mem_append_right _ (List.mem_append_right _ (List.mem_append_right _ (List.mem_append_right _ (List.mem_append_right _ (List.mem_append_right _ (List.mem_append_left _ (List.mem_of_getElem? (l := bgL_13) (i := 2) rfl))))))))))))))
theorem bg_523 : (.laysFinal RX12 "ClassGateModel" "mLen" "[I" : Cond) ∈ bg := List.mem_append_right _ (List.mem_append_right _ (List.mem_append_right _ (List.mem_append_right _ (List.mem_append_right _ (List.mem_append_right _ (List.mem_append_right _ (List.mem_append_right _ (List.mem_append_right _ (List.mem_append_right _ (List.mem_append_right _ (List.mem_append_right _ (List.mem_append_right _ (List.mem_append_left _ (List.mem_of_getElem? (l := bgL_13) (i := 3) rfl))))))))))))))
theorem bg_524 : (.laysFinal RX12 "ClassGateModel" "mStack" "[I" : Cond) ∈ bg := List.mem_append_right _ (List.mem_append_right _ (List.mem_append_right _ (List.mem_append_right _ (List.mem_append_right _ (List.mem_append_right _ (List.mem_append_right _ (List.mem_append_right _ (List.mem_append_right _ (List.mem_append_right _ (List.mem_append_right _ (List.mem_append_right _ (List.mem_append_right _ (List.mem_append_left _ (List.mem_of_getElem? (l := bgL_13) (i := 4) rfl))))))))))))))
theorem bg_525 : (.laysFinal RX12 "ClassGateModel" "mLocals" "[I" : Cond) ∈ bg := List.mem_append_right _ (List.mem_append_right _ (List.mem_append_right _ (List.mem_append_right _ (List.mem_append_right _ (List.mem_append_right _ (List.mem_append_right _ (List.mem_append_right _ (List.mem_append_right _ (List.mem_append_right _ (List.mem_append_right _ (List.mem_append_right _ (List.mem_append_right _ (List.mem_append_left _ (List.mem_of_getElem? (l := bgL_13) (i := 5) rfl))))))))))))))
theorem bg_526 : (.laysFinal RX12 "ClassGateModel" "mRows" "[I" : Cond) ∈ bg := List.mem_append_right _ (List.mem_append_right _ (List.mem_append_right _ (List.mem_append_right _ (List.mem_append_right _ (List.mem_append_right _ (List.mem_append_right _ (List.mem_append_right _ (List.mem_append_right _ (List.mem_append_right _ (List.mem_append_right _ (List.mem_append_right _ (List.mem_append_right _ (List.mem_append_left _ (List.mem_of_getElem? (l := bgL_13) (i := 6) rfl))))))))))))))
theorem bg_527 : (.laysFinal RX12 "ClassGateModel" "mRowN" "[I" : Cond) ∈ bg := List.mem_append_right _ (List.mem_append_right _ (List.mem_append_right _ (List.mem_append_right _ (List.mem_append_right _ (List.mem_append_right _ (List.mem_append_right _ (List.mem_append_right _ (List.mem_append_right _ (List.mem_append_right _ (List.mem_append_right _ (List.mem_append_right _ (List.mem_append_right _ (List.mem_append_left _ (List.mem_of_getElem? (l := bgL_13) (i := 7) rfl))))))))))))))
theorem bg_528 : (.laysFinal RX12 "ClassGateModel" "mKnown" "[I" : Cond) ∈ bg := List.mem_append_right _ (List.mem_append_right _ (List.mem_append_right _ (List.mem_append_right _ (List.mem_append_right _ (List.mem_append_right _ (List.mem_append_right _ (List.mem_append_right _ (List.mem_append_right _ (List.mem_append_right _ (List.mem_append_right _ (List.mem_append_right _ (List.mem_append_right _ (List.mem_append_left _ (List.mem_of_getElem? (l := bgL_13) (i := 8) rfl))))))))))))))
theorem bg_529 : (.laysFinal RX12 "ClassGateModel" "mThrows" "[I" : Cond) ∈ bg := List.mem_append_right _ (List.mem_append_right _ (List.mem_append_right _ (List.mem_append_right _ (List.mem_append_right _ (List.mem_append_right _ (List.mem_append_right _ (List.mem_append_right _ (List.mem_append_right _ (List.mem_append_right _ (List.mem_append_right _ (List.mem_append_right _ (List.mem_append_right _ (List.mem_append_left _ (List.mem_of_getElem? (l := bgL_13) (i := 9) rfl))))))))))))))
theorem bg_530 : (.laysFinal RX12 "ClassGateModel" "mNameAt" "[I" : Cond) ∈ bg := List.mem_append_right _ (List.mem_append_right _ (List.mem_append_right _ (List.mem_append_right _ (List.mem_append_right _ (List.mem_append_right _ (List.mem_append_right _ (List.mem_append_right _ (List.mem_append_right _ (List.mem_append_right _ (List.mem_append_right _ (List.mem_append_right _ (List.mem_append_right _ (List.mem_append_left _ (List.mem_of_getElem? (l := bgL_13) (i := 10) rfl))))))))))))))
theorem bg_531 : (.laysFinal RX12 "ClassGateModel" "mDescAt" "[I" : Cond) ∈ bg := List.mem_append_right _ (List.mem_append_right _ (List.mem_append_right _ (List.mem_append_right _ (List.mem_append_right _ (List.mem_append_right _ (List.mem_append_right _ (List.mem_append_right _ (List.mem_append_right _ (List.mem_append_right _ (List.mem_append_right _ (List.mem_append_right _ (List.mem_append_right _ (List.mem_append_left _ (List.mem_of_getElem? (l := bgL_13) (i := 11) rfl))))))))))))))
theorem bg_532 : (.lays RX12 "ClassGateModel" "rule" "I" : Cond) ∈ bg := List.mem_append_right _ (List.mem_append_right _ (List.mem_append_right _ (List.mem_append_right _ (List.mem_append_right _ (List.mem_append_right _ (List.mem_append_right _ (List.mem_append_right _ (List.mem_append_right _ (List.mem_append_right _ (List.mem_append_right _ (List.mem_append_right _ (List.mem_append_right _ (List.mem_append_left _ (List.mem_of_getElem? (l := bgL_13) (i := 12) rfl))))))))))))))
theorem bg_533 : (.lays RX12 "ClassGateModel" "wrongAt" "I" : Cond) ∈ bg := List.mem_append_right _ (List.mem_append_right _ (List.mem_append_right _ (List.mem_append_right _ (List.mem_append_right _ (List.mem_append_right _ (List.mem_append_right _ (List.mem_append_right _ (List.mem_append_right _ (List.mem_append_right _ (List.mem_append_right _ (List.mem_append_right _ (List.mem_append_right _ (List.mem_append_left _ (List.mem_of_getElem? (l := bgL_13) (i := 13) rfl))))))))))))))
theorem bg_534 : (.lays RX12 "ClassGateModel" "base" "I" : Cond) ∈ bg := List.mem_append_right _ (List.mem_append_right _ (List.mem_append_right _ (List.mem_append_right _ (List.mem_append_right _ (List.mem_append_right _ (List.mem_append_right _ (List.mem_append_right _ (List.mem_append_right _ (List.mem_append_right _ (List.mem_append_right _ (List.mem_append_right _ (List.mem_append_right _ (List.mem_append_left _ (List.mem_of_getElem? (l := bgL_13) (i := 14) rfl))))))))))))))
theorem bg_535 : (.lays RX12 "ClassGateModel" "pos" "I" : Cond) ∈ bg := List.mem_append_right _ (List.mem_append_right _ (List.mem_append_right _ (List.mem_append_right _ (List.mem_append_right _ (List.mem_append_right _ (List.mem_append_right _ (List.mem_append_right _ (List.mem_append_right _ (List.mem_append_right _ (List.mem_append_right _ (List.mem_append_right _ (List.mem_append_right _ (List.mem_append_left _ (List.mem_of_getElem? (l := bgL_13) (i := 15) rfl))))))))))))))
theorem bg_536 : (.lays RX12 "ClassGateModel" "cpBase" "I" : Cond) ∈ bg := List.mem_append_right _ (List.mem_append_right _ (List.mem_append_right _ (List.mem_append_right _ (List.mem_append_right _ (List.mem_append_right _ (List.mem_append_right _ (List.mem_append_right _ (List.mem_append_right _ (List.mem_append_right _ (List.mem_append_right _ (List.mem_append_right _ (List.mem_append_right _ (List.mem_append_left _ (List.mem_of_getElem? (l := bgL_13) (i := 16) rfl))))))))))))))
theorem bg_537 : (.lays RX12 "ClassGateModel" "cpN" "I" : Cond) ∈ bg := List.mem_append_right _ (List.mem_append_right _ (List.mem_append_right _ (List.mem_append_right _ (List.mem_append_right _ (List.mem_append_right _ (List.mem_append_right _ (List.mem_append_right _ (List.mem_append_right _ (List.mem_append_right _ (List.mem_append_right _ (List.mem_append_right _ (List.mem_append_right _ (List.mem_append_left _ (List.mem_of_getElem? (l := bgL_13) (i := 17) rfl))))))))))))))
theorem bg_538 : (.lays RX12 "ClassGateModel" "major" "I" : Cond) ∈ bg := List.mem_append_right _ (List.mem_append_right _ (List.mem_append_right _ (List.mem_append_right _ (List.mem_append_right _ (List.mem_append_right _ (List.mem_append_right _ (List.mem_append_right _ (List.mem_append_right _ (List.mem_append_right _ (List.mem_append_right _ (List.mem_append_right _ (List.mem_append_right _ (List.mem_append_left _ (List.mem_of_getElem? (l := bgL_13) (i := 18) rfl))))))))))))))
theorem bg_539 : (.lays RX12 "ClassGateModel" "headAt" "I" : Cond) ∈ bg := List.mem_append_right _ (List.mem_append_right _ (List.mem_append_right _ (List.mem_append_right _ (List.mem_append_right _ (List.mem_append_right _ (List.mem_append_right _ (List.mem_append_right _ (List.mem_append_right _ (List.mem_append_right _ (List.mem_append_right _ (List.mem_append_right _ (List.mem_append_right _ (List.mem_append_left _ (List.mem_of_getElem? (l := bgL_13) (i := 19) rfl))))))))))))))
theorem bg_540 : (.lays RX12 "ClassGateModel" "fieldsAt" "I" : Cond) ∈ bg := List.mem_append_right _ (List.mem_append_right _ (List.mem_append_right _ (List.mem_append_right _ (List.mem_append_right _ (List.mem_append_right _ (List.mem_append_right _ (List.mem_append_right _ (List.mem_append_right _ (List.mem_append_right _ (List.mem_append_right _ (List.mem_append_right _ (List.mem_append_right _ (List.mem_append_left _ (List.mem_of_getElem? (l := bgL_13) (i := 20) rfl))))))))))))))
theorem bg_541 : (.lays RX12 "ClassGateModel" "methodsAt" "I" : Cond) ∈ bg := List.mem_append_right _ (List.mem_append_right _ (List.mem_append_right _ (List.mem_append_right _ (List.mem_append_right _ (List.mem_append_right _ (List.mem_append_right _ (List.mem_append_right _ (List.mem_append_right _ (List.mem_append_right _ (List.mem_append_right _ (List.mem_append_right _ (List.mem_append_right _ (List.mem_append_left _ (List.mem_of_getElem? (l := bgL_13) (i := 21) rfl))))))))))))))
theorem bg_542 : (.lays RX12 "ClassGateModel" "attributesAt" "I" : Cond) ∈ bg := List.mem_append_right _ (List.mem_append_right _ (List.mem_append_right _ (List.mem_append_right _ (List.mem_append_right _ (List.mem_append_right _ (List.mem_append_right _ (List.mem_append_right _ (List.mem_append_right _ (List.mem_append_right _ (List.mem_append_right _ (List.mem_append_right _ (List.mem_append_right _ (List.mem_append_left _ (List.mem_of_getElem? (l := bgL_13) (i := 22) rfl))))))))))))))
theorem bg_543 : (.lays RX12 "ClassGateModel" "newFlags" "I" : Cond) ∈ bg := List.mem_append_right _ (List.mem_append_right _ (List.mem_append_right _ (List.mem_append_right _ (List.mem_append_right _ (List.mem_append_right _ (List.mem_append_right _ (List.mem_append_right _ (List.mem_append_right _ (List.mem_append_right _ (List.mem_append_right _ (List.mem_append_right _ (List.mem_append_right _ (List.mem_append_left _ (List.mem_of_getElem? (l := bgL_13) (i := 23) rfl))))))))))))))
theorem bg_544 : (.lays RX12 "ClassGateModel" "newName" "I" : Cond) ∈ bg := List.mem_append_right _ (List.mem_append_right _ (List.mem_append_right _ (List.mem_append_right _ (List.mem_append_right _ (List.mem_append_right _ (List.mem_append_right _ (List.mem_append_right _ (List.mem_append_right _ (List.mem_append_right _ (List.mem_append_right _ (List.mem_append_right _ (List.mem_append_right _ (List.mem_append_left _ (List.mem_of_getElem? (l := bgL_13) (i := 24) rfl))))))))))))))
theorem bg_545 : (.lays RX12 "ClassGateModel" "newSuper" "I" : Cond) ∈ bg := List.mem_append_right _ (List.mem_append_right _ (List.mem_append_right _ (List.mem_append_right _ (List.mem_append_right _ (List.mem_append_right _ (List.mem_append_right _ (List.mem_append_right _ (List.mem_append_right _ (List.mem_append_right _ (List.mem_append_right _ (List.mem_append_right _ (List.mem_append_right _ (List.mem_append_left _ (List.mem_of_getElem? (l := bgL_13) (i := 25) rfl))))))))))))))
theorem bg_546 : (.lays RX12 "ClassGateModel" "newIfs" "I" : Cond) ∈ bg := List.mem_append_right _ (List.mem_append_right _ (List.mem_append_right _ (List.mem_append_right _ (List.mem_append_right _ (List.mem_append_right _ (List.mem_append_right _ (List.mem_append_right _ (List.mem_append_right _ (List.mem_append_right _ (List.mem_append_right _ (List.mem_append_right _ (List.mem_append_right _ (List.mem_append_left _ (List.mem_of_getElem? (l := bgL_13) (i := 26) rfl))))))))))))))
theorem bg_547 : (.laysFinal RX12 "ClassGateModel" "KNOWN" "[Ljava/lang/String;" : Cond) ∈ bg := List.mem_append_right _ (List.mem_append_right _ (List.mem_append_right _ (List.mem_append_right _ (List.mem_append_right _ (List.mem_append_right _ (List.mem_append_right _ (List.mem_append_right _ (List.mem_append_right _ (List.mem_append_right _ (List.mem_append_right _ (List.mem_append_right _ (List.mem_append_right _ (List.mem_append_left _ (List.mem_of_getElem? (l := bgL_13) (i := 27) rfl))))))))))))))
theorem bg_548 : (.laysFinal RX12 "ClassGateModel" "KNOWN_IN" "[I" : Cond) ∈ bg := List.mem_append_right _ (List.mem_append_right _ (List.mem_append_right _ (List.mem_append_right _ (List.mem_append_right _ (List.mem_append_right _ (List.mem_append_right _ (List.mem_append_right _ (List.mem_append_right _ (List.mem_append_right _ (List.mem_append_right _ (List.mem_append_right _ (List.mem_append_right _ (List.mem_append_left _ (List.mem_of_getElem? (l := bgL_13) (i := 28) rfl))))))))))))))
theorem bg_549 : (.laysFinal RX12 "ClassGateModel" "KNOWN_FROM" "[I" : Cond) ∈ bg := List.mem_append_right _ (List.mem_append_right _ (List.mem_append_right _ (List.mem_append_right _ (List.mem_append_right _ (List.mem_append_right _ (List.mem_append_right _ (List.mem_append_right _ (List.mem_append_right _ (List.mem_append_right _ (List.mem_append_right _ (List.mem_append_right _ (List.mem_append_right _ (List.mem_append_left _ (List.mem_of_getElem? (l := bgL_13) (i := 29) rfl))))))))))))))
theorem bg_550 : (.lays RX12 "ClassGateModel" "newInners" "I" : Cond) ∈ bg := List.mem_append_right _ (List.mem_append_right _ (List.mem_append_right _ (List.mem_append_right _ (List.mem_append_right _ (List.mem_append_right _ (List.mem_append_right _ (List.mem_append_right _ (List.mem_append_right _ (List.mem_append_right _ (List.mem_append_right _ (List.mem_append_right _ (List.mem_append_right _ (List.mem_append_left _ (List.mem_of_getElem? (l := bgL_13) (i := 30) rfl))))))))))))))
theorem bg_551 : (.lays RX12 "ClassGateModel" "newKnown" "I" : Cond) ∈ bg := List.mem_append_right _ (List.mem_append_right _ (List.mem_append_right _ (List.mem_append_right _ (List.mem_append_right _ (List.mem_append_right _ (List.mem_append_right _ (List.mem_append_right _ (List.mem_append_right _ (List.mem_append_right _ (List.mem_append_right _ (List.mem_append_right _ (List.mem_append_right _ (List.mem_append_left _ (List.mem_of_getElem? (l := bgL_13) (i := 31) rfl))))))))))))))
theorem bg_552 : (.lays RX12 "ClassGateModel" "newHost" "I" : Cond) ∈ bg := List.mem_append_right _ (List.mem_append_right _ (List.mem_append_right _ (List.mem_append_right _ (List.mem_append_right _ (List.mem_append_right _ (List.mem_append_right _ (List.mem_append_right _ (List.mem_append_right _ (List.mem_append_right _ (List.mem_append_right _ (List.mem_append_right _ (List.mem_append_right _ (List.mem_append_left _ (List.mem_of_getElem? (l := bgL_13) (i := 32) rfl))))))))))))))
theorem bg_553 : (.lays RX12 "ClassGateModel" "newMembers" "I" : Cond) ∈ bg := List.mem_append_right _ (List.mem_append_right _ (List.mem_append_right _ (List.mem_append_right _ (List.mem_append_right _ (List.mem_append_right _ (List.mem_append_right _ (List.mem_append_right _ (List.mem_append_right _ (List.mem_append_right _ (List.mem_append_right _ (List.mem_append_right _ (List.mem_append_right _ (List.mem_append_left _ (List.mem_of_getElem? (l := bgL_13) (i := 33) rfl))))))))))))))
theorem bg_554 : (.lays RX12 "ClassGateModel" "newPermitted" "I" : Cond) ∈ bg := List.mem_append_right _ (List.mem_append_right _ (List.mem_append_right _ (List.mem_append_right _ (List.mem_append_right _ (List.mem_append_right _ (List.mem_append_right _ (List.mem_append_right _ (List.mem_append_right _ (List.mem_append_right _ (List.mem_append_right _ (List.mem_append_right _ (List.mem_append_right _ (List.mem_append_left _ (List.mem_of_getElem? (l := bgL_13) (i := 34) rfl))))))))))))))
theorem bg_555 : (.lays RX12 "ClassGateModel" "newBoot" "I" : Cond) ∈ bg := List.mem_append_right _ (List.mem_append_right _ (List.mem_append_right _ (List.mem_append_right _ (List.mem_append_right _ (List.mem_append_right _ (List.mem_append_right _ (List.mem_append_right _ (List.mem_append_right _ (List.mem_append_right _ (List.mem_append_right _ (List.mem_append_right _ (List.mem_append_right _ (List.mem_append_left _ (List.mem_of_getElem? (l := bgL_13) (i := 35) rfl))))))))))))))
theorem bg_556 : (.lays RX12 "ClassGateModel" "newBootN" "I" : Cond) ∈ bg := List.mem_append_right _ (List.mem_append_right _ (List.mem_append_right _ (List.mem_append_right _ (List.mem_append_right _ (List.mem_append_right _ (List.mem_append_right _ (List.mem_append_right _ (List.mem_append_right _ (List.mem_append_right _ (List.mem_append_right _ (List.mem_append_right _ (List.mem_append_right _ (List.mem_append_left _ (List.mem_of_getElem? (l := bgL_13) (i := 36) rfl))))))))))))))
theorem bg_557 : (.lays RX12 "ClassGateModel" "newRecord" "I" : Cond) ∈ bg := List.mem_append_right _ (List.mem_append_right _ (List.mem_append_right _ (List.mem_append_right _ (List.mem_append_right _ (List.mem_append_right _ (List.mem_append_right _ (List.mem_append_right _ (List.mem_append_right _ (List.mem_append_right _ (List.mem_append_right _ (List.mem_append_right _ (List.mem_append_right _ (List.mem_append_left _ (List.mem_of_getElem? (l := bgL_13) (i := 37) rfl))))))))))))))
theorem bg_558 : (.lays RX12 "ClassGateModel" "lastPlace" "I" : Cond) ∈ bg := List.mem_append_right _ (List.mem_append_right _ (List.mem_append_right _ (List.mem_append_right _ (List.mem_append_right _ (List.mem_append_right _ (List.mem_append_right _ (List.mem_append_right _ (List.mem_append_right _ (List.mem_append_right _ (List.mem_append_right _ (List.mem_append_right _ (List.mem_append_right _ (List.mem_append_left _ (List.mem_of_getElem? (l := bgL_13) (i := 38) rfl))))))))))))))
theorem bg_559 : (.lays RX12 "ClassGateModel" "cutOf" "I" : Cond) ∈ bg := List.mem_append_right _ (List.mem_append_right _ (List.mem_append_right _ (List.mem_append_right _ (List.mem_append_right _ (List.mem_append_right _ (List.mem_append_right _ (List.mem_append_right _ (List.mem_append_right _ (List.mem_append_right _ (List.mem_append_right _ (List.mem_append_right _ (List.mem_append_right _ (List.mem_append_left _ (List.mem_of_getElem? (l := bgL_13) (i := 39) rfl))))))))))))))
theorem bg_560 : (.lays RX12 "ClassGateModel" "many" "I" : Cond) ∈ bg := List.mem_append_right _ (List.mem_append_right _ (List.mem_append_right _ (List.mem_append_right _ (List.mem_append_right _ (List.mem_append_right _ (List.mem_append_right _ (List.mem_append_right _ (List.mem_append_right _ (List.mem_append_right _ (List.mem_append_right _ (List.mem_append_right _ (List.mem_append_right _ (List.mem_append_right _ (List.mem_append_left _ (List.mem_of_getElem? (l := bgL_14) (i := 0) rfl)))))))))))))))
theorem bg_561 : (.lays RX12 "ClassGateModel" "wrongCode" "I" : Cond) ∈ bg := List.mem_append_right _ (List.mem_append_right _ (List.mem_append_right _ (List.mem_append_right _ (List.mem_append_right _ (List.mem_append_right _ (List.mem_append_right _ (List.mem_append_right _ (List.mem_append_right _ (List.mem_append_right _ (List.mem_append_right _ (List.mem_append_right _ (List.mem_append_right _ (List.mem_append_right _ (List.mem_append_left _ (List.mem_of_getElem? (l := bgL_14) (i := 1) rfl)))))))))))))))
theorem bg_562 : (.lays RX12 "ClassGateModel" "codeAt" "I" : Cond) ∈ bg := List.mem_append_right _ (List.mem_append_right _ (List.mem_append_right _ (List.mem_append_right _ (List.mem_append_right _ (List.mem_append_right _ (List.mem_append_right _ (List.mem_append_right _ (List.mem_append_right _ (List.mem_append_right _ (List.mem_append_right _ (List.mem_append_right _ (List.mem_append_right _ (List.mem_append_right _ (List.mem_append_left _ (List.mem_of_getElem? (l := bgL_14) (i := 2) rfl)))))))))))))))
theorem bg_563 : (.lays RX12 "ClassGateModel" "codeLen" "I" : Cond) ∈ bg := List.mem_append_right _ (List.mem_append_right _ (List.mem_append_right _ (List.mem_append_right _ (List.mem_append_right _ (List.mem_append_right _ (List.mem_append_right _ (List.mem_append_right _ (List.mem_append_right _ (List.mem_append_right _ (List.mem_append_right _ (List.mem_append_right _ (List.mem_append_right _ (List.mem_append_right _ (List.mem_append_left _ (List.mem_of_getElem? (l := bgL_14) (i := 3) rfl)))))))))))))))
theorem bg_564 : (.lays RX12 "ClassGateModel" "maxL" "I" : Cond) ∈ bg := List.mem_append_right _ (List.mem_append_right _ (List.mem_append_right _ (List.mem_append_right _ (List.mem_append_right _ (List.mem_append_right _ (List.mem_append_right _ (List.mem_append_right _ (List.mem_append_right _ (List.mem_append_right _ (List.mem_append_right _ (List.mem_append_right _ (List.mem_append_right _ (List.mem_append_right _ (List.mem_append_left _ (List.mem_of_getElem? (l := bgL_14) (i := 4) rfl)))))))))))))))
theorem bg_565 : (.laysFinal RX12 "ClassGateModel" "begins" "[I" : Cond) ∈ bg := List.mem_append_right _ (List.mem_append_right _ (List.mem_append_right _ (List.mem_append_right _ (List.mem_append_right _ (List.mem_append_right _ (List.mem_append_right _ (List.mem_append_right _ (List.mem_append_right _ (List.mem_append_right _ (List.mem_append_right _ (List.mem_append_right _ (List.mem_append_right _ (List.mem_append_right _ (List.mem_append_left _ (List.mem_of_getElem? (l := bgL_14) (i := 5) rfl)))))))))))))))
theorem bg_566 : (.laysFinal RX12 "ClassGateModel" "which" "[I" : Cond) ∈ bg := List.mem_append_right _ (List.mem_append_right _ (List.mem_append_right _ (List.mem_append_right _ (List.mem_append_right _ (List.mem_append_right _ (List.mem_append_right _ (List.mem_append_right _ (List.mem_append_right _ (List.mem_append_right _ (List.mem_append_right _ (List.mem_append_right _ (List.mem_append_right _ (List.mem_append_right _ (List.mem_append_left _ (List.mem_of_getElem? (l := bgL_14) (i := 6) rfl)))))))))))))))
theorem bg_567 : (.initialized "java/lang/Throwable" : Cond) ∈ bg := List.mem_append_right _ (List.mem_append_right _ (List.mem_append_right _ (List.mem_append_right _ (List.mem_append_right _ (List.mem_append_right _ (List.mem_append_right _ (List.mem_append_right _ (List.mem_append_right _ (List.mem_append_right _ (List.mem_append_right _ (List.mem_append_right _ (List.mem_append_right _ (List.mem_append_right _ (List.mem_append_left _ (List.mem_of_getElem? (l := bgL_14) (i := 7) rfl)))))))))))))))
theorem bg_568 : (.lays "java/lang/Throwable" "java/lang/Throwable" "cause" "Ljava/lang/Throwable;" : Cond) ∈ bg := List.mem_append_right _ (List.mem_append_right _ (List.mem_append_right _ (List.mem_append_right _ (List.mem_append_right _ (List.mem_append_right _ (List.mem_append_right _ (List.mem_append_right _ (List.mem_append_right _ (List.mem_append_right _ (List.mem_append_right _ (List.mem_append_right _ (List.mem_append_right _ (List.mem_append_right _ (List.mem_append_left _ (List.mem_of_getElem? (l := bgL_14) (i := 8) rfl)))))))))))))))
theorem bg_569 : (.lays "java/lang/Throwable" "java/lang/Throwable" "stackTrace" "[Ljava/lang/StackTraceElement;" : Cond) ∈ bg := List.mem_append_right _ (List.mem_append_right _ (List.mem_append_right _ (List.mem_append_right _ (List.mem_append_right _ (List.mem_append_right _ (List.mem_append_right _ (List.mem_append_right _ (List.mem_append_right _ (List.mem_append_right _ (List.mem_append_right _ (List.mem_append_right _ (List.mem_append_right _ (List.mem_append_right _ (List.mem_append_left _ (List.mem_of_getElem? (l := bgL_14) (i := 9) rfl)))))))))))))))
theorem bg_570 : (.lays "java/lang/Throwable" "java/lang/Throwable" "suppressedExceptions" "Ljava/util/List;" : Cond) ∈ bg := List.mem_append_right _ (List.mem_append_right _ (List.mem_append_right _ (List.mem_append_right _ (List.mem_append_right _ (List.mem_append_right _ (List.mem_append_right _ (List.mem_append_right _ (List.mem_append_right _ (List.mem_append_right _ (List.mem_append_right _ (List.mem_append_right _ (List.mem_append_right _ (List.mem_append_right _ (List.mem_append_left _ (List.mem_of_getElem? (l := bgL_14) (i := 10) rfl)))))))))))))))
theorem bg_571 : (.lays "java/lang/Throwable" "java/lang/Throwable" "detailMessage" "Ljava/lang/String;" : Cond) ∈ bg := List.mem_append_right _ (List.mem_append_right _ (List.mem_append_right _ (List.mem_append_right _ (List.mem_append_right _ (List.mem_append_right _ (List.mem_append_right _ (List.mem_append_right _ (List.mem_append_right _ (List.mem_append_right _ (List.mem_append_right _ (List.mem_append_right _ (List.mem_append_right _ (List.mem_append_right _ (List.mem_append_left _ (List.mem_of_getElem? (l := bgL_14) (i := 11) rfl)))))))))))))))
theorem bg_572 : (.lays "java/lang/Throwable" "java/lang/Throwable" "backtrace" "Ljava/lang/Object;" : Cond) ∈ bg := List.mem_append_right _ (List.mem_append_right _ (List.mem_append_right _ (List.mem_append_right _ (List.mem_append_right _ (List.mem_append_right _ (List.mem_append_right _ (List.mem_append_right _ (List.mem_append_right _ (List.mem_append_right _ (List.mem_append_right _ (List.mem_append_right _ (List.mem_append_right _ (List.mem_append_right _ (List.mem_append_left _ (List.mem_of_getElem? (l := bgL_14) (i := 12) rfl)))))))))))))))
theorem bg_573 : (.fieldLink "java/lang/Throwable" 198 "java/lang/Throwable" "backtrace" "Ljava/lang/Object;" : Cond) ∈ bg := List.mem_append_right _ (List.mem_append_right _ (List.mem_append_right _ (List.mem_append_right _ (List.mem_append_right _ (List.mem_append_right _ (List.mem_append_right _ (List.mem_append_right _ (List.mem_append_right _ (List.mem_append_right _ (List.mem_append_right _ (List.mem_append_right _ (List.mem_append_right _ (List.mem_append_right _ (List.mem_append_left _ (List.mem_of_getElem? (l := bgL_14) (i := 13) rfl)))))))))))))))
theorem bg_574 : (.superclass "java/lang/Throwable" "java/lang/Object" : Cond) ∈ bg := List.mem_append_right _ (List.mem_append_right _ (List.mem_append_right _ (List.mem_append_right _ (List.mem_append_right _ (List.mem_append_right _ (List.mem_append_right _ (List.mem_append_right _ (List.mem_append_right _ (List.mem_append_right _ (List.mem_append_right _ (List.mem_append_right _ (List.mem_append_right _ (List.mem_append_right _ (List.mem_append_left _ (List.mem_of_getElem? (l := bgL_14) (i := 14) rfl)))))))))))))))
theorem bg_575 : (.instanceMethod ⟨"java/lang/Throwable", "<init>", "()V"⟩ : Cond) ∈ bg := List.mem_append_right _ (List.mem_append_right _ (List.mem_append_right _ (List.mem_append_right _ (List.mem_append_right _ (List.mem_append_right _ (List.mem_append_right _ (List.mem_append_right _ (List.mem_append_right _ (List.mem_append_right _ (List.mem_append_right _ (List.mem_append_right _ (List.mem_append_right _ (List.mem_append_right _ (List.mem_append_left _ (List.mem_of_getElem? (l := bgL_14) (i := 15) rfl)))))))))))))))
theorem bg_576 : (.code ⟨"java/lang/Throwable", "<init>", "()V"⟩ prog_26_method_1_code 1 none : Cond) ∈ bg := List.mem_append_right _ (List.mem_append_right _ (List.mem_append_right _ (List.mem_append_right _ (List.mem_append_right _ (List.mem_append_right _ (List.mem_append_right _ (List.mem_append_right _ (List.mem_append_right _ (List.mem_append_right _ (List.mem_append_right _ (List.mem_append_right _ (List.mem_append_right _ (List.mem_append_right _ (List.mem_append_left _ (List.mem_of_getElem? (l := bgL_14) (i := 16) rfl)))))))))))))))
theorem bg_577 : (.methodLink "java/lang/Throwable" 1 ⟨"java/lang/Object", "<init>", "()V"⟩ : Cond) ∈ bg := List.mem_append_right _ (List.mem_append_right _ (List.mem_append_right _ (List.mem_append_right _ (List.mem_append_right _ (List.mem_append_right _ (List.mem_append_right _ (List.mem_append_right _ (List.mem_append_right _ (List.mem_append_right _ (List.mem_append_right _ (List.mem_append_right _ (List.mem_append_right _ (List.mem_append_right _ (List.mem_append_left _ (List.mem_of_getElem? (l := bgL_14) (i := 17) rfl)))))))))))))))
theorem bg_578 : (.fieldLink "java/lang/Throwable" 13 "java/lang/Throwable" "UNASSIGNED_STACK" "[Ljava/lang/StackTraceElement;" : Cond) ∈ bg := List.mem_append_right _ (List.mem_append_right _ (List.mem_append_right _ (List.mem_append_right _ (List.mem_append_right _ (List.mem_append_right _ (List.mem_append_right _ (List.mem_append_right _ (List.mem_append_right _ (List.mem_append_right _ (List.mem_append_right _ (List.mem_append_right _ (List.mem_append_right _ (List.mem_append_right _ (List.mem_append_left _ (List.mem_of_getElem? (l := bgL_14) (i := 18) rfl)))))))))))))))
theorem bg_579 : (.fieldLink "java/lang/Throwable" 20 "java/lang/Throwable" "SUPPRESSED_SENTINEL" "Ljava/util/List;" : Cond) ∈ bg := List.mem_append_right _ (List.mem_append_right _ (List.mem_append_right _ (List.mem_append_right _ (List.mem_append_right _ (List.mem_append_right _ (List.mem_append_right _ (List.mem_append_right _ (List.mem_append_right _ (List.mem_append_right _ (List.mem_append_right _ (List.mem_append_right _ (List.mem_append_right _ (List.mem_append_right _ (List.mem_append_left _ (List.mem_of_getElem? (l := bgL_14) (i := 19) rfl)))))))))))))))
theorem bg_580 : (.methodLink "java/lang/Throwable" 27 ⟨"java/lang/Throwable", "fillInStackTrace", "()Ljava/lang/Throwable;"⟩ : Cond) ∈ bg := List.mem_append_right _ (List.mem_append_right _ (List.mem_append_right _ (List.mem_append_right _ (List.mem_append_right _ (List.mem_append_right _ (List.mem_append_right _ (List.mem_append_right _ (List.mem_append_right _ (List.mem_append_right _ (List.mem_append_right _ (List.mem_append_right _ (List.mem_append_right _ (List.mem_append_right _ (List.mem_append_left _ (List.mem_of_getElem? (l := bgL_14) (i := 20) rfl)))))))))))))))
theorem bg_581 : (.instanceMethod ⟨"java/lang/Throwable", "fillInStackTrace", "()Ljava/lang/Throwable;"⟩ : Cond) ∈ bg := List.mem_append_right _ (List.mem_append_right _ (List.mem_append_right _ (List.mem_append_right _ (List.mem_append_right _ (List.mem_append_right _ (List.mem_append_right _ (List.mem_append_right _ (List.mem_append_right _ (List.mem_append_right _ (List.mem_append_right _ (List.mem_append_right _ (List.mem_append_right _ (List.mem_append_right _ (List.mem_append_left _ (List.mem_of_getElem? (l := bgL_14) (i := 21) rfl)))))))))))))))
theorem bg_582 : (.selects "java/lang/IllegalArgumentException" ⟨"java/lang/Throwable", "fillInStackTrace", "()Ljava/lang/Throwable;"⟩ ⟨"java/lang/Throwable", "fillInStackTrace", "()Ljava/lang/Throwable;"⟩ : Cond) ∈ bg := List.mem_append_right _ (List.mem_append_right _ (List.mem_append_right _ (List.mem_append_right _ (List.mem_append_right _ (List.mem_append_right _ (List.mem_append_right _ (List.mem_append_right _ (List.mem_append_right _ (List.mem_append_right _ (List.mem_append_right _ (List.mem_append_right _ (List.mem_append_right _ (List.mem_append_right _ (List.mem_append_left _ (List.mem_of_getElem? (l := bgL_14) (i := 22) rfl)))))))))))))))
theorem bg_583 : (.codeSync ⟨"java/lang/Throwable", "fillInStackTrace", "()Ljava/lang/Throwable;"⟩ prog_26_method_18_code 1 (some (.object "java/lang/Throwable")) : Cond) ∈ bg := List.mem_append_right _ (List.mem_append_right _ (List.mem_append_right _ (List.mem_append_right _ (List.mem_append_right _ (List.mem_append_right _ (List.mem_append_right _ (List.mem_append_right _ (List.mem_append_right _ (List.mem_append_right _ (List.mem_append_right _ (List.mem_append_right _ (List.mem_append_right _ (List.mem_append_right _ (List.mem_append_left _ (List.mem_of_getElem? (l := bgL_14) (i := 23) rfl)))))))))))))))
theorem bg_584 : (.methodLink "java/lang/Throwable" 202 ⟨"java/lang/Throwable", "fillInStackTrace", "(I)Ljava/lang/Throwable;"⟩ : Cond) ∈ bg := List.mem_append_right _ (List.mem_append_right _ (List.mem_append_right _ (List.mem_append_right _ (List.mem_append_right _ (List.mem_append_right _ (List.mem_append_right _ (List.mem_append_right _ (List.mem_append_right _ (List.mem_append_right _ (List.mem_append_right _ (List.mem_append_right _ (List.mem_append_right _ (List.mem_append_right _ (List.mem_append_left _ (List.mem_of_getElem? (l := bgL_14) (i := 24) rfl)))))))))))))))
theorem bg_585 : (.instanceMethod ⟨"java/lang/Throwable", "fillInStackTrace", "(I)Ljava/lang/Throwable;"⟩ : Cond) ∈ bg := List.mem_append_right _ (List.mem_append_right _ (List.mem_append_right _ (List.mem_append_right _ (List.mem_append_right _ (List.mem_append_right _ (List.mem_append_right _ (List.mem_append_right _ (List.mem_append_right _ (List.mem_append_right _ (List.mem_append_right _ (List.mem_append_right _ (List.mem_append_right _ (List.mem_append_right _ (List.mem_append_left _ (List.mem_of_getElem? (l := bgL_14) (i := 25) rfl)))))))))))))))
theorem bg_586 : (.instantiable "java/lang/Throwable" 6 : Cond) ∈ bg := List.mem_append_right _ (List.mem_append_right _ (List.mem_append_right _ (List.mem_append_right _ (List.mem_append_right _ (List.mem_append_right _ (List.mem_append_right _ (List.mem_append_right _ (List.mem_append_right _ (List.mem_append_right _ (List.mem_append_right _ (List.mem_append_right _ (List.mem_append_right _ (List.mem_append_right _ (List.mem_append_left _ (List.mem_of_getElem? (l := bgL_14) (i := 26) rfl)))))))))))))))
theorem bg_587 : (.native ⟨"java/lang/Throwable", "fillInStackTrace", "(I)Ljava/lang/Throwable;"⟩ : Cond) ∈ bg := List.mem_append_right _ (List.mem_append_right _ (List.mem_append_right _ (List.mem_append_right _ (List.mem_append_right _ (List.mem_append_right _ (List.mem_append_right _ (List.mem_append_right _ (List.mem_append_right _ (List.mem_append_right _ (List.mem_append_right _ (List.mem_append_right _ (List.mem_append_right _ (List.mem_append_right _ (List.mem_append_left _ (List.mem_of_getElem? (l := bgL_14) (i := 27) rfl)))))))))))))))
theorem bg_588 : (.instanceMethod ⟨"java/lang/RuntimeException", "<init>", "(Ljava/lang/String;)V"⟩ : Cond) ∈ bg := List.mem_append_right _ (List.mem_append_right _ (List.mem_append_right _ (List.mem_append_right _ (List.mem_append_right _ (List.mem_append_right _ (List.mem_append_right _ (List.mem_append_right _ (List.mem_append_right _ (List.mem_append_right _ (List.mem_append_right _ (List.mem_append_right _ (List.mem_append_right _ (List.mem_append_right _ (List.mem_append_left _ (List.mem_of_getElem? (l := bgL_14) (i := 28) rfl)))))))))))))))
theorem bg_589 : (.code ⟨"java/lang/RuntimeException", "<init>", "(Ljava/lang/String;)V"⟩ prog_21_method_2_code 2 none : Cond) ∈ bg := List.mem_append_right _ (List.mem_append_right _ (List.mem_append_right _ (List.mem_append_right _ (List.mem_append_right _ (List.mem_append_right _ (List.mem_append_right _ (List.mem_append_right _ (List.mem_append_right _ (List.mem_append_right _ (List.mem_append_right _ (List.mem_append_right _ (List.mem_append_right _ (List.mem_append_right _ (List.mem_append_left _ (List.mem_of_getElem? (l := bgL_14) (i := 29) rfl)))))))))))))))
theorem bg_590 : (.methodLink "java/lang/RuntimeException" 7 ⟨"java/lang/Exception", "<init>", "(Ljava/lang/String;)V"⟩ : Cond) ∈ bg := List.mem_append_right _ (List.mem_append_right _ (List.mem_append_right _ (List.mem_append_right _ (List.mem_append_right _ (List.mem_append_right _ (List.mem_append_right _ (List.mem_append_right _ (List.mem_append_right _ (List.mem_append_right _ (List.mem_append_right _ (List.mem_append_right _ (List.mem_append_right _ (List.mem_append_right _ (List.mem_append_left _ (List.mem_of_getElem? (l := bgL_14) (i := 30) rfl)))))))))))))))
theorem bg_591 : (.instanceMethod ⟨"java/lang/Exception", "<init>", "(Ljava/lang/String;)V"⟩ : Cond) ∈ bg := List.mem_append_right _ (List.mem_append_right _ (List.mem_append_right _ (List.mem_append_right _ (List.mem_append_right _ (List.mem_append_right _ (List.mem_append_right _ (List.mem_append_right _ (List.mem_append_right _ (List.mem_append_right _ (List.mem_append_right _ (List.mem_append_right _ (List.mem_append_right _ (List.mem_append_right _ (List.mem_append_left _ (List.mem_of_getElem? (l := bgL_14) (i := 31) rfl)))))))))))))))
theorem bg_592 : (.code ⟨"java/lang/Exception", "<init>", "(Ljava/lang/String;)V"⟩ prog_16_method_2_code 2 none : Cond) ∈ bg := List.mem_append_right _ (List.mem_append_right _ (List.mem_append_right _ (List.mem_append_right _ (List.mem_append_right _ (List.mem_append_right _ (List.mem_append_right _ (List.mem_append_right _ (List.mem_append_right _ (List.mem_append_right _ (List.mem_append_right _ (List.mem_append_right _ (List.mem_append_right _ (List.mem_append_right _ (List.mem_append_left _ (List.mem_of_getElem? (l := bgL_14) (i := 32) rfl)))))))))))))))
theorem bg_593 : (.methodLink "java/lang/Exception" 7 ⟨"java/lang/Throwable", "<init>", "(Ljava/lang/String;)V"⟩ : Cond) ∈ bg := List.mem_append_right _ (List.mem_append_right _ (List.mem_append_right _ (List.mem_append_right _ (List.mem_append_right _ (List.mem_append_right _ (List.mem_append_right _ (List.mem_append_right _ (List.mem_append_right _ (List.mem_append_right _ (List.mem_append_right _ (List.mem_append_right _ (List.mem_append_right _ (List.mem_append_right _ (List.mem_append_left _ (List.mem_of_getElem? (l := bgL_14) (i := 33) rfl)))))))))))))))
theorem bg_594 : (.instanceMethod ⟨"java/lang/Throwable", "<init>", "(Ljava/lang/String;)V"⟩ : Cond) ∈ bg := List.mem_append_right _ (List.mem_append_right _ (List.mem_append_right _ (List.mem_append_right _ (List.mem_append_right _ (List.mem_append_right _ (List.mem_append_right _ (List.mem_append_right _ (List.mem_append_right _ (List.mem_append_right _ (List.mem_append_right _ (List.mem_append_right _ (List.mem_append_right _ (List.mem_append_right _ (List.mem_append_left _ (List.mem_of_getElem? (l := bgL_14) (i := 34) rfl)))))))))))))))
theorem bg_595 : (.code ⟨"java/lang/Throwable", "<init>", "(Ljava/lang/String;)V"⟩ prog_26_method_2_code 2 none : Cond) ∈ bg := List.mem_append_right _ (List.mem_append_right _ (List.mem_append_right _ (List.mem_append_right _ (List.mem_append_right _ (List.mem_append_right _ (List.mem_append_right _ (List.mem_append_right _ (List.mem_append_right _ (List.mem_append_right _ (List.mem_append_right _ (List.mem_append_right _ (List.mem_append_right _ (List.mem_append_right _ (List.mem_append_left _ (List.mem_of_getElem? (l := bgL_14) (i := 35) rfl)))))))))))))))
theorem bg_596 : (.fieldLink "java/lang/Throwable" 31 "java/lang/Throwable" "detailMessage" "Ljava/lang/String;" : Cond) ∈ bg := List.mem_append_right _ (List.mem_append_right _ (List.mem_append_right _ (List.mem_append_right _ (List.mem_append_right _ (List.mem_append_right _ (List.mem_append_right _ (List.mem_append_right _ (List.mem_append_right _ (List.mem_append_right _ (List.mem_append_right _ (List.mem_append_right _ (List.mem_append_right _ (List.mem_append_right _ (List.mem_append_left _ (List.mem_of_getElem? (l := bgL_14) (i := 36) rfl)))))))))))))))
theorem bg_597 : (.fieldLink "java/lang/Throwable" 7 "java/lang/Throwable" "cause" "Ljava/lang/Throwable;" : Cond) ∈ bg := List.mem_append_right _ (List.mem_append_right _ (List.mem_append_right _ (List.mem_append_right _ (List.mem_append_right _ (List.mem_append_right _ (List.mem_append_right _ (List.mem_append_right _ (List.mem_append_right _ (List.mem_append_right _ (List.mem_append_right _ (List.mem_append_right _ (List.mem_append_right _ (List.mem_append_right _ (List.mem_append_left _ (List.mem_of_getElem? (l := bgL_14) (i := 37) rfl)))))))))))))))
theorem bg_598 : (.fieldLink "java/lang/Throwable" 17 "java/lang/Throwable" "stackTrace" "[Ljava/lang/StackTraceElement;" : Cond) ∈ bg := List.mem_append_right _ (List.mem_append_right _ (List.mem_append_right _ (List.mem_append_right _ (List.mem_append_right _ (List.mem_append_right _ (List.mem_append_right _ (List.mem_append_right _ (List.mem_append_right _ (List.mem_append_right _ (List.mem_append_right _ (List.mem_append_right _ (List.mem_append_right _ (List.mem_append_right _ (List.mem_append_left _ (List.mem_of_getElem? (l := bgL_14) (i := 38) rfl)))))))))))))))
theorem bg_599 : (.fieldLink "java/lang/Throwable" 24 "java/lang/Throwable" "suppressedExceptions" "Ljava/util/List;" : Cond) ∈ bg := List.mem_append_right _ (List.mem_append_right _ (List.mem_append_right _ (List.mem_append_right _ (List.mem_append_right _ (List.mem_append_right _ (List.mem_append_right _ (List.mem_append_right _ (List.mem_append_right _ (List.mem_append_right _ (List.mem_append_right _ (List.mem_append_right _ (List.mem_append_right _ (List.mem_append_right _ (List.mem_append_left _ (List.mem_of_getElem? (l := bgL_14) (i := 39) rfl)))))))))))))))
theorem bg_600 : (.instantiable "java/lang/IllegalArgumentException" 6 : Cond) ∈ bg := List.mem_append_right _ (List.mem_append_right _ (List.mem_append_right _ (List.mem_append_right _ (List.mem_append_right _ (List.mem_append_right _ (List.mem_append_right _ (List.mem_append_right _ (List.mem_append_right _ (List.mem_append_right _ (List.mem_append_right _ (List.mem_append_right _ (List.mem_append_right _ (List.mem_append_right _ (List.mem_append_right _ (List.mem_of_getElem? (l := bgL_15) (i := 0) rfl)))))))))))))))
theorem bg_601 : (.selects "java/lang/IllegalArgumentException" ⟨"java/lang/Throwable", "fillInStackTrace", "(I)Ljava/lang/Throwable;"⟩ ⟨"java/lang/Throwable", "fillInStackTrace", "(I)Ljava/lang/Throwable;"⟩ : Cond) ∈ bg := List.mem_append_right _ (List.mem_append_right _ (List.mem_append_right _ (List.mem_append_right _ (List.mem_append_right _ (List.mem_append_right _ (List.mem_append_right _ (List.mem_append_right _ (List.mem_append_right _ (List.mem_append_right _ (List.mem_append_right _ (List.mem_append_right _ (List.mem_append_right _ (List.mem_append_right _ (List.mem_append_right _ (List.mem_of_getElem? (l := bgL_15) (i := 1) rfl)))))))))))))))
theorem bg_602 : (.lays "java/lang/IllegalArgumentException" "java/lang/Throwable" "cause" "Ljava/lang/Throwable;" : Cond) ∈ bg := List.mem_append_right _ (List.mem_append_right _ (List.mem_append_right _ (List.mem_append_right _ (List.mem_append_right _ (List.mem_append_right _ (List.mem_append_right _ (List.mem_append_right _ (List.mem_append_right _ (List.mem_append_right _ (List.mem_append_right _ (List.mem_append_right _ (List.mem_append_right _ (List.mem_append_right _ (List.mem_append_right _ (List.mem_of_getElem? (l := bgL_15) (i := 2) rfl)))))))))))))))
theorem bg_603 : (.lays "java/lang/IllegalArgumentException" "java/lang/Throwable" "stackTrace" "[Ljava/lang/StackTraceElement;" : Cond) ∈ bg := List.mem_append_right _ (List.mem_append_right _ (List.mem_append_right _ (List.mem_append_right _ (List.mem_append_right _ (List.mem_append_right _ (List.mem_append_right _ (List.mem_append_right _ (List.mem_append_right _ (List.mem_append_right _ (List.mem_append_right _ (List.mem_append_right _ (List.mem_append_right _ (List.mem_append_right _ (List.mem_append_right _ (List.mem_of_getElem? (l := bgL_15) (i := 3) rfl)))))))))))))))
theorem bg_604 : (.lays "java/lang/IllegalArgumentException" "java/lang/Throwable" "suppressedExceptions" "Ljava/util/List;" : Cond) ∈ bg := List.mem_append_right _ (List.mem_append_right _ (List.mem_append_right _ (List.mem_append_right _ (List.mem_append_right _ (List.mem_append_right _ (List.mem_append_right _ (List.mem_append_right _ (List.mem_append_right _ (List.mem_append_right _ (List.mem_append_right _ (List.mem_append_right _ (List.mem_append_right _ (List.mem_append_right _ (List.mem_append_right _ (List.mem_of_getElem? (l := bgL_15) (i := 4) rfl)))))))))))))))
theorem bg_605 : (.lays "java/lang/IllegalArgumentException" "java/lang/Throwable" "detailMessage" "Ljava/lang/String;" : Cond) ∈ bg := List.mem_append_right _ (List.mem_append_right _ (List.mem_append_right _ (List.mem_append_right _ (List.mem_append_right _ (List.mem_append_right _ (List.mem_append_right _ (List.mem_append_right _ (List.mem_append_right _ (List.mem_append_right _ (List.mem_append_right _ (List.mem_append_right _ (List.mem_append_right _ (List.mem_append_right _ (List.mem_append_right _ (List.mem_of_getElem? (l := bgL_15) (i := 5) rfl)))))))))))))))
theorem bg_606 : (.lays "java/lang/IllegalArgumentException" "java/lang/Throwable" "backtrace" "Ljava/lang/Object;" : Cond) ∈ bg := List.mem_append_right _ (List.mem_append_right _ (List.mem_append_right _ (List.mem_append_right _ (List.mem_append_right _ (List.mem_append_right _ (List.mem_append_right _ (List.mem_append_right _ (List.mem_append_right _ (List.mem_append_right _ (List.mem_append_right _ (List.mem_append_right _ (List.mem_append_right _ (List.mem_append_right _ (List.mem_append_right _ (List.mem_of_getElem? (l := bgL_15) (i := 6) rfl)))))))))))))))
theorem bg_607 : (.methodLink "ClassGate" 48 ⟨"java/lang/IllegalArgumentException", "<init>", "(Ljava/lang/String;)V"⟩ : Cond) ∈ bg := List.mem_append_right _ (List.mem_append_right _ (List.mem_append_right _ (List.mem_append_right _ (List.mem_append_right _ (List.mem_append_right _ (List.mem_append_right _ (List.mem_append_right _ (List.mem_append_right _ (List.mem_append_right _ (List.mem_append_right _ (List.mem_append_right _ (List.mem_append_right _ (List.mem_append_right _ (List.mem_append_right _ (List.mem_of_getElem? (l := bgL_15) (i := 7) rfl)))))))))))))))
theorem bg_608 : (.instanceMethod ⟨"java/lang/IllegalArgumentException", "<init>", "(Ljava/lang/String;)V"⟩ : Cond) ∈ bg := List.mem_append_right _ (List.mem_append_right _ (List.mem_append_right _ (List.mem_append_right _ (List.mem_append_right _ (List.mem_append_right _ (List.mem_append_right _ (List.mem_append_right _ (List.mem_append_right _ (List.mem_append_right _ (List.mem_append_right _ (List.mem_append_right _ (List.mem_append_right _ (List.mem_append_right _ (List.mem_append_right _ (List.mem_of_getElem? (l := bgL_15) (i := 8) rfl)))))))))))))))
theorem bg_609 : (.code ⟨"java/lang/IllegalArgumentException", "<init>", "(Ljava/lang/String;)V"⟩ prog_17_method_2_code 2 none : Cond) ∈ bg := List.mem_append_right _ (List.mem_append_right _ (List.mem_append_right _ (List.mem_append_right _ (List.mem_append_right _ (List.mem_append_right _ (List.mem_append_right _ (List.mem_append_right _ (List.mem_append_right _ (List.mem_append_right _ (List.mem_append_right _ (List.mem_append_right _ (List.mem_append_right _ (List.mem_append_right _ (List.mem_append_right _ (List.mem_of_getElem? (l := bgL_15) (i := 9) rfl)))))))))))))))
theorem bg_610 : (.methodLink "java/lang/IllegalArgumentException" 7 ⟨"java/lang/RuntimeException", "<init>", "(Ljava/lang/String;)V"⟩ : Cond) ∈ bg := List.mem_append_right _ (List.mem_append_right _ (List.mem_append_right _ (List.mem_append_right _ (List.mem_append_right _ (List.mem_append_right _ (List.mem_append_right _ (List.mem_append_right _ (List.mem_append_right _ (List.mem_append_right _ (List.mem_append_right _ (List.mem_append_right _ (List.mem_append_right _ (List.mem_append_right _ (List.mem_append_right _ (List.mem_of_getElem? (l := bgL_15) (i := 10) rfl)))))))))))))))
theorem bg_611 : (.lays "java/lang/IllegalArgumentException" "java/lang/Throwable" "depth" "I" : Cond) ∈ bg := List.mem_append_right _ (List.mem_append_right _ (List.mem_append_right _ (List.mem_append_right _ (List.mem_append_right _ (List.mem_append_right _ (List.mem_append_right _ (List.mem_append_right _ (List.mem_append_right _ (List.mem_append_right _ (List.mem_append_right _ (List.mem_append_right _ (List.mem_append_right _ (List.mem_append_right _ (List.mem_append_right _ (List.mem_of_getElem? (l := bgL_15) (i := 11) rfl)))))))))))))))
theorem bg_612 : (.superclass "java/lang/IllegalArgumentException" "java/lang/RuntimeException" : Cond) ∈ bg := List.mem_append_right _ (List.mem_append_right _ (List.mem_append_right _ (List.mem_append_right _ (List.mem_append_right _ (List.mem_append_right _ (List.mem_append_right _ (List.mem_append_right _ (List.mem_append_right _ (List.mem_append_right _ (List.mem_append_right _ (List.mem_append_right _ (List.mem_append_right _ (List.mem_append_right _ (List.mem_append_right _ (List.mem_of_getElem? (l := bgL_15) (i := 12) rfl)))))))))))))))
theorem bg_613 : (.instanceMethod ⟨"java/lang/Object", "<init>", "()V"⟩ : Cond) ∈ bg := List.mem_append_right _ (List.mem_append_right _ (List.mem_append_right _ (List.mem_append_right _ (List.mem_append_right _ (List.mem_append_right _ (List.mem_append_right _ (List.mem_append_right _ (List.mem_append_right _ (List.mem_append_right _ (List.mem_append_right _ (List.mem_append_right _ (List.mem_append_right _ (List.mem_append_right _ (List.mem_append_right _ (List.mem_of_getElem? (l := bgL_15) (i := 13) rfl)))))))))))))))
theorem bg_614 : (.classLink RL 19 "java/lang/IllegalArgumentException" : Cond) ∈ bg := List.mem_append_right _ (List.mem_append_right _ (List.mem_append_right _ (List.mem_append_right _ (List.mem_append_right _ (List.mem_append_right _ (List.mem_append_right _ (List.mem_append_right _ (List.mem_append_right _ (List.mem_append_right _ (List.mem_append_right _ (List.mem_append_right _ (List.mem_append_right _ (List.mem_append_right _ (List.mem_append_right _ (List.mem_of_getElem? (l := bgL_15) (i := 14) rfl)))))))))))))))
theorem bg_615 : (.methodLink RJ7 304 Lib.Math.min.name : Cond) ∈ bg := List.mem_append_right _ (List.mem_append_right _ (List.mem_append_right _ (List.mem_append_right _ (List.mem_append_right _ (List.mem_append_right _ (List.mem_append_right _ (List.mem_append_right _ (List.mem_append_right _ (List.mem_append_right _ (List.mem_append_right _ (List.mem_append_right _ (List.mem_append_right _ (List.mem_append_right _ (List.mem_append_right _ (List.mem_of_getElem? (l := bgL_15) (i := 15) rfl)))))))))))))))
theorem bg_616 : (.static Lib.Math.min.name : Cond) ∈ bg := List.mem_append_right _ (List.mem_append_right _ (List.mem_append_right _ (List.mem_append_right _ (List.mem_append_right _ (List.mem_append_right _ (List.mem_append_right _ (List.mem_append_right _ (List.mem_append_right _ (List.mem_append_right _ (List.mem_append_right _ (List.mem_append_right _ (List.mem_append_right _ (List.mem_append_right _ (List.mem_append_right _ (List.mem_of_getElem? (l := bgL_15) (i := 16) rfl)))))))))))))))
theorem bg_617 : (.code Lib.Math.min.name Lib.Math.min.code 2 (some .int) : Cond) ∈ bg := List.mem_append_right _ (List.mem_append_right _ (List.mem_append_right _ (List.mem_append_right _ (List.mem_append_right _ (List.mem_append_right _ (List.mem_append_right _ (List.mem_append_right _ (List.mem_append_right _ (List.mem_append_right _ (List.mem_append_right _ (List.mem_append_right _ (List.mem_append_right _ (List.mem_append_right _ (List.mem_append_right _ (List.mem_of_getElem? (l := bgL_15) (i := 17) rfl)))))))))))))))
theorem bg_618 : (.methodLink RX7 15 Lib.Math.min.name : Cond) ∈ bg := List.mem_append_right _ (List.mem_append_right _ (List.mem_append_right _ (List.mem_append_right _ (List.mem_append_right _ (List.mem_append_right _ (List.mem_append_right _ (List.mem_append_right _ (List.mem_append_right _ (List.mem_append_right _ (List.mem_append_right _ (List.mem_append_right _ (List.mem_append_right _ (List.mem_append_right _ (List.mem_append_right _ (List.mem_of_getElem? (l := bgL_15) (i := 18) rfl)))))))))))))))
theorem bg_619 : (.methodLink RX7 21 Lib.Math.max.name : Cond) ∈ bg := List.mem_append_right _ (List.mem_append_right _ (List.mem_append_right _ (List.mem_append_right _ (List.mem_append_right _ (List.mem_append_right _ (List.mem_append_right _ (List.mem_append_right _ (List.mem_append_right _ (List.mem_append_right _ (List.mem_append_right _ (List.mem_append_right _ (List.mem_append_right _ (List.mem_append_right _ (List.mem_append_right _ (List.mem_of_getElem? (l := bgL_15) (i := 19) rfl)))))))))))))))
theorem bg_620 : (.static Lib.Math.max.name : Cond) ∈ bg := List.mem_append_right _ (List.mem_append_right _ (List.mem_append_right _ (List.mem_append_right _ (List.mem_append_right _ (List.mem_append_right _ (List.mem_append_right _ (List.mem_append_right _ (List.mem_append_right _ (List.mem_append_right _ (List.mem_append_right _ (List.mem_append_right _ (List.mem_append_right _ (List.mem_append_right _ (List.mem_append_right _ (List.mem_of_getElem? (l := bgL_15) (i := 20) rfl)))))))))))))))
theorem bg_621 : (.code Lib.Math.max.name Lib.Math.max.code 2 (some .int) : Cond) ∈ bg := List.mem_append_right _ (List.mem_append_right _ (List.mem_append_right _ (List.mem_append_right _ (List.mem_append_right _ (List.mem_append_right _ (List.mem_append_right _ (List.mem_append_right _ (List.mem_append_right _ (List.mem_append_right _ (List.mem_append_right _ (List.mem_append_right _ (List.mem_append_right _ (List.mem_append_right _ (List.mem_append_right _ (List.mem_of_getElem? (l := bgL_15) (i := 21) rfl)))))))))))))))
theorem bg_622 : (.initialized "java/lang/Math" : Cond) ∈ bg := List.mem_append_right _ (List.mem_append_right _ (List.mem_append_right _ (List.mem_append_right _ (List.mem_append_right _ (List.mem_append_right _ (List.mem_append_right _ (List.mem_append_right _ (List.mem_append_right _ (List.mem_append_right _ (List.mem_append_right _ (List.mem_append_right _ (List.mem_append_right _ (List.mem_append_right _ (List.mem_append_right _ (List.mem_of_getElem? (l := bgL_15) (i := 22) rfl)))))))))))))))
theorem bg_623 : (.initialized "java/lang/System" : Cond) ∈ bg := List.mem_append_right _ (List.mem_append_right _ (List.mem_append_right _ (List.mem_append_right _ (List.mem_append_right _ (List.mem_append_right _ (List.mem_append_right _ (List.mem_append_right _ (List.mem_append_right _ (List.mem_append_right _ (List.mem_append_right _ (List.mem_append_right _ (List.mem_append_right _ (List.mem_append_right _ (List.mem_append_right _ (List.mem_of_getElem? (l := bgL_15) (i := 23) rfl)))))))))))))))
theorem bg_624 : (.methodLink RJ7 150 arraycopyName : Cond) ∈ bg := List.mem_append_right _ (List.mem_append_right _ (List.mem_append_right _ (List.mem_append_right _ (List.mem_append_right _ (List.mem_append_right _ (List.mem_append_right _ (List.mem_append_right _ (List.mem_append_right _ (List.mem_append_right _ (List.mem_append_right _ (List.mem_append_right _ (List.mem_append_right _ (List.mem_append_right _ (List.mem_append_right _ (List.mem_of_getElem? (l := bgL_15) (i := 24) rfl)))))))))))))))
theorem bg_625 : (.native arraycopyName : Cond) ∈ bg := List.mem_append_right _ (List.mem_append_right _ (List.mem_append_right _ (List.mem_append_right _ (List.mem_append_right _ (List.mem_append_right _ (List.mem_append_right _ (List.mem_append_right _ (List.mem_append_right _ (List.mem_append_right _ (List.mem_append_right _ (List.mem_append_right _ (List.mem_append_right _ (List.mem_append_right _ (List.mem_append_right _ (List.mem_of_getElem? (l := bgL_15) (i := 25) rfl)))))))))))))))
theorem bg_626 : (.static arraycopyName : Cond) ∈ bg := List.mem_append_right _ (List.mem_append_right _ (List.mem_append_right _ (List.mem_append_right _ (List.mem_append_right _ (List.mem_append_right _ (List.mem_append_right _ (List.mem_append_right _ (List.mem_append_right _ (List.mem_append_right _ (List.mem_append_right _ (List.mem_append_right _ (List.mem_append_right _ (List.mem_append_right _ (List.mem_append_right _ (List.mem_of_getElem? (l := bgL_15) (i := 26) rfl)))))))))))))))
theorem bg_good : bg.all goodWord = true := by decide +kernel
theorem bi_X1 : ∀ w ∈ u_ws RX1 TX1 1, w ∈ bg := by decide +kernel
theorem bi_X3 : ∀ w ∈ u_ws RX3 TX3 17, w ∈ bg := by decide +kernel
theorem bi_X7 : ∀ w ∈ u_ws RX7 TX7 8, w ∈ bg := by decide +kernel
theorem bi_X9 : ∀ w ∈ u_ws RX9 TX9 5, w ∈ bg := by decide +kernel
theorem bi_X10 : ∀ w ∈ u_ws RX10 TX10 2, w ∈ bg := by decide +kernel
theorem bi_X11 : ∀ w ∈ u_ws RX11 TX11 5, w ∈ bg := by decide +kernel
theorem bi_X12 : ∀ w ∈ u_ws RX12 TX12 82, w ∈ bg := by decide +kernel
end
section
section XBB
variable {p : Program} {l : Launch} {e : Env} {R : Room} {s : State} {m : MethodId} {args : Array Value} {below : List Frame} {meth : Method} {c : Code} {H : Heap} {locs : List Loc} {cells slots : Nat} {Q : State → Prop}
variable {y : MethodName} {bytes : ByteArray} {maxL index mc ms : Nat} {own C : String} {ret : Option FieldType} {rm : Room}
theorem bg_cons (h : Cond.code y bytes maxL ret ∈ bg) : GoodIn bg (Cond.code y bytes maxL ret :: bg) := by
  intro w hw
  rcases List.mem_cons.mp hw with rfl | hw
  · exact ⟨h, good_of_word (List.all_eq_true.mp bg_good _ h)⟩
  · exact ⟨hw, good_of_word (List.all_eq_true.mp bg_good _ hw)⟩
theorem bg_B (n : Nat) (ht : ∀ w ∈ bg, w.before args s = true) (h1 : Cond.methodLink own index y ∈ bg) (h4 : Cond.initialized y.cls ∈ bg) (h5 : Cond.code y bytes maxL ret ∈ bg) (hrc : rm.cells = mc) (hrs : rm.slots = ms)
    (hd : y.cls ≠ "java/lang/invoke/MethodHandle" ∧ y.cls ≠ "java/lang/invoke/VarHandle" ∧ (parseMethodDescriptor y.desc).map (fun d => d.parameters.length) = some n) (hR : rm.frames + 1 ≤ R.frames ∧ 8 + (maxL + 11) + rm.locals ≤ R.locals) :
    CallB R s args own index y bytes maxL ret (Cond.code y bytes maxL ret :: bg) rm mc ms n :=
  callB_of n ht (bg_cons h5) rfl hrc hrs (ht _ h4) (ht _ h1) hd hR
theorem bg_V (n : Nat) (ht : ∀ w ∈ bg, w.before args s = true) (h1 : Cond.methodLink own index y ∈ bg) (h2 : Cond.instanceMethod y ∈ bg) (h3 : Cond.selects C y y ∈ bg) (h4 : Cond.initialized y.cls ∈ bg) (h5 : Cond.code y bytes maxL ret ∈ bg) (hrc : rm.cells = mc) (hrs : rm.slots = ms)
    (hd : y.cls ≠ "java/lang/invoke/MethodHandle" ∧ y.cls ≠ "java/lang/invoke/VarHandle" ∧ (parseMethodDescriptor y.desc).map (fun d => d.parameters.length) = some n) (hR : rm.frames + 1 ≤ R.frames ∧ 8 + (maxL + 11) + rm.locals ≤ R.locals) :
    CallW R s args own C index y bytes maxL ret (Cond.code y bytes maxL ret :: bg) rm mc ms n :=
  ⟨bg_B n ht h1 h4 h5 hrc hrs hd hR, ht _ h2, ht _ h3⟩
theorem bg_S (n : Nat) (ht : ∀ w ∈ bg, w.before args s = true) (h1 : Cond.methodLink own index y ∈ bg) (h2 : Cond.static y ∈ bg) (h4 : Cond.initialized y.cls ∈ bg) (h5 : Cond.code y bytes maxL ret ∈ bg) (hrc : rm.cells = mc) (hrs : rm.slots = ms)
    (hd : y.cls ≠ "java/lang/invoke/MethodHandle" ∧ y.cls ≠ "java/lang/invoke/VarHandle" ∧ (parseMethodDescriptor y.desc).map (fun d => d.parameters.length) = some n) (hR : rm.frames + 1 ≤ R.frames ∧ 8 + (maxL + 11) + rm.locals ≤ R.locals) :
    CallB R s args own index y bytes maxL ret (Cond.code y bytes maxL ret :: bg) rm mc ms n ∧ (Cond.static y).before args s = true :=
  ⟨bg_B n ht h1 h4 h5 hrc hrs hd hR, ht _ h2⟩
theorem bg_I (n : Nat) (ht : ∀ w ∈ bg, w.before args s = true) (h1 : Cond.methodLink own index y ∈ bg) (h2 : Cond.instanceMethod y ∈ bg) (h4 : Cond.initialized y.cls ∈ bg) (h5 : Cond.code y bytes maxL none ∈ bg) (hrc : rm.cells = mc) (hrs : rm.slots = ms)
    (hd : y.cls ≠ "java/lang/invoke/MethodHandle" ∧ y.cls ≠ "java/lang/invoke/VarHandle" ∧ (parseMethodDescriptor y.desc).map (fun d => d.parameters.length) = some n) (hR : rm.frames + 1 ≤ R.frames ∧ 8 + (maxL + 11) + rm.locals ≤ R.locals) (hy1 : y.name = "<init>" := by rfl) :
    CallB R s args own index y bytes maxL none (Cond.code y bytes maxL none :: bg) rm mc ms n ∧ y.name = "<init>" ∧ (Cond.instanceMethod y).before args s = true :=
  ⟨bg_B n ht h1 h4 h5 hrc hrs hd hR, hy1, ht _ h2⟩
end XBB
/-! WHAT STANDS OUTSIDE THE WORLDS: NO_BYTES, COMPACT_STRINGS, the formatter, Throwable's two statics, the literals, words that the tables alone decide -/
abbrev xe_G : Type := Nat × (Nat → Nat) × (Nat → Nat)
def xe_tab : List (String × Nat × String × List Int32) := [("ClassGateModel", 178, "<init>", [60, 105, 110, 105, 116, 62]), ("ClassGateModel", 186, "<clinit>", [60, 99, 108, 105, 110, 105, 116, 62]), ("ClassGateModel", 191, "java/lang/Object", [106, 97, 118, 97, 47, 108, 97, 110, 103, 47, 79, 98, 106, 101, 99, 116]), ("ClassGateModel", 127, "ConstantValue", []), ("ClassGateModel", 129, "Code", []), ("ClassGateModel", 131, "Exceptions", []), ("ClassGateModel", 133, "StackMapTable", []), ("ClassGateModel", 135, "InnerClasses", []), ("ClassGateModel", 137, "BootstrapMethods", []), ("ClassGateModel", 139, "NestHost", []), ("ClassGateModel", 141, "NestMembers", []), ("ClassGateModel", 143, "Record", []), ("ClassGateModel", 145, "PermittedSubclasses", []), ("ClassGate", 46, "not so many bytes have come", []), ("ClassGate", 148, "no such count", []), ("ClassGate", 154, "no such part", []), ("ClassGate", 187, "no such thing of a member", []), ("ClassGate", 209, "no such column", []), ("ClassGate", 237, "no such thing of an instruction", [])]
def xe_lt (k : Nat) : String × Nat × String × List Int32 := xe_tab.getD k ("", 0, "", [])
def xe_nw : List Cond := [.declares ⟨"java/lang/RuntimeException", "<init>", "(Ljava/lang/String;)V"⟩, .declares ⟨"java/lang/Exception", "<init>", "(Ljava/lang/String;)V"⟩, .declares ⟨"java/lang/Throwable", "<init>", "(Ljava/lang/String;)V"⟩, .castable "java/lang/IllegalArgumentException" "java/lang/IllegalArgumentException"]
def xe_L (g : xe_G) (k : Nat) (A : Nat → Prop) (U : State) (H : Heap) : Prop := vk_R (xe_lt k).1 (xe_lt k).2.1 (xe_lt k).2.2.1 (g.2.1 k) U ∧ va_O "java/lang/String" (g.2.1 k) A U H
def xe_C (g : xe_G) (k : Nat) (A : Nat → Prop) (U : State) (H : Heap) : Prop := va_OF "java/lang/String" "coder" "B" (.int 0) (g.2.1 k) A U H ∧ va_OF "java/lang/String" "value" "[B" (.ref (g.2.2 k)) (g.2.1 k) A U H ∧ va_T .byte (g.2.2 k) (xe_lt k).2.2.2.length (fun j => .int ((xe_lt k).2.2.2.getD j 0)) A U H
def xe_E (g : xe_G) (A : Nat → Prop) (U : State) (H : Heap) : Prop :=
  va_Z "ClassGate" "NO_BYTES" "[B" (.ref g.1) A U H ∧ va_T .byte g.1 0 (fun _ => .null) A U H ∧ va_Z "java/lang/String" "COMPACT_STRINGS" "Z" (.int 1) A U H ∧ va_Zq "jdk/internal/util/Preconditions" "SIOOBE_FORMATTER" "Ljava/util/function/BiFunction;" A U H ∧
  vx_Zq Bundle.tN "UNASSIGNED_STACK" Bundle.steD A U H ∧ vx_Zq Bundle.tN "SUPPRESSED_SENTINEL" Bundle.listD A U H ∧ (∀ k, k < 19 → xe_L g k A U H) ∧ (∀ k, k < 3 → xe_C g k A U H) ∧ (∀ w ∈ xe_nw, va_Nw w U) ∧ va_AO "ClassGate$Member" U ∧ va_AO "java/lang/String" U
theorem xe_ok {g : xe_G} : xb_ok (xe_E g) := by
  refine ⟨fun A s U H hW h => ?_, fun A U H H1 hq h => ?_, fun A B U H hAB h => ?_⟩
  · obtain ⟨h1, h2, h3, h4, h5, h6, h7, h8, h9, h10, h11⟩ := h
    refine ⟨va_Z.moved hW.alike h1, va_T.moved hW.alike h2, va_Z.moved hW.alike h3, va_Zq.moved hW.alike h4, vx_Zq.moved hW.alike h5, vx_Zq.moved hW.alike h6, fun k hk => ⟨vk_R.warm hW (h7 k hk).1, va_O.moved hW.alike (h7 k hk).2⟩, fun k hk => ⟨va_OF.moved hW.alike (h8 k hk).1, va_OF.moved hW.alike (h8 k hk).2.1, va_T.moved hW.alike (h8 k hk).2.2⟩, fun w hw => ?_, va_AO.moved hW.alike h10, va_AO.moved hW.alike h11⟩
    have h := h9 w hw
    simp only [xe_nw, List.mem_cons, List.not_mem_nil, or_false] at hw
    rcases hw with rfl | rfl | rfl | rfl
    · exact va_Nw.warmD hW h
    · exact va_Nw.warmD hW h
    · exact va_Nw.warmD hW h
    · exact va_Nw.warmC hW h
  · obtain ⟨h1, h2, h3, h4, h5, h6, h7, h8, h9, h10, h11⟩ := h
    exact ⟨h1.kept hq, h2.kept hq, h3.kept hq, h4.kept hq, h5.kept hq, h6.kept hq, fun k hk => ⟨(h7 k hk).1, (h7 k hk).2.kept hq⟩, fun k hk => ⟨(h8 k hk).1.kept hq, (h8 k hk).2.1.kept hq, (h8 k hk).2.2.kept hq⟩, h9, h10, h11⟩
  · obtain ⟨h1, h2, h3, h4, h5, h6, h7, h8, h9, h10, h11⟩ := h
    exact ⟨h1.narrow hAB, h2.narrow hAB, h3.narrow hAB, h4.narrow hAB, h5.narrow hAB, h6.narrow hAB, fun k hk => ⟨(h7 k hk).1, (h7 k hk).2.narrow hAB⟩, fun k hk => ⟨(h8 k hk).1.narrow hAB, (h8 k hk).2.1.narrow hAB, (h8 k hk).2.2.narrow hAB⟩, h9, h10, h11⟩
theorem xe_q {C n d : String} {A : Nat → Prop} {U : State} {H : Heap} (h : va_Zq C n d A U H) : ∃ v : Value, va_Z C n d v A U H ∧ v.category = 1 := by
  rcases h with h | ⟨t, h⟩
  · exact ⟨.null, h, rfl⟩
  · exact ⟨.ref t, h, rfl⟩
theorem xe_any {g : xe_G} {A : Nat → Prop} {s : State} {H : Heap} {locs : List Loc} (hE : xe_E g A s s.heap) (hS : va_S A s.heap H locs) (k : Nat) (hk : k < 19) : va_Any "java/lang/String" s H (g.2.1 k) := by
  obtain ⟨cell, h1, h2, h3, -⟩ := (hE.2.2.2.2.2.2.1 k hk).2.kept hS.2.1
  obtain ⟨kC, hkC, -⟩ := Vm.findClass_spec h3
  exact ⟨cell, h1, h2, ⟨kC, hkC⟩, fun comp h => by cases h3.symm.trans h; exact va_asg _ _⟩
theorem xe_recv {g : xe_G} {A : Nat → Prop} {s : State} {H : Heap} {locs : List Loc} (hE : xe_E g A s s.heap) (hS : va_S A s.heap H locs) (k : Nat) (hk : k < 19) : ∃ cell : Cell, H[g.2.1 k]? = some cell ∧ cell.vm.isStatics = false ∧ s.vm.findClass "java/lang/String" = some cell.cls := by
  obtain ⟨cell, h1, h2, h3, -⟩ := (hE.2.2.2.2.2.2.1 k hk).2.kept hS.2.1
  exact ⟨cell, h1, h2, h3⟩
theorem xe_moved {g : xe_G} {A : Nat → Prop} {s : State} {H : Heap} {locs : List Loc} (hE : xe_E g A s s.heap) (hS : va_S A s.heap H locs) : xe_E g A s H := xe_ok.2.1 _ _ _ _ hS.2.1 hE

theorem xe_good : ∀ w ∈ (vx_atS RX11 48 "java/lang/IllegalArgumentException" ["java/lang/RuntimeException", "java/lang/Exception"]).filter goodWord, w ∈ bg := by decide +kernel
theorem xe_rest : ∀ w ∈ (vx_atS RX11 48 "java/lang/IllegalArgumentException" ["java/lang/RuntimeException", "java/lang/Exception"]).filter (fun w => !goodWord w), w ∈ xe_nw := by decide +kernel
theorem xe_ot : ∀ w ∈ Cond.classLink RX11 44 "java/lang/IllegalArgumentException" :: Cond.initialized "java/lang/IllegalArgumentException" :: vx_atS RX11 48 "java/lang/IllegalArgumentException" ["java/lang/RuntimeException", "java/lang/Exception"], vx_ot w = true := by decide +kernel
theorem xe_on : ∀ w ∈ xe_nw, w.onTables = true := by decide +kernel
theorem xe_hat {g : xe_G} {A : Nat → Prop} {s : State} {args : Array Value} (hE : xe_E g A s s.heap) (htb : ∀ w ∈ bg, w.before args s = true) : ∀ w ∈ vx_atS RX11 48 "java/lang/IllegalArgumentException" ["java/lang/RuntimeException", "java/lang/Exception"], w.before args s = true :=
  vx_hat (B := xe_nw) (fun w hw => htb w (xe_good w hw)) xe_rest (fun w hw => va_Nw.use (xe_on w hw) (hE.2.2.2.2.2.2.2.2.1 w hw))
theorem xe_thrown {A : Nat → Prop} {D : va_G} {cl : List vw_C} {ws : va_W} {tys : List (ClassId × FieldType)} {s t : State} {H : Heap} {locs : List Loc} {K : String} {px : Prop} (hpx : px) (hP : va_P D cl ws H) (hK : va_K D cl tys s) (hD : va_D A ws) (hS : va_S A s.heap H locs) (hvm : s.vm.Alike t.vm) (hz : H.size ≤ t.heap.size) (hk : ∀ q : Nat, q < H.size → t.heap[q]? = H[q]?) :
    vx_X (fun _ : Unit => px) (fun E (_ : Unit) t => E = K ∧ xb_B D cl A (fun _ : Unit => ws) (fun _ : Unit => tys) () t) A K s t := by
  refine ⟨(), hpx, ⟨rfl, fun k q hq => va_at.kept (hP k q hq) (hk q.1 (hP k q hq).lt), va_K.moved hvm hK, hD⟩, Nat.le_trans hS.1 hz, fun q hq hA => ?_⟩
  rw [hk q (Nat.lt_of_lt_of_le hq hS.1)]
  exact hS.2.1 q hq hA
section XBX
variable {p : Program} {l : Launch} {e : Env} {R : Room} {s : State} {m : MethodId} {args : Array Value} {below : List Frame} {meth : Method} {c : Code} {H : Heap} {locs : List Loc} {cells slots : Nat} {Q : State → Prop}
variable {D : va_G} {cl : List vw_C} {ws wc wr : va_W} {tys tc : List (ClassId × FieldType)} {A : Nat → Prop} {pc : Nat} {ls : Array Slot} {rest st0 : List Value} {a : Array Value} {mc ms : Nat}
/-- a call that returns or throws K, under one handler that takes it -/
theorem xb_gox {S : Type} {post : Int32 → S → Prop} {W1 : S → va_W} {T1 : S → List (ClassId × FieldType)} {px : Prop} {own K : String} {a0 a1 hpc ct : Nat} (hr : vx_Run p l e R s m args below meth c H locs cells slots mc ms (F0 m pc ls st0) rest (va_Qi post (xb_B D cl (va_A wc H.size) W1 T1) (va_A wc H.size) a) (vx_X (fun _ : Unit => px) (fun E (_ : Unit) t => E = K ∧ xb_B D cl (va_A wc H.size) (fun _ : Unit => wc) (fun _ : Unit => tc) () t) (va_A wc H.size)) (va_A wc H.size))
    (hK : va_K D cl tys s) (hP : va_P D cl ws H) (hD : va_D A ws) (hS : va_S A s.heap H locs) (hA : ∀ q, s.heap.size ≤ q → A q) (isC isR : List Nat) (hC : isC.map (fun i => ws[i]?) = wc.map some) (hR : isR.map (fun i => ws[i]?) = wr.map some) (hnr : va_nd isR = true) (hdis : ∀ i ∈ isR, i ∉ isC)
    (hown : s.vm.findClass own = some m.cls) (hcl : (Cond.classLink own ct K).before args s = true) (htab : c.exceptionTable.toList = tableOf [(a0, a1, hpc, ct)]) (h0 : ct ≠ 0) (hcov : covers ⟨a0, a1, hpc, ct⟩ pc = true)
    (kk : ∀ (r : Int32) (u : S) (H1 : Heap) (locs1 : List Loc), post r u → va_P D cl (wr ++ W1 u) H1 → va_D A (wr ++ W1 u) → va_K D cl (tys ++ T1 u) s → va_S A s.heap H1 locs1 → W p l e R s m args below meth c H1 locs1 (cells + mc) (slots + ms) Q (F0 m (pc + 3) ls (.int r :: rest)))
    (kx : ∀ (x : Nat) (H1 : Heap) (locs1 : List Loc), px → va_P D cl (wr ++ wc) H1 → va_D A (wr ++ wc) → va_S A s.heap H1 locs1 → W p l e R s m args below meth c H1 locs1 (cells + mc) (slots + ms) Q (F0 m hpc ls [.ref x])) : W p l e R s m args below meth c H locs cells slots Q (F0 m pc ls st0) := by
  have hF := va_free hD hS hA isC hC
  refine vx_calli hr hS (fun q _ h => hF q h) hF (fun q _ h => hF q h) (fun E ce q9 u t H1 locs1 ht hvm hpx hBX hz hk1 hS1 hcell hv hcl1 => ?_) (fun r u t H1 locs1 ht hvm hw hB hz1 hk1 hS1 => ?_)
  · obtain ⟨rfl, hP1, -, hD1⟩ := hBX
    rw [ht] at hP1
    obtain ⟨hP2, hD2⟩ := va_join hP hD isC isR hC hR hnr hdis hk1 hF hP1 hD1
    intro T hT X
    obtain ⟨vm2, X2, st2⟩ := xt_caught (g := F0 m pc ls rest) X hown hcl htab h0 rfl hcov (by rw [hT]; exact hcell) hv hcl1 (va_asg _ _)
    obtain ⟨t2, b1, b2⟩ := kx q9 H1 locs1 hpx hP2 hD2 hS1 (T.setVm vm2) hT X2
    exact ⟨t2, st2 t2 b1, b2⟩
  · obtain ⟨hP1, hK1, hD1⟩ := hB
    rw [ht] at hP1
    obtain ⟨hP2, hD2⟩ := va_join hP hD isC isR hC hR hnr hdis hk1 hF hP1 hD1
    exact kk r u H1 locs1 hw hP2 hD2 (hK.app (va_K.moved hvm.symm hK1)) hS1
end XBX

/-! an object of many fields: a list of 82 values, of which some are known -/
def md_has (fs : List Value) (K : List (Nat × Value)) : Prop := fs.length = 82 ∧ ∀ q ∈ K, fs[q.1]? = some q.2
theorem md_at {fs : List Value} {K : List (Nat × Value)} (h : md_has fs K) (j : Nat) {k : Nat} {v : Value} (hj : K[j]? = some (k, v)) : fs[k]? = some v := h.2 (k, v) (List.mem_of_getElem? hj)
theorem md_sub {fs : List Value} {K K' : List (Nat × Value)} (h : md_has fs K) (js : List Nat) (hl : js.filterMap (fun j => K[j]?) = K') : md_has fs K' := by
  refine ⟨h.1, fun q hq => ?_⟩
  rw [← hl] at hq
  obtain ⟨j, -, hj⟩ := List.mem_filterMap.mp hq
  exact h.2 q (List.mem_of_getElem? hj)
theorem md_putD {fs : List Value} {K K' : List (Nat × Value)} (h : md_has fs K) (k : Nat) (v : Value) (hk : k < 82) (hl : K.filter (fun q => !(q.1 == k)) = K') : md_has (fs.set k v) K' := by
  refine ⟨by rw [List.length_set]; exact h.1, fun q hq => ?_⟩
  rw [← hl] at hq
  obtain ⟨h1, h2⟩ := List.mem_filter.mp hq
  have h3 : k ≠ q.1 := fun e => by simp [e] at h2
  rw [List.getElem?_set_ne h3]
  exact h.2 q h1
theorem md_put {fs : List Value} {K K' : List (Nat × Value)} (h : md_has fs K) (k : Nat) (v : Value) (hk : k < 82) (hl : (k, v) :: K.filter (fun q => !(q.1 == k)) = K') : md_has (fs.set k v) K' := by
  have h1 := md_putD h k v hk (K' := K.filter (fun q => !(q.1 == k))) rfl
  refine ⟨h1.1, fun q hq => ?_⟩
  rw [← hl] at hq
  rcases List.mem_cons.mp hq with rfl | hq
  · exact List.getElem?_set_self (by rw [h.1]; exact hk)
  · exact h1.2 q hq
end
section
theorem dX11_init_0 : decode cX11_init 0 = .ok (.aload_n 0, 1) := by decide +kernel
theorem dX11_init_1 : decode cX11_init 1 = .ok (.invokespecial 1, 3) := by decide +kernel
theorem dX11_init_4 : decode cX11_init 4 = .ok (.aload_n 0, 1) := by decide +kernel
theorem dX11_init_5 : decode cX11_init 5 = .ok (.sipush 1024, 3) := by decide +kernel
theorem dX11_init_8 : decode cX11_init 8 = .ok (.newarray .byte, 2) := by decide +kernel
theorem dX11_init_10 : decode cX11_init 10 = .ok (.putfield 9, 3) := by decide +kernel
theorem dX11_init_13 : decode cX11_init 13 = .ok (.aload_n 0, 1) := by decide +kernel
theorem dX11_init_14 : decode cX11_init 14 = .ok (.getstatic 13, 3) := by decide +kernel
theorem dX11_init_17 : decode cX11_init 17 = .ok (.putfield 16, 3) := by decide +kernel
theorem dX11_init_20 : decode cX11_init 20 = .ok (.aload_n 0, 1) := by decide +kernel
theorem dX11_init_21 : decode cX11_init 21 = .ok (.iconst (-1), 1) := by decide +kernel
theorem dX11_init_22 : decode cX11_init 22 = .ok (.putfield 19, 3) := by decide +kernel
theorem dX11_init_25 : decode cX11_init 25 = .ok (.return_, 1) := by decide +kernel
set_option maxHeartbeats 4000000 in
set_option maxRecDepth 100000 in
theorem cg_init (l : Launch) (D : va_G) (g : xe_G) (h0 : Nat) (sz : Nat)  : Met l yX11_init (.code yX11_init cX11_init 1 none :: bg) ({ frames := 2, cells := 1, slots := 1024, locals := 240 } : Room) (xb_Pre (xe_E g) D vwCl [(h0, .inr (11, [.null, .int 0, .null, .null, .int 0]))] [] sz [.ref h0]) (va_Qv (fun _ => True) (xb_B D vwCl (va_A [(h0, .inr (11, [.null, .int 0, .null, .null, .int 0]))] sz) (fun u : Nat × ClassId => [(h0, .inr (11, [.ref u.1, .int 0, .ref g.1, .null, .int (-1)])), (u.1, .inl (u.2, 1024, .inl (fun _ => 0)))]) (fun u : Nat × ClassId => [(u.2, .byte)])) (va_A [(h0, .inr (11, [.null, .int 0, .null, .null, .int 0]))] sz)) 1 1024 (va_A [(h0, .inr (11, [.null, .int 0, .null, .null, .int 0]))] sz) := by
  refine Met.ofW (cc := cX11_init) (maxL := 1) (ret := none) (by decide) rfl ?_
  intro p e s m args below meth c s₁ B hml hv
  obtain ⟨rfl, hsz, hP, hK, hD0, hE⟩ := hv
  have hx := B.exec
  have hb := B.bytes
  have hr := B.returns
  have hts := atoms_spec (ws := (.code yX11_init cX11_init 1 none :: bg)) B.pre
  have htb : ∀ w ∈ bg, w.before _ s = true := fun w h => hts w (List.mem_cons_of_mem _ h)
  have hown : s.vm.findClass RX11 = some m.cls := findClass_of_methodNamed B.named
  have hlocks := B.notSynchronized
  have hin : meth.name = "<init>" := (name_of_methodNamed B.named B.method).1
  subst hsz
  have hD := hD0.self (sz := s.heap.size)
  generalize hAe : va_A [(h0, .inr (11, [.null, .int 0, .null, .null, .int 0]))] s.heap.size = A at hD hE ⊢
  have hA : ∀ q : Nat, s.heap.size ≤ q → A q := fun q h => by rw [← hAe]; exact Or.inr h
  have hS : va_S A s.heap s.heap [] := va_S.rf
  have hP : va_P D vwCl [(h0, .inr (11, [.null, .int 0, .null, .null, .int 0]))] s.heap := hP
  have hl := lv_entry ([.ref h0]) (n := 1) (Nat.le_of_ble_eq_true rfl)
  rw [lg_entry_eq]
  generalize (lg_sl ([.ref h0]) ++ List.replicate (1 - (lg_sl ([.ref h0])).length) Slot.unset).toArray = ls at hl ⊢
  have hl : lv_has ls 1 [(0, .ref h0)] := hl
  refine lv_aload_n hx hb dX11_init_0 rfl (lv_at hl 0 rfl) ?_
  refine W.objInit hx hb hown (htb _ bg_1) (htb _ bg_3) (htb _ bg_2) rfl (by rw [hml]; exact hl.1) rfl dX11_init_1 (Nat.le_of_ble_eq_true rfl) (Nat.le_of_ble_eq_true rfl) ?_
  refine W.eq (g2 := F0 m 4 ls []) rfl ?_
  refine lv_aload_n hx hb dX11_init_4 rfl (lv_at hl 0 rfl) ?_
  refine lv_sipush (v := 1024) hx hb dX11_init_5 (by decide) ?_
  refine va_newa (atype := .byte) (ty := .byte) (a0 := (1024, .inl (fun _ => 0))) (N' := 1024) hx hb (htb _ bg_4) rfl hK hP hD hS hA (fun _ => rfl) (by decide) (by decide) (by decide) (Nat.le_of_ble_eq_true rfl) (Nat.le_of_ble_eq_true rfl) dX11_init_8 (fun q8 a8 H hK hP hD hS => ?_)
  have hP : va_P D vwCl [(h0, .inr (11, [.null, .int 0, .null, .null, .int 0])), (q8, .inl (a8, 1024, .inl (fun _ => 0)))] H := hP
  have hD : va_D A [(h0, .inr (11, [.null, .int 0, .null, .null, .int 0])), (q8, .inl (a8, 1024, .inl (fun _ => 0)))] := hD
  have hK : va_K D vwCl [(a8, .byte)] s := hK
  refine W.widen (k := 1) (n := 1024) (by decide) (by decide) ?_
  refine va_put (D := D) (ci := 11) (v := .ref q8) (ty := tyX11 0) (C := RX11) (T := TX11) (N := 5) hx hb htb bi_X11 tyX11 tyX11_ok nmX11 hown hK hP hD hS 0 rfl rfl 0 (by decide) (htb _ bg_5) (fun _ h9 => h9) rfl (tyX11_ok 0 (by decide)) rfl rfl (Nat.le_of_ble_eq_true rfl) dX11_init_10 (fun H locs hP hD hS => ?_)
  have hP : va_P D vwCl [(h0, .inr (11, [.ref q8, .int 0, .null, .null, .int 0])), (q8, .inl (a8, 1024, .inl (fun _ => 0)))] H := hP
  have hD : va_D A [(h0, .inr (11, [.ref q8, .int 0, .null, .null, .int 0])), (q8, .inl (a8, 1024, .inl (fun _ => 0)))] := hD
  refine lv_aload_n hx hb dX11_init_13 rfl (lv_at hl 0 rfl) ?_
  refine va_gets hx hb (hE.1) hS hown (htb _ bg_6) (fun _ h9 => h9) dX11_init_14 ?_
  refine va_put (D := D) (ci := 11) (v := .ref g.1) (ty := tyX11 2) (C := RX11) (T := TX11) (N := 5) hx hb htb bi_X11 tyX11 tyX11_ok nmX11 hown hK hP hD hS 0 rfl rfl 2 (by decide) (htb _ bg_7) (fun _ h9 => h9) rfl (tyX11_ok 2 (by decide)) rfl rfl (Nat.le_of_ble_eq_true rfl) dX11_init_17 (fun H locs hP hD hS => ?_)
  have hP : va_P D vwCl [(h0, .inr (11, [.ref q8, .int 0, .ref g.1, .null, .int 0])), (q8, .inl (a8, 1024, .inl (fun _ => 0)))] H := hP
  have hD : va_D A [(h0, .inr (11, [.ref q8, .int 0, .ref g.1, .null, .int 0])), (q8, .inl (a8, 1024, .inl (fun _ => 0)))] := hD
  refine lv_aload_n hx hb dX11_init_20 rfl (lv_at hl 0 rfl) ?_
  refine lv_iconst (v := (-1)) hx hb dX11_init_21 (by decide) ?_
  refine va_put (D := D) (ci := 11) (v := .int (-1)) (ty := tyX11 4) (C := RX11) (T := TX11) (N := 5) hx hb htb bi_X11 tyX11 tyX11_ok nmX11 hown hK hP hD hS 0 rfl rfl 4 (by decide) (htb _ bg_8) (fun _ h9 => h9) rfl (tyX11_ok 4 (by decide)) rfl rfl (Nat.le_of_ble_eq_true rfl) dX11_init_22 (fun H locs hP hD hS => ?_)
  have hP : va_P D vwCl [(h0, .inr (11, [.ref q8, .int 0, .ref g.1, .null, .int (-1)])), (q8, .inl (a8, 1024, .inl (fun _ => 0)))] H := hP
  have hD : va_D A [(h0, .inr (11, [.ref q8, .int 0, .ref g.1, .null, .int (-1)])), (q8, .inl (a8, 1024, .inl (fun _ => 0)))] := hD
  have hP9 := hP.sub (ws' := [(h0, .inr (11, [.ref q8, .int 0, .ref g.1, .null, .int (-1)])), (q8, .inl (a8, 1024, .inl (fun _ => 0)))]) [0, 1] rfl
  have hD9 := hD.sub (ws' := [(h0, .inr (11, [.ref q8, .int 0, .ref g.1, .null, .int (-1)])), (q8, .inl (a8, 1024, .inl (fun _ => 0)))]) [0, 1] rfl rfl
  have hK9 := hK.sub (tys' := [(a8, .byte)]) [0] rfl
  exact W.vret hx hb hr (fun t ht hW => ⟨⟨(q8, a8), rfl, trivial, by rw [ht]; exact hP9, va_K.moved hW.alike hK9, hD9⟩, hS.F ht⟩) hS.2.2 dX11_init_25
theorem dX11_place_0 : decode cX11_place 0 = .ok (.aload_n 0, 1) := by decide +kernel
theorem dX11_place_1 : decode cX11_place 1 = .ok (.getfield 19, 3) := by decide +kernel
theorem dX11_place_4 : decode cX11_place 4 = .ok (.ireturn, 1) := by decide +kernel
set_option maxHeartbeats 4000000 in
set_option maxRecDepth 100000 in
theorem cg_place (l : Launch) (D : va_G) (g : xe_G) (h0 : Nat) (qc : Nat) (n : Int32) (fl : Nat) (wp : Int32) (sz : Nat)  : Met l yX11_place (.code yX11_place cX11_place 1 (some .int) :: bg) ({ frames := 1, cells := 0, slots := 0, locals := 120 } : Room) (xb_Pre (xe_E g) D vwCl [(h0, .inr (11, [.ref qc, .int n, .ref fl, .null, .int wp]))] [] sz [.ref h0]) (va_Qi (fun r _ => r = wp) (xb_B D vwCl (va_A [(h0, .inr (11, [.ref qc, .int n, .ref fl, .null, .int wp]))] sz) (fun u : Unit => [(h0, .inr (11, [.ref qc, .int n, .ref fl, .null, .int wp]))]) (fun u : Unit => [])) (va_A [(h0, .inr (11, [.ref qc, .int n, .ref fl, .null, .int wp]))] sz)) 0 0 (va_A [(h0, .inr (11, [.ref qc, .int n, .ref fl, .null, .int wp]))] sz) := by
  refine Met.ofW (cc := cX11_place) (maxL := 1) (ret := (some .int)) (by decide) rfl ?_
  intro p e s m args below meth c s₁ B hml hv
  obtain ⟨rfl, hsz, hP, hK, hD0, hE⟩ := hv
  have hx := B.exec
  have hb := B.bytes
  have hr := B.returns
  have hts := atoms_spec (ws := (.code yX11_place cX11_place 1 (some .int) :: bg)) B.pre
  have htb : ∀ w ∈ bg, w.before _ s = true := fun w h => hts w (List.mem_cons_of_mem _ h)
  have hown : s.vm.findClass RX11 = some m.cls := findClass_of_methodNamed B.named
  have hlocks := B.notSynchronized
  subst hsz
  have hD := hD0.self (sz := s.heap.size)
  generalize hAe : va_A [(h0, .inr (11, [.ref qc, .int n, .ref fl, .null, .int wp]))] s.heap.size = A at hD hE ⊢
  have hA : ∀ q : Nat, s.heap.size ≤ q → A q := fun q h => by rw [← hAe]; exact Or.inr h
  have hS : va_S A s.heap s.heap [] := va_S.rf
  have hP : va_P D vwCl [(h0, .inr (11, [.ref qc, .int n, .ref fl, .null, .int wp]))] s.heap := hP
  have hl := lv_entry ([.ref h0]) (n := 1) (Nat.le_of_ble_eq_true rfl)
  rw [lg_entry_eq]
  generalize (lg_sl ([.ref h0]) ++ List.replicate (1 - (lg_sl ([.ref h0])).length) Slot.unset).toArray = ls at hl ⊢
  have hl : lv_has ls 1 [(0, .ref h0)] := hl
  refine lv_aload_n hx hb dX11_place_0 rfl (lv_at hl 0 rfl) ?_
  refine va_get (D := D) (ci := 11) (v := .int wp) (C := RX11) (T := TX11) (N := 5) hx hb htb bi_X11 hown hK hP 0 rfl rfl 4 (by decide) (htb _ bg_8) (fun _ h9 => h9) rfl dX11_place_1 ?_
  have hP9 := hP.sub (ws' := [(h0, .inr (11, [.ref qc, .int n, .ref fl, .null, .int wp]))]) [0] rfl
  have hD9 := hD.sub (ws' := [(h0, .inr (11, [.ref qc, .int n, .ref fl, .null, .int wp]))]) [0] rfl rfl
  have hK9 := hK.sub (tys' := []) [] rfl
  exact W.iret (v := wp) hx hb hr (fun t ht hW => ⟨⟨wp, (), rfl, rfl, by rw [ht]; exact hP9, va_K.moved hW.alike hK9, hD9⟩, hS.F ht⟩) hS.2.2 dX11_place_4
theorem dX11_character_0 : decode cX11_character 0 = .ok (.aload_n 0, 1) := by decide +kernel
theorem dX11_character_1 : decode cX11_character 1 = .ok (.getfield 69, 3) := by decide +kernel
theorem dX11_character_4 : decode cX11_character 4 = .ok (.ifnonnull 7, 3) := by decide +kernel
theorem dX11_character_7 : decode cX11_character 7 = .ok (.iconst (-1), 1) := by decide +kernel
theorem dX11_character_8 : decode cX11_character 8 = .ok (.goto 15, 3) := by decide +kernel
theorem dX11_character_23 : decode cX11_character 23 = .ok (.ireturn, 1) := by decide +kernel
set_option maxHeartbeats 4000000 in
set_option maxRecDepth 100000 in
theorem cg_character (l : Launch) (D : va_G) (g : xe_G) (h0 : Nat) (qc : Nat) (n : Int32) (fl : Nat) (wp : Int32) (x0 : Int32) (x1 : Int32) (sz : Nat)  : Met l yX11_character (.code yX11_character cX11_character 3 (some .int) :: bg) ({ frames := 1, cells := 0, slots := 0, locals := 120 } : Room) (xb_Pre (xe_E g) D vwCl [(h0, .inr (11, [.ref qc, .int n, .ref fl, .null, .int wp]))] [] sz [.ref h0, .int x0, .int x1]) (va_Qi (fun r _ => r = -1) (xb_B D vwCl (va_A [(h0, .inr (11, [.ref qc, .int n, .ref fl, .null, .int wp]))] sz) (fun u : Unit => [(h0, .inr (11, [.ref qc, .int n, .ref fl, .null, .int wp]))]) (fun u : Unit => [])) (va_A [(h0, .inr (11, [.ref qc, .int n, .ref fl, .null, .int wp]))] sz)) 0 0 (va_A [(h0, .inr (11, [.ref qc, .int n, .ref fl, .null, .int wp]))] sz) := by
  refine Met.ofW (cc := cX11_character) (maxL := 3) (ret := (some .int)) (by decide) rfl ?_
  intro p e s m args below meth c s₁ B hml hv
  obtain ⟨rfl, hsz, hP, hK, hD0, hE⟩ := hv
  have hx := B.exec
  have hb := B.bytes
  have hr := B.returns
  have hts := atoms_spec (ws := (.code yX11_character cX11_character 3 (some .int) :: bg)) B.pre
  have htb : ∀ w ∈ bg, w.before _ s = true := fun w h => hts w (List.mem_cons_of_mem _ h)
  have hown : s.vm.findClass RX11 = some m.cls := findClass_of_methodNamed B.named
  have hlocks := B.notSynchronized
  subst hsz
  have hD := hD0.self (sz := s.heap.size)
  generalize hAe : va_A [(h0, .inr (11, [.ref qc, .int n, .ref fl, .null, .int wp]))] s.heap.size = A at hD hE ⊢
  have hA : ∀ q : Nat, s.heap.size ≤ q → A q := fun q h => by rw [← hAe]; exact Or.inr h
  have hS : va_S A s.heap s.heap [] := va_S.rf
  have hP : va_P D vwCl [(h0, .inr (11, [.ref qc, .int n, .ref fl, .null, .int wp]))] s.heap := hP
  have hl := lv_entry ([.ref h0, .int x0, .int x1]) (n := 3) (Nat.le_of_ble_eq_true rfl)
  rw [lg_entry_eq]
  generalize (lg_sl ([.ref h0, .int x0, .int x1]) ++ List.replicate (3 - (lg_sl ([.ref h0, .int x0, .int x1])).length) Slot.unset).toArray = ls at hl ⊢
  have hl : lv_has ls 3 [(0, .ref h0), (1, .int x0), (2, .int x1)] := hl
  refine lv_aload_n hx hb dX11_character_0 rfl (lv_at hl 0 rfl) ?_
  refine va_get (D := D) (ci := 11) (v := .null) (C := RX11) (T := TX11) (N := 5) hx hb htb bi_X11 hown hK hP 0 rfl rfl 3 (by decide) (htb _ bg_48) (fun _ h9 => h9) rfl dX11_character_1 ?_
  refine lv_ifnonnullN hx hb dX11_character_4 ?_
  refine lv_iconst (v := (-1)) hx hb dX11_character_7 (by decide) ?_
  refine lv_goto (tgt := 23) hx hb dX11_character_8 (by decide) ?_
  have hP9 := hP.sub (ws' := [(h0, .inr (11, [.ref qc, .int n, .ref fl, .null, .int wp]))]) [0] rfl
  have hD9 := hD.sub (ws' := [(h0, .inr (11, [.ref qc, .int n, .ref fl, .null, .int wp]))]) [0] rfl rfl
  have hK9 := hK.sub (tys' := []) [] rfl
  exact W.iret (v := (-1)) hx hb hr (fun t ht hW => ⟨⟨(-1), (), rfl, rfl, by rw [ht]; exact hP9, va_K.moved hW.alike hK9, hD9⟩, hS.F ht⟩) hS.2.2 dX11_character_23
theorem dX11_places_0 : decode cX11_places 0 = .ok (.aload_n 0, 1) := by decide +kernel
theorem dX11_places_1 : decode cX11_places 1 = .ok (.getfield 69, 3) := by decide +kernel
theorem dX11_places_4 : decode cX11_places 4 = .ok (.ifnonnull 7, 3) := by decide +kernel
theorem dX11_places_7 : decode cX11_places 7 = .ok (.iconst (-1), 1) := by decide +kernel
theorem dX11_places_8 : decode cX11_places 8 = .ok (.goto 14, 3) := by decide +kernel
theorem dX11_places_22 : decode cX11_places 22 = .ok (.ireturn, 1) := by decide +kernel
set_option maxHeartbeats 4000000 in
set_option maxRecDepth 100000 in
theorem cg_places (l : Launch) (D : va_G) (g : xe_G) (h0 : Nat) (qc : Nat) (n : Int32) (fl : Nat) (wp : Int32) (x0 : Int32) (sz : Nat)  : Met l yX11_places (.code yX11_places cX11_places 2 (some .int) :: bg) ({ frames := 1, cells := 0, slots := 0, locals := 120 } : Room) (xb_Pre (xe_E g) D vwCl [(h0, .inr (11, [.ref qc, .int n, .ref fl, .null, .int wp]))] [] sz [.ref h0, .int x0]) (va_Qi (fun r _ => r = -1) (xb_B D vwCl (va_A [(h0, .inr (11, [.ref qc, .int n, .ref fl, .null, .int wp]))] sz) (fun u : Unit => [(h0, .inr (11, [.ref qc, .int n, .ref fl, .null, .int wp]))]) (fun u : Unit => [])) (va_A [(h0, .inr (11, [.ref qc, .int n, .ref fl, .null, .int wp]))] sz)) 0 0 (va_A [(h0, .inr (11, [.ref qc, .int n, .ref fl, .null, .int wp]))] sz) := by
  refine Met.ofW (cc := cX11_places) (maxL := 2) (ret := (some .int)) (by decide) rfl ?_
  intro p e s m args below meth c s₁ B hml hv
  obtain ⟨rfl, hsz, hP, hK, hD0, hE⟩ := hv
  have hx := B.exec
  have hb := B.bytes
  have hr := B.returns
  have hts := atoms_spec (ws := (.code yX11_places cX11_places 2 (some .int) :: bg)) B.pre
  have htb : ∀ w ∈ bg, w.before _ s = true := fun w h => hts w (List.mem_cons_of_mem _ h)
  have hown : s.vm.findClass RX11 = some m.cls := findClass_of_methodNamed B.named
  have hlocks := B.notSynchronized
  subst hsz
  have hD := hD0.self (sz := s.heap.size)
  generalize hAe : va_A [(h0, .inr (11, [.ref qc, .int n, .ref fl, .null, .int wp]))] s.heap.size = A at hD hE ⊢
  have hA : ∀ q : Nat, s.heap.size ≤ q → A q := fun q h => by rw [← hAe]; exact Or.inr h
  have hS : va_S A s.heap s.heap [] := va_S.rf
  have hP : va_P D vwCl [(h0, .inr (11, [.ref qc, .int n, .ref fl, .null, .int wp]))] s.heap := hP
  have hl := lv_entry ([.ref h0, .int x0]) (n := 2) (Nat.le_of_ble_eq_true rfl)
  rw [lg_entry_eq]
  generalize (lg_sl ([.ref h0, .int x0]) ++ List.replicate (2 - (lg_sl ([.ref h0, .int x0])).length) Slot.unset).toArray = ls at hl ⊢
  have hl : lv_has ls 2 [(0, .ref h0), (1, .int x0)] := hl
  refine lv_aload_n hx hb dX11_places_0 rfl (lv_at hl 0 rfl) ?_
  refine va_get (D := D) (ci := 11) (v := .null) (C := RX11) (T := TX11) (N := 5) hx hb htb bi_X11 hown hK hP 0 rfl rfl 3 (by decide) (htb _ bg_48) (fun _ h9 => h9) rfl dX11_places_1 ?_
  refine lv_ifnonnullN hx hb dX11_places_4 ?_
  refine lv_iconst (v := (-1)) hx hb dX11_places_7 (by decide) ?_
  refine lv_goto (tgt := 22) hx hb dX11_places_8 (by decide) ?_
  have hP9 := hP.sub (ws' := [(h0, .inr (11, [.ref qc, .int n, .ref fl, .null, .int wp]))]) [0] rfl
  have hD9 := hD.sub (ws' := [(h0, .inr (11, [.ref qc, .int n, .ref fl, .null, .int wp]))]) [0] rfl rfl
  have hK9 := hK.sub (tys' := []) [] rfl
  exact W.iret (v := (-1)) hx hb hr (fun t ht hW => ⟨⟨(-1), (), rfl, rfl, by rw [ht]; exact hP9, va_K.moved hW.alike hK9, hD9⟩, hS.F ht⟩) hS.2.2 dX11_places_22
theorem dX11_bootstrap_0 : decode cX11_bootstrap 0 = .ok (.aload_n 0, 1) := by decide +kernel
theorem dX11_bootstrap_1 : decode cX11_bootstrap 1 = .ok (.getfield 69, 3) := by decide +kernel
theorem dX11_bootstrap_4 : decode cX11_bootstrap 4 = .ok (.ifnonnull 7, 3) := by decide +kernel
theorem dX11_bootstrap_7 : decode cX11_bootstrap 7 = .ok (.iconst (-1), 1) := by decide +kernel
theorem dX11_bootstrap_8 : decode cX11_bootstrap 8 = .ok (.goto 12, 3) := by decide +kernel
theorem dX11_bootstrap_20 : decode cX11_bootstrap 20 = .ok (.ireturn, 1) := by decide +kernel
set_option maxHeartbeats 4000000 in
set_option maxRecDepth 100000 in
theorem cg_bootstrap (l : Launch) (D : va_G) (g : xe_G) (h0 : Nat) (qc : Nat) (n : Int32) (fl : Nat) (wp : Int32) (x0 : Int32) (x1 : Int32) (sz : Nat)  : Met l yX11_bootstrap (.code yX11_bootstrap cX11_bootstrap 3 (some .int) :: bg) ({ frames := 1, cells := 0, slots := 0, locals := 120 } : Room) (xb_Pre (xe_E g) D vwCl [(h0, .inr (11, [.ref qc, .int n, .ref fl, .null, .int wp]))] [] sz [.ref h0, .int x0, .int x1]) (va_Qi (fun r _ => r = -1) (xb_B D vwCl (va_A [(h0, .inr (11, [.ref qc, .int n, .ref fl, .null, .int wp]))] sz) (fun u : Unit => [(h0, .inr (11, [.ref qc, .int n, .ref fl, .null, .int wp]))]) (fun u : Unit => [])) (va_A [(h0, .inr (11, [.ref qc, .int n, .ref fl, .null, .int wp]))] sz)) 0 0 (va_A [(h0, .inr (11, [.ref qc, .int n, .ref fl, .null, .int wp]))] sz) := by
  refine Met.ofW (cc := cX11_bootstrap) (maxL := 3) (ret := (some .int)) (by decide) rfl ?_
  intro p e s m args below meth c s₁ B hml hv
  obtain ⟨rfl, hsz, hP, hK, hD0, hE⟩ := hv
  have hx := B.exec
  have hb := B.bytes
  have hr := B.returns
  have hts := atoms_spec (ws := (.code yX11_bootstrap cX11_bootstrap 3 (some .int) :: bg)) B.pre
  have htb : ∀ w ∈ bg, w.before _ s = true := fun w h => hts w (List.mem_cons_of_mem _ h)
  have hown : s.vm.findClass RX11 = some m.cls := findClass_of_methodNamed B.named
  have hlocks := B.notSynchronized
  subst hsz
  have hD := hD0.self (sz := s.heap.size)
  generalize hAe : va_A [(h0, .inr (11, [.ref qc, .int n, .ref fl, .null, .int wp]))] s.heap.size = A at hD hE ⊢
  have hA : ∀ q : Nat, s.heap.size ≤ q → A q := fun q h => by rw [← hAe]; exact Or.inr h
  have hS : va_S A s.heap s.heap [] := va_S.rf
  have hP : va_P D vwCl [(h0, .inr (11, [.ref qc, .int n, .ref fl, .null, .int wp]))] s.heap := hP
  have hl := lv_entry ([.ref h0, .int x0, .int x1]) (n := 3) (Nat.le_of_ble_eq_true rfl)
  rw [lg_entry_eq]
  generalize (lg_sl ([.ref h0, .int x0, .int x1]) ++ List.replicate (3 - (lg_sl ([.ref h0, .int x0, .int x1])).length) Slot.unset).toArray = ls at hl ⊢
  have hl : lv_has ls 3 [(0, .ref h0), (1, .int x0), (2, .int x1)] := hl
  refine lv_aload_n hx hb dX11_bootstrap_0 rfl (lv_at hl 0 rfl) ?_
  refine va_get (D := D) (ci := 11) (v := .null) (C := RX11) (T := TX11) (N := 5) hx hb htb bi_X11 hown hK hP 0 rfl rfl 3 (by decide) (htb _ bg_48) (fun _ h9 => h9) rfl dX11_bootstrap_1 ?_
  refine lv_ifnonnullN hx hb dX11_bootstrap_4 ?_
  refine lv_iconst (v := (-1)) hx hb dX11_bootstrap_7 (by decide) ?_
  refine lv_goto (tgt := 20) hx hb dX11_bootstrap_8 (by decide) ?_
  have hP9 := hP.sub (ws' := [(h0, .inr (11, [.ref qc, .int n, .ref fl, .null, .int wp]))]) [0] rfl
  have hD9 := hD.sub (ws' := [(h0, .inr (11, [.ref qc, .int n, .ref fl, .null, .int wp]))]) [0] rfl rfl
  have hK9 := hK.sub (tys' := []) [] rfl
  exact W.iret (v := (-1)) hx hb hr (fun t ht hW => ⟨⟨(-1), (), rfl, rfl, by rw [ht]; exact hP9, va_K.moved hW.alike hK9, hD9⟩, hS.F ht⟩) hS.2.2 dX11_bootstrap_20
theorem dX11_bits_0 : decode cX11_bits 0 = .ok (.aload_n 0, 1) := by decide +kernel
theorem dX11_bits_1 : decode cX11_bits 1 = .ok (.getfield 69, 3) := by decide +kernel
theorem dX11_bits_4 : decode cX11_bits 4 = .ok (.ifnonnull 5, 3) := by decide +kernel
theorem dX11_bits_7 : decode cX11_bits 7 = .ok (.lconst 0, 1) := by decide +kernel
theorem dX11_bits_8 : decode cX11_bits 8 = .ok (.lreturn, 1) := by decide +kernel
set_option maxHeartbeats 4000000 in
set_option maxRecDepth 100000 in
theorem cg_bits (l : Launch) (D : va_G) (g : xe_G) (h0 : Nat) (qc : Nat) (n : Int32) (fl : Nat) (wp : Int32) (x0 : Int32) (sz : Nat)  : Met l yX11_bits (.code yX11_bits cX11_bits 4 (some .long) :: bg) ({ frames := 1, cells := 0, slots := 0, locals := 120 } : Room) (xb_Pre (xe_E g) D vwCl [(h0, .inr (11, [.ref qc, .int n, .ref fl, .null, .int wp]))] [] sz [.ref h0, .int x0]) (va_Ql (fun r _ => r = 0) (xb_B D vwCl (va_A [(h0, .inr (11, [.ref qc, .int n, .ref fl, .null, .int wp]))] sz) (fun u : Unit => [(h0, .inr (11, [.ref qc, .int n, .ref fl, .null, .int wp]))]) (fun u : Unit => [])) (va_A [(h0, .inr (11, [.ref qc, .int n, .ref fl, .null, .int wp]))] sz)) 0 0 (va_A [(h0, .inr (11, [.ref qc, .int n, .ref fl, .null, .int wp]))] sz) := by
  refine Met.ofW (cc := cX11_bits) (maxL := 4) (ret := (some .long)) (by decide) rfl ?_
  intro p e s m args below meth c s₁ B hml hv
  obtain ⟨rfl, hsz, hP, hK, hD0, hE⟩ := hv
  have hx := B.exec
  have hb := B.bytes
  have hr := B.returns
  have hts := atoms_spec (ws := (.code yX11_bits cX11_bits 4 (some .long) :: bg)) B.pre
  have htb : ∀ w ∈ bg, w.before _ s = true := fun w h => hts w (List.mem_cons_of_mem _ h)
  have hown : s.vm.findClass RX11 = some m.cls := findClass_of_methodNamed B.named
  have hlocks := B.notSynchronized
  subst hsz
  have hD := hD0.self (sz := s.heap.size)
  generalize hAe : va_A [(h0, .inr (11, [.ref qc, .int n, .ref fl, .null, .int wp]))] s.heap.size = A at hD hE ⊢
  have hA : ∀ q : Nat, s.heap.size ≤ q → A q := fun q h => by rw [← hAe]; exact Or.inr h
  have hS : va_S A s.heap s.heap [] := va_S.rf
  have hP : va_P D vwCl [(h0, .inr (11, [.ref qc, .int n, .ref fl, .null, .int wp]))] s.heap := hP
  have hl := lv_entry ([.ref h0, .int x0]) (n := 4) (Nat.le_of_ble_eq_true rfl)
  rw [lg_entry_eq]
  generalize (lg_sl ([.ref h0, .int x0]) ++ List.replicate (4 - (lg_sl ([.ref h0, .int x0])).length) Slot.unset).toArray = ls at hl ⊢
  have hl : lv_has ls 4 [(0, .ref h0), (1, .int x0)] := hl
  refine lv_aload_n hx hb dX11_bits_0 rfl (lv_at hl 0 rfl) ?_
  refine va_get (D := D) (ci := 11) (v := .null) (C := RX11) (T := TX11) (N := 5) hx hb htb bi_X11 hown hK hP 0 rfl rfl 3 (by decide) (htb _ bg_48) (fun _ h9 => h9) rfl dX11_bits_1 ?_
  refine lv_ifnonnullN hx hb dX11_bits_4 ?_
  refine lv_lconst (v := 0) hx hb dX11_bits_7 (by decide) ?_
  have hP9 := hP.sub (ws' := [(h0, .inr (11, [.ref qc, .int n, .ref fl, .null, .int wp]))]) [0] rfl
  have hD9 := hD.sub (ws' := [(h0, .inr (11, [.ref qc, .int n, .ref fl, .null, .int wp]))]) [0] rfl rfl
  have hK9 := hK.sub (tys' := []) [] rfl
  exact W.lret (v := 0) hx hb hr (fun t ht hW => ⟨⟨0, (), rfl, rfl, by rw [ht]; exact hP9, va_K.moved hW.alike hK9, hD9⟩, hS.F ht⟩) hS.2.2 dX11_bits_8
theorem dX11_find_0 : decode cX11_find 0 = .ok (.aload_n 0, 1) := by decide +kernel
theorem dX11_find_1 : decode cX11_find 1 = .ok (.getfield 69, 3) := by decide +kernel
theorem dX11_find_4 : decode cX11_find 4 = .ok (.ifnull 33, 3) := by decide +kernel
theorem dX11_find_37 : decode cX11_find 37 = .ok (.iconst (-1), 1) := by decide +kernel
theorem dX11_find_38 : decode cX11_find 38 = .ok (.ireturn, 1) := by decide +kernel
set_option maxHeartbeats 4000000 in
set_option maxRecDepth 100000 in
theorem cg_find (l : Launch) (D : va_G) (g : xe_G) (h0 : Nat) (qc : Nat) (n : Int32) (fl : Nat) (wp : Int32) (x0 : Int32) (x1 : Int32) (x2 : Int32) (sz : Nat)  : Met l yX11_find (.code yX11_find cX11_find 5 (some .int) :: bg) ({ frames := 1, cells := 0, slots := 0, locals := 120 } : Room) (xb_Pre (xe_E g) D vwCl [(h0, .inr (11, [.ref qc, .int n, .ref fl, .null, .int wp]))] [] sz [.ref h0, .int x0, .int x1, .int x2]) (va_Qi (fun r _ => r = -1) (xb_B D vwCl (va_A [(h0, .inr (11, [.ref qc, .int n, .ref fl, .null, .int wp]))] sz) (fun u : Unit => [(h0, .inr (11, [.ref qc, .int n, .ref fl, .null, .int wp]))]) (fun u : Unit => [])) (va_A [(h0, .inr (11, [.ref qc, .int n, .ref fl, .null, .int wp]))] sz)) 0 0 (va_A [(h0, .inr (11, [.ref qc, .int n, .ref fl, .null, .int wp]))] sz) := by
  refine Met.ofW (cc := cX11_find) (maxL := 5) (ret := (some .int)) (by decide) rfl ?_
  intro p e s m args below meth c s₁ B hml hv
  obtain ⟨rfl, hsz, hP, hK, hD0, hE⟩ := hv
  have hx := B.exec
  have hb := B.bytes
  have hr := B.returns
  have hts := atoms_spec (ws := (.code yX11_find cX11_find 5 (some .int) :: bg)) B.pre
  have htb : ∀ w ∈ bg, w.before _ s = true := fun w h => hts w (List.mem_cons_of_mem _ h)
  have hown : s.vm.findClass RX11 = some m.cls := findClass_of_methodNamed B.named
  have hlocks := B.notSynchronized
  subst hsz
  have hD := hD0.self (sz := s.heap.size)
  generalize hAe : va_A [(h0, .inr (11, [.ref qc, .int n, .ref fl, .null, .int wp]))] s.heap.size = A at hD hE ⊢
  have hA : ∀ q : Nat, s.heap.size ≤ q → A q := fun q h => by rw [← hAe]; exact Or.inr h
  have hS : va_S A s.heap s.heap [] := va_S.rf
  have hP : va_P D vwCl [(h0, .inr (11, [.ref qc, .int n, .ref fl, .null, .int wp]))] s.heap := hP
  have hl := lv_entry ([.ref h0, .int x0, .int x1, .int x2]) (n := 5) (Nat.le_of_ble_eq_true rfl)
  rw [lg_entry_eq]
  generalize (lg_sl ([.ref h0, .int x0, .int x1, .int x2]) ++ List.replicate (5 - (lg_sl ([.ref h0, .int x0, .int x1, .int x2])).length) Slot.unset).toArray = ls at hl ⊢
  have hl : lv_has ls 5 [(0, .ref h0), (1, .int x0), (2, .int x1), (3, .int x2)] := hl
  refine lv_aload_n hx hb dX11_find_0 rfl (lv_at hl 0 rfl) ?_
  refine va_get (D := D) (ci := 11) (v := .null) (C := RX11) (T := TX11) (N := 5) hx hb htb bi_X11 hown hK hP 0 rfl rfl 3 (by decide) (htb _ bg_48) (fun _ h9 => h9) rfl dX11_find_1 ?_
  refine lv_ifnullN (tgt := 37) hx hb dX11_find_4 (by decide) ?_
  refine lv_iconst (v := (-1)) hx hb dX11_find_37 (by decide) ?_
  have hP9 := hP.sub (ws' := [(h0, .inr (11, [.ref qc, .int n, .ref fl, .null, .int wp]))]) [0] rfl
  have hD9 := hD.sub (ws' := [(h0, .inr (11, [.ref qc, .int n, .ref fl, .null, .int wp]))]) [0] rfl rfl
  have hK9 := hK.sub (tys' := []) [] rfl
  exact W.iret (v := (-1)) hx hb hr (fun t ht hW => ⟨⟨(-1), (), rfl, rfl, by rw [ht]; exact hP9, va_K.moved hW.alike hK9, hD9⟩, hS.F ht⟩) hS.2.2 dX11_find_38
theorem dX11_codeOf_0 : decode cX11_codeOf 0 = .ok (.aload_n 0, 1) := by decide +kernel
theorem dX11_codeOf_1 : decode cX11_codeOf 1 = .ok (.getfield 69, 3) := by decide +kernel
theorem dX11_codeOf_4 : decode cX11_codeOf 4 = .ok (.ifnonnull 7, 3) := by decide +kernel
theorem dX11_codeOf_7 : decode cX11_codeOf 7 = .ok (.aconst_null, 1) := by decide +kernel
theorem dX11_codeOf_8 : decode cX11_codeOf 8 = .ok (.goto 12, 3) := by decide +kernel
theorem dX11_codeOf_20 : decode cX11_codeOf 20 = .ok (.astore_n 2, 1) := by decide +kernel
theorem dX11_codeOf_21 : decode cX11_codeOf 21 = .ok (.aload_n 2, 1) := by decide +kernel
theorem dX11_codeOf_22 : decode cX11_codeOf 22 = .ok (.ifnonnull 7, 3) := by decide +kernel
theorem dX11_codeOf_25 : decode cX11_codeOf 25 = .ok (.aconst_null, 1) := by decide +kernel
theorem dX11_codeOf_26 : decode cX11_codeOf 26 = .ok (.goto 7, 3) := by decide +kernel
theorem dX11_codeOf_33 : decode cX11_codeOf 33 = .ok (.areturn, 1) := by decide +kernel
set_option maxHeartbeats 4000000 in
set_option maxRecDepth 100000 in
theorem cg_codeOf (l : Launch) (D : va_G) (g : xe_G) (h0 : Nat) (qc : Nat) (n : Int32) (fl : Nat) (wp : Int32) (x0 : Int32) (sz : Nat)  : Met l yX11_codeOf (.code yX11_codeOf cX11_codeOf 3 (some (.object "ClassGate$Code")) :: bg) ({ frames := 1, cells := 0, slots := 0, locals := 120 } : Room) (xb_Pre (xe_E g) D vwCl [(h0, .inr (11, [.ref qc, .int n, .ref fl, .null, .int wp]))] [] sz [.ref h0, .int x0]) (va_Qq (fun r _ => r = none) (xb_B D vwCl (va_A [(h0, .inr (11, [.ref qc, .int n, .ref fl, .null, .int wp]))] sz) (fun u : Unit => [(h0, .inr (11, [.ref qc, .int n, .ref fl, .null, .int wp]))]) (fun u : Unit => [])) (va_A [(h0, .inr (11, [.ref qc, .int n, .ref fl, .null, .int wp]))] sz)) 0 0 (va_A [(h0, .inr (11, [.ref qc, .int n, .ref fl, .null, .int wp]))] sz) := by
  refine Met.ofW (cc := cX11_codeOf) (maxL := 3) (ret := (some (.object "ClassGate$Code"))) (by decide) rfl ?_
  intro p e s m args below meth c s₁ B hml hv
  obtain ⟨rfl, hsz, hP, hK, hD0, hE⟩ := hv
  have hx := B.exec
  have hb := B.bytes
  have hr := B.returns
  have hts := atoms_spec (ws := (.code yX11_codeOf cX11_codeOf 3 (some (.object "ClassGate$Code")) :: bg)) B.pre
  have htb : ∀ w ∈ bg, w.before _ s = true := fun w h => hts w (List.mem_cons_of_mem _ h)
  have hown : s.vm.findClass RX11 = some m.cls := findClass_of_methodNamed B.named
  have hlocks := B.notSynchronized
  subst hsz
  have hD := hD0.self (sz := s.heap.size)
  generalize hAe : va_A [(h0, .inr (11, [.ref qc, .int n, .ref fl, .null, .int wp]))] s.heap.size = A at hD hE ⊢
  have hA : ∀ q : Nat, s.heap.size ≤ q → A q := fun q h => by rw [← hAe]; exact Or.inr h
  have hS : va_S A s.heap s.heap [] := va_S.rf
  have hP : va_P D vwCl [(h0, .inr (11, [.ref qc, .int n, .ref fl, .null, .int wp]))] s.heap := hP
  have hl := lv_entry ([.ref h0, .int x0]) (n := 3) (Nat.le_of_ble_eq_true rfl)
  rw [lg_entry_eq]
  generalize (lg_sl ([.ref h0, .int x0]) ++ List.replicate (3 - (lg_sl ([.ref h0, .int x0])).length) Slot.unset).toArray = ls at hl ⊢
  have hl : lv_has ls 3 [(0, .ref h0), (1, .int x0)] := hl
  refine lv_aload_n hx hb dX11_codeOf_0 rfl (lv_at hl 0 rfl) ?_
  refine va_get (D := D) (ci := 11) (v := .null) (C := RX11) (T := TX11) (N := 5) hx hb htb bi_X11 hown hK hP 0 rfl rfl 3 (by decide) (htb _ bg_48) (fun _ h9 => h9) rfl dX11_codeOf_1 ?_
  refine lv_ifnonnullN hx hb dX11_codeOf_4 ?_
  refine lv_null hx hb dX11_codeOf_7 ?_
  refine lv_goto (tgt := 20) hx hb dX11_codeOf_8 (by decide) ?_
  refine lv_astore_nN (lv' := [(2, .null), (0, .ref h0), (1, .int x0)]) hx hb dX11_codeOf_20 rfl hl (by decide) rfl (fun ls hl => ?_)
  refine lv_aload_nN hx hb dX11_codeOf_21 rfl (lv_at hl 0 rfl) ?_
  refine lv_ifnonnullN hx hb dX11_codeOf_22 ?_
  refine lv_null hx hb dX11_codeOf_25 ?_
  refine lv_goto (tgt := 33) hx hb dX11_codeOf_26 (by decide) ?_
  have hP9 := hP.sub (ws' := [(h0, .inr (11, [.ref qc, .int n, .ref fl, .null, .int wp]))]) [0] rfl
  have hD9 := hD.sub (ws' := [(h0, .inr (11, [.ref qc, .int n, .ref fl, .null, .int wp]))]) [0] rfl rfl
  have hK9 := hK.sub (tys' := []) [] rfl
  exact W.aret (v := .null) hx hb hr (Or.inl ⟨_, rfl⟩) (Or.inl rfl) (fun t ht hW => ⟨⟨none, (), rfl, rfl, by rw [ht]; exact hP9, va_K.moved hW.alike hK9, hD9⟩, hS.F ht⟩) hS.2.2 dX11_codeOf_33
theorem dX11_cut_0 : decode cX11_cut 0 = .ok (.aload_n 0, 1) := by decide +kernel
theorem dX11_cut_1 : decode cX11_cut 1 = .ok (.iload_n 1, 1) := by decide +kernel
theorem dX11_cut_2 : decode cX11_cut 2 = .ok (.invokevirtual 211, 3) := by decide +kernel
theorem dX11_cut_5 : decode cX11_cut 5 = .ok (.astore_n 2, 1) := by decide +kernel
theorem dX11_cut_6 : decode cX11_cut 6 = .ok (.aload_n 2, 1) := by decide +kernel
theorem dX11_cut_7 : decode cX11_cut 7 = .ok (.ifnonnull 7, 3) := by decide +kernel
theorem dX11_cut_10 : decode cX11_cut 10 = .ok (.iconst (-1), 1) := by decide +kernel
theorem dX11_cut_11 : decode cX11_cut 11 = .ok (.goto 7, 3) := by decide +kernel
theorem dX11_cut_18 : decode cX11_cut 18 = .ok (.ireturn, 1) := by decide +kernel
set_option maxHeartbeats 4000000 in
set_option maxRecDepth 100000 in
theorem cg_cut (l : Launch) (D : va_G) (g : xe_G) (h0 : Nat) (qc : Nat) (n : Int32) (fl : Nat) (wp : Int32) (x0 : Int32) (sz : Nat)  : Met l yX11_cut (.code yX11_cut cX11_cut 3 (some .int) :: bg) ({ frames := 2, cells := 0, slots := 0, locals := 240 } : Room) (xb_Pre (xe_E g) D vwCl [(h0, .inr (11, [.ref qc, .int n, .ref fl, .null, .int wp]))] [] sz [.ref h0, .int x0]) (va_Qi (fun r _ => r = -1) (xb_B D vwCl (va_A [(h0, .inr (11, [.ref qc, .int n, .ref fl, .null, .int wp]))] sz) (fun u : Unit => [(h0, .inr (11, [.ref qc, .int n, .ref fl, .null, .int wp]))]) (fun u : Unit => [])) (va_A [(h0, .inr (11, [.ref qc, .int n, .ref fl, .null, .int wp]))] sz)) 0 0 (va_A [(h0, .inr (11, [.ref qc, .int n, .ref fl, .null, .int wp]))] sz) := by
  refine Met.ofW (cc := cX11_cut) (maxL := 3) (ret := (some .int)) (by decide) rfl ?_
  intro p e s m args below meth c s₁ B hml hv
  obtain ⟨rfl, hsz, hP, hK, hD0, hE⟩ := hv
  have hx := B.exec
  have hb := B.bytes
  have hr := B.returns
  have hts := atoms_spec (ws := (.code yX11_cut cX11_cut 3 (some .int) :: bg)) B.pre
  have htb : ∀ w ∈ bg, w.before _ s = true := fun w h => hts w (List.mem_cons_of_mem _ h)
  have hown : s.vm.findClass RX11 = some m.cls := findClass_of_methodNamed B.named
  have hlocks := B.notSynchronized
  subst hsz
  have hD := hD0.self (sz := s.heap.size)
  generalize hAe : va_A [(h0, .inr (11, [.ref qc, .int n, .ref fl, .null, .int wp]))] s.heap.size = A at hD hE ⊢
  have hA : ∀ q : Nat, s.heap.size ≤ q → A q := fun q h => by rw [← hAe]; exact Or.inr h
  have hS : va_S A s.heap s.heap [] := va_S.rf
  have hP : va_P D vwCl [(h0, .inr (11, [.ref qc, .int n, .ref fl, .null, .int wp]))] s.heap := hP
  have hl := lv_entry ([.ref h0, .int x0]) (n := 3) (Nat.le_of_ble_eq_true rfl)
  rw [lg_entry_eq]
  generalize (lg_sl ([.ref h0, .int x0]) ++ List.replicate (3 - (lg_sl ([.ref h0, .int x0])).length) Slot.unset).toArray = ls at hl ⊢
  have hl : lv_has ls 3 [(0, .ref h0), (1, .int x0)] := hl
  refine lv_aload_n hx hb dX11_cut_0 rfl (lv_at hl 0 rfl) ?_
  refine lv_iload_n hx hb dX11_cut_1 rfl (lv_at hl 1 rfl) ?_
  refine xb_goq (wr := []) (va_runV (As := [.int x0]) (rest := []) ⟨hx, hb, hml, hown, htb⟩ (cg_codeOf l D g h0 qc n fl wp x0 (Array.size s.heap) ) (bg_V 1 htb bg_76 bg_78 bg_79 bg_18 bg_77 rfl rfl (by decide +kernel) ⟨Nat.le_of_ble_eq_true rfl, Nat.le_of_ble_eq_true rfl⟩) ⟨xb_blind xe_ok, va_recv hK hP (ci := 11) (q0 := 0) rfl rfl, xb_enter xe_ok hK hP hD hS hA hE [0] rfl rfl rfl [] rfl⟩ rfl rfl hl.1 rfl (lv_room (Nat.le_of_ble_eq_true rfl)) dX11_cut_2 ⟨Nat.le_of_ble_eq_true rfl, Nat.le_of_ble_eq_true rfl⟩) hK hP hD hS hA [0] [] rfl rfl rfl (by decide) (fun r_2 u_2 H locs hw_2 hP hD hK hS => ?_)
  have hP : va_P D vwCl [(h0, .inr (11, [.ref qc, .int n, .ref fl, .null, .int wp]))] H := hP
  have hD : va_D A [(h0, .inr (11, [.ref qc, .int n, .ref fl, .null, .int wp]))] := hD
  have hK : va_K D vwCl [] s := hK
  refine W.widen (k := 0) (n := 0) (by decide) (by decide) ?_
  have hw_2 : r_2 = none := hw_2
  subst hw_2
  refine lv_astore_nN (lv' := [(2, .null), (0, .ref h0), (1, .int x0)]) hx hb dX11_cut_5 rfl hl (by decide) rfl (fun ls hl => ?_)
  refine lv_aload_nN hx hb dX11_cut_6 rfl (lv_at hl 0 rfl) ?_
  refine lv_ifnonnullN hx hb dX11_cut_7 ?_
  refine lv_iconst (v := (-1)) hx hb dX11_cut_10 (by decide) ?_
  refine lv_goto (tgt := 18) hx hb dX11_cut_11 (by decide) ?_
  have hP9 := hP.sub (ws' := [(h0, .inr (11, [.ref qc, .int n, .ref fl, .null, .int wp]))]) [0] rfl
  have hD9 := hD.sub (ws' := [(h0, .inr (11, [.ref qc, .int n, .ref fl, .null, .int wp]))]) [0] rfl rfl
  have hK9 := hK.sub (tys' := []) [] rfl
  exact W.iret (v := (-1)) hx hb hr (fun t ht hW => ⟨⟨(-1), (), rfl, rfl, by rw [ht]; exact hP9, va_K.moved hW.alike hK9, hD9⟩, hS.F ht⟩) hS.2.2 dX11_cut_18
theorem dX11_jump_0 : decode cX11_jump 0 = .ok (.aload_n 0, 1) := by decide +kernel
theorem dX11_jump_1 : decode cX11_jump 1 = .ok (.iload_n 1, 1) := by decide +kernel
theorem dX11_jump_2 : decode cX11_jump 2 = .ok (.invokevirtual 211, 3) := by decide +kernel
theorem dX11_jump_5 : decode cX11_jump 5 = .ok (.astore 5, 2) := by decide +kernel
theorem dX11_jump_7 : decode cX11_jump 7 = .ok (.aload 5, 2) := by decide +kernel
theorem dX11_jump_9 : decode cX11_jump 9 = .ok (.ifnull 16, 3) := by decide +kernel
theorem dX11_jump_25 : decode cX11_jump 25 = .ok (.iconst (-1), 1) := by decide +kernel
theorem dX11_jump_26 : decode cX11_jump 26 = .ok (.goto 12, 3) := by decide +kernel
theorem dX11_jump_38 : decode cX11_jump 38 = .ok (.ireturn, 1) := by decide +kernel
set_option maxHeartbeats 4000000 in
set_option maxRecDepth 100000 in
theorem cg_jump (l : Launch) (D : va_G) (g : xe_G) (h0 : Nat) (qc : Nat) (n : Int32) (fl : Nat) (wp : Int32) (x0 : Int32) (x1 : Int32) (x2 : Int32) (x3 : Int32) (sz : Nat)  : Met l yX11_jump (.code yX11_jump cX11_jump 6 (some .int) :: bg) ({ frames := 2, cells := 0, slots := 0, locals := 240 } : Room) (xb_Pre (xe_E g) D vwCl [(h0, .inr (11, [.ref qc, .int n, .ref fl, .null, .int wp]))] [] sz [.ref h0, .int x0, .int x1, .int x2, .int x3]) (va_Qi (fun r _ => r = -1) (xb_B D vwCl (va_A [(h0, .inr (11, [.ref qc, .int n, .ref fl, .null, .int wp]))] sz) (fun u : Unit => [(h0, .inr (11, [.ref qc, .int n, .ref fl, .null, .int wp]))]) (fun u : Unit => [])) (va_A [(h0, .inr (11, [.ref qc, .int n, .ref fl, .null, .int wp]))] sz)) 0 0 (va_A [(h0, .inr (11, [.ref qc, .int n, .ref fl, .null, .int wp]))] sz) := by
  refine Met.ofW (cc := cX11_jump) (maxL := 6) (ret := (some .int)) (by decide) rfl ?_
  intro p e s m args below meth c s₁ B hml hv
  obtain ⟨rfl, hsz, hP, hK, hD0, hE⟩ := hv
  have hx := B.exec
  have hb := B.bytes
  have hr := B.returns
  have hts := atoms_spec (ws := (.code yX11_jump cX11_jump 6 (some .int) :: bg)) B.pre
  have htb : ∀ w ∈ bg, w.before _ s = true := fun w h => hts w (List.mem_cons_of_mem _ h)
  have hown : s.vm.findClass RX11 = some m.cls := findClass_of_methodNamed B.named
  have hlocks := B.notSynchronized
  subst hsz
  have hD := hD0.self (sz := s.heap.size)
  generalize hAe : va_A [(h0, .inr (11, [.ref qc, .int n, .ref fl, .null, .int wp]))] s.heap.size = A at hD hE ⊢
  have hA : ∀ q : Nat, s.heap.size ≤ q → A q := fun q h => by rw [← hAe]; exact Or.inr h
  have hS : va_S A s.heap s.heap [] := va_S.rf
  have hP : va_P D vwCl [(h0, .inr (11, [.ref qc, .int n, .ref fl, .null, .int wp]))] s.heap := hP
  have hl := lv_entry ([.ref h0, .int x0, .int x1, .int x2, .int x3]) (n := 6) (Nat.le_of_ble_eq_true rfl)
  rw [lg_entry_eq]
  generalize (lg_sl ([.ref h0, .int x0, .int x1, .int x2, .int x3]) ++ List.replicate (6 - (lg_sl ([.ref h0, .int x0, .int x1, .int x2, .int x3])).length) Slot.unset).toArray = ls at hl ⊢
  have hl : lv_has ls 6 [(0, .ref h0), (1, .int x0), (2, .int x1), (3, .int x2), (4, .int x3)] := hl
  refine lv_aload_n hx hb dX11_jump_0 rfl (lv_at hl 0 rfl) ?_
  refine lv_iload_n hx hb dX11_jump_1 rfl (lv_at hl 1 rfl) ?_
  refine xb_goq (wr := []) (va_runV (As := [.int x0]) (rest := []) ⟨hx, hb, hml, hown, htb⟩ (cg_codeOf l D g h0 qc n fl wp x0 (Array.size s.heap) ) (bg_V 1 htb bg_76 bg_78 bg_79 bg_18 bg_77 rfl rfl (by decide +kernel) ⟨Nat.le_of_ble_eq_true rfl, Nat.le_of_ble_eq_true rfl⟩) ⟨xb_blind xe_ok, va_recv hK hP (ci := 11) (q0 := 0) rfl rfl, xb_enter xe_ok hK hP hD hS hA hE [0] rfl rfl rfl [] rfl⟩ rfl rfl hl.1 rfl (lv_room (Nat.le_of_ble_eq_true rfl)) dX11_jump_2 ⟨Nat.le_of_ble_eq_true rfl, Nat.le_of_ble_eq_true rfl⟩) hK hP hD hS hA [0] [] rfl rfl rfl (by decide) (fun r_2 u_2 H locs hw_2 hP hD hK hS => ?_)
  have hP : va_P D vwCl [(h0, .inr (11, [.ref qc, .int n, .ref fl, .null, .int wp]))] H := hP
  have hD : va_D A [(h0, .inr (11, [.ref qc, .int n, .ref fl, .null, .int wp]))] := hD
  have hK : va_K D vwCl [] s := hK
  refine W.widen (k := 0) (n := 0) (by decide) (by decide) ?_
  have hw_2 : r_2 = none := hw_2
  subst hw_2
  refine lv_astoreN (lv' := [(5, .null), (0, .ref h0), (1, .int x0), (2, .int x1), (3, .int x2), (4, .int x3)]) hx hb dX11_jump_5 hl (by decide) rfl (fun ls hl => ?_)
  refine lv_aloadN hx hb dX11_jump_7 (lv_at hl 0 rfl) ?_
  refine lv_ifnullN (tgt := 25) hx hb dX11_jump_9 (by decide) ?_
  refine lv_iconst (v := (-1)) hx hb dX11_jump_25 (by decide) ?_
  refine lv_goto (tgt := 38) hx hb dX11_jump_26 (by decide) ?_
  have hP9 := hP.sub (ws' := [(h0, .inr (11, [.ref qc, .int n, .ref fl, .null, .int wp]))]) [0] rfl
  have hD9 := hD.sub (ws' := [(h0, .inr (11, [.ref qc, .int n, .ref fl, .null, .int wp]))]) [0] rfl rfl
  have hK9 := hK.sub (tys' := []) [] rfl
  exact W.iret (v := (-1)) hx hb hr (fun t ht hW => ⟨⟨(-1), (), rfl, rfl, by rw [ht]; exact hP9, va_K.moved hW.alike hK9, hD9⟩, hS.F ht⟩) hS.2.2 dX11_jump_38
end
section
theorem dX11_takeWord_0 : decode cX11_takeWord 0 = .ok (.aload_n 0, 1) := by decide +kernel
theorem dX11_takeWord_1 : decode cX11_takeWord 1 = .ok (.getfield 9, 3) := by decide +kernel
theorem dX11_takeWord_4 : decode cX11_takeWord 4 = .ok (.arraylength, 1) := by decide +kernel
theorem dX11_takeWord_5 : decode cX11_takeWord 5 = .ok (.aload_n 0, 1) := by decide +kernel
theorem dX11_takeWord_6 : decode cX11_takeWord 6 = .ok (.getfield 23, 3) := by decide +kernel
theorem dX11_takeWord_9 : decode cX11_takeWord 9 = .ok (.isub, 1) := by decide +kernel
theorem dX11_takeWord_10 : decode cX11_takeWord 10 = .ok (.iconst 4, 1) := by decide +kernel
theorem dX11_takeWord_11 : decode cX11_takeWord 11 = .ok (.if_icmp .ge 21, 3) := by decide +kernel
theorem dX11_takeWord_32 : decode cX11_takeWord 32 = .ok (.aload_n 0, 1) := by decide +kernel
theorem dX11_takeWord_33 : decode cX11_takeWord 33 = .ok (.getfield 9, 3) := by decide +kernel
theorem dX11_takeWord_36 : decode cX11_takeWord 36 = .ok (.aload_n 0, 1) := by decide +kernel
theorem dX11_takeWord_37 : decode cX11_takeWord 37 = .ok (.getfield 23, 3) := by decide +kernel
theorem dX11_takeWord_40 : decode cX11_takeWord 40 = .ok (.iload_n 1, 1) := by decide +kernel
theorem dX11_takeWord_41 : decode cX11_takeWord 41 = .ok (.bipush 24, 2) := by decide +kernel
theorem dX11_takeWord_43 : decode cX11_takeWord 43 = .ok (.iushr, 1) := by decide +kernel
theorem dX11_takeWord_44 : decode cX11_takeWord 44 = .ok (.i2b, 1) := by decide +kernel
theorem dX11_takeWord_45 : decode cX11_takeWord 45 = .ok (.bastore, 1) := by decide +kernel
theorem dX11_takeWord_46 : decode cX11_takeWord 46 = .ok (.aload_n 0, 1) := by decide +kernel
theorem dX11_takeWord_47 : decode cX11_takeWord 47 = .ok (.getfield 9, 3) := by decide +kernel
theorem dX11_takeWord_50 : decode cX11_takeWord 50 = .ok (.aload_n 0, 1) := by decide +kernel
theorem dX11_takeWord_51 : decode cX11_takeWord 51 = .ok (.getfield 23, 3) := by decide +kernel
theorem dX11_takeWord_54 : decode cX11_takeWord 54 = .ok (.iconst 1, 1) := by decide +kernel
theorem dX11_takeWord_55 : decode cX11_takeWord 55 = .ok (.iadd, 1) := by decide +kernel
theorem dX11_takeWord_56 : decode cX11_takeWord 56 = .ok (.iload_n 1, 1) := by decide +kernel
theorem dX11_takeWord_57 : decode cX11_takeWord 57 = .ok (.bipush 16, 2) := by decide +kernel
theorem dX11_takeWord_59 : decode cX11_takeWord 59 = .ok (.iushr, 1) := by decide +kernel
theorem dX11_takeWord_60 : decode cX11_takeWord 60 = .ok (.i2b, 1) := by decide +kernel
theorem dX11_takeWord_61 : decode cX11_takeWord 61 = .ok (.bastore, 1) := by decide +kernel
theorem dX11_takeWord_62 : decode cX11_takeWord 62 = .ok (.aload_n 0, 1) := by decide +kernel
theorem dX11_takeWord_63 : decode cX11_takeWord 63 = .ok (.getfield 9, 3) := by decide +kernel
theorem dX11_takeWord_66 : decode cX11_takeWord 66 = .ok (.aload_n 0, 1) := by decide +kernel
theorem dX11_takeWord_67 : decode cX11_takeWord 67 = .ok (.getfield 23, 3) := by decide +kernel
theorem dX11_takeWord_70 : decode cX11_takeWord 70 = .ok (.iconst 2, 1) := by decide +kernel
theorem dX11_takeWord_71 : decode cX11_takeWord 71 = .ok (.iadd, 1) := by decide +kernel
theorem dX11_takeWord_72 : decode cX11_takeWord 72 = .ok (.iload_n 1, 1) := by decide +kernel
theorem dX11_takeWord_73 : decode cX11_takeWord 73 = .ok (.bipush 8, 2) := by decide +kernel
theorem dX11_takeWord_75 : decode cX11_takeWord 75 = .ok (.iushr, 1) := by decide +kernel
theorem dX11_takeWord_76 : decode cX11_takeWord 76 = .ok (.i2b, 1) := by decide +kernel
theorem dX11_takeWord_77 : decode cX11_takeWord 77 = .ok (.bastore, 1) := by decide +kernel
theorem dX11_takeWord_78 : decode cX11_takeWord 78 = .ok (.aload_n 0, 1) := by decide +kernel
theorem dX11_takeWord_79 : decode cX11_takeWord 79 = .ok (.getfield 9, 3) := by decide +kernel
theorem dX11_takeWord_82 : decode cX11_takeWord 82 = .ok (.aload_n 0, 1) := by decide +kernel
theorem dX11_takeWord_83 : decode cX11_takeWord 83 = .ok (.getfield 23, 3) := by decide +kernel
theorem dX11_takeWord_86 : decode cX11_takeWord 86 = .ok (.iconst 3, 1) := by decide +kernel
theorem dX11_takeWord_87 : decode cX11_takeWord 87 = .ok (.iadd, 1) := by decide +kernel
theorem dX11_takeWord_88 : decode cX11_takeWord 88 = .ok (.iload_n 1, 1) := by decide +kernel
theorem dX11_takeWord_89 : decode cX11_takeWord 89 = .ok (.i2b, 1) := by decide +kernel
theorem dX11_takeWord_90 : decode cX11_takeWord 90 = .ok (.bastore, 1) := by decide +kernel
theorem dX11_takeWord_91 : decode cX11_takeWord 91 = .ok (.aload_n 0, 1) := by decide +kernel
theorem dX11_takeWord_92 : decode cX11_takeWord 92 = .ok (.dup, 1) := by decide +kernel
theorem dX11_takeWord_93 : decode cX11_takeWord 93 = .ok (.getfield 23, 3) := by decide +kernel
theorem dX11_takeWord_96 : decode cX11_takeWord 96 = .ok (.iconst 4, 1) := by decide +kernel
theorem dX11_takeWord_97 : decode cX11_takeWord 97 = .ok (.iadd, 1) := by decide +kernel
theorem dX11_takeWord_98 : decode cX11_takeWord 98 = .ok (.putfield 23, 3) := by decide +kernel
theorem dX11_takeWord_101 : decode cX11_takeWord 101 = .ok (.return_, 1) := by decide +kernel
set_option maxHeartbeats 4000000 in
set_option maxRecDepth 100000 in
theorem cg_take (l : Launch) (D : va_G) (g : xe_G) (h0 : Nat) (qc : Nat) (n : Int32) (fl : Nat) (wp : Int32) (cB : ClassId) (f : Nat → Int32) (w : Int32) (sz : Nat) (hn : 4 ≤ 1024 - n) (i0 : vp_in n 1024) (i1 : vp_in (n + 1) 1024) (i2 : vp_in (n + 2) 1024) (i3 : vp_in (n + 3) 1024) : Met l yX11_takeWord (.code yX11_takeWord cX11_takeWord 2 none :: bg) ({ frames := 1, cells := 0, slots := 0, locals := 120 } : Room) (xb_Pre (xe_E g) D vwCl [(h0, .inr (11, [.ref qc, .int n, .ref fl, .null, .int wp])), (qc, .inl (cB, 1024, .inl f))] [(cB, .byte)] sz [.ref h0, .int w]) (va_Qv (fun _ => True) (xb_B D vwCl (va_A [(h0, .inr (11, [.ref qc, .int n, .ref fl, .null, .int wp])), (qc, .inl (cB, 1024, .inl f))] sz) (fun u : (Nat → Int32) => [(h0, .inr (11, [.ref qc, .int (n + 4), .ref fl, .null, .int wp])), (qc, .inl (cB, 1024, .inl u))]) (fun u : (Nat → Int32) => [(cB, .byte)])) (va_A [(h0, .inr (11, [.ref qc, .int n, .ref fl, .null, .int wp])), (qc, .inl (cB, 1024, .inl f))] sz)) 0 0 (va_A [(h0, .inr (11, [.ref qc, .int n, .ref fl, .null, .int wp])), (qc, .inl (cB, 1024, .inl f))] sz) := by
  refine Met.ofW (cc := cX11_takeWord) (maxL := 2) (ret := none) (by decide) rfl ?_
  intro p e s m args below meth c s₁ B hml hv
  obtain ⟨rfl, hsz, hP, hK, hD0, hE⟩ := hv
  have hx := B.exec
  have hb := B.bytes
  have hr := B.returns
  have hts := atoms_spec (ws := (.code yX11_takeWord cX11_takeWord 2 none :: bg)) B.pre
  have htb : ∀ w ∈ bg, w.before _ s = true := fun w h => hts w (List.mem_cons_of_mem _ h)
  have hown : s.vm.findClass RX11 = some m.cls := findClass_of_methodNamed B.named
  have hlocks := B.notSynchronized
  subst hsz
  have hD := hD0.self (sz := s.heap.size)
  generalize hAe : va_A [(h0, .inr (11, [.ref qc, .int n, .ref fl, .null, .int wp])), (qc, .inl (cB, 1024, .inl f))] s.heap.size = A at hD hE ⊢
  have hA : ∀ q : Nat, s.heap.size ≤ q → A q := fun q h => by rw [← hAe]; exact Or.inr h
  have hS : va_S A s.heap s.heap [] := va_S.rf
  have hP : va_P D vwCl [(h0, .inr (11, [.ref qc, .int n, .ref fl, .null, .int wp])), (qc, .inl (cB, 1024, .inl f))] s.heap := hP
  have hl := lv_entry ([.ref h0, .int w]) (n := 2) (Nat.le_of_ble_eq_true rfl)
  rw [lg_entry_eq]
  generalize (lg_sl ([.ref h0, .int w]) ++ List.replicate (2 - (lg_sl ([.ref h0, .int w])).length) Slot.unset).toArray = ls at hl ⊢
  have hl : lv_has ls 2 [(0, .ref h0), (1, .int w)] := hl
  refine lv_aload_n hx hb dX11_takeWord_0 rfl (lv_at hl 0 rfl) ?_
  refine va_get (D := D) (ci := 11) (v := .ref qc) (C := RX11) (T := TX11) (N := 5) hx hb htb bi_X11 hown hK hP 0 rfl rfl 0 (by decide) (htb _ bg_5) (fun _ h9 => h9) rfl dX11_takeWord_1 ?_
  refine va_alen (v := 1024) hx hb hK hP 1 0 rfl rfl rfl dX11_takeWord_4 ?_
  refine lv_aload_n hx hb dX11_takeWord_5 rfl (lv_at hl 0 rfl) ?_
  refine va_get (D := D) (ci := 11) (v := .int n) (C := RX11) (T := TX11) (N := 5) hx hb htb bi_X11 hown hK hP 0 rfl rfl 1 (by decide) (htb _ bg_10) (fun _ h9 => h9) rfl dX11_takeWord_6 ?_
  refine lv_isub hx hb dX11_takeWord_9 ?_
  refine lv_iconst (v := 4) hx hb dX11_takeWord_10 (by decide) ?_
  refine lv_icmp_ge (tgt := 32) hx hb dX11_takeWord_11 (by decide) (fun c_11 => ?_) (fun c_11 => ?_)
  rotate_left
  · exact absurd (hn) c_11
  refine lv_aload_n hx hb dX11_takeWord_32 rfl (lv_at hl 0 rfl) ?_
  refine va_get (D := D) (ci := 11) (v := .ref qc) (C := RX11) (T := TX11) (N := 5) hx hb htb bi_X11 hown hK hP 0 rfl rfl 0 (by decide) (htb _ bg_5) (fun _ h9 => h9) rfl dX11_takeWord_33 ?_
  refine lv_aload_n hx hb dX11_takeWord_36 rfl (lv_at hl 0 rfl) ?_
  refine va_get (D := D) (ci := 11) (v := .int n) (C := RX11) (T := TX11) (N := 5) hx hb htb bi_X11 hown hK hP 0 rfl rfl 1 (by decide) (htb _ bg_10) (fun _ h9 => h9) rfl dX11_takeWord_37 ?_
  refine lv_iload_n hx hb dX11_takeWord_40 rfl (lv_at hl 1 rfl) ?_
  refine lv_bipush (v := 24) hx hb dX11_takeWord_41 (by decide) ?_
  refine lv_iushr hx hb dX11_takeWord_43 rfl ?_
  refine lv_topi (fun x43_u ex43_u => ?_)
  refine lv_i2b hx hb dX11_takeWord_44 rfl ?_
  refine lv_topi (fun x44_c ex44_c => ?_)
  refine va_bast hx hb hK hP hD hS 1 0 rfl rfl (i0) dX11_takeWord_45 (fun H locs hP hD hS => ?_)
  have hP : va_P D vwCl [(h0, .inr (11, [.ref qc, .int n, .ref fl, .null, .int wp])), (qc, .inl (cB, 1024, .inl (upd f (Int32.toNatClampNeg n) (vp_nar .byte x44_c))))] H := hP
  have hD : va_D A [(h0, .inr (11, [.ref qc, .int n, .ref fl, .null, .int wp])), (qc, .inl (cB, 1024, .inl (upd f (Int32.toNatClampNeg n) (vp_nar .byte x44_c))))] := hD
  generalize (upd f (Int32.toNatClampNeg n) (vp_nar .byte x44_c)) = f45 at hP hD
  refine lv_aload_n hx hb dX11_takeWord_46 rfl (lv_at hl 0 rfl) ?_
  refine va_get (D := D) (ci := 11) (v := .ref qc) (C := RX11) (T := TX11) (N := 5) hx hb htb bi_X11 hown hK hP 0 rfl rfl 0 (by decide) (htb _ bg_5) (fun _ h9 => h9) rfl dX11_takeWord_47 ?_
  refine lv_aload_n hx hb dX11_takeWord_50 rfl (lv_at hl 0 rfl) ?_
  refine va_get (D := D) (ci := 11) (v := .int n) (C := RX11) (T := TX11) (N := 5) hx hb htb bi_X11 hown hK hP 0 rfl rfl 1 (by decide) (htb _ bg_10) (fun _ h9 => h9) rfl dX11_takeWord_51 ?_
  refine lv_iconst (v := 1) hx hb dX11_takeWord_54 (by decide) ?_
  refine lv_iadd hx hb dX11_takeWord_55 ?_
  refine lv_iload_n hx hb dX11_takeWord_56 rfl (lv_at hl 1 rfl) ?_
  refine lv_bipush (v := 16) hx hb dX11_takeWord_57 (by decide) ?_
  refine lv_iushr hx hb dX11_takeWord_59 rfl ?_
  refine lv_topi (fun x59_u ex59_u => ?_)
  refine lv_i2b hx hb dX11_takeWord_60 rfl ?_
  refine lv_topi (fun x60_c ex60_c => ?_)
  refine va_bast hx hb hK hP hD hS 1 0 rfl rfl (i1) dX11_takeWord_61 (fun H locs hP hD hS => ?_)
  have hP : va_P D vwCl [(h0, .inr (11, [.ref qc, .int n, .ref fl, .null, .int wp])), (qc, .inl (cB, 1024, .inl (upd f45 (Int32.toNatClampNeg (n + 1)) (vp_nar .byte x60_c))))] H := hP
  have hD : va_D A [(h0, .inr (11, [.ref qc, .int n, .ref fl, .null, .int wp])), (qc, .inl (cB, 1024, .inl (upd f45 (Int32.toNatClampNeg (n + 1)) (vp_nar .byte x60_c))))] := hD
  generalize (upd f45 (Int32.toNatClampNeg (n + 1)) (vp_nar .byte x60_c)) = f61 at hP hD
  refine lv_aload_n hx hb dX11_takeWord_62 rfl (lv_at hl 0 rfl) ?_
  refine va_get (D := D) (ci := 11) (v := .ref qc) (C := RX11) (T := TX11) (N := 5) hx hb htb bi_X11 hown hK hP 0 rfl rfl 0 (by decide) (htb _ bg_5) (fun _ h9 => h9) rfl dX11_takeWord_63 ?_
  refine lv_aload_n hx hb dX11_takeWord_66 rfl (lv_at hl 0 rfl) ?_
  refine va_get (D := D) (ci := 11) (v := .int n) (C := RX11) (T := TX11) (N := 5) hx hb htb bi_X11 hown hK hP 0 rfl rfl 1 (by decide) (htb _ bg_10) (fun _ h9 => h9) rfl dX11_takeWord_67 ?_
  refine lv_iconst (v := 2) hx hb dX11_takeWord_70 (by decide) ?_
  refine lv_iadd hx hb dX11_takeWord_71 ?_
  refine lv_iload_n hx hb dX11_takeWord_72 rfl (lv_at hl 1 rfl) ?_
  refine lv_bipush (v := 8) hx hb dX11_takeWord_73 (by decide) ?_
  refine lv_iushr hx hb dX11_takeWord_75 rfl ?_
  refine lv_topi (fun x75_u ex75_u => ?_)
  refine lv_i2b hx hb dX11_takeWord_76 rfl ?_
  refine lv_topi (fun x76_c ex76_c => ?_)
  refine va_bast hx hb hK hP hD hS 1 0 rfl rfl (i2) dX11_takeWord_77 (fun H locs hP hD hS => ?_)
  have hP : va_P D vwCl [(h0, .inr (11, [.ref qc, .int n, .ref fl, .null, .int wp])), (qc, .inl (cB, 1024, .inl (upd f61 (Int32.toNatClampNeg (n + 2)) (vp_nar .byte x76_c))))] H := hP
  have hD : va_D A [(h0, .inr (11, [.ref qc, .int n, .ref fl, .null, .int wp])), (qc, .inl (cB, 1024, .inl (upd f61 (Int32.toNatClampNeg (n + 2)) (vp_nar .byte x76_c))))] := hD
  generalize (upd f61 (Int32.toNatClampNeg (n + 2)) (vp_nar .byte x76_c)) = f77 at hP hD
  refine lv_aload_n hx hb dX11_takeWord_78 rfl (lv_at hl 0 rfl) ?_
  refine va_get (D := D) (ci := 11) (v := .ref qc) (C := RX11) (T := TX11) (N := 5) hx hb htb bi_X11 hown hK hP 0 rfl rfl 0 (by decide) (htb _ bg_5) (fun _ h9 => h9) rfl dX11_takeWord_79 ?_
  refine lv_aload_n hx hb dX11_takeWord_82 rfl (lv_at hl 0 rfl) ?_
  refine va_get (D := D) (ci := 11) (v := .int n) (C := RX11) (T := TX11) (N := 5) hx hb htb bi_X11 hown hK hP 0 rfl rfl 1 (by decide) (htb _ bg_10) (fun _ h9 => h9) rfl dX11_takeWord_83 ?_
  refine lv_iconst (v := 3) hx hb dX11_takeWord_86 (by decide) ?_
  refine lv_iadd hx hb dX11_takeWord_87 ?_
  refine lv_iload_n hx hb dX11_takeWord_88 rfl (lv_at hl 1 rfl) ?_
  refine lv_i2b hx hb dX11_takeWord_89 rfl ?_
  refine lv_topi (fun x89_c ex89_c => ?_)
  refine va_bast hx hb hK hP hD hS 1 0 rfl rfl (i3) dX11_takeWord_90 (fun H locs hP hD hS => ?_)
  have hP : va_P D vwCl [(h0, .inr (11, [.ref qc, .int n, .ref fl, .null, .int wp])), (qc, .inl (cB, 1024, .inl (upd f77 (Int32.toNatClampNeg (n + 3)) (vp_nar .byte x89_c))))] H := hP
  have hD : va_D A [(h0, .inr (11, [.ref qc, .int n, .ref fl, .null, .int wp])), (qc, .inl (cB, 1024, .inl (upd f77 (Int32.toNatClampNeg (n + 3)) (vp_nar .byte x89_c))))] := hD
  generalize (upd f77 (Int32.toNatClampNeg (n + 3)) (vp_nar .byte x89_c)) = f90 at hP hD
  refine lv_aload_n hx hb dX11_takeWord_91 rfl (lv_at hl 0 rfl) ?_
  refine lv_dup hx hb dX11_takeWord_92 rfl ?_
  refine va_get (D := D) (ci := 11) (v := .int n) (C := RX11) (T := TX11) (N := 5) hx hb htb bi_X11 hown hK hP 0 rfl rfl 1 (by decide) (htb _ bg_10) (fun _ h9 => h9) rfl dX11_takeWord_93 ?_
  refine lv_iconst (v := 4) hx hb dX11_takeWord_96 (by decide) ?_
  refine lv_iadd hx hb dX11_takeWord_97 ?_
  refine va_put (D := D) (ci := 11) (v := .int (n + 4)) (ty := tyX11 1) (C := RX11) (T := TX11) (N := 5) hx hb htb bi_X11 tyX11 tyX11_ok nmX11 hown hK hP hD hS 0 rfl rfl 1 (by decide) (htb _ bg_10) (fun _ h9 => h9) rfl (tyX11_ok 1 (by decide)) rfl rfl (Nat.le_of_ble_eq_true rfl) dX11_takeWord_98 (fun H locs hP hD hS => ?_)
  have hP : va_P D vwCl [(h0, .inr (11, [.ref qc, .int (n + 4), .ref fl, .null, .int wp])), (qc, .inl (cB, 1024, .inl f90))] H := hP
  have hD : va_D A [(h0, .inr (11, [.ref qc, .int (n + 4), .ref fl, .null, .int wp])), (qc, .inl (cB, 1024, .inl f90))] := hD
  have hP9 := hP.sub (ws' := [(h0, .inr (11, [.ref qc, .int (n + 4), .ref fl, .null, .int wp])), (qc, .inl (cB, 1024, .inl f90))]) [0, 1] rfl
  have hD9 := hD.sub (ws' := [(h0, .inr (11, [.ref qc, .int (n + 4), .ref fl, .null, .int wp])), (qc, .inl (cB, 1024, .inl f90))]) [0, 1] rfl rfl
  have hK9 := hK.sub (tys' := [(cB, .byte)]) [0] rfl
  exact W.vret hx hb hr (fun t ht hW => ⟨⟨f90, rfl, trivial, by rw [ht]; exact hP9, va_K.moved hW.alike hK9, hD9⟩, hS.F ht⟩) hS.2.2 dX11_takeWord_101
theorem dX11_feed_0 : decode cX11_feed 0 = .ok (.aload_n 0, 1) := by decide +kernel
theorem dX11_feed_1 : decode cX11_feed 1 = .ok (.getfield 23, 3) := by decide +kernel
theorem dX11_feed_4 : decode cX11_feed 4 = .ok (.ldc 26, 2) := by decide +kernel
theorem dX11_feed_6 : decode cX11_feed 6 = .ok (.if_icmp .le 13, 3) := by decide +kernel
theorem dX11_feed_19 : decode cX11_feed 19 = .ok (.aload_n 0, 1) := by decide +kernel
theorem dX11_feed_20 : decode cX11_feed 20 = .ok (.iload_n 1, 1) := by decide +kernel
theorem dX11_feed_21 : decode cX11_feed 21 = .ok (.invokevirtual 34, 3) := by decide +kernel
theorem dX11_feed_24 : decode cX11_feed 24 = .ok (.aload_n 0, 1) := by decide +kernel
theorem dX11_feed_25 : decode cX11_feed 25 = .ok (.iload_n 2, 1) := by decide +kernel
theorem dX11_feed_26 : decode cX11_feed 26 = .ok (.invokevirtual 34, 3) := by decide +kernel
theorem dX11_feed_29 : decode cX11_feed 29 = .ok (.aload_n 0, 1) := by decide +kernel
theorem dX11_feed_30 : decode cX11_feed 30 = .ok (.iload_n 3, 1) := by decide +kernel
theorem dX11_feed_31 : decode cX11_feed 31 = .ok (.invokevirtual 34, 3) := by decide +kernel
theorem dX11_feed_34 : decode cX11_feed 34 = .ok (.aload_n 0, 1) := by decide +kernel
theorem dX11_feed_35 : decode cX11_feed 35 = .ok (.iload 4, 2) := by decide +kernel
theorem dX11_feed_37 : decode cX11_feed 37 = .ok (.invokevirtual 34, 3) := by decide +kernel
theorem dX11_feed_40 : decode cX11_feed 40 = .ok (.aload_n 0, 1) := by decide +kernel
theorem dX11_feed_41 : decode cX11_feed 41 = .ok (.iload 5, 2) := by decide +kernel
theorem dX11_feed_43 : decode cX11_feed 43 = .ok (.invokevirtual 34, 3) := by decide +kernel
theorem dX11_feed_46 : decode cX11_feed 46 = .ok (.aload_n 0, 1) := by decide +kernel
theorem dX11_feed_47 : decode cX11_feed 47 = .ok (.getfield 23, 3) := by decide +kernel
theorem dX11_feed_50 : decode cX11_feed 50 = .ok (.ireturn, 1) := by decide +kernel
set_option maxHeartbeats 4000000 in
set_option maxRecDepth 100000 in
theorem cg_feed (l : Launch) (D : va_G) (g : xe_G) (h0 : Nat) (qc : Nat) (fl : Nat) (wp : Int32) (cB : ClassId) (f : Nat → Int32) (x0 : Int32) (x1 : Int32) (x2 : Int32) (x3 : Int32) (x4 : Int32) (sz : Nat)  : Met l yX11_feed (.code yX11_feed cX11_feed 6 (some .int) :: bg) ({ frames := 2, cells := 0, slots := 0, locals := 240 } : Room) (xb_Pre (xe_E g) D vwCl [(h0, .inr (11, [.ref qc, .int 0, .ref fl, .null, .int wp])), (qc, .inl (cB, 1024, .inl f))] [(cB, .byte)] sz [.ref h0, .int x0, .int x1, .int x2, .int x3, .int x4]) (va_Qi (fun r _ => r = 20) (xb_B D vwCl (va_A [(h0, .inr (11, [.ref qc, .int 0, .ref fl, .null, .int wp])), (qc, .inl (cB, 1024, .inl f))] sz) (fun u : Int32 × (Nat → Int32) => [(h0, .inr (11, [.ref qc, .int u.1, .ref fl, .null, .int wp])), (qc, .inl (cB, 1024, .inl u.2))]) (fun u : Int32 × (Nat → Int32) => [(cB, .byte)])) (va_A [(h0, .inr (11, [.ref qc, .int 0, .ref fl, .null, .int wp])), (qc, .inl (cB, 1024, .inl f))] sz)) 0 0 (va_A [(h0, .inr (11, [.ref qc, .int 0, .ref fl, .null, .int wp])), (qc, .inl (cB, 1024, .inl f))] sz) := by
  refine Met.ofW (cc := cX11_feed) (maxL := 6) (ret := (some .int)) (by decide) rfl ?_
  intro p e s m args below meth c s₁ B hml hv
  obtain ⟨rfl, hsz, hP, hK, hD0, hE⟩ := hv
  have hx := B.exec
  have hb := B.bytes
  have hr := B.returns
  have hts := atoms_spec (ws := (.code yX11_feed cX11_feed 6 (some .int) :: bg)) B.pre
  have htb : ∀ w ∈ bg, w.before _ s = true := fun w h => hts w (List.mem_cons_of_mem _ h)
  have hown : s.vm.findClass RX11 = some m.cls := findClass_of_methodNamed B.named
  have hlocks := B.notSynchronized
  subst hsz
  have hD := hD0.self (sz := s.heap.size)
  generalize hAe : va_A [(h0, .inr (11, [.ref qc, .int 0, .ref fl, .null, .int wp])), (qc, .inl (cB, 1024, .inl f))] s.heap.size = A at hD hE ⊢
  have hA : ∀ q : Nat, s.heap.size ≤ q → A q := fun q h => by rw [← hAe]; exact Or.inr h
  have hS : va_S A s.heap s.heap [] := va_S.rf
  have hP : va_P D vwCl [(h0, .inr (11, [.ref qc, .int 0, .ref fl, .null, .int wp])), (qc, .inl (cB, 1024, .inl f))] s.heap := hP
  have hl := lv_entry ([.ref h0, .int x0, .int x1, .int x2, .int x3, .int x4]) (n := 6) (Nat.le_of_ble_eq_true rfl)
  rw [lg_entry_eq]
  generalize (lg_sl ([.ref h0, .int x0, .int x1, .int x2, .int x3, .int x4]) ++ List.replicate (6 - (lg_sl ([.ref h0, .int x0, .int x1, .int x2, .int x3, .int x4])).length) Slot.unset).toArray = ls at hl ⊢
  have hl : lv_has ls 6 [(0, .ref h0), (1, .int x0), (2, .int x1), (3, .int x2), (4, .int x3), (5, .int x4)] := hl
  refine lv_aload_n hx hb dX11_feed_0 rfl (lv_at hl 0 rfl) ?_
  refine va_get (D := D) (ci := 11) (v := .int 0) (C := RX11) (T := TX11) (N := 5) hx hb htb bi_X11 hown hK hP 0 rfl rfl 1 (by decide) (htb _ bg_10) (fun _ h9 => h9) rfl dX11_feed_1 ?_
  refine lv_ldc (own := RX11) (v := 65520) hx hb hown (htb _ bg_11) dX11_feed_4 ?_
  refine lv_icmp_le (tgt := 19) hx hb dX11_feed_6 (by decide) (fun c_6 => ?_) (fun c_6 => ?_)
  rotate_left
  · exact absurd (by decide) c_6
  refine lv_aload_n hx hb dX11_feed_19 rfl (lv_at hl 0 rfl) ?_
  refine lv_iload_n hx hb dX11_feed_20 rfl (lv_at hl 1 rfl) ?_
  refine xb_gov (wr := []) (va_runV (As := [.int x0]) (rest := []) ⟨hx, hb, hml, hown, htb⟩ (cg_take l D g h0 qc 0 fl wp cB f x0 (Array.size s.heap) (by decide) (by unfold vp_in; decide) (by unfold vp_in; decide) (by unfold vp_in; decide) (by unfold vp_in; decide)) (bg_V 1 htb bg_14 bg_16 bg_17 bg_18 bg_15 rfl rfl (by decide +kernel) ⟨Nat.le_of_ble_eq_true rfl, Nat.le_of_ble_eq_true rfl⟩) ⟨xb_blind xe_ok, va_recv hK hP (ci := 11) (q0 := 0) rfl rfl, xb_enter xe_ok hK hP hD hS hA hE [0, 1] rfl rfl rfl [0] rfl⟩ rfl rfl hl.1 rfl (lv_room (Nat.le_of_ble_eq_true rfl)) dX11_feed_21 ⟨Nat.le_of_ble_eq_true rfl, Nat.le_of_ble_eq_true rfl⟩) hK hP hD hS hA [0, 1] [] rfl rfl rfl (by decide) (fun u_21 H locs hw_21 hP hD hK hS => ?_)
  generalize u_21 = f1 at hP hD hK hw_21
  have hP : va_P D vwCl [(h0, .inr (11, [.ref qc, .int (0 + 4), .ref fl, .null, .int wp])), (qc, .inl (cB, 1024, .inl f1))] H := hP
  have hD : va_D A [(h0, .inr (11, [.ref qc, .int (0 + 4), .ref fl, .null, .int wp])), (qc, .inl (cB, 1024, .inl f1))] := hD
  have hK : va_K D vwCl [(cB, .byte), (cB, .byte)] s := hK
  refine W.widen (k := 0) (n := 0) (by decide) (by decide) ?_
  have hK := hK.sub (tys' := [(cB, .byte)]) [0] rfl
  refine lv_aload_n hx hb dX11_feed_24 rfl (lv_at hl 0 rfl) ?_
  refine lv_iload_n hx hb dX11_feed_25 rfl (lv_at hl 2 rfl) ?_
  refine xb_gov (wr := []) (va_runV (As := [.int x1]) (rest := []) ⟨hx, hb, hml, hown, htb⟩ (cg_take l D g h0 qc (0 + 4) fl wp cB f1 x1 (Array.size H) (by decide) (by unfold vp_in; decide) (by unfold vp_in; decide) (by unfold vp_in; decide) (by unfold vp_in; decide)) (bg_V 1 htb bg_14 bg_16 bg_17 bg_18 bg_15 rfl rfl (by decide +kernel) ⟨Nat.le_of_ble_eq_true rfl, Nat.le_of_ble_eq_true rfl⟩) ⟨xb_blind xe_ok, va_recv hK hP (ci := 11) (q0 := 0) rfl rfl, xb_enter xe_ok hK hP hD hS hA hE [0, 1] rfl rfl rfl [0] rfl⟩ rfl rfl hl.1 rfl (lv_room (Nat.le_of_ble_eq_true rfl)) dX11_feed_26 ⟨Nat.le_of_ble_eq_true rfl, Nat.le_of_ble_eq_true rfl⟩) hK hP hD hS hA [0, 1] [] rfl rfl rfl (by decide) (fun u_26 H locs hw_26 hP hD hK hS => ?_)
  generalize u_26 = f2 at hP hD hK hw_26
  have hP : va_P D vwCl [(h0, .inr (11, [.ref qc, .int ((0 + 4) + 4), .ref fl, .null, .int wp])), (qc, .inl (cB, 1024, .inl f2))] H := hP
  have hD : va_D A [(h0, .inr (11, [.ref qc, .int ((0 + 4) + 4), .ref fl, .null, .int wp])), (qc, .inl (cB, 1024, .inl f2))] := hD
  have hK : va_K D vwCl [(cB, .byte), (cB, .byte)] s := hK
  refine W.widen (k := 0) (n := 0) (by decide) (by decide) ?_
  have hK := hK.sub (tys' := [(cB, .byte)]) [0] rfl
  refine lv_aload_n hx hb dX11_feed_29 rfl (lv_at hl 0 rfl) ?_
  refine lv_iload_n hx hb dX11_feed_30 rfl (lv_at hl 3 rfl) ?_
  refine xb_gov (wr := []) (va_runV (As := [.int x2]) (rest := []) ⟨hx, hb, hml, hown, htb⟩ (cg_take l D g h0 qc ((0 + 4) + 4) fl wp cB f2 x2 (Array.size H) (by decide) (by unfold vp_in; decide) (by unfold vp_in; decide) (by unfold vp_in; decide) (by unfold vp_in; decide)) (bg_V 1 htb bg_14 bg_16 bg_17 bg_18 bg_15 rfl rfl (by decide +kernel) ⟨Nat.le_of_ble_eq_true rfl, Nat.le_of_ble_eq_true rfl⟩) ⟨xb_blind xe_ok, va_recv hK hP (ci := 11) (q0 := 0) rfl rfl, xb_enter xe_ok hK hP hD hS hA hE [0, 1] rfl rfl rfl [0] rfl⟩ rfl rfl hl.1 rfl (lv_room (Nat.le_of_ble_eq_true rfl)) dX11_feed_31 ⟨Nat.le_of_ble_eq_true rfl, Nat.le_of_ble_eq_true rfl⟩) hK hP hD hS hA [0, 1] [] rfl rfl rfl (by decide) (fun u_31 H locs hw_31 hP hD hK hS => ?_)
  generalize u_31 = f3 at hP hD hK hw_31
  have hP : va_P D vwCl [(h0, .inr (11, [.ref qc, .int (((0 + 4) + 4) + 4), .ref fl, .null, .int wp])), (qc, .inl (cB, 1024, .inl f3))] H := hP
  have hD : va_D A [(h0, .inr (11, [.ref qc, .int (((0 + 4) + 4) + 4), .ref fl, .null, .int wp])), (qc, .inl (cB, 1024, .inl f3))] := hD
  have hK : va_K D vwCl [(cB, .byte), (cB, .byte)] s := hK
  refine W.widen (k := 0) (n := 0) (by decide) (by decide) ?_
  have hK := hK.sub (tys' := [(cB, .byte)]) [0] rfl
  refine lv_aload_n hx hb dX11_feed_34 rfl (lv_at hl 0 rfl) ?_
  refine lv_iload hx hb dX11_feed_35 (lv_at hl 4 rfl) ?_
  refine xb_gov (wr := []) (va_runV (As := [.int x3]) (rest := []) ⟨hx, hb, hml, hown, htb⟩ (cg_take l D g h0 qc (((0 + 4) + 4) + 4) fl wp cB f3 x3 (Array.size H) (by decide) (by unfold vp_in; decide) (by unfold vp_in; decide) (by unfold vp_in; decide) (by unfold vp_in; decide)) (bg_V 1 htb bg_14 bg_16 bg_17 bg_18 bg_15 rfl rfl (by decide +kernel) ⟨Nat.le_of_ble_eq_true rfl, Nat.le_of_ble_eq_true rfl⟩) ⟨xb_blind xe_ok, va_recv hK hP (ci := 11) (q0 := 0) rfl rfl, xb_enter xe_ok hK hP hD hS hA hE [0, 1] rfl rfl rfl [0] rfl⟩ rfl rfl hl.1 rfl (lv_room (Nat.le_of_ble_eq_true rfl)) dX11_feed_37 ⟨Nat.le_of_ble_eq_true rfl, Nat.le_of_ble_eq_true rfl⟩) hK hP hD hS hA [0, 1] [] rfl rfl rfl (by decide) (fun u_37 H locs hw_37 hP hD hK hS => ?_)
  generalize u_37 = f4 at hP hD hK hw_37
  have hP : va_P D vwCl [(h0, .inr (11, [.ref qc, .int ((((0 + 4) + 4) + 4) + 4), .ref fl, .null, .int wp])), (qc, .inl (cB, 1024, .inl f4))] H := hP
  have hD : va_D A [(h0, .inr (11, [.ref qc, .int ((((0 + 4) + 4) + 4) + 4), .ref fl, .null, .int wp])), (qc, .inl (cB, 1024, .inl f4))] := hD
  have hK : va_K D vwCl [(cB, .byte), (cB, .byte)] s := hK
  refine W.widen (k := 0) (n := 0) (by decide) (by decide) ?_
  have hK := hK.sub (tys' := [(cB, .byte)]) [0] rfl
  refine lv_aload_n hx hb dX11_feed_40 rfl (lv_at hl 0 rfl) ?_
  refine lv_iload hx hb dX11_feed_41 (lv_at hl 5 rfl) ?_
  refine xb_gov (wr := []) (va_runV (As := [.int x4]) (rest := []) ⟨hx, hb, hml, hown, htb⟩ (cg_take l D g h0 qc ((((0 + 4) + 4) + 4) + 4) fl wp cB f4 x4 (Array.size H) (by decide) (by unfold vp_in; decide) (by unfold vp_in; decide) (by unfold vp_in; decide) (by unfold vp_in; decide)) (bg_V 1 htb bg_14 bg_16 bg_17 bg_18 bg_15 rfl rfl (by decide +kernel) ⟨Nat.le_of_ble_eq_true rfl, Nat.le_of_ble_eq_true rfl⟩) ⟨xb_blind xe_ok, va_recv hK hP (ci := 11) (q0 := 0) rfl rfl, xb_enter xe_ok hK hP hD hS hA hE [0, 1] rfl rfl rfl [0] rfl⟩ rfl rfl hl.1 rfl (lv_room (Nat.le_of_ble_eq_true rfl)) dX11_feed_43 ⟨Nat.le_of_ble_eq_true rfl, Nat.le_of_ble_eq_true rfl⟩) hK hP hD hS hA [0, 1] [] rfl rfl rfl (by decide) (fun u_43 H locs hw_43 hP hD hK hS => ?_)
  generalize u_43 = f5 at hP hD hK hw_43
  have hP : va_P D vwCl [(h0, .inr (11, [.ref qc, .int (((((0 + 4) + 4) + 4) + 4) + 4), .ref fl, .null, .int wp])), (qc, .inl (cB, 1024, .inl f5))] H := hP
  have hD : va_D A [(h0, .inr (11, [.ref qc, .int (((((0 + 4) + 4) + 4) + 4) + 4), .ref fl, .null, .int wp])), (qc, .inl (cB, 1024, .inl f5))] := hD
  have hK : va_K D vwCl [(cB, .byte), (cB, .byte)] s := hK
  refine W.widen (k := 0) (n := 0) (by decide) (by decide) ?_
  have hK := hK.sub (tys' := [(cB, .byte)]) [0] rfl
  refine lv_aload_n hx hb dX11_feed_46 rfl (lv_at hl 0 rfl) ?_
  refine va_get (D := D) (ci := 11) (v := .int (((((0 + 4) + 4) + 4) + 4) + 4)) (C := RX11) (T := TX11) (N := 5) hx hb htb bi_X11 hown hK hP 0 rfl rfl 1 (by decide) (htb _ bg_10) (fun _ h9 => h9) rfl dX11_feed_47 ?_
  have hP9 := hP.sub (ws' := [(h0, .inr (11, [.ref qc, .int (((((0 + 4) + 4) + 4) + 4) + 4), .ref fl, .null, .int wp])), (qc, .inl (cB, 1024, .inl f5))]) [0, 1] rfl
  have hD9 := hD.sub (ws' := [(h0, .inr (11, [.ref qc, .int (((((0 + 4) + 4) + 4) + 4) + 4), .ref fl, .null, .int wp])), (qc, .inl (cB, 1024, .inl f5))]) [0, 1] rfl rfl
  have hK9 := hK.sub (tys' := [(cB, .byte)]) [0] rfl
  exact W.iret (v := (((((0 + 4) + 4) + 4) + 4) + 4)) hx hb hr (fun t ht hW => ⟨⟨(((((0 + 4) + 4) + 4) + 4) + 4), ((((((0 + 4) + 4) + 4) + 4) + 4), f5), rfl, show ((((((0 + 4) + 4) + 4) + 4) + 4) : Int32) = 20 by decide, by rw [ht]; exact hP9, va_K.moved hW.alike hK9, hD9⟩, hS.F ht⟩) hS.2.2 dX11_feed_50
theorem dJ7_copyOf_9075b_0 : decode cJ7_copyOf_9075b 0 = .ok (.iload_n 1, 1) := by decide +kernel
theorem dJ7_copyOf_9075b_1 : decode cJ7_copyOf_9075b 1 = .ok (.aload_n 0, 1) := by decide +kernel
theorem dJ7_copyOf_9075b_2 : decode cJ7_copyOf_9075b 2 = .ok (.arraylength, 1) := by decide +kernel
theorem dJ7_copyOf_9075b_3 : decode cJ7_copyOf_9075b 3 = .ok (.if_icmp .ne 11, 3) := by decide +kernel
theorem dJ7_copyOf_9075b_14 : decode cJ7_copyOf_9075b 14 = .ok (.iload_n 1, 1) := by decide +kernel
theorem dJ7_copyOf_9075b_15 : decode cJ7_copyOf_9075b 15 = .ok (.newarray .byte, 2) := by decide +kernel
theorem dJ7_copyOf_9075b_17 : decode cJ7_copyOf_9075b 17 = .ok (.astore_n 2, 1) := by decide +kernel
theorem dJ7_copyOf_9075b_18 : decode cJ7_copyOf_9075b 18 = .ok (.aload_n 0, 1) := by decide +kernel
theorem dJ7_copyOf_9075b_19 : decode cJ7_copyOf_9075b 19 = .ok (.iconst 0, 1) := by decide +kernel
theorem dJ7_copyOf_9075b_20 : decode cJ7_copyOf_9075b 20 = .ok (.aload_n 2, 1) := by decide +kernel
theorem dJ7_copyOf_9075b_21 : decode cJ7_copyOf_9075b 21 = .ok (.iconst 0, 1) := by decide +kernel
theorem dJ7_copyOf_9075b_22 : decode cJ7_copyOf_9075b 22 = .ok (.aload_n 0, 1) := by decide +kernel
theorem dJ7_copyOf_9075b_23 : decode cJ7_copyOf_9075b 23 = .ok (.arraylength, 1) := by decide +kernel
theorem dJ7_copyOf_9075b_24 : decode cJ7_copyOf_9075b 24 = .ok (.iload_n 1, 1) := by decide +kernel
theorem dJ7_copyOf_9075b_25 : decode cJ7_copyOf_9075b 25 = .ok (.invokestatic 304, 3) := by decide +kernel
theorem dJ7_copyOf_9075b_28 : decode cJ7_copyOf_9075b 28 = .ok (.invokestatic 150, 3) := by decide +kernel
theorem dJ7_copyOf_9075b_31 : decode cJ7_copyOf_9075b 31 = .ok (.aload_n 2, 1) := by decide +kernel
theorem dJ7_copyOf_9075b_32 : decode cJ7_copyOf_9075b 32 = .ok (.areturn, 1) := by decide +kernel
set_option maxHeartbeats 4000000 in
set_option maxRecDepth 100000 in
theorem cj_copyOf (l : Launch) (D : va_G) (g : xe_G) (qc : Nat) (cB : ClassId) (f : Nat → Int32) (sz : Nat)  : Met l yJ7_copyOf_9075b (.code yJ7_copyOf_9075b cJ7_copyOf_9075b 3 (some (.array .byte)) :: bg) ({ frames := 2, cells := 1, slots := 0, locals := 240 } : Room) (xb_Pre (xe_E g) D vwCl [(qc, .inl (cB, 1024, .inl f))] [(cB, .byte)] sz [.ref qc, .int 0]) (va_Qq (fun r u => r = some u.1) (xb_B D vwCl (va_A [(qc, .inl (cB, 1024, .inl f))] sz) (fun u : Nat × ClassId × (Nat → Int32) => [(qc, .inl (cB, 1024, .inl f)), (u.1, .inl (u.2.1, 0, .inl u.2.2))]) (fun u : Nat × ClassId × (Nat → Int32) => [(cB, .byte), (u.2.1, .byte)])) (va_A [(qc, .inl (cB, 1024, .inl f))] sz)) 1 0 (va_A [(qc, .inl (cB, 1024, .inl f))] sz) := by
  refine Met.ofW (cc := cJ7_copyOf_9075b) (maxL := 3) (ret := (some (.array .byte))) (by decide) rfl ?_
  intro p e s m args below meth c s₁ B hml hv
  obtain ⟨rfl, hsz, hP, hK, hD0, hE⟩ := hv
  have hx := B.exec
  have hb := B.bytes
  have hr := B.returns
  have hts := atoms_spec (ws := (.code yJ7_copyOf_9075b cJ7_copyOf_9075b 3 (some (.array .byte)) :: bg)) B.pre
  have htb : ∀ w ∈ bg, w.before _ s = true := fun w h => hts w (List.mem_cons_of_mem _ h)
  have hown : s.vm.findClass RJ7 = some m.cls := findClass_of_methodNamed B.named
  have hlocks := B.notSynchronized
  subst hsz
  have hD := hD0.self (sz := s.heap.size)
  generalize hAe : va_A [(qc, .inl (cB, 1024, .inl f))] s.heap.size = A at hD hE ⊢
  have hA : ∀ q : Nat, s.heap.size ≤ q → A q := fun q h => by rw [← hAe]; exact Or.inr h
  have hS : va_S A s.heap s.heap [] := va_S.rf
  have hP : va_P D vwCl [(qc, .inl (cB, 1024, .inl f))] s.heap := hP
  have hl := lv_entry ([.ref qc, .int 0]) (n := 3) (Nat.le_of_ble_eq_true rfl)
  rw [lg_entry_eq]
  generalize (lg_sl ([.ref qc, .int 0]) ++ List.replicate (3 - (lg_sl ([.ref qc, .int 0])).length) Slot.unset).toArray = ls at hl ⊢
  have hl : lv_has ls 3 [(0, .ref qc), (1, .int 0)] := hl
  refine lv_iload_n hx hb dJ7_copyOf_9075b_0 rfl (lv_at hl 1 rfl) ?_
  refine lv_aload_n hx hb dJ7_copyOf_9075b_1 rfl (lv_at hl 0 rfl) ?_
  refine va_alen (v := 1024) hx hb hK hP 0 0 rfl rfl rfl dJ7_copyOf_9075b_2 ?_
  refine lv_icmp_ne (tgt := 14) hx hb dJ7_copyOf_9075b_3 (by decide) (fun c_3 => ?_) (fun c_3 => ?_)
  rotate_left
  · exact absurd c_3 (by decide)
  refine lv_iload_n hx hb dJ7_copyOf_9075b_14 rfl (lv_at hl 1 rfl) ?_
  refine va_newa (atype := .byte) (ty := .byte) (a0 := (0, .inl (fun _ => 0))) (N' := 0) hx hb (htb _ bg_4) rfl hK hP hD hS hA (fun _ => rfl) (by decide) (by decide) (by decide) (Nat.le_of_ble_eq_true rfl) (Nat.le_of_ble_eq_true rfl) dJ7_copyOf_9075b_15 (fun q15 a15 H hK hP hD hS => ?_)
  have hP : va_P D vwCl [(qc, .inl (cB, 1024, .inl f)), (q15, .inl (a15, 0, .inl (fun _ => 0)))] H := hP
  have hD : va_D A [(qc, .inl (cB, 1024, .inl f)), (q15, .inl (a15, 0, .inl (fun _ => 0)))] := hD
  have hK : va_K D vwCl [(cB, .byte), (a15, .byte)] s := hK
  refine W.widen (k := 1) (n := 0) (by decide) (by decide) ?_
  refine lv_astore_n (lv' := [(2, .ref q15), (0, .ref qc), (1, .int 0)]) hx hb dJ7_copyOf_9075b_17 rfl hl (by decide) rfl (fun ls hl => ?_)
  refine lv_aload_n hx hb dJ7_copyOf_9075b_18 rfl (lv_at hl 1 rfl) ?_
  refine lv_iconst (v := 0) hx hb dJ7_copyOf_9075b_19 (by decide) ?_
  refine lv_aload_n hx hb dJ7_copyOf_9075b_20 rfl (lv_at hl 0 rfl) ?_
  refine lv_iconst (v := 0) hx hb dJ7_copyOf_9075b_21 (by decide) ?_
  refine lv_aload_n hx hb dJ7_copyOf_9075b_22 rfl (lv_at hl 1 rfl) ?_
  refine va_alen (v := 1024) hx hb hK hP 0 0 rfl rfl rfl dJ7_copyOf_9075b_23 ?_
  refine lv_iload_n hx hb dJ7_copyOf_9075b_24 rfl (lv_at hl 2 rfl) ?_
  refine va_mmin hx hb (by rw [hml]; exact hl.1.symm) hown (htb _ bg_615) (htb _ bg_616) (htb _ bg_622) (htb _ bg_617) (Nat.le_of_ble_eq_true rfl) (Nat.le_of_ble_eq_true rfl) (Nat.le_of_ble_eq_true rfl) (Nat.le_of_ble_eq_true rfl) dJ7_copyOf_9075b_25 ?_
  refine lv_topi (fun x_25 ex_25 => ?_)
  have hx_25 : x_25 = 0 := by rw [ex_25]; rfl
  rw [hx_25]
  refine va_copyi hx hb (by rw [hml]; exact hl.1.symm) hown (htb _ bg_624) (htb _ bg_625) (htb _ bg_626) (htb _ bg_623) hK hP hD hS 0 1 0 1 rfl rfl rfl rfl rfl (by decide) (by decide) (by decide) (by decide) (by decide) (fun i hi => absurd (show i < 0 from hi) (Nat.not_lt_zero i)) (Nat.le_of_ble_eq_true rfl) (by decide) dJ7_copyOf_9075b_28 (fun H locs hP hD hS => ?_)
  have hP : va_P D vwCl [(qc, .inl (cB, 1024, .inl f)), (q15, .inl (a15, 0, .inl (va_cpy f (fun _ => 0) (Int32.toNatClampNeg 0) (Int32.toNatClampNeg 0) (Int32.toNatClampNeg 0))))] H := hP
  have hD : va_D A [(qc, .inl (cB, 1024, .inl f)), (q15, .inl (a15, 0, .inl (va_cpy f (fun _ => 0) (Int32.toNatClampNeg 0) (Int32.toNatClampNeg 0) (Int32.toNatClampNeg 0))))] := hD
  generalize (va_cpy f (fun _ => 0) (Int32.toNatClampNeg 0) (Int32.toNatClampNeg 0) (Int32.toNatClampNeg 0)) = cp28 at hP hD
  refine lv_aload_n hx hb dJ7_copyOf_9075b_31 rfl (lv_at hl 0 rfl) ?_
  have hP9 := hP.sub (ws' := [(qc, .inl (cB, 1024, .inl f)), (q15, .inl (a15, 0, .inl cp28))]) [0, 1] rfl
  have hD9 := hD.sub (ws' := [(qc, .inl (cB, 1024, .inl f)), (q15, .inl (a15, 0, .inl cp28))]) [0, 1] rfl rfl
  have hK9 := hK.sub (tys' := [(cB, .byte), (a15, .byte)]) [0, 1] rfl
  exact W.aret (v := .ref q15) hx hb hr (Or.inr ⟨_, rfl⟩) (Or.inr ⟨_, rfl⟩) (fun t ht hW => ⟨⟨(some q15), (q15, a15, cp28), rfl, rfl, by rw [ht]; exact hP9, va_K.moved hW.alike hK9, hD9⟩, hS.F ht⟩) hS.2.2 dJ7_copyOf_9075b_32
theorem dX11_count_0 : decode cX11_count 0 = .ok (.iload_n 1, 1) := by decide +kernel
theorem dX11_count_1 : decode cX11_count 1 = .ok (.ifCond .lt 9, 3) := by decide +kernel
theorem dX11_count_4 : decode cX11_count 4 = .ok (.iload_n 1, 1) := by decide +kernel
theorem dX11_count_5 : decode cX11_count 5 = .ok (.bipush 15, 2) := by decide +kernel
theorem dX11_count_7 : decode cX11_count 7 = .ok (.if_icmp .le 13, 3) := by decide +kernel
theorem dX11_count_10 : decode cX11_count 10 = .ok (.new 44, 3) := by decide +kernel
theorem dX11_count_13 : decode cX11_count 13 = .ok (.dup, 1) := by decide +kernel
theorem dX11_count_14 : decode cX11_count 14 = .ok (.ldc 148, 2) := by decide +kernel
theorem dX11_count_16 : decode cX11_count 16 = .ok (.invokespecial 48, 3) := by decide +kernel
theorem dX11_count_19 : decode cX11_count 19 = .ok (.athrow, 1) := by decide +kernel
theorem dX11_count_20 : decode cX11_count 20 = .ok (.aload_n 0, 1) := by decide +kernel
theorem dX11_count_21 : decode cX11_count 21 = .ok (.getfield 69, 3) := by decide +kernel
theorem dX11_count_24 : decode cX11_count 24 = .ok (.ifnonnull 7, 3) := by decide +kernel
theorem dX11_count_27 : decode cX11_count 27 = .ok (.iconst (-1), 1) := by decide +kernel
theorem dX11_count_28 : decode cX11_count 28 = .ok (.goto 11, 3) := by decide +kernel
theorem dX11_count_39 : decode cX11_count 39 = .ok (.ireturn, 1) := by decide +kernel
set_option maxHeartbeats 4000000 in
set_option maxRecDepth 100000 in
theorem cg_count (l : Launch) (D : va_G) (g : xe_G) (h0 : Nat) (qc : Nat) (n : Int32) (fl : Nat) (wp : Int32) (x0 : Int32) (sz : Nat)  (hnt : l.stackTraces = false) : vx_Met l yX11_count (.code yX11_count cX11_count 2 (some .int) :: bg) ({ frames := 8, cells := 1, slots := 6, locals := 600 } : Room) (xb_Pre (xe_E g) D vwCl [(h0, .inr (11, [.ref qc, .int n, .ref fl, .null, .int wp]))] [] sz [.ref h0, .int x0]) (va_Qi (fun r _ => r = -1 ∧ ¬ x0 < 0 ∧ x0 ≤ 15) (xb_B D vwCl (va_A [(h0, .inr (11, [.ref qc, .int n, .ref fl, .null, .int wp]))] sz) (fun u : Unit => [(h0, .inr (11, [.ref qc, .int n, .ref fl, .null, .int wp]))]) (fun u : Unit => [])) (va_A [(h0, .inr (11, [.ref qc, .int n, .ref fl, .null, .int wp]))] sz)) (vx_X (fun _ : Unit => (x0 < 0 ∨ ¬ x0 ≤ 15)) (fun E (_ : Unit) t => E = "java/lang/IllegalArgumentException" ∧ xb_B D vwCl (va_A [(h0, .inr (11, [.ref qc, .int n, .ref fl, .null, .int wp]))] sz) (fun _ : Unit => [(h0, .inr (11, [.ref qc, .int n, .ref fl, .null, .int wp]))]) (fun _ : Unit => []) () t) (va_A [(h0, .inr (11, [.ref qc, .int n, .ref fl, .null, .int wp]))] sz)) 1 6 (va_A [(h0, .inr (11, [.ref qc, .int n, .ref fl, .null, .int wp]))] sz) := by
  refine vx_ofW (cc := cX11_count) (maxL := 2) (ret := (some .int)) (by decide) rfl ?_
  intro p e s m args below meth c s₁ B hml hemp hv
  obtain ⟨rfl, hsz, hP, hK, hD0, hE⟩ := hv
  have hx := B.exec
  have hb := B.bytes
  have hr := B.returns
  have hts := atoms_spec (ws := (.code yX11_count cX11_count 2 (some .int) :: bg)) B.pre
  have htb : ∀ w ∈ bg, w.before _ s = true := fun w h => hts w (List.mem_cons_of_mem _ h)
  have hown : s.vm.findClass RX11 = some m.cls := findClass_of_methodNamed B.named
  have hlocks := B.notSynchronized
  subst hsz
  have hD := hD0.self (sz := s.heap.size)
  generalize hAe : va_A [(h0, .inr (11, [.ref qc, .int n, .ref fl, .null, .int wp]))] s.heap.size = A at hD hE ⊢
  have hA : ∀ q : Nat, s.heap.size ≤ q → A q := fun q h => by rw [← hAe]; exact Or.inr h
  have hS : va_S A s.heap s.heap [] := va_S.rf
  have hP : va_P D vwCl [(h0, .inr (11, [.ref qc, .int n, .ref fl, .null, .int wp]))] s.heap := hP
  have hl := lv_entry ([.ref h0, .int x0]) (n := 2) (Nat.le_of_ble_eq_true rfl)
  rw [lg_entry_eq]
  generalize (lg_sl ([.ref h0, .int x0]) ++ List.replicate (2 - (lg_sl ([.ref h0, .int x0])).length) Slot.unset).toArray = ls at hl ⊢
  have hl : lv_has ls 2 [(0, .ref h0), (1, .int x0)] := hl
  refine lv_iload_n hx hb dX11_count_0 rfl (lv_at hl 1 rfl) ?_
  refine lv_if_lt (tgt := 10) hx hb dX11_count_1 (by decide) (fun c_1 => ?_) (fun c_1 => ?_)
  · skip
    exact vx_throwS (A := A) hx hb hnt hown (by decide) (by decide) (htb _ bg_24) (htb _ bg_25) (hE.2.2.2.2.2.2.1 14 (by decide)).1 (xe_hat hE htb) xe_ot hE.2.2.2.2.1 hE.2.2.2.2.2.1 hS (by rw [hml]; exact hl.1) dX11_count_10 dX11_count_13 dX11_count_14 dX11_count_16 dX11_count_19 (fun x hx => (hemp x hx).elim) (Nat.le_of_ble_eq_true rfl) (Nat.le_of_ble_eq_true rfl) (Nat.le_of_ble_eq_true rfl) (Nat.le_of_ble_eq_true rfl) hlocks (fun t ht hz hk => xe_thrown (by first | exact Or.inl c_1 | exact Or.inr c_7) hP hK hD hS ht hz hk) hS.2.2 (by decide) (by decide)
  · skip
    refine lv_iload_n hx hb dX11_count_4 rfl (lv_at hl 1 rfl) ?_
    refine lv_bipush (v := 15) hx hb dX11_count_5 (by decide) ?_
    refine lv_icmp_le (tgt := 20) hx hb dX11_count_7 (by decide) (fun c_7 => ?_) (fun c_7 => ?_)
    · skip
      refine lv_aload_n hx hb dX11_count_20 rfl (lv_at hl 0 rfl) ?_
      refine va_get (D := D) (ci := 11) (v := .null) (C := RX11) (T := TX11) (N := 5) hx hb htb bi_X11 hown hK hP 0 rfl rfl 3 (by decide) (htb _ bg_48) (fun _ h9 => h9) rfl dX11_count_21 ?_
      refine lv_ifnonnullN hx hb dX11_count_24 ?_
      refine lv_iconst (v := (-1)) hx hb dX11_count_27 (by decide) ?_
      refine lv_goto (tgt := 39) hx hb dX11_count_28 (by decide) ?_
      have hP9 := hP.sub (ws' := [(h0, .inr (11, [.ref qc, .int n, .ref fl, .null, .int wp]))]) [0] rfl
      have hD9 := hD.sub (ws' := [(h0, .inr (11, [.ref qc, .int n, .ref fl, .null, .int wp]))]) [0] rfl rfl
      have hK9 := hK.sub (tys' := []) [] rfl
      refine W.widen (k := 1) (n := 6) (by decide) (by decide) ?_
      refine vx_ret ?_
      exact W.iret (v := (-1)) hx hb hr (fun t ht hW => ⟨⟨(-1), (), rfl, ⟨rfl, c_1, c_7⟩, by rw [ht]; exact hP9, va_K.moved hW.alike hK9, hD9⟩, hS.F ht⟩) hS.2.2 dX11_count_39
    · skip
      exact vx_throwS (A := A) hx hb hnt hown (by decide) (by decide) (htb _ bg_24) (htb _ bg_25) (hE.2.2.2.2.2.2.1 14 (by decide)).1 (xe_hat hE htb) xe_ot hE.2.2.2.2.1 hE.2.2.2.2.2.1 hS (by rw [hml]; exact hl.1) dX11_count_10 dX11_count_13 dX11_count_14 dX11_count_16 dX11_count_19 (fun x hx => (hemp x hx).elim) (Nat.le_of_ble_eq_true rfl) (Nat.le_of_ble_eq_true rfl) (Nat.le_of_ble_eq_true rfl) (Nat.le_of_ble_eq_true rfl) hlocks (fun t ht hz hk => xe_thrown (by first | exact Or.inl c_1 | exact Or.inr c_7) hP hK hD hS ht hz hk) hS.2.2 (by decide) (by decide)
theorem dX11_entry_0 : decode cX11_entry 0 = .ok (.iload_n 2, 1) := by decide +kernel
theorem dX11_entry_1 : decode cX11_entry 1 = .ok (.ifCond .lt 8, 3) := by decide +kernel
theorem dX11_entry_4 : decode cX11_entry 4 = .ok (.iload_n 2, 1) := by decide +kernel
theorem dX11_entry_5 : decode cX11_entry 5 = .ok (.iconst 2, 1) := by decide +kernel
theorem dX11_entry_6 : decode cX11_entry 6 = .ok (.if_icmp .le 13, 3) := by decide +kernel
theorem dX11_entry_9 : decode cX11_entry 9 = .ok (.new 44, 3) := by decide +kernel
theorem dX11_entry_12 : decode cX11_entry 12 = .ok (.dup, 1) := by decide +kernel
theorem dX11_entry_13 : decode cX11_entry 13 = .ok (.ldc 154, 2) := by decide +kernel
theorem dX11_entry_15 : decode cX11_entry 15 = .ok (.invokespecial 48, 3) := by decide +kernel
theorem dX11_entry_18 : decode cX11_entry 18 = .ok (.athrow, 1) := by decide +kernel
theorem dX11_entry_19 : decode cX11_entry 19 = .ok (.aload_n 0, 1) := by decide +kernel
theorem dX11_entry_20 : decode cX11_entry 20 = .ok (.getfield 69, 3) := by decide +kernel
theorem dX11_entry_23 : decode cX11_entry 23 = .ok (.ifnull 21, 3) := by decide +kernel
theorem dX11_entry_44 : decode cX11_entry 44 = .ok (.iconst (-1), 1) := by decide +kernel
theorem dX11_entry_45 : decode cX11_entry 45 = .ok (.ireturn, 1) := by decide +kernel
set_option maxHeartbeats 4000000 in
set_option maxRecDepth 100000 in
theorem cg_entry (l : Launch) (D : va_G) (g : xe_G) (h0 : Nat) (qc : Nat) (n : Int32) (fl : Nat) (wp : Int32) (x0 : Int32) (x1 : Int32) (sz : Nat)  (hnt : l.stackTraces = false) : vx_Met l yX11_entry (.code yX11_entry cX11_entry 3 (some .int) :: bg) ({ frames := 8, cells := 1, slots := 6, locals := 600 } : Room) (xb_Pre (xe_E g) D vwCl [(h0, .inr (11, [.ref qc, .int n, .ref fl, .null, .int wp]))] [] sz [.ref h0, .int x0, .int x1]) (va_Qi (fun r _ => r = -1 ∧ ¬ x1 < 0 ∧ x1 ≤ 2) (xb_B D vwCl (va_A [(h0, .inr (11, [.ref qc, .int n, .ref fl, .null, .int wp]))] sz) (fun u : Unit => [(h0, .inr (11, [.ref qc, .int n, .ref fl, .null, .int wp]))]) (fun u : Unit => [])) (va_A [(h0, .inr (11, [.ref qc, .int n, .ref fl, .null, .int wp]))] sz)) (vx_X (fun _ : Unit => (x1 < 0 ∨ ¬ x1 ≤ 2)) (fun E (_ : Unit) t => E = "java/lang/IllegalArgumentException" ∧ xb_B D vwCl (va_A [(h0, .inr (11, [.ref qc, .int n, .ref fl, .null, .int wp]))] sz) (fun _ : Unit => [(h0, .inr (11, [.ref qc, .int n, .ref fl, .null, .int wp]))]) (fun _ : Unit => []) () t) (va_A [(h0, .inr (11, [.ref qc, .int n, .ref fl, .null, .int wp]))] sz)) 1 6 (va_A [(h0, .inr (11, [.ref qc, .int n, .ref fl, .null, .int wp]))] sz) := by
  refine vx_ofW (cc := cX11_entry) (maxL := 3) (ret := (some .int)) (by decide) rfl ?_
  intro p e s m args below meth c s₁ B hml hemp hv
  obtain ⟨rfl, hsz, hP, hK, hD0, hE⟩ := hv
  have hx := B.exec
  have hb := B.bytes
  have hr := B.returns
  have hts := atoms_spec (ws := (.code yX11_entry cX11_entry 3 (some .int) :: bg)) B.pre
  have htb : ∀ w ∈ bg, w.before _ s = true := fun w h => hts w (List.mem_cons_of_mem _ h)
  have hown : s.vm.findClass RX11 = some m.cls := findClass_of_methodNamed B.named
  have hlocks := B.notSynchronized
  subst hsz
  have hD := hD0.self (sz := s.heap.size)
  generalize hAe : va_A [(h0, .inr (11, [.ref qc, .int n, .ref fl, .null, .int wp]))] s.heap.size = A at hD hE ⊢
  have hA : ∀ q : Nat, s.heap.size ≤ q → A q := fun q h => by rw [← hAe]; exact Or.inr h
  have hS : va_S A s.heap s.heap [] := va_S.rf
  have hP : va_P D vwCl [(h0, .inr (11, [.ref qc, .int n, .ref fl, .null, .int wp]))] s.heap := hP
  have hl := lv_entry ([.ref h0, .int x0, .int x1]) (n := 3) (Nat.le_of_ble_eq_true rfl)
  rw [lg_entry_eq]
  generalize (lg_sl ([.ref h0, .int x0, .int x1]) ++ List.replicate (3 - (lg_sl ([.ref h0, .int x0, .int x1])).length) Slot.unset).toArray = ls at hl ⊢
  have hl : lv_has ls 3 [(0, .ref h0), (1, .int x0), (2, .int x1)] := hl
  refine lv_iload_n hx hb dX11_entry_0 rfl (lv_at hl 2 rfl) ?_
  refine lv_if_lt (tgt := 9) hx hb dX11_entry_1 (by decide) (fun c_1 => ?_) (fun c_1 => ?_)
  · skip
    exact vx_throwS (A := A) hx hb hnt hown (by decide) (by decide) (htb _ bg_24) (htb _ bg_25) (hE.2.2.2.2.2.2.1 15 (by decide)).1 (xe_hat hE htb) xe_ot hE.2.2.2.2.1 hE.2.2.2.2.2.1 hS (by rw [hml]; exact hl.1) dX11_entry_9 dX11_entry_12 dX11_entry_13 dX11_entry_15 dX11_entry_18 (fun x hx => (hemp x hx).elim) (Nat.le_of_ble_eq_true rfl) (Nat.le_of_ble_eq_true rfl) (Nat.le_of_ble_eq_true rfl) (Nat.le_of_ble_eq_true rfl) hlocks (fun t ht hz hk => xe_thrown (by first | exact Or.inl c_1 | exact Or.inr c_6) hP hK hD hS ht hz hk) hS.2.2 (by decide) (by decide)
  · skip
    refine lv_iload_n hx hb dX11_entry_4 rfl (lv_at hl 2 rfl) ?_
    refine lv_iconst (v := 2) hx hb dX11_entry_5 (by decide) ?_
    refine lv_icmp_le (tgt := 19) hx hb dX11_entry_6 (by decide) (fun c_6 => ?_) (fun c_6 => ?_)
    · skip
      refine lv_aload_n hx hb dX11_entry_19 rfl (lv_at hl 0 rfl) ?_
      refine va_get (D := D) (ci := 11) (v := .null) (C := RX11) (T := TX11) (N := 5) hx hb htb bi_X11 hown hK hP 0 rfl rfl 3 (by decide) (htb _ bg_48) (fun _ h9 => h9) rfl dX11_entry_20 ?_
      refine lv_ifnullN (tgt := 44) hx hb dX11_entry_23 (by decide) ?_
      refine lv_iconst (v := (-1)) hx hb dX11_entry_44 (by decide) ?_
      have hP9 := hP.sub (ws' := [(h0, .inr (11, [.ref qc, .int n, .ref fl, .null, .int wp]))]) [0] rfl
      have hD9 := hD.sub (ws' := [(h0, .inr (11, [.ref qc, .int n, .ref fl, .null, .int wp]))]) [0] rfl rfl
      have hK9 := hK.sub (tys' := []) [] rfl
      refine W.widen (k := 1) (n := 6) (by decide) (by decide) ?_
      refine vx_ret ?_
      exact W.iret (v := (-1)) hx hb hr (fun t ht hW => ⟨⟨(-1), (), rfl, ⟨rfl, c_1, c_6⟩, by rw [ht]; exact hP9, va_K.moved hW.alike hK9, hD9⟩, hS.F ht⟩) hS.2.2 dX11_entry_45
    · skip
      exact vx_throwS (A := A) hx hb hnt hown (by decide) (by decide) (htb _ bg_24) (htb _ bg_25) (hE.2.2.2.2.2.2.1 15 (by decide)).1 (xe_hat hE htb) xe_ot hE.2.2.2.2.1 hE.2.2.2.2.2.1 hS (by rw [hml]; exact hl.1) dX11_entry_9 dX11_entry_12 dX11_entry_13 dX11_entry_15 dX11_entry_18 (fun x hx => (hemp x hx).elim) (Nat.le_of_ble_eq_true rfl) (Nat.le_of_ble_eq_true rfl) (Nat.le_of_ble_eq_true rfl) (Nat.le_of_ble_eq_true rfl) hlocks (fun t ht hz hk => xe_thrown (by first | exact Or.inl c_1 | exact Or.inr c_6) hP hK hD hS ht hz hk) hS.2.2 (by decide) (by decide)
theorem dX11_member_0 : decode cX11_member 0 = .ok (.iload_n 3, 1) := by decide +kernel
theorem dX11_member_1 : decode cX11_member 1 = .ok (.ifCond .lt 9, 3) := by decide +kernel
theorem dX11_member_4 : decode cX11_member 4 = .ok (.iload_n 3, 1) := by decide +kernel
theorem dX11_member_5 : decode cX11_member 5 = .ok (.bipush 9, 2) := by decide +kernel
theorem dX11_member_7 : decode cX11_member 7 = .ok (.if_icmp .le 13, 3) := by decide +kernel
theorem dX11_member_10 : decode cX11_member 10 = .ok (.new 44, 3) := by decide +kernel
theorem dX11_member_13 : decode cX11_member 13 = .ok (.dup, 1) := by decide +kernel
theorem dX11_member_14 : decode cX11_member 14 = .ok (.ldc 187, 2) := by decide +kernel
theorem dX11_member_16 : decode cX11_member 16 = .ok (.invokespecial 48, 3) := by decide +kernel
theorem dX11_member_19 : decode cX11_member 19 = .ok (.athrow, 1) := by decide +kernel
theorem dX11_member_20 : decode cX11_member 20 = .ok (.aload_n 0, 1) := by decide +kernel
theorem dX11_member_21 : decode cX11_member 21 = .ok (.getfield 69, 3) := by decide +kernel
theorem dX11_member_24 : decode cX11_member 24 = .ok (.ifnonnull 7, 3) := by decide +kernel
theorem dX11_member_27 : decode cX11_member 27 = .ok (.aconst_null, 1) := by decide +kernel
theorem dX11_member_28 : decode cX11_member 28 = .ok (.goto 12, 3) := by decide +kernel
theorem dX11_member_40 : decode cX11_member 40 = .ok (.astore 4, 2) := by decide +kernel
theorem dX11_member_42 : decode cX11_member 42 = .ok (.aload 4, 2) := by decide +kernel
theorem dX11_member_44 : decode cX11_member 44 = .ok (.ifnonnull 7, 3) := by decide +kernel
theorem dX11_member_47 : decode cX11_member 47 = .ok (.iconst (-1), 1) := by decide +kernel
theorem dX11_member_48 : decode cX11_member 48 = .ok (.goto 10, 3) := by decide +kernel
theorem dX11_member_58 : decode cX11_member 58 = .ok (.ireturn, 1) := by decide +kernel
set_option maxHeartbeats 4000000 in
set_option maxRecDepth 100000 in
theorem cg_member (l : Launch) (D : va_G) (g : xe_G) (h0 : Nat) (qc : Nat) (n : Int32) (fl : Nat) (wp : Int32) (x0 : Int32) (x1 : Int32) (x2 : Int32) (sz : Nat)  (hnt : l.stackTraces = false) : vx_Met l yX11_member (.code yX11_member cX11_member 5 (some .int) :: bg) ({ frames := 8, cells := 1, slots := 6, locals := 600 } : Room) (xb_Pre (xe_E g) D vwCl [(h0, .inr (11, [.ref qc, .int n, .ref fl, .null, .int wp]))] [] sz [.ref h0, .int x0, .int x1, .int x2]) (va_Qi (fun r _ => r = -1 ∧ ¬ x2 < 0 ∧ x2 ≤ 9) (xb_B D vwCl (va_A [(h0, .inr (11, [.ref qc, .int n, .ref fl, .null, .int wp]))] sz) (fun u : Unit => [(h0, .inr (11, [.ref qc, .int n, .ref fl, .null, .int wp]))]) (fun u : Unit => [])) (va_A [(h0, .inr (11, [.ref qc, .int n, .ref fl, .null, .int wp]))] sz)) (vx_X (fun _ : Unit => (x2 < 0 ∨ ¬ x2 ≤ 9)) (fun E (_ : Unit) t => E = "java/lang/IllegalArgumentException" ∧ xb_B D vwCl (va_A [(h0, .inr (11, [.ref qc, .int n, .ref fl, .null, .int wp]))] sz) (fun _ : Unit => [(h0, .inr (11, [.ref qc, .int n, .ref fl, .null, .int wp]))]) (fun _ : Unit => []) () t) (va_A [(h0, .inr (11, [.ref qc, .int n, .ref fl, .null, .int wp]))] sz)) 1 6 (va_A [(h0, .inr (11, [.ref qc, .int n, .ref fl, .null, .int wp]))] sz) := by
  refine vx_ofW (cc := cX11_member) (maxL := 5) (ret := (some .int)) (by decide) rfl ?_
  intro p e s m args below meth c s₁ B hml hemp hv
  obtain ⟨rfl, hsz, hP, hK, hD0, hE⟩ := hv
  have hx := B.exec
  have hb := B.bytes
  have hr := B.returns
  have hts := atoms_spec (ws := (.code yX11_member cX11_member 5 (some .int) :: bg)) B.pre
  have htb : ∀ w ∈ bg, w.before _ s = true := fun w h => hts w (List.mem_cons_of_mem _ h)
  have hown : s.vm.findClass RX11 = some m.cls := findClass_of_methodNamed B.named
  have hlocks := B.notSynchronized
  subst hsz
  have hD := hD0.self (sz := s.heap.size)
  generalize hAe : va_A [(h0, .inr (11, [.ref qc, .int n, .ref fl, .null, .int wp]))] s.heap.size = A at hD hE ⊢
  have hA : ∀ q : Nat, s.heap.size ≤ q → A q := fun q h => by rw [← hAe]; exact Or.inr h
  have hS : va_S A s.heap s.heap [] := va_S.rf
  have hP : va_P D vwCl [(h0, .inr (11, [.ref qc, .int n, .ref fl, .null, .int wp]))] s.heap := hP
  have hl := lv_entry ([.ref h0, .int x0, .int x1, .int x2]) (n := 5) (Nat.le_of_ble_eq_true rfl)
  rw [lg_entry_eq]
  generalize (lg_sl ([.ref h0, .int x0, .int x1, .int x2]) ++ List.replicate (5 - (lg_sl ([.ref h0, .int x0, .int x1, .int x2])).length) Slot.unset).toArray = ls at hl ⊢
  have hl : lv_has ls 5 [(0, .ref h0), (1, .int x0), (2, .int x1), (3, .int x2)] := hl
  refine lv_iload_n hx hb dX11_member_0 rfl (lv_at hl 3 rfl) ?_
  refine lv_if_lt (tgt := 10) hx hb dX11_member_1 (by decide) (fun c_1 => ?_) (fun c_1 => ?_)
  · skip
    exact vx_throwS (A := A) hx hb hnt hown (by decide) (by decide) (htb _ bg_24) (htb _ bg_25) (hE.2.2.2.2.2.2.1 16 (by decide)).1 (xe_hat hE htb) xe_ot hE.2.2.2.2.1 hE.2.2.2.2.2.1 hS (by rw [hml]; exact hl.1) dX11_member_10 dX11_member_13 dX11_member_14 dX11_member_16 dX11_member_19 (fun x hx => (hemp x hx).elim) (Nat.le_of_ble_eq_true rfl) (Nat.le_of_ble_eq_true rfl) (Nat.le_of_ble_eq_true rfl) (Nat.le_of_ble_eq_true rfl) hlocks (fun t ht hz hk => xe_thrown (by first | exact Or.inl c_1 | exact Or.inr c_7) hP hK hD hS ht hz hk) hS.2.2 (by decide) (by decide)
  · skip
    refine lv_iload_n hx hb dX11_member_4 rfl (lv_at hl 3 rfl) ?_
    refine lv_bipush (v := 9) hx hb dX11_member_5 (by decide) ?_
    refine lv_icmp_le (tgt := 20) hx hb dX11_member_7 (by decide) (fun c_7 => ?_) (fun c_7 => ?_)
    · skip
      refine lv_aload_n hx hb dX11_member_20 rfl (lv_at hl 0 rfl) ?_
      refine va_get (D := D) (ci := 11) (v := .null) (C := RX11) (T := TX11) (N := 5) hx hb htb bi_X11 hown hK hP 0 rfl rfl 3 (by decide) (htb _ bg_48) (fun _ h9 => h9) rfl dX11_member_21 ?_
      refine lv_ifnonnullN hx hb dX11_member_24 ?_
      refine lv_null hx hb dX11_member_27 ?_
      refine lv_goto (tgt := 40) hx hb dX11_member_28 (by decide) ?_
      refine lv_astoreN (lv' := [(4, .null), (0, .ref h0), (1, .int x0), (2, .int x1), (3, .int x2)]) hx hb dX11_member_40 hl (by decide) rfl (fun ls hl => ?_)
      refine lv_aloadN hx hb dX11_member_42 (lv_at hl 0 rfl) ?_
      refine lv_ifnonnullN hx hb dX11_member_44 ?_
      refine lv_iconst (v := (-1)) hx hb dX11_member_47 (by decide) ?_
      refine lv_goto (tgt := 58) hx hb dX11_member_48 (by decide) ?_
      have hP9 := hP.sub (ws' := [(h0, .inr (11, [.ref qc, .int n, .ref fl, .null, .int wp]))]) [0] rfl
      have hD9 := hD.sub (ws' := [(h0, .inr (11, [.ref qc, .int n, .ref fl, .null, .int wp]))]) [0] rfl rfl
      have hK9 := hK.sub (tys' := []) [] rfl
      refine W.widen (k := 1) (n := 6) (by decide) (by decide) ?_
      refine vx_ret ?_
      exact W.iret (v := (-1)) hx hb hr (fun t ht hW => ⟨⟨(-1), (), rfl, ⟨rfl, c_1, c_7⟩, by rw [ht]; exact hP9, va_K.moved hW.alike hK9, hD9⟩, hS.F ht⟩) hS.2.2 dX11_member_58
    · skip
      exact vx_throwS (A := A) hx hb hnt hown (by decide) (by decide) (htb _ bg_24) (htb _ bg_25) (hE.2.2.2.2.2.2.1 16 (by decide)).1 (xe_hat hE htb) xe_ot hE.2.2.2.2.1 hE.2.2.2.2.2.1 hS (by rw [hml]; exact hl.1) dX11_member_10 dX11_member_13 dX11_member_14 dX11_member_16 dX11_member_19 (fun x hx => (hemp x hx).elim) (Nat.le_of_ble_eq_true rfl) (Nat.le_of_ble_eq_true rfl) (Nat.le_of_ble_eq_true rfl) (Nat.le_of_ble_eq_true rfl) hlocks (fun t ht hz hk => xe_thrown (by first | exact Or.inl c_1 | exact Or.inr c_7) hP hK hD hS ht hz hk) hS.2.2 (by decide) (by decide)
theorem dX11_row_0 : decode cX11_row 0 = .ok (.iload_n 3, 1) := by decide +kernel
theorem dX11_row_1 : decode cX11_row 1 = .ok (.ifCond .lt 8, 3) := by decide +kernel
theorem dX11_row_4 : decode cX11_row 4 = .ok (.iload_n 3, 1) := by decide +kernel
theorem dX11_row_5 : decode cX11_row 5 = .ok (.iconst 3, 1) := by decide +kernel
theorem dX11_row_6 : decode cX11_row 6 = .ok (.if_icmp .le 13, 3) := by decide +kernel
theorem dX11_row_9 : decode cX11_row 9 = .ok (.new 44, 3) := by decide +kernel
theorem dX11_row_12 : decode cX11_row 12 = .ok (.dup, 1) := by decide +kernel
theorem dX11_row_13 : decode cX11_row 13 = .ok (.ldc 209, 2) := by decide +kernel
theorem dX11_row_15 : decode cX11_row 15 = .ok (.invokespecial 48, 3) := by decide +kernel
theorem dX11_row_18 : decode cX11_row 18 = .ok (.athrow, 1) := by decide +kernel
theorem dX11_row_19 : decode cX11_row 19 = .ok (.aload_n 0, 1) := by decide +kernel
theorem dX11_row_20 : decode cX11_row 20 = .ok (.iload_n 1, 1) := by decide +kernel
theorem dX11_row_21 : decode cX11_row 21 = .ok (.invokevirtual 211, 3) := by decide +kernel
theorem dX11_row_24 : decode cX11_row 24 = .ok (.astore 4, 2) := by decide +kernel
theorem dX11_row_26 : decode cX11_row 26 = .ok (.aload 4, 2) := by decide +kernel
theorem dX11_row_28 : decode cX11_row 28 = .ok (.ifnull 16, 3) := by decide +kernel
theorem dX11_row_44 : decode cX11_row 44 = .ok (.iconst (-1), 1) := by decide +kernel
theorem dX11_row_45 : decode cX11_row 45 = .ok (.ireturn, 1) := by decide +kernel
set_option maxHeartbeats 4000000 in
set_option maxRecDepth 100000 in
theorem cg_row (l : Launch) (D : va_G) (g : xe_G) (h0 : Nat) (qc : Nat) (n : Int32) (fl : Nat) (wp : Int32) (x0 : Int32) (x1 : Int32) (x2 : Int32) (sz : Nat)  (hnt : l.stackTraces = false) : vx_Met l yX11_row (.code yX11_row cX11_row 5 (some .int) :: bg) ({ frames := 8, cells := 1, slots := 6, locals := 600 } : Room) (xb_Pre (xe_E g) D vwCl [(h0, .inr (11, [.ref qc, .int n, .ref fl, .null, .int wp]))] [] sz [.ref h0, .int x0, .int x1, .int x2]) (va_Qi (fun r _ => r = -1 ∧ ¬ x2 < 0 ∧ x2 ≤ 3) (xb_B D vwCl (va_A [(h0, .inr (11, [.ref qc, .int n, .ref fl, .null, .int wp]))] sz) (fun u : Unit => [(h0, .inr (11, [.ref qc, .int n, .ref fl, .null, .int wp]))]) (fun u : Unit => [])) (va_A [(h0, .inr (11, [.ref qc, .int n, .ref fl, .null, .int wp]))] sz)) (vx_X (fun _ : Unit => (x2 < 0 ∨ ¬ x2 ≤ 3)) (fun E (_ : Unit) t => E = "java/lang/IllegalArgumentException" ∧ xb_B D vwCl (va_A [(h0, .inr (11, [.ref qc, .int n, .ref fl, .null, .int wp]))] sz) (fun _ : Unit => [(h0, .inr (11, [.ref qc, .int n, .ref fl, .null, .int wp]))]) (fun _ : Unit => []) () t) (va_A [(h0, .inr (11, [.ref qc, .int n, .ref fl, .null, .int wp]))] sz)) 1 6 (va_A [(h0, .inr (11, [.ref qc, .int n, .ref fl, .null, .int wp]))] sz) := by
  refine vx_ofW (cc := cX11_row) (maxL := 5) (ret := (some .int)) (by decide) rfl ?_
  intro p e s m args below meth c s₁ B hml hemp hv
  obtain ⟨rfl, hsz, hP, hK, hD0, hE⟩ := hv
  have hx := B.exec
  have hb := B.bytes
  have hr := B.returns
  have hts := atoms_spec (ws := (.code yX11_row cX11_row 5 (some .int) :: bg)) B.pre
  have htb : ∀ w ∈ bg, w.before _ s = true := fun w h => hts w (List.mem_cons_of_mem _ h)
  have hown : s.vm.findClass RX11 = some m.cls := findClass_of_methodNamed B.named
  have hlocks := B.notSynchronized
  subst hsz
  have hD := hD0.self (sz := s.heap.size)
  generalize hAe : va_A [(h0, .inr (11, [.ref qc, .int n, .ref fl, .null, .int wp]))] s.heap.size = A at hD hE ⊢
  have hA : ∀ q : Nat, s.heap.size ≤ q → A q := fun q h => by rw [← hAe]; exact Or.inr h
  have hS : va_S A s.heap s.heap [] := va_S.rf
  have hP : va_P D vwCl [(h0, .inr (11, [.ref qc, .int n, .ref fl, .null, .int wp]))] s.heap := hP
  have hl := lv_entry ([.ref h0, .int x0, .int x1, .int x2]) (n := 5) (Nat.le_of_ble_eq_true rfl)
  rw [lg_entry_eq]
  generalize (lg_sl ([.ref h0, .int x0, .int x1, .int x2]) ++ List.replicate (5 - (lg_sl ([.ref h0, .int x0, .int x1, .int x2])).length) Slot.unset).toArray = ls at hl ⊢
  have hl : lv_has ls 5 [(0, .ref h0), (1, .int x0), (2, .int x1), (3, .int x2)] := hl
  refine lv_iload_n hx hb dX11_row_0 rfl (lv_at hl 3 rfl) ?_
  refine lv_if_lt (tgt := 9) hx hb dX11_row_1 (by decide) (fun c_1 => ?_) (fun c_1 => ?_)
  · skip
    exact vx_throwS (A := A) hx hb hnt hown (by decide) (by decide) (htb _ bg_24) (htb _ bg_25) (hE.2.2.2.2.2.2.1 17 (by decide)).1 (xe_hat hE htb) xe_ot hE.2.2.2.2.1 hE.2.2.2.2.2.1 hS (by rw [hml]; exact hl.1) dX11_row_9 dX11_row_12 dX11_row_13 dX11_row_15 dX11_row_18 (fun x hx => (hemp x hx).elim) (Nat.le_of_ble_eq_true rfl) (Nat.le_of_ble_eq_true rfl) (Nat.le_of_ble_eq_true rfl) (Nat.le_of_ble_eq_true rfl) hlocks (fun t ht hz hk => xe_thrown (by first | exact Or.inl c_1 | exact Or.inr c_6) hP hK hD hS ht hz hk) hS.2.2 (by decide) (by decide)
  · skip
    refine lv_iload_n hx hb dX11_row_4 rfl (lv_at hl 3 rfl) ?_
    refine lv_iconst (v := 3) hx hb dX11_row_5 (by decide) ?_
    refine lv_icmp_le (tgt := 19) hx hb dX11_row_6 (by decide) (fun c_6 => ?_) (fun c_6 => ?_)
    · skip
      refine lv_aload_n hx hb dX11_row_19 rfl (lv_at hl 0 rfl) ?_
      refine lv_iload_n hx hb dX11_row_20 rfl (lv_at hl 1 rfl) ?_
      refine xb_goq (wr := []) (va_runV (As := [.int x0]) (rest := []) ⟨hx, hb, hml, hown, htb⟩ (cg_codeOf l D g h0 qc n fl wp x0 (Array.size s.heap) ) (bg_V 1 htb bg_76 bg_78 bg_79 bg_18 bg_77 rfl rfl (by decide +kernel) ⟨Nat.le_of_ble_eq_true rfl, Nat.le_of_ble_eq_true rfl⟩) ⟨xb_blind xe_ok, va_recv hK hP (ci := 11) (q0 := 0) rfl rfl, xb_enter xe_ok hK hP hD hS hA hE [0] rfl rfl rfl [] rfl⟩ rfl rfl hl.1 rfl (lv_room (Nat.le_of_ble_eq_true rfl)) dX11_row_21 ⟨Nat.le_of_ble_eq_true rfl, Nat.le_of_ble_eq_true rfl⟩) hK hP hD hS hA [0] [] rfl rfl rfl (by decide) (fun r_21 u_21 H locs hw_21 hP hD hK hS => ?_)
      have hP : va_P D vwCl [(h0, .inr (11, [.ref qc, .int n, .ref fl, .null, .int wp]))] H := hP
      have hD : va_D A [(h0, .inr (11, [.ref qc, .int n, .ref fl, .null, .int wp]))] := hD
      have hK : va_K D vwCl [] s := hK
      refine W.widen (k := 0) (n := 0) (by decide) (by decide) ?_
      have hw_21 : r_21 = none := hw_21
      subst hw_21
      refine lv_astoreN (lv' := [(4, .null), (0, .ref h0), (1, .int x0), (2, .int x1), (3, .int x2)]) hx hb dX11_row_24 hl (by decide) rfl (fun ls hl => ?_)
      refine lv_aloadN hx hb dX11_row_26 (lv_at hl 0 rfl) ?_
      refine lv_ifnullN (tgt := 44) hx hb dX11_row_28 (by decide) ?_
      refine lv_iconst (v := (-1)) hx hb dX11_row_44 (by decide) ?_
      have hP9 := hP.sub (ws' := [(h0, .inr (11, [.ref qc, .int n, .ref fl, .null, .int wp]))]) [0] rfl
      have hD9 := hD.sub (ws' := [(h0, .inr (11, [.ref qc, .int n, .ref fl, .null, .int wp]))]) [0] rfl rfl
      have hK9 := hK.sub (tys' := []) [] rfl
      refine W.widen (k := 1) (n := 6) (by decide) (by decide) ?_
      refine vx_ret ?_
      exact W.iret (v := (-1)) hx hb hr (fun t ht hW => ⟨⟨(-1), (), rfl, ⟨rfl, c_1, c_6⟩, by rw [ht]; exact hP9, va_K.moved hW.alike hK9, hD9⟩, hS.F ht⟩) hS.2.2 dX11_row_45
    · skip
      exact vx_throwS (A := A) hx hb hnt hown (by decide) (by decide) (htb _ bg_24) (htb _ bg_25) (hE.2.2.2.2.2.2.1 17 (by decide)).1 (xe_hat hE htb) xe_ot hE.2.2.2.2.1 hE.2.2.2.2.2.1 hS (by rw [hml]; exact hl.1) dX11_row_9 dX11_row_12 dX11_row_13 dX11_row_15 dX11_row_18 (fun x hx => (hemp x hx).elim) (Nat.le_of_ble_eq_true rfl) (Nat.le_of_ble_eq_true rfl) (Nat.le_of_ble_eq_true rfl) (Nat.le_of_ble_eq_true rfl) hlocks (fun t ht hz hk => xe_thrown (by first | exact Or.inl c_1 | exact Or.inr c_6) hP hK hD hS ht hz hk) hS.2.2 (by decide) (by decide)
theorem dX11_instruction_0 : decode cX11_instruction 0 = .ok (.iload_n 3, 1) := by decide +kernel
theorem dX11_instruction_1 : decode cX11_instruction 1 = .ok (.ifCond .lt 8, 3) := by decide +kernel
theorem dX11_instruction_4 : decode cX11_instruction 4 = .ok (.iload_n 3, 1) := by decide +kernel
theorem dX11_instruction_5 : decode cX11_instruction 5 = .ok (.iconst 4, 1) := by decide +kernel
theorem dX11_instruction_6 : decode cX11_instruction 6 = .ok (.if_icmp .le 13, 3) := by decide +kernel
theorem dX11_instruction_9 : decode cX11_instruction 9 = .ok (.new 44, 3) := by decide +kernel
theorem dX11_instruction_12 : decode cX11_instruction 12 = .ok (.dup, 1) := by decide +kernel
theorem dX11_instruction_13 : decode cX11_instruction 13 = .ok (.ldc 237, 2) := by decide +kernel
theorem dX11_instruction_15 : decode cX11_instruction 15 = .ok (.invokespecial 48, 3) := by decide +kernel
theorem dX11_instruction_18 : decode cX11_instruction 18 = .ok (.athrow, 1) := by decide +kernel
theorem dX11_instruction_19 : decode cX11_instruction 19 = .ok (.aload_n 0, 1) := by decide +kernel
theorem dX11_instruction_20 : decode cX11_instruction 20 = .ok (.iload_n 1, 1) := by decide +kernel
theorem dX11_instruction_21 : decode cX11_instruction 21 = .ok (.invokevirtual 211, 3) := by decide +kernel
theorem dX11_instruction_24 : decode cX11_instruction 24 = .ok (.astore 4, 2) := by decide +kernel
theorem dX11_instruction_26 : decode cX11_instruction 26 = .ok (.aload 4, 2) := by decide +kernel
theorem dX11_instruction_28 : decode cX11_instruction 28 = .ok (.ifnull 16, 3) := by decide +kernel
theorem dX11_instruction_44 : decode cX11_instruction 44 = .ok (.iconst (-1), 1) := by decide +kernel
theorem dX11_instruction_45 : decode cX11_instruction 45 = .ok (.goto 10, 3) := by decide +kernel
theorem dX11_instruction_55 : decode cX11_instruction 55 = .ok (.ireturn, 1) := by decide +kernel
set_option maxHeartbeats 4000000 in
set_option maxRecDepth 100000 in
theorem cg_instruction (l : Launch) (D : va_G) (g : xe_G) (h0 : Nat) (qc : Nat) (n : Int32) (fl : Nat) (wp : Int32) (x0 : Int32) (x1 : Int32) (x2 : Int32) (sz : Nat)  (hnt : l.stackTraces = false) : vx_Met l yX11_instruction (.code yX11_instruction cX11_instruction 5 (some .int) :: bg) ({ frames := 8, cells := 1, slots := 6, locals := 600 } : Room) (xb_Pre (xe_E g) D vwCl [(h0, .inr (11, [.ref qc, .int n, .ref fl, .null, .int wp]))] [] sz [.ref h0, .int x0, .int x1, .int x2]) (va_Qi (fun r _ => r = -1 ∧ ¬ x2 < 0 ∧ x2 ≤ 4) (xb_B D vwCl (va_A [(h0, .inr (11, [.ref qc, .int n, .ref fl, .null, .int wp]))] sz) (fun u : Unit => [(h0, .inr (11, [.ref qc, .int n, .ref fl, .null, .int wp]))]) (fun u : Unit => [])) (va_A [(h0, .inr (11, [.ref qc, .int n, .ref fl, .null, .int wp]))] sz)) (vx_X (fun _ : Unit => (x2 < 0 ∨ ¬ x2 ≤ 4)) (fun E (_ : Unit) t => E = "java/lang/IllegalArgumentException" ∧ xb_B D vwCl (va_A [(h0, .inr (11, [.ref qc, .int n, .ref fl, .null, .int wp]))] sz) (fun _ : Unit => [(h0, .inr (11, [.ref qc, .int n, .ref fl, .null, .int wp]))]) (fun _ : Unit => []) () t) (va_A [(h0, .inr (11, [.ref qc, .int n, .ref fl, .null, .int wp]))] sz)) 1 6 (va_A [(h0, .inr (11, [.ref qc, .int n, .ref fl, .null, .int wp]))] sz) := by
  refine vx_ofW (cc := cX11_instruction) (maxL := 5) (ret := (some .int)) (by decide) rfl ?_
  intro p e s m args below meth c s₁ B hml hemp hv
  obtain ⟨rfl, hsz, hP, hK, hD0, hE⟩ := hv
  have hx := B.exec
  have hb := B.bytes
  have hr := B.returns
  have hts := atoms_spec (ws := (.code yX11_instruction cX11_instruction 5 (some .int) :: bg)) B.pre
  have htb : ∀ w ∈ bg, w.before _ s = true := fun w h => hts w (List.mem_cons_of_mem _ h)
  have hown : s.vm.findClass RX11 = some m.cls := findClass_of_methodNamed B.named
  have hlocks := B.notSynchronized
  subst hsz
  have hD := hD0.self (sz := s.heap.size)
  generalize hAe : va_A [(h0, .inr (11, [.ref qc, .int n, .ref fl, .null, .int wp]))] s.heap.size = A at hD hE ⊢
  have hA : ∀ q : Nat, s.heap.size ≤ q → A q := fun q h => by rw [← hAe]; exact Or.inr h
  have hS : va_S A s.heap s.heap [] := va_S.rf
  have hP : va_P D vwCl [(h0, .inr (11, [.ref qc, .int n, .ref fl, .null, .int wp]))] s.heap := hP
  have hl := lv_entry ([.ref h0, .int x0, .int x1, .int x2]) (n := 5) (Nat.le_of_ble_eq_true rfl)
  rw [lg_entry_eq]
  generalize (lg_sl ([.ref h0, .int x0, .int x1, .int x2]) ++ List.replicate (5 - (lg_sl ([.ref h0, .int x0, .int x1, .int x2])).length) Slot.unset).toArray = ls at hl ⊢
  have hl : lv_has ls 5 [(0, .ref h0), (1, .int x0), (2, .int x1), (3, .int x2)] := hl
  refine lv_iload_n hx hb dX11_instruction_0 rfl (lv_at hl 3 rfl) ?_
  refine lv_if_lt (tgt := 9) hx hb dX11_instruction_1 (by decide) (fun c_1 => ?_) (fun c_1 => ?_)
  · skip
    exact vx_throwS (A := A) hx hb hnt hown (by decide) (by decide) (htb _ bg_24) (htb _ bg_25) (hE.2.2.2.2.2.2.1 18 (by decide)).1 (xe_hat hE htb) xe_ot hE.2.2.2.2.1 hE.2.2.2.2.2.1 hS (by rw [hml]; exact hl.1) dX11_instruction_9 dX11_instruction_12 dX11_instruction_13 dX11_instruction_15 dX11_instruction_18 (fun x hx => (hemp x hx).elim) (Nat.le_of_ble_eq_true rfl) (Nat.le_of_ble_eq_true rfl) (Nat.le_of_ble_eq_true rfl) (Nat.le_of_ble_eq_true rfl) hlocks (fun t ht hz hk => xe_thrown (by first | exact Or.inl c_1 | exact Or.inr c_6) hP hK hD hS ht hz hk) hS.2.2 (by decide) (by decide)
  · skip
    refine lv_iload_n hx hb dX11_instruction_4 rfl (lv_at hl 3 rfl) ?_
    refine lv_iconst (v := 4) hx hb dX11_instruction_5 (by decide) ?_
    refine lv_icmp_le (tgt := 19) hx hb dX11_instruction_6 (by decide) (fun c_6 => ?_) (fun c_6 => ?_)
    · skip
      refine lv_aload_n hx hb dX11_instruction_19 rfl (lv_at hl 0 rfl) ?_
      refine lv_iload_n hx hb dX11_instruction_20 rfl (lv_at hl 1 rfl) ?_
      refine xb_goq (wr := []) (va_runV (As := [.int x0]) (rest := []) ⟨hx, hb, hml, hown, htb⟩ (cg_codeOf l D g h0 qc n fl wp x0 (Array.size s.heap) ) (bg_V 1 htb bg_76 bg_78 bg_79 bg_18 bg_77 rfl rfl (by decide +kernel) ⟨Nat.le_of_ble_eq_true rfl, Nat.le_of_ble_eq_true rfl⟩) ⟨xb_blind xe_ok, va_recv hK hP (ci := 11) (q0 := 0) rfl rfl, xb_enter xe_ok hK hP hD hS hA hE [0] rfl rfl rfl [] rfl⟩ rfl rfl hl.1 rfl (lv_room (Nat.le_of_ble_eq_true rfl)) dX11_instruction_21 ⟨Nat.le_of_ble_eq_true rfl, Nat.le_of_ble_eq_true rfl⟩) hK hP hD hS hA [0] [] rfl rfl rfl (by decide) (fun r_21 u_21 H locs hw_21 hP hD hK hS => ?_)
      have hP : va_P D vwCl [(h0, .inr (11, [.ref qc, .int n, .ref fl, .null, .int wp]))] H := hP
      have hD : va_D A [(h0, .inr (11, [.ref qc, .int n, .ref fl, .null, .int wp]))] := hD
      have hK : va_K D vwCl [] s := hK
      refine W.widen (k := 0) (n := 0) (by decide) (by decide) ?_
      have hw_21 : r_21 = none := hw_21
      subst hw_21
      refine lv_astoreN (lv' := [(4, .null), (0, .ref h0), (1, .int x0), (2, .int x1), (3, .int x2)]) hx hb dX11_instruction_24 hl (by decide) rfl (fun ls hl => ?_)
      refine lv_aloadN hx hb dX11_instruction_26 (lv_at hl 0 rfl) ?_
      refine lv_ifnullN (tgt := 44) hx hb dX11_instruction_28 (by decide) ?_
      refine lv_iconst (v := (-1)) hx hb dX11_instruction_44 (by decide) ?_
      refine lv_goto (tgt := 55) hx hb dX11_instruction_45 (by decide) ?_
      have hP9 := hP.sub (ws' := [(h0, .inr (11, [.ref qc, .int n, .ref fl, .null, .int wp]))]) [0] rfl
      have hD9 := hD.sub (ws' := [(h0, .inr (11, [.ref qc, .int n, .ref fl, .null, .int wp]))]) [0] rfl rfl
      have hK9 := hK.sub (tys' := []) [] rfl
      refine W.widen (k := 1) (n := 6) (by decide) (by decide) ?_
      refine vx_ret ?_
      exact W.iret (v := (-1)) hx hb hr (fun t ht hW => ⟨⟨(-1), (), rfl, ⟨rfl, c_1, c_6⟩, by rw [ht]; exact hP9, va_K.moved hW.alike hK9, hD9⟩, hS.F ht⟩) hS.2.2 dX11_instruction_55
    · skip
      exact vx_throwS (A := A) hx hb hnt hown (by decide) (by decide) (htb _ bg_24) (htb _ bg_25) (hE.2.2.2.2.2.2.1 18 (by decide)).1 (xe_hat hE htb) xe_ot hE.2.2.2.2.1 hE.2.2.2.2.2.1 hS (by rw [hml]; exact hl.1) dX11_instruction_9 dX11_instruction_12 dX11_instruction_13 dX11_instruction_15 dX11_instruction_18 (fun x hx => (hemp x hx).elim) (Nat.le_of_ble_eq_true rfl) (Nat.le_of_ble_eq_true rfl) (Nat.le_of_ble_eq_true rfl) (Nat.le_of_ble_eq_true rfl) hlocks (fun t ht hz hk => xe_thrown (by first | exact Or.inl c_1 | exact Or.inr c_6) hP hK hD hS ht hz hk) hS.2.2 (by decide) (by decide)
theorem dX11_end_0 : decode cX11_end 0 = .ok (.iload_n 1, 1) := by decide +kernel
theorem dX11_end_1 : decode cX11_end 1 = .ok (.ifCond .lt 11, 3) := by decide +kernel
theorem dX11_end_4 : decode cX11_end 4 = .ok (.iload_n 1, 1) := by decide +kernel
theorem dX11_end_5 : decode cX11_end 5 = .ok (.aload_n 0, 1) := by decide +kernel
theorem dX11_end_6 : decode cX11_end 6 = .ok (.getfield 23, 3) := by decide +kernel
theorem dX11_end_9 : decode cX11_end 9 = .ok (.if_icmp .le 13, 3) := by decide +kernel
theorem dX11_end_12 : decode cX11_end 12 = .ok (.new 44, 3) := by decide +kernel
theorem dX11_end_15 : decode cX11_end 15 = .ok (.dup, 1) := by decide +kernel
theorem dX11_end_16 : decode cX11_end 16 = .ok (.ldc 46, 2) := by decide +kernel
theorem dX11_end_18 : decode cX11_end 18 = .ok (.invokespecial 48, 3) := by decide +kernel
theorem dX11_end_21 : decode cX11_end 21 = .ok (.athrow, 1) := by decide +kernel
theorem dX11_end_22 : decode cX11_end 22 = .ok (.aload_n 0, 1) := by decide +kernel
theorem dX11_end_23 : decode cX11_end 23 = .ok (.aload_n 0, 1) := by decide +kernel
theorem dX11_end_24 : decode cX11_end 24 = .ok (.getfield 9, 3) := by decide +kernel
theorem dX11_end_27 : decode cX11_end 27 = .ok (.iload_n 1, 1) := by decide +kernel
theorem dX11_end_28 : decode cX11_end 28 = .ok (.invokestatic 38, 3) := by decide +kernel
theorem dX11_end_31 : decode cX11_end 31 = .ok (.putfield 16, 3) := by decide +kernel
theorem dX11_end_34 : decode cX11_end 34 = .ok (.aload_n 0, 1) := by decide +kernel
theorem dX11_end_35 : decode cX11_end 35 = .ok (.iconst 0, 1) := by decide +kernel
theorem dX11_end_36 : decode cX11_end 36 = .ok (.putfield 23, 3) := by decide +kernel
theorem dX11_end_39 : decode cX11_end 39 = .ok (.iload_n 1, 1) := by decide +kernel
theorem dX11_end_40 : decode cX11_end 40 = .ok (.ireturn, 1) := by decide +kernel
set_option maxHeartbeats 4000000 in
set_option maxRecDepth 100000 in
theorem cg_end (l : Launch) (D : va_G) (g : xe_G) (h0 : Nat) (qc : Nat) (fl : Nat) (wp : Int32) (cB : ClassId) (f : Nat → Int32) (x0 : Int32) (sz : Nat)  (hnt : l.stackTraces = false) : vx_Met l yX11_end (.code yX11_end cX11_end 2 (some .int) :: bg) ({ frames := 8, cells := 1, slots := 6, locals := 600 } : Room) (xb_Pre (xe_E g) D vwCl [(h0, .inr (11, [.ref qc, .int 0, .ref fl, .null, .int wp])), (qc, .inl (cB, 1024, .inl f))] [(cB, .byte)] sz [.ref h0, .int x0]) (va_Qi (fun r _ => r = 0 ∧ ¬ x0 < 0 ∧ x0 ≤ 0) (xb_B D vwCl (va_A [(h0, .inr (11, [.ref qc, .int 0, .ref fl, .null, .int wp])), (qc, .inl (cB, 1024, .inl f))] sz) (fun u : Nat × ClassId × (Nat → Int32) => [(h0, .inr (11, [.ref qc, .int 0, .ref u.1, .null, .int wp])), (qc, .inl (cB, 1024, .inl f)), (u.1, .inl (u.2.1, 0, .inl u.2.2))]) (fun u : Nat × ClassId × (Nat → Int32) => [(cB, .byte), (u.2.1, .byte)])) (va_A [(h0, .inr (11, [.ref qc, .int 0, .ref fl, .null, .int wp])), (qc, .inl (cB, 1024, .inl f))] sz)) (vx_X (fun _ : Unit => (x0 < 0 ∨ ¬ x0 ≤ 0)) (fun E (_ : Unit) t => E = "java/lang/IllegalArgumentException" ∧ xb_B D vwCl (va_A [(h0, .inr (11, [.ref qc, .int 0, .ref fl, .null, .int wp])), (qc, .inl (cB, 1024, .inl f))] sz) (fun _ : Unit => [(h0, .inr (11, [.ref qc, .int 0, .ref fl, .null, .int wp])), (qc, .inl (cB, 1024, .inl f))]) (fun _ : Unit => [(cB, .byte)]) () t) (va_A [(h0, .inr (11, [.ref qc, .int 0, .ref fl, .null, .int wp])), (qc, .inl (cB, 1024, .inl f))] sz)) 1 6 (va_A [(h0, .inr (11, [.ref qc, .int 0, .ref fl, .null, .int wp])), (qc, .inl (cB, 1024, .inl f))] sz) := by
  refine vx_ofW (cc := cX11_end) (maxL := 2) (ret := (some .int)) (by decide) rfl ?_
  intro p e s m args below meth c s₁ B hml hemp hv
  obtain ⟨rfl, hsz, hP, hK, hD0, hE⟩ := hv
  have hx := B.exec
  have hb := B.bytes
  have hr := B.returns
  have hts := atoms_spec (ws := (.code yX11_end cX11_end 2 (some .int) :: bg)) B.pre
  have htb : ∀ w ∈ bg, w.before _ s = true := fun w h => hts w (List.mem_cons_of_mem _ h)
  have hown : s.vm.findClass RX11 = some m.cls := findClass_of_methodNamed B.named
  have hlocks := B.notSynchronized
  subst hsz
  have hD := hD0.self (sz := s.heap.size)
  generalize hAe : va_A [(h0, .inr (11, [.ref qc, .int 0, .ref fl, .null, .int wp])), (qc, .inl (cB, 1024, .inl f))] s.heap.size = A at hD hE ⊢
  have hA : ∀ q : Nat, s.heap.size ≤ q → A q := fun q h => by rw [← hAe]; exact Or.inr h
  have hS : va_S A s.heap s.heap [] := va_S.rf
  have hP : va_P D vwCl [(h0, .inr (11, [.ref qc, .int 0, .ref fl, .null, .int wp])), (qc, .inl (cB, 1024, .inl f))] s.heap := hP
  have hl := lv_entry ([.ref h0, .int x0]) (n := 2) (Nat.le_of_ble_eq_true rfl)
  rw [lg_entry_eq]
  generalize (lg_sl ([.ref h0, .int x0]) ++ List.replicate (2 - (lg_sl ([.ref h0, .int x0])).length) Slot.unset).toArray = ls at hl ⊢
  have hl : lv_has ls 2 [(0, .ref h0), (1, .int x0)] := hl
  refine lv_iload_n hx hb dX11_end_0 rfl (lv_at hl 1 rfl) ?_
  refine lv_if_lt (tgt := 12) hx hb dX11_end_1 (by decide) (fun c_1 => ?_) (fun c_1 => ?_)
  · skip
    exact vx_throwS (A := A) hx hb hnt hown (by decide) (by decide) (htb _ bg_24) (htb _ bg_25) (hE.2.2.2.2.2.2.1 13 (by decide)).1 (xe_hat hE htb) xe_ot hE.2.2.2.2.1 hE.2.2.2.2.2.1 hS (by rw [hml]; exact hl.1) dX11_end_12 dX11_end_15 dX11_end_16 dX11_end_18 dX11_end_21 (fun x hx => (hemp x hx).elim) (Nat.le_of_ble_eq_true rfl) (Nat.le_of_ble_eq_true rfl) (Nat.le_of_ble_eq_true rfl) (Nat.le_of_ble_eq_true rfl) hlocks (fun t ht hz hk => xe_thrown (by first | exact Or.inl c_1 | exact Or.inr c_9) hP hK hD hS ht hz hk) hS.2.2 (by decide) (by decide)
  · skip
    refine lv_iload_n hx hb dX11_end_4 rfl (lv_at hl 1 rfl) ?_
    refine lv_aload_n hx hb dX11_end_5 rfl (lv_at hl 0 rfl) ?_
    refine va_get (D := D) (ci := 11) (v := .int 0) (C := RX11) (T := TX11) (N := 5) hx hb htb bi_X11 hown hK hP 0 rfl rfl 1 (by decide) (htb _ bg_10) (fun _ h9 => h9) rfl dX11_end_6 ?_
    refine lv_icmp_le (tgt := 22) hx hb dX11_end_9 (by decide) (fun c_9 => ?_) (fun c_9 => ?_)
    · skip
      have hx0 : x0 = 0 := Int32.le_antisymm c_9 (Int32.not_lt.mp c_1)
      subst hx0
      refine lv_aload_n hx hb dX11_end_22 rfl (lv_at hl 0 rfl) ?_
      refine lv_aload_n hx hb dX11_end_23 rfl (lv_at hl 0 rfl) ?_
      refine va_get (D := D) (ci := 11) (v := .ref qc) (C := RX11) (T := TX11) (N := 5) hx hb htb bi_X11 hown hK hP 0 rfl rfl 0 (by decide) (htb _ bg_5) (fun _ h9 => h9) rfl dX11_end_24 ?_
      refine lv_iload_n hx hb dX11_end_27 rfl (lv_at hl 1 rfl) ?_
      refine xb_goq (wr := [(h0, .inr (11, [.ref qc, .int 0, .ref fl, .null, .int wp]))]) (va_runS (As := [.ref qc, .int 0]) (rest := [.ref h0]) ⟨hx, hb, hml, hown, htb⟩ (cj_copyOf l D g qc cB f (Array.size s.heap) ) (bg_S 2 htb bg_19 bg_21 bg_22 bg_20 rfl rfl (by decide +kernel) ⟨Nat.le_of_ble_eq_true rfl, Nat.le_of_ble_eq_true rfl⟩) ⟨xb_blind xe_ok, xb_enter xe_ok hK hP hD hS hA hE [1] rfl rfl rfl [0] rfl⟩ rfl rfl hl.1 rfl (lv_room (Nat.le_of_ble_eq_true rfl)) dX11_end_28 ⟨Nat.le_of_ble_eq_true rfl, Nat.le_of_ble_eq_true rfl⟩) hK hP hD hS hA [1] [0] rfl rfl rfl (by decide) (fun r_28 u_28 H locs hw_28 hP hD hK hS => ?_)
      obtain ⟨v1, v2, v3⟩ := u_28
      have hP : va_P D vwCl [(h0, .inr (11, [.ref qc, .int 0, .ref fl, .null, .int wp])), (qc, .inl (cB, 1024, .inl f)), (v1, .inl (v2, 0, .inl v3))] H := hP
      have hD : va_D A [(h0, .inr (11, [.ref qc, .int 0, .ref fl, .null, .int wp])), (qc, .inl (cB, 1024, .inl f)), (v1, .inl (v2, 0, .inl v3))] := hD
      have hK : va_K D vwCl [(cB, .byte), (cB, .byte), (v2, .byte)] s := hK
      refine W.widen (k := 1) (n := 0) (by decide) (by decide) ?_
      have hw_28 : r_28 = some v1 := hw_28
      subst hw_28
      have hK := hK.sub (tys' := [(cB, .byte), (v2, .byte)]) [0, 2] rfl
      refine va_put (D := D) (ci := 11) (v := .ref v1) (ty := tyX11 2) (C := RX11) (T := TX11) (N := 5) hx hb htb bi_X11 tyX11 tyX11_ok nmX11 hown hK hP hD hS 0 rfl rfl 2 (by decide) (htb _ bg_7) (fun _ h9 => h9) rfl (tyX11_ok 2 (by decide)) rfl rfl (Nat.le_of_ble_eq_true rfl) dX11_end_31 (fun H locs hP hD hS => ?_)
      have hP : va_P D vwCl [(h0, .inr (11, [.ref qc, .int 0, .ref v1, .null, .int wp])), (qc, .inl (cB, 1024, .inl f)), (v1, .inl (v2, 0, .inl v3))] H := hP
      have hD : va_D A [(h0, .inr (11, [.ref qc, .int 0, .ref v1, .null, .int wp])), (qc, .inl (cB, 1024, .inl f)), (v1, .inl (v2, 0, .inl v3))] := hD
      refine lv_aload_n hx hb dX11_end_34 rfl (lv_at hl 0 rfl) ?_
      refine lv_iconst (v := 0) hx hb dX11_end_35 (by decide) ?_
      refine va_put (D := D) (ci := 11) (v := .int 0) (ty := tyX11 1) (C := RX11) (T := TX11) (N := 5) hx hb htb bi_X11 tyX11 tyX11_ok nmX11 hown hK hP hD hS 0 rfl rfl 1 (by decide) (htb _ bg_10) (fun _ h9 => h9) rfl (tyX11_ok 1 (by decide)) rfl rfl (Nat.le_of_ble_eq_true rfl) dX11_end_36 (fun H locs hP hD hS => ?_)
      have hP : va_P D vwCl [(h0, .inr (11, [.ref qc, .int 0, .ref v1, .null, .int wp])), (qc, .inl (cB, 1024, .inl f)), (v1, .inl (v2, 0, .inl v3))] H := hP
      have hD : va_D A [(h0, .inr (11, [.ref qc, .int 0, .ref v1, .null, .int wp])), (qc, .inl (cB, 1024, .inl f)), (v1, .inl (v2, 0, .inl v3))] := hD
      refine lv_iload_n hx hb dX11_end_39 rfl (lv_at hl 1 rfl) ?_
      have hP9 := hP.sub (ws' := [(h0, .inr (11, [.ref qc, .int 0, .ref v1, .null, .int wp])), (qc, .inl (cB, 1024, .inl f)), (v1, .inl (v2, 0, .inl v3))]) [0, 1, 2] rfl
      have hD9 := hD.sub (ws' := [(h0, .inr (11, [.ref qc, .int 0, .ref v1, .null, .int wp])), (qc, .inl (cB, 1024, .inl f)), (v1, .inl (v2, 0, .inl v3))]) [0, 1, 2] rfl rfl
      have hK9 := hK.sub (tys' := [(cB, .byte), (v2, .byte)]) [0, 1] rfl
      refine W.widen (k := 1) (n := 6) (by decide) (by decide) ?_
      refine vx_ret ?_
      exact W.iret (v := 0) hx hb hr (fun t ht hW => ⟨⟨0, (v1, v2, v3), rfl, ⟨rfl, c_1, c_9⟩, by rw [ht]; exact hP9, va_K.moved hW.alike hK9, hD9⟩, hS.F ht⟩) hS.2.2 dX11_end_40
    · skip
      exact vx_throwS (A := A) hx hb hnt hown (by decide) (by decide) (htb _ bg_24) (htb _ bg_25) (hE.2.2.2.2.2.2.1 13 (by decide)).1 (xe_hat hE htb) xe_ot hE.2.2.2.2.1 hE.2.2.2.2.2.1 hS (by rw [hml]; exact hl.1) dX11_end_12 dX11_end_15 dX11_end_16 dX11_end_18 dX11_end_21 (fun x hx => (hemp x hx).elim) (Nat.le_of_ble_eq_true rfl) (Nat.le_of_ble_eq_true rfl) (Nat.le_of_ble_eq_true rfl) (Nat.le_of_ble_eq_true rfl) hlocks (fun t ht hz hk => xe_thrown (by first | exact Or.inl c_1 | exact Or.inr c_9) hP hK hD hS ht hz hk) hS.2.2 (by decide) (by decide)
end
section
theorem dX1_init_0 : decode cX1_init 0 = .ok (.aload_n 0, 1) := by decide +kernel
theorem dX1_init_1 : decode cX1_init 1 = .ok (.invokespecial 1, 3) := by decide +kernel
theorem dX1_init_4 : decode cX1_init 4 = .ok (.aload_n 0, 1) := by decide +kernel
theorem dX1_init_5 : decode cX1_init 5 = .ok (.aload_n 1, 1) := by decide +kernel
theorem dX1_init_6 : decode cX1_init 6 = .ok (.putfield 7, 3) := by decide +kernel
theorem dX1_init_9 : decode cX1_init 9 = .ok (.return_, 1) := by decide +kernel
set_option maxHeartbeats 4000000 in
set_option maxRecDepth 100000 in
theorem cb_init (l : Launch) (D : va_G) (g : xe_G) (b0 : Nat) (d0 : Nat) (sz : Nat)  : Met l yX1_init (.code yX1_init cX1_init 2 none :: bg) ({ frames := 2, cells := 0, slots := 0, locals := 240 } : Room) (xb_Pre (xe_E g) D vwCl [(b0, .inr (1, [.null]))] [] sz [.ref b0, .ref d0]) (va_Qv (fun _ => True) (xb_B D vwCl (va_A [(b0, .inr (1, [.null]))] sz) (fun u : Unit => [(b0, .inr (1, [.ref d0]))]) (fun u : Unit => [])) (va_A [(b0, .inr (1, [.null]))] sz)) 0 0 (va_A [(b0, .inr (1, [.null]))] sz) := by
  refine Met.ofW (cc := cX1_init) (maxL := 2) (ret := none) (by decide) rfl ?_
  intro p e s m args below meth c s₁ B hml hv
  obtain ⟨rfl, hsz, hP, hK, hD0, hE⟩ := hv
  have hx := B.exec
  have hb := B.bytes
  have hr := B.returns
  have hts := atoms_spec (ws := (.code yX1_init cX1_init 2 none :: bg)) B.pre
  have htb : ∀ w ∈ bg, w.before _ s = true := fun w h => hts w (List.mem_cons_of_mem _ h)
  have hown : s.vm.findClass RX1 = some m.cls := findClass_of_methodNamed B.named
  have hlocks := B.notSynchronized
  have hin : meth.name = "<init>" := (name_of_methodNamed B.named B.method).1
  subst hsz
  have hD := hD0.self (sz := s.heap.size)
  generalize hAe : va_A [(b0, .inr (1, [.null]))] s.heap.size = A at hD hE ⊢
  have hA : ∀ q : Nat, s.heap.size ≤ q → A q := fun q h => by rw [← hAe]; exact Or.inr h
  have hS : va_S A s.heap s.heap [] := va_S.rf
  have hP : va_P D vwCl [(b0, .inr (1, [.null]))] s.heap := hP
  have hl := lv_entry ([.ref b0, .ref d0]) (n := 2) (Nat.le_of_ble_eq_true rfl)
  rw [lg_entry_eq]
  generalize (lg_sl ([.ref b0, .ref d0]) ++ List.replicate (2 - (lg_sl ([.ref b0, .ref d0])).length) Slot.unset).toArray = ls at hl ⊢
  have hl : lv_has ls 2 [(0, .ref b0), (1, .ref d0)] := hl
  refine lv_aload_n hx hb dX1_init_0 rfl (lv_at hl 0 rfl) ?_
  refine W.objInit hx hb hown (htb _ bg_246) (htb _ bg_3) (htb _ bg_2) rfl (by rw [hml]; exact hl.1) rfl dX1_init_1 (Nat.le_of_ble_eq_true rfl) (Nat.le_of_ble_eq_true rfl) ?_
  refine W.eq (g2 := F0 m 4 ls []) rfl ?_
  refine lv_aload_n hx hb dX1_init_4 rfl (lv_at hl 0 rfl) ?_
  refine lv_aload_n hx hb dX1_init_5 rfl (lv_at hl 1 rfl) ?_
  refine va_putF (D := D) (ci := 1) (v := .ref d0) (ty := tyX1 0) (C := RX1) (T := TX1) (N := 1) hx hb htb bi_X1 tyX1 tyX1_ok nmX1 hown hK hP hD hS 0 rfl rfl 0 (by decide) (htb _ bg_247) (fun _ h9 => h9) rfl hin rfl (tyX1_ok 0 (by decide)) rfl rfl (Nat.le_of_ble_eq_true rfl) dX1_init_6 (fun H locs hP hD hS => ?_)
  have hP : va_P D vwCl [(b0, .inr (1, [.ref d0]))] H := hP
  have hD : va_D A [(b0, .inr (1, [.ref d0]))] := hD
  have hP9 := hP.sub (ws' := [(b0, .inr (1, [.ref d0]))]) [0] rfl
  have hD9 := hD.sub (ws' := [(b0, .inr (1, [.ref d0]))]) [0] rfl rfl
  have hK9 := hK.sub (tys' := []) [] rfl
  exact W.vret hx hb hr (fun t ht hW => ⟨⟨(), rfl, trivial, by rw [ht]; exact hP9, va_K.moved hW.alike hK9, hD9⟩, hS.F ht⟩) hS.2.2 dX1_init_9
theorem dX1_size_0 : decode cX1_size 0 = .ok (.aload_n 0, 1) := by decide +kernel
theorem dX1_size_1 : decode cX1_size 1 = .ok (.getfield 7, 3) := by decide +kernel
theorem dX1_size_4 : decode cX1_size 4 = .ok (.arraylength, 1) := by decide +kernel
theorem dX1_size_5 : decode cX1_size 5 = .ok (.ireturn, 1) := by decide +kernel
set_option maxHeartbeats 4000000 in
set_option maxRecDepth 100000 in
theorem cb_size (l : Launch) (D : va_G) (g : xe_G) (b0 : Nat) (sz : Nat)  : Met l yX1_size (.code yX1_size cX1_size 1 (some .int) :: bg) ({ frames := 1, cells := 0, slots := 0, locals := 120 } : Room) (xb_Pre (xe_E g) D vwCl [(b0, .inr (1, [.ref g.1]))] [] sz [.ref b0]) (va_Qi (fun r _ => r = 0) (xb_B D vwCl (va_A [(b0, .inr (1, [.ref g.1]))] sz) (fun u : Unit => [(b0, .inr (1, [.ref g.1]))]) (fun u : Unit => [])) (va_A [(b0, .inr (1, [.ref g.1]))] sz)) 0 0 (va_A [(b0, .inr (1, [.ref g.1]))] sz) := by
  refine Met.ofW (cc := cX1_size) (maxL := 1) (ret := (some .int)) (by decide) rfl ?_
  intro p e s m args below meth c s₁ B hml hv
  obtain ⟨rfl, hsz, hP, hK, hD0, hE⟩ := hv
  have hx := B.exec
  have hb := B.bytes
  have hr := B.returns
  have hts := atoms_spec (ws := (.code yX1_size cX1_size 1 (some .int) :: bg)) B.pre
  have htb : ∀ w ∈ bg, w.before _ s = true := fun w h => hts w (List.mem_cons_of_mem _ h)
  have hown : s.vm.findClass RX1 = some m.cls := findClass_of_methodNamed B.named
  have hlocks := B.notSynchronized
  subst hsz
  have hD := hD0.self (sz := s.heap.size)
  generalize hAe : va_A [(b0, .inr (1, [.ref g.1]))] s.heap.size = A at hD hE ⊢
  have hA : ∀ q : Nat, s.heap.size ≤ q → A q := fun q h => by rw [← hAe]; exact Or.inr h
  have hS : va_S A s.heap s.heap [] := va_S.rf
  have hP : va_P D vwCl [(b0, .inr (1, [.ref g.1]))] s.heap := hP
  have hl := lv_entry ([.ref b0]) (n := 1) (Nat.le_of_ble_eq_true rfl)
  rw [lg_entry_eq]
  generalize (lg_sl ([.ref b0]) ++ List.replicate (1 - (lg_sl ([.ref b0])).length) Slot.unset).toArray = ls at hl ⊢
  have hl : lv_has ls 1 [(0, .ref b0)] := hl
  refine lv_aload_n hx hb dX1_size_0 rfl (lv_at hl 0 rfl) ?_
  refine va_get (D := D) (ci := 1) (v := .ref g.1) (C := RX1) (T := TX1) (N := 1) hx hb htb bi_X1 hown hK hP 0 rfl rfl 0 (by decide) (htb _ bg_247) (fun _ h9 => h9) rfl dX1_size_1 ?_
  refine va_tlen (v := 0) hx hb hE.2.1 hS rfl dX1_size_4 ?_
  have hP9 := hP.sub (ws' := [(b0, .inr (1, [.ref g.1]))]) [0] rfl
  have hD9 := hD.sub (ws' := [(b0, .inr (1, [.ref g.1]))]) [0] rfl rfl
  have hK9 := hK.sub (tys' := []) [] rfl
  exact W.iret (v := 0) hx hb hr (fun t ht hW => ⟨⟨0, (), rfl, rfl, by rw [ht]; exact hP9, va_K.moved hW.alike hK9, hD9⟩, hS.F ht⟩) hS.2.2 dX1_size_5
theorem dX10_init_0 : decode cX10_init 0 = .ok (.aload_n 0, 1) := by decide +kernel
theorem dX10_init_1 : decode cX10_init 1 = .ok (.invokespecial 1, 3) := by decide +kernel
theorem dX10_init_4 : decode cX10_init 4 = .ok (.aload_n 0, 1) := by decide +kernel
theorem dX10_init_5 : decode cX10_init 5 = .ok (.iconst (-1), 1) := by decide +kernel
theorem dX10_init_6 : decode cX10_init 6 = .ok (.putfield 7, 3) := by decide +kernel
theorem dX10_init_9 : decode cX10_init 9 = .ok (.return_, 1) := by decide +kernel
set_option maxHeartbeats 4000000 in
set_option maxRecDepth 100000 in
theorem cv_init (l : Launch) (D : va_G) (g : xe_G) (v0 : Nat) (sz : Nat)  : Met l yX10_init (.code yX10_init cX10_init 1 none :: bg) ({ frames := 2, cells := 0, slots := 0, locals := 240 } : Room) (xb_Pre (xe_E g) D vwCl [(v0, .inr (10, [.int 0, .int 0]))] [] sz [.ref v0]) (va_Qv (fun _ => True) (xb_B D vwCl (va_A [(v0, .inr (10, [.int 0, .int 0]))] sz) (fun u : Unit => [(v0, .inr (10, [.int 0, .int (-1)]))]) (fun u : Unit => [])) (va_A [(v0, .inr (10, [.int 0, .int 0]))] sz)) 0 0 (va_A [(v0, .inr (10, [.int 0, .int 0]))] sz) := by
  refine Met.ofW (cc := cX10_init) (maxL := 1) (ret := none) (by decide) rfl ?_
  intro p e s m args below meth c s₁ B hml hv
  obtain ⟨rfl, hsz, hP, hK, hD0, hE⟩ := hv
  have hx := B.exec
  have hb := B.bytes
  have hr := B.returns
  have hts := atoms_spec (ws := (.code yX10_init cX10_init 1 none :: bg)) B.pre
  have htb : ∀ w ∈ bg, w.before _ s = true := fun w h => hts w (List.mem_cons_of_mem _ h)
  have hown : s.vm.findClass RX10 = some m.cls := findClass_of_methodNamed B.named
  have hlocks := B.notSynchronized
  have hin : meth.name = "<init>" := (name_of_methodNamed B.named B.method).1
  subst hsz
  have hD := hD0.self (sz := s.heap.size)
  generalize hAe : va_A [(v0, .inr (10, [.int 0, .int 0]))] s.heap.size = A at hD hE ⊢
  have hA : ∀ q : Nat, s.heap.size ≤ q → A q := fun q h => by rw [← hAe]; exact Or.inr h
  have hS : va_S A s.heap s.heap [] := va_S.rf
  have hP : va_P D vwCl [(v0, .inr (10, [.int 0, .int 0]))] s.heap := hP
  have hl := lv_entry ([.ref v0]) (n := 1) (Nat.le_of_ble_eq_true rfl)
  rw [lg_entry_eq]
  generalize (lg_sl ([.ref v0]) ++ List.replicate (1 - (lg_sl ([.ref v0])).length) Slot.unset).toArray = ls at hl ⊢
  have hl : lv_has ls 1 [(0, .ref v0)] := hl
  refine lv_aload_n hx hb dX10_init_0 rfl (lv_at hl 0 rfl) ?_
  refine W.objInit hx hb hown (htb _ bg_291) (htb _ bg_3) (htb _ bg_2) rfl (by rw [hml]; exact hl.1) rfl dX10_init_1 (Nat.le_of_ble_eq_true rfl) (Nat.le_of_ble_eq_true rfl) ?_
  refine W.eq (g2 := F0 m 4 ls []) rfl ?_
  refine lv_aload_n hx hb dX10_init_4 rfl (lv_at hl 0 rfl) ?_
  refine lv_iconst (v := (-1)) hx hb dX10_init_5 (by decide) ?_
  refine va_put (D := D) (ci := 10) (v := .int (-1)) (ty := tyX10 1) (C := RX10) (T := TX10) (N := 2) hx hb htb bi_X10 tyX10 tyX10_ok nmX10 hown hK hP hD hS 0 rfl rfl 1 (by decide) (htb _ bg_292) (fun _ h9 => h9) rfl (tyX10_ok 1 (by decide)) rfl rfl (Nat.le_of_ble_eq_true rfl) dX10_init_6 (fun H locs hP hD hS => ?_)
  have hP : va_P D vwCl [(v0, .inr (10, [.int 0, .int (-1)]))] H := hP
  have hD : va_D A [(v0, .inr (10, [.int 0, .int (-1)]))] := hD
  have hP9 := hP.sub (ws' := [(v0, .inr (10, [.int 0, .int (-1)]))]) [0] rfl
  have hD9 := hD.sub (ws' := [(v0, .inr (10, [.int 0, .int (-1)]))]) [0] rfl rfl
  have hK9 := hK.sub (tys' := []) [] rfl
  exact W.vret hx hb hr (fun t ht hW => ⟨⟨(), rfl, trivial, by rw [ht]; exact hP9, va_K.moved hW.alike hK9, hD9⟩, hS.F ht⟩) hS.2.2 dX10_init_9
theorem dX10_wrong_0 : decode cX10_wrong 0 = .ok (.aload_n 0, 1) := by decide +kernel
theorem dX10_wrong_1 : decode cX10_wrong 1 = .ok (.iload_n 1, 1) := by decide +kernel
theorem dX10_wrong_2 : decode cX10_wrong 2 = .ok (.putfield 13, 3) := by decide +kernel
theorem dX10_wrong_5 : decode cX10_wrong 5 = .ok (.aload_n 0, 1) := by decide +kernel
theorem dX10_wrong_6 : decode cX10_wrong 6 = .ok (.iload_n 2, 1) := by decide +kernel
theorem dX10_wrong_7 : decode cX10_wrong 7 = .ok (.putfield 7, 3) := by decide +kernel
theorem dX10_wrong_10 : decode cX10_wrong 10 = .ok (.iconst 0, 1) := by decide +kernel
theorem dX10_wrong_11 : decode cX10_wrong 11 = .ok (.ireturn, 1) := by decide +kernel
set_option maxHeartbeats 4000000 in
set_option maxRecDepth 100000 in
theorem cv_wrong (l : Launch) (D : va_G) (g : xe_G) (v0 : Nat) (a0 : Int32) (b0 : Int32) (x0 : Int32) (x1 : Int32) (sz : Nat)  : Met l yX10_wrong (.code yX10_wrong cX10_wrong 3 (some .boolean) :: bg) ({ frames := 1, cells := 0, slots := 0, locals := 120 } : Room) (xb_Pre (xe_E g) D vwCl [(v0, .inr (10, [.int a0, .int b0]))] [] sz [.ref v0, .int x0, .int x1]) (va_Qi (fun r _ => r = 0) (xb_B D vwCl (va_A [(v0, .inr (10, [.int a0, .int b0]))] sz) (fun u : Unit => [(v0, .inr (10, [.int x0, .int x1]))]) (fun u : Unit => [])) (va_A [(v0, .inr (10, [.int a0, .int b0]))] sz)) 0 0 (va_A [(v0, .inr (10, [.int a0, .int b0]))] sz) := by
  refine Met.ofW (cc := cX10_wrong) (maxL := 3) (ret := (some .boolean)) (by decide) rfl ?_
  intro p e s m args below meth c s₁ B hml hv
  obtain ⟨rfl, hsz, hP, hK, hD0, hE⟩ := hv
  have hx := B.exec
  have hb := B.bytes
  have hr := B.returns
  have hts := atoms_spec (ws := (.code yX10_wrong cX10_wrong 3 (some .boolean) :: bg)) B.pre
  have htb : ∀ w ∈ bg, w.before _ s = true := fun w h => hts w (List.mem_cons_of_mem _ h)
  have hown : s.vm.findClass RX10 = some m.cls := findClass_of_methodNamed B.named
  have hlocks := B.notSynchronized
  subst hsz
  have hD := hD0.self (sz := s.heap.size)
  generalize hAe : va_A [(v0, .inr (10, [.int a0, .int b0]))] s.heap.size = A at hD hE ⊢
  have hA : ∀ q : Nat, s.heap.size ≤ q → A q := fun q h => by rw [← hAe]; exact Or.inr h
  have hS : va_S A s.heap s.heap [] := va_S.rf
  have hP : va_P D vwCl [(v0, .inr (10, [.int a0, .int b0]))] s.heap := hP
  have hl := lv_entry ([.ref v0, .int x0, .int x1]) (n := 3) (Nat.le_of_ble_eq_true rfl)
  rw [lg_entry_eq]
  generalize (lg_sl ([.ref v0, .int x0, .int x1]) ++ List.replicate (3 - (lg_sl ([.ref v0, .int x0, .int x1])).length) Slot.unset).toArray = ls at hl ⊢
  have hl : lv_has ls 3 [(0, .ref v0), (1, .int x0), (2, .int x1)] := hl
  refine lv_aload_n hx hb dX10_wrong_0 rfl (lv_at hl 0 rfl) ?_
  refine lv_iload_n hx hb dX10_wrong_1 rfl (lv_at hl 1 rfl) ?_
  refine va_put (D := D) (ci := 10) (v := .int x0) (ty := tyX10 0) (C := RX10) (T := TX10) (N := 2) hx hb htb bi_X10 tyX10 tyX10_ok nmX10 hown hK hP hD hS 0 rfl rfl 0 (by decide) (htb _ bg_293) (fun _ h9 => h9) rfl (tyX10_ok 0 (by decide)) rfl rfl (Nat.le_of_ble_eq_true rfl) dX10_wrong_2 (fun H locs hP hD hS => ?_)
  have hP : va_P D vwCl [(v0, .inr (10, [.int x0, .int b0]))] H := hP
  have hD : va_D A [(v0, .inr (10, [.int x0, .int b0]))] := hD
  refine lv_aload_n hx hb dX10_wrong_5 rfl (lv_at hl 0 rfl) ?_
  refine lv_iload_n hx hb dX10_wrong_6 rfl (lv_at hl 2 rfl) ?_
  refine va_put (D := D) (ci := 10) (v := .int x1) (ty := tyX10 1) (C := RX10) (T := TX10) (N := 2) hx hb htb bi_X10 tyX10 tyX10_ok nmX10 hown hK hP hD hS 0 rfl rfl 1 (by decide) (htb _ bg_292) (fun _ h9 => h9) rfl (tyX10_ok 1 (by decide)) rfl rfl (Nat.le_of_ble_eq_true rfl) dX10_wrong_7 (fun H locs hP hD hS => ?_)
  have hP : va_P D vwCl [(v0, .inr (10, [.int x0, .int x1]))] H := hP
  have hD : va_D A [(v0, .inr (10, [.int x0, .int x1]))] := hD
  refine lv_iconst (v := 0) hx hb dX10_wrong_10 (by decide) ?_
  have hP9 := hP.sub (ws' := [(v0, .inr (10, [.int x0, .int x1]))]) [0] rfl
  have hD9 := hD.sub (ws' := [(v0, .inr (10, [.int x0, .int x1]))]) [0] rfl rfl
  have hK9 := hK.sub (tys' := []) [] rfl
  exact W.zret (v := 0) hx hb hr (by decide) (fun t ht hW => ⟨⟨0, (), rfl, rfl, by rw [ht]; exact hP9, va_K.moved hW.alike hK9, hD9⟩, hS.F ht⟩) hS.2.2 dX10_wrong_11
theorem dX7_init_0 : decode cX7_init 0 = .ok (.aload_n 0, 1) := by decide +kernel
theorem dX7_init_1 : decode cX7_init 1 = .ok (.invokespecial 3, 3) := by decide +kernel
theorem dX7_init_4 : decode cX7_init 4 = .ok (.aload_n 0, 1) := by decide +kernel
theorem dX7_init_5 : decode cX7_init 5 = .ok (.iload_n 1, 1) := by decide +kernel
theorem dX7_init_6 : decode cX7_init 6 = .ok (.putfield 9, 3) := by decide +kernel
theorem dX7_init_9 : decode cX7_init 9 = .ok (.iconst 0, 1) := by decide +kernel
theorem dX7_init_10 : decode cX7_init 10 = .ok (.iload_n 1, 1) := by decide +kernel
theorem dX7_init_11 : decode cX7_init 11 = .ok (.iload_n 2, 1) := by decide +kernel
theorem dX7_init_12 : decode cX7_init 12 = .ok (.iconst 3, 1) := by decide +kernel
theorem dX7_init_13 : decode cX7_init 13 = .ok (.idiv, 1) := by decide +kernel
theorem dX7_init_14 : decode cX7_init 14 = .ok (.iconst 1, 1) := by decide +kernel
theorem dX7_init_15 : decode cX7_init 15 = .ok (.iadd, 1) := by decide +kernel
theorem dX7_init_16 : decode cX7_init 16 = .ok (.invokestatic 15, 3) := by decide +kernel
theorem dX7_init_19 : decode cX7_init 19 = .ok (.invokestatic 21, 3) := by decide +kernel
theorem dX7_init_22 : decode cX7_init 22 = .ok (.istore_n 3, 1) := by decide +kernel
theorem dX7_init_23 : decode cX7_init 23 = .ok (.aload_n 0, 1) := by decide +kernel
theorem dX7_init_24 : decode cX7_init 24 = .ok (.iload_n 3, 1) := by decide +kernel
theorem dX7_init_25 : decode cX7_init 25 = .ok (.newarray .int, 2) := by decide +kernel
theorem dX7_init_27 : decode cX7_init 27 = .ok (.putfield 24, 3) := by decide +kernel
theorem dX7_init_30 : decode cX7_init 30 = .ok (.aload_n 0, 1) := by decide +kernel
theorem dX7_init_31 : decode cX7_init 31 = .ok (.iload_n 3, 1) := by decide +kernel
theorem dX7_init_32 : decode cX7_init 32 = .ok (.newarray .int, 2) := by decide +kernel
theorem dX7_init_34 : decode cX7_init 34 = .ok (.putfield 28, 3) := by decide +kernel
theorem dX7_init_37 : decode cX7_init 37 = .ok (.aload_n 0, 1) := by decide +kernel
theorem dX7_init_38 : decode cX7_init 38 = .ok (.iload_n 3, 1) := by decide +kernel
theorem dX7_init_39 : decode cX7_init 39 = .ok (.newarray .int, 2) := by decide +kernel
theorem dX7_init_41 : decode cX7_init 41 = .ok (.putfield 31, 3) := by decide +kernel
theorem dX7_init_44 : decode cX7_init 44 = .ok (.aload_n 0, 1) := by decide +kernel
theorem dX7_init_45 : decode cX7_init 45 = .ok (.iload_n 3, 1) := by decide +kernel
theorem dX7_init_46 : decode cX7_init 46 = .ok (.newarray .int, 2) := by decide +kernel
theorem dX7_init_48 : decode cX7_init 48 = .ok (.putfield 34, 3) := by decide +kernel
theorem dX7_init_51 : decode cX7_init 51 = .ok (.aload_n 0, 1) := by decide +kernel
theorem dX7_init_52 : decode cX7_init 52 = .ok (.iload_n 3, 1) := by decide +kernel
theorem dX7_init_53 : decode cX7_init 53 = .ok (.newarray .int, 2) := by decide +kernel
theorem dX7_init_55 : decode cX7_init 55 = .ok (.putfield 37, 3) := by decide +kernel
theorem dX7_init_58 : decode cX7_init 58 = .ok (.aload_n 0, 1) := by decide +kernel
theorem dX7_init_59 : decode cX7_init 59 = .ok (.iconst 0, 1) := by decide +kernel
theorem dX7_init_60 : decode cX7_init 60 = .ok (.iload_n 2, 1) := by decide +kernel
theorem dX7_init_61 : decode cX7_init 61 = .ok (.invokestatic 21, 3) := by decide +kernel
theorem dX7_init_64 : decode cX7_init 64 = .ok (.newarray .char, 2) := by decide +kernel
theorem dX7_init_66 : decode cX7_init 66 = .ok (.putfield 40, 3) := by decide +kernel
theorem dX7_init_69 : decode cX7_init 69 = .ok (.return_, 1) := by decide +kernel
set_option maxHeartbeats 4000000 in
set_option maxRecDepth 100000 in
theorem cp_init (l : Launch) (D : va_G) (g : xe_G) (p0 : Nat) (sz : Nat)  : Met l yX7_init (.code yX7_init cX7_init 4 none :: bg) ({ frames := 3, cells := 6, slots := 0, locals := 360 } : Room) (xb_Pre (xe_E g) D vwCl [(p0, .inr (7, [.int 0, .null, .null, .null, .null, .null, .null, .int 0]))] [] sz [.ref p0, .int 0, .int 0]) (va_Qv (fun _ => True) (xb_B D vwCl (va_A [(p0, .inr (7, [.int 0, .null, .null, .null, .null, .null, .null, .int 0]))] sz) (fun u : Unit => []) (fun u : Unit => [])) (va_A [(p0, .inr (7, [.int 0, .null, .null, .null, .null, .null, .null, .int 0]))] sz)) 6 0 (va_A [(p0, .inr (7, [.int 0, .null, .null, .null, .null, .null, .null, .int 0]))] sz) := by
  refine Met.ofW (cc := cX7_init) (maxL := 4) (ret := none) (by decide) rfl ?_
  intro p e s m args below meth c s₁ B hml hv
  obtain ⟨rfl, hsz, hP, hK, hD0, hE⟩ := hv
  have hx := B.exec
  have hb := B.bytes
  have hr := B.returns
  have hts := atoms_spec (ws := (.code yX7_init cX7_init 4 none :: bg)) B.pre
  have htb : ∀ w ∈ bg, w.before _ s = true := fun w h => hts w (List.mem_cons_of_mem _ h)
  have hown : s.vm.findClass RX7 = some m.cls := findClass_of_methodNamed B.named
  have hlocks := B.notSynchronized
  have hin : meth.name = "<init>" := (name_of_methodNamed B.named B.method).1
  subst hsz
  have hD := hD0.self (sz := s.heap.size)
  generalize hAe : va_A [(p0, .inr (7, [.int 0, .null, .null, .null, .null, .null, .null, .int 0]))] s.heap.size = A at hD hE ⊢
  have hA : ∀ q : Nat, s.heap.size ≤ q → A q := fun q h => by rw [← hAe]; exact Or.inr h
  have hS : va_S A s.heap s.heap [] := va_S.rf
  have hP : va_P D vwCl [(p0, .inr (7, [.int 0, .null, .null, .null, .null, .null, .null, .int 0]))] s.heap := hP
  have hl := lv_entry ([.ref p0, .int 0, .int 0]) (n := 4) (Nat.le_of_ble_eq_true rfl)
  rw [lg_entry_eq]
  generalize (lg_sl ([.ref p0, .int 0, .int 0]) ++ List.replicate (4 - (lg_sl ([.ref p0, .int 0, .int 0])).length) Slot.unset).toArray = ls at hl ⊢
  have hl : lv_has ls 4 [(0, .ref p0), (1, .int 0), (2, .int 0)] := hl
  refine lv_aload_n hx hb dX7_init_0 rfl (lv_at hl 0 rfl) ?_
  refine W.objInit hx hb hown (htb _ bg_262) (htb _ bg_3) (htb _ bg_2) rfl (by rw [hml]; exact hl.1) rfl dX7_init_1 (Nat.le_of_ble_eq_true rfl) (Nat.le_of_ble_eq_true rfl) ?_
  refine W.eq (g2 := F0 m 4 ls []) rfl ?_
  refine lv_aload_n hx hb dX7_init_4 rfl (lv_at hl 0 rfl) ?_
  refine lv_iload_n hx hb dX7_init_5 rfl (lv_at hl 1 rfl) ?_
  refine va_putF (D := D) (ci := 7) (v := .int 0) (ty := tyX7 0) (C := RX7) (T := TX7) (N := 8) hx hb htb bi_X7 tyX7 tyX7_ok nmX7 hown hK hP hD hS 0 rfl rfl 0 (by decide) (htb _ bg_263) (fun _ h9 => h9) rfl hin rfl (tyX7_ok 0 (by decide)) rfl rfl (Nat.le_of_ble_eq_true rfl) dX7_init_6 (fun H locs hP hD hS => ?_)
  have hP : va_P D vwCl [(p0, .inr (7, [.int 0, .null, .null, .null, .null, .null, .null, .int 0]))] H := hP
  have hD : va_D A [(p0, .inr (7, [.int 0, .null, .null, .null, .null, .null, .null, .int 0]))] := hD
  refine lv_iconst (v := 0) hx hb dX7_init_9 (by decide) ?_
  refine lv_iload_n hx hb dX7_init_10 rfl (lv_at hl 1 rfl) ?_
  refine lv_iload_n hx hb dX7_init_11 rfl (lv_at hl 2 rfl) ?_
  refine lv_iconst (v := 3) hx hb dX7_init_12 (by decide) ?_
  refine lv_idiv hx hb dX7_init_13 (by decide) ?_
  refine lv_iconst (v := 1) hx hb dX7_init_14 (by decide) ?_
  refine lv_iadd hx hb dX7_init_15 ?_
  refine va_mmin hx hb (by rw [hml]; exact hl.1.symm) hown (htb _ bg_618) (htb _ bg_616) (htb _ bg_622) (htb _ bg_617) (Nat.le_of_ble_eq_true rfl) (Nat.le_of_ble_eq_true rfl) (Nat.le_of_ble_eq_true rfl) (Nat.le_of_ble_eq_true rfl) dX7_init_16 ?_
  refine lv_topi (fun x_16 ex_16 => ?_)
  have hx_16 : x_16 = 0 := by rw [ex_16]; decide
  rw [hx_16]
  refine va_mmax hx hb (by rw [hml]; exact hl.1.symm) hown (htb _ bg_619) (htb _ bg_620) (htb _ bg_622) (htb _ bg_621) (Nat.le_of_ble_eq_true rfl) (Nat.le_of_ble_eq_true rfl) (Nat.le_of_ble_eq_true rfl) (Nat.le_of_ble_eq_true rfl) dX7_init_19 ?_
  refine lv_topi (fun x_19 ex_19 => ?_)
  have hx_19 : x_19 = 0 := by rw [ex_19]; decide
  rw [hx_19]
  refine lv_istore_n (lv' := [(3, .int 0), (0, .ref p0), (1, .int 0), (2, .int 0)]) hx hb dX7_init_22 rfl hl (by decide) rfl (fun ls hl => ?_)
  refine lv_aload_n hx hb dX7_init_23 rfl (lv_at hl 1 rfl) ?_
  refine lv_iload_n hx hb dX7_init_24 rfl (lv_at hl 0 rfl) ?_
  refine va_newa (atype := .int) (ty := .int) (a0 := (0, .inl (fun _ => 0))) (N' := 0) hx hb (htb _ bg_95) rfl hK hP hD hS hA (fun _ => rfl) (by decide) (by decide) (by decide) (Nat.le_of_ble_eq_true rfl) (Nat.le_of_ble_eq_true rfl) dX7_init_25 (fun q25 a25 H hK hP hD hS => ?_)
  have hP : va_P D vwCl [(p0, .inr (7, [.int 0, .null, .null, .null, .null, .null, .null, .int 0])), (q25, .inl (a25, 0, .inl (fun _ => 0)))] H := hP
  have hD : va_D A [(p0, .inr (7, [.int 0, .null, .null, .null, .null, .null, .null, .int 0])), (q25, .inl (a25, 0, .inl (fun _ => 0)))] := hD
  have hK : va_K D vwCl [(a25, .int)] s := hK
  refine W.widen (k := 1) (n := 0) (by decide) (by decide) ?_
  refine va_putF (D := D) (ci := 7) (v := .ref q25) (ty := tyX7 1) (C := RX7) (T := TX7) (N := 8) hx hb htb bi_X7 tyX7 tyX7_ok nmX7 hown hK hP hD hS 0 rfl rfl 1 (by decide) (htb _ bg_264) (fun _ h9 => h9) rfl hin rfl (tyX7_ok 1 (by decide)) rfl rfl (Nat.le_of_ble_eq_true rfl) dX7_init_27 (fun H locs hP hD hS => ?_)
  have hP : va_P D vwCl [(p0, .inr (7, [.int 0, .ref q25, .null, .null, .null, .null, .null, .int 0])), (q25, .inl (a25, 0, .inl (fun _ => 0)))] H := hP
  have hD : va_D A [(p0, .inr (7, [.int 0, .ref q25, .null, .null, .null, .null, .null, .int 0])), (q25, .inl (a25, 0, .inl (fun _ => 0)))] := hD
  refine lv_aload_n hx hb dX7_init_30 rfl (lv_at hl 1 rfl) ?_
  refine lv_iload_n hx hb dX7_init_31 rfl (lv_at hl 0 rfl) ?_
  refine va_newa (atype := .int) (ty := .int) (a0 := (0, .inl (fun _ => 0))) (N' := 0) hx hb (htb _ bg_95) rfl hK hP hD hS hA (fun _ => rfl) (by decide) (by decide) (by decide) (Nat.le_of_ble_eq_true rfl) (Nat.le_of_ble_eq_true rfl) dX7_init_32 (fun q32 a32 H hK hP hD hS => ?_)
  have hP : va_P D vwCl [(p0, .inr (7, [.int 0, .ref q25, .null, .null, .null, .null, .null, .int 0])), (q25, .inl (a25, 0, .inl (fun _ => 0))), (q32, .inl (a32, 0, .inl (fun _ => 0)))] H := hP
  have hD : va_D A [(p0, .inr (7, [.int 0, .ref q25, .null, .null, .null, .null, .null, .int 0])), (q25, .inl (a25, 0, .inl (fun _ => 0))), (q32, .inl (a32, 0, .inl (fun _ => 0)))] := hD
  have hK : va_K D vwCl [(a25, .int), (a32, .int)] s := hK
  refine W.widen (k := 2) (n := 0) (by decide) (by decide) ?_
  refine va_putF (D := D) (ci := 7) (v := .ref q32) (ty := tyX7 2) (C := RX7) (T := TX7) (N := 8) hx hb htb bi_X7 tyX7 tyX7_ok nmX7 hown hK hP hD hS 0 rfl rfl 2 (by decide) (htb _ bg_265) (fun _ h9 => h9) rfl hin rfl (tyX7_ok 2 (by decide)) rfl rfl (Nat.le_of_ble_eq_true rfl) dX7_init_34 (fun H locs hP hD hS => ?_)
  have hP : va_P D vwCl [(p0, .inr (7, [.int 0, .ref q25, .ref q32, .null, .null, .null, .null, .int 0])), (q25, .inl (a25, 0, .inl (fun _ => 0))), (q32, .inl (a32, 0, .inl (fun _ => 0)))] H := hP
  have hD : va_D A [(p0, .inr (7, [.int 0, .ref q25, .ref q32, .null, .null, .null, .null, .int 0])), (q25, .inl (a25, 0, .inl (fun _ => 0))), (q32, .inl (a32, 0, .inl (fun _ => 0)))] := hD
  refine lv_aload_n hx hb dX7_init_37 rfl (lv_at hl 1 rfl) ?_
  refine lv_iload_n hx hb dX7_init_38 rfl (lv_at hl 0 rfl) ?_
  refine va_newa (atype := .int) (ty := .int) (a0 := (0, .inl (fun _ => 0))) (N' := 0) hx hb (htb _ bg_95) rfl hK hP hD hS hA (fun _ => rfl) (by decide) (by decide) (by decide) (Nat.le_of_ble_eq_true rfl) (Nat.le_of_ble_eq_true rfl) dX7_init_39 (fun q39 a39 H hK hP hD hS => ?_)
  have hP : va_P D vwCl [(p0, .inr (7, [.int 0, .ref q25, .ref q32, .null, .null, .null, .null, .int 0])), (q25, .inl (a25, 0, .inl (fun _ => 0))), (q32, .inl (a32, 0, .inl (fun _ => 0))), (q39, .inl (a39, 0, .inl (fun _ => 0)))] H := hP
  have hD : va_D A [(p0, .inr (7, [.int 0, .ref q25, .ref q32, .null, .null, .null, .null, .int 0])), (q25, .inl (a25, 0, .inl (fun _ => 0))), (q32, .inl (a32, 0, .inl (fun _ => 0))), (q39, .inl (a39, 0, .inl (fun _ => 0)))] := hD
  have hK : va_K D vwCl [(a25, .int), (a32, .int), (a39, .int)] s := hK
  refine W.widen (k := 3) (n := 0) (by decide) (by decide) ?_
  refine va_putF (D := D) (ci := 7) (v := .ref q39) (ty := tyX7 3) (C := RX7) (T := TX7) (N := 8) hx hb htb bi_X7 tyX7 tyX7_ok nmX7 hown hK hP hD hS 0 rfl rfl 3 (by decide) (htb _ bg_266) (fun _ h9 => h9) rfl hin rfl (tyX7_ok 3 (by decide)) rfl rfl (Nat.le_of_ble_eq_true rfl) dX7_init_41 (fun H locs hP hD hS => ?_)
  have hP : va_P D vwCl [(p0, .inr (7, [.int 0, .ref q25, .ref q32, .ref q39, .null, .null, .null, .int 0])), (q25, .inl (a25, 0, .inl (fun _ => 0))), (q32, .inl (a32, 0, .inl (fun _ => 0))), (q39, .inl (a39, 0, .inl (fun _ => 0)))] H := hP
  have hD : va_D A [(p0, .inr (7, [.int 0, .ref q25, .ref q32, .ref q39, .null, .null, .null, .int 0])), (q25, .inl (a25, 0, .inl (fun _ => 0))), (q32, .inl (a32, 0, .inl (fun _ => 0))), (q39, .inl (a39, 0, .inl (fun _ => 0)))] := hD
  refine lv_aload_n hx hb dX7_init_44 rfl (lv_at hl 1 rfl) ?_
  refine lv_iload_n hx hb dX7_init_45 rfl (lv_at hl 0 rfl) ?_
  refine va_newa (atype := .int) (ty := .int) (a0 := (0, .inl (fun _ => 0))) (N' := 0) hx hb (htb _ bg_95) rfl hK hP hD hS hA (fun _ => rfl) (by decide) (by decide) (by decide) (Nat.le_of_ble_eq_true rfl) (Nat.le_of_ble_eq_true rfl) dX7_init_46 (fun q46 a46 H hK hP hD hS => ?_)
  have hP : va_P D vwCl [(p0, .inr (7, [.int 0, .ref q25, .ref q32, .ref q39, .null, .null, .null, .int 0])), (q25, .inl (a25, 0, .inl (fun _ => 0))), (q32, .inl (a32, 0, .inl (fun _ => 0))), (q39, .inl (a39, 0, .inl (fun _ => 0))), (q46, .inl (a46, 0, .inl (fun _ => 0)))] H := hP
  have hD : va_D A [(p0, .inr (7, [.int 0, .ref q25, .ref q32, .ref q39, .null, .null, .null, .int 0])), (q25, .inl (a25, 0, .inl (fun _ => 0))), (q32, .inl (a32, 0, .inl (fun _ => 0))), (q39, .inl (a39, 0, .inl (fun _ => 0))), (q46, .inl (a46, 0, .inl (fun _ => 0)))] := hD
  have hK : va_K D vwCl [(a25, .int), (a32, .int), (a39, .int), (a46, .int)] s := hK
  refine W.widen (k := 4) (n := 0) (by decide) (by decide) ?_
  refine va_putF (D := D) (ci := 7) (v := .ref q46) (ty := tyX7 4) (C := RX7) (T := TX7) (N := 8) hx hb htb bi_X7 tyX7 tyX7_ok nmX7 hown hK hP hD hS 0 rfl rfl 4 (by decide) (htb _ bg_267) (fun _ h9 => h9) rfl hin rfl (tyX7_ok 4 (by decide)) rfl rfl (Nat.le_of_ble_eq_true rfl) dX7_init_48 (fun H locs hP hD hS => ?_)
  have hP : va_P D vwCl [(p0, .inr (7, [.int 0, .ref q25, .ref q32, .ref q39, .ref q46, .null, .null, .int 0])), (q25, .inl (a25, 0, .inl (fun _ => 0))), (q32, .inl (a32, 0, .inl (fun _ => 0))), (q39, .inl (a39, 0, .inl (fun _ => 0))), (q46, .inl (a46, 0, .inl (fun _ => 0)))] H := hP
  have hD : va_D A [(p0, .inr (7, [.int 0, .ref q25, .ref q32, .ref q39, .ref q46, .null, .null, .int 0])), (q25, .inl (a25, 0, .inl (fun _ => 0))), (q32, .inl (a32, 0, .inl (fun _ => 0))), (q39, .inl (a39, 0, .inl (fun _ => 0))), (q46, .inl (a46, 0, .inl (fun _ => 0)))] := hD
  refine lv_aload_n hx hb dX7_init_51 rfl (lv_at hl 1 rfl) ?_
  refine lv_iload_n hx hb dX7_init_52 rfl (lv_at hl 0 rfl) ?_
  refine va_newa (atype := .int) (ty := .int) (a0 := (0, .inl (fun _ => 0))) (N' := 0) hx hb (htb _ bg_95) rfl hK hP hD hS hA (fun _ => rfl) (by decide) (by decide) (by decide) (Nat.le_of_ble_eq_true rfl) (Nat.le_of_ble_eq_true rfl) dX7_init_53 (fun q53 a53 H hK hP hD hS => ?_)
  have hP : va_P D vwCl [(p0, .inr (7, [.int 0, .ref q25, .ref q32, .ref q39, .ref q46, .null, .null, .int 0])), (q25, .inl (a25, 0, .inl (fun _ => 0))), (q32, .inl (a32, 0, .inl (fun _ => 0))), (q39, .inl (a39, 0, .inl (fun _ => 0))), (q46, .inl (a46, 0, .inl (fun _ => 0))), (q53, .inl (a53, 0, .inl (fun _ => 0)))] H := hP
  have hD : va_D A [(p0, .inr (7, [.int 0, .ref q25, .ref q32, .ref q39, .ref q46, .null, .null, .int 0])), (q25, .inl (a25, 0, .inl (fun _ => 0))), (q32, .inl (a32, 0, .inl (fun _ => 0))), (q39, .inl (a39, 0, .inl (fun _ => 0))), (q46, .inl (a46, 0, .inl (fun _ => 0))), (q53, .inl (a53, 0, .inl (fun _ => 0)))] := hD
  have hK : va_K D vwCl [(a25, .int), (a32, .int), (a39, .int), (a46, .int), (a53, .int)] s := hK
  refine W.widen (k := 5) (n := 0) (by decide) (by decide) ?_
  refine va_putF (D := D) (ci := 7) (v := .ref q53) (ty := tyX7 5) (C := RX7) (T := TX7) (N := 8) hx hb htb bi_X7 tyX7 tyX7_ok nmX7 hown hK hP hD hS 0 rfl rfl 5 (by decide) (htb _ bg_268) (fun _ h9 => h9) rfl hin rfl (tyX7_ok 5 (by decide)) rfl rfl (Nat.le_of_ble_eq_true rfl) dX7_init_55 (fun H locs hP hD hS => ?_)
  have hP : va_P D vwCl [(p0, .inr (7, [.int 0, .ref q25, .ref q32, .ref q39, .ref q46, .ref q53, .null, .int 0])), (q25, .inl (a25, 0, .inl (fun _ => 0))), (q32, .inl (a32, 0, .inl (fun _ => 0))), (q39, .inl (a39, 0, .inl (fun _ => 0))), (q46, .inl (a46, 0, .inl (fun _ => 0))), (q53, .inl (a53, 0, .inl (fun _ => 0)))] H := hP
  have hD : va_D A [(p0, .inr (7, [.int 0, .ref q25, .ref q32, .ref q39, .ref q46, .ref q53, .null, .int 0])), (q25, .inl (a25, 0, .inl (fun _ => 0))), (q32, .inl (a32, 0, .inl (fun _ => 0))), (q39, .inl (a39, 0, .inl (fun _ => 0))), (q46, .inl (a46, 0, .inl (fun _ => 0))), (q53, .inl (a53, 0, .inl (fun _ => 0)))] := hD
  refine lv_aload_n hx hb dX7_init_58 rfl (lv_at hl 1 rfl) ?_
  refine lv_iconst (v := 0) hx hb dX7_init_59 (by decide) ?_
  refine lv_iload_n hx hb dX7_init_60 rfl (lv_at hl 3 rfl) ?_
  refine va_mmax hx hb (by rw [hml]; exact hl.1.symm) hown (htb _ bg_619) (htb _ bg_620) (htb _ bg_622) (htb _ bg_621) (Nat.le_of_ble_eq_true rfl) (Nat.le_of_ble_eq_true rfl) (Nat.le_of_ble_eq_true rfl) (Nat.le_of_ble_eq_true rfl) dX7_init_61 ?_
  refine lv_topi (fun x_61 ex_61 => ?_)
  have hx_61 : x_61 = 0 := by rw [ex_61]; decide
  rw [hx_61]
  refine va_newa (atype := .char) (ty := .char) (a0 := (0, .inl (fun _ => 0))) (N' := 0) hx hb (htb _ bg_92) rfl hK hP hD hS hA (fun _ => rfl) (by decide) (by decide) (by decide) (Nat.le_of_ble_eq_true rfl) (Nat.le_of_ble_eq_true rfl) dX7_init_64 (fun q64 a64 H hK hP hD hS => ?_)
  have hP : va_P D vwCl [(p0, .inr (7, [.int 0, .ref q25, .ref q32, .ref q39, .ref q46, .ref q53, .null, .int 0])), (q25, .inl (a25, 0, .inl (fun _ => 0))), (q32, .inl (a32, 0, .inl (fun _ => 0))), (q39, .inl (a39, 0, .inl (fun _ => 0))), (q46, .inl (a46, 0, .inl (fun _ => 0))), (q53, .inl (a53, 0, .inl (fun _ => 0))), (q64, .inl (a64, 0, .inl (fun _ => 0)))] H := hP
  have hD : va_D A [(p0, .inr (7, [.int 0, .ref q25, .ref q32, .ref q39, .ref q46, .ref q53, .null, .int 0])), (q25, .inl (a25, 0, .inl (fun _ => 0))), (q32, .inl (a32, 0, .inl (fun _ => 0))), (q39, .inl (a39, 0, .inl (fun _ => 0))), (q46, .inl (a46, 0, .inl (fun _ => 0))), (q53, .inl (a53, 0, .inl (fun _ => 0))), (q64, .inl (a64, 0, .inl (fun _ => 0)))] := hD
  have hK : va_K D vwCl [(a25, .int), (a32, .int), (a39, .int), (a46, .int), (a53, .int), (a64, .char)] s := hK
  refine W.widen (k := 6) (n := 0) (by decide) (by decide) ?_
  refine va_putF (D := D) (ci := 7) (v := .ref q64) (ty := tyX7 6) (C := RX7) (T := TX7) (N := 8) hx hb htb bi_X7 tyX7 tyX7_ok nmX7 hown hK hP hD hS 0 rfl rfl 6 (by decide) (htb _ bg_269) (fun _ h9 => h9) rfl hin rfl (tyX7_ok 6 (by decide)) rfl rfl (Nat.le_of_ble_eq_true rfl) dX7_init_66 (fun H locs hP hD hS => ?_)
  have hP : va_P D vwCl [(p0, .inr (7, [.int 0, .ref q25, .ref q32, .ref q39, .ref q46, .ref q53, .ref q64, .int 0])), (q25, .inl (a25, 0, .inl (fun _ => 0))), (q32, .inl (a32, 0, .inl (fun _ => 0))), (q39, .inl (a39, 0, .inl (fun _ => 0))), (q46, .inl (a46, 0, .inl (fun _ => 0))), (q53, .inl (a53, 0, .inl (fun _ => 0))), (q64, .inl (a64, 0, .inl (fun _ => 0)))] H := hP
  have hD : va_D A [(p0, .inr (7, [.int 0, .ref q25, .ref q32, .ref q39, .ref q46, .ref q53, .ref q64, .int 0])), (q25, .inl (a25, 0, .inl (fun _ => 0))), (q32, .inl (a32, 0, .inl (fun _ => 0))), (q39, .inl (a39, 0, .inl (fun _ => 0))), (q46, .inl (a46, 0, .inl (fun _ => 0))), (q53, .inl (a53, 0, .inl (fun _ => 0))), (q64, .inl (a64, 0, .inl (fun _ => 0)))] := hD
  have hP9 := hP.sub (ws' := []) [] rfl
  have hD9 := hD.sub (ws' := []) [] rfl rfl
  have hK9 := hK.sub (tys' := []) [] rfl
  exact W.vret hx hb hr (fun t ht hW => ⟨⟨(), rfl, trivial, by rw [ht]; exact hP9, va_K.moved hW.alike hK9, hD9⟩, hS.F ht⟩) hS.2.2 dX7_init_69
theorem dX3_init_0 : decode cX3_init 0 = .ok (.aload_n 0, 1) := by decide +kernel
theorem dX3_init_1 : decode cX3_init 1 = .ok (.invokespecial 1, 3) := by decide +kernel
theorem dX3_init_4 : decode cX3_init 4 = .ok (.aload_n 0, 1) := by decide +kernel
theorem dX3_init_5 : decode cX3_init 5 = .ok (.aload_n 1, 1) := by decide +kernel
theorem dX3_init_6 : decode cX3_init 6 = .ok (.putfield 7, 3) := by decide +kernel
theorem dX3_init_9 : decode cX3_init 9 = .ok (.aload_n 0, 1) := by decide +kernel
theorem dX3_init_10 : decode cX3_init 10 = .ok (.new 13, 3) := by decide +kernel
theorem dX3_init_13 : decode cX3_init 13 = .ok (.dup, 1) := by decide +kernel
theorem dX3_init_14 : decode cX3_init 14 = .ok (.iconst 0, 1) := by decide +kernel
theorem dX3_init_15 : decode cX3_init 15 = .ok (.iconst 0, 1) := by decide +kernel
theorem dX3_init_16 : decode cX3_init 16 = .ok (.invokespecial 15, 3) := by decide +kernel
theorem dX3_init_19 : decode cX3_init 19 = .ok (.putfield 18, 3) := by decide +kernel
theorem dX3_init_22 : decode cX3_init 22 = .ok (.aload_n 0, 1) := by decide +kernel
theorem dX3_init_23 : decode cX3_init 23 = .ok (.iconst 0, 1) := by decide +kernel
theorem dX3_init_24 : decode cX3_init 24 = .ok (.anewarray 22, 3) := by decide +kernel
theorem dX3_init_27 : decode cX3_init 27 = .ok (.putfield 24, 3) := by decide +kernel
theorem dX3_init_30 : decode cX3_init 30 = .ok (.aload_n 0, 1) := by decide +kernel
theorem dX3_init_31 : decode cX3_init 31 = .ok (.iconst 0, 1) := by decide +kernel
theorem dX3_init_32 : decode cX3_init 32 = .ok (.anewarray 22, 3) := by decide +kernel
theorem dX3_init_35 : decode cX3_init 35 = .ok (.putfield 28, 3) := by decide +kernel
theorem dX3_init_38 : decode cX3_init 38 = .ok (.aload_n 0, 1) := by decide +kernel
theorem dX3_init_39 : decode cX3_init 39 = .ok (.iconst (-1), 1) := by decide +kernel
theorem dX3_init_40 : decode cX3_init 40 = .ok (.putfield 31, 3) := by decide +kernel
theorem dX3_init_43 : decode cX3_init 43 = .ok (.return_, 1) := by decide +kernel
set_option maxHeartbeats 4000000 in
set_option maxRecDepth 100000 in
theorem cc_init (l : Launch) (D : va_G) (g : xe_G) (c0 : Nat) (b0 : Nat) (sz : Nat)  : Met l yX3_init (.code yX3_init cX3_init 2 none :: bg) ({ frames := 4, cells := 9, slots := 8, locals := 480 } : Room) (xb_Pre (xe_E g) D vwCl [(c0, .inr (3, [.null, .null, .int 0, .int 0, .int 0, .int 0, .null, .null, .int 0, .int 0, .int 0, .int 0, .int 0, .int 0, .int 0, .int 0, .int 0]))] [] sz [.ref c0, .ref b0]) (va_Qv (fun _ => True) (xb_B D vwCl (va_A [(c0, .inr (3, [.null, .null, .int 0, .int 0, .int 0, .int 0, .null, .null, .int 0, .int 0, .int 0, .int 0, .int 0, .int 0, .int 0, .int 0, .int 0]))] sz) (fun u : Nat × Nat × Nat => [(c0, .inr (3, [.ref b0, .ref u.1, .int 0, .int 0, .int 0, .int 0, .ref u.2.1, .ref u.2.2, .int 0, .int 0, .int 0, .int 0, .int 0, .int 0, .int 0, .int 0, .int (-1)]))]) (fun u : Nat × Nat × Nat => [])) (va_A [(c0, .inr (3, [.null, .null, .int 0, .int 0, .int 0, .int 0, .null, .null, .int 0, .int 0, .int 0, .int 0, .int 0, .int 0, .int 0, .int 0, .int 0]))] sz)) 9 8 (va_A [(c0, .inr (3, [.null, .null, .int 0, .int 0, .int 0, .int 0, .null, .null, .int 0, .int 0, .int 0, .int 0, .int 0, .int 0, .int 0, .int 0, .int 0]))] sz) := by
  refine Met.ofW (cc := cX3_init) (maxL := 2) (ret := none) (by decide) rfl ?_
  intro p e s m args below meth c s₁ B hml hv
  obtain ⟨rfl, hsz, hP, hK, hD0, hE⟩ := hv
  have hx := B.exec
  have hb := B.bytes
  have hr := B.returns
  have hts := atoms_spec (ws := (.code yX3_init cX3_init 2 none :: bg)) B.pre
  have htb : ∀ w ∈ bg, w.before _ s = true := fun w h => hts w (List.mem_cons_of_mem _ h)
  have hown : s.vm.findClass RX3 = some m.cls := findClass_of_methodNamed B.named
  have hlocks := B.notSynchronized
  have hin : meth.name = "<init>" := (name_of_methodNamed B.named B.method).1
  subst hsz
  have hD := hD0.self (sz := s.heap.size)
  generalize hAe : va_A [(c0, .inr (3, [.null, .null, .int 0, .int 0, .int 0, .int 0, .null, .null, .int 0, .int 0, .int 0, .int 0, .int 0, .int 0, .int 0, .int 0, .int 0]))] s.heap.size = A at hD hE ⊢
  have hA : ∀ q : Nat, s.heap.size ≤ q → A q := fun q h => by rw [← hAe]; exact Or.inr h
  have hS : va_S A s.heap s.heap [] := va_S.rf
  have hP : va_P D vwCl [(c0, .inr (3, [.null, .null, .int 0, .int 0, .int 0, .int 0, .null, .null, .int 0, .int 0, .int 0, .int 0, .int 0, .int 0, .int 0, .int 0, .int 0]))] s.heap := hP
  have hl := lv_entry ([.ref c0, .ref b0]) (n := 2) (Nat.le_of_ble_eq_true rfl)
  rw [lg_entry_eq]
  generalize (lg_sl ([.ref c0, .ref b0]) ++ List.replicate (2 - (lg_sl ([.ref c0, .ref b0])).length) Slot.unset).toArray = ls at hl ⊢
  have hl : lv_has ls 2 [(0, .ref c0), (1, .ref b0)] := hl
  refine lv_aload_n hx hb dX3_init_0 rfl (lv_at hl 0 rfl) ?_
  refine W.objInit hx hb hown (htb _ bg_249) (htb _ bg_3) (htb _ bg_2) rfl (by rw [hml]; exact hl.1) rfl dX3_init_1 (Nat.le_of_ble_eq_true rfl) (Nat.le_of_ble_eq_true rfl) ?_
  refine W.eq (g2 := F0 m 4 ls []) rfl ?_
  refine lv_aload_n hx hb dX3_init_4 rfl (lv_at hl 0 rfl) ?_
  refine lv_aload_n hx hb dX3_init_5 rfl (lv_at hl 1 rfl) ?_
  refine va_putF (D := D) (ci := 3) (v := .ref b0) (ty := tyX3 0) (C := RX3) (T := TX3) (N := 17) hx hb htb bi_X3 tyX3 tyX3_ok nmX3 hown hK hP hD hS 0 rfl rfl 0 (by decide) (htb _ bg_250) (fun _ h9 => h9) rfl hin rfl (tyX3_ok 0 (by decide)) rfl rfl (Nat.le_of_ble_eq_true rfl) dX3_init_6 (fun H locs hP hD hS => ?_)
  have hP : va_P D vwCl [(c0, .inr (3, [.ref b0, .null, .int 0, .int 0, .int 0, .int 0, .null, .null, .int 0, .int 0, .int 0, .int 0, .int 0, .int 0, .int 0, .int 0, .int 0]))] H := hP
  have hD : va_D A [(c0, .inr (3, [.ref b0, .null, .int 0, .int 0, .int 0, .int 0, .null, .null, .int 0, .int 0, .int 0, .int 0, .int 0, .int 0, .int 0, .int 0, .int 0]))] := hD
  refine lv_aload_n hx hb dX3_init_9 rfl (lv_at hl 0 rfl) ?_
  refine va_new (ci := 7) (fs := [.int 0, .null, .null, .null, .null, .null, .null, .int 0]) (C := RX7) (T := TX7) (N := 8) hx hb htb bi_X7 tyX7 tyX7_ok hown (htb _ bg_251) (htb _ bg_253) (htb _ bg_252) hK hP hD hS hA rfl (by decide +kernel) (Nat.le_of_ble_eq_true rfl) (Nat.le_of_ble_eq_true rfl) dX3_init_10 (fun q10 H hP hD hS => ?_)
  have hP : va_P D vwCl [(c0, .inr (3, [.ref b0, .null, .int 0, .int 0, .int 0, .int 0, .null, .null, .int 0, .int 0, .int 0, .int 0, .int 0, .int 0, .int 0, .int 0, .int 0])), (q10, .inr (7, [.int 0, .null, .null, .null, .null, .null, .null, .int 0]))] H := hP
  have hD : va_D A [(c0, .inr (3, [.ref b0, .null, .int 0, .int 0, .int 0, .int 0, .null, .null, .int 0, .int 0, .int 0, .int 0, .int 0, .int 0, .int 0, .int 0, .int 0])), (q10, .inr (7, [.int 0, .null, .null, .null, .null, .null, .null, .int 0]))] := hD
  refine W.widen (k := 1) (n := 8) (by decide) (by decide) ?_
  refine lv_dup hx hb dX3_init_13 rfl ?_
  refine lv_iconst (v := 0) hx hb dX3_init_14 (by decide) ?_
  refine lv_iconst (v := 0) hx hb dX3_init_15 (by decide) ?_
  refine xb_gov (wr := [(c0, .inr (3, [.ref b0, .null, .int 0, .int 0, .int 0, .int 0, .null, .null, .int 0, .int 0, .int 0, .int 0, .int 0, .int 0, .int 0, .int 0, .int 0]))]) (va_runI (As := [.int 0, .int 0]) (rest := [.ref q10, .ref c0]) ⟨hx, hb, hml, hown, htb⟩ (cp_init l D g q10 (Array.size H) ) (bg_I 2 htb bg_254 bg_256 bg_252 bg_255 rfl rfl (by decide +kernel) ⟨Nat.le_of_ble_eq_true rfl, Nat.le_of_ble_eq_true rfl⟩) ⟨xb_blind xe_ok, xb_enter xe_ok hK hP hD hS hA hE [1] rfl rfl rfl [] rfl⟩ rfl rfl hl.1 rfl (lv_room (Nat.le_of_ble_eq_true rfl)) dX3_init_16 ⟨Nat.le_of_ble_eq_true rfl, Nat.le_of_ble_eq_true rfl⟩) hK hP hD hS hA [1] [0] rfl rfl rfl (by decide) (fun u_16 H locs hw_16 hP hD hK hS => ?_)
  have hP : va_P D vwCl [(c0, .inr (3, [.ref b0, .null, .int 0, .int 0, .int 0, .int 0, .null, .null, .int 0, .int 0, .int 0, .int 0, .int 0, .int 0, .int 0, .int 0, .int 0]))] H := hP
  have hD : va_D A [(c0, .inr (3, [.ref b0, .null, .int 0, .int 0, .int 0, .int 0, .null, .null, .int 0, .int 0, .int 0, .int 0, .int 0, .int 0, .int 0, .int 0, .int 0]))] := hD
  have hK : va_K D vwCl [] s := hK
  refine W.widen (k := 7) (n := 8) (by decide) (by decide) ?_
  refine va_put (D := D) (ci := 3) (v := .ref q10) (ty := tyX3 1) (C := RX3) (T := TX3) (N := 17) hx hb htb bi_X3 tyX3 tyX3_ok nmX3 hown hK hP hD hS 0 rfl rfl 1 (by decide) (htb _ bg_257) (fun _ h9 => h9) rfl (tyX3_ok 1 (by decide)) rfl rfl (Nat.le_of_ble_eq_true rfl) dX3_init_19 (fun H locs hP hD hS => ?_)
  have hP : va_P D vwCl [(c0, .inr (3, [.ref b0, .ref q10, .int 0, .int 0, .int 0, .int 0, .null, .null, .int 0, .int 0, .int 0, .int 0, .int 0, .int 0, .int 0, .int 0, .int 0]))] H := hP
  have hD : va_D A [(c0, .inr (3, [.ref b0, .ref q10, .int 0, .int 0, .int 0, .int 0, .null, .null, .int 0, .int 0, .int 0, .int 0, .int 0, .int 0, .int 0, .int 0, .int 0]))] := hD
  refine lv_aload_n hx hb dX3_init_22 rfl (lv_at hl 0 rfl) ?_
  refine lv_iconst (v := 0) hx hb dX3_init_23 (by decide) ?_
  refine va_newq (C := RX6) (N' := 0) hx hb hown (htb _ bg_258) (hE.2.2.2.2.2.2.2.2.2.1) hK hP hD hS hA (by decide) (by decide) (by decide) (Nat.le_of_ble_eq_true rfl) (Nat.le_of_ble_eq_true rfl) dX3_init_24 (fun q24 a24 H hK hP hD hS => ?_)
  have hP : va_P D vwCl [(c0, .inr (3, [.ref b0, .ref q10, .int 0, .int 0, .int 0, .int 0, .null, .null, .int 0, .int 0, .int 0, .int 0, .int 0, .int 0, .int 0, .int 0, .int 0])), (q24, .inl (a24, 0, .inr (.inr (.inr (.inr (fun _ => none))))))] H := hP
  have hD : va_D A [(c0, .inr (3, [.ref b0, .ref q10, .int 0, .int 0, .int 0, .int 0, .null, .null, .int 0, .int 0, .int 0, .int 0, .int 0, .int 0, .int 0, .int 0, .int 0])), (q24, .inl (a24, 0, .inr (.inr (.inr (.inr (fun _ => none))))))] := hD
  have hK : va_K D vwCl [(a24, .object RX6)] s := hK
  refine W.widen (k := 8) (n := 8) (by decide) (by decide) ?_
  refine va_put (D := D) (ci := 3) (v := .ref q24) (ty := tyX3 6) (C := RX3) (T := TX3) (N := 17) hx hb htb bi_X3 tyX3 tyX3_ok nmX3 hown hK hP hD hS 0 rfl rfl 6 (by decide) (htb _ bg_259) (fun _ h9 => h9) rfl (tyX3_ok 6 (by decide)) rfl rfl (Nat.le_of_ble_eq_true rfl) dX3_init_27 (fun H locs hP hD hS => ?_)
  have hP : va_P D vwCl [(c0, .inr (3, [.ref b0, .ref q10, .int 0, .int 0, .int 0, .int 0, .ref q24, .null, .int 0, .int 0, .int 0, .int 0, .int 0, .int 0, .int 0, .int 0, .int 0])), (q24, .inl (a24, 0, .inr (.inr (.inr (.inr (fun _ => none))))))] H := hP
  have hD : va_D A [(c0, .inr (3, [.ref b0, .ref q10, .int 0, .int 0, .int 0, .int 0, .ref q24, .null, .int 0, .int 0, .int 0, .int 0, .int 0, .int 0, .int 0, .int 0, .int 0])), (q24, .inl (a24, 0, .inr (.inr (.inr (.inr (fun _ => none))))))] := hD
  refine lv_aload_n hx hb dX3_init_30 rfl (lv_at hl 0 rfl) ?_
  refine lv_iconst (v := 0) hx hb dX3_init_31 (by decide) ?_
  refine va_newq (C := RX6) (N' := 0) hx hb hown (htb _ bg_258) (hE.2.2.2.2.2.2.2.2.2.1) hK hP hD hS hA (by decide) (by decide) (by decide) (Nat.le_of_ble_eq_true rfl) (Nat.le_of_ble_eq_true rfl) dX3_init_32 (fun q32 a32 H hK hP hD hS => ?_)
  have hP : va_P D vwCl [(c0, .inr (3, [.ref b0, .ref q10, .int 0, .int 0, .int 0, .int 0, .ref q24, .null, .int 0, .int 0, .int 0, .int 0, .int 0, .int 0, .int 0, .int 0, .int 0])), (q24, .inl (a24, 0, .inr (.inr (.inr (.inr (fun _ => none)))))), (q32, .inl (a32, 0, .inr (.inr (.inr (.inr (fun _ => none))))))] H := hP
  have hD : va_D A [(c0, .inr (3, [.ref b0, .ref q10, .int 0, .int 0, .int 0, .int 0, .ref q24, .null, .int 0, .int 0, .int 0, .int 0, .int 0, .int 0, .int 0, .int 0, .int 0])), (q24, .inl (a24, 0, .inr (.inr (.inr (.inr (fun _ => none)))))), (q32, .inl (a32, 0, .inr (.inr (.inr (.inr (fun _ => none))))))] := hD
  have hK : va_K D vwCl [(a24, .object RX6), (a32, .object RX6)] s := hK
  refine W.widen (k := 9) (n := 8) (by decide) (by decide) ?_
  refine va_put (D := D) (ci := 3) (v := .ref q32) (ty := tyX3 7) (C := RX3) (T := TX3) (N := 17) hx hb htb bi_X3 tyX3 tyX3_ok nmX3 hown hK hP hD hS 0 rfl rfl 7 (by decide) (htb _ bg_260) (fun _ h9 => h9) rfl (tyX3_ok 7 (by decide)) rfl rfl (Nat.le_of_ble_eq_true rfl) dX3_init_35 (fun H locs hP hD hS => ?_)
  have hP : va_P D vwCl [(c0, .inr (3, [.ref b0, .ref q10, .int 0, .int 0, .int 0, .int 0, .ref q24, .ref q32, .int 0, .int 0, .int 0, .int 0, .int 0, .int 0, .int 0, .int 0, .int 0])), (q24, .inl (a24, 0, .inr (.inr (.inr (.inr (fun _ => none)))))), (q32, .inl (a32, 0, .inr (.inr (.inr (.inr (fun _ => none))))))] H := hP
  have hD : va_D A [(c0, .inr (3, [.ref b0, .ref q10, .int 0, .int 0, .int 0, .int 0, .ref q24, .ref q32, .int 0, .int 0, .int 0, .int 0, .int 0, .int 0, .int 0, .int 0, .int 0])), (q24, .inl (a24, 0, .inr (.inr (.inr (.inr (fun _ => none)))))), (q32, .inl (a32, 0, .inr (.inr (.inr (.inr (fun _ => none))))))] := hD
  refine lv_aload_n hx hb dX3_init_38 rfl (lv_at hl 0 rfl) ?_
  refine lv_iconst (v := (-1)) hx hb dX3_init_39 (by decide) ?_
  refine va_put (D := D) (ci := 3) (v := .int (-1)) (ty := tyX3 16) (C := RX3) (T := TX3) (N := 17) hx hb htb bi_X3 tyX3 tyX3_ok nmX3 hown hK hP hD hS 0 rfl rfl 16 (by decide) (htb _ bg_261) (fun _ h9 => h9) rfl (tyX3_ok 16 (by decide)) rfl rfl (Nat.le_of_ble_eq_true rfl) dX3_init_40 (fun H locs hP hD hS => ?_)
  have hP : va_P D vwCl [(c0, .inr (3, [.ref b0, .ref q10, .int 0, .int 0, .int 0, .int 0, .ref q24, .ref q32, .int 0, .int 0, .int 0, .int 0, .int 0, .int 0, .int 0, .int 0, .int (-1)])), (q24, .inl (a24, 0, .inr (.inr (.inr (.inr (fun _ => none)))))), (q32, .inl (a32, 0, .inr (.inr (.inr (.inr (fun _ => none))))))] H := hP
  have hD : va_D A [(c0, .inr (3, [.ref b0, .ref q10, .int 0, .int 0, .int 0, .int 0, .ref q24, .ref q32, .int 0, .int 0, .int 0, .int 0, .int 0, .int 0, .int 0, .int 0, .int (-1)])), (q24, .inl (a24, 0, .inr (.inr (.inr (.inr (fun _ => none)))))), (q32, .inl (a32, 0, .inr (.inr (.inr (.inr (fun _ => none))))))] := hD
  have hP9 := hP.sub (ws' := [(c0, .inr (3, [.ref b0, .ref q10, .int 0, .int 0, .int 0, .int 0, .ref q24, .ref q32, .int 0, .int 0, .int 0, .int 0, .int 0, .int 0, .int 0, .int 0, .int (-1)]))]) [0] rfl
  have hD9 := hD.sub (ws' := [(c0, .inr (3, [.ref b0, .ref q10, .int 0, .int 0, .int 0, .int 0, .ref q24, .ref q32, .int 0, .int 0, .int 0, .int 0, .int 0, .int 0, .int 0, .int 0, .int (-1)]))]) [0] rfl rfl
  have hK9 := hK.sub (tys' := []) [] rfl
  exact W.vret hx hb hr (fun t ht hW => ⟨⟨(q10, q24, q32), rfl, trivial, by rw [ht]; exact hP9, va_K.moved hW.alike hK9, hD9⟩, hS.F ht⟩) hS.2.2 dX3_init_43
theorem dX9_init_0 : decode cX9_init 0 = .ok (.aload_n 0, 1) := by decide +kernel
theorem dX9_init_1 : decode cX9_init 1 = .ok (.invokespecial 3, 3) := by decide +kernel
theorem dX9_init_4 : decode cX9_init 4 = .ok (.aload_n 0, 1) := by decide +kernel
theorem dX9_init_5 : decode cX9_init 5 = .ok (.aload_n 1, 1) := by decide +kernel
theorem dX9_init_6 : decode cX9_init 6 = .ok (.putfield 9, 3) := by decide +kernel
theorem dX9_init_9 : decode cX9_init 9 = .ok (.aload_n 0, 1) := by decide +kernel
theorem dX9_init_10 : decode cX9_init 10 = .ok (.aload_n 2, 1) := by decide +kernel
theorem dX9_init_11 : decode cX9_init 11 = .ok (.putfield 15, 3) := by decide +kernel
theorem dX9_init_14 : decode cX9_init 14 = .ok (.aload_n 0, 1) := by decide +kernel
theorem dX9_init_15 : decode cX9_init 15 = .ok (.aload_n 1, 1) := by decide +kernel
theorem dX9_init_16 : decode cX9_init 16 = .ok (.getfield 19, 3) := by decide +kernel
theorem dX9_init_19 : decode cX9_init 19 = .ok (.putfield 25, 3) := by decide +kernel
theorem dX9_init_22 : decode cX9_init 22 = .ok (.return_, 1) := by decide +kernel
set_option maxHeartbeats 4000000 in
set_option maxRecDepth 100000 in
theorem cr_init (l : Launch) (D : va_G) (g : xe_G) (r0 : Nat) (c0 : Nat) (v0 : Nat) (b0 : Nat) (p0 : Nat) (f0 : Nat) (m0 : Nat) (sz : Nat)  : Met l yX9_init (.code yX9_init cX9_init 3 none :: bg) ({ frames := 2, cells := 0, slots := 0, locals := 240 } : Room) (xb_Pre (xe_E g) D vwCl [(r0, .inr (9, [.null, .null, .null, .int 0, .int 0])), (c0, .inr (3, [.ref b0, .ref p0, .int 0, .int 0, .int 0, .int 0, .ref f0, .ref m0, .int 0, .int 0, .int 0, .int 0, .int 0, .int 0, .int 0, .int 0, .int (-1)]))] [] sz [.ref r0, .ref c0, .ref v0]) (va_Qv (fun _ => True) (xb_B D vwCl (va_A [(r0, .inr (9, [.null, .null, .null, .int 0, .int 0])), (c0, .inr (3, [.ref b0, .ref p0, .int 0, .int 0, .int 0, .int 0, .ref f0, .ref m0, .int 0, .int 0, .int 0, .int 0, .int 0, .int 0, .int 0, .int 0, .int (-1)]))] sz) (fun u : Unit => [(r0, .inr (9, [.ref c0, .ref b0, .ref v0, .int 0, .int 0])), (c0, .inr (3, [.ref b0, .ref p0, .int 0, .int 0, .int 0, .int 0, .ref f0, .ref m0, .int 0, .int 0, .int 0, .int 0, .int 0, .int 0, .int 0, .int 0, .int (-1)]))]) (fun u : Unit => [])) (va_A [(r0, .inr (9, [.null, .null, .null, .int 0, .int 0])), (c0, .inr (3, [.ref b0, .ref p0, .int 0, .int 0, .int 0, .int 0, .ref f0, .ref m0, .int 0, .int 0, .int 0, .int 0, .int 0, .int 0, .int 0, .int 0, .int (-1)]))] sz)) 0 0 (va_A [(r0, .inr (9, [.null, .null, .null, .int 0, .int 0])), (c0, .inr (3, [.ref b0, .ref p0, .int 0, .int 0, .int 0, .int 0, .ref f0, .ref m0, .int 0, .int 0, .int 0, .int 0, .int 0, .int 0, .int 0, .int 0, .int (-1)]))] sz) := by
  refine Met.ofW (cc := cX9_init) (maxL := 3) (ret := none) (by decide) rfl ?_
  intro p e s m args below meth c s₁ B hml hv
  obtain ⟨rfl, hsz, hP, hK, hD0, hE⟩ := hv
  have hx := B.exec
  have hb := B.bytes
  have hr := B.returns
  have hts := atoms_spec (ws := (.code yX9_init cX9_init 3 none :: bg)) B.pre
  have htb : ∀ w ∈ bg, w.before _ s = true := fun w h => hts w (List.mem_cons_of_mem _ h)
  have hown : s.vm.findClass RX9 = some m.cls := findClass_of_methodNamed B.named
  have hlocks := B.notSynchronized
  have hin : meth.name = "<init>" := (name_of_methodNamed B.named B.method).1
  subst hsz
  have hD := hD0.self (sz := s.heap.size)
  generalize hAe : va_A [(r0, .inr (9, [.null, .null, .null, .int 0, .int 0])), (c0, .inr (3, [.ref b0, .ref p0, .int 0, .int 0, .int 0, .int 0, .ref f0, .ref m0, .int 0, .int 0, .int 0, .int 0, .int 0, .int 0, .int 0, .int 0, .int (-1)]))] s.heap.size = A at hD hE ⊢
  have hA : ∀ q : Nat, s.heap.size ≤ q → A q := fun q h => by rw [← hAe]; exact Or.inr h
  have hS : va_S A s.heap s.heap [] := va_S.rf
  have hP : va_P D vwCl [(r0, .inr (9, [.null, .null, .null, .int 0, .int 0])), (c0, .inr (3, [.ref b0, .ref p0, .int 0, .int 0, .int 0, .int 0, .ref f0, .ref m0, .int 0, .int 0, .int 0, .int 0, .int 0, .int 0, .int 0, .int 0, .int (-1)]))] s.heap := hP
  have hl := lv_entry ([.ref r0, .ref c0, .ref v0]) (n := 3) (Nat.le_of_ble_eq_true rfl)
  rw [lg_entry_eq]
  generalize (lg_sl ([.ref r0, .ref c0, .ref v0]) ++ List.replicate (3 - (lg_sl ([.ref r0, .ref c0, .ref v0])).length) Slot.unset).toArray = ls at hl ⊢
  have hl : lv_has ls 3 [(0, .ref r0), (1, .ref c0), (2, .ref v0)] := hl
  refine lv_aload_n hx hb dX9_init_0 rfl (lv_at hl 0 rfl) ?_
  refine W.objInit hx hb hown (htb _ bg_270) (htb _ bg_3) (htb _ bg_2) rfl (by rw [hml]; exact hl.1) rfl dX9_init_1 (Nat.le_of_ble_eq_true rfl) (Nat.le_of_ble_eq_true rfl) ?_
  refine W.eq (g2 := F0 m 4 ls []) rfl ?_
  refine lv_aload_n hx hb dX9_init_4 rfl (lv_at hl 0 rfl) ?_
  refine lv_aload_n hx hb dX9_init_5 rfl (lv_at hl 1 rfl) ?_
  refine va_putF (D := D) (ci := 9) (v := .ref c0) (ty := tyX9 0) (C := RX9) (T := TX9) (N := 5) hx hb htb bi_X9 tyX9 tyX9_ok nmX9 hown hK hP hD hS 0 rfl rfl 0 (by decide) (htb _ bg_271) (fun _ h9 => h9) rfl hin rfl (tyX9_ok 0 (by decide)) rfl rfl (Nat.le_of_ble_eq_true rfl) dX9_init_6 (fun H locs hP hD hS => ?_)
  have hP : va_P D vwCl [(r0, .inr (9, [.ref c0, .null, .null, .int 0, .int 0])), (c0, .inr (3, [.ref b0, .ref p0, .int 0, .int 0, .int 0, .int 0, .ref f0, .ref m0, .int 0, .int 0, .int 0, .int 0, .int 0, .int 0, .int 0, .int 0, .int (-1)]))] H := hP
  have hD : va_D A [(r0, .inr (9, [.ref c0, .null, .null, .int 0, .int 0])), (c0, .inr (3, [.ref b0, .ref p0, .int 0, .int 0, .int 0, .int 0, .ref f0, .ref m0, .int 0, .int 0, .int 0, .int 0, .int 0, .int 0, .int 0, .int 0, .int (-1)]))] := hD
  refine lv_aload_n hx hb dX9_init_9 rfl (lv_at hl 0 rfl) ?_
  refine lv_aload_n hx hb dX9_init_10 rfl (lv_at hl 2 rfl) ?_
  refine va_putF (D := D) (ci := 9) (v := .ref v0) (ty := tyX9 2) (C := RX9) (T := TX9) (N := 5) hx hb htb bi_X9 tyX9 tyX9_ok nmX9 hown hK hP hD hS 0 rfl rfl 2 (by decide) (htb _ bg_272) (fun _ h9 => h9) rfl hin rfl (tyX9_ok 2 (by decide)) rfl rfl (Nat.le_of_ble_eq_true rfl) dX9_init_11 (fun H locs hP hD hS => ?_)
  have hP : va_P D vwCl [(r0, .inr (9, [.ref c0, .null, .ref v0, .int 0, .int 0])), (c0, .inr (3, [.ref b0, .ref p0, .int 0, .int 0, .int 0, .int 0, .ref f0, .ref m0, .int 0, .int 0, .int 0, .int 0, .int 0, .int 0, .int 0, .int 0, .int (-1)]))] H := hP
  have hD : va_D A [(r0, .inr (9, [.ref c0, .null, .ref v0, .int 0, .int 0])), (c0, .inr (3, [.ref b0, .ref p0, .int 0, .int 0, .int 0, .int 0, .ref f0, .ref m0, .int 0, .int 0, .int 0, .int 0, .int 0, .int 0, .int 0, .int 0, .int (-1)]))] := hD
  refine lv_aload_n hx hb dX9_init_14 rfl (lv_at hl 0 rfl) ?_
  refine lv_aload_n hx hb dX9_init_15 rfl (lv_at hl 1 rfl) ?_
  refine va_get (D := D) (ci := 3) (v := .ref b0) (C := RX3) (T := TX3) (N := 17) hx hb htb bi_X3 hown hK hP 1 rfl rfl 0 (by decide) (htb _ bg_273) (fun _ h9 => h9) rfl dX9_init_16 ?_
  refine va_putF (D := D) (ci := 9) (v := .ref b0) (ty := tyX9 1) (C := RX9) (T := TX9) (N := 5) hx hb htb bi_X9 tyX9 tyX9_ok nmX9 hown hK hP hD hS 0 rfl rfl 1 (by decide) (htb _ bg_274) (fun _ h9 => h9) rfl hin rfl (tyX9_ok 1 (by decide)) rfl rfl (Nat.le_of_ble_eq_true rfl) dX9_init_19 (fun H locs hP hD hS => ?_)
  have hP : va_P D vwCl [(r0, .inr (9, [.ref c0, .ref b0, .ref v0, .int 0, .int 0])), (c0, .inr (3, [.ref b0, .ref p0, .int 0, .int 0, .int 0, .int 0, .ref f0, .ref m0, .int 0, .int 0, .int 0, .int 0, .int 0, .int 0, .int 0, .int 0, .int (-1)]))] H := hP
  have hD : va_D A [(r0, .inr (9, [.ref c0, .ref b0, .ref v0, .int 0, .int 0])), (c0, .inr (3, [.ref b0, .ref p0, .int 0, .int 0, .int 0, .int 0, .ref f0, .ref m0, .int 0, .int 0, .int 0, .int 0, .int 0, .int 0, .int 0, .int 0, .int (-1)]))] := hD
  have hP9 := hP.sub (ws' := [(r0, .inr (9, [.ref c0, .ref b0, .ref v0, .int 0, .int 0])), (c0, .inr (3, [.ref b0, .ref p0, .int 0, .int 0, .int 0, .int 0, .ref f0, .ref m0, .int 0, .int 0, .int 0, .int 0, .int 0, .int 0, .int 0, .int 0, .int (-1)]))]) [0, 1] rfl
  have hD9 := hD.sub (ws' := [(r0, .inr (9, [.ref c0, .ref b0, .ref v0, .int 0, .int 0])), (c0, .inr (3, [.ref b0, .ref p0, .int 0, .int 0, .int 0, .int 0, .ref f0, .ref m0, .int 0, .int 0, .int 0, .int 0, .int 0, .int 0, .int 0, .int 0, .int (-1)]))]) [0, 1] rfl rfl
  have hK9 := hK.sub (tys' := []) [] rfl
  exact W.vret hx hb hr (fun t ht hW => ⟨⟨(), rfl, trivial, by rw [ht]; exact hP9, va_K.moved hW.alike hK9, hD9⟩, hS.F ht⟩) hS.2.2 dX9_init_22
theorem dX9_takes_0 : decode cX9_takes 0 = .ok (.iload_n 1, 1) := by decide +kernel
theorem dX9_takes_1 : decode cX9_takes 1 = .ok (.aload_n 0, 1) := by decide +kernel
theorem dX9_takes_2 : decode cX9_takes 2 = .ok (.getfield 25, 3) := by decide +kernel
theorem dX9_takes_5 : decode cX9_takes 5 = .ok (.invokevirtual 26, 3) := by decide +kernel
theorem dX9_takes_8 : decode cX9_takes 8 = .ok (.aload_n 0, 1) := by decide +kernel
theorem dX9_takes_9 : decode cX9_takes 9 = .ok (.getfield 32, 3) := by decide +kernel
theorem dX9_takes_12 : decode cX9_takes 12 = .ok (.isub, 1) := by decide +kernel
theorem dX9_takes_13 : decode cX9_takes 13 = .ok (.if_icmp .le 16, 3) := by decide +kernel
theorem dX9_takes_16 : decode cX9_takes 16 = .ok (.aload_n 0, 1) := by decide +kernel
theorem dX9_takes_17 : decode cX9_takes 17 = .ok (.getfield 15, 3) := by decide +kernel
theorem dX9_takes_20 : decode cX9_takes 20 = .ok (.iconst 1, 1) := by decide +kernel
theorem dX9_takes_21 : decode cX9_takes 21 = .ok (.aload_n 0, 1) := by decide +kernel
theorem dX9_takes_22 : decode cX9_takes 22 = .ok (.getfield 32, 3) := by decide +kernel
theorem dX9_takes_25 : decode cX9_takes 25 = .ok (.invokevirtual 36, 3) := by decide +kernel
theorem dX9_takes_28 : decode cX9_takes 28 = .ok (.ireturn, 1) := by decide +kernel
set_option maxHeartbeats 4000000 in
set_option maxRecDepth 100000 in
theorem cr_takes (l : Launch) (D : va_G) (g : xe_G) (r0 : Nat) (c0 : Nat) (v0 : Nat) (b0 : Nat) (sz : Nat)  : Met l yX9_takes (.code yX9_takes cX9_takes 2 (some .boolean) :: bg) ({ frames := 2, cells := 0, slots := 0, locals := 240 } : Room) (xb_Pre (xe_E g) D vwCl [(r0, .inr (9, [.ref c0, .ref b0, .ref v0, .int 0, .int 0])), (b0, .inr (1, [.ref g.1])), (v0, .inr (10, [.int 0, .int (-1)]))] [] sz [.ref r0, .int 4]) (va_Qi (fun r _ => r = 0) (xb_B D vwCl (va_A [(r0, .inr (9, [.ref c0, .ref b0, .ref v0, .int 0, .int 0])), (b0, .inr (1, [.ref g.1])), (v0, .inr (10, [.int 0, .int (-1)]))] sz) (fun u : Unit => [(r0, .inr (9, [.ref c0, .ref b0, .ref v0, .int 0, .int 0])), (b0, .inr (1, [.ref g.1])), (v0, .inr (10, [.int 1, .int 0]))]) (fun u : Unit => [])) (va_A [(r0, .inr (9, [.ref c0, .ref b0, .ref v0, .int 0, .int 0])), (b0, .inr (1, [.ref g.1])), (v0, .inr (10, [.int 0, .int (-1)]))] sz)) 0 0 (va_A [(r0, .inr (9, [.ref c0, .ref b0, .ref v0, .int 0, .int 0])), (b0, .inr (1, [.ref g.1])), (v0, .inr (10, [.int 0, .int (-1)]))] sz) := by
  refine Met.ofW (cc := cX9_takes) (maxL := 2) (ret := (some .boolean)) (by decide) rfl ?_
  intro p e s m args below meth c s₁ B hml hv
  obtain ⟨rfl, hsz, hP, hK, hD0, hE⟩ := hv
  have hx := B.exec
  have hb := B.bytes
  have hr := B.returns
  have hts := atoms_spec (ws := (.code yX9_takes cX9_takes 2 (some .boolean) :: bg)) B.pre
  have htb : ∀ w ∈ bg, w.before _ s = true := fun w h => hts w (List.mem_cons_of_mem _ h)
  have hown : s.vm.findClass RX9 = some m.cls := findClass_of_methodNamed B.named
  have hlocks := B.notSynchronized
  subst hsz
  have hD := hD0.self (sz := s.heap.size)
  generalize hAe : va_A [(r0, .inr (9, [.ref c0, .ref b0, .ref v0, .int 0, .int 0])), (b0, .inr (1, [.ref g.1])), (v0, .inr (10, [.int 0, .int (-1)]))] s.heap.size = A at hD hE ⊢
  have hA : ∀ q : Nat, s.heap.size ≤ q → A q := fun q h => by rw [← hAe]; exact Or.inr h
  have hS : va_S A s.heap s.heap [] := va_S.rf
  have hP : va_P D vwCl [(r0, .inr (9, [.ref c0, .ref b0, .ref v0, .int 0, .int 0])), (b0, .inr (1, [.ref g.1])), (v0, .inr (10, [.int 0, .int (-1)]))] s.heap := hP
  have hl := lv_entry ([.ref r0, .int 4]) (n := 2) (Nat.le_of_ble_eq_true rfl)
  rw [lg_entry_eq]
  generalize (lg_sl ([.ref r0, .int 4]) ++ List.replicate (2 - (lg_sl ([.ref r0, .int 4])).length) Slot.unset).toArray = ls at hl ⊢
  have hl : lv_has ls 2 [(0, .ref r0), (1, .int 4)] := hl
  refine lv_iload_n hx hb dX9_takes_0 rfl (lv_at hl 1 rfl) ?_
  refine lv_aload_n hx hb dX9_takes_1 rfl (lv_at hl 0 rfl) ?_
  refine va_get (D := D) (ci := 9) (v := .ref b0) (C := RX9) (T := TX9) (N := 5) hx hb htb bi_X9 hown hK hP 0 rfl rfl 1 (by decide) (htb _ bg_274) (fun _ h9 => h9) rfl dX9_takes_2 ?_
  refine xb_goi (wr := [(r0, .inr (9, [.ref c0, .ref b0, .ref v0, .int 0, .int 0])), (v0, .inr (10, [.int 0, .int (-1)]))]) (va_runV (As := []) (rest := [.int 4]) ⟨hx, hb, hml, hown, htb⟩ (cb_size l D g b0 (Array.size s.heap) ) (bg_V 0 htb bg_276 bg_277 bg_278 bg_31 bg_248 rfl rfl (by decide +kernel) ⟨Nat.le_of_ble_eq_true rfl, Nat.le_of_ble_eq_true rfl⟩) ⟨xb_blind xe_ok, va_recv hK hP (ci := 1) (q0 := 1) rfl rfl, xb_enter xe_ok hK hP hD hS hA hE [1] rfl rfl rfl [] rfl⟩ rfl rfl hl.1 rfl (lv_room (Nat.le_of_ble_eq_true rfl)) dX9_takes_5 ⟨Nat.le_of_ble_eq_true rfl, Nat.le_of_ble_eq_true rfl⟩) hK hP hD hS hA [1] [0, 2] rfl rfl rfl (by decide) (fun r_5 u_5 H locs hw_5 hP hD hK hS => ?_)
  have hP : va_P D vwCl [(r0, .inr (9, [.ref c0, .ref b0, .ref v0, .int 0, .int 0])), (v0, .inr (10, [.int 0, .int (-1)])), (b0, .inr (1, [.ref g.1]))] H := hP
  have hD : va_D A [(r0, .inr (9, [.ref c0, .ref b0, .ref v0, .int 0, .int 0])), (v0, .inr (10, [.int 0, .int (-1)])), (b0, .inr (1, [.ref g.1]))] := hD
  have hK : va_K D vwCl [] s := hK
  refine W.widen (k := 0) (n := 0) (by decide) (by decide) ?_
  have hw_5 : r_5 = 0 := hw_5
  subst hw_5
  refine lv_aload_n hx hb dX9_takes_8 rfl (lv_at hl 0 rfl) ?_
  refine va_get (D := D) (ci := 9) (v := .int 0) (C := RX9) (T := TX9) (N := 5) hx hb htb bi_X9 hown hK hP 0 rfl rfl 3 (by decide) (htb _ bg_279) (fun _ h9 => h9) rfl dX9_takes_9 ?_
  refine lv_isub hx hb dX9_takes_12 ?_
  refine lv_icmp_le (tgt := 29) hx hb dX9_takes_13 (by decide) (fun c_13 => ?_) (fun c_13 => ?_)
  · exact absurd c_13 (by decide)
  refine lv_aload_n hx hb dX9_takes_16 rfl (lv_at hl 0 rfl) ?_
  refine va_get (D := D) (ci := 9) (v := .ref v0) (C := RX9) (T := TX9) (N := 5) hx hb htb bi_X9 hown hK hP 0 rfl rfl 2 (by decide) (htb _ bg_272) (fun _ h9 => h9) rfl dX9_takes_17 ?_
  refine lv_iconst (v := 1) hx hb dX9_takes_20 (by decide) ?_
  refine lv_aload_n hx hb dX9_takes_21 rfl (lv_at hl 0 rfl) ?_
  refine va_get (D := D) (ci := 9) (v := .int 0) (C := RX9) (T := TX9) (N := 5) hx hb htb bi_X9 hown hK hP 0 rfl rfl 3 (by decide) (htb _ bg_279) (fun _ h9 => h9) rfl dX9_takes_22 ?_
  refine xb_goi (wr := [(r0, .inr (9, [.ref c0, .ref b0, .ref v0, .int 0, .int 0])), (b0, .inr (1, [.ref g.1]))]) (va_runV (As := [.int 1, .int 0]) (rest := []) ⟨hx, hb, hml, hown, htb⟩ (cv_wrong l D g v0 0 (-1) 1 0 (Array.size H) ) (bg_V 2 htb bg_280 bg_282 bg_283 bg_40 bg_281 rfl rfl (by decide +kernel) ⟨Nat.le_of_ble_eq_true rfl, Nat.le_of_ble_eq_true rfl⟩) ⟨xb_blind xe_ok, va_recv hK hP (ci := 10) (q0 := 1) rfl rfl, xb_enter xe_ok hK hP hD hS hA hE [1] rfl rfl rfl [] rfl⟩ rfl rfl hl.1 rfl (lv_room (Nat.le_of_ble_eq_true rfl)) dX9_takes_25 ⟨Nat.le_of_ble_eq_true rfl, Nat.le_of_ble_eq_true rfl⟩) hK hP hD hS hA [1] [0, 2] rfl rfl rfl (by decide) (fun r_25 u_25 H locs hw_25 hP hD hK hS => ?_)
  have hP : va_P D vwCl [(r0, .inr (9, [.ref c0, .ref b0, .ref v0, .int 0, .int 0])), (b0, .inr (1, [.ref g.1])), (v0, .inr (10, [.int 1, .int 0]))] H := hP
  have hD : va_D A [(r0, .inr (9, [.ref c0, .ref b0, .ref v0, .int 0, .int 0])), (b0, .inr (1, [.ref g.1])), (v0, .inr (10, [.int 1, .int 0]))] := hD
  have hK : va_K D vwCl [] s := hK
  refine W.widen (k := 0) (n := 0) (by decide) (by decide) ?_
  have hw_25 : r_25 = 0 := hw_25
  subst hw_25
  have hP9 := hP.sub (ws' := [(r0, .inr (9, [.ref c0, .ref b0, .ref v0, .int 0, .int 0])), (b0, .inr (1, [.ref g.1])), (v0, .inr (10, [.int 1, .int 0]))]) [0, 1, 2] rfl
  have hD9 := hD.sub (ws' := [(r0, .inr (9, [.ref c0, .ref b0, .ref v0, .int 0, .int 0])), (b0, .inr (1, [.ref g.1])), (v0, .inr (10, [.int 1, .int 0]))]) [0, 1, 2] rfl rfl
  have hK9 := hK.sub (tys' := []) [] rfl
  exact W.zret (v := 0) hx hb hr (by decide) (fun t ht hW => ⟨⟨0, (), rfl, rfl, by rw [ht]; exact hP9, va_K.moved hW.alike hK9, hD9⟩, hS.F ht⟩) hS.2.2 dX9_takes_28
theorem dX9_takesHead_0 : decode cX9_takesHead 0 = .ok (.aload_n 0, 1) := by decide +kernel
theorem dX9_takesHead_1 : decode cX9_takesHead 1 = .ok (.iconst 4, 1) := by decide +kernel
theorem dX9_takesHead_2 : decode cX9_takesHead 2 = .ok (.invokevirtual 55, 3) := by decide +kernel
theorem dX9_takesHead_5 : decode cX9_takesHead 5 = .ok (.ifCond .ne 5, 3) := by decide +kernel
theorem dX9_takesHead_8 : decode cX9_takesHead 8 = .ok (.iconst 0, 1) := by decide +kernel
theorem dX9_takesHead_9 : decode cX9_takesHead 9 = .ok (.ireturn, 1) := by decide +kernel
set_option maxHeartbeats 4000000 in
set_option maxRecDepth 100000 in
theorem cr_head (l : Launch) (D : va_G) (g : xe_G) (r0 : Nat) (c0 : Nat) (v0 : Nat) (b0 : Nat) (sz : Nat)  : Met l yX9_takesHead (.code yX9_takesHead cX9_takesHead 1 (some .boolean) :: bg) ({ frames := 3, cells := 0, slots := 0, locals := 360 } : Room) (xb_Pre (xe_E g) D vwCl [(r0, .inr (9, [.ref c0, .ref b0, .ref v0, .int 0, .int 0])), (b0, .inr (1, [.ref g.1])), (v0, .inr (10, [.int 0, .int (-1)]))] [] sz [.ref r0]) (va_Qi (fun r _ => r = 0) (xb_B D vwCl (va_A [(r0, .inr (9, [.ref c0, .ref b0, .ref v0, .int 0, .int 0])), (b0, .inr (1, [.ref g.1])), (v0, .inr (10, [.int 0, .int (-1)]))] sz) (fun u : Unit => [(r0, .inr (9, [.ref c0, .ref b0, .ref v0, .int 0, .int 0])), (b0, .inr (1, [.ref g.1])), (v0, .inr (10, [.int 1, .int 0]))]) (fun u : Unit => [])) (va_A [(r0, .inr (9, [.ref c0, .ref b0, .ref v0, .int 0, .int 0])), (b0, .inr (1, [.ref g.1])), (v0, .inr (10, [.int 0, .int (-1)]))] sz)) 0 0 (va_A [(r0, .inr (9, [.ref c0, .ref b0, .ref v0, .int 0, .int 0])), (b0, .inr (1, [.ref g.1])), (v0, .inr (10, [.int 0, .int (-1)]))] sz) := by
  refine Met.ofW (cc := cX9_takesHead) (maxL := 1) (ret := (some .boolean)) (by decide) rfl ?_
  intro p e s m args below meth c s₁ B hml hv
  obtain ⟨rfl, hsz, hP, hK, hD0, hE⟩ := hv
  have hx := B.exec
  have hb := B.bytes
  have hr := B.returns
  have hts := atoms_spec (ws := (.code yX9_takesHead cX9_takesHead 1 (some .boolean) :: bg)) B.pre
  have htb : ∀ w ∈ bg, w.before _ s = true := fun w h => hts w (List.mem_cons_of_mem _ h)
  have hown : s.vm.findClass RX9 = some m.cls := findClass_of_methodNamed B.named
  have hlocks := B.notSynchronized
  subst hsz
  have hD := hD0.self (sz := s.heap.size)
  generalize hAe : va_A [(r0, .inr (9, [.ref c0, .ref b0, .ref v0, .int 0, .int 0])), (b0, .inr (1, [.ref g.1])), (v0, .inr (10, [.int 0, .int (-1)]))] s.heap.size = A at hD hE ⊢
  have hA : ∀ q : Nat, s.heap.size ≤ q → A q := fun q h => by rw [← hAe]; exact Or.inr h
  have hS : va_S A s.heap s.heap [] := va_S.rf
  have hP : va_P D vwCl [(r0, .inr (9, [.ref c0, .ref b0, .ref v0, .int 0, .int 0])), (b0, .inr (1, [.ref g.1])), (v0, .inr (10, [.int 0, .int (-1)]))] s.heap := hP
  have hl := lv_entry ([.ref r0]) (n := 1) (Nat.le_of_ble_eq_true rfl)
  rw [lg_entry_eq]
  generalize (lg_sl ([.ref r0]) ++ List.replicate (1 - (lg_sl ([.ref r0])).length) Slot.unset).toArray = ls at hl ⊢
  have hl : lv_has ls 1 [(0, .ref r0)] := hl
  refine lv_aload_n hx hb dX9_takesHead_0 rfl (lv_at hl 0 rfl) ?_
  refine lv_iconst (v := 4) hx hb dX9_takesHead_1 (by decide) ?_
  refine xb_goi (wr := []) (va_runV (As := [.int 4]) (rest := []) ⟨hx, hb, hml, hown, htb⟩ (cr_takes l D g r0 c0 v0 b0 (Array.size s.heap) ) (bg_V 1 htb bg_285 bg_286 bg_287 bg_52 bg_275 rfl rfl (by decide +kernel) ⟨Nat.le_of_ble_eq_true rfl, Nat.le_of_ble_eq_true rfl⟩) ⟨xb_blind xe_ok, va_recv hK hP (ci := 9) (q0 := 0) rfl rfl, xb_enter xe_ok hK hP hD hS hA hE [0, 1, 2] rfl rfl rfl [] rfl⟩ rfl rfl hl.1 rfl (lv_room (Nat.le_of_ble_eq_true rfl)) dX9_takesHead_2 ⟨Nat.le_of_ble_eq_true rfl, Nat.le_of_ble_eq_true rfl⟩) hK hP hD hS hA [0, 1, 2] [] rfl rfl rfl (by decide) (fun r_2 u_2 H locs hw_2 hP hD hK hS => ?_)
  have hP : va_P D vwCl [(r0, .inr (9, [.ref c0, .ref b0, .ref v0, .int 0, .int 0])), (b0, .inr (1, [.ref g.1])), (v0, .inr (10, [.int 1, .int 0]))] H := hP
  have hD : va_D A [(r0, .inr (9, [.ref c0, .ref b0, .ref v0, .int 0, .int 0])), (b0, .inr (1, [.ref g.1])), (v0, .inr (10, [.int 1, .int 0]))] := hD
  have hK : va_K D vwCl [] s := hK
  refine W.widen (k := 0) (n := 0) (by decide) (by decide) ?_
  have hw_2 : r_2 = 0 := hw_2
  subst hw_2
  refine lv_if_ne (tgt := 10) hx hb dX9_takesHead_5 (by decide) (fun c_5 => ?_) (fun c_5 => ?_)
  · exact absurd (by decide) c_5
  refine lv_iconst (v := 0) hx hb dX9_takesHead_8 (by decide) ?_
  have hP9 := hP.sub (ws' := [(r0, .inr (9, [.ref c0, .ref b0, .ref v0, .int 0, .int 0])), (b0, .inr (1, [.ref g.1])), (v0, .inr (10, [.int 1, .int 0]))]) [0, 1, 2] rfl
  have hD9 := hD.sub (ws' := [(r0, .inr (9, [.ref c0, .ref b0, .ref v0, .int 0, .int 0])), (b0, .inr (1, [.ref g.1])), (v0, .inr (10, [.int 1, .int 0]))]) [0, 1, 2] rfl rfl
  have hK9 := hK.sub (tys' := []) [] rfl
  exact W.zret (v := 0) hx hb hr (by decide) (fun t ht hW => ⟨⟨0, (), rfl, rfl, by rw [ht]; exact hP9, va_K.moved hW.alike hK9, hD9⟩, hS.F ht⟩) hS.2.2 dX9_takesHead_9
theorem dX11_isWhole_0 : decode cX11_isWhole 0 = .ok (.new 79, 3) := by decide +kernel
theorem dX11_isWhole_3 : decode cX11_isWhole 3 = .ok (.dup, 1) := by decide +kernel
theorem dX11_isWhole_4 : decode cX11_isWhole 4 = .ok (.aload_n 0, 1) := by decide +kernel
theorem dX11_isWhole_5 : decode cX11_isWhole 5 = .ok (.aload_n 1, 1) := by decide +kernel
theorem dX11_isWhole_6 : decode cX11_isWhole 6 = .ok (.invokespecial 81, 3) := by decide +kernel
theorem dX11_isWhole_9 : decode cX11_isWhole 9 = .ok (.astore_n 2, 1) := by decide +kernel
theorem dX11_isWhole_10 : decode cX11_isWhole 10 = .ok (.aload_n 2, 1) := by decide +kernel
theorem dX11_isWhole_11 : decode cX11_isWhole 11 = .ok (.invokevirtual 84, 3) := by decide +kernel
theorem dX11_isWhole_14 : decode cX11_isWhole 14 = .ok (.ifCond .eq 42, 3) := by decide +kernel
theorem dX11_isWhole_56 : decode cX11_isWhole 56 = .ok (.iconst 0, 1) := by decide +kernel
theorem dX11_isWhole_57 : decode cX11_isWhole 57 = .ok (.ireturn, 1) := by decide +kernel
set_option maxHeartbeats 4000000 in
set_option maxRecDepth 100000 in
theorem cg_whole (l : Launch) (D : va_G) (g : xe_G) (c0 : Nat) (v0 : Nat) (b0 : Nat) (p0 : Nat) (f0 : Nat) (m0 : Nat) (sz : Nat)  : Met l yX11_isWhole (.code yX11_isWhole cX11_isWhole 3 (some .boolean) :: bg) ({ frames := 4, cells := 1, slots := 5, locals := 480 } : Room) (xb_Pre (xe_E g) D vwCl [(c0, .inr (3, [.ref b0, .ref p0, .int 0, .int 0, .int 0, .int 0, .ref f0, .ref m0, .int 0, .int 0, .int 0, .int 0, .int 0, .int 0, .int 0, .int 0, .int (-1)])), (b0, .inr (1, [.ref g.1])), (v0, .inr (10, [.int 0, .int (-1)]))] [] sz [.ref c0, .ref v0]) (va_Qi (fun r _ => r = 0) (xb_B D vwCl (va_A [(c0, .inr (3, [.ref b0, .ref p0, .int 0, .int 0, .int 0, .int 0, .ref f0, .ref m0, .int 0, .int 0, .int 0, .int 0, .int 0, .int 0, .int 0, .int 0, .int (-1)])), (b0, .inr (1, [.ref g.1])), (v0, .inr (10, [.int 0, .int (-1)]))] sz) (fun u : Unit => [(c0, .inr (3, [.ref b0, .ref p0, .int 0, .int 0, .int 0, .int 0, .ref f0, .ref m0, .int 0, .int 0, .int 0, .int 0, .int 0, .int 0, .int 0, .int 0, .int (-1)])), (b0, .inr (1, [.ref g.1])), (v0, .inr (10, [.int 1, .int 0]))]) (fun u : Unit => [])) (va_A [(c0, .inr (3, [.ref b0, .ref p0, .int 0, .int 0, .int 0, .int 0, .ref f0, .ref m0, .int 0, .int 0, .int 0, .int 0, .int 0, .int 0, .int 0, .int 0, .int (-1)])), (b0, .inr (1, [.ref g.1])), (v0, .inr (10, [.int 0, .int (-1)]))] sz)) 1 5 (va_A [(c0, .inr (3, [.ref b0, .ref p0, .int 0, .int 0, .int 0, .int 0, .ref f0, .ref m0, .int 0, .int 0, .int 0, .int 0, .int 0, .int 0, .int 0, .int 0, .int (-1)])), (b0, .inr (1, [.ref g.1])), (v0, .inr (10, [.int 0, .int (-1)]))] sz) := by
  refine Met.ofW (cc := cX11_isWhole) (maxL := 3) (ret := (some .boolean)) (by decide) rfl ?_
  intro p e s m args below meth c s₁ B hml hv
  obtain ⟨rfl, hsz, hP, hK, hD0, hE⟩ := hv
  have hx := B.exec
  have hb := B.bytes
  have hr := B.returns
  have hts := atoms_spec (ws := (.code yX11_isWhole cX11_isWhole 3 (some .boolean) :: bg)) B.pre
  have htb : ∀ w ∈ bg, w.before _ s = true := fun w h => hts w (List.mem_cons_of_mem _ h)
  have hown : s.vm.findClass RX11 = some m.cls := findClass_of_methodNamed B.named
  have hlocks := B.notSynchronized
  subst hsz
  have hD := hD0.self (sz := s.heap.size)
  generalize hAe : va_A [(c0, .inr (3, [.ref b0, .ref p0, .int 0, .int 0, .int 0, .int 0, .ref f0, .ref m0, .int 0, .int 0, .int 0, .int 0, .int 0, .int 0, .int 0, .int 0, .int (-1)])), (b0, .inr (1, [.ref g.1])), (v0, .inr (10, [.int 0, .int (-1)]))] s.heap.size = A at hD hE ⊢
  have hA : ∀ q : Nat, s.heap.size ≤ q → A q := fun q h => by rw [← hAe]; exact Or.inr h
  have hS : va_S A s.heap s.heap [] := va_S.rf
  have hP : va_P D vwCl [(c0, .inr (3, [.ref b0, .ref p0, .int 0, .int 0, .int 0, .int 0, .ref f0, .ref m0, .int 0, .int 0, .int 0, .int 0, .int 0, .int 0, .int 0, .int 0, .int (-1)])), (b0, .inr (1, [.ref g.1])), (v0, .inr (10, [.int 0, .int (-1)]))] s.heap := hP
  have hl := lv_entry ([.ref c0, .ref v0]) (n := 3) (Nat.le_of_ble_eq_true rfl)
  rw [lg_entry_eq]
  generalize (lg_sl ([.ref c0, .ref v0]) ++ List.replicate (3 - (lg_sl ([.ref c0, .ref v0])).length) Slot.unset).toArray = ls at hl ⊢
  have hl : lv_has ls 3 [(0, .ref c0), (1, .ref v0)] := hl
  refine va_new (ci := 9) (fs := [.null, .null, .null, .int 0, .int 0]) (C := RX9) (T := TX9) (N := 5) hx hb htb bi_X9 tyX9 tyX9_ok hown (htb _ bg_51) (htb _ bg_53) (htb _ bg_52) hK hP hD hS hA rfl (by decide +kernel) (Nat.le_of_ble_eq_true rfl) (Nat.le_of_ble_eq_true rfl) dX11_isWhole_0 (fun q0 H hP hD hS => ?_)
  have hP : va_P D vwCl [(c0, .inr (3, [.ref b0, .ref p0, .int 0, .int 0, .int 0, .int 0, .ref f0, .ref m0, .int 0, .int 0, .int 0, .int 0, .int 0, .int 0, .int 0, .int 0, .int (-1)])), (b0, .inr (1, [.ref g.1])), (v0, .inr (10, [.int 0, .int (-1)])), (q0, .inr (9, [.null, .null, .null, .int 0, .int 0]))] H := hP
  have hD : va_D A [(c0, .inr (3, [.ref b0, .ref p0, .int 0, .int 0, .int 0, .int 0, .ref f0, .ref m0, .int 0, .int 0, .int 0, .int 0, .int 0, .int 0, .int 0, .int 0, .int (-1)])), (b0, .inr (1, [.ref g.1])), (v0, .inr (10, [.int 0, .int (-1)])), (q0, .inr (9, [.null, .null, .null, .int 0, .int 0]))] := hD
  refine W.widen (k := 1) (n := 5) (by decide) (by decide) ?_
  refine lv_dup hx hb dX11_isWhole_3 rfl ?_
  refine lv_aload_n hx hb dX11_isWhole_4 rfl (lv_at hl 0 rfl) ?_
  refine lv_aload_n hx hb dX11_isWhole_5 rfl (lv_at hl 1 rfl) ?_
  refine xb_gov (wr := [(b0, .inr (1, [.ref g.1])), (v0, .inr (10, [.int 0, .int (-1)]))]) (va_runI (As := [.ref c0, .ref v0]) (rest := [.ref q0]) ⟨hx, hb, hml, hown, htb⟩ (cr_init l D g q0 c0 v0 b0 p0 f0 m0 (Array.size H) ) (bg_I 2 htb bg_54 bg_56 bg_52 bg_55 rfl rfl (by decide +kernel) ⟨Nat.le_of_ble_eq_true rfl, Nat.le_of_ble_eq_true rfl⟩) ⟨xb_blind xe_ok, xb_enter xe_ok hK hP hD hS hA hE [3, 0] rfl rfl rfl [] rfl⟩ rfl rfl hl.1 rfl (lv_room (Nat.le_of_ble_eq_true rfl)) dX11_isWhole_6 ⟨Nat.le_of_ble_eq_true rfl, Nat.le_of_ble_eq_true rfl⟩) hK hP hD hS hA [3, 0] [1, 2] rfl rfl rfl (by decide) (fun u_6 H locs hw_6 hP hD hK hS => ?_)
  have hP : va_P D vwCl [(b0, .inr (1, [.ref g.1])), (v0, .inr (10, [.int 0, .int (-1)])), (q0, .inr (9, [.ref c0, .ref b0, .ref v0, .int 0, .int 0])), (c0, .inr (3, [.ref b0, .ref p0, .int 0, .int 0, .int 0, .int 0, .ref f0, .ref m0, .int 0, .int 0, .int 0, .int 0, .int 0, .int 0, .int 0, .int 0, .int (-1)]))] H := hP
  have hD : va_D A [(b0, .inr (1, [.ref g.1])), (v0, .inr (10, [.int 0, .int (-1)])), (q0, .inr (9, [.ref c0, .ref b0, .ref v0, .int 0, .int 0])), (c0, .inr (3, [.ref b0, .ref p0, .int 0, .int 0, .int 0, .int 0, .ref f0, .ref m0, .int 0, .int 0, .int 0, .int 0, .int 0, .int 0, .int 0, .int 0, .int (-1)]))] := hD
  have hK : va_K D vwCl [] s := hK
  refine W.widen (k := 1) (n := 5) (by decide) (by decide) ?_
  refine lv_astore_n (lv' := [(2, .ref q0), (0, .ref c0), (1, .ref v0)]) hx hb dX11_isWhole_9 rfl hl (by decide) rfl (fun ls hl => ?_)
  refine lv_aload_n hx hb dX11_isWhole_10 rfl (lv_at hl 0 rfl) ?_
  refine xb_goi (wr := [(c0, .inr (3, [.ref b0, .ref p0, .int 0, .int 0, .int 0, .int 0, .ref f0, .ref m0, .int 0, .int 0, .int 0, .int 0, .int 0, .int 0, .int 0, .int 0, .int (-1)]))]) (va_runV (As := []) (rest := []) ⟨hx, hb, hml, hown, htb⟩ (cr_head l D g q0 c0 v0 b0 (Array.size H) ) (bg_V 0 htb bg_57 bg_59 bg_60 bg_52 bg_58 rfl rfl (by decide +kernel) ⟨Nat.le_of_ble_eq_true rfl, Nat.le_of_ble_eq_true rfl⟩) ⟨xb_blind xe_ok, va_recv hK hP (ci := 9) (q0 := 2) rfl rfl, xb_enter xe_ok hK hP hD hS hA hE [2, 0, 1] rfl rfl rfl [] rfl⟩ rfl rfl hl.1 rfl (lv_room (Nat.le_of_ble_eq_true rfl)) dX11_isWhole_11 ⟨Nat.le_of_ble_eq_true rfl, Nat.le_of_ble_eq_true rfl⟩) hK hP hD hS hA [2, 0, 1] [3] rfl rfl rfl (by decide) (fun r_11 u_11 H locs hw_11 hP hD hK hS => ?_)
  have hP : va_P D vwCl [(c0, .inr (3, [.ref b0, .ref p0, .int 0, .int 0, .int 0, .int 0, .ref f0, .ref m0, .int 0, .int 0, .int 0, .int 0, .int 0, .int 0, .int 0, .int 0, .int (-1)])), (q0, .inr (9, [.ref c0, .ref b0, .ref v0, .int 0, .int 0])), (b0, .inr (1, [.ref g.1])), (v0, .inr (10, [.int 1, .int 0]))] H := hP
  have hD : va_D A [(c0, .inr (3, [.ref b0, .ref p0, .int 0, .int 0, .int 0, .int 0, .ref f0, .ref m0, .int 0, .int 0, .int 0, .int 0, .int 0, .int 0, .int 0, .int 0, .int (-1)])), (q0, .inr (9, [.ref c0, .ref b0, .ref v0, .int 0, .int 0])), (b0, .inr (1, [.ref g.1])), (v0, .inr (10, [.int 1, .int 0]))] := hD
  have hK : va_K D vwCl [] s := hK
  refine W.widen (k := 1) (n := 5) (by decide) (by decide) ?_
  have hw_11 : r_11 = 0 := hw_11
  subst hw_11
  refine lv_if_eq (tgt := 56) hx hb dX11_isWhole_14 (by decide) (fun c_14 => ?_) (fun c_14 => ?_)
  rotate_left
  · exact absurd (by decide) c_14
  refine lv_iconst (v := 0) hx hb dX11_isWhole_56 (by decide) ?_
  have hP9 := hP.sub (ws' := [(c0, .inr (3, [.ref b0, .ref p0, .int 0, .int 0, .int 0, .int 0, .ref f0, .ref m0, .int 0, .int 0, .int 0, .int 0, .int 0, .int 0, .int 0, .int 0, .int (-1)])), (b0, .inr (1, [.ref g.1])), (v0, .inr (10, [.int 1, .int 0]))]) [0, 2, 3] rfl
  have hD9 := hD.sub (ws' := [(c0, .inr (3, [.ref b0, .ref p0, .int 0, .int 0, .int 0, .int 0, .ref f0, .ref m0, .int 0, .int 0, .int 0, .int 0, .int 0, .int 0, .int 0, .int 0, .int (-1)])), (b0, .inr (1, [.ref g.1])), (v0, .inr (10, [.int 1, .int 0]))]) [0, 2, 3] rfl rfl
  have hK9 := hK.sub (tys' := []) [] rfl
  exact W.zret (v := 0) hx hb hr (by decide) (fun t ht hW => ⟨⟨0, (), rfl, rfl, by rw [ht]; exact hP9, va_K.moved hW.alike hK9, hD9⟩, hS.F ht⟩) hS.2.2 dX11_isWhole_57
theorem dX11_read_0 : decode cX11_read 0 = .ok (.new 49, 3) := by decide +kernel
theorem dX11_read_3 : decode cX11_read 3 = .ok (.dup, 1) := by decide +kernel
theorem dX11_read_4 : decode cX11_read 4 = .ok (.new 51, 3) := by decide +kernel
theorem dX11_read_7 : decode cX11_read 7 = .ok (.dup, 1) := by decide +kernel
theorem dX11_read_8 : decode cX11_read 8 = .ok (.aload_n 0, 1) := by decide +kernel
theorem dX11_read_9 : decode cX11_read 9 = .ok (.getfield 16, 3) := by decide +kernel
theorem dX11_read_12 : decode cX11_read 12 = .ok (.invokespecial 53, 3) := by decide +kernel
theorem dX11_read_15 : decode cX11_read 15 = .ok (.invokespecial 56, 3) := by decide +kernel
theorem dX11_read_18 : decode cX11_read 18 = .ok (.astore_n 1, 1) := by decide +kernel
theorem dX11_read_19 : decode cX11_read 19 = .ok (.new 59, 3) := by decide +kernel
theorem dX11_read_22 : decode cX11_read 22 = .ok (.dup, 1) := by decide +kernel
theorem dX11_read_23 : decode cX11_read 23 = .ok (.invokespecial 61, 3) := by decide +kernel
theorem dX11_read_26 : decode cX11_read 26 = .ok (.astore_n 2, 1) := by decide +kernel
theorem dX11_read_27 : decode cX11_read 27 = .ok (.aload_n 0, 1) := by decide +kernel
theorem dX11_read_28 : decode cX11_read 28 = .ok (.getstatic 13, 3) := by decide +kernel
theorem dX11_read_31 : decode cX11_read 31 = .ok (.putfield 16, 3) := by decide +kernel
theorem dX11_read_34 : decode cX11_read 34 = .ok (.aload_n 1, 1) := by decide +kernel
theorem dX11_read_35 : decode cX11_read 35 = .ok (.aload_n 2, 1) := by decide +kernel
theorem dX11_read_36 : decode cX11_read 36 = .ok (.invokestatic 62, 3) := by decide +kernel
theorem dX11_read_39 : decode cX11_read 39 = .ok (.ifCond .eq 16, 3) := by decide +kernel
theorem dX11_read_55 : decode cX11_read 55 = .ok (.aload_n 0, 1) := by decide +kernel
theorem dX11_read_56 : decode cX11_read 56 = .ok (.aload_n 2, 1) := by decide +kernel
theorem dX11_read_57 : decode cX11_read 57 = .ok (.getfield 73, 3) := by decide +kernel
theorem dX11_read_60 : decode cX11_read 60 = .ok (.putfield 19, 3) := by decide +kernel
theorem dX11_read_63 : decode cX11_read 63 = .ok (.aload_n 2, 1) := by decide +kernel
theorem dX11_read_64 : decode cX11_read 64 = .ok (.getfield 76, 3) := by decide +kernel
theorem dX11_read_67 : decode cX11_read 67 = .ok (.ireturn, 1) := by decide +kernel
set_option maxHeartbeats 4000000 in
set_option maxRecDepth 100000 in
theorem cg_read (l : Launch) (D : va_G) (g : xe_G) (h0 : Nat) (qc : Nat) (n : Int32) (wp : Int32) (sz : Nat)  : Met l yX11_read (.code yX11_read cX11_read 3 (some .int) :: bg) ({ frames := 6, cells := 13, slots := 33, locals := 720 } : Room) (xb_Pre (xe_E g) D vwCl [(h0, .inr (11, [.ref qc, .int n, .ref g.1, .null, .int wp]))] [] sz [.ref h0]) (va_Qi (fun r _ => r = 1) (xb_B D vwCl (va_A [(h0, .inr (11, [.ref qc, .int n, .ref g.1, .null, .int wp]))] sz) (fun u : Unit => [(h0, .inr (11, [.ref qc, .int n, .ref g.1, .null, .int 0]))]) (fun u : Unit => [])) (va_A [(h0, .inr (11, [.ref qc, .int n, .ref g.1, .null, .int wp]))] sz)) 13 33 (va_A [(h0, .inr (11, [.ref qc, .int n, .ref g.1, .null, .int wp]))] sz) := by
  refine Met.ofW (cc := cX11_read) (maxL := 3) (ret := (some .int)) (by decide) rfl ?_
  intro p e s m args below meth c s₁ B hml hv
  obtain ⟨rfl, hsz, hP, hK, hD0, hE⟩ := hv
  have hx := B.exec
  have hb := B.bytes
  have hr := B.returns
  have hts := atoms_spec (ws := (.code yX11_read cX11_read 3 (some .int) :: bg)) B.pre
  have htb : ∀ w ∈ bg, w.before _ s = true := fun w h => hts w (List.mem_cons_of_mem _ h)
  have hown : s.vm.findClass RX11 = some m.cls := findClass_of_methodNamed B.named
  have hlocks := B.notSynchronized
  subst hsz
  have hD := hD0.self (sz := s.heap.size)
  generalize hAe : va_A [(h0, .inr (11, [.ref qc, .int n, .ref g.1, .null, .int wp]))] s.heap.size = A at hD hE ⊢
  have hA : ∀ q : Nat, s.heap.size ≤ q → A q := fun q h => by rw [← hAe]; exact Or.inr h
  have hS : va_S A s.heap s.heap [] := va_S.rf
  have hP : va_P D vwCl [(h0, .inr (11, [.ref qc, .int n, .ref g.1, .null, .int wp]))] s.heap := hP
  have hl := lv_entry ([.ref h0]) (n := 3) (Nat.le_of_ble_eq_true rfl)
  rw [lg_entry_eq]
  generalize (lg_sl ([.ref h0]) ++ List.replicate (3 - (lg_sl ([.ref h0])).length) Slot.unset).toArray = ls at hl ⊢
  have hl : lv_has ls 3 [(0, .ref h0)] := hl
  refine va_new (ci := 3) (fs := [.null, .null, .int 0, .int 0, .int 0, .int 0, .null, .null, .int 0, .int 0, .int 0, .int 0, .int 0, .int 0, .int 0, .int 0, .int 0]) (C := RX3) (T := TX3) (N := 17) hx hb htb bi_X3 tyX3 tyX3_ok hown (htb _ bg_27) (htb _ bg_29) (htb _ bg_28) hK hP hD hS hA rfl (by decide +kernel) (Nat.le_of_ble_eq_true rfl) (Nat.le_of_ble_eq_true rfl) dX11_read_0 (fun q0 H hP hD hS => ?_)
  have hP : va_P D vwCl [(h0, .inr (11, [.ref qc, .int n, .ref g.1, .null, .int wp])), (q0, .inr (3, [.null, .null, .int 0, .int 0, .int 0, .int 0, .null, .null, .int 0, .int 0, .int 0, .int 0, .int 0, .int 0, .int 0, .int 0, .int 0]))] H := hP
  have hD : va_D A [(h0, .inr (11, [.ref qc, .int n, .ref g.1, .null, .int wp])), (q0, .inr (3, [.null, .null, .int 0, .int 0, .int 0, .int 0, .null, .null, .int 0, .int 0, .int 0, .int 0, .int 0, .int 0, .int 0, .int 0, .int 0]))] := hD
  refine W.widen (k := 1) (n := 17) (by decide) (by decide) ?_
  refine lv_dup hx hb dX11_read_3 rfl ?_
  refine va_new (ci := 1) (fs := [.null]) (C := RX1) (T := TX1) (N := 1) hx hb htb bi_X1 tyX1 tyX1_ok hown (htb _ bg_30) (htb _ bg_32) (htb _ bg_31) hK hP hD hS hA rfl (by decide +kernel) (Nat.le_of_ble_eq_true rfl) (Nat.le_of_ble_eq_true rfl) dX11_read_4 (fun q4 H hP hD hS => ?_)
  have hP : va_P D vwCl [(h0, .inr (11, [.ref qc, .int n, .ref g.1, .null, .int wp])), (q0, .inr (3, [.null, .null, .int 0, .int 0, .int 0, .int 0, .null, .null, .int 0, .int 0, .int 0, .int 0, .int 0, .int 0, .int 0, .int 0, .int 0])), (q4, .inr (1, [.null]))] H := hP
  have hD : va_D A [(h0, .inr (11, [.ref qc, .int n, .ref g.1, .null, .int wp])), (q0, .inr (3, [.null, .null, .int 0, .int 0, .int 0, .int 0, .null, .null, .int 0, .int 0, .int 0, .int 0, .int 0, .int 0, .int 0, .int 0, .int 0])), (q4, .inr (1, [.null]))] := hD
  refine W.widen (k := 2) (n := 18) (by decide) (by decide) ?_
  refine lv_dup hx hb dX11_read_7 rfl ?_
  refine lv_aload_n hx hb dX11_read_8 rfl (lv_at hl 0 rfl) ?_
  refine va_get (D := D) (ci := 11) (v := .ref g.1) (C := RX11) (T := TX11) (N := 5) hx hb htb bi_X11 hown hK hP 0 rfl rfl 2 (by decide) (htb _ bg_7) (fun _ h9 => h9) rfl dX11_read_9 ?_
  refine xb_gov (wr := [(h0, .inr (11, [.ref qc, .int n, .ref g.1, .null, .int wp])), (q0, .inr (3, [.null, .null, .int 0, .int 0, .int 0, .int 0, .null, .null, .int 0, .int 0, .int 0, .int 0, .int 0, .int 0, .int 0, .int 0, .int 0]))]) (va_runI (As := [.ref g.1]) (rest := [.ref q4, .ref q0, .ref q0]) ⟨hx, hb, hml, hown, htb⟩ (cb_init l D g q4 g.1 (Array.size H) ) (bg_I 1 htb bg_33 bg_35 bg_31 bg_34 rfl rfl (by decide +kernel) ⟨Nat.le_of_ble_eq_true rfl, Nat.le_of_ble_eq_true rfl⟩) ⟨xb_blind xe_ok, xb_enter xe_ok hK hP hD hS hA hE [2] rfl rfl rfl [] rfl⟩ rfl rfl hl.1 rfl (lv_room (Nat.le_of_ble_eq_true rfl)) dX11_read_12 ⟨Nat.le_of_ble_eq_true rfl, Nat.le_of_ble_eq_true rfl⟩) hK hP hD hS hA [2] [0, 1] rfl rfl rfl (by decide) (fun u_12 H locs hw_12 hP hD hK hS => ?_)
  have hP : va_P D vwCl [(h0, .inr (11, [.ref qc, .int n, .ref g.1, .null, .int wp])), (q0, .inr (3, [.null, .null, .int 0, .int 0, .int 0, .int 0, .null, .null, .int 0, .int 0, .int 0, .int 0, .int 0, .int 0, .int 0, .int 0, .int 0])), (q4, .inr (1, [.ref g.1]))] H := hP
  have hD : va_D A [(h0, .inr (11, [.ref qc, .int n, .ref g.1, .null, .int wp])), (q0, .inr (3, [.null, .null, .int 0, .int 0, .int 0, .int 0, .null, .null, .int 0, .int 0, .int 0, .int 0, .int 0, .int 0, .int 0, .int 0, .int 0])), (q4, .inr (1, [.ref g.1]))] := hD
  have hK : va_K D vwCl [] s := hK
  refine W.widen (k := 2) (n := 18) (by decide) (by decide) ?_
  refine xb_gov (wr := [(h0, .inr (11, [.ref qc, .int n, .ref g.1, .null, .int wp])), (q4, .inr (1, [.ref g.1]))]) (va_runI (As := [.ref q4]) (rest := [.ref q0]) ⟨hx, hb, hml, hown, htb⟩ (cc_init l D g q0 q4 (Array.size H) ) (bg_I 1 htb bg_36 bg_38 bg_28 bg_37 rfl rfl (by decide +kernel) ⟨Nat.le_of_ble_eq_true rfl, Nat.le_of_ble_eq_true rfl⟩) ⟨xb_blind xe_ok, xb_enter xe_ok hK hP hD hS hA hE [1] rfl rfl rfl [] rfl⟩ rfl rfl hl.1 rfl (lv_room (Nat.le_of_ble_eq_true rfl)) dX11_read_15 ⟨Nat.le_of_ble_eq_true rfl, Nat.le_of_ble_eq_true rfl⟩) hK hP hD hS hA [1] [0, 2] rfl rfl rfl (by decide) (fun u_15 H locs hw_15 hP hD hK hS => ?_)
  obtain ⟨p0, f0, m0⟩ := u_15
  have hP : va_P D vwCl [(h0, .inr (11, [.ref qc, .int n, .ref g.1, .null, .int wp])), (q4, .inr (1, [.ref g.1])), (q0, .inr (3, [.ref q4, .ref p0, .int 0, .int 0, .int 0, .int 0, .ref f0, .ref m0, .int 0, .int 0, .int 0, .int 0, .int 0, .int 0, .int 0, .int 0, .int (-1)]))] H := hP
  have hD : va_D A [(h0, .inr (11, [.ref qc, .int n, .ref g.1, .null, .int wp])), (q4, .inr (1, [.ref g.1])), (q0, .inr (3, [.ref q4, .ref p0, .int 0, .int 0, .int 0, .int 0, .ref f0, .ref m0, .int 0, .int 0, .int 0, .int 0, .int 0, .int 0, .int 0, .int 0, .int (-1)]))] := hD
  have hK : va_K D vwCl [] s := hK
  refine W.widen (k := 11) (n := 26) (by decide) (by decide) ?_
  refine lv_astore_n (lv' := [(1, .ref q0), (0, .ref h0)]) hx hb dX11_read_18 rfl hl (by decide) rfl (fun ls hl => ?_)
  refine va_new (ci := 10) (fs := [.int 0, .int 0]) (C := RX10) (T := TX10) (N := 2) hx hb htb bi_X10 tyX10 tyX10_ok hown (htb _ bg_39) (htb _ bg_41) (htb _ bg_40) hK hP hD hS hA rfl (by decide +kernel) (Nat.le_of_ble_eq_true rfl) (Nat.le_of_ble_eq_true rfl) dX11_read_19 (fun q19 H hP hD hS => ?_)
  have hP : va_P D vwCl [(h0, .inr (11, [.ref qc, .int n, .ref g.1, .null, .int wp])), (q4, .inr (1, [.ref g.1])), (q0, .inr (3, [.ref q4, .ref p0, .int 0, .int 0, .int 0, .int 0, .ref f0, .ref m0, .int 0, .int 0, .int 0, .int 0, .int 0, .int 0, .int 0, .int 0, .int (-1)])), (q19, .inr (10, [.int 0, .int 0]))] H := hP
  have hD : va_D A [(h0, .inr (11, [.ref qc, .int n, .ref g.1, .null, .int wp])), (q4, .inr (1, [.ref g.1])), (q0, .inr (3, [.ref q4, .ref p0, .int 0, .int 0, .int 0, .int 0, .ref f0, .ref m0, .int 0, .int 0, .int 0, .int 0, .int 0, .int 0, .int 0, .int 0, .int (-1)])), (q19, .inr (10, [.int 0, .int 0]))] := hD
  refine W.widen (k := 12) (n := 28) (by decide) (by decide) ?_
  refine lv_dup hx hb dX11_read_22 rfl ?_
  refine xb_gov (wr := [(h0, .inr (11, [.ref qc, .int n, .ref g.1, .null, .int wp])), (q4, .inr (1, [.ref g.1])), (q0, .inr (3, [.ref q4, .ref p0, .int 0, .int 0, .int 0, .int 0, .ref f0, .ref m0, .int 0, .int 0, .int 0, .int 0, .int 0, .int 0, .int 0, .int 0, .int (-1)]))]) (va_runI (As := []) (rest := [.ref q19]) ⟨hx, hb, hml, hown, htb⟩ (cv_init l D g q19 (Array.size H) ) (bg_I 0 htb bg_42 bg_44 bg_40 bg_43 rfl rfl (by decide +kernel) ⟨Nat.le_of_ble_eq_true rfl, Nat.le_of_ble_eq_true rfl⟩) ⟨xb_blind xe_ok, xb_enter xe_ok hK hP hD hS hA hE [3] rfl rfl rfl [] rfl⟩ rfl rfl hl.1 rfl (lv_room (Nat.le_of_ble_eq_true rfl)) dX11_read_23 ⟨Nat.le_of_ble_eq_true rfl, Nat.le_of_ble_eq_true rfl⟩) hK hP hD hS hA [3] [0, 1, 2] rfl rfl rfl (by decide) (fun u_23 H locs hw_23 hP hD hK hS => ?_)
  have hP : va_P D vwCl [(h0, .inr (11, [.ref qc, .int n, .ref g.1, .null, .int wp])), (q4, .inr (1, [.ref g.1])), (q0, .inr (3, [.ref q4, .ref p0, .int 0, .int 0, .int 0, .int 0, .ref f0, .ref m0, .int 0, .int 0, .int 0, .int 0, .int 0, .int 0, .int 0, .int 0, .int (-1)])), (q19, .inr (10, [.int 0, .int (-1)]))] H := hP
  have hD : va_D A [(h0, .inr (11, [.ref qc, .int n, .ref g.1, .null, .int wp])), (q4, .inr (1, [.ref g.1])), (q0, .inr (3, [.ref q4, .ref p0, .int 0, .int 0, .int 0, .int 0, .ref f0, .ref m0, .int 0, .int 0, .int 0, .int 0, .int 0, .int 0, .int 0, .int 0, .int (-1)])), (q19, .inr (10, [.int 0, .int (-1)]))] := hD
  have hK : va_K D vwCl [] s := hK
  refine W.widen (k := 12) (n := 28) (by decide) (by decide) ?_
  refine lv_astore_n (lv' := [(2, .ref q19), (1, .ref q0), (0, .ref h0)]) hx hb dX11_read_26 rfl hl (by decide) rfl (fun ls hl => ?_)
  refine lv_aload_n hx hb dX11_read_27 rfl (lv_at hl 2 rfl) ?_
  refine va_gets hx hb (hE.1) hS hown (htb _ bg_6) (fun _ h9 => h9) dX11_read_28 ?_
  refine va_put (D := D) (ci := 11) (v := .ref g.1) (ty := tyX11 2) (C := RX11) (T := TX11) (N := 5) hx hb htb bi_X11 tyX11 tyX11_ok nmX11 hown hK hP hD hS 0 rfl rfl 2 (by decide) (htb _ bg_7) (fun _ h9 => h9) rfl (tyX11_ok 2 (by decide)) rfl rfl (Nat.le_of_ble_eq_true rfl) dX11_read_31 (fun H locs hP hD hS => ?_)
  have hP : va_P D vwCl [(h0, .inr (11, [.ref qc, .int n, .ref g.1, .null, .int wp])), (q4, .inr (1, [.ref g.1])), (q0, .inr (3, [.ref q4, .ref p0, .int 0, .int 0, .int 0, .int 0, .ref f0, .ref m0, .int 0, .int 0, .int 0, .int 0, .int 0, .int 0, .int 0, .int 0, .int (-1)])), (q19, .inr (10, [.int 0, .int (-1)]))] H := hP
  have hD : va_D A [(h0, .inr (11, [.ref qc, .int n, .ref g.1, .null, .int wp])), (q4, .inr (1, [.ref g.1])), (q0, .inr (3, [.ref q4, .ref p0, .int 0, .int 0, .int 0, .int 0, .ref f0, .ref m0, .int 0, .int 0, .int 0, .int 0, .int 0, .int 0, .int 0, .int 0, .int (-1)])), (q19, .inr (10, [.int 0, .int (-1)]))] := hD
  refine lv_aload_n hx hb dX11_read_34 rfl (lv_at hl 1 rfl) ?_
  refine lv_aload_n hx hb dX11_read_35 rfl (lv_at hl 0 rfl) ?_
  refine xb_goi (wr := [(h0, .inr (11, [.ref qc, .int n, .ref g.1, .null, .int wp]))]) (va_runS (As := [.ref q0, .ref q19]) (rest := []) ⟨hx, hb, hml, hown, htb⟩ (cg_whole l D g q0 q19 q4 p0 f0 m0 (Array.size H) ) (bg_S 2 htb bg_45 bg_47 bg_18 bg_46 rfl rfl (by decide +kernel) ⟨Nat.le_of_ble_eq_true rfl, Nat.le_of_ble_eq_true rfl⟩) ⟨xb_blind xe_ok, xb_enter xe_ok hK hP hD hS hA hE [2, 1, 3] rfl rfl rfl [] rfl⟩ rfl rfl hl.1 rfl (lv_room (Nat.le_of_ble_eq_true rfl)) dX11_read_36 ⟨Nat.le_of_ble_eq_true rfl, Nat.le_of_ble_eq_true rfl⟩) hK hP hD hS hA [2, 1, 3] [0] rfl rfl rfl (by decide) (fun r_36 u_36 H locs hw_36 hP hD hK hS => ?_)
  have hP : va_P D vwCl [(h0, .inr (11, [.ref qc, .int n, .ref g.1, .null, .int wp])), (q0, .inr (3, [.ref q4, .ref p0, .int 0, .int 0, .int 0, .int 0, .ref f0, .ref m0, .int 0, .int 0, .int 0, .int 0, .int 0, .int 0, .int 0, .int 0, .int (-1)])), (q4, .inr (1, [.ref g.1])), (q19, .inr (10, [.int 1, .int 0]))] H := hP
  have hD : va_D A [(h0, .inr (11, [.ref qc, .int n, .ref g.1, .null, .int wp])), (q0, .inr (3, [.ref q4, .ref p0, .int 0, .int 0, .int 0, .int 0, .ref f0, .ref m0, .int 0, .int 0, .int 0, .int 0, .int 0, .int 0, .int 0, .int 0, .int (-1)])), (q4, .inr (1, [.ref g.1])), (q19, .inr (10, [.int 1, .int 0]))] := hD
  have hK : va_K D vwCl [] s := hK
  refine W.widen (k := 13) (n := 33) (by decide) (by decide) ?_
  have hw_36 : r_36 = 0 := hw_36
  subst hw_36
  refine lv_if_eq (tgt := 55) hx hb dX11_read_39 (by decide) (fun c_39 => ?_) (fun c_39 => ?_)
  rotate_left
  · exact absurd (by decide) c_39
  refine lv_aload_n hx hb dX11_read_55 rfl (lv_at hl 2 rfl) ?_
  refine lv_aload_n hx hb dX11_read_56 rfl (lv_at hl 0 rfl) ?_
  refine va_get (D := D) (ci := 10) (v := .int 0) (C := RX10) (T := TX10) (N := 2) hx hb htb bi_X10 hown hK hP 3 rfl rfl 1 (by decide) (htb _ bg_49) (fun _ h9 => h9) rfl dX11_read_57 ?_
  refine va_put (D := D) (ci := 11) (v := .int 0) (ty := tyX11 4) (C := RX11) (T := TX11) (N := 5) hx hb htb bi_X11 tyX11 tyX11_ok nmX11 hown hK hP hD hS 0 rfl rfl 4 (by decide) (htb _ bg_8) (fun _ h9 => h9) rfl (tyX11_ok 4 (by decide)) rfl rfl (Nat.le_of_ble_eq_true rfl) dX11_read_60 (fun H locs hP hD hS => ?_)
  have hP : va_P D vwCl [(h0, .inr (11, [.ref qc, .int n, .ref g.1, .null, .int 0])), (q0, .inr (3, [.ref q4, .ref p0, .int 0, .int 0, .int 0, .int 0, .ref f0, .ref m0, .int 0, .int 0, .int 0, .int 0, .int 0, .int 0, .int 0, .int 0, .int (-1)])), (q4, .inr (1, [.ref g.1])), (q19, .inr (10, [.int 1, .int 0]))] H := hP
  have hD : va_D A [(h0, .inr (11, [.ref qc, .int n, .ref g.1, .null, .int 0])), (q0, .inr (3, [.ref q4, .ref p0, .int 0, .int 0, .int 0, .int 0, .ref f0, .ref m0, .int 0, .int 0, .int 0, .int 0, .int 0, .int 0, .int 0, .int 0, .int (-1)])), (q4, .inr (1, [.ref g.1])), (q19, .inr (10, [.int 1, .int 0]))] := hD
  refine lv_aload_n hx hb dX11_read_63 rfl (lv_at hl 0 rfl) ?_
  refine va_get (D := D) (ci := 10) (v := .int 1) (C := RX10) (T := TX10) (N := 2) hx hb htb bi_X10 hown hK hP 3 rfl rfl 0 (by decide) (htb _ bg_50) (fun _ h9 => h9) rfl dX11_read_64 ?_
  have hP9 := hP.sub (ws' := [(h0, .inr (11, [.ref qc, .int n, .ref g.1, .null, .int 0]))]) [0] rfl
  have hD9 := hD.sub (ws' := [(h0, .inr (11, [.ref qc, .int n, .ref g.1, .null, .int 0]))]) [0] rfl rfl
  have hK9 := hK.sub (tys' := []) [] rfl
  exact W.iret (v := 1) hx hb hr (fun t ht hW => ⟨⟨1, (), rfl, rfl, by rw [ht]; exact hP9, va_K.moved hW.alike hK9, hD9⟩, hS.F ht⟩) hS.2.2 dX11_read_67
end
section
theorem dX12_thrown_0 : decode cX12_thrown 0 = .ok (.aload_n 0, 1) := by decide +kernel
theorem dX12_thrown_1 : decode cX12_thrown 1 = .ok (.getfield 1, 3) := by decide +kernel
theorem dX12_thrown_4 : decode cX12_thrown 4 = .ok (.ireturn, 1) := by decide +kernel
set_option maxHeartbeats 4000000 in
set_option maxRecDepth 100000 in
theorem mm_thrown (l : Launch) (D : va_G) (g : xe_G) (m0 : Nat) (fs : List Value) (t : Int32) (sz : Nat) (hm : md_has fs [(0, .int t)]) : Met l yX12_thrown (.code yX12_thrown cX12_thrown 1 (some .int) :: bg) ({ frames := 1, cells := 0, slots := 0, locals := 120 } : Room) (xb_Pre (xe_E g) D vwCl [(m0, .inr (12, fs))] [] sz [.ref m0]) (va_Qi (fun r _ => r = t) (xb_B D vwCl (va_A [(m0, .inr (12, fs))] sz) (fun u : Unit => [(m0, .inr (12, fs))]) (fun u : Unit => [])) (va_A [(m0, .inr (12, fs))] sz)) 0 0 (va_A [(m0, .inr (12, fs))] sz) := by
  refine Met.ofW (cc := cX12_thrown) (maxL := 1) (ret := (some .int)) (by decide) rfl ?_
  intro p e s m args below meth c s₁ B hml hv
  obtain ⟨rfl, hsz, hP, hK, hD0, hE⟩ := hv
  have hx := B.exec
  have hb := B.bytes
  have hr := B.returns
  have hts := atoms_spec (ws := (.code yX12_thrown cX12_thrown 1 (some .int) :: bg)) B.pre
  have htb : ∀ w ∈ bg, w.before _ s = true := fun w h => hts w (List.mem_cons_of_mem _ h)
  have hown : s.vm.findClass RX12 = some m.cls := findClass_of_methodNamed B.named
  have hlocks := B.notSynchronized
  subst hsz
  have hD := hD0.self (sz := s.heap.size)
  generalize hAe : va_A [(m0, .inr (12, fs))] s.heap.size = A at hD hE ⊢
  have hA : ∀ q : Nat, s.heap.size ≤ q → A q := fun q h => by rw [← hAe]; exact Or.inr h
  have hS : va_S A s.heap s.heap [] := va_S.rf
  have hP : va_P D vwCl [(m0, .inr (12, fs))] s.heap := hP
  have hl := lv_entry ([.ref m0]) (n := 1) (Nat.le_of_ble_eq_true rfl)
  rw [lg_entry_eq]
  generalize (lg_sl ([.ref m0]) ++ List.replicate (1 - (lg_sl ([.ref m0])).length) Slot.unset).toArray = ls at hl ⊢
  have hl : lv_has ls 1 [(0, .ref m0)] := hl
  refine lv_aload_n hx hb dX12_thrown_0 rfl (lv_at hl 0 rfl) ?_
  refine va_get (D := D) (ci := 12) (v := .int t) (C := RX12) (T := TX12) (N := 82) hx hb htb bi_X12 hown hK hP 0 rfl rfl 0 (by decide) (htb _ bg_88) (fun _ h9 => h9) (md_at hm 0 rfl) dX12_thrown_1 ?_
  have hP9 := hP.sub (ws' := [(m0, .inr (12, fs))]) [0] rfl
  have hD9 := hD.sub (ws' := [(m0, .inr (12, fs))]) [0] rfl rfl
  have hK9 := hK.sub (tys' := []) [] rfl
  exact W.iret (v := t) hx hb hr (fun t ht hW => ⟨⟨t, (), rfl, rfl, by rw [ht]; exact hP9, va_K.moved hW.alike hK9, hD9⟩, hS.F ht⟩) hS.2.2 dX12_thrown_4
theorem dX12_bad_0 : decode cX12_bad 0 = .ok (.aload_n 0, 1) := by decide +kernel
theorem dX12_bad_1 : decode cX12_bad 1 = .ok (.iconst 1, 1) := by decide +kernel
theorem dX12_bad_2 : decode cX12_bad 2 = .ok (.putfield 1, 3) := by decide +kernel
theorem dX12_bad_5 : decode cX12_bad 5 = .ok (.iconst 0, 1) := by decide +kernel
theorem dX12_bad_6 : decode cX12_bad 6 = .ok (.ireturn, 1) := by decide +kernel
set_option maxHeartbeats 4000000 in
set_option maxRecDepth 100000 in
theorem mm_bad (l : Launch) (D : va_G) (g : xe_G) (m0 : Nat) (fs : List Value) (sz : Nat) (hm : md_has fs []) : Met l yX12_bad (.code yX12_bad cX12_bad 1 (some .int) :: bg) ({ frames := 1, cells := 0, slots := 0, locals := 120 } : Room) (xb_Pre (xe_E g) D vwCl [(m0, .inr (12, fs))] [] sz [.ref m0]) (va_Qi (fun r u => r = 0 ∧ md_has u [(0, .int 1)]) (xb_B D vwCl (va_A [(m0, .inr (12, fs))] sz) (fun u : List Value => [(m0, .inr (12, u))]) (fun u : List Value => [])) (va_A [(m0, .inr (12, fs))] sz)) 0 0 (va_A [(m0, .inr (12, fs))] sz) := by
  refine Met.ofW (cc := cX12_bad) (maxL := 1) (ret := (some .int)) (by decide) rfl ?_
  intro p e s m args below meth c s₁ B hml hv
  obtain ⟨rfl, hsz, hP, hK, hD0, hE⟩ := hv
  have hx := B.exec
  have hb := B.bytes
  have hr := B.returns
  have hts := atoms_spec (ws := (.code yX12_bad cX12_bad 1 (some .int) :: bg)) B.pre
  have htb : ∀ w ∈ bg, w.before _ s = true := fun w h => hts w (List.mem_cons_of_mem _ h)
  have hown : s.vm.findClass RX12 = some m.cls := findClass_of_methodNamed B.named
  have hlocks := B.notSynchronized
  subst hsz
  have hD := hD0.self (sz := s.heap.size)
  generalize hAe : va_A [(m0, .inr (12, fs))] s.heap.size = A at hD hE ⊢
  have hA : ∀ q : Nat, s.heap.size ≤ q → A q := fun q h => by rw [← hAe]; exact Or.inr h
  have hS : va_S A s.heap s.heap [] := va_S.rf
  have hP : va_P D vwCl [(m0, .inr (12, fs))] s.heap := hP
  have hl := lv_entry ([.ref m0]) (n := 1) (Nat.le_of_ble_eq_true rfl)
  rw [lg_entry_eq]
  generalize (lg_sl ([.ref m0]) ++ List.replicate (1 - (lg_sl ([.ref m0])).length) Slot.unset).toArray = ls at hl ⊢
  have hl : lv_has ls 1 [(0, .ref m0)] := hl
  refine lv_aload_n hx hb dX12_bad_0 rfl (lv_at hl 0 rfl) ?_
  refine lv_iconst (v := 1) hx hb dX12_bad_1 (by decide) ?_
  refine va_put (D := D) (ci := 12) (v := .int 1) (ty := tyX12 0) (C := RX12) (T := TX12) (N := 82) hx hb htb bi_X12 tyX12 tyX12_ok nmX12 hown hK hP hD hS 0 rfl rfl 0 (by decide) (htb _ bg_88) (fun _ h9 => h9) rfl (tyX12_ok 0 (by decide)) rfl rfl (by rw [hm.1]; decide) dX12_bad_2 (fun H locs hP hD hS => ?_)
  have hP : va_P D vwCl [(m0, .inr (12, (fs.set 0 (.int 1))))] H := hP
  have hD : va_D A [(m0, .inr (12, (fs.set 0 (.int 1))))] := hD
  have hm : md_has (fs.set 0 (.int 1)) [(0, .int 1)] := md_put hm 0 (.int 1) (by decide) rfl
  generalize (fs.set 0 (.int 1)) = fs at hP hD hm
  refine lv_iconst (v := 0) hx hb dX12_bad_5 (by decide) ?_
  have hP9 := hP.sub (ws' := [(m0, .inr (12, fs))]) [0] rfl
  have hD9 := hD.sub (ws' := [(m0, .inr (12, fs))]) [0] rfl rfl
  have hK9 := hK.sub (tys' := []) [] rfl
  exact W.iret (v := 0) hx hb hr (fun t ht hW => ⟨⟨0, fs, rfl, ⟨rfl, md_sub hm [0] rfl⟩, by rw [ht]; exact hP9, va_K.moved hW.alike hK9, hD9⟩, hS.F ht⟩) hS.2.2 dX12_bad_6
theorem dX12_character_0 : decode cX12_character 0 = .ok (.aload_n 0, 1) := by decide +kernel
theorem dX12_character_1 : decode cX12_character 1 = .ok (.iconst 0, 1) := by decide +kernel
theorem dX12_character_2 : decode cX12_character 2 = .ok (.putfield 1, 3) := by decide +kernel
theorem dX12_character_5 : decode cX12_character 5 = .ok (.aload_n 0, 1) := by decide +kernel
theorem dX12_character_6 : decode cX12_character 6 = .ok (.getfield 49, 3) := by decide +kernel
theorem dX12_character_9 : decode cX12_character 9 = .ok (.ifCond .lt 29, 3) := by decide +kernel
theorem dX12_character_38 : decode cX12_character 38 = .ok (.iconst (-1), 1) := by decide +kernel
theorem dX12_character_39 : decode cX12_character 39 = .ok (.goto 13, 3) := by decide +kernel
theorem dX12_character_52 : decode cX12_character 52 = .ok (.ireturn, 1) := by decide +kernel
set_option maxHeartbeats 4000000 in
set_option maxRecDepth 100000 in
theorem mm_character (l : Launch) (D : va_G) (g : xe_G) (m0 : Nat) (fs : List Value) (x0 : Int32) (x1 : Int32) (sz : Nat) (hm : md_has fs [(18, .int (-1))]) : Met l yX12_character (.code yX12_character cX12_character 3 (some .int) :: bg) ({ frames := 1, cells := 0, slots := 0, locals := 120 } : Room) (xb_Pre (xe_E g) D vwCl [(m0, .inr (12, fs))] [] sz [.ref m0, .int x0, .int x1]) (va_Qi (fun r u => r = -1 ∧ md_has u [(0, .int 0)]) (xb_B D vwCl (va_A [(m0, .inr (12, fs))] sz) (fun u : List Value => [(m0, .inr (12, u))]) (fun u : List Value => [])) (va_A [(m0, .inr (12, fs))] sz)) 0 0 (va_A [(m0, .inr (12, fs))] sz) := by
  refine Met.ofW (cc := cX12_character) (maxL := 3) (ret := (some .int)) (by decide) rfl ?_
  intro p e s m args below meth c s₁ B hml hv
  obtain ⟨rfl, hsz, hP, hK, hD0, hE⟩ := hv
  have hx := B.exec
  have hb := B.bytes
  have hr := B.returns
  have hts := atoms_spec (ws := (.code yX12_character cX12_character 3 (some .int) :: bg)) B.pre
  have htb : ∀ w ∈ bg, w.before _ s = true := fun w h => hts w (List.mem_cons_of_mem _ h)
  have hown : s.vm.findClass RX12 = some m.cls := findClass_of_methodNamed B.named
  have hlocks := B.notSynchronized
  subst hsz
  have hD := hD0.self (sz := s.heap.size)
  generalize hAe : va_A [(m0, .inr (12, fs))] s.heap.size = A at hD hE ⊢
  have hA : ∀ q : Nat, s.heap.size ≤ q → A q := fun q h => by rw [← hAe]; exact Or.inr h
  have hS : va_S A s.heap s.heap [] := va_S.rf
  have hP : va_P D vwCl [(m0, .inr (12, fs))] s.heap := hP
  have hl := lv_entry ([.ref m0, .int x0, .int x1]) (n := 3) (Nat.le_of_ble_eq_true rfl)
  rw [lg_entry_eq]
  generalize (lg_sl ([.ref m0, .int x0, .int x1]) ++ List.replicate (3 - (lg_sl ([.ref m0, .int x0, .int x1])).length) Slot.unset).toArray = ls at hl ⊢
  have hl : lv_has ls 3 [(0, .ref m0), (1, .int x0), (2, .int x1)] := hl
  refine lv_aload_n hx hb dX12_character_0 rfl (lv_at hl 0 rfl) ?_
  refine lv_iconst (v := 0) hx hb dX12_character_1 (by decide) ?_
  refine va_put (D := D) (ci := 12) (v := .int 0) (ty := tyX12 0) (C := RX12) (T := TX12) (N := 82) hx hb htb bi_X12 tyX12 tyX12_ok nmX12 hown hK hP hD hS 0 rfl rfl 0 (by decide) (htb _ bg_88) (fun _ h9 => h9) rfl (tyX12_ok 0 (by decide)) rfl rfl (by rw [hm.1]; decide) dX12_character_2 (fun H locs hP hD hS => ?_)
  have hP : va_P D vwCl [(m0, .inr (12, (fs.set 0 (.int 0))))] H := hP
  have hD : va_D A [(m0, .inr (12, (fs.set 0 (.int 0))))] := hD
  have hm : md_has (fs.set 0 (.int 0)) [(0, .int 0), (18, .int (-1))] := md_put hm 0 (.int 0) (by decide) rfl
  generalize (fs.set 0 (.int 0)) = fs at hP hD hm
  refine lv_aload_n hx hb dX12_character_5 rfl (lv_at hl 0 rfl) ?_
  refine va_get (D := D) (ci := 12) (v := .int (-1)) (C := RX12) (T := TX12) (N := 82) hx hb htb bi_X12 hown hK hP 0 rfl rfl 18 (by decide) (htb _ bg_106) (fun _ h9 => h9) (md_at hm 1 rfl) dX12_character_6 ?_
  refine lv_if_lt (tgt := 38) hx hb dX12_character_9 (by decide) (fun c_9 => ?_) (fun c_9 => ?_)
  rotate_left
  · exact absurd (by decide) c_9
  refine lv_iconst (v := (-1)) hx hb dX12_character_38 (by decide) ?_
  refine lv_goto (tgt := 52) hx hb dX12_character_39 (by decide) ?_
  have hP9 := hP.sub (ws' := [(m0, .inr (12, fs))]) [0] rfl
  have hD9 := hD.sub (ws' := [(m0, .inr (12, fs))]) [0] rfl rfl
  have hK9 := hK.sub (tys' := []) [] rfl
  exact W.iret (v := (-1)) hx hb hr (fun t ht hW => ⟨⟨(-1), fs, rfl, ⟨rfl, md_sub hm [0] rfl⟩, by rw [ht]; exact hP9, va_K.moved hW.alike hK9, hD9⟩, hS.F ht⟩) hS.2.2 dX12_character_52
theorem dX12_places_0 : decode cX12_places 0 = .ok (.aload_n 0, 1) := by decide +kernel
theorem dX12_places_1 : decode cX12_places 1 = .ok (.iconst 0, 1) := by decide +kernel
theorem dX12_places_2 : decode cX12_places 2 = .ok (.putfield 1, 3) := by decide +kernel
theorem dX12_places_5 : decode cX12_places 5 = .ok (.aload_n 0, 1) := by decide +kernel
theorem dX12_places_6 : decode cX12_places 6 = .ok (.getfield 49, 3) := by decide +kernel
theorem dX12_places_9 : decode cX12_places 9 = .ok (.ifCond .lt 12, 3) := by decide +kernel
theorem dX12_places_21 : decode cX12_places 21 = .ok (.iconst (-1), 1) := by decide +kernel
theorem dX12_places_22 : decode cX12_places 22 = .ok (.ireturn, 1) := by decide +kernel
set_option maxHeartbeats 4000000 in
set_option maxRecDepth 100000 in
theorem mm_places (l : Launch) (D : va_G) (g : xe_G) (m0 : Nat) (fs : List Value) (x0 : Int32) (sz : Nat) (hm : md_has fs [(18, .int (-1))]) : Met l yX12_places (.code yX12_places cX12_places 5 (some .int) :: bg) ({ frames := 1, cells := 0, slots := 0, locals := 120 } : Room) (xb_Pre (xe_E g) D vwCl [(m0, .inr (12, fs))] [] sz [.ref m0, .int x0]) (va_Qi (fun r u => r = -1 ∧ md_has u [(0, .int 0)]) (xb_B D vwCl (va_A [(m0, .inr (12, fs))] sz) (fun u : List Value => [(m0, .inr (12, u))]) (fun u : List Value => [])) (va_A [(m0, .inr (12, fs))] sz)) 0 0 (va_A [(m0, .inr (12, fs))] sz) := by
  refine Met.ofW (cc := cX12_places) (maxL := 5) (ret := (some .int)) (by decide) rfl ?_
  intro p e s m args below meth c s₁ B hml hv
  obtain ⟨rfl, hsz, hP, hK, hD0, hE⟩ := hv
  have hx := B.exec
  have hb := B.bytes
  have hr := B.returns
  have hts := atoms_spec (ws := (.code yX12_places cX12_places 5 (some .int) :: bg)) B.pre
  have htb : ∀ w ∈ bg, w.before _ s = true := fun w h => hts w (List.mem_cons_of_mem _ h)
  have hown : s.vm.findClass RX12 = some m.cls := findClass_of_methodNamed B.named
  have hlocks := B.notSynchronized
  subst hsz
  have hD := hD0.self (sz := s.heap.size)
  generalize hAe : va_A [(m0, .inr (12, fs))] s.heap.size = A at hD hE ⊢
  have hA : ∀ q : Nat, s.heap.size ≤ q → A q := fun q h => by rw [← hAe]; exact Or.inr h
  have hS : va_S A s.heap s.heap [] := va_S.rf
  have hP : va_P D vwCl [(m0, .inr (12, fs))] s.heap := hP
  have hl := lv_entry ([.ref m0, .int x0]) (n := 5) (Nat.le_of_ble_eq_true rfl)
  rw [lg_entry_eq]
  generalize (lg_sl ([.ref m0, .int x0]) ++ List.replicate (5 - (lg_sl ([.ref m0, .int x0])).length) Slot.unset).toArray = ls at hl ⊢
  have hl : lv_has ls 5 [(0, .ref m0), (1, .int x0)] := hl
  refine lv_aload_n hx hb dX12_places_0 rfl (lv_at hl 0 rfl) ?_
  refine lv_iconst (v := 0) hx hb dX12_places_1 (by decide) ?_
  refine va_put (D := D) (ci := 12) (v := .int 0) (ty := tyX12 0) (C := RX12) (T := TX12) (N := 82) hx hb htb bi_X12 tyX12 tyX12_ok nmX12 hown hK hP hD hS 0 rfl rfl 0 (by decide) (htb _ bg_88) (fun _ h9 => h9) rfl (tyX12_ok 0 (by decide)) rfl rfl (by rw [hm.1]; decide) dX12_places_2 (fun H locs hP hD hS => ?_)
  have hP : va_P D vwCl [(m0, .inr (12, (fs.set 0 (.int 0))))] H := hP
  have hD : va_D A [(m0, .inr (12, (fs.set 0 (.int 0))))] := hD
  have hm : md_has (fs.set 0 (.int 0)) [(0, .int 0), (18, .int (-1))] := md_put hm 0 (.int 0) (by decide) rfl
  generalize (fs.set 0 (.int 0)) = fs at hP hD hm
  refine lv_aload_n hx hb dX12_places_5 rfl (lv_at hl 0 rfl) ?_
  refine va_get (D := D) (ci := 12) (v := .int (-1)) (C := RX12) (T := TX12) (N := 82) hx hb htb bi_X12 hown hK hP 0 rfl rfl 18 (by decide) (htb _ bg_106) (fun _ h9 => h9) (md_at hm 1 rfl) dX12_places_6 ?_
  refine lv_if_lt (tgt := 21) hx hb dX12_places_9 (by decide) (fun c_9 => ?_) (fun c_9 => ?_)
  rotate_left
  · exact absurd (by decide) c_9
  refine lv_iconst (v := (-1)) hx hb dX12_places_21 (by decide) ?_
  have hP9 := hP.sub (ws' := [(m0, .inr (12, fs))]) [0] rfl
  have hD9 := hD.sub (ws' := [(m0, .inr (12, fs))]) [0] rfl rfl
  have hK9 := hK.sub (tys' := []) [] rfl
  exact W.iret (v := (-1)) hx hb hr (fun t ht hW => ⟨⟨(-1), fs, rfl, ⟨rfl, md_sub hm [0] rfl⟩, by rw [ht]; exact hP9, va_K.moved hW.alike hK9, hD9⟩, hS.F ht⟩) hS.2.2 dX12_places_22
theorem dX12_find_0 : decode cX12_find 0 = .ok (.aload_n 0, 1) := by decide +kernel
theorem dX12_find_1 : decode cX12_find 1 = .ok (.iconst 0, 1) := by decide +kernel
theorem dX12_find_2 : decode cX12_find 2 = .ok (.putfield 1, 3) := by decide +kernel
theorem dX12_find_5 : decode cX12_find 5 = .ok (.aload_n 0, 1) := by decide +kernel
theorem dX12_find_6 : decode cX12_find 6 = .ok (.getfield 49, 3) := by decide +kernel
theorem dX12_find_9 : decode cX12_find 9 = .ok (.ifCond .lt 21, 3) := by decide +kernel
theorem dX12_find_30 : decode cX12_find 30 = .ok (.iconst (-1), 1) := by decide +kernel
theorem dX12_find_31 : decode cX12_find 31 = .ok (.ireturn, 1) := by decide +kernel
set_option maxHeartbeats 4000000 in
set_option maxRecDepth 100000 in
theorem mm_find (l : Launch) (D : va_G) (g : xe_G) (m0 : Nat) (fs : List Value) (x0 : Int32) (x1 : Int32) (x2 : Int32) (sz : Nat) (hm : md_has fs [(18, .int (-1))]) : Met l yX12_find (.code yX12_find cX12_find 7 (some .int) :: bg) ({ frames := 1, cells := 0, slots := 0, locals := 120 } : Room) (xb_Pre (xe_E g) D vwCl [(m0, .inr (12, fs))] [] sz [.ref m0, .int x0, .int x1, .int x2]) (va_Qi (fun r u => r = -1 ∧ md_has u [(0, .int 0)]) (xb_B D vwCl (va_A [(m0, .inr (12, fs))] sz) (fun u : List Value => [(m0, .inr (12, u))]) (fun u : List Value => [])) (va_A [(m0, .inr (12, fs))] sz)) 0 0 (va_A [(m0, .inr (12, fs))] sz) := by
  refine Met.ofW (cc := cX12_find) (maxL := 7) (ret := (some .int)) (by decide) rfl ?_
  intro p e s m args below meth c s₁ B hml hv
  obtain ⟨rfl, hsz, hP, hK, hD0, hE⟩ := hv
  have hx := B.exec
  have hb := B.bytes
  have hr := B.returns
  have hts := atoms_spec (ws := (.code yX12_find cX12_find 7 (some .int) :: bg)) B.pre
  have htb : ∀ w ∈ bg, w.before _ s = true := fun w h => hts w (List.mem_cons_of_mem _ h)
  have hown : s.vm.findClass RX12 = some m.cls := findClass_of_methodNamed B.named
  have hlocks := B.notSynchronized
  subst hsz
  have hD := hD0.self (sz := s.heap.size)
  generalize hAe : va_A [(m0, .inr (12, fs))] s.heap.size = A at hD hE ⊢
  have hA : ∀ q : Nat, s.heap.size ≤ q → A q := fun q h => by rw [← hAe]; exact Or.inr h
  have hS : va_S A s.heap s.heap [] := va_S.rf
  have hP : va_P D vwCl [(m0, .inr (12, fs))] s.heap := hP
  have hl := lv_entry ([.ref m0, .int x0, .int x1, .int x2]) (n := 7) (Nat.le_of_ble_eq_true rfl)
  rw [lg_entry_eq]
  generalize (lg_sl ([.ref m0, .int x0, .int x1, .int x2]) ++ List.replicate (7 - (lg_sl ([.ref m0, .int x0, .int x1, .int x2])).length) Slot.unset).toArray = ls at hl ⊢
  have hl : lv_has ls 7 [(0, .ref m0), (1, .int x0), (2, .int x1), (3, .int x2)] := hl
  refine lv_aload_n hx hb dX12_find_0 rfl (lv_at hl 0 rfl) ?_
  refine lv_iconst (v := 0) hx hb dX12_find_1 (by decide) ?_
  refine va_put (D := D) (ci := 12) (v := .int 0) (ty := tyX12 0) (C := RX12) (T := TX12) (N := 82) hx hb htb bi_X12 tyX12 tyX12_ok nmX12 hown hK hP hD hS 0 rfl rfl 0 (by decide) (htb _ bg_88) (fun _ h9 => h9) rfl (tyX12_ok 0 (by decide)) rfl rfl (by rw [hm.1]; decide) dX12_find_2 (fun H locs hP hD hS => ?_)
  have hP : va_P D vwCl [(m0, .inr (12, (fs.set 0 (.int 0))))] H := hP
  have hD : va_D A [(m0, .inr (12, (fs.set 0 (.int 0))))] := hD
  have hm : md_has (fs.set 0 (.int 0)) [(0, .int 0), (18, .int (-1))] := md_put hm 0 (.int 0) (by decide) rfl
  generalize (fs.set 0 (.int 0)) = fs at hP hD hm
  refine lv_aload_n hx hb dX12_find_5 rfl (lv_at hl 0 rfl) ?_
  refine va_get (D := D) (ci := 12) (v := .int (-1)) (C := RX12) (T := TX12) (N := 82) hx hb htb bi_X12 hown hK hP 0 rfl rfl 18 (by decide) (htb _ bg_106) (fun _ h9 => h9) (md_at hm 1 rfl) dX12_find_6 ?_
  refine lv_if_lt (tgt := 30) hx hb dX12_find_9 (by decide) (fun c_9 => ?_) (fun c_9 => ?_)
  rotate_left
  · exact absurd (by decide) c_9
  refine lv_iconst (v := (-1)) hx hb dX12_find_30 (by decide) ?_
  have hP9 := hP.sub (ws' := [(m0, .inr (12, fs))]) [0] rfl
  have hD9 := hD.sub (ws' := [(m0, .inr (12, fs))]) [0] rfl rfl
  have hK9 := hK.sub (tys' := []) [] rfl
  exact W.iret (v := (-1)) hx hb hr (fun t ht hW => ⟨⟨(-1), fs, rfl, ⟨rfl, md_sub hm [0] rfl⟩, by rw [ht]; exact hP9, va_K.moved hW.alike hK9, hD9⟩, hS.F ht⟩) hS.2.2 dX12_find_31
theorem dX12_bootstrap_0 : decode cX12_bootstrap 0 = .ok (.aload_n 0, 1) := by decide +kernel
theorem dX12_bootstrap_1 : decode cX12_bootstrap 1 = .ok (.iconst 0, 1) := by decide +kernel
theorem dX12_bootstrap_2 : decode cX12_bootstrap 2 = .ok (.putfield 1, 3) := by decide +kernel
theorem dX12_bootstrap_5 : decode cX12_bootstrap 5 = .ok (.aload_n 0, 1) := by decide +kernel
theorem dX12_bootstrap_6 : decode cX12_bootstrap 6 = .ok (.getfield 49, 3) := by decide +kernel
theorem dX12_bootstrap_9 : decode cX12_bootstrap 9 = .ok (.ifCond .lt 19, 3) := by decide +kernel
theorem dX12_bootstrap_28 : decode cX12_bootstrap 28 = .ok (.iconst (-1), 1) := by decide +kernel
theorem dX12_bootstrap_29 : decode cX12_bootstrap 29 = .ok (.ireturn, 1) := by decide +kernel
set_option maxHeartbeats 4000000 in
set_option maxRecDepth 100000 in
theorem mm_bootstrap (l : Launch) (D : va_G) (g : xe_G) (m0 : Nat) (fs : List Value) (x0 : Int32) (x1 : Int32) (sz : Nat) (hm : md_has fs [(18, .int (-1))]) : Met l yX12_bootstrap (.code yX12_bootstrap cX12_bootstrap 5 (some .int) :: bg) ({ frames := 1, cells := 0, slots := 0, locals := 120 } : Room) (xb_Pre (xe_E g) D vwCl [(m0, .inr (12, fs))] [] sz [.ref m0, .int x0, .int x1]) (va_Qi (fun r u => r = -1 ∧ md_has u [(0, .int 0)]) (xb_B D vwCl (va_A [(m0, .inr (12, fs))] sz) (fun u : List Value => [(m0, .inr (12, u))]) (fun u : List Value => [])) (va_A [(m0, .inr (12, fs))] sz)) 0 0 (va_A [(m0, .inr (12, fs))] sz) := by
  refine Met.ofW (cc := cX12_bootstrap) (maxL := 5) (ret := (some .int)) (by decide) rfl ?_
  intro p e s m args below meth c s₁ B hml hv
  obtain ⟨rfl, hsz, hP, hK, hD0, hE⟩ := hv
  have hx := B.exec
  have hb := B.bytes
  have hr := B.returns
  have hts := atoms_spec (ws := (.code yX12_bootstrap cX12_bootstrap 5 (some .int) :: bg)) B.pre
  have htb : ∀ w ∈ bg, w.before _ s = true := fun w h => hts w (List.mem_cons_of_mem _ h)
  have hown : s.vm.findClass RX12 = some m.cls := findClass_of_methodNamed B.named
  have hlocks := B.notSynchronized
  subst hsz
  have hD := hD0.self (sz := s.heap.size)
  generalize hAe : va_A [(m0, .inr (12, fs))] s.heap.size = A at hD hE ⊢
  have hA : ∀ q : Nat, s.heap.size ≤ q → A q := fun q h => by rw [← hAe]; exact Or.inr h
  have hS : va_S A s.heap s.heap [] := va_S.rf
  have hP : va_P D vwCl [(m0, .inr (12, fs))] s.heap := hP
  have hl := lv_entry ([.ref m0, .int x0, .int x1]) (n := 5) (Nat.le_of_ble_eq_true rfl)
  rw [lg_entry_eq]
  generalize (lg_sl ([.ref m0, .int x0, .int x1]) ++ List.replicate (5 - (lg_sl ([.ref m0, .int x0, .int x1])).length) Slot.unset).toArray = ls at hl ⊢
  have hl : lv_has ls 5 [(0, .ref m0), (1, .int x0), (2, .int x1)] := hl
  refine lv_aload_n hx hb dX12_bootstrap_0 rfl (lv_at hl 0 rfl) ?_
  refine lv_iconst (v := 0) hx hb dX12_bootstrap_1 (by decide) ?_
  refine va_put (D := D) (ci := 12) (v := .int 0) (ty := tyX12 0) (C := RX12) (T := TX12) (N := 82) hx hb htb bi_X12 tyX12 tyX12_ok nmX12 hown hK hP hD hS 0 rfl rfl 0 (by decide) (htb _ bg_88) (fun _ h9 => h9) rfl (tyX12_ok 0 (by decide)) rfl rfl (by rw [hm.1]; decide) dX12_bootstrap_2 (fun H locs hP hD hS => ?_)
  have hP : va_P D vwCl [(m0, .inr (12, (fs.set 0 (.int 0))))] H := hP
  have hD : va_D A [(m0, .inr (12, (fs.set 0 (.int 0))))] := hD
  have hm : md_has (fs.set 0 (.int 0)) [(0, .int 0), (18, .int (-1))] := md_put hm 0 (.int 0) (by decide) rfl
  generalize (fs.set 0 (.int 0)) = fs at hP hD hm
  refine lv_aload_n hx hb dX12_bootstrap_5 rfl (lv_at hl 0 rfl) ?_
  refine va_get (D := D) (ci := 12) (v := .int (-1)) (C := RX12) (T := TX12) (N := 82) hx hb htb bi_X12 hown hK hP 0 rfl rfl 18 (by decide) (htb _ bg_106) (fun _ h9 => h9) (md_at hm 1 rfl) dX12_bootstrap_6 ?_
  refine lv_if_lt (tgt := 28) hx hb dX12_bootstrap_9 (by decide) (fun c_9 => ?_) (fun c_9 => ?_)
  rotate_left
  · exact absurd (by decide) c_9
  refine lv_iconst (v := (-1)) hx hb dX12_bootstrap_28 (by decide) ?_
  have hP9 := hP.sub (ws' := [(m0, .inr (12, fs))]) [0] rfl
  have hD9 := hD.sub (ws' := [(m0, .inr (12, fs))]) [0] rfl rfl
  have hK9 := hK.sub (tys' := []) [] rfl
  exact W.iret (v := (-1)) hx hb hr (fun t ht hW => ⟨⟨(-1), fs, rfl, ⟨rfl, md_sub hm [0] rfl⟩, by rw [ht]; exact hP9, va_K.moved hW.alike hK9, hD9⟩, hS.F ht⟩) hS.2.2 dX12_bootstrap_29
theorem dX12_bits_0 : decode cX12_bits 0 = .ok (.aload_n 0, 1) := by decide +kernel
theorem dX12_bits_1 : decode cX12_bits 1 = .ok (.iconst 0, 1) := by decide +kernel
theorem dX12_bits_2 : decode cX12_bits 2 = .ok (.putfield 1, 3) := by decide +kernel
theorem dX12_bits_5 : decode cX12_bits 5 = .ok (.aload_n 0, 1) := by decide +kernel
theorem dX12_bits_6 : decode cX12_bits 6 = .ok (.getfield 49, 3) := by decide +kernel
theorem dX12_bits_9 : decode cX12_bits 9 = .ok (.ifCond .ge 5, 3) := by decide +kernel
theorem dX12_bits_12 : decode cX12_bits 12 = .ok (.lconst 0, 1) := by decide +kernel
theorem dX12_bits_13 : decode cX12_bits 13 = .ok (.lreturn, 1) := by decide +kernel
set_option maxHeartbeats 4000000 in
set_option maxRecDepth 100000 in
theorem mm_bits (l : Launch) (D : va_G) (g : xe_G) (m0 : Nat) (fs : List Value) (x0 : Int32) (sz : Nat) (hm : md_has fs [(18, .int (-1))]) : Met l yX12_bits (.code yX12_bits cX12_bits 3 (some .long) :: bg) ({ frames := 1, cells := 0, slots := 0, locals := 120 } : Room) (xb_Pre (xe_E g) D vwCl [(m0, .inr (12, fs))] [] sz [.ref m0, .int x0]) (va_Ql (fun r u => r = 0 ∧ md_has u [(0, .int 0)]) (xb_B D vwCl (va_A [(m0, .inr (12, fs))] sz) (fun u : List Value => [(m0, .inr (12, u))]) (fun u : List Value => [])) (va_A [(m0, .inr (12, fs))] sz)) 0 0 (va_A [(m0, .inr (12, fs))] sz) := by
  refine Met.ofW (cc := cX12_bits) (maxL := 3) (ret := (some .long)) (by decide) rfl ?_
  intro p e s m args below meth c s₁ B hml hv
  obtain ⟨rfl, hsz, hP, hK, hD0, hE⟩ := hv
  have hx := B.exec
  have hb := B.bytes
  have hr := B.returns
  have hts := atoms_spec (ws := (.code yX12_bits cX12_bits 3 (some .long) :: bg)) B.pre
  have htb : ∀ w ∈ bg, w.before _ s = true := fun w h => hts w (List.mem_cons_of_mem _ h)
  have hown : s.vm.findClass RX12 = some m.cls := findClass_of_methodNamed B.named
  have hlocks := B.notSynchronized
  subst hsz
  have hD := hD0.self (sz := s.heap.size)
  generalize hAe : va_A [(m0, .inr (12, fs))] s.heap.size = A at hD hE ⊢
  have hA : ∀ q : Nat, s.heap.size ≤ q → A q := fun q h => by rw [← hAe]; exact Or.inr h
  have hS : va_S A s.heap s.heap [] := va_S.rf
  have hP : va_P D vwCl [(m0, .inr (12, fs))] s.heap := hP
  have hl := lv_entry ([.ref m0, .int x0]) (n := 3) (Nat.le_of_ble_eq_true rfl)
  rw [lg_entry_eq]
  generalize (lg_sl ([.ref m0, .int x0]) ++ List.replicate (3 - (lg_sl ([.ref m0, .int x0])).length) Slot.unset).toArray = ls at hl ⊢
  have hl : lv_has ls 3 [(0, .ref m0), (1, .int x0)] := hl
  refine lv_aload_n hx hb dX12_bits_0 rfl (lv_at hl 0 rfl) ?_
  refine lv_iconst (v := 0) hx hb dX12_bits_1 (by decide) ?_
  refine va_put (D := D) (ci := 12) (v := .int 0) (ty := tyX12 0) (C := RX12) (T := TX12) (N := 82) hx hb htb bi_X12 tyX12 tyX12_ok nmX12 hown hK hP hD hS 0 rfl rfl 0 (by decide) (htb _ bg_88) (fun _ h9 => h9) rfl (tyX12_ok 0 (by decide)) rfl rfl (by rw [hm.1]; decide) dX12_bits_2 (fun H locs hP hD hS => ?_)
  have hP : va_P D vwCl [(m0, .inr (12, (fs.set 0 (.int 0))))] H := hP
  have hD : va_D A [(m0, .inr (12, (fs.set 0 (.int 0))))] := hD
  have hm : md_has (fs.set 0 (.int 0)) [(0, .int 0), (18, .int (-1))] := md_put hm 0 (.int 0) (by decide) rfl
  generalize (fs.set 0 (.int 0)) = fs at hP hD hm
  refine lv_aload_n hx hb dX12_bits_5 rfl (lv_at hl 0 rfl) ?_
  refine va_get (D := D) (ci := 12) (v := .int (-1)) (C := RX12) (T := TX12) (N := 82) hx hb htb bi_X12 hown hK hP 0 rfl rfl 18 (by decide) (htb _ bg_106) (fun _ h9 => h9) (md_at hm 1 rfl) dX12_bits_6 ?_
  refine lv_if_ge (tgt := 14) hx hb dX12_bits_9 (by decide) (fun c_9 => ?_) (fun c_9 => ?_)
  · exact absurd c_9 (by decide)
  refine lv_lconst (v := 0) hx hb dX12_bits_12 (by decide) ?_
  have hP9 := hP.sub (ws' := [(m0, .inr (12, fs))]) [0] rfl
  have hD9 := hD.sub (ws' := [(m0, .inr (12, fs))]) [0] rfl rfl
  have hK9 := hK.sub (tys' := []) [] rfl
  exact W.lret (v := 0) hx hb hr (fun t ht hW => ⟨⟨0, fs, rfl, ⟨rfl, md_sub hm [0] rfl⟩, by rw [ht]; exact hP9, va_K.moved hW.alike hK9, hD9⟩, hS.F ht⟩) hS.2.2 dX12_bits_13
theorem dX12_place_0 : decode cX12_place 0 = .ok (.aload_n 0, 1) := by decide +kernel
theorem dX12_place_1 : decode cX12_place 1 = .ok (.iconst 0, 1) := by decide +kernel
theorem dX12_place_2 : decode cX12_place 2 = .ok (.putfield 1, 3) := by decide +kernel
theorem dX12_place_5 : decode cX12_place 5 = .ok (.aload_n 0, 1) := by decide +kernel
theorem dX12_place_6 : decode cX12_place 6 = .ok (.getfield 157, 3) := by decide +kernel
theorem dX12_place_9 : decode cX12_place 9 = .ok (.ireturn, 1) := by decide +kernel
set_option maxHeartbeats 4000000 in
set_option maxRecDepth 100000 in
theorem mm_place (l : Launch) (D : va_G) (g : xe_G) (m0 : Nat) (fs : List Value) (sz : Nat) (hm : md_has fs [(73, .int (-1))]) : Met l yX12_place (.code yX12_place cX12_place 1 (some .int) :: bg) ({ frames := 1, cells := 0, slots := 0, locals := 120 } : Room) (xb_Pre (xe_E g) D vwCl [(m0, .inr (12, fs))] [] sz [.ref m0]) (va_Qi (fun r u => r = -1 ∧ md_has u [(0, .int 0)]) (xb_B D vwCl (va_A [(m0, .inr (12, fs))] sz) (fun u : List Value => [(m0, .inr (12, u))]) (fun u : List Value => [])) (va_A [(m0, .inr (12, fs))] sz)) 0 0 (va_A [(m0, .inr (12, fs))] sz) := by
  refine Met.ofW (cc := cX12_place) (maxL := 1) (ret := (some .int)) (by decide) rfl ?_
  intro p e s m args below meth c s₁ B hml hv
  obtain ⟨rfl, hsz, hP, hK, hD0, hE⟩ := hv
  have hx := B.exec
  have hb := B.bytes
  have hr := B.returns
  have hts := atoms_spec (ws := (.code yX12_place cX12_place 1 (some .int) :: bg)) B.pre
  have htb : ∀ w ∈ bg, w.before _ s = true := fun w h => hts w (List.mem_cons_of_mem _ h)
  have hown : s.vm.findClass RX12 = some m.cls := findClass_of_methodNamed B.named
  have hlocks := B.notSynchronized
  subst hsz
  have hD := hD0.self (sz := s.heap.size)
  generalize hAe : va_A [(m0, .inr (12, fs))] s.heap.size = A at hD hE ⊢
  have hA : ∀ q : Nat, s.heap.size ≤ q → A q := fun q h => by rw [← hAe]; exact Or.inr h
  have hS : va_S A s.heap s.heap [] := va_S.rf
  have hP : va_P D vwCl [(m0, .inr (12, fs))] s.heap := hP
  have hl := lv_entry ([.ref m0]) (n := 1) (Nat.le_of_ble_eq_true rfl)
  rw [lg_entry_eq]
  generalize (lg_sl ([.ref m0]) ++ List.replicate (1 - (lg_sl ([.ref m0])).length) Slot.unset).toArray = ls at hl ⊢
  have hl : lv_has ls 1 [(0, .ref m0)] := hl
  refine lv_aload_n hx hb dX12_place_0 rfl (lv_at hl 0 rfl) ?_
  refine lv_iconst (v := 0) hx hb dX12_place_1 (by decide) ?_
  refine va_put (D := D) (ci := 12) (v := .int 0) (ty := tyX12 0) (C := RX12) (T := TX12) (N := 82) hx hb htb bi_X12 tyX12 tyX12_ok nmX12 hown hK hP hD hS 0 rfl rfl 0 (by decide) (htb _ bg_88) (fun _ h9 => h9) rfl (tyX12_ok 0 (by decide)) rfl rfl (by rw [hm.1]; decide) dX12_place_2 (fun H locs hP hD hS => ?_)
  have hP : va_P D vwCl [(m0, .inr (12, (fs.set 0 (.int 0))))] H := hP
  have hD : va_D A [(m0, .inr (12, (fs.set 0 (.int 0))))] := hD
  have hm : md_has (fs.set 0 (.int 0)) [(0, .int 0), (73, .int (-1))] := md_put hm 0 (.int 0) (by decide) rfl
  generalize (fs.set 0 (.int 0)) = fs at hP hD hm
  refine lv_aload_n hx hb dX12_place_5 rfl (lv_at hl 0 rfl) ?_
  refine va_get (D := D) (ci := 12) (v := .int (-1)) (C := RX12) (T := TX12) (N := 82) hx hb htb bi_X12 hown hK hP 0 rfl rfl 73 (by decide) (htb _ bg_136) (fun _ h9 => h9) (md_at hm 1 rfl) dX12_place_6 ?_
  have hP9 := hP.sub (ws' := [(m0, .inr (12, fs))]) [0] rfl
  have hD9 := hD.sub (ws' := [(m0, .inr (12, fs))]) [0] rfl rfl
  have hK9 := hK.sub (tys' := []) [] rfl
  exact W.iret (v := (-1)) hx hb hr (fun t ht hW => ⟨⟨(-1), fs, rfl, ⟨rfl, md_sub hm [0] rfl⟩, by rw [ht]; exact hP9, va_K.moved hW.alike hK9, hD9⟩, hS.F ht⟩) hS.2.2 dX12_place_9
theorem dX12_noCode_0 : decode cX12_noCode 0 = .ok (.aload_n 0, 1) := by decide +kernel
theorem dX12_noCode_1 : decode cX12_noCode 1 = .ok (.getfield 49, 3) := by decide +kernel
theorem dX12_noCode_4 : decode cX12_noCode 4 = .ok (.ifCond .lt 24, 3) := by decide +kernel
theorem dX12_noCode_28 : decode cX12_noCode 28 = .ok (.iconst 1, 1) := by decide +kernel
theorem dX12_noCode_29 : decode cX12_noCode 29 = .ok (.goto 4, 3) := by decide +kernel
theorem dX12_noCode_33 : decode cX12_noCode 33 = .ok (.ireturn, 1) := by decide +kernel
set_option maxHeartbeats 4000000 in
set_option maxRecDepth 100000 in
theorem mm_noCode (l : Launch) (D : va_G) (g : xe_G) (m0 : Nat) (fs : List Value) (x0 : Int32) (sz : Nat) (hm : md_has fs [(18, .int (-1))]) : Met l yX12_noCode (.code yX12_noCode cX12_noCode 2 (some .boolean) :: bg) ({ frames := 1, cells := 0, slots := 0, locals := 120 } : Room) (xb_Pre (xe_E g) D vwCl [(m0, .inr (12, fs))] [] sz [.ref m0, .int x0]) (va_Qi (fun r _ => r = 1) (xb_B D vwCl (va_A [(m0, .inr (12, fs))] sz) (fun u : Unit => [(m0, .inr (12, fs))]) (fun u : Unit => [])) (va_A [(m0, .inr (12, fs))] sz)) 0 0 (va_A [(m0, .inr (12, fs))] sz) := by
  refine Met.ofW (cc := cX12_noCode) (maxL := 2) (ret := (some .boolean)) (by decide) rfl ?_
  intro p e s m args below meth c s₁ B hml hv
  obtain ⟨rfl, hsz, hP, hK, hD0, hE⟩ := hv
  have hx := B.exec
  have hb := B.bytes
  have hr := B.returns
  have hts := atoms_spec (ws := (.code yX12_noCode cX12_noCode 2 (some .boolean) :: bg)) B.pre
  have htb : ∀ w ∈ bg, w.before _ s = true := fun w h => hts w (List.mem_cons_of_mem _ h)
  have hown : s.vm.findClass RX12 = some m.cls := findClass_of_methodNamed B.named
  have hlocks := B.notSynchronized
  subst hsz
  have hD := hD0.self (sz := s.heap.size)
  generalize hAe : va_A [(m0, .inr (12, fs))] s.heap.size = A at hD hE ⊢
  have hA : ∀ q : Nat, s.heap.size ≤ q → A q := fun q h => by rw [← hAe]; exact Or.inr h
  have hS : va_S A s.heap s.heap [] := va_S.rf
  have hP : va_P D vwCl [(m0, .inr (12, fs))] s.heap := hP
  have hl := lv_entry ([.ref m0, .int x0]) (n := 2) (Nat.le_of_ble_eq_true rfl)
  rw [lg_entry_eq]
  generalize (lg_sl ([.ref m0, .int x0]) ++ List.replicate (2 - (lg_sl ([.ref m0, .int x0])).length) Slot.unset).toArray = ls at hl ⊢
  have hl : lv_has ls 2 [(0, .ref m0), (1, .int x0)] := hl
  refine lv_aload_n hx hb dX12_noCode_0 rfl (lv_at hl 0 rfl) ?_
  refine va_get (D := D) (ci := 12) (v := .int (-1)) (C := RX12) (T := TX12) (N := 82) hx hb htb bi_X12 hown hK hP 0 rfl rfl 18 (by decide) (htb _ bg_106) (fun _ h9 => h9) (md_at hm 0 rfl) dX12_noCode_1 ?_
  refine lv_if_lt (tgt := 28) hx hb dX12_noCode_4 (by decide) (fun c_4 => ?_) (fun c_4 => ?_)
  rotate_left
  · exact absurd (by decide) c_4
  refine lv_iconst (v := 1) hx hb dX12_noCode_28 (by decide) ?_
  refine lv_goto (tgt := 33) hx hb dX12_noCode_29 (by decide) ?_
  have hP9 := hP.sub (ws' := [(m0, .inr (12, fs))]) [0] rfl
  have hD9 := hD.sub (ws' := [(m0, .inr (12, fs))]) [0] rfl rfl
  have hK9 := hK.sub (tys' := []) [] rfl
  exact W.zret (v := 1) hx hb hr (by decide) (fun t ht hW => ⟨⟨1, (), rfl, rfl, by rw [ht]; exact hP9, va_K.moved hW.alike hK9, hD9⟩, hS.F ht⟩) hS.2.2 dX12_noCode_33
theorem dX12_cut_0 : decode cX12_cut 0 = .ok (.aload_n 0, 1) := by decide +kernel
theorem dX12_cut_1 : decode cX12_cut 1 = .ok (.iconst 0, 1) := by decide +kernel
theorem dX12_cut_2 : decode cX12_cut 2 = .ok (.putfield 1, 3) := by decide +kernel
theorem dX12_cut_5 : decode cX12_cut 5 = .ok (.aload_n 0, 1) := by decide +kernel
theorem dX12_cut_6 : decode cX12_cut 6 = .ok (.iload_n 1, 1) := by decide +kernel
theorem dX12_cut_7 : decode cX12_cut 7 = .ok (.invokevirtual 519, 3) := by decide +kernel
theorem dX12_cut_10 : decode cX12_cut 10 = .ok (.ifCond .eq 5, 3) := by decide +kernel
theorem dX12_cut_13 : decode cX12_cut 13 = .ok (.iconst (-1), 1) := by decide +kernel
theorem dX12_cut_14 : decode cX12_cut 14 = .ok (.ireturn, 1) := by decide +kernel
set_option maxHeartbeats 4000000 in
set_option maxRecDepth 100000 in
theorem mm_cut (l : Launch) (D : va_G) (g : xe_G) (m0 : Nat) (fs : List Value) (x0 : Int32) (sz : Nat) (hm : md_has fs [(18, .int (-1))]) : Met l yX12_cut (.code yX12_cut cX12_cut 2 (some .int) :: bg) ({ frames := 2, cells := 0, slots := 0, locals := 240 } : Room) (xb_Pre (xe_E g) D vwCl [(m0, .inr (12, fs))] [] sz [.ref m0, .int x0]) (va_Qi (fun r u => r = -1 ∧ md_has u [(0, .int 0)]) (xb_B D vwCl (va_A [(m0, .inr (12, fs))] sz) (fun u : List Value => [(m0, .inr (12, u))]) (fun u : List Value => [])) (va_A [(m0, .inr (12, fs))] sz)) 0 0 (va_A [(m0, .inr (12, fs))] sz) := by
  refine Met.ofW (cc := cX12_cut) (maxL := 2) (ret := (some .int)) (by decide) rfl ?_
  intro p e s m args below meth c s₁ B hml hv
  obtain ⟨rfl, hsz, hP, hK, hD0, hE⟩ := hv
  have hx := B.exec
  have hb := B.bytes
  have hr := B.returns
  have hts := atoms_spec (ws := (.code yX12_cut cX12_cut 2 (some .int) :: bg)) B.pre
  have htb : ∀ w ∈ bg, w.before _ s = true := fun w h => hts w (List.mem_cons_of_mem _ h)
  have hown : s.vm.findClass RX12 = some m.cls := findClass_of_methodNamed B.named
  have hlocks := B.notSynchronized
  subst hsz
  have hD := hD0.self (sz := s.heap.size)
  generalize hAe : va_A [(m0, .inr (12, fs))] s.heap.size = A at hD hE ⊢
  have hA : ∀ q : Nat, s.heap.size ≤ q → A q := fun q h => by rw [← hAe]; exact Or.inr h
  have hS : va_S A s.heap s.heap [] := va_S.rf
  have hP : va_P D vwCl [(m0, .inr (12, fs))] s.heap := hP
  have hl := lv_entry ([.ref m0, .int x0]) (n := 2) (Nat.le_of_ble_eq_true rfl)
  rw [lg_entry_eq]
  generalize (lg_sl ([.ref m0, .int x0]) ++ List.replicate (2 - (lg_sl ([.ref m0, .int x0])).length) Slot.unset).toArray = ls at hl ⊢
  have hl : lv_has ls 2 [(0, .ref m0), (1, .int x0)] := hl
  refine lv_aload_n hx hb dX12_cut_0 rfl (lv_at hl 0 rfl) ?_
  refine lv_iconst (v := 0) hx hb dX12_cut_1 (by decide) ?_
  refine va_put (D := D) (ci := 12) (v := .int 0) (ty := tyX12 0) (C := RX12) (T := TX12) (N := 82) hx hb htb bi_X12 tyX12 tyX12_ok nmX12 hown hK hP hD hS 0 rfl rfl 0 (by decide) (htb _ bg_88) (fun _ h9 => h9) rfl (tyX12_ok 0 (by decide)) rfl rfl (by rw [hm.1]; decide) dX12_cut_2 (fun H locs hP hD hS => ?_)
  have hP : va_P D vwCl [(m0, .inr (12, (fs.set 0 (.int 0))))] H := hP
  have hD : va_D A [(m0, .inr (12, (fs.set 0 (.int 0))))] := hD
  have hm : md_has (fs.set 0 (.int 0)) [(0, .int 0), (18, .int (-1))] := md_put hm 0 (.int 0) (by decide) rfl
  generalize (fs.set 0 (.int 0)) = fs at hP hD hm
  refine lv_aload_n hx hb dX12_cut_5 rfl (lv_at hl 0 rfl) ?_
  refine lv_iload_n hx hb dX12_cut_6 rfl (lv_at hl 1 rfl) ?_
  refine xb_goi (wr := []) (va_runV (As := [.int x0]) (rest := []) ⟨hx, hb, hml, hown, htb⟩ (mm_noCode l D g m0 fs x0 (Array.size H) (md_sub hm [1] rfl)) (bg_V 1 htb bg_239 bg_240 bg_241 bg_144 bg_237 rfl rfl (by decide +kernel) ⟨Nat.le_of_ble_eq_true rfl, Nat.le_of_ble_eq_true rfl⟩) ⟨xb_blind xe_ok, va_recv hK hP (ci := 12) (q0 := 0) rfl rfl, xb_enter xe_ok hK hP hD hS hA hE [0] rfl rfl rfl [] rfl⟩ rfl rfl hl.1 rfl (lv_room (Nat.le_of_ble_eq_true rfl)) dX12_cut_7 ⟨Nat.le_of_ble_eq_true rfl, Nat.le_of_ble_eq_true rfl⟩) hK hP hD hS hA [0] [] rfl rfl rfl (by decide) (fun r_7 u_7 H locs hw_7 hP hD hK hS => ?_)
  have hP : va_P D vwCl [(m0, .inr (12, fs))] H := hP
  have hD : va_D A [(m0, .inr (12, fs))] := hD
  have hK : va_K D vwCl [] s := hK
  refine W.widen (k := 0) (n := 0) (by decide) (by decide) ?_
  have hw_7 : r_7 = 1 := hw_7
  subst hw_7
  refine lv_if_eq (tgt := 15) hx hb dX12_cut_10 (by decide) (fun c_10 => ?_) (fun c_10 => ?_)
  · exact absurd c_10 (by decide)
  refine lv_iconst (v := (-1)) hx hb dX12_cut_13 (by decide) ?_
  have hP9 := hP.sub (ws' := [(m0, .inr (12, fs))]) [0] rfl
  have hD9 := hD.sub (ws' := [(m0, .inr (12, fs))]) [0] rfl rfl
  have hK9 := hK.sub (tys' := []) [] rfl
  exact W.iret (v := (-1)) hx hb hr (fun t ht hW => ⟨⟨(-1), fs, rfl, ⟨rfl, md_sub hm [0] rfl⟩, by rw [ht]; exact hP9, va_K.moved hW.alike hK9, hD9⟩, hS.F ht⟩) hS.2.2 dX12_cut_14
theorem dX12_jump_0 : decode cX12_jump 0 = .ok (.aload_n 0, 1) := by decide +kernel
theorem dX12_jump_1 : decode cX12_jump 1 = .ok (.iconst 0, 1) := by decide +kernel
theorem dX12_jump_2 : decode cX12_jump 2 = .ok (.putfield 1, 3) := by decide +kernel
theorem dX12_jump_5 : decode cX12_jump 5 = .ok (.aload_n 0, 1) := by decide +kernel
theorem dX12_jump_6 : decode cX12_jump 6 = .ok (.iload_n 1, 1) := by decide +kernel
theorem dX12_jump_7 : decode cX12_jump 7 = .ok (.invokevirtual 519, 3) := by decide +kernel
theorem dX12_jump_10 : decode cX12_jump 10 = .ok (.ifCond .ne 23, 3) := by decide +kernel
theorem dX12_jump_33 : decode cX12_jump 33 = .ok (.iconst (-1), 1) := by decide +kernel
theorem dX12_jump_34 : decode cX12_jump 34 = .ok (.ireturn, 1) := by decide +kernel
set_option maxHeartbeats 4000000 in
set_option maxRecDepth 100000 in
theorem mm_jump (l : Launch) (D : va_G) (g : xe_G) (m0 : Nat) (fs : List Value) (x0 : Int32) (x1 : Int32) (x2 : Int32) (x3 : Int32) (sz : Nat) (hm : md_has fs [(18, .int (-1))]) : Met l yX12_jump (.code yX12_jump cX12_jump 7 (some .int) :: bg) ({ frames := 2, cells := 0, slots := 0, locals := 240 } : Room) (xb_Pre (xe_E g) D vwCl [(m0, .inr (12, fs))] [] sz [.ref m0, .int x0, .int x1, .int x2, .int x3]) (va_Qi (fun r u => r = -1 ∧ md_has u [(0, .int 0)]) (xb_B D vwCl (va_A [(m0, .inr (12, fs))] sz) (fun u : List Value => [(m0, .inr (12, u))]) (fun u : List Value => [])) (va_A [(m0, .inr (12, fs))] sz)) 0 0 (va_A [(m0, .inr (12, fs))] sz) := by
  refine Met.ofW (cc := cX12_jump) (maxL := 7) (ret := (some .int)) (by decide) rfl ?_
  intro p e s m args below meth c s₁ B hml hv
  obtain ⟨rfl, hsz, hP, hK, hD0, hE⟩ := hv
  have hx := B.exec
  have hb := B.bytes
  have hr := B.returns
  have hts := atoms_spec (ws := (.code yX12_jump cX12_jump 7 (some .int) :: bg)) B.pre
  have htb : ∀ w ∈ bg, w.before _ s = true := fun w h => hts w (List.mem_cons_of_mem _ h)
  have hown : s.vm.findClass RX12 = some m.cls := findClass_of_methodNamed B.named
  have hlocks := B.notSynchronized
  subst hsz
  have hD := hD0.self (sz := s.heap.size)
  generalize hAe : va_A [(m0, .inr (12, fs))] s.heap.size = A at hD hE ⊢
  have hA : ∀ q : Nat, s.heap.size ≤ q → A q := fun q h => by rw [← hAe]; exact Or.inr h
  have hS : va_S A s.heap s.heap [] := va_S.rf
  have hP : va_P D vwCl [(m0, .inr (12, fs))] s.heap := hP
  have hl := lv_entry ([.ref m0, .int x0, .int x1, .int x2, .int x3]) (n := 7) (Nat.le_of_ble_eq_true rfl)
  rw [lg_entry_eq]
  generalize (lg_sl ([.ref m0, .int x0, .int x1, .int x2, .int x3]) ++ List.replicate (7 - (lg_sl ([.ref m0, .int x0, .int x1, .int x2, .int x3])).length) Slot.unset).toArray = ls at hl ⊢
  have hl : lv_has ls 7 [(0, .ref m0), (1, .int x0), (2, .int x1), (3, .int x2), (4, .int x3)] := hl
  refine lv_aload_n hx hb dX12_jump_0 rfl (lv_at hl 0 rfl) ?_
  refine lv_iconst (v := 0) hx hb dX12_jump_1 (by decide) ?_
  refine va_put (D := D) (ci := 12) (v := .int 0) (ty := tyX12 0) (C := RX12) (T := TX12) (N := 82) hx hb htb bi_X12 tyX12 tyX12_ok nmX12 hown hK hP hD hS 0 rfl rfl 0 (by decide) (htb _ bg_88) (fun _ h9 => h9) rfl (tyX12_ok 0 (by decide)) rfl rfl (by rw [hm.1]; decide) dX12_jump_2 (fun H locs hP hD hS => ?_)
  have hP : va_P D vwCl [(m0, .inr (12, (fs.set 0 (.int 0))))] H := hP
  have hD : va_D A [(m0, .inr (12, (fs.set 0 (.int 0))))] := hD
  have hm : md_has (fs.set 0 (.int 0)) [(0, .int 0), (18, .int (-1))] := md_put hm 0 (.int 0) (by decide) rfl
  generalize (fs.set 0 (.int 0)) = fs at hP hD hm
  refine lv_aload_n hx hb dX12_jump_5 rfl (lv_at hl 0 rfl) ?_
  refine lv_iload_n hx hb dX12_jump_6 rfl (lv_at hl 1 rfl) ?_
  refine xb_goi (wr := []) (va_runV (As := [.int x0]) (rest := []) ⟨hx, hb, hml, hown, htb⟩ (mm_noCode l D g m0 fs x0 (Array.size H) (md_sub hm [1] rfl)) (bg_V 1 htb bg_239 bg_240 bg_241 bg_144 bg_237 rfl rfl (by decide +kernel) ⟨Nat.le_of_ble_eq_true rfl, Nat.le_of_ble_eq_true rfl⟩) ⟨xb_blind xe_ok, va_recv hK hP (ci := 12) (q0 := 0) rfl rfl, xb_enter xe_ok hK hP hD hS hA hE [0] rfl rfl rfl [] rfl⟩ rfl rfl hl.1 rfl (lv_room (Nat.le_of_ble_eq_true rfl)) dX12_jump_7 ⟨Nat.le_of_ble_eq_true rfl, Nat.le_of_ble_eq_true rfl⟩) hK hP hD hS hA [0] [] rfl rfl rfl (by decide) (fun r_7 u_7 H locs hw_7 hP hD hK hS => ?_)
  have hP : va_P D vwCl [(m0, .inr (12, fs))] H := hP
  have hD : va_D A [(m0, .inr (12, fs))] := hD
  have hK : va_K D vwCl [] s := hK
  refine W.widen (k := 0) (n := 0) (by decide) (by decide) ?_
  have hw_7 : r_7 = 1 := hw_7
  subst hw_7
  refine lv_if_ne (tgt := 33) hx hb dX12_jump_10 (by decide) (fun c_10 => ?_) (fun c_10 => ?_)
  rotate_left
  · exact absurd c_10 (by decide)
  refine lv_iconst (v := (-1)) hx hb dX12_jump_33 (by decide) ?_
  have hP9 := hP.sub (ws' := [(m0, .inr (12, fs))]) [0] rfl
  have hD9 := hD.sub (ws' := [(m0, .inr (12, fs))]) [0] rfl rfl
  have hK9 := hK.sub (tys' := []) [] rfl
  exact W.iret (v := (-1)) hx hb hr (fun t ht hW => ⟨⟨(-1), fs, rfl, ⟨rfl, md_sub hm [0] rfl⟩, by rw [ht]; exact hP9, va_K.moved hW.alike hK9, hD9⟩, hS.F ht⟩) hS.2.2 dX12_jump_34
theorem dX12_count_0 : decode cX12_count 0 = .ok (.aload_n 0, 1) := by decide +kernel
theorem dX12_count_1 : decode cX12_count 1 = .ok (.iconst 0, 1) := by decide +kernel
theorem dX12_count_2 : decode cX12_count 2 = .ok (.putfield 1, 3) := by decide +kernel
theorem dX12_count_5 : decode cX12_count 5 = .ok (.iload_n 1, 1) := by decide +kernel
theorem dX12_count_6 : decode cX12_count 6 = .ok (.ifCond .lt 9, 3) := by decide +kernel
theorem dX12_count_9 : decode cX12_count 9 = .ok (.iload_n 1, 1) := by decide +kernel
theorem dX12_count_10 : decode cX12_count 10 = .ok (.bipush 15, 2) := by decide +kernel
theorem dX12_count_12 : decode cX12_count 12 = .ok (.if_icmp .le 8, 3) := by decide +kernel
theorem dX12_count_15 : decode cX12_count 15 = .ok (.aload_n 0, 1) := by decide +kernel
theorem dX12_count_16 : decode cX12_count 16 = .ok (.invokevirtual 440, 3) := by decide +kernel
theorem dX12_count_19 : decode cX12_count 19 = .ok (.ireturn, 1) := by decide +kernel
theorem dX12_count_20 : decode cX12_count 20 = .ok (.aload_n 0, 1) := by decide +kernel
theorem dX12_count_21 : decode cX12_count 21 = .ok (.getfield 49, 3) := by decide +kernel
theorem dX12_count_24 : decode cX12_count 24 = .ok (.ifCond .ge 5, 3) := by decide +kernel
theorem dX12_count_27 : decode cX12_count 27 = .ok (.iconst (-1), 1) := by decide +kernel
theorem dX12_count_28 : decode cX12_count 28 = .ok (.ireturn, 1) := by decide +kernel
set_option maxHeartbeats 4000000 in
set_option maxRecDepth 100000 in
theorem mm_count (l : Launch) (D : va_G) (g : xe_G) (m0 : Nat) (fs : List Value) (x0 : Int32) (sz : Nat) (hm : md_has fs [(18, .int (-1))]) : Met l yX12_count (.code yX12_count cX12_count 4 (some .int) :: bg) ({ frames := 2, cells := 0, slots := 0, locals := 240 } : Room) (xb_Pre (xe_E g) D vwCl [(m0, .inr (12, fs))] [] sz [.ref m0, .int x0]) (va_Qi (fun r u => (¬ x0 < 0 ∧ x0 ≤ 15 ∧ r = -1 ∧ md_has u [(0, .int 0)]) ∨ ((x0 < 0 ∨ ¬ x0 ≤ 15) ∧ md_has u [(0, .int 1)])) (xb_B D vwCl (va_A [(m0, .inr (12, fs))] sz) (fun u : List Value => [(m0, .inr (12, u))]) (fun u : List Value => [])) (va_A [(m0, .inr (12, fs))] sz)) 0 0 (va_A [(m0, .inr (12, fs))] sz) := by
  refine Met.ofW (cc := cX12_count) (maxL := 4) (ret := (some .int)) (by decide) rfl ?_
  intro p e s m args below meth c s₁ B hml hv
  obtain ⟨rfl, hsz, hP, hK, hD0, hE⟩ := hv
  have hx := B.exec
  have hb := B.bytes
  have hr := B.returns
  have hts := atoms_spec (ws := (.code yX12_count cX12_count 4 (some .int) :: bg)) B.pre
  have htb : ∀ w ∈ bg, w.before _ s = true := fun w h => hts w (List.mem_cons_of_mem _ h)
  have hown : s.vm.findClass RX12 = some m.cls := findClass_of_methodNamed B.named
  have hlocks := B.notSynchronized
  subst hsz
  have hD := hD0.self (sz := s.heap.size)
  generalize hAe : va_A [(m0, .inr (12, fs))] s.heap.size = A at hD hE ⊢
  have hA : ∀ q : Nat, s.heap.size ≤ q → A q := fun q h => by rw [← hAe]; exact Or.inr h
  have hS : va_S A s.heap s.heap [] := va_S.rf
  have hP : va_P D vwCl [(m0, .inr (12, fs))] s.heap := hP
  have hl := lv_entry ([.ref m0, .int x0]) (n := 4) (Nat.le_of_ble_eq_true rfl)
  rw [lg_entry_eq]
  generalize (lg_sl ([.ref m0, .int x0]) ++ List.replicate (4 - (lg_sl ([.ref m0, .int x0])).length) Slot.unset).toArray = ls at hl ⊢
  have hl : lv_has ls 4 [(0, .ref m0), (1, .int x0)] := hl
  refine lv_aload_n hx hb dX12_count_0 rfl (lv_at hl 0 rfl) ?_
  refine lv_iconst (v := 0) hx hb dX12_count_1 (by decide) ?_
  refine va_put (D := D) (ci := 12) (v := .int 0) (ty := tyX12 0) (C := RX12) (T := TX12) (N := 82) hx hb htb bi_X12 tyX12 tyX12_ok nmX12 hown hK hP hD hS 0 rfl rfl 0 (by decide) (htb _ bg_88) (fun _ h9 => h9) rfl (tyX12_ok 0 (by decide)) rfl rfl (by rw [hm.1]; decide) dX12_count_2 (fun H locs hP hD hS => ?_)
  have hP : va_P D vwCl [(m0, .inr (12, (fs.set 0 (.int 0))))] H := hP
  have hD : va_D A [(m0, .inr (12, (fs.set 0 (.int 0))))] := hD
  have hm : md_has (fs.set 0 (.int 0)) [(0, .int 0), (18, .int (-1))] := md_put hm 0 (.int 0) (by decide) rfl
  generalize (fs.set 0 (.int 0)) = fs at hP hD hm
  refine lv_iload_n hx hb dX12_count_5 rfl (lv_at hl 1 rfl) ?_
  refine lv_if_lt (tgt := 15) hx hb dX12_count_6 (by decide) (fun c_6 => ?_) (fun c_6 => ?_)
  · skip
    refine lv_aload_n hx hb dX12_count_15 rfl (lv_at hl 0 rfl) ?_
    refine xb_goi (wr := []) (va_runV (As := []) (rest := []) ⟨hx, hb, hml, hown, htb⟩ (mm_bad l D g m0 fs (Array.size H) (md_sub hm [] rfl)) (bg_V 0 htb bg_213 bg_214 bg_215 bg_144 bg_211 rfl rfl (by decide +kernel) ⟨Nat.le_of_ble_eq_true rfl, Nat.le_of_ble_eq_true rfl⟩) ⟨xb_blind xe_ok, va_recv hK hP (ci := 12) (q0 := 0) rfl rfl, xb_enter xe_ok hK hP hD hS hA hE [0] rfl rfl rfl [] rfl⟩ rfl rfl hl.1 rfl (lv_room (Nat.le_of_ble_eq_true rfl)) dX12_count_16 ⟨Nat.le_of_ble_eq_true rfl, Nat.le_of_ble_eq_true rfl⟩) hK hP hD hS hA [0] [] rfl rfl rfl (by decide) (fun r_16 u_16 H locs hw_16 hP hD hK hS => ?_)
    generalize u_16 = fs at hP hD hK hw_16
    have hP : va_P D vwCl [(m0, .inr (12, fs))] H := hP
    have hD : va_D A [(m0, .inr (12, fs))] := hD
    have hK : va_K D vwCl [] s := hK
    refine W.widen (k := 0) (n := 0) (by decide) (by decide) ?_
    obtain ⟨hw_16, hm⟩ := hw_16
    have hw_16 : r_16 = 0 := hw_16
    subst hw_16
    have hP9 := hP.sub (ws' := [(m0, .inr (12, fs))]) [0] rfl
    have hD9 := hD.sub (ws' := [(m0, .inr (12, fs))]) [0] rfl rfl
    have hK9 := hK.sub (tys' := []) [] rfl
    exact W.iret (v := 0) hx hb hr (fun t ht hW => ⟨⟨0, fs, rfl, Or.inr ⟨by first | exact Or.inl c_6 | exact Or.inr c_12, md_sub hm [0] rfl⟩, by rw [ht]; exact hP9, va_K.moved hW.alike hK9, hD9⟩, hS.F ht⟩) hS.2.2 dX12_count_19
  · skip
    refine lv_iload_n hx hb dX12_count_9 rfl (lv_at hl 1 rfl) ?_
    refine lv_bipush (v := 15) hx hb dX12_count_10 (by decide) ?_
    refine lv_icmp_le (tgt := 20) hx hb dX12_count_12 (by decide) (fun c_12 => ?_) (fun c_12 => ?_)
    · skip
      refine lv_aload_n hx hb dX12_count_20 rfl (lv_at hl 0 rfl) ?_
      refine va_get (D := D) (ci := 12) (v := .int (-1)) (C := RX12) (T := TX12) (N := 82) hx hb htb bi_X12 hown hK hP 0 rfl rfl 18 (by decide) (htb _ bg_106) (fun _ h9 => h9) (md_at hm 1 rfl) dX12_count_21 ?_
      refine lv_if_ge (tgt := 29) hx hb dX12_count_24 (by decide) (fun c_24 => ?_) (fun c_24 => ?_)
      · exact absurd c_24 (by decide)
      refine lv_iconst (v := (-1)) hx hb dX12_count_27 (by decide) ?_
      have hP9 := hP.sub (ws' := [(m0, .inr (12, fs))]) [0] rfl
      have hD9 := hD.sub (ws' := [(m0, .inr (12, fs))]) [0] rfl rfl
      have hK9 := hK.sub (tys' := []) [] rfl
      exact W.iret (v := (-1)) hx hb hr (fun t ht hW => ⟨⟨(-1), fs, rfl, Or.inl ⟨c_6, c_12, rfl, md_sub hm [0] rfl⟩, by rw [ht]; exact hP9, va_K.moved hW.alike hK9, hD9⟩, hS.F ht⟩) hS.2.2 dX12_count_28
    · skip
      refine lv_aload_n hx hb dX12_count_15 rfl (lv_at hl 0 rfl) ?_
      refine xb_goi (wr := []) (va_runV (As := []) (rest := []) ⟨hx, hb, hml, hown, htb⟩ (mm_bad l D g m0 fs (Array.size H) (md_sub hm [] rfl)) (bg_V 0 htb bg_213 bg_214 bg_215 bg_144 bg_211 rfl rfl (by decide +kernel) ⟨Nat.le_of_ble_eq_true rfl, Nat.le_of_ble_eq_true rfl⟩) ⟨xb_blind xe_ok, va_recv hK hP (ci := 12) (q0 := 0) rfl rfl, xb_enter xe_ok hK hP hD hS hA hE [0] rfl rfl rfl [] rfl⟩ rfl rfl hl.1 rfl (lv_room (Nat.le_of_ble_eq_true rfl)) dX12_count_16 ⟨Nat.le_of_ble_eq_true rfl, Nat.le_of_ble_eq_true rfl⟩) hK hP hD hS hA [0] [] rfl rfl rfl (by decide) (fun r_16 u_16 H locs hw_16 hP hD hK hS => ?_)
      generalize u_16 = fs at hP hD hK hw_16
      have hP : va_P D vwCl [(m0, .inr (12, fs))] H := hP
      have hD : va_D A [(m0, .inr (12, fs))] := hD
      have hK : va_K D vwCl [] s := hK
      refine W.widen (k := 0) (n := 0) (by decide) (by decide) ?_
      obtain ⟨hw_16, hm⟩ := hw_16
      have hw_16 : r_16 = 0 := hw_16
      subst hw_16
      have hP9 := hP.sub (ws' := [(m0, .inr (12, fs))]) [0] rfl
      have hD9 := hD.sub (ws' := [(m0, .inr (12, fs))]) [0] rfl rfl
      have hK9 := hK.sub (tys' := []) [] rfl
      exact W.iret (v := 0) hx hb hr (fun t ht hW => ⟨⟨0, fs, rfl, Or.inr ⟨by first | exact Or.inl c_6 | exact Or.inr c_12, md_sub hm [0] rfl⟩, by rw [ht]; exact hP9, va_K.moved hW.alike hK9, hD9⟩, hS.F ht⟩) hS.2.2 dX12_count_19
theorem dX12_entry_0 : decode cX12_entry 0 = .ok (.aload_n 0, 1) := by decide +kernel
theorem dX12_entry_1 : decode cX12_entry 1 = .ok (.iconst 0, 1) := by decide +kernel
theorem dX12_entry_2 : decode cX12_entry 2 = .ok (.putfield 1, 3) := by decide +kernel
theorem dX12_entry_5 : decode cX12_entry 5 = .ok (.iload_n 2, 1) := by decide +kernel
theorem dX12_entry_6 : decode cX12_entry 6 = .ok (.ifCond .lt 8, 3) := by decide +kernel
theorem dX12_entry_9 : decode cX12_entry 9 = .ok (.iload_n 2, 1) := by decide +kernel
theorem dX12_entry_10 : decode cX12_entry 10 = .ok (.iconst 2, 1) := by decide +kernel
theorem dX12_entry_11 : decode cX12_entry 11 = .ok (.if_icmp .le 8, 3) := by decide +kernel
theorem dX12_entry_14 : decode cX12_entry 14 = .ok (.aload_n 0, 1) := by decide +kernel
theorem dX12_entry_15 : decode cX12_entry 15 = .ok (.invokevirtual 440, 3) := by decide +kernel
theorem dX12_entry_18 : decode cX12_entry 18 = .ok (.ireturn, 1) := by decide +kernel
theorem dX12_entry_19 : decode cX12_entry 19 = .ok (.aload_n 0, 1) := by decide +kernel
theorem dX12_entry_20 : decode cX12_entry 20 = .ok (.getfield 49, 3) := by decide +kernel
theorem dX12_entry_23 : decode cX12_entry 23 = .ok (.ifCond .lt 15, 3) := by decide +kernel
theorem dX12_entry_38 : decode cX12_entry 38 = .ok (.iconst (-1), 1) := by decide +kernel
theorem dX12_entry_39 : decode cX12_entry 39 = .ok (.ireturn, 1) := by decide +kernel
set_option maxHeartbeats 4000000 in
set_option maxRecDepth 100000 in
theorem mm_entry (l : Launch) (D : va_G) (g : xe_G) (m0 : Nat) (fs : List Value) (x0 : Int32) (x1 : Int32) (sz : Nat) (hm : md_has fs [(18, .int (-1))]) : Met l yX12_entry (.code yX12_entry cX12_entry 4 (some .int) :: bg) ({ frames := 2, cells := 0, slots := 0, locals := 240 } : Room) (xb_Pre (xe_E g) D vwCl [(m0, .inr (12, fs))] [] sz [.ref m0, .int x0, .int x1]) (va_Qi (fun r u => (¬ x1 < 0 ∧ x1 ≤ 2 ∧ r = -1 ∧ md_has u [(0, .int 0)]) ∨ ((x1 < 0 ∨ ¬ x1 ≤ 2) ∧ md_has u [(0, .int 1)])) (xb_B D vwCl (va_A [(m0, .inr (12, fs))] sz) (fun u : List Value => [(m0, .inr (12, u))]) (fun u : List Value => [])) (va_A [(m0, .inr (12, fs))] sz)) 0 0 (va_A [(m0, .inr (12, fs))] sz) := by
  refine Met.ofW (cc := cX12_entry) (maxL := 4) (ret := (some .int)) (by decide) rfl ?_
  intro p e s m args below meth c s₁ B hml hv
  obtain ⟨rfl, hsz, hP, hK, hD0, hE⟩ := hv
  have hx := B.exec
  have hb := B.bytes
  have hr := B.returns
  have hts := atoms_spec (ws := (.code yX12_entry cX12_entry 4 (some .int) :: bg)) B.pre
  have htb : ∀ w ∈ bg, w.before _ s = true := fun w h => hts w (List.mem_cons_of_mem _ h)
  have hown : s.vm.findClass RX12 = some m.cls := findClass_of_methodNamed B.named
  have hlocks := B.notSynchronized
  subst hsz
  have hD := hD0.self (sz := s.heap.size)
  generalize hAe : va_A [(m0, .inr (12, fs))] s.heap.size = A at hD hE ⊢
  have hA : ∀ q : Nat, s.heap.size ≤ q → A q := fun q h => by rw [← hAe]; exact Or.inr h
  have hS : va_S A s.heap s.heap [] := va_S.rf
  have hP : va_P D vwCl [(m0, .inr (12, fs))] s.heap := hP
  have hl := lv_entry ([.ref m0, .int x0, .int x1]) (n := 4) (Nat.le_of_ble_eq_true rfl)
  rw [lg_entry_eq]
  generalize (lg_sl ([.ref m0, .int x0, .int x1]) ++ List.replicate (4 - (lg_sl ([.ref m0, .int x0, .int x1])).length) Slot.unset).toArray = ls at hl ⊢
  have hl : lv_has ls 4 [(0, .ref m0), (1, .int x0), (2, .int x1)] := hl
  refine lv_aload_n hx hb dX12_entry_0 rfl (lv_at hl 0 rfl) ?_
  refine lv_iconst (v := 0) hx hb dX12_entry_1 (by decide) ?_
  refine va_put (D := D) (ci := 12) (v := .int 0) (ty := tyX12 0) (C := RX12) (T := TX12) (N := 82) hx hb htb bi_X12 tyX12 tyX12_ok nmX12 hown hK hP hD hS 0 rfl rfl 0 (by decide) (htb _ bg_88) (fun _ h9 => h9) rfl (tyX12_ok 0 (by decide)) rfl rfl (by rw [hm.1]; decide) dX12_entry_2 (fun H locs hP hD hS => ?_)
  have hP : va_P D vwCl [(m0, .inr (12, (fs.set 0 (.int 0))))] H := hP
  have hD : va_D A [(m0, .inr (12, (fs.set 0 (.int 0))))] := hD
  have hm : md_has (fs.set 0 (.int 0)) [(0, .int 0), (18, .int (-1))] := md_put hm 0 (.int 0) (by decide) rfl
  generalize (fs.set 0 (.int 0)) = fs at hP hD hm
  refine lv_iload_n hx hb dX12_entry_5 rfl (lv_at hl 2 rfl) ?_
  refine lv_if_lt (tgt := 14) hx hb dX12_entry_6 (by decide) (fun c_6 => ?_) (fun c_6 => ?_)
  · skip
    refine lv_aload_n hx hb dX12_entry_14 rfl (lv_at hl 0 rfl) ?_
    refine xb_goi (wr := []) (va_runV (As := []) (rest := []) ⟨hx, hb, hml, hown, htb⟩ (mm_bad l D g m0 fs (Array.size H) (md_sub hm [] rfl)) (bg_V 0 htb bg_213 bg_214 bg_215 bg_144 bg_211 rfl rfl (by decide +kernel) ⟨Nat.le_of_ble_eq_true rfl, Nat.le_of_ble_eq_true rfl⟩) ⟨xb_blind xe_ok, va_recv hK hP (ci := 12) (q0 := 0) rfl rfl, xb_enter xe_ok hK hP hD hS hA hE [0] rfl rfl rfl [] rfl⟩ rfl rfl hl.1 rfl (lv_room (Nat.le_of_ble_eq_true rfl)) dX12_entry_15 ⟨Nat.le_of_ble_eq_true rfl, Nat.le_of_ble_eq_true rfl⟩) hK hP hD hS hA [0] [] rfl rfl rfl (by decide) (fun r_15 u_15 H locs hw_15 hP hD hK hS => ?_)
    generalize u_15 = fs at hP hD hK hw_15
    have hP : va_P D vwCl [(m0, .inr (12, fs))] H := hP
    have hD : va_D A [(m0, .inr (12, fs))] := hD
    have hK : va_K D vwCl [] s := hK
    refine W.widen (k := 0) (n := 0) (by decide) (by decide) ?_
    obtain ⟨hw_15, hm⟩ := hw_15
    have hw_15 : r_15 = 0 := hw_15
    subst hw_15
    have hP9 := hP.sub (ws' := [(m0, .inr (12, fs))]) [0] rfl
    have hD9 := hD.sub (ws' := [(m0, .inr (12, fs))]) [0] rfl rfl
    have hK9 := hK.sub (tys' := []) [] rfl
    exact W.iret (v := 0) hx hb hr (fun t ht hW => ⟨⟨0, fs, rfl, Or.inr ⟨by first | exact Or.inl c_6 | exact Or.inr c_11, md_sub hm [0] rfl⟩, by rw [ht]; exact hP9, va_K.moved hW.alike hK9, hD9⟩, hS.F ht⟩) hS.2.2 dX12_entry_18
  · skip
    refine lv_iload_n hx hb dX12_entry_9 rfl (lv_at hl 2 rfl) ?_
    refine lv_iconst (v := 2) hx hb dX12_entry_10 (by decide) ?_
    refine lv_icmp_le (tgt := 19) hx hb dX12_entry_11 (by decide) (fun c_11 => ?_) (fun c_11 => ?_)
    · skip
      refine lv_aload_n hx hb dX12_entry_19 rfl (lv_at hl 0 rfl) ?_
      refine va_get (D := D) (ci := 12) (v := .int (-1)) (C := RX12) (T := TX12) (N := 82) hx hb htb bi_X12 hown hK hP 0 rfl rfl 18 (by decide) (htb _ bg_106) (fun _ h9 => h9) (md_at hm 1 rfl) dX12_entry_20 ?_
      refine lv_if_lt (tgt := 38) hx hb dX12_entry_23 (by decide) (fun c_23 => ?_) (fun c_23 => ?_)
      rotate_left
      · exact absurd (by decide) c_23
      refine lv_iconst (v := (-1)) hx hb dX12_entry_38 (by decide) ?_
      have hP9 := hP.sub (ws' := [(m0, .inr (12, fs))]) [0] rfl
      have hD9 := hD.sub (ws' := [(m0, .inr (12, fs))]) [0] rfl rfl
      have hK9 := hK.sub (tys' := []) [] rfl
      exact W.iret (v := (-1)) hx hb hr (fun t ht hW => ⟨⟨(-1), fs, rfl, Or.inl ⟨c_6, c_11, rfl, md_sub hm [0] rfl⟩, by rw [ht]; exact hP9, va_K.moved hW.alike hK9, hD9⟩, hS.F ht⟩) hS.2.2 dX12_entry_39
    · skip
      refine lv_aload_n hx hb dX12_entry_14 rfl (lv_at hl 0 rfl) ?_
      refine xb_goi (wr := []) (va_runV (As := []) (rest := []) ⟨hx, hb, hml, hown, htb⟩ (mm_bad l D g m0 fs (Array.size H) (md_sub hm [] rfl)) (bg_V 0 htb bg_213 bg_214 bg_215 bg_144 bg_211 rfl rfl (by decide +kernel) ⟨Nat.le_of_ble_eq_true rfl, Nat.le_of_ble_eq_true rfl⟩) ⟨xb_blind xe_ok, va_recv hK hP (ci := 12) (q0 := 0) rfl rfl, xb_enter xe_ok hK hP hD hS hA hE [0] rfl rfl rfl [] rfl⟩ rfl rfl hl.1 rfl (lv_room (Nat.le_of_ble_eq_true rfl)) dX12_entry_15 ⟨Nat.le_of_ble_eq_true rfl, Nat.le_of_ble_eq_true rfl⟩) hK hP hD hS hA [0] [] rfl rfl rfl (by decide) (fun r_15 u_15 H locs hw_15 hP hD hK hS => ?_)
      generalize u_15 = fs at hP hD hK hw_15
      have hP : va_P D vwCl [(m0, .inr (12, fs))] H := hP
      have hD : va_D A [(m0, .inr (12, fs))] := hD
      have hK : va_K D vwCl [] s := hK
      refine W.widen (k := 0) (n := 0) (by decide) (by decide) ?_
      obtain ⟨hw_15, hm⟩ := hw_15
      have hw_15 : r_15 = 0 := hw_15
      subst hw_15
      have hP9 := hP.sub (ws' := [(m0, .inr (12, fs))]) [0] rfl
      have hD9 := hD.sub (ws' := [(m0, .inr (12, fs))]) [0] rfl rfl
      have hK9 := hK.sub (tys' := []) [] rfl
      exact W.iret (v := 0) hx hb hr (fun t ht hW => ⟨⟨0, fs, rfl, Or.inr ⟨by first | exact Or.inl c_6 | exact Or.inr c_11, md_sub hm [0] rfl⟩, by rw [ht]; exact hP9, va_K.moved hW.alike hK9, hD9⟩, hS.F ht⟩) hS.2.2 dX12_entry_18
theorem dX12_member_0 : decode cX12_member 0 = .ok (.aload_n 0, 1) := by decide +kernel
theorem dX12_member_1 : decode cX12_member 1 = .ok (.iconst 0, 1) := by decide +kernel
theorem dX12_member_2 : decode cX12_member 2 = .ok (.putfield 1, 3) := by decide +kernel
theorem dX12_member_5 : decode cX12_member 5 = .ok (.iload_n 3, 1) := by decide +kernel
theorem dX12_member_6 : decode cX12_member 6 = .ok (.ifCond .lt 9, 3) := by decide +kernel
theorem dX12_member_9 : decode cX12_member 9 = .ok (.iload_n 3, 1) := by decide +kernel
theorem dX12_member_10 : decode cX12_member 10 = .ok (.bipush 9, 2) := by decide +kernel
theorem dX12_member_12 : decode cX12_member 12 = .ok (.if_icmp .le 8, 3) := by decide +kernel
theorem dX12_member_15 : decode cX12_member 15 = .ok (.aload_n 0, 1) := by decide +kernel
theorem dX12_member_16 : decode cX12_member 16 = .ok (.invokevirtual 440, 3) := by decide +kernel
theorem dX12_member_19 : decode cX12_member 19 = .ok (.ireturn, 1) := by decide +kernel
theorem dX12_member_20 : decode cX12_member 20 = .ok (.aload_n 0, 1) := by decide +kernel
theorem dX12_member_21 : decode cX12_member 21 = .ok (.getfield 49, 3) := by decide +kernel
theorem dX12_member_24 : decode cX12_member 24 = .ok (.ifCond .lt 26, 3) := by decide +kernel
theorem dX12_member_50 : decode cX12_member 50 = .ok (.iconst (-1), 1) := by decide +kernel
theorem dX12_member_51 : decode cX12_member 51 = .ok (.ireturn, 1) := by decide +kernel
set_option maxHeartbeats 4000000 in
set_option maxRecDepth 100000 in
theorem mm_member (l : Launch) (D : va_G) (g : xe_G) (m0 : Nat) (fs : List Value) (x0 : Int32) (x1 : Int32) (x2 : Int32) (sz : Nat) (hm : md_has fs [(18, .int (-1))]) : Met l yX12_member (.code yX12_member cX12_member 4 (some .int) :: bg) ({ frames := 2, cells := 0, slots := 0, locals := 240 } : Room) (xb_Pre (xe_E g) D vwCl [(m0, .inr (12, fs))] [] sz [.ref m0, .int x0, .int x1, .int x2]) (va_Qi (fun r u => (¬ x2 < 0 ∧ x2 ≤ 9 ∧ r = -1 ∧ md_has u [(0, .int 0)]) ∨ ((x2 < 0 ∨ ¬ x2 ≤ 9) ∧ md_has u [(0, .int 1)])) (xb_B D vwCl (va_A [(m0, .inr (12, fs))] sz) (fun u : List Value => [(m0, .inr (12, u))]) (fun u : List Value => [])) (va_A [(m0, .inr (12, fs))] sz)) 0 0 (va_A [(m0, .inr (12, fs))] sz) := by
  refine Met.ofW (cc := cX12_member) (maxL := 4) (ret := (some .int)) (by decide) rfl ?_
  intro p e s m args below meth c s₁ B hml hv
  obtain ⟨rfl, hsz, hP, hK, hD0, hE⟩ := hv
  have hx := B.exec
  have hb := B.bytes
  have hr := B.returns
  have hts := atoms_spec (ws := (.code yX12_member cX12_member 4 (some .int) :: bg)) B.pre
  have htb : ∀ w ∈ bg, w.before _ s = true := fun w h => hts w (List.mem_cons_of_mem _ h)
  have hown : s.vm.findClass RX12 = some m.cls := findClass_of_methodNamed B.named
  have hlocks := B.notSynchronized
  subst hsz
  have hD := hD0.self (sz := s.heap.size)
  generalize hAe : va_A [(m0, .inr (12, fs))] s.heap.size = A at hD hE ⊢
  have hA : ∀ q : Nat, s.heap.size ≤ q → A q := fun q h => by rw [← hAe]; exact Or.inr h
  have hS : va_S A s.heap s.heap [] := va_S.rf
  have hP : va_P D vwCl [(m0, .inr (12, fs))] s.heap := hP
  have hl := lv_entry ([.ref m0, .int x0, .int x1, .int x2]) (n := 4) (Nat.le_of_ble_eq_true rfl)
  rw [lg_entry_eq]
  generalize (lg_sl ([.ref m0, .int x0, .int x1, .int x2]) ++ List.replicate (4 - (lg_sl ([.ref m0, .int x0, .int x1, .int x2])).length) Slot.unset).toArray = ls at hl ⊢
  have hl : lv_has ls 4 [(0, .ref m0), (1, .int x0), (2, .int x1), (3, .int x2)] := hl
  refine lv_aload_n hx hb dX12_member_0 rfl (lv_at hl 0 rfl) ?_
  refine lv_iconst (v := 0) hx hb dX12_member_1 (by decide) ?_
  refine va_put (D := D) (ci := 12) (v := .int 0) (ty := tyX12 0) (C := RX12) (T := TX12) (N := 82) hx hb htb bi_X12 tyX12 tyX12_ok nmX12 hown hK hP hD hS 0 rfl rfl 0 (by decide) (htb _ bg_88) (fun _ h9 => h9) rfl (tyX12_ok 0 (by decide)) rfl rfl (by rw [hm.1]; decide) dX12_member_2 (fun H locs hP hD hS => ?_)
  have hP : va_P D vwCl [(m0, .inr (12, (fs.set 0 (.int 0))))] H := hP
  have hD : va_D A [(m0, .inr (12, (fs.set 0 (.int 0))))] := hD
  have hm : md_has (fs.set 0 (.int 0)) [(0, .int 0), (18, .int (-1))] := md_put hm 0 (.int 0) (by decide) rfl
  generalize (fs.set 0 (.int 0)) = fs at hP hD hm
  refine lv_iload_n hx hb dX12_member_5 rfl (lv_at hl 3 rfl) ?_
  refine lv_if_lt (tgt := 15) hx hb dX12_member_6 (by decide) (fun c_6 => ?_) (fun c_6 => ?_)
  · skip
    refine lv_aload_n hx hb dX12_member_15 rfl (lv_at hl 0 rfl) ?_
    refine xb_goi (wr := []) (va_runV (As := []) (rest := []) ⟨hx, hb, hml, hown, htb⟩ (mm_bad l D g m0 fs (Array.size H) (md_sub hm [] rfl)) (bg_V 0 htb bg_213 bg_214 bg_215 bg_144 bg_211 rfl rfl (by decide +kernel) ⟨Nat.le_of_ble_eq_true rfl, Nat.le_of_ble_eq_true rfl⟩) ⟨xb_blind xe_ok, va_recv hK hP (ci := 12) (q0 := 0) rfl rfl, xb_enter xe_ok hK hP hD hS hA hE [0] rfl rfl rfl [] rfl⟩ rfl rfl hl.1 rfl (lv_room (Nat.le_of_ble_eq_true rfl)) dX12_member_16 ⟨Nat.le_of_ble_eq_true rfl, Nat.le_of_ble_eq_true rfl⟩) hK hP hD hS hA [0] [] rfl rfl rfl (by decide) (fun r_16 u_16 H locs hw_16 hP hD hK hS => ?_)
    generalize u_16 = fs at hP hD hK hw_16
    have hP : va_P D vwCl [(m0, .inr (12, fs))] H := hP
    have hD : va_D A [(m0, .inr (12, fs))] := hD
    have hK : va_K D vwCl [] s := hK
    refine W.widen (k := 0) (n := 0) (by decide) (by decide) ?_
    obtain ⟨hw_16, hm⟩ := hw_16
    have hw_16 : r_16 = 0 := hw_16
    subst hw_16
    have hP9 := hP.sub (ws' := [(m0, .inr (12, fs))]) [0] rfl
    have hD9 := hD.sub (ws' := [(m0, .inr (12, fs))]) [0] rfl rfl
    have hK9 := hK.sub (tys' := []) [] rfl
    exact W.iret (v := 0) hx hb hr (fun t ht hW => ⟨⟨0, fs, rfl, Or.inr ⟨by first | exact Or.inl c_6 | exact Or.inr c_12, md_sub hm [0] rfl⟩, by rw [ht]; exact hP9, va_K.moved hW.alike hK9, hD9⟩, hS.F ht⟩) hS.2.2 dX12_member_19
  · skip
    refine lv_iload_n hx hb dX12_member_9 rfl (lv_at hl 3 rfl) ?_
    refine lv_bipush (v := 9) hx hb dX12_member_10 (by decide) ?_
    refine lv_icmp_le (tgt := 20) hx hb dX12_member_12 (by decide) (fun c_12 => ?_) (fun c_12 => ?_)
    · skip
      refine lv_aload_n hx hb dX12_member_20 rfl (lv_at hl 0 rfl) ?_
      refine va_get (D := D) (ci := 12) (v := .int (-1)) (C := RX12) (T := TX12) (N := 82) hx hb htb bi_X12 hown hK hP 0 rfl rfl 18 (by decide) (htb _ bg_106) (fun _ h9 => h9) (md_at hm 1 rfl) dX12_member_21 ?_
      refine lv_if_lt (tgt := 50) hx hb dX12_member_24 (by decide) (fun c_24 => ?_) (fun c_24 => ?_)
      rotate_left
      · exact absurd (by decide) c_24
      refine lv_iconst (v := (-1)) hx hb dX12_member_50 (by decide) ?_
      have hP9 := hP.sub (ws' := [(m0, .inr (12, fs))]) [0] rfl
      have hD9 := hD.sub (ws' := [(m0, .inr (12, fs))]) [0] rfl rfl
      have hK9 := hK.sub (tys' := []) [] rfl
      exact W.iret (v := (-1)) hx hb hr (fun t ht hW => ⟨⟨(-1), fs, rfl, Or.inl ⟨c_6, c_12, rfl, md_sub hm [0] rfl⟩, by rw [ht]; exact hP9, va_K.moved hW.alike hK9, hD9⟩, hS.F ht⟩) hS.2.2 dX12_member_51
    · skip
      refine lv_aload_n hx hb dX12_member_15 rfl (lv_at hl 0 rfl) ?_
      refine xb_goi (wr := []) (va_runV (As := []) (rest := []) ⟨hx, hb, hml, hown, htb⟩ (mm_bad l D g m0 fs (Array.size H) (md_sub hm [] rfl)) (bg_V 0 htb bg_213 bg_214 bg_215 bg_144 bg_211 rfl rfl (by decide +kernel) ⟨Nat.le_of_ble_eq_true rfl, Nat.le_of_ble_eq_true rfl⟩) ⟨xb_blind xe_ok, va_recv hK hP (ci := 12) (q0 := 0) rfl rfl, xb_enter xe_ok hK hP hD hS hA hE [0] rfl rfl rfl [] rfl⟩ rfl rfl hl.1 rfl (lv_room (Nat.le_of_ble_eq_true rfl)) dX12_member_16 ⟨Nat.le_of_ble_eq_true rfl, Nat.le_of_ble_eq_true rfl⟩) hK hP hD hS hA [0] [] rfl rfl rfl (by decide) (fun r_16 u_16 H locs hw_16 hP hD hK hS => ?_)
      generalize u_16 = fs at hP hD hK hw_16
      have hP : va_P D vwCl [(m0, .inr (12, fs))] H := hP
      have hD : va_D A [(m0, .inr (12, fs))] := hD
      have hK : va_K D vwCl [] s := hK
      refine W.widen (k := 0) (n := 0) (by decide) (by decide) ?_
      obtain ⟨hw_16, hm⟩ := hw_16
      have hw_16 : r_16 = 0 := hw_16
      subst hw_16
      have hP9 := hP.sub (ws' := [(m0, .inr (12, fs))]) [0] rfl
      have hD9 := hD.sub (ws' := [(m0, .inr (12, fs))]) [0] rfl rfl
      have hK9 := hK.sub (tys' := []) [] rfl
      exact W.iret (v := 0) hx hb hr (fun t ht hW => ⟨⟨0, fs, rfl, Or.inr ⟨by first | exact Or.inl c_6 | exact Or.inr c_12, md_sub hm [0] rfl⟩, by rw [ht]; exact hP9, va_K.moved hW.alike hK9, hD9⟩, hS.F ht⟩) hS.2.2 dX12_member_19
theorem dX12_row_0 : decode cX12_row 0 = .ok (.aload_n 0, 1) := by decide +kernel
theorem dX12_row_1 : decode cX12_row 1 = .ok (.iconst 0, 1) := by decide +kernel
theorem dX12_row_2 : decode cX12_row 2 = .ok (.putfield 1, 3) := by decide +kernel
theorem dX12_row_5 : decode cX12_row 5 = .ok (.iload_n 3, 1) := by decide +kernel
theorem dX12_row_6 : decode cX12_row 6 = .ok (.ifCond .lt 8, 3) := by decide +kernel
theorem dX12_row_9 : decode cX12_row 9 = .ok (.iload_n 3, 1) := by decide +kernel
theorem dX12_row_10 : decode cX12_row 10 = .ok (.iconst 3, 1) := by decide +kernel
theorem dX12_row_11 : decode cX12_row 11 = .ok (.if_icmp .le 8, 3) := by decide +kernel
theorem dX12_row_14 : decode cX12_row 14 = .ok (.aload_n 0, 1) := by decide +kernel
theorem dX12_row_15 : decode cX12_row 15 = .ok (.invokevirtual 440, 3) := by decide +kernel
theorem dX12_row_18 : decode cX12_row 18 = .ok (.ireturn, 1) := by decide +kernel
theorem dX12_row_19 : decode cX12_row 19 = .ok (.aload_n 0, 1) := by decide +kernel
theorem dX12_row_20 : decode cX12_row 20 = .ok (.getfield 49, 3) := by decide +kernel
theorem dX12_row_23 : decode cX12_row 23 = .ok (.ifCond .lt 38, 3) := by decide +kernel
theorem dX12_row_61 : decode cX12_row 61 = .ok (.iconst (-1), 1) := by decide +kernel
theorem dX12_row_62 : decode cX12_row 62 = .ok (.ireturn, 1) := by decide +kernel
set_option maxHeartbeats 4000000 in
set_option maxRecDepth 100000 in
theorem mm_row (l : Launch) (D : va_G) (g : xe_G) (m0 : Nat) (fs : List Value) (x0 : Int32) (x1 : Int32) (x2 : Int32) (sz : Nat) (hm : md_has fs [(18, .int (-1))]) : Met l yX12_row (.code yX12_row cX12_row 4 (some .int) :: bg) ({ frames := 2, cells := 0, slots := 0, locals := 240 } : Room) (xb_Pre (xe_E g) D vwCl [(m0, .inr (12, fs))] [] sz [.ref m0, .int x0, .int x1, .int x2]) (va_Qi (fun r u => (¬ x2 < 0 ∧ x2 ≤ 3 ∧ r = -1 ∧ md_has u [(0, .int 0)]) ∨ ((x2 < 0 ∨ ¬ x2 ≤ 3) ∧ md_has u [(0, .int 1)])) (xb_B D vwCl (va_A [(m0, .inr (12, fs))] sz) (fun u : List Value => [(m0, .inr (12, u))]) (fun u : List Value => [])) (va_A [(m0, .inr (12, fs))] sz)) 0 0 (va_A [(m0, .inr (12, fs))] sz) := by
  refine Met.ofW (cc := cX12_row) (maxL := 4) (ret := (some .int)) (by decide) rfl ?_
  intro p e s m args below meth c s₁ B hml hv
  obtain ⟨rfl, hsz, hP, hK, hD0, hE⟩ := hv
  have hx := B.exec
  have hb := B.bytes
  have hr := B.returns
  have hts := atoms_spec (ws := (.code yX12_row cX12_row 4 (some .int) :: bg)) B.pre
  have htb : ∀ w ∈ bg, w.before _ s = true := fun w h => hts w (List.mem_cons_of_mem _ h)
  have hown : s.vm.findClass RX12 = some m.cls := findClass_of_methodNamed B.named
  have hlocks := B.notSynchronized
  subst hsz
  have hD := hD0.self (sz := s.heap.size)
  generalize hAe : va_A [(m0, .inr (12, fs))] s.heap.size = A at hD hE ⊢
  have hA : ∀ q : Nat, s.heap.size ≤ q → A q := fun q h => by rw [← hAe]; exact Or.inr h
  have hS : va_S A s.heap s.heap [] := va_S.rf
  have hP : va_P D vwCl [(m0, .inr (12, fs))] s.heap := hP
  have hl := lv_entry ([.ref m0, .int x0, .int x1, .int x2]) (n := 4) (Nat.le_of_ble_eq_true rfl)
  rw [lg_entry_eq]
  generalize (lg_sl ([.ref m0, .int x0, .int x1, .int x2]) ++ List.replicate (4 - (lg_sl ([.ref m0, .int x0, .int x1, .int x2])).length) Slot.unset).toArray = ls at hl ⊢
  have hl : lv_has ls 4 [(0, .ref m0), (1, .int x0), (2, .int x1), (3, .int x2)] := hl
  refine lv_aload_n hx hb dX12_row_0 rfl (lv_at hl 0 rfl) ?_
  refine lv_iconst (v := 0) hx hb dX12_row_1 (by decide) ?_
  refine va_put (D := D) (ci := 12) (v := .int 0) (ty := tyX12 0) (C := RX12) (T := TX12) (N := 82) hx hb htb bi_X12 tyX12 tyX12_ok nmX12 hown hK hP hD hS 0 rfl rfl 0 (by decide) (htb _ bg_88) (fun _ h9 => h9) rfl (tyX12_ok 0 (by decide)) rfl rfl (by rw [hm.1]; decide) dX12_row_2 (fun H locs hP hD hS => ?_)
  have hP : va_P D vwCl [(m0, .inr (12, (fs.set 0 (.int 0))))] H := hP
  have hD : va_D A [(m0, .inr (12, (fs.set 0 (.int 0))))] := hD
  have hm : md_has (fs.set 0 (.int 0)) [(0, .int 0), (18, .int (-1))] := md_put hm 0 (.int 0) (by decide) rfl
  generalize (fs.set 0 (.int 0)) = fs at hP hD hm
  refine lv_iload_n hx hb dX12_row_5 rfl (lv_at hl 3 rfl) ?_
  refine lv_if_lt (tgt := 14) hx hb dX12_row_6 (by decide) (fun c_6 => ?_) (fun c_6 => ?_)
  · skip
    refine lv_aload_n hx hb dX12_row_14 rfl (lv_at hl 0 rfl) ?_
    refine xb_goi (wr := []) (va_runV (As := []) (rest := []) ⟨hx, hb, hml, hown, htb⟩ (mm_bad l D g m0 fs (Array.size H) (md_sub hm [] rfl)) (bg_V 0 htb bg_213 bg_214 bg_215 bg_144 bg_211 rfl rfl (by decide +kernel) ⟨Nat.le_of_ble_eq_true rfl, Nat.le_of_ble_eq_true rfl⟩) ⟨xb_blind xe_ok, va_recv hK hP (ci := 12) (q0 := 0) rfl rfl, xb_enter xe_ok hK hP hD hS hA hE [0] rfl rfl rfl [] rfl⟩ rfl rfl hl.1 rfl (lv_room (Nat.le_of_ble_eq_true rfl)) dX12_row_15 ⟨Nat.le_of_ble_eq_true rfl, Nat.le_of_ble_eq_true rfl⟩) hK hP hD hS hA [0] [] rfl rfl rfl (by decide) (fun r_15 u_15 H locs hw_15 hP hD hK hS => ?_)
    generalize u_15 = fs at hP hD hK hw_15
    have hP : va_P D vwCl [(m0, .inr (12, fs))] H := hP
    have hD : va_D A [(m0, .inr (12, fs))] := hD
    have hK : va_K D vwCl [] s := hK
    refine W.widen (k := 0) (n := 0) (by decide) (by decide) ?_
    obtain ⟨hw_15, hm⟩ := hw_15
    have hw_15 : r_15 = 0 := hw_15
    subst hw_15
    have hP9 := hP.sub (ws' := [(m0, .inr (12, fs))]) [0] rfl
    have hD9 := hD.sub (ws' := [(m0, .inr (12, fs))]) [0] rfl rfl
    have hK9 := hK.sub (tys' := []) [] rfl
    exact W.iret (v := 0) hx hb hr (fun t ht hW => ⟨⟨0, fs, rfl, Or.inr ⟨by first | exact Or.inl c_6 | exact Or.inr c_11, md_sub hm [0] rfl⟩, by rw [ht]; exact hP9, va_K.moved hW.alike hK9, hD9⟩, hS.F ht⟩) hS.2.2 dX12_row_18
  · skip
    refine lv_iload_n hx hb dX12_row_9 rfl (lv_at hl 3 rfl) ?_
    refine lv_iconst (v := 3) hx hb dX12_row_10 (by decide) ?_
    refine lv_icmp_le (tgt := 19) hx hb dX12_row_11 (by decide) (fun c_11 => ?_) (fun c_11 => ?_)
    · skip
      refine lv_aload_n hx hb dX12_row_19 rfl (lv_at hl 0 rfl) ?_
      refine va_get (D := D) (ci := 12) (v := .int (-1)) (C := RX12) (T := TX12) (N := 82) hx hb htb bi_X12 hown hK hP 0 rfl rfl 18 (by decide) (htb _ bg_106) (fun _ h9 => h9) (md_at hm 1 rfl) dX12_row_20 ?_
      refine lv_if_lt (tgt := 61) hx hb dX12_row_23 (by decide) (fun c_23 => ?_) (fun c_23 => ?_)
      rotate_left
      · exact absurd (by decide) c_23
      refine lv_iconst (v := (-1)) hx hb dX12_row_61 (by decide) ?_
      have hP9 := hP.sub (ws' := [(m0, .inr (12, fs))]) [0] rfl
      have hD9 := hD.sub (ws' := [(m0, .inr (12, fs))]) [0] rfl rfl
      have hK9 := hK.sub (tys' := []) [] rfl
      exact W.iret (v := (-1)) hx hb hr (fun t ht hW => ⟨⟨(-1), fs, rfl, Or.inl ⟨c_6, c_11, rfl, md_sub hm [0] rfl⟩, by rw [ht]; exact hP9, va_K.moved hW.alike hK9, hD9⟩, hS.F ht⟩) hS.2.2 dX12_row_62
    · skip
      refine lv_aload_n hx hb dX12_row_14 rfl (lv_at hl 0 rfl) ?_
      refine xb_goi (wr := []) (va_runV (As := []) (rest := []) ⟨hx, hb, hml, hown, htb⟩ (mm_bad l D g m0 fs (Array.size H) (md_sub hm [] rfl)) (bg_V 0 htb bg_213 bg_214 bg_215 bg_144 bg_211 rfl rfl (by decide +kernel) ⟨Nat.le_of_ble_eq_true rfl, Nat.le_of_ble_eq_true rfl⟩) ⟨xb_blind xe_ok, va_recv hK hP (ci := 12) (q0 := 0) rfl rfl, xb_enter xe_ok hK hP hD hS hA hE [0] rfl rfl rfl [] rfl⟩ rfl rfl hl.1 rfl (lv_room (Nat.le_of_ble_eq_true rfl)) dX12_row_15 ⟨Nat.le_of_ble_eq_true rfl, Nat.le_of_ble_eq_true rfl⟩) hK hP hD hS hA [0] [] rfl rfl rfl (by decide) (fun r_15 u_15 H locs hw_15 hP hD hK hS => ?_)
      generalize u_15 = fs at hP hD hK hw_15
      have hP : va_P D vwCl [(m0, .inr (12, fs))] H := hP
      have hD : va_D A [(m0, .inr (12, fs))] := hD
      have hK : va_K D vwCl [] s := hK
      refine W.widen (k := 0) (n := 0) (by decide) (by decide) ?_
      obtain ⟨hw_15, hm⟩ := hw_15
      have hw_15 : r_15 = 0 := hw_15
      subst hw_15
      have hP9 := hP.sub (ws' := [(m0, .inr (12, fs))]) [0] rfl
      have hD9 := hD.sub (ws' := [(m0, .inr (12, fs))]) [0] rfl rfl
      have hK9 := hK.sub (tys' := []) [] rfl
      exact W.iret (v := 0) hx hb hr (fun t ht hW => ⟨⟨0, fs, rfl, Or.inr ⟨by first | exact Or.inl c_6 | exact Or.inr c_11, md_sub hm [0] rfl⟩, by rw [ht]; exact hP9, va_K.moved hW.alike hK9, hD9⟩, hS.F ht⟩) hS.2.2 dX12_row_18
theorem dX12_instruction_0 : decode cX12_instruction 0 = .ok (.aload_n 0, 1) := by decide +kernel
theorem dX12_instruction_1 : decode cX12_instruction 1 = .ok (.iconst 0, 1) := by decide +kernel
theorem dX12_instruction_2 : decode cX12_instruction 2 = .ok (.putfield 1, 3) := by decide +kernel
theorem dX12_instruction_5 : decode cX12_instruction 5 = .ok (.iload_n 3, 1) := by decide +kernel
theorem dX12_instruction_6 : decode cX12_instruction 6 = .ok (.ifCond .lt 8, 3) := by decide +kernel
theorem dX12_instruction_9 : decode cX12_instruction 9 = .ok (.iload_n 3, 1) := by decide +kernel
theorem dX12_instruction_10 : decode cX12_instruction 10 = .ok (.iconst 4, 1) := by decide +kernel
theorem dX12_instruction_11 : decode cX12_instruction 11 = .ok (.if_icmp .le 8, 3) := by decide +kernel
theorem dX12_instruction_14 : decode cX12_instruction 14 = .ok (.aload_n 0, 1) := by decide +kernel
theorem dX12_instruction_15 : decode cX12_instruction 15 = .ok (.invokevirtual 440, 3) := by decide +kernel
theorem dX12_instruction_18 : decode cX12_instruction 18 = .ok (.ireturn, 1) := by decide +kernel
theorem dX12_instruction_19 : decode cX12_instruction 19 = .ok (.aload_n 0, 1) := by decide +kernel
theorem dX12_instruction_20 : decode cX12_instruction 20 = .ok (.iload_n 1, 1) := by decide +kernel
theorem dX12_instruction_21 : decode cX12_instruction 21 = .ok (.invokevirtual 519, 3) := by decide +kernel
theorem dX12_instruction_24 : decode cX12_instruction 24 = .ok (.ifCond .ne 23, 3) := by decide +kernel
theorem dX12_instruction_47 : decode cX12_instruction 47 = .ok (.iconst (-1), 1) := by decide +kernel
theorem dX12_instruction_48 : decode cX12_instruction 48 = .ok (.ireturn, 1) := by decide +kernel
set_option maxHeartbeats 4000000 in
set_option maxRecDepth 100000 in
theorem mm_instruction (l : Launch) (D : va_G) (g : xe_G) (m0 : Nat) (fs : List Value) (x0 : Int32) (x1 : Int32) (x2 : Int32) (sz : Nat) (hm : md_has fs [(18, .int (-1))]) : Met l yX12_instruction (.code yX12_instruction cX12_instruction 6 (some .int) :: bg) ({ frames := 2, cells := 0, slots := 0, locals := 240 } : Room) (xb_Pre (xe_E g) D vwCl [(m0, .inr (12, fs))] [] sz [.ref m0, .int x0, .int x1, .int x2]) (va_Qi (fun r u => (¬ x2 < 0 ∧ x2 ≤ 4 ∧ r = -1 ∧ md_has u [(0, .int 0)]) ∨ ((x2 < 0 ∨ ¬ x2 ≤ 4) ∧ md_has u [(0, .int 1)])) (xb_B D vwCl (va_A [(m0, .inr (12, fs))] sz) (fun u : List Value => [(m0, .inr (12, u))]) (fun u : List Value => [])) (va_A [(m0, .inr (12, fs))] sz)) 0 0 (va_A [(m0, .inr (12, fs))] sz) := by
  refine Met.ofW (cc := cX12_instruction) (maxL := 6) (ret := (some .int)) (by decide) rfl ?_
  intro p e s m args below meth c s₁ B hml hv
  obtain ⟨rfl, hsz, hP, hK, hD0, hE⟩ := hv
  have hx := B.exec
  have hb := B.bytes
  have hr := B.returns
  have hts := atoms_spec (ws := (.code yX12_instruction cX12_instruction 6 (some .int) :: bg)) B.pre
  have htb : ∀ w ∈ bg, w.before _ s = true := fun w h => hts w (List.mem_cons_of_mem _ h)
  have hown : s.vm.findClass RX12 = some m.cls := findClass_of_methodNamed B.named
  have hlocks := B.notSynchronized
  subst hsz
  have hD := hD0.self (sz := s.heap.size)
  generalize hAe : va_A [(m0, .inr (12, fs))] s.heap.size = A at hD hE ⊢
  have hA : ∀ q : Nat, s.heap.size ≤ q → A q := fun q h => by rw [← hAe]; exact Or.inr h
  have hS : va_S A s.heap s.heap [] := va_S.rf
  have hP : va_P D vwCl [(m0, .inr (12, fs))] s.heap := hP
  have hl := lv_entry ([.ref m0, .int x0, .int x1, .int x2]) (n := 6) (Nat.le_of_ble_eq_true rfl)
  rw [lg_entry_eq]
  generalize (lg_sl ([.ref m0, .int x0, .int x1, .int x2]) ++ List.replicate (6 - (lg_sl ([.ref m0, .int x0, .int x1, .int x2])).length) Slot.unset).toArray = ls at hl ⊢
  have hl : lv_has ls 6 [(0, .ref m0), (1, .int x0), (2, .int x1), (3, .int x2)] := hl
  refine lv_aload_n hx hb dX12_instruction_0 rfl (lv_at hl 0 rfl) ?_
  refine lv_iconst (v := 0) hx hb dX12_instruction_1 (by decide) ?_
  refine va_put (D := D) (ci := 12) (v := .int 0) (ty := tyX12 0) (C := RX12) (T := TX12) (N := 82) hx hb htb bi_X12 tyX12 tyX12_ok nmX12 hown hK hP hD hS 0 rfl rfl 0 (by decide) (htb _ bg_88) (fun _ h9 => h9) rfl (tyX12_ok 0 (by decide)) rfl rfl (by rw [hm.1]; decide) dX12_instruction_2 (fun H locs hP hD hS => ?_)
  have hP : va_P D vwCl [(m0, .inr (12, (fs.set 0 (.int 0))))] H := hP
  have hD : va_D A [(m0, .inr (12, (fs.set 0 (.int 0))))] := hD
  have hm : md_has (fs.set 0 (.int 0)) [(0, .int 0), (18, .int (-1))] := md_put hm 0 (.int 0) (by decide) rfl
  generalize (fs.set 0 (.int 0)) = fs at hP hD hm
  refine lv_iload_n hx hb dX12_instruction_5 rfl (lv_at hl 3 rfl) ?_
  refine lv_if_lt (tgt := 14) hx hb dX12_instruction_6 (by decide) (fun c_6 => ?_) (fun c_6 => ?_)
  · skip
    refine lv_aload_n hx hb dX12_instruction_14 rfl (lv_at hl 0 rfl) ?_
    refine xb_goi (wr := []) (va_runV (As := []) (rest := []) ⟨hx, hb, hml, hown, htb⟩ (mm_bad l D g m0 fs (Array.size H) (md_sub hm [] rfl)) (bg_V 0 htb bg_213 bg_214 bg_215 bg_144 bg_211 rfl rfl (by decide +kernel) ⟨Nat.le_of_ble_eq_true rfl, Nat.le_of_ble_eq_true rfl⟩) ⟨xb_blind xe_ok, va_recv hK hP (ci := 12) (q0 := 0) rfl rfl, xb_enter xe_ok hK hP hD hS hA hE [0] rfl rfl rfl [] rfl⟩ rfl rfl hl.1 rfl (lv_room (Nat.le_of_ble_eq_true rfl)) dX12_instruction_15 ⟨Nat.le_of_ble_eq_true rfl, Nat.le_of_ble_eq_true rfl⟩) hK hP hD hS hA [0] [] rfl rfl rfl (by decide) (fun r_15 u_15 H locs hw_15 hP hD hK hS => ?_)
    generalize u_15 = fs at hP hD hK hw_15
    have hP : va_P D vwCl [(m0, .inr (12, fs))] H := hP
    have hD : va_D A [(m0, .inr (12, fs))] := hD
    have hK : va_K D vwCl [] s := hK
    refine W.widen (k := 0) (n := 0) (by decide) (by decide) ?_
    obtain ⟨hw_15, hm⟩ := hw_15
    have hw_15 : r_15 = 0 := hw_15
    subst hw_15
    have hP9 := hP.sub (ws' := [(m0, .inr (12, fs))]) [0] rfl
    have hD9 := hD.sub (ws' := [(m0, .inr (12, fs))]) [0] rfl rfl
    have hK9 := hK.sub (tys' := []) [] rfl
    exact W.iret (v := 0) hx hb hr (fun t ht hW => ⟨⟨0, fs, rfl, Or.inr ⟨by first | exact Or.inl c_6 | exact Or.inr c_11, md_sub hm [0] rfl⟩, by rw [ht]; exact hP9, va_K.moved hW.alike hK9, hD9⟩, hS.F ht⟩) hS.2.2 dX12_instruction_18
  · skip
    refine lv_iload_n hx hb dX12_instruction_9 rfl (lv_at hl 3 rfl) ?_
    refine lv_iconst (v := 4) hx hb dX12_instruction_10 (by decide) ?_
    refine lv_icmp_le (tgt := 19) hx hb dX12_instruction_11 (by decide) (fun c_11 => ?_) (fun c_11 => ?_)
    · skip
      refine lv_aload_n hx hb dX12_instruction_19 rfl (lv_at hl 0 rfl) ?_
      refine lv_iload_n hx hb dX12_instruction_20 rfl (lv_at hl 1 rfl) ?_
      refine xb_goi (wr := []) (va_runV (As := [.int x0]) (rest := []) ⟨hx, hb, hml, hown, htb⟩ (mm_noCode l D g m0 fs x0 (Array.size H) (md_sub hm [1] rfl)) (bg_V 1 htb bg_239 bg_240 bg_241 bg_144 bg_237 rfl rfl (by decide +kernel) ⟨Nat.le_of_ble_eq_true rfl, Nat.le_of_ble_eq_true rfl⟩) ⟨xb_blind xe_ok, va_recv hK hP (ci := 12) (q0 := 0) rfl rfl, xb_enter xe_ok hK hP hD hS hA hE [0] rfl rfl rfl [] rfl⟩ rfl rfl hl.1 rfl (lv_room (Nat.le_of_ble_eq_true rfl)) dX12_instruction_21 ⟨Nat.le_of_ble_eq_true rfl, Nat.le_of_ble_eq_true rfl⟩) hK hP hD hS hA [0] [] rfl rfl rfl (by decide) (fun r_21 u_21 H locs hw_21 hP hD hK hS => ?_)
      have hP : va_P D vwCl [(m0, .inr (12, fs))] H := hP
      have hD : va_D A [(m0, .inr (12, fs))] := hD
      have hK : va_K D vwCl [] s := hK
      refine W.widen (k := 0) (n := 0) (by decide) (by decide) ?_
      have hw_21 : r_21 = 1 := hw_21
      subst hw_21
      refine lv_if_ne (tgt := 47) hx hb dX12_instruction_24 (by decide) (fun c_24 => ?_) (fun c_24 => ?_)
      rotate_left
      · exact absurd c_24 (by decide)
      refine lv_iconst (v := (-1)) hx hb dX12_instruction_47 (by decide) ?_
      have hP9 := hP.sub (ws' := [(m0, .inr (12, fs))]) [0] rfl
      have hD9 := hD.sub (ws' := [(m0, .inr (12, fs))]) [0] rfl rfl
      have hK9 := hK.sub (tys' := []) [] rfl
      exact W.iret (v := (-1)) hx hb hr (fun t ht hW => ⟨⟨(-1), fs, rfl, Or.inl ⟨c_6, c_11, rfl, md_sub hm [0] rfl⟩, by rw [ht]; exact hP9, va_K.moved hW.alike hK9, hD9⟩, hS.F ht⟩) hS.2.2 dX12_instruction_48
    · skip
      refine lv_aload_n hx hb dX12_instruction_14 rfl (lv_at hl 0 rfl) ?_
      refine xb_goi (wr := []) (va_runV (As := []) (rest := []) ⟨hx, hb, hml, hown, htb⟩ (mm_bad l D g m0 fs (Array.size H) (md_sub hm [] rfl)) (bg_V 0 htb bg_213 bg_214 bg_215 bg_144 bg_211 rfl rfl (by decide +kernel) ⟨Nat.le_of_ble_eq_true rfl, Nat.le_of_ble_eq_true rfl⟩) ⟨xb_blind xe_ok, va_recv hK hP (ci := 12) (q0 := 0) rfl rfl, xb_enter xe_ok hK hP hD hS hA hE [0] rfl rfl rfl [] rfl⟩ rfl rfl hl.1 rfl (lv_room (Nat.le_of_ble_eq_true rfl)) dX12_instruction_15 ⟨Nat.le_of_ble_eq_true rfl, Nat.le_of_ble_eq_true rfl⟩) hK hP hD hS hA [0] [] rfl rfl rfl (by decide) (fun r_15 u_15 H locs hw_15 hP hD hK hS => ?_)
      generalize u_15 = fs at hP hD hK hw_15
      have hP : va_P D vwCl [(m0, .inr (12, fs))] H := hP
      have hD : va_D A [(m0, .inr (12, fs))] := hD
      have hK : va_K D vwCl [] s := hK
      refine W.widen (k := 0) (n := 0) (by decide) (by decide) ?_
      obtain ⟨hw_15, hm⟩ := hw_15
      have hw_15 : r_15 = 0 := hw_15
      subst hw_15
      have hP9 := hP.sub (ws' := [(m0, .inr (12, fs))]) [0] rfl
      have hD9 := hD.sub (ws' := [(m0, .inr (12, fs))]) [0] rfl rfl
      have hK9 := hK.sub (tys' := []) [] rfl
      exact W.iret (v := 0) hx hb hr (fun t ht hW => ⟨⟨0, fs, rfl, Or.inr ⟨by first | exact Or.inl c_6 | exact Or.inr c_11, md_sub hm [0] rfl⟩, by rw [ht]; exact hP9, va_K.moved hW.alike hK9, hD9⟩, hS.F ht⟩) hS.2.2 dX12_instruction_18
theorem dX12_end_0 : decode cX12_end 0 = .ok (.aload_n 0, 1) := by decide +kernel
theorem dX12_end_1 : decode cX12_end 1 = .ok (.iconst 0, 1) := by decide +kernel
theorem dX12_end_2 : decode cX12_end 2 = .ok (.putfield 1, 3) := by decide +kernel
theorem dX12_end_5 : decode cX12_end 5 = .ok (.iload_n 1, 1) := by decide +kernel
theorem dX12_end_6 : decode cX12_end 6 = .ok (.ifCond .lt 11, 3) := by decide +kernel
theorem dX12_end_9 : decode cX12_end 9 = .ok (.iload_n 1, 1) := by decide +kernel
theorem dX12_end_10 : decode cX12_end 10 = .ok (.aload_n 0, 1) := by decide +kernel
theorem dX12_end_11 : decode cX12_end 11 = .ok (.getfield 433, 3) := by decide +kernel
theorem dX12_end_14 : decode cX12_end 14 = .ok (.if_icmp .le 8, 3) := by decide +kernel
theorem dX12_end_17 : decode cX12_end 17 = .ok (.aload_n 0, 1) := by decide +kernel
theorem dX12_end_18 : decode cX12_end 18 = .ok (.invokevirtual 440, 3) := by decide +kernel
theorem dX12_end_21 : decode cX12_end 21 = .ok (.ireturn, 1) := by decide +kernel
theorem dX12_end_22 : decode cX12_end 22 = .ok (.iconst 0, 1) := by decide +kernel
theorem dX12_end_23 : decode cX12_end 23 = .ok (.istore_n 2, 1) := by decide +kernel
theorem dX12_end_24 : decode cX12_end 24 = .ok (.iload_n 2, 1) := by decide +kernel
theorem dX12_end_25 : decode cX12_end 25 = .ok (.iload_n 1, 1) := by decide +kernel
theorem dX12_end_26 : decode cX12_end 26 = .ok (.if_icmp .ge 21, 3) := by decide +kernel
theorem dX12_end_47 : decode cX12_end 47 = .ok (.aload_n 0, 1) := by decide +kernel
theorem dX12_end_48 : decode cX12_end 48 = .ok (.iload_n 1, 1) := by decide +kernel
theorem dX12_end_49 : decode cX12_end 49 = .ok (.putfield 443, 3) := by decide +kernel
theorem dX12_end_52 : decode cX12_end 52 = .ok (.aload_n 0, 1) := by decide +kernel
theorem dX12_end_53 : decode cX12_end 53 = .ok (.iconst 0, 1) := by decide +kernel
theorem dX12_end_54 : decode cX12_end 54 = .ok (.putfield 433, 3) := by decide +kernel
theorem dX12_end_57 : decode cX12_end 57 = .ok (.iload_n 1, 1) := by decide +kernel
theorem dX12_end_58 : decode cX12_end 58 = .ok (.ireturn, 1) := by decide +kernel
set_option maxHeartbeats 4000000 in
set_option maxRecDepth 100000 in
theorem mm_end (l : Launch) (D : va_G) (g : xe_G) (m0 : Nat) (fs : List Value) (x0 : Int32) (sz : Nat) (hm : md_has fs [(19, .int 0)]) : Met l yX12_end (.code yX12_end cX12_end 3 (some .int) :: bg) ({ frames := 2, cells := 0, slots := 0, locals := 240 } : Room) (xb_Pre (xe_E g) D vwCl [(m0, .inr (12, fs))] [] sz [.ref m0, .int x0]) (va_Qi (fun r u => (¬ x0 < 0 ∧ x0 ≤ 0 ∧ r = 0 ∧ md_has u [(0, .int 0)]) ∨ ((x0 < 0 ∨ ¬ x0 ≤ 0) ∧ md_has u [(0, .int 1)])) (xb_B D vwCl (va_A [(m0, .inr (12, fs))] sz) (fun u : List Value => [(m0, .inr (12, u))]) (fun u : List Value => [])) (va_A [(m0, .inr (12, fs))] sz)) 0 0 (va_A [(m0, .inr (12, fs))] sz) := by
  refine Met.ofW (cc := cX12_end) (maxL := 3) (ret := (some .int)) (by decide) rfl ?_
  intro p e s m args below meth c s₁ B hml hv
  obtain ⟨rfl, hsz, hP, hK, hD0, hE⟩ := hv
  have hx := B.exec
  have hb := B.bytes
  have hr := B.returns
  have hts := atoms_spec (ws := (.code yX12_end cX12_end 3 (some .int) :: bg)) B.pre
  have htb : ∀ w ∈ bg, w.before _ s = true := fun w h => hts w (List.mem_cons_of_mem _ h)
  have hown : s.vm.findClass RX12 = some m.cls := findClass_of_methodNamed B.named
  have hlocks := B.notSynchronized
  subst hsz
  have hD := hD0.self (sz := s.heap.size)
  generalize hAe : va_A [(m0, .inr (12, fs))] s.heap.size = A at hD hE ⊢
  have hA : ∀ q : Nat, s.heap.size ≤ q → A q := fun q h => by rw [← hAe]; exact Or.inr h
  have hS : va_S A s.heap s.heap [] := va_S.rf
  have hP : va_P D vwCl [(m0, .inr (12, fs))] s.heap := hP
  have hl := lv_entry ([.ref m0, .int x0]) (n := 3) (Nat.le_of_ble_eq_true rfl)
  rw [lg_entry_eq]
  generalize (lg_sl ([.ref m0, .int x0]) ++ List.replicate (3 - (lg_sl ([.ref m0, .int x0])).length) Slot.unset).toArray = ls at hl ⊢
  have hl : lv_has ls 3 [(0, .ref m0), (1, .int x0)] := hl
  refine lv_aload_n hx hb dX12_end_0 rfl (lv_at hl 0 rfl) ?_
  refine lv_iconst (v := 0) hx hb dX12_end_1 (by decide) ?_
  refine va_put (D := D) (ci := 12) (v := .int 0) (ty := tyX12 0) (C := RX12) (T := TX12) (N := 82) hx hb htb bi_X12 tyX12 tyX12_ok nmX12 hown hK hP hD hS 0 rfl rfl 0 (by decide) (htb _ bg_88) (fun _ h9 => h9) rfl (tyX12_ok 0 (by decide)) rfl rfl (by rw [hm.1]; decide) dX12_end_2 (fun H locs hP hD hS => ?_)
  have hP : va_P D vwCl [(m0, .inr (12, (fs.set 0 (.int 0))))] H := hP
  have hD : va_D A [(m0, .inr (12, (fs.set 0 (.int 0))))] := hD
  have hm : md_has (fs.set 0 (.int 0)) [(0, .int 0), (19, .int 0)] := md_put hm 0 (.int 0) (by decide) rfl
  generalize (fs.set 0 (.int 0)) = fs at hP hD hm
  refine lv_iload_n hx hb dX12_end_5 rfl (lv_at hl 1 rfl) ?_
  refine lv_if_lt (tgt := 17) hx hb dX12_end_6 (by decide) (fun c_6 => ?_) (fun c_6 => ?_)
  · skip
    refine lv_aload_n hx hb dX12_end_17 rfl (lv_at hl 0 rfl) ?_
    refine xb_goi (wr := []) (va_runV (As := []) (rest := []) ⟨hx, hb, hml, hown, htb⟩ (mm_bad l D g m0 fs (Array.size H) (md_sub hm [] rfl)) (bg_V 0 htb bg_213 bg_214 bg_215 bg_144 bg_211 rfl rfl (by decide +kernel) ⟨Nat.le_of_ble_eq_true rfl, Nat.le_of_ble_eq_true rfl⟩) ⟨xb_blind xe_ok, va_recv hK hP (ci := 12) (q0 := 0) rfl rfl, xb_enter xe_ok hK hP hD hS hA hE [0] rfl rfl rfl [] rfl⟩ rfl rfl hl.1 rfl (lv_room (Nat.le_of_ble_eq_true rfl)) dX12_end_18 ⟨Nat.le_of_ble_eq_true rfl, Nat.le_of_ble_eq_true rfl⟩) hK hP hD hS hA [0] [] rfl rfl rfl (by decide) (fun r_18 u_18 H locs hw_18 hP hD hK hS => ?_)
    generalize u_18 = fs at hP hD hK hw_18
    have hP : va_P D vwCl [(m0, .inr (12, fs))] H := hP
    have hD : va_D A [(m0, .inr (12, fs))] := hD
    have hK : va_K D vwCl [] s := hK
    refine W.widen (k := 0) (n := 0) (by decide) (by decide) ?_
    obtain ⟨hw_18, hm⟩ := hw_18
    have hw_18 : r_18 = 0 := hw_18
    subst hw_18
    have hP9 := hP.sub (ws' := [(m0, .inr (12, fs))]) [0] rfl
    have hD9 := hD.sub (ws' := [(m0, .inr (12, fs))]) [0] rfl rfl
    have hK9 := hK.sub (tys' := []) [] rfl
    exact W.iret (v := 0) hx hb hr (fun t ht hW => ⟨⟨0, fs, rfl, Or.inr ⟨by first | exact Or.inl c_6 | exact Or.inr c_14, md_sub hm [0] rfl⟩, by rw [ht]; exact hP9, va_K.moved hW.alike hK9, hD9⟩, hS.F ht⟩) hS.2.2 dX12_end_21
  · skip
    refine lv_iload_n hx hb dX12_end_9 rfl (lv_at hl 1 rfl) ?_
    refine lv_aload_n hx hb dX12_end_10 rfl (lv_at hl 0 rfl) ?_
    refine va_get (D := D) (ci := 12) (v := .int 0) (C := RX12) (T := TX12) (N := 82) hx hb htb bi_X12 hown hK hP 0 rfl rfl 19 (by decide) (htb _ bg_206) (fun _ h9 => h9) (md_at hm 1 rfl) dX12_end_11 ?_
    refine lv_icmp_le (tgt := 22) hx hb dX12_end_14 (by decide) (fun c_14 => ?_) (fun c_14 => ?_)
    · skip
      have hx0 : x0 = 0 := Int32.le_antisymm c_14 (Int32.not_lt.mp c_6)
      subst hx0
      refine lv_iconst (v := 0) hx hb dX12_end_22 (by decide) ?_
      refine lv_istore_n (lv' := [(2, .int 0), (0, .ref m0), (1, .int 0)]) hx hb dX12_end_23 rfl hl (by decide) rfl (fun ls hl => ?_)
      refine lv_iload_n hx hb dX12_end_24 rfl (lv_at hl 0 rfl) ?_
      refine lv_iload_n hx hb dX12_end_25 rfl (lv_at hl 2 rfl) ?_
      refine lv_icmp_ge (tgt := 47) hx hb dX12_end_26 (by decide) (fun c_26 => ?_) (fun c_26 => ?_)
      rotate_left
      · exact absurd (by decide) c_26
      refine lv_aload_n hx hb dX12_end_47 rfl (lv_at hl 1 rfl) ?_
      refine lv_iload_n hx hb dX12_end_48 rfl (lv_at hl 2 rfl) ?_
      refine va_put (D := D) (ci := 12) (v := .int 0) (ty := tyX12 17) (C := RX12) (T := TX12) (N := 82) hx hb htb bi_X12 tyX12 tyX12_ok nmX12 hown hK hP hD hS 0 rfl rfl 17 (by decide) (htb _ bg_216) (fun _ h9 => h9) rfl (tyX12_ok 17 (by decide)) rfl rfl (by rw [hm.1]; decide) dX12_end_49 (fun H locs hP hD hS => ?_)
      have hP : va_P D vwCl [(m0, .inr (12, (fs.set 17 (.int 0))))] H := hP
      have hD : va_D A [(m0, .inr (12, (fs.set 17 (.int 0))))] := hD
      have hm : md_has (fs.set 17 (.int 0)) [(17, .int 0), (0, .int 0), (19, .int 0)] := md_put hm 17 (.int 0) (by decide) rfl
      generalize (fs.set 17 (.int 0)) = fs at hP hD hm
      refine lv_aload_n hx hb dX12_end_52 rfl (lv_at hl 1 rfl) ?_
      refine lv_iconst (v := 0) hx hb dX12_end_53 (by decide) ?_
      refine va_put (D := D) (ci := 12) (v := .int 0) (ty := tyX12 19) (C := RX12) (T := TX12) (N := 82) hx hb htb bi_X12 tyX12 tyX12_ok nmX12 hown hK hP hD hS 0 rfl rfl 19 (by decide) (htb _ bg_206) (fun _ h9 => h9) rfl (tyX12_ok 19 (by decide)) rfl rfl (by rw [hm.1]; decide) dX12_end_54 (fun H locs hP hD hS => ?_)
      have hP : va_P D vwCl [(m0, .inr (12, (fs.set 19 (.int 0))))] H := hP
      have hD : va_D A [(m0, .inr (12, (fs.set 19 (.int 0))))] := hD
      have hm : md_has (fs.set 19 (.int 0)) [(19, .int 0), (17, .int 0), (0, .int 0)] := md_put hm 19 (.int 0) (by decide) rfl
      generalize (fs.set 19 (.int 0)) = fs at hP hD hm
      refine lv_iload_n hx hb dX12_end_57 rfl (lv_at hl 2 rfl) ?_
      have hP9 := hP.sub (ws' := [(m0, .inr (12, fs))]) [0] rfl
      have hD9 := hD.sub (ws' := [(m0, .inr (12, fs))]) [0] rfl rfl
      have hK9 := hK.sub (tys' := []) [] rfl
      exact W.iret (v := 0) hx hb hr (fun t ht hW => ⟨⟨0, fs, rfl, Or.inl ⟨c_6, c_14, rfl, md_sub hm [2] rfl⟩, by rw [ht]; exact hP9, va_K.moved hW.alike hK9, hD9⟩, hS.F ht⟩) hS.2.2 dX12_end_58
    · skip
      refine lv_aload_n hx hb dX12_end_17 rfl (lv_at hl 0 rfl) ?_
      refine xb_goi (wr := []) (va_runV (As := []) (rest := []) ⟨hx, hb, hml, hown, htb⟩ (mm_bad l D g m0 fs (Array.size H) (md_sub hm [] rfl)) (bg_V 0 htb bg_213 bg_214 bg_215 bg_144 bg_211 rfl rfl (by decide +kernel) ⟨Nat.le_of_ble_eq_true rfl, Nat.le_of_ble_eq_true rfl⟩) ⟨xb_blind xe_ok, va_recv hK hP (ci := 12) (q0 := 0) rfl rfl, xb_enter xe_ok hK hP hD hS hA hE [0] rfl rfl rfl [] rfl⟩ rfl rfl hl.1 rfl (lv_room (Nat.le_of_ble_eq_true rfl)) dX12_end_18 ⟨Nat.le_of_ble_eq_true rfl, Nat.le_of_ble_eq_true rfl⟩) hK hP hD hS hA [0] [] rfl rfl rfl (by decide) (fun r_18 u_18 H locs hw_18 hP hD hK hS => ?_)
      generalize u_18 = fs at hP hD hK hw_18
      have hP : va_P D vwCl [(m0, .inr (12, fs))] H := hP
      have hD : va_D A [(m0, .inr (12, fs))] := hD
      have hK : va_K D vwCl [] s := hK
      refine W.widen (k := 0) (n := 0) (by decide) (by decide) ?_
      obtain ⟨hw_18, hm⟩ := hw_18
      have hw_18 : r_18 = 0 := hw_18
      subst hw_18
      have hP9 := hP.sub (ws' := [(m0, .inr (12, fs))]) [0] rfl
      have hD9 := hD.sub (ws' := [(m0, .inr (12, fs))]) [0] rfl rfl
      have hK9 := hK.sub (tys' := []) [] rfl
      exact W.iret (v := 0) hx hb hr (fun t ht hW => ⟨⟨0, fs, rfl, Or.inr ⟨by first | exact Or.inl c_6 | exact Or.inr c_14, md_sub hm [0] rfl⟩, by rw [ht]; exact hP9, va_K.moved hW.alike hK9, hD9⟩, hS.F ht⟩) hS.2.2 dX12_end_21
theorem dX12_four_0 : decode cX12_four 0 = .ok (.bipush 24, 2) := by decide +kernel
theorem dX12_four_2 : decode cX12_four 2 = .ok (.istore_n 2, 1) := by decide +kernel
theorem dX12_four_3 : decode cX12_four 3 = .ok (.iload_n 2, 1) := by decide +kernel
theorem dX12_four_4 : decode cX12_four 4 = .ok (.ifCond .lt 29, 3) := by decide +kernel
theorem dX12_four_7 : decode cX12_four 7 = .ok (.aload_n 0, 1) := by decide +kernel
theorem dX12_four_8 : decode cX12_four 8 = .ok (.getfield 46, 3) := by decide +kernel
theorem dX12_four_11 : decode cX12_four 11 = .ok (.aload_n 0, 1) := by decide +kernel
theorem dX12_four_12 : decode cX12_four 12 = .ok (.dup, 1) := by decide +kernel
theorem dX12_four_13 : decode cX12_four 13 = .ok (.getfield 433, 3) := by decide +kernel
theorem dX12_four_16 : decode cX12_four 16 = .ok (.dup_x1, 1) := by decide +kernel
theorem dX12_four_17 : decode cX12_four 17 = .ok (.iconst 1, 1) := by decide +kernel
theorem dX12_four_18 : decode cX12_four 18 = .ok (.iadd, 1) := by decide +kernel
theorem dX12_four_19 : decode cX12_four 19 = .ok (.putfield 433, 3) := by decide +kernel
theorem dX12_four_22 : decode cX12_four 22 = .ok (.iload_n 1, 1) := by decide +kernel
theorem dX12_four_23 : decode cX12_four 23 = .ok (.iload_n 2, 1) := by decide +kernel
theorem dX12_four_24 : decode cX12_four 24 = .ok (.iushr, 1) := by decide +kernel
theorem dX12_four_25 : decode cX12_four 25 = .ok (.i2b, 1) := by decide +kernel
theorem dX12_four_26 : decode cX12_four 26 = .ok (.bastore, 1) := by decide +kernel
theorem dX12_four_27 : decode cX12_four 27 = .ok (.iinc 2 (-8), 3) := by decide +kernel
theorem dX12_four_30 : decode cX12_four 30 = .ok (.goto (-27), 3) := by decide +kernel
theorem dX12_four_33 : decode cX12_four 33 = .ok (.return_, 1) := by decide +kernel
set_option maxHeartbeats 4000000 in
set_option maxRecDepth 100000 in
theorem mm_four (l : Launch) (D : va_G) (g : xe_G) (m0 : Nat) (fs : List Value) (t : Int32) (qm : Nat) (aM : ClassId) (f : Nat → Int32) (n : Int32) (v : Int32) (sz : Nat) (hm : md_has fs [(0, .int t), (15, .ref qm), (19, .int n)]) (i0 : vp_in n 65560) (i1 : vp_in (n + 1) 65560) (i2 : vp_in ((n + 1) + 1) 65560) (i3 : vp_in (((n + 1) + 1) + 1) 65560) : Met l yX12_four (.code yX12_four cX12_four 3 none :: bg) ({ frames := 1, cells := 0, slots := 0, locals := 120 } : Room) (xb_Pre (xe_E g) D vwCl [(m0, .inr (12, fs)), (qm, .inl (aM, 65560, .inl f))] [(aM, .byte)] sz [.ref m0, .int v]) (va_Qv (fun u => md_has u.1 [(0, .int t), (15, .ref qm), (19, .int ((((n + 1) + 1) + 1) + 1))]) (xb_B D vwCl (va_A [(m0, .inr (12, fs)), (qm, .inl (aM, 65560, .inl f))] sz) (fun u : List Value × (Nat → Int32) => [(m0, .inr (12, u.1)), (qm, .inl (aM, 65560, .inl u.2))]) (fun u : List Value × (Nat → Int32) => [(aM, .byte)])) (va_A [(m0, .inr (12, fs)), (qm, .inl (aM, 65560, .inl f))] sz)) 0 0 (va_A [(m0, .inr (12, fs)), (qm, .inl (aM, 65560, .inl f))] sz) := by
  refine Met.ofW (cc := cX12_four) (maxL := 3) (ret := none) (by decide) rfl ?_
  intro p e s m args below meth c s₁ B hml hv
  obtain ⟨rfl, hsz, hP, hK, hD0, hE⟩ := hv
  have hx := B.exec
  have hb := B.bytes
  have hr := B.returns
  have hts := atoms_spec (ws := (.code yX12_four cX12_four 3 none :: bg)) B.pre
  have htb : ∀ w ∈ bg, w.before _ s = true := fun w h => hts w (List.mem_cons_of_mem _ h)
  have hown : s.vm.findClass RX12 = some m.cls := findClass_of_methodNamed B.named
  have hlocks := B.notSynchronized
  subst hsz
  have hD := hD0.self (sz := s.heap.size)
  generalize hAe : va_A [(m0, .inr (12, fs)), (qm, .inl (aM, 65560, .inl f))] s.heap.size = A at hD hE ⊢
  have hA : ∀ q : Nat, s.heap.size ≤ q → A q := fun q h => by rw [← hAe]; exact Or.inr h
  have hS : va_S A s.heap s.heap [] := va_S.rf
  have hP : va_P D vwCl [(m0, .inr (12, fs)), (qm, .inl (aM, 65560, .inl f))] s.heap := hP
  have hl := lv_entry ([.ref m0, .int v]) (n := 3) (Nat.le_of_ble_eq_true rfl)
  rw [lg_entry_eq]
  generalize (lg_sl ([.ref m0, .int v]) ++ List.replicate (3 - (lg_sl ([.ref m0, .int v])).length) Slot.unset).toArray = ls at hl ⊢
  have hl : lv_has ls 3 [(0, .ref m0), (1, .int v)] := hl
  refine lv_bipush (v := 24) hx hb dX12_four_0 (by decide) ?_
  refine lv_istore_n (lv' := [(2, .int 24), (0, .ref m0), (1, .int v)]) hx hb dX12_four_2 rfl hl (by decide) rfl (fun ls hl => ?_)
  refine lv_iload_n hx hb dX12_four_3 rfl (lv_at hl 0 rfl) ?_
  refine lv_if_lt (tgt := 33) hx hb dX12_four_4 (by decide) (fun c_4 => ?_) (fun c_4 => ?_)
  · exact absurd c_4 (by decide)
  refine lv_aload_n hx hb dX12_four_7 rfl (lv_at hl 1 rfl) ?_
  refine va_get (D := D) (ci := 12) (v := .ref qm) (C := RX12) (T := TX12) (N := 82) hx hb htb bi_X12 hown hK hP 0 rfl rfl 15 (by decide) (htb _ bg_105) (fun _ h9 => h9) (md_at hm 1 rfl) dX12_four_8 ?_
  refine lv_aload_n hx hb dX12_four_11 rfl (lv_at hl 1 rfl) ?_
  refine lv_dup hx hb dX12_four_12 rfl ?_
  refine va_get (D := D) (ci := 12) (v := .int n) (C := RX12) (T := TX12) (N := 82) hx hb htb bi_X12 hown hK hP 0 rfl rfl 19 (by decide) (htb _ bg_206) (fun _ h9 => h9) (md_at hm 2 rfl) dX12_four_13 ?_
  refine lv_dup_x1 hx hb dX12_four_16 rfl rfl ?_
  refine lv_iconst (v := 1) hx hb dX12_four_17 (by decide) ?_
  refine lv_iadd hx hb dX12_four_18 ?_
  refine va_put (D := D) (ci := 12) (v := .int (n + 1)) (ty := tyX12 19) (C := RX12) (T := TX12) (N := 82) hx hb htb bi_X12 tyX12 tyX12_ok nmX12 hown hK hP hD hS 0 rfl rfl 19 (by decide) (htb _ bg_206) (fun _ h9 => h9) rfl (tyX12_ok 19 (by decide)) rfl rfl (by rw [hm.1]; decide) dX12_four_19 (fun H locs hP hD hS => ?_)
  have hP : va_P D vwCl [(m0, .inr (12, (fs.set 19 (.int (n + 1))))), (qm, .inl (aM, 65560, .inl f))] H := hP
  have hD : va_D A [(m0, .inr (12, (fs.set 19 (.int (n + 1))))), (qm, .inl (aM, 65560, .inl f))] := hD
  have hm : md_has (fs.set 19 (.int (n + 1))) [(19, .int (n + 1)), (0, .int t), (15, .ref qm)] := md_put hm 19 (.int (n + 1)) (by decide) rfl
  generalize (fs.set 19 (.int (n + 1))) = fs at hP hD hm
  refine lv_iload_n hx hb dX12_four_22 rfl (lv_at hl 2 rfl) ?_
  refine lv_iload_n hx hb dX12_four_23 rfl (lv_at hl 0 rfl) ?_
  refine lv_iushr hx hb dX12_four_24 rfl ?_
  refine lv_topi (fun x24_u ex24_u => ?_)
  refine lv_i2b hx hb dX12_four_25 rfl ?_
  refine lv_topi (fun x25_c ex25_c => ?_)
  refine va_bast hx hb hK hP hD hS 1 0 rfl rfl (i0) dX12_four_26 (fun H locs hP hD hS => ?_)
  have hP : va_P D vwCl [(m0, .inr (12, fs)), (qm, .inl (aM, 65560, .inl (upd f (Int32.toNatClampNeg n) (vp_nar .byte x25_c))))] H := hP
  have hD : va_D A [(m0, .inr (12, fs)), (qm, .inl (aM, 65560, .inl (upd f (Int32.toNatClampNeg n) (vp_nar .byte x25_c))))] := hD
  generalize (upd f (Int32.toNatClampNeg n) (vp_nar .byte x25_c)) = f at hP hD
  refine lv_iinc (v := 16) (lv' := [(2, .int 16), (0, .ref m0), (1, .int v)]) hx hb dX12_four_27 hl (k := 0) rfl (by decide) (by decide) rfl (fun ls hl => ?_)
  refine lv_goto (tgt := 3) hx hb dX12_four_30 (by decide) ?_
  refine lv_iload_n hx hb dX12_four_3 rfl (lv_at hl 0 rfl) ?_
  refine lv_if_lt (tgt := 33) hx hb dX12_four_4 (by decide) (fun c_4 => ?_) (fun c_4 => ?_)
  · exact absurd c_4 (by decide)
  refine lv_aload_n hx hb dX12_four_7 rfl (lv_at hl 1 rfl) ?_
  refine va_get (D := D) (ci := 12) (v := .ref qm) (C := RX12) (T := TX12) (N := 82) hx hb htb bi_X12 hown hK hP 0 rfl rfl 15 (by decide) (htb _ bg_105) (fun _ h9 => h9) (md_at hm 2 rfl) dX12_four_8 ?_
  refine lv_aload_n hx hb dX12_four_11 rfl (lv_at hl 1 rfl) ?_
  refine lv_dup hx hb dX12_four_12 rfl ?_
  refine va_get (D := D) (ci := 12) (v := .int (n + 1)) (C := RX12) (T := TX12) (N := 82) hx hb htb bi_X12 hown hK hP 0 rfl rfl 19 (by decide) (htb _ bg_206) (fun _ h9 => h9) (md_at hm 0 rfl) dX12_four_13 ?_
  refine lv_dup_x1 hx hb dX12_four_16 rfl rfl ?_
  refine lv_iconst (v := 1) hx hb dX12_four_17 (by decide) ?_
  refine lv_iadd hx hb dX12_four_18 ?_
  refine va_put (D := D) (ci := 12) (v := .int ((n + 1) + 1)) (ty := tyX12 19) (C := RX12) (T := TX12) (N := 82) hx hb htb bi_X12 tyX12 tyX12_ok nmX12 hown hK hP hD hS 0 rfl rfl 19 (by decide) (htb _ bg_206) (fun _ h9 => h9) rfl (tyX12_ok 19 (by decide)) rfl rfl (by rw [hm.1]; decide) dX12_four_19 (fun H locs hP hD hS => ?_)
  have hP : va_P D vwCl [(m0, .inr (12, (fs.set 19 (.int ((n + 1) + 1))))), (qm, .inl (aM, 65560, .inl f))] H := hP
  have hD : va_D A [(m0, .inr (12, (fs.set 19 (.int ((n + 1) + 1))))), (qm, .inl (aM, 65560, .inl f))] := hD
  have hm : md_has (fs.set 19 (.int ((n + 1) + 1))) [(19, .int ((n + 1) + 1)), (0, .int t), (15, .ref qm)] := md_put hm 19 (.int ((n + 1) + 1)) (by decide) rfl
  generalize (fs.set 19 (.int ((n + 1) + 1))) = fs at hP hD hm
  refine lv_iload_n hx hb dX12_four_22 rfl (lv_at hl 2 rfl) ?_
  refine lv_iload_n hx hb dX12_four_23 rfl (lv_at hl 0 rfl) ?_
  refine lv_iushr hx hb dX12_four_24 rfl ?_
  refine lv_topi (fun x24_u ex24_u => ?_)
  refine lv_i2b hx hb dX12_four_25 rfl ?_
  refine lv_topi (fun x25_c ex25_c => ?_)
  refine va_bast hx hb hK hP hD hS 1 0 rfl rfl (i1) dX12_four_26 (fun H locs hP hD hS => ?_)
  have hP : va_P D vwCl [(m0, .inr (12, fs)), (qm, .inl (aM, 65560, .inl (upd f (Int32.toNatClampNeg (n + 1)) (vp_nar .byte x25_c))))] H := hP
  have hD : va_D A [(m0, .inr (12, fs)), (qm, .inl (aM, 65560, .inl (upd f (Int32.toNatClampNeg (n + 1)) (vp_nar .byte x25_c))))] := hD
  generalize (upd f (Int32.toNatClampNeg (n + 1)) (vp_nar .byte x25_c)) = f at hP hD
  refine lv_iinc (v := 8) (lv' := [(2, .int 8), (0, .ref m0), (1, .int v)]) hx hb dX12_four_27 hl (k := 0) rfl (by decide) (by decide) rfl (fun ls hl => ?_)
  refine lv_goto (tgt := 3) hx hb dX12_four_30 (by decide) ?_
  refine lv_iload_n hx hb dX12_four_3 rfl (lv_at hl 0 rfl) ?_
  refine lv_if_lt (tgt := 33) hx hb dX12_four_4 (by decide) (fun c_4 => ?_) (fun c_4 => ?_)
  · exact absurd c_4 (by decide)
  refine lv_aload_n hx hb dX12_four_7 rfl (lv_at hl 1 rfl) ?_
  refine va_get (D := D) (ci := 12) (v := .ref qm) (C := RX12) (T := TX12) (N := 82) hx hb htb bi_X12 hown hK hP 0 rfl rfl 15 (by decide) (htb _ bg_105) (fun _ h9 => h9) (md_at hm 2 rfl) dX12_four_8 ?_
  refine lv_aload_n hx hb dX12_four_11 rfl (lv_at hl 1 rfl) ?_
  refine lv_dup hx hb dX12_four_12 rfl ?_
  refine va_get (D := D) (ci := 12) (v := .int ((n + 1) + 1)) (C := RX12) (T := TX12) (N := 82) hx hb htb bi_X12 hown hK hP 0 rfl rfl 19 (by decide) (htb _ bg_206) (fun _ h9 => h9) (md_at hm 0 rfl) dX12_four_13 ?_
  refine lv_dup_x1 hx hb dX12_four_16 rfl rfl ?_
  refine lv_iconst (v := 1) hx hb dX12_four_17 (by decide) ?_
  refine lv_iadd hx hb dX12_four_18 ?_
  refine va_put (D := D) (ci := 12) (v := .int (((n + 1) + 1) + 1)) (ty := tyX12 19) (C := RX12) (T := TX12) (N := 82) hx hb htb bi_X12 tyX12 tyX12_ok nmX12 hown hK hP hD hS 0 rfl rfl 19 (by decide) (htb _ bg_206) (fun _ h9 => h9) rfl (tyX12_ok 19 (by decide)) rfl rfl (by rw [hm.1]; decide) dX12_four_19 (fun H locs hP hD hS => ?_)
  have hP : va_P D vwCl [(m0, .inr (12, (fs.set 19 (.int (((n + 1) + 1) + 1))))), (qm, .inl (aM, 65560, .inl f))] H := hP
  have hD : va_D A [(m0, .inr (12, (fs.set 19 (.int (((n + 1) + 1) + 1))))), (qm, .inl (aM, 65560, .inl f))] := hD
  have hm : md_has (fs.set 19 (.int (((n + 1) + 1) + 1))) [(19, .int (((n + 1) + 1) + 1)), (0, .int t), (15, .ref qm)] := md_put hm 19 (.int (((n + 1) + 1) + 1)) (by decide) rfl
  generalize (fs.set 19 (.int (((n + 1) + 1) + 1))) = fs at hP hD hm
  refine lv_iload_n hx hb dX12_four_22 rfl (lv_at hl 2 rfl) ?_
  refine lv_iload_n hx hb dX12_four_23 rfl (lv_at hl 0 rfl) ?_
  refine lv_iushr hx hb dX12_four_24 rfl ?_
  refine lv_topi (fun x24_u ex24_u => ?_)
  refine lv_i2b hx hb dX12_four_25 rfl ?_
  refine lv_topi (fun x25_c ex25_c => ?_)
  refine va_bast hx hb hK hP hD hS 1 0 rfl rfl (i2) dX12_four_26 (fun H locs hP hD hS => ?_)
  have hP : va_P D vwCl [(m0, .inr (12, fs)), (qm, .inl (aM, 65560, .inl (upd f (Int32.toNatClampNeg ((n + 1) + 1)) (vp_nar .byte x25_c))))] H := hP
  have hD : va_D A [(m0, .inr (12, fs)), (qm, .inl (aM, 65560, .inl (upd f (Int32.toNatClampNeg ((n + 1) + 1)) (vp_nar .byte x25_c))))] := hD
  generalize (upd f (Int32.toNatClampNeg ((n + 1) + 1)) (vp_nar .byte x25_c)) = f at hP hD
  refine lv_iinc (v := 0) (lv' := [(2, .int 0), (0, .ref m0), (1, .int v)]) hx hb dX12_four_27 hl (k := 0) rfl (by decide) (by decide) rfl (fun ls hl => ?_)
  refine lv_goto (tgt := 3) hx hb dX12_four_30 (by decide) ?_
  refine lv_iload_n hx hb dX12_four_3 rfl (lv_at hl 0 rfl) ?_
  refine lv_if_lt (tgt := 33) hx hb dX12_four_4 (by decide) (fun c_4 => ?_) (fun c_4 => ?_)
  · exact absurd c_4 (by decide)
  refine lv_aload_n hx hb dX12_four_7 rfl (lv_at hl 1 rfl) ?_
  refine va_get (D := D) (ci := 12) (v := .ref qm) (C := RX12) (T := TX12) (N := 82) hx hb htb bi_X12 hown hK hP 0 rfl rfl 15 (by decide) (htb _ bg_105) (fun _ h9 => h9) (md_at hm 2 rfl) dX12_four_8 ?_
  refine lv_aload_n hx hb dX12_four_11 rfl (lv_at hl 1 rfl) ?_
  refine lv_dup hx hb dX12_four_12 rfl ?_
  refine va_get (D := D) (ci := 12) (v := .int (((n + 1) + 1) + 1)) (C := RX12) (T := TX12) (N := 82) hx hb htb bi_X12 hown hK hP 0 rfl rfl 19 (by decide) (htb _ bg_206) (fun _ h9 => h9) (md_at hm 0 rfl) dX12_four_13 ?_
  refine lv_dup_x1 hx hb dX12_four_16 rfl rfl ?_
  refine lv_iconst (v := 1) hx hb dX12_four_17 (by decide) ?_
  refine lv_iadd hx hb dX12_four_18 ?_
  refine va_put (D := D) (ci := 12) (v := .int ((((n + 1) + 1) + 1) + 1)) (ty := tyX12 19) (C := RX12) (T := TX12) (N := 82) hx hb htb bi_X12 tyX12 tyX12_ok nmX12 hown hK hP hD hS 0 rfl rfl 19 (by decide) (htb _ bg_206) (fun _ h9 => h9) rfl (tyX12_ok 19 (by decide)) rfl rfl (by rw [hm.1]; decide) dX12_four_19 (fun H locs hP hD hS => ?_)
  have hP : va_P D vwCl [(m0, .inr (12, (fs.set 19 (.int ((((n + 1) + 1) + 1) + 1))))), (qm, .inl (aM, 65560, .inl f))] H := hP
  have hD : va_D A [(m0, .inr (12, (fs.set 19 (.int ((((n + 1) + 1) + 1) + 1))))), (qm, .inl (aM, 65560, .inl f))] := hD
  have hm : md_has (fs.set 19 (.int ((((n + 1) + 1) + 1) + 1))) [(19, .int ((((n + 1) + 1) + 1) + 1)), (0, .int t), (15, .ref qm)] := md_put hm 19 (.int ((((n + 1) + 1) + 1) + 1)) (by decide) rfl
  generalize (fs.set 19 (.int ((((n + 1) + 1) + 1) + 1))) = fs at hP hD hm
  refine lv_iload_n hx hb dX12_four_22 rfl (lv_at hl 2 rfl) ?_
  refine lv_iload_n hx hb dX12_four_23 rfl (lv_at hl 0 rfl) ?_
  refine lv_iushr hx hb dX12_four_24 rfl ?_
  refine lv_topi (fun x24_u ex24_u => ?_)
  refine lv_i2b hx hb dX12_four_25 rfl ?_
  refine lv_topi (fun x25_c ex25_c => ?_)
  refine va_bast hx hb hK hP hD hS 1 0 rfl rfl (i3) dX12_four_26 (fun H locs hP hD hS => ?_)
  have hP : va_P D vwCl [(m0, .inr (12, fs)), (qm, .inl (aM, 65560, .inl (upd f (Int32.toNatClampNeg (((n + 1) + 1) + 1)) (vp_nar .byte x25_c))))] H := hP
  have hD : va_D A [(m0, .inr (12, fs)), (qm, .inl (aM, 65560, .inl (upd f (Int32.toNatClampNeg (((n + 1) + 1) + 1)) (vp_nar .byte x25_c))))] := hD
  generalize (upd f (Int32.toNatClampNeg (((n + 1) + 1) + 1)) (vp_nar .byte x25_c)) = f at hP hD
  refine lv_iinc (v := (-8)) (lv' := [(2, .int (-8)), (0, .ref m0), (1, .int v)]) hx hb dX12_four_27 hl (k := 0) rfl (by decide) (by decide) rfl (fun ls hl => ?_)
  refine lv_goto (tgt := 3) hx hb dX12_four_30 (by decide) ?_
  refine lv_iload_n hx hb dX12_four_3 rfl (lv_at hl 0 rfl) ?_
  refine lv_if_lt (tgt := 33) hx hb dX12_four_4 (by decide) (fun c_4 => ?_) (fun c_4 => ?_)
  rotate_left
  · exact absurd (by decide) c_4
  have hP9 := hP.sub (ws' := [(m0, .inr (12, fs)), (qm, .inl (aM, 65560, .inl f))]) [0, 1] rfl
  have hD9 := hD.sub (ws' := [(m0, .inr (12, fs)), (qm, .inl (aM, 65560, .inl f))]) [0, 1] rfl rfl
  have hK9 := hK.sub (tys' := [(aM, .byte)]) [0] rfl
  exact W.vret hx hb hr (fun t ht hW => ⟨⟨(fs, f), rfl, md_sub hm [1, 2, 0] rfl, by rw [ht]; exact hP9, va_K.moved hW.alike hK9, hD9⟩, hS.F ht⟩) hS.2.2 dX12_four_33
theorem dX12_feed_0 : decode cX12_feed 0 = .ok (.aload_n 0, 1) := by decide +kernel
theorem dX12_feed_1 : decode cX12_feed 1 = .ok (.iconst 0, 1) := by decide +kernel
theorem dX12_feed_2 : decode cX12_feed 2 = .ok (.putfield 1, 3) := by decide +kernel
theorem dX12_feed_5 : decode cX12_feed 5 = .ok (.aload_n 0, 1) := by decide +kernel
theorem dX12_feed_6 : decode cX12_feed 6 = .ok (.getfield 433, 3) := by decide +kernel
theorem dX12_feed_9 : decode cX12_feed 9 = .ok (.bipush 20, 2) := by decide +kernel
theorem dX12_feed_11 : decode cX12_feed 11 = .ok (.iadd, 1) := by decide +kernel
theorem dX12_feed_12 : decode cX12_feed 12 = .ok (.ldc 52, 2) := by decide +kernel
theorem dX12_feed_14 : decode cX12_feed 14 = .ok (.if_icmp .le 10, 3) := by decide +kernel
theorem dX12_feed_24 : decode cX12_feed 24 = .ok (.aload_n 0, 1) := by decide +kernel
theorem dX12_feed_25 : decode cX12_feed 25 = .ok (.iload_n 1, 1) := by decide +kernel
theorem dX12_feed_26 : decode cX12_feed 26 = .ok (.invokevirtual 436, 3) := by decide +kernel
theorem dX12_feed_29 : decode cX12_feed 29 = .ok (.aload_n 0, 1) := by decide +kernel
theorem dX12_feed_30 : decode cX12_feed 30 = .ok (.iload_n 2, 1) := by decide +kernel
theorem dX12_feed_31 : decode cX12_feed 31 = .ok (.invokevirtual 436, 3) := by decide +kernel
theorem dX12_feed_34 : decode cX12_feed 34 = .ok (.aload_n 0, 1) := by decide +kernel
theorem dX12_feed_35 : decode cX12_feed 35 = .ok (.iload_n 3, 1) := by decide +kernel
theorem dX12_feed_36 : decode cX12_feed 36 = .ok (.invokevirtual 436, 3) := by decide +kernel
theorem dX12_feed_39 : decode cX12_feed 39 = .ok (.aload_n 0, 1) := by decide +kernel
theorem dX12_feed_40 : decode cX12_feed 40 = .ok (.iload 4, 2) := by decide +kernel
theorem dX12_feed_42 : decode cX12_feed 42 = .ok (.invokevirtual 436, 3) := by decide +kernel
theorem dX12_feed_45 : decode cX12_feed 45 = .ok (.aload_n 0, 1) := by decide +kernel
theorem dX12_feed_46 : decode cX12_feed 46 = .ok (.iload 5, 2) := by decide +kernel
theorem dX12_feed_48 : decode cX12_feed 48 = .ok (.invokevirtual 436, 3) := by decide +kernel
theorem dX12_feed_51 : decode cX12_feed 51 = .ok (.aload_n 0, 1) := by decide +kernel
theorem dX12_feed_52 : decode cX12_feed 52 = .ok (.getfield 433, 3) := by decide +kernel
theorem dX12_feed_55 : decode cX12_feed 55 = .ok (.ireturn, 1) := by decide +kernel
set_option maxHeartbeats 4000000 in
set_option maxRecDepth 100000 in
theorem mm_feed (l : Launch) (D : va_G) (g : xe_G) (m0 : Nat) (fs : List Value) (qm : Nat) (aM : ClassId) (f : Nat → Int32) (x0 : Int32) (x1 : Int32) (x2 : Int32) (x3 : Int32) (x4 : Int32) (sz : Nat) (hm : md_has fs [(15, .ref qm), (19, .int 0)]) : Met l yX12_feed (.code yX12_feed cX12_feed 6 (some .int) :: bg) ({ frames := 2, cells := 0, slots := 0, locals := 240 } : Room) (xb_Pre (xe_E g) D vwCl [(m0, .inr (12, fs)), (qm, .inl (aM, 65560, .inl f))] [(aM, .byte)] sz [.ref m0, .int x0, .int x1, .int x2, .int x3, .int x4]) (va_Qi (fun r u => r = 20 ∧ md_has u.1 [(0, .int 0)]) (xb_B D vwCl (va_A [(m0, .inr (12, fs)), (qm, .inl (aM, 65560, .inl f))] sz) (fun u : List Value × (Nat → Int32) => [(m0, .inr (12, u.1)), (qm, .inl (aM, 65560, .inl u.2))]) (fun u : List Value × (Nat → Int32) => [(aM, .byte)])) (va_A [(m0, .inr (12, fs)), (qm, .inl (aM, 65560, .inl f))] sz)) 0 0 (va_A [(m0, .inr (12, fs)), (qm, .inl (aM, 65560, .inl f))] sz) := by
  refine Met.ofW (cc := cX12_feed) (maxL := 6) (ret := (some .int)) (by decide) rfl ?_
  intro p e s m args below meth c s₁ B hml hv
  obtain ⟨rfl, hsz, hP, hK, hD0, hE⟩ := hv
  have hx := B.exec
  have hb := B.bytes
  have hr := B.returns
  have hts := atoms_spec (ws := (.code yX12_feed cX12_feed 6 (some .int) :: bg)) B.pre
  have htb : ∀ w ∈ bg, w.before _ s = true := fun w h => hts w (List.mem_cons_of_mem _ h)
  have hown : s.vm.findClass RX12 = some m.cls := findClass_of_methodNamed B.named
  have hlocks := B.notSynchronized
  subst hsz
  have hD := hD0.self (sz := s.heap.size)
  generalize hAe : va_A [(m0, .inr (12, fs)), (qm, .inl (aM, 65560, .inl f))] s.heap.size = A at hD hE ⊢
  have hA : ∀ q : Nat, s.heap.size ≤ q → A q := fun q h => by rw [← hAe]; exact Or.inr h
  have hS : va_S A s.heap s.heap [] := va_S.rf
  have hP : va_P D vwCl [(m0, .inr (12, fs)), (qm, .inl (aM, 65560, .inl f))] s.heap := hP
  have hl := lv_entry ([.ref m0, .int x0, .int x1, .int x2, .int x3, .int x4]) (n := 6) (Nat.le_of_ble_eq_true rfl)
  rw [lg_entry_eq]
  generalize (lg_sl ([.ref m0, .int x0, .int x1, .int x2, .int x3, .int x4]) ++ List.replicate (6 - (lg_sl ([.ref m0, .int x0, .int x1, .int x2, .int x3, .int x4])).length) Slot.unset).toArray = ls at hl ⊢
  have hl : lv_has ls 6 [(0, .ref m0), (1, .int x0), (2, .int x1), (3, .int x2), (4, .int x3), (5, .int x4)] := hl
  refine lv_aload_n hx hb dX12_feed_0 rfl (lv_at hl 0 rfl) ?_
  refine lv_iconst (v := 0) hx hb dX12_feed_1 (by decide) ?_
  refine va_put (D := D) (ci := 12) (v := .int 0) (ty := tyX12 0) (C := RX12) (T := TX12) (N := 82) hx hb htb bi_X12 tyX12 tyX12_ok nmX12 hown hK hP hD hS 0 rfl rfl 0 (by decide) (htb _ bg_88) (fun _ h9 => h9) rfl (tyX12_ok 0 (by decide)) rfl rfl (by rw [hm.1]; decide) dX12_feed_2 (fun H locs hP hD hS => ?_)
  have hP : va_P D vwCl [(m0, .inr (12, (fs.set 0 (.int 0)))), (qm, .inl (aM, 65560, .inl f))] H := hP
  have hD : va_D A [(m0, .inr (12, (fs.set 0 (.int 0)))), (qm, .inl (aM, 65560, .inl f))] := hD
  have hm : md_has (fs.set 0 (.int 0)) [(0, .int 0), (15, .ref qm), (19, .int 0)] := md_put hm 0 (.int 0) (by decide) rfl
  generalize (fs.set 0 (.int 0)) = fs at hP hD hm
  refine lv_aload_n hx hb dX12_feed_5 rfl (lv_at hl 0 rfl) ?_
  refine va_get (D := D) (ci := 12) (v := .int 0) (C := RX12) (T := TX12) (N := 82) hx hb htb bi_X12 hown hK hP 0 rfl rfl 19 (by decide) (htb _ bg_206) (fun _ h9 => h9) (md_at hm 2 rfl) dX12_feed_6 ?_
  refine lv_bipush (v := 20) hx hb dX12_feed_9 (by decide) ?_
  refine lv_iadd hx hb dX12_feed_11 ?_
  refine lv_ldc (own := RX12) (v := 65540) hx hb hown (htb _ bg_107) dX12_feed_12 ?_
  refine lv_icmp_le (tgt := 24) hx hb dX12_feed_14 (by decide) (fun c_14 => ?_) (fun c_14 => ?_)
  rotate_left
  · exact absurd (by decide) c_14
  refine lv_aload_n hx hb dX12_feed_24 rfl (lv_at hl 0 rfl) ?_
  refine lv_iload_n hx hb dX12_feed_25 rfl (lv_at hl 1 rfl) ?_
  refine xb_gov (wr := []) (va_runV (As := [.int x0]) (rest := []) ⟨hx, hb, hml, hown, htb⟩ (mm_four l D g m0 fs 0 qm aM f 0 x0 (Array.size H) (md_sub hm [0, 1, 2] rfl) (by unfold vp_in; decide) (by unfold vp_in; decide) (by unfold vp_in; decide) (by unfold vp_in; decide)) (bg_V 1 htb bg_207 bg_209 bg_210 bg_144 bg_208 rfl rfl (by decide +kernel) ⟨Nat.le_of_ble_eq_true rfl, Nat.le_of_ble_eq_true rfl⟩) ⟨xb_blind xe_ok, va_recv hK hP (ci := 12) (q0 := 0) rfl rfl, xb_enter xe_ok hK hP hD hS hA hE [0, 1] rfl rfl rfl [0] rfl⟩ rfl rfl hl.1 rfl (lv_room (Nat.le_of_ble_eq_true rfl)) dX12_feed_26 ⟨Nat.le_of_ble_eq_true rfl, Nat.le_of_ble_eq_true rfl⟩) hK hP hD hS hA [0, 1] [] rfl rfl rfl (by decide) (fun u_26 H locs hw_26 hP hD hK hS => ?_)
  obtain ⟨fs, f⟩ := u_26
  have hP : va_P D vwCl [(m0, .inr (12, fs)), (qm, .inl (aM, 65560, .inl f))] H := hP
  have hD : va_D A [(m0, .inr (12, fs)), (qm, .inl (aM, 65560, .inl f))] := hD
  have hK : va_K D vwCl [(aM, .byte), (aM, .byte)] s := hK
  refine W.widen (k := 0) (n := 0) (by decide) (by decide) ?_
  have hm : md_has fs _ := hw_26
  have hK := hK.sub (tys' := [(aM, .byte)]) [0] rfl
  refine lv_aload_n hx hb dX12_feed_29 rfl (lv_at hl 0 rfl) ?_
  refine lv_iload_n hx hb dX12_feed_30 rfl (lv_at hl 2 rfl) ?_
  refine xb_gov (wr := []) (va_runV (As := [.int x1]) (rest := []) ⟨hx, hb, hml, hown, htb⟩ (mm_four l D g m0 fs 0 qm aM f ((((0 + 1) + 1) + 1) + 1) x1 (Array.size H) (md_sub hm [0, 1, 2] rfl) (by unfold vp_in; decide) (by unfold vp_in; decide) (by unfold vp_in; decide) (by unfold vp_in; decide)) (bg_V 1 htb bg_207 bg_209 bg_210 bg_144 bg_208 rfl rfl (by decide +kernel) ⟨Nat.le_of_ble_eq_true rfl, Nat.le_of_ble_eq_true rfl⟩) ⟨xb_blind xe_ok, va_recv hK hP (ci := 12) (q0 := 0) rfl rfl, xb_enter xe_ok hK hP hD hS hA hE [0, 1] rfl rfl rfl [0] rfl⟩ rfl rfl hl.1 rfl (lv_room (Nat.le_of_ble_eq_true rfl)) dX12_feed_31 ⟨Nat.le_of_ble_eq_true rfl, Nat.le_of_ble_eq_true rfl⟩) hK hP hD hS hA [0, 1] [] rfl rfl rfl (by decide) (fun u_31 H locs hw_31 hP hD hK hS => ?_)
  obtain ⟨fs, f⟩ := u_31
  have hP : va_P D vwCl [(m0, .inr (12, fs)), (qm, .inl (aM, 65560, .inl f))] H := hP
  have hD : va_D A [(m0, .inr (12, fs)), (qm, .inl (aM, 65560, .inl f))] := hD
  have hK : va_K D vwCl [(aM, .byte), (aM, .byte)] s := hK
  refine W.widen (k := 0) (n := 0) (by decide) (by decide) ?_
  have hm : md_has fs _ := hw_31
  have hK := hK.sub (tys' := [(aM, .byte)]) [0] rfl
  refine lv_aload_n hx hb dX12_feed_34 rfl (lv_at hl 0 rfl) ?_
  refine lv_iload_n hx hb dX12_feed_35 rfl (lv_at hl 3 rfl) ?_
  refine xb_gov (wr := []) (va_runV (As := [.int x2]) (rest := []) ⟨hx, hb, hml, hown, htb⟩ (mm_four l D g m0 fs 0 qm aM f ((((((((0 + 1) + 1) + 1) + 1) + 1) + 1) + 1) + 1) x2 (Array.size H) (md_sub hm [0, 1, 2] rfl) (by unfold vp_in; decide) (by unfold vp_in; decide) (by unfold vp_in; decide) (by unfold vp_in; decide)) (bg_V 1 htb bg_207 bg_209 bg_210 bg_144 bg_208 rfl rfl (by decide +kernel) ⟨Nat.le_of_ble_eq_true rfl, Nat.le_of_ble_eq_true rfl⟩) ⟨xb_blind xe_ok, va_recv hK hP (ci := 12) (q0 := 0) rfl rfl, xb_enter xe_ok hK hP hD hS hA hE [0, 1] rfl rfl rfl [0] rfl⟩ rfl rfl hl.1 rfl (lv_room (Nat.le_of_ble_eq_true rfl)) dX12_feed_36 ⟨Nat.le_of_ble_eq_true rfl, Nat.le_of_ble_eq_true rfl⟩) hK hP hD hS hA [0, 1] [] rfl rfl rfl (by decide) (fun u_36 H locs hw_36 hP hD hK hS => ?_)
  obtain ⟨fs, f⟩ := u_36
  have hP : va_P D vwCl [(m0, .inr (12, fs)), (qm, .inl (aM, 65560, .inl f))] H := hP
  have hD : va_D A [(m0, .inr (12, fs)), (qm, .inl (aM, 65560, .inl f))] := hD
  have hK : va_K D vwCl [(aM, .byte), (aM, .byte)] s := hK
  refine W.widen (k := 0) (n := 0) (by decide) (by decide) ?_
  have hm : md_has fs _ := hw_36
  have hK := hK.sub (tys' := [(aM, .byte)]) [0] rfl
  refine lv_aload_n hx hb dX12_feed_39 rfl (lv_at hl 0 rfl) ?_
  refine lv_iload hx hb dX12_feed_40 (lv_at hl 4 rfl) ?_
  refine xb_gov (wr := []) (va_runV (As := [.int x3]) (rest := []) ⟨hx, hb, hml, hown, htb⟩ (mm_four l D g m0 fs 0 qm aM f ((((((((((((0 + 1) + 1) + 1) + 1) + 1) + 1) + 1) + 1) + 1) + 1) + 1) + 1) x3 (Array.size H) (md_sub hm [0, 1, 2] rfl) (by unfold vp_in; decide) (by unfold vp_in; decide) (by unfold vp_in; decide) (by unfold vp_in; decide)) (bg_V 1 htb bg_207 bg_209 bg_210 bg_144 bg_208 rfl rfl (by decide +kernel) ⟨Nat.le_of_ble_eq_true rfl, Nat.le_of_ble_eq_true rfl⟩) ⟨xb_blind xe_ok, va_recv hK hP (ci := 12) (q0 := 0) rfl rfl, xb_enter xe_ok hK hP hD hS hA hE [0, 1] rfl rfl rfl [0] rfl⟩ rfl rfl hl.1 rfl (lv_room (Nat.le_of_ble_eq_true rfl)) dX12_feed_42 ⟨Nat.le_of_ble_eq_true rfl, Nat.le_of_ble_eq_true rfl⟩) hK hP hD hS hA [0, 1] [] rfl rfl rfl (by decide) (fun u_42 H locs hw_42 hP hD hK hS => ?_)
  obtain ⟨fs, f⟩ := u_42
  have hP : va_P D vwCl [(m0, .inr (12, fs)), (qm, .inl (aM, 65560, .inl f))] H := hP
  have hD : va_D A [(m0, .inr (12, fs)), (qm, .inl (aM, 65560, .inl f))] := hD
  have hK : va_K D vwCl [(aM, .byte), (aM, .byte)] s := hK
  refine W.widen (k := 0) (n := 0) (by decide) (by decide) ?_
  have hm : md_has fs _ := hw_42
  have hK := hK.sub (tys' := [(aM, .byte)]) [0] rfl
  refine lv_aload_n hx hb dX12_feed_45 rfl (lv_at hl 0 rfl) ?_
  refine lv_iload hx hb dX12_feed_46 (lv_at hl 5 rfl) ?_
  refine xb_gov (wr := []) (va_runV (As := [.int x4]) (rest := []) ⟨hx, hb, hml, hown, htb⟩ (mm_four l D g m0 fs 0 qm aM f ((((((((((((((((0 + 1) + 1) + 1) + 1) + 1) + 1) + 1) + 1) + 1) + 1) + 1) + 1) + 1) + 1) + 1) + 1) x4 (Array.size H) (md_sub hm [0, 1, 2] rfl) (by unfold vp_in; decide) (by unfold vp_in; decide) (by unfold vp_in; decide) (by unfold vp_in; decide)) (bg_V 1 htb bg_207 bg_209 bg_210 bg_144 bg_208 rfl rfl (by decide +kernel) ⟨Nat.le_of_ble_eq_true rfl, Nat.le_of_ble_eq_true rfl⟩) ⟨xb_blind xe_ok, va_recv hK hP (ci := 12) (q0 := 0) rfl rfl, xb_enter xe_ok hK hP hD hS hA hE [0, 1] rfl rfl rfl [0] rfl⟩ rfl rfl hl.1 rfl (lv_room (Nat.le_of_ble_eq_true rfl)) dX12_feed_48 ⟨Nat.le_of_ble_eq_true rfl, Nat.le_of_ble_eq_true rfl⟩) hK hP hD hS hA [0, 1] [] rfl rfl rfl (by decide) (fun u_48 H locs hw_48 hP hD hK hS => ?_)
  obtain ⟨fs, f⟩ := u_48
  have hP : va_P D vwCl [(m0, .inr (12, fs)), (qm, .inl (aM, 65560, .inl f))] H := hP
  have hD : va_D A [(m0, .inr (12, fs)), (qm, .inl (aM, 65560, .inl f))] := hD
  have hK : va_K D vwCl [(aM, .byte), (aM, .byte)] s := hK
  refine W.widen (k := 0) (n := 0) (by decide) (by decide) ?_
  have hm : md_has fs _ := hw_48
  have hK := hK.sub (tys' := [(aM, .byte)]) [0] rfl
  refine lv_aload_n hx hb dX12_feed_51 rfl (lv_at hl 0 rfl) ?_
  refine va_get (D := D) (ci := 12) (v := .int ((((((((((((((((((((0 + 1) + 1) + 1) + 1) + 1) + 1) + 1) + 1) + 1) + 1) + 1) + 1) + 1) + 1) + 1) + 1) + 1) + 1) + 1) + 1)) (C := RX12) (T := TX12) (N := 82) hx hb htb bi_X12 hown hK hP 0 rfl rfl 19 (by decide) (htb _ bg_206) (fun _ h9 => h9) (md_at hm 2 rfl) dX12_feed_52 ?_
  have hP9 := hP.sub (ws' := [(m0, .inr (12, fs)), (qm, .inl (aM, 65560, .inl f))]) [0, 1] rfl
  have hD9 := hD.sub (ws' := [(m0, .inr (12, fs)), (qm, .inl (aM, 65560, .inl f))]) [0, 1] rfl rfl
  have hK9 := hK.sub (tys' := [(aM, .byte)]) [0] rfl
  exact W.iret (v := ((((((((((((((((((((0 + 1) + 1) + 1) + 1) + 1) + 1) + 1) + 1) + 1) + 1) + 1) + 1) + 1) + 1) + 1) + 1) + 1) + 1) + 1) + 1)) hx hb hr (fun t ht hW => ⟨⟨((((((((((((((((((((0 + 1) + 1) + 1) + 1) + 1) + 1) + 1) + 1) + 1) + 1) + 1) + 1) + 1) + 1) + 1) + 1) + 1) + 1) + 1) + 1), (fs, f), rfl, ⟨by decide, md_sub hm [0] rfl⟩, by rw [ht]; exact hP9, va_K.moved hW.alike hK9, hD9⟩, hS.F ht⟩) hS.2.2 dX12_feed_55
end
section
def xe_ch (k j : Nat) : Int32 := ((((xe_lt k).2.2.2.getD j 0) &&& 255).toUInt32 % 65536).toInt32
theorem xe_len : ∀ k, k < 3 → (xe_lt k).2.2.2.length ≤ 16 := by decide +kernel
theorem xe_chn (k j : Nat) : narrow .char (.int (xe_ch k j)) = .int (xe_ch k j) := pk_nc _
theorem xe_chv (k j : Nat) : vp_nar .char (xe_ch k j) = xe_ch k j := pk_vc _
theorem dJ0_coder_7d493_0 : decode cJ0_coder_7d493 0 = .ok (.getstatic 38, 3) := by decide +kernel
theorem dJ0_coder_7d493_3 : decode cJ0_coder_7d493 3 = .ok (.ifCond .eq 10, 3) := by decide +kernel
theorem dJ0_coder_7d493_6 : decode cJ0_coder_7d493 6 = .ok (.aload_n 0, 1) := by decide +kernel
theorem dJ0_coder_7d493_7 : decode cJ0_coder_7d493 7 = .ok (.getfield 15, 3) := by decide +kernel
theorem dJ0_coder_7d493_10 : decode cJ0_coder_7d493 10 = .ok (.goto 4, 3) := by decide +kernel
theorem dJ0_coder_7d493_14 : decode cJ0_coder_7d493 14 = .ok (.ireturn, 1) := by decide +kernel
set_option maxHeartbeats 4000000 in
set_option maxRecDepth 100000 in
theorem cs_coder (l : Launch) (D : va_G) (g : xe_G) (k : Nat) (sz : Nat) (hk : k < 3) : Met l yJ0_coder_7d493 (.code yJ0_coder_7d493 cJ0_coder_7d493 1 (some .byte) :: bg) ({ frames := 1, cells := 0, slots := 0, locals := 120 } : Room) (xb_Pre (xe_E g) D vwCl [] [] sz [.ref (g.2.1 k)]) (va_Qi (fun r _ => r = 0) (xb_B D vwCl (va_A [] sz) (fun u : Unit => []) (fun u : Unit => [])) (va_A [] sz)) 0 0 (va_A [] sz) := by
  refine Met.ofW (cc := cJ0_coder_7d493) (maxL := 1) (ret := (some .byte)) (by decide) rfl ?_
  intro p e s m args below meth c s₁ B hml hv
  obtain ⟨rfl, hsz, hP, hK, hD0, hE⟩ := hv
  have hx := B.exec
  have hb := B.bytes
  have hr := B.returns
  have hts := atoms_spec (ws := (.code yJ0_coder_7d493 cJ0_coder_7d493 1 (some .byte) :: bg)) B.pre
  have htb : ∀ w ∈ bg, w.before _ s = true := fun w h => hts w (List.mem_cons_of_mem _ h)
  have hown : s.vm.findClass RJ0 = some m.cls := findClass_of_methodNamed B.named
  have hlocks := B.notSynchronized
  subst hsz
  have hD := hD0.self (sz := s.heap.size)
  generalize hAe : va_A [] s.heap.size = A at hD hE ⊢
  have hA : ∀ q : Nat, s.heap.size ≤ q → A q := fun q h => by rw [← hAe]; exact Or.inr h
  have hS : va_S A s.heap s.heap [] := va_S.rf
  have hP : va_P D vwCl [] s.heap := hP
  have hl := lv_entry ([.ref (g.2.1 k)]) (n := 1) (Nat.le_of_ble_eq_true rfl)
  rw [lg_entry_eq]
  generalize (lg_sl ([.ref (g.2.1 k)]) ++ List.replicate (1 - (lg_sl ([.ref (g.2.1 k)])).length) Slot.unset).toArray = ls at hl ⊢
  have hl : lv_has ls 1 [(0, .ref (g.2.1 k))] := hl
  refine va_gets hx hb (hE.2.2.1) hS hown (htb _ bg_307) (fun _ h9 => h9) dJ0_coder_7d493_0 ?_
  refine lv_if_eq (tgt := 13) hx hb dJ0_coder_7d493_3 (by decide) (fun c_3 => ?_) (fun c_3 => ?_)
  · exact absurd c_3 (by decide)
  refine lv_aload_n hx hb dJ0_coder_7d493_6 rfl (lv_at hl 0 rfl) ?_
  refine vk_getf hx hb (hE.2.2.2.2.2.2.2.1 k hk).1 hS hown (htb _ bg_308) (fun _ h9 => h9) dJ0_coder_7d493_7 ?_
  refine lv_goto (tgt := 14) hx hb dJ0_coder_7d493_10 (by decide) ?_
  have hP9 := hP.sub (ws' := []) [] rfl
  have hD9 := hD.sub (ws' := []) [] rfl rfl
  have hK9 := hK.sub (tys' := []) [] rfl
  exact W.zret (v := 0) hx hb hr (by decide) (fun t ht hW => ⟨⟨0, (), rfl, rfl, by rw [ht]; exact hP9, va_K.moved hW.alike hK9, hD9⟩, hS.F ht⟩) hS.2.2 dJ0_coder_7d493_14
theorem dJ0_isLatin1_aae02_0 : decode cJ0_isLatin1_aae02 0 = .ok (.getstatic 38, 3) := by decide +kernel
theorem dJ0_isLatin1_aae02_3 : decode cJ0_isLatin1_aae02 3 = .ok (.ifCond .eq 14, 3) := by decide +kernel
theorem dJ0_isLatin1_aae02_6 : decode cJ0_isLatin1_aae02 6 = .ok (.aload_n 0, 1) := by decide +kernel
theorem dJ0_isLatin1_aae02_7 : decode cJ0_isLatin1_aae02 7 = .ok (.getfield 15, 3) := by decide +kernel
theorem dJ0_isLatin1_aae02_10 : decode cJ0_isLatin1_aae02 10 = .ok (.ifCond .ne 7, 3) := by decide +kernel
theorem dJ0_isLatin1_aae02_13 : decode cJ0_isLatin1_aae02 13 = .ok (.iconst 1, 1) := by decide +kernel
theorem dJ0_isLatin1_aae02_14 : decode cJ0_isLatin1_aae02 14 = .ok (.goto 4, 3) := by decide +kernel
theorem dJ0_isLatin1_aae02_18 : decode cJ0_isLatin1_aae02 18 = .ok (.ireturn, 1) := by decide +kernel
set_option maxHeartbeats 4000000 in
set_option maxRecDepth 100000 in
theorem cs_latin (l : Launch) (D : va_G) (g : xe_G) (k : Nat) (sz : Nat) (hk : k < 3) : Met l yJ0_isLatin1_aae02 (.code yJ0_isLatin1_aae02 cJ0_isLatin1_aae02 1 (some .boolean) :: bg) ({ frames := 1, cells := 0, slots := 0, locals := 120 } : Room) (xb_Pre (xe_E g) D vwCl [] [] sz [.ref (g.2.1 k)]) (va_Qi (fun r _ => r = 1) (xb_B D vwCl (va_A [] sz) (fun u : Unit => []) (fun u : Unit => [])) (va_A [] sz)) 0 0 (va_A [] sz) := by
  refine Met.ofW (cc := cJ0_isLatin1_aae02) (maxL := 1) (ret := (some .boolean)) (by decide) rfl ?_
  intro p e s m args below meth c s₁ B hml hv
  obtain ⟨rfl, hsz, hP, hK, hD0, hE⟩ := hv
  have hx := B.exec
  have hb := B.bytes
  have hr := B.returns
  have hts := atoms_spec (ws := (.code yJ0_isLatin1_aae02 cJ0_isLatin1_aae02 1 (some .boolean) :: bg)) B.pre
  have htb : ∀ w ∈ bg, w.before _ s = true := fun w h => hts w (List.mem_cons_of_mem _ h)
  have hown : s.vm.findClass RJ0 = some m.cls := findClass_of_methodNamed B.named
  have hlocks := B.notSynchronized
  subst hsz
  have hD := hD0.self (sz := s.heap.size)
  generalize hAe : va_A [] s.heap.size = A at hD hE ⊢
  have hA : ∀ q : Nat, s.heap.size ≤ q → A q := fun q h => by rw [← hAe]; exact Or.inr h
  have hS : va_S A s.heap s.heap [] := va_S.rf
  have hP : va_P D vwCl [] s.heap := hP
  have hl := lv_entry ([.ref (g.2.1 k)]) (n := 1) (Nat.le_of_ble_eq_true rfl)
  rw [lg_entry_eq]
  generalize (lg_sl ([.ref (g.2.1 k)]) ++ List.replicate (1 - (lg_sl ([.ref (g.2.1 k)])).length) Slot.unset).toArray = ls at hl ⊢
  have hl : lv_has ls 1 [(0, .ref (g.2.1 k))] := hl
  refine va_gets hx hb (hE.2.2.1) hS hown (htb _ bg_307) (fun _ h9 => h9) dJ0_isLatin1_aae02_0 ?_
  refine lv_if_eq (tgt := 17) hx hb dJ0_isLatin1_aae02_3 (by decide) (fun c_3 => ?_) (fun c_3 => ?_)
  · exact absurd c_3 (by decide)
  refine lv_aload_n hx hb dJ0_isLatin1_aae02_6 rfl (lv_at hl 0 rfl) ?_
  refine vk_getf hx hb (hE.2.2.2.2.2.2.2.1 k hk).1 hS hown (htb _ bg_308) (fun _ h9 => h9) dJ0_isLatin1_aae02_7 ?_
  refine lv_if_ne (tgt := 17) hx hb dJ0_isLatin1_aae02_10 (by decide) (fun c_10 => ?_) (fun c_10 => ?_)
  · exact absurd (by decide) c_10
  refine lv_iconst (v := 1) hx hb dJ0_isLatin1_aae02_13 (by decide) ?_
  refine lv_goto (tgt := 18) hx hb dJ0_isLatin1_aae02_14 (by decide) ?_
  have hP9 := hP.sub (ws' := []) [] rfl
  have hD9 := hD.sub (ws' := []) [] rfl rfl
  have hK9 := hK.sub (tys' := []) [] rfl
  exact W.zret (v := 1) hx hb hr (by decide) (fun t ht hW => ⟨⟨1, (), rfl, rfl, by rw [ht]; exact hP9, va_K.moved hW.alike hK9, hD9⟩, hS.F ht⟩) hS.2.2 dJ0_isLatin1_aae02_18
theorem dJ0_length_8abf5_0 : decode cJ0_length_8abf5 0 = .ok (.aload_n 0, 1) := by decide +kernel
theorem dJ0_length_8abf5_1 : decode cJ0_length_8abf5 1 = .ok (.getfield 9, 3) := by decide +kernel
theorem dJ0_length_8abf5_4 : decode cJ0_length_8abf5 4 = .ok (.arraylength, 1) := by decide +kernel
theorem dJ0_length_8abf5_5 : decode cJ0_length_8abf5 5 = .ok (.aload_n 0, 1) := by decide +kernel
theorem dJ0_length_8abf5_6 : decode cJ0_length_8abf5 6 = .ok (.invokevirtual 335, 3) := by decide +kernel
theorem dJ0_length_8abf5_9 : decode cJ0_length_8abf5 9 = .ok (.ishr, 1) := by decide +kernel
theorem dJ0_length_8abf5_10 : decode cJ0_length_8abf5 10 = .ok (.ireturn, 1) := by decide +kernel
set_option maxHeartbeats 4000000 in
set_option maxRecDepth 100000 in
theorem cs_length (l : Launch) (D : va_G) (g : xe_G) (k : Nat) (sz : Nat) (hk : k < 3) : Met l yJ0_length_8abf5 (.code yJ0_length_8abf5 cJ0_length_8abf5 1 (some .int) :: bg) ({ frames := 2, cells := 0, slots := 0, locals := 240 } : Room) (xb_Pre (xe_E g) D vwCl [] [] sz [.ref (g.2.1 k)]) (va_Qi (fun r _ => r = (nI (xe_lt k).2.2.2.length)) (xb_B D vwCl (va_A [] sz) (fun u : Unit => []) (fun u : Unit => [])) (va_A [] sz)) 0 0 (va_A [] sz) := by
  refine Met.ofW (cc := cJ0_length_8abf5) (maxL := 1) (ret := (some .int)) (by decide) rfl ?_
  intro p e s m args below meth c s₁ B hml hv
  obtain ⟨rfl, hsz, hP, hK, hD0, hE⟩ := hv
  have hx := B.exec
  have hb := B.bytes
  have hr := B.returns
  have hts := atoms_spec (ws := (.code yJ0_length_8abf5 cJ0_length_8abf5 1 (some .int) :: bg)) B.pre
  have htb : ∀ w ∈ bg, w.before _ s = true := fun w h => hts w (List.mem_cons_of_mem _ h)
  have hown : s.vm.findClass RJ0 = some m.cls := findClass_of_methodNamed B.named
  have hlocks := B.notSynchronized
  subst hsz
  have hD := hD0.self (sz := s.heap.size)
  generalize hAe : va_A [] s.heap.size = A at hD hE ⊢
  have hA : ∀ q : Nat, s.heap.size ≤ q → A q := fun q h => by rw [← hAe]; exact Or.inr h
  have hS : va_S A s.heap s.heap [] := va_S.rf
  have hP : va_P D vwCl [] s.heap := hP
  have hl := lv_entry ([.ref (g.2.1 k)]) (n := 1) (Nat.le_of_ble_eq_true rfl)
  rw [lg_entry_eq]
  generalize (lg_sl ([.ref (g.2.1 k)]) ++ List.replicate (1 - (lg_sl ([.ref (g.2.1 k)])).length) Slot.unset).toArray = ls at hl ⊢
  have hl : lv_has ls 1 [(0, .ref (g.2.1 k))] := hl
  refine lv_aload_n hx hb dJ0_length_8abf5_0 rfl (lv_at hl 0 rfl) ?_
  refine vk_getf hx hb (hE.2.2.2.2.2.2.2.1 k hk).2.1 hS hown (htb _ bg_294) (fun _ h9 => h9) dJ0_length_8abf5_1 ?_
  refine va_tlen (v := (nI (xe_lt k).2.2.2.length)) hx hb (hE.2.2.2.2.2.2.2.1 k hk).2.2 hS rfl dJ0_length_8abf5_4 ?_
  refine lv_aload_n hx hb dJ0_length_8abf5_5 rfl (lv_at hl 0 rfl) ?_
  refine xb_goi (wr := []) (va_runV (As := []) (rest := [.int (nI (xe_lt k).2.2.2.length)]) ⟨hx, hb, hml, hown, htb⟩ (cs_coder l D g k (Array.size s.heap) (hk)) (bg_V 0 htb bg_295 bg_297 bg_298 bg_161 bg_296 rfl rfl (by decide +kernel) ⟨Nat.le_of_ble_eq_true rfl, Nat.le_of_ble_eq_true rfl⟩) ⟨xb_blind xe_ok, xe_recv hE hS k (by omega), xb_enter xe_ok hK hP hD hS hA hE [] rfl rfl rfl [] rfl⟩ rfl rfl hl.1 rfl (lv_room (Nat.le_of_ble_eq_true rfl)) dJ0_length_8abf5_6 ⟨Nat.le_of_ble_eq_true rfl, Nat.le_of_ble_eq_true rfl⟩) hK hP hD hS hA [] [] rfl rfl rfl (by decide) (fun r_6 u_6 H locs hw_6 hP hD hK hS => ?_)
  have hP : va_P D vwCl [] H := hP
  have hD : va_D A [] := hD
  have hK : va_K D vwCl [] s := hK
  refine W.widen (k := 0) (n := 0) (by decide) (by decide) ?_
  have hw_6 : r_6 = 0 := hw_6
  subst hw_6
  refine lv_ishr hx hb dJ0_length_8abf5_9 ?_
  refine lv_topi (fun x_9 ex_9 => ?_)
  have hx_9 : x_9 = (nI (xe_lt k).2.2.2.length) := by rw [ex_9]; exact sb_shr0 _
  rw [hx_9]
  have hP9 := hP.sub (ws' := []) [] rfl
  have hD9 := hD.sub (ws' := []) [] rfl rfl
  have hK9 := hK.sub (tys' := []) [] rfl
  exact W.iret (v := (nI (xe_lt k).2.2.2.length)) hx hb hr (fun t ht hW => ⟨⟨(nI (xe_lt k).2.2.2.length), (), rfl, rfl, by rw [ht]; exact hP9, va_K.moved hW.alike hK9, hD9⟩, hS.F ht⟩) hS.2.2 dJ0_length_8abf5_10
theorem dJ3_checkIndex_8e157_0 : decode cJ3_checkIndex_8e157 0 = .ok (.iload_n 0, 1) := by decide +kernel
theorem dJ3_checkIndex_8e157_1 : decode cJ3_checkIndex_8e157 1 = .ok (.ifCond .lt 8, 3) := by decide +kernel
theorem dJ3_checkIndex_8e157_4 : decode cJ3_checkIndex_8e157 4 = .ok (.iload_n 0, 1) := by decide +kernel
theorem dJ3_checkIndex_8e157_5 : decode cJ3_checkIndex_8e157 5 = .ok (.iload_n 1, 1) := by decide +kernel
theorem dJ3_checkIndex_8e157_6 : decode cJ3_checkIndex_8e157 6 = .ok (.if_icmp .lt 10, 3) := by decide +kernel
theorem dJ3_checkIndex_8e157_16 : decode cJ3_checkIndex_8e157 16 = .ok (.iload_n 0, 1) := by decide +kernel
theorem dJ3_checkIndex_8e157_17 : decode cJ3_checkIndex_8e157 17 = .ok (.ireturn, 1) := by decide +kernel
set_option maxHeartbeats 4000000 in
set_option maxRecDepth 100000 in
theorem cs_preN (l : Launch) (D : va_G) (g : xe_G) (i : Int32) (n : Int32) (sz : Nat) (hi : ¬ i < 0) (hn : i < n) : Met l yJ3_checkIndex_8e157 (.code yJ3_checkIndex_8e157 cJ3_checkIndex_8e157 3 (some .int) :: bg) ({ frames := 1, cells := 0, slots := 0, locals := 120 } : Room) (xb_Pre (xe_E g) D vwCl [] [] sz [.int i, .int n, .null]) (va_Qi (fun r _ => r = i) (xb_B D vwCl (va_A [] sz) (fun u : Unit => []) (fun u : Unit => [])) (va_A [] sz)) 0 0 (va_A [] sz) := by
  refine Met.ofW (cc := cJ3_checkIndex_8e157) (maxL := 3) (ret := (some .int)) (by decide) rfl ?_
  intro p e s m args below meth c s₁ B hml hv
  obtain ⟨rfl, hsz, hP, hK, hD0, hE⟩ := hv
  have hx := B.exec
  have hb := B.bytes
  have hr := B.returns
  have hts := atoms_spec (ws := (.code yJ3_checkIndex_8e157 cJ3_checkIndex_8e157 3 (some .int) :: bg)) B.pre
  have htb : ∀ w ∈ bg, w.before _ s = true := fun w h => hts w (List.mem_cons_of_mem _ h)
  have hown : s.vm.findClass RJ3 = some m.cls := findClass_of_methodNamed B.named
  have hlocks := B.notSynchronized
  subst hsz
  have hD := hD0.self (sz := s.heap.size)
  generalize hAe : va_A [] s.heap.size = A at hD hE ⊢
  have hA : ∀ q : Nat, s.heap.size ≤ q → A q := fun q h => by rw [← hAe]; exact Or.inr h
  have hS : va_S A s.heap s.heap [] := va_S.rf
  have hP : va_P D vwCl [] s.heap := hP
  have hl := lv_entry ([.int i, .int n, .null]) (n := 3) (Nat.le_of_ble_eq_true rfl)
  rw [lg_entry_eq]
  generalize (lg_sl ([.int i, .int n, .null]) ++ List.replicate (3 - (lg_sl ([.int i, .int n, .null])).length) Slot.unset).toArray = ls at hl ⊢
  have hl : lv_has ls 3 [(0, .int i), (1, .int n), (2, .null)] := hl
  refine lv_iload_n hx hb dJ3_checkIndex_8e157_0 rfl (lv_at hl 0 rfl) ?_
  refine lv_if_lt (tgt := 9) hx hb dJ3_checkIndex_8e157_1 (by decide) (fun c_1 => ?_) (fun c_1 => ?_)
  · exact absurd c_1 (hi)
  refine lv_iload_n hx hb dJ3_checkIndex_8e157_4 rfl (lv_at hl 0 rfl) ?_
  refine lv_iload_n hx hb dJ3_checkIndex_8e157_5 rfl (lv_at hl 1 rfl) ?_
  refine lv_icmp_lt (tgt := 16) hx hb dJ3_checkIndex_8e157_6 (by decide) (fun c_6 => ?_) (fun c_6 => ?_)
  rotate_left
  · exact absurd (hn) c_6
  refine lv_iload_n hx hb dJ3_checkIndex_8e157_16 rfl (lv_at hl 0 rfl) ?_
  have hP9 := hP.sub (ws' := []) [] rfl
  have hD9 := hD.sub (ws' := []) [] rfl rfl
  have hK9 := hK.sub (tys' := []) [] rfl
  exact W.iret (v := i) hx hb hr (fun t ht hW => ⟨⟨i, (), rfl, rfl, by rw [ht]; exact hP9, va_K.moved hW.alike hK9, hD9⟩, hS.F ht⟩) hS.2.2 dJ3_checkIndex_8e157_17
set_option maxHeartbeats 4000000 in
set_option maxRecDepth 100000 in
theorem cs_preR (l : Launch) (D : va_G) (g : xe_G) (i : Int32) (n : Int32) (fv : Nat) (sz : Nat) (hi : ¬ i < 0) (hn : i < n) : Met l yJ3_checkIndex_8e157 (.code yJ3_checkIndex_8e157 cJ3_checkIndex_8e157 3 (some .int) :: bg) ({ frames := 1, cells := 0, slots := 0, locals := 120 } : Room) (xb_Pre (xe_E g) D vwCl [] [] sz [.int i, .int n, .ref fv]) (va_Qi (fun r _ => r = i) (xb_B D vwCl (va_A [] sz) (fun u : Unit => []) (fun u : Unit => [])) (va_A [] sz)) 0 0 (va_A [] sz) := by
  refine Met.ofW (cc := cJ3_checkIndex_8e157) (maxL := 3) (ret := (some .int)) (by decide) rfl ?_
  intro p e s m args below meth c s₁ B hml hv
  obtain ⟨rfl, hsz, hP, hK, hD0, hE⟩ := hv
  have hx := B.exec
  have hb := B.bytes
  have hr := B.returns
  have hts := atoms_spec (ws := (.code yJ3_checkIndex_8e157 cJ3_checkIndex_8e157 3 (some .int) :: bg)) B.pre
  have htb : ∀ w ∈ bg, w.before _ s = true := fun w h => hts w (List.mem_cons_of_mem _ h)
  have hown : s.vm.findClass RJ3 = some m.cls := findClass_of_methodNamed B.named
  have hlocks := B.notSynchronized
  subst hsz
  have hD := hD0.self (sz := s.heap.size)
  generalize hAe : va_A [] s.heap.size = A at hD hE ⊢
  have hA : ∀ q : Nat, s.heap.size ≤ q → A q := fun q h => by rw [← hAe]; exact Or.inr h
  have hS : va_S A s.heap s.heap [] := va_S.rf
  have hP : va_P D vwCl [] s.heap := hP
  have hl := lv_entry ([.int i, .int n, .ref fv]) (n := 3) (Nat.le_of_ble_eq_true rfl)
  rw [lg_entry_eq]
  generalize (lg_sl ([.int i, .int n, .ref fv]) ++ List.replicate (3 - (lg_sl ([.int i, .int n, .ref fv])).length) Slot.unset).toArray = ls at hl ⊢
  have hl : lv_has ls 3 [(0, .int i), (1, .int n), (2, .ref fv)] := hl
  refine lv_iload_n hx hb dJ3_checkIndex_8e157_0 rfl (lv_at hl 0 rfl) ?_
  refine lv_if_lt (tgt := 9) hx hb dJ3_checkIndex_8e157_1 (by decide) (fun c_1 => ?_) (fun c_1 => ?_)
  · exact absurd c_1 (hi)
  refine lv_iload_n hx hb dJ3_checkIndex_8e157_4 rfl (lv_at hl 0 rfl) ?_
  refine lv_iload_n hx hb dJ3_checkIndex_8e157_5 rfl (lv_at hl 1 rfl) ?_
  refine lv_icmp_lt (tgt := 16) hx hb dJ3_checkIndex_8e157_6 (by decide) (fun c_6 => ?_) (fun c_6 => ?_)
  rotate_left
  · exact absurd (hn) c_6
  refine lv_iload_n hx hb dJ3_checkIndex_8e157_16 rfl (lv_at hl 0 rfl) ?_
  have hP9 := hP.sub (ws' := []) [] rfl
  have hD9 := hD.sub (ws' := []) [] rfl rfl
  have hK9 := hK.sub (tys' := []) [] rfl
  exact W.iret (v := i) hx hb hr (fun t ht hW => ⟨⟨i, (), rfl, rfl, by rw [ht]; exact hP9, va_K.moved hW.alike hK9, hD9⟩, hS.F ht⟩) hS.2.2 dJ3_checkIndex_8e157_17
theorem dJ0_checkIndex_df160_0 : decode cJ0_checkIndex_df160 0 = .ok (.iload_n 0, 1) := by decide +kernel
theorem dJ0_checkIndex_df160_1 : decode cJ0_checkIndex_df160 1 = .ok (.iload_n 1, 1) := by decide +kernel
theorem dJ0_checkIndex_df160_2 : decode cJ0_checkIndex_df160 2 = .ok (.getstatic 1053, 3) := by decide +kernel
theorem dJ0_checkIndex_df160_5 : decode cJ0_checkIndex_df160 5 = .ok (.invokestatic 1059, 3) := by decide +kernel
theorem dJ0_checkIndex_df160_8 : decode cJ0_checkIndex_df160 8 = .ok (.pop, 1) := by decide +kernel
theorem dJ0_checkIndex_df160_9 : decode cJ0_checkIndex_df160 9 = .ok (.return_, 1) := by decide +kernel
set_option maxHeartbeats 4000000 in
set_option maxRecDepth 100000 in
theorem cs_check (l : Launch) (D : va_G) (g : xe_G) (i : Int32) (n : Int32) (sz : Nat) (hi : ¬ i < 0) (hn : i < n) : Met l yJ0_checkIndex_df160 (.code yJ0_checkIndex_df160 cJ0_checkIndex_df160 2 none :: bg) ({ frames := 2, cells := 0, slots := 0, locals := 240 } : Room) (xb_Pre (xe_E g) D vwCl [] [] sz [.int i, .int n]) (va_Qv (fun _ => True) (xb_B D vwCl (va_A [] sz) (fun u : Unit => []) (fun u : Unit => [])) (va_A [] sz)) 0 0 (va_A [] sz) := by
  refine Met.ofW (cc := cJ0_checkIndex_df160) (maxL := 2) (ret := none) (by decide) rfl ?_
  intro p e s m args below meth c s₁ B hml hv
  obtain ⟨rfl, hsz, hP, hK, hD0, hE⟩ := hv
  have hx := B.exec
  have hb := B.bytes
  have hr := B.returns
  have hts := atoms_spec (ws := (.code yJ0_checkIndex_df160 cJ0_checkIndex_df160 2 none :: bg)) B.pre
  have htb : ∀ w ∈ bg, w.before _ s = true := fun w h => hts w (List.mem_cons_of_mem _ h)
  have hown : s.vm.findClass RJ0 = some m.cls := findClass_of_methodNamed B.named
  have hlocks := B.notSynchronized
  subst hsz
  have hD := hD0.self (sz := s.heap.size)
  generalize hAe : va_A [] s.heap.size = A at hD hE ⊢
  have hA : ∀ q : Nat, s.heap.size ≤ q → A q := fun q h => by rw [← hAe]; exact Or.inr h
  have hS : va_S A s.heap s.heap [] := va_S.rf
  have hP : va_P D vwCl [] s.heap := hP
  have hl := lv_entry ([.int i, .int n]) (n := 2) (Nat.le_of_ble_eq_true rfl)
  rw [lg_entry_eq]
  generalize (lg_sl ([.int i, .int n]) ++ List.replicate (2 - (lg_sl ([.int i, .int n])).length) Slot.unset).toArray = ls at hl ⊢
  have hl : lv_has ls 2 [(0, .int i), (1, .int n)] := hl
  refine lv_iload_n hx hb dJ0_checkIndex_df160_0 rfl (lv_at hl 0 rfl) ?_
  refine lv_iload_n hx hb dJ0_checkIndex_df160_1 rfl (lv_at hl 1 rfl) ?_
  rcases hE.2.2.2.1 with hz | ⟨t9, hz⟩
  · skip
    refine va_gets hx hb hz hS hown (htb _ bg_310) (fun _ h9 => h9) dJ0_checkIndex_df160_2 ?_
    refine xb_goi (wr := []) (va_runS (As := [.int i, .int n, .null]) (rest := []) ⟨hx, hb, hml, hown, htb⟩ (cs_preN l D g i n (Array.size s.heap) (hi) (hn)) (bg_S 3 htb bg_311 bg_313 bg_314 bg_312 rfl rfl (by decide +kernel) ⟨Nat.le_of_ble_eq_true rfl, Nat.le_of_ble_eq_true rfl⟩) ⟨xb_blind xe_ok, xb_enter xe_ok hK hP hD hS hA hE [] rfl rfl rfl [] rfl⟩ rfl rfl hl.1 rfl (lv_room (Nat.le_of_ble_eq_true rfl)) dJ0_checkIndex_df160_5 ⟨Nat.le_of_ble_eq_true rfl, Nat.le_of_ble_eq_true rfl⟩) hK hP hD hS hA [] [] rfl rfl rfl (by decide) (fun r_5 u_5 H locs hw_5 hP hD hK hS => ?_)
    have hP : va_P D vwCl [] H := hP
    have hD : va_D A [] := hD
    have hK : va_K D vwCl [] s := hK
    refine W.widen (k := 0) (n := 0) (by decide) (by decide) ?_
    have hw_5 : r_5 = i := hw_5
    subst hw_5
    refine lv_pop hx hb dJ0_checkIndex_df160_8 rfl ?_
    have hP9 := hP.sub (ws' := []) [] rfl
    have hD9 := hD.sub (ws' := []) [] rfl rfl
    have hK9 := hK.sub (tys' := []) [] rfl
    exact W.vret hx hb hr (fun t ht hW => ⟨⟨(), rfl, trivial, by rw [ht]; exact hP9, va_K.moved hW.alike hK9, hD9⟩, hS.F ht⟩) hS.2.2 dJ0_checkIndex_df160_9
  · skip
    refine va_gets hx hb hz hS hown (htb _ bg_310) (fun _ h9 => h9) dJ0_checkIndex_df160_2 ?_
    refine xb_goi (wr := []) (va_runS (As := [.int i, .int n, .ref t9]) (rest := []) ⟨hx, hb, hml, hown, htb⟩ (cs_preR l D g i n t9 (Array.size s.heap) (hi) (hn)) (bg_S 3 htb bg_311 bg_313 bg_314 bg_312 rfl rfl (by decide +kernel) ⟨Nat.le_of_ble_eq_true rfl, Nat.le_of_ble_eq_true rfl⟩) ⟨xb_blind xe_ok, xb_enter xe_ok hK hP hD hS hA hE [] rfl rfl rfl [] rfl⟩ rfl rfl hl.1 rfl (lv_room (Nat.le_of_ble_eq_true rfl)) dJ0_checkIndex_df160_5 ⟨Nat.le_of_ble_eq_true rfl, Nat.le_of_ble_eq_true rfl⟩) hK hP hD hS hA [] [] rfl rfl rfl (by decide) (fun r_5 u_5 H locs hw_5 hP hD hK hS => ?_)
    have hP : va_P D vwCl [] H := hP
    have hD : va_D A [] := hD
    have hK : va_K D vwCl [] s := hK
    refine W.widen (k := 0) (n := 0) (by decide) (by decide) ?_
    have hw_5 : r_5 = i := hw_5
    subst hw_5
    refine lv_pop hx hb dJ0_checkIndex_df160_8 rfl ?_
    have hP9 := hP.sub (ws' := []) [] rfl
    have hD9 := hD.sub (ws' := []) [] rfl rfl
    have hK9 := hK.sub (tys' := []) [] rfl
    exact W.vret hx hb hr (fun t ht hW => ⟨⟨(), rfl, trivial, by rw [ht]; exact hP9, va_K.moved hW.alike hK9, hD9⟩, hS.F ht⟩) hS.2.2 dJ0_checkIndex_df160_9
theorem dJ1_charAt_3b067_0 : decode cJ1_charAt_3b067 0 = .ok (.iload_n 1, 1) := by decide +kernel
theorem dJ1_charAt_3b067_1 : decode cJ1_charAt_3b067 1 = .ok (.aload_n 0, 1) := by decide +kernel
theorem dJ1_charAt_3b067_2 : decode cJ1_charAt_3b067 2 = .ok (.arraylength, 1) := by decide +kernel
theorem dJ1_charAt_3b067_3 : decode cJ1_charAt_3b067 3 = .ok (.invokestatic 9, 3) := by decide +kernel
theorem dJ1_charAt_3b067_6 : decode cJ1_charAt_3b067 6 = .ok (.aload_n 0, 1) := by decide +kernel
theorem dJ1_charAt_3b067_7 : decode cJ1_charAt_3b067 7 = .ok (.iload_n 1, 1) := by decide +kernel
theorem dJ1_charAt_3b067_8 : decode cJ1_charAt_3b067 8 = .ok (.baload, 1) := by decide +kernel
theorem dJ1_charAt_3b067_9 : decode cJ1_charAt_3b067 9 = .ok (.sipush 255, 3) := by decide +kernel
theorem dJ1_charAt_3b067_12 : decode cJ1_charAt_3b067 12 = .ok (.iand, 1) := by decide +kernel
theorem dJ1_charAt_3b067_13 : decode cJ1_charAt_3b067 13 = .ok (.i2c, 1) := by decide +kernel
theorem dJ1_charAt_3b067_14 : decode cJ1_charAt_3b067 14 = .ok (.ireturn, 1) := by decide +kernel
set_option maxHeartbeats 4000000 in
set_option maxRecDepth 100000 in
theorem cs_lat1 (l : Launch) (D : va_G) (g : xe_G) (k : Nat) (j : Nat) (sz : Nat) (hk : k < 3) (hj : j < (xe_lt k).2.2.2.length) : Met l yJ1_charAt_3b067 (.code yJ1_charAt_3b067 cJ1_charAt_3b067 2 (some .char) :: bg) ({ frames := 3, cells := 0, slots := 0, locals := 360 } : Room) (xb_Pre (xe_E g) D vwCl [] [] sz [.ref (g.2.2 k), .int (nI j)]) (va_Qi (fun r _ => r = xe_ch k j) (xb_B D vwCl (va_A [] sz) (fun u : Unit => []) (fun u : Unit => [])) (va_A [] sz)) 0 0 (va_A [] sz) := by
  refine Met.ofW (cc := cJ1_charAt_3b067) (maxL := 2) (ret := (some .char)) (by decide) rfl ?_
  intro p e s m args below meth c s₁ B hml hv
  obtain ⟨rfl, hsz, hP, hK, hD0, hE⟩ := hv
  have hx := B.exec
  have hb := B.bytes
  have hr := B.returns
  have hts := atoms_spec (ws := (.code yJ1_charAt_3b067 cJ1_charAt_3b067 2 (some .char) :: bg)) B.pre
  have htb : ∀ w ∈ bg, w.before _ s = true := fun w h => hts w (List.mem_cons_of_mem _ h)
  have hown : s.vm.findClass RJ1 = some m.cls := findClass_of_methodNamed B.named
  have hlocks := B.notSynchronized
  subst hsz
  have hD := hD0.self (sz := s.heap.size)
  generalize hAe : va_A [] s.heap.size = A at hD hE ⊢
  have hA : ∀ q : Nat, s.heap.size ≤ q → A q := fun q h => by rw [← hAe]; exact Or.inr h
  have hS : va_S A s.heap s.heap [] := va_S.rf
  have hP : va_P D vwCl [] s.heap := hP
  have hl := lv_entry ([.ref (g.2.2 k), .int (nI j)]) (n := 2) (Nat.le_of_ble_eq_true rfl)
  rw [lg_entry_eq]
  generalize (lg_sl ([.ref (g.2.2 k), .int (nI j)]) ++ List.replicate (2 - (lg_sl ([.ref (g.2.2 k), .int (nI j)])).length) Slot.unset).toArray = ls at hl ⊢
  have hl : lv_has ls 2 [(0, .ref (g.2.2 k)), (1, .int (nI j))] := hl
  refine lv_iload_n hx hb dJ1_charAt_3b067_0 rfl (lv_at hl 1 rfl) ?_
  refine lv_aload_n hx hb dJ1_charAt_3b067_1 rfl (lv_at hl 0 rfl) ?_
  refine va_tlen (v := (nI (xe_lt k).2.2.2.length)) hx hb (hE.2.2.2.2.2.2.2.1 k hk).2.2 hS rfl dJ1_charAt_3b067_2 ?_
  refine xb_gov (wr := []) (va_runS (As := [.int (nI j), .int (nI (xe_lt k).2.2.2.length)]) (rest := []) ⟨hx, hb, hml, hown, htb⟩ (cs_check l D g (nI j) (nI (xe_lt k).2.2.2.length) (Array.size s.heap) (nI_pos (by have := xe_len k hk; omega)) (nI_lt hj (by have := xe_len k hk; omega))) (bg_S 2 htb bg_315 bg_316 bg_161 bg_309 rfl rfl (by decide +kernel) ⟨Nat.le_of_ble_eq_true rfl, Nat.le_of_ble_eq_true rfl⟩) ⟨xb_blind xe_ok, xb_enter xe_ok hK hP hD hS hA hE [] rfl rfl rfl [] rfl⟩ rfl rfl hl.1 rfl (lv_room (Nat.le_of_ble_eq_true rfl)) dJ1_charAt_3b067_3 ⟨Nat.le_of_ble_eq_true rfl, Nat.le_of_ble_eq_true rfl⟩) hK hP hD hS hA [] [] rfl rfl rfl (by decide) (fun u_3 H locs hw_3 hP hD hK hS => ?_)
  have hP : va_P D vwCl [] H := hP
  have hD : va_D A [] := hD
  have hK : va_K D vwCl [] s := hK
  refine W.widen (k := 0) (n := 0) (by decide) (by decide) ?_
  refine lv_aload_n hx hb dJ1_charAt_3b067_6 rfl (lv_at hl 0 rfl) ?_
  refine lv_iload_n hx hb dJ1_charAt_3b067_7 rfl (lv_at hl 1 rfl) ?_
  refine va_tb (v := .int ((xe_lt k).2.2.2.getD (Int32.toNatClampNeg (nI j)) 0)) hx hb (hE.2.2.2.2.2.2.2.1 k hk).2.2 hS (vp_in_nI hj (by have := xe_len k hk; omega)) rfl dJ1_charAt_3b067_8 ?_
  refine lv_sipush (v := 255) hx hb dJ1_charAt_3b067_9 (by decide) ?_
  refine lv_iand hx hb dJ1_charAt_3b067_12 ?_
  refine lv_i2c hx hb dJ1_charAt_3b067_13 rfl ?_
  refine lv_topi (fun x13_c ex13_c => ?_)
  have hP9 := hP.sub (ws' := []) [] rfl
  have hD9 := hD.sub (ws' := []) [] rfl rfl
  have hK9 := hK.sub (tys' := []) [] rfl
  exact W.zret (v := x13_c) hx hb hr (by rw [ex13_c]; exact pk_nc _) (fun t ht hW => ⟨⟨x13_c, (), rfl, by rw [ex13_c, nI_clamp (by have := xe_len k hk; omega)]; rfl, by rw [ht]; exact hP9, va_K.moved hW.alike hK9, hD9⟩, hS.F ht⟩) hS.2.2 dJ1_charAt_3b067_14
theorem dJ0_charAt_5068e_0 : decode cJ0_charAt_5068e 0 = .ok (.aload_n 0, 1) := by decide +kernel
theorem dJ0_charAt_5068e_1 : decode cJ0_charAt_5068e 1 = .ok (.invokevirtual 492, 3) := by decide +kernel
theorem dJ0_charAt_5068e_4 : decode cJ0_charAt_5068e 4 = .ok (.ifCond .eq 12, 3) := by decide +kernel
theorem dJ0_charAt_5068e_7 : decode cJ0_charAt_5068e 7 = .ok (.aload_n 0, 1) := by decide +kernel
theorem dJ0_charAt_5068e_8 : decode cJ0_charAt_5068e 8 = .ok (.getfield 9, 3) := by decide +kernel
theorem dJ0_charAt_5068e_11 : decode cJ0_charAt_5068e 11 = .ok (.iload_n 1, 1) := by decide +kernel
theorem dJ0_charAt_5068e_12 : decode cJ0_charAt_5068e 12 = .ok (.invokestatic 495, 3) := by decide +kernel
theorem dJ0_charAt_5068e_15 : decode cJ0_charAt_5068e 15 = .ok (.ireturn, 1) := by decide +kernel
set_option maxHeartbeats 4000000 in
set_option maxRecDepth 100000 in
theorem cs_charAt (l : Launch) (D : va_G) (g : xe_G) (k : Nat) (j : Nat) (sz : Nat) (hk : k < 3) (hj : j < (xe_lt k).2.2.2.length) : Met l yJ0_charAt_5068e (.code yJ0_charAt_5068e cJ0_charAt_5068e 2 (some .char) :: bg) ({ frames := 4, cells := 0, slots := 0, locals := 480 } : Room) (xb_Pre (xe_E g) D vwCl [] [] sz [.ref (g.2.1 k), .int (nI j)]) (va_Qi (fun r _ => r = xe_ch k j) (xb_B D vwCl (va_A [] sz) (fun u : Unit => []) (fun u : Unit => [])) (va_A [] sz)) 0 0 (va_A [] sz) := by
  refine Met.ofW (cc := cJ0_charAt_5068e) (maxL := 2) (ret := (some .char)) (by decide) rfl ?_
  intro p e s m args below meth c s₁ B hml hv
  obtain ⟨rfl, hsz, hP, hK, hD0, hE⟩ := hv
  have hx := B.exec
  have hb := B.bytes
  have hr := B.returns
  have hts := atoms_spec (ws := (.code yJ0_charAt_5068e cJ0_charAt_5068e 2 (some .char) :: bg)) B.pre
  have htb : ∀ w ∈ bg, w.before _ s = true := fun w h => hts w (List.mem_cons_of_mem _ h)
  have hown : s.vm.findClass RJ0 = some m.cls := findClass_of_methodNamed B.named
  have hlocks := B.notSynchronized
  subst hsz
  have hD := hD0.self (sz := s.heap.size)
  generalize hAe : va_A [] s.heap.size = A at hD hE ⊢
  have hA : ∀ q : Nat, s.heap.size ≤ q → A q := fun q h => by rw [← hAe]; exact Or.inr h
  have hS : va_S A s.heap s.heap [] := va_S.rf
  have hP : va_P D vwCl [] s.heap := hP
  have hl := lv_entry ([.ref (g.2.1 k), .int (nI j)]) (n := 2) (Nat.le_of_ble_eq_true rfl)
  rw [lg_entry_eq]
  generalize (lg_sl ([.ref (g.2.1 k), .int (nI j)]) ++ List.replicate (2 - (lg_sl ([.ref (g.2.1 k), .int (nI j)])).length) Slot.unset).toArray = ls at hl ⊢
  have hl : lv_has ls 2 [(0, .ref (g.2.1 k)), (1, .int (nI j))] := hl
  refine lv_aload_n hx hb dJ0_charAt_5068e_0 rfl (lv_at hl 0 rfl) ?_
  refine xb_goi (wr := []) (va_runV (As := []) (rest := []) ⟨hx, hb, hml, hown, htb⟩ (cs_latin l D g k (Array.size s.heap) (hk)) (bg_V 0 htb bg_299 bg_301 bg_302 bg_161 bg_300 rfl rfl (by decide +kernel) ⟨Nat.le_of_ble_eq_true rfl, Nat.le_of_ble_eq_true rfl⟩) ⟨xb_blind xe_ok, xe_recv hE hS k (by omega), xb_enter xe_ok hK hP hD hS hA hE [] rfl rfl rfl [] rfl⟩ rfl rfl hl.1 rfl (lv_room (Nat.le_of_ble_eq_true rfl)) dJ0_charAt_5068e_1 ⟨Nat.le_of_ble_eq_true rfl, Nat.le_of_ble_eq_true rfl⟩) hK hP hD hS hA [] [] rfl rfl rfl (by decide) (fun r_1 u_1 H locs hw_1 hP hD hK hS => ?_)
  have hP : va_P D vwCl [] H := hP
  have hD : va_D A [] := hD
  have hK : va_K D vwCl [] s := hK
  refine W.widen (k := 0) (n := 0) (by decide) (by decide) ?_
  have hw_1 : r_1 = 1 := hw_1
  subst hw_1
  refine lv_if_eq (tgt := 16) hx hb dJ0_charAt_5068e_4 (by decide) (fun c_4 => ?_) (fun c_4 => ?_)
  · exact absurd c_4 (by decide)
  refine lv_aload_n hx hb dJ0_charAt_5068e_7 rfl (lv_at hl 0 rfl) ?_
  refine vk_getf hx hb (hE.2.2.2.2.2.2.2.1 k hk).2.1 hS hown (htb _ bg_294) (fun _ h9 => h9) dJ0_charAt_5068e_8 ?_
  refine lv_iload_n hx hb dJ0_charAt_5068e_11 rfl (lv_at hl 1 rfl) ?_
  refine xb_goi (wr := []) (va_runS (As := [.ref (g.2.2 k), .int (nI j)]) (rest := []) ⟨hx, hb, hml, hown, htb⟩ (cs_lat1 l D g k j (Array.size H) (hk) (hj)) (bg_S 2 htb bg_303 bg_305 bg_306 bg_304 rfl rfl (by decide +kernel) ⟨Nat.le_of_ble_eq_true rfl, Nat.le_of_ble_eq_true rfl⟩) ⟨xb_blind xe_ok, xb_enter xe_ok hK hP hD hS hA hE [] rfl rfl rfl [] rfl⟩ rfl rfl hl.1 rfl (lv_room (Nat.le_of_ble_eq_true rfl)) dJ0_charAt_5068e_12 ⟨Nat.le_of_ble_eq_true rfl, Nat.le_of_ble_eq_true rfl⟩) hK hP hD hS hA [] [] rfl rfl rfl (by decide) (fun r_12 u_12 H locs hw_12 hP hD hK hS => ?_)
  have hP : va_P D vwCl [] H := hP
  have hD : va_D A [] := hD
  have hK : va_K D vwCl [] s := hK
  refine W.widen (k := 0) (n := 0) (by decide) (by decide) ?_
  have hw_12 : r_12 = (xe_ch k j) := hw_12
  subst hw_12
  have hP9 := hP.sub (ws' := []) [] rfl
  have hD9 := hD.sub (ws' := []) [] rfl rfl
  have hK9 := hK.sub (tys' := []) [] rfl
  exact W.zret (v := (xe_ch k j)) hx hb hr (xe_chn k j) (fun t ht hW => ⟨⟨(xe_ch k j), (), rfl, rfl, by rw [ht]; exact hP9, va_K.moved hW.alike hK9, hD9⟩, hS.F ht⟩) hS.2.2 dJ0_charAt_5068e_15
end
section
/-- the hash of the first n characters, and the bucket -/
def sy_h (f : Nat → Int32) : Nat → Int32
  | 0 => 7
  | n + 1 => 31 * sy_h f n + f n
def sy_i (f : Nat → Int32) (n : Nat) : Int32 := (sy_h f n ^^^ ((sy_h f n).toUInt32 >>> ((12 : Int32).toUInt32 &&& Int32.toUInt32 31)).toInt32) &&& 4095
theorem sy_same {f g : Nat → Int32} : ∀ n : Nat, (∀ j, j < n → f j = g j) → sy_h f n = sy_h g n
  | 0, _ => rfl
  | n + 1, h => by rw [sy_h, sy_h, sy_same n (fun j hj => h j (by omega)), h n (by omega)]
theorem sy_in (f : Nat → Int32) (n : Nat) : vp_in (sy_i f n) 4096 := pk_andIn _ 12 (by decide) (by decide)
theorem dX12_clear_12 : decode cX12_clear 12 = .ok (.iload_n 1, 1) := by decide +kernel
theorem dX12_clear_13 : decode cX12_clear 13 = .ok (.sipush 4096, 3) := by decide +kernel
theorem dX12_clear_16 : decode cX12_clear 16 = .ok (.if_icmp .ge 16, 3) := by decide +kernel
theorem dX12_clear_19 : decode cX12_clear 19 = .ok (.aload_n 0, 1) := by decide +kernel
theorem dX12_clear_20 : decode cX12_clear 20 = .ok (.getfield 31, 3) := by decide +kernel
theorem dX12_clear_23 : decode cX12_clear 23 = .ok (.iload_n 1, 1) := by decide +kernel
theorem dX12_clear_24 : decode cX12_clear 24 = .ok (.iconst (-1), 1) := by decide +kernel
theorem dX12_clear_25 : decode cX12_clear 25 = .ok (.iastore, 1) := by decide +kernel
theorem dX12_clear_26 : decode cX12_clear 26 = .ok (.iinc 1 1, 3) := by decide +kernel
theorem dX12_clear_29 : decode cX12_clear 29 = .ok (.goto (-17), 3) := by decide +kernel
set_option maxHeartbeats 4000000 in
set_option maxRecDepth 100000 in
theorem lp_clear {p : Program} {l : Launch} {e : Env} {R : Room} {s : State} {m : MethodId} {args : Array Value} {below : List Frame} {meth : Method} {c : Code} {Q : State → Prop} {D : va_G} {A : Nat → Prop} {cells slots : Nat} {m0 : Nat} {fs : List Value} {q1 : Nat} {q2 : Nat} {q4 : Nat} {q5 : Nat} {q6 : Nat} {q7 : Nat} {a1 : ClassId} {a2 : ClassId} {a4 : ClassId} {a5 : ClassId} {a6 : ClassId} {a7 : ClassId} {f1 : Nat → Int32} {f2 : Nat → Int32} {f4 : Nat → Int32} {f5 : Nat → Int32} {f6 : Nat → Int32} {qf : Nat} {qm : Nat} {y17 : Int32} {y18 : Int32} {y19 : Int32} {y73 : Int32} (hx : p.tables.exec = Jvm.exec) (hb : c.code = cX12_clear) (htb : ∀ w ∈ bg, w.before args s = true) (hown : s.vm.findClass RX12 = some m.cls) (hml : c.maxLocals = 2) (hA : ∀ q : Nat, s.heap.size ≤ q → A q)  (hm : md_has fs [(1, .ref q1), (2, .ref q2), (4, .ref q4), (5, .ref q5), (6, .ref q6), (7, .ref q7), (13, .ref qf), (15, .ref qm), (17, .int y17), (18, .int y18), (19, .int y19), (73, .int y73)]) (hK : va_K D vwCl [(a1, .char), (a2, .char), (a4, .int), (a5, .int), (a6, .int), (a7, .int)] s)
    (kont : ∀ (f7 : Nat → Int32) (H : Heap) (locs : List Loc) (ls : Array Slot), (∀ j, j < 4096 → f7 j = -1) → va_P D vwCl [(m0, .inr (12, fs)), (q1, .inl (a1, 66000, .inl f1)), (q2, .inl (a2, 66000, .inl f2)), (q4, .inl (a4, 24000, .inl f4)), (q5, .inl (a5, 24000, .inl f5)), (q6, .inl (a6, 24000, .inl f6)), (q7, .inl (a7, 4096, .inl f7))] H → va_D A [(m0, .inr (12, fs)), (q1, .inl (a1, 66000, .inl f1)), (q2, .inl (a2, 66000, .inl f2)), (q4, .inl (a4, 24000, .inl f4)), (q5, .inl (a5, 24000, .inl f5)), (q6, .inl (a6, 24000, .inl f6)), (q7, .inl (a7, 4096, .inl f7))] → va_S A s.heap H locs → lv_has ls 2 [(1, .int (nI 4096)), (0, .ref m0)] → W p l e R s m args below meth c H locs cells slots Q (F0 m 32 ls [])) :
    ∀ (n k : Nat) (f7 : Nat → Int32) (H : Heap) (locs : List Loc) (ls : Array Slot), k + n = 4096 → (∀ j, j < k → f7 j = -1) → va_P D vwCl [(m0, .inr (12, fs)), (q1, .inl (a1, 66000, .inl f1)), (q2, .inl (a2, 66000, .inl f2)), (q4, .inl (a4, 24000, .inl f4)), (q5, .inl (a5, 24000, .inl f5)), (q6, .inl (a6, 24000, .inl f6)), (q7, .inl (a7, 4096, .inl f7))] H → va_D A [(m0, .inr (12, fs)), (q1, .inl (a1, 66000, .inl f1)), (q2, .inl (a2, 66000, .inl f2)), (q4, .inl (a4, 24000, .inl f4)), (q5, .inl (a5, 24000, .inl f5)), (q6, .inl (a6, 24000, .inl f6)), (q7, .inl (a7, 4096, .inl f7))] → va_S A s.heap H locs → lv_has ls 2 [(1, .int (nI k)), (0, .ref m0)] → W p l e R s m args below meth c H locs cells slots Q (F0 m 12 ls []) := by
  intro n
  induction n with
  | zero =>
    intro k f7 H locs ls hkn hi hP hD hS hl
    have hk0 : k = 4096 := by omega
    subst hk0
    refine lv_iload_n hx hb dX12_clear_12 rfl (lv_at hl 0 rfl) ?_
    refine lv_sipush (v := 4096) hx hb dX12_clear_13 (by decide) ?_
    refine lv_icmp_ge (tgt := 32) hx hb dX12_clear_16 (by decide) (fun c_16 => ?_) (fun c_16 => ?_)
    rotate_left
    · exact absurd (by decide) c_16
    exact kont f7 H locs ls hi hP hD hS hl
  | succ n ih =>
    intro k f7 H locs ls hkn hi hP hD hS hl
    refine lv_iload_n hx hb dX12_clear_12 rfl (lv_at hl 0 rfl) ?_
    refine lv_sipush (v := 4096) hx hb dX12_clear_13 (by decide) ?_
    refine lv_icmp_ge (tgt := 32) hx hb dX12_clear_16 (by decide) (fun c_16 => ?_) (fun c_16 => ?_)
    · exact absurd c_16 (nI_ge (a := k) (b := 4096) (by omega) (by omega))
    refine lv_aload_n hx hb dX12_clear_19 rfl (lv_at hl 1 rfl) ?_
    refine va_get (D := D) (ci := 12) (v := .ref q7) (C := RX12) (T := TX12) (N := 82) hx hb htb bi_X12 hown hK hP 0 rfl rfl 7 (by decide) (htb _ bg_99) (fun _ h9 => h9) (md_at hm 5 rfl) dX12_clear_20 ?_
    refine lv_iload_n hx hb dX12_clear_23 rfl (lv_at hl 0 rfl) ?_
    refine lv_iconst (v := (-1)) hx hb dX12_clear_24 (by decide) ?_
    refine va_iast hx hb hK hP hD hS 6 5 rfl rfl (vp_in_nI (by omega) (by omega)) dX12_clear_25 (fun H locs hP hD hS => ?_)
    have hP : va_P D vwCl [(m0, .inr (12, fs)), (q1, .inl (a1, 66000, .inl f1)), (q2, .inl (a2, 66000, .inl f2)), (q4, .inl (a4, 24000, .inl f4)), (q5, .inl (a5, 24000, .inl f5)), (q6, .inl (a6, 24000, .inl f6)), (q7, .inl (a7, 4096, .inl (upd f7 (Int32.toNatClampNeg (nI k)) (-1))))] H := hP
    have hD : va_D A [(m0, .inr (12, fs)), (q1, .inl (a1, 66000, .inl f1)), (q2, .inl (a2, 66000, .inl f2)), (q4, .inl (a4, 24000, .inl f4)), (q5, .inl (a5, 24000, .inl f5)), (q6, .inl (a6, 24000, .inl f6)), (q7, .inl (a7, 4096, .inl (upd f7 (Int32.toNatClampNeg (nI k)) (-1))))] := hD
    refine lv_iinc (v := (nI (k + 1))) (lv' := [(1, .int (nI (k + 1))), (0, .ref m0)]) hx hb dX12_clear_26 hl (k := 0) rfl (nI_1 k) (by decide) rfl (fun ls hl => ?_)
    refine lv_goto (tgt := 12) hx hb dX12_clear_29 (by decide) ?_
    exact ih (k + 1) _ _ _ _ (by omega) (fun j hj => by rw [nI_clamp (n := k) (by omega)]; by_cases e : j = k
      · subst e; exact pk_us
      · rw [pk_un e]; exact hi j (by omega)) hP hD hS hl
end
