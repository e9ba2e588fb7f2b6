section
-- ===== PART A: goes FIRST, ahead of the names: the tables' words, and 'selects' of the private methods out of them =====
/-- a private method of a class that the tables say can be made, by its rows of tables_1 -/
def lw_okq (q : MethodName × Nat) : Prop := (q.1.cls ≠ "java/lang/invoke/MethodHandle" ∧ q.1.cls ≠ "java/lang/invoke/VarHandle") ∧ Cond.instantiable q.1.cls q.2 ∈ tables_1 ∧ Cond.privateMethod q.1 ∈ tables_1 ∧ Cond.instanceMethod q.1 ∈ tables_1
theorem lw_p0 : lw_okq (⟨"ClassGate$Reader", "takes", "(I)Z"⟩, 5) := ⟨⟨by decide +kernel, by decide +kernel⟩, List.mem_of_getElem? (i := 229) (by decide +kernel), List.mem_of_getElem? (i := 255) (by decide +kernel), List.mem_of_getElem? (i := 256) (by decide +kernel)⟩
theorem lw_p1 : lw_okq (⟨"ClassGate$Reader", "takesEntry", "(I)Z"⟩, 5) := ⟨⟨by decide +kernel, by decide +kernel⟩, List.mem_of_getElem? (i := 229) (by decide +kernel), List.mem_of_getElem? (i := 286) (by decide +kernel), List.mem_of_getElem? (i := 287) (by decide +kernel)⟩
theorem lw_p2 : lw_okq (⟨"ClassGate$Reader", "isTag", "(I)Z"⟩, 5) := ⟨⟨by decide +kernel, by decide +kernel⟩, List.mem_of_getElem? (i := 229) (by decide +kernel), List.mem_of_getElem? (i := 290) (by decide +kernel), List.mem_of_getElem? (i := 291) (by decide +kernel)⟩
theorem lw_p3 : lw_okq (⟨"ClassGate$Reader", "takesText", "(I)Z"⟩, 5) := ⟨⟨by decide +kernel, by decide +kernel⟩, List.mem_of_getElem? (i := 229) (by decide +kernel), List.mem_of_getElem? (i := 298) (by decide +kernel), List.mem_of_getElem? (i := 299) (by decide +kernel)⟩
theorem lw_p4 : lw_okq (⟨"ClassGate$Reader", "characterSize", "(I)I"⟩, 5) := ⟨⟨by decide +kernel, by decide +kernel⟩, List.mem_of_getElem? (i := 229) (by decide +kernel), List.mem_of_getElem? (i := 302) (by decide +kernel), List.mem_of_getElem? (i := 303) (by decide +kernel)⟩
theorem lw_p5 : lw_okq (⟨"ClassGate$Reader", "characterOf", "(I)I"⟩, 5) := ⟨⟨by decide +kernel, by decide +kernel⟩, List.mem_of_getElem? (i := 229) (by decide +kernel), List.mem_of_getElem? (i := 310) (by decide +kernel), List.mem_of_getElem? (i := 311) (by decide +kernel)⟩
theorem lw_p6 : lw_okq (⟨"ClassGate$Reader", "takesIndexes", "(II)Z"⟩, 5) := ⟨⟨by decide +kernel, by decide +kernel⟩, List.mem_of_getElem? (i := 229) (by decide +kernel), List.mem_of_getElem? (i := 322) (by decide +kernel), List.mem_of_getElem? (i := 323) (by decide +kernel)⟩
theorem lw_p7 : lw_okq (⟨"ClassGate$Reader", "roomFor", "(I)I"⟩, 5) := ⟨⟨by decide +kernel, by decide +kernel⟩, List.mem_of_getElem? (i := 229) (by decide +kernel), List.mem_of_getElem? (i := 342) (by decide +kernel), List.mem_of_getElem? (i := 343) (by decide +kernel)⟩
theorem lw_p8 : lw_okq (⟨"ClassGate$Reader", "takesMembers", "([LClassGate$Member;I)Z"⟩, 5) := ⟨⟨by decide +kernel, by decide +kernel⟩, List.mem_of_getElem? (i := 229) (by decide +kernel), List.mem_of_getElem? (i := 349) (by decide +kernel), List.mem_of_getElem? (i := 350) (by decide +kernel)⟩
theorem lw_p9 : lw_okq (⟨"ClassGate$Reader", "takesAttributes", "()Z"⟩, 5) := ⟨⟨by decide +kernel, by decide +kernel⟩, List.mem_of_getElem? (i := 229) (by decide +kernel), List.mem_of_getElem? (i := 353) (by decide +kernel), List.mem_of_getElem? (i := 354) (by decide +kernel)⟩
theorem lw_p10 : lw_okq (⟨"ClassGate$Pool", "shapeOf", "(II)I"⟩, 8) := ⟨⟨by decide +kernel, by decide +kernel⟩, List.mem_of_getElem? (i := 75) (by decide +kernel), List.mem_of_getElem? (i := 429) (by decide +kernel), List.mem_of_getElem? (i := 430) (by decide +kernel)⟩
theorem lw_p11 : lw_okq (⟨"ClassGate$Pool", "methodShape", "(II)I"⟩, 8) := ⟨⟨by decide +kernel, by decide +kernel⟩, List.mem_of_getElem? (i := 75) (by decide +kernel), List.mem_of_getElem? (i := 433) (by decide +kernel), List.mem_of_getElem? (i := 434) (by decide +kernel)⟩
theorem lw_p12 : lw_okq (⟨"ClassGate$Pool", "typeEnd", "(II)I"⟩, 8) := ⟨⟨by decide +kernel, by decide +kernel⟩, List.mem_of_getElem? (i := 75) (by decide +kernel), List.mem_of_getElem? (i := 440) (by decide +kernel), List.mem_of_getElem? (i := 441) (by decide +kernel)⟩
theorem lw_p13 : lw_okq (⟨"ClassGate$Pool", "nameEnd", "(II)I"⟩, 8) := ⟨⟨by decide +kernel, by decide +kernel⟩, List.mem_of_getElem? (i := 75) (by decide +kernel), List.mem_of_getElem? (i := 444) (by decide +kernel), List.mem_of_getElem? (i := 445) (by decide +kernel)⟩
theorem lw_p14 : lw_okq (⟨"ClassGate$PoolCheck", "linksHold", "(I)Z"⟩, 3) := ⟨⟨by decide +kernel, by decide +kernel⟩, List.mem_of_getElem? (i := 448) (by decide +kernel), List.mem_of_getElem? (i := 512) (by decide +kernel), List.mem_of_getElem? (i := 513) (by decide +kernel)⟩
theorem lw_p15 : lw_okq (⟨"ClassGate$PoolCheck", "pairHolds", "(I)Z"⟩, 3) := ⟨⟨by decide +kernel, by decide +kernel⟩, List.mem_of_getElem? (i := 448) (by decide +kernel), List.mem_of_getElem? (i := 521) (by decide +kernel), List.mem_of_getElem? (i := 522) (by decide +kernel)⟩
def lw_privs_1 : List (MethodName × Nat) := [(⟨"ClassGate$Reader", "takes", "(I)Z"⟩, 5), (⟨"ClassGate$Reader", "takesEntry", "(I)Z"⟩, 5), (⟨"ClassGate$Reader", "isTag", "(I)Z"⟩, 5), (⟨"ClassGate$Reader", "takesText", "(I)Z"⟩, 5), (⟨"ClassGate$Reader", "characterSize", "(I)I"⟩, 5), (⟨"ClassGate$Reader", "characterOf", "(I)I"⟩, 5), (⟨"ClassGate$Reader", "takesIndexes", "(II)Z"⟩, 5), (⟨"ClassGate$Reader", "roomFor", "(I)I"⟩, 5), (⟨"ClassGate$Reader", "takesMembers", "([LClassGate$Member;I)Z"⟩, 5), (⟨"ClassGate$Reader", "takesAttributes", "()Z"⟩, 5), (⟨"ClassGate$Pool", "shapeOf", "(II)I"⟩, 8), (⟨"ClassGate$Pool", "methodShape", "(II)I"⟩, 8), (⟨"ClassGate$Pool", "typeEnd", "(II)I"⟩, 8), (⟨"ClassGate$Pool", "nameEnd", "(II)I"⟩, 8), (⟨"ClassGate$PoolCheck", "linksHold", "(I)Z"⟩, 3), (⟨"ClassGate$PoolCheck", "pairHolds", "(I)Z"⟩, 3)]
theorem lw_r1 : ∀ q ∈ lw_privs_1, lw_okq q := List.forall_mem_cons.mpr ⟨lw_p0, List.forall_mem_cons.mpr ⟨lw_p1, List.forall_mem_cons.mpr ⟨lw_p2, List.forall_mem_cons.mpr ⟨lw_p3, List.forall_mem_cons.mpr ⟨lw_p4, List.forall_mem_cons.mpr ⟨lw_p5, List.forall_mem_cons.mpr ⟨lw_p6, List.forall_mem_cons.mpr ⟨lw_p7, List.forall_mem_cons.mpr ⟨lw_p8, List.forall_mem_cons.mpr ⟨lw_p9, List.forall_mem_cons.mpr ⟨lw_p10, List.forall_mem_cons.mpr ⟨lw_p11, List.forall_mem_cons.mpr ⟨lw_p12, List.forall_mem_cons.mpr ⟨lw_p13, List.forall_mem_cons.mpr ⟨lw_p14, List.forall_mem_cons.mpr ⟨lw_p15, fun _ h => absurd h List.not_mem_nil⟩⟩⟩⟩⟩⟩⟩⟩⟩⟩⟩⟩⟩⟩⟩⟩
theorem lw_p16 : lw_okq (⟨"ClassGate$PoolCheck", "memberHolds", "(I)Z"⟩, 3) := ⟨⟨by decide +kernel, by decide +kernel⟩, List.mem_of_getElem? (i := 448) (by decide +kernel), List.mem_of_getElem? (i := 529) (by decide +kernel), List.mem_of_getElem? (i := 530) (by decide +kernel)⟩
theorem lw_p17 : lw_okq (⟨"ClassGate$PoolCheck", "isMember", "(I)Z"⟩, 3) := ⟨⟨by decide +kernel, by decide +kernel⟩, List.mem_of_getElem? (i := 448) (by decide +kernel), List.mem_of_getElem? (i := 533) (by decide +kernel), List.mem_of_getElem? (i := 534) (by decide +kernel)⟩
theorem lw_p18 : lw_okq (⟨"ClassGate$PoolCheck", "brokenRule", "(I)I"⟩, 3) := ⟨⟨by decide +kernel, by decide +kernel⟩, List.mem_of_getElem? (i := 448) (by decide +kernel), List.mem_of_getElem? (i := 537) (by decide +kernel), List.mem_of_getElem? (i := 538) (by decide +kernel)⟩
theorem lw_p19 : lw_okq (⟨"ClassGate$PoolCheck", "isNameWithType", "(I)Z"⟩, 3) := ⟨⟨by decide +kernel, by decide +kernel⟩, List.mem_of_getElem? (i := 448) (by decide +kernel), List.mem_of_getElem? (i := 557) (by decide +kernel), List.mem_of_getElem? (i := 558) (by decide +kernel)⟩
theorem lw_p20 : lw_okq (⟨"ClassGate$PoolCheck", "isMethodRef", "(I)Z"⟩, 3) := ⟨⟨by decide +kernel, by decide +kernel⟩, List.mem_of_getElem? (i := 448) (by decide +kernel), List.mem_of_getElem? (i := 575) (by decide +kernel), List.mem_of_getElem? (i := 576) (by decide +kernel)⟩
theorem lw_p21 : lw_okq (⟨"ClassGate$PoolCheck", "isHandle", "(II)Z"⟩, 3) := ⟨⟨by decide +kernel, by decide +kernel⟩, List.mem_of_getElem? (i := 448) (by decide +kernel), List.mem_of_getElem? (i := 651) (by decide +kernel), List.mem_of_getElem? (i := 652) (by decide +kernel)⟩
theorem lw_p22 : lw_okq (⟨"ClassGate$ClassCheck", "fieldHolds", "(LClassGate$Member;I)Z"⟩, 5) := ⟨⟨by decide +kernel, by decide +kernel⟩, List.mem_of_getElem? (i := 486) (by decide +kernel), List.mem_of_getElem? (i := 697) (by decide +kernel), List.mem_of_getElem? (i := 698) (by decide +kernel)⟩
theorem lw_p23 : lw_okq (⟨"ClassGate$ClassCheck", "fieldFlagsHold", "(I)Z"⟩, 5) := ⟨⟨by decide +kernel, by decide +kernel⟩, List.mem_of_getElem? (i := 486) (by decide +kernel), List.mem_of_getElem? (i := 701) (by decide +kernel), List.mem_of_getElem? (i := 702) (by decide +kernel)⟩
theorem lw_p24 : lw_okq (⟨"ClassGate$AttributeCheck", "isNew", "(II)Z"⟩, 5) := ⟨⟨by decide +kernel, by decide +kernel⟩, List.mem_of_getElem? (i := 464) (by decide +kernel), List.mem_of_getElem? (i := 728) (by decide +kernel), List.mem_of_getElem? (i := 729) (by decide +kernel)⟩
theorem lw_p25 : lw_okq (⟨"ClassGate$AttributeCheck", "hasSeen", "(I)Z"⟩, 5) := ⟨⟨by decide +kernel, by decide +kernel⟩, List.mem_of_getElem? (i := 464) (by decide +kernel), List.mem_of_getElem? (i := 734) (by decide +kernel), List.mem_of_getElem? (i := 735) (by decide +kernel)⟩
theorem lw_p26 : lw_okq (⟨"ClassGate$AttributeCheck", "behind", "(I)I"⟩, 5) := ⟨⟨by decide +kernel, by decide +kernel⟩, List.mem_of_getElem? (i := 464) (by decide +kernel), List.mem_of_getElem? (i := 738) (by decide +kernel), List.mem_of_getElem? (i := 739) (by decide +kernel)⟩
theorem lw_p27 : lw_okq (⟨"ClassGate$AttributeCheck", "formEnd", "(III)I"⟩, 5) := ⟨⟨by decide +kernel, by decide +kernel⟩, List.mem_of_getElem? (i := 464) (by decide +kernel), List.mem_of_getElem? (i := 743) (by decide +kernel), List.mem_of_getElem? (i := 744) (by decide +kernel)⟩
theorem lw_p28 : lw_okq (⟨"ClassGate$AttributeCheck", "bootstrapsEnd", "(II)I"⟩, 5) := ⟨⟨by decide +kernel, by decide +kernel⟩, List.mem_of_getElem? (i := 464) (by decide +kernel), List.mem_of_getElem? (i := 747) (by decide +kernel), List.mem_of_getElem? (i := 748) (by decide +kernel)⟩
theorem lw_p29 : lw_okq (⟨"ClassGate$AttributeCheck", "recordEnd", "(II)I"⟩, 5) := ⟨⟨by decide +kernel, by decide +kernel⟩, List.mem_of_getElem? (i := 464) (by decide +kernel), List.mem_of_getElem? (i := 751) (by decide +kernel), List.mem_of_getElem? (i := 752) (by decide +kernel)⟩
theorem lw_p30 : lw_okq (⟨"ClassGate$AttributeCheck", "codeEnd", "(II)I"⟩, 5) := ⟨⟨by decide +kernel, by decide +kernel⟩, List.mem_of_getElem? (i := 464) (by decide +kernel), List.mem_of_getElem? (i := 760) (by decide +kernel), List.mem_of_getElem? (i := 761) (by decide +kernel)⟩
theorem lw_p31 : lw_okq (⟨"ClassGate$AttributeCheck", "constantTag", "(I)I"⟩, 5) := ⟨⟨by decide +kernel, by decide +kernel⟩, List.mem_of_getElem? (i := 464) (by decide +kernel), List.mem_of_getElem? (i := 768) (by decide +kernel), List.mem_of_getElem? (i := 769) (by decide +kernel)⟩
def lw_privs_2 : List (MethodName × Nat) := [(⟨"ClassGate$PoolCheck", "memberHolds", "(I)Z"⟩, 3), (⟨"ClassGate$PoolCheck", "isMember", "(I)Z"⟩, 3), (⟨"ClassGate$PoolCheck", "brokenRule", "(I)I"⟩, 3), (⟨"ClassGate$PoolCheck", "isNameWithType", "(I)Z"⟩, 3), (⟨"ClassGate$PoolCheck", "isMethodRef", "(I)Z"⟩, 3), (⟨"ClassGate$PoolCheck", "isHandle", "(II)Z"⟩, 3), (⟨"ClassGate$ClassCheck", "fieldHolds", "(LClassGate$Member;I)Z"⟩, 5), (⟨"ClassGate$ClassCheck", "fieldFlagsHold", "(I)Z"⟩, 5), (⟨"ClassGate$AttributeCheck", "isNew", "(II)Z"⟩, 5), (⟨"ClassGate$AttributeCheck", "hasSeen", "(I)Z"⟩, 5), (⟨"ClassGate$AttributeCheck", "behind", "(I)I"⟩, 5), (⟨"ClassGate$AttributeCheck", "formEnd", "(III)I"⟩, 5), (⟨"ClassGate$AttributeCheck", "bootstrapsEnd", "(II)I"⟩, 5), (⟨"ClassGate$AttributeCheck", "recordEnd", "(II)I"⟩, 5), (⟨"ClassGate$AttributeCheck", "codeEnd", "(II)I"⟩, 5), (⟨"ClassGate$AttributeCheck", "constantTag", "(I)I"⟩, 5)]
theorem lw_r2 : ∀ q ∈ lw_privs_2, lw_okq q := List.forall_mem_cons.mpr ⟨lw_p16, List.forall_mem_cons.mpr ⟨lw_p17, List.forall_mem_cons.mpr ⟨lw_p18, List.forall_mem_cons.mpr ⟨lw_p19, List.forall_mem_cons.mpr ⟨lw_p20, List.forall_mem_cons.mpr ⟨lw_p21, List.forall_mem_cons.mpr ⟨lw_p22, List.forall_mem_cons.mpr ⟨lw_p23, List.forall_mem_cons.mpr ⟨lw_p24, List.forall_mem_cons.mpr ⟨lw_p25, List.forall_mem_cons.mpr ⟨lw_p26, List.forall_mem_cons.mpr ⟨lw_p27, List.forall_mem_cons.mpr ⟨lw_p28, List.forall_mem_cons.mpr ⟨lw_p29, List.forall_mem_cons.mpr ⟨lw_p30, List.forall_mem_cons.mpr ⟨lw_p31, fun _ h => absurd h List.not_mem_nil⟩⟩⟩⟩⟩⟩⟩⟩⟩⟩⟩⟩⟩⟩⟩⟩
theorem lw_p32 : lw_okq (⟨"ClassGate$ClassCheck", "methodHolds", "(LClassGate$Member;I)Z"⟩, 5) := ⟨⟨by decide +kernel, by decide +kernel⟩, List.mem_of_getElem? (i := 486) (by decide +kernel), List.mem_of_getElem? (i := 780) (by decide +kernel), List.mem_of_getElem? (i := 781) (by decide +kernel)⟩
theorem lw_p33 : lw_okq (⟨"ClassGate$ClassCheck", "methodNameHolds", "(I)Z"⟩, 5) := ⟨⟨by decide +kernel, by decide +kernel⟩, List.mem_of_getElem? (i := 486) (by decide +kernel), List.mem_of_getElem? (i := 784) (by decide +kernel), List.mem_of_getElem? (i := 785) (by decide +kernel)⟩
theorem lw_p34 : lw_okq (⟨"ClassGate$ClassCheck", "methodFlagsHold", "(LClassGate$Member;)Z"⟩, 5) := ⟨⟨by decide +kernel, by decide +kernel⟩, List.mem_of_getElem? (i := 486) (by decide +kernel), List.mem_of_getElem? (i := 791) (by decide +kernel), List.mem_of_getElem? (i := 792) (by decide +kernel)⟩
theorem lw_p35 : lw_okq (⟨"ClassGate$ClassCheck", "abstractHolds", "(LClassGate$Member;)Z"⟩, 5) := ⟨⟨by decide +kernel, by decide +kernel⟩, List.mem_of_getElem? (i := 486) (by decide +kernel), List.mem_of_getElem? (i := 796) (by decide +kernel), List.mem_of_getElem? (i := 797) (by decide +kernel)⟩
theorem lw_p36 : lw_okq (⟨"ClassGate$ClassCheck", "interfaceMethodHolds", "(LClassGate$Member;)Z"⟩, 5) := ⟨⟨by decide +kernel, by decide +kernel⟩, List.mem_of_getElem? (i := 486) (by decide +kernel), List.mem_of_getElem? (i := 800) (by decide +kernel), List.mem_of_getElem? (i := 801) (by decide +kernel)⟩
theorem lw_p37 : lw_okq (⟨"ClassGate$ClassCheck", "methodDescriptorHolds", "(LClassGate$Member;)Z"⟩, 5) := ⟨⟨by decide +kernel, by decide +kernel⟩, List.mem_of_getElem? (i := 486) (by decide +kernel), List.mem_of_getElem? (i := 808) (by decide +kernel), List.mem_of_getElem? (i := 809) (by decide +kernel)⟩
theorem lw_p38 : lw_okq (⟨"ClassGate$AttributeCheck", "methodKind", "(I)I"⟩, 5) := ⟨⟨by decide +kernel, by decide +kernel⟩, List.mem_of_getElem? (i := 464) (by decide +kernel), List.mem_of_getElem? (i := 818) (by decide +kernel), List.mem_of_getElem? (i := 819) (by decide +kernel)⟩
theorem lw_p39 : lw_okq (⟨"ClassGate$AttributeCheck", "codeHolds", "(LClassGate$Member;I)Z"⟩, 5) := ⟨⟨by decide +kernel, by decide +kernel⟩, List.mem_of_getElem? (i := 464) (by decide +kernel), List.mem_of_getElem? (i := 824) (by decide +kernel), List.mem_of_getElem? (i := 825) (by decide +kernel)⟩
theorem lw_p40 : lw_okq (⟨"ClassGate$AttributeCheck", "rowHolds", "(LClassGate$Code;I)Z"⟩, 5) := ⟨⟨by decide +kernel, by decide +kernel⟩, List.mem_of_getElem? (i := 464) (by decide +kernel), List.mem_of_getElem? (i := 930) (by decide +kernel), List.mem_of_getElem? (i := 931) (by decide +kernel)⟩
theorem lw_p41 : lw_okq (⟨"ClassGate$AttributeCheck", "codeAttributesHold", "(I)Z"⟩, 5) := ⟨⟨by decide +kernel, by decide +kernel⟩, List.mem_of_getElem? (i := 464) (by decide +kernel), List.mem_of_getElem? (i := 934) (by decide +kernel), List.mem_of_getElem? (i := 935) (by decide +kernel)⟩
theorem lw_p42 : lw_okq (⟨"ClassGate$AttributeCheck", "areClasses", "(I)Z"⟩, 5) := ⟨⟨by decide +kernel, by decide +kernel⟩, List.mem_of_getElem? (i := 464) (by decide +kernel), List.mem_of_getElem? (i := 939) (by decide +kernel), List.mem_of_getElem? (i := 940) (by decide +kernel)⟩
theorem lw_p43 : lw_okq (⟨"ClassGate$ClassCheck", "codeIsDue", "(LClassGate$Member;)Z"⟩, 5) := ⟨⟨by decide +kernel, by decide +kernel⟩, List.mem_of_getElem? (i := 486) (by decide +kernel), List.mem_of_getElem? (i := 943) (by decide +kernel), List.mem_of_getElem? (i := 944) (by decide +kernel)⟩
theorem lw_p44 : lw_okq (⟨"ClassGate$AttributeCheck", "classKind", "(I)I"⟩, 5) := ⟨⟨by decide +kernel, by decide +kernel⟩, List.mem_of_getElem? (i := 464) (by decide +kernel), List.mem_of_getElem? (i := 951) (by decide +kernel), List.mem_of_getElem? (i := 952) (by decide +kernel)⟩
theorem lw_p45 : lw_okq (⟨"ClassGate$AttributeCheck", "brokenRule", "(II)I"⟩, 5) := ⟨⟨by decide +kernel, by decide +kernel⟩, List.mem_of_getElem? (i := 464) (by decide +kernel), List.mem_of_getElem? (i := 961) (by decide +kernel), List.mem_of_getElem? (i := 962) (by decide +kernel)⟩
theorem lw_p46 : lw_okq (⟨"ClassGate$AttributeCheck", "innerClassesHold", "(I)Z"⟩, 5) := ⟨⟨by decide +kernel, by decide +kernel⟩, List.mem_of_getElem? (i := 464) (by decide +kernel), List.mem_of_getElem? (i := 965) (by decide +kernel), List.mem_of_getElem? (i := 966) (by decide +kernel)⟩
theorem lw_p47 : lw_okq (⟨"ClassGate$AttributeCheck", "recordHolds", "(I)Z"⟩, 5) := ⟨⟨by decide +kernel, by decide +kernel⟩, List.mem_of_getElem? (i := 464) (by decide +kernel), List.mem_of_getElem? (i := 970) (by decide +kernel), List.mem_of_getElem? (i := 971) (by decide +kernel)⟩
def lw_privs_3 : List (MethodName × Nat) := [(⟨"ClassGate$ClassCheck", "methodHolds", "(LClassGate$Member;I)Z"⟩, 5), (⟨"ClassGate$ClassCheck", "methodNameHolds", "(I)Z"⟩, 5), (⟨"ClassGate$ClassCheck", "methodFlagsHold", "(LClassGate$Member;)Z"⟩, 5), (⟨"ClassGate$ClassCheck", "abstractHolds", "(LClassGate$Member;)Z"⟩, 5), (⟨"ClassGate$ClassCheck", "interfaceMethodHolds", "(LClassGate$Member;)Z"⟩, 5), (⟨"ClassGate$ClassCheck", "methodDescriptorHolds", "(LClassGate$Member;)Z"⟩, 5), (⟨"ClassGate$AttributeCheck", "methodKind", "(I)I"⟩, 5), (⟨"ClassGate$AttributeCheck", "codeHolds", "(LClassGate$Member;I)Z"⟩, 5), (⟨"ClassGate$AttributeCheck", "rowHolds", "(LClassGate$Code;I)Z"⟩, 5), (⟨"ClassGate$AttributeCheck", "codeAttributesHold", "(I)Z"⟩, 5), (⟨"ClassGate$AttributeCheck", "areClasses", "(I)Z"⟩, 5), (⟨"ClassGate$ClassCheck", "codeIsDue", "(LClassGate$Member;)Z"⟩, 5), (⟨"ClassGate$AttributeCheck", "classKind", "(I)I"⟩, 5), (⟨"ClassGate$AttributeCheck", "brokenRule", "(II)I"⟩, 5), (⟨"ClassGate$AttributeCheck", "innerClassesHold", "(I)Z"⟩, 5), (⟨"ClassGate$AttributeCheck", "recordHolds", "(I)Z"⟩, 5)]
theorem lw_r3 : ∀ q ∈ lw_privs_3, lw_okq q := List.forall_mem_cons.mpr ⟨lw_p32, List.forall_mem_cons.mpr ⟨lw_p33, List.forall_mem_cons.mpr ⟨lw_p34, List.forall_mem_cons.mpr ⟨lw_p35, List.forall_mem_cons.mpr ⟨lw_p36, List.forall_mem_cons.mpr ⟨lw_p37, List.forall_mem_cons.mpr ⟨lw_p38, List.forall_mem_cons.mpr ⟨lw_p39, List.forall_mem_cons.mpr ⟨lw_p40, List.forall_mem_cons.mpr ⟨lw_p41, List.forall_mem_cons.mpr ⟨lw_p42, List.forall_mem_cons.mpr ⟨lw_p43, List.forall_mem_cons.mpr ⟨lw_p44, List.forall_mem_cons.mpr ⟨lw_p45, List.forall_mem_cons.mpr ⟨lw_p46, List.forall_mem_cons.mpr ⟨lw_p47, fun _ h => absurd h List.not_mem_nil⟩⟩⟩⟩⟩⟩⟩⟩⟩⟩⟩⟩⟩⟩⟩⟩
theorem lw_p48 : lw_okq (⟨"ClassGate$AttributeCheck", "bootstrapsHold", "()Z"⟩, 5) := ⟨⟨by decide +kernel, by decide +kernel⟩, List.mem_of_getElem? (i := 464) (by decide +kernel), List.mem_of_getElem? (i := 976) (by decide +kernel), List.mem_of_getElem? (i := 977) (by decide +kernel)⟩
theorem lw_p49 : lw_okq (⟨"ClassGate", "codeOf", "(I)LClassGate$Code;"⟩, 5) := ⟨⟨by decide +kernel, by decide +kernel⟩, List.mem_of_getElem? (i := 28) (by decide +kernel), List.mem_of_getElem? (i := 1029) (by decide +kernel), List.mem_of_getElem? (i := 1030) (by decide +kernel)⟩
theorem lw_p50 : lw_okq (⟨"ClassGate$Instruction", "u1", "(I)I"⟩, 12) := ⟨⟨by decide +kernel, by decide +kernel⟩, List.mem_of_getElem? (i := 836) (by decide +kernel), List.mem_of_getElem? (i := 1046) (by decide +kernel), List.mem_of_getElem? (i := 1047) (by decide +kernel)⟩
theorem lw_p51 : lw_okq (⟨"ClassGate$Instruction", "isSwitchTaken", "()Z"⟩, 12) := ⟨⟨by decide +kernel, by decide +kernel⟩, List.mem_of_getElem? (i := 836) (by decide +kernel), List.mem_of_getElem? (i := 1055) (by decide +kernel), List.mem_of_getElem? (i := 1056) (by decide +kernel)⟩
theorem lw_p52 : lw_okq (⟨"ClassGate$Instruction", "isTableTaken", "()Z"⟩, 12) := ⟨⟨by decide +kernel, by decide +kernel⟩, List.mem_of_getElem? (i := 836) (by decide +kernel), List.mem_of_getElem? (i := 1059) (by decide +kernel), List.mem_of_getElem? (i := 1060) (by decide +kernel)⟩
theorem lw_p53 : lw_okq (⟨"ClassGate$Instruction", "s4", "(I)I"⟩, 12) := ⟨⟨by decide +kernel, by decide +kernel⟩, List.mem_of_getElem? (i := 836) (by decide +kernel), List.mem_of_getElem? (i := 1063) (by decide +kernel), List.mem_of_getElem? (i := 1064) (by decide +kernel)⟩
theorem lw_p54 : lw_okq (⟨"ClassGate$Instruction", "isLookupTaken", "()Z"⟩, 12) := ⟨⟨by decide +kernel, by decide +kernel⟩, List.mem_of_getElem? (i := 836) (by decide +kernel), List.mem_of_getElem? (i := 1069) (by decide +kernel), List.mem_of_getElem? (i := 1070) (by decide +kernel)⟩
theorem lw_p55 : lw_okq (⟨"ClassGate$Instruction", "isWideTaken", "()Z"⟩, 12) := ⟨⟨by decide +kernel, by decide +kernel⟩, List.mem_of_getElem? (i := 836) (by decide +kernel), List.mem_of_getElem? (i := 1077) (by decide +kernel), List.mem_of_getElem? (i := 1078) (by decide +kernel)⟩
theorem lw_p56 : lw_okq (⟨"ClassGate$Instruction", "u2", "(I)I"⟩, 12) := ⟨⟨by decide +kernel, by decide +kernel⟩, List.mem_of_getElem? (i := 836) (by decide +kernel), List.mem_of_getElem? (i := 1081) (by decide +kernel), List.mem_of_getElem? (i := 1082) (by decide +kernel)⟩
theorem lw_p57 : lw_okq (⟨"ClassGate$Instruction", "isLocalTaken", "(I)Z"⟩, 12) := ⟨⟨by decide +kernel, by decide +kernel⟩, List.mem_of_getElem? (i := 836) (by decide +kernel), List.mem_of_getElem? (i := 1089) (by decide +kernel), List.mem_of_getElem? (i := 1090) (by decide +kernel)⟩
theorem lw_p58 : lw_okq (⟨"ClassGate$Instruction", "areOperandsTaken", "()Z"⟩, 12) := ⟨⟨by decide +kernel, by decide +kernel⟩, List.mem_of_getElem? (i := 836) (by decide +kernel), List.mem_of_getElem? (i := 1096) (by decide +kernel), List.mem_of_getElem? (i := 1097) (by decide +kernel)⟩
theorem lw_p59 : lw_okq (⟨"ClassGate$Instruction", "isShortLocalTaken", "(II)Z"⟩, 12) := ⟨⟨by decide +kernel, by decide +kernel⟩, List.mem_of_getElem? (i := 836) (by decide +kernel), List.mem_of_getElem? (i := 1100) (by decide +kernel), List.mem_of_getElem? (i := 1101) (by decide +kernel)⟩
theorem lw_p60 : lw_okq (⟨"ClassGate$Instruction", "isJumpTaken", "(II)Z"⟩, 12) := ⟨⟨by decide +kernel, by decide +kernel⟩, List.mem_of_getElem? (i := 836) (by decide +kernel), List.mem_of_getElem? (i := 1104) (by decide +kernel), List.mem_of_getElem? (i := 1105) (by decide +kernel)⟩
theorem lw_p61 : lw_okq (⟨"ClassGate$Instruction", "isIndexTaken", "()Z"⟩, 12) := ⟨⟨by decide +kernel, by decide +kernel⟩, List.mem_of_getElem? (i := 836) (by decide +kernel), List.mem_of_getElem? (i := 1108) (by decide +kernel), List.mem_of_getElem? (i := 1109) (by decide +kernel)⟩
theorem lw_p62 : lw_okq (⟨"ClassGate$Code", "operandsHold", "()Z"⟩, 11) := ⟨⟨by decide +kernel, by decide +kernel⟩, List.mem_of_getElem? (i := 828) (by decide +kernel), List.mem_of_getElem? (i := 1112) (by decide +kernel), List.mem_of_getElem? (i := 1113) (by decide +kernel)⟩
theorem lw_p63 : lw_okq (⟨"ClassGate$Code", "isLoadedByLdc", "(I)Z"⟩, 11) := ⟨⟨by decide +kernel, by decide +kernel⟩, List.mem_of_getElem? (i := 828) (by decide +kernel), List.mem_of_getElem? (i := 1117) (by decide +kernel), List.mem_of_getElem? (i := 1118) (by decide +kernel)⟩
def lw_privs_4 : List (MethodName × Nat) := [(⟨"ClassGate$AttributeCheck", "bootstrapsHold", "()Z"⟩, 5), (⟨"ClassGate", "codeOf", "(I)LClassGate$Code;"⟩, 5), (⟨"ClassGate$Instruction", "u1", "(I)I"⟩, 12), (⟨"ClassGate$Instruction", "isSwitchTaken", "()Z"⟩, 12), (⟨"ClassGate$Instruction", "isTableTaken", "()Z"⟩, 12), (⟨"ClassGate$Instruction", "s4", "(I)I"⟩, 12), (⟨"ClassGate$Instruction", "isLookupTaken", "()Z"⟩, 12), (⟨"ClassGate$Instruction", "isWideTaken", "()Z"⟩, 12), (⟨"ClassGate$Instruction", "u2", "(I)I"⟩, 12), (⟨"ClassGate$Instruction", "isLocalTaken", "(I)Z"⟩, 12), (⟨"ClassGate$Instruction", "areOperandsTaken", "()Z"⟩, 12), (⟨"ClassGate$Instruction", "isShortLocalTaken", "(II)Z"⟩, 12), (⟨"ClassGate$Instruction", "isJumpTaken", "(II)Z"⟩, 12), (⟨"ClassGate$Instruction", "isIndexTaken", "()Z"⟩, 12), (⟨"ClassGate$Code", "operandsHold", "()Z"⟩, 11), (⟨"ClassGate$Code", "isLoadedByLdc", "(I)Z"⟩, 11)]
theorem lw_r4 : ∀ q ∈ lw_privs_4, lw_okq q := List.forall_mem_cons.mpr ⟨lw_p48, List.forall_mem_cons.mpr ⟨lw_p49, List.forall_mem_cons.mpr ⟨lw_p50, List.forall_mem_cons.mpr ⟨lw_p51, List.forall_mem_cons.mpr ⟨lw_p52, List.forall_mem_cons.mpr ⟨lw_p53, List.forall_mem_cons.mpr ⟨lw_p54, List.forall_mem_cons.mpr ⟨lw_p55, List.forall_mem_cons.mpr ⟨lw_p56, List.forall_mem_cons.mpr ⟨lw_p57, List.forall_mem_cons.mpr ⟨lw_p58, List.forall_mem_cons.mpr ⟨lw_p59, List.forall_mem_cons.mpr ⟨lw_p60, List.forall_mem_cons.mpr ⟨lw_p61, List.forall_mem_cons.mpr ⟨lw_p62, List.forall_mem_cons.mpr ⟨lw_p63, fun _ h => absurd h List.not_mem_nil⟩⟩⟩⟩⟩⟩⟩⟩⟩⟩⟩⟩⟩⟩⟩⟩
theorem lw_p64 : lw_okq (⟨"ClassGate$Code", "isOfTwoPlaces", "(I)Z"⟩, 11) := ⟨⟨by decide +kernel, by decide +kernel⟩, List.mem_of_getElem? (i := 828) (by decide +kernel), List.mem_of_getElem? (i := 1123) (by decide +kernel), List.mem_of_getElem? (i := 1124) (by decide +kernel)⟩
theorem lw_p65 : lw_okq (⟨"ClassGate$Code", "callHolds", "(I)Z"⟩, 11) := ⟨⟨by decide +kernel, by decide +kernel⟩, List.mem_of_getElem? (i := 828) (by decide +kernel), List.mem_of_getElem? (i := 1132) (by decide +kernel), List.mem_of_getElem? (i := 1133) (by decide +kernel)⟩
theorem lw_p66 : lw_okq (⟨"ClassGate$Code", "isMethodOfEither", "(I)Z"⟩, 11) := ⟨⟨by decide +kernel, by decide +kernel⟩, List.mem_of_getElem? (i := 828) (by decide +kernel), List.mem_of_getElem? (i := 1137) (by decide +kernel), List.mem_of_getElem? (i := 1138) (by decide +kernel)⟩
theorem lw_p67 : lw_okq (⟨"ClassGate$Code", "targetsHold", "()Z"⟩, 11) := ⟨⟨by decide +kernel, by decide +kernel⟩, List.mem_of_getElem? (i := 828) (by decide +kernel), List.mem_of_getElem? (i := 1142) (by decide +kernel), List.mem_of_getElem? (i := 1143) (by decide +kernel)⟩
theorem lw_p68 : lw_okq (⟨"ClassGate$Code", "numberAt", "(J)I"⟩, 11) := ⟨⟨by decide +kernel, by decide +kernel⟩, List.mem_of_getElem? (i := 828) (by decide +kernel), List.mem_of_getElem? (i := 1150) (by decide +kernel), List.mem_of_getElem? (i := 1151) (by decide +kernel)⟩
theorem lw_p69 : lw_okq (⟨"ClassGate$Code", "startOf", "(I)I"⟩, 11) := ⟨⟨by decide +kernel, by decide +kernel⟩, List.mem_of_getElem? (i := 828) (by decide +kernel), List.mem_of_getElem? (i := 1162) (by decide +kernel), List.mem_of_getElem? (i := 1163) (by decide +kernel)⟩
theorem lw_p70 : lw_okq (⟨"java/lang/Throwable", "fillInStackTrace", "(I)Ljava/lang/Throwable;"⟩, 6) := ⟨⟨by decide +kernel, by decide +kernel⟩, List.mem_of_getElem? (i := 1214) (by decide +kernel), List.mem_of_getElem? (i := 1212) (by decide +kernel), List.mem_of_getElem? (i := 1213) (by decide +kernel)⟩
theorem lw_p71 : lw_okq (⟨"ClassGate", "takeWord", "(I)V"⟩, 5) := ⟨⟨by decide +kernel, by decide +kernel⟩, List.mem_of_getElem? (i := 28) (by decide +kernel), List.mem_of_getElem? (i := 1243) (by decide +kernel), List.mem_of_getElem? (i := 1244) (by decide +kernel)⟩
theorem lw_p72 : lw_okq (⟨"ClassGate$ClassFile", "attributeNumber", "(I)I"⟩, 17) := ⟨⟨by decide +kernel, by decide +kernel⟩, List.mem_of_getElem? (i := 59) (by decide +kernel), List.mem_of_getElem? (i := 1297) (by decide +kernel), List.mem_of_getElem? (i := 1298) (by decide +kernel)⟩
theorem lw_p73 : lw_okq (⟨"ClassGate$Member", "codeNumber", "(I)I"⟩, 11) := ⟨⟨by decide +kernel, by decide +kernel⟩, List.mem_of_getElem? (i := 356) (by decide +kernel), List.mem_of_getElem? (i := 1323) (by decide +kernel), List.mem_of_getElem? (i := 1324) (by decide +kernel)⟩
theorem lw_p74 : lw_okq (⟨"ClassGateModel", "clear", "()V"⟩, 82) := ⟨⟨by decide +kernel, by decide +kernel⟩, List.mem_of_getElem? (i := 1352) (by decide +kernel), List.mem_of_getElem? (i := 1374) (by decide +kernel), List.mem_of_getElem? (i := 1375) (by decide +kernel)⟩
theorem lw_p75 : lw_okq (⟨"ClassGateModel", "symbol", "(Ljava/lang/String;)I"⟩, 82) := ⟨⟨by decide +kernel, by decide +kernel⟩, List.mem_of_getElem? (i := 1352) (by decide +kernel), List.mem_of_getElem? (i := 1379) (by decide +kernel), List.mem_of_getElem? (i := 1380) (by decide +kernel)⟩
theorem lw_p76 : lw_okq (⟨"ClassGateModel", "symbol", "(I)I"⟩, 82) := ⟨⟨by decide +kernel, by decide +kernel⟩, List.mem_of_getElem? (i := 1352) (by decide +kernel), List.mem_of_getElem? (i := 1385) (by decide +kernel), List.mem_of_getElem? (i := 1386) (by decide +kernel)⟩
theorem lw_p77 : lw_okq (⟨"ClassGateModel", "four", "(I)V"⟩, 82) := ⟨⟨by decide +kernel, by decide +kernel⟩, List.mem_of_getElem? (i := 1352) (by decide +kernel), List.mem_of_getElem? (i := 1642) (by decide +kernel), List.mem_of_getElem? (i := 1643) (by decide +kernel)⟩
theorem lw_p78 : lw_okq (⟨"ClassGateModel", "bad", "()I"⟩, 82) := ⟨⟨by decide +kernel, by decide +kernel⟩, List.mem_of_getElem? (i := 1352) (by decide +kernel), List.mem_of_getElem? (i := 1650) (by decide +kernel), List.mem_of_getElem? (i := 1651) (by decide +kernel)⟩
theorem lw_p79 : lw_okq (⟨"ClassGateModel", "parse", "([BI)Z"⟩, 82) := ⟨⟨by decide +kernel, by decide +kernel⟩, List.mem_of_getElem? (i := 1352) (by decide +kernel), List.mem_of_getElem? (i := 1658) (by decide +kernel), List.mem_of_getElem? (i := 1659) (by decide +kernel)⟩
def lw_privs_5 : List (MethodName × Nat) := [(⟨"ClassGate$Code", "isOfTwoPlaces", "(I)Z"⟩, 11), (⟨"ClassGate$Code", "callHolds", "(I)Z"⟩, 11), (⟨"ClassGate$Code", "isMethodOfEither", "(I)Z"⟩, 11), (⟨"ClassGate$Code", "targetsHold", "()Z"⟩, 11), (⟨"ClassGate$Code", "numberAt", "(J)I"⟩, 11), (⟨"ClassGate$Code", "startOf", "(I)I"⟩, 11), (⟨"java/lang/Throwable", "fillInStackTrace", "(I)Ljava/lang/Throwable;"⟩, 6), (⟨"ClassGate", "takeWord", "(I)V"⟩, 5), (⟨"ClassGate$ClassFile", "attributeNumber", "(I)I"⟩, 17), (⟨"ClassGate$Member", "codeNumber", "(I)I"⟩, 11), (⟨"ClassGateModel", "clear", "()V"⟩, 82), (⟨"ClassGateModel", "symbol", "(Ljava/lang/String;)I"⟩, 82), (⟨"ClassGateModel", "symbol", "(I)I"⟩, 82), (⟨"ClassGateModel", "four", "(I)V"⟩, 82), (⟨"ClassGateModel", "bad", "()I"⟩, 82), (⟨"ClassGateModel", "parse", "([BI)Z"⟩, 82)]
theorem lw_r5 : ∀ q ∈ lw_privs_5, lw_okq q := List.forall_mem_cons.mpr ⟨lw_p64, List.forall_mem_cons.mpr ⟨lw_p65, List.forall_mem_cons.mpr ⟨lw_p66, List.forall_mem_cons.mpr ⟨lw_p67, List.forall_mem_cons.mpr ⟨lw_p68, List.forall_mem_cons.mpr ⟨lw_p69, List.forall_mem_cons.mpr ⟨lw_p70, List.forall_mem_cons.mpr ⟨lw_p71, List.forall_mem_cons.mpr ⟨lw_p72, List.forall_mem_cons.mpr ⟨lw_p73, List.forall_mem_cons.mpr ⟨lw_p74, List.forall_mem_cons.mpr ⟨lw_p75, List.forall_mem_cons.mpr ⟨lw_p76, List.forall_mem_cons.mpr ⟨lw_p77, List.forall_mem_cons.mpr ⟨lw_p78, List.forall_mem_cons.mpr ⟨lw_p79, fun _ h => absurd h List.not_mem_nil⟩⟩⟩⟩⟩⟩⟩⟩⟩⟩⟩⟩⟩⟩⟩⟩
theorem lw_p80 : lw_okq (⟨"ClassGateModel", "checkFile", "()Z"⟩, 82) := ⟨⟨by decide +kernel, by decide +kernel⟩, List.mem_of_getElem? (i := 1352) (by decide +kernel), List.mem_of_getElem? (i := 1662) (by decide +kernel), List.mem_of_getElem? (i := 1663) (by decide +kernel)⟩
theorem lw_p81 : lw_okq (⟨"ClassGateModel", "readFile", "()Z"⟩, 82) := ⟨⟨by decide +kernel, by decide +kernel⟩, List.mem_of_getElem? (i := 1352) (by decide +kernel), List.mem_of_getElem? (i := 1666) (by decide +kernel), List.mem_of_getElem? (i := 1667) (by decide +kernel)⟩
theorem lw_p82 : lw_okq (⟨"ClassGateModel", "item", "(J)Z"⟩, 82) := ⟨⟨by decide +kernel, by decide +kernel⟩, List.mem_of_getElem? (i := 1352) (by decide +kernel), List.mem_of_getElem? (i := 1671) (by decide +kernel), List.mem_of_getElem? (i := 1672) (by decide +kernel)⟩
theorem lw_p83 : lw_okq (⟨"ClassGateModel", "wrong", "(II)Z"⟩, 82) := ⟨⟨by decide +kernel, by decide +kernel⟩, List.mem_of_getElem? (i := 1352) (by decide +kernel), List.mem_of_getElem? (i := 1675) (by decide +kernel), List.mem_of_getElem? (i := 1676) (by decide +kernel)⟩
theorem lw_p84 : lw_okq (⟨"ClassGateModel", "u4", "(I)J"⟩, 82) := ⟨⟨by decide +kernel, by decide +kernel⟩, List.mem_of_getElem? (i := 1352) (by decide +kernel), List.mem_of_getElem? (i := 1679) (by decide +kernel), List.mem_of_getElem? (i := 1680) (by decide +kernel)⟩
theorem lw_p85 : lw_okq (⟨"ClassGateModel", "u2", "(I)I"⟩, 82) := ⟨⟨by decide +kernel, by decide +kernel⟩, List.mem_of_getElem? (i := 1352) (by decide +kernel), List.mem_of_getElem? (i := 1683) (by decide +kernel), List.mem_of_getElem? (i := 1684) (by decide +kernel)⟩
theorem lw_p86 : lw_okq (⟨"ClassGateModel", "u1", "(I)I"⟩, 82) := ⟨⟨by decide +kernel, by decide +kernel⟩, List.mem_of_getElem? (i := 1352) (by decide +kernel), List.mem_of_getElem? (i := 1687) (by decide +kernel), List.mem_of_getElem? (i := 1688) (by decide +kernel)⟩
theorem lw_p87 : lw_okq (⟨"ClassGateModel", "readPool", "()Z"⟩, 82) := ⟨⟨by decide +kernel, by decide +kernel⟩, List.mem_of_getElem? (i := 1352) (by decide +kernel), List.mem_of_getElem? (i := 1693) (by decide +kernel), List.mem_of_getElem? (i := 1694) (by decide +kernel)⟩
theorem lw_p88 : lw_okq (⟨"ClassGateModel", "utf8", "(III)Z"⟩, 82) := ⟨⟨by decide +kernel, by decide +kernel⟩, List.mem_of_getElem? (i := 1352) (by decide +kernel), List.mem_of_getElem? (i := 1697) (by decide +kernel), List.mem_of_getElem? (i := 1698) (by decide +kernel)⟩
theorem lw_p89 : lw_okq (⟨"ClassGateModel", "members", "()Z"⟩, 82) := ⟨⟨by decide +kernel, by decide +kernel⟩, List.mem_of_getElem? (i := 1352) (by decide +kernel), List.mem_of_getElem? (i := 1701) (by decide +kernel), List.mem_of_getElem? (i := 1702) (by decide +kernel)⟩
theorem lw_p90 : lw_okq (⟨"ClassGateModel", "attributes", "()Z"⟩, 82) := ⟨⟨by decide +kernel, by decide +kernel⟩, List.mem_of_getElem? (i := 1352) (by decide +kernel), List.mem_of_getElem? (i := 1705) (by decide +kernel), List.mem_of_getElem? (i := 1706) (by decide +kernel)⟩
theorem lw_p91 : lw_okq (⟨"ClassGateModel", "checkPool", "()Z"⟩, 82) := ⟨⟨by decide +kernel, by decide +kernel⟩, List.mem_of_getElem? (i := 1352) (by decide +kernel), List.mem_of_getElem? (i := 1709) (by decide +kernel), List.mem_of_getElem? (i := 1710) (by decide +kernel)⟩
theorem lw_p92 : lw_okq (⟨"ClassGateModel", "indexes", "(IIZ)Z"⟩, 82) := ⟨⟨by decide +kernel, by decide +kernel⟩, List.mem_of_getElem? (i := 1352) (by decide +kernel), List.mem_of_getElem? (i := 1713) (by decide +kernel), List.mem_of_getElem? (i := 1714) (by decide +kernel)⟩
theorem lw_p93 : lw_okq (⟨"ClassGateModel", "index", "(II)I"⟩, 82) := ⟨⟨by decide +kernel, by decide +kernel⟩, List.mem_of_getElem? (i := 1352) (by decide +kernel), List.mem_of_getElem? (i := 1717) (by decide +kernel), List.mem_of_getElem? (i := 1718) (by decide +kernel)⟩
theorem lw_p94 : lw_okq (⟨"ClassGateModel", "tag", "(I)I"⟩, 82) := ⟨⟨by decide +kernel, by decide +kernel⟩, List.mem_of_getElem? (i := 1352) (by decide +kernel), List.mem_of_getElem? (i := 1721) (by decide +kernel), List.mem_of_getElem? (i := 1722) (by decide +kernel)⟩
theorem lw_p95 : lw_okq (⟨"ClassGateModel", "symOf", "(I)I"⟩, 82) := ⟨⟨by decide +kernel, by decide +kernel⟩, List.mem_of_getElem? (i := 1352) (by decide +kernel), List.mem_of_getElem? (i := 1725) (by decide +kernel), List.mem_of_getElem? (i := 1726) (by decide +kernel)⟩
def lw_privs_6 : List (MethodName × Nat) := [(⟨"ClassGateModel", "checkFile", "()Z"⟩, 82), (⟨"ClassGateModel", "readFile", "()Z"⟩, 82), (⟨"ClassGateModel", "item", "(J)Z"⟩, 82), (⟨"ClassGateModel", "wrong", "(II)Z"⟩, 82), (⟨"ClassGateModel", "u4", "(I)J"⟩, 82), (⟨"ClassGateModel", "u2", "(I)I"⟩, 82), (⟨"ClassGateModel", "u1", "(I)I"⟩, 82), (⟨"ClassGateModel", "readPool", "()Z"⟩, 82), (⟨"ClassGateModel", "utf8", "(III)Z"⟩, 82), (⟨"ClassGateModel", "members", "()Z"⟩, 82), (⟨"ClassGateModel", "attributes", "()Z"⟩, 82), (⟨"ClassGateModel", "checkPool", "()Z"⟩, 82), (⟨"ClassGateModel", "indexes", "(IIZ)Z"⟩, 82), (⟨"ClassGateModel", "index", "(II)I"⟩, 82), (⟨"ClassGateModel", "tag", "(I)I"⟩, 82), (⟨"ClassGateModel", "symOf", "(I)I"⟩, 82)]
theorem lw_r6 : ∀ q ∈ lw_privs_6, lw_okq q := List.forall_mem_cons.mpr ⟨lw_p80, List.forall_mem_cons.mpr ⟨lw_p81, List.forall_mem_cons.mpr ⟨lw_p82, List.forall_mem_cons.mpr ⟨lw_p83, List.forall_mem_cons.mpr ⟨lw_p84, List.forall_mem_cons.mpr ⟨lw_p85, List.forall_mem_cons.mpr ⟨lw_p86, List.forall_mem_cons.mpr ⟨lw_p87, List.forall_mem_cons.mpr ⟨lw_p88, List.forall_mem_cons.mpr ⟨lw_p89, List.forall_mem_cons.mpr ⟨lw_p90, List.forall_mem_cons.mpr ⟨lw_p91, List.forall_mem_cons.mpr ⟨lw_p92, List.forall_mem_cons.mpr ⟨lw_p93, List.forall_mem_cons.mpr ⟨lw_p94, List.forall_mem_cons.mpr ⟨lw_p95, fun _ h => absurd h List.not_mem_nil⟩⟩⟩⟩⟩⟩⟩⟩⟩⟩⟩⟩⟩⟩⟩⟩
theorem lw_p96 : lw_okq (⟨"ClassGateModel", "classText", "(I)Z"⟩, 82) := ⟨⟨by decide +kernel, by decide +kernel⟩, List.mem_of_getElem? (i := 1352) (by decide +kernel), List.mem_of_getElem? (i := 1729) (by decide +kernel), List.mem_of_getElem? (i := 1730) (by decide +kernel)⟩
theorem lw_p97 : lw_okq (⟨"ClassGateModel", "length", "(I)I"⟩, 82) := ⟨⟨by decide +kernel, by decide +kernel⟩, List.mem_of_getElem? (i := 1352) (by decide +kernel), List.mem_of_getElem? (i := 1733) (by decide +kernel), List.mem_of_getElem? (i := 1734) (by decide +kernel)⟩
theorem lw_p98 : lw_okq (⟨"ClassGateModel", "at", "(II)C"⟩, 82) := ⟨⟨by decide +kernel, by decide +kernel⟩, List.mem_of_getElem? (i := 1352) (by decide +kernel), List.mem_of_getElem? (i := 1737) (by decide +kernel), List.mem_of_getElem? (i := 1738) (by decide +kernel)⟩
theorem lw_p99 : lw_okq (⟨"ClassGateModel", "fieldText", "(II)I"⟩, 82) := ⟨⟨by decide +kernel, by decide +kernel⟩, List.mem_of_getElem? (i := 1352) (by decide +kernel), List.mem_of_getElem? (i := 1741) (by decide +kernel), List.mem_of_getElem? (i := 1742) (by decide +kernel)⟩
theorem lw_p100 : lw_okq (⟨"ClassGateModel", "nameText", "(III)Z"⟩, 82) := ⟨⟨by decide +kernel, by decide +kernel⟩, List.mem_of_getElem? (i := 1352) (by decide +kernel), List.mem_of_getElem? (i := 1745) (by decide +kernel), List.mem_of_getElem? (i := 1746) (by decide +kernel)⟩
theorem lw_p101 : lw_okq (⟨"ClassGateModel", "unqualified", "(IZ)Z"⟩, 82) := ⟨⟨by decide +kernel, by decide +kernel⟩, List.mem_of_getElem? (i := 1352) (by decide +kernel), List.mem_of_getElem? (i := 1749) (by decide +kernel), List.mem_of_getElem? (i := 1750) (by decide +kernel)⟩
theorem lw_p102 : lw_okq (⟨"ClassGateModel", "isField", "(I)Z"⟩, 82) := ⟨⟨by decide +kernel, by decide +kernel⟩, List.mem_of_getElem? (i := 1352) (by decide +kernel), List.mem_of_getElem? (i := 1753) (by decide +kernel), List.mem_of_getElem? (i := 1754) (by decide +kernel)⟩
theorem lw_p103 : lw_okq (⟨"ClassGateModel", "isMethod", "(I)Z"⟩, 82) := ⟨⟨by decide +kernel, by decide +kernel⟩, List.mem_of_getElem? (i := 1352) (by decide +kernel), List.mem_of_getElem? (i := 1757) (by decide +kernel), List.mem_of_getElem? (i := 1758) (by decide +kernel)⟩
theorem lw_p104 : lw_okq (⟨"ClassGateModel", "places0", "(I)I"⟩, 82) := ⟨⟨by decide +kernel, by decide +kernel⟩, List.mem_of_getElem? (i := 1352) (by decide +kernel), List.mem_of_getElem? (i := 1761) (by decide +kernel), List.mem_of_getElem? (i := 1762) (by decide +kernel)⟩
theorem lw_p105 : lw_okq (⟨"ClassGateModel", "angles", "(I)Z"⟩, 82) := ⟨⟨by decide +kernel, by decide +kernel⟩, List.mem_of_getElem? (i := 1352) (by decide +kernel), List.mem_of_getElem? (i := 1765) (by decide +kernel), List.mem_of_getElem? (i := 1766) (by decide +kernel)⟩
theorem lw_p106 : lw_okq (⟨"ClassGateModel", "endsV", "(I)Z"⟩, 82) := ⟨⟨by decide +kernel, by decide +kernel⟩, List.mem_of_getElem? (i := 1352) (by decide +kernel), List.mem_of_getElem? (i := 1769) (by decide +kernel), List.mem_of_getElem? (i := 1770) (by decide +kernel)⟩
theorem lw_p107 : lw_okq (⟨"ClassGateModel", "handleEntry", "(I)Z"⟩, 82) := ⟨⟨by decide +kernel, by decide +kernel⟩, List.mem_of_getElem? (i := 1352) (by decide +kernel), List.mem_of_getElem? (i := 1773) (by decide +kernel), List.mem_of_getElem? (i := 1774) (by decide +kernel)⟩
theorem lw_p108 : lw_okq (⟨"ClassGateModel", "checkClass", "()Z"⟩, 82) := ⟨⟨by decide +kernel, by decide +kernel⟩, List.mem_of_getElem? (i := 1352) (by decide +kernel), List.mem_of_getElem? (i := 1777) (by decide +kernel), List.mem_of_getElem? (i := 1778) (by decide +kernel)⟩
theorem lw_p109 : lw_okq (⟨"ClassGateModel", "plainClass", "(I)Z"⟩, 82) := ⟨⟨by decide +kernel, by decide +kernel⟩, List.mem_of_getElem? (i := 1352) (by decide +kernel), List.mem_of_getElem? (i := 1782) (by decide +kernel), List.mem_of_getElem? (i := 1783) (by decide +kernel)⟩
theorem lw_p110 : lw_okq (⟨"ClassGateModel", "className", "(I)I"⟩, 82) := ⟨⟨by decide +kernel, by decide +kernel⟩, List.mem_of_getElem? (i := 1352) (by decide +kernel), List.mem_of_getElem? (i := 1786) (by decide +kernel), List.mem_of_getElem? (i := 1787) (by decide +kernel)⟩
theorem lw_p111 : lw_okq (⟨"ClassGateModel", "checkFields", "()Z"⟩, 82) := ⟨⟨by decide +kernel, by decide +kernel⟩, List.mem_of_getElem? (i := 1352) (by decide +kernel), List.mem_of_getElem? (i := 1790) (by decide +kernel), List.mem_of_getElem? (i := 1791) (by decide +kernel)⟩
def lw_privs_7 : List (MethodName × Nat) := [(⟨"ClassGateModel", "classText", "(I)Z"⟩, 82), (⟨"ClassGateModel", "length", "(I)I"⟩, 82), (⟨"ClassGateModel", "at", "(II)C"⟩, 82), (⟨"ClassGateModel", "fieldText", "(II)I"⟩, 82), (⟨"ClassGateModel", "nameText", "(III)Z"⟩, 82), (⟨"ClassGateModel", "unqualified", "(IZ)Z"⟩, 82), (⟨"ClassGateModel", "isField", "(I)Z"⟩, 82), (⟨"ClassGateModel", "isMethod", "(I)Z"⟩, 82), (⟨"ClassGateModel", "places0", "(I)I"⟩, 82), (⟨"ClassGateModel", "angles", "(I)Z"⟩, 82), (⟨"ClassGateModel", "endsV", "(I)Z"⟩, 82), (⟨"ClassGateModel", "handleEntry", "(I)Z"⟩, 82), (⟨"ClassGateModel", "checkClass", "()Z"⟩, 82), (⟨"ClassGateModel", "plainClass", "(I)Z"⟩, 82), (⟨"ClassGateModel", "className", "(I)I"⟩, 82), (⟨"ClassGateModel", "checkFields", "()Z"⟩, 82)]
theorem lw_r7 : ∀ q ∈ lw_privs_7, lw_okq q := List.forall_mem_cons.mpr ⟨lw_p96, List.forall_mem_cons.mpr ⟨lw_p97, List.forall_mem_cons.mpr ⟨lw_p98, List.forall_mem_cons.mpr ⟨lw_p99, List.forall_mem_cons.mpr ⟨lw_p100, List.forall_mem_cons.mpr ⟨lw_p101, List.forall_mem_cons.mpr ⟨lw_p102, List.forall_mem_cons.mpr ⟨lw_p103, List.forall_mem_cons.mpr ⟨lw_p104, List.forall_mem_cons.mpr ⟨lw_p105, List.forall_mem_cons.mpr ⟨lw_p106, List.forall_mem_cons.mpr ⟨lw_p107, List.forall_mem_cons.mpr ⟨lw_p108, List.forall_mem_cons.mpr ⟨lw_p109, List.forall_mem_cons.mpr ⟨lw_p110, List.forall_mem_cons.mpr ⟨lw_p111, fun _ h => absurd h List.not_mem_nil⟩⟩⟩⟩⟩⟩⟩⟩⟩⟩⟩⟩⟩⟩⟩⟩
theorem lw_p112 : lw_okq (⟨"ClassGateModel", "checkAttributes", "(III)I"⟩, 82) := ⟨⟨by decide +kernel, by decide +kernel⟩, List.mem_of_getElem? (i := 1352) (by decide +kernel), List.mem_of_getElem? (i := 1797) (by decide +kernel), List.mem_of_getElem? (i := 1798) (by decide +kernel)⟩
theorem lw_p113 : lw_okq (⟨"ClassGateModel", "is", "(ILjava/lang/String;)Z"⟩, 82) := ⟨⟨by decide +kernel, by decide +kernel⟩, List.mem_of_getElem? (i := 1352) (by decide +kernel), List.mem_of_getElem? (i := 1801) (by decide +kernel), List.mem_of_getElem? (i := 1802) (by decide +kernel)⟩
theorem lw_p114 : lw_okq (⟨"ClassGateModel", "attribute", "(IIIIII)I"⟩, 82) := ⟨⟨by decide +kernel, by decide +kernel⟩, List.mem_of_getElem? (i := 1352) (by decide +kernel), List.mem_of_getElem? (i := 1805) (by decide +kernel), List.mem_of_getElem? (i := 1806) (by decide +kernel)⟩
theorem lw_p115 : lw_okq (⟨"ClassGateModel", "code", "(IIII)I"⟩, 82) := ⟨⟨by decide +kernel, by decide +kernel⟩, List.mem_of_getElem? (i := 1352) (by decide +kernel), List.mem_of_getElem? (i := 1810) (by decide +kernel), List.mem_of_getElem? (i := 1811) (by decide +kernel)⟩
theorem lw_p116 : lw_okq (⟨"ClassGateModel", "bootstraps", "(II)I"⟩, 82) := ⟨⟨by decide +kernel, by decide +kernel⟩, List.mem_of_getElem? (i := 1352) (by decide +kernel), List.mem_of_getElem? (i := 1815) (by decide +kernel), List.mem_of_getElem? (i := 1816) (by decide +kernel)⟩
theorem lw_p117 : lw_okq (⟨"ClassGateModel", "components", "(II)I"⟩, 82) := ⟨⟨by decide +kernel, by decide +kernel⟩, List.mem_of_getElem? (i := 1352) (by decide +kernel), List.mem_of_getElem? (i := 1819) (by decide +kernel), List.mem_of_getElem? (i := 1820) (by decide +kernel)⟩
theorem lw_p118 : lw_okq (⟨"ClassGateModel", "checkMethods", "()Z"⟩, 82) := ⟨⟨by decide +kernel, by decide +kernel⟩, List.mem_of_getElem? (i := 1352) (by decide +kernel), List.mem_of_getElem? (i := 1823) (by decide +kernel), List.mem_of_getElem? (i := 1824) (by decide +kernel)⟩
theorem lw_p119 : lw_okq (⟨"ClassGateModel", "flagsFit", "(IZZ)Z"⟩, 82) := ⟨⟨by decide +kernel, by decide +kernel⟩, List.mem_of_getElem? (i := 1352) (by decide +kernel), List.mem_of_getElem? (i := 1827) (by decide +kernel), List.mem_of_getElem? (i := 1828) (by decide +kernel)⟩
theorem lw_p120 : lw_okq (⟨"ClassGateModel", "wide", "(II)Z"⟩, 82) := ⟨⟨by decide +kernel, by decide +kernel⟩, List.mem_of_getElem? (i := 1352) (by decide +kernel), List.mem_of_getElem? (i := 1871) (by decide +kernel), List.mem_of_getElem? (i := 1872) (by decide +kernel)⟩
theorem lw_p121 : lw_okq (⟨"ClassGateModel", "noCode", "(I)Z"⟩, 82) := ⟨⟨by decide +kernel, by decide +kernel⟩, List.mem_of_getElem? (i := 1352) (by decide +kernel), List.mem_of_getElem? (i := 1879) (by decide +kernel), List.mem_of_getElem? (i := 1880) (by decide +kernel)⟩
theorem lw_p122 : lw_okq (⟨"ClassGateModel", "cuts", "(I)Z"⟩, 82) := ⟨⟨by decide +kernel, by decide +kernel⟩, List.mem_of_getElem? (i := 1352) (by decide +kernel), List.mem_of_getElem? (i := 1883) (by decide +kernel), List.mem_of_getElem? (i := 1884) (by decide +kernel)⟩
theorem lw_p123 : lw_okq (⟨"ClassGateModel", "b1", "(I)I"⟩, 82) := ⟨⟨by decide +kernel, by decide +kernel⟩, List.mem_of_getElem? (i := 1352) (by decide +kernel), List.mem_of_getElem? (i := 1887) (by decide +kernel), List.mem_of_getElem? (i := 1888) (by decide +kernel)⟩
theorem lw_p124 : lw_okq (⟨"ClassGateModel", "formed", "(II)I"⟩, 82) := ⟨⟨by decide +kernel, by decide +kernel⟩, List.mem_of_getElem? (i := 1352) (by decide +kernel), List.mem_of_getElem? (i := 1891) (by decide +kernel), List.mem_of_getElem? (i := 1892) (by decide +kernel)⟩
theorem lw_p125 : lw_okq (⟨"ClassGateModel", "b4", "(I)I"⟩, 82) := ⟨⟨by decide +kernel, by decide +kernel⟩, List.mem_of_getElem? (i := 1352) (by decide +kernel), List.mem_of_getElem? (i := 1898) (by decide +kernel), List.mem_of_getElem? (i := 1899) (by decide +kernel)⟩
theorem lw_p126 : lw_okq (⟨"ClassGateModel", "operands", "(II)Z"⟩, 82) := ⟨⟨by decide +kernel, by decide +kernel⟩, List.mem_of_getElem? (i := 1352) (by decide +kernel), List.mem_of_getElem? (i := 1905) (by decide +kernel), List.mem_of_getElem? (i := 1906) (by decide +kernel)⟩
theorem lw_p127 : lw_okq (⟨"ClassGateModel", "local", "(II)Z"⟩, 82) := ⟨⟨by decide +kernel, by decide +kernel⟩, List.mem_of_getElem? (i := 1352) (by decide +kernel), List.mem_of_getElem? (i := 1909) (by decide +kernel), List.mem_of_getElem? (i := 1910) (by decide +kernel)⟩
def lw_privs_8 : List (MethodName × Nat) := [(⟨"ClassGateModel", "checkAttributes", "(III)I"⟩, 82), (⟨"ClassGateModel", "is", "(ILjava/lang/String;)Z"⟩, 82), (⟨"ClassGateModel", "attribute", "(IIIIII)I"⟩, 82), (⟨"ClassGateModel", "code", "(IIII)I"⟩, 82), (⟨"ClassGateModel", "bootstraps", "(II)I"⟩, 82), (⟨"ClassGateModel", "components", "(II)I"⟩, 82), (⟨"ClassGateModel", "checkMethods", "()Z"⟩, 82), (⟨"ClassGateModel", "flagsFit", "(IZZ)Z"⟩, 82), (⟨"ClassGateModel", "wide", "(II)Z"⟩, 82), (⟨"ClassGateModel", "noCode", "(I)Z"⟩, 82), (⟨"ClassGateModel", "cuts", "(I)Z"⟩, 82), (⟨"ClassGateModel", "b1", "(I)I"⟩, 82), (⟨"ClassGateModel", "formed", "(II)I"⟩, 82), (⟨"ClassGateModel", "b4", "(I)I"⟩, 82), (⟨"ClassGateModel", "operands", "(II)Z"⟩, 82), (⟨"ClassGateModel", "local", "(II)Z"⟩, 82)]
theorem lw_r8 : ∀ q ∈ lw_privs_8, lw_okq q := List.forall_mem_cons.mpr ⟨lw_p112, List.forall_mem_cons.mpr ⟨lw_p113, List.forall_mem_cons.mpr ⟨lw_p114, List.forall_mem_cons.mpr ⟨lw_p115, List.forall_mem_cons.mpr ⟨lw_p116, List.forall_mem_cons.mpr ⟨lw_p117, List.forall_mem_cons.mpr ⟨lw_p118, List.forall_mem_cons.mpr ⟨lw_p119, List.forall_mem_cons.mpr ⟨lw_p120, List.forall_mem_cons.mpr ⟨lw_p121, List.forall_mem_cons.mpr ⟨lw_p122, List.forall_mem_cons.mpr ⟨lw_p123, List.forall_mem_cons.mpr ⟨lw_p124, List.forall_mem_cons.mpr ⟨lw_p125, List.forall_mem_cons.mpr ⟨lw_p126, List.forall_mem_cons.mpr ⟨lw_p127, fun _ h => absurd h List.not_mem_nil⟩⟩⟩⟩⟩⟩⟩⟩⟩⟩⟩⟩⟩⟩⟩⟩
theorem lw_p128 : lw_okq (⟨"ClassGateModel", "b2", "(I)I"⟩, 82) := ⟨⟨by decide +kernel, by decide +kernel⟩, List.mem_of_getElem? (i := 1352) (by decide +kernel), List.mem_of_getElem? (i := 1913) (by decide +kernel), List.mem_of_getElem? (i := 1914) (by decide +kernel)⟩
theorem lw_p129 : lw_okq (⟨"ClassGateModel", "descOf", "(I)I"⟩, 82) := ⟨⟨by decide +kernel, by decide +kernel⟩, List.mem_of_getElem? (i := 1352) (by decide +kernel), List.mem_of_getElem? (i := 1917) (by decide +kernel), List.mem_of_getElem? (i := 1918) (by decide +kernel)⟩
theorem lw_p130 : lw_okq (⟨"ClassGateModel", "nameOf", "(I)I"⟩, 82) := ⟨⟨by decide +kernel, by decide +kernel⟩, List.mem_of_getElem? (i := 1352) (by decide +kernel), List.mem_of_getElem? (i := 1921) (by decide +kernel), List.mem_of_getElem? (i := 1922) (by decide +kernel)⟩
theorem lw_p131 : lw_okq (⟨"ClassGateModel", "aims", "(I)Z"⟩, 82) := ⟨⟨by decide +kernel, by decide +kernel⟩, List.mem_of_getElem? (i := 1352) (by decide +kernel), List.mem_of_getElem? (i := 1925) (by decide +kernel), List.mem_of_getElem? (i := 1926) (by decide +kernel)⟩
theorem lw_p132 : lw_okq (⟨"ClassGateModel", "s2", "(I)I"⟩, 82) := ⟨⟨by decide +kernel, by decide +kernel⟩, List.mem_of_getElem? (i := 1352) (by decide +kernel), List.mem_of_getElem? (i := 1929) (by decide +kernel), List.mem_of_getElem? (i := 1930) (by decide +kernel)⟩
theorem lw_p133 : lw_okq (⟨"ClassGateModel", "starts", "(J)Z"⟩, 82) := ⟨⟨by decide +kernel, by decide +kernel⟩, List.mem_of_getElem? (i := 1352) (by decide +kernel), List.mem_of_getElem? (i := 1933) (by decide +kernel), List.mem_of_getElem? (i := 1934) (by decide +kernel)⟩
theorem lw_p134 : lw_okq (⟨"ClassGateModel", "ways", "(I)I"⟩, 82) := ⟨⟨by decide +kernel, by decide +kernel⟩, List.mem_of_getElem? (i := 1352) (by decide +kernel), List.mem_of_getElem? (i := 1937) (by decide +kernel), List.mem_of_getElem? (i := 1938) (by decide +kernel)⟩
theorem lw_p135 : lw_okq (⟨"ClassGateModel", "wayAt", "(II)I"⟩, 82) := ⟨⟨by decide +kernel, by decide +kernel⟩, List.mem_of_getElem? (i := 1352) (by decide +kernel), List.mem_of_getElem? (i := 1941) (by decide +kernel), List.mem_of_getElem? (i := 1942) (by decide +kernel)⟩
theorem lw_p136 : lw_okq (⟨"ClassGateModel", "plain", "(II)I"⟩, 82) := ⟨⟨by decide +kernel, by decide +kernel⟩, List.mem_of_getElem? (i := 1352) (by decide +kernel), List.mem_of_getElem? (i := 1949) (by decide +kernel), List.mem_of_getElem? (i := 1950) (by decide +kernel)⟩
theorem lw_p137 : lw_okq (⟨"ClassGateModel", "first", "(II)I"⟩, 82) := ⟨⟨by decide +kernel, by decide +kernel⟩, List.mem_of_getElem? (i := 1352) (by decide +kernel), List.mem_of_getElem? (i := 1953) (by decide +kernel), List.mem_of_getElem? (i := 1954) (by decide +kernel)⟩
theorem lw_p138 : lw_okq (⟨"ClassGateModel", "second", "(II)I"⟩, 82) := ⟨⟨by decide +kernel, by decide +kernel⟩, List.mem_of_getElem? (i := 1352) (by decide +kernel), List.mem_of_getElem? (i := 1957) (by decide +kernel), List.mem_of_getElem? (i := 1958) (by decide +kernel)⟩
def lw_privs_9 : List (MethodName × Nat) := [(⟨"ClassGateModel", "b2", "(I)I"⟩, 82), (⟨"ClassGateModel", "descOf", "(I)I"⟩, 82), (⟨"ClassGateModel", "nameOf", "(I)I"⟩, 82), (⟨"ClassGateModel", "aims", "(I)Z"⟩, 82), (⟨"ClassGateModel", "s2", "(I)I"⟩, 82), (⟨"ClassGateModel", "starts", "(J)Z"⟩, 82), (⟨"ClassGateModel", "ways", "(I)I"⟩, 82), (⟨"ClassGateModel", "wayAt", "(II)I"⟩, 82), (⟨"ClassGateModel", "plain", "(II)I"⟩, 82), (⟨"ClassGateModel", "first", "(II)I"⟩, 82), (⟨"ClassGateModel", "second", "(II)I"⟩, 82)]
theorem lw_r9 : ∀ q ∈ lw_privs_9, lw_okq q := List.forall_mem_cons.mpr ⟨lw_p128, List.forall_mem_cons.mpr ⟨lw_p129, List.forall_mem_cons.mpr ⟨lw_p130, List.forall_mem_cons.mpr ⟨lw_p131, List.forall_mem_cons.mpr ⟨lw_p132, List.forall_mem_cons.mpr ⟨lw_p133, List.forall_mem_cons.mpr ⟨lw_p134, List.forall_mem_cons.mpr ⟨lw_p135, List.forall_mem_cons.mpr ⟨lw_p136, List.forall_mem_cons.mpr ⟨lw_p137, List.forall_mem_cons.mpr ⟨lw_p138, fun _ h => absurd h List.not_mem_nil⟩⟩⟩⟩⟩⟩⟩⟩⟩⟩⟩
def lw_privs : List (MethodName × Nat) := lw_privs_1 ++ (lw_privs_2 ++ (lw_privs_3 ++ (lw_privs_4 ++ (lw_privs_5 ++ (lw_privs_6 ++ (lw_privs_7 ++ (lw_privs_8 ++ (lw_privs_9))))))))
def lw_tbl : List Cond := k2_sels lw_privs ++ tables_1
theorem lw_privs_ok : ∀ q ∈ lw_privs, lw_okq q := by
  show ∀ q ∈ lw_privs_1 ++ (lw_privs_2 ++ (lw_privs_3 ++ (lw_privs_4 ++ (lw_privs_5 ++ (lw_privs_6 ++ (lw_privs_7 ++ (lw_privs_8 ++ (lw_privs_9)))))))), lw_okq q
  exact List.forall_mem_append.mpr ⟨lw_r1, List.forall_mem_append.mpr ⟨lw_r2, List.forall_mem_append.mpr ⟨lw_r3, List.forall_mem_append.mpr ⟨lw_r4, List.forall_mem_append.mpr ⟨lw_r5, List.forall_mem_append.mpr ⟨lw_r6, List.forall_mem_append.mpr ⟨lw_r7, List.forall_mem_append.mpr ⟨lw_r8, lw_r9⟩⟩⟩⟩⟩⟩⟩⟩
end
section
/-! ===== BEGIN words of one list among another's, by their places ===== -/
theorem goodIn_r {big : List Cond} (ws : List Cond) (ps : List Nat) (hp : ws = ps.filterMap (fun i => big[i]?)) (h : ws.all goodWord = true) : GoodIn big ws := by
  intro w hw
  have h1 := List.all_eq_true.mp h w hw
  rw [hp] at hw
  obtain ⟨i, -, hi⟩ := List.mem_filterMap.mp hw
  have hm : w ∈ big := by first | exact List.mem_of_getElem? hi | exact List.getElem?_mem hi
  exact ⟨hm, good_of_word h1⟩
theorem goodIn_app {big a b : List Cond} (ha : GoodIn big a) (hb : GoodIn big b) : GoodIn big (a ++ b) := fun w h => (List.mem_append.mp h).elim (ha w) (hb w)
theorem goodIn_ca {big a b : List Cond} {c : Cond} (ha : GoodIn big (c :: a)) (hb : GoodIn big b) : GoodIn big (c :: (a ++ b)) := fun w h => (List.mem_cons.mp h).elim (fun e => ha w (List.mem_cons.mpr (Or.inl e))) (fun h => (List.mem_append.mp h).elim (fun h => ha w (List.mem_cons.mpr (Or.inr h))) (hb w))
theorem goodIn_sub {big ws : List Cond} (hm : ∀ w ∈ ws, w ∈ big) (h : ws.all goodWord = true) : GoodIn big ws := fun w hw => ⟨hm w hw, good_of_word (List.all_eq_true.mp h w hw)⟩
/-! ===== END ===== -/

/-! ===== BEGIN exceptions that leave a method, and their catching by the caller (launches without stack traces) ===== -/
section VXA
/-! The laws vx_back, vx_callV, vx_callS, vx_callSW, vx_throw0, vx_throwS follow proofs of the library, with one case more: JvmDerived/Free/Laws.lean (Back.of_free), Shelf42/LK1.lean (callV, callS), Shelf/KitTraced.lean (throwNew0V, throwNewS). -/
/-- where a method has thrown q: the class by its name, the cell, what was written, the world -/
def vx_T (XC : String → State → State → Prop) (st : State) (q : Addr) (t : State) (mc ms : Nat) (free : Addr → Prop) : Prop :=
  ∃ (E : String) (ce : Cell) (L : List Loc), XC E st t ∧ t.heap[q]? = some ce ∧ ce.vm = .none ∧ st.vm.findClass E = some ce.cls ∧ st.WarmedH t.vm ∧ st.sameButNew ({ t with vm := st.vm } : State) L mc ms ∧ ∀ z ∈ L, free z.base
def vx_Q (Qc : Array Value → State → Outcome → State → Prop) (XC : String → State → State → Prop) (mc ms : Nat) (free : Addr → Prop) : Array Value → State → Outcome → State → Prop := fun a st o t =>
  (Qc a st o t ∧ ∃ L, FrameEnd st o t L mc ms ∧ ∀ q ∈ L, free q.base) ∨ ∃ q, o = .threw q ∧ vx_T XC st q t mc ms free
/-- a callee that returns or throws -/
def vx_Met (l : Launch) (y : MethodName) (ws : List Cond) (rm : Room) (Pc : Array Value → State → Prop) (Qc : Array Value → State → Outcome → State → Prop) (XC : String → State → State → Prop) (mc ms : Nat) (free : Addr → Prop) : Prop :=
  MetFree l y (headSpec ws rm) Pc (fun _ _ _ _ _ => True) (vx_Q Qc XC mc ms free)
def vx_Post (XC : String → State → State → Prop) (mc ms : Nat) (free : Addr → Prop) : Pt → Array Value → Addr → Pt → Prop := fun A a q B =>
  ∃ (g : JFrame) (mk : MethodId) (t : State) (L : List Loc) (E : String) (ce : Cell), B.U.heap = t.heap ∧ B.U.vm = t.vm ∧ XC E (A.U.calling g mk a) t ∧ t.heap[q]? = some ce ∧ ce.vm = .none ∧ A.U.vm.findClass E = some ce.cls ∧ B.locs = A.locs ++ L ∧ (∀ z ∈ L, free z.base) ∧ B.cells = A.cells + mc ∧ B.slots = A.slots + ms
def vx_Back (l : Launch) (R : Room) (p : Program) (e : Env) (below : List Frame) (s : State) (sargs : Array Value) (y : MethodName) (len W9 : Nat)
    (Pre : Pt → Array Value → Prop) (Post : Pt → Array Value → Option Value → Pt → Prop) (PostX : Pt → Array Value → Addr → Pt → Prop) : Prop :=
  ∀ (m : MethodId) (meth : Method) (c : Code) (A : Pt) (g : JFrame) (ig : Instr) (mk : MethodId) (a : Array Value),
    Stand p l e R s m sargs below meth c A.U A.locs A.cells A.slots → g.method = m → g.locals.size = c.maxLocals → decode c.code g.pc = .ok (ig, len) →
    2 * g.monitorRoom + (g.stack.map fun v => v.category).sum ≤ W9 → A.U.methodNamed? y = some mk → Pre A a →
    (∃ (v : Option Value) (B : Pt), Stand p l e R s m sargs below meth c B.U B.locs B.cells B.slots ∧ Post A a v B ∧
      Steps p.tables e below (doInvoke e (A.U.setTop g) [] mk a).1 (B.U.setTop { g with pc := g.pc + len, stack := v.toList ++ g.stack })) ∨
    (∃ (q : Addr) (B : Pt), Stand p l e R s m sargs below meth c B.U B.locs B.cells B.slots ∧ PostX A a q B ∧
      Steps p.tables e below (doInvoke e (A.U.setTop g) [] mk a).1 ((B.U.setTop g).pushFrame (.throwing q)))
section Payer
variable {l : Launch} {R : Room} {p : Program} {e : Env} {below : List Frame} {s : State} {sargs : Array Value} {y : MethodName} {len W9 : Nat}
theorem vx_back {ws : List Cond} {rm : Room} {Pc : Array Value → State → Prop} {Qc : Array Value → State → Outcome → State → Prop} {XC : String → State → State → Prop} {mc ms : Nat} {free : Addr → Prop} {bytes : ByteArray} {maxL : Nat} {ret : Option FieldType}
    (hM : vx_Met l y ws rm Pc Qc XC mc ms free) (hblind : FrameBlind Pc) (hrc : rm.cells = mc) (hrs : rm.slots = ms)
    (hframes : rm.frames + 1 ≤ R.frames) (hlocals : W9 + (maxL + 11) + rm.locals ≤ R.locals)
    (hws : ∀ w ∈ ws, ∀ a' U, s.WarmedH U.vm → w.before a' U = true) (hcode : Cond.code y bytes maxL ret ∈ ws) (hinit : ∀ a' U, s.WarmedH U.vm → (Cond.initialized y.cls).before a' U = true) :
    vx_Back l R p e below s sargs y len W9 (PreOf R mc ms Pc) (PostOf Qc mc ms free) (vx_Post XC mc ms free) := by
  intro m meth c A g ig mk a X hg hsize hdg hW hn hp
  have h1 : (headSpec ws rm).pre.before a A.U = true := atoms_intro fun w hw => hws w hw _ _ X.warmed
  have h2 : (Cond.code y bytes maxL ret).before a A.U = true := hws _ hcode _ _ X.warmed
  have h3 : (Cond.initialized y.cls).before a A.U = true := hinit _ _ X.warmed
  have h4 : A.cells + (headSpec ws rm).room.cells ≤ R.cells := by rw [show (headSpec ws rm).room.cells = mc from hrc]; exact hp.1
  have h5 : A.slots + (headSpec ws rm).room.slots ≤ R.slots := by rw [show (headSpec ws rm).room.slots = ms from hrs]; exact hp.2.1
  have hPc : Pc a (A.U.calling g mk a) := hblind _ _ _ _ hp.2.2
  obtain ⟨U, Ls, c0, s0⟩ := A
  dsimp only [Pt.U, Pt.locs, Pt.cells, Pt.slots] at h1 h2 h3 h4 h5 X hn hPc ⊢
  obtain ⟨methY, cY, hmY, hcY, -, hlY, -, -, -, -⟩ := Cond.code_spec hn h2
  obtain ⟨kY, hkY, -⟩ := className_of_methodNamed hn
  have hinitY : kY.init = .initialized := Cond.initialized_spec (findClass_of_methodNamed hn) hkY h3
  have h : At U g.method c below := by rw [hg]; exact X.here
  have hlocals9 : W9 + (maxL + 11) + (headSpec ws rm).room.locals ≤ R.locals := hlocals
  have happ : (headSpec ws rm).appliesLoose y e.platform (U.calling g mk a) = true :=
    Spec.appliesLoose_calling (g := g) h hdg hn hkY hinitY
      (X.room_calling (g := g) (R' := (headSpec ws rm).room) hsize hmY hcY hframes (by rw [hlY]; omega) h4 h5) h1
  obtain ⟨mid, hmid⟩ := h.above
  have hfr : (U.setTop g).frames = (.java g :: mid) ++ below := by rw [State.frames_setTop' g h.top, hmid]; rfl
  obtain ⟨o, s₂, hsteps, -, hend, hq⟩ := Steps.callFree hM p X.admits X.cas X.clock (acts := []) hfr happ hPc trivial
  have hq' : vx_Q Qc XC mc ms free a (U.calling g mk a) o s₂ := hq
  rw [State.frames_setTop' g h.top] at hend
  obtain ⟨g₀, hg0⟩ := Option.isSome_iff_exists.mp h.top
  obtain ⟨r, hr⟩ := State.topJava?_eq_some.mp hg0
  have hr' : (({ U with heap := s₂.heap, slotsUsed := s₂.slotsUsed } : State).setVm s₂.vm).frames = .java g₀ :: r := hr
  rcases hq' with ⟨hqc, L, hfe, hL⟩ | ⟨q, rfl, E, ce, L, hx, hce, hcv, hcl, hW₂, hsm, hL⟩
  · obtain ⟨⟨v, rfl⟩, hW₂, e2, q2, q3, q4, q5, q6⟩ := id hfe
    have e3 : s₂ = ({ (U.calling g mk a).setFrames s₂.frames with heap := s₂.heap, slotsUsed := s₂.slotsUsed } : State).setVm s₂.vm := by
      have : s₂ = ({ s₂ with vm := (U.calling g mk a).vm } : State).setVm s₂.vm := rfl
      rw [e2] at this
      exact this
    obtain ⟨c₂, i₂, len₂, hc₂, hd₂, hf₂⟩ := hend
    have hW' : U.WarmedH s₂.vm := hW₂
    have hcc : c₂ = c := by
      have h1 : s₂.code? g.method = U.code? g.method := by
        rw [State.code?_eq, State.code?_eq, hW'.alike.method?]
      exact Option.some.inj (hc₂.symm.trans (h1.trans h.code))
    subst hcc
    have hlen : len₂ = len := by rw [hdg] at hd₂; cases hd₂; rfl
    subst hlen
    have hs₂ : s₂ = (({ U with heap := s₂.heap, slotsUsed := s₂.slotsUsed } : State).setVm s₂.vm).setTop { g with pc := g.pc + len₂, stack := v.toList ++ g.stack } := by
      refine e3.trans ?_
      rw [hf₂, State.calling_eq h.top, State.setFrames_setFrames, State.setTop_of_frames _ hr', hr]
      rfl
    have hsame : U.sameButNew ({ U with heap := s₂.heap, slotsUsed := s₂.slotsUsed } : State) L mc ms := by
      refine ⟨?_, q2, q3, q4, q5, q6⟩
      obtain ⟨t, ht, -⟩ := State.frames_cons hr
      show ({ U with heap := s₂.heap, slotsUsed := s₂.slotsUsed } : State) = { U.setFrames U.frames with heap := s₂.heap, slotsUsed := s₂.slotsUsed }
      rw [State.setFrames_self ht]
    subst hg
    refine Or.inl ⟨v, ⟨(({ U with heap := s₂.heap, slotsUsed := s₂.slotsUsed } : State).setVm s₂.vm), Ls ++ L, c0 + mc, s0 + ms⟩,
      ⟨X.admits, X.cas, X.clock, X.frames, X.room, X.hears, X.method, X.code, (X.here.setHeapUsed s₂.heap s₂.slotsUsed).setVm hW'.alike, X.tail, State.WarmedH.trans X.warmed hW', X.limits, X.bytes, X.same.trans (hsame.setVm s.vm)⟩,
      ⟨g, mk, s₂, L, rfl, rfl, hqc, rfl, hL, rfl, rfl⟩, ?_⟩
    show Steps p.tables e below _ ((({ U with heap := s₂.heap, slotsUsed := s₂.slotsUsed } : State).setVm s₂.vm).setTop { g with pc := g.pc + len₂, stack := v.toList ++ g.stack })
    rw [← hs₂]
    exact hsteps
  · obtain ⟨e2, q2, q3, q4, q5, q6⟩ := id hsm
    have e3 : s₂ = ({ (U.calling g mk a).setFrames s₂.frames with heap := s₂.heap, slotsUsed := s₂.slotsUsed } : State).setVm s₂.vm := by
      have : s₂ = ({ s₂ with vm := (U.calling g mk a).vm } : State).setVm s₂.vm := rfl
      rw [e2] at this
      exact this
    have hf₂ : s₂.frames = .throwing q :: .java g :: U.frames.tail := hend
    have hW' : U.WarmedH s₂.vm := hW₂
    have hs₂ : s₂ = ((({ U with heap := s₂.heap, slotsUsed := s₂.slotsUsed } : State).setVm s₂.vm).setTop g).pushFrame (.throwing q) := by
      refine e3.trans ?_
      rw [hf₂, State.calling_eq h.top, State.setFrames_setFrames, State.pushFrame, State.frames_setTop _ hr', State.setTop_of_frames _ hr', State.setFrames_setFrames, hr]
      rfl
    have hsame : U.sameButNew ({ U with heap := s₂.heap, slotsUsed := s₂.slotsUsed } : State) L mc ms := by
      refine ⟨?_, q2, q3, q4, q5, q6⟩
      obtain ⟨t, ht, -⟩ := State.frames_cons hr
      show ({ U with heap := s₂.heap, slotsUsed := s₂.slotsUsed } : State) = { U.setFrames U.frames with heap := s₂.heap, slotsUsed := s₂.slotsUsed }
      rw [State.setFrames_self ht]
    subst hg
    refine Or.inr ⟨q, ⟨(({ U with heap := s₂.heap, slotsUsed := s₂.slotsUsed } : State).setVm s₂.vm), Ls ++ L, c0 + mc, s0 + ms⟩,
      ⟨X.admits, X.cas, X.clock, X.frames, X.room, X.hears, X.method, X.code, (X.here.setHeapUsed s₂.heap s₂.slotsUsed).setVm hW'.alike, X.tail, State.WarmedH.trans X.warmed hW', X.limits, X.bytes, X.same.trans (hsame.setVm s.vm)⟩,
      ⟨g, mk, s₂, L, E, ce, rfl, rfl, hx, hce, hcv, hcl, rfl, hL, rfl, rfl⟩, ?_⟩
    show Steps p.tables e below _ (((({ U with heap := s₂.heap, slotsUsed := s₂.slotsUsed } : State).setVm s₂.vm).setTop g).pushFrame (.throwing q))
    rw [← hs₂]
    exact hsteps
end Payer
section Calls
variable {p : Program} {l : Launch} {e : Env} {R : Room} {s : State} {m : MethodId} {args : Array Value} {below : List Frame} {meth : Method} {c : Code} {T : State} {locs : List Loc} {cells slots : Nat}
theorem vx_callV (X : Stand p l e R s m args below meth c T locs cells slots) (hexec : p.tables.exec = Jvm.exec) {own C : String} {index : Nat} {y : MethodName} {bytes : ByteArray} {maxL : Nat} {ret : Option FieldType}
    (hown : s.vm.findClass own = some m.cls) (hlink : (Cond.methodLink own index y).before args s = true) (hinst : (Cond.instanceMethod y).before args s = true) (hsel : (Cond.selects C y y).before args s = true)
    (hcode : (Cond.code y bytes maxL ret).before args s = true) (hy : y.cls ≠ "java/lang/invoke/MethodHandle" ∧ y.cls ≠ "java/lang/invoke/VarHandle")
    {W9 : Nat} {Pre : Pt → Array Value → Prop} {Post : Pt → Array Value → Option Value → Pt → Prop} {PostX : Pt → Array Value → Addr → Pt → Prop} (hK : vx_Back l R p e below s args y 3 W9 Pre Post PostX)
    {b : Addr} {cellB : Cell} (hcell : T.heap[b]? = some cellB) (hobj : cellB.vm.isStatics = false) (hcls : s.vm.findClass C = some cellB.cls)
    {g : JFrame} (hg : g.method = m) (hsize : g.locals.size = c.maxLocals) {argsL rest : List Value} (hlen : ∀ sig, parseMethodDescriptor y.desc = some sig → argsL.length = sig.parameters.length)
    (hstack : g.stack = argsL.reverse ++ .ref b :: rest) (hW : 2 * g.monitorRoom + (rest.map fun v => v.category).sum ≤ W9) (hdg : decode c.code g.pc = .ok (.invokevirtual index, 3))
    (hpre : ∀ vm₁, s.WarmedH vm₁ → Pre ⟨T.setVm vm₁, locs, cells, slots⟩ (Value.ref b :: argsL).toArray) :
    (∃ (v : Option Value) (vm₁ : Vm) (B : Pt), s.WarmedH vm₁ ∧ Stand p l e R s m args below meth c B.U B.locs B.cells B.slots ∧ Post ⟨T.setVm vm₁, locs, cells, slots⟩ (Value.ref b :: argsL).toArray v B ∧
      ∀ target, Steps p.tables e below (B.U.setTop { g with pc := g.pc + 3, stack := v.toList ++ rest }) target → Steps p.tables e below (T.setTop g) target) ∨
    (∃ (q : Addr) (vm₁ : Vm) (B : Pt), s.WarmedH vm₁ ∧ Stand p l e R s m args below meth c B.U B.locs B.cells B.slots ∧ PostX ⟨T.setVm vm₁, locs, cells, slots⟩ (Value.ref b :: argsL).toArray q B ∧
      Steps p.tables e below (T.setTop g) ((B.U.setTop { g with stack := rest }).pushFrame (.throwing q))) := by
  obtain ⟨mk, methM, hnamed, hmethM, hstM, habM⟩ := Cond.instanceMethod_spec hinst
  obtain ⟨methM', cM, hmethM', -, -, -, -, -, -, hsigM⟩ := Cond.code_spec hnamed hcode
  cases hmethM.symm.trans hmethM'
  obtain ⟨c2, r2, m2, q1, q2, q3, q4, kP, hkP, hkPi⟩ := Cond.selects_spec hsel
  cases hcls.symm.trans q1
  cases (State.methodFound?_of_named hnamed hy).symm.trans q2
  cases hnamed.symm.trans q3
  have hselP : selectMethod e.platform s.vm cellB.cls mk = .method mk := by rw [Launch.admits_selectMethod X.admits]; exact q4
  obtain ⟨vm₁, X₁, hstep₁⟩ := X.invokevirtual hexec hown hlink hnamed hmethM hstM hkP hkPi hy (a := b) (cell := cellB) hcell
    (fun z h => by rw [h] at hobj; cases hobj) hselP hmethM habM hkP hkPi (g := g) hg (argsL := argsL) (rest := rest) (hlen _ hsigM) hstack hdg
  rcases hK m meth c ⟨T.setVm vm₁, locs, cells, slots⟩ { g with stack := rest } (.invokevirtual index) mk (Value.ref b :: argsL).toArray X₁ hg hsize hdg hW (X₁.named hnamed) (hpre vm₁ X₁.warmed) with ⟨v, B, X', hpost, hsteps⟩ | ⟨q, B, X', hpost, hsteps⟩
  · exact Or.inl ⟨v, vm₁, B, X₁.warmed, X', hpost, fun target h => hstep₁ _ fun acts => by rw [doInvoke_state]; exact hsteps.trans h⟩
  · exact Or.inr ⟨q, vm₁, B, X₁.warmed, X', hpost, hstep₁ _ fun acts => by rw [doInvoke_state]; exact hsteps⟩
theorem vx_callS (X : Stand p l e R s m args below meth c T locs cells slots) (hexec : p.tables.exec = Jvm.exec) {own : String} {index : Nat} {y : MethodName} {bytes : ByteArray} {maxL : Nat} {ret : Option FieldType}
    (hown : s.vm.findClass own = some m.cls) (hlink : (Cond.methodLink own index y).before args s = true) (hstat : (Cond.static y).before args s = true) (hinit : (Cond.initialized y.cls).before args s = true)
    (hcode : (Cond.code y bytes maxL ret).before args s = true) (hy : y.cls ≠ "java/lang/invoke/MethodHandle" ∧ y.cls ≠ "java/lang/invoke/VarHandle")
    {W9 : Nat} {Pre : Pt → Array Value → Prop} {Post : Pt → Array Value → Option Value → Pt → Prop} {PostX : Pt → Array Value → Addr → Pt → Prop} (hK : vx_Back l R p e below s args y 3 W9 Pre Post PostX)
    {g : JFrame} (hg : g.method = m) (hsize : g.locals.size = c.maxLocals) {argsL rest : List Value} (hlen : ∀ sig, parseMethodDescriptor y.desc = some sig → argsL.length = sig.parameters.length)
    (hstack : g.stack = argsL.reverse ++ rest) (hW : 2 * g.monitorRoom + (rest.map fun v => v.category).sum ≤ W9) (hdg : decode c.code g.pc = .ok (.invokestatic index, 3))
    (hpre : ∀ vm₁, s.WarmedH vm₁ → Pre ⟨T.setVm vm₁, locs, cells, slots⟩ argsL.toArray) :
    (∃ (v : Option Value) (vm₁ : Vm) (B : Pt), s.WarmedH vm₁ ∧ Stand p l e R s m args below meth c B.U B.locs B.cells B.slots ∧ Post ⟨T.setVm vm₁, locs, cells, slots⟩ argsL.toArray v B ∧
      ∀ target, Steps p.tables e below (B.U.setTop { g with pc := g.pc + 3, stack := v.toList ++ rest }) target → Steps p.tables e below (T.setTop g) target) ∨
    (∃ (q : Addr) (vm₁ : Vm) (B : Pt), s.WarmedH vm₁ ∧ Stand p l e R s m args below meth c B.U B.locs B.cells B.slots ∧ PostX ⟨T.setVm vm₁, locs, cells, slots⟩ argsL.toArray q B ∧
      Steps p.tables e below (T.setTop g) ((B.U.setTop { g with stack := rest }).pushFrame (.throwing q))) := by
  obtain ⟨mk, hnamed⟩ := Cond.code_named hcode
  obtain ⟨methM, cM, hmethM, -, -, -, -, -, -, hsigM⟩ := Cond.code_spec hnamed hcode
  have hstatic : methM.isStatic = true := Cond.static_spec hnamed hmethM hstat
  obtain ⟨kP, hkP, -⟩ := className_of_methodNamed hnamed
  have hinitP : kP.init = .initialized := Cond.initialized_spec (findClass_of_methodNamed hnamed) hkP hinit
  obtain ⟨vm₁, X₁, hstep₁⟩ := X.invokestatic hexec hown hlink hnamed hmethM hstatic hkP hinitP hy (g := g) hg (argsL := argsL) (rest := rest) (hlen _ hsigM) hstack hdg
  rcases hK m meth c ⟨T.setVm vm₁, locs, cells, slots⟩ { g with stack := rest } (.invokestatic index) mk argsL.toArray X₁ hg hsize hdg hW (X₁.named hnamed) (hpre vm₁ X₁.warmed) with ⟨v, B, X', hpost, hsteps⟩ | ⟨q, B, X', hpost, hsteps⟩
  · exact Or.inl ⟨v, vm₁, B, X₁.warmed, X', hpost, fun target h => hstep₁ _ fun acts => by rw [doInvoke_state]; exact hsteps.trans h⟩
  · exact Or.inr ⟨q, vm₁, B, X₁.warmed, X', hpost, hstep₁ _ fun acts => by rw [doInvoke_state]; exact hsteps⟩
end Calls
theorem vx_cls {s : State} {T : State} {vm₁ : Vm} {E : String} {k : ClassId} (hW : s.WarmedH vm₁) (h : (T.setVm vm₁).vm.findClass E = some k) : s.vm.findClass E = some k := by
  have h1 : vm₁.findClass E = some k := h
  rw [hW.alike.findClass] at h1
  exact h1
/-- the method's frame g, with q thrown over it -/
def vx_W (p : Program) (l : Launch) (e : Env) (R : Room) (s : State) (m : MethodId) (args : Array Value) (below : List Frame) (meth : Method) (c : Code) (H : Heap) (locs : List Loc) (cells slots : Nat) (Q : State → Prop) (g : JFrame) (q : Addr) : Prop :=
  ∀ T : State, T.heap = H → Stand p l e R s m args below meth c T locs cells slots → ∃ t, Steps p.tables e below ((T.setTop g).pushFrame (.throwing q)) t ∧ Q t
def vx_Run (p : Program) (l : Launch) (e : Env) (R : Room) (s : State) (m : MethodId) (args : Array Value) (below : List Frame) (meth : Method) (c : Code) (H : Heap) (locs : List Loc) (cells slots mc ms : Nat) (g : JFrame) (rest : List Value) (Qa : State → Outcome → State → Prop) (XC : String → State → State → Prop) (free : Addr → Prop) : Prop :=
  ∀ T : State, T.heap = H → Stand p l e R s m args below meth c T locs cells slots →
    (∃ (v : Option Value) (st₀ t T' : State) (L : List Loc), st₀.heap = H ∧ Stand p l e R s m args below meth c T' (locs ++ L) (cells + mc) (slots + ms) ∧ (∀ q ∈ L, free q.base) ∧ T'.heap = t.heap ∧ T'.vm = t.vm ∧ Qa st₀ (.returned v) t ∧
      Goes p e below T g T' { g with pc := g.pc + 3, stack := v.toList ++ rest }) ∨
    (∃ (q : Addr) (st₀ t T' : State) (L : List Loc) (E : String) (ce : Cell), st₀.heap = H ∧ Stand p l e R s m args below meth c T' (locs ++ L) (cells + mc) (slots + ms) ∧ (∀ z ∈ L, free z.base) ∧ T'.heap = t.heap ∧ T'.vm = t.vm ∧ XC E st₀ t ∧ t.heap[q]? = some ce ∧ ce.vm = .none ∧ s.vm.findClass E = some ce.cls ∧
      Steps p.tables e below (T.setTop g) ((T'.setTop { g with stack := rest }).pushFrame (.throwing q)))
def vx_X {S : Type} (px : S → Prop) (B : String → S → State → Prop) (A : Nat → Prop) : String → State → State → Prop := fun E st t => ∃ u : S, px u ∧ B E u t ∧ va_F A st t
section Runs
variable {p : Program} {l : Launch} {e : Env} {R : Room} {s : State} {m : MethodId} {args : Array Value} {below : List Frame} {meth : Method} {c : Code} {H : Heap} {locs : List Loc} {cells slots : Nat}
variable {y : MethodName} {bytes cc : ByteArray} {maxL nL mc ms n index : Nat} {ret : Option FieldType} {ws : List Cond} {rm : Room} {Pc : Array Value → State → Prop} {Qc : Array Value → State → Outcome → State → Prop} {XC : String → State → State → Prop} {free : Addr → Prop} {Ts : List Cond} {own C : String} {b : Addr} {As rest : List Value} {g : JFrame}
theorem vx_callBack (cb : CallB R s args own index y bytes maxL ret ws rm mc ms n) (hM : vx_Met l y ws rm Pc Qc XC mc ms free) (hbl : FrameBlind Pc) : vx_Back l R p e below s args y 3 8 (PreOf R mc ms Pc) (PostOf Qc mc ms free) (vx_Post XC mc ms free) := by
  obtain ⟨hrc, hrs, hfr, hlo, hws, hcw, -, hini, -⟩ := cb
  exact vx_back (bytes := bytes) (maxL := maxL) (ret := ret) hM hbl hrc hrs hfr hlo hws hcw (fun a' U hW => word_at hW (Or.inl (by first | rfl | simp [Cond.onTables, Cond.keeps, Cond.steady])) hini)
theorem vx_runV (S : CallFix p m c cc nL s args Ts own) (hM : vx_Met l y ws rm Pc Qc XC mc ms free) (cw : CallW R s args own C index y bytes maxL ret ws rm mc ms n) (hp : PreV s H C b Pc As)
    (hg : g.method = m) (hn : As.length = n) (hsize : g.locals.size = nL) (hstack : g.stack = As.reverse ++ .ref b :: rest) (hW : 2 * g.monitorRoom + (rest.map fun v => v.category).sum ≤ 8) (hdg : decode cc g.pc = .ok (.invokevirtual index, 3)) (hf : cells + mc ≤ R.cells ∧ slots + ms ≤ R.slots) :
    vx_Run p l e R s m args below meth c H locs cells slots mc ms g rest (Qc (Value.ref b :: As).toArray) XC free := by
  have hK : vx_Back l R p e below s args y 3 8 (PreOf R mc ms Pc) (PostOf Qc mc ms free) (vx_Post XC mc ms free) := vx_callBack cw.1 hM hp.1
  obtain ⟨⟨-, -, -, -, -, -, hcode, -, hy, hlen, hl⟩, hin, hse⟩ := cw
  obtain ⟨hx, hb, hml, ho, -⟩ := S
  obtain ⟨-, ⟨cellB, hcB, hoB, hclB⟩, hPc⟩ := hp
  intro T hT X
  rcases vx_callV X hx (C := C) (bytes := bytes) (maxL := maxL) (ret := ret) ho hl hin hse hcode hy hK (by rw [hT]; exact hcB) hoB hclB hg (hsize.trans hml.symm) (argsL := As) (rest := rest) (fun sig h => hn.trans (hlen sig h)) hstack hW (by rw [hb]; exact hdg)
    (fun vm₁ hW₁ => ⟨hf.1, hf.2, hPc (T.setVm vm₁) hT hW₁⟩) with ⟨v, vm₁, ⟨U', l2, c2, s2⟩, hW₁, X', ⟨g', mk, t, L, e1, e2, hq, h1, hL, h2, h3⟩, st⟩ | ⟨q, vm₁, ⟨U', l2, c2, s2⟩, hW₁, X', ⟨g', mk, t, L, E, ce, e1, e2, hq, hce, hcv, hcl, h1, hL, h2, h3⟩, st⟩
  · dsimp only [Pt.U, Pt.locs, Pt.cells, Pt.slots] at X' e1 e2 h1 h2 h3 st
    subst h1; subst h2; subst h3
    exact Or.inl ⟨v, (T.setVm vm₁).calling g' mk (Value.ref b :: As).toArray, t, U', L, hT, X', hL, e1, e2, hq, st⟩
  · dsimp only [Pt.U, Pt.locs, Pt.cells, Pt.slots] at X' e1 e2 h1 h2 h3 st hcl
    subst h1; subst h2; subst h3
    exact Or.inr ⟨q, (T.setVm vm₁).calling g' mk (Value.ref b :: As).toArray, t, U', L, E, ce, hT, X', hL, e1, e2, hq, hce, hcv, vx_cls hW₁ hcl, st⟩
theorem vx_runS (S : CallFix p m c cc nL s args Ts own) (hM : vx_Met l y ws rm Pc Qc XC mc ms free) (cw : CallB R s args own index y bytes maxL ret ws rm mc ms n ∧ (Cond.static y).before args s = true) (hp : PreS s H Pc As)
    (hg : g.method = m) (hn : As.length = n) (hsize : g.locals.size = nL) (hstack : g.stack = As.reverse ++ rest) (hW : 2 * g.monitorRoom + (rest.map fun v => v.category).sum ≤ 8) (hdg : decode cc g.pc = .ok (.invokestatic index, 3)) (hf : cells + mc ≤ R.cells ∧ slots + ms ≤ R.slots) :
    vx_Run p l e R s m args below meth c H locs cells slots mc ms g rest (Qc As.toArray) XC free := by
  have hK : vx_Back l R p e below s args y 3 8 (PreOf R mc ms Pc) (PostOf Qc mc ms free) (vx_Post XC mc ms free) := vx_callBack cw.1 hM hp.1
  obtain ⟨⟨-, -, -, -, -, -, hcode, hini, hy, hlen, hl⟩, hstt⟩ := cw
  obtain ⟨hx, hb, hml, ho, -⟩ := S
  intro T hT X
  rcases vx_callS X hx (bytes := bytes) (maxL := maxL) (ret := ret) ho hl hstt hini hcode hy hK hg (hsize.trans hml.symm) (argsL := As) (rest := rest) (fun sig h => hn.trans (hlen sig h)) hstack hW (by rw [hb]; exact hdg)
    (fun vm₁ hW₁ => ⟨hf.1, hf.2, hp.2 (T.setVm vm₁) hT hW₁⟩) with ⟨v, vm₁, ⟨U', l2, c2, s2⟩, hW₁, X', ⟨g', mk, t, L, e1, e2, hq, h1, hL, h2, h3⟩, st⟩ | ⟨q, vm₁, ⟨U', l2, c2, s2⟩, hW₁, X', ⟨g', mk, t, L, E, ce, e1, e2, hq, hce, hcv, hcl, h1, hL, h2, h3⟩, st⟩
  · dsimp only [Pt.U, Pt.locs, Pt.cells, Pt.slots] at X' e1 e2 h1 h2 h3 st
    subst h1; subst h2; subst h3
    exact Or.inl ⟨v, (T.setVm vm₁).calling g' mk As.toArray, t, U', L, hT, X', hL, e1, e2, hq, st⟩
  · dsimp only [Pt.U, Pt.locs, Pt.cells, Pt.slots] at X' e1 e2 h1 h2 h3 st hcl
    subst h1; subst h2; subst h3
    exact Or.inr ⟨q, (T.setVm vm₁).calling g' mk As.toArray, t, U', L, E, ce, hT, X', hL, e1, e2, hq, hce, hcv, vx_cls hW₁ hcl, st⟩
end Runs
section Rows
variable {p : Program} {l : Launch} {e : Env} {R : Room} {s : State} {m : MethodId} {args : Array Value} {below : List Frame} {meth : Method} {c : Code} {H : Heap} {locs : List Loc} {cells slots : Nat} {Q : State → Prop}
variable {mc ms : Nat} {free : Addr → Prop} {A0 A1 : Nat → Prop} {H0 : Heap} {a : Array Value} {pc : Nat} {ls : Array Slot} {st0 rest : List Value}
theorem vx_keep {st₀ t T' : State} {L : List Loc} (h0 : st₀.heap = H) (e1 : T'.heap = t.heap) (hS : va_S A0 H0 H locs) (hA : ∀ q, q < H.size → A1 q → A0 q) (hf : ∀ q, free q → A0 q) (hL : ∀ q ∈ L, free q.base) (hF : va_F A1 st₀ t) :
    H.size ≤ T'.heap.size ∧ (∀ q : Nat, q < H.size → ¬ A1 q → T'.heap[q]? = H[q]?) ∧ va_S A0 H0 T'.heap (locs ++ L) := by
  obtain ⟨hz, hk⟩ := hF
  rw [h0] at hz hk
  exact ⟨by rw [e1]; exact hz, fun q h1 h2 => by rw [e1]; exact hk q h1 h2,
    ⟨Nat.le_trans hS.1 (by rw [e1]; exact hz), fun q h1 h2 => by rw [e1, hk q (Nat.lt_of_lt_of_le h1 hS.1) (fun z => h2 (hA q (Nat.lt_of_lt_of_le h1 hS.1) z))]; exact hS.2.1 q h1 h2, fun q hq => by
      rcases List.mem_append.mp hq with h | h
      · exact hS.2.2 q h
      · exact hf _ (hL q h)⟩⟩
theorem vx_calli {S SX : Type} {post : Int32 → S → Prop} {px : SX → Prop} {B : S → State → Prop} {BX : String → SX → State → Prop} {AX : Nat → Prop} (hr : vx_Run p l e R s m args below meth c H locs cells slots mc ms (F0 m pc ls st0) rest (va_Qi post B A1 a) (vx_X px BX AX) free) (hS : va_S A0 H0 H locs) (hA : ∀ q, q < H.size → A1 q → A0 q) (hf : ∀ q, free q → A0 q) (hAX : ∀ q, q < H.size → AX q → A0 q)
    (kx : ∀ (E : String) (ce : Cell) (q9 : Addr) (u : SX) (t : State) (H1 : Heap) (locs1 : List Loc), t.heap = H1 → s.vm.Alike t.vm → px u → BX E u t → H.size ≤ H1.size → (∀ q : Nat, q < H.size → ¬ AX q → H1[q]? = H[q]?) → va_S A0 H0 H1 locs1 → H1[q9]? = some ce → ce.vm = .none → s.vm.findClass E = some ce.cls → vx_W p l e R s m args below meth c H1 locs1 (cells + mc) (slots + ms) Q (F0 m pc ls rest) q9)
    (kk : ∀ (r : Int32) (u : S) (t : State) (H1 : Heap) (locs1 : List Loc), t.heap = H1 → s.vm.Alike t.vm → post r u → B u t → H.size ≤ H1.size → (∀ q : Nat, q < H.size → ¬ A1 q → H1[q]? = H[q]?) → va_S A0 H0 H1 locs1 → W p l e R s m args below meth c H1 locs1 (cells + mc) (slots + ms) Q (F0 m (pc + 3) ls (.int r :: rest))) : W p l e R s m args below meth c H locs cells slots Q (F0 m pc ls st0) := by
  intro T hT X
  rcases hr T hT X with ⟨v, st₀, t, T', L, h0, X', hL, e1, e2, ⟨⟨r, u, hv, hp, hb⟩, hF⟩, st⟩ | ⟨q, st₀, t, T', L, E, ce, h0, X', hL, e1, e2, ⟨u, hp, hb, hF⟩, hce, hcv, hcl, st⟩
  · cases hv
    obtain ⟨k1, k2, k3⟩ := vx_keep h0 e1 hS hA hf hL hF
    obtain ⟨t2, a1, b1⟩ := kk r u t T'.heap (locs ++ L) e1.symm (by rw [← e2]; exact X'.warmed.alike) hp hb k1 k2 k3 T' rfl X'
    exact ⟨t2, st t2 a1, b1⟩
  · obtain ⟨k1, k2, k3⟩ := vx_keep h0 e1 hS hAX hf hL hF
    obtain ⟨t2, a1, b1⟩ := kx E ce q u t T'.heap (locs ++ L) e1.symm (by rw [← e2]; exact X'.warmed.alike) hp hb k1 k2 k3 (by rw [e1]; exact hce) hcv hcl T' rfl X'
    exact ⟨t2, st.trans a1, b1⟩
theorem vx_calll {S SX : Type} {post : Int64 → S → Prop} {px : SX → Prop} {B : S → State → Prop} {BX : String → SX → State → Prop} {AX : Nat → Prop} (hr : vx_Run p l e R s m args below meth c H locs cells slots mc ms (F0 m pc ls st0) rest (va_Ql post B A1 a) (vx_X px BX AX) free) (hS : va_S A0 H0 H locs) (hA : ∀ q, q < H.size → A1 q → A0 q) (hf : ∀ q, free q → A0 q) (hAX : ∀ q, q < H.size → AX q → A0 q)
    (kx : ∀ (E : String) (ce : Cell) (q9 : Addr) (u : SX) (t : State) (H1 : Heap) (locs1 : List Loc), t.heap = H1 → s.vm.Alike t.vm → px u → BX E u t → H.size ≤ H1.size → (∀ q : Nat, q < H.size → ¬ AX q → H1[q]? = H[q]?) → va_S A0 H0 H1 locs1 → H1[q9]? = some ce → ce.vm = .none → s.vm.findClass E = some ce.cls → vx_W p l e R s m args below meth c H1 locs1 (cells + mc) (slots + ms) Q (F0 m pc ls rest) q9)
    (kk : ∀ (r : Int64) (u : S) (t : State) (H1 : Heap) (locs1 : List Loc), t.heap = H1 → s.vm.Alike t.vm → post r u → B u t → H.size ≤ H1.size → (∀ q : Nat, q < H.size → ¬ A1 q → H1[q]? = H[q]?) → va_S A0 H0 H1 locs1 → W p l e R s m args below meth c H1 locs1 (cells + mc) (slots + ms) Q (F0 m (pc + 3) ls (.long r :: rest))) : W p l e R s m args below meth c H locs cells slots Q (F0 m pc ls st0) := by
  intro T hT X
  rcases hr T hT X with ⟨v, st₀, t, T', L, h0, X', hL, e1, e2, ⟨⟨r, u, hv, hp, hb⟩, hF⟩, st⟩ | ⟨q, st₀, t, T', L, E, ce, h0, X', hL, e1, e2, ⟨u, hp, hb, hF⟩, hce, hcv, hcl, st⟩
  · cases hv
    obtain ⟨k1, k2, k3⟩ := vx_keep h0 e1 hS hA hf hL hF
    obtain ⟨t2, a1, b1⟩ := kk r u t T'.heap (locs ++ L) e1.symm (by rw [← e2]; exact X'.warmed.alike) hp hb k1 k2 k3 T' rfl X'
    exact ⟨t2, st t2 a1, b1⟩
  · obtain ⟨k1, k2, k3⟩ := vx_keep h0 e1 hS hAX hf hL hF
    obtain ⟨t2, a1, b1⟩ := kx E ce q u t T'.heap (locs ++ L) e1.symm (by rw [← e2]; exact X'.warmed.alike) hp hb k1 k2 k3 (by rw [e1]; exact hce) hcv hcl T' rfl X'
    exact ⟨t2, st.trans a1, b1⟩
theorem vx_callf {S SX : Type} {post : UInt32 → S → Prop} {px : SX → Prop} {B : S → State → Prop} {BX : String → SX → State → Prop} {AX : Nat → Prop} (hr : vx_Run p l e R s m args below meth c H locs cells slots mc ms (F0 m pc ls st0) rest (va_Qf post B A1 a) (vx_X px BX AX) free) (hS : va_S A0 H0 H locs) (hA : ∀ q, q < H.size → A1 q → A0 q) (hf : ∀ q, free q → A0 q) (hAX : ∀ q, q < H.size → AX q → A0 q)
    (kx : ∀ (E : String) (ce : Cell) (q9 : Addr) (u : SX) (t : State) (H1 : Heap) (locs1 : List Loc), t.heap = H1 → s.vm.Alike t.vm → px u → BX E u t → H.size ≤ H1.size → (∀ q : Nat, q < H.size → ¬ AX q → H1[q]? = H[q]?) → va_S A0 H0 H1 locs1 → H1[q9]? = some ce → ce.vm = .none → s.vm.findClass E = some ce.cls → vx_W p l e R s m args below meth c H1 locs1 (cells + mc) (slots + ms) Q (F0 m pc ls rest) q9)
    (kk : ∀ (r : UInt32) (u : S) (t : State) (H1 : Heap) (locs1 : List Loc), t.heap = H1 → s.vm.Alike t.vm → post r u → B u t → H.size ≤ H1.size → (∀ q : Nat, q < H.size → ¬ A1 q → H1[q]? = H[q]?) → va_S A0 H0 H1 locs1 → W p l e R s m args below meth c H1 locs1 (cells + mc) (slots + ms) Q (F0 m (pc + 3) ls (.float r :: rest))) : W p l e R s m args below meth c H locs cells slots Q (F0 m pc ls st0) := by
  intro T hT X
  rcases hr T hT X with ⟨v, st₀, t, T', L, h0, X', hL, e1, e2, ⟨⟨r, u, hv, hp, hb⟩, hF⟩, st⟩ | ⟨q, st₀, t, T', L, E, ce, h0, X', hL, e1, e2, ⟨u, hp, hb, hF⟩, hce, hcv, hcl, st⟩
  · cases hv
    obtain ⟨k1, k2, k3⟩ := vx_keep h0 e1 hS hA hf hL hF
    obtain ⟨t2, a1, b1⟩ := kk r u t T'.heap (locs ++ L) e1.symm (by rw [← e2]; exact X'.warmed.alike) hp hb k1 k2 k3 T' rfl X'
    exact ⟨t2, st t2 a1, b1⟩
  · obtain ⟨k1, k2, k3⟩ := vx_keep h0 e1 hS hAX hf hL hF
    obtain ⟨t2, a1, b1⟩ := kx E ce q u t T'.heap (locs ++ L) e1.symm (by rw [← e2]; exact X'.warmed.alike) hp hb k1 k2 k3 (by rw [e1]; exact hce) hcv hcl T' rfl X'
    exact ⟨t2, st.trans a1, b1⟩
theorem vx_calld {S SX : Type} {post : UInt64 → S → Prop} {px : SX → Prop} {B : S → State → Prop} {BX : String → SX → State → Prop} {AX : Nat → Prop} (hr : vx_Run p l e R s m args below meth c H locs cells slots mc ms (F0 m pc ls st0) rest (va_Qd post B A1 a) (vx_X px BX AX) free) (hS : va_S A0 H0 H locs) (hA : ∀ q, q < H.size → A1 q → A0 q) (hf : ∀ q, free q → A0 q) (hAX : ∀ q, q < H.size → AX q → A0 q)
    (kx : ∀ (E : String) (ce : Cell) (q9 : Addr) (u : SX) (t : State) (H1 : Heap) (locs1 : List Loc), t.heap = H1 → s.vm.Alike t.vm → px u → BX E u t → H.size ≤ H1.size → (∀ q : Nat, q < H.size → ¬ AX q → H1[q]? = H[q]?) → va_S A0 H0 H1 locs1 → H1[q9]? = some ce → ce.vm = .none → s.vm.findClass E = some ce.cls → vx_W p l e R s m args below meth c H1 locs1 (cells + mc) (slots + ms) Q (F0 m pc ls rest) q9)
    (kk : ∀ (r : UInt64) (u : S) (t : State) (H1 : Heap) (locs1 : List Loc), t.heap = H1 → s.vm.Alike t.vm → post r u → B u t → H.size ≤ H1.size → (∀ q : Nat, q < H.size → ¬ A1 q → H1[q]? = H[q]?) → va_S A0 H0 H1 locs1 → W p l e R s m args below meth c H1 locs1 (cells + mc) (slots + ms) Q (F0 m (pc + 3) ls (.double r :: rest))) : W p l e R s m args below meth c H locs cells slots Q (F0 m pc ls st0) := by
  intro T hT X
  rcases hr T hT X with ⟨v, st₀, t, T', L, h0, X', hL, e1, e2, ⟨⟨r, u, hv, hp, hb⟩, hF⟩, st⟩ | ⟨q, st₀, t, T', L, E, ce, h0, X', hL, e1, e2, ⟨u, hp, hb, hF⟩, hce, hcv, hcl, st⟩
  · cases hv
    obtain ⟨k1, k2, k3⟩ := vx_keep h0 e1 hS hA hf hL hF
    obtain ⟨t2, a1, b1⟩ := kk r u t T'.heap (locs ++ L) e1.symm (by rw [← e2]; exact X'.warmed.alike) hp hb k1 k2 k3 T' rfl X'
    exact ⟨t2, st t2 a1, b1⟩
  · obtain ⟨k1, k2, k3⟩ := vx_keep h0 e1 hS hAX hf hL hF
    obtain ⟨t2, a1, b1⟩ := kx E ce q u t T'.heap (locs ++ L) e1.symm (by rw [← e2]; exact X'.warmed.alike) hp hb k1 k2 k3 (by rw [e1]; exact hce) hcv hcl T' rfl X'
    exact ⟨t2, st.trans a1, b1⟩
theorem vx_callv {S SX : Type} {post : S → Prop} {px : SX → Prop} {B : S → State → Prop} {BX : String → SX → State → Prop} {AX : Nat → Prop} (hr : vx_Run p l e R s m args below meth c H locs cells slots mc ms (F0 m pc ls st0) rest (va_Qv post B A1 a) (vx_X px BX AX) free) (hS : va_S A0 H0 H locs) (hA : ∀ q, q < H.size → A1 q → A0 q) (hf : ∀ q, free q → A0 q) (hAX : ∀ q, q < H.size → AX q → A0 q)
    (kx : ∀ (E : String) (ce : Cell) (q9 : Addr) (u : SX) (t : State) (H1 : Heap) (locs1 : List Loc), t.heap = H1 → s.vm.Alike t.vm → px u → BX E u t → H.size ≤ H1.size → (∀ q : Nat, q < H.size → ¬ AX q → H1[q]? = H[q]?) → va_S A0 H0 H1 locs1 → H1[q9]? = some ce → ce.vm = .none → s.vm.findClass E = some ce.cls → vx_W p l e R s m args below meth c H1 locs1 (cells + mc) (slots + ms) Q (F0 m pc ls rest) q9)
    (kk : ∀ (u : S) (t : State) (H1 : Heap) (locs1 : List Loc), t.heap = H1 → s.vm.Alike t.vm → post u → B u t → H.size ≤ H1.size → (∀ q : Nat, q < H.size → ¬ A1 q → H1[q]? = H[q]?) → va_S A0 H0 H1 locs1 → W p l e R s m args below meth c H1 locs1 (cells + mc) (slots + ms) Q (F0 m (pc + 3) ls (rest))) : W p l e R s m args below meth c H locs cells slots Q (F0 m pc ls st0) := by
  intro T hT X
  rcases hr T hT X with ⟨v, st₀, t, T', L, h0, X', hL, e1, e2, ⟨⟨u, hv, hp, hb⟩, hF⟩, st⟩ | ⟨q, st₀, t, T', L, E, ce, h0, X', hL, e1, e2, ⟨u, hp, hb, hF⟩, hce, hcv, hcl, st⟩
  · cases hv
    obtain ⟨k1, k2, k3⟩ := vx_keep h0 e1 hS hA hf hL hF
    obtain ⟨t2, a1, b1⟩ := kk u t T'.heap (locs ++ L) e1.symm (by rw [← e2]; exact X'.warmed.alike) hp hb k1 k2 k3 T' rfl X'
    exact ⟨t2, st t2 a1, b1⟩
  · obtain ⟨k1, k2, k3⟩ := vx_keep h0 e1 hS hAX hf hL hF
    obtain ⟨t2, a1, b1⟩ := kx E ce q u t T'.heap (locs ++ L) e1.symm (by rw [← e2]; exact X'.warmed.alike) hp hb k1 k2 k3 (by rw [e1]; exact hce) hcv hcl T' rfl X'
    exact ⟨t2, st.trans a1, b1⟩
end Rows
section Ends
variable {p : Program} {l : Launch} {e : Env} {R : Room} {s : State} {m : MethodId} {args : Array Value} {below : List Frame} {meth : Method} {c : Code} {H : Heap} {locs : List Loc} {cells slots : Nat} {Q : State → Prop}
variable {mc ms : Nat} {free : Addr → Prop} {A0 A1 : Nat → Prop} {H0 : Heap} {a : Array Value} {ls : Array Slot} {st0 rest : List Value}
variable {Qc : Array Value → State → Outcome → State → Prop} {XC : String → State → State → Prop}
/-- what a body that may throw owes at its end -/
def vx_MQ (below : List Frame) (Qc : Array Value → State → Outcome → State → Prop) (XC : String → State → State → Prop) (a : Array Value) (s : State) (mc ms : Nat) (free : Addr → Prop) : State → Prop := fun t =>
  ∃ o, t.status = .running ∧ Ended t below o ∧ vx_Q Qc XC mc ms free a s o t
theorem vx_ret {g : JFrame} {mc ms : Nat} (k : W p l e R s m args below meth c H locs cells slots (MQ below Qc args s mc ms free) g) : W p l e R s m args below meth c H locs cells slots (vx_MQ below Qc XC args s mc ms free) g := by
  intro T hT X
  obtain ⟨t, a1, o, b1, b2, b3, b4⟩ := k T hT X
  exact ⟨t, a1, o, b1, b2, Or.inl ⟨b3, b4⟩⟩
/-- not caught here: it goes on to the caller -/
theorem vx_widen {g : JFrame} {q : Addr} {k n : Nat} (h1 : cells ≤ k) (h2 : slots ≤ n) (kk : vx_W p l e R s m args below meth c H locs k n Q g q) : vx_W p l e R s m args below meth c H locs cells slots Q g q := fun T hT X => kk T hT (stand_widen X h1 h2)
theorem vx_out {pc : Nat} {E : String} {ce : Cell} {q : Addr} {mc ms : Nat} (hout : ∀ x ∈ c.exceptionTable.toList, covers x pc = false) (hlocks : meth.locks = false) (hcell : H[q]? = some ce) (hv : ce.vm = .none) (hcl : s.vm.findClass E = some ce.cls)
    (hx : ∀ t : State, t.heap = H → s.vm.Alike t.vm → XC E s t) (hf : ∀ z ∈ locs, free z.base) (hc : cells ≤ mc) (hs : slots ≤ ms) :
    vx_W p l e R s m args below meth c H locs cells slots (vx_MQ below Qc XC args s mc ms free) (F0 m pc ls rest) q := by
  intro T hT X
  obtain ⟨st1, hrun, hend, hW, hsm⟩ := X.leaveThrown q (g := F0 m pc ls rest) rfl rfl rfl hout hlocks
  have hcell9 : (T.setFrames (.throwing q :: below)).heap[q]? = some ce := by
    show T.heap[q]? = some ce
    rw [hT]; exact hcell
  exact ⟨_, st1, .threw q, hrun, hend, Or.inr ⟨q, rfl, E, ce, locs, hx _ hT hW.alike, hcell9, hv, hcl, hW, hsm.mono hc hs, hf⟩⟩
theorem vx_frame {U : State} {k n : Nat} (h : s.sameButNew ({ U with vm := s.vm } : State) locs k n) : s.heap.size ≤ U.heap.size ∧ ∀ q : Nat, q < s.heap.size → (∀ z ∈ locs, z.base ≠ q) → U.heap[q]? = s.heap[q]? := by
  obtain ⟨-, h2, -, -, -, h6⟩ := h
  refine ⟨h2, fun q hq hz => ?_⟩
  obtain ⟨c9, e1, e2, e3, e4⟩ := h6 q _ (Array.getElem?_eq_getElem hq)
  have hs : c9.slots = (s.heap[q]).slots := Array.ext_getElem? fun i => e4 i fun hm => hz _ hm rfl
  have h9 : c9 = s.heap[q] := by
    rw [hs] at e2
    exact e2
  have e5 : U.heap[q]? = some c9 := e1
  rw [e5, h9, Array.getElem?_eq_getElem hq]
/-- the words of a throw but the four that speak of the heap -/
def vx_no (w : Cond) : Bool := decide (w ≠ .isRef (.static Bundle.tN "UNASSIGNED_STACK" Bundle.steD)) && decide (w ≠ .isRef (.static Bundle.tN "SUPPRESSED_SENTINEL" Bundle.listD)) && decide (w ≠ .laysStatic Bundle.tN "UNASSIGNED_STACK" Bundle.steD) && decide (w ≠ .laysStatic Bundle.tN "SUPPRESSED_SENTINEL" Bundle.listD)
def vx_at0 (own : String) (ic : Nat) (X : String) (names : List String) : List Cond := (Bundle.ownAtoms0 own ic X names).filter vx_no
def vx_atS (own : String) (ic : Nat) (X : String) (names : List String) : List Cond := (Bundle.ownAtoms own ic X names).filter vx_no
/-- a word that the tables alone decide, or a good one -/
def vx_ot (w : Cond) : Bool := w.onTables || goodWord w
theorem vx_ot_at {args a' : Array Value} {s U : State} {w : Cond} (hW : s.WarmedH U.vm) (hvm : s.vm = U.vm) (hg : vx_ot w = true) (h : w.before args s = true) : w.before a' U = true := by
  simp only [vx_ot, Bool.or_eq_true] at hg
  rcases hg with hg | hg
  · exact va_tabs hg hvm h
  · exact word_at hW (good_of_word hg) h
/-- a list's words: the good ones out of the method's own list, the others by premises of their own -/
theorem vx_hat {args : Array Value} {s : State} {L B : List Cond} (h1 : ∀ w ∈ L.filter goodWord, w.before args s = true) (h2 : ∀ w ∈ L.filter (fun w => !goodWord w), w ∈ B) (h3 : ∀ w ∈ B, w.before args s = true) : ∀ w ∈ L, w.before args s = true := by
  intro w hw
  by_cases g : goodWord w = true
  · exact h1 w (List.mem_filter.mpr ⟨hw, g⟩)
  · refine h3 w (h2 w (List.mem_filter.mpr ⟨hw, ?_⟩))
    show (!goodWord w) = true
    cases hgw : goodWord w
    · rfl
    · exact absurd hgw g
theorem vx_c {args : Array Value} {s : State} {w : Cond} {B : List Cond} (h : w.before args s = true) (t : ∀ w ∈ B, w.before args s = true) : ∀ w' ∈ w :: B, w'.before args s = true := fun w' h' => (List.mem_cons.mp h').elim (fun e => by rw [e]; exact h) (t w')
theorem vx_n {args : Array Value} {s : State} : ∀ w ∈ ([] : List Cond), w.before args s = true := fun _ h => nomatch h
theorem vx_own {args : Array Value} {s : State} {L : List Cond} (h1 : ∀ w ∈ L.filter vx_no, w.before args s = true)
    (hU : (Cond.isRef (.static Bundle.tN "UNASSIGNED_STACK" Bundle.steD)).before args s = true) (hN : (Cond.isRef (.static Bundle.tN "SUPPRESSED_SENTINEL" Bundle.listD)).before args s = true)
    (lU : (Cond.laysStatic Bundle.tN "UNASSIGNED_STACK" Bundle.steD).before args s = true) (lN : (Cond.laysStatic Bundle.tN "SUPPRESSED_SENTINEL" Bundle.listD).before args s = true) : ∀ w ∈ L, w.before args s = true := by
  intro w hw
  by_cases e1 : w = .isRef (.static Bundle.tN "UNASSIGNED_STACK" Bundle.steD)
  · rw [e1]; exact hU
  · by_cases e2 : w = .isRef (.static Bundle.tN "SUPPRESSED_SENTINEL" Bundle.listD)
    · rw [e2]; exact hN
    · by_cases e3 : w = .laysStatic Bundle.tN "UNASSIGNED_STACK" Bundle.steD
      · rw [e3]; exact lU
      · by_cases e4 : w = .laysStatic Bundle.tN "SUPPRESSED_SENTINEL" Bundle.listD
        · rw [e4]; exact lN
        · exact h1 w (List.mem_filter.mpr ⟨hw, by unfold vx_no; rw [decide_eq_true e1, decide_eq_true e2, decide_eq_true e3, decide_eq_true e4]; rfl⟩)
/-- where a static field lies, its class's statics cell in H -/
def vx_L (C n d : String) (A : Nat → Prop) (U : State) (H : Heap) : Prop := ∃ (c : ClassId) (k : Class) (i : Nat) (f : Field) (a : Nat) (cell : Cell), U.vm.findClass C = some c ∧ U.fieldFound? C n d = some (c, k, i, f) ∧ f.isStatic = true ∧ k.statics = some a ∧ H[a]? = some cell ∧ cell.vm.isStatics = true ∧ cell.cls = c ∧ f.slot < cell.slots.size ∧ k.staticTypes[f.slot]? = some f.type ∧ ¬ A a
theorem vx_L.moved {C n d : String} {A : Nat → Prop} {u U : State} {H : Heap} (hvm : u.vm.Alike U.vm) (h : vx_L C n d A u H) : vx_L C n d A U H := by
  obtain ⟨c, k, i, f, a, cell, h1, h2, h3, h4, h5, h6, h7, h8, h9, h10⟩ := h
  obtain ⟨k', hi', he⟩ := State.fieldFound?_setVm hvm h2
  exact ⟨c, k', i, f, a, cell, by rw [hvm.findClass]; exact h1, hi', h3, by rw [he]; exact h4, h5, h6, h7, h8, by rw [he]; exact h9, h10⟩
theorem vx_L.kept {C n d : String} {A : Nat → Prop} {U : State} {H H1 : Heap} (h : vx_L C n d A U H) (hq : ∀ a : Nat, a < H.size → ¬ A a → H1[a]? = H[a]?) : vx_L C n d A U H1 := by
  obtain ⟨c, k, i, f, a, cell, h1, h2, h3, h4, h5, h6, h7, h8, h9, h10⟩ := h
  exact ⟨c, k, i, f, a, cell, h1, h2, h3, h4, by rw [hq a (Array.getElem?_eq_some_iff.mp h5).1 h10]; exact h5, h6, h7, h8, h9, h10⟩
theorem vx_L.narrow {C n d : String} {A B : Nat → Prop} {U : State} {H : Heap} (h : vx_L C n d A U H) (hAB : ∀ q, B q → A q) : vx_L C n d B U H := by
  obtain ⟨c, k, i, f, a, cell, h1, h2, h3, h4, h5, h6, h7, h8, h9, h10⟩ := h
  exact ⟨c, k, i, f, a, cell, h1, h2, h3, h4, h5, h6, h7, h8, h9, fun z => h10 (hAB _ z)⟩
theorem vx_L.word {C n d : String} {A : Nat → Prop} {s : State} {args : Array Value} (h : vx_L C n d A s s.heap) : (Cond.laysStatic C n d).before args s = true := by
  obtain ⟨c, k, i, f, a, cell, h1, h2, h3, h4, h5, h6, h7, h8, h9, -⟩ := h
  show (Cond.laysStatic C n d).holds args s none s [] = true
  exact Cond.laysStatic_of h1 h2 h3 h4 h5 h6 h7 h8 h9
/-- .. and what it holds: null or some reference -/
def vx_Zq (C n d : String) (A : Nat → Prop) (U : State) (H : Heap) : Prop := va_Zq C n d A U H ∧ vx_L C n d A U H
theorem vx_Zq.moved {C n d : String} {A : Nat → Prop} {u U : State} {H : Heap} (hvm : u.vm.Alike U.vm) (h : vx_Zq C n d A u H) : vx_Zq C n d A U H := ⟨va_Zq.moved hvm h.1, vx_L.moved hvm h.2⟩
theorem vx_Zq.kept {C n d : String} {A : Nat → Prop} {U : State} {H H1 : Heap} (h : vx_Zq C n d A U H) (hq : ∀ a : Nat, a < H.size → ¬ A a → H1[a]? = H[a]?) : vx_Zq C n d A U H1 := ⟨va_Zq.kept h.1 hq, vx_L.kept h.2 hq⟩
theorem vx_Zq.narrow {C n d : String} {A B : Nat → Prop} {U : State} {H : Heap} (h : vx_Zq C n d A U H) (hAB : ∀ q, B q → A q) : vx_Zq C n d B U H := ⟨va_Zq.narrow h.1 hAB, vx_L.narrow h.2 hAB⟩
theorem vx_Zqof {args : Array Value} {s : State} {C n d : String} {A : Nat → Prop} (hl : (Cond.laysStatic C n d).before args s = true) (hini : (Cond.initialized C).before args s = true) (h : (Cond.isRef (.static C n d)).before args s = true) (hA : ∀ a : Nat, a < s.heap.size → ¬ A a) : vx_Zq C n d A s s.heap := by
  refine ⟨va_Zqof hl hini h hA, ?_⟩
  obtain ⟨c, k, i, f, a, cell, h1, h2, h3, h4, h5, h6, h7, h8, h9⟩ := Cond.laysStatic_spec hl
  exact ⟨c, k, i, f, a, cell, h1, h2, h3, h4, h5, h6, h7, h8, h9, hA a (Array.getElem?_eq_some_iff.mp h5).1⟩
theorem vx_isRef {C n d : String} {v : Value} {A : Nat → Prop} {s : State} {args : Array Value} (h : va_Z C n d v A s s.heap) (hv : v.isRef = true) : (Cond.isRef (.static C n d)).before args s = true := by
  obtain ⟨cf, kf, fi, f, a, cell, h1, h2, h3, h4, h5, h6, h7, -⟩ := h
  have he : (Term.static C n d).eval args s none [] s = some v := by
    simp [Term.eval, State.fieldNamed?, h1, h2, h4, h5, h6, h7]
  simp only [Cond.before, Cond.holds, Cond.value, he]
  cases v <;> simp_all [Value.isRef]
theorem vx_isRefq {C n d : String} {A : Nat → Prop} {s : State} {args : Array Value} (h : va_Zq C n d A s s.heap) : (Cond.isRef (.static C n d)).before args s = true := by
  rcases h with h | ⟨t, h⟩
  · exact vx_isRef h rfl
  · exact vx_isRef h rfl
/-- the same frame, seen from here: as if the method were called anew in this heap -/
theorem vx_rebase {T : State} (X : Stand p l e R s m args below meth c T locs cells slots) {R' : Room} (hf : R'.frames ≤ R.frames) (hl : R'.locals ≤ R.locals) (hc : cells + R'.cells ≤ R.cells) (hs : slots + R'.slots ≤ R.slots) :
    Stand p l e R' ((T.setVm s.vm).setFrames (.invoking m args :: below)) m args below meth c T [] 0 0 := by
  have htop : (T.setVm s.vm).topJava?.isSome := X.here.top
  have hF : ((T.setVm s.vm).setFrames (.invoking m args :: below)).frames = .invoking m args :: below := State.frames_setFrames _ (State.cur_lt_of_top htop)
  obtain ⟨g₀, hg0⟩ := Option.isSome_iff_exists.mp htop
  obtain ⟨r, hr⟩ := State.topJava?_eq_some.mp hg0
  have hl9 : e.platform.stackLimits (T.setVm s.vm).me = e.platform.stackLimits s.me := X.limits
  have hb9 : (T.setVm s.vm).me.stackBytes = s.me.stackBytes := X.bytes
  refine ⟨X.admits, X.cas, X.clock, hF, ?_, X.hears, X.method, X.code, X.here, X.tail, X.warmed, ?_, ?_, ?_⟩
  · have h := X.room
    have hU : ((T.setVm s.vm).setFrames (.invoking m args :: below)).localsInUse = s.localsInUse := by
      rw [State.localsInUse_invoking hF (meth := meth) (c := c) X.method X.code, State.localsInUse_invoking X.frames X.method X.code]
    simp only [State.hasRoom, Bool.and_eq_true, decide_eq_true_eq] at h ⊢
    obtain ⟨⟨⟨⟨h1, h2, h3, h4, h5, h6⟩, h7⟩, h8⟩, h9⟩ := h
    rw [X.frames, List.length_cons] at h2 h3
    have q1 := X.heapSize
    have q2 := X.used
    simp only [hF, hU, List.length_cons, State.stackLimits_setFrames, State.stackBytes_setFrames, hl9, hb9]
    refine ⟨⟨⟨⟨by omega, by omega, by omega, by omega, by omega, h6⟩, ?_⟩, ?_⟩, X.book⟩
    · show T.heap.size + R'.cells ≤ e.platform.maxCells
      omega
    · show T.slotsUsed + R'.slots ≤ e.platform.maxSlots
      omega
  · rw [State.stackLimits_setFrames]; rfl
  · rw [State.stackBytes_setFrames]; rfl
  · refine ⟨?_, Nat.le_refl _, Nat.le_refl _, ?_, ?_, fun a c9 h9 => ⟨c9, h9, rfl, rfl, fun _ _ => rfl⟩⟩
    · obtain ⟨t, ht, -⟩ := State.frames_cons hr
      show T.setVm s.vm = { ((T.setVm s.vm).setFrames (.invoking m args :: below)).setFrames (T.setVm s.vm).frames with heap := T.heap, slotsUsed := T.slotsUsed }
      rw [State.setFrames_setFrames, State.setFrames_self ht]
      rfl
    · show T.slotsUsed = T.slotsUsed + ((T.heap.toList.drop T.heap.size).map (·.slots.size)).sum
      rw [List.drop_eq_nil_of_le (Nat.le_of_eq Array.length_toList)]
      rfl
    · show ((T.heap.toList.drop T.heap.size).map (·.slots.size)).sum ≤ 0
      rw [List.drop_eq_nil_of_le (Nat.le_of_eq Array.length_toList)]
      exact Nat.le_refl _
/-- 'throw new E()': new; dup; invokespecial; athrow -/
theorem vx_throw0 {cc : ByteArray} {pc : Nat} (hexec : p.tables.exec = Jvm.exec) (hb : c.code = cc) (hl : l.stackTraces = false) {own cls : String} {names : List String} {ik ic mc ms : Nat} {A : Nat → Prop}
    (hown : s.vm.findClass own = some m.cls) (hcls : Bundle.fit cls = true) (hnames : ∀ n ∈ names, Bundle.fit n = true)
    (hk : (Cond.classLink own ik cls).before args s = true) (hini : (Cond.initialized cls).before args s = true) (hat : ∀ w ∈ vx_at0 own ic cls names, w.before args s = true)
    (hgood : ∀ w ∈ Cond.classLink own ik cls :: Cond.initialized cls :: vx_at0 own ic cls names, vx_ot w = true)
    (hU : vx_Zq Bundle.tN "UNASSIGNED_STACK" Bundle.steD A s s.heap) (hN : vx_Zq Bundle.tN "SUPPRESSED_SENTINEL" Bundle.listD A s s.heap) (hS : va_S A s.heap H locs) (hsize : ls.size = c.maxLocals)
    (d0 : decode cc pc = .ok (.new ik, 3)) (d3 : decode cc (pc + 3) = .ok (.dup, 1)) (d4 : decode cc (pc + 4) = .ok (.invokespecial ic, 3)) (d7 : decode cc (pc + 7) = .ok (.athrow, 1))
    (hout : ∀ x ∈ c.exceptionTable.toList, covers x (pc + 7) = false)
    (hRframes : names.length + 3 < R.frames) (hRlocals : (rest.map fun v => v.category).sum + (13 * (names.length + 1) + 42) ≤ R.locals) (hRcells : cells + 1 ≤ R.cells) (hRslots : slots + 6 ≤ R.slots) (hlocks : meth.locks = false)
    (hx : ∀ t : State, s.vm.Alike t.vm → H.size ≤ t.heap.size → (∀ q : Nat, q < H.size → t.heap[q]? = H[q]?) → XC cls s t)
    (hf : ∀ z ∈ locs, free z.base) (hc : cells + 1 ≤ mc) (hs : slots + 6 ≤ ms) :
    W p l e R s m args below meth c H locs cells slots (vx_MQ below Qc XC args s mc ms free) (F0 m pc ls rest) := by
  intro T hT X
  have htr : e.platform.stackTraces = false := (show e.platform.stackTraces = l.stackTraces by rw [X.admits.platform]).trans hl
  have Y := vx_rebase X (R' := { frames := R.frames, locals := R.locals, cells := 1, slots := 6 }) (Nat.le_refl _) (Nat.le_refl _) hRcells hRslots
  obtain ⟨s', hA⟩ : ∃ z, z = (T.setVm s.vm).setFrames (.invoking m args :: below) := ⟨_, rfl⟩
  rw [← hA] at Y
  have hvm : s'.vm = s.vm := by rw [hA]; rfl
  have hhp : s'.heap = H := by rw [hA]; exact hT
  have hW0 : s.WarmedH s'.vm := by rw [hvm]; exact State.WarmedH.refl s
  have hat' : ∀ w ∈ vx_at0 own ic cls names, w.before args s' = true := fun w hw => vx_ot_at hW0 hvm.symm (hgood w (List.mem_cons_of_mem _ (List.mem_cons_of_mem _ hw))) (hat w hw)
  have hk' : (Cond.classLink own ik cls).before args s' = true := vx_ot_at hW0 hvm.symm (hgood _ List.mem_cons_self) hk
  have hini' : (Cond.initialized cls).before args s' = true := vx_ot_at hW0 hvm.symm (hgood _ (List.mem_cons_of_mem _ List.mem_cons_self)) hini
  have hU' : vx_Zq Bundle.tN "UNASSIGNED_STACK" Bundle.steD A s' s'.heap := by rw [hhp]; exact vx_Zq.moved hW0.alike (hU.kept hS.2.1)
  have hN' : vx_Zq Bundle.tN "SUPPRESSED_SENTINEL" Bundle.listD A s' s'.heap := by rw [hhp]; exact vx_Zq.moved hW0.alike (hN.kept hS.2.1)
  have h : ∀ w ∈ Bundle.ownAtoms0 own ic cls names, w.before args s' = true := vx_own hat' (vx_isRefq hU'.1) (vx_isRefq hN'.1) hU'.2.word hN'.2.word
  have hown' : s'.vm.findClass own = some m.cls := by rw [hvm]; exact hown
  have hins : (Cond.instantiable cls 6).before args s' = true := h _ (by simp [Bundle.ownAtoms0])
  obtain ⟨vm₁, cX, kX, hfX, hkX, -, -, X₁, st1⟩ := Y.newCold hexec (own := own) (C := cls) (index := ik) (n := 6) hown' hk' hins hini'
    (g := F0 m pc ls rest) rfl (by rw [hb]; exact d0) (Nat.le_refl _) (Nat.le_refl _)
  generalize hT1 : (T.setVm vm₁).pushCell { cls := cX, slots := kX.instanceTypes.map defaultValue, vm := .none } = T1 at X₁ st1
  have hcat : (Value.ref T.heap.size).category = 1 := rfl
  have hcellA : T1.heap[T.heap.size]? = some (freshCell cX kX) := by rw [← hT1]; exact State.heap_pushCell_size _ _
  have d3' : decode c.code (pc + 3) = .ok (.dup, 1) := by rw [hb]; exact d3
  obtain ⟨U, hsteps, hrun, hend, hW, hsame, ce, hce, hO⟩ := X₁.ctorThrow0 hexec htr (own := own) (cls := cls) (names := names) (ic := ic) hown' hcls hnames h (fun x hx => nomatch hx) hfX hkX hcellA (by rw [hhp, hT]; exact Nat.le_refl _)
    (g := { method := m, pc := pc + 4, locals := ls, stack := .ref T.heap.size :: .ref T.heap.size :: rest, locked := none }) rfl hsize rfl rfl (rest := rest) rfl
    (by rw [hb]; exact d4) (by rw [hb]; exact d7) hout hRframes (by simp only [List.map_cons, List.sum_cons, hcat]; omega) hlocks
  obtain ⟨f1, f2⟩ := vx_frame hsame
  rw [hhp] at f1 f2
  have hWs : s.WarmedH U.vm := State.WarmedH.trans hW0 hW
  have hcl : s.vm.findClass cls = some ce.cls := by
    have h9 := hO.cls
    rw [hvm] at h9
    exact h9
  have hall : s.sameButNew ({ U with vm := s.vm } : State) locs mc ms := by
    subst hA
    obtain ⟨e1, e2⟩ := hsame
    rw [State.setFrames_setFrames] at e1
    have h2 : (T.setVm s.vm).sameButNew ({ U with vm := s.vm } : State) [] (0 + 1) (0 + 6) := ⟨e1, e2⟩
    have h3 := X.same.trans h2
    rw [List.append_nil] at h3
    exact h3.mono hc hs
  refine ⟨U, ?_, .threw T.heap.size, hrun, hend, Or.inr ⟨T.heap.size, rfl, cls, ce, locs, hx U hWs.alike f1 (fun q hq => f2 q hq (fun z hz => nomatch hz)), hce, hO.vm, hcl, hWs, hall, hf⟩⟩
  refine st1 _ ?_
  show Steps p.tables e below (T1.setTop { method := m, pc := pc + 3, locals := ls, stack := .ref T.heap.size :: rest, locked := none }) _
  jvm_step X₁.here [X₁.here.top, hexec, d3', Value.category]
  exact hsteps
/-- 'throw new E("text")': new; dup; ldc; invokespecial; athrow -/
theorem vx_throwS {cc : ByteArray} {pc : Nat} (hexec : p.tables.exec = Jvm.exec) (hb : c.code = cc) (hl : l.stackTraces = false) {own cls text : String} {names : List String} {ik is ic mc ms sa : Nat} {A : Nat → Prop}
    (hown : s.vm.findClass own = some m.cls) (hcls : Bundle.fit cls = true) (hnames : ∀ n ∈ names, Bundle.fit n = true)
    (hk : (Cond.classLink own ik cls).before args s = true) (hini : (Cond.initialized cls).before args s = true) (hstr : vk_R own is text sa s) (hat : ∀ w ∈ vx_atS own ic cls names, w.before args s = true)
    (hgood : ∀ w ∈ Cond.classLink own ik cls :: Cond.initialized cls :: vx_atS own ic cls names, vx_ot w = true)
    (hU : vx_Zq Bundle.tN "UNASSIGNED_STACK" Bundle.steD A s s.heap) (hN : vx_Zq Bundle.tN "SUPPRESSED_SENTINEL" Bundle.listD A s s.heap) (hS : va_S A s.heap H locs) (hsize : ls.size = c.maxLocals)
    (d0 : decode cc pc = .ok (.new ik, 3)) (d3 : decode cc (pc + 3) = .ok (.dup, 1)) (d4 : decode cc (pc + 4) = .ok (.ldc is, 2)) (d6 : decode cc (pc + 6) = .ok (.invokespecial ic, 3)) (d9 : decode cc (pc + 9) = .ok (.athrow, 1))
    (hout : ∀ x ∈ c.exceptionTable.toList, covers x (pc + 9) = false)
    (hRframes : names.length + 3 < R.frames) (hRlocals : (rest.map fun v => v.category).sum + (13 * (names.length + 1) + 43) ≤ R.locals) (hRcells : cells + 1 ≤ R.cells) (hRslots : slots + 6 ≤ R.slots) (hlocks : meth.locks = false)
    (hx : ∀ t : State, s.vm.Alike t.vm → H.size ≤ t.heap.size → (∀ q : Nat, q < H.size → t.heap[q]? = H[q]?) → XC cls s t)
    (hf : ∀ z ∈ locs, free z.base) (hc : cells + 1 ≤ mc) (hs : slots + 6 ≤ ms) :
    W p l e R s m args below meth c H locs cells slots (vx_MQ below Qc XC args s mc ms free) (F0 m pc ls rest) := by
  intro T hT X
  have htr : e.platform.stackTraces = false := (show e.platform.stackTraces = l.stackTraces by rw [X.admits.platform]).trans hl
  have Y := vx_rebase X (R' := { frames := R.frames, locals := R.locals, cells := 1, slots := 6 }) (Nat.le_refl _) (Nat.le_refl _) hRcells hRslots
  obtain ⟨s', hA⟩ : ∃ z, z = (T.setVm s.vm).setFrames (.invoking m args :: below) := ⟨_, rfl⟩
  rw [← hA] at Y
  have hvm : s'.vm = s.vm := by rw [hA]; rfl
  have hhp : s'.heap = H := by rw [hA]; exact hT
  have hW0 : s.WarmedH s'.vm := by rw [hvm]; exact State.WarmedH.refl s
  have hat' : ∀ w ∈ vx_atS own ic cls names, w.before args s' = true := fun w hw => vx_ot_at hW0 hvm.symm (hgood w (List.mem_cons_of_mem _ (List.mem_cons_of_mem _ hw))) (hat w hw)
  have hk' : (Cond.classLink own ik cls).before args s' = true := vx_ot_at hW0 hvm.symm (hgood _ List.mem_cons_self) hk
  have hini' : (Cond.initialized cls).before args s' = true := vx_ot_at hW0 hvm.symm (hgood _ (List.mem_cons_of_mem _ List.mem_cons_self)) hini
  have hU' : vx_Zq Bundle.tN "UNASSIGNED_STACK" Bundle.steD A s' s'.heap := by rw [hhp]; exact vx_Zq.moved hW0.alike (hU.kept hS.2.1)
  have hN' : vx_Zq Bundle.tN "SUPPRESSED_SENTINEL" Bundle.listD A s' s'.heap := by rw [hhp]; exact vx_Zq.moved hW0.alike (hN.kept hS.2.1)
  have h : ∀ w ∈ Bundle.ownAtoms own ic cls names, w.before args s' = true := vx_own hat' (vx_isRefq hU'.1) (vx_isRefq hN'.1) hU'.2.word hN'.2.word
  have hown' : s'.vm.findClass own = some m.cls := by rw [hvm]; exact hown
  have hins : (Cond.instantiable cls 6).before args s' = true := h _ (by simp [Bundle.ownAtoms])
  obtain ⟨vm₁, cX, kX, hfX, hkX, -, -, X₁, st1⟩ := Y.newCold hexec (own := own) (C := cls) (index := ik) (n := 6) hown' hk' hins hini'
    (g := F0 m pc ls rest) rfl (by rw [hb]; exact d0) (Nat.le_refl _) (Nat.le_refl _)
  generalize hT1 : (T.setVm vm₁).pushCell { cls := cX, slots := kX.instanceTypes.map defaultValue, vm := .none } = T1 at X₁ st1
  have hcat : (Value.ref T.heap.size).category = 1 := rfl
  have hcellA : T1.heap[T.heap.size]? = some (freshCell cX kX) := by rw [← hT1]; exact State.heap_pushCell_size _ _
  have d3' : decode c.code (pc + 3) = .ok (.dup, 1) := by rw [hb]; exact d3
  have d4' : decode c.code (pc + 4) = .ok (.ldc is, 2) := by rw [hb]; exact d4
  have hstr' : vk_R own is text sa s' := vk_R.warm hW0 hstr
  obtain ⟨U, hsteps, hrun, hend, hW, hsame, ce, hce, hO⟩ := X₁.ctorThrowS hexec htr (own := own) (cls := cls) (names := names) (ic := ic) hown' hcls hnames h (fun x hx => nomatch hx) hfX hkX hcellA (by rw [hhp, hT]; exact Nat.le_refl _) (msg := .ref sa) rfl
    (g := { method := m, pc := pc + 6, locals := ls, stack := .ref sa :: .ref T.heap.size :: .ref T.heap.size :: rest, locked := none }) rfl hsize rfl rfl (rest := rest) rfl
    (by rw [hb]; exact d6) (by rw [hb]; exact d9) hout hRframes (by simp only [List.map_cons, List.sum_cons, hcat]; omega) hlocks
  obtain ⟨f1, f2⟩ := vx_frame hsame
  rw [hhp] at f1 f2
  have hWs : s.WarmedH U.vm := State.WarmedH.trans hW0 hW
  have hcl : s.vm.findClass cls = some ce.cls := by
    have h9 := hO.cls
    rw [hvm] at h9
    exact h9
  have hall : s.sameButNew ({ U with vm := s.vm } : State) locs mc ms := by
    subst hA
    obtain ⟨e1, e2⟩ := hsame
    rw [State.setFrames_setFrames] at e1
    have h2 : (T.setVm s.vm).sameButNew ({ U with vm := s.vm } : State) [] (0 + 1) (0 + 6) := ⟨e1, e2⟩
    have h3 := X.same.trans h2
    rw [List.append_nil] at h3
    exact h3.mono hc hs
  refine ⟨U, ?_, .threw T.heap.size, hrun, hend, Or.inr ⟨T.heap.size, rfl, cls, ce, locs, hx U hWs.alike f1 (fun q hq => f2 q hq (fun z hz => nomatch hz)), hce, hO.vm, hcl, hWs, hall, hf⟩⟩
  refine st1 _ ?_
  show Steps p.tables e below (T1.setTop { method := m, pc := pc + 3, locals := ls, stack := .ref T.heap.size :: rest, locked := none }) _
  jvm_step X₁.here [X₁.here.top, hexec, d3', Value.category]
  exact X₁.ldcString hexec (own := own) (text := text) (index := is) (a := sa) hown' hstr'.1 hstr'.2
    (g := { method := m, pc := pc + 4, locals := ls, stack := .ref T.heap.size :: .ref T.heap.size :: rest, locked := none }) rfl d4' _ hsteps
/-- 'throw new E("text")', the text by a wide index -/
theorem vx_throwSW {cc : ByteArray} {pc : Nat} (hexec : p.tables.exec = Jvm.exec) (hb : c.code = cc) (hl : l.stackTraces = false) {own cls text : String} {names : List String} {ik is ic mc ms sa : Nat} {A : Nat → Prop}
    (hown : s.vm.findClass own = some m.cls) (hcls : Bundle.fit cls = true) (hnames : ∀ n ∈ names, Bundle.fit n = true)
    (hk : (Cond.classLink own ik cls).before args s = true) (hini : (Cond.initialized cls).before args s = true) (hstr : vk_R own is text sa s) (hat : ∀ w ∈ vx_atS own ic cls names, w.before args s = true)
    (hgood : ∀ w ∈ Cond.classLink own ik cls :: Cond.initialized cls :: vx_atS own ic cls names, vx_ot w = true)
    (hU : vx_Zq Bundle.tN "UNASSIGNED_STACK" Bundle.steD A s s.heap) (hN : vx_Zq Bundle.tN "SUPPRESSED_SENTINEL" Bundle.listD A s s.heap) (hS : va_S A s.heap H locs) (hsize : ls.size = c.maxLocals)
    (d0 : decode cc pc = .ok (.new ik, 3)) (d3 : decode cc (pc + 3) = .ok (.dup, 1)) (d4 : decode cc (pc + 4) = .ok (.ldc_w is, 3)) (d7 : decode cc (pc + 7) = .ok (.invokespecial ic, 3)) (d10 : decode cc (pc + 10) = .ok (.athrow, 1))
    (hout : ∀ x ∈ c.exceptionTable.toList, covers x (pc + 10) = false)
    (hRframes : names.length + 3 < R.frames) (hRlocals : (rest.map fun v => v.category).sum + (13 * (names.length + 1) + 43) ≤ R.locals) (hRcells : cells + 1 ≤ R.cells) (hRslots : slots + 6 ≤ R.slots) (hlocks : meth.locks = false)
    (hx : ∀ t : State, s.vm.Alike t.vm → H.size ≤ t.heap.size → (∀ q : Nat, q < H.size → t.heap[q]? = H[q]?) → XC cls s t)
    (hf : ∀ z ∈ locs, free z.base) (hc : cells + 1 ≤ mc) (hs : slots + 6 ≤ ms) :
    W p l e R s m args below meth c H locs cells slots (vx_MQ below Qc XC args s mc ms free) (F0 m pc ls rest) := by
  intro T hT X
  have htr : e.platform.stackTraces = false := (show e.platform.stackTraces = l.stackTraces by rw [X.admits.platform]).trans hl
  have Y := vx_rebase X (R' := { frames := R.frames, locals := R.locals, cells := 1, slots := 6 }) (Nat.le_refl _) (Nat.le_refl _) hRcells hRslots
  obtain ⟨s', hA⟩ : ∃ z, z = (T.setVm s.vm).setFrames (.invoking m args :: below) := ⟨_, rfl⟩
  rw [← hA] at Y
  have hvm : s'.vm = s.vm := by rw [hA]; rfl
  have hhp : s'.heap = H := by rw [hA]; exact hT
  have hW0 : s.WarmedH s'.vm := by rw [hvm]; exact State.WarmedH.refl s
  have hat' : ∀ w ∈ vx_atS own ic cls names, w.before args s' = true := fun w hw => vx_ot_at hW0 hvm.symm (hgood w (List.mem_cons_of_mem _ (List.mem_cons_of_mem _ hw))) (hat w hw)
  have hk' : (Cond.classLink own ik cls).before args s' = true := vx_ot_at hW0 hvm.symm (hgood _ List.mem_cons_self) hk
  have hini' : (Cond.initialized cls).before args s' = true := vx_ot_at hW0 hvm.symm (hgood _ (List.mem_cons_of_mem _ List.mem_cons_self)) hini
  have hU' : vx_Zq Bundle.tN "UNASSIGNED_STACK" Bundle.steD A s' s'.heap := by rw [hhp]; exact vx_Zq.moved hW0.alike (hU.kept hS.2.1)
  have hN' : vx_Zq Bundle.tN "SUPPRESSED_SENTINEL" Bundle.listD A s' s'.heap := by rw [hhp]; exact vx_Zq.moved hW0.alike (hN.kept hS.2.1)
  have h : ∀ w ∈ Bundle.ownAtoms own ic cls names, w.before args s' = true := vx_own hat' (vx_isRefq hU'.1) (vx_isRefq hN'.1) hU'.2.word hN'.2.word
  have hown' : s'.vm.findClass own = some m.cls := by rw [hvm]; exact hown
  have hins : (Cond.instantiable cls 6).before args s' = true := h _ (by simp [Bundle.ownAtoms])
  obtain ⟨vm₁, cX, kX, hfX, hkX, -, -, X₁, st1⟩ := Y.newCold hexec (own := own) (C := cls) (index := ik) (n := 6) hown' hk' hins hini'
    (g := F0 m pc ls rest) rfl (by rw [hb]; exact d0) (Nat.le_refl _) (Nat.le_refl _)
  generalize hT1 : (T.setVm vm₁).pushCell { cls := cX, slots := kX.instanceTypes.map defaultValue, vm := .none } = T1 at X₁ st1
  have hcat : (Value.ref T.heap.size).category = 1 := rfl
  have hcellA : T1.heap[T.heap.size]? = some (freshCell cX kX) := by rw [← hT1]; exact State.heap_pushCell_size _ _
  have d3' : decode c.code (pc + 3) = .ok (.dup, 1) := by rw [hb]; exact d3
  have d4' : decode c.code (pc + 4) = .ok (.ldc_w is, 3) := by rw [hb]; exact d4
  have hstr' : vk_R own is text sa s' := vk_R.warm hW0 hstr
  obtain ⟨U, hsteps, hrun, hend, hW, hsame, ce, hce, hO⟩ := X₁.ctorThrowS hexec htr (own := own) (cls := cls) (names := names) (ic := ic) hown' hcls hnames h (fun x hx => nomatch hx) hfX hkX hcellA (by rw [hhp, hT]; exact Nat.le_refl _) (msg := .ref sa) rfl
    (g := { method := m, pc := pc + 7, locals := ls, stack := .ref sa :: .ref T.heap.size :: .ref T.heap.size :: rest, locked := none }) rfl hsize rfl rfl (rest := rest) rfl
    (by rw [hb]; exact d7) (by rw [hb]; exact d10) hout hRframes (by simp only [List.map_cons, List.sum_cons, hcat]; omega) hlocks
  obtain ⟨f1, f2⟩ := vx_frame hsame
  rw [hhp] at f1 f2
  have hWs : s.WarmedH U.vm := State.WarmedH.trans hW0 hW
  have hcl : s.vm.findClass cls = some ce.cls := by
    have h9 := hO.cls
    rw [hvm] at h9
    exact h9
  have hall : s.sameButNew ({ U with vm := s.vm } : State) locs mc ms := by
    subst hA
    obtain ⟨e1, e2⟩ := hsame
    rw [State.setFrames_setFrames] at e1
    have h2 : (T.setVm s.vm).sameButNew ({ U with vm := s.vm } : State) [] (0 + 1) (0 + 6) := ⟨e1, e2⟩
    have h3 := X.same.trans h2
    rw [List.append_nil] at h3
    exact h3.mono hc hs
  refine ⟨U, ?_, .threw T.heap.size, hrun, hend, Or.inr ⟨T.heap.size, rfl, cls, ce, locs, hx U hWs.alike f1 (fun q hq => f2 q hq (fun z hz => nomatch hz)), hce, hO.vm, hcl, hWs, hall, hf⟩⟩
  refine st1 _ ?_
  show Steps p.tables e below (T1.setTop { method := m, pc := pc + 3, locals := ls, stack := .ref T.heap.size :: rest, locked := none }) _
  jvm_step X₁.here [X₁.here.top, hexec, d3', Value.category]
  exact X₁.ldcStringW hexec (own := own) (text := text) (index := is) (a := sa) hown' hstr'.1 hstr'.2
    (g := { method := m, pc := pc + 4, locals := ls, stack := .ref T.heap.size :: .ref T.heap.size :: rest, locked := none }) rfl d4' _ hsteps
end Ends
section Bodies
variable {l : Launch}
theorem vx_ofW {y : MethodName} {ws ws' : List Cond} {rm : Room} {Pc : Array Value → State → Prop} {Qc : Array Value → State → Outcome → State → Prop} {XC : String → State → State → Prop} {mc ms : Nat} {free : Addr → Prop} {cc : ByteArray} {maxL : Nat} {ret : Option FieldType}
    (hy : plainName y.cls = true) (hw : ws = Cond.code y cc maxL ret :: ws')
    (body : ∀ p e s m args below meth c s₁, BodyLoose p l y (headSpec ws rm) cc maxL ret e s m args below meth c s₁ → c.maxLocals = maxL → (∀ x ∈ c.exceptionTable.toList, False) → Pc args s →
      W p l e (headSpec ws rm).room s m args below meth c s.heap [] 0 0 (vx_MQ below Qc XC args s mc ms free) (entryFrame m args maxL)) : vx_Met l y ws rm Pc Qc XC mc ms free := by
  refine MetFree.of_bodyS (code := cc) (maxLocals := maxL) (ret := ret) hy ?_ ?_
  · intro args s m h hn
    obtain ⟨meth, c, h1, h2, h3, h4, h5, h6, -, -⟩ := Cond.code_spec hn (atoms_spec (ws := ws) h _ (by rw [hw]; exact List.mem_cons_self))
    exact ⟨meth, c, h1, h2, h3, h4, h5, h6⟩
  · intro p e s m args below meth c s₁ B hml hP _
    have hh0 : s₁.heap = s.heap := by rw [B.state]; rfl
    have ht : ∀ x ∈ c.exceptionTable.toList, False := by
      obtain ⟨meth9, c9, h1, h2, -, -, -, -, h7, -⟩ := Cond.code_spec B.named (atoms_spec (ws := ws) B.pre _ (by rw [hw]; exact List.mem_cons_self))
      cases Option.some.inj (h1.symm.trans B.method)
      cases Option.some.inj (h2.symm.trans (Stand.of_body B).code)
      intro x hx
      rw [Array.isEmpty_iff.mp h7] at hx
      cases hx
    obtain ⟨t, a1, o, b1, b2, b3⟩ := body p e s m args below meth c s₁ B hml ht hP s₁ hh0 (Stand.of_body B)
    exact ⟨t, o, a1, b1, b2, b3⟩
/-- the table of a body with handlers -/
theorem vx_table {p : Program} {x y : MethodName} {S : Spec} {cc bytes : ByteArray} {maxL maxL' : Nat} {ret ret' : Option FieldType} {e : Env} {s s₁ : State} {m : MethodId} {args : Array Value} {below : List Frame} {meth : Method} {c : Code} {hh : List (Nat × Nat × Nat × Nat)}
    (B : BodyLoose p l y S cc maxL ret e s m args below meth c s₁) (h : (Cond.codeWith y bytes maxL' ret' hh).before args s = true) : c.exceptionTable.toList = tableOf hh := by
  obtain ⟨m9, meth9, c9, hn9, h1, h2, -, -, h6, -⟩ := Cond.codeWith_spec h
  cases Option.some.inj (hn9.symm.trans B.named)
  cases Option.some.inj (h1.symm.trans B.method)
  cases Option.some.inj (h2.symm.trans (Stand.of_body B).code)
  rw [← h6, table_eq]
end Bodies
end VXA
/-! ===== END ===== -/
/-! ===== BEGIN a static call of a method with an exception table ===== -/
section VXS
variable {p : Program} {l : Launch} {e : Env} {R : Room} {s : State} {m : MethodId} {args : Array Value} {below : List Frame} {meth : Method} {c : Code} {T : State} {H : Heap} {locs : List Loc} {cells slots : Nat}
abbrev vx_CSW (R : Room) (s : State) (args : Array Value) (own : String) (index : Nat) (y : MethodName) (bytes : ByteArray) (maxL : Nat) (ret : Option FieldType) (hh : List (Nat × Nat × Nat × Nat)) (ws : List Cond) (rm : Room) (mc ms n : Nat) : Prop :=
  (rm.cells = mc ∧ rm.slots = ms ∧ rm.frames + 1 ≤ R.frames ∧ 8 + (maxL + 11) + rm.locals ≤ R.locals ∧ (∀ w ∈ ws, ∀ (a' : Array Value) (U : State), s.WarmedH U.vm → w.before a' U = true) ∧ Cond.codeWith y bytes maxL ret hh ∈ ws) ∧
  (Cond.codeWith y bytes maxL ret hh).before args s = true ∧ (Cond.initialized y.cls).before args s = true ∧ (y.cls ≠ "java/lang/invoke/MethodHandle" ∧ y.cls ≠ "java/lang/invoke/VarHandle") ∧
  (∀ sig, parseMethodDescriptor y.desc = some sig → n = sig.parameters.length) ∧ (Cond.methodLink own index y).before args s = true ∧ (Cond.static y).before args s = true
theorem vx_cwSW {own : String} {index maxL mc ms : Nat} {y : MethodName} {bytes : ByteArray} {ret : Option FieldType} {hh : List (Nat × Nat × Nat × Nat)} {Ts ws ws' : List Cond} {rm : Room} (n : Nat) (ht : ∀ w ∈ Ts, w.before args s = true) (hT : GoodIn Ts (va_wsS own index y ws)) (hw : ws = Cond.codeWith y bytes maxL ret hh :: ws') (hrc : rm.cells = mc) (hrs : rm.slots = ms)
    (hd : y.cls ≠ "java/lang/invoke/MethodHandle" ∧ y.cls ≠ "java/lang/invoke/VarHandle" ∧ (parseMethodDescriptor y.desc).map (fun d => d.parameters.length) = some n) (hR : rm.frames + 1 ≤ R.frames ∧ 8 + (maxL + 11) + rm.locals ≤ R.locals) :
    vx_CSW R s args own index y bytes maxL ret hh ws rm mc ms n := by
  have ok : ∀ w ∈ va_wsS own index y ws, w.before args s = true := fun w h => ht w (hT w h).1
  have hG : GoodIn Ts ws := fun w h => hT w (by unfold va_wsS; exact List.mem_append_right _ h)
  have hc : Cond.codeWith y bytes maxL ret hh ∈ ws := by rw [hw]; exact List.mem_cons_self
  refine ⟨⟨hrc, hrs, hR.1, hR.2, pay_in ht hG, hc⟩, ht _ (hG _ hc).1, ok _ (by simp [va_wsS]), ⟨hd.1, hd.2.1⟩, fun sig h => ?_, ok _ (by simp [va_wsS]), ok _ (by simp [va_wsS])⟩
  have h2 := hd.2.2
  rw [h] at h2
  exact (Option.some.inj h2).symm
theorem vx_callSW (X : Stand p l e R s m args below meth c T locs cells slots) (hexec : p.tables.exec = Jvm.exec) {own : String} {index : Nat} {y : MethodName} {bytes : ByteArray} {maxL : Nat} {ret : Option FieldType} {hh : List (Nat × Nat × Nat × Nat)}
    (hown : s.vm.findClass own = some m.cls) (hlink : (Cond.methodLink own index y).before args s = true) (hstat : (Cond.static y).before args s = true) (hinit : (Cond.initialized y.cls).before args s = true)
    (hcode : (Cond.codeWith y bytes maxL ret hh).before args s = true) (hy : y.cls ≠ "java/lang/invoke/MethodHandle" ∧ y.cls ≠ "java/lang/invoke/VarHandle")
    {W9 : Nat} {Pre : Pt → Array Value → Prop} {Post : Pt → Array Value → Option Value → Pt → Prop} (hK : Back l R p e below s args y 3 W9 Pre Post)
    {g : JFrame} (hg : g.method = m) (hsize : g.locals.size = c.maxLocals) {argsL rest : List Value} (hlen : ∀ sig, parseMethodDescriptor y.desc = some sig → argsL.length = sig.parameters.length)
    (hstack : g.stack = argsL.reverse ++ rest) (hW : 2 * g.monitorRoom + (rest.map fun v => v.category).sum ≤ W9) (hdg : decode c.code g.pc = .ok (.invokestatic index, 3))
    (hpre : ∀ vm₁, s.WarmedH vm₁ → Pre ⟨T.setVm vm₁, locs, cells, slots⟩ argsL.toArray) :
    ∃ (v : Option Value) (vm₁ : Vm) (B : Pt), s.WarmedH vm₁ ∧ Stand p l e R s m args below meth c B.U B.locs B.cells B.slots ∧ Post ⟨T.setVm vm₁, locs, cells, slots⟩ argsL.toArray v B ∧
      ∀ target, Steps p.tables e below (B.U.setTop { g with pc := g.pc + 3, stack := v.toList ++ rest }) target → Steps p.tables e below (T.setTop g) target := by
  obtain ⟨mk, methM, cM, hnamed, hmethM, -, -, -, -, -, -, hsigM⟩ := Cond.codeWith_spec hcode
  have hstatic : methM.isStatic = true := Cond.static_spec hnamed hmethM hstat
  obtain ⟨kP, hkP, -⟩ := className_of_methodNamed hnamed
  have hinitP : kP.init = .initialized := Cond.initialized_spec (findClass_of_methodNamed hnamed) hkP hinit
  obtain ⟨vm₁, X₁, hstep₁⟩ := X.invokestatic hexec hown hlink hnamed hmethM hstatic hkP hinitP hy (g := g) hg (argsL := argsL) (rest := rest) (hlen _ hsigM) hstack hdg
  obtain ⟨v, B, X', hpost, hsteps⟩ := hK m meth c ⟨T.setVm vm₁, locs, cells, slots⟩ { g with stack := rest } (.invokestatic index) mk argsL.toArray X₁ hg hsize hdg hW (X₁.named hnamed) (hpre vm₁ X₁.warmed)
  exact ⟨v, vm₁, B, X₁.warmed, X', hpost, fun target h => hstep₁ _ fun acts => by rw [doInvoke_state]; exact hsteps.trans h⟩
theorem vx_runSW {y : MethodName} {bytes cc : ByteArray} {maxL nL mc ms n index : Nat} {ret : Option FieldType} {hh : List (Nat × Nat × Nat × Nat)} {ws : List Cond} {rm : Room} {Pc : Array Value → State → Prop} {Qc : Array Value → State → Outcome → State → Prop} {free : Addr → Prop} {Ts : List Cond} {own : String} {As rest : List Value} {g : JFrame}
    (S : CallFix p m c cc nL s args Ts own) (hM : Met l y ws rm Pc Qc mc ms free) (cw : vx_CSW R s args own index y bytes maxL ret hh ws rm mc ms n) (hp : PreS s H Pc As)
    (hg : g.method = m) (hn : As.length = n) (hsize : g.locals.size = nL) (hstack : g.stack = As.reverse ++ rest) (hW : 2 * g.monitorRoom + (rest.map fun v => v.category).sum ≤ 8) (hdg : decode cc g.pc = .ok (.invokestatic index, 3)) (hf : cells + mc ≤ R.cells ∧ slots + ms ≤ R.slots) :
    va_Run p l e R s m args below meth c H locs cells slots mc ms g rest (Qc As.toArray) (free) := by
  obtain ⟨⟨hrc, hrs, hfr, hlo, hws, hcw⟩, hcode, hini, hy, hlen, hl, hstt⟩ := cw
  have hK : Back l R p e below s args y 3 8 (PreOf R mc ms Pc) (PostOf Qc mc ms free) := va_backW (hh := hh) (bytes := bytes) (maxL := maxL) (ret := ret) hM hp.1 hrc hrs hfr hlo hws hcw (fun a' U hW => word_at hW (Or.inl (by first | rfl | simp [Cond.onTables, Cond.keeps, Cond.steady])) hini)
  obtain ⟨hx, hb, hml, ho, -⟩ := S
  intro T hT X
  obtain ⟨v, vm₁, ⟨U', l2, c2, s2⟩, hW₁, X', ⟨g', mk, t, L, e1, e2, hq, h1, hL, h2, h3⟩, st⟩ := vx_callSW X hx (hh := hh) (bytes := bytes) (maxL := maxL) (ret := ret) ho hl hstt hini hcode hy hK hg (hsize.trans hml.symm) (argsL := As) (rest := rest) (fun sig h => hn.trans (hlen sig h)) hstack hW (by rw [hb]; exact hdg)
    (fun vm₁ hW₁ => ⟨hf.1, hf.2, hp.2 (T.setVm vm₁) hT hW₁⟩)
  dsimp only [Pt.U, Pt.locs, Pt.cells, Pt.slots] at X' e1 e2 h1 h2 h3 st
  subst h1; subst h2; subst h3
  exact ⟨v, (T.setVm vm₁).calling g' mk As.toArray, t, U', L, hT, X', hL, e1, e2, hq, st⟩
/-- a thing of a world lies in the heap -/
theorem vx_lt {D : va_G} {cl : List vw_C} {ws : va_W} {H1 : Heap} (h : va_P D cl ws H1) {k : Nat} {q : Nat × va_E} (hk : ws[k]? = some q) : q.1 < H1.size := (h k q hk).lt
end VXS
/-! ===== END ===== -/
/-! ===== BEGIN methods with a table of their own: called by a name, returning or throwing ===== -/
section VXH
/-! vx_backW, vx_callVX, vx_callSX, vx_callVW, vx_runVW, vx_runVX, vx_runSX, vx_ofWH follow the same proofs as their sisters above (Free/Laws.lean, Shelf42/LK1.lean); vx_outP calls Shelf42/NT130.lean (outThrough). -/
section
variable {l : Launch} {R : Room} {p : Program} {e : Env} {below : List Frame} {s : State} {sargs : Array Value} {y : MethodName} {len W9 : Nat}
theorem vx_backW {ws : List Cond} {rm : Room} {Pc : Array Value → State → Prop} {Qc : Array Value → State → Outcome → State → Prop} {XC : String → State → State → Prop} {mc ms : Nat} {free : Addr → Prop} {bytes : ByteArray} {maxL : Nat} {ret : Option FieldType} {hh : List (Nat × Nat × Nat × Nat)}
    (hM : vx_Met l y ws rm Pc Qc XC mc ms free) (hblind : FrameBlind Pc) (hrc : rm.cells = mc) (hrs : rm.slots = ms)
    (hframes : rm.frames + 1 ≤ R.frames) (hlocals : W9 + (maxL + 11) + rm.locals ≤ R.locals)
    (hws : ∀ w ∈ ws, ∀ a' U, s.WarmedH U.vm → w.before a' U = true) (hcode : Cond.codeWith y bytes maxL ret hh ∈ ws) (hinit : ∀ a' U, s.WarmedH U.vm → (Cond.initialized y.cls).before a' U = true) :
    vx_Back l R p e below s sargs y len W9 (PreOf R mc ms Pc) (PostOf Qc mc ms free) (vx_Post XC mc ms free) := by
  intro m meth c A g ig mk a X hg hsize hdg hW hn hp
  have h1 : (headSpec ws rm).pre.before a A.U = true := atoms_intro fun w hw => hws w hw _ _ X.warmed
  have h2 : (Cond.codeWith y bytes maxL ret hh).before a A.U = true := hws _ hcode _ _ X.warmed
  have h3 : (Cond.initialized y.cls).before a A.U = true := hinit _ _ X.warmed
  have h4 : A.cells + (headSpec ws rm).room.cells ≤ R.cells := by rw [show (headSpec ws rm).room.cells = mc from hrc]; exact hp.1
  have h5 : A.slots + (headSpec ws rm).room.slots ≤ R.slots := by rw [show (headSpec ws rm).room.slots = ms from hrs]; exact hp.2.1
  have hPc : Pc a (A.U.calling g mk a) := hblind _ _ _ _ hp.2.2
  obtain ⟨U, Ls, c0, s0⟩ := A
  dsimp only [Pt.U, Pt.locs, Pt.cells, Pt.slots] at h1 h2 h3 h4 h5 X hn hPc ⊢
  obtain ⟨m9, methY, cY, hn9, hmY, hcY, -, hlY, -⟩ := Cond.codeWith_spec h2
  cases Option.some.inj (hn9.symm.trans hn)
  obtain ⟨kY, hkY, -⟩ := className_of_methodNamed hn
  have hinitY : kY.init = .initialized := Cond.initialized_spec (findClass_of_methodNamed hn) hkY h3
  have h : At U g.method c below := by rw [hg]; exact X.here
  have hlocals9 : W9 + (maxL + 11) + (headSpec ws rm).room.locals ≤ R.locals := hlocals
  have happ : (headSpec ws rm).appliesLoose y e.platform (U.calling g mk a) = true :=
    Spec.appliesLoose_calling (g := g) h hdg hn hkY hinitY
      (X.room_calling (g := g) (R' := (headSpec ws rm).room) hsize hmY hcY hframes (by rw [hlY]; omega) h4 h5) h1
  obtain ⟨mid, hmid⟩ := h.above
  have hfr : (U.setTop g).frames = (.java g :: mid) ++ below := by rw [State.frames_setTop' g h.top, hmid]; rfl
  obtain ⟨o, s₂, hsteps, -, hend, hq⟩ := Steps.callFree hM p X.admits X.cas X.clock (acts := []) hfr happ hPc trivial
  have hq' : vx_Q Qc XC mc ms free a (U.calling g mk a) o s₂ := hq
  rw [State.frames_setTop' g h.top] at hend
  obtain ⟨g₀, hg0⟩ := Option.isSome_iff_exists.mp h.top
  obtain ⟨r, hr⟩ := State.topJava?_eq_some.mp hg0
  have hr' : (({ U with heap := s₂.heap, slotsUsed := s₂.slotsUsed } : State).setVm s₂.vm).frames = .java g₀ :: r := hr
  rcases hq' with ⟨hqc, L, hfe, hL⟩ | ⟨q, rfl, E, ce, L, hx, hce, hcv, hcl, hW₂, hsm, hL⟩
  · obtain ⟨⟨v, rfl⟩, hW₂, e2, q2, q3, q4, q5, q6⟩ := id hfe
    have e3 : s₂ = ({ (U.calling g mk a).setFrames s₂.frames with heap := s₂.heap, slotsUsed := s₂.slotsUsed } : State).setVm s₂.vm := by
      have : s₂ = ({ s₂ with vm := (U.calling g mk a).vm } : State).setVm s₂.vm := rfl
      rw [e2] at this
      exact this
    obtain ⟨c₂, i₂, len₂, hc₂, hd₂, hf₂⟩ := hend
    have hW' : U.WarmedH s₂.vm := hW₂
    have hcc : c₂ = c := by
      have h1 : s₂.code? g.method = U.code? g.method := by
        rw [State.code?_eq, State.code?_eq, hW'.alike.method?]
      exact Option.some.inj (hc₂.symm.trans (h1.trans h.code))
    subst hcc
    have hlen : len₂ = len := by rw [hdg] at hd₂; cases hd₂; rfl
    subst hlen
    have hs₂ : s₂ = (({ U with heap := s₂.heap, slotsUsed := s₂.slotsUsed } : State).setVm s₂.vm).setTop { g with pc := g.pc + len₂, stack := v.toList ++ g.stack } := by
      refine e3.trans ?_
      rw [hf₂, State.calling_eq h.top, State.setFrames_setFrames, State.setTop_of_frames _ hr', hr]
      rfl
    have hsame : U.sameButNew ({ U with heap := s₂.heap, slotsUsed := s₂.slotsUsed } : State) L mc ms := by
      refine ⟨?_, q2, q3, q4, q5, q6⟩
      obtain ⟨t, ht, -⟩ := State.frames_cons hr
      show ({ U with heap := s₂.heap, slotsUsed := s₂.slotsUsed } : State) = { U.setFrames U.frames with heap := s₂.heap, slotsUsed := s₂.slotsUsed }
      rw [State.setFrames_self ht]
    subst hg
    refine Or.inl ⟨v, ⟨(({ U with heap := s₂.heap, slotsUsed := s₂.slotsUsed } : State).setVm s₂.vm), Ls ++ L, c0 + mc, s0 + ms⟩,
      ⟨X.admits, X.cas, X.clock, X.frames, X.room, X.hears, X.method, X.code, (X.here.setHeapUsed s₂.heap s₂.slotsUsed).setVm hW'.alike, X.tail, State.WarmedH.trans X.warmed hW', X.limits, X.bytes, X.same.trans (hsame.setVm s.vm)⟩,
      ⟨g, mk, s₂, L, rfl, rfl, hqc, rfl, hL, rfl, rfl⟩, ?_⟩
    show Steps p.tables e below _ ((({ U with heap := s₂.heap, slotsUsed := s₂.slotsUsed } : State).setVm s₂.vm).setTop { g with pc := g.pc + len₂, stack := v.toList ++ g.stack })
    rw [← hs₂]
    exact hsteps
  · obtain ⟨e2, q2, q3, q4, q5, q6⟩ := id hsm
    have e3 : s₂ = ({ (U.calling g mk a).setFrames s₂.frames with heap := s₂.heap, slotsUsed := s₂.slotsUsed } : State).setVm s₂.vm := by
      have : s₂ = ({ s₂ with vm := (U.calling g mk a).vm } : State).setVm s₂.vm := rfl
      rw [e2] at this
      exact this
    have hf₂ : s₂.frames = .throwing q :: .java g :: U.frames.tail := hend
    have hW' : U.WarmedH s₂.vm := hW₂
    have hs₂ : s₂ = ((({ U with heap := s₂.heap, slotsUsed := s₂.slotsUsed } : State).setVm s₂.vm).setTop g).pushFrame (.throwing q) := by
      refine e3.trans ?_
      rw [hf₂, State.calling_eq h.top, State.setFrames_setFrames, State.pushFrame, State.frames_setTop _ hr', State.setTop_of_frames _ hr', State.setFrames_setFrames, hr]
      rfl
    have hsame : U.sameButNew ({ U with heap := s₂.heap, slotsUsed := s₂.slotsUsed } : State) L mc ms := by
      refine ⟨?_, q2, q3, q4, q5, q6⟩
      obtain ⟨t, ht, -⟩ := State.frames_cons hr
      show ({ U with heap := s₂.heap, slotsUsed := s₂.slotsUsed } : State) = { U.setFrames U.frames with heap := s₂.heap, slotsUsed := s₂.slotsUsed }
      rw [State.setFrames_self ht]
    subst hg
    refine Or.inr ⟨q, ⟨(({ U with heap := s₂.heap, slotsUsed := s₂.slotsUsed } : State).setVm s₂.vm), Ls ++ L, c0 + mc, s0 + ms⟩,
      ⟨X.admits, X.cas, X.clock, X.frames, X.room, X.hears, X.method, X.code, (X.here.setHeapUsed s₂.heap s₂.slotsUsed).setVm hW'.alike, X.tail, State.WarmedH.trans X.warmed hW', X.limits, X.bytes, X.same.trans (hsame.setVm s.vm)⟩,
      ⟨g, mk, s₂, L, E, ce, rfl, rfl, hx, hce, hcv, hcl, rfl, hL, rfl, rfl⟩, ?_⟩
    show Steps p.tables e below _ (((({ U with heap := s₂.heap, slotsUsed := s₂.slotsUsed } : State).setVm s₂.vm).setTop g).pushFrame (.throwing q))
    rw [← hs₂]
    exact hsteps
end
variable {p : Program} {l : Launch} {e : Env} {R : Room} {s : State} {m : MethodId} {args : Array Value} {below : List Frame} {meth : Method} {c : Code} {T : State} {H : Heap} {locs : List Loc} {cells slots : Nat}
theorem vx_callVX (X : Stand p l e R s m args below meth c T locs cells slots) (hexec : p.tables.exec = Jvm.exec) {own C : String} {index : Nat} {y : MethodName} {bytes : ByteArray} {maxL : Nat} {ret : Option FieldType} {hh : List (Nat × Nat × Nat × Nat)}
    (hown : s.vm.findClass own = some m.cls) (hlink : (Cond.methodLink own index y).before args s = true) (hinst : (Cond.instanceMethod y).before args s = true) (hsel : (Cond.selects C y y).before args s = true)
    (hcode : (Cond.codeWith y bytes maxL ret hh).before args s = true) (hy : y.cls ≠ "java/lang/invoke/MethodHandle" ∧ y.cls ≠ "java/lang/invoke/VarHandle")
    {W9 : Nat} {Pre : Pt → Array Value → Prop} {Post : Pt → Array Value → Option Value → Pt → Prop} {PostX : Pt → Array Value → Addr → Pt → Prop} (hK : vx_Back l R p e below s args y 3 W9 Pre Post PostX)
    {b : Addr} {cellB : Cell} (hcell : T.heap[b]? = some cellB) (hobj : cellB.vm.isStatics = false) (hcls : s.vm.findClass C = some cellB.cls)
    {g : JFrame} (hg : g.method = m) (hsize : g.locals.size = c.maxLocals) {argsL rest : List Value} (hlen : ∀ sig, parseMethodDescriptor y.desc = some sig → argsL.length = sig.parameters.length)
    (hstack : g.stack = argsL.reverse ++ .ref b :: rest) (hW : 2 * g.monitorRoom + (rest.map fun v => v.category).sum ≤ W9) (hdg : decode c.code g.pc = .ok (.invokevirtual index, 3))
    (hpre : ∀ vm₁, s.WarmedH vm₁ → Pre ⟨T.setVm vm₁, locs, cells, slots⟩ (Value.ref b :: argsL).toArray) :
    (∃ (v : Option Value) (vm₁ : Vm) (B : Pt), s.WarmedH vm₁ ∧ Stand p l e R s m args below meth c B.U B.locs B.cells B.slots ∧ Post ⟨T.setVm vm₁, locs, cells, slots⟩ (Value.ref b :: argsL).toArray v B ∧
      ∀ target, Steps p.tables e below (B.U.setTop { g with pc := g.pc + 3, stack := v.toList ++ rest }) target → Steps p.tables e below (T.setTop g) target) ∨
    (∃ (q : Addr) (vm₁ : Vm) (B : Pt), s.WarmedH vm₁ ∧ Stand p l e R s m args below meth c B.U B.locs B.cells B.slots ∧ PostX ⟨T.setVm vm₁, locs, cells, slots⟩ (Value.ref b :: argsL).toArray q B ∧
      Steps p.tables e below (T.setTop g) ((B.U.setTop { g with stack := rest }).pushFrame (.throwing q))) := by
  obtain ⟨mk, methM, hnamed, hmethM, hstM, habM⟩ := Cond.instanceMethod_spec hinst
  obtain ⟨m8, methM', cM, hn8, hmethM', -, -, -, -, -, -, hsigM⟩ := Cond.codeWith_spec hcode
  cases Option.some.inj (hn8.symm.trans hnamed)
  cases hmethM.symm.trans hmethM'
  obtain ⟨c2, r2, m2, q1, q2, q3, q4, kP, hkP, hkPi⟩ := Cond.selects_spec hsel
  cases hcls.symm.trans q1
  cases (State.methodFound?_of_named hnamed hy).symm.trans q2
  cases hnamed.symm.trans q3
  have hselP : selectMethod e.platform s.vm cellB.cls mk = .method mk := by rw [Launch.admits_selectMethod X.admits]; exact q4
  obtain ⟨vm₁, X₁, hstep₁⟩ := X.invokevirtual hexec hown hlink hnamed hmethM hstM hkP hkPi hy (a := b) (cell := cellB) hcell
    (fun z h => by rw [h] at hobj; cases hobj) hselP hmethM habM hkP hkPi (g := g) hg (argsL := argsL) (rest := rest) (hlen _ hsigM) hstack hdg
  rcases hK m meth c ⟨T.setVm vm₁, locs, cells, slots⟩ { g with stack := rest } (.invokevirtual index) mk (Value.ref b :: argsL).toArray X₁ hg hsize hdg hW (X₁.named hnamed) (hpre vm₁ X₁.warmed) with ⟨v, B, X', hpost, hsteps⟩ | ⟨q, B, X', hpost, hsteps⟩
  · exact Or.inl ⟨v, vm₁, B, X₁.warmed, X', hpost, fun target h => hstep₁ _ fun acts => by rw [doInvoke_state]; exact hsteps.trans h⟩
  · exact Or.inr ⟨q, vm₁, B, X₁.warmed, X', hpost, hstep₁ _ fun acts => by rw [doInvoke_state]; exact hsteps⟩
theorem vx_callSX (X : Stand p l e R s m args below meth c T locs cells slots) (hexec : p.tables.exec = Jvm.exec) {own : String} {index : Nat} {y : MethodName} {bytes : ByteArray} {maxL : Nat} {ret : Option FieldType} {hh : List (Nat × Nat × Nat × Nat)}
    (hown : s.vm.findClass own = some m.cls) (hlink : (Cond.methodLink own index y).before args s = true) (hstat : (Cond.static y).before args s = true) (hinit : (Cond.initialized y.cls).before args s = true)
    (hcode : (Cond.codeWith y bytes maxL ret hh).before args s = true) (hy : y.cls ≠ "java/lang/invoke/MethodHandle" ∧ y.cls ≠ "java/lang/invoke/VarHandle")
    {W9 : Nat} {Pre : Pt → Array Value → Prop} {Post : Pt → Array Value → Option Value → Pt → Prop} {PostX : Pt → Array Value → Addr → Pt → Prop} (hK : vx_Back l R p e below s args y 3 W9 Pre Post PostX)
    {g : JFrame} (hg : g.method = m) (hsize : g.locals.size = c.maxLocals) {argsL rest : List Value} (hlen : ∀ sig, parseMethodDescriptor y.desc = some sig → argsL.length = sig.parameters.length)
    (hstack : g.stack = argsL.reverse ++ rest) (hW : 2 * g.monitorRoom + (rest.map fun v => v.category).sum ≤ W9) (hdg : decode c.code g.pc = .ok (.invokestatic index, 3))
    (hpre : ∀ vm₁, s.WarmedH vm₁ → Pre ⟨T.setVm vm₁, locs, cells, slots⟩ argsL.toArray) :
    (∃ (v : Option Value) (vm₁ : Vm) (B : Pt), s.WarmedH vm₁ ∧ Stand p l e R s m args below meth c B.U B.locs B.cells B.slots ∧ Post ⟨T.setVm vm₁, locs, cells, slots⟩ argsL.toArray v B ∧
      ∀ target, Steps p.tables e below (B.U.setTop { g with pc := g.pc + 3, stack := v.toList ++ rest }) target → Steps p.tables e below (T.setTop g) target) ∨
    (∃ (q : Addr) (vm₁ : Vm) (B : Pt), s.WarmedH vm₁ ∧ Stand p l e R s m args below meth c B.U B.locs B.cells B.slots ∧ PostX ⟨T.setVm vm₁, locs, cells, slots⟩ argsL.toArray q B ∧
      Steps p.tables e below (T.setTop g) ((B.U.setTop { g with stack := rest }).pushFrame (.throwing q))) := by
  obtain ⟨mk, methM, cM, hnamed, hmethM, -, -, -, -, -, -, hsigM⟩ := Cond.codeWith_spec hcode
  have hstatic : methM.isStatic = true := Cond.static_spec hnamed hmethM hstat
  obtain ⟨kP, hkP, -⟩ := className_of_methodNamed hnamed
  have hinitP : kP.init = .initialized := Cond.initialized_spec (findClass_of_methodNamed hnamed) hkP hinit
  obtain ⟨vm₁, X₁, hstep₁⟩ := X.invokestatic hexec hown hlink hnamed hmethM hstatic hkP hinitP hy (g := g) hg (argsL := argsL) (rest := rest) (hlen _ hsigM) hstack hdg
  rcases hK m meth c ⟨T.setVm vm₁, locs, cells, slots⟩ { g with stack := rest } (.invokestatic index) mk argsL.toArray X₁ hg hsize hdg hW (X₁.named hnamed) (hpre vm₁ X₁.warmed) with ⟨v, B, X', hpost, hsteps⟩ | ⟨q, B, X', hpost, hsteps⟩
  · exact Or.inl ⟨v, vm₁, B, X₁.warmed, X', hpost, fun target h => hstep₁ _ fun acts => by rw [doInvoke_state]; exact hsteps.trans h⟩
  · exact Or.inr ⟨q, vm₁, B, X₁.warmed, X', hpost, hstep₁ _ fun acts => by rw [doInvoke_state]; exact hsteps⟩
theorem vx_callVW (X : Stand p l e R s m args below meth c T locs cells slots) (hexec : p.tables.exec = Jvm.exec) {own C : String} {index : Nat} {y : MethodName} {bytes : ByteArray} {maxL : Nat} {ret : Option FieldType} {hh : List (Nat × Nat × Nat × Nat)}
    (hown : s.vm.findClass own = some m.cls) (hlink : (Cond.methodLink own index y).before args s = true) (hinst : (Cond.instanceMethod y).before args s = true) (hsel : (Cond.selects C y y).before args s = true)
    (hcode : (Cond.codeWith y bytes maxL ret hh).before args s = true) (hy : y.cls ≠ "java/lang/invoke/MethodHandle" ∧ y.cls ≠ "java/lang/invoke/VarHandle")
    {W9 : Nat} {Pre : Pt → Array Value → Prop} {Post : Pt → Array Value → Option Value → Pt → Prop} (hK : Back l R p e below s args y 3 W9 Pre Post)
    {b : Addr} {cellB : Cell} (hcell : T.heap[b]? = some cellB) (hobj : cellB.vm.isStatics = false) (hcls : s.vm.findClass C = some cellB.cls)
    {g : JFrame} (hg : g.method = m) (hsize : g.locals.size = c.maxLocals) {argsL rest : List Value} (hlen : ∀ sig, parseMethodDescriptor y.desc = some sig → argsL.length = sig.parameters.length)
    (hstack : g.stack = argsL.reverse ++ .ref b :: rest) (hW : 2 * g.monitorRoom + (rest.map fun v => v.category).sum ≤ W9) (hdg : decode c.code g.pc = .ok (.invokevirtual index, 3))
    (hpre : ∀ vm₁, s.WarmedH vm₁ → Pre ⟨T.setVm vm₁, locs, cells, slots⟩ (Value.ref b :: argsL).toArray) :
    ∃ (v : Option Value) (vm₁ : Vm) (B : Pt), s.WarmedH vm₁ ∧ Stand p l e R s m args below meth c B.U B.locs B.cells B.slots ∧ Post ⟨T.setVm vm₁, locs, cells, slots⟩ (Value.ref b :: argsL).toArray v B ∧
      ∀ target, Steps p.tables e below (B.U.setTop { g with pc := g.pc + 3, stack := v.toList ++ rest }) target → Steps p.tables e below (T.setTop g) target := by
  obtain ⟨mk, methM, hnamed, hmethM, hstM, habM⟩ := Cond.instanceMethod_spec hinst
  obtain ⟨m8, methM', cM, hn8, hmethM', -, -, -, -, -, -, hsigM⟩ := Cond.codeWith_spec hcode
  cases Option.some.inj (hn8.symm.trans hnamed)
  cases hmethM.symm.trans hmethM'
  obtain ⟨c2, r2, m2, q1, q2, q3, q4, kP, hkP, hkPi⟩ := Cond.selects_spec hsel
  cases hcls.symm.trans q1
  cases (State.methodFound?_of_named hnamed hy).symm.trans q2
  cases hnamed.symm.trans q3
  have hselP : selectMethod e.platform s.vm cellB.cls mk = .method mk := by rw [Launch.admits_selectMethod X.admits]; exact q4
  obtain ⟨vm₁, X₁, hstep₁⟩ := X.invokevirtual hexec hown hlink hnamed hmethM hstM hkP hkPi hy (a := b) (cell := cellB) hcell
    (fun z h => by rw [h] at hobj; cases hobj) hselP hmethM habM hkP hkPi (g := g) hg (argsL := argsL) (rest := rest) (hlen _ hsigM) hstack hdg
  obtain ⟨v, B, X', hpost, hsteps⟩ := hK m meth c ⟨T.setVm vm₁, locs, cells, slots⟩ { g with stack := rest } (.invokevirtual index) mk (Value.ref b :: argsL).toArray X₁ hg hsize hdg hW (X₁.named hnamed) (hpre vm₁ X₁.warmed)
  exact ⟨v, vm₁, B, X₁.warmed, X', hpost, fun target h => hstep₁ _ fun acts => by rw [doInvoke_state]; exact hsteps.trans h⟩
abbrev vx_CVW (R : Room) (s : State) (args : Array Value) (own C : String) (index : Nat) (y : MethodName) (bytes : ByteArray) (maxL : Nat) (ret : Option FieldType) (hh : List (Nat × Nat × Nat × Nat)) (ws : List Cond) (rm : Room) (mc ms n : Nat) : Prop :=
  (rm.cells = mc ∧ rm.slots = ms ∧ rm.frames + 1 ≤ R.frames ∧ 8 + (maxL + 11) + rm.locals ≤ R.locals ∧ (∀ w ∈ ws, ∀ (a' : Array Value) (U : State), s.WarmedH U.vm → w.before a' U = true) ∧ Cond.codeWith y bytes maxL ret hh ∈ ws) ∧
  (Cond.codeWith y bytes maxL ret hh).before args s = true ∧ (Cond.initialized y.cls).before args s = true ∧ (y.cls ≠ "java/lang/invoke/MethodHandle" ∧ y.cls ≠ "java/lang/invoke/VarHandle") ∧
  (∀ sig, parseMethodDescriptor y.desc = some sig → n = sig.parameters.length) ∧ (Cond.methodLink own index y).before args s = true ∧ (Cond.instanceMethod y).before args s = true ∧ (Cond.selects C y y).before args s = true
theorem vx_cwVW {own C : String} {index maxL mc ms : Nat} {y : MethodName} {bytes : ByteArray} {ret : Option FieldType} {hh : List (Nat × Nat × Nat × Nat)} {Ts ws ws' : List Cond} {rm : Room} (n : Nat) (ht : ∀ w ∈ Ts, w.before args s = true) (hT : GoodIn Ts (wsV own index C y ws)) (hw : ws = Cond.codeWith y bytes maxL ret hh :: ws') (hrc : rm.cells = mc) (hrs : rm.slots = ms)
    (hd : y.cls = C ∧ y.cls ≠ "java/lang/invoke/MethodHandle" ∧ y.cls ≠ "java/lang/invoke/VarHandle" ∧ (parseMethodDescriptor y.desc).map (fun d => d.parameters.length) = some n) (hR : rm.frames + 1 ≤ R.frames ∧ 8 + (maxL + 11) + rm.locals ≤ R.locals) :
    vx_CVW R s args own C index y bytes maxL ret hh ws rm mc ms n := by
  obtain ⟨hC, hd⟩ := hd
  subst hC
  have ok : ∀ w ∈ wsV own index y.cls y ws, w.before args s = true := fun w h => ht w (hT w h).1
  have hG : GoodIn Ts ws := fun w h => hT w (by unfold wsV; exact List.mem_append_right _ h)
  have hc : Cond.codeWith y bytes maxL ret hh ∈ ws := by rw [hw]; exact List.mem_cons_self
  refine ⟨⟨hrc, hrs, hR.1, hR.2, pay_in ht hG, hc⟩, ht _ (hG _ hc).1, ok _ (by simp [wsV]), ⟨hd.1, hd.2.1⟩, fun sig h => ?_, ok _ (by simp [wsV]), ok _ (by simp [wsV]), ok _ (by simp [wsV])⟩
  have h2 := hd.2.2
  rw [h] at h2
  exact (Option.some.inj h2).symm
theorem vx_runVW {y : MethodName} {bytes cc : ByteArray} {maxL nL mc ms n index : Nat} {ret : Option FieldType} {hh : List (Nat × Nat × Nat × Nat)} {ws : List Cond} {rm : Room} {Pc : Array Value → State → Prop} {Qc : Array Value → State → Outcome → State → Prop} {free : Addr → Prop} {Ts : List Cond} {own C : String} {b : Addr} {As rest : List Value} {g : JFrame}
    (S : CallFix p m c cc nL s args Ts own) (hM : Met l y ws rm Pc Qc mc ms free) (cw : vx_CVW R s args own C index y bytes maxL ret hh ws rm mc ms n) (hp : PreV s H C b Pc As)
    (hg : g.method = m) (hn : As.length = n) (hsize : g.locals.size = nL) (hstack : g.stack = As.reverse ++ .ref b :: rest) (hW : 2 * g.monitorRoom + (rest.map fun v => v.category).sum ≤ 8) (hdg : decode cc g.pc = .ok (.invokevirtual index, 3)) (hf : cells + mc ≤ R.cells ∧ slots + ms ≤ R.slots) :
    va_Run p l e R s m args below meth c H locs cells slots mc ms g rest (Qc (Value.ref b :: As).toArray) free := by
  obtain ⟨⟨hrc, hrs, hfr, hlo, hws, hcw⟩, hcode, hini, hy, hlen, hl, hin, hse⟩ := cw
  have hK : Back l R p e below s args y 3 8 (PreOf R mc ms Pc) (PostOf Qc mc ms free) := va_backW (hh := hh) (bytes := bytes) (maxL := maxL) (ret := ret) hM hp.1 hrc hrs hfr hlo hws hcw (fun a' U hW => word_at hW (Or.inl (by first | rfl | simp [Cond.onTables, Cond.keeps, Cond.steady])) hini)
  obtain ⟨hx, hb, hml, ho, -⟩ := S
  obtain ⟨-, ⟨cellB, hcB, hoB, hclB⟩, hPc⟩ := hp
  intro T hT X
  obtain ⟨v, vm₁, ⟨U', l2, c2, s2⟩, hW₁, X', ⟨g', mk, t, L, e1, e2, hq, h1, hL, h2, h3⟩, st⟩ := vx_callVW X hx (C := C) (hh := hh) (bytes := bytes) (maxL := maxL) (ret := ret) ho hl hin hse hcode hy hK (by rw [hT]; exact hcB) hoB hclB hg (hsize.trans hml.symm) (argsL := As) (rest := rest) (fun sig h => hn.trans (hlen sig h)) hstack hW (by rw [hb]; exact hdg)
    (fun vm₁ hW₁ => ⟨hf.1, hf.2, hPc (T.setVm vm₁) hT hW₁⟩)
  dsimp only [Pt.U, Pt.locs, Pt.cells, Pt.slots] at X' e1 e2 h1 h2 h3 st
  subst h1; subst h2; subst h3
  exact ⟨v, (T.setVm vm₁).calling g' mk (Value.ref b :: As).toArray, t, U', L, hT, X', hL, e1, e2, hq, st⟩
section
variable {y : MethodName} {bytes cc : ByteArray} {maxL nL mc ms n index : Nat} {ret : Option FieldType} {ws : List Cond} {rm : Room} {Pc : Array Value → State → Prop} {Qc : Array Value → State → Outcome → State → Prop} {XC : String → State → State → Prop} {free : Addr → Prop} {Ts : List Cond} {own C : String} {b : Addr} {As rest : List Value} {g : JFrame}
theorem vx_runVX {hh : List (Nat × Nat × Nat × Nat)} (S : CallFix p m c cc nL s args Ts own) (hM : vx_Met l y ws rm Pc Qc XC mc ms free) (cw : vx_CVW R s args own C index y bytes maxL ret hh ws rm mc ms n) (hp : PreV s H C b Pc As)
    (hg : g.method = m) (hn : As.length = n) (hsize : g.locals.size = nL) (hstack : g.stack = As.reverse ++ .ref b :: rest) (hW : 2 * g.monitorRoom + (rest.map fun v => v.category).sum ≤ 8) (hdg : decode cc g.pc = .ok (.invokevirtual index, 3)) (hf : cells + mc ≤ R.cells ∧ slots + ms ≤ R.slots) :
    vx_Run p l e R s m args below meth c H locs cells slots mc ms g rest (Qc (Value.ref b :: As).toArray) XC free := by
  obtain ⟨⟨hrc, hrs, hfr, hlo, hws, hcw⟩, hcode, hini, hy, hlen, hl, hin, hse⟩ := cw
  have hK : vx_Back l R p e below s args y 3 8 (PreOf R mc ms Pc) (PostOf Qc mc ms free) (vx_Post XC mc ms free) := vx_backW (hh := hh) (bytes := bytes) (maxL := maxL) (ret := ret) hM hp.1 hrc hrs hfr hlo hws hcw (fun a' U hW => word_at hW (Or.inl (by first | rfl | simp [Cond.onTables, Cond.keeps, Cond.steady])) hini)
  obtain ⟨hx, hb, hml, ho, -⟩ := S
  obtain ⟨-, ⟨cellB, hcB, hoB, hclB⟩, hPc⟩ := hp
  intro T hT X
  rcases vx_callVX X hx (C := C) (hh := hh) (bytes := bytes) (maxL := maxL) (ret := ret) ho hl hin hse hcode hy hK (by rw [hT]; exact hcB) hoB hclB hg (hsize.trans hml.symm) (argsL := As) (rest := rest) (fun sig h => hn.trans (hlen sig h)) hstack hW (by rw [hb]; exact hdg)
    (fun vm₁ hW₁ => ⟨hf.1, hf.2, hPc (T.setVm vm₁) hT hW₁⟩) with ⟨v, vm₁, ⟨U', l2, c2, s2⟩, hW₁, X', ⟨g', mk, t, L, e1, e2, hq, h1, hL, h2, h3⟩, st⟩ | ⟨q, vm₁, ⟨U', l2, c2, s2⟩, hW₁, X', ⟨g', mk, t, L, E, ce, e1, e2, hq, hce, hcv, hcl, h1, hL, h2, h3⟩, st⟩
  · dsimp only [Pt.U, Pt.locs, Pt.cells, Pt.slots] at X' e1 e2 h1 h2 h3 st
    subst h1; subst h2; subst h3
    exact Or.inl ⟨v, (T.setVm vm₁).calling g' mk (Value.ref b :: As).toArray, t, U', L, hT, X', hL, e1, e2, hq, st⟩
  · dsimp only [Pt.U, Pt.locs, Pt.cells, Pt.slots] at X' e1 e2 h1 h2 h3 st hcl
    subst h1; subst h2; subst h3
    exact Or.inr ⟨q, (T.setVm vm₁).calling g' mk (Value.ref b :: As).toArray, t, U', L, E, ce, hT, X', hL, e1, e2, hq, hce, hcv, vx_cls hW₁ hcl, st⟩
theorem vx_runSX {hh : List (Nat × Nat × Nat × Nat)} (S : CallFix p m c cc nL s args Ts own) (hM : vx_Met l y ws rm Pc Qc XC mc ms free) (cw : vx_CSW R s args own index y bytes maxL ret hh ws rm mc ms n) (hp : PreS s H Pc As)
    (hg : g.method = m) (hn : As.length = n) (hsize : g.locals.size = nL) (hstack : g.stack = As.reverse ++ rest) (hW : 2 * g.monitorRoom + (rest.map fun v => v.category).sum ≤ 8) (hdg : decode cc g.pc = .ok (.invokestatic index, 3)) (hf : cells + mc ≤ R.cells ∧ slots + ms ≤ R.slots) :
    vx_Run p l e R s m args below meth c H locs cells slots mc ms g rest (Qc As.toArray) XC free := by
  obtain ⟨⟨hrc, hrs, hfr, hlo, hws, hcw⟩, hcode, hini, hy, hlen, hl, hstt⟩ := cw
  have hK : vx_Back l R p e below s args y 3 8 (PreOf R mc ms Pc) (PostOf Qc mc ms free) (vx_Post XC mc ms free) := vx_backW (hh := hh) (bytes := bytes) (maxL := maxL) (ret := ret) hM hp.1 hrc hrs hfr hlo hws hcw (fun a' U hW => word_at hW (Or.inl (by first | rfl | simp [Cond.onTables, Cond.keeps, Cond.steady])) hini)
  obtain ⟨hx, hb, hml, ho, -⟩ := S
  intro T hT X
  rcases vx_callSX X hx (hh := hh) (bytes := bytes) (maxL := maxL) (ret := ret) ho hl hstt hini hcode hy hK hg (hsize.trans hml.symm) (argsL := As) (rest := rest) (fun sig h => hn.trans (hlen sig h)) hstack hW (by rw [hb]; exact hdg)
    (fun vm₁ hW₁ => ⟨hf.1, hf.2, hp.2 (T.setVm vm₁) hT hW₁⟩) with ⟨v, vm₁, ⟨U', l2, c2, s2⟩, hW₁, X', ⟨g', mk, t, L, e1, e2, hq, h1, hL, h2, h3⟩, st⟩ | ⟨q, vm₁, ⟨U', l2, c2, s2⟩, hW₁, X', ⟨g', mk, t, L, E, ce, e1, e2, hq, hce, hcv, hcl, h1, hL, h2, h3⟩, st⟩
  · dsimp only [Pt.U, Pt.locs, Pt.cells, Pt.slots] at X' e1 e2 h1 h2 h3 st
    subst h1; subst h2; subst h3
    exact Or.inl ⟨v, (T.setVm vm₁).calling g' mk As.toArray, t, U', L, hT, X', hL, e1, e2, hq, st⟩
  · dsimp only [Pt.U, Pt.locs, Pt.cells, Pt.slots] at X' e1 e2 h1 h2 h3 st hcl
    subst h1; subst h2; subst h3
    exact Or.inr ⟨q, (T.setVm vm₁).calling g' mk As.toArray, t, U', L, E, ce, hT, X', hL, e1, e2, hq, hce, hcv, vx_cls hW₁ hcl, st⟩
end
end VXH
theorem vx_ofWH {l : Launch} {y : MethodName} {ws ws' : List Cond} {rm : Room} {Pc : Array Value → State → Prop} {Qc : Array Value → State → Outcome → State → Prop} {XC : String → State → State → Prop} {mc ms : Nat} {free : Addr → Prop} {cc : ByteArray} {maxL : Nat} {ret : Option FieldType} {hh : List (Nat × Nat × Nat × Nat)}
    (hy : plainName y.cls = true) (hw : ws = Cond.codeWith y cc maxL ret hh :: ws')
    (body : ∀ p e s m args below meth c s₁, BodyLoose p l y (headSpec ws rm) cc maxL ret e s m args below meth c s₁ → c.maxLocals = maxL → Pc args s →
      W p l e (headSpec ws rm).room s m args below meth c s.heap [] 0 0 (vx_MQ below Qc XC args s mc ms free) (entryFrame m args maxL)) : vx_Met l y ws rm Pc Qc XC mc ms free := by
  refine MetFree.of_bodyS (code := cc) (maxLocals := maxL) (ret := ret) hy ?_ ?_
  · intro args s m h hn
    obtain ⟨m9, meth, c, hn9, h1, h2, h3, h4, -, h5, h6, -⟩ := Cond.codeWith_spec (atoms_spec (ws := ws) h _ (by rw [hw]; exact List.mem_cons_self))
    cases hn.symm.trans hn9
    exact ⟨meth, c, h1, h2, h3, h4, h5, h6⟩
  · intro p e s m args below meth c s₁ B hml hP _
    have hh0 : s₁.heap = s.heap := by rw [B.state]; rfl
    obtain ⟨t, a1, o, b1, b2, b3⟩ := body p e s m args below meth c s₁ B hml hP s₁ hh0 (Stand.of_body B)
    exact ⟨t, o, a1, b1, b2, b3⟩
/-! ===== END ===== -/

/-! ===== BEGIN printed: names, fields, word lists, decode rows ===== -/
def RX0 : String := "ClassGate$AttributeCheck"
def TX0 : u_T := fun k => match k with
  | 0 => ("ClassGate$AttributeCheck", "file", "LClassGate$ClassFile;", true)
  | 1 => ("ClassGate$AttributeCheck", "bytes", "LClassGate$Bytes;", true)
  | 2 => ("ClassGate$AttributeCheck", "pool", "LClassGate$Pool;", true)
  | 3 => ("ClassGate$AttributeCheck", "verdict", "LClassGate$Verdict;", true)
  | _ => ("ClassGate$AttributeCheck", "seen", "I", false)
def tyX0 : Nat → FieldType := fun k => match k with
  | 0 => .object "ClassGate$ClassFile"
  | 1 => .object "ClassGate$Bytes"
  | 2 => .object "ClassGate$Pool"
  | 3 => .object "ClassGate$Verdict"
  | _ => .int
abbrev wsX00 : List Cond := u_ws RX0 TX0 5
theorem nmX0 : ∀ a, a < 5 → ∀ b, b < 5 → a ≠ b → (TX0 a).2.1 ≠ (TX0 b).2.1 := by decide +kernel
theorem tyX0_ok : ∀ k, k < 5 → parseFieldDescriptor (TX0 k).2.2.1 = some (tyX0 k) := by decide +kernel
abbrev cX0_init : ByteArray := prog_2_method_1_code
def yX0_init : MethodName := ⟨RX0, "<init>", "(LClassGate$ClassFile;LClassGate$Verdict;)V"⟩
abbrev cX0_ofField : ByteArray := prog_2_method_2_code
def yX0_ofField : MethodName := ⟨RX0, "ofField", "(LClassGate$Member;)Z"⟩
abbrev cX0_ofMethod : ByteArray := prog_2_method_3_code
def yX0_ofMethod : MethodName := ⟨RX0, "ofMethod", "(LClassGate$Member;)Z"⟩
abbrev cX0_ofClass : ByteArray := prog_2_method_4_code
def yX0_ofClass : MethodName := ⟨RX0, "ofClass", "()Z"⟩
abbrev cX0_behind : ByteArray := prog_2_method_5_code
def yX0_behind : MethodName := ⟨RX0, "behind", "(I)I"⟩
abbrev cX0_methodKind : ByteArray := prog_2_method_6_code
def yX0_methodKind : MethodName := ⟨RX0, "methodKind", "(I)I"⟩
abbrev cX0_classKind : ByteArray := prog_2_method_7_code
def yX0_classKind : MethodName := ⟨RX0, "classKind", "(I)I"⟩
abbrev cX0_hasSeen : ByteArray := prog_2_method_8_code
def yX0_hasSeen : MethodName := ⟨RX0, "hasSeen", "(I)Z"⟩
abbrev cX0_isNew : ByteArray := prog_2_method_9_code
def yX0_isNew : MethodName := ⟨RX0, "isNew", "(II)Z"⟩
abbrev cX0_formEnd : ByteArray := prog_2_method_10_code
def yX0_formEnd : MethodName := ⟨RX0, "formEnd", "(III)I"⟩
abbrev cX0_bootstrapsEnd : ByteArray := prog_2_method_11_code
def yX0_bootstrapsEnd : MethodName := ⟨RX0, "bootstrapsEnd", "(II)I"⟩
abbrev cX0_recordEnd : ByteArray := prog_2_method_12_code
def yX0_recordEnd : MethodName := ⟨RX0, "recordEnd", "(II)I"⟩
abbrev cX0_codeEnd : ByteArray := prog_2_method_13_code
def yX0_codeEnd : MethodName := ⟨RX0, "codeEnd", "(II)I"⟩
abbrev cX0_constantTag : ByteArray := prog_2_method_14_code
def yX0_constantTag : MethodName := ⟨RX0, "constantTag", "(I)I"⟩
abbrev cX0_areClasses : ByteArray := prog_2_method_15_code
def yX0_areClasses : MethodName := ⟨RX0, "areClasses", "(I)Z"⟩
abbrev cX0_brokenRule : ByteArray := prog_2_method_16_code
def yX0_brokenRule : MethodName := ⟨RX0, "brokenRule", "(II)I"⟩
abbrev cX0_innerClassesHold : ByteArray := prog_2_method_17_code
def yX0_innerClassesHold : MethodName := ⟨RX0, "innerClassesHold", "(I)Z"⟩
abbrev cX0_recordHolds : ByteArray := prog_2_method_18_code
def yX0_recordHolds : MethodName := ⟨RX0, "recordHolds", "(I)Z"⟩
abbrev cX0_bootstrapsHold : ByteArray := prog_2_method_19_code
def yX0_bootstrapsHold : MethodName := ⟨RX0, "bootstrapsHold", "()Z"⟩
abbrev cX0_isLoadable : ByteArray := prog_2_method_20_code
def yX0_isLoadable : MethodName := ⟨RX0, "isLoadable", "(I)Z"⟩
abbrev cX0_codeHolds : ByteArray := prog_2_method_21_code
def yX0_codeHolds : MethodName := ⟨RX0, "codeHolds", "(LClassGate$Member;I)Z"⟩
abbrev cX0_rowHolds : ByteArray := prog_2_method_22_code
def yX0_rowHolds : MethodName := ⟨RX0, "rowHolds", "(LClassGate$Code;I)Z"⟩
abbrev cX0_codeAttributesHold : ByteArray := prog_2_method_23_code
def yX0_codeAttributesHold : MethodName := ⟨RX0, "codeAttributesHold", "(I)Z"⟩
def RX1 : String := "ClassGate$Bytes"
def TX1 : u_T := fun k => match k with
  | _ => ("ClassGate$Bytes", "data", "[B", true)
def tyX1 : Nat → FieldType := fun k => match k with
  | _ => .array .byte
abbrev wsX10 : List Cond := u_ws RX1 TX1 1
theorem nmX1 : ∀ a, a < 1 → ∀ b, b < 1 → a ≠ b → (TX1 a).2.1 ≠ (TX1 b).2.1 := by decide +kernel
theorem tyX1_ok : ∀ k, k < 1 → parseFieldDescriptor (TX1 k).2.2.1 = some (tyX1 k) := by decide +kernel
abbrev cX1_init : ByteArray := prog_3_method_1_code
def yX1_init : MethodName := ⟨RX1, "<init>", "([B)V"⟩
abbrev cX1_size : ByteArray := prog_3_method_2_code
def yX1_size : MethodName := ⟨RX1, "size", "()I"⟩
abbrev cX1_u1 : ByteArray := prog_3_method_3_code
def yX1_u1 : MethodName := ⟨RX1, "u1", "(I)I"⟩
abbrev cX1_u2 : ByteArray := prog_3_method_4_code
def yX1_u2 : MethodName := ⟨RX1, "u2", "(I)I"⟩
abbrev cX1_u4 : ByteArray := prog_3_method_5_code
def yX1_u4 : MethodName := ⟨RX1, "u4", "(I)I"⟩
abbrev cX1_goesOn : ByteArray := prog_3_method_6_code
def yX1_goesOn : MethodName := ⟨RX1, "goesOn", "(II)Z"⟩
abbrev cX1_attributesEnd : ByteArray := prog_3_method_7_code
def yX1_attributesEnd : MethodName := ⟨RX1, "attributesEnd", "(III)I"⟩
def RX2 : String := "ClassGate$ClassCheck"
def TX2 : u_T := fun k => match k with
  | 0 => ("ClassGate$ClassCheck", "file", "LClassGate$ClassFile;", true)
  | 1 => ("ClassGate$ClassCheck", "bytes", "LClassGate$Bytes;", true)
  | 2 => ("ClassGate$ClassCheck", "pool", "LClassGate$Pool;", true)
  | 3 => ("ClassGate$ClassCheck", "verdict", "LClassGate$Verdict;", true)
  | _ => ("ClassGate$ClassCheck", "attributeCheck", "LClassGate$AttributeCheck;", true)
def tyX2 : Nat → FieldType := fun k => match k with
  | 0 => .object "ClassGate$ClassFile"
  | 1 => .object "ClassGate$Bytes"
  | 2 => .object "ClassGate$Pool"
  | 3 => .object "ClassGate$Verdict"
  | _ => .object "ClassGate$AttributeCheck"
abbrev wsX20 : List Cond := u_ws RX2 TX2 5
theorem nmX2 : ∀ a, a < 5 → ∀ b, b < 5 → a ≠ b → (TX2 a).2.1 ≠ (TX2 b).2.1 := by decide +kernel
theorem tyX2_ok : ∀ k, k < 5 → parseFieldDescriptor (TX2 k).2.2.1 = some (tyX2 k) := by decide +kernel
abbrev cX2_init : ByteArray := prog_4_method_1_code
def yX2_init : MethodName := ⟨RX2, "<init>", "(LClassGate$ClassFile;LClassGate$Verdict;LClassGate$AttributeCheck;)V"⟩
abbrev cX2_headHolds : ByteArray := prog_4_method_2_code
def yX2_headHolds : MethodName := ⟨RX2, "headHolds", "()Z"⟩
abbrev cX2_classFlagsHold : ByteArray := prog_4_method_3_code
def yX2_classFlagsHold : MethodName := ⟨RX2, "classFlagsHold", "(I)Z"⟩
abbrev cX2_hasAll : ByteArray := prog_4_method_4_code
def yX2_hasAll : MethodName := ⟨RX2, "hasAll", "(II)Z"⟩
abbrev cX2_interfacesHold : ByteArray := prog_4_method_5_code
def yX2_interfacesHold : MethodName := ⟨RX2, "interfacesHold", "()Z"⟩
abbrev cX2_fieldsHold : ByteArray := prog_4_method_6_code
def yX2_fieldsHold : MethodName := ⟨RX2, "fieldsHold", "()Z"⟩
abbrev cX2_fieldHolds : ByteArray := prog_4_method_7_code
def yX2_fieldHolds : MethodName := ⟨RX2, "fieldHolds", "(LClassGate$Member;I)Z"⟩
abbrev cX2_fieldFlagsHold : ByteArray := prog_4_method_8_code
def yX2_fieldFlagsHold : MethodName := ⟨RX2, "fieldFlagsHold", "(I)Z"⟩
abbrev cX2_hasOneAccessAtMost : ByteArray := prog_4_method_9_code
def yX2_hasOneAccessAtMost : MethodName := ⟨RX2, "hasOneAccessAtMost", "(I)Z"⟩
abbrev cX2_methodsHold : ByteArray := prog_4_method_10_code
def yX2_methodsHold : MethodName := ⟨RX2, "methodsHold", "()Z"⟩
abbrev cX2_methodHolds : ByteArray := prog_4_method_11_code
def yX2_methodHolds : MethodName := ⟨RX2, "methodHolds", "(LClassGate$Member;I)Z"⟩
abbrev cX2_methodNameHolds : ByteArray := prog_4_method_12_code
def yX2_methodNameHolds : MethodName := ⟨RX2, "methodNameHolds", "(I)Z"⟩
abbrev cX2_methodFlagsHold : ByteArray := prog_4_method_13_code
def yX2_methodFlagsHold : MethodName := ⟨RX2, "methodFlagsHold", "(LClassGate$Member;)Z"⟩
abbrev cX2_abstractHolds : ByteArray := prog_4_method_14_code
def yX2_abstractHolds : MethodName := ⟨RX2, "abstractHolds", "(LClassGate$Member;)Z"⟩
abbrev cX2_interfaceMethodHolds : ByteArray := prog_4_method_15_code
def yX2_interfaceMethodHolds : MethodName := ⟨RX2, "interfaceMethodHolds", "(LClassGate$Member;)Z"⟩
abbrev cX2_methodDescriptorHolds : ByteArray := prog_4_method_16_code
def yX2_methodDescriptorHolds : MethodName := ⟨RX2, "methodDescriptorHolds", "(LClassGate$Member;)Z"⟩
abbrev cX2_codeIsDue : ByteArray := prog_4_method_17_code
def yX2_codeIsDue : MethodName := ⟨RX2, "codeIsDue", "(LClassGate$Member;)Z"⟩
def RX3 : String := "ClassGate$ClassFile"
def TX3 : u_T := fun k => match k with
  | 0 => ("ClassGate$ClassFile", "bytes", "LClassGate$Bytes;", true)
  | 1 => ("ClassGate$ClassFile", "pool", "LClassGate$Pool;", false)
  | 2 => ("ClassGate$ClassFile", "minor", "I", false)
  | 3 => ("ClassGate$ClassFile", "major", "I", false)
  | 4 => ("ClassGate$ClassFile", "flagsAt", "I", false)
  | 5 => ("ClassGate$ClassFile", "interfaceCount", "I", false)
  | 6 => ("ClassGate$ClassFile", "fields", "[LClassGate$Member;", false)
  | 7 => ("ClassGate$ClassFile", "methods", "[LClassGate$Member;", false)
  | 8 => ("ClassGate$ClassFile", "attributeCount", "I", false)
  | 9 => ("ClassGate$ClassFile", "attributesAt", "I", false)
  | 10 => ("ClassGate$ClassFile", "known", "I", false)
  | 11 => ("ClassGate$ClassFile", "bootstrapCount", "I", false)
  | 12 => ("ClassGate$ClassFile", "bootstrapsAt", "I", false)
  | 13 => ("ClassGate$ClassFile", "innerCount", "I", false)
  | 14 => ("ClassGate$ClassFile", "nestCount", "I", false)
  | 15 => ("ClassGate$ClassFile", "permittedCount", "I", false)
  | _ => ("ClassGate$ClassFile", "recordCount", "I", false)
def tyX3 : Nat → FieldType := fun k => match k with
  | 0 => .object "ClassGate$Bytes"
  | 1 => .object "ClassGate$Pool"
  | 2 => .int
  | 3 => .int
  | 4 => .int
  | 5 => .int
  | 6 => .array (.object "ClassGate$Member")
  | 7 => .array (.object "ClassGate$Member")
  | 8 => .int
  | 9 => .int
  | 10 => .int
  | 11 => .int
  | 12 => .int
  | 13 => .int
  | 14 => .int
  | 15 => .int
  | _ => .int
abbrev wsX30 : List Cond := u_ws RX3 TX3 17
theorem nmX3 : ∀ a, a < 17 → ∀ b, b < 17 → a ≠ b → (TX3 a).2.1 ≠ (TX3 b).2.1 := by decide +kernel
theorem tyX3_ok : ∀ k, k < 17 → parseFieldDescriptor (TX3 k).2.2.1 = some (tyX3 k) := by decide +kernel
abbrev cX3_init : ByteArray := prog_5_method_1_code
def yX3_init : MethodName := ⟨RX3, "<init>", "(LClassGate$Bytes;)V"⟩
abbrev cX3_has : ByteArray := prog_5_method_2_code
def yX3_has : MethodName := ⟨RX3, "has", "(I)Z"⟩
abbrev cX3_number : ByteArray := prog_5_method_3_code
def yX3_number : MethodName := ⟨RX3, "number", "(I)I"⟩
abbrev cX3_attributeNumber : ByteArray := prog_5_method_4_code
def yX3_attributeNumber : MethodName := ⟨RX3, "attributeNumber", "(I)I"⟩
abbrev cX3_memberAt : ByteArray := prog_5_method_5_code
def yX3_memberAt : MethodName := ⟨RX3, "memberAt", "(ZI)LClassGate$Member;"⟩
abbrev cX3_bootstrapPart : ByteArray := prog_5_method_6_code
def yX3_bootstrapPart : MethodName := ⟨RX3, "bootstrapPart", "(II)I"⟩
def RX4 : String := "ClassGate$Code"
def TX4 : u_T := fun k => match k with
  | 0 => ("ClassGate$Code", "maxStack", "I", true)
  | 1 => ("ClassGate$Code", "maxLocals", "I", true)
  | 2 => ("ClassGate$Code", "length", "I", true)
  | 3 => ("ClassGate$Code", "rowsAt", "I", true)
  | 4 => ("ClassGate$Code", "rowCount", "I", true)
  | 5 => ("ClassGate$Code", "pool", "LClassGate$Pool;", true)
  | 6 => ("ClassGate$Code", "major", "I", true)
  | 7 => ("ClassGate$Code", "one", "LClassGate$Instruction;", true)
  | 8 => ("ClassGate$Code", "cutResult", "I", false)
  | 9 => ("ClassGate$Code", "starts", "[I", false)
  | _ => ("ClassGate$Code", "numbers", "[I", false)
def tyX4 : Nat → FieldType := fun k => match k with
  | 0 => .int
  | 1 => .int
  | 2 => .int
  | 3 => .int
  | 4 => .int
  | 5 => .object "ClassGate$Pool"
  | 6 => .int
  | 7 => .object "ClassGate$Instruction"
  | 8 => .int
  | 9 => .array .int
  | _ => .array .int
abbrev wsX40 : List Cond := u_ws RX4 TX4 11
theorem nmX4 : ∀ a, a < 11 → ∀ b, b < 11 → a ≠ b → (TX4 a).2.1 ≠ (TX4 b).2.1 := by decide +kernel
theorem tyX4_ok : ∀ k, k < 11 → parseFieldDescriptor (TX4 k).2.2.1 = some (tyX4 k) := by decide +kernel
abbrev cX4_init : ByteArray := prog_6_method_1_code
def yX4_init : MethodName := ⟨RX4, "<init>", "(LClassGate$ClassFile;I)V"⟩
abbrev cX4_cutUp : ByteArray := prog_6_method_2_code
def yX4_cutUp : MethodName := ⟨RX4, "cutUp", "()I"⟩
abbrev cX4_startOf : ByteArray := prog_6_method_3_code
def yX4_startOf : MethodName := ⟨RX4, "startOf", "(I)I"⟩
abbrev cX4_numberAt : ByteArray := prog_6_method_4_code
def yX4_numberAt : MethodName := ⟨RX4, "numberAt", "(J)I"⟩
abbrev cX4_number : ByteArray := prog_6_method_5_code
def yX4_number : MethodName := ⟨RX4, "number", "(II)I"⟩
abbrev cX4_switchPlace : ByteArray := prog_6_method_6_code
def yX4_switchPlace : MethodName := ⟨RX4, "switchPlace", "(IIZ)I"⟩
abbrev cX4_targetsHold : ByteArray := prog_6_method_7_code
def yX4_targetsHold : MethodName := ⟨RX4, "targetsHold", "()Z"⟩
abbrev cX4_operandsHold : ByteArray := prog_6_method_8_code
def yX4_operandsHold : MethodName := ⟨RX4, "operandsHold", "()Z"⟩
abbrev cX4_callHolds : ByteArray := prog_6_method_9_code
def yX4_callHolds : MethodName := ⟨RX4, "callHolds", "(I)Z"⟩
abbrev cX4_isMethodOfEither : ByteArray := prog_6_method_10_code
def yX4_isMethodOfEither : MethodName := ⟨RX4, "isMethodOfEither", "(I)Z"⟩
abbrev cX4_isLoadedByLdc : ByteArray := prog_6_method_11_code
def yX4_isLoadedByLdc : MethodName := ⟨RX4, "isLoadedByLdc", "(I)Z"⟩
abbrev cX4_isOfTwoPlaces : ByteArray := prog_6_method_12_code
def yX4_isOfTwoPlaces : MethodName := ⟨RX4, "isOfTwoPlaces", "(I)Z"⟩
def RX5 : String := "ClassGate$Instruction"
def TX5 : u_T := fun k => match k with
  | 0 => ("ClassGate$Instruction", "bytes", "LClassGate$Bytes;", true)
  | 1 => ("ClassGate$Instruction", "codeAt", "I", true)
  | 2 => ("ClassGate$Instruction", "codeLength", "I", true)
  | 3 => ("ClassGate$Instruction", "opcode", "I", false)
  | 4 => ("ClassGate$Instruction", "size", "I", false)
  | 5 => ("ClassGate$Instruction", "first", "I", false)
  | 6 => ("ClassGate$Instruction", "second", "I", false)
  | 7 => ("ClassGate$Instruction", "localPlaces", "I", false)
  | 8 => ("ClassGate$Instruction", "targetCount", "I", false)
  | 9 => ("ClassGate$Instruction", "pc", "I", false)
  | 10 => ("ClassGate$Instruction", "offset", "I", false)
  | _ => ("ClassGate$Instruction", "switchAt", "I", false)
def tyX5 : Nat → FieldType := fun k => match k with
  | 0 => .object "ClassGate$Bytes"
  | 1 => .int
  | 2 => .int
  | 3 => .int
  | 4 => .int
  | 5 => .int
  | 6 => .int
  | 7 => .int
  | 8 => .int
  | 9 => .int
  | 10 => .int
  | _ => .int
abbrev wsX50 : List Cond := u_ws RX5 TX5 12
theorem nmX5 : ∀ a, a < 12 → ∀ b, b < 12 → a ≠ b → (TX5 a).2.1 ≠ (TX5 b).2.1 := by decide +kernel
theorem tyX5_ok : ∀ k, k < 12 → parseFieldDescriptor (TX5 k).2.2.1 = some (tyX5 k) := by decide +kernel
abbrev cX5_init : ByteArray := prog_7_method_1_code
def yX5_init : MethodName := ⟨RX5, "<init>", "(LClassGate$Bytes;II)V"⟩
abbrev cX5_isSwitch : ByteArray := prog_7_method_2_code
def yX5_isSwitch : MethodName := ⟨RX5, "isSwitch", "()Z"⟩
abbrev cX5_isJump : ByteArray := prog_7_method_3_code
def yX5_isJump : MethodName := ⟨RX5, "isJump", "()Z"⟩
abbrev cX5_u1 : ByteArray := prog_7_method_4_code
def yX5_u1 : MethodName := ⟨RX5, "u1", "(I)I"⟩
abbrev cX5_u2 : ByteArray := prog_7_method_5_code
def yX5_u2 : MethodName := ⟨RX5, "u2", "(I)I"⟩
abbrev cX5_s4 : ByteArray := prog_7_method_6_code
def yX5_s4 : MethodName := ⟨RX5, "s4", "(I)I"⟩
abbrev cX5_isTakenApart : ByteArray := prog_7_method_7_code
def yX5_isTakenApart : MethodName := ⟨RX5, "isTakenApart", "(I)Z"⟩
abbrev cX5_sizeOf : ByteArray := prog_7_method_8_code
def yX5_sizeOf : MethodName := ⟨RX5, "sizeOf", "(I)I"⟩
abbrev cX5_isLocalOpcode : ByteArray := prog_7_method_9_code
def yX5_isLocalOpcode : MethodName := ⟨RX5, "isLocalOpcode", "(I)Z"⟩
abbrev cX5_areOperandsTaken : ByteArray := prog_7_method_10_code
def yX5_areOperandsTaken : MethodName := ⟨RX5, "areOperandsTaken", "()Z"⟩
abbrev cX5_isShortLocalTaken : ByteArray := prog_7_method_11_code
def yX5_isShortLocalTaken : MethodName := ⟨RX5, "isShortLocalTaken", "(II)Z"⟩
abbrev cX5_isLocalTaken : ByteArray := prog_7_method_12_code
def yX5_isLocalTaken : MethodName := ⟨RX5, "isLocalTaken", "(I)Z"⟩
abbrev cX5_isJumpTaken : ByteArray := prog_7_method_13_code
def yX5_isJumpTaken : MethodName := ⟨RX5, "isJumpTaken", "(II)Z"⟩
abbrev cX5_isIndexTaken : ByteArray := prog_7_method_14_code
def yX5_isIndexTaken : MethodName := ⟨RX5, "isIndexTaken", "()Z"⟩
abbrev cX5_isWideTaken : ByteArray := prog_7_method_15_code
def yX5_isWideTaken : MethodName := ⟨RX5, "isWideTaken", "()Z"⟩
abbrev cX5_isSwitchTaken : ByteArray := prog_7_method_16_code
def yX5_isSwitchTaken : MethodName := ⟨RX5, "isSwitchTaken", "()Z"⟩
abbrev cX5_isTableTaken : ByteArray := prog_7_method_17_code
def yX5_isTableTaken : MethodName := ⟨RX5, "isTableTaken", "()Z"⟩
abbrev cX5_isLookupTaken : ByteArray := prog_7_method_18_code
def yX5_isLookupTaken : MethodName := ⟨RX5, "isLookupTaken", "()Z"⟩
abbrev cX5_keyOf : ByteArray := prog_7_method_19_code
def yX5_keyOf : MethodName := ⟨RX5, "keyOf", "(I)I"⟩
abbrev cX5_target : ByteArray := prog_7_method_20_code
def yX5_target : MethodName := ⟨RX5, "target", "(I)J"⟩
def RX6 : String := "ClassGate$Member"
def TX6 : u_T := fun k => match k with
  | 0 => ("ClassGate$Member", "begin", "I", true)
  | 1 => ("ClassGate$Member", "flags", "I", true)
  | 2 => ("ClassGate$Member", "name", "I", true)
  | 3 => ("ClassGate$Member", "descriptor", "I", true)
  | 4 => ("ClassGate$Member", "attributeCount", "I", true)
  | 5 => ("ClassGate$Member", "attributesAt", "I", true)
  | 6 => ("ClassGate$Member", "known", "I", false)
  | 7 => ("ClassGate$Member", "constant", "I", false)
  | 8 => ("ClassGate$Member", "argumentPlaces", "I", false)
  | 9 => ("ClassGate$Member", "exceptionCount", "I", false)
  | _ => ("ClassGate$Member", "code", "LClassGate$Code;", false)
def tyX6 : Nat → FieldType := fun k => match k with
  | 0 => .int
  | 1 => .int
  | 2 => .int
  | 3 => .int
  | 4 => .int
  | 5 => .int
  | 6 => .int
  | 7 => .int
  | 8 => .int
  | 9 => .int
  | _ => .object "ClassGate$Code"
abbrev wsX60 : List Cond := u_ws RX6 TX6 11
theorem nmX6 : ∀ a, a < 11 → ∀ b, b < 11 → a ≠ b → (TX6 a).2.1 ≠ (TX6 b).2.1 := by decide +kernel
theorem tyX6_ok : ∀ k, k < 11 → parseFieldDescriptor (TX6 k).2.2.1 = some (tyX6 k) := by decide +kernel
abbrev cX6_init : ByteArray := prog_8_method_1_code
def yX6_init : MethodName := ⟨RX6, "<init>", "(LClassGate$Bytes;I)V"⟩
abbrev cX6_has : ByteArray := prog_8_method_2_code
def yX6_has : MethodName := ⟨RX6, "has", "(I)Z"⟩
abbrev cX6_number : ByteArray := prog_8_method_3_code
def yX6_number : MethodName := ⟨RX6, "number", "(ZI)I"⟩
abbrev cX6_codeNumber : ByteArray := prog_8_method_4_code
def yX6_codeNumber : MethodName := ⟨RX6, "codeNumber", "(I)I"⟩
def RX7 : String := "ClassGate$Pool"
def TX7 : u_T := fun k => match k with
  | 0 => ("ClassGate$Pool", "size", "I", true)
  | 1 => ("ClassGate$Pool", "tags", "[I", true)
  | 2 => ("ClassGate$Pool", "tagPlaces", "[I", true)
  | 3 => ("ClassGate$Pool", "firsts", "[I", true)
  | 4 => ("ClassGate$Pool", "seconds", "[I", true)
  | 5 => ("ClassGate$Pool", "shapes", "[I", true)
  | 6 => ("ClassGate$Pool", "characters", "[C", true)
  | _ => ("ClassGate$Pool", "characterCount", "I", false)
def tyX7 : Nat → FieldType := fun k => match k with
  | 0 => .int
  | 1 => .array .int
  | 2 => .array .int
  | 3 => .array .int
  | 4 => .array .int
  | 5 => .array .int
  | 6 => .array .char
  | _ => .int
abbrev wsX70 : List Cond := u_ws RX7 TX7 8
theorem nmX7 : ∀ a, a < 8 → ∀ b, b < 8 → a ≠ b → (TX7 a).2.1 ≠ (TX7 b).2.1 := by decide +kernel
theorem tyX7_ok : ∀ k, k < 8 → parseFieldDescriptor (TX7 k).2.2.1 = some (tyX7 k) := by decide +kernel
abbrev cX7_init : ByteArray := prog_9_method_1_code
def yX7_init : MethodName := ⟨RX7, "<init>", "(II)V"⟩
abbrev cX7_setTag : ByteArray := prog_9_method_2_code
def yX7_setTag : MethodName := ⟨RX7, "setTag", "(III)V"⟩
abbrev cX7_setNumbers : ByteArray := prog_9_method_3_code
def yX7_setNumbers : MethodName := ⟨RX7, "setNumbers", "(III)V"⟩
abbrev cX7_addCharacter : ByteArray := prog_9_method_4_code
def yX7_addCharacter : MethodName := ⟨RX7, "addCharacter", "(I)V"⟩
abbrev cX7_tagOf : ByteArray := prog_9_method_5_code
def yX7_tagOf : MethodName := ⟨RX7, "tagOf", "(I)I"⟩
abbrev cX7_tagPlace : ByteArray := prog_9_method_6_code
def yX7_tagPlace : MethodName := ⟨RX7, "tagPlace", "(I)I"⟩
abbrev cX7_firstIndex : ByteArray := prog_9_method_7_code
def yX7_firstIndex : MethodName := ⟨RX7, "firstIndex", "(I)I"⟩
abbrev cX7_secondIndex : ByteArray := prog_9_method_8_code
def yX7_secondIndex : MethodName := ⟨RX7, "secondIndex", "(I)I"⟩
abbrev cX7_isWide : ByteArray := prog_9_method_9_code
def yX7_isWide : MethodName := ⟨RX7, "isWide", "(I)Z"⟩
abbrev cX7_textLength : ByteArray := prog_9_method_10_code
def yX7_textLength : MethodName := ⟨RX7, "textLength", "(I)I"⟩
abbrev cX7_characterAt : ByteArray := prog_9_method_11_code
def yX7_characterAt : MethodName := ⟨RX7, "characterAt", "(II)I"⟩
abbrev cX7_textIs : ByteArray := prog_9_method_12_code
def yX7_textIs : MethodName := ⟨RX7, "textIs", "(ILjava/lang/String;)Z"⟩
abbrev cX7_sameText : ByteArray := prog_9_method_13_code
def yX7_sameText : MethodName := ⟨RX7, "sameText", "(II)Z"⟩
abbrev cX7_sameMember : ByteArray := prog_9_method_14_code
def yX7_sameMember : MethodName := ⟨RX7, "sameMember", "([LClassGate$Member;III)I"⟩
abbrev cX7_hasAngle : ByteArray := prog_9_method_15_code
def yX7_hasAngle : MethodName := ⟨RX7, "hasAngle", "(I)Z"⟩
abbrev cX7_isUnqualifiedName : ByteArray := prog_9_method_16_code
def yX7_isUnqualifiedName : MethodName := ⟨RX7, "isUnqualifiedName", "(I)Z"⟩
abbrev cX7_isClassText : ByteArray := prog_9_method_17_code
def yX7_isClassText : MethodName := ⟨RX7, "isClassText", "(I)Z"⟩
abbrev cX7_isFieldDescriptor : ByteArray := prog_9_method_18_code
def yX7_isFieldDescriptor : MethodName := ⟨RX7, "isFieldDescriptor", "(I)Z"⟩
abbrev cX7_isMethodDescriptor : ByteArray := prog_9_method_19_code
def yX7_isMethodDescriptor : MethodName := ⟨RX7, "isMethodDescriptor", "(I)Z"⟩
abbrev cX7_placesTold : ByteArray := prog_9_method_20_code
def yX7_placesTold : MethodName := ⟨RX7, "placesTold", "(I)I"⟩
abbrev cX7_argumentPlaces : ByteArray := prog_9_method_21_code
def yX7_argumentPlaces : MethodName := ⟨RX7, "argumentPlaces", "(I)I"⟩
abbrev cX7_hasNoResult : ByteArray := prog_9_method_22_code
def yX7_hasNoResult : MethodName := ⟨RX7, "hasNoResult", "(I)Z"⟩
abbrev cX7_isPlainClass : ByteArray := prog_9_method_23_code
def yX7_isPlainClass : MethodName := ⟨RX7, "isPlainClass", "(I)Z"⟩
abbrev cX7_dimensionsOf : ByteArray := prog_9_method_24_code
def yX7_dimensionsOf : MethodName := ⟨RX7, "dimensionsOf", "(I)I"⟩
abbrev cX7_nameOf : ByteArray := prog_9_method_25_code
def yX7_nameOf : MethodName := ⟨RX7, "nameOf", "(I)I"⟩
abbrev cX7_descriptorOf : ByteArray := prog_9_method_26_code
def yX7_descriptorOf : MethodName := ⟨RX7, "descriptorOf", "(I)I"⟩
abbrev cX7_namesInit : ByteArray := prog_9_method_27_code
def yX7_namesInit : MethodName := ⟨RX7, "namesInit", "(I)Z"⟩
abbrev cX7_describeTexts : ByteArray := prog_9_method_28_code
def yX7_describeTexts : MethodName := ⟨RX7, "describeTexts", "()V"⟩
abbrev cX7_shapeOf : ByteArray := prog_9_method_29_code
def yX7_shapeOf : MethodName := ⟨RX7, "shapeOf", "(II)I"⟩
abbrev cX7_methodShape : ByteArray := prog_9_method_30_code
def yX7_methodShape : MethodName := ⟨RX7, "methodShape", "(II)I"⟩
abbrev cX7_placesOfType : ByteArray := prog_9_method_31_code
def yX7_placesOfType : MethodName := ⟨RX7, "placesOfType", "(C)I"⟩
abbrev cX7_typeEnd : ByteArray := prog_9_method_32_code
def yX7_typeEnd : MethodName := ⟨RX7, "typeEnd", "(II)I"⟩
abbrev cX7_nameEnd : ByteArray := prog_9_method_33_code
def yX7_nameEnd : MethodName := ⟨RX7, "nameEnd", "(II)I"⟩
def RX8 : String := "ClassGate$PoolCheck"
def TX8 : u_T := fun k => match k with
  | 0 => ("ClassGate$PoolCheck", "pool", "LClassGate$Pool;", true)
  | 1 => ("ClassGate$PoolCheck", "major", "I", true)
  | _ => ("ClassGate$PoolCheck", "verdict", "LClassGate$Verdict;", true)
def tyX8 : Nat → FieldType := fun k => match k with
  | 0 => .object "ClassGate$Pool"
  | 1 => .int
  | _ => .object "ClassGate$Verdict"
abbrev wsX80 : List Cond := u_ws RX8 TX8 3
theorem nmX8 : ∀ a, a < 3 → ∀ b, b < 3 → a ≠ b → (TX8 a).2.1 ≠ (TX8 b).2.1 := by decide +kernel
theorem tyX8_ok : ∀ k, k < 3 → parseFieldDescriptor (TX8 k).2.2.1 = some (tyX8 k) := by decide +kernel
abbrev cX8_init : ByteArray := prog_10_method_1_code
def yX8_init : MethodName := ⟨RX8, "<init>", "(LClassGate$ClassFile;LClassGate$Verdict;)V"⟩
abbrev cX8_entriesHold : ByteArray := prog_10_method_2_code
def yX8_entriesHold : MethodName := ⟨RX8, "entriesHold", "()Z"⟩
abbrev cX8_bootstrapsHold : ByteArray := prog_10_method_3_code
def yX8_bootstrapsHold : MethodName := ⟨RX8, "bootstrapsHold", "(I)Z"⟩
abbrev cX8_linksHold : ByteArray := prog_10_method_4_code
def yX8_linksHold : MethodName := ⟨RX8, "linksHold", "(I)Z"⟩
abbrev cX8_isMember : ByteArray := prog_10_method_5_code
def yX8_isMember : MethodName := ⟨RX8, "isMember", "(I)Z"⟩
abbrev cX8_memberHolds : ByteArray := prog_10_method_6_code
def yX8_memberHolds : MethodName := ⟨RX8, "memberHolds", "(I)Z"⟩
abbrev cX8_pairHolds : ByteArray := prog_10_method_7_code
def yX8_pairHolds : MethodName := ⟨RX8, "pairHolds", "(I)Z"⟩
abbrev cX8_brokenRule : ByteArray := prog_10_method_8_code
def yX8_brokenRule : MethodName := ⟨RX8, "brokenRule", "(I)I"⟩
abbrev cX8_isNameWithType : ByteArray := prog_10_method_9_code
def yX8_isNameWithType : MethodName := ⟨RX8, "isNameWithType", "(I)Z"⟩
abbrev cX8_isMethodRef : ByteArray := prog_10_method_10_code
def yX8_isMethodRef : MethodName := ⟨RX8, "isMethodRef", "(I)Z"⟩
abbrev cX8_isHandle : ByteArray := prog_10_method_11_code
def yX8_isHandle : MethodName := ⟨RX8, "isHandle", "(II)Z"⟩
def RX9 : String := "ClassGate$Reader"
def TX9 : u_T := fun k => match k with
  | 0 => ("ClassGate$Reader", "file", "LClassGate$ClassFile;", true)
  | 1 => ("ClassGate$Reader", "bytes", "LClassGate$Bytes;", true)
  | 2 => ("ClassGate$Reader", "verdict", "LClassGate$Verdict;", true)
  | 3 => ("ClassGate$Reader", "at", "I", false)
  | _ => ("ClassGate$Reader", "item", "I", false)
def tyX9 : Nat → FieldType := fun k => match k with
  | 0 => .object "ClassGate$ClassFile"
  | 1 => .object "ClassGate$Bytes"
  | 2 => .object "ClassGate$Verdict"
  | 3 => .int
  | _ => .int
abbrev wsX90 : List Cond := u_ws RX9 TX9 5
theorem nmX9 : ∀ a, a < 5 → ∀ b, b < 5 → a ≠ b → (TX9 a).2.1 ≠ (TX9 b).2.1 := by decide +kernel
theorem tyX9_ok : ∀ k, k < 5 → parseFieldDescriptor (TX9 k).2.2.1 = some (tyX9 k) := by decide +kernel
abbrev cX9_init : ByteArray := prog_11_method_1_code
def yX9_init : MethodName := ⟨RX9, "<init>", "(LClassGate$ClassFile;LClassGate$Verdict;)V"⟩
abbrev cX9_takes : ByteArray := prog_11_method_2_code
def yX9_takes : MethodName := ⟨RX9, "takes", "(I)Z"⟩
abbrev cX9_takesHead : ByteArray := prog_11_method_3_code
def yX9_takesHead : MethodName := ⟨RX9, "takesHead", "()Z"⟩
abbrev cX9_takesPool : ByteArray := prog_11_method_4_code
def yX9_takesPool : MethodName := ⟨RX9, "takesPool", "()Z"⟩
abbrev cX9_takesEntry : ByteArray := prog_11_method_5_code
def yX9_takesEntry : MethodName := ⟨RX9, "takesEntry", "(I)Z"⟩
abbrev cX9_isTag : ByteArray := prog_11_method_6_code
def yX9_isTag : MethodName := ⟨RX9, "isTag", "(I)Z"⟩
abbrev cX9_takesIndexes : ByteArray := prog_11_method_7_code
def yX9_takesIndexes : MethodName := ⟨RX9, "takesIndexes", "(II)Z"⟩
abbrev cX9_takesText : ByteArray := prog_11_method_8_code
def yX9_takesText : MethodName := ⟨RX9, "takesText", "(I)Z"⟩
abbrev cX9_characterSize : ByteArray := prog_11_method_9_code
def yX9_characterSize : MethodName := ⟨RX9, "characterSize", "(I)I"⟩
abbrev cX9_characterOf : ByteArray := prog_11_method_10_code
def yX9_characterOf : MethodName := ⟨RX9, "characterOf", "(I)I"⟩
abbrev cX9_takesClass : ByteArray := prog_11_method_11_code
def yX9_takesClass : MethodName := ⟨RX9, "takesClass", "()Z"⟩
abbrev cX9_takesFields : ByteArray := prog_11_method_12_code
def yX9_takesFields : MethodName := ⟨RX9, "takesFields", "()Z"⟩
abbrev cX9_takesMethods : ByteArray := prog_11_method_13_code
def yX9_takesMethods : MethodName := ⟨RX9, "takesMethods", "()Z"⟩
abbrev cX9_roomFor : ByteArray := prog_11_method_14_code
def yX9_roomFor : MethodName := ⟨RX9, "roomFor", "(I)I"⟩
abbrev cX9_takesMembers : ByteArray := prog_11_method_15_code
def yX9_takesMembers : MethodName := ⟨RX9, "takesMembers", "([LClassGate$Member;I)Z"⟩
abbrev cX9_takesAttributes : ByteArray := prog_11_method_16_code
def yX9_takesAttributes : MethodName := ⟨RX9, "takesAttributes", "()Z"⟩
abbrev cX9_takesEnd : ByteArray := prog_11_method_17_code
def yX9_takesEnd : MethodName := ⟨RX9, "takesEnd", "()Z"⟩
def RX10 : String := "ClassGate$Verdict"
def TX10 : u_T := fun k => match k with
  | 0 => ("ClassGate$Verdict", "rule", "I", false)
  | _ => ("ClassGate$Verdict", "wrongAt", "I", false)
def tyX10 : Nat → FieldType := fun k => match k with
  | 0 => .int
  | _ => .int
abbrev wsX100 : List Cond := u_ws RX10 TX10 2
theorem nmX10 : ∀ a, a < 2 → ∀ b, b < 2 → a ≠ b → (TX10 a).2.1 ≠ (TX10 b).2.1 := by decide +kernel
theorem tyX10_ok : ∀ k, k < 2 → parseFieldDescriptor (TX10 k).2.2.1 = some (tyX10 k) := by decide +kernel
abbrev cX10_init : ByteArray := prog_12_method_1_code
def yX10_init : MethodName := ⟨RX10, "<init>", "()V"⟩
abbrev cX10_wrong : ByteArray := prog_12_method_2_code
def yX10_wrong : MethodName := ⟨RX10, "wrong", "(II)Z"⟩
def RX11 : String := "ClassGate"
def TX11 : u_T := fun k => match k with
  | 0 => ("ClassGate", "came", "[B", false)
  | 1 => ("ClassGate", "cameCount", "I", false)
  | 2 => ("ClassGate", "file", "[B", false)
  | 3 => ("ClassGate", "kept", "LClassGate$ClassFile;", false)
  | _ => ("ClassGate", "wrongPlace", "I", false)
def tyX11 : Nat → FieldType := fun k => match k with
  | 0 => .array .byte
  | 1 => .int
  | 2 => .array .byte
  | 3 => .object "ClassGate$ClassFile"
  | _ => .int
abbrev wsX110 : List Cond := u_ws RX11 TX11 5
theorem nmX11 : ∀ a, a < 5 → ∀ b, b < 5 → a ≠ b → (TX11 a).2.1 ≠ (TX11 b).2.1 := by decide +kernel
theorem tyX11_ok : ∀ k, k < 5 → parseFieldDescriptor (TX11 k).2.2.1 = some (tyX11 k) := by decide +kernel
abbrev cX11_init : ByteArray := prog_1_method_1_code
def yX11_init : MethodName := ⟨RX11, "<init>", "()V"⟩
abbrev cX11_feed : ByteArray := prog_1_method_2_code
def yX11_feed : MethodName := ⟨RX11, "feed", "(IIIII)I"⟩
abbrev cX11_takeWord : ByteArray := prog_1_method_3_code
def yX11_takeWord : MethodName := ⟨RX11, "takeWord", "(I)V"⟩
abbrev cX11_end : ByteArray := prog_1_method_4_code
def yX11_end : MethodName := ⟨RX11, "end", "(I)I"⟩
abbrev cX11_read : ByteArray := prog_1_method_5_code
def yX11_read : MethodName := ⟨RX11, "read", "()I"⟩
abbrev cX11_isWhole : ByteArray := prog_1_method_6_code
def yX11_isWhole : MethodName := ⟨RX11, "isWhole", "(LClassGate$ClassFile;LClassGate$Verdict;)Z"⟩
abbrev cX11_holds : ByteArray := prog_1_method_7_code
def yX11_holds : MethodName := ⟨RX11, "holds", "(LClassGate$ClassFile;LClassGate$Verdict;)Z"⟩
abbrev cX11_place : ByteArray := prog_1_method_8_code
def yX11_place : MethodName := ⟨RX11, "place", "()I"⟩
abbrev cX11_count : ByteArray := prog_1_method_9_code
def yX11_count : MethodName := ⟨RX11, "count", "(I)I"⟩
abbrev cX11_entry : ByteArray := prog_1_method_10_code
def yX11_entry : MethodName := ⟨RX11, "entry", "(II)I"⟩
abbrev cX11_bits : ByteArray := prog_1_method_11_code
def yX11_bits : MethodName := ⟨RX11, "bits", "(I)J"⟩
abbrev cX11_character : ByteArray := prog_1_method_12_code
def yX11_character : MethodName := ⟨RX11, "character", "(II)I"⟩
abbrev cX11_places : ByteArray := prog_1_method_13_code
def yX11_places : MethodName := ⟨RX11, "places", "(I)I"⟩
abbrev cX11_member : ByteArray := prog_1_method_14_code
def yX11_member : MethodName := ⟨RX11, "member", "(ZII)I"⟩
abbrev cX11_find : ByteArray := prog_1_method_15_code
def yX11_find : MethodName := ⟨RX11, "find", "(ZII)I"⟩
abbrev cX11_row : ByteArray := prog_1_method_16_code
def yX11_row : MethodName := ⟨RX11, "row", "(III)I"⟩
abbrev cX11_codeOf : ByteArray := prog_1_method_17_code
def yX11_codeOf : MethodName := ⟨RX11, "codeOf", "(I)LClassGate$Code;"⟩
abbrev cX11_bootstrap : ByteArray := prog_1_method_18_code
def yX11_bootstrap : MethodName := ⟨RX11, "bootstrap", "(II)I"⟩
abbrev cX11_cut : ByteArray := prog_1_method_19_code
def yX11_cut : MethodName := ⟨RX11, "cut", "(I)I"⟩
abbrev cX11_instruction : ByteArray := prog_1_method_20_code
def yX11_instruction : MethodName := ⟨RX11, "instruction", "(III)I"⟩
abbrev cX11_jump : ByteArray := prog_1_method_21_code
def yX11_jump : MethodName := ⟨RX11, "jump", "(IIIZ)I"⟩
def RX12 : String := "ClassGateModel"
def TX12 : u_T := fun k => match k with
  | 0 => ("ClassGateModel", "thrown", "I", false)
  | 1 => ("ClassGateModel", "chars", "[C", true)
  | 2 => ("ClassGateModel", "cut", "[C", true)
  | 3 => ("ClassGateModel", "charsN", "I", false)
  | 4 => ("ClassGateModel", "symAt", "[I", true)
  | 5 => ("ClassGateModel", "symLen", "[I", true)
  | 6 => ("ClassGateModel", "symNext", "[I", true)
  | 7 => ("ClassGateModel", "symHead", "[I", true)
  | 8 => ("ClassGateModel", "syms", "I", false)
  | 9 => ("ClassGateModel", "S_INIT", "I", false)
  | 10 => ("ClassGateModel", "S_CLINIT", "I", false)
  | 11 => ("ClassGateModel", "S_OBJECT", "I", false)
  | 12 => ("ClassGateModel", "files", "[B", true)
  | 13 => ("ClassGateModel", "file", "[B", true)
  | 14 => ("ClassGateModel", "kept", "[B", true)
  | 15 => ("ClassGateModel", "came", "[B", true)
  | 16 => ("ClassGateModel", "size", "I", false)
  | 17 => ("ClassGateModel", "fileN", "I", false)
  | 18 => ("ClassGateModel", "keptN", "I", false)
  | 19 => ("ClassGateModel", "cameN", "I", false)
  | 20 => ("ClassGateModel", "pool", "I", false)
  | 21 => ("ClassGateModel", "pAt", "[I", true)
  | 22 => ("ClassGateModel", "pSym", "[I", true)
  | 23 => ("ClassGateModel", "pState", "[I", true)
  | 24 => ("ClassGateModel", "pObj", "[I", true)
  | 25 => ("ClassGateModel", "fields", "I", false)
  | 26 => ("ClassGateModel", "methods", "I", false)
  | 27 => ("ClassGateModel", "fFlags", "[I", true)
  | 28 => ("ClassGateModel", "fName", "[I", true)
  | 29 => ("ClassGateModel", "fDesc", "[I", true)
  | 30 => ("ClassGateModel", "fConst", "[I", true)
  | 31 => ("ClassGateModel", "fKnown", "[I", true)
  | 32 => ("ClassGateModel", "fNameAt", "[I", true)
  | 33 => ("ClassGateModel", "fDescAt", "[I", true)
  | 34 => ("ClassGateModel", "mFlags", "[I", true)
  | 35 => ("ClassGateModel", "mName", "[I", true)
  | 36 => ("ClassGateModel", "mDesc", "[I", true)
  | 37 => ("ClassGateModel", "mCode", "[I", true)
  | 38 => ("ClassGateModel", "mLen", "[I", true)
  | 39 => ("ClassGateModel", "mStack", "[I", true)
  | 40 => ("ClassGateModel", "mLocals", "[I", true)
  | 41 => ("ClassGateModel", "mRows", "[I", true)
  | 42 => ("ClassGateModel", "mRowN", "[I", true)
  | 43 => ("ClassGateModel", "mKnown", "[I", true)
  | 44 => ("ClassGateModel", "mThrows", "[I", true)
  | 45 => ("ClassGateModel", "mNameAt", "[I", true)
  | 46 => ("ClassGateModel", "mDescAt", "[I", true)
  | 47 => ("ClassGateModel", "rule", "I", false)
  | 48 => ("ClassGateModel", "wrongAt", "I", false)
  | 49 => ("ClassGateModel", "base", "I", false)
  | 50 => ("ClassGateModel", "pos", "I", false)
  | 51 => ("ClassGateModel", "cpBase", "I", false)
  | 52 => ("ClassGateModel", "cpN", "I", false)
  | 53 => ("ClassGateModel", "major", "I", false)
  | 54 => ("ClassGateModel", "headAt", "I", false)
  | 55 => ("ClassGateModel", "fieldsAt", "I", false)
  | 56 => ("ClassGateModel", "methodsAt", "I", false)
  | 57 => ("ClassGateModel", "attributesAt", "I", false)
  | 58 => ("ClassGateModel", "newFlags", "I", false)
  | 59 => ("ClassGateModel", "newName", "I", false)
  | 60 => ("ClassGateModel", "newSuper", "I", false)
  | 61 => ("ClassGateModel", "newIfs", "I", false)
  | 62 => ("ClassGateModel", "KNOWN", "[Ljava/lang/String;", true)
  | 63 => ("ClassGateModel", "KNOWN_IN", "[I", true)
  | 64 => ("ClassGateModel", "KNOWN_FROM", "[I", true)
  | 65 => ("ClassGateModel", "newInners", "I", false)
  | 66 => ("ClassGateModel", "newKnown", "I", false)
  | 67 => ("ClassGateModel", "newHost", "I", false)
  | 68 => ("ClassGateModel", "newMembers", "I", false)
  | 69 => ("ClassGateModel", "newPermitted", "I", false)
  | 70 => ("ClassGateModel", "newBoot", "I", false)
  | 71 => ("ClassGateModel", "newBootN", "I", false)
  | 72 => ("ClassGateModel", "newRecord", "I", false)
  | 73 => ("ClassGateModel", "lastPlace", "I", false)
  | 74 => ("ClassGateModel", "cutOf", "I", false)
  | 75 => ("ClassGateModel", "many", "I", false)
  | 76 => ("ClassGateModel", "wrongCode", "I", false)
  | 77 => ("ClassGateModel", "codeAt", "I", false)
  | 78 => ("ClassGateModel", "codeLen", "I", false)
  | 79 => ("ClassGateModel", "maxL", "I", false)
  | 80 => ("ClassGateModel", "begins", "[I", true)
  | _ => ("ClassGateModel", "which", "[I", true)
def tyX12 : Nat → FieldType := fun k => match k with
  | 0 => .int
  | 1 => .array .char
  | 2 => .array .char
  | 3 => .int
  | 4 => .array .int
  | 5 => .array .int
  | 6 => .array .int
  | 7 => .array .int
  | 8 => .int
  | 9 => .int
  | 10 => .int
  | 11 => .int
  | 12 => .array .byte
  | 13 => .array .byte
  | 14 => .array .byte
  | 15 => .array .byte
  | 16 => .int
  | 17 => .int
  | 18 => .int
  | 19 => .int
  | 20 => .int
  | 21 => .array .int
  | 22 => .array .int
  | 23 => .array .int
  | 24 => .array .int
  | 25 => .int
  | 26 => .int
  | 27 => .array .int
  | 28 => .array .int
  | 29 => .array .int
  | 30 => .array .int
  | 31 => .array .int
  | 32 => .array .int
  | 33 => .array .int
  | 34 => .array .int
  | 35 => .array .int
  | 36 => .array .int
  | 37 => .array .int
  | 38 => .array .int
  | 39 => .array .int
  | 40 => .array .int
  | 41 => .array .int
  | 42 => .array .int
  | 43 => .array .int
  | 44 => .array .int
  | 45 => .array .int
  | 46 => .array .int
  | 47 => .int
  | 48 => .int
  | 49 => .int
  | 50 => .int
  | 51 => .int
  | 52 => .int
  | 53 => .int
  | 54 => .int
  | 55 => .int
  | 56 => .int
  | 57 => .int
  | 58 => .int
  | 59 => .int
  | 60 => .int
  | 61 => .int
  | 62 => .array (.object "java/lang/String")
  | 63 => .array .int
  | 64 => .array .int
  | 65 => .int
  | 66 => .int
  | 67 => .int
  | 68 => .int
  | 69 => .int
  | 70 => .int
  | 71 => .int
  | 72 => .int
  | 73 => .int
  | 74 => .int
  | 75 => .int
  | 76 => .int
  | 77 => .int
  | 78 => .int
  | 79 => .int
  | 80 => .array .int
  | _ => .array .int
abbrev wsX120 : List Cond := u_ws RX12 TX12 82
theorem nmX12 : ∀ a, a < 82 → ∀ b, b < 82 → a ≠ b → (TX12 a).2.1 ≠ (TX12 b).2.1 := by decide +kernel
theorem tyX12_ok : ∀ k, k < 82 → parseFieldDescriptor (TX12 k).2.2.1 = some (tyX12 k) := by decide +kernel
abbrev cX12_init : ByteArray := prog_14_method_2_code
def yX12_init : MethodName := ⟨RX12, "<init>", "()V"⟩
abbrev cX12_clear : ByteArray := prog_14_method_3_code
def yX12_clear : MethodName := ⟨RX12, "clear", "()V"⟩
abbrev cX12_symbol : ByteArray := prog_14_method_4_code
def yX12_symbol : MethodName := ⟨RX12, "symbol", "(Ljava/lang/String;)I"⟩
abbrev cX12_symbol_ : ByteArray := prog_14_method_5_code
def yX12_symbol_ : MethodName := ⟨RX12, "symbol", "(I)I"⟩
abbrev cX12_length : ByteArray := prog_14_method_6_code
def yX12_length : MethodName := ⟨RX12, "length", "(I)I"⟩
abbrev cX12_at : ByteArray := prog_14_method_7_code
def yX12_at : MethodName := ⟨RX12, "at", "(II)C"⟩
abbrev cX12_is : ByteArray := prog_14_method_8_code
def yX12_is : MethodName := ⟨RX12, "is", "(ILjava/lang/String;)Z"⟩
abbrev cX12_u1 : ByteArray := prog_14_method_9_code
def yX12_u1 : MethodName := ⟨RX12, "u1", "(I)I"⟩
abbrev cX12_u2 : ByteArray := prog_14_method_10_code
def yX12_u2 : MethodName := ⟨RX12, "u2", "(I)I"⟩
abbrev cX12_u4 : ByteArray := prog_14_method_11_code
def yX12_u4 : MethodName := ⟨RX12, "u4", "(I)J"⟩
abbrev cX12_wrong : ByteArray := prog_14_method_12_code
def yX12_wrong : MethodName := ⟨RX12, "wrong", "(II)Z"⟩
abbrev cX12_item : ByteArray := prog_14_method_13_code
def yX12_item : MethodName := ⟨RX12, "item", "(J)Z"⟩
abbrev cX12_tag : ByteArray := prog_14_method_14_code
def yX12_tag : MethodName := ⟨RX12, "tag", "(I)I"⟩
abbrev cX12_index : ByteArray := prog_14_method_15_code
def yX12_index : MethodName := ⟨RX12, "index", "(II)I"⟩
abbrev cX12_symOf : ByteArray := prog_14_method_16_code
def yX12_symOf : MethodName := ⟨RX12, "symOf", "(I)I"⟩
abbrev cX12_readFile : ByteArray := prog_14_method_17_code
def yX12_readFile : MethodName := ⟨RX12, "readFile", "()Z"⟩
abbrev cX12_members : ByteArray := prog_14_method_18_code
def yX12_members : MethodName := ⟨RX12, "members", "()Z"⟩
abbrev cX12_attributes : ByteArray := prog_14_method_19_code
def yX12_attributes : MethodName := ⟨RX12, "attributes", "()Z"⟩
abbrev cX12_readPool : ByteArray := prog_14_method_20_code
def yX12_readPool : MethodName := ⟨RX12, "readPool", "()Z"⟩
abbrev cX12_utf8 : ByteArray := prog_14_method_21_code
def yX12_utf8 : MethodName := ⟨RX12, "utf8", "(III)Z"⟩
abbrev cX12_unqualified : ByteArray := prog_14_method_22_code
def yX12_unqualified : MethodName := ⟨RX12, "unqualified", "(IZ)Z"⟩
abbrev cX12_classText : ByteArray := prog_14_method_23_code
def yX12_classText : MethodName := ⟨RX12, "classText", "(I)Z"⟩
abbrev cX12_nameText : ByteArray := prog_14_method_24_code
def yX12_nameText : MethodName := ⟨RX12, "nameText", "(III)Z"⟩
abbrev cX12_fieldText : ByteArray := prog_14_method_25_code
def yX12_fieldText : MethodName := ⟨RX12, "fieldText", "(II)I"⟩
abbrev cX12_isField : ByteArray := prog_14_method_26_code
def yX12_isField : MethodName := ⟨RX12, "isField", "(I)Z"⟩
abbrev cX12_isMethod : ByteArray := prog_14_method_27_code
def yX12_isMethod : MethodName := ⟨RX12, "isMethod", "(I)Z"⟩
abbrev cX12_places0 : ByteArray := prog_14_method_28_code
def yX12_places0 : MethodName := ⟨RX12, "places0", "(I)I"⟩
abbrev cX12_endsV : ByteArray := prog_14_method_29_code
def yX12_endsV : MethodName := ⟨RX12, "endsV", "(I)Z"⟩
abbrev cX12_checkPool : ByteArray := prog_14_method_30_code
def yX12_checkPool : MethodName := ⟨RX12, "checkPool", "()Z"⟩
abbrev cX12_angles : ByteArray := prog_14_method_31_code
def yX12_angles : MethodName := ⟨RX12, "angles", "(I)Z"⟩
abbrev cX12_indexes : ByteArray := prog_14_method_32_code
def yX12_indexes : MethodName := ⟨RX12, "indexes", "(IIZ)Z"⟩
abbrev cX12_handleEntry : ByteArray := prog_14_method_33_code
def yX12_handleEntry : MethodName := ⟨RX12, "handleEntry", "(I)Z"⟩
abbrev cX12_className : ByteArray := prog_14_method_34_code
def yX12_className : MethodName := ⟨RX12, "className", "(I)I"⟩
abbrev cX12_plainClass : ByteArray := prog_14_method_35_code
def yX12_plainClass : MethodName := ⟨RX12, "plainClass", "(I)Z"⟩
abbrev cX12_checkClass : ByteArray := prog_14_method_36_code
def yX12_checkClass : MethodName := ⟨RX12, "checkClass", "()Z"⟩
abbrev cX12_several : ByteArray := prog_14_method_37_code
def yX12_several : MethodName := ⟨RX12, "several", "(IIII)Z"⟩
abbrev cX12_checkFields : ByteArray := prog_14_method_38_code
def yX12_checkFields : MethodName := ⟨RX12, "checkFields", "()Z"⟩
abbrev cX12_checkMethods : ByteArray := prog_14_method_39_code
def yX12_checkMethods : MethodName := ⟨RX12, "checkMethods", "()Z"⟩
abbrev cX12_flagsFit : ByteArray := prog_14_method_40_code
def yX12_flagsFit : MethodName := ⟨RX12, "flagsFit", "(IZZ)Z"⟩
abbrev cX12_checkAttributes : ByteArray := prog_14_method_41_code
def yX12_checkAttributes : MethodName := ⟨RX12, "checkAttributes", "(III)I"⟩
abbrev cX12_attribute : ByteArray := prog_14_method_42_code
def yX12_attribute : MethodName := ⟨RX12, "attribute", "(IIIIII)I"⟩
abbrev cX12_bootstraps : ByteArray := prog_14_method_43_code
def yX12_bootstraps : MethodName := ⟨RX12, "bootstraps", "(II)I"⟩
abbrev cX12_components : ByteArray := prog_14_method_44_code
def yX12_components : MethodName := ⟨RX12, "components", "(II)I"⟩
abbrev cX12_code : ByteArray := prog_14_method_45_code
def yX12_code : MethodName := ⟨RX12, "code", "(IIII)I"⟩
abbrev cX12_checkFile : ByteArray := prog_14_method_46_code
def yX12_checkFile : MethodName := ⟨RX12, "checkFile", "()Z"⟩
abbrev cX12_feed : ByteArray := prog_14_method_47_code
def yX12_feed : MethodName := ⟨RX12, "feed", "(IIIII)I"⟩
abbrev cX12_four : ByteArray := prog_14_method_48_code
def yX12_four : MethodName := ⟨RX12, "four", "(I)V"⟩
abbrev cX12_bad : ByteArray := prog_14_method_49_code
def yX12_bad : MethodName := ⟨RX12, "bad", "()I"⟩
abbrev cX12_end : ByteArray := prog_14_method_50_code
def yX12_end : MethodName := ⟨RX12, "end", "(I)I"⟩
abbrev cX12_read : ByteArray := prog_14_method_51_code
def yX12_read : MethodName := ⟨RX12, "read", "()I"⟩
abbrev cX12_parse : ByteArray := prog_14_method_52_code
def yX12_parse : MethodName := ⟨RX12, "parse", "([BI)Z"⟩
abbrev cX12_place : ByteArray := prog_14_method_53_code
def yX12_place : MethodName := ⟨RX12, "place", "()I"⟩
abbrev cX12_count : ByteArray := prog_14_method_54_code
def yX12_count : MethodName := ⟨RX12, "count", "(I)I"⟩
abbrev cX12_entry : ByteArray := prog_14_method_55_code
def yX12_entry : MethodName := ⟨RX12, "entry", "(II)I"⟩
abbrev cX12_bits : ByteArray := prog_14_method_56_code
def yX12_bits : MethodName := ⟨RX12, "bits", "(I)J"⟩
abbrev cX12_character : ByteArray := prog_14_method_57_code
def yX12_character : MethodName := ⟨RX12, "character", "(II)I"⟩
abbrev cX12_member : ByteArray := prog_14_method_58_code
def yX12_member : MethodName := ⟨RX12, "member", "(ZII)I"⟩
abbrev cX12_find : ByteArray := prog_14_method_59_code
def yX12_find : MethodName := ⟨RX12, "find", "(ZII)I"⟩
abbrev cX12_row : ByteArray := prog_14_method_60_code
def yX12_row : MethodName := ⟨RX12, "row", "(III)I"⟩
abbrev cX12_bootstrap : ByteArray := prog_14_method_61_code
def yX12_bootstrap : MethodName := ⟨RX12, "bootstrap", "(II)I"⟩
abbrev cX12_places : ByteArray := prog_14_method_62_code
def yX12_places : MethodName := ⟨RX12, "places", "(I)I"⟩
abbrev cX12_wide : ByteArray := prog_14_method_63_code
def yX12_wide : MethodName := ⟨RX12, "wide", "(II)Z"⟩
abbrev cX12_b1 : ByteArray := prog_14_method_64_code
def yX12_b1 : MethodName := ⟨RX12, "b1", "(I)I"⟩
abbrev cX12_b2 : ByteArray := prog_14_method_65_code
def yX12_b2 : MethodName := ⟨RX12, "b2", "(I)I"⟩
abbrev cX12_s2 : ByteArray := prog_14_method_66_code
def yX12_s2 : MethodName := ⟨RX12, "s2", "(I)I"⟩
abbrev cX12_b4 : ByteArray := prog_14_method_67_code
def yX12_b4 : MethodName := ⟨RX12, "b4", "(I)I"⟩
abbrev cX12_pad : ByteArray := prog_14_method_68_code
def yX12_pad : MethodName := ⟨RX12, "pad", "(I)I"⟩
abbrev cX12_noCode : ByteArray := prog_14_method_69_code
def yX12_noCode : MethodName := ⟨RX12, "noCode", "(I)Z"⟩
abbrev cX12_cuts : ByteArray := prog_14_method_70_code
def yX12_cuts : MethodName := ⟨RX12, "cuts", "(I)Z"⟩
abbrev cX12_formed : ByteArray := prog_14_method_71_code
def yX12_formed : MethodName := ⟨RX12, "formed", "(II)I"⟩
abbrev cX12_local : ByteArray := prog_14_method_72_code
def yX12_local : MethodName := ⟨RX12, "local", "(II)Z"⟩
abbrev cX12_nameOf : ByteArray := prog_14_method_73_code
def yX12_nameOf : MethodName := ⟨RX12, "nameOf", "(I)I"⟩
abbrev cX12_descOf : ByteArray := prog_14_method_74_code
def yX12_descOf : MethodName := ⟨RX12, "descOf", "(I)I"⟩
abbrev cX12_operands : ByteArray := prog_14_method_75_code
def yX12_operands : MethodName := ⟨RX12, "operands", "(II)Z"⟩
abbrev cX12_starts : ByteArray := prog_14_method_76_code
def yX12_starts : MethodName := ⟨RX12, "starts", "(J)Z"⟩
abbrev cX12_aims : ByteArray := prog_14_method_77_code
def yX12_aims : MethodName := ⟨RX12, "aims", "(I)Z"⟩
abbrev cX12_ways : ByteArray := prog_14_method_78_code
def yX12_ways : MethodName := ⟨RX12, "ways", "(I)I"⟩
abbrev cX12_wayAt : ByteArray := prog_14_method_79_code
def yX12_wayAt : MethodName := ⟨RX12, "wayAt", "(II)I"⟩
abbrev cX12_cut : ByteArray := prog_14_method_80_code
def yX12_cut : MethodName := ⟨RX12, "cut", "(I)I"⟩
abbrev cX12_instruction : ByteArray := prog_14_method_81_code
def yX12_instruction : MethodName := ⟨RX12, "instruction", "(III)I"⟩
abbrev cX12_plain : ByteArray := prog_14_method_82_code
def yX12_plain : MethodName := ⟨RX12, "plain", "(II)I"⟩
abbrev cX12_first : ByteArray := prog_14_method_83_code
def yX12_first : MethodName := ⟨RX12, "first", "(II)I"⟩
abbrev cX12_second : ByteArray := prog_14_method_84_code
def yX12_second : MethodName := ⟨RX12, "second", "(II)I"⟩
abbrev cX12_jump : ByteArray := prog_14_method_85_code
def yX12_jump : MethodName := ⟨RX12, "jump", "(IIIZ)I"⟩
def RJx8e188 : String := "java/lang/Cloneable"
def TJx8e188 : u_T := fun k => match k with
  | _ => ("", "", "", false)
def tyJx8e188 : Nat → FieldType := fun k => match k with
  | _ => .int
abbrev wsJx8e1880 : List Cond := u_ws RJx8e188 TJx8e188 0
theorem nmJx8e188 : ∀ a, a < 0 → ∀ b, b < 0 → a ≠ b → (TJx8e188 a).2.1 ≠ (TJx8e188 b).2.1 := by decide +kernel
theorem tyJx8e188_ok : ∀ k, k < 0 → parseFieldDescriptor (TJx8e188 k).2.2.1 = some (tyJx8e188 k) := by decide +kernel
def RJ6 : String := "java/lang/Integer"
def TJ6 : u_T := fun k => match k with
  | _ => ("", "", "", false)
def tyJ6 : Nat → FieldType := fun k => match k with
  | _ => .int
abbrev wsJ60 : List Cond := u_ws RJ6 TJ6 0
theorem nmJ6 : ∀ a, a < 0 → ∀ b, b < 0 → a ≠ b → (TJ6 a).2.1 ≠ (TJ6 b).2.1 := by decide +kernel
theorem tyJ6_ok : ∀ k, k < 0 → parseFieldDescriptor (TJ6 k).2.2.1 = some (tyJ6 k) := by decide +kernel
abbrev cJ6_bitCount_0f7a4 : ByteArray := prog_19_method_49_code
def yJ6_bitCount_0f7a4 : MethodName := ⟨RJ6, "bitCount", "(I)I"⟩
def RJ9 : String := "java/lang/Math"
def TJ9 : u_T := fun k => match k with
  | _ => ("", "", "", false)
def tyJ9 : Nat → FieldType := fun k => match k with
  | _ => .int
abbrev wsJ90 : List Cond := u_ws RJ9 TJ9 0
theorem nmJ9 : ∀ a, a < 0 → ∀ b, b < 0 → a ≠ b → (TJ9 a).2.1 ≠ (TJ9 b).2.1 := by decide +kernel
theorem tyJ9_ok : ∀ k, k < 0 → parseFieldDescriptor (TJ9 k).2.2.1 = some (tyJ9 k) := by decide +kernel
abbrev cJ9_max_7cf53 : ByteArray := prog_20_method_65_code
def yJ9_max_7cf53 : MethodName := ⟨RJ9, "max", "(II)I"⟩
abbrev cJ9_min_7cf53 : ByteArray := prog_20_method_69_code
def yJ9_min_7cf53 : MethodName := ⟨RJ9, "min", "(II)I"⟩
def RJ0 : String := "java/lang/String"
def TJ0 : u_T := fun k => match k with
  | _ => ("", "", "", false)
def tyJ0 : Nat → FieldType := fun k => match k with
  | _ => .int
abbrev wsJ00 : List Cond := u_ws RJ0 TJ0 0
theorem nmJ0 : ∀ a, a < 0 → ∀ b, b < 0 → a ≠ b → (TJ0 a).2.1 ≠ (TJ0 b).2.1 := by decide +kernel
theorem tyJ0_ok : ∀ k, k < 0 → parseFieldDescriptor (TJ0 k).2.2.1 = some (tyJ0 k) := by decide +kernel
abbrev cJ0_length_8abf5 : ByteArray := prog_22_method_54_code
def yJ0_length_8abf5 : MethodName := ⟨RJ0, "length", "()I"⟩
abbrev cJ0_charAt_5068e : ByteArray := prog_22_method_56_code
def yJ0_charAt_5068e : MethodName := ⟨RJ0, "charAt", "(I)C"⟩
abbrev cJ0_coder_7d493 : ByteArray := prog_22_method_152_code
def yJ0_coder_7d493 : MethodName := ⟨RJ0, "coder", "()B"⟩
abbrev cJ0_isLatin1_aae02 : ByteArray := prog_22_method_154_code
def yJ0_isLatin1_aae02 : MethodName := ⟨RJ0, "isLatin1", "()Z"⟩
abbrev cJ0_checkIndex_df160 : ByteArray := prog_22_method_155_code
def yJ0_checkIndex_df160 : MethodName := ⟨RJ0, "checkIndex", "(II)V"⟩
def RJ1 : String := "java/lang/StringLatin1"
def TJ1 : u_T := fun k => match k with
  | _ => ("", "", "", false)
def tyJ1 : Nat → FieldType := fun k => match k with
  | _ => .int
abbrev wsJ10 : List Cond := u_ws RJ1 TJ1 0
theorem nmJ1 : ∀ a, a < 0 → ∀ b, b < 0 → a ≠ b → (TJ1 a).2.1 ≠ (TJ1 b).2.1 := by decide +kernel
theorem tyJ1_ok : ∀ k, k < 0 → parseFieldDescriptor (TJ1 k).2.2.1 = some (tyJ1 k) := by decide +kernel
abbrev cJ1_charAt_3b067 : ByteArray := prog_23_method_2_code
def yJ1_charAt_3b067 : MethodName := ⟨RJ1, "charAt", "([BI)C"⟩
def RJ2 : String := "java/lang/StringUTF16"
def TJ2 : u_T := fun k => match k with
  | _ => ("", "", "", false)
def tyJ2 : Nat → FieldType := fun k => match k with
  | _ => .int
abbrev wsJ20 : List Cond := u_ws RJ2 TJ2 0
theorem nmJ2 : ∀ a, a < 0 → ∀ b, b < 0 → a ≠ b → (TJ2 a).2.1 ≠ (TJ2 b).2.1 := by decide +kernel
theorem tyJ2_ok : ∀ k, k < 0 → parseFieldDescriptor (TJ2 k).2.2.1 = some (tyJ2 k) := by decide +kernel
abbrev cJ2_getChar_3b067 : ByteArray := prog_24_method_5_code
def yJ2_getChar_3b067 : MethodName := ⟨RJ2, "getChar", "([BI)C"⟩
abbrev cJ2_length_9d52b : ByteArray := prog_24_method_6_code
def yJ2_length_9d52b : MethodName := ⟨RJ2, "length", "([B)I"⟩
abbrev cJ2_charAt_3b067 : ByteArray := prog_24_method_83_code
def yJ2_charAt_3b067 : MethodName := ⟨RJ2, "charAt", "([BI)C"⟩
abbrev cJ2_checkIndex_2214a : ByteArray := prog_24_method_91_code
def yJ2_checkIndex_2214a : MethodName := ⟨RJ2, "checkIndex", "(I[B)V"⟩
def RJ10 : String := "java/lang/System"
def TJ10 : u_T := fun k => match k with
  | _ => ("", "", "", false)
def tyJ10 : Nat → FieldType := fun k => match k with
  | _ => .int
abbrev wsJ100 : List Cond := u_ws RJ10 TJ10 0
theorem nmJ10 : ∀ a, a < 0 → ∀ b, b < 0 → a ≠ b → (TJ10 a).2.1 ≠ (TJ10 b).2.1 := by decide +kernel
theorem tyJ10_ok : ∀ k, k < 0 → parseFieldDescriptor (TJ10 k).2.2.1 = some (tyJ10 k) := by decide +kernel
def RJ7 : String := "java/util/Arrays"
def TJ7 : u_T := fun k => match k with
  | _ => ("", "", "", false)
def tyJ7 : Nat → FieldType := fun k => match k with
  | _ => .int
abbrev wsJ70 : List Cond := u_ws RJ7 TJ7 0
theorem nmJ7 : ∀ a, a < 0 → ∀ b, b < 0 → a ≠ b → (TJ7 a).2.1 ≠ (TJ7 b).2.1 := by decide +kernel
theorem tyJ7_ok : ∀ k, k < 0 → parseFieldDescriptor (TJ7 k).2.2.1 = some (tyJ7 k) := by decide +kernel
abbrev cJ7_copyOf_9075b : ByteArray := prog_27_method_121_code
def yJ7_copyOf_9075b : MethodName := ⟨RJ7, "copyOf", "([BI)[B"⟩
def RJ3 : String := "jdk/internal/util/Preconditions"
def TJ3 : u_T := fun k => match k with
  | _ => ("", "", "", false)
def tyJ3 : Nat → FieldType := fun k => match k with
  | _ => .int
abbrev wsJ30 : List Cond := u_ws RJ3 TJ3 0
theorem nmJ3 : ∀ a, a < 0 → ∀ b, b < 0 → a ≠ b → (TJ3 a).2.1 ≠ (TJ3 b).2.1 := by decide +kernel
theorem tyJ3_ok : ∀ k, k < 0 → parseFieldDescriptor (TJ3 k).2.2.1 = some (tyJ3 k) := by decide +kernel
abbrev cJ3_checkIndex_8e157 : ByteArray := prog_28_method_11_code
def yJ3_checkIndex_8e157 : MethodName := ⟨RJ3, "checkIndex", "(IILjava/util/function/BiFunction;)I"⟩
def RL : String := "ClassGateLaw"
abbrev cL_feed : ByteArray := method_3_code
def yL_feed : MethodName := ⟨RL, "feed", "(LClassGate;IIIII[J)I"⟩
abbrev cL_end : ByteArray := method_4_code
def yL_end : MethodName := ⟨RL, "end", "(LClassGate;I[J)I"⟩
abbrev cL_count : ByteArray := method_5_code
def yL_count : MethodName := ⟨RL, "count", "(LClassGate;I[J)I"⟩
abbrev cL_entry : ByteArray := method_6_code
def yL_entry : MethodName := ⟨RL, "entry", "(LClassGate;II[J)I"⟩
abbrev cL_member : ByteArray := method_7_code
def yL_member : MethodName := ⟨RL, "member", "(LClassGate;ZII[J)I"⟩
abbrev cL_row : ByteArray := method_8_code
def yL_row : MethodName := ⟨RL, "row", "(LClassGate;III[J)I"⟩
abbrev cL_instruction : ByteArray := method_9_code
def yL_instruction : MethodName := ⟨RL, "instruction", "(LClassGate;III[J)I"⟩
abbrev cL_law : ByteArray := code
def yL_law : MethodName := ⟨RL, "law", "([I)Z"⟩
abbrev vwCl : List vw_C := [(RX0, TX0, 5), (RX1, TX1, 1), (RX2, TX2, 5), (RX3, TX3, 17), (RX4, TX4, 11), (RX5, TX5, 12), (RX6, TX6, 11), (RX7, TX7, 8), (RX8, TX8, 3), (RX9, TX9, 5), (RX10, TX10, 2), (RX11, TX11, 5), (RX12, TX12, 82)]
end
section
/-! CONTRACTS OVER A WORLD AND WHAT STANDS OUTSIDE IT (statics, literals, links of nest mates): 'E A U H', which a run does not touch. -/
section XBA
variable {p : Program} {l : Launch} {e : Env} {R : Room} {s : State} {m : MethodId} {args : Array Value} {below : List Frame} {meth : Method} {c : Code} {H : Heap} {locs : List Loc} {cells slots : Nat} {Q : State → Prop}
def xb_ok (E : (Nat → Prop) → State → Heap → Prop) : Prop :=
  (∀ (A : Nat → Prop) (s U : State) (H : Heap), s.WarmedH U.vm → E A s H → E A U H) ∧ (∀ (A : Nat → Prop) (U : State) (H H1 : Heap), (∀ q : Nat, q < H.size → ¬ A q → H1[q]? = H[q]?) → E A U H → E A U H1) ∧ (∀ (A B : Nat → Prop) (U : State) (H : Heap), (∀ q, B q → A q) → E A U H → E B U H)
def xb_Pre (E : (Nat → Prop) → State → Heap → Prop) (D : va_G) (cl : List vw_C) (ws : va_W) (tys : List (ClassId × FieldType)) (sz : Nat) (av : List Value) : Array Value → State → Prop :=
  va_Pc av (fun U => U.heap.size = sz ∧ va_P D cl ws U.heap ∧ va_K D cl tys U ∧ va_D (fun _ => True) ws ∧ E (va_A ws sz) U U.heap)
def xb_B {S : Type} (D : va_G) (cl : List vw_C) (A : Nat → Prop) (W1 : S → va_W) (T1 : S → List (ClassId × FieldType)) : S → State → Prop := fun u t => va_P D cl (W1 u) t.heap ∧ va_K D cl (T1 u) t ∧ va_D A (W1 u)
variable {E : (Nat → Prop) → State → Heap → Prop} {D : va_G} {cl : List vw_C} {ws wc wr : va_W} {tys tc : List (ClassId × FieldType)} {A : Nat → Prop} {av : List Value}
theorem xb_blind {sz : Nat} (ok : xb_ok E) : FrameBlind (xb_Pre E D cl ws tys sz av) := by
  intro a U g mk q
  obtain ⟨h0, h1, h2, h3, h4, h5⟩ := q
  exact ⟨h0, h1, h2, va_K.moved (u := U) (U := U.calling g mk a) (Vm.Alike.refl U.vm) h3, h4, ok.1 _ U (U.calling g mk a) _ (State.WarmedH.refl U) h5⟩
theorem xb_enter (ok : xb_ok E) (hK : va_K D cl tys s) (hP : va_P D cl ws H) (hD : va_D A ws) (hS : va_S A s.heap H locs) (hA : ∀ q, s.heap.size ≤ q → A q) (hE : E A s s.heap) (isC : List Nat) (hC : isC.map (fun i => ws[i]?) = wc.map some) (hCf : isC.filterMap (fun i => ws[i]?) = wc) (hnd : va_nd isC = true) (isT : List Nat) (hT : isT.filterMap (fun i => tys[i]?) = tc) :
    ∀ U : State, U.heap = H → s.WarmedH U.vm → xb_Pre E D cl wc tc H.size av av.toArray U := by
  intro U hU hW
  refine ⟨rfl, by rw [hU], by rw [hU]; exact hP.sub isC hCf, va_K.moved hW.alike (hK.sub isT hT), (hD.sub isC hnd hC).weaken (fun _ _ _ _ => trivial), ?_⟩
  rw [hU]
  exact ok.1 _ _ _ _ hW (ok.2.2 _ _ _ _ (va_free hD hS hA isC hC) (ok.2.1 _ _ _ _ hS.2.1 hE))
variable {pc : Nat} {ls : Array Slot} {rest st0 : List Value} {a : Array Value} {mc ms : Nat}
theorem xb_goi {S : Type} {post : Int32 → S → Prop} {W1 : S → va_W} {T1 : S → List (ClassId × FieldType)} (hr : va_Run p l e R s m args below meth c H locs cells slots mc ms (F0 m pc ls st0) rest (va_Qi post (xb_B D cl (va_A wc H.size) W1 T1) (va_A wc H.size) a) (va_A wc H.size))
    (hK : va_K D cl tys s) (hP : va_P D cl ws H) (hD : va_D A ws) (hS : va_S A s.heap H locs) (hA : ∀ q, s.heap.size ≤ q → A q) (isC isR : List Nat) (hC : isC.map (fun i => ws[i]?) = wc.map some) (hR : isR.map (fun i => ws[i]?) = wr.map some) (hnr : va_nd isR = true) (hdis : ∀ i ∈ isR, i ∉ isC)
    (kk : ∀ (r : Int32) (u : S) (H1 : Heap) (locs1 : List Loc), post r u → va_P D cl (wr ++ W1 u) H1 → va_D A (wr ++ W1 u) → va_K D cl (tys ++ T1 u) s → va_S A s.heap H1 locs1 → W p l e R s m args below meth c H1 locs1 (cells + mc) (slots + ms) Q (F0 m (pc + 3) ls (.int r :: rest))) : W p l e R s m args below meth c H locs cells slots Q (F0 m pc ls st0) := by
  have hF := va_free hD hS hA isC hC
  refine va_calli hr hS (fun q _ h => hF q h) hF (fun r u t H1 locs1 ht hvm hw hB hz1 hk1 hS1 => ?_)
  obtain ⟨hP1, hK1, hD1⟩ := hB
  rw [ht] at hP1
  obtain ⟨hP2, hD2⟩ := va_join hP hD isC isR hC hR hnr hdis hk1 hF hP1 hD1
  exact kk r u H1 locs1 hw hP2 hD2 (hK.app (va_K.moved hvm.symm hK1)) hS1
theorem xb_gol {S : Type} {post : Int64 → S → Prop} {W1 : S → va_W} {T1 : S → List (ClassId × FieldType)} (hr : va_Run p l e R s m args below meth c H locs cells slots mc ms (F0 m pc ls st0) rest (va_Ql post (xb_B D cl (va_A wc H.size) W1 T1) (va_A wc H.size) a) (va_A wc H.size))
    (hK : va_K D cl tys s) (hP : va_P D cl ws H) (hD : va_D A ws) (hS : va_S A s.heap H locs) (hA : ∀ q, s.heap.size ≤ q → A q) (isC isR : List Nat) (hC : isC.map (fun i => ws[i]?) = wc.map some) (hR : isR.map (fun i => ws[i]?) = wr.map some) (hnr : va_nd isR = true) (hdis : ∀ i ∈ isR, i ∉ isC)
    (kk : ∀ (r : Int64) (u : S) (H1 : Heap) (locs1 : List Loc), post r u → va_P D cl (wr ++ W1 u) H1 → va_D A (wr ++ W1 u) → va_K D cl (tys ++ T1 u) s → va_S A s.heap H1 locs1 → W p l e R s m args below meth c H1 locs1 (cells + mc) (slots + ms) Q (F0 m (pc + 3) ls (.long r :: rest))) : W p l e R s m args below meth c H locs cells slots Q (F0 m pc ls st0) := by
  have hF := va_free hD hS hA isC hC
  refine va_calll hr hS (fun q _ h => hF q h) hF (fun r u t H1 locs1 ht hvm hw hB hz1 hk1 hS1 => ?_)
  obtain ⟨hP1, hK1, hD1⟩ := hB
  rw [ht] at hP1
  obtain ⟨hP2, hD2⟩ := va_join hP hD isC isR hC hR hnr hdis hk1 hF hP1 hD1
  exact kk r u H1 locs1 hw hP2 hD2 (hK.app (va_K.moved hvm.symm hK1)) hS1
theorem xb_gov {S : Type} {post : S → Prop} {W1 : S → va_W} {T1 : S → List (ClassId × FieldType)} (hr : va_Run p l e R s m args below meth c H locs cells slots mc ms (F0 m pc ls st0) rest (va_Qv post (xb_B D cl (va_A wc H.size) W1 T1) (va_A wc H.size) a) (va_A wc H.size))
    (hK : va_K D cl tys s) (hP : va_P D cl ws H) (hD : va_D A ws) (hS : va_S A s.heap H locs) (hA : ∀ q, s.heap.size ≤ q → A q) (isC isR : List Nat) (hC : isC.map (fun i => ws[i]?) = wc.map some) (hR : isR.map (fun i => ws[i]?) = wr.map some) (hnr : va_nd isR = true) (hdis : ∀ i ∈ isR, i ∉ isC)
    (kk : ∀ (u : S) (H1 : Heap) (locs1 : List Loc), post u → va_P D cl (wr ++ W1 u) H1 → va_D A (wr ++ W1 u) → va_K D cl (tys ++ T1 u) s → va_S A s.heap H1 locs1 → W p l e R s m args below meth c H1 locs1 (cells + mc) (slots + ms) Q (F0 m (pc + 3) ls rest)) : W p l e R s m args below meth c H locs cells slots Q (F0 m pc ls st0) := by
  have hF := va_free hD hS hA isC hC
  refine va_callv hr hS (fun q _ h => hF q h) hF (fun u t H1 locs1 ht hvm hw hB hz1 hk1 hS1 => ?_)
  obtain ⟨hP1, hK1, hD1⟩ := hB
  rw [ht] at hP1
  obtain ⟨hP2, hD2⟩ := va_join hP hD isC isR hC hR hnr hdis hk1 hF hP1 hD1
  exact kk u H1 locs1 hw hP2 hD2 (hK.app (va_K.moved hvm.symm hK1)) hS1
/-- an answer that may be null or a cell -/
theorem xb_goq {S : Type} {post : Option Nat → S → Prop} {W1 : S → va_W} {T1 : S → List (ClassId × FieldType)} (hr : va_Run p l e R s m args below meth c H locs cells slots mc ms (F0 m pc ls st0) rest (va_Qq post (xb_B D cl (va_A wc H.size) W1 T1) (va_A wc H.size) a) (va_A wc H.size))
    (hK : va_K D cl tys s) (hP : va_P D cl ws H) (hD : va_D A ws) (hS : va_S A s.heap H locs) (hA : ∀ q, s.heap.size ≤ q → A q) (isC isR : List Nat) (hC : isC.map (fun i => ws[i]?) = wc.map some) (hR : isR.map (fun i => ws[i]?) = wr.map some) (hnr : va_nd isR = true) (hdis : ∀ i ∈ isR, i ∉ isC)
    (kk : ∀ (r : Option Nat) (u : S) (H1 : Heap) (locs1 : List Loc), post r u → va_P D cl (wr ++ W1 u) H1 → va_D A (wr ++ W1 u) → va_K D cl (tys ++ T1 u) s → va_S A s.heap H1 locs1 → W p l e R s m args below meth c H1 locs1 (cells + mc) (slots + ms) Q (F0 m (pc + 3) ls (va_rf r :: rest))) : W p l e R s m args below meth c H locs cells slots Q (F0 m pc ls st0) := by
  have hF := va_free hD hS hA isC hC
  refine va_callq hr hS (fun q _ h => hF q h) hF (fun r u t H1 locs1 ht hvm hw hB hz1 hk1 hS1 => ?_)
  obtain ⟨hP1, hK1, hD1⟩ := hB
  rw [ht] at hP1
  obtain ⟨hP2, hD2⟩ := va_join hP hD isC isR hC hR hnr hdis hk1 hF hP1 hD1
  exact kk r u H1 locs1 hw hP2 hD2 (hK.app (va_K.moved hvm.symm hK1)) hS1
end XBA
section XTA
variable {p : Program} {l : Launch} {e : Env} {R : Room} {s : State} {m : MethodId} {args : Array Value} {below : List Frame} {meth : Method} {c : Code} {H : Heap} {locs : List Loc} {cells slots : Nat} {Q : State → Prop}
/-- the handler takes it: one entry in the table, its class by a link that may still be cold -/
theorem xt_caught {T : State} (X : Stand p l e R s m args below meth c T locs cells slots) {own K : String} {a0 a1 hpc ct : Nat} (hown : s.vm.findClass own = some m.cls) (hcl : (Cond.classLink own ct K).before args s = true)
    (htab : c.exceptionTable.toList = tableOf [(a0, a1, hpc, ct)]) (h0 : ct ≠ 0) {g : JFrame} (hg : g.method = m) (hcov : covers ⟨a0, a1, hpc, ct⟩ g.pc = true)
    {x : Addr} {cell : Cell} (hcell : T.heap[x]? = some cell) (hobj : cell.vm = .none) (hK : s.vm.findClass K = some cell.cls) (hself : s.vm.assignable cell.cls cell.cls = true) :
    ∃ vm' : Vm, Stand p l e R s m args below meth c (T.setVm vm') locs cells slots ∧ ∀ tg, Steps p.tables e below ((T.setVm vm').setTop { g with pc := hpc, stack := [.ref x] }) tg → Steps p.tables e below ((T.setTop g).pushFrame (.throwing x)) tg := by
  have hpl : e.platform.magicAccessors = ({} : Platform).magicAccessors := by rw [X.admits.platform]
  obtain ⟨cK, hfK, hlk⟩ := Cond.classLink_spec hown hcl e.platform hpl
  cases hfK.symm.trans hK
  subst hg
  have hlT := X.warmed.classLinks hlk
  obtain ⟨dk, _, _, ck, hdk, _, _, _, _, hck, _, hres⟩ := hlk.here
  have hWn : s.WarmedH (T.vm.noted g.method.cls ct (.cls cell.cls)) := X.warmed.noted hdk hres (State.rightAt_cls hlk)
  have hal : T.vm.Alike (T.vm.noted g.method.cls ct (.cls cell.cls)) := (Vm.Alike.refl T.vm).noted _ _ _
  obtain ⟨ck1, hck1, -⟩ := hWn.alike.2.2 _ _ hck
  refine ⟨T.vm.noted g.method.cls ct (.cls cell.cls), X.noted hWn, fun tg hrest => ?_⟩
  have hvm : ((T.setTop g).pushFrame (.throwing x)).vm = T.vm := rfl
  have hhp : ((T.setTop g).pushFrame (.throwing x)).heap = T.heap := rfl
  obtain ⟨ha, ht⟩ := (resolveClass_links e.toSetting hlT).op (op := VmOp.resolveClass g.method.cls ct) rfl
  have hfit : (T.vm.noted g.method.cls ct (.cls cell.cls)).assignable cell.cls cell.cls = true := by rw [hWn.alike.assignable]; exact hself
  have hns : ∀ k, cell.vm ≠ .statics k := fun k h => by rw [hobj] at h; cases h
  have hcov' : (decide (a0 ≤ g.pc) && decide (g.pc < a1)) = true := hcov
  have hfind : ∀ (Q : Handler → Pre) (E : CtlPost) (d : Bool) (acts : List Action), wp (findHandler g x) Q E e d acts ((T.setTop g).pushFrame (.throwing x)) ↔ Q (.found hpc) d acts (((T.setTop g).pushFrame (.throwing x)).setVm (T.vm.noted g.method.cls ct (.cls cell.cls))) := by
    intro Q E d acts
    rw [W.findHandler_eq (meth := meth) (code := c) (by rw [hvm]; exact X.method') X.code, htab]
    show wp (findHandler.go g x [⟨a0, a1, hpc, ct⟩]) Q E e d acts _ ↔ _
    simp [findHandler.go, hcov', h0, hvm, hhp, ha, ht, hcell, hns, hck1, hfit, VmOp.dirties, VmOp.acts]
  obtain ⟨hgo, hw⟩ := X.here.throwing x (g := g)
  refine Steps.head hgo hw ?_
  rw [stepThread_throwing (frames_entered X.here.top _)]
  have hst : (stepThrowing e ((T.setTop g).pushFrame (.throwing x)) x (.java g :: T.frames.tail)).Is ((((T.setTop g).pushFrame (.throwing x)).setVm (T.vm.noted g.method.cls ct (.cls cell.cls))).setFrames (.java { g with pc := hpc, stack := [.ref x] } :: T.frames.tail)) [] := by
    simp only [stepThrowing, searchFrame, vmDo]
    generalize hr : Sem.go _ e false [] ((T.setTop g).pushFrame (.throwing x)) = res
    obtain ⟨as, rfl, ha2⟩ := Sem.eq_ok_of hr (a := Handler.found hpc) (s' := ((T.setTop g).pushFrame (.throwing x)).setVm (T.vm.noted g.method.cls ct (.cls cell.cls))) (acts' := []) (by simp [hfind _ _ _ _])
    exact ⟨rfl, ha2⟩
  rw [hst.1]
  obtain ⟨g₀, hg0⟩ := Option.isSome_iff_exists.mp X.here.top
  obtain ⟨r, hr⟩ := State.topJava?_eq_some.mp hg0
  have hr' : (T.setVm (T.vm.noted g.method.cls ct (.cls cell.cls))).frames = .java g₀ :: r := hr
  rw [State.setTop_of_frames _ hr'] at hrest
  have hsw : ∀ (u : State) (v : Vm) (F G : List Frame), ((u.setFrames F).setVm v).setFrames G = (u.setVm v).setFrames G := fun u v F G => by
    rw [show (u.setFrames F).setVm v = (u.setVm v).setFrames F from rfl, State.setFrames_setFrames]
  rw [hr, List.tail_cons, State.pushFrame, hsw, State.setTop_of_frames _ hr, hsw]
  exact hrest
/-- the contract of a method that has one handler: its table is known in the walk -/
theorem xt_MetW {y : MethodName} {ws ws' : List Cond} {rm : Room} {Pc : Array Value → State → Prop} {Qc : Array Value → State → Outcome → State → Prop} {mc ms : Nat} {free : Addr → Prop} {cc : ByteArray} {maxL : Nat} {ret : Option FieldType} {hh : List (Nat × Nat × Nat × Nat)}
    (hy : plainName y.cls = true) (hw : ws = Cond.codeWith y cc maxL ret hh :: ws')
    (body : ∀ p e s m args below meth c s₁, BodyLoose p l y (headSpec ws rm) cc maxL ret e s m args below meth c s₁ → c.maxLocals = maxL → c.exceptionTable.toList = tableOf hh → Pc args s →
      W p l e (headSpec ws rm).room s m args below meth c s.heap [] 0 0 (MQ below Qc args s mc ms free) (entryFrame m args maxL)) : Met l y ws rm Pc Qc mc ms free := by
  refine va_MetW (hh := hh) hy hw ?_
  intro p e s m args below meth c s₁ B hml hP
  refine body p e s m args below meth c s₁ B hml ?_ hP
  obtain ⟨m9, meth9, c9, hn9, h1, h2, -, -, h3, -⟩ := Cond.codeWith_spec (atoms_spec (ws := ws) B.pre _ (by rw [hw]; exact List.mem_cons_self))
  cases B.named.symm.trans hn9
  cases B.method.symm.trans h1
  cases (Stand.of_body B).code.symm.trans h2
  rw [← h3, table_eq]
end XTA
end
section
def bg : List Cond := lw_tbl.filter goodWord
theorem bg_good : bg.all goodWord = true := List.all_eq_true.mpr (fun w h => (List.mem_filter.mp h).2)
theorem bg_in : ∀ w ∈ bg, w ∈ lw_tbl := fun w h => (List.mem_filter.mp h).1
theorem bgf {w : Cond} (h1 : w ∈ lw_tbl) (h2 : goodWord w = true) : w ∈ bg := List.mem_filter.mpr ⟨h1, h2⟩
theorem tb_1 : ∀ w ∈ tables_1_1, w ∈ lw_tbl := fun w h => List.mem_append_right _ (List.mem_append_left _ h)
theorem tb_2 : ∀ w ∈ tables_1_2, w ∈ lw_tbl := fun w h => List.mem_append_right _ (List.mem_append_right _ (List.mem_append_left _ h))
theorem tb_3 : ∀ w ∈ tables_1_3, w ∈ lw_tbl := fun w h => List.mem_append_right _ (List.mem_append_right _ (List.mem_append_right _ (List.mem_append_left _ h)))
theorem tb_4 : ∀ w ∈ tables_1_4, w ∈ lw_tbl := fun w h => List.mem_append_right _ (List.mem_append_right _ (List.mem_append_right _ (List.mem_append_right _ (List.mem_append_left _ h))))
theorem tb_5 : ∀ w ∈ tables_1_5, w ∈ lw_tbl := fun w h => List.mem_append_right _ (List.mem_append_right _ (List.mem_append_right _ (List.mem_append_right _ (List.mem_append_right _ (List.mem_append_left _ h)))))
theorem tb_6 : ∀ w ∈ tables_1_6, w ∈ lw_tbl := fun w h => List.mem_append_right _ (List.mem_append_right _ (List.mem_append_right _ (List.mem_append_right _ (List.mem_append_right _ (List.mem_append_right _ (List.mem_append_left _ h))))))
theorem tb_7 : ∀ w ∈ tables_1_7, w ∈ lw_tbl := fun w h => List.mem_append_right _ (List.mem_append_right _ (List.mem_append_right _ (List.mem_append_right _ (List.mem_append_right _ (List.mem_append_right _ (List.mem_append_right _ (List.mem_append_left _ h)))))))
theorem tb_8 : ∀ w ∈ tables_1_8, w ∈ lw_tbl := fun w h => List.mem_append_right _ (List.mem_append_right _ (List.mem_append_right _ (List.mem_append_right _ (List.mem_append_right _ (List.mem_append_right _ (List.mem_append_right _ (List.mem_append_right _ (List.mem_append_left _ h))))))))
theorem tb_9 : ∀ w ∈ tables_1_9, w ∈ lw_tbl := fun w h => List.mem_append_right _ (List.mem_append_right _ (List.mem_append_right _ (List.mem_append_right _ (List.mem_append_right _ (List.mem_append_right _ (List.mem_append_right _ (List.mem_append_right _ (List.mem_append_right _ (h)))))))))
end
section
section XBB
variable {p : Program} {l : Launch} {e : Env} {R : Room} {s : State} {m : MethodId} {args : Array Value} {below : List Frame} {meth : Method} {c : Code} {H : Heap} {locs : List Loc} {cells slots : Nat} {Q : State → Prop}
variable {y : MethodName} {bytes : ByteArray} {maxL index mc ms : Nat} {own C : String} {ret : Option FieldType} {rm : Room}
theorem bg_cons (h : Cond.code y bytes maxL ret ∈ bg) : GoodIn bg (Cond.code y bytes maxL ret :: bg) := by
  intro w hw
  rcases List.mem_cons.mp hw with rfl | hw
  · exact ⟨h, good_of_word (List.all_eq_true.mp bg_good _ h)⟩
  · exact ⟨hw, good_of_word (List.all_eq_true.mp bg_good _ hw)⟩
theorem bg_B (n : Nat) (ht : ∀ w ∈ bg, w.before args s = true) (h1 : Cond.methodLink own index y ∈ bg) (h4 : Cond.initialized y.cls ∈ bg) (h5 : Cond.code y bytes maxL ret ∈ bg) (hrc : rm.cells = mc) (hrs : rm.slots = ms)
    (hd : y.cls ≠ "java/lang/invoke/MethodHandle" ∧ y.cls ≠ "java/lang/invoke/VarHandle" ∧ (parseMethodDescriptor y.desc).map (fun d => d.parameters.length) = some n) (hR : rm.frames + 1 ≤ R.frames ∧ 8 + (maxL + 11) + rm.locals ≤ R.locals) :
    CallB R s args own index y bytes maxL ret (Cond.code y bytes maxL ret :: bg) rm mc ms n :=
  callB_of n ht (bg_cons h5) rfl hrc hrs (ht _ h4) (ht _ h1) hd hR
theorem bg_V (n : Nat) (ht : ∀ w ∈ bg, w.before args s = true) (h1 : Cond.methodLink own index y ∈ bg) (h2 : Cond.instanceMethod y ∈ bg) (h3 : Cond.selects C y y ∈ bg) (h4 : Cond.initialized y.cls ∈ bg) (h5 : Cond.code y bytes maxL ret ∈ bg) (hrc : rm.cells = mc) (hrs : rm.slots = ms)
    (hd : y.cls ≠ "java/lang/invoke/MethodHandle" ∧ y.cls ≠ "java/lang/invoke/VarHandle" ∧ (parseMethodDescriptor y.desc).map (fun d => d.parameters.length) = some n) (hR : rm.frames + 1 ≤ R.frames ∧ 8 + (maxL + 11) + rm.locals ≤ R.locals) :
    CallW R s args own C index y bytes maxL ret (Cond.code y bytes maxL ret :: bg) rm mc ms n :=
  ⟨bg_B n ht h1 h4 h5 hrc hrs hd hR, ht _ h2, ht _ h3⟩
theorem bg_S (n : Nat) (ht : ∀ w ∈ bg, w.before args s = true) (h1 : Cond.methodLink own index y ∈ bg) (h2 : Cond.static y ∈ bg) (h4 : Cond.initialized y.cls ∈ bg) (h5 : Cond.code y bytes maxL ret ∈ bg) (hrc : rm.cells = mc) (hrs : rm.slots = ms)
    (hd : y.cls ≠ "java/lang/invoke/MethodHandle" ∧ y.cls ≠ "java/lang/invoke/VarHandle" ∧ (parseMethodDescriptor y.desc).map (fun d => d.parameters.length) = some n) (hR : rm.frames + 1 ≤ R.frames ∧ 8 + (maxL + 11) + rm.locals ≤ R.locals) :
    CallB R s args own index y bytes maxL ret (Cond.code y bytes maxL ret :: bg) rm mc ms n ∧ (Cond.static y).before args s = true :=
  ⟨bg_B n ht h1 h4 h5 hrc hrs hd hR, ht _ h2⟩
theorem bg_I (n : Nat) (ht : ∀ w ∈ bg, w.before args s = true) (h1 : Cond.methodLink own index y ∈ bg) (h2 : Cond.instanceMethod y ∈ bg) (h4 : Cond.initialized y.cls ∈ bg) (h5 : Cond.code y bytes maxL none ∈ bg) (hrc : rm.cells = mc) (hrs : rm.slots = ms)
    (hd : y.cls ≠ "java/lang/invoke/MethodHandle" ∧ y.cls ≠ "java/lang/invoke/VarHandle" ∧ (parseMethodDescriptor y.desc).map (fun d => d.parameters.length) = some n) (hR : rm.frames + 1 ≤ R.frames ∧ 8 + (maxL + 11) + rm.locals ≤ R.locals) (hy1 : y.name = "<init>" := by rfl) :
    CallB R s args own index y bytes maxL none (Cond.code y bytes maxL none :: bg) rm mc ms n ∧ y.name = "<init>" ∧ (Cond.instanceMethod y).before args s = true :=
  ⟨bg_B n ht h1 h4 h5 hrc hrs hd hR, hy1, ht _ h2⟩
theorem bg_SW {hh : List (Nat × Nat × Nat × Nat)} (n : Nat) (ht : ∀ w ∈ bg, w.before args s = true) (h1 : Cond.methodLink own index y ∈ bg) (h2 : Cond.static y ∈ bg) (h4 : Cond.initialized y.cls ∈ bg) (h5 : Cond.codeWith y bytes maxL ret hh ∈ bg) (hrc : rm.cells = mc) (hrs : rm.slots = ms)
    (hd : y.cls ≠ "java/lang/invoke/MethodHandle" ∧ y.cls ≠ "java/lang/invoke/VarHandle" ∧ (parseMethodDescriptor y.desc).map (fun d => d.parameters.length) = some n) (hR : rm.frames + 1 ≤ R.frames ∧ 8 + (maxL + 11) + rm.locals ≤ R.locals) :
    vx_CSW R s args own index y bytes maxL ret hh (Cond.codeWith y bytes maxL ret hh :: bg) rm mc ms n := by
  refine vx_cwSW n ht (fun w hw => ?_) rfl hrc hrs hd hR
  have hg : w ∈ bg := by
    rcases List.mem_append.mp hw with hw | hw
    · simp only [List.mem_cons, List.not_mem_nil, or_false] at hw
      rcases hw with rfl | rfl | rfl
      · exact h1
      · exact h2
      · exact h4
    · rcases List.mem_cons.mp hw with rfl | hw
      · exact h5
      · exact hw
  exact ⟨hg, good_of_word (List.all_eq_true.mp bg_good _ hg)⟩
end XBB
/-! WHAT STANDS OUTSIDE THE WORLDS: NO_BYTES, COMPACT_STRINGS, the formatter, Throwable's two statics, the literals, words that the tables alone decide -/
abbrev xe_N : Nat := 37
abbrev xe_M : Nat := 30
abbrev xe_G : Type := Nat × (Nat → Nat) × (Nat → Nat)
def xe_tab : List (String × Nat × String × List Int32) := [("ClassGate$AttributeCheck", 49, "ConstantValue", [67, 111, 110, 115, 116, 97, 110, 116, 86, 97, 108, 117, 101]), ("ClassGate$AttributeCheck", 123, "Code", [67, 111, 100, 101]), ("ClassGate$AttributeCheck", 125, "Exceptions", [69, 120, 99, 101, 112, 116, 105, 111, 110, 115]), ("ClassGate$AttributeCheck", 127, "InnerClasses", [73, 110, 110, 101, 114, 67, 108, 97, 115, 115, 101, 115]), ("ClassGate$AttributeCheck", 132, "BootstrapMethods", [66, 111, 111, 116, 115, 116, 114, 97, 112, 77, 101, 116, 104, 111, 100, 115]), ("ClassGate$AttributeCheck", 134, "NestHost", [78, 101, 115, 116, 72, 111, 115, 116]), ("ClassGate$AttributeCheck", 136, "NestMembers", [78, 101, 115, 116, 77, 101, 109, 98, 101, 114, 115]), ("ClassGate$AttributeCheck", 138, "Record", [82, 101, 99, 111, 114, 100]), ("ClassGate$AttributeCheck", 140, "PermittedSubclasses", [80, 101, 114, 109, 105, 116, 116, 101, 100, 83, 117, 98, 99, 108, 97, 115, 115, 101, 115]), ("ClassGate$AttributeCheck", 157, "Ljava/lang/String;", [76, 106, 97, 118, 97, 47, 108, 97, 110, 103, 47, 83, 116, 114, 105, 110, 103, 59]), ("ClassGate$AttributeCheck", 235, "StackMapTable", [83, 116, 97, 99, 107, 77, 97, 112, 84, 97, 98, 108, 101]), ("ClassGate$ClassCheck", 66, "java/lang/Object", [106, 97, 118, 97, 47, 108, 97, 110, 103, 47, 79, 98, 106, 101, 99, 116]), ("ClassGate$ClassCheck", 157, "<init>", [60, 105, 110, 105, 116, 62]), ("ClassGate$ClassCheck", 158, "<clinit>", [60, 99, 108, 105, 110, 105, 116, 62]), ("ClassGate$Pool", 98, "<init>", [60, 105, 110, 105, 116, 62]), ("ClassGateModel", 127, "ConstantValue", [67, 111, 110, 115, 116, 97, 110, 116, 86, 97, 108, 117, 101]), ("ClassGateModel", 129, "Code", [67, 111, 100, 101]), ("ClassGateModel", 131, "Exceptions", [69, 120, 99, 101, 112, 116, 105, 111, 110, 115]), ("ClassGateModel", 133, "StackMapTable", [83, 116, 97, 99, 107, 77, 97, 112, 84, 97, 98, 108, 101]), ("ClassGateModel", 135, "InnerClasses", [73, 110, 110, 101, 114, 67, 108, 97, 115, 115, 101, 115]), ("ClassGateModel", 137, "BootstrapMethods", [66, 111, 111, 116, 115, 116, 114, 97, 112, 77, 101, 116, 104, 111, 100, 115]), ("ClassGateModel", 139, "NestHost", [78, 101, 115, 116, 72, 111, 115, 116]), ("ClassGateModel", 141, "NestMembers", [78, 101, 115, 116, 77, 101, 109, 98, 101, 114, 115]), ("ClassGateModel", 143, "Record", [82, 101, 99, 111, 114, 100]), ("ClassGateModel", 145, "PermittedSubclasses", [80, 101, 114, 109, 105, 116, 116, 101, 100, 83, 117, 98, 99, 108, 97, 115, 115, 101, 115]), ("ClassGateModel", 178, "<init>", [60, 105, 110, 105, 116, 62]), ("ClassGateModel", 186, "<clinit>", [60, 99, 108, 105, 110, 105, 116, 62]), ("ClassGateModel", 191, "java/lang/Object", [106, 97, 118, 97, 47, 108, 97, 110, 103, 47, 79, 98, 106, 101, 99, 116]), ("ClassGateModel", 383, "Ljava/lang/String;", [76, 106, 97, 118, 97, 47, 108, 97, 110, 103, 47, 83, 116, 114, 105, 110, 103, 59]), ("ClassGateModel", 480, "1111111111111111232332222211111111111111111111111111112222211111111111111111111111111111111111111111111111111111111111111111111111113111111111111111111113333333333333333200111111333333355323113311043355", [49, 49, 49, 49, 49, 49, 49, 49, 49, 49, 49, 49, 49, 49, 49, 49, 50, 51, 50, 51, 51, 50, 50, 50, 50, 50, 49, 49, 49, 49, 49, 49, 49, 49, 49, 49, 49, 49, 49, 49, 49, 49, 49, 49, 49, 49, 49, 49, 49, 49, 49, 49, 49, 49, 50, 50, 50, 50, 50, 49, 49, 49, 49, 49, 49, 49, 49, 49, 49, 49, 49, 49, 49, 49, 49, 49, 49, 49, 49, 49, 49, 49, 49, 49, 49, 49, 49, 49, 49, 49, 49, 49, 49, 49, 49, 49, 49, 49, 49, 49, 49, 49, 49, 49, 49, 49, 49, 49, 49, 49, 49, 49, 49, 49, 49, 49, 49, 49, 49, 49, 49, 49, 49, 49, 49, 49, 49, 49, 49, 49, 49, 49, 51, 49, 49, 49, 49, 49, 49, 49, 49, 49, 49, 49, 49, 49, 49, 49, 49, 49, 49, 49, 49, 51, 51, 51, 51, 51, 51, 51, 51, 51, 51, 51, 51, 51, 51, 51, 51, 50, 48, 48, 49, 49, 49, 49, 49, 49, 51, 51, 51, 51, 51, 51, 51, 53, 53, 51, 50, 51, 49, 49, 51, 51, 49, 49, 48, 52, 51, 51, 53, 53]), ("ClassGate", 29, "more bytes than a file may have", []), ("ClassGate", 46, "not so many bytes have come", []), ("ClassGate", 148, "no such count", []), ("ClassGate", 154, "no such part", []), ("ClassGate", 187, "no such thing of a member", []), ("ClassGate", 209, "no such column", []), ("ClassGate", 237, "no such thing of an instruction", [])]
def xe_lt (k : Nat) : String × Nat × String × List Int32 := xe_tab.getD k ("", 0, "", [])
def xe_nw : List Cond := [.declares ⟨"java/lang/RuntimeException", "<init>", "(Ljava/lang/String;)V"⟩, .declares ⟨"java/lang/Exception", "<init>", "(Ljava/lang/String;)V"⟩, .declares ⟨"java/lang/Throwable", "<init>", "(Ljava/lang/String;)V"⟩, .castable "java/lang/IllegalArgumentException" "java/lang/IllegalArgumentException"]
def xe_L (g : xe_G) (k : Nat) (A : Nat → Prop) (U : State) (H : Heap) : Prop := vk_R (xe_lt k).1 (xe_lt k).2.1 (xe_lt k).2.2.1 (g.2.1 k) U ∧ va_O "java/lang/String" (g.2.1 k) A U H
def xe_C (g : xe_G) (k : Nat) (A : Nat → Prop) (U : State) (H : Heap) : Prop := va_OF "java/lang/String" "coder" "B" (.int 0) (g.2.1 k) A U H ∧ va_OF "java/lang/String" "value" "[B" (.ref (g.2.2 k)) (g.2.1 k) A U H ∧ va_T .byte (g.2.2 k) (xe_lt k).2.2.2.length (fun j => .int ((xe_lt k).2.2.2.getD j 0)) A U H
def xe_E (g : xe_G) (A : Nat → Prop) (U : State) (H : Heap) : Prop :=
  va_Z "ClassGate" "NO_BYTES" "[B" (.ref g.1) A U H ∧ va_T .byte g.1 0 (fun _ => .null) A U H ∧ va_Z "java/lang/String" "COMPACT_STRINGS" "Z" (.int 1) A U H ∧ va_Zq "jdk/internal/util/Preconditions" "SIOOBE_FORMATTER" "Ljava/util/function/BiFunction;" A U H ∧
  vx_Zq Bundle.tN "UNASSIGNED_STACK" Bundle.steD A U H ∧ vx_Zq Bundle.tN "SUPPRESSED_SENTINEL" Bundle.listD A U H ∧ (∀ k, k < xe_N → xe_L g k A U H) ∧ (∀ k, k < xe_M → xe_C g k A U H) ∧ (∀ w ∈ xe_nw, va_Nw w U) ∧ va_AO "ClassGate$Member" U ∧ va_AO "java/lang/String" U
theorem xe_ok {g : xe_G} : xb_ok (xe_E g) := by
  refine ⟨fun A s U H hW h => ?_, fun A U H H1 hq h => ?_, fun A B U H hAB h => ?_⟩
  · obtain ⟨h1, h2, h3, h4, h5, h6, h7, h8, h9, h10, h11⟩ := h
    refine ⟨va_Z.moved hW.alike h1, va_T.moved hW.alike h2, va_Z.moved hW.alike h3, va_Zq.moved hW.alike h4, vx_Zq.moved hW.alike h5, vx_Zq.moved hW.alike h6, fun k hk => ⟨vk_R.warm hW (h7 k hk).1, va_O.moved hW.alike (h7 k hk).2⟩, fun k hk => ⟨va_OF.moved hW.alike (h8 k hk).1, va_OF.moved hW.alike (h8 k hk).2.1, va_T.moved hW.alike (h8 k hk).2.2⟩, fun w hw => ?_, va_AO.moved hW.alike h10, va_AO.moved hW.alike h11⟩
    have h := h9 w hw
    simp only [xe_nw, List.mem_cons, List.not_mem_nil, or_false] at hw
    rcases hw with rfl | rfl | rfl | rfl
    · exact va_Nw.warmD hW h
    · exact va_Nw.warmD hW h
    · exact va_Nw.warmD hW h
    · exact va_Nw.warmC hW h
  · obtain ⟨h1, h2, h3, h4, h5, h6, h7, h8, h9, h10, h11⟩ := h
    exact ⟨h1.kept hq, h2.kept hq, h3.kept hq, h4.kept hq, h5.kept hq, h6.kept hq, fun k hk => ⟨(h7 k hk).1, (h7 k hk).2.kept hq⟩, fun k hk => ⟨(h8 k hk).1.kept hq, (h8 k hk).2.1.kept hq, (h8 k hk).2.2.kept hq⟩, h9, h10, h11⟩
  · obtain ⟨h1, h2, h3, h4, h5, h6, h7, h8, h9, h10, h11⟩ := h
    exact ⟨h1.narrow hAB, h2.narrow hAB, h3.narrow hAB, h4.narrow hAB, h5.narrow hAB, h6.narrow hAB, fun k hk => ⟨(h7 k hk).1, (h7 k hk).2.narrow hAB⟩, fun k hk => ⟨(h8 k hk).1.narrow hAB, (h8 k hk).2.1.narrow hAB, (h8 k hk).2.2.narrow hAB⟩, h9, h10, h11⟩
theorem xe_q {C n d : String} {A : Nat → Prop} {U : State} {H : Heap} (h : va_Zq C n d A U H) : ∃ v : Value, va_Z C n d v A U H ∧ v.category = 1 := by
  rcases h with h | ⟨t, h⟩
  · exact ⟨.null, h, rfl⟩
  · exact ⟨.ref t, h, rfl⟩
theorem xe_any {g : xe_G} {A : Nat → Prop} {s : State} {H : Heap} {locs : List Loc} (hE : xe_E g A s s.heap) (hS : va_S A s.heap H locs) (k : Nat) (hk : k < xe_N) : va_Any "java/lang/String" s H (g.2.1 k) := by
  obtain ⟨cell, h1, h2, h3, -⟩ := (hE.2.2.2.2.2.2.1 k hk).2.kept hS.2.1
  obtain ⟨kC, hkC, -⟩ := Vm.findClass_spec h3
  exact ⟨cell, h1, h2, ⟨kC, hkC⟩, fun comp h => by cases h3.symm.trans h; exact va_asg _ _⟩
theorem xe_recv {g : xe_G} {A : Nat → Prop} {s : State} {H : Heap} {locs : List Loc} (hE : xe_E g A s s.heap) (hS : va_S A s.heap H locs) (k : Nat) (hk : k < xe_N) : ∃ cell : Cell, H[g.2.1 k]? = some cell ∧ cell.vm.isStatics = false ∧ s.vm.findClass "java/lang/String" = some cell.cls := by
  obtain ⟨cell, h1, h2, h3, -⟩ := (hE.2.2.2.2.2.2.1 k hk).2.kept hS.2.1
  exact ⟨cell, h1, h2, h3⟩
theorem xe_moved {g : xe_G} {A : Nat → Prop} {s : State} {H : Heap} {locs : List Loc} (hE : xe_E g A s s.heap) (hS : va_S A s.heap H locs) : xe_E g A s H := xe_ok.2.1 _ _ _ _ hS.2.1 hE

theorem xe_good : ∀ w ∈ (vx_atS RX11 48 "java/lang/IllegalArgumentException" ["java/lang/RuntimeException", "java/lang/Exception"]).filter goodWord, w ∈ bg := by decide +kernel
theorem xe_rest : ∀ w ∈ (vx_atS RX11 48 "java/lang/IllegalArgumentException" ["java/lang/RuntimeException", "java/lang/Exception"]).filter (fun w => !goodWord w), w ∈ xe_nw := by decide +kernel
theorem xe_ot : ∀ w ∈ Cond.classLink RX11 44 "java/lang/IllegalArgumentException" :: Cond.initialized "java/lang/IllegalArgumentException" :: vx_atS RX11 48 "java/lang/IllegalArgumentException" ["java/lang/RuntimeException", "java/lang/Exception"], vx_ot w = true := by decide +kernel
theorem xe_on : ∀ w ∈ xe_nw, w.onTables = true := by decide +kernel
theorem xe_hat {g : xe_G} {A : Nat → Prop} {s : State} {args : Array Value} (hE : xe_E g A s s.heap) (htb : ∀ w ∈ bg, w.before args s = true) : ∀ w ∈ vx_atS RX11 48 "java/lang/IllegalArgumentException" ["java/lang/RuntimeException", "java/lang/Exception"], w.before args s = true :=
  vx_hat (B := xe_nw) (fun w hw => htb w (xe_good w hw)) xe_rest (fun w hw => va_Nw.use (xe_on w hw) (hE.2.2.2.2.2.2.2.2.1 w hw))
theorem xe_thrown {A : Nat → Prop} {D : va_G} {cl : List vw_C} {ws : va_W} {tys : List (ClassId × FieldType)} {s t : State} {H : Heap} {locs : List Loc} {K : String} {px : Prop} (hpx : px) (hP : va_P D cl ws H) (hK : va_K D cl tys s) (hD : va_D A ws) (hS : va_S A s.heap H locs) (hvm : s.vm.Alike t.vm) (hz : H.size ≤ t.heap.size) (hk : ∀ q : Nat, q < H.size → t.heap[q]? = H[q]?) :
    vx_X (fun _ : Unit => px) (fun E (_ : Unit) t => E = K ∧ xb_B D cl A (fun _ : Unit => ws) (fun _ : Unit => tys) () t) A K s t := by
  refine ⟨(), hpx, ⟨rfl, fun k q hq => va_at.kept (hP k q hq) (hk q.1 (hP k q hq).lt), va_K.moved hvm hK, hD⟩, Nat.le_trans hS.1 hz, fun q hq hA => ?_⟩
  rw [hk q (Nat.lt_of_lt_of_le hq hS.1)]
  exact hS.2.1 q hq hA
section XBX
variable {p : Program} {l : Launch} {e : Env} {R : Room} {s : State} {m : MethodId} {args : Array Value} {below : List Frame} {meth : Method} {c : Code} {H : Heap} {locs : List Loc} {cells slots : Nat} {Q : State → Prop}
variable {D : va_G} {cl : List vw_C} {ws wc wr : va_W} {tys tc : List (ClassId × FieldType)} {A : Nat → Prop} {pc : Nat} {ls : Array Slot} {rest st0 : List Value} {a : Array Value} {mc ms : Nat}
/-- a call that returns or throws K, under one handler that takes it -/
theorem xb_gox {S : Type} {post : Int32 → S → Prop} {W1 : S → va_W} {T1 : S → List (ClassId × FieldType)} {px : Prop} {own K : String} {a0 a1 hpc ct : Nat} (hr : vx_Run p l e R s m args below meth c H locs cells slots mc ms (F0 m pc ls st0) rest (va_Qi post (xb_B D cl (va_A wc H.size) W1 T1) (va_A wc H.size) a) (vx_X (fun _ : Unit => px) (fun E (_ : Unit) t => E = K ∧ xb_B D cl (va_A wc H.size) (fun _ : Unit => wc) (fun _ : Unit => tc) () t) (va_A wc H.size)) (va_A wc H.size))
    (hK : va_K D cl tys s) (hP : va_P D cl ws H) (hD : va_D A ws) (hS : va_S A s.heap H locs) (hA : ∀ q, s.heap.size ≤ q → A q) (isC isR : List Nat) (hC : isC.map (fun i => ws[i]?) = wc.map some) (hR : isR.map (fun i => ws[i]?) = wr.map some) (hnr : va_nd isR = true) (hdis : ∀ i ∈ isR, i ∉ isC)
    (hown : s.vm.findClass own = some m.cls) (hcl : (Cond.classLink own ct K).before args s = true) (htab : c.exceptionTable.toList = tableOf [(a0, a1, hpc, ct)]) (h0 : ct ≠ 0) (hcov : covers ⟨a0, a1, hpc, ct⟩ pc = true)
    (kk : ∀ (r : Int32) (u : S) (H1 : Heap) (locs1 : List Loc), post r u → va_P D cl (wr ++ W1 u) H1 → va_D A (wr ++ W1 u) → va_K D cl (tys ++ T1 u) s → va_S A s.heap H1 locs1 → W p l e R s m args below meth c H1 locs1 (cells + mc) (slots + ms) Q (F0 m (pc + 3) ls (.int r :: rest)))
    (kx : ∀ (x : Nat) (H1 : Heap) (locs1 : List Loc), px → va_P D cl (wr ++ wc) H1 → va_D A (wr ++ wc) → va_S A s.heap H1 locs1 → W p l e R s m args below meth c H1 locs1 (cells + mc) (slots + ms) Q (F0 m hpc ls [.ref x])) : W p l e R s m args below meth c H locs cells slots Q (F0 m pc ls st0) := by
  have hF := va_free hD hS hA isC hC
  refine vx_calli hr hS (fun q _ h => hF q h) hF (fun q _ h => hF q h) (fun E ce q9 u t H1 locs1 ht hvm hpx hBX hz hk1 hS1 hcell hv hcl1 => ?_) (fun r u t H1 locs1 ht hvm hw hB hz1 hk1 hS1 => ?_)
  · obtain ⟨rfl, hP1, -, hD1⟩ := hBX
    rw [ht] at hP1
    obtain ⟨hP2, hD2⟩ := va_join hP hD isC isR hC hR hnr hdis hk1 hF hP1 hD1
    intro T hT X
    obtain ⟨vm2, X2, st2⟩ := xt_caught (g := F0 m pc ls rest) X hown hcl htab h0 rfl hcov (by rw [hT]; exact hcell) hv hcl1 (va_asg _ _)
    obtain ⟨t2, b1, b2⟩ := kx q9 H1 locs1 hpx hP2 hD2 hS1 (T.setVm vm2) hT X2
    exact ⟨t2, st2 t2 b1, b2⟩
  · obtain ⟨hP1, hK1, hD1⟩ := hB
    rw [ht] at hP1
    obtain ⟨hP2, hD2⟩ := va_join hP hD isC isR hC hR hnr hdis hk1 hF hP1 hD1
    exact kk r u H1 locs1 hw hP2 hD2 (hK.app (va_K.moved hvm.symm hK1)) hS1
end XBX

/-! an object of many fields: a list of 82 values, of which some are known -/
def md_has (fs : List Value) (K : List (Nat × Value)) : Prop := fs.length = 82 ∧ ∀ q ∈ K, fs[q.1]? = some q.2
theorem md_at {fs : List Value} {K : List (Nat × Value)} (h : md_has fs K) (j : Nat) {k : Nat} {v : Value} (hj : K[j]? = some (k, v)) : fs[k]? = some v := h.2 (k, v) (List.mem_of_getElem? hj)
theorem md_sub {fs : List Value} {K K' : List (Nat × Value)} (h : md_has fs K) (js : List Nat) (hl : js.filterMap (fun j => K[j]?) = K') : md_has fs K' := by
  refine ⟨h.1, fun q hq => ?_⟩
  rw [← hl] at hq
  obtain ⟨j, -, hj⟩ := List.mem_filterMap.mp hq
  exact h.2 q (List.mem_of_getElem? hj)
theorem md_putD {fs : List Value} {K K' : List (Nat × Value)} (h : md_has fs K) (k : Nat) (v : Value) (hk : k < 82) (hl : K.filter (fun q => !(q.1 == k)) = K') : md_has (fs.set k v) K' := by
  refine ⟨by rw [List.length_set]; exact h.1, fun q hq => ?_⟩
  rw [← hl] at hq
  obtain ⟨h1, h2⟩ := List.mem_filter.mp hq
  have h3 : k ≠ q.1 := fun e => by simp [e] at h2
  rw [List.getElem?_set_ne h3]
  exact h.2 q h1
theorem md_put {fs : List Value} {K K' : List (Nat × Value)} (h : md_has fs K) (k : Nat) (v : Value) (hk : k < 82) (hl : (k, v) :: K.filter (fun q => !(q.1 == k)) = K') : md_has (fs.set k v) K' := by
  have h1 := md_putD h k v hk (K' := K.filter (fun q => !(q.1 == k))) rfl
  refine ⟨h1.1, fun q hq => ?_⟩
  rw [← hl] at hq
  rcases List.mem_cons.mp hq with rfl | hq
  · exact List.getElem?_set_self (by rw [h.1]; exact hk)
  · exact h1.2 q hq
end
section
/-! THE SMALL MACHINE: cells by their addresses, in part unknown; locals by number; what it does, the machine does (my own text) -/
abbrev mi_C : Type := (FieldType × Nat × (Nat → Option Value)) ⊕ (Nat × (Nat → Option Value))
abbrev mi_H : Type := (Nat → Option mi_C) × Nat × Nat
abbrev mi_S : Type := Nat × List (Nat × Value) × List Value × mi_H
abbrev mi_R : Type := Option Value × mi_H
abbrev mi_O : Type := mi_S → Option mi_S
abbrev mi_N : Type := mi_O ⊕ (Nat × Nat × Option Nat) ⊕ (List Value → Option (Option Value))
abbrev mi_B : Type := (Nat → Option mi_N) × (Nat → Option (List Nat))
def mi_ld (lv : List (Nat × Value)) (i : Nat) : Option Value := (lv.find? (fun q => q.1 == i)).map (fun q => q.2)
def mi_pick (lv : List (Nat × Value)) (ks : List Nat) : List (Nat × Value) := ks.filterMap (fun k => lv.find? (fun q => q.1 == k))
def mi_nk (kl : Nat → Option (List Nat)) (S : mi_S) : mi_S := match kl S.1 with
  | some ks => (S.1, mi_pick S.2.1 ks, S.2.2)
  | none => S
def mi_okc (k : Option Nat) (na : Nat) (S : mi_S) : Bool := decide (na ≤ S.2.2.1.length) && decide ((((S.2.2.1.drop na)).map fun v => v.category).sum ≤ 8) && (match k with
  | none => true
  | some ci => match (S.2.2.1.take na).reverse with
    | .ref b :: _ => match S.2.2.2.1 b with
      | some (.inr (c, _)) => c == ci
      | _ => false
    | _ => false)
def mi_loop (tb : mi_B) (call : Nat → List Value → mi_H → Option mi_R) : Nat → mi_S → Option mi_R
  | 0, _ => none
  | n + 1, S => match tb.1 S.1 with
    | some (.inl o) => match o S with
      | some S' => mi_loop tb call n (mi_nk tb.2 S')
      | none => none
    | some (.inr (.inl c)) => match mi_okc c.2.2 c.2.1 S with
      | true => match call c.1 (S.2.2.1.take c.2.1).reverse S.2.2.2 with
        | some r => mi_loop tb call n (mi_nk tb.2 (S.1 + 3, S.2.1, r.1.toList ++ S.2.2.1.drop c.2.1, r.2))
        | none => none
      | false => none
    | some (.inr (.inr f)) => (f S.2.2.1).map (fun v => (v, S.2.2.2))
    | none => none
/-- number of the method, then: how many locals, its table -/
def mi_run (T : Nat → Option (Nat × mi_B)) (n : Nat) : Nat → Nat → List Value → mi_H → Option mi_R
  | 0, _, _, _ => none
  | d + 1, y, a, M => match T y with
    | none => none
    | some b => match decide ((lg_sl a).length ≤ b.1) with
      | true => mi_loop b.2 (mi_run T n d) n (0, lv_args 0 a, [], M)
      | false => none
/-! what the cells say of the heap -/
def mi_ct (ty : FieldType) (n : Nat) (f : Nat → Option Value) (x : vp_A) : Prop := x.1 = n ∧
  ((ty ∈ [FieldType.int, .byte, .char, .short, .boolean] ∧ ∃ h, x.2 = .inl h ∧ ∀ i v, f i = some v → v = .int (h i)) ∨ (ty = .long ∧ ∃ h, x.2 = .inr (.inl h) ∧ ∀ i v, f i = some v → v = .long (h i)) ∨
    ((∃ C, ty = .object C) ∧ ∃ h, x.2 = .inr (.inr (.inr (.inr h))) ∧ ∀ i v, f i = some v → v = va_rf (h i)))
def mi_n (ci : Nat) : Nat := match vwCl[ci]? with
  | some r => r.2.2
  | none => 0
def mi_e (tys : List (ClassId × FieldType)) (c : mi_C) (e : va_E) : Prop := match c with
  | .inl a => ∃ cA x, e = .inl (cA, x) ∧ (cA, a.1) ∈ tys ∧ mi_ct a.1 a.2.1 a.2.2 x
  | .inr o => ∃ fs, e = .inr (o.1, fs) ∧ fs.length = mi_n o.1 ∧ ∀ k v, o.2 k = some v → fs[k]? = some v
def mi_wr (g : xe_G) (a : Nat) (c : mi_C) : Prop := a ≠ g.1 ∧ ∀ o, c = .inr o → o.1 < 100
def mi_in (g : xe_G) (tys : List (ClassId × FieldType)) (ws : va_W) (a : Nat) (c : mi_C) : Prop :=
  (mi_wr g a c ∧ ∃ (k : Nat) (e : va_E), ws[k]? = some (a, e) ∧ mi_e tys c e) ∨ (a = g.1 ∧ ∃ f, c = .inl (.byte, 0, f)) ∨ (∃ k f, k < xe_N ∧ a = g.2.1 k ∧ c = .inr (100 + k, f))
def mi_rel (g : xe_G) (D : va_G) (A : Nat → Prop) (s : State) (M : mi_H) (H : Heap) (ws : va_W) (tys : List (ClassId × FieldType)) : Prop :=
  va_K D vwCl tys s ∧ va_P D vwCl ws H ∧ va_D A ws ∧ H.size = M.2.1 ∧ (∀ a c, M.1 a = some c → mi_in g tys ws a c) ∧ ∀ (k a : Nat) (e : va_E), ws[k]? = some (a, e) → ∃ c, M.1 a = some c ∧ mi_wr g a c
def mi_A (g : xe_G) (M : mi_H) : Nat → Prop := fun q => (∃ c, M.1 q = some c ∧ mi_wr g q c) ∨ M.2.1 ≤ q
def mi_Pre (g : xe_G) (D : va_G) (M : mi_H) (av : List Value) : Array Value → State → Prop := va_Pc av (fun U => ∃ ws tys, mi_rel g D (fun _ => True) U M U.heap ws tys ∧ xe_E g (mi_A g M) U U.heap)
def mi_Q (g : xe_G) (D : va_G) (M : mi_H) (v : Option Value) (M' : mi_H) : Array Value → State → Outcome → State → Prop := fun _ st oc t =>
  (oc = .returned v ∧ ∃ ws tys, mi_rel g D (mi_A g M) t M' t.heap ws tys) ∧ va_F (mi_A g M) st t
def mi_rm (d mc ms : Nat) : Room := { frames := d + 8, cells := mc, slots := ms, locals := 40 * d + 1000 }
/-- what a walk of a method knows all along -/
def mi_cx (own : String) (cc : ByteArray) (nL : Nat) (ini : Bool) (g : xe_G) (D : va_G) (p : Program) (e : Env) (R : Room) (s : State) (m : MethodId) (args : Array Value) (meth : Method) (c : Code) (A : Nat → Prop) : Prop :=
  p.tables.exec = Jvm.exec ∧ c.code = cc ∧ c.maxLocals = nL ∧ s.vm.findClass own = some m.cls ∧ (∀ w ∈ bg, w.before args s = true) ∧ xe_E g A s s.heap ∧ (ini = true → meth.name = "<init>") ∧ (∀ q, s.heap.size ≤ q → A q) ∧ va_K D vwCl [] s ∧ 8 ≤ R.frames ∧ 1000 ≤ R.locals
def mi_W (nL : Nat) (g : xe_G) (D : va_G) (p : Program) (l : Launch) (e : Env) (R : Room) (s : State) (m : MethodId) (args : Array Value) (below : List Frame) (meth : Method) (c : Code) (A : Nat → Prop) (n0 s0 : Nat) (Q : State → Prop) (S : mi_S) : Prop :=
  ∀ H locs ls ws tys, mi_rel g D A s S.2.2.2 H ws tys → lv_has ls nL S.2.1 → va_S A s.heap H locs → W p l e R s m args below meth c H locs (S.2.2.2.2.1 - n0) (S.2.2.2.2.2 - s0) Q (F0 m S.1 ls S.2.2.1)
def mi_sim (g : xe_G) (own : String) (cc : ByteArray) (nL : Nat) (ini : Bool) (pc : Nat) (o : mi_O) : Prop :=
  ∀ lv st M S', o (pc, lv, st, M) = some S' → (M.2.1 ≤ S'.2.2.2.2.1 ∧ M.2.2 ≤ S'.2.2.2.2.2) ∧
    ∀ (D : va_G) (p : Program) (l : Launch) (e : Env) (R : Room) (s : State) (m : MethodId) (args : Array Value) (below : List Frame) (meth : Method) (c : Code) (A : Nat → Prop) (n0 s0 : Nat) (Q : State → Prop),
      mi_cx own cc nL ini g D p e R s m args meth c A → n0 ≤ M.2.1 → s0 ≤ M.2.2 → S'.2.2.2.2.1 - n0 ≤ R.cells → S'.2.2.2.2.2 - s0 ≤ R.slots →
      mi_W nL g D p l e R s m args below meth c A n0 s0 Q S' → mi_W nL g D p l e R s m args below meth c A n0 s0 Q (pc, lv, st, M)
/-- steps that leave heap and locals alone -/
def mi_ps (g : xe_G) (own : String) (cc : ByteArray) (nL : Nat) (ini : Bool) (pc : Nat) (o : mi_O) : Prop :=
  ∀ lv st M S', o (pc, lv, st, M) = some S' → S'.2.2.2 = M ∧ S'.2.1 = lv ∧
    ∀ (D : va_G) (p : Program) (l : Launch) (e : Env) (R : Room) (s : State) (m : MethodId) (args : Array Value) (below : List Frame) (meth : Method) (c : Code) (A : Nat → Prop) (Q : State → Prop) (H : Heap) (locs : List Loc) (ls : Array Slot) (cells slots : Nat) (ws : va_W) (tys : List (ClassId × FieldType)),
      mi_cx own cc nL ini g D p e R s m args meth c A → mi_rel g D A s M H ws tys → lv_has ls nL lv → va_S A s.heap H locs → cells ≤ R.cells → slots ≤ R.slots →
      W p l e R s m args below meth c H locs cells slots Q (F0 m S'.1 ls S'.2.2.1) → W p l e R s m args below meth c H locs cells slots Q (F0 m pc ls st)
theorem mi_ps.sim {g : xe_G} {own : String} {cc : ByteArray} {nL : Nat} {ini : Bool} {pc : Nat} {o : mi_O} (h : mi_ps g own cc nL ini pc o) : mi_sim g own cc nL ini pc o := by
  intro lv st M S' ho
  obtain ⟨pc', lv', st', M'⟩ := S'
  obtain ⟨h1, h2, h3⟩ := h lv st M _ ho
  dsimp only at h1 h2 h3
  subst h1; subst h2
  refine ⟨⟨Nat.le_refl _, Nat.le_refl _⟩, ?_⟩
  intro D p l e R s m args below meth c A n0 s0 Q hc _ _ hR1 hR2 hW H locs ls ws tys hr hl hS
  exact h3 D p l e R s m args below meth c A Q H locs ls _ _ ws tys hc hr hl hS hR1 hR2 (hW H locs ls ws tys hr hl hS)
theorem mi_ld_has {ls : Array Slot} {nL i : Nat} {lv : List (Nat × Value)} {v : Value} (h : lv_has ls nL lv) (hv : mi_ld lv i = some v) : ls[i]? = some (.val v) := by
  unfold mi_ld at hv
  cases hf : lv.find? (fun q => q.1 == i) with
  | none => rw [hf] at hv; cases hv
  | some q =>
    rw [hf] at hv
    have h1 := List.find?_some hf
    have h2 := List.mem_of_find?_eq_some hf
    have h3 : q.1 = i := by simpa using h1
    cases hv
    rw [← h3]
    exact h.2.2 q h2
theorem mi_pick_has {ls : Array Slot} {nL : Nat} {lv : List (Nat × Value)} (h : lv_has ls nL lv) (ks : List Nat) : lv_has ls nL (mi_pick lv ks) := by
  refine ⟨h.1, h.2.1, fun q hq => ?_⟩
  obtain ⟨k, -, hk⟩ := List.mem_filterMap.mp hq
  exact h.2.2 q (List.mem_of_find?_eq_some hk)
theorem mi_nk_W {kl : Nat → Option (List Nat)} {nL : Nat} {g : xe_G} {D : va_G} {p : Program} {l : Launch} {e : Env} {R : Room} {s : State} {m : MethodId} {args : Array Value} {below : List Frame} {meth : Method} {c : Code} {A : Nat → Prop} {n0 s0 : Nat} {Q : State → Prop} {S : mi_S}
    (h : mi_W nL g D p l e R s m args below meth c A n0 s0 Q (mi_nk kl S)) : mi_W nL g D p l e R s m args below meth c A n0 s0 Q S := by
  intro H locs ls ws tys hr hl hS
  unfold mi_nk at h
  split at h
  · exact h H locs ls ws tys hr (mi_pick_has hl _) hS
  · exact h H locs ls ws tys hr hl hS
theorem mi_nk_H {kl : Nat → Option (List Nat)} {S : mi_S} : (mi_nk kl S).2.2 = S.2.2 ∧ (mi_nk kl S).1 = S.1 := by
  unfold mi_nk
  split <;> exact ⟨rfl, rfl⟩
end
section
section MIO
def o_push (v : Value) (n : Nat) : mi_O := fun S => some (S.1 + n, S.2.1, v :: S.2.2.1, S.2.2.2)
theorem sm_iconst {g : xe_G} {own : String} {cc : ByteArray} {nL : Nat} {ini : Bool} {pc : Nat} {n : Int} {v : Int32} (hd : decode cc pc = .ok (.iconst n, 1)) (hv : Int32.ofInt n = v) : mi_ps g own cc nL ini pc (o_push (.int v) 1) := by
  intro lv st M S' h
  unfold o_push at h
  dsimp only at h
  cases h
  refine ⟨rfl, rfl, ?_⟩
  intro D p l e R s m args below meth c A Q H locs ls cells slots ws tys hc hr hl hS hR1 hR2 k
  obtain ⟨hx, hb, hml, hown, htb, hE, hini, hA, hK0, hfr, hlo⟩ := hc
  exact lv_iconst hx hb hd hv k
theorem sm_bipush {g : xe_G} {own : String} {cc : ByteArray} {nL : Nat} {ini : Bool} {pc : Nat} {n : Int} {v : Int32} (hd : decode cc pc = .ok (.bipush n, 2)) (hv : (Int8.ofInt n).toInt32 = v) : mi_ps g own cc nL ini pc (o_push (.int v) 2) := by
  intro lv st M S' h
  unfold o_push at h
  dsimp only at h
  cases h
  refine ⟨rfl, rfl, ?_⟩
  intro D p l e R s m args below meth c A Q H locs ls cells slots ws tys hc hr hl hS hR1 hR2 k
  obtain ⟨hx, hb, hml, hown, htb, hE, hini, hA, hK0, hfr, hlo⟩ := hc
  exact lv_bipush hx hb hd hv k
theorem sm_sipush {g : xe_G} {own : String} {cc : ByteArray} {nL : Nat} {ini : Bool} {pc : Nat} {n : Int} {v : Int32} (hd : decode cc pc = .ok (.sipush n, 3)) (hv : (Int16.ofInt n).toInt32 = v) : mi_ps g own cc nL ini pc (o_push (.int v) 3) := by
  intro lv st M S' h
  unfold o_push at h
  dsimp only at h
  cases h
  refine ⟨rfl, rfl, ?_⟩
  intro D p l e R s m args below meth c A Q H locs ls cells slots ws tys hc hr hl hS hR1 hR2 k
  obtain ⟨hx, hb, hml, hown, htb, hE, hini, hA, hK0, hfr, hlo⟩ := hc
  exact lv_sipush hx hb hd hv k
theorem sm_lconst {g : xe_G} {own : String} {cc : ByteArray} {nL : Nat} {ini : Bool} {pc : Nat} {n : Fin 2} {v : Int64} (hd : decode cc pc = .ok (.lconst n, 1)) (hv : Int64.ofNat (n : Nat) = v) : mi_ps g own cc nL ini pc (o_push (.long v) 1) := by
  intro lv st M S' h
  unfold o_push at h
  dsimp only at h
  cases h
  refine ⟨rfl, rfl, ?_⟩
  intro D p l e R s m args below meth c A Q H locs ls cells slots ws tys hc hr hl hS hR1 hR2 k
  obtain ⟨hx, hb, hml, hown, htb, hE, hini, hA, hK0, hfr, hlo⟩ := hc
  exact lv_lconst hx hb hd hv k
theorem sm_null {g : xe_G} {own : String} {cc : ByteArray} {nL : Nat} {ini : Bool} {pc : Nat} (hd : decode cc pc = .ok (.aconst_null, 1)) : mi_ps g own cc nL ini pc (o_push .null 1) := by
  intro lv st M S' h
  unfold o_push at h
  dsimp only at h
  cases h
  refine ⟨rfl, rfl, ?_⟩
  intro D p l e R s m args below meth c A Q H locs ls cells slots ws tys hc hr hl hS hR1 hR2 k
  obtain ⟨hx, hb, hml, hown, htb, hE, hini, hA, hK0, hfr, hlo⟩ := hc
  exact lv_null hx hb hd k
theorem sm_ldc {g : xe_G} {own : String} {cc : ByteArray} {nL : Nat} {ini : Bool} {pc : Nat} {i : Nat} {v : Int32} (hw : Cond.constant own i v ∈ bg) (hd : decode cc pc = .ok (.ldc i, 2)) : mi_ps g own cc nL ini pc (o_push (.int v) 2) := by
  intro lv st M S' h
  unfold o_push at h
  dsimp only at h
  cases h
  refine ⟨rfl, rfl, ?_⟩
  intro D p l e R s m args below meth c A Q H locs ls cells slots ws tys hc hr hl hS hR1 hR2 k
  obtain ⟨hx, hb, hml, hown, htb, hE, hini, hA, hK0, hfr, hlo⟩ := hc
  exact lv_ldc hx hb hown (htb _ hw) hd k
theorem sm_ldcw {g : xe_G} {own : String} {cc : ByteArray} {nL : Nat} {ini : Bool} {pc : Nat} {i : Nat} {v : Int32} (hw : Cond.constant own i v ∈ bg) (hd : decode cc pc = .ok (.ldc_w i, 3)) : mi_ps g own cc nL ini pc (o_push (.int v) 3) := by
  intro lv st M S' h
  unfold o_push at h
  dsimp only at h
  cases h
  refine ⟨rfl, rfl, ?_⟩
  intro D p l e R s m args below meth c A Q H locs ls cells slots ws tys hc hr hl hS hR1 hR2 k
  obtain ⟨hx, hb, hml, hown, htb, hE, hini, hA, hK0, hfr, hlo⟩ := hc
  exact lv_ldcw hx hb hown (htb _ hw) hd k
theorem sm_ldc2 {g : xe_G} {own : String} {cc : ByteArray} {nL : Nat} {ini : Bool} {pc : Nat} {i : Nat} {v : Int64} (hw : Cond.constantLong own i v ∈ bg) (hd : decode cc pc = .ok (.ldc2_w i, 3)) : mi_ps g own cc nL ini pc (o_push (.long v) 3) := by
  intro lv st M S' h
  unfold o_push at h
  dsimp only at h
  cases h
  refine ⟨rfl, rfl, ?_⟩
  intro D p l e R s m args below meth c A Q H locs ls cells slots ws tys hc hr hl hS hR1 hR2 k
  obtain ⟨hx, hb, hml, hown, htb, hE, hini, hA, hK0, hfr, hlo⟩ := hc
  exact lv_ldc2 hx hb hown (htb _ hw) hd k
def o_iload (i n : Nat) : mi_O := fun S => match mi_ld S.2.1 i with
  | some (.int x) => some (S.1 + n, S.2.1, .int x :: S.2.2.1, S.2.2.2)
  | _ => none
theorem sm_iload_n {g : xe_G} {own : String} {cc : ByteArray} {nL : Nat} {ini : Bool} {pc : Nat} {i : Nat} {k : Fin 4} (hd : decode cc pc = .ok (.iload_n k, 1)) (hi : (k : Nat) = i) : mi_ps g own cc nL ini pc (o_iload i 1) := by
  intro lv st M S' h
  unfold o_iload at h
  dsimp only at h
  split at h
  · cases h
    refine ⟨rfl, rfl, ?_⟩
    intro D p l e R s m args below meth c A Q H locs ls cells slots ws tys hc hr hl hS hR1 hR2 k
    obtain ⟨hx, hb, hml, hown, htb, hE, hini, hA, hK0, hfr, hlo⟩ := hc
    rename_i x h9
    exact lv_iload_n hx hb hd hi (mi_ld_has hl h9) k
  · cases h
theorem sm_iload {g : xe_G} {own : String} {cc : ByteArray} {nL : Nat} {ini : Bool} {pc : Nat} {i : Nat} (hd : decode cc pc = .ok (.iload i, 2)) : mi_ps g own cc nL ini pc (o_iload i 2) := by
  intro lv st M S' h
  unfold o_iload at h
  dsimp only at h
  split at h
  · cases h
    refine ⟨rfl, rfl, ?_⟩
    intro D p l e R s m args below meth c A Q H locs ls cells slots ws tys hc hr hl hS hR1 hR2 k
    obtain ⟨hx, hb, hml, hown, htb, hE, hini, hA, hK0, hfr, hlo⟩ := hc
    rename_i x h9
    exact lv_iload hx hb hd (mi_ld_has hl h9) k
  · cases h
def o_lload (i n : Nat) : mi_O := fun S => match mi_ld S.2.1 i with
  | some (.long x) => some (S.1 + n, S.2.1, .long x :: S.2.2.1, S.2.2.2)
  | _ => none
theorem sm_lload_n {g : xe_G} {own : String} {cc : ByteArray} {nL : Nat} {ini : Bool} {pc : Nat} {i : Nat} {k : Fin 4} (hd : decode cc pc = .ok (.lload_n k, 1)) (hi : (k : Nat) = i) : mi_ps g own cc nL ini pc (o_lload i 1) := by
  intro lv st M S' h
  unfold o_lload at h
  dsimp only at h
  split at h
  · cases h
    refine ⟨rfl, rfl, ?_⟩
    intro D p l e R s m args below meth c A Q H locs ls cells slots ws tys hc hr hl hS hR1 hR2 k
    obtain ⟨hx, hb, hml, hown, htb, hE, hini, hA, hK0, hfr, hlo⟩ := hc
    rename_i x h9
    exact lv_lload_n hx hb hd hi (mi_ld_has hl h9) k
  · cases h
theorem sm_lload {g : xe_G} {own : String} {cc : ByteArray} {nL : Nat} {ini : Bool} {pc : Nat} {i : Nat} (hd : decode cc pc = .ok (.lload i, 2)) : mi_ps g own cc nL ini pc (o_lload i 2) := by
  intro lv st M S' h
  unfold o_lload at h
  dsimp only at h
  split at h
  · cases h
    refine ⟨rfl, rfl, ?_⟩
    intro D p l e R s m args below meth c A Q H locs ls cells slots ws tys hc hr hl hS hR1 hR2 k
    obtain ⟨hx, hb, hml, hown, htb, hE, hini, hA, hK0, hfr, hlo⟩ := hc
    rename_i x h9
    exact lv_lload hx hb hd (mi_ld_has hl h9) k
  · cases h
def o_aload (i n : Nat) : mi_O := fun S => match mi_ld S.2.1 i with
  | some (.ref x) => some (S.1 + n, S.2.1, .ref x :: S.2.2.1, S.2.2.2)
  | some .null => some (S.1 + n, S.2.1, .null :: S.2.2.1, S.2.2.2)
  | _ => none
theorem sm_aload_n {g : xe_G} {own : String} {cc : ByteArray} {nL : Nat} {ini : Bool} {pc : Nat} {i : Nat} {k : Fin 4} (hd : decode cc pc = .ok (.aload_n k, 1)) (hi : (k : Nat) = i) : mi_ps g own cc nL ini pc (o_aload i 1) := by
  intro lv st M S' h
  unfold o_aload at h
  dsimp only at h
  split at h
  · cases h
    refine ⟨rfl, rfl, ?_⟩
    intro D p l e R s m args below meth c A Q H locs ls cells slots ws tys hc hr hl hS hR1 hR2 k
    obtain ⟨hx, hb, hml, hown, htb, hE, hini, hA, hK0, hfr, hlo⟩ := hc
    rename_i x h9
    exact lv_aload_n hx hb hd hi (mi_ld_has hl h9) k
  · cases h
    refine ⟨rfl, rfl, ?_⟩
    intro D p l e R s m args below meth c A Q H locs ls cells slots ws tys hc hr hl hS hR1 hR2 k
    obtain ⟨hx, hb, hml, hown, htb, hE, hini, hA, hK0, hfr, hlo⟩ := hc
    rename_i h9
    exact lv_aload_nN hx hb hd hi (mi_ld_has hl h9) k
  · cases h
theorem sm_aload {g : xe_G} {own : String} {cc : ByteArray} {nL : Nat} {ini : Bool} {pc : Nat} {i : Nat} (hd : decode cc pc = .ok (.aload i, 2)) : mi_ps g own cc nL ini pc (o_aload i 2) := by
  intro lv st M S' h
  unfold o_aload at h
  dsimp only at h
  split at h
  · cases h
    refine ⟨rfl, rfl, ?_⟩
    intro D p l e R s m args below meth c A Q H locs ls cells slots ws tys hc hr hl hS hR1 hR2 k
    obtain ⟨hx, hb, hml, hown, htb, hE, hini, hA, hK0, hfr, hlo⟩ := hc
    rename_i x h9
    exact lv_aload hx hb hd (mi_ld_has hl h9) k
  · cases h
    refine ⟨rfl, rfl, ?_⟩
    intro D p l e R s m args below meth c A Q H locs ls cells slots ws tys hc hr hl hS hR1 hR2 k
    obtain ⟨hx, hb, hml, hown, htb, hE, hini, hA, hK0, hfr, hlo⟩ := hc
    rename_i h9
    exact lv_aloadN hx hb hd (mi_ld_has hl h9) k
  · cases h
def o_bin (f : Int32 → Int32 → Int32) (n : Nat) : mi_O := fun S => match S.2.2.1 with
  | .int y :: .int x :: st => some (S.1 + n, S.2.1, .int (f x y) :: st, S.2.2.2)
  | _ => none
theorem sm_iadd {g : xe_G} {own : String} {cc : ByteArray} {nL : Nat} {ini : Bool} {pc : Nat} (hd : decode cc pc = .ok (.iadd, 1)) : mi_ps g own cc nL ini pc (o_bin (fun x y => x + y) 1) := by
  intro lv st M S' h
  unfold o_bin at h
  dsimp only at h
  split at h
  · cases h
    refine ⟨rfl, rfl, ?_⟩
    intro D p l e R s m args below meth c A Q H locs ls cells slots ws tys hc hr hl hS hR1 hR2 k
    obtain ⟨hx, hb, hml, hown, htb, hE, hini, hA, hK0, hfr, hlo⟩ := hc
    exact lv_iadd hx hb hd k
  · cases h
theorem sm_isub {g : xe_G} {own : String} {cc : ByteArray} {nL : Nat} {ini : Bool} {pc : Nat} (hd : decode cc pc = .ok (.isub, 1)) : mi_ps g own cc nL ini pc (o_bin (fun x y => x - y) 1) := by
  intro lv st M S' h
  unfold o_bin at h
  dsimp only at h
  split at h
  · cases h
    refine ⟨rfl, rfl, ?_⟩
    intro D p l e R s m args below meth c A Q H locs ls cells slots ws tys hc hr hl hS hR1 hR2 k
    obtain ⟨hx, hb, hml, hown, htb, hE, hini, hA, hK0, hfr, hlo⟩ := hc
    exact lv_isub hx hb hd k
  · cases h
theorem sm_imul {g : xe_G} {own : String} {cc : ByteArray} {nL : Nat} {ini : Bool} {pc : Nat} (hd : decode cc pc = .ok (.imul, 1)) : mi_ps g own cc nL ini pc (o_bin (fun x y => x * y) 1) := by
  intro lv st M S' h
  unfold o_bin at h
  dsimp only at h
  split at h
  · cases h
    refine ⟨rfl, rfl, ?_⟩
    intro D p l e R s m args below meth c A Q H locs ls cells slots ws tys hc hr hl hS hR1 hR2 k
    obtain ⟨hx, hb, hml, hown, htb, hE, hini, hA, hK0, hfr, hlo⟩ := hc
    exact lv_imul hx hb hd k
  · cases h
theorem sm_iand {g : xe_G} {own : String} {cc : ByteArray} {nL : Nat} {ini : Bool} {pc : Nat} (hd : decode cc pc = .ok (.iand, 1)) : mi_ps g own cc nL ini pc (o_bin (fun x y => x &&& y) 1) := by
  intro lv st M S' h
  unfold o_bin at h
  dsimp only at h
  split at h
  · cases h
    refine ⟨rfl, rfl, ?_⟩
    intro D p l e R s m args below meth c A Q H locs ls cells slots ws tys hc hr hl hS hR1 hR2 k
    obtain ⟨hx, hb, hml, hown, htb, hE, hini, hA, hK0, hfr, hlo⟩ := hc
    exact lv_iand hx hb hd k
  · cases h
theorem sm_ior {g : xe_G} {own : String} {cc : ByteArray} {nL : Nat} {ini : Bool} {pc : Nat} (hd : decode cc pc = .ok (.ior, 1)) : mi_ps g own cc nL ini pc (o_bin (fun x y => x ||| y) 1) := by
  intro lv st M S' h
  unfold o_bin at h
  dsimp only at h
  split at h
  · cases h
    refine ⟨rfl, rfl, ?_⟩
    intro D p l e R s m args below meth c A Q H locs ls cells slots ws tys hc hr hl hS hR1 hR2 k
    obtain ⟨hx, hb, hml, hown, htb, hE, hini, hA, hK0, hfr, hlo⟩ := hc
    exact lv_ior hx hb hd k
  · cases h
theorem sm_ixor {g : xe_G} {own : String} {cc : ByteArray} {nL : Nat} {ini : Bool} {pc : Nat} (hd : decode cc pc = .ok (.ixor, 1)) : mi_ps g own cc nL ini pc (o_bin (fun x y => x ^^^ y) 1) := by
  intro lv st M S' h
  unfold o_bin at h
  dsimp only at h
  split at h
  · cases h
    refine ⟨rfl, rfl, ?_⟩
    intro D p l e R s m args below meth c A Q H locs ls cells slots ws tys hc hr hl hS hR1 hR2 k
    obtain ⟨hx, hb, hml, hown, htb, hE, hini, hA, hK0, hfr, hlo⟩ := hc
    exact lv_ixor hx hb hd k
  · cases h
theorem sm_ishl {g : xe_G} {own : String} {cc : ByteArray} {nL : Nat} {ini : Bool} {pc : Nat} (hd : decode cc pc = .ok (.ishl, 1)) : mi_ps g own cc nL ini pc (o_bin (fun x y => x <<< (y &&& 31)) 1) := by
  intro lv st M S' h
  unfold o_bin at h
  dsimp only at h
  split at h
  · cases h
    refine ⟨rfl, rfl, ?_⟩
    intro D p l e R s m args below meth c A Q H locs ls cells slots ws tys hc hr hl hS hR1 hR2 k
    obtain ⟨hx, hb, hml, hown, htb, hE, hini, hA, hK0, hfr, hlo⟩ := hc
    exact lv_ishl hx hb hd k
  · cases h
theorem sm_ishr {g : xe_G} {own : String} {cc : ByteArray} {nL : Nat} {ini : Bool} {pc : Nat} (hd : decode cc pc = .ok (.ishr, 1)) : mi_ps g own cc nL ini pc (o_bin (fun x y => x >>> (y &&& 31)) 1) := by
  intro lv st M S' h
  unfold o_bin at h
  dsimp only at h
  split at h
  · cases h
    refine ⟨rfl, rfl, ?_⟩
    intro D p l e R s m args below meth c A Q H locs ls cells slots ws tys hc hr hl hS hR1 hR2 k
    obtain ⟨hx, hb, hml, hown, htb, hE, hini, hA, hK0, hfr, hlo⟩ := hc
    exact lv_ishr hx hb hd k
  · cases h
theorem sm_iushr {g : xe_G} {own : String} {cc : ByteArray} {nL : Nat} {ini : Bool} {pc : Nat} (hd : decode cc pc = .ok (.iushr, 1)) : mi_ps g own cc nL ini pc (o_bin (fun x y => (x.toUInt32 >>> (y.toUInt32 &&& Int32.toUInt32 31)).toInt32) 1) := by
  intro lv st M S' h
  unfold o_bin at h
  dsimp only at h
  split at h
  · cases h
    refine ⟨rfl, rfl, ?_⟩
    intro D p l e R s m args below meth c A Q H locs ls cells slots ws tys hc hr hl hS hR1 hR2 k
    obtain ⟨hx, hb, hml, hown, htb, hE, hini, hA, hK0, hfr, hlo⟩ := hc
    exact lv_iushr hx hb hd rfl k
  · cases h
def o_div (f : Int32 → Int32 → Int32) : mi_O := fun S => match S.2.2.1 with
  | .int y :: .int x :: st => if y = 0 then none else some (S.1 + 1, S.2.1, .int (f x y) :: st, S.2.2.2)
  | _ => none
theorem sm_idiv {g : xe_G} {own : String} {cc : ByteArray} {nL : Nat} {ini : Bool} {pc : Nat} (hd : decode cc pc = .ok (.idiv, 1)) : mi_ps g own cc nL ini pc (o_div (fun x y => x / y)) := by
  intro lv st M S' h
  unfold o_div at h
  dsimp only at h
  split at h
  · split at h
    · cases h
    · rename_i hy
      cases h
      refine ⟨rfl, rfl, ?_⟩
      intro D p l e R s m args below meth c A Q H locs ls cells slots ws tys hc hr hl hS hR1 hR2 k
      obtain ⟨hx, hb, hml, hown, htb, hE, hini, hA, hK0, hfr, hlo⟩ := hc
      exact lv_idiv hx hb hd hy k
  · cases h
theorem sm_irem {g : xe_G} {own : String} {cc : ByteArray} {nL : Nat} {ini : Bool} {pc : Nat} (hd : decode cc pc = .ok (.irem, 1)) : mi_ps g own cc nL ini pc (o_div (fun x y => x - x / y * y)) := by
  intro lv st M S' h
  unfold o_div at h
  dsimp only at h
  split at h
  · split at h
    · cases h
    · rename_i hy
      cases h
      refine ⟨rfl, rfl, ?_⟩
      intro D p l e R s m args below meth c A Q H locs ls cells slots ws tys hc hr hl hS hR1 hR2 k
      obtain ⟨hx, hb, hml, hown, htb, hE, hini, hA, hK0, hfr, hlo⟩ := hc
      exact lv_irem hx hb hd hy k
  · cases h
def o_mm (f : Int32 → Int32 → Int32) : mi_O := fun S => match S.2.2.1 with
  | .int y :: .int x :: st => if (st.map fun v => v.category).sum ≤ 8 then some (S.1 + 3, S.2.1, .int (f x y) :: st, S.2.2.2) else none
  | _ => none
theorem sm_mmin {g : xe_G} {own : String} {cc : ByteArray} {nL : Nat} {ini : Bool} {pc : Nat} {i : Nat} (h1 : Cond.methodLink own i Lib.Math.min.name ∈ bg) (h2 : Cond.static Lib.Math.min.name ∈ bg) (h3 : Cond.initialized "java/lang/Math" ∈ bg) (h4 : Cond.code Lib.Math.min.name Lib.Math.min.code 2 (some .int) ∈ bg) (hd : decode cc pc = .ok (.invokestatic i, 3)) : mi_ps g own cc nL ini pc (o_mm (fun x y => if y < x then y else x)) := by
  intro lv st M S' h
  unfold o_mm at h
  dsimp only at h
  split at h
  · split at h
    · rename_i hy
      cases h
      refine ⟨rfl, rfl, ?_⟩
      intro D p l e R s m args below meth c A Q H locs ls cells slots ws tys hc hr hl hS hR1 hR2 k
      obtain ⟨hx, hb, hml, hown, htb, hE, hini, hA, hK0, hfr, hlo⟩ := hc
      exact va_mmin hx hb (hml.trans hl.1.symm) hown (htb _ h1) (htb _ h2) (htb _ h3) (htb _ h4) (by omega) (by omega) hR1 hR2 hd k
    · cases h
  · cases h
theorem sm_mmax {g : xe_G} {own : String} {cc : ByteArray} {nL : Nat} {ini : Bool} {pc : Nat} {i : Nat} (h1 : Cond.methodLink own i Lib.Math.max.name ∈ bg) (h2 : Cond.static Lib.Math.max.name ∈ bg) (h3 : Cond.initialized "java/lang/Math" ∈ bg) (h4 : Cond.code Lib.Math.max.name Lib.Math.max.code 2 (some .int) ∈ bg) (hd : decode cc pc = .ok (.invokestatic i, 3)) : mi_ps g own cc nL ini pc (o_mm (fun x y => if x < y then y else x)) := by
  intro lv st M S' h
  unfold o_mm at h
  dsimp only at h
  split at h
  · split at h
    · rename_i hy
      cases h
      refine ⟨rfl, rfl, ?_⟩
      intro D p l e R s m args below meth c A Q H locs ls cells slots ws tys hc hr hl hS hR1 hR2 k
      obtain ⟨hx, hb, hml, hown, htb, hE, hini, hA, hK0, hfr, hlo⟩ := hc
      exact va_mmax hx hb (hml.trans hl.1.symm) hown (htb _ h1) (htb _ h2) (htb _ h3) (htb _ h4) (by omega) (by omega) hR1 hR2 hd k
    · cases h
  · cases h
def o_binL (f : Int64 → Int64 → Int64) : mi_O := fun S => match S.2.2.1 with
  | .long y :: .long x :: st => some (S.1 + 1, S.2.1, .long (f x y) :: st, S.2.2.2)
  | _ => none
theorem sm_ladd {g : xe_G} {own : String} {cc : ByteArray} {nL : Nat} {ini : Bool} {pc : Nat} (hd : decode cc pc = .ok (.ladd, 1)) : mi_ps g own cc nL ini pc (o_binL (fun x y => x + y)) := by
  intro lv st M S' h
  unfold o_binL at h
  dsimp only at h
  split at h
  · cases h
    refine ⟨rfl, rfl, ?_⟩
    intro D p l e R s m args below meth c A Q H locs ls cells slots ws tys hc hr hl hS hR1 hR2 k
    obtain ⟨hx, hb, hml, hown, htb, hE, hini, hA, hK0, hfr, hlo⟩ := hc
    exact lv_ladd hx hb hd k
  · cases h
theorem sm_lsub {g : xe_G} {own : String} {cc : ByteArray} {nL : Nat} {ini : Bool} {pc : Nat} (hd : decode cc pc = .ok (.lsub, 1)) : mi_ps g own cc nL ini pc (o_binL (fun x y => x - y)) := by
  intro lv st M S' h
  unfold o_binL at h
  dsimp only at h
  split at h
  · cases h
    refine ⟨rfl, rfl, ?_⟩
    intro D p l e R s m args below meth c A Q H locs ls cells slots ws tys hc hr hl hS hR1 hR2 k
    obtain ⟨hx, hb, hml, hown, htb, hE, hini, hA, hK0, hfr, hlo⟩ := hc
    exact lv_lsub hx hb hd k
  · cases h
theorem sm_lmul {g : xe_G} {own : String} {cc : ByteArray} {nL : Nat} {ini : Bool} {pc : Nat} (hd : decode cc pc = .ok (.lmul, 1)) : mi_ps g own cc nL ini pc (o_binL (fun x y => x * y)) := by
  intro lv st M S' h
  unfold o_binL at h
  dsimp only at h
  split at h
  · cases h
    refine ⟨rfl, rfl, ?_⟩
    intro D p l e R s m args below meth c A Q H locs ls cells slots ws tys hc hr hl hS hR1 hR2 k
    obtain ⟨hx, hb, hml, hown, htb, hE, hini, hA, hK0, hfr, hlo⟩ := hc
    exact lv_lmul hx hb hd k
  · cases h
theorem sm_land {g : xe_G} {own : String} {cc : ByteArray} {nL : Nat} {ini : Bool} {pc : Nat} (hd : decode cc pc = .ok (.land, 1)) : mi_ps g own cc nL ini pc (o_binL (fun x y => x &&& y)) := by
  intro lv st M S' h
  unfold o_binL at h
  dsimp only at h
  split at h
  · cases h
    refine ⟨rfl, rfl, ?_⟩
    intro D p l e R s m args below meth c A Q H locs ls cells slots ws tys hc hr hl hS hR1 hR2 k
    obtain ⟨hx, hb, hml, hown, htb, hE, hini, hA, hK0, hfr, hlo⟩ := hc
    exact lv_land hx hb hd k
  · cases h
theorem sm_lor {g : xe_G} {own : String} {cc : ByteArray} {nL : Nat} {ini : Bool} {pc : Nat} (hd : decode cc pc = .ok (.lor, 1)) : mi_ps g own cc nL ini pc (o_binL (fun x y => x ||| y)) := by
  intro lv st M S' h
  unfold o_binL at h
  dsimp only at h
  split at h
  · cases h
    refine ⟨rfl, rfl, ?_⟩
    intro D p l e R s m args below meth c A Q H locs ls cells slots ws tys hc hr hl hS hR1 hR2 k
    obtain ⟨hx, hb, hml, hown, htb, hE, hini, hA, hK0, hfr, hlo⟩ := hc
    exact lv_lor hx hb hd k
  · cases h
def o_lshl : mi_O := fun S => match S.2.2.1 with
  | .int y :: .long x :: st => some (S.1 + 1, S.2.1, .long (x <<< (y.toInt64 &&& 63)) :: st, S.2.2.2)
  | _ => none
theorem sm_lshl {g : xe_G} {own : String} {cc : ByteArray} {nL : Nat} {ini : Bool} {pc : Nat} (hd : decode cc pc = .ok (.lshl, 1)) : mi_ps g own cc nL ini pc o_lshl := by
  intro lv st M S' h
  unfold o_lshl at h
  dsimp only at h
  split at h
  · cases h
    refine ⟨rfl, rfl, ?_⟩
    intro D p l e R s m args below meth c A Q H locs ls cells slots ws tys hc hr hl hS hR1 hR2 k
    obtain ⟨hx, hb, hml, hown, htb, hE, hini, hA, hK0, hfr, hlo⟩ := hc
    exact lv_lshl hx hb hd rfl k
  · cases h
def o_lcmp : mi_O := fun S => match S.2.2.1 with
  | .long y :: .long x :: st => some (S.1 + 1, S.2.1, .int (lg_cmp x y) :: st, S.2.2.2)
  | _ => none
theorem sm_lcmp {g : xe_G} {own : String} {cc : ByteArray} {nL : Nat} {ini : Bool} {pc : Nat} (hd : decode cc pc = .ok (.lcmp, 1)) : mi_ps g own cc nL ini pc o_lcmp := by
  intro lv st M S' h
  unfold o_lcmp at h
  dsimp only at h
  split at h
  · cases h
    refine ⟨rfl, rfl, ?_⟩
    intro D p l e R s m args below meth c A Q H locs ls cells slots ws tys hc hr hl hS hR1 hR2 k
    obtain ⟨hx, hb, hml, hown, htb, hE, hini, hA, hK0, hfr, hlo⟩ := hc
    exact W.lcmp hx hb hd k
  · cases h
def o_un (f : Int32 → Int32) : mi_O := fun S => match S.2.2.1 with
  | .int x :: st => some (S.1 + 1, S.2.1, .int (f x) :: st, S.2.2.2)
  | _ => none
theorem sm_i2b {g : xe_G} {own : String} {cc : ByteArray} {nL : Nat} {ini : Bool} {pc : Nat} (hd : decode cc pc = .ok (.i2b, 1)) : mi_ps g own cc nL ini pc (o_un (fun x => x.toInt8.toInt32)) := by
  intro lv st M S' h
  unfold o_un at h
  dsimp only at h
  split at h
  · cases h
    refine ⟨rfl, rfl, ?_⟩
    intro D p l e R s m args below meth c A Q H locs ls cells slots ws tys hc hr hl hS hR1 hR2 k
    obtain ⟨hx, hb, hml, hown, htb, hE, hini, hA, hK0, hfr, hlo⟩ := hc
    exact lv_i2b hx hb hd rfl k
  · cases h
theorem sm_i2s {g : xe_G} {own : String} {cc : ByteArray} {nL : Nat} {ini : Bool} {pc : Nat} (hd : decode cc pc = .ok (.i2s, 1)) : mi_ps g own cc nL ini pc (o_un (fun x => x.toInt16.toInt32)) := by
  intro lv st M S' h
  unfold o_un at h
  dsimp only at h
  split at h
  · cases h
    refine ⟨rfl, rfl, ?_⟩
    intro D p l e R s m args below meth c A Q H locs ls cells slots ws tys hc hr hl hS hR1 hR2 k
    obtain ⟨hx, hb, hml, hown, htb, hE, hini, hA, hK0, hfr, hlo⟩ := hc
    exact lv_i2s hx hb hd rfl k
  · cases h
theorem sm_i2c {g : xe_G} {own : String} {cc : ByteArray} {nL : Nat} {ini : Bool} {pc : Nat} (hd : decode cc pc = .ok (.i2c, 1)) : mi_ps g own cc nL ini pc (o_un (fun x => (x.toUInt32 % 65536).toInt32)) := by
  intro lv st M S' h
  unfold o_un at h
  dsimp only at h
  split at h
  · cases h
    refine ⟨rfl, rfl, ?_⟩
    intro D p l e R s m args below meth c A Q H locs ls cells slots ws tys hc hr hl hS hR1 hR2 k
    obtain ⟨hx, hb, hml, hown, htb, hE, hini, hA, hK0, hfr, hlo⟩ := hc
    exact lv_i2c hx hb hd rfl k
  · cases h
def o_i2l : mi_O := fun S => match S.2.2.1 with
  | .int x :: st => some (S.1 + 1, S.2.1, .long x.toInt64 :: st, S.2.2.2)
  | _ => none
theorem sm_i2l {g : xe_G} {own : String} {cc : ByteArray} {nL : Nat} {ini : Bool} {pc : Nat} (hd : decode cc pc = .ok (.i2l, 1)) : mi_ps g own cc nL ini pc o_i2l := by
  intro lv st M S' h
  unfold o_i2l at h
  dsimp only at h
  split at h
  · cases h
    refine ⟨rfl, rfl, ?_⟩
    intro D p l e R s m args below meth c A Q H locs ls cells slots ws tys hc hr hl hS hR1 hR2 k
    obtain ⟨hx, hb, hml, hown, htb, hE, hini, hA, hK0, hfr, hlo⟩ := hc
    exact lv_i2l hx hb hd rfl k
  · cases h
def o_l2i : mi_O := fun S => match S.2.2.1 with
  | .long x :: st => some (S.1 + 1, S.2.1, .int x.toInt32 :: st, S.2.2.2)
  | _ => none
theorem sm_l2i {g : xe_G} {own : String} {cc : ByteArray} {nL : Nat} {ini : Bool} {pc : Nat} (hd : decode cc pc = .ok (.l2i, 1)) : mi_ps g own cc nL ini pc o_l2i := by
  intro lv st M S' h
  unfold o_l2i at h
  dsimp only at h
  split at h
  · cases h
    refine ⟨rfl, rfl, ?_⟩
    intro D p l e R s m args below meth c A Q H locs ls cells slots ws tys hc hr hl hS hR1 hR2 k
    obtain ⟨hx, hb, hml, hown, htb, hE, hini, hA, hK0, hfr, hlo⟩ := hc
    exact lv_l2i hx hb hd rfl k
  · cases h
def o_dup : mi_O := fun S => match S.2.2.1 with
  | v :: st => if v.category = 1 then some (S.1 + 1, S.2.1, v :: v :: st, S.2.2.2) else none
  | _ => none
def o_pop : mi_O := fun S => match S.2.2.1 with
  | v :: st => if v.category = 1 then some (S.1 + 1, S.2.1, st, S.2.2.2) else none
  | _ => none
def o_dup_x1 : mi_O := fun S => match S.2.2.1 with
  | v :: w :: st => if v.category = 1 ∧ w.category = 1 then some (S.1 + 1, S.2.1, v :: w :: v :: st, S.2.2.2) else none
  | _ => none
def o_dup2 : mi_O := fun S => match S.2.2.1 with
  | v :: w :: st => if v.category = 1 ∧ w.category = 1 then some (S.1 + 1, S.2.1, v :: w :: v :: w :: st, S.2.2.2) else none
  | _ => none
theorem sm_dup {g : xe_G} {own : String} {cc : ByteArray} {nL : Nat} {ini : Bool} {pc : Nat} (hd : decode cc pc = .ok (.dup, 1)) : mi_ps g own cc nL ini pc o_dup := by
  intro lv st M S' h
  unfold o_dup at h
  dsimp only at h
  split at h
  · split at h
    · rename_i hy
      cases h
      refine ⟨rfl, rfl, ?_⟩
      intro D p l e R s m args below meth c A Q H locs ls cells slots ws tys hc hr hl hS hR1 hR2 k
      obtain ⟨hx, hb, hml, hown, htb, hE, hini, hA, hK0, hfr, hlo⟩ := hc
      exact lv_dup hx hb hd hy k
    · cases h
  · cases h
theorem sm_pop {g : xe_G} {own : String} {cc : ByteArray} {nL : Nat} {ini : Bool} {pc : Nat} (hd : decode cc pc = .ok (.pop, 1)) : mi_ps g own cc nL ini pc o_pop := by
  intro lv st M S' h
  unfold o_pop at h
  dsimp only at h
  split at h
  · split at h
    · rename_i hy
      cases h
      refine ⟨rfl, rfl, ?_⟩
      intro D p l e R s m args below meth c A Q H locs ls cells slots ws tys hc hr hl hS hR1 hR2 k
      obtain ⟨hx, hb, hml, hown, htb, hE, hini, hA, hK0, hfr, hlo⟩ := hc
      exact lv_pop hx hb hd hy k
    · cases h
  · cases h
theorem sm_dup_x1 {g : xe_G} {own : String} {cc : ByteArray} {nL : Nat} {ini : Bool} {pc : Nat} (hd : decode cc pc = .ok (.dup_x1, 1)) : mi_ps g own cc nL ini pc o_dup_x1 := by
  intro lv st M S' h
  unfold o_dup_x1 at h
  dsimp only at h
  split at h
  · split at h
    · rename_i hy
      cases h
      refine ⟨rfl, rfl, ?_⟩
      intro D p l e R s m args below meth c A Q H locs ls cells slots ws tys hc hr hl hS hR1 hR2 k
      obtain ⟨hx, hb, hml, hown, htb, hE, hini, hA, hK0, hfr, hlo⟩ := hc
      exact lv_dup_x1 hx hb hd hy.1 hy.2 k
    · cases h
  · cases h
theorem sm_dup2 {g : xe_G} {own : String} {cc : ByteArray} {nL : Nat} {ini : Bool} {pc : Nat} (hd : decode cc pc = .ok (.dup2, 1)) : mi_ps g own cc nL ini pc o_dup2 := by
  intro lv st M S' h
  unfold o_dup2 at h
  dsimp only at h
  split at h
  · split at h
    · rename_i hy
      cases h
      refine ⟨rfl, rfl, ?_⟩
      intro D p l e R s m args below meth c A Q H locs ls cells slots ws tys hc hr hl hS hR1 hR2 k
      obtain ⟨hx, hb, hml, hown, htb, hE, hini, hA, hK0, hfr, hlo⟩ := hc
      exact lv_dup2_11 hx hb hd hy.1 hy.2 k
    · cases h
  · cases h
def o_if (f : Int32 → Bool) (t : Nat) : mi_O := fun S => match S.2.2.1 with
  | .int x :: st => some ((match f x with | true => t | false => S.1 + 3), S.2.1, st, S.2.2.2)
  | _ => none
def o_if2 (f : Int32 → Int32 → Bool) (t : Nat) : mi_O := fun S => match S.2.2.1 with
  | .int y :: .int x :: st => some ((match f x y with | true => t | false => S.1 + 3), S.2.1, st, S.2.2.2)
  | _ => none
theorem sm_if_eq {g : xe_G} {own : String} {cc : ByteArray} {nL : Nat} {ini : Bool} {pc : Nat} {off : Int} {t : Nat} (hd : decode cc pc = .ok (.ifCond .eq off, 3)) (ht : (pc : Int) + off = (t : Int)) : mi_ps g own cc nL ini pc (o_if (fun x => decide (x = 0)) t) := by
  intro lv st M S' h
  unfold o_if at h
  dsimp only at h
  split at h
  · cases h
    refine ⟨rfl, rfl, ?_⟩
    intro D p l e R s m args below meth c A Q H locs ls cells slots ws tys hc hr hl hS hR1 hR2 k
    obtain ⟨hx, hb, hml, hown, htb, hE, hini, hA, hK0, hfr, hlo⟩ := hc
    exact lv_if_eq hx hb hd ht (fun h9 => by simpa only [decide_eq_true h9] using k) (fun h9 => by simpa only [decide_eq_false h9] using k)
  · cases h
theorem sm_icmp_eq {g : xe_G} {own : String} {cc : ByteArray} {nL : Nat} {ini : Bool} {pc : Nat} {off : Int} {t : Nat} (hd : decode cc pc = .ok (.if_icmp .eq off, 3)) (ht : (pc : Int) + off = (t : Int)) : mi_ps g own cc nL ini pc (o_if2 (fun x y => decide (x = y)) t) := by
  intro lv st M S' h
  unfold o_if2 at h
  dsimp only at h
  split at h
  · cases h
    refine ⟨rfl, rfl, ?_⟩
    intro D p l e R s m args below meth c A Q H locs ls cells slots ws tys hc hr hl hS hR1 hR2 k
    obtain ⟨hx, hb, hml, hown, htb, hE, hini, hA, hK0, hfr, hlo⟩ := hc
    exact lv_icmp_eq hx hb hd ht (fun h9 => by simpa only [decide_eq_true h9] using k) (fun h9 => by simpa only [decide_eq_false h9] using k)
  · cases h
theorem sm_if_ne {g : xe_G} {own : String} {cc : ByteArray} {nL : Nat} {ini : Bool} {pc : Nat} {off : Int} {t : Nat} (hd : decode cc pc = .ok (.ifCond .ne off, 3)) (ht : (pc : Int) + off = (t : Int)) : mi_ps g own cc nL ini pc (o_if (fun x => decide (¬ x = 0)) t) := by
  intro lv st M S' h
  unfold o_if at h
  dsimp only at h
  split at h
  · cases h
    refine ⟨rfl, rfl, ?_⟩
    intro D p l e R s m args below meth c A Q H locs ls cells slots ws tys hc hr hl hS hR1 hR2 k
    obtain ⟨hx, hb, hml, hown, htb, hE, hini, hA, hK0, hfr, hlo⟩ := hc
    exact lv_if_ne hx hb hd ht (fun h9 => by simpa only [decide_eq_true h9] using k) (fun h9 => by simpa only [decide_eq_false (not_not_intro h9)] using k)
  · cases h
theorem sm_icmp_ne {g : xe_G} {own : String} {cc : ByteArray} {nL : Nat} {ini : Bool} {pc : Nat} {off : Int} {t : Nat} (hd : decode cc pc = .ok (.if_icmp .ne off, 3)) (ht : (pc : Int) + off = (t : Int)) : mi_ps g own cc nL ini pc (o_if2 (fun x y => decide (¬ x = y)) t) := by
  intro lv st M S' h
  unfold o_if2 at h
  dsimp only at h
  split at h
  · cases h
    refine ⟨rfl, rfl, ?_⟩
    intro D p l e R s m args below meth c A Q H locs ls cells slots ws tys hc hr hl hS hR1 hR2 k
    obtain ⟨hx, hb, hml, hown, htb, hE, hini, hA, hK0, hfr, hlo⟩ := hc
    exact lv_icmp_ne hx hb hd ht (fun h9 => by simpa only [decide_eq_true h9] using k) (fun h9 => by simpa only [decide_eq_false (not_not_intro h9)] using k)
  · cases h
theorem sm_if_lt {g : xe_G} {own : String} {cc : ByteArray} {nL : Nat} {ini : Bool} {pc : Nat} {off : Int} {t : Nat} (hd : decode cc pc = .ok (.ifCond .lt off, 3)) (ht : (pc : Int) + off = (t : Int)) : mi_ps g own cc nL ini pc (o_if (fun x => decide (x < 0)) t) := by
  intro lv st M S' h
  unfold o_if at h
  dsimp only at h
  split at h
  · cases h
    refine ⟨rfl, rfl, ?_⟩
    intro D p l e R s m args below meth c A Q H locs ls cells slots ws tys hc hr hl hS hR1 hR2 k
    obtain ⟨hx, hb, hml, hown, htb, hE, hini, hA, hK0, hfr, hlo⟩ := hc
    exact lv_if_lt hx hb hd ht (fun h9 => by simpa only [decide_eq_true h9] using k) (fun h9 => by simpa only [decide_eq_false h9] using k)
  · cases h
theorem sm_icmp_lt {g : xe_G} {own : String} {cc : ByteArray} {nL : Nat} {ini : Bool} {pc : Nat} {off : Int} {t : Nat} (hd : decode cc pc = .ok (.if_icmp .lt off, 3)) (ht : (pc : Int) + off = (t : Int)) : mi_ps g own cc nL ini pc (o_if2 (fun x y => decide (x < y)) t) := by
  intro lv st M S' h
  unfold o_if2 at h
  dsimp only at h
  split at h
  · cases h
    refine ⟨rfl, rfl, ?_⟩
    intro D p l e R s m args below meth c A Q H locs ls cells slots ws tys hc hr hl hS hR1 hR2 k
    obtain ⟨hx, hb, hml, hown, htb, hE, hini, hA, hK0, hfr, hlo⟩ := hc
    exact lv_icmp_lt hx hb hd ht (fun h9 => by simpa only [decide_eq_true h9] using k) (fun h9 => by simpa only [decide_eq_false h9] using k)
  · cases h
theorem sm_if_ge {g : xe_G} {own : String} {cc : ByteArray} {nL : Nat} {ini : Bool} {pc : Nat} {off : Int} {t : Nat} (hd : decode cc pc = .ok (.ifCond .ge off, 3)) (ht : (pc : Int) + off = (t : Int)) : mi_ps g own cc nL ini pc (o_if (fun x => decide (0 ≤ x)) t) := by
  intro lv st M S' h
  unfold o_if at h
  dsimp only at h
  split at h
  · cases h
    refine ⟨rfl, rfl, ?_⟩
    intro D p l e R s m args below meth c A Q H locs ls cells slots ws tys hc hr hl hS hR1 hR2 k
    obtain ⟨hx, hb, hml, hown, htb, hE, hini, hA, hK0, hfr, hlo⟩ := hc
    exact lv_if_ge hx hb hd ht (fun h9 => by simpa only [decide_eq_true h9] using k) (fun h9 => by simpa only [decide_eq_false h9] using k)
  · cases h
theorem sm_icmp_ge {g : xe_G} {own : String} {cc : ByteArray} {nL : Nat} {ini : Bool} {pc : Nat} {off : Int} {t : Nat} (hd : decode cc pc = .ok (.if_icmp .ge off, 3)) (ht : (pc : Int) + off = (t : Int)) : mi_ps g own cc nL ini pc (o_if2 (fun x y => decide (y ≤ x)) t) := by
  intro lv st M S' h
  unfold o_if2 at h
  dsimp only at h
  split at h
  · cases h
    refine ⟨rfl, rfl, ?_⟩
    intro D p l e R s m args below meth c A Q H locs ls cells slots ws tys hc hr hl hS hR1 hR2 k
    obtain ⟨hx, hb, hml, hown, htb, hE, hini, hA, hK0, hfr, hlo⟩ := hc
    exact lv_icmp_ge hx hb hd ht (fun h9 => by simpa only [decide_eq_true h9] using k) (fun h9 => by simpa only [decide_eq_false h9] using k)
  · cases h
theorem sm_if_gt {g : xe_G} {own : String} {cc : ByteArray} {nL : Nat} {ini : Bool} {pc : Nat} {off : Int} {t : Nat} (hd : decode cc pc = .ok (.ifCond .gt off, 3)) (ht : (pc : Int) + off = (t : Int)) : mi_ps g own cc nL ini pc (o_if (fun x => decide (0 < x)) t) := by
  intro lv st M S' h
  unfold o_if at h
  dsimp only at h
  split at h
  · cases h
    refine ⟨rfl, rfl, ?_⟩
    intro D p l e R s m args below meth c A Q H locs ls cells slots ws tys hc hr hl hS hR1 hR2 k
    obtain ⟨hx, hb, hml, hown, htb, hE, hini, hA, hK0, hfr, hlo⟩ := hc
    exact lv_if_gt hx hb hd ht (fun h9 => by simpa only [decide_eq_true h9] using k) (fun h9 => by simpa only [decide_eq_false h9] using k)
  · cases h
theorem sm_icmp_gt {g : xe_G} {own : String} {cc : ByteArray} {nL : Nat} {ini : Bool} {pc : Nat} {off : Int} {t : Nat} (hd : decode cc pc = .ok (.if_icmp .gt off, 3)) (ht : (pc : Int) + off = (t : Int)) : mi_ps g own cc nL ini pc (o_if2 (fun x y => decide (y < x)) t) := by
  intro lv st M S' h
  unfold o_if2 at h
  dsimp only at h
  split at h
  · cases h
    refine ⟨rfl, rfl, ?_⟩
    intro D p l e R s m args below meth c A Q H locs ls cells slots ws tys hc hr hl hS hR1 hR2 k
    obtain ⟨hx, hb, hml, hown, htb, hE, hini, hA, hK0, hfr, hlo⟩ := hc
    exact lv_icmp_gt hx hb hd ht (fun h9 => by simpa only [decide_eq_true h9] using k) (fun h9 => by simpa only [decide_eq_false h9] using k)
  · cases h
theorem sm_if_le {g : xe_G} {own : String} {cc : ByteArray} {nL : Nat} {ini : Bool} {pc : Nat} {off : Int} {t : Nat} (hd : decode cc pc = .ok (.ifCond .le off, 3)) (ht : (pc : Int) + off = (t : Int)) : mi_ps g own cc nL ini pc (o_if (fun x => decide (x ≤ 0)) t) := by
  intro lv st M S' h
  unfold o_if at h
  dsimp only at h
  split at h
  · cases h
    refine ⟨rfl, rfl, ?_⟩
    intro D p l e R s m args below meth c A Q H locs ls cells slots ws tys hc hr hl hS hR1 hR2 k
    obtain ⟨hx, hb, hml, hown, htb, hE, hini, hA, hK0, hfr, hlo⟩ := hc
    exact lv_if_le hx hb hd ht (fun h9 => by simpa only [decide_eq_true h9] using k) (fun h9 => by simpa only [decide_eq_false h9] using k)
  · cases h
theorem sm_icmp_le {g : xe_G} {own : String} {cc : ByteArray} {nL : Nat} {ini : Bool} {pc : Nat} {off : Int} {t : Nat} (hd : decode cc pc = .ok (.if_icmp .le off, 3)) (ht : (pc : Int) + off = (t : Int)) : mi_ps g own cc nL ini pc (o_if2 (fun x y => decide (x ≤ y)) t) := by
  intro lv st M S' h
  unfold o_if2 at h
  dsimp only at h
  split at h
  · cases h
    refine ⟨rfl, rfl, ?_⟩
    intro D p l e R s m args below meth c A Q H locs ls cells slots ws tys hc hr hl hS hR1 hR2 k
    obtain ⟨hx, hb, hml, hown, htb, hE, hini, hA, hK0, hfr, hlo⟩ := hc
    exact lv_icmp_le hx hb hd ht (fun h9 => by simpa only [decide_eq_true h9] using k) (fun h9 => by simpa only [decide_eq_false h9] using k)
  · cases h
def o_goto (t : Nat) : mi_O := fun S => some (t, S.2)
theorem sm_goto {g : xe_G} {own : String} {cc : ByteArray} {nL : Nat} {ini : Bool} {pc : Nat} {off : Int} {t : Nat} (hd : decode cc pc = .ok (.goto off, 3)) (ht : (pc : Int) + off = (t : Int)) : mi_ps g own cc nL ini pc (o_goto t) := by
  intro lv st M S' h
  cases h
  refine ⟨rfl, rfl, ?_⟩
  intro D p l e R s m args below meth c A Q H locs ls cells slots ws tys hc hr hl hS hR1 hR2 k
  obtain ⟨hx, hb, hml, hown, htb, hE, hini, hA, hK0, hfr, hlo⟩ := hc
  exact lv_goto hx hb hd ht k
def o_null (a b : Nat) : mi_O := fun S => match S.2.2.1 with
  | .ref _ :: st => some (a, S.2.1, st, S.2.2.2)
  | .null :: st => some (b, S.2.1, st, S.2.2.2)
  | _ => none
theorem sm_ifnull {g : xe_G} {own : String} {cc : ByteArray} {nL : Nat} {ini : Bool} {pc : Nat} {off : Int} {t : Nat} (hd : decode cc pc = .ok (.ifnull off, 3)) (ht : (pc : Int) + off = (t : Int)) : mi_ps g own cc nL ini pc (o_null (pc + 3) t) := by
  intro lv st M S' h
  unfold o_null at h
  dsimp only at h
  split at h
  · cases h
    refine ⟨rfl, rfl, ?_⟩
    intro D p l e R s m args below meth c A Q H locs ls cells slots ws tys hc hr hl hS hR1 hR2 k
    obtain ⟨hx, hb, hml, hown, htb, hE, hini, hA, hK0, hfr, hlo⟩ := hc
    exact lv_ifnull hx hb hd k
  · cases h
    refine ⟨rfl, rfl, ?_⟩
    intro D p l e R s m args below meth c A Q H locs ls cells slots ws tys hc hr hl hS hR1 hR2 k
    obtain ⟨hx, hb, hml, hown, htb, hE, hini, hA, hK0, hfr, hlo⟩ := hc
    exact lv_ifnullN hx hb hd ht k
  · cases h
theorem sm_ifnonnull {g : xe_G} {own : String} {cc : ByteArray} {nL : Nat} {ini : Bool} {pc : Nat} {off : Int} {t : Nat} (hd : decode cc pc = .ok (.ifnonnull off, 3)) (ht : (pc : Int) + off = (t : Int)) : mi_ps g own cc nL ini pc (o_null t (pc + 3)) := by
  intro lv st M S' h
  unfold o_null at h
  dsimp only at h
  split at h
  · cases h
    refine ⟨rfl, rfl, ?_⟩
    intro D p l e R s m args below meth c A Q H locs ls cells slots ws tys hc hr hl hS hR1 hR2 k
    obtain ⟨hx, hb, hml, hown, htb, hE, hini, hA, hK0, hfr, hlo⟩ := hc
    exact lv_ifnonnull hx hb hd ht k
  · cases h
    refine ⟨rfl, rfl, ?_⟩
    intro D p l e R s m args below meth c A Q H locs ls cells slots ws tys hc hr hl hS hR1 hR2 k
    obtain ⟨hx, hb, hml, hown, htb, hE, hini, hA, hK0, hfr, hlo⟩ := hc
    exact lv_ifnonnullN hx hb hd k
  · cases h
def mi_sw (ps : List (Int × Nat)) (dt : Nat) (x : Int32) : Nat := match ps.find? (fun q => q.1 == x.toInt) with
  | some q => q.2
  | none => dt
def o_sw (ps : List (Int × Nat)) (dt : Nat) : mi_O := fun S => match S.2.2.1 with
  | .int x :: st => some (mi_sw ps dt x, S.2.1, st, S.2.2.2)
  | _ => none
theorem mi_lkp : ∀ (ps : List (Int × Int)) (ts : List (Int × Nat)) (df : Int) (dt pc : Nat) (x : Int), (pc : Int) + df = (dt : Int) → ts.map (fun q => (q.1, (q.2 : Int))) = ps.map (fun q => (q.1, (pc : Int) + q.2)) → (pc : Int) + Op.lookupswitch.offset ps df x = ((match ts.find? (fun q => q.1 == x) with | some q => q.2 | none => dt : Nat) : Int)
  | [], [], df, dt, pc, x, h, _ => by simpa [Op.lookupswitch.offset] using h
  | [], _ :: _, _, _, _, _, _, h => by simp at h
  | _ :: _, [], _, _, _, _, _, h => by simp at h
  | p :: ps, t :: ts, df, dt, pc, x, h, hm => by
    simp only [List.map_cons, List.cons.injEq, Prod.mk.injEq] at hm
    obtain ⟨⟨h1, h2⟩, h3⟩ := hm
    obtain ⟨p1, p2⟩ := p
    rw [Op.lookupswitch.offset_cons]
    by_cases hx : x = p1
    · simp [h1, hx, h2]
    · have hx' : ¬ p1 = x := fun e => hx e.symm
      rw [if_neg (by first | exact hx | exact hx')]
      simp only [h1, List.find?_cons, show (p1 == x) = false from by simpa using hx']
      exact mi_lkp ps ts df dt pc x h h3
theorem sm_lookup {g : xe_G} {own : String} {cc : ByteArray} {nL : Nat} {ini : Bool} {pc : Nat} {df : Int} {ps : Array (Int × Int)} {len dt : Nat} {ts : List (Int × Nat)} (hd : decode cc pc = .ok (.lookupswitch df ps, len)) (hp : (ps.toList.zip (ps.toList.drop 1)).all (fun (a, next) => a.1 < next.1) = true) (ht : (pc : Int) + df = (dt : Int)) (hm : ts.map (fun q => (q.1, (q.2 : Int))) = ps.toList.map (fun q => (q.1, (pc : Int) + q.2))) : mi_ps g own cc nL ini pc (o_sw ts dt) := by
  intro lv st M S' h
  unfold o_sw at h
  dsimp only at h
  split at h
  · cases h
    refine ⟨rfl, rfl, ?_⟩
    intro D p l e R s m args below meth c A Q H locs ls cells slots ws tys hc hr hl hS hR1 hR2 k
    obtain ⟨hx, hb, hml, hown, htb, hE, hini, hA, hK0, hfr, hlo⟩ := hc
    rename_i x _
    exact lv_lookup hx hb hd hp rfl (mi_lkp _ ts df dt pc _ ht hm) k
  · cases h
theorem sm_table {g : xe_G} {own : String} {cc : ByteArray} {nL : Nat} {ini : Bool} {pc : Nat} {df lo hi : Int} {offs : Array Int} {len dt : Nat} {ts : List (Int × Nat)} (hd : decode cc pc = .ok (.tableswitch df lo hi offs, len)) (ht : (pc : Int) + df = (dt : Int)) (hm : ∀ q ∈ ts, lo ≤ q.1 ∧ q.1 ≤ hi ∧ (offs[(q.1 - lo).toNat]?).map (fun o => (pc : Int) + o) = some (q.2 : Int)) (hn : ts.map (fun q => q.1) = (List.range (hi + 1 - lo).toNat).map (fun (i : Nat) => lo + (i : Int))) : mi_ps g own cc nL ini pc (o_sw ts dt) := by
  intro lv st M S' h
  unfold o_sw at h
  dsimp only at h
  split at h
  · cases h
    refine ⟨rfl, rfl, ?_⟩
    intro D p l e R s m args below meth c A Q H locs ls cells slots ws tys hc hr hl hS hR1 hR2 k
    obtain ⟨hx, hb, hml, hown, htb, hE, hini, hA, hK0, hfr, hlo⟩ := hc
    rename_i x _
    dsimp only at k
    unfold mi_sw at k
    cases hf : ts.find? (fun q => q.1 == x.toInt) with
    | some q =>
      rw [hf] at k
      have h1 : q.1 = x.toInt := by simpa using List.find?_some hf
      obtain ⟨g1, g2, g3⟩ := hm q (List.mem_of_find?_eq_some hf)
      rw [h1] at g1 g2 g3
      cases ho : offs[(x.toInt - lo).toNat]? with
      | none => rw [ho] at g3; cases g3
      | some of9 =>
        rw [ho] at g3
        exact lv_tableIn hx hb hd (by omega) (by omega) ho (Option.some.inj g3) k
    | none =>
      rw [hf] at k
      refine lv_tableOut hx hb hd ?_ ht k
      by_cases h1 : x.toInt < lo
      · exact Or.inl h1
      · by_cases h2 : hi < x.toInt
        · exact Or.inr h2
        · exfalso
          have h3 : x.toInt ∈ ts.map (fun q => q.1) := by
            rw [hn]
            exact List.mem_map.mpr ⟨(x.toInt - lo).toNat, List.mem_range.mpr (by omega), by omega⟩
          obtain ⟨q, hq, hq1⟩ := List.mem_map.mp h3
          have := List.find?_eq_none.mp hf q hq
          simp [hq1] at this
  · cases h
def o_isto (i n : Nat) : mi_O := fun S => match S.2.2.1 with
  | .int x :: st => some (S.1 + n, (i, .int x) :: S.2.1.filter (fun q => !(q.1 == i) && !(q.1 + 1 == i && q.2.category == 2)), st, S.2.2.2)
  | _ => none
theorem sm_istore_n {g : xe_G} {own : String} {cc : ByteArray} {nL : Nat} {ini : Bool} {pc : Nat} {i : Nat} {k : Fin 4} (hd : decode cc pc = .ok (.istore_n k, 1)) (hk : (k : Nat) = i) (hi : i < nL) : mi_sim g own cc nL ini pc (o_isto i 1) := by
  intro lv st M S' h
  unfold o_isto at h
  dsimp only at h
  split at h
  · cases h
    refine ⟨⟨Nat.le_refl _, Nat.le_refl _⟩, ?_⟩
    intro D p l e R s m args below meth c A n0 s0 Q hc hn0 hs0 hR1 hR2 hW H locs ls ws tys hr hl hS
    obtain ⟨hx, hb, hml, hown, htb, hE, hini, hA, hK0, hfr, hlo⟩ := hc
    exact lv_istore_n hx hb hd hk hl hi rfl (fun ls hl => hW H locs ls ws tys hr hl hS)
  · cases h
theorem sm_istore {g : xe_G} {own : String} {cc : ByteArray} {nL : Nat} {ini : Bool} {pc : Nat} {i : Nat} (hd : decode cc pc = .ok (.istore i, 2)) (hi : i < nL) : mi_sim g own cc nL ini pc (o_isto i 2) := by
  intro lv st M S' h
  unfold o_isto at h
  dsimp only at h
  split at h
  · cases h
    refine ⟨⟨Nat.le_refl _, Nat.le_refl _⟩, ?_⟩
    intro D p l e R s m args below meth c A n0 s0 Q hc hn0 hs0 hR1 hR2 hW H locs ls ws tys hr hl hS
    obtain ⟨hx, hb, hml, hown, htb, hE, hini, hA, hK0, hfr, hlo⟩ := hc
    exact lv_istore hx hb hd hl hi rfl (fun ls hl => hW H locs ls ws tys hr hl hS)
  · cases h
def o_lsto (i n : Nat) : mi_O := fun S => match S.2.2.1 with
  | .long x :: st => some (S.1 + n, (i, .long x) :: S.2.1.filter (fun q => !(q.1 == i) && (!(q.1 == i + 1) && !(q.1 + 1 == i && q.2.category == 2))), st, S.2.2.2)
  | _ => none
theorem sm_lstore_n {g : xe_G} {own : String} {cc : ByteArray} {nL : Nat} {ini : Bool} {pc : Nat} {i : Nat} {k : Fin 4} (hd : decode cc pc = .ok (.lstore_n k, 1)) (hk : (k : Nat) = i) (hi : i + 1 < nL) : mi_sim g own cc nL ini pc (o_lsto i 1) := by
  intro lv st M S' h
  unfold o_lsto at h
  dsimp only at h
  split at h
  · cases h
    refine ⟨⟨Nat.le_refl _, Nat.le_refl _⟩, ?_⟩
    intro D p l e R s m args below meth c A n0 s0 Q hc hn0 hs0 hR1 hR2 hW H locs ls ws tys hr hl hS
    obtain ⟨hx, hb, hml, hown, htb, hE, hini, hA, hK0, hfr, hlo⟩ := hc
    exact lv_lstore_n hx hb hd hk hl hi rfl (fun ls hl => hW H locs ls ws tys hr hl hS)
  · cases h
theorem sm_lstore {g : xe_G} {own : String} {cc : ByteArray} {nL : Nat} {ini : Bool} {pc : Nat} {i : Nat} (hd : decode cc pc = .ok (.lstore i, 2)) (hi : i + 1 < nL) : mi_sim g own cc nL ini pc (o_lsto i 2) := by
  intro lv st M S' h
  unfold o_lsto at h
  dsimp only at h
  split at h
  · cases h
    refine ⟨⟨Nat.le_refl _, Nat.le_refl _⟩, ?_⟩
    intro D p l e R s m args below meth c A n0 s0 Q hc hn0 hs0 hR1 hR2 hW H locs ls ws tys hr hl hS
    obtain ⟨hx, hb, hml, hown, htb, hE, hini, hA, hK0, hfr, hlo⟩ := hc
    exact lv_lstore hx hb hd hl hi rfl (fun ls hl => hW H locs ls ws tys hr hl hS)
  · cases h
def o_asto (i n : Nat) : mi_O := fun S => match S.2.2.1 with
  | .ref x :: st => some (S.1 + n, (i, .ref x) :: S.2.1.filter (fun q => !(q.1 == i) && !(q.1 + 1 == i && q.2.category == 2)), st, S.2.2.2)
  | .null :: st => some (S.1 + n, (i, .null) :: S.2.1.filter (fun q => !(q.1 == i) && !(q.1 + 1 == i && q.2.category == 2)), st, S.2.2.2)
  | _ => none
theorem sm_astore_n {g : xe_G} {own : String} {cc : ByteArray} {nL : Nat} {ini : Bool} {pc : Nat} {i : Nat} {k : Fin 4} (hd : decode cc pc = .ok (.astore_n k, 1)) (hk : (k : Nat) = i) (hi : i < nL) : mi_sim g own cc nL ini pc (o_asto i 1) := by
  intro lv st M S' h
  unfold o_asto at h
  dsimp only at h
  split at h
  · cases h
    refine ⟨⟨Nat.le_refl _, Nat.le_refl _⟩, ?_⟩
    intro D p l e R s m args below meth c A n0 s0 Q hc hn0 hs0 hR1 hR2 hW H locs ls ws tys hr hl hS
    obtain ⟨hx, hb, hml, hown, htb, hE, hini, hA, hK0, hfr, hlo⟩ := hc
    exact lv_astore_n hx hb hd hk hl hi rfl (fun ls hl => hW H locs ls ws tys hr hl hS)
  · cases h
    refine ⟨⟨Nat.le_refl _, Nat.le_refl _⟩, ?_⟩
    intro D p l e R s m args below meth c A n0 s0 Q hc hn0 hs0 hR1 hR2 hW H locs ls ws tys hr hl hS
    obtain ⟨hx, hb, hml, hown, htb, hE, hini, hA, hK0, hfr, hlo⟩ := hc
    exact lv_astore_nN hx hb hd hk hl hi rfl (fun ls hl => hW H locs ls ws tys hr hl hS)
  · cases h
theorem sm_astore {g : xe_G} {own : String} {cc : ByteArray} {nL : Nat} {ini : Bool} {pc : Nat} {i : Nat} (hd : decode cc pc = .ok (.astore i, 2)) (hi : i < nL) : mi_sim g own cc nL ini pc (o_asto i 2) := by
  intro lv st M S' h
  unfold o_asto at h
  dsimp only at h
  split at h
  · cases h
    refine ⟨⟨Nat.le_refl _, Nat.le_refl _⟩, ?_⟩
    intro D p l e R s m args below meth c A n0 s0 Q hc hn0 hs0 hR1 hR2 hW H locs ls ws tys hr hl hS
    obtain ⟨hx, hb, hml, hown, htb, hE, hini, hA, hK0, hfr, hlo⟩ := hc
    exact lv_astore hx hb hd hl hi rfl (fun ls hl => hW H locs ls ws tys hr hl hS)
  · cases h
    refine ⟨⟨Nat.le_refl _, Nat.le_refl _⟩, ?_⟩
    intro D p l e R s m args below meth c A n0 s0 Q hc hn0 hs0 hR1 hR2 hW H locs ls ws tys hr hl hS
    obtain ⟨hx, hb, hml, hown, htb, hE, hini, hA, hK0, hfr, hlo⟩ := hc
    exact lv_astoreN hx hb hd hl hi rfl (fun ls hl => hW H locs ls ws tys hr hl hS)
  · cases h
def o_iinc (i : Nat) (n : Int32) : mi_O := fun S => match mi_ld S.2.1 i with
  | some (.int x) => some (S.1 + 3, (i, .int (x + n)) :: S.2.1.filter (fun q => !(q.1 == i) && !(q.1 + 1 == i && q.2.category == 2)), S.2.2)
  | _ => none
theorem mi_ld_at {lv : List (Nat × Value)} {i : Nat} {v : Value} (h : mi_ld lv i = some v) : ∃ k : Nat, lv[k]? = some (i, v) := by
  unfold mi_ld at h
  cases hf : lv.find? (fun q => q.1 == i) with
  | none => rw [hf] at h; cases h
  | some q =>
    rw [hf] at h
    have h3 : q.1 = i := by simpa using List.find?_some hf
    cases h
    obtain ⟨k, hk⟩ := List.getElem?_of_mem (List.mem_of_find?_eq_some hf)
    exact ⟨k, by rw [hk, ← h3]⟩
theorem sm_iinc {g : xe_G} {own : String} {cc : ByteArray} {nL : Nat} {ini : Bool} {pc : Nat} {i : Nat} {n : Int} {v : Int32} (hd : decode cc pc = .ok (.iinc i n, 3)) (hv : Int32.ofInt n = v) (hi : i < nL) : mi_sim g own cc nL ini pc (o_iinc i v) := by
  intro lv st M S' h
  subst hv
  unfold o_iinc at h
  dsimp only at h
  split at h
  · rename_i x h9
    cases h
    refine ⟨⟨Nat.le_refl _, Nat.le_refl _⟩, ?_⟩
    intro D p l e R s m args below meth c A n0 s0 Q hc hn0 hs0 hR1 hR2 hW H locs ls ws tys hr hl hS
    obtain ⟨hx, hb, hml, hown, htb, hE, hini, hA, hK0, hfr, hlo⟩ := hc
    obtain ⟨k9, hk9⟩ := mi_ld_at h9
    exact lv_iinc hx hb hd hl hk9 rfl hi rfl (fun ls hl => hW H locs ls ws tys hr hl hS)
  · cases h
end MIO
end
section
/-! steps over cells -/
section MIP
theorem mi_e.more {tys tn : List (ClassId × FieldType)} {c : mi_C} {e : va_E} (h : mi_e tys c e) : mi_e (tys ++ tn) c e := by
  unfold mi_e at h ⊢
  split at h
  · obtain ⟨cA, x, h1, h2, h3⟩ := h
    exact ⟨cA, x, h1, List.mem_append_left _ h2, h3⟩
  · exact h
theorem mi_rel.put {g : xe_G} {D : va_G} {A : Nat → Prop} {s : State} {M : mi_H} {H H1 : Heap} {ws : va_W} {tys : List (ClassId × FieldType)} {q0 a : Nat} {e e' : va_E} {c' : mi_C} (h : mi_rel g D A s M H ws tys) (he : ws[q0]? = some (a, e)) (hw : mi_wr g a c') (he' : mi_e tys c' e')
    (hat : va_at D vwCl (a, e') H1) (z : H1.size = H.size) (oq : ∀ q : Nat, q ≠ a → H1[q]? = H[q]?) : mi_rel g D A s (va_up M.1 a (some c'), M.2) H1 (ws.set q0 (a, e')) tys := by
  obtain ⟨hK, hP, hD, hz, hM, hws⟩ := h
  have hlt : q0 < ws.length := (List.getElem?_eq_some_iff.mp he).1
  refine ⟨hK, hP.set hD he hat oq, hD.set he, z.trans hz, fun b cb hb => ?_, fun k b eb hk => ?_⟩
  · by_cases hba : b = a
    · subst hba
      have hcb : cb = c' := by
        have : va_up M.1 b (some c') b = some cb := hb
        simp [va_up] at this
        exact this.symm
      subst hcb
      exact Or.inl ⟨hw, q0, e', by rw [List.getElem?_set_self hlt], he'⟩
    · have hb' : M.1 b = some cb := by
        have : va_up M.1 a (some c') b = some cb := hb
        simpa [va_up, hba] using this
      rcases hM b cb hb' with ⟨hw2, k, eb, hk, hek⟩ | h2
      · refine Or.inl ⟨hw2, k, eb, ?_, hek⟩
        have hne : q0 ≠ k := fun q => by
          subst q
          rw [he] at hk
          cases hk
          exact hba rfl
        rw [List.getElem?_set_ne hne]
        exact hk
      · exact Or.inr h2
  · by_cases hkq : k = q0
    · subst hkq
      rw [List.getElem?_set_self hlt] at hk
      cases hk
      exact ⟨c', by show va_up M.1 a (some c') a = some c'; simp [va_up], hw⟩
    · rw [List.getElem?_set_ne (fun q => hkq q.symm)] at hk
      obtain ⟨cb, h1, h2⟩ := hws k b eb hk
      have hba : b ≠ a := fun q => hkq (hD.1 k q0 _ _ hk he q)
      exact ⟨cb, by show va_up M.1 a (some c') b = some cb; simpa [va_up, hba] using h1, h2⟩
theorem mi_rel.push {g : xe_G} {D : va_G} {A : Nat → Prop} {s : State} {M : mi_H} {H H1 : Heap} {ws : va_W} {tys tn : List (ClassId × FieldType)} {e' : va_E} {c' : mi_C} (n : Nat) (h : mi_rel g D A s M H ws tys) (hA : A H.size) (hK' : va_K D vwCl (tys ++ tn) s) (hw : mi_wr g H.size c') (he' : mi_e (tys ++ tn) c' e')
    (hat : va_at D vwCl (H.size, e') H1) (z : H1.size = H.size + 1) (o1 : ∀ q : Nat, q < H.size → H1[q]? = H[q]?) : mi_rel g D A s (va_up M.1 M.2.1 (some c'), M.2.1 + 1, M.2.2 + n) H1 (ws ++ [(H.size, e')]) (tys ++ tn) := by
  obtain ⟨hK, hP, hD, hz, hM, hws⟩ := h
  have hlt : ∀ (k : Nat) (x : Nat × va_E), ws[k]? = some x → x.1 < H.size := fun k x hx => (hP k x hx).lt
  refine ⟨hK', (hP.kept (fun k x hx => o1 x.1 (hlt k x hx))).app (fun k x hx => ?_), hD.push hP rfl hA, ?_, fun b cb hb => ?_, fun k b eb hk => ?_⟩
  · have hz : k < 1 := (List.getElem?_eq_some_iff.mp hx).1
    rw [show k = 0 by omega] at hx
    cases hx
    exact hat
  · show H1.size = M.2.1 + 1
    rw [z, hz]
  · by_cases hba : b = M.2.1
    · have hcb : c' = cb := by
        have : va_up M.1 M.2.1 (some c') b = some cb := hb
        simpa [va_up, hba] using this
      subst hcb
      rw [hba, ← hz]
      exact Or.inl ⟨hw, ws.length, e', by simp, he'⟩
    · have hb' : M.1 b = some cb := by
        have : va_up M.1 M.2.1 (some c') b = some cb := hb
        simpa [va_up, hba] using this
      rcases hM b cb hb' with ⟨hw2, k, eb, hk, hek⟩ | h2
      · exact Or.inl ⟨hw2, k, eb, by rw [List.getElem?_append_left (List.getElem?_eq_some_iff.mp hk).1]; exact hk, hek.more⟩
      · exact Or.inr h2
  · by_cases hkl : k < ws.length
    · rw [List.getElem?_append_left hkl] at hk
      obtain ⟨cb, h1, h2⟩ := hws k b eb hk
      have := hlt k _ hk
      have hba : b ≠ M.2.1 := by rw [← hz]; exact Nat.ne_of_lt this
      exact ⟨cb, by show va_up M.1 M.2.1 (some c') b = some cb; simpa [va_up, hba] using h1, h2⟩
    · rw [List.getElem?_append_right (by omega)] at hk
      have hz1 : k - ws.length < 1 := (List.getElem?_eq_some_iff.mp hk).1
      rw [show k - ws.length = 0 by omega] at hk
      cases hk
      rw [hz] at hw ⊢
      exact ⟨c', by show va_up M.1 M.2.1 (some c') M.2.1 = some c'; simp [va_up], hw⟩
/-- a field of an object, an array of a type -/
def mi_gf (M : mi_H) (a ci k : Nat) : Option Value := match M.1 a with
  | some (.inr o) => if o.1 = ci then o.2 k else none
  | _ => none
def mi_ga (M : mi_H) (a : Nat) (ty : FieldType) : Option (Nat × (Nat → Option Value)) := match M.1 a with
  | some (.inl r) => if r.1 = ty then some r.2 else none
  | _ => none
theorem mi_gf_in {g : xe_G} {D : va_G} {A : Nat → Prop} {s : State} {M : mi_H} {H : Heap} {ws : va_W} {tys : List (ClassId × FieldType)} {a ci k : Nat} {v : Value} (h : mi_rel g D A s M H ws tys) (hc : ci < 100) (hv : mi_gf M a ci k = some v) :
    ∃ (f : Nat → Option Value) (q0 : Nat) (fs : List Value), M.1 a = some (.inr (ci, f)) ∧ f k = some v ∧ ws[q0]? = some (a, .inr (ci, fs)) ∧ fs.length = mi_n ci ∧ (∀ k v, f k = some v → fs[k]? = some v) ∧ mi_wr g a (.inr (ci, f)) := by
  unfold mi_gf at hv
  split at hv
  · rename_i o hM
    obtain ⟨c, f⟩ := o
    split at hv
    · rename_i hco
      have hco : c = ci := hco
      subst hco
      rcases h.2.2.2.2.1 a _ hM with ⟨hw, q0, e, hq, he⟩ | ⟨-, f9, h9⟩ | ⟨k9, f9, -, -, h9⟩
      · obtain ⟨fs, rfl, h1, h2⟩ := he
        exact ⟨f, q0, fs, hM, hv, hq, h1, h2, hw⟩
      · cases h9
      · cases h9
        omega
    · cases hv
  · cases hv
theorem mi_ga_in {g : xe_G} {D : va_G} {A : Nat → Prop} {s : State} {M : mi_H} {H : Heap} {ws : va_W} {tys : List (ClassId × FieldType)} {a : Nat} {ty : FieldType} {r : Nat × (Nat → Option Value)} (h : mi_rel g D A s M H ws tys) (hv : mi_ga M a ty = some r) :
    M.1 a = some (.inl (ty, r)) ∧ ((∃ (q0 : Nat) (cA : ClassId) (x : vp_A) (t0 : Nat), ws[q0]? = some (a, .inl (cA, x)) ∧ tys[t0]? = some (cA, ty) ∧ mi_ct ty r.1 r.2 x ∧ mi_wr g a (.inl (ty, r))) ∨ (a = g.1 ∧ ty = .byte ∧ r.1 = 0)) := by
  unfold mi_ga at hv
  split at hv
  · rename_i o hM
    obtain ⟨t, n, f⟩ := o
    split at hv
    · rename_i ht
      have ht : t = ty := ht
      subst ht
      cases hv
      refine ⟨hM, ?_⟩
      rcases h.2.2.2.2.1 a _ hM with ⟨hw, q0, e, hq, he⟩ | ⟨h8, f9, h9⟩ | ⟨k9, f9, -, -, h9⟩
      · obtain ⟨cA, x, rfl, h1, h2⟩ := he
        obtain ⟨t0, ht0⟩ := List.getElem?_of_mem h1
        exact Or.inl ⟨q0, cA, x, t0, hq, ht0, h2, hw⟩
      · cases h9
        exact Or.inr ⟨h8, rfl, rfl⟩
      · cases h9
    · cases hv
  · cases hv
def o_get (ci k : Nat) : mi_O := fun S => match S.2.2.1 with
  | .ref a :: st => match mi_gf S.2.2.2 a ci k with
    | some v => some (S.1 + 3, S.2.1, v :: st, S.2.2.2)
    | none => none
  | _ => none
theorem sm_get {g : xe_G} {own : String} {cc : ByteArray} {nL : Nat} {ini : Bool} {pc : Nat} {ci kf i N : Nat} {C : String} {T : u_T} (hci : ci < 100) (hc0 : vwCl[ci]? = some (C, T, N)) (hin : ∀ w ∈ u_ws C T N, w ∈ bg) (hk : kf < N) (hw : Cond.fieldLink own i (T kf).1 (T kf).2.1 (T kf).2.2.1 ∈ bg) (hd : decode cc pc = .ok (.getfield i, 3)) : mi_ps g own cc nL ini pc (o_get ci kf) := by
  intro lv st M S' h
  unfold o_get at h
  dsimp only at h
  split at h
  · split at h
    · rename_i h9
      cases h
      refine ⟨rfl, rfl, ?_⟩
      intro D p l e R s m args below meth c A Q H locs ls cells slots ws tys hc hr hl hS hR1 hR2 k
      obtain ⟨hx, hb, hml, hown, htb, hE, hini, hA, hK0, hfr, hlo⟩ := hc
      obtain ⟨f, q0, fs, h1, h2, h3, h4, h5, h6⟩ := mi_gf_in hr hci h9
      exact va_get hx hb htb hin hown hr.1 hr.2.1 q0 h3 hc0 kf hk (htb _ hw) (fun _ h9 => h9) (h5 _ _ h2) hd k
    · cases h
  · cases h
/-- what may be laid into a field: numbers, references -/
def mi_fit (ty : FieldType) (v : Value) : Bool := match ty, v with
  | .int, .int _ => true
  | .object _, .ref _ => true
  | .object _, .null => true
  | .array _, .ref _ => true
  | .array _, .null => true
  | _, _ => false
theorem mi_fit_ok {ty : FieldType} {v : Value} (h : mi_fit ty v = true) : narrow ty v = v ∧ fits ty v = true := by
  unfold mi_fit at h
  split at h <;> first | exact ⟨rfl, rfl⟩ | cases h
def o_put (ci k : Nat) (ty : FieldType) : mi_O := fun S => match S.2.2.1 with
  | v :: .ref a :: st => match S.2.2.2.1 a with
    | some (.inr o) => if o.1 = ci ∧ mi_fit ty v = true then some (S.1 + 3, S.2.1, st, va_up S.2.2.2.1 a (some (.inr (ci, va_up o.2 k (some v)))), S.2.2.2.2) else none
    | _ => none
  | _ => none
theorem mi_put_fs {f : Nat → Option Value} {fs : List Value} {k : Nat} {v : Value} (hl : k < fs.length) (h : ∀ k v, f k = some v → fs[k]? = some v) : ∀ j w, va_up f k (some v) j = some w → (fs.set k v)[j]? = some w := by
  intro j w hj
  by_cases hjk : j = k
  · subst hjk
    have : v = w := by simpa [va_up] using hj
    rw [List.getElem?_set_self hl, this]
  · rw [List.getElem?_set_ne (fun q => hjk q.symm)]
    exact h j w (by simpa [va_up, hjk] using hj)
theorem mi_obj {g : xe_G} {D : va_G} {A : Nat → Prop} {s : State} {M : mi_H} {H : Heap} {ws : va_W} {tys : List (ClassId × FieldType)} {a : Nat} {o : Nat × (Nat → Option Value)} (h : mi_rel g D A s M H ws tys) (hc : o.1 < 100) (hM : M.1 a = some (.inr o)) :
    ∃ (q0 : Nat) (fs : List Value), ws[q0]? = some (a, .inr (o.1, fs)) ∧ fs.length = mi_n o.1 ∧ (∀ k v, o.2 k = some v → fs[k]? = some v) ∧ mi_wr g a (.inr o) := by
  rcases h.2.2.2.2.1 a _ hM with ⟨hw, q0, e, hq, he⟩ | ⟨-, f9, h9⟩ | ⟨k9, f9, -, -, h9⟩
  · obtain ⟨fs, rfl, h1, h2⟩ := he
    exact ⟨q0, fs, hq, h1, h2, hw⟩
  · cases h9
  · cases h9
    exact absurd hc (by show ¬ 100 + k9 < 100; omega)
theorem sm_put {g : xe_G} {own : String} {cc : ByteArray} {nL : Nat} {ini : Bool} {pc : Nat} {ci k i N : Nat} {C : String} {T : u_T} {ty0 : Nat → FieldType} {ty : FieldType} (hci : ci < 100) (hc0 : vwCl[ci]? = some (C, T, N)) (hin : ∀ w ∈ u_ws C T N, w ∈ bg) (hty : ∀ k, k < N → parseFieldDescriptor (T k).2.2.1 = some (ty0 k)) (hnm : ∀ a, a < N → ∀ b, b < N → a ≠ b → (T a).2.1 ≠ (T b).2.1) (hk : k < N) (hfin : (T k).2.2.2 = false) (hd0 : parseFieldDescriptor (T k).2.2.1 = some ty) (hw : Cond.fieldLink own i (T k).1 (T k).2.1 (T k).2.2.1 ∈ bg) (hd : decode cc pc = .ok (.putfield i, 3)) : mi_sim g own cc nL ini pc (o_put ci k ty) := by
  intro lv st M S' h
  unfold o_put at h
  dsimp only at h
  split at h
  · rename_i v a rest
    split at h
    · rename_i o hM
      split at h
      · rename_i hco
        cases h
        refine ⟨⟨Nat.le_refl _, Nat.le_refl _⟩, ?_⟩
        intro D p l e R s m args below meth c A n0 s0 Q hc hn0 hs0 hR1 hR2 hW H locs ls ws tys hr hl hS
        obtain ⟨hx, hb, hml, hown, htb, hE, hini, hA, hK0, hfr, hlo⟩ := hc
        obtain ⟨rfl, hfit⟩ := hco
        obtain ⟨q0, fs, he, hfl, hff, hwr⟩ := mi_obj hr hci hM
        obtain ⟨hn, hft⟩ := mi_fit_ok hfit
        have hl9 : k < fs.length := by
          rw [hfl]
          unfold mi_n
          rw [hc0]
          exact hk
        have hap := va_apart (own := own) (D := D) htb hin ty0 hty hnm hr.1 hc0
        obtain ⟨r, h1, cell, q1, q2, q3, q4⟩ := hr.2.1 q0 _ he
        have hr9 : r = (C, T, N) := Option.some.inj (h1.symm.trans hc0)
        subst hr9
        obtain ⟨hS9, hfc, kC, hkC, hkind⟩ := hr.1.1 o.1 _ hc0
        obtain ⟨cf, kf, fi, f, hi, hsl⟩ := hS9 k hk
        have hlay := htb _ (hin _ (u_in_lay hk))
        unfold u_lay at hlay
        rw [if_neg (by rw [hfin]; decide)] at hlay
        have hst := (u_facts hfc hkC (u_lays htb hin hk) hi).1
        have h6 := u_store hfc hkC hkind hlay hi hd0 hn hft
        refine W.putK hx hb (f := f) ⟨hown, htb _ hw, ⟨_, _, _, hi⟩, hst⟩ (by rw [q2]; exact h6) q1 q3 (by rw [hsl]; exact k2_hasslot (q4 k hk)) rfl rfl hd fun H' e1 e2 e3 => ?_
        rw [hsl] at e1 ⊢
        have hA9 : A a := hr.2.2.1.2 q0 _ he
        exact hW H' _ ls (ws.set q0 (a, .inr (o.1, fs.set k v))) tys (hr.put (c' := .inr (o.1, va_up o.2 k (some v))) he ⟨hwr.1, fun o9 h9 => by cases h9; exact hwr.2 o rfl⟩ ⟨fs.set k v, rfl, by rw [List.length_set]; exact hfl, mi_put_fs hl9 hff⟩ ⟨_, hc0, t_OB.to (V := updV (vp_V fs) k v) ⟨_, e1, q2, q3, t_set q4 hap hk v⟩ (fun j _ => vp_updV_set hl9 v j)⟩ e2 e3) hl (hS.put e2 e3 hA9)
      · cases h
    · cases h
  · cases h
end MIP
end
section
/-! steps over rows, new cells, what stands outside -/
section MIQ
def o_ald (ty : FieldType) : mi_O := fun S => match S.2.2.1 with
  | .int i :: .ref a :: st => match mi_ga S.2.2.2 a ty with
    | some r => if i < 0 ∨ r.1 ≤ i.toNatClampNeg then none else match r.2 i.toNatClampNeg with
      | some v => some (S.1 + 1, S.2.1, v :: st, S.2.2.2)
      | none => none
    | none => none
  | _ => none
def o_alen (ty : FieldType) : mi_O := fun S => match S.2.2.1 with
  | .ref a :: st => match mi_ga S.2.2.2 a ty with
    | some r => some (S.1 + 1, S.2.1, .int (Int32.ofNat r.1) :: st, S.2.2.2)
    | none => none
  | _ => none
def o_ast (ty : FieldType) (nar : Int32 → Int32) : mi_O := fun S => match S.2.2.1 with
  | .int x :: .int i :: .ref a :: st => match mi_ga S.2.2.2 a ty with
    | some r => if i < 0 ∨ r.1 ≤ i.toNatClampNeg then none else some (S.1 + 1, S.2.1, st, va_up S.2.2.2.1 a (some (.inl (ty, r.1, va_up r.2 i.toNatClampNeg (some (.int (nar x)))))), S.2.2.2.2)
    | none => none
  | _ => none
theorem sm_iald {g : xe_G} {own : String} {cc : ByteArray} {nL : Nat} {ini : Bool} {pc : Nat} (hd : decode cc pc = .ok (.iaload, 1)) : mi_ps g own cc nL ini pc (o_ald .int) := by
  intro lv st M S' h
  unfold o_ald at h
  dsimp only at h
  split at h
  · split at h
    · rename_i r hga
      split at h
      · cases h
      · rename_i hin
        split at h
        · rename_i v hv
          cases h
          refine ⟨rfl, rfl, ?_⟩
          intro D p l e R s m args below meth c A Q H locs ls cells slots ws tys hc hr hl hS hR1 hR2 k
          obtain ⟨hx, hb, hml, hown, htb, hE, hini, hA, hK0, hfr, hlo⟩ := hc
          obtain ⟨-, ⟨q0, cA, x, t0, h1, h2, ⟨h3, h4⟩, h5⟩ | ⟨-, -, h0⟩⟩ := mi_ga_in hr hga
          · obtain ⟨n9, x9⟩ := x
            obtain ⟨n8, f8⟩ := r
            dsimp only at h3 h4 hin hv
            subst h3
            rcases h4 with ⟨-, f, rfl, hf⟩ | ⟨h9, -⟩ | ⟨⟨C9, h9⟩, -⟩
            · rw [hf _ _ hv] at k
              exact va_iald hx hb hr.1 hr.2.1 q0 t0 h1 h2 hin hd k
            · cases h9
            · cases h9
          · exact absurd (Or.inr (by rw [h0]; exact Nat.zero_le _)) hin
        · cases h
    · cases h
  · cases h
theorem sm_bald {g : xe_G} {own : String} {cc : ByteArray} {nL : Nat} {ini : Bool} {pc : Nat} (hd : decode cc pc = .ok (.baload, 1)) : mi_ps g own cc nL ini pc (o_ald .byte) := by
  intro lv st M S' h
  unfold o_ald at h
  dsimp only at h
  split at h
  · split at h
    · rename_i r hga
      split at h
      · cases h
      · rename_i hin
        split at h
        · rename_i v hv
          cases h
          refine ⟨rfl, rfl, ?_⟩
          intro D p l e R s m args below meth c A Q H locs ls cells slots ws tys hc hr hl hS hR1 hR2 k
          obtain ⟨hx, hb, hml, hown, htb, hE, hini, hA, hK0, hfr, hlo⟩ := hc
          obtain ⟨-, ⟨q0, cA, x, t0, h1, h2, ⟨h3, h4⟩, h5⟩ | ⟨-, -, h0⟩⟩ := mi_ga_in hr hga
          · obtain ⟨n9, x9⟩ := x
            obtain ⟨n8, f8⟩ := r
            dsimp only at h3 h4 hin hv
            subst h3
            rcases h4 with ⟨-, f, rfl, hf⟩ | ⟨h9, -⟩ | ⟨⟨C9, h9⟩, -⟩
            · rw [hf _ _ hv] at k
              exact va_bald hx hb hr.1 hr.2.1 q0 t0 h1 h2 hin hd k
            · cases h9
            · cases h9
          · exact absurd (Or.inr (by rw [h0]; exact Nat.zero_le _)) hin
        · cases h
    · cases h
  · cases h
theorem sm_cald {g : xe_G} {own : String} {cc : ByteArray} {nL : Nat} {ini : Bool} {pc : Nat} (hd : decode cc pc = .ok (.caload, 1)) : mi_ps g own cc nL ini pc (o_ald .char) := by
  intro lv st M S' h
  unfold o_ald at h
  dsimp only at h
  split at h
  · split at h
    · rename_i r hga
      split at h
      · cases h
      · rename_i hin
        split at h
        · rename_i v hv
          cases h
          refine ⟨rfl, rfl, ?_⟩
          intro D p l e R s m args below meth c A Q H locs ls cells slots ws tys hc hr hl hS hR1 hR2 k
          obtain ⟨hx, hb, hml, hown, htb, hE, hini, hA, hK0, hfr, hlo⟩ := hc
          obtain ⟨-, ⟨q0, cA, x, t0, h1, h2, ⟨h3, h4⟩, h5⟩ | ⟨-, -, h0⟩⟩ := mi_ga_in hr hga
          · obtain ⟨n9, x9⟩ := x
            obtain ⟨n8, f8⟩ := r
            dsimp only at h3 h4 hin hv
            subst h3
            rcases h4 with ⟨-, f, rfl, hf⟩ | ⟨h9, -⟩ | ⟨⟨C9, h9⟩, -⟩
            · rw [hf _ _ hv] at k
              exact va_cald hx hb hr.1 hr.2.1 q0 t0 h1 h2 hin hd k
            · cases h9
            · cases h9
          · exact absurd (Or.inr (by rw [h0]; exact Nat.zero_le _)) hin
        · cases h
    · cases h
  · cases h
theorem sm_aald {g : xe_G} {own : String} {cc : ByteArray} {nL : Nat} {ini : Bool} {pc : Nat} {C : String} (hd : decode cc pc = .ok (.aaload, 1)) : mi_ps g own cc nL ini pc (o_ald (.object C)) := by
  intro lv st M S' h
  unfold o_ald at h
  dsimp only at h
  split at h
  · split at h
    · rename_i r hga
      split at h
      · cases h
      · rename_i hin
        split at h
        · rename_i v hv
          cases h
          refine ⟨rfl, rfl, ?_⟩
          intro D p l e R s m args below meth c A Q H locs ls cells slots ws tys hc hr hl hS hR1 hR2 k
          obtain ⟨hx, hb, hml, hown, htb, hE, hini, hA, hK0, hfr, hlo⟩ := hc
          obtain ⟨-, ⟨q0, cA, x, t0, h1, h2, ⟨h3, h4⟩, h5⟩ | ⟨-, -, h0⟩⟩ := mi_ga_in hr hga
          · obtain ⟨n9, x9⟩ := x
            obtain ⟨n8, f8⟩ := r
            dsimp only at h3 h4 hin hv
            subst h3
            rcases h4 with ⟨h9, -⟩ | ⟨h9, -⟩ | ⟨-, f, rfl, hf⟩
            · simp at h9
            · cases h9
            · rw [hf _ _ hv] at k
              exact va_aldq hx hb hr.1 hr.2.1 q0 t0 h1 h2 hin hd k
          · exact absurd (Or.inr (by rw [h0]; exact Nat.zero_le _)) hin
        · cases h
    · cases h
  · cases h
theorem sm_alen {g : xe_G} {own : String} {cc : ByteArray} {nL : Nat} {ini : Bool} {pc : Nat} {ty : FieldType} (hd : decode cc pc = .ok (.arraylength, 1)) : mi_ps g own cc nL ini pc (o_alen ty) := by
  intro lv st M S' h
  unfold o_alen at h
  dsimp only at h
  split at h
  · split at h
    · rename_i r hga
      cases h
      refine ⟨rfl, rfl, ?_⟩
      intro D p l e R s m args below meth c A Q H locs ls cells slots ws tys hc hr hl hS hR1 hR2 k
      obtain ⟨hx, hb, hml, hown, htb, hE, hini, hA, hK0, hfr, hlo⟩ := hc
      obtain ⟨-, ⟨q0, cA, x, t0, h1, h2, ⟨h3, h4⟩, h5⟩ | ⟨h8, h9, h0⟩⟩ := mi_ga_in hr hga
      · exact va_alen hx hb hr.1 hr.2.1 q0 t0 h1 h2 (by rw [h3]) hd k
      · subst h8
        exact va_tlen hx hb hE.2.1 hS (by rw [h0]) hd k
    · cases h
  · cases h
theorem sm_iast {g : xe_G} {own : String} {cc : ByteArray} {nL : Nat} {ini : Bool} {pc : Nat} (hd : decode cc pc = .ok (.iastore, 1)) : mi_sim g own cc nL ini pc (o_ast .int (fun x => x)) := by
  intro lv st M S' h
  unfold o_ast at h
  dsimp only at h
  split at h
  · rename_i x i a rest
    split at h
    · rename_i r hga
      split at h
      · cases h
      · rename_i hin
        cases h
        refine ⟨⟨Nat.le_refl _, Nat.le_refl _⟩, ?_⟩
        intro D p l e R s m args below meth c A n0 s0 Q hc hn0 hs0 hR1 hR2 hW H locs ls ws tys hr hl hS
        obtain ⟨hx, hb, hml, hown, htb, hE, hini, hA, hK0, hfr, hlo⟩ := hc
        obtain ⟨hM, ⟨q0, cA, y, t0, h1, h2, ⟨h3, h4⟩, h5⟩ | ⟨-, -, h0⟩⟩ := mi_ga_in hr hga
        · obtain ⟨n9, x9⟩ := y
          obtain ⟨n8, f8⟩ := r
          dsimp only at h3 h4 hin h5
          subst h3
          rcases h4 with ⟨-, f, rfl, hf⟩ | ⟨h9, -⟩ | ⟨⟨C9, h9⟩, -⟩
          · refine W.iast hx hb (hr.2.1 q0 _ h1) ((hr.1.2 t0 _ h2).1 n9 (fun j => .int (f j))) (fun q => by cases q) (by show ¬ (i < 0 ∨ (arrV _ _ _).slots.size ≤ _); rw [arrV_size]; exact hin) rfl rfl hd fun H1 e1 z oq => ?_
            refine hW H1 _ ls (ws.set q0 (a, .inl (cA, n9, .inl (upd f i.toNatClampNeg x)))) tys (hr.put h1 ⟨h5.1, fun o9 h9 => by cases h9⟩ ⟨cA, _, rfl, List.mem_of_getElem? h2, rfl, Or.inl ⟨by simp, _, rfl, fun j w hj => ?_⟩⟩ ?_ z oq) hl (hS.put z oq (hr.2.2.1.2 q0 _ h1))
            · by_cases hq : j = i.toNatClampNeg
              · have h7 : some (Value.int x) = some w := by simpa [va_up, hq] using hj
                cases h7
                simp [upd, hq]
              · have h7 : f8 j = some w := by simpa [va_up, hq] using hj
                rw [hf _ _ h7]
                simp [upd, hq]
            · show H1[a]? = some (vp_cell _ _)
              rw [e1]
              rw [vp_cell_i, vp_cell_i, arrV_store]
              congr 2
              funext q
              by_cases hq : q = i.toNatClampNeg
              · subst hq
                simp [updV, upd, vp_nar]
                try rfl
              · simp [updV, upd, hq]
          · cases h9
          · cases h9
        · exact absurd (Or.inr (by rw [h0]; exact Nat.zero_le _)) hin
    · cases h
  · cases h
theorem sm_bast {g : xe_G} {own : String} {cc : ByteArray} {nL : Nat} {ini : Bool} {pc : Nat} (hd : decode cc pc = .ok (.bastore, 1)) : mi_sim g own cc nL ini pc (o_ast .byte (vp_nar .byte)) := by
  intro lv st M S' h
  unfold o_ast at h
  dsimp only at h
  split at h
  · rename_i x i a rest
    split at h
    · rename_i r hga
      split at h
      · cases h
      · rename_i hin
        cases h
        refine ⟨⟨Nat.le_refl _, Nat.le_refl _⟩, ?_⟩
        intro D p l e R s m args below meth c A n0 s0 Q hc hn0 hs0 hR1 hR2 hW H locs ls ws tys hr hl hS
        obtain ⟨hx, hb, hml, hown, htb, hE, hini, hA, hK0, hfr, hlo⟩ := hc
        obtain ⟨hM, ⟨q0, cA, y, t0, h1, h2, ⟨h3, h4⟩, h5⟩ | ⟨-, -, h0⟩⟩ := mi_ga_in hr hga
        · obtain ⟨n9, x9⟩ := y
          obtain ⟨n8, f8⟩ := r
          dsimp only at h3 h4 hin h5
          subst h3
          rcases h4 with ⟨-, f, rfl, hf⟩ | ⟨h9, -⟩ | ⟨⟨C9, h9⟩, -⟩
          · refine W.bast hx hb (hr.2.1 q0 _ h1) ((hr.1.2 t0 _ h2).1 n9 (fun j => .int (f j))) (fun q => by cases q) (by show ¬ (i < 0 ∨ (arrV _ _ _).slots.size ≤ _); rw [arrV_size]; exact hin) rfl rfl hd fun H1 e1 z oq => ?_
            refine hW H1 _ ls (ws.set q0 (a, .inl (cA, n9, .inl (upd f i.toNatClampNeg (vp_nar .byte x))))) tys (hr.put h1 ⟨h5.1, fun o9 h9 => by cases h9⟩ ⟨cA, _, rfl, List.mem_of_getElem? h2, rfl, Or.inl ⟨by simp, _, rfl, fun j w hj => ?_⟩⟩ ?_ z oq) hl (hS.put z oq (hr.2.2.1.2 q0 _ h1))
            · by_cases hq : j = i.toNatClampNeg
              · have h7 : some (Value.int (vp_nar .byte x)) = some w := by simpa [va_up, hq] using hj
                cases h7
                simp [upd, hq]
              · have h7 : f8 j = some w := by simpa [va_up, hq] using hj
                rw [hf _ _ h7]
                simp [upd, hq]
            · show H1[a]? = some (vp_cell _ _)
              rw [e1]
              rw [vp_cell_i, vp_cell_i, arrV_store]
              congr 2
              funext q
              by_cases hq : q = i.toNatClampNeg
              · subst hq
                simp [updV, upd, vp_nar]
                try rfl
              · simp [updV, upd, hq]
          · cases h9
          · cases h9
        · exact absurd (Or.inr (by rw [h0]; exact Nat.zero_le _)) hin
    · cases h
  · cases h
theorem sm_cast {g : xe_G} {own : String} {cc : ByteArray} {nL : Nat} {ini : Bool} {pc : Nat} (hd : decode cc pc = .ok (.castore, 1)) : mi_sim g own cc nL ini pc (o_ast .char (vp_nar .char)) := by
  intro lv st M S' h
  unfold o_ast at h
  dsimp only at h
  split at h
  · rename_i x i a rest
    split at h
    · rename_i r hga
      split at h
      · cases h
      · rename_i hin
        cases h
        refine ⟨⟨Nat.le_refl _, Nat.le_refl _⟩, ?_⟩
        intro D p l e R s m args below meth c A n0 s0 Q hc hn0 hs0 hR1 hR2 hW H locs ls ws tys hr hl hS
        obtain ⟨hx, hb, hml, hown, htb, hE, hini, hA, hK0, hfr, hlo⟩ := hc
        obtain ⟨hM, ⟨q0, cA, y, t0, h1, h2, ⟨h3, h4⟩, h5⟩ | ⟨-, -, h0⟩⟩ := mi_ga_in hr hga
        · obtain ⟨n9, x9⟩ := y
          obtain ⟨n8, f8⟩ := r
          dsimp only at h3 h4 hin h5
          subst h3
          rcases h4 with ⟨-, f, rfl, hf⟩ | ⟨h9, -⟩ | ⟨⟨C9, h9⟩, -⟩
          · refine W.cast hx hb (hr.2.1 q0 _ h1) ((hr.1.2 t0 _ h2).1 n9 (fun j => .int (f j))) (fun q => by cases q) (by show ¬ (i < 0 ∨ (arrV _ _ _).slots.size ≤ _); rw [arrV_size]; exact hin) rfl rfl hd fun H1 e1 z oq => ?_
            refine hW H1 _ ls (ws.set q0 (a, .inl (cA, n9, .inl (upd f i.toNatClampNeg (vp_nar .char x))))) tys (hr.put h1 ⟨h5.1, fun o9 h9 => by cases h9⟩ ⟨cA, _, rfl, List.mem_of_getElem? h2, rfl, Or.inl ⟨by simp, _, rfl, fun j w hj => ?_⟩⟩ ?_ z oq) hl (hS.put z oq (hr.2.2.1.2 q0 _ h1))
            · by_cases hq : j = i.toNatClampNeg
              · have h7 : some (Value.int (vp_nar .char x)) = some w := by simpa [va_up, hq] using hj
                cases h7
                simp [upd, hq]
              · have h7 : f8 j = some w := by simpa [va_up, hq] using hj
                rw [hf _ _ h7]
                simp [upd, hq]
            · show H1[a]? = some (vp_cell _ _)
              rw [e1]
              rw [vp_cell_i, vp_cell_i, arrV_store]
              congr 2
              funext q
              by_cases hq : q = i.toNatClampNeg
              · subst hq
                simp [updV, upd, vp_nar]
                try rfl
              · simp [updV, upd, hq]
          · cases h9
          · cases h9
        · exact absurd (Or.inr (by rw [h0]; exact Nat.zero_le _)) hin
    · cases h
  · cases h
/-- the object at v may lie in a row of C: a cell of that class, or a literal -/
def mi_ok (M : mi_H) (C : String) (v : Nat) : Bool := match M.1 v with
  | some (.inr o) => if o.1 < 100 then (match vwCl[o.1]? with | some r => decide (r.1 = C) | none => false) else decide (C = "java/lang/String")
  | _ => false
def o_aast (C : String) : mi_O := fun S => match S.2.2.1 with
  | .ref v :: .int i :: .ref a :: st => match mi_ga S.2.2.2 a (.object C) with
    | some r => if i < 0 ∨ r.1 ≤ i.toNatClampNeg then none else if mi_ok S.2.2.2 C v = true then some (S.1 + 1, S.2.1, st, va_up S.2.2.2.1 a (some (.inl (.object C, r.1, va_up r.2 i.toNatClampNeg (some (.ref v))))), S.2.2.2.2) else none
    | none => none
  | _ => none
theorem mi_ok_any {g : xe_G} {D : va_G} {A : Nat → Prop} {s : State} {M : mi_H} {H : Heap} {locs : List Loc} {ws : va_W} {tys : List (ClassId × FieldType)} {C : String} {v : Nat} (hr : mi_rel g D A s M H ws tys) (hE : xe_E g A s s.heap) (hS : va_S A s.heap H locs) (h : mi_ok M C v = true) : va_Any C s H v := by
  unfold mi_ok at h
  split at h
  · rename_i o hM
    split at h
    · rename_i ho
      split at h
      · rename_i r hr9
        obtain ⟨q0, fs, h1, -⟩ := mi_obj hr ho hM
        have hC : r.1 = C := by simpa using h
        subst hC
        exact va_rAny hr.1 hr.2.1 h1 hr9 (fun comp c0 g1 g2 => by cases g1.symm.trans g2; exact va_asg _ _)
      · cases h
    · rename_i ho
      have hC : C = "java/lang/String" := by simpa using h
      subst hC
      rcases hr.2.2.2.2.1 v _ hM with ⟨hw, -⟩ | ⟨-, f9, h9⟩ | ⟨k9, f9, hk9, h8, h9⟩
      · exact absurd (hw.2 o rfl) ho
      · cases h9
      · subst h8
        exact xe_any hE hS k9 hk9
  · cases h
theorem sm_aast {g : xe_G} {own : String} {cc : ByteArray} {nL : Nat} {ini : Bool} {pc : Nat} {C : String} (hd : decode cc pc = .ok (.aastore, 1)) : mi_sim g own cc nL ini pc (o_aast C) := by
  intro lv st M S' h
  unfold o_aast at h
  dsimp only at h
  split at h
  · rename_i v i a rest
    split at h
    · rename_i r hga
      split at h
      · cases h
      · rename_i hin
        split at h
        · rename_i hok
          cases h
          refine ⟨⟨Nat.le_refl _, Nat.le_refl _⟩, ?_⟩
          intro D p l e R s m args below meth c A n0 s0 Q hc hn0 hs0 hR1 hR2 hW H locs ls ws tys hr hl hS
          obtain ⟨hx, hb, hml, hown, htb, hE, hini, hA, hK0, hfr, hlo⟩ := hc
          obtain ⟨hM, ⟨q0, cA, y, t0, h1, h2, ⟨h3, h4⟩, h5⟩ | ⟨-, h0, -⟩⟩ := mi_ga_in hr hga
          · obtain ⟨n9, x9⟩ := y
            obtain ⟨n8, f8⟩ := r
            dsimp only at h3 h4 hin h5
            subst h3
            rcases h4 with ⟨h9, -⟩ | ⟨h9, -⟩ | ⟨-, f, rfl, hf⟩
            · simp at h9
            · cases h9
            · have hlt : i.toNatClampNeg < n9 := Nat.not_le.mp fun q => hin (Or.inr q)
              have h0 : ¬ i < 0 := fun q => hin (Or.inl q)
              obtain ⟨cellV, g1, g3, ⟨kC, hkC⟩, hasg⟩ := mi_ok_any hr hE hS hok
              obtain ⟨kA, comp, k1, k2, k3, -⟩ := (hr.1.2 t0 _ h2).2
              obtain ⟨kE, hkE, -⟩ := Vm.findClass_spec k3
              refine W.aast hx hb (hr.2.1 q0 _ h1) (fun q h => by cases h) (fun h => by cases h) k1 k2 rfl hkE ⟨h0, by show _ < (arrV _ _ _).slots.size; rw [arrV_size]; exact hlt⟩ g1 (fun q h => by rw [h] at g3; cases g3) hkC (hasg _ k3) rfl rfl hd fun H1 e1 z oq => ?_
              refine hW H1 _ ls (ws.set q0 (a, .inl (cA, n9, .inr (.inr (.inr (.inr (va_up f i.toNatClampNeg (some v)))))))) tys (hr.put h1 ⟨h5.1, fun o9 h9 => by cases h9⟩ ⟨cA, _, rfl, List.mem_of_getElem? h2, rfl, Or.inr (Or.inr ⟨⟨_, rfl⟩, _, rfl, fun j w hj => ?_⟩)⟩ ?_ z oq) hl (hS.put z oq (hr.2.2.1.2 q0 _ h1))
              · by_cases hq : j = i.toNatClampNeg
                · have h7 : some (Value.ref v) = some w := by simpa [va_up, hq] using hj
                  cases h7
                  simp [va_up, hq, va_rf]
                · have h7 : f8 j = some w := by simpa [va_up, hq] using hj
                  rw [hf _ _ h7]
                  simp [va_up, hq]
              · show H1[a]? = some (vp_cell _ _)
                rw [e1]
                rw [vp_cell_q, vp_cell_q, arrV_store]
                congr 2
                funext q
                by_cases hq : q = i.toNatClampNeg
                · subst hq
                  simp [updV, va_up, va_rf]
                · simp [updV, va_up, hq]
          · cases h0
        · cases h
    · cases h
  · cases h
theorem mi_fresh {g : xe_G} {A : Nat → Prop} {s : State} {H : Heap} {locs : List Loc} (hE : xe_E g A s s.heap) (hS : va_S A s.heap H locs) : H.size ≠ g.1 := by
  obtain ⟨cell, h1, -⟩ := hE.2.1
  have h2 : g.1 < s.heap.size := (Array.getElem?_eq_some_iff.mp h1).1
  exact Nat.ne_of_gt (Nat.lt_of_lt_of_le h2 hS.1)
def o_newa (ty : FieldType) : mi_O := fun S => match S.2.2.1 with
  | .int n :: st => if n < 0 ∨ 134217728 < n.toNatClampNeg then none else some (S.1 + 2, S.2.1, .ref S.2.2.2.2.1 :: st, va_up S.2.2.2.1 S.2.2.2.2.1 (some (.inl (ty, n.toNatClampNeg, fun _ => some (.int 0)))), S.2.2.2.2.1 + 1, S.2.2.2.2.2 + n.toNatClampNeg)
  | _ => none
theorem sm_newa {g : xe_G} {own : String} {cc : ByteArray} {nL : Nat} {ini : Bool} {pc : Nat} {ty : FieldType} {aty : ArrayType} (hty : newarray.typeOf aty = ty) (hw : Cond.arrayClass ty ∈ bg) (h4 : componentBytes ty ≤ 4) (h5 : ty ∈ [FieldType.int, .byte, .char, .short, .boolean]) (hd : decode cc pc = .ok (.newarray aty, 2)) : mi_sim g own cc nL ini pc (o_newa ty) := by
  intro lv st M S' h
  subst hty
  unfold o_newa at h
  dsimp only at h
  split at h
  · rename_i n rest
    split at h
    · cases h
    · rename_i hin
      cases h
      refine ⟨⟨Nat.le_succ _, Nat.le_add_right _ _⟩, ?_⟩
      intro D p l e R s m args below meth c A n0 s0 Q hc hn0 hs0 hR1 hR2 hW H locs ls ws tys hr hl hS
      obtain ⟨hx, hb, hml, hown, htb, hE, hini, hA, hK0, hfr, hlo⟩ := hc
      dsimp only at hR1 hR2 hn0 hs0
      have hz := hr.2.2.2.1
      have e9 : M.2.1 + 1 - n0 = (M.2.1 - n0) + 1 := by omega
      have e8 : M.2.2 + n.toNatClampNeg - s0 = (M.2.2 - s0) + n.toNatClampNeg := by omega
      have hb9 : n.toNatClampNeg * componentBytes (newarray.typeOf aty) ≤ 536870912 := Nat.le_trans (Nat.mul_le_mul (Nat.not_lt.mp (fun q => hin (Or.inr q))) h4) (by decide)
      refine va_newaK hx hb (htb _ hw) rfl hd rfl (fun q => hin (Or.inl q)) rfl hb9 (by rw [← e9]; exact hR1) (by rw [← e8]; exact hR2) rfl fun H1 cA e1 z1 o1 hAr hNm => ?_
      have hgo := hW H1 locs ls (ws ++ [(H.size, .inl (cA, n.toNatClampNeg, .inl (fun _ => 0)))]) (tys ++ [(cA, newarray.typeOf aty)]) ?_ hl ⟨Nat.le_trans hS.1 (by omega), fun x h1 h2 => (o1 x (Nat.lt_of_lt_of_le h1 hS.1)).trans (hS.2.1 x h1 h2), hS.2.2⟩
      · dsimp only at hgo
        rw [e9, e8, ← hz] at hgo
        rw [← hz]
        exact hgo
      · refine hr.push n.toNatClampNeg (hA _ hS.1) ?_ ⟨mi_fresh hE hS, fun o9 h9 => by cases h9⟩ ⟨cA, _, rfl, by simp, rfl, Or.inl ⟨h5, _, rfl, fun j w hj => by cases hj; rfl⟩⟩ ?_ z1 o1
        · refine hr.1.app ⟨hr.1.1, fun k x hx9 => ?_⟩
          have hz9 : k < 1 := (List.getElem?_eq_some_iff.mp hx9).1
          rw [show k = 0 by omega] at hx9
          cases hx9
          exact ⟨hAr, by cases aty <;> exact hNm⟩
        · show H1[H.size]? = some (vp_cell _ _)
          rw [e1, vp_cell_i]
          congr 2
          funext _
          cases aty <;> first | rfl | (simp [newarray.typeOf] at h5)
  · cases h
def o_anew (C : String) : mi_O := fun S => match S.2.2.1 with
  | .int n :: st => if n < 0 ∨ 134217728 < n.toNatClampNeg then none else some (S.1 + 3, S.2.1, .ref S.2.2.2.2.1 :: st, va_up S.2.2.2.1 S.2.2.2.2.1 (some (.inl (.object C, n.toNatClampNeg, fun _ => some .null))), S.2.2.2.2.1 + 1, S.2.2.2.2.2 + n.toNatClampNeg)
  | _ => none
theorem sm_anew {g : xe_G} {own : String} {cc : ByteArray} {nL : Nat} {ini : Bool} {pc : Nat} {C : String} {i : Nat} (hcl : Cond.classLink own i C ∈ bg) (hAO : ∀ A s, xe_E g A s s.heap → va_AO C s) (hd : decode cc pc = .ok (.anewarray i, 3)) : mi_sim g own cc nL ini pc (o_anew C) := by
  intro lv st M S' h
  unfold o_anew at h
  dsimp only at h
  split at h
  · rename_i n rest
    split at h
    · cases h
    · rename_i hin
      cases h
      refine ⟨⟨Nat.le_succ _, Nat.le_add_right _ _⟩, ?_⟩
      intro D p l e R s m args below meth c A n0 s0 Q hc hn0 hs0 hR1 hR2 hW H locs ls ws tys hr hl hS
      obtain ⟨hx, hb, hml, hown, htb, hE, hini, hA, hK0, hfr, hlo⟩ := hc
      dsimp only at hR1 hR2 hn0 hs0
      have hz := hr.2.2.2.1
      have e9 : M.2.1 + 1 - n0 = (M.2.1 - n0) + 1 := by omega
      have e8 : M.2.2 + n.toNatClampNeg - s0 = (M.2.2 - s0) + n.toNatClampNeg := by omega
      have hb9 : n.toNatClampNeg * 4 ≤ 536870912 := Nat.le_trans (Nat.mul_le_mul (Nat.not_lt.mp (fun q => hin (Or.inr q))) (Nat.le_refl 4)) (by decide)
      refine W.anew hx hb hown (htb _ hcl) (va_AO.use (hAO A s hE)) rfl hd rfl (fun q => hin (Or.inl q)) hb9 (by rw [← e9]; exact hR1) (by rw [← e8]; exact hR2) fun cA kA comp f1 f2 f3 f4 => ?_
      generalize hH1 : H.push ({ cls := cA, slots := Array.replicate n.toNatClampNeg .null, vm := .none } : Cell) = H1
      have z1 : H1.size = H.size + 1 := by rw [← hH1, Array.size_push]
      have e1 : H1[H.size]? = some (arrV cA n.toNatClampNeg (fun _ => .null)) := by rw [← hH1, Array.getElem?_push_size, ← arrV_new]
      have o1 : ∀ q : Nat, q < H.size → H1[q]? = H[q]? := fun q hq => by rw [← hH1, Array.getElem?_push, if_neg (Nat.ne_of_lt hq)]
      have hAr : ArrOfT s cA (.object C) := fun N z => ⟨(fun k h => by cases h), kA, f2, comp, f3⟩
      have hgo := hW H1 locs ls (ws ++ [(H.size, .inl (cA, n.toNatClampNeg, .inr (.inr (.inr (.inr (fun _ => none))))))]) (tys ++ [(cA, .object C)]) ?_ hl ⟨Nat.le_trans hS.1 (by omega), fun x h1 h2 => (o1 x (Nat.lt_of_lt_of_le h1 hS.1)).trans (hS.2.1 x h1 h2), hS.2.2⟩
      · dsimp only at hgo
        rw [e9, e8, ← hz] at hgo
        rw [← hz]
        exact hgo
      · refine hr.push n.toNatClampNeg (hA _ hS.1) ?_ ⟨mi_fresh hE hS, fun o9 h9 => by cases h9⟩ ⟨cA, _, rfl, by simp, rfl, Or.inr (Or.inr ⟨⟨C, rfl⟩, _, rfl, fun j w hj => by cases hj; rfl⟩)⟩ ?_ z1 o1
        · refine hr.1.app ⟨hr.1.1, fun k x hx9 => ?_⟩
          have hz9 : k < 1 := (List.getElem?_eq_some_iff.mp hx9).1
          rw [show k = 0 by omega] at hx9
          cases hx9
          exact ⟨hAr, kA, comp, f2, f3, f4, f1⟩
        · show H1[H.size]? = some (vp_cell _ _)
          rw [e1]
          rfl
  · cases h
def o_new (ci N : Nat) (ds : List Value) : mi_O := fun S => some (S.1 + 3, S.2.1, .ref S.2.2.2.2.1 :: S.2.2.1, va_up S.2.2.2.1 S.2.2.2.2.1 (some (.inr (ci, fun k => ds[k]?))), S.2.2.2.2.1 + 1, S.2.2.2.2.2 + N)
theorem sm_new {g : xe_G} {own : String} {cc : ByteArray} {nL : Nat} {ini : Bool} {pc : Nat} {ci i N : Nat} {C : String} {T : u_T} {ty : Nat → FieldType} {ds : List Value} (hci : ci < 100) (hc0 : vwCl[ci]? = some (C, T, N)) (hin : ∀ w ∈ u_ws C T N, w ∈ bg) (hty : ∀ k, k < N → parseFieldDescriptor (T k).2.2.1 = some (ty k)) (hcl : Cond.classLink own i C ∈ bg) (hin9 : Cond.instantiable C N ∈ bg) (hi9 : Cond.initialized C ∈ bg) (hfs : ∀ j, j < N → defaultValue (ty j) = vp_V ds j) (hdl : ds.length = N) (hd : decode cc pc = .ok (.new i, 3)) : mi_sim g own cc nL ini pc (o_new ci N ds) := by
  intro lv st M S' h
  cases h
  refine ⟨⟨Nat.le_succ _, Nat.le_add_right _ _⟩, ?_⟩
  intro D p l e R s m args below meth c A n0 s0 Q hc hn0 hs0 hR1 hR2 hW H locs ls ws tys hr hl hS
  obtain ⟨hx, hb, hml, hown, htb, hE, hini, hA, hK0, hfr, hlo⟩ := hc
  dsimp only at hR1 hR2 hn0 hs0
  have hz := hr.2.2.2.1
  have e9 : M.2.1 + 1 - n0 = (M.2.1 - n0) + 1 := by omega
  have e8 : M.2.2 + N - s0 = (M.2.2 - s0) + N := by omega
  have hKn := hr.1.1 ci _ hc0
  refine W.newcK hx hb hown (htb _ hcl) (htb _ hin9) (htb _ hi9) rfl hd (by rw [← e9]; exact hR1) (by rw [← e8]; exact hR2) hKn.2.1 rfl fun H1 kC hkC e1 z1 o1 => ?_
  have hgo := hW H1 locs ls (ws ++ [(H.size, .inr (ci, ds))]) (tys ++ []) ?_ hl ⟨Nat.le_trans hS.1 (by omega), fun x h1 h2 => (o1 x (Nat.lt_of_lt_of_le h1 hS.1)).trans (hS.2.1 x h1 h2), hS.2.2⟩
  · dsimp only at hgo
    rw [e9, e8, ← hz] at hgo
    show W p l e R s m args below meth c H1 locs (M.2.1 - n0 + 1) (M.2.2 - s0 + N) Q (F0 m (pc + 3) ls (.ref H.size :: st))
    rw [← hz]
    exact hgo
  · refine hr.push N (hA _ hS.1) (by rw [List.append_nil]; exact hr.1) ⟨mi_fresh hE hS, fun o9 h9 => by cases h9; exact hci⟩ ⟨ds, rfl, ?_, fun k v hv => hv⟩ ⟨_, hc0, (u_born ty htb hin hKn hkC e1 hty).to hfs⟩ z1 o1
    unfold mi_n
    rw [hc0]
    exact hdl
def o_drop (n : Nat) : mi_O := fun S => match S.2.2.1 with
  | .ref _ :: st => if (st.map fun v => v.category).sum ≤ 8 then some (S.1 + n, S.2.1, st, S.2.2.2) else none
  | _ => none
theorem sm_obj {g : xe_G} {own : String} {cc : ByteArray} {nL : Nat} {ini : Bool} {pc : Nat} {i : Nat} (h1 : Cond.methodLink own i Lib.objectInit ∈ bg) (h2 : Cond.instanceMethod Lib.objectInit ∈ bg) (h3 : Cond.code Lib.objectInit ⟨#[0xb1]⟩ 1 none ∈ bg) (hd : decode cc pc = .ok (.invokespecial i, 3)) : mi_ps g own cc nL ini pc (o_drop 3) := by
  intro lv st M S' h
  unfold o_drop at h
  dsimp only at h
  split at h
  · split at h
    · rename_i hs9
      cases h
      refine ⟨rfl, rfl, ?_⟩
      intro D p l e R s m args below meth c A Q H locs ls cells slots ws tys hc hr hl hS hR1 hR2 k
      obtain ⟨hx, hb, hml, hown, htb, hE, hini, hA, hK0, hfr, hlo⟩ := hc
      exact W.objInit hx hb hown (htb _ h1) (htb _ h2) (htb _ h3) rfl (by rw [hml]; exact hl.1) rfl hd (by omega) (by show 2 * 0 + _ + 12 ≤ _; omega) k
    · cases h
  · cases h
theorem sm_nob {g : xe_G} {own : String} {cc : ByteArray} {nL : Nat} {ini : Bool} {pc : Nat} {i : Nat} (hw : Cond.fieldLink own i "ClassGate" "NO_BYTES" "[B" ∈ bg) (hd : decode cc pc = .ok (.getstatic i, 3)) : mi_ps g own cc nL ini pc (o_push (.ref g.1) 3) := by
  intro lv st M S' h
  cases h
  refine ⟨rfl, rfl, ?_⟩
  intro D p l e R s m args below meth c A Q H locs ls cells slots ws tys hc hr hl hS hR1 hR2 k
  obtain ⟨hx, hb, hml, hown, htb, hE, hini, hA, hK0, hfr, hlo⟩ := hc
  exact va_gets hx hb hE.1 hS hown (htb _ hw) (fun _ h9 => h9) hd k
theorem sm_putF {g : xe_G} {own : String} {cc : ByteArray} {nL : Nat} {ini : Bool} {pc : Nat} {ci k i N : Nat} {C : String} {T : u_T} {ty0 : Nat → FieldType} {ty : FieldType} (hci : ci < 100) (hc0 : vwCl[ci]? = some (C, T, N)) (hin : ∀ w ∈ u_ws C T N, w ∈ bg) (hty : ∀ k, k < N → parseFieldDescriptor (T k).2.2.1 = some (ty0 k)) (hnm : ∀ a, a < N → ∀ b, b < N → a ≠ b → (T a).2.1 ≠ (T b).2.1) (hk : k < N) (hfin : (T k).2.2.2 = true) (hin2 : ini = true) (hdecl : (T k).1 = own) (hd0 : parseFieldDescriptor (T k).2.2.1 = some ty) (hw : Cond.fieldLink own i (T k).1 (T k).2.1 (T k).2.2.1 ∈ bg) (hd : decode cc pc = .ok (.putfield i, 3)) : mi_sim g own cc nL ini pc (o_put ci k ty) := by
  intro lv st M S' h
  unfold o_put at h
  dsimp only at h
  split at h
  · rename_i v a rest
    split at h
    · rename_i o hM
      split at h
      · rename_i hco
        cases h
        refine ⟨⟨Nat.le_refl _, Nat.le_refl _⟩, ?_⟩
        intro D p l e R s m args below meth c A n0 s0 Q hc hn0 hs0 hR1 hR2 hW H locs ls ws tys hr hl hS
        obtain ⟨hx, hb, hml, hown, htb, hE, hini, hA, hK0, hfr, hlo⟩ := hc
        obtain ⟨rfl, hfit⟩ := hco
        obtain ⟨q0, fs, he, hfl, hff, hwr⟩ := mi_obj hr hci hM
        obtain ⟨hn, hft⟩ := mi_fit_ok hfit
        have hl9 : k < fs.length := by
          rw [hfl]
          unfold mi_n
          rw [hc0]
          exact hk
        have hap := va_apart (own := own) (D := D) htb hin ty0 hty hnm hr.1 hc0
        obtain ⟨r, h1, cell, q1, q2, q3, q4⟩ := hr.2.1 q0 _ he
        have hr9 : r = (C, T, N) := Option.some.inj (h1.symm.trans hc0)
        subst hr9
        obtain ⟨hS9, hfc, kC, hkC, hkind⟩ := hr.1.1 o.1 _ hc0
        obtain ⟨cf, kf, fi, f, hi, hsl⟩ := hS9 k hk
        have hlay := htb _ (hin _ (u_in_lay hk))
        unfold u_lay at hlay
        rw [if_pos hfin] at hlay
        have hst := (u_facts hfc hkC (u_lays htb hin hk) hi).1
        have hcf : m.cls = cf := by
          obtain ⟨_, _, c', _, _, _, -, -, hf', -, -, -, hown2, -⟩ := Cond.laysFinal_spec hlay
          have e1 : c' = cf := by have := hi.symm.trans hf'; simp at this; exact this.1.symm
          rw [hdecl] at hown2
          rw [← e1]; exact Option.some.inj (hown.symm.trans hown2)
        have h6 := u_fits hfc hkC hkind (Or.inr hlay) hi hd0 hn hft
        refine W.putFinK hx hb hown (htb _ hw) hi hst hcf (hini hin2) (by rw [q2]; exact h6) q1 q3 (by rw [hsl]; exact k2_hasslot (q4 k hk)) rfl rfl hd fun H' e1 e2 e3 => ?_
        rw [hsl] at e1 ⊢
        have hA9 : A a := hr.2.2.1.2 q0 _ he
        exact hW H' _ ls (ws.set q0 (a, .inr (o.1, fs.set k v))) tys (hr.put (c' := .inr (o.1, va_up o.2 k (some v))) he ⟨hwr.1, fun o9 h9 => by cases h9; exact hwr.2 o rfl⟩ ⟨fs.set k v, rfl, by rw [List.length_set]; exact hfl, mi_put_fs hl9 hff⟩ ⟨_, hc0, t_OB.to (V := updV (vp_V fs) k v) ⟨_, e1, q2, q3, t_set q4 hap hk v⟩ (fun j _ => vp_updV_set hl9 v j)⟩ e2 e3) hl (hS.put e2 e3 hA9)
      · cases h
    · cases h
  · cases h
theorem sm_ldcS {g : xe_G} {own : String} {cc : ByteArray} {nL : Nat} {ini : Bool} {pc : Nat} {i k9 : Nat} (hk : k9 < xe_N) (h1 : (xe_lt k9).1 = own) (h2 : (xe_lt k9).2.1 = i) (hd : decode cc pc = .ok (.ldc i, 2)) : mi_ps g own cc nL ini pc (o_push (.ref (g.2.1 k9)) 2) := by
  intro lv st M S' h
  cases h
  refine ⟨rfl, rfl, ?_⟩
  intro D p l e R s m args below meth c A Q H locs ls cells slots ws tys hc hr hl hS hR1 hR2 k
  obtain ⟨hx, hb, hml, hown, htb, hE, hini, hA, hK0, hfr, hlo⟩ := hc
  have h9 := (hE.2.2.2.2.2.2.1 k9 hk).1
  rw [h1, h2] at h9
  exact va_ldcS hx hb hown h9 hd k
end MIQ
end
section
/-! returns, calls, the whole machine -/
section MIZ
def r_int (chk : Int32 → Bool) : List Value → Option (Option Value) := fun st => match st with
  | [.int v] => if chk v = true then some (some (.int v)) else none
  | _ => none
def r_long : List Value → Option (Option Value) := fun st => match st with
  | [.long v] => some (some (.long v))
  | _ => none
def r_ref : List Value → Option (Option Value) := fun st => match st with
  | [.ref a] => some (some (.ref a))
  | [.null] => some (some .null)
  | _ => none
def r_void : List Value → Option (Option Value) := fun st => match st with
  | [] => some none
  | _ => none
def mi_simr (cc : ByteArray) (ret : Option FieldType) (pc : Nat) (f : List Value → Option (Option Value)) : Prop :=
  ∀ st v, f st = some v → ∀ (p : Program) (l : Launch) (e : Env) (R : Room) (s : State) (m : MethodId) (args : Array Value) (below : List Frame) (meth : Method) (c : Code) (H : Heap) (locs : List Loc) (ls : Array Slot) (cells slots : Nat) (Qc : Array Value → State → Outcome → State → Prop) (free : Addr → Prop),
    p.tables.exec = Jvm.exec → c.code = cc → meth.sig.returnType = ret → meth.locks = false → (∀ t : State, t.heap = H → s.WarmedH t.vm → Qc args s (.returned v) t) → (∀ q ∈ locs, free q.base) →
    W p l e R s m args below meth c H locs cells slots (MQ below Qc args s cells slots free) (F0 m pc ls st)
theorem sr_int {cc : ByteArray} {pc : Nat} (hd : decode cc pc = .ok (.ireturn, 1)) : mi_simr cc (some .int) pc (r_int (fun _ => true)) := by
  intro st v h p l e R s m args below meth c H locs ls cells slots Qc free hx hb hr hlk hq hf
  unfold r_int at h
  split at h
  · cases h
    exact W.iret hx hb hr hq hf hd hlk
  · cases h
theorem sr_nar {cc : ByteArray} {pc : Nat} {ty : FieldType} {chk : Int32 → Bool} (hn : ∀ v, chk v = true → narrow ty (.int v) = .int v) (hd : decode cc pc = .ok (.ireturn, 1)) : mi_simr cc (some ty) pc (r_int chk) := by
  intro st v h p l e R s m args below meth c H locs ls cells slots Qc free hx hb hr hlk hq hf
  unfold r_int at h
  split at h
  · split at h
    · rename_i hc
      cases h
      exact W.zret hx hb hr (hn _ hc) hq hf hd hlk
    · cases h
  · cases h
theorem sr_long {cc : ByteArray} {pc : Nat} (hd : decode cc pc = .ok (.lreturn, 1)) : mi_simr cc (some .long) pc r_long := by
  intro st v h p l e R s m args below meth c H locs ls cells slots Qc free hx hb hr hlk hq hf
  unfold r_long at h
  split at h
  · cases h
    exact W.lret hx hb hr hq hf hd hlk
  · cases h
theorem sr_ref {cc : ByteArray} {pc : Nat} {rt : FieldType} (hrt : (∃ n, rt = .object n) ∨ ∃ t, rt = .array t) (hd : decode cc pc = .ok (.areturn, 1)) : mi_simr cc (some rt) pc r_ref := by
  intro st v h p l e R s m args below meth c H locs ls cells slots Qc free hx hb hr hlk hq hf
  unfold r_ref at h
  split at h
  · cases h
    exact W.aret hx hb hr hrt (Or.inr ⟨_, rfl⟩) hq hf hd hlk
  · cases h
    exact W.aret hx hb hr hrt (Or.inl rfl) hq hf hd hlk
  · cases h
theorem sr_void {cc : ByteArray} {pc : Nat} (hd : decode cc pc = .ok (.return_, 1)) : mi_simr cc none pc r_void := by
  intro st v h p l e R s m args below meth c H locs ls cells slots Qc free hx hb hr hlk hq hf
  unfold r_void at h
  split at h
  · cases h
    exact W.vret hx hb hr hq hf hd hlk
  · cases h
/-- a method: its name, its bytes, its locals, what it answers -/
abbrev mi_I : Type := MethodName × ByteArray × Nat × Option FieldType
def mi_hd (y : MethodName) (n : Nat) : Prop := y.cls ≠ "java/lang/invoke/MethodHandle" ∧ y.cls ≠ "java/lang/invoke/VarHandle" ∧ (parseMethodDescriptor y.desc).map (fun d => d.parameters.length) = some n
def mi_cal (own : String) (cc : ByteArray) (pc : Nat) (q : mi_I) (na : Nat) (k : Option Nat) : Prop :=
  q.2.2.1 ≤ 21 ∧ Cond.initialized q.1.cls ∈ bg ∧ Cond.code q.1 q.2.1 q.2.2.1 q.2.2.2 ∈ bg ∧ ∃ i n, mi_hd q.1 n ∧ Cond.methodLink own i q.1 ∈ bg ∧
    ((decode cc pc = .ok (.invokestatic i, 3) ∧ k = none ∧ na = n ∧ Cond.static q.1 ∈ bg) ∨
     (na = n + 1 ∧ Cond.instanceMethod q.1 ∈ bg ∧ ∃ ci r, k = some ci ∧ ci < 100 ∧ vwCl[ci]? = some r ∧
       ((decode cc pc = .ok (.invokevirtual i, 3) ∧ Cond.selects r.1 q.1 q.1 ∈ bg) ∨ (decode cc pc = .ok (.invokespecial i, 3) ∧ q.1.name = "<init>" ∧ q.2.2.2 = none))))
def mi_met (l : Launch) (g : xe_G) (q : mi_I) (d : Nat) (a : List Value) (M : mi_H) (v : Option Value) (M' : mi_H) : Prop :=
  M.2.1 ≤ M'.2.1 ∧ M.2.2 ≤ M'.2.2 ∧ ∀ D : va_G, Met l q.1 (.code q.1 q.2.1 q.2.2.1 q.2.2.2 :: bg) (mi_rm d (M'.2.1 - M.2.1) (M'.2.2 - M.2.2)) (mi_Pre g D M a) (mi_Q g D M v M') (M'.2.1 - M.2.1) (M'.2.2 - M.2.2) (mi_A g M)
theorem mi_blind {g : xe_G} {D : va_G} {M : mi_H} {av : List Value} : FrameBlind (mi_Pre g D M av) := by
  intro a U g9 mk q
  obtain ⟨h0, ws, tys, ⟨h1, h2⟩, h3⟩ := q
  exact ⟨h0, ws, tys, ⟨va_K.moved (u := U) (U := U.calling g9 mk a) (Vm.Alike.refl U.vm) h1, h2⟩, xe_ok.1 _ U (U.calling g9 mk a) _ (State.WarmedH.refl U) h3⟩
theorem mi_A_sub {g : xe_G} {D : va_G} {A : Nat → Prop} {s : State} {M : mi_H} {H : Heap} {locs : List Loc} {ws : va_W} {tys : List (ClassId × FieldType)} (hr : mi_rel g D A s M H ws tys) (hS : va_S A s.heap H locs) (hA : ∀ q, s.heap.size ≤ q → A q) : ∀ q, mi_A g M q → A q := by
  intro q h
  rcases h with ⟨c, h1, h2⟩ | h
  · rcases hr.2.2.2.2.1 q c h1 with ⟨-, k, e, hk, -⟩ | ⟨h3, -⟩ | ⟨k9, f9, -, -, h9⟩
    · exact hr.2.2.1.2 k _ hk
    · exact absurd h3 h2.1
    · exact absurd (h2.2 _ h9) (by show ¬ 100 + k9 < 100; omega)
  · rw [← hr.2.2.2.1] at h
    exact hA q (Nat.le_trans hS.1 h)
theorem mi_enter {g : xe_G} {D : va_G} {A : Nat → Prop} {s : State} {M : mi_H} {H : Heap} {locs : List Loc} {ws : va_W} {tys : List (ClassId × FieldType)} {av : List Value} (hr : mi_rel g D A s M H ws tys) (hS : va_S A s.heap H locs) (hA : ∀ q, s.heap.size ≤ q → A q) (hE : xe_E g A s s.heap) :
    ∀ U : State, U.heap = H → s.WarmedH U.vm → mi_Pre g D M av av.toArray U := by
  intro U hU hW
  obtain ⟨h1, h2, h3, h4, h5, h6⟩ := id hr
  refine ⟨rfl, ws, tys, ⟨va_K.moved hW.alike h1, by rw [hU]; exact h2, h3.weaken (fun _ _ _ _ => trivial), by rw [hU]; exact h4, h5, h6⟩, ?_⟩
  rw [hU]
  exact xe_ok.1 _ _ _ _ hW (xe_ok.2.2 _ _ _ _ (mi_A_sub hr hS hA) (xe_ok.2.1 _ _ _ _ hS.2.1 hE))
section MIV
variable {p : Program} {l : Launch} {e : Env} {R : Room} {s : State} {m : MethodId} {args : Array Value} {below : List Frame} {meth : Method} {c : Code} {H : Heap} {locs : List Loc} {cells slots : Nat} {Q : State → Prop} {pc : Nat} {ls : Array Slot} {rest st0 : List Value} {a : Array Value} {mc ms : Nat}
theorem mi_goW {g : xe_G} {D : va_G} {A : Nat → Prop} {M M' : mi_H} {v : Option Value} {ws : va_W} {tys : List (ClassId × FieldType)} (hr : va_Run p l e R s m args below meth c H locs cells slots mc ms (F0 m pc ls st0) rest (mi_Q g D M v M' a) (mi_A g M))
    (hrel : mi_rel g D A s M H ws tys) (hS : va_S A s.heap H locs) (hA : ∀ q, s.heap.size ≤ q → A q)
    (kk : ∀ (H1 : Heap) (locs1 : List Loc) (ws1 : va_W) (tys1 : List (ClassId × FieldType)), mi_rel g D A s M' H1 ws1 tys1 → va_S A s.heap H1 locs1 → W p l e R s m args below meth c H1 locs1 (cells + mc) (slots + ms) Q (F0 m (pc + 3) ls (v.toList ++ rest))) : W p l e R s m args below meth c H locs cells slots Q (F0 m pc ls st0) := by
  have hF := mi_A_sub hrel hS hA
  intro T hT X
  obtain ⟨v', st₀, t, T', L, h0, X', hL, e1, e2, ⟨⟨hv, ws1, tys1, hrel1⟩, hz, hk⟩, st⟩ := hr T hT X
  cases hv
  rw [h0] at hz hk
  obtain ⟨g1, g2, g3, g4, g5, g6⟩ := hrel1
  obtain ⟨t2, a1, b1⟩ := kk T'.heap (locs ++ L) ws1 tys1 ⟨va_K.moved (Vm.Alike.symm (by rw [← e2]; exact X'.warmed.alike)) g1, by rw [e1]; exact g2, g3.weaken (fun k q _ h => hF q.1 h), by rw [e1]; exact g4, g5, g6⟩
    ⟨Nat.le_trans hS.1 (by rw [e1]; exact hz), fun q h1 h2 => by rw [e1, hk q (Nat.lt_of_lt_of_le h1 hS.1) (fun z => h2 (hF q z))]; exact hS.2.1 q h1 h2, fun q hq => by
      rcases List.mem_append.mp hq with h | h
      · exact hS.2.2 q h
      · exact hF _ (hL q h)⟩ T' rfl X'
  exact ⟨t2, st t2 a1, b1⟩
end MIV
theorem mi_sub3 {a b n : Nat} (h1 : n ≤ a) (h2 : a ≤ b) : b - n = (a - n) + (b - a) := by omega
theorem mi_call {own : String} {cc : ByteArray} {nL : Nat} {ini : Bool} {g : xe_G} {D : va_G} {p : Program} {l : Launch} {e : Env} {R : Room} {s : State} {m : MethodId} {args : Array Value} {below : List Frame} {meth : Method} {c : Code} {A : Nat → Prop} {n0 s0 d : Nat} {Q : State → Prop} {q : mi_I} {na : Nat} {k : Option Nat} {S : mi_S} {v : Option Value} {M' : mi_H}
    (hc : mi_cx own cc nL ini g D p e R s m args meth c A) (hcal : mi_cal own cc S.1 q na k) (hok : mi_okc k na S = true) (hM : mi_met l g q d (S.2.2.1.take na).reverse S.2.2.2 v M') (hfr : R.frames = d + 9) (hlo : R.locals = 40 * (d + 1) + 1000)
    (hn0 : n0 ≤ S.2.2.2.2.1) (hs0 : s0 ≤ S.2.2.2.2.2) (hR1 : M'.2.1 - n0 ≤ R.cells) (hR2 : M'.2.2 - s0 ≤ R.slots)
    (hW : mi_W nL g D p l e R s m args below meth c A n0 s0 Q (S.1 + 3, S.2.1, v.toList ++ S.2.2.1.drop na, M')) : mi_W nL g D p l e R s m args below meth c A n0 s0 Q S := by
  obtain ⟨pc, lv, st, M⟩ := S
  dsimp only at hM hn0 hs0 hok hcal hW
  intro H locs ls ws tys hr hl hS
  dsimp only at hr hl ⊢
  obtain ⟨hx, hb, hml, hown, htb, hE, hini, hA, hK0, -, -⟩ := hc
  obtain ⟨m1, m2, hMet⟩ := hM
  have hMet := hMet D
  obtain ⟨hL21, hin, hcode, i, n, hhd, hlink, hcase⟩ := hcal
  have hgo := fun H1 locs1 ws1 tys1 (h1 : mi_rel g D A s M' H1 ws1 tys1) (h2 : va_S A s.heap H1 locs1) => hW H1 locs1 ls ws1 tys1 h1 hl h2
  dsimp only at hgo
  have e1 : M'.2.1 - n0 = (M.2.1 - n0) + (M'.2.1 - M.2.1) := mi_sub3 hn0 m1
  have e2 : M'.2.2 - s0 = (M.2.2 - s0) + (M'.2.2 - M.2.2) := mi_sub3 hs0 m2
  rw [e1, e2] at hgo
  rw [e1] at hR1
  rw [e2] at hR2
  have hroom : (mi_rm d (M'.2.1 - M.2.1) (M'.2.2 - M.2.2)).frames + 1 ≤ R.frames ∧ 8 + (q.2.2.1 + 11) + (mi_rm d (M'.2.1 - M.2.1) (M'.2.2 - M.2.2)).locals ≤ R.locals := by
    rw [hfr, hlo]
    constructor
    · show d + 8 + 1 ≤ d + 9
      omega
    · show 8 + (q.2.2.1 + 11) + (40 * d + 1000) ≤ 40 * (d + 1) + 1000
      omega
  unfold mi_okc at hok
  rw [Bool.and_eq_true, Bool.and_eq_true] at hok
  obtain ⟨⟨ok1, ok2⟩, ok3⟩ := hok
  have ok1 : na ≤ st.length := by simpa using ok1
  have ok2 : (((st.drop na)).map fun v => v.category).sum ≤ 8 := by simpa using ok2
  have hst : st = (st.take na).reverse.reverse ++ st.drop na := by rw [List.reverse_reverse, List.take_append_drop]
  rcases hcase with ⟨hd, hk, hna, hstat⟩ | ⟨hna, hinst, ci, r, hk, hci, hr0, hd⟩
  · refine mi_goW (va_runS (As := (st.take na).reverse) (rest := st.drop na) ⟨hx, hb, hml, hown, htb⟩ hMet (bg_S n htb hlink hstat hin hcode rfl rfl hhd hroom) ⟨mi_blind, mi_enter hr hS hA hE⟩ rfl (by rw [List.length_reverse, List.length_take]; omega) hl.1 hst (lv_room ok2) hd ⟨hR1, hR2⟩) hr hS hA hgo
  · subst hk
    dsimp only at ok3
    split at ok3
    · rename_i b As hrev
      split at ok3
      · rename_i c9 f9 hM9
        have hc9 : c9 = ci := by simpa using ok3
        subst hc9
        have hlen : As.length = n := by
          have h7 := congrArg List.length hrev
          rw [List.length_reverse, List.length_take] at h7
          simp at h7
          omega
        rw [hrev] at hMet hst
        have hst' : st = As.reverse ++ .ref b :: st.drop na := by
          rw [List.reverse_cons, List.append_assoc] at hst
          exact hst
        obtain ⟨q0, fs, hq0, -⟩ := mi_obj hr hci hM9
        rcases hd with ⟨hd, hsel⟩ | ⟨hd, hnm, hret⟩
        · refine mi_goW (va_runV (As := As) (rest := st.drop na) ⟨hx, hb, hml, hown, htb⟩ hMet (bg_V n htb hlink hinst hsel hin hcode rfl rfl hhd hroom) ⟨mi_blind, va_recv hr.1 hr.2.1 hr0 hq0, mi_enter hr hS hA hE⟩ rfl hlen hl.1 hst' (lv_room ok2) hd ⟨hR1, hR2⟩) hr hS hA hgo
        · obtain ⟨q1, q2, q3, q4⟩ := q
          dsimp only at hret hMet hcode hlink hinst hin hhd hroom hnm
          subst hret
          refine mi_goW (va_runI (As := As) (rest := st.drop na) ⟨hx, hb, hml, hown, htb⟩ hMet (bg_I n htb hlink hinst hin hcode rfl rfl hhd hroom hnm) ⟨mi_blind, mi_enter hr hS hA hE⟩ rfl hlen hl.1 hst' (lv_room ok2) hd ⟨hR1, hR2⟩) hr hS hA hgo
      · cases ok3
    · cases ok3
def mi_ent (g : xe_G) (I : Nat → mi_I) (q : mi_I) (pc : Nat) (e : mi_N) : Prop := match e with
  | .inl o => mi_sim g q.1.cls q.2.1 q.2.2.1 (q.1.name == "<init>") pc o
  | .inr (.inl c) => mi_cal q.1.cls q.2.1 pc (I c.1) c.2.1 c.2.2
  | .inr (.inr f) => mi_simr q.2.1 q.2.2.2 pc f
def mi_meth (g : xe_G) (I : Nat → mi_I) (q : mi_I) (b : Nat × mi_B) : Prop := b.1 = q.2.2.1 ∧ plainName q.1.cls = true ∧ ∀ pc e, b.2.1 pc = some e → mi_ent g I q pc e
theorem mi_loop_W {l : Launch} {g : xe_G} {I : Nat → mi_I} {q : mi_I} {b : Nat × mi_B} {d : Nat} {call : Nat → List Value → mi_H → Option mi_R} (hb0 : mi_meth g I q b) (hcall : ∀ y a M r, call y a M = some r → mi_met l g (I y) d a M r.1 r.2) :
    ∀ (n : Nat) (S : mi_S) (r : mi_R), mi_loop b.2 call n S = some r → (S.2.2.2.2.1 ≤ r.2.2.1 ∧ S.2.2.2.2.2 ≤ r.2.2.2) ∧
      ∀ (D : va_G) (p : Program) (e : Env) (R : Room) (s : State) (m : MethodId) (args : Array Value) (below : List Frame) (meth : Method) (c : Code) (M0 : mi_H), mi_cx q.1.cls q.2.1 q.2.2.1 (q.1.name == "<init>") g D p e R s m args meth c (mi_A g M0) → R.frames = d + 9 → R.locals = 40 * (d + 1) + 1000 → meth.sig.returnType = q.2.2.2 → meth.locks = false →
        M0.2.1 ≤ S.2.2.2.2.1 → M0.2.2 ≤ S.2.2.2.2.2 → R.cells = r.2.2.1 - M0.2.1 → R.slots = r.2.2.2 - M0.2.2 → mi_W q.2.2.1 g D p l e R s m args below meth c (mi_A g M0) M0.2.1 M0.2.2 (MQ below (mi_Q g D M0 r.1 r.2) args s (r.2.2.1 - M0.2.1) (r.2.2.2 - M0.2.2) (mi_A g M0)) S := by
  intro n
  induction n with
  | zero => intro S r h; cases h
  | succ n ih =>
    intro S r h
    obtain ⟨pc, lv, st, M⟩ := S
    unfold mi_loop at h
    dsimp only at h
    split at h
    · rename_i o hpc
      split at h
      · rename_i S' ho
        have hent : mi_sim g q.1.cls q.2.1 q.2.2.1 (q.1.name == "<init>") pc o := hb0.2.2 _ _ hpc
        obtain ⟨⟨g1, g2⟩, hsim⟩ := hent lv st M S' ho
        obtain ⟨⟨g3, g4⟩, hgo⟩ := ih _ r h
        rw [mi_nk_H.1] at g3 g4
        refine ⟨⟨Nat.le_trans g1 g3, Nat.le_trans g2 g4⟩, ?_⟩
        intro D p e R s m args below meth c M0 hc hfr hlo hret hlk hm0 hs0 hR1 hR2
        dsimp only at hm0 hs0
        have hw := hgo D p e R s m args below meth c M0 hc hfr hlo hret hlk (by rw [mi_nk_H.1]; exact Nat.le_trans hm0 g1) (by rw [mi_nk_H.1]; exact Nat.le_trans hs0 g2) hR1 hR2
        exact hsim D p l e R s m args below meth c (mi_A g M0) M0.2.1 M0.2.2 _ hc hm0 hs0 (by rw [hR1]; omega) (by rw [hR2]; omega) (mi_nk_W hw)
      · cases h
    · rename_i c9 hpc
      split at h
      · rename_i hok
        split at h
        · rename_i r9 hcl
          have hcal : mi_cal q.1.cls q.2.1 pc (I c9.1) c9.2.1 c9.2.2 := hb0.2.2 _ _ hpc
          have hmet := hcall _ _ _ _ hcl
          have g1 : M.2.1 ≤ r9.2.2.1 := hmet.1
          have g2 : M.2.2 ≤ r9.2.2.2 := hmet.2.1
          obtain ⟨⟨g3, g4⟩, hgo⟩ := ih _ r h
          rw [mi_nk_H.1] at g3 g4
          dsimp only at g3 g4
          refine ⟨⟨Nat.le_trans g1 g3, Nat.le_trans g2 g4⟩, ?_⟩
          intro D p e R s m args below meth c M0 hc hfr hlo hret hlk hm0 hs0 hR1 hR2
          dsimp only at hm0 hs0
          have hw := hgo D p e R s m args below meth c M0 hc hfr hlo hret hlk (by rw [mi_nk_H.1]; exact Nat.le_trans hm0 g1) (by rw [mi_nk_H.1]; exact Nat.le_trans hs0 g2) hR1 hR2
          exact mi_call (S := (pc, lv, st, M)) hc hcal hok hmet hfr hlo hm0 hs0 (by rw [hR1]; omega) (by rw [hR2]; omega) (mi_nk_W hw)
        · cases h
      · cases h
    · rename_i f hpc
      cases hf : f st with
      | none => rw [hf] at h; cases h
      | some v =>
        rw [hf] at h
        cases h
        refine ⟨⟨Nat.le_refl _, Nat.le_refl _⟩, ?_⟩
        intro D p e R s m args below meth c M0 hc hfr hlo hret hlk hm0 hs0 hR1 hR2
        intro H locs ls ws tys hr hl hS
        have hsr : mi_simr q.2.1 q.2.2.2 pc f := hb0.2.2 _ _ hpc
        dsimp only at hr hl ⊢
        exact hsr st v hf p l e R s m args below meth c H locs ls _ _ _ _ hc.1 hc.2.1 hret hlk (fun t ht hW => ⟨⟨rfl, ws, tys, va_K.moved hW.alike hr.1, by rw [ht]; exact hr.2.1, hr.2.2.1, by rw [ht]; exact hr.2.2.2.1, hr.2.2.2.2⟩, hS.F ht⟩) hS.2.2
    · cases h
theorem mi_sound {l : Launch} {g : xe_G} {I : Nat → mi_I} {T : Nat → Option (Nat × mi_B)} {n : Nat} (hT : ∀ y b, T y = some b → mi_meth g I (I y) b) : ∀ (d y : Nat) (a : List Value) (M : mi_H) (r : mi_R), mi_run T n d y a M = some r → mi_met l g (I y) d a M r.1 r.2 := by
  intro d
  induction d with
  | zero => intro y a M r h; cases h
  | succ d ih =>
    intro y a M r h
    unfold mi_run at h
    split at h
    · cases h
    · rename_i b hb
      split at h
      · rename_i hlen
        have hlen : (lg_sl a).length ≤ b.1 := by simpa using hlen
        have hm := hT y b hb
        obtain ⟨⟨g1, g2⟩, hW⟩ := mi_loop_W hm (fun y a M r h => ih y a M r h) n _ r h
        dsimp only at g1 g2
        refine ⟨g1, g2, fun D => ?_⟩
        generalize hq : I y = q at hm hW ⊢
        obtain ⟨q1, q2, q3, q4⟩ := q
        dsimp only at hW ⊢
        obtain ⟨hb1, hpl, -⟩ := hm
        dsimp only at hb1 hpl
        refine Met.ofW (cc := q2) (maxL := q3) (ret := q4) hpl rfl ?_
        intro p e s m args below meth c s₁ B hml hv
        obtain ⟨rfl, ws, tys, hr, hE⟩ := hv
        have hts := atoms_spec (ws := (Cond.code q1 q2 q3 q4 :: bg)) B.pre
        have htb : ∀ w ∈ bg, w.before _ s = true := fun w h => hts w (List.mem_cons_of_mem _ h)
        have hown : s.vm.findClass q1.cls = some m.cls := findClass_of_methodNamed B.named
        have hl := lv_entry a (n := q3) (by rw [← hb1]; exact hlen)
        rw [lg_entry_eq]
        have hA : ∀ x : Nat, s.heap.size ≤ x → mi_A g M x := fun x hx => Or.inr (by rw [← hr.2.2.2.1]; exact hx)
        have hw := hW D p e (mi_rm (d + 1) (r.2.2.1 - M.2.1) (r.2.2.2 - M.2.2)) s m a.toArray below meth c M ⟨B.exec, B.bytes, hml, hown, htb, hE, fun hi => ?_, hA, ⟨hr.1.1, fun k x hx => by cases hx⟩, by show 8 ≤ d + 1 + 8; omega, by show 1000 ≤ 40 * (d + 1) + 1000; omega⟩ (by show d + 1 + 8 = d + 9; omega) rfl B.returns B.notSynchronized (Nat.le_refl _) (Nat.le_refl _) rfl rfl
        · have hw2 := hw s.heap [] _ ws tys ⟨hr.1, hr.2.1, ⟨hr.2.2.1.1, fun k x hx => ?_⟩, hr.2.2.2⟩ hl va_S.rf
          · dsimp only at hw2
            rw [Nat.sub_self, Nat.sub_self] at hw2
            exact hw2
          · obtain ⟨c9, h1, h2⟩ := hr.2.2.2.2.2 k x.1 x.2 hx
            exact Or.inl ⟨c9, h1, h2⟩
        · have hnm := (name_of_methodNamed B.named B.method).1
          rw [hnm]
          simpa using hi
      · cases h
end MIZ
end
section
theorem bg_0 : (.code yX0_init cX0_init 3 none : Cond) ∈ bg := bgf (tb_2 _ (List.mem_of_getElem? (i := 227) (by rfl))) (by rfl)
theorem bg_1 : (.methodLink RX0 3 objectInit : Cond) ∈ bg := bgf (tb_2 _ (List.mem_of_getElem? (i := 228) (by decide +kernel))) (by rfl)
theorem bg_2 : (.code objectInit ⟨#[0xb1]⟩ 1 none : Cond) ∈ bg := bgf (tb_1 _ (List.mem_of_getElem? (i := 34) (by rfl))) (by rfl)
theorem bg_3 : (.instanceMethod objectInit : Cond) ∈ bg := bgf (tb_1 _ (List.mem_of_getElem? (i := 33) (by decide +kernel))) (by rfl)
theorem bg_4 : (.fieldLink RX0 9 "ClassGate$AttributeCheck" "file" "LClassGate$ClassFile;" : Cond) ∈ bg := bgf (tb_2 _ (List.mem_of_getElem? (i := 229) (by decide +kernel))) (by rfl)
theorem bg_5 : (.fieldLink RX0 15 "ClassGate$AttributeCheck" "verdict" "LClassGate$Verdict;" : Cond) ∈ bg := bgf (tb_2 _ (List.mem_of_getElem? (i := 232) (by decide +kernel))) (by rfl)
theorem bg_6 : (.fieldLink RX0 19 "ClassGate$ClassFile" "bytes" "LClassGate$Bytes;" : Cond) ∈ bg := bgf (tb_1 _ (List.mem_of_getElem? (i := 124) (by decide +kernel))) (by rfl)
theorem bg_7 : (.fieldLink RX0 25 "ClassGate$AttributeCheck" "bytes" "LClassGate$Bytes;" : Cond) ∈ bg := bgf (tb_2 _ (List.mem_of_getElem? (i := 230) (by decide +kernel))) (by rfl)
theorem bg_8 : (.fieldLink RX0 26 "ClassGate$ClassFile" "pool" "LClassGate$Pool;" : Cond) ∈ bg := bgf (tb_1 _ (List.mem_of_getElem? (i := 129) (by decide +kernel))) (by rfl)
theorem bg_9 : (.fieldLink RX0 30 "ClassGate$AttributeCheck" "pool" "LClassGate$Pool;" : Cond) ∈ bg := bgf (tb_2 _ (List.mem_of_getElem? (i := 231) (by decide +kernel))) (by rfl)
theorem bg_10 : (.code yX0_ofField cX0_ofField 5 (some .boolean) : Cond) ∈ bg := bgf (tb_4 _ (List.mem_of_getElem? (i := 3) (by rfl))) (by rfl)
theorem bg_11 : (.fieldLink RX0 31 "ClassGate$AttributeCheck" "seen" "I" : Cond) ∈ bg := bgf (tb_2 _ (List.mem_of_getElem? (i := 233) (by decide +kernel))) (by rfl)
theorem bg_12 : (.fieldLink RX0 35 "ClassGate$Member" "attributesAt" "I" : Cond) ∈ bg := bgf (tb_2 _ (List.mem_of_getElem? (i := 136) (by decide +kernel))) (by rfl)
theorem bg_13 : (.fieldLink RX0 40 "ClassGate$Member" "attributeCount" "I" : Cond) ∈ bg := bgf (tb_2 _ (List.mem_of_getElem? (i := 134) (by decide +kernel))) (by rfl)
theorem bg_14 : (.methodLink RX0 43 yX1_u2 : Cond) ∈ bg := bgf (tb_4 _ (List.mem_of_getElem? (i := 4) (by decide +kernel))) (by rfl)
theorem bg_15 : (.code yX1_u2 cX1_u2 2 (some .int) : Cond) ∈ bg := bgf (tb_2 _ (List.mem_of_getElem? (i := 33) (by rfl))) (by rfl)
theorem bg_16 : (.instanceMethod yX1_u2 : Cond) ∈ bg := bgf (tb_2 _ (List.mem_of_getElem? (i := 31) (by decide +kernel))) (by rfl)
theorem bg_17 : (.selects RX1 yX1_u2 yX1_u2 : Cond) ∈ bg := bgf (tb_2 _ (List.mem_of_getElem? (i := 32) (by decide +kernel))) (by rfl)
theorem bg_18 : (.initialized RX1 : Cond) ∈ bg := bgf (tb_1 _ (List.mem_of_getElem? (i := 16) (by decide +kernel))) (by rfl)
theorem bg_19 : (.methodLink RX0 51 yX7_textIs : Cond) ∈ bg := bgf (tb_4 _ (List.mem_of_getElem? (i := 6) (by decide +kernel))) (by rfl)
theorem bg_20 : (.code yX7_textIs cX7_textIs 4 (some .boolean) : Cond) ∈ bg := bgf (tb_3 _ (List.mem_of_getElem? (i := 116) (by rfl))) (by rfl)
theorem bg_21 : (.instanceMethod yX7_textIs : Cond) ∈ bg := bgf (tb_3 _ (List.mem_of_getElem? (i := 114) (by decide +kernel))) (by rfl)
theorem bg_22 : (.selects RX7 yX7_textIs yX7_textIs : Cond) ∈ bg := bgf (tb_3 _ (List.mem_of_getElem? (i := 115) (by decide +kernel))) (by rfl)
theorem bg_23 : (.initialized RX7 : Cond) ∈ bg := bgf (tb_1 _ (List.mem_of_getElem? (i := 17) (by decide +kernel))) (by rfl)
theorem bg_24 : (.methodLink RX0 57 yX0_isNew : Cond) ∈ bg := bgf (tb_4 _ (List.mem_of_getElem? (i := 7) (by decide +kernel))) (by rfl)
theorem bg_25 : (.code yX0_isNew cX0_isNew 3 (some .boolean) : Cond) ∈ bg := bgf (tb_4 _ (List.mem_of_getElem? (i := 10) (by rfl))) (by rfl)
theorem bg_26 : (.instanceMethod yX0_isNew : Cond) ∈ bg := bgf (tb_4 _ (List.mem_of_getElem? (i := 9) (by decide +kernel))) (by rfl)
theorem bg_27 : (.selects RX0 yX0_isNew yX0_isNew : Cond) ∈ bg := bgf (List.mem_of_getElem? (i := 24) (by decide +kernel)) (by rfl)
theorem bg_28 : (.initialized RX0 : Cond) ∈ bg := bgf (tb_1 _ (List.mem_of_getElem? (i := 22) (by decide +kernel))) (by rfl)
theorem bg_29 : (.methodLink RX0 61 yX0_behind : Cond) ∈ bg := bgf (tb_4 _ (List.mem_of_getElem? (i := 17) (by decide +kernel))) (by rfl)
theorem bg_30 : (.code yX0_behind cX0_behind 2 (some .int) : Cond) ∈ bg := bgf (tb_4 _ (List.mem_of_getElem? (i := 20) (by rfl))) (by rfl)
theorem bg_31 : (.instanceMethod yX0_behind : Cond) ∈ bg := bgf (tb_4 _ (List.mem_of_getElem? (i := 19) (by decide +kernel))) (by rfl)
theorem bg_32 : (.selects RX0 yX0_behind yX0_behind : Cond) ∈ bg := bgf (List.mem_of_getElem? (i := 26) (by decide +kernel)) (by rfl)
theorem bg_33 : (.methodLink RX0 64 yX0_formEnd : Cond) ∈ bg := bgf (tb_4 _ (List.mem_of_getElem? (i := 22) (by decide +kernel))) (by rfl)
theorem bg_34 : (.code yX0_formEnd cX0_formEnd 4 (some .int) : Cond) ∈ bg := bgf (tb_4 _ (List.mem_of_getElem? (i := 25) (by rfl))) (by rfl)
theorem bg_35 : (.instanceMethod yX0_formEnd : Cond) ∈ bg := bgf (tb_4 _ (List.mem_of_getElem? (i := 24) (by decide +kernel))) (by rfl)
theorem bg_36 : (.selects RX0 yX0_formEnd yX0_formEnd : Cond) ∈ bg := bgf (List.mem_of_getElem? (i := 27) (by decide +kernel)) (by rfl)
theorem bg_37 : (.methodLink RX0 68 yX10_wrong : Cond) ∈ bg := bgf (tb_4 _ (List.mem_of_getElem? (i := 12) (by decide +kernel))) (by rfl)
theorem bg_38 : (.code yX10_wrong cX10_wrong 3 (some .boolean) : Cond) ∈ bg := bgf (tb_2 _ (List.mem_of_getElem? (i := 25) (by rfl))) (by rfl)
theorem bg_39 : (.instanceMethod yX10_wrong : Cond) ∈ bg := bgf (tb_2 _ (List.mem_of_getElem? (i := 23) (by decide +kernel))) (by rfl)
theorem bg_40 : (.selects RX10 yX10_wrong yX10_wrong : Cond) ∈ bg := bgf (tb_2 _ (List.mem_of_getElem? (i := 24) (by decide +kernel))) (by rfl)
theorem bg_41 : (.initialized RX10 : Cond) ∈ bg := bgf (tb_1 _ (List.mem_of_getElem? (i := 18) (by decide +kernel))) (by rfl)
theorem bg_42 : (.methodLink RX0 73 yX6_has : Cond) ∈ bg := bgf (tb_4 _ (List.mem_of_getElem? (i := 43) (by decide +kernel))) (by rfl)
theorem bg_43 : (.code yX6_has cX6_has 2 (some .boolean) : Cond) ∈ bg := bgf (tb_4 _ (List.mem_of_getElem? (i := 46) (by rfl))) (by rfl)
theorem bg_44 : (.instanceMethod yX6_has : Cond) ∈ bg := bgf (tb_4 _ (List.mem_of_getElem? (i := 44) (by decide +kernel))) (by rfl)
theorem bg_45 : (.selects RX6 yX6_has yX6_has : Cond) ∈ bg := bgf (tb_4 _ (List.mem_of_getElem? (i := 45) (by decide +kernel))) (by rfl)
theorem bg_46 : (.initialized RX6 : Cond) ∈ bg := bgf (tb_1 _ (List.mem_of_getElem? (i := 20) (by decide +kernel))) (by rfl)
theorem bg_47 : (.fieldLink RX0 77 "ClassGate$Member" "constant" "I" : Cond) ∈ bg := bgf (tb_2 _ (List.mem_of_getElem? (i := 139) (by decide +kernel))) (by rfl)
theorem bg_48 : (.methodLink RX0 80 yX7_tagOf : Cond) ∈ bg := bgf (tb_4 _ (List.mem_of_getElem? (i := 11) (by decide +kernel))) (by rfl)
theorem bg_49 : (.code yX7_tagOf cX7_tagOf 2 (some .int) : Cond) ∈ bg := bgf (tb_2 _ (List.mem_of_getElem? (i := 92) (by rfl))) (by rfl)
theorem bg_50 : (.instanceMethod yX7_tagOf : Cond) ∈ bg := bgf (tb_2 _ (List.mem_of_getElem? (i := 90) (by decide +kernel))) (by rfl)
theorem bg_51 : (.selects RX7 yX7_tagOf yX7_tagOf : Cond) ∈ bg := bgf (tb_2 _ (List.mem_of_getElem? (i := 91) (by decide +kernel))) (by rfl)
theorem bg_52 : (.fieldLink RX0 83 "ClassGate$Member" "descriptor" "I" : Cond) ∈ bg := bgf (tb_2 _ (List.mem_of_getElem? (i := 130) (by decide +kernel))) (by rfl)
theorem bg_53 : (.methodLink RX0 86 yX0_constantTag : Cond) ∈ bg := bgf (tb_4 _ (List.mem_of_getElem? (i := 47) (by decide +kernel))) (by rfl)
theorem bg_54 : (.code yX0_constantTag cX0_constantTag 2 (some .int) : Cond) ∈ bg := bgf (tb_4 _ (List.mem_of_getElem? (i := 50) (by rfl))) (by rfl)
theorem bg_55 : (.instanceMethod yX0_constantTag : Cond) ∈ bg := bgf (tb_4 _ (List.mem_of_getElem? (i := 49) (by decide +kernel))) (by rfl)
theorem bg_56 : (.selects RX0 yX0_constantTag yX0_constantTag : Cond) ∈ bg := bgf (List.mem_of_getElem? (i := 31) (by decide +kernel)) (by rfl)
theorem bg_57 : (.methodLink RX0 89 yJ6_bitCount_0f7a4 : Cond) ∈ bg := bgf (tb_4 _ (List.mem_of_getElem? (i := 54) (by decide +kernel))) (by rfl)
theorem bg_58 : (.code yJ6_bitCount_0f7a4 cJ6_bitCount_0f7a4 1 (some .int) : Cond) ∈ bg := bgf (tb_3 _ (List.mem_of_getElem? (i := 229) (by rfl))) (by rfl)
theorem bg_59 : (.static yJ6_bitCount_0f7a4 : Cond) ∈ bg := bgf (tb_3 _ (List.mem_of_getElem? (i := 228) (by decide +kernel))) (by rfl)
theorem bg_60 : (.initialized RJ6 : Cond) ∈ bg := bgf (tb_1 _ (List.mem_of_getElem? (i := 24) (by decide +kernel))) (by rfl)
theorem bg_61 : (.fieldLink RX0 94 "ClassGate$Member" "known" "I" : Cond) ∈ bg := bgf (tb_2 _ (List.mem_of_getElem? (i := 137) (by decide +kernel))) (by rfl)
theorem bg_62 : (.code yX0_ofMethod cX0_ofMethod 5 (some .boolean) : Cond) ∈ bg := bgf (tb_4 _ (List.mem_of_getElem? (i := 96) (by rfl))) (by rfl)
theorem bg_63 : (.methodLink RX0 97 yX0_methodKind : Cond) ∈ bg := bgf (tb_4 _ (List.mem_of_getElem? (i := 97) (by decide +kernel))) (by rfl)
theorem bg_64 : (.code yX0_methodKind cX0_methodKind 2 (some .int) : Cond) ∈ bg := bgf (tb_4 _ (List.mem_of_getElem? (i := 100) (by rfl))) (by rfl)
theorem bg_65 : (.instanceMethod yX0_methodKind : Cond) ∈ bg := bgf (tb_4 _ (List.mem_of_getElem? (i := 99) (by decide +kernel))) (by rfl)
theorem bg_66 : (.selects RX0 yX0_methodKind yX0_methodKind : Cond) ∈ bg := bgf (List.mem_of_getElem? (i := 38) (by decide +kernel)) (by rfl)
theorem bg_67 : (.methodLink RX0 100 yX0_codeHolds : Cond) ∈ bg := bgf (tb_4 _ (List.mem_of_getElem? (i := 103) (by decide +kernel))) (by rfl)
theorem bg_68 : (.code yX0_codeHolds cX0_codeHolds 5 (some .boolean) : Cond) ∈ bg := bgf (tb_4 _ (List.mem_of_getElem? (i := 106) (by rfl))) (by rfl)
theorem bg_69 : (.instanceMethod yX0_codeHolds : Cond) ∈ bg := bgf (tb_4 _ (List.mem_of_getElem? (i := 105) (by decide +kernel))) (by rfl)
theorem bg_70 : (.selects RX0 yX0_codeHolds yX0_codeHolds : Cond) ∈ bg := bgf (List.mem_of_getElem? (i := 39) (by decide +kernel)) (by rfl)
theorem bg_71 : (.fieldLink RX0 104 "ClassGate$Member" "exceptionCount" "I" : Cond) ∈ bg := bgf (tb_2 _ (List.mem_of_getElem? (i := 145) (by decide +kernel))) (by rfl)
theorem bg_72 : (.methodLink RX0 107 yX0_areClasses : Cond) ∈ bg := bgf (tb_4 _ (List.mem_of_getElem? (i := 218) (by decide +kernel))) (by rfl)
theorem bg_73 : (.code yX0_areClasses cX0_areClasses 4 (some .boolean) : Cond) ∈ bg := bgf (tb_4 _ (List.mem_of_getElem? (i := 221) (by rfl))) (by rfl)
theorem bg_74 : (.instanceMethod yX0_areClasses : Cond) ∈ bg := bgf (tb_4 _ (List.mem_of_getElem? (i := 220) (by decide +kernel))) (by rfl)
theorem bg_75 : (.selects RX0 yX0_areClasses yX0_areClasses : Cond) ∈ bg := bgf (List.mem_of_getElem? (i := 42) (by decide +kernel)) (by rfl)
theorem bg_76 : (.code yX0_ofClass cX0_ofClass 5 (some .boolean) : Cond) ∈ bg := bgf (tb_4 _ (List.mem_of_getElem? (i := 229) (by rfl))) (by rfl)
theorem bg_77 : (.fieldLink RX0 110 "ClassGate$ClassFile" "attributesAt" "I" : Cond) ∈ bg := bgf (tb_1 _ (List.mem_of_getElem? (i := 158) (by decide +kernel))) (by rfl)
theorem bg_78 : (.fieldLink RX0 111 "ClassGate$ClassFile" "attributeCount" "I" : Cond) ∈ bg := bgf (tb_1 _ (List.mem_of_getElem? (i := 156) (by decide +kernel))) (by rfl)
theorem bg_79 : (.methodLink RX0 112 yX0_classKind : Cond) ∈ bg := bgf (tb_4 _ (List.mem_of_getElem? (i := 230) (by decide +kernel))) (by rfl)
theorem bg_80 : (.code yX0_classKind cX0_classKind 2 (some .int) : Cond) ∈ bg := bgf (tb_4 _ (List.mem_of_getElem? (i := 233) (by rfl))) (by rfl)
theorem bg_81 : (.instanceMethod yX0_classKind : Cond) ∈ bg := bgf (tb_4 _ (List.mem_of_getElem? (i := 232) (by decide +kernel))) (by rfl)
theorem bg_82 : (.selects RX0 yX0_classKind yX0_classKind : Cond) ∈ bg := bgf (List.mem_of_getElem? (i := 44) (by decide +kernel)) (by rfl)
theorem bg_83 : (.methodLink RX0 115 yX0_brokenRule : Cond) ∈ bg := bgf (tb_5 _ (List.mem_of_getElem? (i := 0) (by decide +kernel))) (by rfl)
theorem bg_84 : (.code yX0_brokenRule cX0_brokenRule 3 (some .int) : Cond) ∈ bg := bgf (tb_5 _ (List.mem_of_getElem? (i := 3) (by rfl))) (by rfl)
theorem bg_85 : (.instanceMethod yX0_brokenRule : Cond) ∈ bg := bgf (tb_5 _ (List.mem_of_getElem? (i := 2) (by decide +kernel))) (by rfl)
theorem bg_86 : (.selects RX0 yX0_brokenRule yX0_brokenRule : Cond) ∈ bg := bgf (List.mem_of_getElem? (i := 45) (by decide +kernel)) (by rfl)
theorem bg_87 : (.fieldLink RX0 119 "ClassGate$ClassFile" "known" "I" : Cond) ∈ bg := bgf (tb_1 _ (List.mem_of_getElem? (i := 161) (by decide +kernel))) (by rfl)
theorem bg_88 : (.methodLink RX0 120 yX1_u4 : Cond) ∈ bg := bgf (tb_4 _ (List.mem_of_getElem? (i := 21) (by decide +kernel))) (by rfl)
theorem bg_89 : (.code yX1_u4 cX1_u4 2 (some .int) : Cond) ∈ bg := bgf (tb_2 _ (List.mem_of_getElem? (i := 37) (by rfl))) (by rfl)
theorem bg_90 : (.instanceMethod yX1_u4 : Cond) ∈ bg := bgf (tb_2 _ (List.mem_of_getElem? (i := 35) (by decide +kernel))) (by rfl)
theorem bg_91 : (.selects RX1 yX1_u4 yX1_u4 : Cond) ∈ bg := bgf (tb_2 _ (List.mem_of_getElem? (i := 36) (by decide +kernel))) (by rfl)
theorem bg_92 : (.fieldLink RX0 129 "ClassGate$ClassFile" "major" "I" : Cond) ∈ bg := bgf (tb_1 _ (List.mem_of_getElem? (i := 140) (by decide +kernel))) (by rfl)
theorem bg_93 : (.code yX0_hasSeen cX0_hasSeen 2 (some .boolean) : Cond) ∈ bg := bgf (tb_4 _ (List.mem_of_getElem? (i := 16) (by rfl))) (by rfl)
theorem bg_94 : (.methodLink RX0 142 yX0_hasSeen : Cond) ∈ bg := bgf (tb_4 _ (List.mem_of_getElem? (i := 13) (by decide +kernel))) (by rfl)
theorem bg_95 : (.instanceMethod yX0_hasSeen : Cond) ∈ bg := bgf (tb_4 _ (List.mem_of_getElem? (i := 15) (by decide +kernel))) (by rfl)
theorem bg_96 : (.selects RX0 yX0_hasSeen yX0_hasSeen : Cond) ∈ bg := bgf (List.mem_of_getElem? (i := 25) (by decide +kernel)) (by rfl)
theorem bg_97 : (.methodLink RX0 145 yX0_bootstrapsEnd : Cond) ∈ bg := bgf (tb_4 _ (List.mem_of_getElem? (i := 26) (by decide +kernel))) (by rfl)
theorem bg_98 : (.code yX0_bootstrapsEnd cX0_bootstrapsEnd 6 (some .int) : Cond) ∈ bg := bgf (tb_4 _ (List.mem_of_getElem? (i := 29) (by rfl))) (by rfl)
theorem bg_99 : (.instanceMethod yX0_bootstrapsEnd : Cond) ∈ bg := bgf (tb_4 _ (List.mem_of_getElem? (i := 28) (by decide +kernel))) (by rfl)
theorem bg_100 : (.selects RX0 yX0_bootstrapsEnd yX0_bootstrapsEnd : Cond) ∈ bg := bgf (List.mem_of_getElem? (i := 28) (by decide +kernel)) (by rfl)
theorem bg_101 : (.methodLink RX0 148 yX0_recordEnd : Cond) ∈ bg := bgf (tb_4 _ (List.mem_of_getElem? (i := 30) (by decide +kernel))) (by rfl)
theorem bg_102 : (.code yX0_recordEnd cX0_recordEnd 6 (some .int) : Cond) ∈ bg := bgf (tb_4 _ (List.mem_of_getElem? (i := 33) (by rfl))) (by rfl)
theorem bg_103 : (.instanceMethod yX0_recordEnd : Cond) ∈ bg := bgf (tb_4 _ (List.mem_of_getElem? (i := 32) (by decide +kernel))) (by rfl)
theorem bg_104 : (.selects RX0 yX0_recordEnd yX0_recordEnd : Cond) ∈ bg := bgf (List.mem_of_getElem? (i := 29) (by decide +kernel)) (by rfl)
theorem bg_105 : (.methodLink RX0 151 yX0_codeEnd : Cond) ∈ bg := bgf (tb_4 _ (List.mem_of_getElem? (i := 39) (by decide +kernel))) (by rfl)
theorem bg_106 : (.code yX0_codeEnd cX0_codeEnd 6 (some .int) : Cond) ∈ bg := bgf (tb_4 _ (List.mem_of_getElem? (i := 42) (by rfl))) (by rfl)
theorem bg_107 : (.instanceMethod yX0_codeEnd : Cond) ∈ bg := bgf (tb_4 _ (List.mem_of_getElem? (i := 41) (by decide +kernel))) (by rfl)
theorem bg_108 : (.selects RX0 yX0_codeEnd yX0_codeEnd : Cond) ∈ bg := bgf (List.mem_of_getElem? (i := 30) (by decide +kernel)) (by rfl)
theorem bg_109 : (.methodLink RX0 154 yX1_attributesEnd : Cond) ∈ bg := bgf (tb_4 _ (List.mem_of_getElem? (i := 34) (by decide +kernel))) (by rfl)
theorem bg_110 : (.code yX1_attributesEnd cX1_attributesEnd 7 (some .int) : Cond) ∈ bg := bgf (tb_4 _ (List.mem_of_getElem? (i := 37) (by rfl))) (by rfl)
theorem bg_111 : (.instanceMethod yX1_attributesEnd : Cond) ∈ bg := bgf (tb_4 _ (List.mem_of_getElem? (i := 35) (by decide +kernel))) (by rfl)
theorem bg_112 : (.selects RX1 yX1_attributesEnd yX1_attributesEnd : Cond) ∈ bg := bgf (tb_4 _ (List.mem_of_getElem? (i := 36) (by decide +kernel))) (by rfl)
theorem bg_113 : (.methodLink RX0 159 yX7_textLength : Cond) ∈ bg := bgf (tb_4 _ (List.mem_of_getElem? (i := 52) (by decide +kernel))) (by rfl)
theorem bg_114 : (.code yX7_textLength cX7_textLength 2 (some .int) : Cond) ∈ bg := bgf (tb_3 _ (List.mem_of_getElem? (i := 75) (by rfl))) (by rfl)
theorem bg_115 : (.instanceMethod yX7_textLength : Cond) ∈ bg := bgf (tb_3 _ (List.mem_of_getElem? (i := 73) (by decide +kernel))) (by rfl)
theorem bg_116 : (.selects RX7 yX7_textLength yX7_textLength : Cond) ∈ bg := bgf (tb_3 _ (List.mem_of_getElem? (i := 74) (by decide +kernel))) (by rfl)
theorem bg_117 : (.methodLink RX0 162 yX7_characterAt : Cond) ∈ bg := bgf (tb_4 _ (List.mem_of_getElem? (i := 53) (by decide +kernel))) (by rfl)
theorem bg_118 : (.code yX7_characterAt cX7_characterAt 3 (some .int) : Cond) ∈ bg := bgf (tb_3 _ (List.mem_of_getElem? (i := 67) (by rfl))) (by rfl)
theorem bg_119 : (.instanceMethod yX7_characterAt : Cond) ∈ bg := bgf (tb_3 _ (List.mem_of_getElem? (i := 65) (by decide +kernel))) (by rfl)
theorem bg_120 : (.selects RX7 yX7_characterAt yX7_characterAt : Cond) ∈ bg := bgf (tb_3 _ (List.mem_of_getElem? (i := 66) (by decide +kernel))) (by rfl)
theorem bg_121 : (.fieldLink RX0 165 "ClassGate$ClassFile" "innerCount" "I" : Cond) ∈ bg := bgf (tb_1 _ (List.mem_of_getElem? (i := 168) (by decide +kernel))) (by rfl)
theorem bg_122 : (.methodLink RX0 168 yX0_innerClassesHold : Cond) ∈ bg := bgf (tb_5 _ (List.mem_of_getElem? (i := 4) (by decide +kernel))) (by rfl)
theorem bg_123 : (.code yX0_innerClassesHold cX0_innerClassesHold 6 (some .boolean) : Cond) ∈ bg := bgf (tb_5 _ (List.mem_of_getElem? (i := 7) (by rfl))) (by rfl)
theorem bg_124 : (.instanceMethod yX0_innerClassesHold : Cond) ∈ bg := bgf (tb_5 _ (List.mem_of_getElem? (i := 6) (by decide +kernel))) (by rfl)
theorem bg_125 : (.selects RX0 yX0_innerClassesHold yX0_innerClassesHold : Cond) ∈ bg := bgf (List.mem_of_getElem? (i := 46) (by decide +kernel)) (by rfl)
theorem bg_126 : (.fieldLink RX0 171 "ClassGate$ClassFile" "nestCount" "I" : Cond) ∈ bg := bgf (tb_1 _ (List.mem_of_getElem? (i := 170) (by decide +kernel))) (by rfl)
theorem bg_127 : (.fieldLink RX0 174 "ClassGate$ClassFile" "permittedCount" "I" : Cond) ∈ bg := bgf (tb_1 _ (List.mem_of_getElem? (i := 172) (by decide +kernel))) (by rfl)
theorem bg_128 : (.methodLink RX0 177 yX3_has : Cond) ∈ bg := bgf (tb_5 _ (List.mem_of_getElem? (i := 8) (by decide +kernel))) (by rfl)
theorem bg_129 : (.code yX3_has cX3_has 2 (some .boolean) : Cond) ∈ bg := bgf (tb_3 _ (List.mem_of_getElem? (i := 199) (by rfl))) (by rfl)
theorem bg_130 : (.instanceMethod yX3_has : Cond) ∈ bg := bgf (tb_3 _ (List.mem_of_getElem? (i := 197) (by decide +kernel))) (by rfl)
theorem bg_131 : (.selects RX3 yX3_has yX3_has : Cond) ∈ bg := bgf (tb_3 _ (List.mem_of_getElem? (i := 198) (by decide +kernel))) (by rfl)
theorem bg_132 : (.initialized RX3 : Cond) ∈ bg := bgf (tb_1 _ (List.mem_of_getElem? (i := 15) (by decide +kernel))) (by rfl)
theorem bg_133 : (.fieldLink RX0 178 "ClassGate$ClassFile" "recordCount" "I" : Cond) ∈ bg := bgf (tb_1 _ (List.mem_of_getElem? (i := 174) (by decide +kernel))) (by rfl)
theorem bg_134 : (.methodLink RX0 181 yX0_recordHolds : Cond) ∈ bg := bgf (tb_5 _ (List.mem_of_getElem? (i := 9) (by decide +kernel))) (by rfl)
theorem bg_135 : (.code yX0_recordHolds cX0_recordHolds 6 (some .boolean) : Cond) ∈ bg := bgf (tb_5 _ (List.mem_of_getElem? (i := 12) (by rfl))) (by rfl)
theorem bg_136 : (.instanceMethod yX0_recordHolds : Cond) ∈ bg := bgf (tb_5 _ (List.mem_of_getElem? (i := 11) (by decide +kernel))) (by rfl)
theorem bg_137 : (.selects RX0 yX0_recordHolds yX0_recordHolds : Cond) ∈ bg := bgf (List.mem_of_getElem? (i := 47) (by decide +kernel)) (by rfl)
theorem bg_138 : (.fieldLink RX0 184 "ClassGate$ClassFile" "bootstrapCount" "I" : Cond) ∈ bg := bgf (tb_1 _ (List.mem_of_getElem? (i := 164) (by decide +kernel))) (by rfl)
theorem bg_139 : (.fieldLink RX0 187 "ClassGate$ClassFile" "bootstrapsAt" "I" : Cond) ∈ bg := bgf (tb_1 _ (List.mem_of_getElem? (i := 166) (by decide +kernel))) (by rfl)
theorem bg_140 : (.methodLink RX0 190 yX0_bootstrapsHold : Cond) ∈ bg := bgf (tb_5 _ (List.mem_of_getElem? (i := 15) (by decide +kernel))) (by rfl)
theorem bg_141 : (.code yX0_bootstrapsHold cX0_bootstrapsHold 5 (some .boolean) : Cond) ∈ bg := bgf (tb_5 _ (List.mem_of_getElem? (i := 18) (by rfl))) (by rfl)
theorem bg_142 : (.instanceMethod yX0_bootstrapsHold : Cond) ∈ bg := bgf (tb_5 _ (List.mem_of_getElem? (i := 17) (by decide +kernel))) (by rfl)
theorem bg_143 : (.selects RX0 yX0_bootstrapsHold yX0_bootstrapsHold : Cond) ∈ bg := bgf (List.mem_of_getElem? (i := 48) (by decide +kernel)) (by rfl)
theorem bg_144 : (.methodLink RX0 194 yX7_isUnqualifiedName : Cond) ∈ bg := bgf (tb_5 _ (List.mem_of_getElem? (i := 13) (by decide +kernel))) (by rfl)
theorem bg_145 : (.code yX7_isUnqualifiedName cX7_isUnqualifiedName 4 (some .boolean) : Cond) ∈ bg := bgf (tb_3 _ (List.mem_of_getElem? (i := 83) (by rfl))) (by rfl)
theorem bg_146 : (.instanceMethod yX7_isUnqualifiedName : Cond) ∈ bg := bgf (tb_3 _ (List.mem_of_getElem? (i := 81) (by decide +kernel))) (by rfl)
theorem bg_147 : (.selects RX7 yX7_isUnqualifiedName yX7_isUnqualifiedName : Cond) ∈ bg := bgf (tb_3 _ (List.mem_of_getElem? (i := 82) (by decide +kernel))) (by rfl)
theorem bg_148 : (.methodLink RX0 197 yX7_isFieldDescriptor : Cond) ∈ bg := bgf (tb_5 _ (List.mem_of_getElem? (i := 14) (by decide +kernel))) (by rfl)
theorem bg_149 : (.code yX7_isFieldDescriptor cX7_isFieldDescriptor 2 (some .boolean) : Cond) ∈ bg := bgf (tb_3 _ (List.mem_of_getElem? (i := 71) (by rfl))) (by rfl)
theorem bg_150 : (.instanceMethod yX7_isFieldDescriptor : Cond) ∈ bg := bgf (tb_3 _ (List.mem_of_getElem? (i := 69) (by decide +kernel))) (by rfl)
theorem bg_151 : (.selects RX7 yX7_isFieldDescriptor yX7_isFieldDescriptor : Cond) ∈ bg := bgf (tb_3 _ (List.mem_of_getElem? (i := 70) (by decide +kernel))) (by rfl)
theorem bg_152 : (.methodLink RX0 200 yX0_isLoadable : Cond) ∈ bg := bgf (tb_5 _ (List.mem_of_getElem? (i := 19) (by decide +kernel))) (by rfl)
theorem bg_153 : (.code yX0_isLoadable cX0_isLoadable 1 (some .boolean) : Cond) ∈ bg := bgf (tb_5 _ (List.mem_of_getElem? (i := 21) (by rfl))) (by rfl)
theorem bg_154 : (.static yX0_isLoadable : Cond) ∈ bg := bgf (tb_5 _ (List.mem_of_getElem? (i := 20) (by decide +kernel))) (by rfl)
theorem bg_155 : (.classLink RX0 203 RX4 : Cond) ∈ bg := bgf (tb_4 _ (List.mem_of_getElem? (i := 107) (by decide +kernel))) (by rfl)
theorem bg_156 : (.initialized RX4 : Cond) ∈ bg := bgf (tb_1 _ (List.mem_of_getElem? (i := 25) (by decide +kernel))) (by rfl)
theorem bg_157 : (.instantiable RX4 11 : Cond) ∈ bg := bgf (tb_4 _ (List.mem_of_getElem? (i := 108) (by decide +kernel))) (by rfl)
theorem bg_158 : (.methodLink RX0 205 yX4_init : Cond) ∈ bg := bgf (tb_4 _ (List.mem_of_getElem? (i := 109) (by decide +kernel))) (by rfl)
theorem bg_159 : (.code yX4_init cX4_init 4 none : Cond) ∈ bg := bgf (tb_4 _ (List.mem_of_getElem? (i := 111) (by rfl))) (by rfl)
theorem bg_160 : (.instanceMethod yX4_init : Cond) ∈ bg := bgf (tb_4 _ (List.mem_of_getElem? (i := 110) (by decide +kernel))) (by rfl)
theorem bg_161 : (.fieldLink RX0 208 "ClassGate$Code" "length" "I" : Cond) ∈ bg := bgf (tb_4 _ (List.mem_of_getElem? (i := 171) (by decide +kernel))) (by rfl)
theorem bg_162 : (.constant RX0 211 65535 : Cond) ∈ bg := bgf (tb_4 _ (List.mem_of_getElem? (i := 208) (by decide +kernel))) (by rfl)
theorem bg_163 : (.fieldLink RX0 212 "ClassGate$Code" "maxLocals" "I" : Cond) ∈ bg := bgf (tb_4 _ (List.mem_of_getElem? (i := 168) (by decide +kernel))) (by rfl)
theorem bg_164 : (.fieldLink RX0 215 "ClassGate$Member" "argumentPlaces" "I" : Cond) ∈ bg := bgf (tb_2 _ (List.mem_of_getElem? (i := 143) (by decide +kernel))) (by rfl)
theorem bg_165 : (.fieldLink RX0 218 "ClassGate$Code" "rowCount" "I" : Cond) ∈ bg := bgf (tb_4 _ (List.mem_of_getElem? (i := 178) (by decide +kernel))) (by rfl)
theorem bg_166 : (.fieldLink RX0 221 "ClassGate$Code" "rowsAt" "I" : Cond) ∈ bg := bgf (tb_4 _ (List.mem_of_getElem? (i := 174) (by decide +kernel))) (by rfl)
theorem bg_167 : (.methodLink RX0 224 yX0_rowHolds : Cond) ∈ bg := bgf (tb_4 _ (List.mem_of_getElem? (i := 209) (by decide +kernel))) (by rfl)
theorem bg_168 : (.code yX0_rowHolds cX0_rowHolds 5 (some .boolean) : Cond) ∈ bg := bgf (tb_4 _ (List.mem_of_getElem? (i := 212) (by rfl))) (by rfl)
theorem bg_169 : (.instanceMethod yX0_rowHolds : Cond) ∈ bg := bgf (tb_4 _ (List.mem_of_getElem? (i := 211) (by decide +kernel))) (by rfl)
theorem bg_170 : (.selects RX0 yX0_rowHolds yX0_rowHolds : Cond) ∈ bg := bgf (List.mem_of_getElem? (i := 40) (by decide +kernel)) (by rfl)
theorem bg_171 : (.fieldLink RX0 228 "ClassGate$Member" "code" "LClassGate$Code;" : Cond) ∈ bg := bgf (tb_2 _ (List.mem_of_getElem? (i := 149) (by decide +kernel))) (by rfl)
theorem bg_172 : (.methodLink RX0 232 yX0_codeAttributesHold : Cond) ∈ bg := bgf (tb_4 _ (List.mem_of_getElem? (i := 213) (by decide +kernel))) (by rfl)
theorem bg_173 : (.code yX0_codeAttributesHold cX0_codeAttributesHold 6 (some .boolean) : Cond) ∈ bg := bgf (tb_4 _ (List.mem_of_getElem? (i := 216) (by rfl))) (by rfl)
theorem bg_174 : (.instanceMethod yX0_codeAttributesHold : Cond) ∈ bg := bgf (tb_4 _ (List.mem_of_getElem? (i := 215) (by decide +kernel))) (by rfl)
theorem bg_175 : (.selects RX0 yX0_codeAttributesHold yX0_codeAttributesHold : Cond) ∈ bg := bgf (List.mem_of_getElem? (i := 41) (by decide +kernel)) (by rfl)
theorem bg_176 : (.code yX1_init cX1_init 2 none : Cond) ∈ bg := bgf (tb_1 _ (List.mem_of_getElem? (i := 64) (by rfl))) (by rfl)
theorem bg_177 : (.methodLink RX1 1 objectInit : Cond) ∈ bg := bgf (tb_1 _ (List.mem_of_getElem? (i := 65) (by decide +kernel))) (by rfl)
theorem bg_178 : (.fieldLink RX1 7 "ClassGate$Bytes" "data" "[B" : Cond) ∈ bg := bgf (tb_1 _ (List.mem_of_getElem? (i := 66) (by decide +kernel))) (by rfl)
theorem bg_179 : (.code yX1_size cX1_size 1 (some .int) : Cond) ∈ bg := bgf (tb_2 _ (List.mem_of_getElem? (i := 21) (by rfl))) (by rfl)
theorem bg_180 : (.code yX1_u1 cX1_u1 2 (some .int) : Cond) ∈ bg := bgf (tb_2 _ (List.mem_of_getElem? (i := 29) (by rfl))) (by rfl)
theorem bg_181 : (.code yX1_goesOn cX1_goesOn 3 (some .boolean) : Cond) ∈ bg := bgf (tb_2 _ (List.mem_of_getElem? (i := 68) (by rfl))) (by rfl)
theorem bg_182 : (.methodLink RX1 13 yX1_u4 : Cond) ∈ bg := bgf (tb_4 _ (List.mem_of_getElem? (i := 38) (by decide +kernel))) (by rfl)
theorem bg_183 : (.code yX2_init cX2_init 4 none : Cond) ∈ bg := bgf (tb_3 _ (List.mem_of_getElem? (i := 9) (by rfl))) (by rfl)
theorem bg_184 : (.methodLink RX2 3 objectInit : Cond) ∈ bg := bgf (tb_3 _ (List.mem_of_getElem? (i := 10) (by decide +kernel))) (by rfl)
theorem bg_185 : (.fieldLink RX2 9 "ClassGate$ClassCheck" "file" "LClassGate$ClassFile;" : Cond) ∈ bg := bgf (tb_3 _ (List.mem_of_getElem? (i := 11) (by decide +kernel))) (by rfl)
theorem bg_186 : (.fieldLink RX2 15 "ClassGate$ClassCheck" "verdict" "LClassGate$Verdict;" : Cond) ∈ bg := bgf (tb_3 _ (List.mem_of_getElem? (i := 14) (by decide +kernel))) (by rfl)
theorem bg_187 : (.fieldLink RX2 19 "ClassGate$ClassCheck" "attributeCheck" "LClassGate$AttributeCheck;" : Cond) ∈ bg := bgf (tb_3 _ (List.mem_of_getElem? (i := 15) (by decide +kernel))) (by rfl)
theorem bg_188 : (.fieldLink RX2 23 "ClassGate$ClassFile" "bytes" "LClassGate$Bytes;" : Cond) ∈ bg := bgf (tb_1 _ (List.mem_of_getElem? (i := 125) (by decide +kernel))) (by rfl)
theorem bg_189 : (.fieldLink RX2 29 "ClassGate$ClassCheck" "bytes" "LClassGate$Bytes;" : Cond) ∈ bg := bgf (tb_3 _ (List.mem_of_getElem? (i := 12) (by decide +kernel))) (by rfl)
theorem bg_190 : (.fieldLink RX2 30 "ClassGate$ClassFile" "pool" "LClassGate$Pool;" : Cond) ∈ bg := bgf (tb_1 _ (List.mem_of_getElem? (i := 130) (by decide +kernel))) (by rfl)
theorem bg_191 : (.fieldLink RX2 34 "ClassGate$ClassCheck" "pool" "LClassGate$Pool;" : Cond) ∈ bg := bgf (tb_3 _ (List.mem_of_getElem? (i := 13) (by decide +kernel))) (by rfl)
theorem bg_192 : (.code yX2_headHolds cX2_headHolds 3 (some .boolean) : Cond) ∈ bg := bgf (tb_3 _ (List.mem_of_getElem? (i := 182) (by rfl))) (by rfl)
theorem bg_193 : (.fieldLink RX2 35 "ClassGate$ClassFile" "flagsAt" "I" : Cond) ∈ bg := bgf (tb_1 _ (List.mem_of_getElem? (i := 142) (by decide +kernel))) (by rfl)
theorem bg_194 : (.methodLink RX2 39 yX1_u2 : Cond) ∈ bg := bgf (tb_3 _ (List.mem_of_getElem? (i := 183) (by decide +kernel))) (by rfl)
theorem bg_195 : (.methodLink RX2 45 yX2_classFlagsHold : Cond) ∈ bg := bgf (tb_3 _ (List.mem_of_getElem? (i := 184) (by decide +kernel))) (by rfl)
theorem bg_196 : (.code yX2_classFlagsHold cX2_classFlagsHold 1 (some .boolean) : Cond) ∈ bg := bgf (tb_3 _ (List.mem_of_getElem? (i := 186) (by rfl))) (by rfl)
theorem bg_197 : (.static yX2_classFlagsHold : Cond) ∈ bg := bgf (tb_3 _ (List.mem_of_getElem? (i := 185) (by decide +kernel))) (by rfl)
theorem bg_198 : (.initialized RX2 : Cond) ∈ bg := bgf (tb_1 _ (List.mem_of_getElem? (i := 23) (by decide +kernel))) (by rfl)
theorem bg_199 : (.methodLink RX2 49 yX10_wrong : Cond) ∈ bg := bgf (tb_3 _ (List.mem_of_getElem? (i := 191) (by decide +kernel))) (by rfl)
theorem bg_200 : (.methodLink RX2 55 yX7_isPlainClass : Cond) ∈ bg := bgf (tb_3 _ (List.mem_of_getElem? (i := 192) (by decide +kernel))) (by rfl)
theorem bg_201 : (.code yX7_isPlainClass cX7_isPlainClass 2 (some .boolean) : Cond) ∈ bg := bgf (tb_3 _ (List.mem_of_getElem? (i := 195) (by rfl))) (by rfl)
theorem bg_202 : (.instanceMethod yX7_isPlainClass : Cond) ∈ bg := bgf (tb_3 _ (List.mem_of_getElem? (i := 193) (by decide +kernel))) (by rfl)
theorem bg_203 : (.selects RX7 yX7_isPlainClass yX7_isPlainClass : Cond) ∈ bg := bgf (tb_3 _ (List.mem_of_getElem? (i := 194) (by decide +kernel))) (by rfl)
theorem bg_204 : (.methodLink RX2 60 yX3_has : Cond) ∈ bg := bgf (tb_3 _ (List.mem_of_getElem? (i := 196) (by decide +kernel))) (by rfl)
theorem bg_205 : (.methodLink RX2 63 yX7_firstIndex : Cond) ∈ bg := bgf (tb_3 _ (List.mem_of_getElem? (i := 201) (by decide +kernel))) (by rfl)
theorem bg_206 : (.code yX7_firstIndex cX7_firstIndex 2 (some .int) : Cond) ∈ bg := bgf (tb_3 _ (List.mem_of_getElem? (i := 39) (by rfl))) (by rfl)
theorem bg_207 : (.instanceMethod yX7_firstIndex : Cond) ∈ bg := bgf (tb_3 _ (List.mem_of_getElem? (i := 37) (by decide +kernel))) (by rfl)
theorem bg_208 : (.selects RX7 yX7_firstIndex yX7_firstIndex : Cond) ∈ bg := bgf (tb_3 _ (List.mem_of_getElem? (i := 38) (by decide +kernel))) (by rfl)
theorem bg_209 : (.methodLink RX2 67 yX7_textIs : Cond) ∈ bg := bgf (tb_3 _ (List.mem_of_getElem? (i := 203) (by decide +kernel))) (by rfl)
theorem bg_210 : (.constant RX2 71 32768 : Cond) ∈ bg := bgf (tb_3 _ (List.mem_of_getElem? (i := 187) (by decide +kernel))) (by rfl)
theorem bg_211 : (.methodLink RX2 72 yX2_hasAll : Cond) ∈ bg := bgf (tb_3 _ (List.mem_of_getElem? (i := 188) (by decide +kernel))) (by rfl)
theorem bg_212 : (.code yX2_hasAll cX2_hasAll 2 (some .boolean) : Cond) ∈ bg := bgf (tb_3 _ (List.mem_of_getElem? (i := 190) (by rfl))) (by rfl)
theorem bg_213 : (.static yX2_hasAll : Cond) ∈ bg := bgf (tb_3 _ (List.mem_of_getElem? (i := 189) (by decide +kernel))) (by rfl)
theorem bg_214 : (.code yX2_interfacesHold cX2_interfacesHold 6 (some .boolean) : Cond) ∈ bg := bgf (tb_3 _ (List.mem_of_getElem? (i := 207) (by rfl))) (by rfl)
theorem bg_215 : (.fieldLink RX2 75 "ClassGate$ClassFile" "interfaceCount" "I" : Cond) ∈ bg := bgf (tb_1 _ (List.mem_of_getElem? (i := 146) (by decide +kernel))) (by rfl)
theorem bg_216 : (.methodLink RX2 78 yX7_sameText : Cond) ∈ bg := bgf (tb_3 _ (List.mem_of_getElem? (i := 208) (by decide +kernel))) (by rfl)
theorem bg_217 : (.code yX7_sameText cX7_sameText 4 (some .boolean) : Cond) ∈ bg := bgf (tb_3 _ (List.mem_of_getElem? (i := 211) (by rfl))) (by rfl)
theorem bg_218 : (.instanceMethod yX7_sameText : Cond) ∈ bg := bgf (tb_3 _ (List.mem_of_getElem? (i := 209) (by decide +kernel))) (by rfl)
theorem bg_219 : (.selects RX7 yX7_sameText yX7_sameText : Cond) ∈ bg := bgf (tb_3 _ (List.mem_of_getElem? (i := 210) (by decide +kernel))) (by rfl)
theorem bg_220 : (.code yX2_fieldsHold cX2_fieldsHold 3 (some .boolean) : Cond) ∈ bg := bgf (tb_3 _ (List.mem_of_getElem? (i := 215) (by rfl))) (by rfl)
theorem bg_221 : (.fieldLink RX2 81 "ClassGate$ClassFile" "fields" "[LClassGate$Member;" : Cond) ∈ bg := bgf (tb_1 _ (List.mem_of_getElem? (i := 149) (by decide +kernel))) (by rfl)
theorem bg_222 : (.methodLink RX2 85 yX2_fieldHolds : Cond) ∈ bg := bgf (tb_3 _ (List.mem_of_getElem? (i := 216) (by decide +kernel))) (by rfl)
theorem bg_223 : (.code yX2_fieldHolds cX2_fieldHolds 3 (some .boolean) : Cond) ∈ bg := bgf (tb_3 _ (List.mem_of_getElem? (i := 219) (by rfl))) (by rfl)
theorem bg_224 : (.instanceMethod yX2_fieldHolds : Cond) ∈ bg := bgf (tb_3 _ (List.mem_of_getElem? (i := 218) (by decide +kernel))) (by rfl)
theorem bg_225 : (.selects RX2 yX2_fieldHolds yX2_fieldHolds : Cond) ∈ bg := bgf (List.mem_of_getElem? (i := 22) (by decide +kernel)) (by rfl)
theorem bg_226 : (.methodLink RX2 89 yX0_ofField : Cond) ∈ bg := bgf (tb_4 _ (List.mem_of_getElem? (i := 0) (by decide +kernel))) (by rfl)
theorem bg_227 : (.instanceMethod yX0_ofField : Cond) ∈ bg := bgf (tb_4 _ (List.mem_of_getElem? (i := 1) (by decide +kernel))) (by rfl)
theorem bg_228 : (.selects RX0 yX0_ofField yX0_ofField : Cond) ∈ bg := bgf (tb_4 _ (List.mem_of_getElem? (i := 2) (by decide +kernel))) (by rfl)
theorem bg_229 : (.fieldLink RX2 95 "ClassGate$Member" "flags" "I" : Cond) ∈ bg := bgf (tb_2 _ (List.mem_of_getElem? (i := 125) (by decide +kernel))) (by rfl)
theorem bg_230 : (.methodLink RX2 100 yX2_fieldFlagsHold : Cond) ∈ bg := bgf (tb_3 _ (List.mem_of_getElem? (i := 220) (by decide +kernel))) (by rfl)
theorem bg_231 : (.code yX2_fieldFlagsHold cX2_fieldFlagsHold 3 (some .boolean) : Cond) ∈ bg := bgf (tb_3 _ (List.mem_of_getElem? (i := 223) (by rfl))) (by rfl)
theorem bg_232 : (.instanceMethod yX2_fieldFlagsHold : Cond) ∈ bg := bgf (tb_3 _ (List.mem_of_getElem? (i := 222) (by decide +kernel))) (by rfl)
theorem bg_233 : (.selects RX2 yX2_fieldFlagsHold yX2_fieldFlagsHold : Cond) ∈ bg := bgf (List.mem_of_getElem? (i := 23) (by decide +kernel)) (by rfl)
theorem bg_234 : (.fieldLink RX2 103 "ClassGate$Member" "begin" "I" : Cond) ∈ bg := bgf (tb_2 _ (List.mem_of_getElem? (i := 123) (by decide +kernel))) (by rfl)
theorem bg_235 : (.fieldLink RX2 106 "ClassGate$Member" "name" "I" : Cond) ∈ bg := bgf (tb_2 _ (List.mem_of_getElem? (i := 127) (by decide +kernel))) (by rfl)
theorem bg_236 : (.methodLink RX2 109 yX7_isUnqualifiedName : Cond) ∈ bg := bgf (tb_3 _ (List.mem_of_getElem? (i := 233) (by decide +kernel))) (by rfl)
theorem bg_237 : (.fieldLink RX2 112 "ClassGate$Member" "descriptor" "I" : Cond) ∈ bg := bgf (tb_2 _ (List.mem_of_getElem? (i := 131) (by decide +kernel))) (by rfl)
theorem bg_238 : (.methodLink RX2 115 yX7_isFieldDescriptor : Cond) ∈ bg := bgf (tb_3 _ (List.mem_of_getElem? (i := 234) (by decide +kernel))) (by rfl)
theorem bg_239 : (.methodLink RX2 118 yX7_sameMember : Cond) ∈ bg := bgf (tb_3 _ (List.mem_of_getElem? (i := 235) (by decide +kernel))) (by rfl)
theorem bg_240 : (.code yX7_sameMember cX7_sameMember 7 (some .int) : Cond) ∈ bg := bgf (tb_3 _ (List.mem_of_getElem? (i := 238) (by rfl))) (by rfl)
theorem bg_241 : (.instanceMethod yX7_sameMember : Cond) ∈ bg := bgf (tb_3 _ (List.mem_of_getElem? (i := 236) (by decide +kernel))) (by rfl)
theorem bg_242 : (.selects RX7 yX7_sameMember yX7_sameMember : Cond) ∈ bg := bgf (tb_3 _ (List.mem_of_getElem? (i := 237) (by decide +kernel))) (by rfl)
theorem bg_243 : (.methodLink RX2 122 yX2_hasOneAccessAtMost : Cond) ∈ bg := bgf (tb_3 _ (List.mem_of_getElem? (i := 224) (by decide +kernel))) (by rfl)
theorem bg_244 : (.code yX2_hasOneAccessAtMost cX2_hasOneAccessAtMost 1 (some .boolean) : Cond) ∈ bg := bgf (tb_3 _ (List.mem_of_getElem? (i := 226) (by rfl))) (by rfl)
theorem bg_245 : (.static yX2_hasOneAccessAtMost : Cond) ∈ bg := bgf (tb_3 _ (List.mem_of_getElem? (i := 225) (by decide +kernel))) (by rfl)
theorem bg_246 : (.methodLink RX2 125 yJ6_bitCount_0f7a4 : Cond) ∈ bg := bgf (tb_3 _ (List.mem_of_getElem? (i := 227) (by decide +kernel))) (by rfl)
theorem bg_247 : (.code yX2_methodsHold cX2_methodsHold 3 (some .boolean) : Cond) ∈ bg := bgf (tb_4 _ (List.mem_of_getElem? (i := 58) (by rfl))) (by rfl)
theorem bg_248 : (.fieldLink RX2 130 "ClassGate$ClassFile" "methods" "[LClassGate$Member;" : Cond) ∈ bg := bgf (tb_1 _ (List.mem_of_getElem? (i := 153) (by decide +kernel))) (by rfl)
theorem bg_249 : (.methodLink RX2 133 yX2_methodHolds : Cond) ∈ bg := bgf (tb_4 _ (List.mem_of_getElem? (i := 59) (by decide +kernel))) (by rfl)
theorem bg_250 : (.code yX2_methodHolds cX2_methodHolds 3 (some .boolean) : Cond) ∈ bg := bgf (tb_4 _ (List.mem_of_getElem? (i := 62) (by rfl))) (by rfl)
theorem bg_251 : (.instanceMethod yX2_methodHolds : Cond) ∈ bg := bgf (tb_4 _ (List.mem_of_getElem? (i := 61) (by decide +kernel))) (by rfl)
theorem bg_252 : (.selects RX2 yX2_methodHolds yX2_methodHolds : Cond) ∈ bg := bgf (List.mem_of_getElem? (i := 32) (by decide +kernel)) (by rfl)
theorem bg_253 : (.methodLink RX2 136 yX0_ofMethod : Cond) ∈ bg := bgf (tb_4 _ (List.mem_of_getElem? (i := 93) (by decide +kernel))) (by rfl)
theorem bg_254 : (.instanceMethod yX0_ofMethod : Cond) ∈ bg := bgf (tb_4 _ (List.mem_of_getElem? (i := 94) (by decide +kernel))) (by rfl)
theorem bg_255 : (.selects RX0 yX0_ofMethod yX0_ofMethod : Cond) ∈ bg := bgf (tb_4 _ (List.mem_of_getElem? (i := 95) (by decide +kernel))) (by rfl)
theorem bg_256 : (.methodLink RX2 139 yX2_codeIsDue : Cond) ∈ bg := bgf (tb_4 _ (List.mem_of_getElem? (i := 222) (by decide +kernel))) (by rfl)
theorem bg_257 : (.code yX2_codeIsDue cX2_codeIsDue 3 (some .boolean) : Cond) ∈ bg := bgf (tb_4 _ (List.mem_of_getElem? (i := 225) (by rfl))) (by rfl)
theorem bg_258 : (.instanceMethod yX2_codeIsDue : Cond) ∈ bg := bgf (tb_4 _ (List.mem_of_getElem? (i := 224) (by decide +kernel))) (by rfl)
theorem bg_259 : (.selects RX2 yX2_codeIsDue yX2_codeIsDue : Cond) ∈ bg := bgf (List.mem_of_getElem? (i := 43) (by decide +kernel)) (by rfl)
theorem bg_260 : (.methodLink RX2 142 yX2_methodNameHolds : Cond) ∈ bg := bgf (tb_4 _ (List.mem_of_getElem? (i := 63) (by decide +kernel))) (by rfl)
theorem bg_261 : (.code yX2_methodNameHolds cX2_methodNameHolds 2 (some .boolean) : Cond) ∈ bg := bgf (tb_4 _ (List.mem_of_getElem? (i := 66) (by rfl))) (by rfl)
theorem bg_262 : (.instanceMethod yX2_methodNameHolds : Cond) ∈ bg := bgf (tb_4 _ (List.mem_of_getElem? (i := 65) (by decide +kernel))) (by rfl)
theorem bg_263 : (.selects RX2 yX2_methodNameHolds yX2_methodNameHolds : Cond) ∈ bg := bgf (List.mem_of_getElem? (i := 33) (by decide +kernel)) (by rfl)
theorem bg_264 : (.methodLink RX2 145 yX2_methodFlagsHold : Cond) ∈ bg := bgf (tb_4 _ (List.mem_of_getElem? (i := 70) (by decide +kernel))) (by rfl)
theorem bg_265 : (.code yX2_methodFlagsHold cX2_methodFlagsHold 3 (some .boolean) : Cond) ∈ bg := bgf (tb_4 _ (List.mem_of_getElem? (i := 73) (by rfl))) (by rfl)
theorem bg_266 : (.instanceMethod yX2_methodFlagsHold : Cond) ∈ bg := bgf (tb_4 _ (List.mem_of_getElem? (i := 72) (by decide +kernel))) (by rfl)
theorem bg_267 : (.selects RX2 yX2_methodFlagsHold yX2_methodFlagsHold : Cond) ∈ bg := bgf (List.mem_of_getElem? (i := 34) (by decide +kernel)) (by rfl)
theorem bg_268 : (.methodLink RX2 148 yX7_argumentPlaces : Cond) ∈ bg := bgf (tb_4 _ (List.mem_of_getElem? (i := 83) (by decide +kernel))) (by rfl)
theorem bg_269 : (.code yX7_argumentPlaces cX7_argumentPlaces 2 (some .int) : Cond) ∈ bg := bgf (tb_4 _ (List.mem_of_getElem? (i := 86) (by rfl))) (by rfl)
theorem bg_270 : (.instanceMethod yX7_argumentPlaces : Cond) ∈ bg := bgf (tb_4 _ (List.mem_of_getElem? (i := 84) (by decide +kernel))) (by rfl)
theorem bg_271 : (.selects RX7 yX7_argumentPlaces yX7_argumentPlaces : Cond) ∈ bg := bgf (tb_4 _ (List.mem_of_getElem? (i := 85) (by decide +kernel))) (by rfl)
theorem bg_272 : (.methodLink RX2 151 yX6_has : Cond) ∈ bg := bgf (tb_4 _ (List.mem_of_getElem? (i := 74) (by decide +kernel))) (by rfl)
theorem bg_273 : (.fieldLink RX2 152 "ClassGate$Member" "argumentPlaces" "I" : Cond) ∈ bg := bgf (tb_2 _ (List.mem_of_getElem? (i := 142) (by decide +kernel))) (by rfl)
theorem bg_274 : (.methodLink RX2 154 yX2_methodDescriptorHolds : Cond) ∈ bg := bgf (tb_4 _ (List.mem_of_getElem? (i := 87) (by decide +kernel))) (by rfl)
theorem bg_275 : (.code yX2_methodDescriptorHolds cX2_methodDescriptorHolds 2 (some .boolean) : Cond) ∈ bg := bgf (tb_4 _ (List.mem_of_getElem? (i := 90) (by rfl))) (by rfl)
theorem bg_276 : (.instanceMethod yX2_methodDescriptorHolds : Cond) ∈ bg := bgf (tb_4 _ (List.mem_of_getElem? (i := 89) (by decide +kernel))) (by rfl)
theorem bg_277 : (.selects RX2 yX2_methodDescriptorHolds yX2_methodDescriptorHolds : Cond) ∈ bg := bgf (List.mem_of_getElem? (i := 37) (by decide +kernel)) (by rfl)
theorem bg_278 : (.methodLink RX2 160 yX7_hasAngle : Cond) ∈ bg := bgf (tb_4 _ (List.mem_of_getElem? (i := 69) (by decide +kernel))) (by rfl)
theorem bg_279 : (.code yX7_hasAngle cX7_hasAngle 4 (some .boolean) : Cond) ∈ bg := bgf (tb_3 _ (List.mem_of_getElem? (i := 106) (by rfl))) (by rfl)
theorem bg_280 : (.instanceMethod yX7_hasAngle : Cond) ∈ bg := bgf (tb_3 _ (List.mem_of_getElem? (i := 104) (by decide +kernel))) (by rfl)
theorem bg_281 : (.selects RX7 yX7_hasAngle yX7_hasAngle : Cond) ∈ bg := bgf (tb_3 _ (List.mem_of_getElem? (i := 105) (by decide +kernel))) (by rfl)
theorem bg_282 : (.methodLink RX2 163 yX2_abstractHolds : Cond) ∈ bg := bgf (tb_4 _ (List.mem_of_getElem? (i := 75) (by decide +kernel))) (by rfl)
theorem bg_283 : (.code yX2_abstractHolds cX2_abstractHolds 2 (some .boolean) : Cond) ∈ bg := bgf (tb_4 _ (List.mem_of_getElem? (i := 78) (by rfl))) (by rfl)
theorem bg_284 : (.instanceMethod yX2_abstractHolds : Cond) ∈ bg := bgf (tb_4 _ (List.mem_of_getElem? (i := 77) (by decide +kernel))) (by rfl)
theorem bg_285 : (.selects RX2 yX2_abstractHolds yX2_abstractHolds : Cond) ∈ bg := bgf (List.mem_of_getElem? (i := 35) (by decide +kernel)) (by rfl)
theorem bg_286 : (.methodLink RX2 166 yX2_interfaceMethodHolds : Cond) ∈ bg := bgf (tb_4 _ (List.mem_of_getElem? (i := 79) (by decide +kernel))) (by rfl)
theorem bg_287 : (.code yX2_interfaceMethodHolds cX2_interfaceMethodHolds 2 (some .boolean) : Cond) ∈ bg := bgf (tb_4 _ (List.mem_of_getElem? (i := 82) (by rfl))) (by rfl)
theorem bg_288 : (.instanceMethod yX2_interfaceMethodHolds : Cond) ∈ bg := bgf (tb_4 _ (List.mem_of_getElem? (i := 81) (by decide +kernel))) (by rfl)
theorem bg_289 : (.selects RX2 yX2_interfaceMethodHolds yX2_interfaceMethodHolds : Cond) ∈ bg := bgf (List.mem_of_getElem? (i := 36) (by decide +kernel)) (by rfl)
theorem bg_290 : (.fieldLink RX2 169 "ClassGate$ClassFile" "major" "I" : Cond) ∈ bg := bgf (tb_1 _ (List.mem_of_getElem? (i := 141) (by decide +kernel))) (by rfl)
theorem bg_291 : (.methodLink RX2 172 yX7_isMethodDescriptor : Cond) ∈ bg := bgf (tb_4 _ (List.mem_of_getElem? (i := 91) (by decide +kernel))) (by rfl)
theorem bg_292 : (.code yX7_isMethodDescriptor cX7_isMethodDescriptor 2 (some .boolean) : Cond) ∈ bg := bgf (tb_3 _ (List.mem_of_getElem? (i := 88) (by rfl))) (by rfl)
theorem bg_293 : (.instanceMethod yX7_isMethodDescriptor : Cond) ∈ bg := bgf (tb_3 _ (List.mem_of_getElem? (i := 86) (by decide +kernel))) (by rfl)
theorem bg_294 : (.selects RX7 yX7_isMethodDescriptor yX7_isMethodDescriptor : Cond) ∈ bg := bgf (tb_3 _ (List.mem_of_getElem? (i := 87) (by decide +kernel))) (by rfl)
theorem bg_295 : (.methodLink RX2 175 yX7_hasNoResult : Cond) ∈ bg := bgf (tb_4 _ (List.mem_of_getElem? (i := 92) (by decide +kernel))) (by rfl)
theorem bg_296 : (.code yX7_hasNoResult cX7_hasNoResult 2 (some .boolean) : Cond) ∈ bg := bgf (tb_3 _ (List.mem_of_getElem? (i := 168) (by rfl))) (by rfl)
theorem bg_297 : (.instanceMethod yX7_hasNoResult : Cond) ∈ bg := bgf (tb_3 _ (List.mem_of_getElem? (i := 166) (by decide +kernel))) (by rfl)
theorem bg_298 : (.selects RX7 yX7_hasNoResult yX7_hasNoResult : Cond) ∈ bg := bgf (tb_3 _ (List.mem_of_getElem? (i := 167) (by decide +kernel))) (by rfl)
theorem bg_299 : (.fieldLink RX2 178 "ClassGate$Member" "code" "LClassGate$Code;" : Cond) ∈ bg := bgf (tb_2 _ (List.mem_of_getElem? (i := 148) (by decide +kernel))) (by rfl)
theorem bg_300 : (.code yX3_init cX3_init 2 none : Cond) ∈ bg := bgf (tb_1 _ (List.mem_of_getElem? (i := 72) (by rfl))) (by rfl)
theorem bg_301 : (.methodLink RX3 1 objectInit : Cond) ∈ bg := bgf (tb_1 _ (List.mem_of_getElem? (i := 73) (by decide +kernel))) (by rfl)
theorem bg_302 : (.fieldLink RX3 7 "ClassGate$ClassFile" "bytes" "LClassGate$Bytes;" : Cond) ∈ bg := bgf (tb_1 _ (List.mem_of_getElem? (i := 122) (by decide +kernel))) (by rfl)
theorem bg_303 : (.classLink RX3 13 RX7 : Cond) ∈ bg := bgf (tb_1 _ (List.mem_of_getElem? (i := 74) (by decide +kernel))) (by rfl)
theorem bg_304 : (.instantiable RX7 8 : Cond) ∈ bg := bgf (tb_1 _ (List.mem_of_getElem? (i := 75) (by decide +kernel))) (by rfl)
theorem bg_305 : (.methodLink RX3 15 yX7_init : Cond) ∈ bg := bgf (tb_1 _ (List.mem_of_getElem? (i := 76) (by decide +kernel))) (by rfl)
theorem bg_306 : (.code yX7_init cX7_init 4 none : Cond) ∈ bg := bgf (tb_1 _ (List.mem_of_getElem? (i := 78) (by rfl))) (by rfl)
theorem bg_307 : (.instanceMethod yX7_init : Cond) ∈ bg := bgf (tb_1 _ (List.mem_of_getElem? (i := 77) (by decide +kernel))) (by rfl)
theorem bg_308 : (.fieldLink RX3 18 "ClassGate$ClassFile" "pool" "LClassGate$Pool;" : Cond) ∈ bg := bgf (tb_1 _ (List.mem_of_getElem? (i := 128) (by decide +kernel))) (by rfl)
theorem bg_309 : (.classLink RX3 22 RX6 : Cond) ∈ bg := bgf (tb_1 _ (List.mem_of_getElem? (i := 119) (by decide +kernel))) (by rfl)
theorem bg_310 : (.fieldLink RX3 24 "ClassGate$ClassFile" "fields" "[LClassGate$Member;" : Cond) ∈ bg := bgf (tb_1 _ (List.mem_of_getElem? (i := 148) (by decide +kernel))) (by rfl)
theorem bg_311 : (.fieldLink RX3 28 "ClassGate$ClassFile" "methods" "[LClassGate$Member;" : Cond) ∈ bg := bgf (tb_1 _ (List.mem_of_getElem? (i := 152) (by decide +kernel))) (by rfl)
theorem bg_312 : (.fieldLink RX3 31 "ClassGate$ClassFile" "recordCount" "I" : Cond) ∈ bg := bgf (tb_1 _ (List.mem_of_getElem? (i := 173) (by decide +kernel))) (by rfl)
theorem bg_313 : (.fieldLink RX3 35 "ClassGate$ClassFile" "flagsAt" "I" : Cond) ∈ bg := bgf (tb_1 _ (List.mem_of_getElem? (i := 143) (by decide +kernel))) (by rfl)
theorem bg_314 : (.methodLink RX3 38 yX1_u2 : Cond) ∈ bg := bgf (tb_3 _ (List.mem_of_getElem? (i := 200) (by decide +kernel))) (by rfl)
theorem bg_315 : (.code yX3_number cX3_number 2 (some .int) : Cond) ∈ bg := bgf (tb_6 _ (List.mem_of_getElem? (i := 95) (by rfl))) (by rfl)
theorem bg_316 : (.fieldLink RX3 44 "ClassGate$Pool" "size" "I" : Cond) ∈ bg := bgf (tb_1 _ (List.mem_of_getElem? (i := 88) (by decide +kernel))) (by rfl)
theorem bg_317 : (.fieldLink RX3 47 "ClassGate$ClassFile" "interfaceCount" "I" : Cond) ∈ bg := bgf (tb_1 _ (List.mem_of_getElem? (i := 145) (by decide +kernel))) (by rfl)
theorem bg_318 : (.fieldLink RX3 50 "ClassGate$ClassFile" "major" "I" : Cond) ∈ bg := bgf (tb_1 _ (List.mem_of_getElem? (i := 139) (by decide +kernel))) (by rfl)
theorem bg_319 : (.fieldLink RX3 53 "ClassGate$ClassFile" "minor" "I" : Cond) ∈ bg := bgf (tb_1 _ (List.mem_of_getElem? (i := 135) (by decide +kernel))) (by rfl)
theorem bg_320 : (.fieldLink RX3 56 "ClassGate$Pool" "characterCount" "I" : Cond) ∈ bg := bgf (tb_1 _ (List.mem_of_getElem? (i := 97) (by decide +kernel))) (by rfl)
theorem bg_321 : (.methodLink RX3 59 yX3_attributeNumber : Cond) ∈ bg := bgf (tb_6 _ (List.mem_of_getElem? (i := 96) (by decide +kernel))) (by rfl)
theorem bg_322 : (.code yX3_attributeNumber cX3_attributeNumber 2 (some .int) : Cond) ∈ bg := bgf (tb_6 _ (List.mem_of_getElem? (i := 99) (by rfl))) (by rfl)
theorem bg_323 : (.instanceMethod yX3_attributeNumber : Cond) ∈ bg := bgf (tb_6 _ (List.mem_of_getElem? (i := 98) (by decide +kernel))) (by rfl)
theorem bg_324 : (.selects RX3 yX3_attributeNumber yX3_attributeNumber : Cond) ∈ bg := bgf (List.mem_of_getElem? (i := 72) (by decide +kernel)) (by rfl)
theorem bg_325 : (.fieldLink RX3 62 "ClassGate$ClassFile" "bootstrapCount" "I" : Cond) ∈ bg := bgf (tb_1 _ (List.mem_of_getElem? (i := 162) (by decide +kernel))) (by rfl)
theorem bg_326 : (.fieldLink RX3 65 "ClassGate$ClassFile" "known" "I" : Cond) ∈ bg := bgf (tb_1 _ (List.mem_of_getElem? (i := 160) (by decide +kernel))) (by rfl)
theorem bg_327 : (.fieldLink RX3 68 "ClassGate$ClassFile" "innerCount" "I" : Cond) ∈ bg := bgf (tb_1 _ (List.mem_of_getElem? (i := 167) (by decide +kernel))) (by rfl)
theorem bg_328 : (.fieldLink RX3 71 "ClassGate$ClassFile" "nestCount" "I" : Cond) ∈ bg := bgf (tb_1 _ (List.mem_of_getElem? (i := 169) (by decide +kernel))) (by rfl)
theorem bg_329 : (.fieldLink RX3 74 "ClassGate$ClassFile" "permittedCount" "I" : Cond) ∈ bg := bgf (tb_1 _ (List.mem_of_getElem? (i := 171) (by decide +kernel))) (by rfl)
theorem bg_330 : (.code yX3_memberAt cX3_memberAt 4 (some (.object "ClassGate$Member")) : Cond) ∈ bg := bgf (tb_5 _ (List.mem_of_getElem? (i := 75) (by rfl))) (by rfl)
theorem bg_331 : (.code yX3_bootstrapPart cX3_bootstrapPart 5 (some .int) : Cond) ∈ bg := bgf (tb_5 _ (List.mem_of_getElem? (i := 63) (by rfl))) (by rfl)
theorem bg_332 : (.fieldLink RX3 77 "ClassGate$ClassFile" "bootstrapsAt" "I" : Cond) ∈ bg := bgf (tb_1 _ (List.mem_of_getElem? (i := 165) (by decide +kernel))) (by rfl)
theorem bg_333 : (.methodLink RX4 3 objectInit : Cond) ∈ bg := bgf (tb_4 _ (List.mem_of_getElem? (i := 112) (by decide +kernel))) (by rfl)
theorem bg_334 : (.fieldLink RX4 9 "ClassGate$ClassFile" "bytes" "LClassGate$Bytes;" : Cond) ∈ bg := bgf (tb_1 _ (List.mem_of_getElem? (i := 121) (by decide +kernel))) (by rfl)
theorem bg_335 : (.methodLink RX4 15 yX1_u2 : Cond) ∈ bg := bgf (tb_4 _ (List.mem_of_getElem? (i := 113) (by decide +kernel))) (by rfl)
theorem bg_336 : (.fieldLink RX4 21 "ClassGate$Code" "maxStack" "I" : Cond) ∈ bg := bgf (tb_4 _ (List.mem_of_getElem? (i := 164) (by decide +kernel))) (by rfl)
theorem bg_337 : (.fieldLink RX4 27 "ClassGate$Code" "maxLocals" "I" : Cond) ∈ bg := bgf (tb_4 _ (List.mem_of_getElem? (i := 166) (by decide +kernel))) (by rfl)
theorem bg_338 : (.methodLink RX4 30 yX1_u4 : Cond) ∈ bg := bgf (tb_4 _ (List.mem_of_getElem? (i := 114) (by decide +kernel))) (by rfl)
theorem bg_339 : (.fieldLink RX4 33 "ClassGate$Code" "length" "I" : Cond) ∈ bg := bgf (tb_4 _ (List.mem_of_getElem? (i := 169) (by decide +kernel))) (by rfl)
theorem bg_340 : (.fieldLink RX4 36 "ClassGate$Code" "rowsAt" "I" : Cond) ∈ bg := bgf (tb_4 _ (List.mem_of_getElem? (i := 172) (by decide +kernel))) (by rfl)
theorem bg_341 : (.fieldLink RX4 39 "ClassGate$Code" "rowCount" "I" : Cond) ∈ bg := bgf (tb_4 _ (List.mem_of_getElem? (i := 175) (by decide +kernel))) (by rfl)
theorem bg_342 : (.fieldLink RX4 42 "ClassGate$ClassFile" "pool" "LClassGate$Pool;" : Cond) ∈ bg := bgf (tb_1 _ (List.mem_of_getElem? (i := 131) (by decide +kernel))) (by rfl)
theorem bg_343 : (.fieldLink RX4 46 "ClassGate$Code" "pool" "LClassGate$Pool;" : Cond) ∈ bg := bgf (tb_4 _ (List.mem_of_getElem? (i := 179) (by decide +kernel))) (by rfl)
theorem bg_344 : (.fieldLink RX4 47 "ClassGate$ClassFile" "major" "I" : Cond) ∈ bg := bgf (tb_1 _ (List.mem_of_getElem? (i := 137) (by decide +kernel))) (by rfl)
theorem bg_345 : (.fieldLink RX4 50 "ClassGate$Code" "major" "I" : Cond) ∈ bg := bgf (tb_4 _ (List.mem_of_getElem? (i := 180) (by decide +kernel))) (by rfl)
theorem bg_346 : (.classLink RX4 51 RX5 : Cond) ∈ bg := bgf (tb_4 _ (List.mem_of_getElem? (i := 115) (by decide +kernel))) (by rfl)
theorem bg_347 : (.initialized RX5 : Cond) ∈ bg := bgf (tb_1 _ (List.mem_of_getElem? (i := 26) (by decide +kernel))) (by rfl)
theorem bg_348 : (.instantiable RX5 12 : Cond) ∈ bg := bgf (tb_4 _ (List.mem_of_getElem? (i := 116) (by decide +kernel))) (by rfl)
theorem bg_349 : (.methodLink RX4 53 yX5_init : Cond) ∈ bg := bgf (tb_4 _ (List.mem_of_getElem? (i := 117) (by decide +kernel))) (by rfl)
theorem bg_350 : (.code yX5_init cX5_init 4 none : Cond) ∈ bg := bgf (tb_4 _ (List.mem_of_getElem? (i := 119) (by rfl))) (by rfl)
theorem bg_351 : (.instanceMethod yX5_init : Cond) ∈ bg := bgf (tb_4 _ (List.mem_of_getElem? (i := 118) (by decide +kernel))) (by rfl)
theorem bg_352 : (.fieldLink RX4 56 "ClassGate$Code" "one" "LClassGate$Instruction;" : Cond) ∈ bg := bgf (tb_4 _ (List.mem_of_getElem? (i := 181) (by decide +kernel))) (by rfl)
theorem bg_353 : (.fieldLink RX4 60 "ClassGate$Code" "cutResult" "I" : Cond) ∈ bg := bgf (tb_4 _ (List.mem_of_getElem? (i := 182) (by decide +kernel))) (by rfl)
theorem bg_354 : (.code yX4_cutUp cX4_cutUp 4 (some .int) : Cond) ∈ bg := bgf (tb_5 _ (List.mem_of_getElem? (i := 79) (by rfl))) (by rfl)
theorem bg_355 : (.arrayClass .int : Cond) ∈ bg := bgf (tb_1 _ (List.mem_of_getElem? (i := 117) (by decide +kernel))) (by rfl)
theorem bg_356 : (.fieldLink RX4 69 "ClassGate$Code" "starts" "[I" : Cond) ∈ bg := bgf (tb_4 _ (List.mem_of_getElem? (i := 183) (by decide +kernel))) (by rfl)
theorem bg_357 : (.fieldLink RX4 73 "ClassGate$Code" "numbers" "[I" : Cond) ∈ bg := bgf (tb_4 _ (List.mem_of_getElem? (i := 184) (by decide +kernel))) (by rfl)
theorem bg_358 : (.methodLink RX4 76 yX5_isTakenApart : Cond) ∈ bg := bgf (tb_5 _ (List.mem_of_getElem? (i := 81) (by decide +kernel))) (by rfl)
theorem bg_359 : (.code yX5_isTakenApart cX5_isTakenApart 2 (some .boolean) : Cond) ∈ bg := bgf (tb_5 _ (List.mem_of_getElem? (i := 84) (by rfl))) (by rfl)
theorem bg_360 : (.instanceMethod yX5_isTakenApart : Cond) ∈ bg := bgf (tb_5 _ (List.mem_of_getElem? (i := 82) (by decide +kernel))) (by rfl)
theorem bg_361 : (.selects RX5 yX5_isTakenApart yX5_isTakenApart : Cond) ∈ bg := bgf (tb_5 _ (List.mem_of_getElem? (i := 83) (by decide +kernel))) (by rfl)
theorem bg_362 : (.methodLink RX4 80 yX4_operandsHold : Cond) ∈ bg := bgf (tb_5 _ (List.mem_of_getElem? (i := 151) (by decide +kernel))) (by rfl)
theorem bg_363 : (.code yX4_operandsHold cX4_operandsHold 2 (some .boolean) : Cond) ∈ bg := bgf (tb_5 _ (List.mem_of_getElem? (i := 154) (by rfl))) (by rfl)
theorem bg_364 : (.instanceMethod yX4_operandsHold : Cond) ∈ bg := bgf (tb_5 _ (List.mem_of_getElem? (i := 153) (by decide +kernel))) (by rfl)
theorem bg_365 : (.selects RX4 yX4_operandsHold yX4_operandsHold : Cond) ∈ bg := bgf (List.mem_of_getElem? (i := 62) (by decide +kernel)) (by rfl)
theorem bg_366 : (.fieldLink RX4 84 "ClassGate$Instruction" "size" "I" : Cond) ∈ bg := bgf (tb_4 _ (List.mem_of_getElem? (i := 126) (by decide +kernel))) (by rfl)
theorem bg_367 : (.methodLink RX4 87 yX4_targetsHold : Cond) ∈ bg := bgf (tb_5 _ (List.mem_of_getElem? (i := 181) (by decide +kernel))) (by rfl)
theorem bg_368 : (.code yX4_targetsHold cX4_targetsHold 2 (some .boolean) : Cond) ∈ bg := bgf (tb_5 _ (List.mem_of_getElem? (i := 184) (by rfl))) (by rfl)
theorem bg_369 : (.instanceMethod yX4_targetsHold : Cond) ∈ bg := bgf (tb_5 _ (List.mem_of_getElem? (i := 183) (by decide +kernel))) (by rfl)
theorem bg_370 : (.selects RX4 yX4_targetsHold yX4_targetsHold : Cond) ∈ bg := bgf (List.mem_of_getElem? (i := 67) (by decide +kernel)) (by rfl)
theorem bg_371 : (.code yX4_startOf cX4_startOf 2 (some .int) : Cond) ∈ bg := bgf (tb_5 _ (List.mem_of_getElem? (i := 204) (by rfl))) (by rfl)
theorem bg_372 : (.code yX4_numberAt cX4_numberAt 3 (some .int) : Cond) ∈ bg := bgf (tb_5 _ (List.mem_of_getElem? (i := 192) (by rfl))) (by rfl)
theorem bg_373 : (.code yX4_number cX4_number 4 (some .int) : Cond) ∈ bg := bgf (tb_6 _ (List.mem_of_getElem? (i := 146) (by rfl))) (by rfl)
theorem bg_374 : (.methodLink RX4 90 yX4_startOf : Cond) ∈ bg := bgf (tb_5 _ (List.mem_of_getElem? (i := 201) (by decide +kernel))) (by rfl)
theorem bg_375 : (.instanceMethod yX4_startOf : Cond) ∈ bg := bgf (tb_5 _ (List.mem_of_getElem? (i := 203) (by decide +kernel))) (by rfl)
theorem bg_376 : (.selects RX4 yX4_startOf yX4_startOf : Cond) ∈ bg := bgf (List.mem_of_getElem? (i := 69) (by decide +kernel)) (by rfl)
theorem bg_377 : (.fieldLink RX4 93 "ClassGate$Instruction" "opcode" "I" : Cond) ∈ bg := bgf (tb_4 _ (List.mem_of_getElem? (i := 125) (by decide +kernel))) (by rfl)
theorem bg_378 : (.methodLink RX4 96 yX5_isJump : Cond) ∈ bg := bgf (tb_6 _ (List.mem_of_getElem? (i := 147) (by decide +kernel))) (by rfl)
theorem bg_379 : (.code yX5_isJump cX5_isJump 1 (some .boolean) : Cond) ∈ bg := bgf (tb_6 _ (List.mem_of_getElem? (i := 150) (by rfl))) (by rfl)
theorem bg_380 : (.instanceMethod yX5_isJump : Cond) ∈ bg := bgf (tb_6 _ (List.mem_of_getElem? (i := 148) (by decide +kernel))) (by rfl)
theorem bg_381 : (.selects RX5 yX5_isJump yX5_isJump : Cond) ∈ bg := bgf (tb_6 _ (List.mem_of_getElem? (i := 149) (by decide +kernel))) (by rfl)
theorem bg_382 : (.methodLink RX4 99 yX5_target : Cond) ∈ bg := bgf (tb_5 _ (List.mem_of_getElem? (i := 185) (by decide +kernel))) (by rfl)
theorem bg_383 : (.code yX5_target cX5_target 2 (some .long) : Cond) ∈ bg := bgf (tb_5 _ (List.mem_of_getElem? (i := 188) (by rfl))) (by rfl)
theorem bg_384 : (.instanceMethod yX5_target : Cond) ∈ bg := bgf (tb_5 _ (List.mem_of_getElem? (i := 186) (by decide +kernel))) (by rfl)
theorem bg_385 : (.selects RX5 yX5_target yX5_target : Cond) ∈ bg := bgf (tb_5 _ (List.mem_of_getElem? (i := 187) (by decide +kernel))) (by rfl)
theorem bg_386 : (.methodLink RX4 103 yX4_numberAt : Cond) ∈ bg := bgf (tb_5 _ (List.mem_of_getElem? (i := 189) (by decide +kernel))) (by rfl)
theorem bg_387 : (.instanceMethod yX4_numberAt : Cond) ∈ bg := bgf (tb_5 _ (List.mem_of_getElem? (i := 191) (by decide +kernel))) (by rfl)
theorem bg_388 : (.selects RX4 yX4_numberAt yX4_numberAt : Cond) ∈ bg := bgf (List.mem_of_getElem? (i := 68) (by decide +kernel)) (by rfl)
theorem bg_389 : (.fieldLink RX4 107 "ClassGate$Instruction" "first" "I" : Cond) ∈ bg := bgf (tb_4 _ (List.mem_of_getElem? (i := 128) (by decide +kernel))) (by rfl)
theorem bg_390 : (.fieldLink RX4 110 "ClassGate$Instruction" "second" "I" : Cond) ∈ bg := bgf (tb_4 _ (List.mem_of_getElem? (i := 130) (by decide +kernel))) (by rfl)
theorem bg_391 : (.methodLink RX4 113 yX5_isSwitch : Cond) ∈ bg := bgf (tb_5 _ (List.mem_of_getElem? (i := 205) (by decide +kernel))) (by rfl)
theorem bg_392 : (.code yX5_isSwitch cX5_isSwitch 1 (some .boolean) : Cond) ∈ bg := bgf (tb_5 _ (List.mem_of_getElem? (i := 93) (by rfl))) (by rfl)
theorem bg_393 : (.instanceMethod yX5_isSwitch : Cond) ∈ bg := bgf (tb_5 _ (List.mem_of_getElem? (i := 91) (by decide +kernel))) (by rfl)
theorem bg_394 : (.selects RX5 yX5_isSwitch yX5_isSwitch : Cond) ∈ bg := bgf (tb_5 _ (List.mem_of_getElem? (i := 92) (by decide +kernel))) (by rfl)
theorem bg_395 : (.fieldLink RX4 116 "ClassGate$Instruction" "targetCount" "I" : Cond) ∈ bg := bgf (tb_4 _ (List.mem_of_getElem? (i := 135) (by decide +kernel))) (by rfl)
theorem bg_396 : (.code yX4_switchPlace cX4_switchPlace 4 (some .int) : Cond) ∈ bg := bgf (tb_5 _ (List.mem_of_getElem? (i := 200) (by rfl))) (by rfl)
theorem bg_397 : (.methodLink RX4 119 yX5_keyOf : Cond) ∈ bg := bgf (tb_5 _ (List.mem_of_getElem? (i := 206) (by decide +kernel))) (by rfl)
theorem bg_398 : (.code yX5_keyOf cX5_keyOf 2 (some .int) : Cond) ∈ bg := bgf (tb_5 _ (List.mem_of_getElem? (i := 115) (by rfl))) (by rfl)
theorem bg_399 : (.instanceMethod yX5_keyOf : Cond) ∈ bg := bgf (tb_5 _ (List.mem_of_getElem? (i := 113) (by decide +kernel))) (by rfl)
end
section
theorem bg_400 : (.selects RX5 yX5_keyOf yX5_keyOf : Cond) ∈ bg := bgf (tb_5 _ (List.mem_of_getElem? (i := 114) (by decide +kernel))) (by rfl)
theorem bg_401 : (.fieldLink RX4 122 "ClassGate$Instruction" "localPlaces" "I" : Cond) ∈ bg := bgf (tb_4 _ (List.mem_of_getElem? (i := 133) (by decide +kernel))) (by rfl)
theorem bg_402 : (.methodLink RX4 125 yX7_tagOf : Cond) ∈ bg := bgf (tb_5 _ (List.mem_of_getElem? (i := 155) (by decide +kernel))) (by rfl)
theorem bg_403 : (.methodLink RX4 130 yX4_isLoadedByLdc : Cond) ∈ bg := bgf (tb_5 _ (List.mem_of_getElem? (i := 156) (by decide +kernel))) (by rfl)
theorem bg_404 : (.code yX4_isLoadedByLdc cX4_isLoadedByLdc 2 (some .boolean) : Cond) ∈ bg := bgf (tb_5 _ (List.mem_of_getElem? (i := 159) (by rfl))) (by rfl)
theorem bg_405 : (.instanceMethod yX4_isLoadedByLdc : Cond) ∈ bg := bgf (tb_5 _ (List.mem_of_getElem? (i := 158) (by decide +kernel))) (by rfl)
theorem bg_406 : (.selects RX4 yX4_isLoadedByLdc yX4_isLoadedByLdc : Cond) ∈ bg := bgf (List.mem_of_getElem? (i := 63) (by decide +kernel)) (by rfl)
theorem bg_407 : (.methodLink RX4 133 yX4_isOfTwoPlaces : Cond) ∈ bg := bgf (tb_5 _ (List.mem_of_getElem? (i := 162) (by decide +kernel))) (by rfl)
theorem bg_408 : (.code yX4_isOfTwoPlaces cX4_isOfTwoPlaces 2 (some .boolean) : Cond) ∈ bg := bgf (tb_5 _ (List.mem_of_getElem? (i := 165) (by rfl))) (by rfl)
theorem bg_409 : (.instanceMethod yX4_isOfTwoPlaces : Cond) ∈ bg := bgf (tb_5 _ (List.mem_of_getElem? (i := 164) (by decide +kernel))) (by rfl)
theorem bg_410 : (.selects RX4 yX4_isOfTwoPlaces yX4_isOfTwoPlaces : Cond) ∈ bg := bgf (List.mem_of_getElem? (i := 64) (by decide +kernel)) (by rfl)
theorem bg_411 : (.methodLink RX4 136 yX7_isPlainClass : Cond) ∈ bg := bgf (tb_5 _ (List.mem_of_getElem? (i := 166) (by decide +kernel))) (by rfl)
theorem bg_412 : (.methodLink RX4 139 yX7_dimensionsOf : Cond) ∈ bg := bgf (tb_5 _ (List.mem_of_getElem? (i := 167) (by decide +kernel))) (by rfl)
theorem bg_413 : (.code yX7_dimensionsOf cX7_dimensionsOf 4 (some .int) : Cond) ∈ bg := bgf (tb_5 _ (List.mem_of_getElem? (i := 170) (by rfl))) (by rfl)
theorem bg_414 : (.instanceMethod yX7_dimensionsOf : Cond) ∈ bg := bgf (tb_5 _ (List.mem_of_getElem? (i := 168) (by decide +kernel))) (by rfl)
theorem bg_415 : (.selects RX7 yX7_dimensionsOf yX7_dimensionsOf : Cond) ∈ bg := bgf (tb_5 _ (List.mem_of_getElem? (i := 169) (by decide +kernel))) (by rfl)
theorem bg_416 : (.methodLink RX4 142 yX4_callHolds : Cond) ∈ bg := bgf (tb_5 _ (List.mem_of_getElem? (i := 171) (by decide +kernel))) (by rfl)
theorem bg_417 : (.code yX4_callHolds cX4_callHolds 2 (some .boolean) : Cond) ∈ bg := bgf (tb_5 _ (List.mem_of_getElem? (i := 174) (by rfl))) (by rfl)
theorem bg_418 : (.instanceMethod yX4_callHolds : Cond) ∈ bg := bgf (tb_5 _ (List.mem_of_getElem? (i := 173) (by decide +kernel))) (by rfl)
theorem bg_419 : (.selects RX4 yX4_callHolds yX4_callHolds : Cond) ∈ bg := bgf (List.mem_of_getElem? (i := 65) (by decide +kernel)) (by rfl)
theorem bg_420 : (.methodLink RX4 145 yX7_namesInit : Cond) ∈ bg := bgf (tb_5 _ (List.mem_of_getElem? (i := 175) (by decide +kernel))) (by rfl)
theorem bg_421 : (.code yX7_namesInit cX7_namesInit 2 (some .boolean) : Cond) ∈ bg := bgf (tb_3 _ (List.mem_of_getElem? (i := 110) (by rfl))) (by rfl)
theorem bg_422 : (.instanceMethod yX7_namesInit : Cond) ∈ bg := bgf (tb_3 _ (List.mem_of_getElem? (i := 108) (by decide +kernel))) (by rfl)
theorem bg_423 : (.selects RX7 yX7_namesInit yX7_namesInit : Cond) ∈ bg := bgf (tb_3 _ (List.mem_of_getElem? (i := 109) (by decide +kernel))) (by rfl)
theorem bg_424 : (.methodLink RX4 148 yX4_isMethodOfEither : Cond) ∈ bg := bgf (tb_5 _ (List.mem_of_getElem? (i := 176) (by decide +kernel))) (by rfl)
theorem bg_425 : (.code yX4_isMethodOfEither cX4_isMethodOfEither 2 (some .boolean) : Cond) ∈ bg := bgf (tb_5 _ (List.mem_of_getElem? (i := 179) (by rfl))) (by rfl)
theorem bg_426 : (.instanceMethod yX4_isMethodOfEither : Cond) ∈ bg := bgf (tb_5 _ (List.mem_of_getElem? (i := 178) (by decide +kernel))) (by rfl)
theorem bg_427 : (.selects RX4 yX4_isMethodOfEither yX4_isMethodOfEither : Cond) ∈ bg := bgf (List.mem_of_getElem? (i := 66) (by decide +kernel)) (by rfl)
theorem bg_428 : (.methodLink RX4 151 yX7_descriptorOf : Cond) ∈ bg := bgf (tb_5 _ (List.mem_of_getElem? (i := 160) (by decide +kernel))) (by rfl)
theorem bg_429 : (.code yX7_descriptorOf cX7_descriptorOf 2 (some .int) : Cond) ∈ bg := bgf (tb_3 _ (List.mem_of_getElem? (i := 92) (by rfl))) (by rfl)
theorem bg_430 : (.instanceMethod yX7_descriptorOf : Cond) ∈ bg := bgf (tb_3 _ (List.mem_of_getElem? (i := 90) (by decide +kernel))) (by rfl)
theorem bg_431 : (.selects RX7 yX7_descriptorOf yX7_descriptorOf : Cond) ∈ bg := bgf (tb_3 _ (List.mem_of_getElem? (i := 91) (by decide +kernel))) (by rfl)
theorem bg_432 : (.methodLink RX4 154 yX7_argumentPlaces : Cond) ∈ bg := bgf (tb_5 _ (List.mem_of_getElem? (i := 180) (by decide +kernel))) (by rfl)
theorem bg_433 : (.methodLink RX4 157 yX7_placesTold : Cond) ∈ bg := bgf (tb_5 _ (List.mem_of_getElem? (i := 161) (by decide +kernel))) (by rfl)
theorem bg_434 : (.code yX7_placesTold cX7_placesTold 2 (some .int) : Cond) ∈ bg := bgf (tb_5 _ (List.mem_of_getElem? (i := 50) (by rfl))) (by rfl)
theorem bg_435 : (.instanceMethod yX7_placesTold : Cond) ∈ bg := bgf (tb_5 _ (List.mem_of_getElem? (i := 48) (by decide +kernel))) (by rfl)
theorem bg_436 : (.selects RX7 yX7_placesTold yX7_placesTold : Cond) ∈ bg := bgf (tb_5 _ (List.mem_of_getElem? (i := 49) (by decide +kernel))) (by rfl)
theorem bg_437 : (.methodLink RX5 1 objectInit : Cond) ∈ bg := bgf (tb_4 _ (List.mem_of_getElem? (i := 120) (by decide +kernel))) (by rfl)
theorem bg_438 : (.fieldLink RX5 7 "ClassGate$Instruction" "bytes" "LClassGate$Bytes;" : Cond) ∈ bg := bgf (tb_4 _ (List.mem_of_getElem? (i := 121) (by decide +kernel))) (by rfl)
theorem bg_439 : (.fieldLink RX5 13 "ClassGate$Instruction" "codeAt" "I" : Cond) ∈ bg := bgf (tb_4 _ (List.mem_of_getElem? (i := 122) (by decide +kernel))) (by rfl)
theorem bg_440 : (.fieldLink RX5 17 "ClassGate$Instruction" "codeLength" "I" : Cond) ∈ bg := bgf (tb_4 _ (List.mem_of_getElem? (i := 123) (by decide +kernel))) (by rfl)
theorem bg_441 : (.fieldLink RX5 20 "ClassGate$Instruction" "opcode" "I" : Cond) ∈ bg := bgf (tb_4 _ (List.mem_of_getElem? (i := 124) (by decide +kernel))) (by rfl)
theorem bg_442 : (.fieldLink RX5 23 "ClassGate$Instruction" "targetCount" "I" : Cond) ∈ bg := bgf (tb_4 _ (List.mem_of_getElem? (i := 134) (by decide +kernel))) (by rfl)
theorem bg_443 : (.methodLink RX5 26 yX5_isSwitch : Cond) ∈ bg := bgf (tb_5 _ (List.mem_of_getElem? (i := 90) (by decide +kernel))) (by rfl)
theorem bg_444 : (.code yX5_u1 cX5_u1 2 (some .int) : Cond) ∈ bg := bgf (tb_5 _ (List.mem_of_getElem? (i := 88) (by rfl))) (by rfl)
theorem bg_445 : (.methodLink RX5 30 yX1_u1 : Cond) ∈ bg := bgf (tb_5 _ (List.mem_of_getElem? (i := 89) (by decide +kernel))) (by rfl)
theorem bg_446 : (.instanceMethod yX1_u1 : Cond) ∈ bg := bgf (tb_2 _ (List.mem_of_getElem? (i := 27) (by decide +kernel))) (by rfl)
theorem bg_447 : (.selects RX1 yX1_u1 yX1_u1 : Cond) ∈ bg := bgf (tb_2 _ (List.mem_of_getElem? (i := 28) (by decide +kernel))) (by rfl)
theorem bg_448 : (.code yX5_u2 cX5_u2 2 (some .int) : Cond) ∈ bg := bgf (tb_5 _ (List.mem_of_getElem? (i := 123) (by rfl))) (by rfl)
theorem bg_449 : (.methodLink RX5 36 yX1_u2 : Cond) ∈ bg := bgf (tb_5 _ (List.mem_of_getElem? (i := 124) (by decide +kernel))) (by rfl)
theorem bg_450 : (.code yX5_s4 cX5_s4 2 (some .int) : Cond) ∈ bg := bgf (tb_5 _ (List.mem_of_getElem? (i := 105) (by rfl))) (by rfl)
theorem bg_451 : (.methodLink RX5 39 yX1_u4 : Cond) ∈ bg := bgf (tb_5 _ (List.mem_of_getElem? (i := 106) (by decide +kernel))) (by rfl)
theorem bg_452 : (.fieldLink RX5 42 "ClassGate$Instruction" "pc" "I" : Cond) ∈ bg := bgf (tb_4 _ (List.mem_of_getElem? (i := 136) (by decide +kernel))) (by rfl)
theorem bg_453 : (.methodLink RX5 45 yX5_u1 : Cond) ∈ bg := bgf (tb_5 _ (List.mem_of_getElem? (i := 85) (by decide +kernel))) (by rfl)
theorem bg_454 : (.instanceMethod yX5_u1 : Cond) ∈ bg := bgf (tb_5 _ (List.mem_of_getElem? (i := 87) (by decide +kernel))) (by rfl)
theorem bg_455 : (.selects RX5 yX5_u1 yX5_u1 : Cond) ∈ bg := bgf (List.mem_of_getElem? (i := 50) (by decide +kernel)) (by rfl)
theorem bg_456 : (.fieldLink RX5 46 "ClassGate$Instruction" "size" "I" : Cond) ∈ bg := bgf (tb_4 _ (List.mem_of_getElem? (i := 127) (by decide +kernel))) (by rfl)
theorem bg_457 : (.fieldLink RX5 49 "ClassGate$Instruction" "first" "I" : Cond) ∈ bg := bgf (tb_4 _ (List.mem_of_getElem? (i := 129) (by decide +kernel))) (by rfl)
theorem bg_458 : (.fieldLink RX5 52 "ClassGate$Instruction" "second" "I" : Cond) ∈ bg := bgf (tb_4 _ (List.mem_of_getElem? (i := 131) (by decide +kernel))) (by rfl)
theorem bg_459 : (.fieldLink RX5 55 "ClassGate$Instruction" "localPlaces" "I" : Cond) ∈ bg := bgf (tb_4 _ (List.mem_of_getElem? (i := 132) (by decide +kernel))) (by rfl)
theorem bg_460 : (.methodLink RX5 58 yX5_isSwitchTaken : Cond) ∈ bg := bgf (tb_5 _ (List.mem_of_getElem? (i := 94) (by decide +kernel))) (by rfl)
theorem bg_461 : (.code yX5_isSwitchTaken cX5_isSwitchTaken 2 (some .boolean) : Cond) ∈ bg := bgf (tb_5 _ (List.mem_of_getElem? (i := 97) (by rfl))) (by rfl)
theorem bg_462 : (.instanceMethod yX5_isSwitchTaken : Cond) ∈ bg := bgf (tb_5 _ (List.mem_of_getElem? (i := 96) (by decide +kernel))) (by rfl)
theorem bg_463 : (.selects RX5 yX5_isSwitchTaken yX5_isSwitchTaken : Cond) ∈ bg := bgf (List.mem_of_getElem? (i := 51) (by decide +kernel)) (by rfl)
theorem bg_464 : (.methodLink RX5 61 yX5_isWideTaken : Cond) ∈ bg := bgf (tb_5 _ (List.mem_of_getElem? (i := 116) (by decide +kernel))) (by rfl)
theorem bg_465 : (.code yX5_isWideTaken cX5_isWideTaken 1 (some .boolean) : Cond) ∈ bg := bgf (tb_5 _ (List.mem_of_getElem? (i := 119) (by rfl))) (by rfl)
theorem bg_466 : (.instanceMethod yX5_isWideTaken : Cond) ∈ bg := bgf (tb_5 _ (List.mem_of_getElem? (i := 118) (by decide +kernel))) (by rfl)
theorem bg_467 : (.selects RX5 yX5_isWideTaken yX5_isWideTaken : Cond) ∈ bg := bgf (List.mem_of_getElem? (i := 55) (by decide +kernel)) (by rfl)
theorem bg_468 : (.methodLink RX5 64 yX5_sizeOf : Cond) ∈ bg := bgf (tb_5 _ (List.mem_of_getElem? (i := 132) (by decide +kernel))) (by rfl)
theorem bg_469 : (.code yX5_sizeOf cX5_sizeOf 1 (some .int) : Cond) ∈ bg := bgf (tb_5 _ (List.mem_of_getElem? (i := 134) (by rfl))) (by rfl)
theorem bg_470 : (.static yX5_sizeOf : Cond) ∈ bg := bgf (tb_5 _ (List.mem_of_getElem? (i := 133) (by decide +kernel))) (by rfl)
theorem bg_471 : (.methodLink RX5 67 yX5_areOperandsTaken : Cond) ∈ bg := bgf (tb_5 _ (List.mem_of_getElem? (i := 135) (by decide +kernel))) (by rfl)
theorem bg_472 : (.code yX5_areOperandsTaken cX5_areOperandsTaken 1 (some .boolean) : Cond) ∈ bg := bgf (tb_5 _ (List.mem_of_getElem? (i := 138) (by rfl))) (by rfl)
theorem bg_473 : (.instanceMethod yX5_areOperandsTaken : Cond) ∈ bg := bgf (tb_5 _ (List.mem_of_getElem? (i := 137) (by decide +kernel))) (by rfl)
theorem bg_474 : (.selects RX5 yX5_areOperandsTaken yX5_areOperandsTaken : Cond) ∈ bg := bgf (List.mem_of_getElem? (i := 58) (by decide +kernel)) (by rfl)
theorem bg_475 : (.methodLink RX5 70 yX5_isLocalOpcode : Cond) ∈ bg := bgf (tb_5 _ (List.mem_of_getElem? (i := 125) (by decide +kernel))) (by rfl)
theorem bg_476 : (.code yX5_isLocalOpcode cX5_isLocalOpcode 1 (some .boolean) : Cond) ∈ bg := bgf (tb_5 _ (List.mem_of_getElem? (i := 127) (by rfl))) (by rfl)
theorem bg_477 : (.static yX5_isLocalOpcode : Cond) ∈ bg := bgf (tb_5 _ (List.mem_of_getElem? (i := 126) (by decide +kernel))) (by rfl)
theorem bg_478 : (.methodLink RX5 74 yX5_isShortLocalTaken : Cond) ∈ bg := bgf (tb_5 _ (List.mem_of_getElem? (i := 139) (by decide +kernel))) (by rfl)
theorem bg_479 : (.code yX5_isShortLocalTaken cX5_isShortLocalTaken 3 (some .boolean) : Cond) ∈ bg := bgf (tb_5 _ (List.mem_of_getElem? (i := 142) (by rfl))) (by rfl)
theorem bg_480 : (.instanceMethod yX5_isShortLocalTaken : Cond) ∈ bg := bgf (tb_5 _ (List.mem_of_getElem? (i := 141) (by decide +kernel))) (by rfl)
theorem bg_481 : (.selects RX5 yX5_isShortLocalTaken yX5_isShortLocalTaken : Cond) ∈ bg := bgf (List.mem_of_getElem? (i := 59) (by decide +kernel)) (by rfl)
theorem bg_482 : (.methodLink RX5 78 yX5_isLocalTaken : Cond) ∈ bg := bgf (tb_5 _ (List.mem_of_getElem? (i := 128) (by decide +kernel))) (by rfl)
theorem bg_483 : (.code yX5_isLocalTaken cX5_isLocalTaken 3 (some .boolean) : Cond) ∈ bg := bgf (tb_5 _ (List.mem_of_getElem? (i := 131) (by rfl))) (by rfl)
theorem bg_484 : (.instanceMethod yX5_isLocalTaken : Cond) ∈ bg := bgf (tb_5 _ (List.mem_of_getElem? (i := 130) (by decide +kernel))) (by rfl)
theorem bg_485 : (.selects RX5 yX5_isLocalTaken yX5_isLocalTaken : Cond) ∈ bg := bgf (List.mem_of_getElem? (i := 57) (by decide +kernel)) (by rfl)
theorem bg_486 : (.methodLink RX5 81 yX5_u2 : Cond) ∈ bg := bgf (tb_5 _ (List.mem_of_getElem? (i := 120) (by decide +kernel))) (by rfl)
theorem bg_487 : (.instanceMethod yX5_u2 : Cond) ∈ bg := bgf (tb_5 _ (List.mem_of_getElem? (i := 122) (by decide +kernel))) (by rfl)
theorem bg_488 : (.selects RX5 yX5_u2 yX5_u2 : Cond) ∈ bg := bgf (List.mem_of_getElem? (i := 56) (by decide +kernel)) (by rfl)
theorem bg_489 : (.methodLink RX5 82 yX5_isJumpTaken : Cond) ∈ bg := bgf (tb_5 _ (List.mem_of_getElem? (i := 143) (by decide +kernel))) (by rfl)
theorem bg_490 : (.code yX5_isJumpTaken cX5_isJumpTaken 3 (some .boolean) : Cond) ∈ bg := bgf (tb_5 _ (List.mem_of_getElem? (i := 146) (by rfl))) (by rfl)
theorem bg_491 : (.instanceMethod yX5_isJumpTaken : Cond) ∈ bg := bgf (tb_5 _ (List.mem_of_getElem? (i := 145) (by decide +kernel))) (by rfl)
theorem bg_492 : (.selects RX5 yX5_isJumpTaken yX5_isJumpTaken : Cond) ∈ bg := bgf (List.mem_of_getElem? (i := 60) (by decide +kernel)) (by rfl)
theorem bg_493 : (.methodLink RX5 85 yX5_s4 : Cond) ∈ bg := bgf (tb_5 _ (List.mem_of_getElem? (i := 102) (by decide +kernel))) (by rfl)
theorem bg_494 : (.instanceMethod yX5_s4 : Cond) ∈ bg := bgf (tb_5 _ (List.mem_of_getElem? (i := 104) (by decide +kernel))) (by rfl)
theorem bg_495 : (.selects RX5 yX5_s4 yX5_s4 : Cond) ∈ bg := bgf (List.mem_of_getElem? (i := 53) (by decide +kernel)) (by rfl)
theorem bg_496 : (.methodLink RX5 88 yX5_isIndexTaken : Cond) ∈ bg := bgf (tb_5 _ (List.mem_of_getElem? (i := 147) (by decide +kernel))) (by rfl)
theorem bg_497 : (.code yX5_isIndexTaken cX5_isIndexTaken 1 (some .boolean) : Cond) ∈ bg := bgf (tb_5 _ (List.mem_of_getElem? (i := 150) (by rfl))) (by rfl)
theorem bg_498 : (.instanceMethod yX5_isIndexTaken : Cond) ∈ bg := bgf (tb_5 _ (List.mem_of_getElem? (i := 149) (by decide +kernel))) (by rfl)
theorem bg_499 : (.selects RX5 yX5_isIndexTaken yX5_isIndexTaken : Cond) ∈ bg := bgf (List.mem_of_getElem? (i := 61) (by decide +kernel)) (by rfl)
theorem bg_500 : (.fieldLink RX5 91 "ClassGate$Instruction" "offset" "I" : Cond) ∈ bg := bgf (tb_4 _ (List.mem_of_getElem? (i := 137) (by decide +kernel))) (by rfl)
theorem bg_501 : (.fieldLink RX5 94 "ClassGate$Instruction" "switchAt" "I" : Cond) ∈ bg := bgf (tb_4 _ (List.mem_of_getElem? (i := 138) (by decide +kernel))) (by rfl)
theorem bg_502 : (.methodLink RX5 97 yX5_isTableTaken : Cond) ∈ bg := bgf (tb_5 _ (List.mem_of_getElem? (i := 98) (by decide +kernel))) (by rfl)
theorem bg_503 : (.code yX5_isTableTaken cX5_isTableTaken 3 (some .boolean) : Cond) ∈ bg := bgf (tb_5 _ (List.mem_of_getElem? (i := 101) (by rfl))) (by rfl)
theorem bg_504 : (.instanceMethod yX5_isTableTaken : Cond) ∈ bg := bgf (tb_5 _ (List.mem_of_getElem? (i := 100) (by decide +kernel))) (by rfl)
theorem bg_505 : (.selects RX5 yX5_isTableTaken yX5_isTableTaken : Cond) ∈ bg := bgf (List.mem_of_getElem? (i := 52) (by decide +kernel)) (by rfl)
theorem bg_506 : (.methodLink RX5 100 yX5_isLookupTaken : Cond) ∈ bg := bgf (tb_5 _ (List.mem_of_getElem? (i := 108) (by decide +kernel))) (by rfl)
theorem bg_507 : (.code yX5_isLookupTaken cX5_isLookupTaken 2 (some .boolean) : Cond) ∈ bg := bgf (tb_5 _ (List.mem_of_getElem? (i := 111) (by rfl))) (by rfl)
theorem bg_508 : (.instanceMethod yX5_isLookupTaken : Cond) ∈ bg := bgf (tb_5 _ (List.mem_of_getElem? (i := 110) (by decide +kernel))) (by rfl)
theorem bg_509 : (.selects RX5 yX5_isLookupTaken yX5_isLookupTaken : Cond) ∈ bg := bgf (List.mem_of_getElem? (i := 54) (by decide +kernel)) (by rfl)
theorem bg_510 : (.constantLong RX5 103 4 : Cond) ∈ bg := bgf (tb_5 _ (List.mem_of_getElem? (i := 107) (by decide +kernel))) (by rfl)
theorem bg_511 : (.methodLink RX5 105 yX5_keyOf : Cond) ∈ bg := bgf (tb_5 _ (List.mem_of_getElem? (i := 112) (by decide +kernel))) (by rfl)
theorem bg_512 : (.code yX6_init cX6_init 3 none : Cond) ∈ bg := bgf (tb_2 _ (List.mem_of_getElem? (i := 119) (by rfl))) (by rfl)
theorem bg_513 : (.methodLink RX6 1 objectInit : Cond) ∈ bg := bgf (tb_2 _ (List.mem_of_getElem? (i := 120) (by decide +kernel))) (by rfl)
theorem bg_514 : (.fieldLink RX6 7 "ClassGate$Member" "begin" "I" : Cond) ∈ bg := bgf (tb_2 _ (List.mem_of_getElem? (i := 122) (by decide +kernel))) (by rfl)
theorem bg_515 : (.methodLink RX6 13 yX1_u2 : Cond) ∈ bg := bgf (tb_2 _ (List.mem_of_getElem? (i := 121) (by decide +kernel))) (by rfl)
theorem bg_516 : (.fieldLink RX6 19 "ClassGate$Member" "flags" "I" : Cond) ∈ bg := bgf (tb_2 _ (List.mem_of_getElem? (i := 124) (by decide +kernel))) (by rfl)
theorem bg_517 : (.fieldLink RX6 22 "ClassGate$Member" "name" "I" : Cond) ∈ bg := bgf (tb_2 _ (List.mem_of_getElem? (i := 126) (by decide +kernel))) (by rfl)
theorem bg_518 : (.fieldLink RX6 25 "ClassGate$Member" "descriptor" "I" : Cond) ∈ bg := bgf (tb_2 _ (List.mem_of_getElem? (i := 129) (by decide +kernel))) (by rfl)
theorem bg_519 : (.fieldLink RX6 28 "ClassGate$Member" "attributeCount" "I" : Cond) ∈ bg := bgf (tb_2 _ (List.mem_of_getElem? (i := 133) (by decide +kernel))) (by rfl)
theorem bg_520 : (.fieldLink RX6 31 "ClassGate$Member" "attributesAt" "I" : Cond) ∈ bg := bgf (tb_2 _ (List.mem_of_getElem? (i := 135) (by decide +kernel))) (by rfl)
theorem bg_521 : (.code yX6_number cX6_number 3 (some .int) : Cond) ∈ bg := bgf (tb_6 _ (List.mem_of_getElem? (i := 121) (by rfl))) (by rfl)
theorem bg_522 : (.fieldLink RX6 34 "ClassGate$Member" "known" "I" : Cond) ∈ bg := bgf (tb_2 _ (List.mem_of_getElem? (i := 138) (by decide +kernel))) (by rfl)
theorem bg_523 : (.fieldLink RX6 37 "ClassGate$Member" "argumentPlaces" "I" : Cond) ∈ bg := bgf (tb_2 _ (List.mem_of_getElem? (i := 141) (by decide +kernel))) (by rfl)
theorem bg_524 : (.fieldLink RX6 40 "ClassGate$Member" "exceptionCount" "I" : Cond) ∈ bg := bgf (tb_2 _ (List.mem_of_getElem? (i := 144) (by decide +kernel))) (by rfl)
theorem bg_525 : (.methodLink RX6 43 yX6_codeNumber : Cond) ∈ bg := bgf (tb_6 _ (List.mem_of_getElem? (i := 122) (by decide +kernel))) (by rfl)
theorem bg_526 : (.code yX6_codeNumber cX6_codeNumber 2 (some .int) : Cond) ∈ bg := bgf (tb_6 _ (List.mem_of_getElem? (i := 125) (by rfl))) (by rfl)
theorem bg_527 : (.instanceMethod yX6_codeNumber : Cond) ∈ bg := bgf (tb_6 _ (List.mem_of_getElem? (i := 124) (by decide +kernel))) (by rfl)
theorem bg_528 : (.selects RX6 yX6_codeNumber yX6_codeNumber : Cond) ∈ bg := bgf (List.mem_of_getElem? (i := 73) (by decide +kernel)) (by rfl)
theorem bg_529 : (.fieldLink RX6 46 "ClassGate$Member" "constant" "I" : Cond) ∈ bg := bgf (tb_2 _ (List.mem_of_getElem? (i := 140) (by decide +kernel))) (by rfl)
theorem bg_530 : (.fieldLink RX6 49 "ClassGate$Member" "code" "LClassGate$Code;" : Cond) ∈ bg := bgf (tb_2 _ (List.mem_of_getElem? (i := 146) (by decide +kernel))) (by rfl)
theorem bg_531 : (.fieldLink RX6 53 "ClassGate$Code" "length" "I" : Cond) ∈ bg := bgf (tb_4 _ (List.mem_of_getElem? (i := 170) (by decide +kernel))) (by rfl)
theorem bg_532 : (.fieldLink RX6 58 "ClassGate$Code" "maxStack" "I" : Cond) ∈ bg := bgf (tb_4 _ (List.mem_of_getElem? (i := 165) (by decide +kernel))) (by rfl)
theorem bg_533 : (.fieldLink RX6 61 "ClassGate$Code" "maxLocals" "I" : Cond) ∈ bg := bgf (tb_4 _ (List.mem_of_getElem? (i := 167) (by decide +kernel))) (by rfl)
theorem bg_534 : (.fieldLink RX6 64 "ClassGate$Code" "rowCount" "I" : Cond) ∈ bg := bgf (tb_4 _ (List.mem_of_getElem? (i := 176) (by decide +kernel))) (by rfl)
theorem bg_535 : (.methodLink RX7 3 objectInit : Cond) ∈ bg := bgf (tb_1 _ (List.mem_of_getElem? (i := 79) (by decide +kernel))) (by rfl)
theorem bg_536 : (.fieldLink RX7 9 "ClassGate$Pool" "size" "I" : Cond) ∈ bg := bgf (tb_1 _ (List.mem_of_getElem? (i := 86) (by decide +kernel))) (by rfl)
theorem bg_537 : (.fieldLink RX7 24 "ClassGate$Pool" "tags" "[I" : Cond) ∈ bg := bgf (tb_1 _ (List.mem_of_getElem? (i := 91) (by decide +kernel))) (by rfl)
theorem bg_538 : (.fieldLink RX7 28 "ClassGate$Pool" "tagPlaces" "[I" : Cond) ∈ bg := bgf (tb_1 _ (List.mem_of_getElem? (i := 92) (by decide +kernel))) (by rfl)
theorem bg_539 : (.fieldLink RX7 31 "ClassGate$Pool" "firsts" "[I" : Cond) ∈ bg := bgf (tb_1 _ (List.mem_of_getElem? (i := 93) (by decide +kernel))) (by rfl)
theorem bg_540 : (.fieldLink RX7 34 "ClassGate$Pool" "seconds" "[I" : Cond) ∈ bg := bgf (tb_1 _ (List.mem_of_getElem? (i := 94) (by decide +kernel))) (by rfl)
theorem bg_541 : (.fieldLink RX7 37 "ClassGate$Pool" "shapes" "[I" : Cond) ∈ bg := bgf (tb_1 _ (List.mem_of_getElem? (i := 95) (by decide +kernel))) (by rfl)
theorem bg_542 : (.arrayClass .char : Cond) ∈ bg := bgf (tb_1 _ (List.mem_of_getElem? (i := 118) (by decide +kernel))) (by rfl)
theorem bg_543 : (.fieldLink RX7 40 "ClassGate$Pool" "characters" "[C" : Cond) ∈ bg := bgf (tb_1 _ (List.mem_of_getElem? (i := 96) (by decide +kernel))) (by rfl)
theorem bg_544 : (.code yX7_setTag cX7_setTag 4 none : Cond) ∈ bg := bgf (tb_2 _ (List.mem_of_getElem? (i := 56) (by rfl))) (by rfl)
theorem bg_545 : (.code yX7_setNumbers cX7_setNumbers 4 none : Cond) ∈ bg := bgf (tb_2 _ (List.mem_of_getElem? (i := 80) (by rfl))) (by rfl)
theorem bg_546 : (.code yX7_addCharacter cX7_addCharacter 2 none : Cond) ∈ bg := bgf (tb_2 _ (List.mem_of_getElem? (i := 76) (by rfl))) (by rfl)
theorem bg_547 : (.fieldLink RX7 44 "ClassGate$Pool" "characterCount" "I" : Cond) ∈ bg := bgf (tb_1 _ (List.mem_of_getElem? (i := 98) (by decide +kernel))) (by rfl)
theorem bg_548 : (.code yX7_tagPlace cX7_tagPlace 2 (some .int) : Cond) ∈ bg := bgf (tb_3 _ (List.mem_of_getElem? (i := 177) (by rfl))) (by rfl)
theorem bg_549 : (.code yX7_secondIndex cX7_secondIndex 2 (some .int) : Cond) ∈ bg := bgf (tb_3 _ (List.mem_of_getElem? (i := 47) (by rfl))) (by rfl)
theorem bg_550 : (.code yX7_isWide cX7_isWide 3 (some .boolean) : Cond) ∈ bg := bgf (tb_2 _ (List.mem_of_getElem? (i := 88) (by rfl))) (by rfl)
theorem bg_551 : (.methodLink RX7 47 yX7_tagOf : Cond) ∈ bg := bgf (tb_2 _ (List.mem_of_getElem? (i := 89) (by decide +kernel))) (by rfl)
theorem bg_552 : (.methodLink RX7 51 yJ0_length_8abf5 : Cond) ∈ bg := bgf (tb_3 _ (List.mem_of_getElem? (i := 117) (by decide +kernel))) (by rfl)
theorem bg_553 : (.code yJ0_length_8abf5 cJ0_length_8abf5 1 (some .int) : Cond) ∈ bg := bgf (tb_3 _ (List.mem_of_getElem? (i := 120) (by rfl))) (by rfl)
theorem bg_554 : (.instanceMethod yJ0_length_8abf5 : Cond) ∈ bg := bgf (tb_3 _ (List.mem_of_getElem? (i := 118) (by decide +kernel))) (by rfl)
theorem bg_555 : (.selects RJ0 yJ0_length_8abf5 yJ0_length_8abf5 : Cond) ∈ bg := bgf (tb_3 _ (List.mem_of_getElem? (i := 119) (by decide +kernel))) (by rfl)
theorem bg_556 : (.initialized RJ0 : Cond) ∈ bg := bgf (tb_1 _ (List.mem_of_getElem? (i := 3) (by decide +kernel))) (by rfl)
theorem bg_557 : (.methodLink RX7 57 yJ0_charAt_5068e : Cond) ∈ bg := bgf (tb_3 _ (List.mem_of_getElem? (i := 127) (by decide +kernel))) (by rfl)
theorem bg_558 : (.code yJ0_charAt_5068e cJ0_charAt_5068e 2 (some .char) : Cond) ∈ bg := bgf (tb_3 _ (List.mem_of_getElem? (i := 130) (by rfl))) (by rfl)
theorem bg_559 : (.instanceMethod yJ0_charAt_5068e : Cond) ∈ bg := bgf (tb_3 _ (List.mem_of_getElem? (i := 128) (by decide +kernel))) (by rfl)
theorem bg_560 : (.selects RJ0 yJ0_charAt_5068e yJ0_charAt_5068e : Cond) ∈ bg := bgf (tb_3 _ (List.mem_of_getElem? (i := 129) (by decide +kernel))) (by rfl)
theorem bg_561 : (.fieldLink RX7 61 "ClassGate$Member" "name" "I" : Cond) ∈ bg := bgf (tb_2 _ (List.mem_of_getElem? (i := 128) (by decide +kernel))) (by rfl)
theorem bg_562 : (.methodLink RX7 66 yX7_sameText : Cond) ∈ bg := bgf (tb_3 _ (List.mem_of_getElem? (i := 239) (by decide +kernel))) (by rfl)
theorem bg_563 : (.fieldLink RX7 70 "ClassGate$Member" "descriptor" "I" : Cond) ∈ bg := bgf (tb_2 _ (List.mem_of_getElem? (i := 132) (by decide +kernel))) (by rfl)
theorem bg_564 : (.methodLink RX7 73 yX7_textLength : Cond) ∈ bg := bgf (tb_3 _ (List.mem_of_getElem? (i := 72) (by decide +kernel))) (by rfl)
theorem bg_565 : (.code yX7_isClassText cX7_isClassText 4 (some .boolean) : Cond) ∈ bg := bgf (tb_3 _ (List.mem_of_getElem? (i := 63) (by rfl))) (by rfl)
theorem bg_566 : (.methodLink RX7 76 yX7_characterAt : Cond) ∈ bg := bgf (tb_3 _ (List.mem_of_getElem? (i := 64) (by decide +kernel))) (by rfl)
theorem bg_567 : (.methodLink RX7 79 yX7_isFieldDescriptor : Cond) ∈ bg := bgf (tb_3 _ (List.mem_of_getElem? (i := 68) (by decide +kernel))) (by rfl)
theorem bg_568 : (.methodLink RX7 83 yX7_nameEnd : Cond) ∈ bg := bgf (tb_2 _ (List.mem_of_getElem? (i := 203) (by decide +kernel))) (by rfl)
theorem bg_569 : (.code yX7_nameEnd cX7_nameEnd 6 (some .int) : Cond) ∈ bg := bgf (tb_2 _ (List.mem_of_getElem? (i := 206) (by rfl))) (by rfl)
theorem bg_570 : (.instanceMethod yX7_nameEnd : Cond) ∈ bg := bgf (tb_2 _ (List.mem_of_getElem? (i := 205) (by decide +kernel))) (by rfl)
theorem bg_571 : (.selects RX7 yX7_nameEnd yX7_nameEnd : Cond) ∈ bg := bgf (List.mem_of_getElem? (i := 13) (by decide +kernel)) (by rfl)
theorem bg_572 : (.methodLink RX7 86 yX7_isMethodDescriptor : Cond) ∈ bg := bgf (tb_3 _ (List.mem_of_getElem? (i := 169) (by decide +kernel))) (by rfl)
theorem bg_573 : (.methodLink RX7 89 yX7_firstIndex : Cond) ∈ bg := bgf (tb_3 _ (List.mem_of_getElem? (i := 102) (by decide +kernel))) (by rfl)
theorem bg_574 : (.code yX7_nameOf cX7_nameOf 2 (some .int) : Cond) ∈ bg := bgf (tb_3 _ (List.mem_of_getElem? (i := 101) (by rfl))) (by rfl)
theorem bg_575 : (.methodLink RX7 92 yX7_secondIndex : Cond) ∈ bg := bgf (tb_3 _ (List.mem_of_getElem? (i := 93) (by decide +kernel))) (by rfl)
theorem bg_576 : (.instanceMethod yX7_secondIndex : Cond) ∈ bg := bgf (tb_3 _ (List.mem_of_getElem? (i := 45) (by decide +kernel))) (by rfl)
theorem bg_577 : (.selects RX7 yX7_secondIndex yX7_secondIndex : Cond) ∈ bg := bgf (tb_3 _ (List.mem_of_getElem? (i := 46) (by decide +kernel))) (by rfl)
theorem bg_578 : (.methodLink RX7 95 yX7_nameOf : Cond) ∈ bg := bgf (tb_3 _ (List.mem_of_getElem? (i := 111) (by decide +kernel))) (by rfl)
theorem bg_579 : (.instanceMethod yX7_nameOf : Cond) ∈ bg := bgf (tb_3 _ (List.mem_of_getElem? (i := 99) (by decide +kernel))) (by rfl)
theorem bg_580 : (.selects RX7 yX7_nameOf yX7_nameOf : Cond) ∈ bg := bgf (tb_3 _ (List.mem_of_getElem? (i := 100) (by decide +kernel))) (by rfl)
theorem bg_581 : (.methodLink RX7 99 yX7_textIs : Cond) ∈ bg := bgf (tb_3 _ (List.mem_of_getElem? (i := 113) (by decide +kernel))) (by rfl)
theorem bg_582 : (.code yX7_describeTexts cX7_describeTexts 2 none : Cond) ∈ bg := bgf (tb_2 _ (List.mem_of_getElem? (i := 187) (by rfl))) (by rfl)
theorem bg_583 : (.methodLink RX7 103 yX7_shapeOf : Cond) ∈ bg := bgf (tb_2 _ (List.mem_of_getElem? (i := 188) (by decide +kernel))) (by rfl)
theorem bg_584 : (.code yX7_shapeOf cX7_shapeOf 3 (some .int) : Cond) ∈ bg := bgf (tb_2 _ (List.mem_of_getElem? (i := 191) (by rfl))) (by rfl)
theorem bg_585 : (.instanceMethod yX7_shapeOf : Cond) ∈ bg := bgf (tb_2 _ (List.mem_of_getElem? (i := 190) (by decide +kernel))) (by rfl)
theorem bg_586 : (.selects RX7 yX7_shapeOf yX7_shapeOf : Cond) ∈ bg := bgf (List.mem_of_getElem? (i := 10) (by decide +kernel)) (by rfl)
theorem bg_587 : (.methodLink RX7 106 yX7_methodShape : Cond) ∈ bg := bgf (tb_2 _ (List.mem_of_getElem? (i := 192) (by decide +kernel))) (by rfl)
theorem bg_588 : (.code yX7_methodShape cX7_methodShape 6 (some .int) : Cond) ∈ bg := bgf (tb_2 _ (List.mem_of_getElem? (i := 195) (by rfl))) (by rfl)
theorem bg_589 : (.instanceMethod yX7_methodShape : Cond) ∈ bg := bgf (tb_2 _ (List.mem_of_getElem? (i := 194) (by decide +kernel))) (by rfl)
theorem bg_590 : (.selects RX7 yX7_methodShape yX7_methodShape : Cond) ∈ bg := bgf (List.mem_of_getElem? (i := 11) (by decide +kernel)) (by rfl)
theorem bg_591 : (.methodLink RX7 109 yX7_typeEnd : Cond) ∈ bg := bgf (tb_2 _ (List.mem_of_getElem? (i := 199) (by decide +kernel))) (by rfl)
theorem bg_592 : (.code yX7_typeEnd cX7_typeEnd 5 (some .int) : Cond) ∈ bg := bgf (tb_2 _ (List.mem_of_getElem? (i := 202) (by rfl))) (by rfl)
theorem bg_593 : (.instanceMethod yX7_typeEnd : Cond) ∈ bg := bgf (tb_2 _ (List.mem_of_getElem? (i := 201) (by decide +kernel))) (by rfl)
theorem bg_594 : (.selects RX7 yX7_typeEnd yX7_typeEnd : Cond) ∈ bg := bgf (List.mem_of_getElem? (i := 12) (by decide +kernel)) (by rfl)
theorem bg_595 : (.methodLink RX7 112 yX7_placesOfType : Cond) ∈ bg := bgf (tb_2 _ (List.mem_of_getElem? (i := 196) (by decide +kernel))) (by rfl)
theorem bg_596 : (.code yX7_placesOfType cX7_placesOfType 1 (some .int) : Cond) ∈ bg := bgf (tb_2 _ (List.mem_of_getElem? (i := 198) (by rfl))) (by rfl)
theorem bg_597 : (.static yX7_placesOfType : Cond) ∈ bg := bgf (tb_2 _ (List.mem_of_getElem? (i := 197) (by decide +kernel))) (by rfl)
theorem bg_598 : (.code yX8_init cX8_init 3 none : Cond) ∈ bg := bgf (tb_2 _ (List.mem_of_getElem? (i := 211) (by rfl))) (by rfl)
theorem bg_599 : (.methodLink RX8 3 objectInit : Cond) ∈ bg := bgf (tb_2 _ (List.mem_of_getElem? (i := 212) (by decide +kernel))) (by rfl)
theorem bg_600 : (.fieldLink RX8 9 "ClassGate$ClassFile" "pool" "LClassGate$Pool;" : Cond) ∈ bg := bgf (tb_1 _ (List.mem_of_getElem? (i := 127) (by decide +kernel))) (by rfl)
theorem bg_601 : (.fieldLink RX8 15 "ClassGate$PoolCheck" "pool" "LClassGate$Pool;" : Cond) ∈ bg := bgf (tb_2 _ (List.mem_of_getElem? (i := 213) (by decide +kernel))) (by rfl)
theorem bg_602 : (.fieldLink RX8 18 "ClassGate$ClassFile" "major" "I" : Cond) ∈ bg := bgf (tb_1 _ (List.mem_of_getElem? (i := 136) (by decide +kernel))) (by rfl)
theorem bg_603 : (.fieldLink RX8 22 "ClassGate$PoolCheck" "major" "I" : Cond) ∈ bg := bgf (tb_2 _ (List.mem_of_getElem? (i := 214) (by decide +kernel))) (by rfl)
theorem bg_604 : (.fieldLink RX8 23 "ClassGate$PoolCheck" "verdict" "LClassGate$Verdict;" : Cond) ∈ bg := bgf (tb_2 _ (List.mem_of_getElem? (i := 215) (by decide +kernel))) (by rfl)
theorem bg_605 : (.code yX8_entriesHold cX8_entriesHold 3 (some .boolean) : Cond) ∈ bg := bgf (tb_3 _ (List.mem_of_getElem? (i := 30) (by rfl))) (by rfl)
theorem bg_606 : (.fieldLink RX8 27 "ClassGate$Pool" "size" "I" : Cond) ∈ bg := bgf (tb_1 _ (List.mem_of_getElem? (i := 87) (by decide +kernel))) (by rfl)
theorem bg_607 : (.methodLink RX8 32 yX8_linksHold : Cond) ∈ bg := bgf (tb_3 _ (List.mem_of_getElem? (i := 31) (by decide +kernel))) (by rfl)
theorem bg_608 : (.code yX8_linksHold cX8_linksHold 3 (some .boolean) : Cond) ∈ bg := bgf (tb_3 _ (List.mem_of_getElem? (i := 34) (by rfl))) (by rfl)
theorem bg_609 : (.instanceMethod yX8_linksHold : Cond) ∈ bg := bgf (tb_3 _ (List.mem_of_getElem? (i := 33) (by decide +kernel))) (by rfl)
theorem bg_610 : (.selects RX8 yX8_linksHold yX8_linksHold : Cond) ∈ bg := bgf (List.mem_of_getElem? (i := 14) (by decide +kernel)) (by rfl)
theorem bg_611 : (.initialized RX8 : Cond) ∈ bg := bgf (tb_1 _ (List.mem_of_getElem? (i := 21) (by decide +kernel))) (by rfl)
theorem bg_612 : (.methodLink RX8 36 yX8_brokenRule : Cond) ∈ bg := bgf (tb_3 _ (List.mem_of_getElem? (i := 56) (by decide +kernel))) (by rfl)
theorem bg_613 : (.code yX8_brokenRule cX8_brokenRule 2 (some .int) : Cond) ∈ bg := bgf (tb_3 _ (List.mem_of_getElem? (i := 59) (by rfl))) (by rfl)
theorem bg_614 : (.instanceMethod yX8_brokenRule : Cond) ∈ bg := bgf (tb_3 _ (List.mem_of_getElem? (i := 58) (by decide +kernel))) (by rfl)
theorem bg_615 : (.selects RX8 yX8_brokenRule yX8_brokenRule : Cond) ∈ bg := bgf (List.mem_of_getElem? (i := 18) (by decide +kernel)) (by rfl)
theorem bg_616 : (.methodLink RX8 40 yX7_tagPlace : Cond) ∈ bg := bgf (tb_3 _ (List.mem_of_getElem? (i := 174) (by decide +kernel))) (by rfl)
theorem bg_617 : (.instanceMethod yX7_tagPlace : Cond) ∈ bg := bgf (tb_3 _ (List.mem_of_getElem? (i := 175) (by decide +kernel))) (by rfl)
theorem bg_618 : (.selects RX7 yX7_tagPlace yX7_tagPlace : Cond) ∈ bg := bgf (tb_3 _ (List.mem_of_getElem? (i := 176) (by decide +kernel))) (by rfl)
theorem bg_619 : (.methodLink RX8 43 yX10_wrong : Cond) ∈ bg := bgf (tb_3 _ (List.mem_of_getElem? (i := 178) (by decide +kernel))) (by rfl)
theorem bg_620 : (.code yX8_bootstrapsHold cX8_bootstrapsHold 4 (some .boolean) : Cond) ∈ bg := bgf (tb_5 _ (List.mem_of_getElem? (i := 25) (by rfl))) (by rfl)
theorem bg_621 : (.methodLink RX8 49 yX7_tagOf : Cond) ∈ bg := bgf (tb_3 _ (List.mem_of_getElem? (i := 35) (by decide +kernel))) (by rfl)
theorem bg_622 : (.methodLink RX8 52 yX7_firstIndex : Cond) ∈ bg := bgf (tb_3 _ (List.mem_of_getElem? (i := 36) (by decide +kernel))) (by rfl)
theorem bg_623 : (.methodLink RX8 55 yX8_pairHolds : Cond) ∈ bg := bgf (tb_3 _ (List.mem_of_getElem? (i := 40) (by decide +kernel))) (by rfl)
theorem bg_624 : (.code yX8_pairHolds cX8_pairHolds 2 (some .boolean) : Cond) ∈ bg := bgf (tb_3 _ (List.mem_of_getElem? (i := 43) (by rfl))) (by rfl)
theorem bg_625 : (.instanceMethod yX8_pairHolds : Cond) ∈ bg := bgf (tb_3 _ (List.mem_of_getElem? (i := 42) (by decide +kernel))) (by rfl)
theorem bg_626 : (.selects RX8 yX8_pairHolds yX8_pairHolds : Cond) ∈ bg := bgf (List.mem_of_getElem? (i := 15) (by decide +kernel)) (by rfl)
theorem bg_627 : (.methodLink RX8 58 yX8_memberHolds : Cond) ∈ bg := bgf (tb_3 _ (List.mem_of_getElem? (i := 48) (by decide +kernel))) (by rfl)
theorem bg_628 : (.code yX8_memberHolds cX8_memberHolds 3 (some .boolean) : Cond) ∈ bg := bgf (tb_3 _ (List.mem_of_getElem? (i := 51) (by rfl))) (by rfl)
theorem bg_629 : (.instanceMethod yX8_memberHolds : Cond) ∈ bg := bgf (tb_3 _ (List.mem_of_getElem? (i := 50) (by decide +kernel))) (by rfl)
theorem bg_630 : (.selects RX8 yX8_memberHolds yX8_memberHolds : Cond) ∈ bg := bgf (List.mem_of_getElem? (i := 16) (by decide +kernel)) (by rfl)
theorem bg_631 : (.methodLink RX8 61 yX7_secondIndex : Cond) ∈ bg := bgf (tb_3 _ (List.mem_of_getElem? (i := 44) (by decide +kernel))) (by rfl)
theorem bg_632 : (.methodLink RX8 64 yX8_isMember : Cond) ∈ bg := bgf (tb_3 _ (List.mem_of_getElem? (i := 52) (by decide +kernel))) (by rfl)
theorem bg_633 : (.code yX8_isMember cX8_isMember 3 (some .boolean) : Cond) ∈ bg := bgf (tb_3 _ (List.mem_of_getElem? (i := 55) (by rfl))) (by rfl)
theorem bg_634 : (.instanceMethod yX8_isMember : Cond) ∈ bg := bgf (tb_3 _ (List.mem_of_getElem? (i := 54) (by decide +kernel))) (by rfl)
theorem bg_635 : (.selects RX8 yX8_isMember yX8_isMember : Cond) ∈ bg := bgf (List.mem_of_getElem? (i := 17) (by decide +kernel)) (by rfl)
theorem bg_636 : (.methodLink RX8 67 yX7_isClassText : Cond) ∈ bg := bgf (tb_3 _ (List.mem_of_getElem? (i := 60) (by decide +kernel))) (by rfl)
theorem bg_637 : (.instanceMethod yX7_isClassText : Cond) ∈ bg := bgf (tb_3 _ (List.mem_of_getElem? (i := 61) (by decide +kernel))) (by rfl)
theorem bg_638 : (.selects RX7 yX7_isClassText yX7_isClassText : Cond) ∈ bg := bgf (tb_3 _ (List.mem_of_getElem? (i := 62) (by decide +kernel))) (by rfl)
theorem bg_639 : (.methodLink RX8 70 yX8_isNameWithType : Cond) ∈ bg := bgf (tb_3 _ (List.mem_of_getElem? (i := 76) (by decide +kernel))) (by rfl)
theorem bg_640 : (.code yX8_isNameWithType cX8_isNameWithType 3 (some .boolean) : Cond) ∈ bg := bgf (tb_3 _ (List.mem_of_getElem? (i := 79) (by rfl))) (by rfl)
theorem bg_641 : (.instanceMethod yX8_isNameWithType : Cond) ∈ bg := bgf (tb_3 _ (List.mem_of_getElem? (i := 78) (by decide +kernel))) (by rfl)
theorem bg_642 : (.selects RX8 yX8_isNameWithType yX8_isNameWithType : Cond) ∈ bg := bgf (List.mem_of_getElem? (i := 19) (by decide +kernel)) (by rfl)
theorem bg_643 : (.methodLink RX8 73 yX7_descriptorOf : Cond) ∈ bg := bgf (tb_3 _ (List.mem_of_getElem? (i := 89) (by decide +kernel))) (by rfl)
theorem bg_644 : (.methodLink RX8 76 yX7_isFieldDescriptor : Cond) ∈ bg := bgf (tb_3 _ (List.mem_of_getElem? (i := 84) (by decide +kernel))) (by rfl)
theorem bg_645 : (.methodLink RX8 79 yX8_isMethodRef : Cond) ∈ bg := bgf (tb_3 _ (List.mem_of_getElem? (i := 94) (by decide +kernel))) (by rfl)
theorem bg_646 : (.code yX8_isMethodRef cX8_isMethodRef 3 (some .boolean) : Cond) ∈ bg := bgf (tb_3 _ (List.mem_of_getElem? (i := 97) (by rfl))) (by rfl)
theorem bg_647 : (.instanceMethod yX8_isMethodRef : Cond) ∈ bg := bgf (tb_3 _ (List.mem_of_getElem? (i := 96) (by decide +kernel))) (by rfl)
theorem bg_648 : (.selects RX8 yX8_isMethodRef yX8_isMethodRef : Cond) ∈ bg := bgf (List.mem_of_getElem? (i := 20) (by decide +kernel)) (by rfl)
theorem bg_649 : (.methodLink RX8 82 yX8_isHandle : Cond) ∈ bg := bgf (tb_3 _ (List.mem_of_getElem? (i := 170) (by decide +kernel))) (by rfl)
theorem bg_650 : (.code yX8_isHandle cX8_isHandle 4 (some .boolean) : Cond) ∈ bg := bgf (tb_3 _ (List.mem_of_getElem? (i := 173) (by rfl))) (by rfl)
theorem bg_651 : (.instanceMethod yX8_isHandle : Cond) ∈ bg := bgf (tb_3 _ (List.mem_of_getElem? (i := 172) (by decide +kernel))) (by rfl)
theorem bg_652 : (.selects RX8 yX8_isHandle yX8_isHandle : Cond) ∈ bg := bgf (List.mem_of_getElem? (i := 21) (by decide +kernel)) (by rfl)
theorem bg_653 : (.methodLink RX8 85 yX7_isMethodDescriptor : Cond) ∈ bg := bgf (tb_3 _ (List.mem_of_getElem? (i := 85) (by decide +kernel))) (by rfl)
theorem bg_654 : (.methodLink RX8 88 yX7_nameOf : Cond) ∈ bg := bgf (tb_3 _ (List.mem_of_getElem? (i := 98) (by decide +kernel))) (by rfl)
theorem bg_655 : (.methodLink RX8 91 yX7_hasAngle : Cond) ∈ bg := bgf (tb_3 _ (List.mem_of_getElem? (i := 103) (by decide +kernel))) (by rfl)
theorem bg_656 : (.methodLink RX8 94 yX7_isUnqualifiedName : Cond) ∈ bg := bgf (tb_3 _ (List.mem_of_getElem? (i := 80) (by decide +kernel))) (by rfl)
theorem bg_657 : (.methodLink RX8 97 yX7_namesInit : Cond) ∈ bg := bgf (tb_3 _ (List.mem_of_getElem? (i := 107) (by decide +kernel))) (by rfl)
theorem bg_658 : (.methodLink RX8 100 yX7_hasNoResult : Cond) ∈ bg := bgf (tb_3 _ (List.mem_of_getElem? (i := 165) (by decide +kernel))) (by rfl)
theorem bg_659 : (.code yX9_init cX9_init 3 none : Cond) ∈ bg := bgf (tb_1 _ (List.mem_of_getElem? (i := 232) (by rfl))) (by rfl)
theorem bg_660 : (.methodLink RX9 3 objectInit : Cond) ∈ bg := bgf (tb_1 _ (List.mem_of_getElem? (i := 233) (by decide +kernel))) (by rfl)
theorem bg_661 : (.fieldLink RX9 9 "ClassGate$Reader" "file" "LClassGate$ClassFile;" : Cond) ∈ bg := bgf (tb_1 _ (List.mem_of_getElem? (i := 234) (by decide +kernel))) (by rfl)
theorem bg_662 : (.fieldLink RX9 15 "ClassGate$Reader" "verdict" "LClassGate$Verdict;" : Cond) ∈ bg := bgf (tb_1 _ (List.mem_of_getElem? (i := 236) (by decide +kernel))) (by rfl)
theorem bg_663 : (.fieldLink RX9 19 "ClassGate$ClassFile" "bytes" "LClassGate$Bytes;" : Cond) ∈ bg := bgf (tb_1 _ (List.mem_of_getElem? (i := 123) (by decide +kernel))) (by rfl)
theorem bg_664 : (.fieldLink RX9 25 "ClassGate$Reader" "bytes" "LClassGate$Bytes;" : Cond) ∈ bg := bgf (tb_1 _ (List.mem_of_getElem? (i := 235) (by decide +kernel))) (by rfl)
theorem bg_665 : (.code yX9_takes cX9_takes 2 (some .boolean) : Cond) ∈ bg := bgf (tb_2 _ (List.mem_of_getElem? (i := 17) (by rfl))) (by rfl)
theorem bg_666 : (.methodLink RX9 26 yX1_size : Cond) ∈ bg := bgf (tb_2 _ (List.mem_of_getElem? (i := 18) (by decide +kernel))) (by rfl)
theorem bg_667 : (.instanceMethod yX1_size : Cond) ∈ bg := bgf (tb_2 _ (List.mem_of_getElem? (i := 19) (by decide +kernel))) (by rfl)
theorem bg_668 : (.selects RX1 yX1_size yX1_size : Cond) ∈ bg := bgf (tb_2 _ (List.mem_of_getElem? (i := 20) (by decide +kernel))) (by rfl)
theorem bg_669 : (.fieldLink RX9 32 "ClassGate$Reader" "at" "I" : Cond) ∈ bg := bgf (tb_1 _ (List.mem_of_getElem? (i := 237) (by decide +kernel))) (by rfl)
theorem bg_670 : (.methodLink RX9 36 yX10_wrong : Cond) ∈ bg := bgf (tb_2 _ (List.mem_of_getElem? (i := 22) (by decide +kernel))) (by rfl)
theorem bg_671 : (.methodLink RX9 42 yX1_u1 : Cond) ∈ bg := bgf (tb_2 _ (List.mem_of_getElem? (i := 26) (by decide +kernel))) (by rfl)
theorem bg_672 : (.fieldLink RX9 46 "ClassGate$Reader" "item" "I" : Cond) ∈ bg := bgf (tb_1 _ (List.mem_of_getElem? (i := 238) (by decide +kernel))) (by rfl)
theorem bg_673 : (.methodLink RX9 49 yX1_u2 : Cond) ∈ bg := bgf (tb_2 _ (List.mem_of_getElem? (i := 30) (by decide +kernel))) (by rfl)
theorem bg_674 : (.methodLink RX9 52 yX1_u4 : Cond) ∈ bg := bgf (tb_2 _ (List.mem_of_getElem? (i := 34) (by decide +kernel))) (by rfl)
theorem bg_675 : (.code yX9_takesHead cX9_takesHead 1 (some .boolean) : Cond) ∈ bg := bgf (tb_2 _ (List.mem_of_getElem? (i := 13) (by rfl))) (by rfl)
theorem bg_676 : (.methodLink RX9 55 yX9_takes : Cond) ∈ bg := bgf (tb_2 _ (List.mem_of_getElem? (i := 14) (by decide +kernel))) (by rfl)
theorem bg_677 : (.instanceMethod yX9_takes : Cond) ∈ bg := bgf (tb_2 _ (List.mem_of_getElem? (i := 16) (by decide +kernel))) (by rfl)
theorem bg_678 : (.selects RX9 yX9_takes yX9_takes : Cond) ∈ bg := bgf (List.mem_of_getElem? (i := 0) (by decide +kernel)) (by rfl)
theorem bg_679 : (.initialized RX9 : Cond) ∈ bg := bgf (tb_1 _ (List.mem_of_getElem? (i := 19) (by decide +kernel))) (by rfl)
theorem bg_680 : (.constant RX9 59 (-889275714) : Cond) ∈ bg := bgf (tb_2 _ (List.mem_of_getElem? (i := 38) (by decide +kernel))) (by rfl)
theorem bg_681 : (.fieldLink RX9 60 "ClassGate$ClassFile" "minor" "I" : Cond) ∈ bg := bgf (tb_1 _ (List.mem_of_getElem? (i := 134) (by decide +kernel))) (by rfl)
theorem bg_682 : (.fieldLink RX9 63 "ClassGate$ClassFile" "major" "I" : Cond) ∈ bg := bgf (tb_1 _ (List.mem_of_getElem? (i := 138) (by decide +kernel))) (by rfl)
theorem bg_683 : (.code yX9_takesPool cX9_takesPool 4 (some .boolean) : Cond) ∈ bg := bgf (tb_2 _ (List.mem_of_getElem? (i := 42) (by rfl))) (by rfl)
theorem bg_684 : (.classLink RX9 66 RX7 : Cond) ∈ bg := bgf (tb_2 _ (List.mem_of_getElem? (i := 43) (by decide +kernel))) (by rfl)
theorem bg_685 : (.methodLink RX9 68 yX7_init : Cond) ∈ bg := bgf (tb_2 _ (List.mem_of_getElem? (i := 44) (by decide +kernel))) (by rfl)
theorem bg_686 : (.fieldLink RX9 71 "ClassGate$ClassFile" "pool" "LClassGate$Pool;" : Cond) ∈ bg := bgf (tb_1 _ (List.mem_of_getElem? (i := 132) (by decide +kernel))) (by rfl)
theorem bg_687 : (.fieldLink RX9 75 "ClassGate$Pool" "size" "I" : Cond) ∈ bg := bgf (tb_1 _ (List.mem_of_getElem? (i := 89) (by decide +kernel))) (by rfl)
theorem bg_688 : (.methodLink RX9 77 yX9_takesEntry : Cond) ∈ bg := bgf (tb_2 _ (List.mem_of_getElem? (i := 45) (by decide +kernel))) (by rfl)
theorem bg_689 : (.code yX9_takesEntry cX9_takesEntry 4 (some .boolean) : Cond) ∈ bg := bgf (tb_2 _ (List.mem_of_getElem? (i := 48) (by rfl))) (by rfl)
theorem bg_690 : (.instanceMethod yX9_takesEntry : Cond) ∈ bg := bgf (tb_2 _ (List.mem_of_getElem? (i := 47) (by decide +kernel))) (by rfl)
theorem bg_691 : (.selects RX9 yX9_takesEntry yX9_takesEntry : Cond) ∈ bg := bgf (List.mem_of_getElem? (i := 1) (by decide +kernel)) (by rfl)
theorem bg_692 : (.methodLink RX9 80 yX7_isWide : Cond) ∈ bg := bgf (tb_2 _ (List.mem_of_getElem? (i := 85) (by decide +kernel))) (by rfl)
theorem bg_693 : (.instanceMethod yX7_isWide : Cond) ∈ bg := bgf (tb_2 _ (List.mem_of_getElem? (i := 86) (by decide +kernel))) (by rfl)
theorem bg_694 : (.selects RX7 yX7_isWide yX7_isWide : Cond) ∈ bg := bgf (tb_2 _ (List.mem_of_getElem? (i := 87) (by decide +kernel))) (by rfl)
theorem bg_695 : (.methodLink RX9 83 yX9_isTag : Cond) ∈ bg := bgf (tb_2 _ (List.mem_of_getElem? (i := 49) (by decide +kernel))) (by rfl)
theorem bg_696 : (.code yX9_isTag cX9_isTag 2 (some .boolean) : Cond) ∈ bg := bgf (tb_2 _ (List.mem_of_getElem? (i := 52) (by rfl))) (by rfl)
theorem bg_697 : (.instanceMethod yX9_isTag : Cond) ∈ bg := bgf (tb_2 _ (List.mem_of_getElem? (i := 51) (by decide +kernel))) (by rfl)
theorem bg_698 : (.selects RX9 yX9_isTag yX9_isTag : Cond) ∈ bg := bgf (List.mem_of_getElem? (i := 2) (by decide +kernel)) (by rfl)
theorem bg_699 : (.methodLink RX9 86 yX7_setTag : Cond) ∈ bg := bgf (tb_2 _ (List.mem_of_getElem? (i := 53) (by decide +kernel))) (by rfl)
theorem bg_700 : (.instanceMethod yX7_setTag : Cond) ∈ bg := bgf (tb_2 _ (List.mem_of_getElem? (i := 54) (by decide +kernel))) (by rfl)
theorem bg_701 : (.selects RX7 yX7_setTag yX7_setTag : Cond) ∈ bg := bgf (tb_2 _ (List.mem_of_getElem? (i := 55) (by decide +kernel))) (by rfl)
theorem bg_702 : (.methodLink RX9 90 yX9_takesText : Cond) ∈ bg := bgf (tb_2 _ (List.mem_of_getElem? (i := 57) (by decide +kernel))) (by rfl)
theorem bg_703 : (.code yX9_takesText cX9_takesText 5 (some .boolean) : Cond) ∈ bg := bgf (tb_2 _ (List.mem_of_getElem? (i := 60) (by rfl))) (by rfl)
theorem bg_704 : (.instanceMethod yX9_takesText : Cond) ∈ bg := bgf (tb_2 _ (List.mem_of_getElem? (i := 59) (by decide +kernel))) (by rfl)
theorem bg_705 : (.selects RX9 yX9_takesText yX9_takesText : Cond) ∈ bg := bgf (List.mem_of_getElem? (i := 3) (by decide +kernel)) (by rfl)
theorem bg_706 : (.methodLink RX9 93 yX9_takesIndexes : Cond) ∈ bg := bgf (tb_2 _ (List.mem_of_getElem? (i := 81) (by decide +kernel))) (by rfl)
theorem bg_707 : (.code yX9_takesIndexes cX9_takesIndexes 5 (some .boolean) : Cond) ∈ bg := bgf (tb_2 _ (List.mem_of_getElem? (i := 84) (by rfl))) (by rfl)
theorem bg_708 : (.instanceMethod yX9_takesIndexes : Cond) ∈ bg := bgf (tb_2 _ (List.mem_of_getElem? (i := 83) (by decide +kernel))) (by rfl)
theorem bg_709 : (.selects RX9 yX9_takesIndexes yX9_takesIndexes : Cond) ∈ bg := bgf (List.mem_of_getElem? (i := 6) (by decide +kernel)) (by rfl)
theorem bg_710 : (.methodLink RX9 96 yX7_setNumbers : Cond) ∈ bg := bgf (tb_2 _ (List.mem_of_getElem? (i := 77) (by decide +kernel))) (by rfl)
theorem bg_711 : (.instanceMethod yX7_setNumbers : Cond) ∈ bg := bgf (tb_2 _ (List.mem_of_getElem? (i := 78) (by decide +kernel))) (by rfl)
theorem bg_712 : (.selects RX7 yX7_setNumbers yX7_setNumbers : Cond) ∈ bg := bgf (tb_2 _ (List.mem_of_getElem? (i := 79) (by decide +kernel))) (by rfl)
theorem bg_713 : (.fieldLink RX9 99 "ClassGate$Pool" "characterCount" "I" : Cond) ∈ bg := bgf (tb_1 _ (List.mem_of_getElem? (i := 99) (by decide +kernel))) (by rfl)
theorem bg_714 : (.methodLink RX9 102 yX9_characterSize : Cond) ∈ bg := bgf (tb_2 _ (List.mem_of_getElem? (i := 61) (by decide +kernel))) (by rfl)
theorem bg_715 : (.code yX9_characterSize cX9_characterSize 3 (some .int) : Cond) ∈ bg := bgf (tb_2 _ (List.mem_of_getElem? (i := 64) (by rfl))) (by rfl)
theorem bg_716 : (.instanceMethod yX9_characterSize : Cond) ∈ bg := bgf (tb_2 _ (List.mem_of_getElem? (i := 63) (by decide +kernel))) (by rfl)
theorem bg_717 : (.selects RX9 yX9_characterSize yX9_characterSize : Cond) ∈ bg := bgf (List.mem_of_getElem? (i := 4) (by decide +kernel)) (by rfl)
theorem bg_718 : (.methodLink RX9 105 yX9_characterOf : Cond) ∈ bg := bgf (tb_2 _ (List.mem_of_getElem? (i := 69) (by decide +kernel))) (by rfl)
theorem bg_719 : (.code yX9_characterOf cX9_characterOf 3 (some .int) : Cond) ∈ bg := bgf (tb_2 _ (List.mem_of_getElem? (i := 72) (by rfl))) (by rfl)
theorem bg_720 : (.instanceMethod yX9_characterOf : Cond) ∈ bg := bgf (tb_2 _ (List.mem_of_getElem? (i := 71) (by decide +kernel))) (by rfl)
theorem bg_721 : (.selects RX9 yX9_characterOf yX9_characterOf : Cond) ∈ bg := bgf (List.mem_of_getElem? (i := 5) (by decide +kernel)) (by rfl)
theorem bg_722 : (.methodLink RX9 108 yX7_addCharacter : Cond) ∈ bg := bgf (tb_2 _ (List.mem_of_getElem? (i := 73) (by decide +kernel))) (by rfl)
theorem bg_723 : (.instanceMethod yX7_addCharacter : Cond) ∈ bg := bgf (tb_2 _ (List.mem_of_getElem? (i := 74) (by decide +kernel))) (by rfl)
theorem bg_724 : (.selects RX7 yX7_addCharacter yX7_addCharacter : Cond) ∈ bg := bgf (tb_2 _ (List.mem_of_getElem? (i := 75) (by decide +kernel))) (by rfl)
theorem bg_725 : (.methodLink RX9 112 yX1_goesOn : Cond) ∈ bg := bgf (tb_2 _ (List.mem_of_getElem? (i := 65) (by decide +kernel))) (by rfl)
theorem bg_726 : (.instanceMethod yX1_goesOn : Cond) ∈ bg := bgf (tb_2 _ (List.mem_of_getElem? (i := 66) (by decide +kernel))) (by rfl)
theorem bg_727 : (.selects RX1 yX1_goesOn yX1_goesOn : Cond) ∈ bg := bgf (tb_2 _ (List.mem_of_getElem? (i := 67) (by decide +kernel))) (by rfl)
theorem bg_728 : (.code yX9_takesClass cX9_takesClass 3 (some .boolean) : Cond) ∈ bg := bgf (tb_2 _ (List.mem_of_getElem? (i := 96) (by rfl))) (by rfl)
theorem bg_729 : (.fieldLink RX9 115 "ClassGate$ClassFile" "flagsAt" "I" : Cond) ∈ bg := bgf (tb_1 _ (List.mem_of_getElem? (i := 144) (by decide +kernel))) (by rfl)
theorem bg_730 : (.fieldLink RX9 118 "ClassGate$ClassFile" "interfaceCount" "I" : Cond) ∈ bg := bgf (tb_1 _ (List.mem_of_getElem? (i := 147) (by decide +kernel))) (by rfl)
theorem bg_731 : (.code yX9_takesFields cX9_takesFields 1 (some .boolean) : Cond) ∈ bg := bgf (tb_2 _ (List.mem_of_getElem? (i := 100) (by rfl))) (by rfl)
theorem bg_732 : (.methodLink RX9 121 yX9_roomFor : Cond) ∈ bg := bgf (tb_2 _ (List.mem_of_getElem? (i := 101) (by decide +kernel))) (by rfl)
theorem bg_733 : (.code yX9_roomFor cX9_roomFor 2 (some .int) : Cond) ∈ bg := bgf (tb_2 _ (List.mem_of_getElem? (i := 104) (by rfl))) (by rfl)
theorem bg_734 : (.instanceMethod yX9_roomFor : Cond) ∈ bg := bgf (tb_2 _ (List.mem_of_getElem? (i := 103) (by decide +kernel))) (by rfl)
theorem bg_735 : (.selects RX9 yX9_roomFor yX9_roomFor : Cond) ∈ bg := bgf (List.mem_of_getElem? (i := 7) (by decide +kernel)) (by rfl)
theorem bg_736 : (.classLink RX9 124 RX6 : Cond) ∈ bg := bgf (tb_2 _ (List.mem_of_getElem? (i := 107) (by decide +kernel))) (by rfl)
theorem bg_737 : (.fieldLink RX9 126 "ClassGate$ClassFile" "fields" "[LClassGate$Member;" : Cond) ∈ bg := bgf (tb_1 _ (List.mem_of_getElem? (i := 150) (by decide +kernel))) (by rfl)
theorem bg_738 : (.methodLink RX9 130 yX9_takesMembers : Cond) ∈ bg := bgf (tb_2 _ (List.mem_of_getElem? (i := 108) (by decide +kernel))) (by rfl)
theorem bg_739 : (.code yX9_takesMembers cX9_takesMembers 5 (some .boolean) : Cond) ∈ bg := bgf (tb_2 _ (List.mem_of_getElem? (i := 111) (by rfl))) (by rfl)
theorem bg_740 : (.instanceMethod yX9_takesMembers : Cond) ∈ bg := bgf (tb_2 _ (List.mem_of_getElem? (i := 110) (by decide +kernel))) (by rfl)
theorem bg_741 : (.selects RX9 yX9_takesMembers yX9_takesMembers : Cond) ∈ bg := bgf (List.mem_of_getElem? (i := 8) (by decide +kernel)) (by rfl)
theorem bg_742 : (.code yX9_takesMethods cX9_takesMethods 1 (some .boolean) : Cond) ∈ bg := bgf (tb_2 _ (List.mem_of_getElem? (i := 176) (by rfl))) (by rfl)
theorem bg_743 : (.fieldLink RX9 134 "ClassGate$ClassFile" "methods" "[LClassGate$Member;" : Cond) ∈ bg := bgf (tb_1 _ (List.mem_of_getElem? (i := 154) (by decide +kernel))) (by rfl)
theorem bg_744 : (.methodLink RX9 146 yX9_takesAttributes : Cond) ∈ bg := bgf (tb_2 _ (List.mem_of_getElem? (i := 112) (by decide +kernel))) (by rfl)
theorem bg_745 : (.code yX9_takesAttributes cX9_takesAttributes 3 (some .boolean) : Cond) ∈ bg := bgf (tb_2 _ (List.mem_of_getElem? (i := 115) (by rfl))) (by rfl)
theorem bg_746 : (.instanceMethod yX9_takesAttributes : Cond) ∈ bg := bgf (tb_2 _ (List.mem_of_getElem? (i := 114) (by decide +kernel))) (by rfl)
theorem bg_747 : (.selects RX9 yX9_takesAttributes yX9_takesAttributes : Cond) ∈ bg := bgf (List.mem_of_getElem? (i := 9) (by decide +kernel)) (by rfl)
theorem bg_748 : (.instantiable RX6 11 : Cond) ∈ bg := bgf (tb_2 _ (List.mem_of_getElem? (i := 116) (by decide +kernel))) (by rfl)
theorem bg_749 : (.methodLink RX9 150 yX6_init : Cond) ∈ bg := bgf (tb_2 _ (List.mem_of_getElem? (i := 117) (by decide +kernel))) (by rfl)
theorem bg_750 : (.instanceMethod yX6_init : Cond) ∈ bg := bgf (tb_2 _ (List.mem_of_getElem? (i := 118) (by decide +kernel))) (by rfl)
theorem bg_751 : (.code yX9_takesEnd cX9_takesEnd 1 (some .boolean) : Cond) ∈ bg := bgf (tb_2 _ (List.mem_of_getElem? (i := 180) (by rfl))) (by rfl)
theorem bg_752 : (.fieldLink RX9 153 "ClassGate$ClassFile" "attributeCount" "I" : Cond) ∈ bg := bgf (tb_1 _ (List.mem_of_getElem? (i := 157) (by decide +kernel))) (by rfl)
theorem bg_753 : (.fieldLink RX9 156 "ClassGate$ClassFile" "attributesAt" "I" : Cond) ∈ bg := bgf (tb_1 _ (List.mem_of_getElem? (i := 159) (by decide +kernel))) (by rfl)
theorem bg_754 : (.code yX10_init cX10_init 1 none : Cond) ∈ bg := bgf (tb_1 _ (List.mem_of_getElem? (i := 214) (by rfl))) (by rfl)
theorem bg_755 : (.methodLink RX10 1 objectInit : Cond) ∈ bg := bgf (tb_1 _ (List.mem_of_getElem? (i := 215) (by decide +kernel))) (by rfl)
theorem bg_756 : (.fieldLink RX10 7 "ClassGate$Verdict" "wrongAt" "I" : Cond) ∈ bg := bgf (tb_1 _ (List.mem_of_getElem? (i := 218) (by decide +kernel))) (by rfl)
theorem bg_757 : (.fieldLink RX10 13 "ClassGate$Verdict" "rule" "I" : Cond) ∈ bg := bgf (tb_1 _ (List.mem_of_getElem? (i := 216) (by decide +kernel))) (by rfl)
theorem bg_758 : (.code yX11_init cX11_init 1 none : Cond) ∈ bg := bgf (tb_1 _ (List.mem_of_getElem? (i := 31) (by rfl))) (by rfl)
theorem bg_759 : (.methodLink RX11 1 objectInit : Cond) ∈ bg := bgf (tb_1 _ (List.mem_of_getElem? (i := 32) (by decide +kernel))) (by rfl)
theorem bg_760 : (.arrayClass .byte : Cond) ∈ bg := bgf (tb_1 _ (List.mem_of_getElem? (i := 53) (by decide +kernel))) (by rfl)
theorem bg_761 : (.fieldLink RX11 9 "ClassGate" "came" "[B" : Cond) ∈ bg := bgf (tb_1 _ (List.mem_of_getElem? (i := 37) (by decide +kernel))) (by rfl)
theorem bg_762 : (.fieldLink RX11 13 "ClassGate" "NO_BYTES" "[B" : Cond) ∈ bg := bgf (tb_1 _ (List.mem_of_getElem? (i := 35) (by decide +kernel))) (by rfl)
theorem bg_763 : (.fieldLink RX11 16 "ClassGate" "file" "[B" : Cond) ∈ bg := bgf (tb_1 _ (List.mem_of_getElem? (i := 39) (by decide +kernel))) (by rfl)
theorem bg_764 : (.fieldLink RX11 19 "ClassGate" "wrongPlace" "I" : Cond) ∈ bg := bgf (tb_1 _ (List.mem_of_getElem? (i := 41) (by decide +kernel))) (by rfl)
theorem bg_765 : (.code yX11_feed cX11_feed 6 (some .int) : Cond) ∈ bg := bgf (tb_5 _ (List.mem_of_getElem? (i := 214) (by rfl))) (by rfl)
theorem bg_766 : (.fieldLink RX11 23 "ClassGate" "cameCount" "I" : Cond) ∈ bg := bgf (tb_1 _ (List.mem_of_getElem? (i := 38) (by decide +kernel))) (by rfl)
theorem bg_767 : (.constant RX11 26 65520 : Cond) ∈ bg := bgf (tb_5 _ (List.mem_of_getElem? (i := 215) (by decide +kernel))) (by rfl)
theorem bg_768 : (.classLink RX11 27 "java/lang/IllegalStateException" : Cond) ∈ bg := bgf (tb_5 _ (List.mem_of_getElem? (i := 216) (by decide +kernel))) (by rfl)
theorem bg_769 : (.initialized "java/lang/IllegalStateException" : Cond) ∈ bg := bgf (tb_1 _ (List.mem_of_getElem? (i := 10) (by decide +kernel))) (by rfl)
theorem bg_770 : (.methodLink RX11 34 yX11_takeWord : Cond) ∈ bg := bgf (tb_6 _ (List.mem_of_getElem? (i := 42) (by decide +kernel))) (by rfl)
theorem bg_771 : (.code yX11_takeWord cX11_takeWord 2 none : Cond) ∈ bg := bgf (tb_6 _ (List.mem_of_getElem? (i := 45) (by rfl))) (by rfl)
theorem bg_772 : (.instanceMethod yX11_takeWord : Cond) ∈ bg := bgf (tb_6 _ (List.mem_of_getElem? (i := 44) (by decide +kernel))) (by rfl)
theorem bg_773 : (.selects RX11 yX11_takeWord yX11_takeWord : Cond) ∈ bg := bgf (List.mem_of_getElem? (i := 71) (by decide +kernel)) (by rfl)
theorem bg_774 : (.initialized RX11 : Cond) ∈ bg := bgf (tb_1 _ (List.mem_of_getElem? (i := 1) (by decide +kernel))) (by rfl)
theorem bg_775 : (.methodLink RX11 38 yJ7_copyOf_9075b : Cond) ∈ bg := bgf (tb_6 _ (List.mem_of_getElem? (i := 46) (by decide +kernel))) (by rfl)
theorem bg_776 : (.code yJ7_copyOf_9075b cJ7_copyOf_9075b 3 (some (.array .byte)) : Cond) ∈ bg := bgf (tb_6 _ (List.mem_of_getElem? (i := 48) (by rfl))) (by rfl)
theorem bg_777 : (.static yJ7_copyOf_9075b : Cond) ∈ bg := bgf (tb_6 _ (List.mem_of_getElem? (i := 47) (by decide +kernel))) (by rfl)
theorem bg_778 : (.initialized RJ7 : Cond) ∈ bg := bgf (tb_1 _ (List.mem_of_getElem? (i := 11) (by decide +kernel))) (by rfl)
theorem bg_779 : (.code yX11_end cX11_end 2 (some .int) : Cond) ∈ bg := bgf (tb_6 _ (List.mem_of_getElem? (i := 67) (by rfl))) (by rfl)
theorem bg_780 : (.classLink RX11 44 "java/lang/IllegalArgumentException" : Cond) ∈ bg := bgf (tb_6 _ (List.mem_of_getElem? (i := 68) (by decide +kernel))) (by rfl)
theorem bg_781 : (.initialized "java/lang/IllegalArgumentException" : Cond) ∈ bg := bgf (tb_1 _ (List.mem_of_getElem? (i := 14) (by decide +kernel))) (by rfl)
theorem bg_782 : (.code yX11_read cX11_read 3 (some .int) : Cond) ∈ bg := bgf (tb_1 _ (List.mem_of_getElem? (i := 57) (by rfl))) (by rfl)
theorem bg_783 : (.classLink RX11 49 RX3 : Cond) ∈ bg := bgf (tb_1 _ (List.mem_of_getElem? (i := 58) (by decide +kernel))) (by rfl)
theorem bg_784 : (.instantiable RX3 17 : Cond) ∈ bg := bgf (tb_1 _ (List.mem_of_getElem? (i := 59) (by decide +kernel))) (by rfl)
theorem bg_785 : (.classLink RX11 51 RX1 : Cond) ∈ bg := bgf (tb_1 _ (List.mem_of_getElem? (i := 60) (by decide +kernel))) (by rfl)
theorem bg_786 : (.instantiable RX1 1 : Cond) ∈ bg := bgf (tb_1 _ (List.mem_of_getElem? (i := 61) (by decide +kernel))) (by rfl)
theorem bg_787 : (.methodLink RX11 53 yX1_init : Cond) ∈ bg := bgf (tb_1 _ (List.mem_of_getElem? (i := 62) (by decide +kernel))) (by rfl)
theorem bg_788 : (.instanceMethod yX1_init : Cond) ∈ bg := bgf (tb_1 _ (List.mem_of_getElem? (i := 63) (by decide +kernel))) (by rfl)
theorem bg_789 : (.methodLink RX11 56 yX3_init : Cond) ∈ bg := bgf (tb_1 _ (List.mem_of_getElem? (i := 70) (by decide +kernel))) (by rfl)
theorem bg_790 : (.instanceMethod yX3_init : Cond) ∈ bg := bgf (tb_1 _ (List.mem_of_getElem? (i := 71) (by decide +kernel))) (by rfl)
theorem bg_791 : (.classLink RX11 59 RX10 : Cond) ∈ bg := bgf (tb_1 _ (List.mem_of_getElem? (i := 210) (by decide +kernel))) (by rfl)
theorem bg_792 : (.instantiable RX10 2 : Cond) ∈ bg := bgf (tb_1 _ (List.mem_of_getElem? (i := 211) (by decide +kernel))) (by rfl)
theorem bg_793 : (.methodLink RX11 61 yX10_init : Cond) ∈ bg := bgf (tb_1 _ (List.mem_of_getElem? (i := 212) (by decide +kernel))) (by rfl)
theorem bg_794 : (.instanceMethod yX10_init : Cond) ∈ bg := bgf (tb_1 _ (List.mem_of_getElem? (i := 213) (by decide +kernel))) (by rfl)
theorem bg_795 : (.methodLink RX11 62 yX11_isWhole : Cond) ∈ bg := bgf (tb_1 _ (List.mem_of_getElem? (i := 225) (by decide +kernel))) (by rfl)
theorem bg_796 : (.code yX11_isWhole cX11_isWhole 3 (some .boolean) : Cond) ∈ bg := bgf (tb_1 _ (List.mem_of_getElem? (i := 227) (by rfl))) (by rfl)
theorem bg_797 : (.static yX11_isWhole : Cond) ∈ bg := bgf (tb_1 _ (List.mem_of_getElem? (i := 226) (by decide +kernel))) (by rfl)
theorem bg_798 : (.methodLink RX11 66 yX11_holds : Cond) ∈ bg := bgf (tb_2 _ (List.mem_of_getElem? (i := 181) (by decide +kernel))) (by rfl)
theorem bg_799 : (.code yX11_holds cX11_holds 5 (some .boolean) : Cond) ∈ bg := bgf (tb_2 _ (List.mem_of_getElem? (i := 183) (by rfl))) (by rfl)
end
section
theorem bg_800 : (.static yX11_holds : Cond) ∈ bg := bgf (tb_2 _ (List.mem_of_getElem? (i := 182) (by decide +kernel))) (by rfl)
theorem bg_801 : (.fieldLink RX11 69 "ClassGate" "kept" "LClassGate$ClassFile;" : Cond) ∈ bg := bgf (tb_1 _ (List.mem_of_getElem? (i := 40) (by decide +kernel))) (by rfl)
theorem bg_802 : (.fieldLink RX11 73 "ClassGate$Verdict" "wrongAt" "I" : Cond) ∈ bg := bgf (tb_1 _ (List.mem_of_getElem? (i := 219) (by decide +kernel))) (by rfl)
theorem bg_803 : (.fieldLink RX11 76 "ClassGate$Verdict" "rule" "I" : Cond) ∈ bg := bgf (tb_1 _ (List.mem_of_getElem? (i := 217) (by decide +kernel))) (by rfl)
theorem bg_804 : (.classLink RX11 79 RX9 : Cond) ∈ bg := bgf (tb_1 _ (List.mem_of_getElem? (i := 228) (by decide +kernel))) (by rfl)
theorem bg_805 : (.instantiable RX9 5 : Cond) ∈ bg := bgf (tb_1 _ (List.mem_of_getElem? (i := 229) (by decide +kernel))) (by rfl)
theorem bg_806 : (.methodLink RX11 81 yX9_init : Cond) ∈ bg := bgf (tb_1 _ (List.mem_of_getElem? (i := 230) (by decide +kernel))) (by rfl)
theorem bg_807 : (.instanceMethod yX9_init : Cond) ∈ bg := bgf (tb_1 _ (List.mem_of_getElem? (i := 231) (by decide +kernel))) (by rfl)
theorem bg_808 : (.methodLink RX11 84 yX9_takesHead : Cond) ∈ bg := bgf (tb_2 _ (List.mem_of_getElem? (i := 10) (by decide +kernel))) (by rfl)
theorem bg_809 : (.instanceMethod yX9_takesHead : Cond) ∈ bg := bgf (tb_2 _ (List.mem_of_getElem? (i := 11) (by decide +kernel))) (by rfl)
theorem bg_810 : (.selects RX9 yX9_takesHead yX9_takesHead : Cond) ∈ bg := bgf (tb_2 _ (List.mem_of_getElem? (i := 12) (by decide +kernel))) (by rfl)
theorem bg_811 : (.methodLink RX11 88 yX9_takesPool : Cond) ∈ bg := bgf (tb_2 _ (List.mem_of_getElem? (i := 39) (by decide +kernel))) (by rfl)
theorem bg_812 : (.instanceMethod yX9_takesPool : Cond) ∈ bg := bgf (tb_2 _ (List.mem_of_getElem? (i := 40) (by decide +kernel))) (by rfl)
theorem bg_813 : (.selects RX9 yX9_takesPool yX9_takesPool : Cond) ∈ bg := bgf (tb_2 _ (List.mem_of_getElem? (i := 41) (by decide +kernel))) (by rfl)
theorem bg_814 : (.methodLink RX11 91 yX9_takesClass : Cond) ∈ bg := bgf (tb_2 _ (List.mem_of_getElem? (i := 93) (by decide +kernel))) (by rfl)
theorem bg_815 : (.instanceMethod yX9_takesClass : Cond) ∈ bg := bgf (tb_2 _ (List.mem_of_getElem? (i := 94) (by decide +kernel))) (by rfl)
theorem bg_816 : (.selects RX9 yX9_takesClass yX9_takesClass : Cond) ∈ bg := bgf (tb_2 _ (List.mem_of_getElem? (i := 95) (by decide +kernel))) (by rfl)
theorem bg_817 : (.methodLink RX11 94 yX9_takesFields : Cond) ∈ bg := bgf (tb_2 _ (List.mem_of_getElem? (i := 97) (by decide +kernel))) (by rfl)
theorem bg_818 : (.instanceMethod yX9_takesFields : Cond) ∈ bg := bgf (tb_2 _ (List.mem_of_getElem? (i := 98) (by decide +kernel))) (by rfl)
theorem bg_819 : (.selects RX9 yX9_takesFields yX9_takesFields : Cond) ∈ bg := bgf (tb_2 _ (List.mem_of_getElem? (i := 99) (by decide +kernel))) (by rfl)
theorem bg_820 : (.methodLink RX11 97 yX9_takesMethods : Cond) ∈ bg := bgf (tb_2 _ (List.mem_of_getElem? (i := 173) (by decide +kernel))) (by rfl)
theorem bg_821 : (.instanceMethod yX9_takesMethods : Cond) ∈ bg := bgf (tb_2 _ (List.mem_of_getElem? (i := 174) (by decide +kernel))) (by rfl)
theorem bg_822 : (.selects RX9 yX9_takesMethods yX9_takesMethods : Cond) ∈ bg := bgf (tb_2 _ (List.mem_of_getElem? (i := 175) (by decide +kernel))) (by rfl)
theorem bg_823 : (.methodLink RX11 100 yX9_takesEnd : Cond) ∈ bg := bgf (tb_2 _ (List.mem_of_getElem? (i := 177) (by decide +kernel))) (by rfl)
theorem bg_824 : (.instanceMethod yX9_takesEnd : Cond) ∈ bg := bgf (tb_2 _ (List.mem_of_getElem? (i := 178) (by decide +kernel))) (by rfl)
theorem bg_825 : (.selects RX9 yX9_takesEnd yX9_takesEnd : Cond) ∈ bg := bgf (tb_2 _ (List.mem_of_getElem? (i := 179) (by decide +kernel))) (by rfl)
theorem bg_826 : (.fieldLink RX11 103 "ClassGate$ClassFile" "pool" "LClassGate$Pool;" : Cond) ∈ bg := bgf (tb_1 _ (List.mem_of_getElem? (i := 133) (by decide +kernel))) (by rfl)
theorem bg_827 : (.methodLink RX11 107 yX7_describeTexts : Cond) ∈ bg := bgf (tb_2 _ (List.mem_of_getElem? (i := 184) (by decide +kernel))) (by rfl)
theorem bg_828 : (.instanceMethod yX7_describeTexts : Cond) ∈ bg := bgf (tb_2 _ (List.mem_of_getElem? (i := 185) (by decide +kernel))) (by rfl)
theorem bg_829 : (.selects RX7 yX7_describeTexts yX7_describeTexts : Cond) ∈ bg := bgf (tb_2 _ (List.mem_of_getElem? (i := 186) (by decide +kernel))) (by rfl)
theorem bg_830 : (.classLink RX11 112 RX8 : Cond) ∈ bg := bgf (tb_2 _ (List.mem_of_getElem? (i := 207) (by decide +kernel))) (by rfl)
theorem bg_831 : (.instantiable RX8 3 : Cond) ∈ bg := bgf (tb_2 _ (List.mem_of_getElem? (i := 208) (by decide +kernel))) (by rfl)
theorem bg_832 : (.methodLink RX11 114 yX8_init : Cond) ∈ bg := bgf (tb_2 _ (List.mem_of_getElem? (i := 209) (by decide +kernel))) (by rfl)
theorem bg_833 : (.instanceMethod yX8_init : Cond) ∈ bg := bgf (tb_2 _ (List.mem_of_getElem? (i := 210) (by decide +kernel))) (by rfl)
theorem bg_834 : (.classLink RX11 115 RX0 : Cond) ∈ bg := bgf (tb_2 _ (List.mem_of_getElem? (i := 223) (by decide +kernel))) (by rfl)
theorem bg_835 : (.instantiable RX0 5 : Cond) ∈ bg := bgf (tb_2 _ (List.mem_of_getElem? (i := 224) (by decide +kernel))) (by rfl)
theorem bg_836 : (.methodLink RX11 117 yX0_init : Cond) ∈ bg := bgf (tb_2 _ (List.mem_of_getElem? (i := 225) (by decide +kernel))) (by rfl)
theorem bg_837 : (.instanceMethod yX0_init : Cond) ∈ bg := bgf (tb_2 _ (List.mem_of_getElem? (i := 226) (by decide +kernel))) (by rfl)
theorem bg_838 : (.classLink RX11 118 RX2 : Cond) ∈ bg := bgf (tb_3 _ (List.mem_of_getElem? (i := 5) (by decide +kernel))) (by rfl)
theorem bg_839 : (.instantiable RX2 5 : Cond) ∈ bg := bgf (tb_3 _ (List.mem_of_getElem? (i := 6) (by decide +kernel))) (by rfl)
theorem bg_840 : (.methodLink RX11 120 yX2_init : Cond) ∈ bg := bgf (tb_3 _ (List.mem_of_getElem? (i := 7) (by decide +kernel))) (by rfl)
theorem bg_841 : (.instanceMethod yX2_init : Cond) ∈ bg := bgf (tb_3 _ (List.mem_of_getElem? (i := 8) (by decide +kernel))) (by rfl)
theorem bg_842 : (.methodLink RX11 123 yX8_entriesHold : Cond) ∈ bg := bgf (tb_3 _ (List.mem_of_getElem? (i := 27) (by decide +kernel))) (by rfl)
theorem bg_843 : (.instanceMethod yX8_entriesHold : Cond) ∈ bg := bgf (tb_3 _ (List.mem_of_getElem? (i := 28) (by decide +kernel))) (by rfl)
theorem bg_844 : (.selects RX8 yX8_entriesHold yX8_entriesHold : Cond) ∈ bg := bgf (tb_3 _ (List.mem_of_getElem? (i := 29) (by decide +kernel))) (by rfl)
theorem bg_845 : (.methodLink RX11 126 yX2_headHolds : Cond) ∈ bg := bgf (tb_3 _ (List.mem_of_getElem? (i := 179) (by decide +kernel))) (by rfl)
theorem bg_846 : (.instanceMethod yX2_headHolds : Cond) ∈ bg := bgf (tb_3 _ (List.mem_of_getElem? (i := 180) (by decide +kernel))) (by rfl)
theorem bg_847 : (.selects RX2 yX2_headHolds yX2_headHolds : Cond) ∈ bg := bgf (tb_3 _ (List.mem_of_getElem? (i := 181) (by decide +kernel))) (by rfl)
theorem bg_848 : (.methodLink RX11 129 yX2_interfacesHold : Cond) ∈ bg := bgf (tb_3 _ (List.mem_of_getElem? (i := 204) (by decide +kernel))) (by rfl)
theorem bg_849 : (.instanceMethod yX2_interfacesHold : Cond) ∈ bg := bgf (tb_3 _ (List.mem_of_getElem? (i := 205) (by decide +kernel))) (by rfl)
theorem bg_850 : (.selects RX2 yX2_interfacesHold yX2_interfacesHold : Cond) ∈ bg := bgf (tb_3 _ (List.mem_of_getElem? (i := 206) (by decide +kernel))) (by rfl)
theorem bg_851 : (.methodLink RX11 132 yX2_fieldsHold : Cond) ∈ bg := bgf (tb_3 _ (List.mem_of_getElem? (i := 212) (by decide +kernel))) (by rfl)
theorem bg_852 : (.instanceMethod yX2_fieldsHold : Cond) ∈ bg := bgf (tb_3 _ (List.mem_of_getElem? (i := 213) (by decide +kernel))) (by rfl)
theorem bg_853 : (.selects RX2 yX2_fieldsHold yX2_fieldsHold : Cond) ∈ bg := bgf (tb_3 _ (List.mem_of_getElem? (i := 214) (by decide +kernel))) (by rfl)
theorem bg_854 : (.methodLink RX11 135 yX2_methodsHold : Cond) ∈ bg := bgf (tb_4 _ (List.mem_of_getElem? (i := 55) (by decide +kernel))) (by rfl)
theorem bg_855 : (.instanceMethod yX2_methodsHold : Cond) ∈ bg := bgf (tb_4 _ (List.mem_of_getElem? (i := 56) (by decide +kernel))) (by rfl)
theorem bg_856 : (.selects RX2 yX2_methodsHold yX2_methodsHold : Cond) ∈ bg := bgf (tb_4 _ (List.mem_of_getElem? (i := 57) (by decide +kernel))) (by rfl)
theorem bg_857 : (.methodLink RX11 138 yX0_ofClass : Cond) ∈ bg := bgf (tb_4 _ (List.mem_of_getElem? (i := 226) (by decide +kernel))) (by rfl)
theorem bg_858 : (.instanceMethod yX0_ofClass : Cond) ∈ bg := bgf (tb_4 _ (List.mem_of_getElem? (i := 227) (by decide +kernel))) (by rfl)
theorem bg_859 : (.selects RX0 yX0_ofClass yX0_ofClass : Cond) ∈ bg := bgf (tb_4 _ (List.mem_of_getElem? (i := 228) (by decide +kernel))) (by rfl)
theorem bg_860 : (.fieldLink RX11 141 "ClassGate$ClassFile" "bootstrapCount" "I" : Cond) ∈ bg := bgf (tb_1 _ (List.mem_of_getElem? (i := 163) (by decide +kernel))) (by rfl)
theorem bg_861 : (.methodLink RX11 144 yX8_bootstrapsHold : Cond) ∈ bg := bgf (tb_5 _ (List.mem_of_getElem? (i := 22) (by decide +kernel))) (by rfl)
theorem bg_862 : (.instanceMethod yX8_bootstrapsHold : Cond) ∈ bg := bgf (tb_5 _ (List.mem_of_getElem? (i := 23) (by decide +kernel))) (by rfl)
theorem bg_863 : (.selects RX8 yX8_bootstrapsHold yX8_bootstrapsHold : Cond) ∈ bg := bgf (tb_5 _ (List.mem_of_getElem? (i := 24) (by decide +kernel))) (by rfl)
theorem bg_864 : (.code yX11_place cX11_place 1 (some .int) : Cond) ∈ bg := bgf (tb_5 _ (List.mem_of_getElem? (i := 29) (by rfl))) (by rfl)
theorem bg_865 : (.code yX11_count cX11_count 2 (some .int) : Cond) ∈ bg := bgf (tb_6 _ (List.mem_of_getElem? (i := 90) (by rfl))) (by rfl)
theorem bg_866 : (.methodLink RX11 150 yX3_number : Cond) ∈ bg := bgf (tb_6 _ (List.mem_of_getElem? (i := 92) (by decide +kernel))) (by rfl)
theorem bg_867 : (.instanceMethod yX3_number : Cond) ∈ bg := bgf (tb_6 _ (List.mem_of_getElem? (i := 93) (by decide +kernel))) (by rfl)
theorem bg_868 : (.selects RX3 yX3_number yX3_number : Cond) ∈ bg := bgf (tb_6 _ (List.mem_of_getElem? (i := 94) (by decide +kernel))) (by rfl)
theorem bg_869 : (.code yX11_entry cX11_entry 3 (some .int) : Cond) ∈ bg := bgf (tb_6 _ (List.mem_of_getElem? (i := 106) (by rfl))) (by rfl)
theorem bg_870 : (.fieldLink RX11 156 "ClassGate$Pool" "size" "I" : Cond) ∈ bg := bgf (tb_1 _ (List.mem_of_getElem? (i := 90) (by decide +kernel))) (by rfl)
theorem bg_871 : (.methodLink RX11 159 yX7_tagOf : Cond) ∈ bg := bgf (tb_5 _ (List.mem_of_getElem? (i := 34) (by decide +kernel))) (by rfl)
theorem bg_872 : (.methodLink RX11 162 yX7_firstIndex : Cond) ∈ bg := bgf (tb_6 _ (List.mem_of_getElem? (i := 108) (by decide +kernel))) (by rfl)
theorem bg_873 : (.methodLink RX11 165 yX7_secondIndex : Cond) ∈ bg := bgf (tb_6 _ (List.mem_of_getElem? (i := 109) (by decide +kernel))) (by rfl)
theorem bg_874 : (.code yX11_bits cX11_bits 4 (some .long) : Cond) ∈ bg := bgf (tb_5 _ (List.mem_of_getElem? (i := 33) (by rfl))) (by rfl)
theorem bg_875 : (.methodLink RX11 168 yX7_tagPlace : Cond) ∈ bg := bgf (tb_5 _ (List.mem_of_getElem? (i := 35) (by decide +kernel))) (by rfl)
theorem bg_876 : (.fieldLink RX11 171 "ClassGate$ClassFile" "bytes" "LClassGate$Bytes;" : Cond) ∈ bg := bgf (tb_1 _ (List.mem_of_getElem? (i := 126) (by decide +kernel))) (by rfl)
theorem bg_877 : (.methodLink RX11 175 yX1_u4 : Cond) ∈ bg := bgf (tb_5 _ (List.mem_of_getElem? (i := 36) (by decide +kernel))) (by rfl)
theorem bg_878 : (.constantLong RX11 178 4294967295 : Cond) ∈ bg := bgf (tb_5 _ (List.mem_of_getElem? (i := 37) (by decide +kernel))) (by rfl)
theorem bg_879 : (.code yX11_character cX11_character 3 (some .int) : Cond) ∈ bg := bgf (tb_5 _ (List.mem_of_getElem? (i := 41) (by rfl))) (by rfl)
theorem bg_880 : (.methodLink RX11 180 yX7_characterAt : Cond) ∈ bg := bgf (tb_5 _ (List.mem_of_getElem? (i := 42) (by decide +kernel))) (by rfl)
theorem bg_881 : (.code yX11_places cX11_places 2 (some .int) : Cond) ∈ bg := bgf (tb_5 _ (List.mem_of_getElem? (i := 46) (by rfl))) (by rfl)
theorem bg_882 : (.methodLink RX11 184 yX7_placesTold : Cond) ∈ bg := bgf (tb_5 _ (List.mem_of_getElem? (i := 47) (by decide +kernel))) (by rfl)
theorem bg_883 : (.code yX11_member cX11_member 5 (some .int) : Cond) ∈ bg := bgf (tb_6 _ (List.mem_of_getElem? (i := 116) (by rfl))) (by rfl)
theorem bg_884 : (.methodLink RX11 189 yX3_memberAt : Cond) ∈ bg := bgf (tb_5 _ (List.mem_of_getElem? (i := 72) (by decide +kernel))) (by rfl)
theorem bg_885 : (.instanceMethod yX3_memberAt : Cond) ∈ bg := bgf (tb_5 _ (List.mem_of_getElem? (i := 73) (by decide +kernel))) (by rfl)
theorem bg_886 : (.selects RX3 yX3_memberAt yX3_memberAt : Cond) ∈ bg := bgf (tb_5 _ (List.mem_of_getElem? (i := 74) (by decide +kernel))) (by rfl)
theorem bg_887 : (.methodLink RX11 193 yX6_number : Cond) ∈ bg := bgf (tb_6 _ (List.mem_of_getElem? (i := 118) (by decide +kernel))) (by rfl)
theorem bg_888 : (.instanceMethod yX6_number : Cond) ∈ bg := bgf (tb_6 _ (List.mem_of_getElem? (i := 119) (by decide +kernel))) (by rfl)
theorem bg_889 : (.selects RX6 yX6_number yX6_number : Cond) ∈ bg := bgf (tb_6 _ (List.mem_of_getElem? (i := 120) (by decide +kernel))) (by rfl)
theorem bg_890 : (.code yX11_find cX11_find 5 (some .int) : Cond) ∈ bg := bgf (tb_5 _ (List.mem_of_getElem? (i := 54) (by rfl))) (by rfl)
theorem bg_891 : (.fieldLink RX11 198 "ClassGate$ClassFile" "methods" "[LClassGate$Member;" : Cond) ∈ bg := bgf (tb_1 _ (List.mem_of_getElem? (i := 155) (by decide +kernel))) (by rfl)
theorem bg_892 : (.fieldLink RX11 202 "ClassGate$ClassFile" "fields" "[LClassGate$Member;" : Cond) ∈ bg := bgf (tb_1 _ (List.mem_of_getElem? (i := 151) (by decide +kernel))) (by rfl)
theorem bg_893 : (.methodLink RX11 205 yX7_sameMember : Cond) ∈ bg := bgf (tb_5 _ (List.mem_of_getElem? (i := 55) (by decide +kernel))) (by rfl)
theorem bg_894 : (.code yX11_row cX11_row 5 (some .int) : Cond) ∈ bg := bgf (tb_6 _ (List.mem_of_getElem? (i := 132) (by rfl))) (by rfl)
theorem bg_895 : (.methodLink RX11 211 yX11_codeOf : Cond) ∈ bg := bgf (tb_5 _ (List.mem_of_getElem? (i := 68) (by decide +kernel))) (by rfl)
theorem bg_896 : (.code yX11_codeOf cX11_codeOf 3 (some (.object "ClassGate$Code")) : Cond) ∈ bg := bgf (tb_5 _ (List.mem_of_getElem? (i := 71) (by rfl))) (by rfl)
theorem bg_897 : (.instanceMethod yX11_codeOf : Cond) ∈ bg := bgf (tb_5 _ (List.mem_of_getElem? (i := 70) (by decide +kernel))) (by rfl)
theorem bg_898 : (.selects RX11 yX11_codeOf yX11_codeOf : Cond) ∈ bg := bgf (List.mem_of_getElem? (i := 49) (by decide +kernel)) (by rfl)
theorem bg_899 : (.fieldLink RX11 215 "ClassGate$Code" "rowCount" "I" : Cond) ∈ bg := bgf (tb_4 _ (List.mem_of_getElem? (i := 177) (by decide +kernel))) (by rfl)
theorem bg_900 : (.fieldLink RX11 220 "ClassGate$Code" "rowsAt" "I" : Cond) ∈ bg := bgf (tb_4 _ (List.mem_of_getElem? (i := 173) (by decide +kernel))) (by rfl)
theorem bg_901 : (.methodLink RX11 223 yX1_u2 : Cond) ∈ bg := bgf (tb_6 _ (List.mem_of_getElem? (i := 134) (by decide +kernel))) (by rfl)
theorem bg_902 : (.fieldLink RX11 226 "ClassGate$Member" "code" "LClassGate$Code;" : Cond) ∈ bg := bgf (tb_2 _ (List.mem_of_getElem? (i := 147) (by decide +kernel))) (by rfl)
theorem bg_903 : (.code yX11_bootstrap cX11_bootstrap 3 (some .int) : Cond) ∈ bg := bgf (tb_5 _ (List.mem_of_getElem? (i := 59) (by rfl))) (by rfl)
theorem bg_904 : (.methodLink RX11 230 yX3_bootstrapPart : Cond) ∈ bg := bgf (tb_5 _ (List.mem_of_getElem? (i := 60) (by decide +kernel))) (by rfl)
theorem bg_905 : (.instanceMethod yX3_bootstrapPart : Cond) ∈ bg := bgf (tb_5 _ (List.mem_of_getElem? (i := 61) (by decide +kernel))) (by rfl)
theorem bg_906 : (.selects RX3 yX3_bootstrapPart yX3_bootstrapPart : Cond) ∈ bg := bgf (tb_5 _ (List.mem_of_getElem? (i := 62) (by decide +kernel))) (by rfl)
theorem bg_907 : (.code yX11_cut cX11_cut 3 (some .int) : Cond) ∈ bg := bgf (tb_5 _ (List.mem_of_getElem? (i := 67) (by rfl))) (by rfl)
theorem bg_908 : (.methodLink RX11 233 yX4_cutUp : Cond) ∈ bg := bgf (tb_5 _ (List.mem_of_getElem? (i := 76) (by decide +kernel))) (by rfl)
theorem bg_909 : (.instanceMethod yX4_cutUp : Cond) ∈ bg := bgf (tb_5 _ (List.mem_of_getElem? (i := 77) (by decide +kernel))) (by rfl)
theorem bg_910 : (.selects RX4 yX4_cutUp yX4_cutUp : Cond) ∈ bg := bgf (tb_5 _ (List.mem_of_getElem? (i := 78) (by decide +kernel))) (by rfl)
theorem bg_911 : (.code yX11_instruction cX11_instruction 5 (some .int) : Cond) ∈ bg := bgf (tb_6 _ (List.mem_of_getElem? (i := 141) (by rfl))) (by rfl)
theorem bg_912 : (.methodLink RX11 239 yX4_number : Cond) ∈ bg := bgf (tb_6 _ (List.mem_of_getElem? (i := 143) (by decide +kernel))) (by rfl)
theorem bg_913 : (.instanceMethod yX4_number : Cond) ∈ bg := bgf (tb_6 _ (List.mem_of_getElem? (i := 144) (by decide +kernel))) (by rfl)
theorem bg_914 : (.selects RX4 yX4_number yX4_number : Cond) ∈ bg := bgf (tb_6 _ (List.mem_of_getElem? (i := 145) (by decide +kernel))) (by rfl)
theorem bg_915 : (.code yX11_jump cX11_jump 6 (some .int) : Cond) ∈ bg := bgf (tb_5 _ (List.mem_of_getElem? (i := 196) (by rfl))) (by rfl)
theorem bg_916 : (.methodLink RX11 241 yX4_switchPlace : Cond) ∈ bg := bgf (tb_5 _ (List.mem_of_getElem? (i := 197) (by decide +kernel))) (by rfl)
theorem bg_917 : (.instanceMethod yX4_switchPlace : Cond) ∈ bg := bgf (tb_5 _ (List.mem_of_getElem? (i := 198) (by decide +kernel))) (by rfl)
theorem bg_918 : (.selects RX4 yX4_switchPlace yX4_switchPlace : Cond) ∈ bg := bgf (tb_5 _ (List.mem_of_getElem? (i := 199) (by decide +kernel))) (by rfl)
theorem bg_919 : (.code yX12_init cX12_init 1 none : Cond) ∈ bg := bgf (tb_6 _ (List.mem_of_getElem? (i := 155) (by rfl))) (by rfl)
theorem bg_920 : (.methodLink RX12 7 objectInit : Cond) ∈ bg := bgf (tb_6 _ (List.mem_of_getElem? (i := 156) (by decide +kernel))) (by rfl)
theorem bg_921 : (.constant RX12 13 66000 : Cond) ∈ bg := bgf (tb_6 _ (List.mem_of_getElem? (i := 157) (by decide +kernel))) (by rfl)
theorem bg_922 : (.fieldLink RX12 14 "ClassGateModel" "chars" "[C" : Cond) ∈ bg := bgf (tb_6 _ (List.mem_of_getElem? (i := 191) (by decide +kernel))) (by rfl)
theorem bg_923 : (.fieldLink RX12 18 "ClassGateModel" "cut" "[C" : Cond) ∈ bg := bgf (tb_6 _ (List.mem_of_getElem? (i := 192) (by decide +kernel))) (by rfl)
theorem bg_924 : (.fieldLink RX12 21 "ClassGateModel" "symAt" "[I" : Cond) ∈ bg := bgf (tb_6 _ (List.mem_of_getElem? (i := 194) (by decide +kernel))) (by rfl)
theorem bg_925 : (.fieldLink RX12 25 "ClassGateModel" "symLen" "[I" : Cond) ∈ bg := bgf (tb_6 _ (List.mem_of_getElem? (i := 195) (by decide +kernel))) (by rfl)
theorem bg_926 : (.fieldLink RX12 28 "ClassGateModel" "symNext" "[I" : Cond) ∈ bg := bgf (tb_6 _ (List.mem_of_getElem? (i := 196) (by decide +kernel))) (by rfl)
theorem bg_927 : (.fieldLink RX12 31 "ClassGateModel" "symHead" "[I" : Cond) ∈ bg := bgf (tb_6 _ (List.mem_of_getElem? (i := 197) (by decide +kernel))) (by rfl)
theorem bg_928 : (.constant RX12 34 65600 : Cond) ∈ bg := bgf (tb_6 _ (List.mem_of_getElem? (i := 158) (by decide +kernel))) (by rfl)
theorem bg_929 : (.fieldLink RX12 35 "ClassGateModel" "files" "[B" : Cond) ∈ bg := bgf (tb_6 _ (List.mem_of_getElem? (i := 202) (by decide +kernel))) (by rfl)
theorem bg_930 : (.constant RX12 39 65560 : Cond) ∈ bg := bgf (tb_6 _ (List.mem_of_getElem? (i := 159) (by decide +kernel))) (by rfl)
theorem bg_931 : (.fieldLink RX12 40 "ClassGateModel" "file" "[B" : Cond) ∈ bg := bgf (tb_6 _ (List.mem_of_getElem? (i := 203) (by decide +kernel))) (by rfl)
theorem bg_932 : (.fieldLink RX12 43 "ClassGateModel" "kept" "[B" : Cond) ∈ bg := bgf (tb_6 _ (List.mem_of_getElem? (i := 204) (by decide +kernel))) (by rfl)
theorem bg_933 : (.fieldLink RX12 46 "ClassGateModel" "came" "[B" : Cond) ∈ bg := bgf (tb_6 _ (List.mem_of_getElem? (i := 205) (by decide +kernel))) (by rfl)
theorem bg_934 : (.fieldLink RX12 49 "ClassGateModel" "keptN" "I" : Cond) ∈ bg := bgf (tb_6 _ (List.mem_of_getElem? (i := 208) (by decide +kernel))) (by rfl)
theorem bg_935 : (.constant RX12 52 65540 : Cond) ∈ bg := bgf (tb_6 _ (List.mem_of_getElem? (i := 160) (by decide +kernel))) (by rfl)
theorem bg_936 : (.fieldLink RX12 53 "ClassGateModel" "pAt" "[I" : Cond) ∈ bg := bgf (tb_6 _ (List.mem_of_getElem? (i := 211) (by decide +kernel))) (by rfl)
theorem bg_937 : (.fieldLink RX12 56 "ClassGateModel" "pSym" "[I" : Cond) ∈ bg := bgf (tb_6 _ (List.mem_of_getElem? (i := 212) (by decide +kernel))) (by rfl)
theorem bg_938 : (.fieldLink RX12 59 "ClassGateModel" "pState" "[I" : Cond) ∈ bg := bgf (tb_6 _ (List.mem_of_getElem? (i := 213) (by decide +kernel))) (by rfl)
theorem bg_939 : (.fieldLink RX12 62 "ClassGateModel" "pObj" "[I" : Cond) ∈ bg := bgf (tb_6 _ (List.mem_of_getElem? (i := 214) (by decide +kernel))) (by rfl)
theorem bg_940 : (.fieldLink RX12 65 "ClassGateModel" "fFlags" "[I" : Cond) ∈ bg := bgf (tb_6 _ (List.mem_of_getElem? (i := 217) (by decide +kernel))) (by rfl)
theorem bg_941 : (.fieldLink RX12 68 "ClassGateModel" "fName" "[I" : Cond) ∈ bg := bgf (tb_6 _ (List.mem_of_getElem? (i := 218) (by decide +kernel))) (by rfl)
theorem bg_942 : (.fieldLink RX12 71 "ClassGateModel" "fDesc" "[I" : Cond) ∈ bg := bgf (tb_6 _ (List.mem_of_getElem? (i := 219) (by decide +kernel))) (by rfl)
theorem bg_943 : (.fieldLink RX12 74 "ClassGateModel" "fConst" "[I" : Cond) ∈ bg := bgf (tb_6 _ (List.mem_of_getElem? (i := 220) (by decide +kernel))) (by rfl)
theorem bg_944 : (.fieldLink RX12 77 "ClassGateModel" "fKnown" "[I" : Cond) ∈ bg := bgf (tb_6 _ (List.mem_of_getElem? (i := 221) (by decide +kernel))) (by rfl)
theorem bg_945 : (.fieldLink RX12 80 "ClassGateModel" "fNameAt" "[I" : Cond) ∈ bg := bgf (tb_6 _ (List.mem_of_getElem? (i := 222) (by decide +kernel))) (by rfl)
theorem bg_946 : (.fieldLink RX12 83 "ClassGateModel" "fDescAt" "[I" : Cond) ∈ bg := bgf (tb_6 _ (List.mem_of_getElem? (i := 223) (by decide +kernel))) (by rfl)
theorem bg_947 : (.fieldLink RX12 86 "ClassGateModel" "mFlags" "[I" : Cond) ∈ bg := bgf (tb_6 _ (List.mem_of_getElem? (i := 224) (by decide +kernel))) (by rfl)
theorem bg_948 : (.fieldLink RX12 89 "ClassGateModel" "mName" "[I" : Cond) ∈ bg := bgf (tb_6 _ (List.mem_of_getElem? (i := 225) (by decide +kernel))) (by rfl)
theorem bg_949 : (.fieldLink RX12 92 "ClassGateModel" "mDesc" "[I" : Cond) ∈ bg := bgf (tb_6 _ (List.mem_of_getElem? (i := 226) (by decide +kernel))) (by rfl)
theorem bg_950 : (.fieldLink RX12 95 "ClassGateModel" "mCode" "[I" : Cond) ∈ bg := bgf (tb_6 _ (List.mem_of_getElem? (i := 227) (by decide +kernel))) (by rfl)
theorem bg_951 : (.fieldLink RX12 98 "ClassGateModel" "mLen" "[I" : Cond) ∈ bg := bgf (tb_6 _ (List.mem_of_getElem? (i := 228) (by decide +kernel))) (by rfl)
theorem bg_952 : (.fieldLink RX12 101 "ClassGateModel" "mStack" "[I" : Cond) ∈ bg := bgf (tb_6 _ (List.mem_of_getElem? (i := 229) (by decide +kernel))) (by rfl)
theorem bg_953 : (.fieldLink RX12 104 "ClassGateModel" "mLocals" "[I" : Cond) ∈ bg := bgf (tb_6 _ (List.mem_of_getElem? (i := 230) (by decide +kernel))) (by rfl)
theorem bg_954 : (.fieldLink RX12 107 "ClassGateModel" "mRows" "[I" : Cond) ∈ bg := bgf (tb_6 _ (List.mem_of_getElem? (i := 231) (by decide +kernel))) (by rfl)
theorem bg_955 : (.fieldLink RX12 110 "ClassGateModel" "mRowN" "[I" : Cond) ∈ bg := bgf (tb_6 _ (List.mem_of_getElem? (i := 232) (by decide +kernel))) (by rfl)
theorem bg_956 : (.fieldLink RX12 113 "ClassGateModel" "mKnown" "[I" : Cond) ∈ bg := bgf (tb_6 _ (List.mem_of_getElem? (i := 233) (by decide +kernel))) (by rfl)
theorem bg_957 : (.fieldLink RX12 116 "ClassGateModel" "mThrows" "[I" : Cond) ∈ bg := bgf (tb_6 _ (List.mem_of_getElem? (i := 234) (by decide +kernel))) (by rfl)
theorem bg_958 : (.fieldLink RX12 119 "ClassGateModel" "mNameAt" "[I" : Cond) ∈ bg := bgf (tb_6 _ (List.mem_of_getElem? (i := 235) (by decide +kernel))) (by rfl)
theorem bg_959 : (.fieldLink RX12 122 "ClassGateModel" "mDescAt" "[I" : Cond) ∈ bg := bgf (tb_6 _ (List.mem_of_getElem? (i := 236) (by decide +kernel))) (by rfl)
theorem bg_960 : (.classLink RX12 125 RJ0 : Cond) ∈ bg := bgf (tb_6 _ (List.mem_of_getElem? (i := 161) (by decide +kernel))) (by rfl)
theorem bg_961 : (.fieldLink RX12 147 "ClassGateModel" "KNOWN" "[Ljava/lang/String;" : Cond) ∈ bg := bgf (tb_7 _ (List.mem_of_getElem? (i := 12) (by decide +kernel))) (by rfl)
theorem bg_962 : (.fieldLink RX12 151 "ClassGateModel" "KNOWN_IN" "[I" : Cond) ∈ bg := bgf (tb_7 _ (List.mem_of_getElem? (i := 13) (by decide +kernel))) (by rfl)
theorem bg_963 : (.fieldLink RX12 154 "ClassGateModel" "KNOWN_FROM" "[I" : Cond) ∈ bg := bgf (tb_7 _ (List.mem_of_getElem? (i := 14) (by decide +kernel))) (by rfl)
theorem bg_964 : (.fieldLink RX12 157 "ClassGateModel" "lastPlace" "I" : Cond) ∈ bg := bgf (tb_7 _ (List.mem_of_getElem? (i := 23) (by decide +kernel))) (by rfl)
theorem bg_965 : (.fieldLink RX12 160 "ClassGateModel" "cutOf" "I" : Cond) ∈ bg := bgf (tb_7 _ (List.mem_of_getElem? (i := 24) (by decide +kernel))) (by rfl)
theorem bg_966 : (.fieldLink RX12 163 "ClassGateModel" "begins" "[I" : Cond) ∈ bg := bgf (tb_7 _ (List.mem_of_getElem? (i := 30) (by decide +kernel))) (by rfl)
theorem bg_967 : (.fieldLink RX12 166 "ClassGateModel" "which" "[I" : Cond) ∈ bg := bgf (tb_7 _ (List.mem_of_getElem? (i := 31) (by decide +kernel))) (by rfl)
theorem bg_968 : (.methodLink RX12 169 yX12_clear : Cond) ∈ bg := bgf (tb_6 _ (List.mem_of_getElem? (i := 173) (by decide +kernel))) (by rfl)
theorem bg_969 : (.code yX12_clear cX12_clear 2 none : Cond) ∈ bg := bgf (tb_6 _ (List.mem_of_getElem? (i := 176) (by rfl))) (by rfl)
theorem bg_970 : (.instanceMethod yX12_clear : Cond) ∈ bg := bgf (tb_6 _ (List.mem_of_getElem? (i := 175) (by decide +kernel))) (by rfl)
theorem bg_971 : (.selects RX12 yX12_clear yX12_clear : Cond) ∈ bg := bgf (List.mem_of_getElem? (i := 74) (by decide +kernel)) (by rfl)
theorem bg_972 : (.initialized RX12 : Cond) ∈ bg := bgf (tb_1 _ (List.mem_of_getElem? (i := 2) (by decide +kernel))) (by rfl)
theorem bg_973 : (.fieldLink RX12 172 "ClassGateModel" "charsN" "I" : Cond) ∈ bg := bgf (tb_6 _ (List.mem_of_getElem? (i := 193) (by decide +kernel))) (by rfl)
theorem bg_974 : (.fieldLink RX12 175 "ClassGateModel" "syms" "I" : Cond) ∈ bg := bgf (tb_6 _ (List.mem_of_getElem? (i := 198) (by decide +kernel))) (by rfl)
theorem bg_975 : (.methodLink RX12 179 yX12_symbol : Cond) ∈ bg := bgf (tb_6 _ (List.mem_of_getElem? (i := 178) (by decide +kernel))) (by rfl)
theorem bg_976 : (.code yX12_symbol cX12_symbol 3 (some .int) : Cond) ∈ bg := bgf (tb_6 _ (List.mem_of_getElem? (i := 181) (by rfl))) (by rfl)
theorem bg_977 : (.instanceMethod yX12_symbol : Cond) ∈ bg := bgf (tb_6 _ (List.mem_of_getElem? (i := 180) (by decide +kernel))) (by rfl)
theorem bg_978 : (.selects RX12 yX12_symbol yX12_symbol : Cond) ∈ bg := bgf (List.mem_of_getElem? (i := 75) (by decide +kernel)) (by rfl)
theorem bg_979 : (.fieldLink RX12 183 "ClassGateModel" "S_INIT" "I" : Cond) ∈ bg := bgf (tb_6 _ (List.mem_of_getElem? (i := 199) (by decide +kernel))) (by rfl)
theorem bg_980 : (.fieldLink RX12 188 "ClassGateModel" "S_CLINIT" "I" : Cond) ∈ bg := bgf (tb_6 _ (List.mem_of_getElem? (i := 200) (by decide +kernel))) (by rfl)
theorem bg_981 : (.fieldLink RX12 192 "ClassGateModel" "S_OBJECT" "I" : Cond) ∈ bg := bgf (tb_6 _ (List.mem_of_getElem? (i := 201) (by decide +kernel))) (by rfl)
theorem bg_982 : (.fieldLink RX12 195 "ClassGateModel" "pool" "I" : Cond) ∈ bg := bgf (tb_6 _ (List.mem_of_getElem? (i := 210) (by decide +kernel))) (by rfl)
theorem bg_983 : (.fieldLink RX12 198 "ClassGateModel" "fields" "I" : Cond) ∈ bg := bgf (tb_6 _ (List.mem_of_getElem? (i := 215) (by decide +kernel))) (by rfl)
theorem bg_984 : (.fieldLink RX12 201 "ClassGateModel" "methods" "I" : Cond) ∈ bg := bgf (tb_6 _ (List.mem_of_getElem? (i := 216) (by decide +kernel))) (by rfl)
theorem bg_985 : (.methodLink RX12 204 yJ0_length_8abf5 : Cond) ∈ bg := bgf (tb_6 _ (List.mem_of_getElem? (i := 182) (by decide +kernel))) (by rfl)
theorem bg_986 : (.methodLink RX12 208 yJ0_charAt_5068e : Cond) ∈ bg := bgf (tb_6 _ (List.mem_of_getElem? (i := 183) (by decide +kernel))) (by rfl)
theorem bg_987 : (.methodLink RX12 212 yX12_symbol_ : Cond) ∈ bg := bgf (tb_6 _ (List.mem_of_getElem? (i := 184) (by decide +kernel))) (by rfl)
theorem bg_988 : (.code yX12_symbol_ cX12_symbol_ 6 (some .int) : Cond) ∈ bg := bgf (tb_6 _ (List.mem_of_getElem? (i := 187) (by rfl))) (by rfl)
theorem bg_989 : (.instanceMethod yX12_symbol_ : Cond) ∈ bg := bgf (tb_6 _ (List.mem_of_getElem? (i := 186) (by decide +kernel))) (by rfl)
theorem bg_990 : (.selects RX12 yX12_symbol_ yX12_symbol_ : Cond) ∈ bg := bgf (List.mem_of_getElem? (i := 76) (by decide +kernel)) (by rfl)
theorem bg_991 : (.code yX12_length cX12_length 2 (some .int) : Cond) ∈ bg := bgf (tb_8 _ (List.mem_of_getElem? (i := 55) (by rfl))) (by rfl)
theorem bg_992 : (.code yX12_at cX12_at 3 (some .char) : Cond) ∈ bg := bgf (tb_8 _ (List.mem_of_getElem? (i := 59) (by rfl))) (by rfl)
theorem bg_993 : (.code yX12_is cX12_is 4 (some .boolean) : Cond) ∈ bg := bgf (tb_8 _ (List.mem_of_getElem? (i := 123) (by rfl))) (by rfl)
theorem bg_994 : (.methodLink RX12 215 yX12_length : Cond) ∈ bg := bgf (tb_8 _ (List.mem_of_getElem? (i := 52) (by decide +kernel))) (by rfl)
theorem bg_995 : (.instanceMethod yX12_length : Cond) ∈ bg := bgf (tb_8 _ (List.mem_of_getElem? (i := 54) (by decide +kernel))) (by rfl)
theorem bg_996 : (.selects RX12 yX12_length yX12_length : Cond) ∈ bg := bgf (List.mem_of_getElem? (i := 97) (by decide +kernel)) (by rfl)
theorem bg_997 : (.methodLink RX12 217 yX12_at : Cond) ∈ bg := bgf (tb_8 _ (List.mem_of_getElem? (i := 56) (by decide +kernel))) (by rfl)
theorem bg_998 : (.instanceMethod yX12_at : Cond) ∈ bg := bgf (tb_8 _ (List.mem_of_getElem? (i := 58) (by decide +kernel))) (by rfl)
theorem bg_999 : (.selects RX12 yX12_at yX12_at : Cond) ∈ bg := bgf (List.mem_of_getElem? (i := 98) (by decide +kernel)) (by rfl)
theorem bg_1000 : (.code yX12_u1 cX12_u1 2 (some .int) : Cond) ∈ bg := bgf (tb_8 _ (List.mem_of_getElem? (i := 9) (by rfl))) (by rfl)
theorem bg_1001 : (.fieldLink RX12 221 "ClassGateModel" "base" "I" : Cond) ∈ bg := bgf (tb_6 _ (List.mem_of_getElem? (i := 239) (by decide +kernel))) (by rfl)
theorem bg_1002 : (.code yX12_u2 cX12_u2 2 (some .int) : Cond) ∈ bg := bgf (tb_8 _ (List.mem_of_getElem? (i := 5) (by rfl))) (by rfl)
theorem bg_1003 : (.methodLink RX12 224 yX12_u1 : Cond) ∈ bg := bgf (tb_8 _ (List.mem_of_getElem? (i := 6) (by decide +kernel))) (by rfl)
theorem bg_1004 : (.instanceMethod yX12_u1 : Cond) ∈ bg := bgf (tb_8 _ (List.mem_of_getElem? (i := 8) (by decide +kernel))) (by rfl)
theorem bg_1005 : (.selects RX12 yX12_u1 yX12_u1 : Cond) ∈ bg := bgf (List.mem_of_getElem? (i := 86) (by decide +kernel)) (by rfl)
theorem bg_1006 : (.code yX12_u4 cX12_u4 2 (some .long) : Cond) ∈ bg := bgf (tb_8 _ (List.mem_of_getElem? (i := 1) (by rfl))) (by rfl)
theorem bg_1007 : (.methodLink RX12 227 yX12_u2 : Cond) ∈ bg := bgf (tb_8 _ (List.mem_of_getElem? (i := 2) (by decide +kernel))) (by rfl)
theorem bg_1008 : (.instanceMethod yX12_u2 : Cond) ∈ bg := bgf (tb_8 _ (List.mem_of_getElem? (i := 4) (by decide +kernel))) (by rfl)
theorem bg_1009 : (.selects RX12 yX12_u2 yX12_u2 : Cond) ∈ bg := bgf (List.mem_of_getElem? (i := 85) (by decide +kernel)) (by rfl)
theorem bg_1010 : (.code yX12_wrong cX12_wrong 3 (some .boolean) : Cond) ∈ bg := bgf (tb_7 _ (List.mem_of_getElem? (i := 237) (by rfl))) (by rfl)
theorem bg_1011 : (.fieldLink RX12 230 "ClassGateModel" "rule" "I" : Cond) ∈ bg := bgf (tb_6 _ (List.mem_of_getElem? (i := 237) (by decide +kernel))) (by rfl)
theorem bg_1012 : (.fieldLink RX12 233 "ClassGateModel" "wrongAt" "I" : Cond) ∈ bg := bgf (tb_6 _ (List.mem_of_getElem? (i := 238) (by decide +kernel))) (by rfl)
theorem bg_1013 : (.code yX12_item cX12_item 3 (some .boolean) : Cond) ∈ bg := bgf (tb_7 _ (List.mem_of_getElem? (i := 233) (by rfl))) (by rfl)
theorem bg_1014 : (.fieldLink RX12 236 "ClassGateModel" "pos" "I" : Cond) ∈ bg := bgf (tb_7 _ (List.mem_of_getElem? (i := 0) (by decide +kernel))) (by rfl)
theorem bg_1015 : (.fieldLink RX12 239 "ClassGateModel" "size" "I" : Cond) ∈ bg := bgf (tb_6 _ (List.mem_of_getElem? (i := 206) (by decide +kernel))) (by rfl)
theorem bg_1016 : (.methodLink RX12 242 yX12_wrong : Cond) ∈ bg := bgf (tb_7 _ (List.mem_of_getElem? (i := 234) (by decide +kernel))) (by rfl)
theorem bg_1017 : (.instanceMethod yX12_wrong : Cond) ∈ bg := bgf (tb_7 _ (List.mem_of_getElem? (i := 236) (by decide +kernel))) (by rfl)
theorem bg_1018 : (.selects RX12 yX12_wrong yX12_wrong : Cond) ∈ bg := bgf (List.mem_of_getElem? (i := 83) (by decide +kernel)) (by rfl)
theorem bg_1019 : (.code yX12_tag cX12_tag 2 (some .int) : Cond) ∈ bg := bgf (tb_8 _ (List.mem_of_getElem? (i := 43) (by rfl))) (by rfl)
theorem bg_1020 : (.fieldLink RX12 246 "ClassGateModel" "cpN" "I" : Cond) ∈ bg := bgf (tb_7 _ (List.mem_of_getElem? (i := 2) (by decide +kernel))) (by rfl)
theorem bg_1021 : (.fieldLink RX12 249 "ClassGateModel" "cpBase" "I" : Cond) ∈ bg := bgf (tb_7 _ (List.mem_of_getElem? (i := 1) (by decide +kernel))) (by rfl)
theorem bg_1022 : (.code yX12_index cX12_index 3 (some .int) : Cond) ∈ bg := bgf (tb_8 _ (List.mem_of_getElem? (i := 39) (by rfl))) (by rfl)
theorem bg_1023 : (.code yX12_symOf cX12_symOf 2 (some .int) : Cond) ∈ bg := bgf (tb_8 _ (List.mem_of_getElem? (i := 47) (by rfl))) (by rfl)
theorem bg_1024 : (.code yX12_readFile cX12_readFile 3 (some .boolean) : Cond) ∈ bg := bgf (tb_7 _ (List.mem_of_getElem? (i := 228) (by rfl))) (by rfl)
theorem bg_1025 : (.constantLong RX12 252 4 : Cond) ∈ bg := bgf (tb_7 _ (List.mem_of_getElem? (i := 229) (by decide +kernel))) (by rfl)
theorem bg_1026 : (.methodLink RX12 254 yX12_item : Cond) ∈ bg := bgf (tb_7 _ (List.mem_of_getElem? (i := 230) (by decide +kernel))) (by rfl)
theorem bg_1027 : (.instanceMethod yX12_item : Cond) ∈ bg := bgf (tb_7 _ (List.mem_of_getElem? (i := 232) (by decide +kernel))) (by rfl)
theorem bg_1028 : (.selects RX12 yX12_item yX12_item : Cond) ∈ bg := bgf (List.mem_of_getElem? (i := 82) (by decide +kernel)) (by rfl)
theorem bg_1029 : (.methodLink RX12 258 yX12_u4 : Cond) ∈ bg := bgf (tb_7 _ (List.mem_of_getElem? (i := 238) (by decide +kernel))) (by rfl)
theorem bg_1030 : (.instanceMethod yX12_u4 : Cond) ∈ bg := bgf (tb_8 _ (List.mem_of_getElem? (i := 0) (by decide +kernel))) (by rfl)
theorem bg_1031 : (.selects RX12 yX12_u4 yX12_u4 : Cond) ∈ bg := bgf (List.mem_of_getElem? (i := 84) (by decide +kernel)) (by rfl)
theorem bg_1032 : (.constantLong RX12 262 3405691582 : Cond) ∈ bg := bgf (tb_8 _ (List.mem_of_getElem? (i := 10) (by decide +kernel))) (by rfl)
theorem bg_1033 : (.constantLong RX12 264 2 : Cond) ∈ bg := bgf (tb_8 _ (List.mem_of_getElem? (i := 11) (by decide +kernel))) (by rfl)
theorem bg_1034 : (.fieldLink RX12 266 "ClassGateModel" "major" "I" : Cond) ∈ bg := bgf (tb_7 _ (List.mem_of_getElem? (i := 3) (by decide +kernel))) (by rfl)
theorem bg_1035 : (.methodLink RX12 269 yX12_readPool : Cond) ∈ bg := bgf (tb_8 _ (List.mem_of_getElem? (i := 12) (by decide +kernel))) (by rfl)
theorem bg_1036 : (.code yX12_readPool cX12_readPool 6 (some .boolean) : Cond) ∈ bg := bgf (tb_8 _ (List.mem_of_getElem? (i := 15) (by rfl))) (by rfl)
theorem bg_1037 : (.instanceMethod yX12_readPool : Cond) ∈ bg := bgf (tb_8 _ (List.mem_of_getElem? (i := 14) (by decide +kernel))) (by rfl)
theorem bg_1038 : (.selects RX12 yX12_readPool yX12_readPool : Cond) ∈ bg := bgf (List.mem_of_getElem? (i := 87) (by decide +kernel)) (by rfl)
theorem bg_1039 : (.fieldLink RX12 273 "ClassGateModel" "headAt" "I" : Cond) ∈ bg := bgf (tb_7 _ (List.mem_of_getElem? (i := 4) (by decide +kernel))) (by rfl)
theorem bg_1040 : (.fieldLink RX12 276 "ClassGateModel" "fieldsAt" "I" : Cond) ∈ bg := bgf (tb_7 _ (List.mem_of_getElem? (i := 5) (by decide +kernel))) (by rfl)
theorem bg_1041 : (.methodLink RX12 279 yX12_members : Cond) ∈ bg := bgf (tb_8 _ (List.mem_of_getElem? (i := 20) (by decide +kernel))) (by rfl)
theorem bg_1042 : (.code yX12_members cX12_members 4 (some .boolean) : Cond) ∈ bg := bgf (tb_8 _ (List.mem_of_getElem? (i := 23) (by rfl))) (by rfl)
theorem bg_1043 : (.instanceMethod yX12_members : Cond) ∈ bg := bgf (tb_8 _ (List.mem_of_getElem? (i := 22) (by decide +kernel))) (by rfl)
theorem bg_1044 : (.selects RX12 yX12_members yX12_members : Cond) ∈ bg := bgf (List.mem_of_getElem? (i := 89) (by decide +kernel)) (by rfl)
theorem bg_1045 : (.fieldLink RX12 282 "ClassGateModel" "methodsAt" "I" : Cond) ∈ bg := bgf (tb_7 _ (List.mem_of_getElem? (i := 6) (by decide +kernel))) (by rfl)
theorem bg_1046 : (.fieldLink RX12 285 "ClassGateModel" "attributesAt" "I" : Cond) ∈ bg := bgf (tb_7 _ (List.mem_of_getElem? (i := 7) (by decide +kernel))) (by rfl)
theorem bg_1047 : (.methodLink RX12 288 yX12_attributes : Cond) ∈ bg := bgf (tb_8 _ (List.mem_of_getElem? (i := 24) (by decide +kernel))) (by rfl)
theorem bg_1048 : (.code yX12_attributes cX12_attributes 5 (some .boolean) : Cond) ∈ bg := bgf (tb_8 _ (List.mem_of_getElem? (i := 27) (by rfl))) (by rfl)
theorem bg_1049 : (.instanceMethod yX12_attributes : Cond) ∈ bg := bgf (tb_8 _ (List.mem_of_getElem? (i := 26) (by decide +kernel))) (by rfl)
theorem bg_1050 : (.selects RX12 yX12_attributes yX12_attributes : Cond) ∈ bg := bgf (List.mem_of_getElem? (i := 90) (by decide +kernel)) (by rfl)
theorem bg_1051 : (.methodLink RX12 291 yX12_utf8 : Cond) ∈ bg := bgf (tb_8 _ (List.mem_of_getElem? (i := 16) (by decide +kernel))) (by rfl)
theorem bg_1052 : (.code yX12_utf8 cX12_utf8 10 (some .boolean) : Cond) ∈ bg := bgf (tb_8 _ (List.mem_of_getElem? (i := 19) (by rfl))) (by rfl)
theorem bg_1053 : (.instanceMethod yX12_utf8 : Cond) ∈ bg := bgf (tb_8 _ (List.mem_of_getElem? (i := 18) (by decide +kernel))) (by rfl)
theorem bg_1054 : (.selects RX12 yX12_utf8 yX12_utf8 : Cond) ∈ bg := bgf (List.mem_of_getElem? (i := 88) (by decide +kernel)) (by rfl)
theorem bg_1055 : (.code yX12_unqualified cX12_unqualified 6 (some .boolean) : Cond) ∈ bg := bgf (tb_8 _ (List.mem_of_getElem? (i := 71) (by rfl))) (by rfl)
theorem bg_1056 : (.code yX12_classText cX12_classText 2 (some .boolean) : Cond) ∈ bg := bgf (tb_8 _ (List.mem_of_getElem? (i := 51) (by rfl))) (by rfl)
theorem bg_1057 : (.methodLink RX12 295 yX12_fieldText : Cond) ∈ bg := bgf (tb_8 _ (List.mem_of_getElem? (i := 60) (by decide +kernel))) (by rfl)
theorem bg_1058 : (.code yX12_fieldText cX12_fieldText 7 (some .int) : Cond) ∈ bg := bgf (tb_8 _ (List.mem_of_getElem? (i := 63) (by rfl))) (by rfl)
theorem bg_1059 : (.instanceMethod yX12_fieldText : Cond) ∈ bg := bgf (tb_8 _ (List.mem_of_getElem? (i := 62) (by decide +kernel))) (by rfl)
theorem bg_1060 : (.selects RX12 yX12_fieldText yX12_fieldText : Cond) ∈ bg := bgf (List.mem_of_getElem? (i := 99) (by decide +kernel)) (by rfl)
theorem bg_1061 : (.methodLink RX12 299 yX12_nameText : Cond) ∈ bg := bgf (tb_8 _ (List.mem_of_getElem? (i := 64) (by decide +kernel))) (by rfl)
theorem bg_1062 : (.code yX12_nameText cX12_nameText 7 (some .boolean) : Cond) ∈ bg := bgf (tb_8 _ (List.mem_of_getElem? (i := 67) (by rfl))) (by rfl)
theorem bg_1063 : (.instanceMethod yX12_nameText : Cond) ∈ bg := bgf (tb_8 _ (List.mem_of_getElem? (i := 66) (by decide +kernel))) (by rfl)
theorem bg_1064 : (.selects RX12 yX12_nameText yX12_nameText : Cond) ∈ bg := bgf (List.mem_of_getElem? (i := 100) (by decide +kernel)) (by rfl)
theorem bg_1065 : (.code yX12_isField cX12_isField 2 (some .boolean) : Cond) ∈ bg := bgf (tb_8 _ (List.mem_of_getElem? (i := 75) (by rfl))) (by rfl)
theorem bg_1066 : (.code yX12_isMethod cX12_isMethod 4 (some .boolean) : Cond) ∈ bg := bgf (tb_8 _ (List.mem_of_getElem? (i := 79) (by rfl))) (by rfl)
theorem bg_1067 : (.methodLink RX12 302 yX12_places0 : Cond) ∈ bg := bgf (tb_8 _ (List.mem_of_getElem? (i := 80) (by decide +kernel))) (by rfl)
theorem bg_1068 : (.code yX12_places0 cX12_places0 5 (some .int) : Cond) ∈ bg := bgf (tb_8 _ (List.mem_of_getElem? (i := 83) (by rfl))) (by rfl)
theorem bg_1069 : (.instanceMethod yX12_places0 : Cond) ∈ bg := bgf (tb_8 _ (List.mem_of_getElem? (i := 82) (by decide +kernel))) (by rfl)
theorem bg_1070 : (.selects RX12 yX12_places0 yX12_places0 : Cond) ∈ bg := bgf (List.mem_of_getElem? (i := 104) (by decide +kernel)) (by rfl)
theorem bg_1071 : (.code yX12_endsV cX12_endsV 2 (some .boolean) : Cond) ∈ bg := bgf (tb_8 _ (List.mem_of_getElem? (i := 91) (by rfl))) (by rfl)
theorem bg_1072 : (.code yX12_checkPool cX12_checkPool 8 (some .boolean) : Cond) ∈ bg := bgf (tb_8 _ (List.mem_of_getElem? (i := 31) (by rfl))) (by rfl)
theorem bg_1073 : (.methodLink RX12 305 yX12_indexes : Cond) ∈ bg := bgf (tb_8 _ (List.mem_of_getElem? (i := 32) (by decide +kernel))) (by rfl)
theorem bg_1074 : (.code yX12_indexes cX12_indexes 5 (some .boolean) : Cond) ∈ bg := bgf (tb_8 _ (List.mem_of_getElem? (i := 35) (by rfl))) (by rfl)
theorem bg_1075 : (.instanceMethod yX12_indexes : Cond) ∈ bg := bgf (tb_8 _ (List.mem_of_getElem? (i := 34) (by decide +kernel))) (by rfl)
theorem bg_1076 : (.selects RX12 yX12_indexes yX12_indexes : Cond) ∈ bg := bgf (List.mem_of_getElem? (i := 92) (by decide +kernel)) (by rfl)
theorem bg_1077 : (.methodLink RX12 309 yX12_index : Cond) ∈ bg := bgf (tb_8 _ (List.mem_of_getElem? (i := 36) (by decide +kernel))) (by rfl)
theorem bg_1078 : (.instanceMethod yX12_index : Cond) ∈ bg := bgf (tb_8 _ (List.mem_of_getElem? (i := 38) (by decide +kernel))) (by rfl)
theorem bg_1079 : (.selects RX12 yX12_index yX12_index : Cond) ∈ bg := bgf (List.mem_of_getElem? (i := 93) (by decide +kernel)) (by rfl)
theorem bg_1080 : (.methodLink RX12 312 yX12_symOf : Cond) ∈ bg := bgf (tb_8 _ (List.mem_of_getElem? (i := 44) (by decide +kernel))) (by rfl)
theorem bg_1081 : (.instanceMethod yX12_symOf : Cond) ∈ bg := bgf (tb_8 _ (List.mem_of_getElem? (i := 46) (by decide +kernel))) (by rfl)
theorem bg_1082 : (.selects RX12 yX12_symOf yX12_symOf : Cond) ∈ bg := bgf (List.mem_of_getElem? (i := 95) (by decide +kernel)) (by rfl)
theorem bg_1083 : (.methodLink RX12 315 yX12_classText : Cond) ∈ bg := bgf (tb_8 _ (List.mem_of_getElem? (i := 48) (by decide +kernel))) (by rfl)
theorem bg_1084 : (.instanceMethod yX12_classText : Cond) ∈ bg := bgf (tb_8 _ (List.mem_of_getElem? (i := 50) (by decide +kernel))) (by rfl)
theorem bg_1085 : (.selects RX12 yX12_classText yX12_classText : Cond) ∈ bg := bgf (List.mem_of_getElem? (i := 96) (by decide +kernel)) (by rfl)
theorem bg_1086 : (.methodLink RX12 319 yX12_unqualified : Cond) ∈ bg := bgf (tb_8 _ (List.mem_of_getElem? (i := 68) (by decide +kernel))) (by rfl)
theorem bg_1087 : (.instanceMethod yX12_unqualified : Cond) ∈ bg := bgf (tb_8 _ (List.mem_of_getElem? (i := 70) (by decide +kernel))) (by rfl)
theorem bg_1088 : (.selects RX12 yX12_unqualified yX12_unqualified : Cond) ∈ bg := bgf (List.mem_of_getElem? (i := 101) (by decide +kernel)) (by rfl)
theorem bg_1089 : (.methodLink RX12 323 yX12_isField : Cond) ∈ bg := bgf (tb_8 _ (List.mem_of_getElem? (i := 72) (by decide +kernel))) (by rfl)
theorem bg_1090 : (.instanceMethod yX12_isField : Cond) ∈ bg := bgf (tb_8 _ (List.mem_of_getElem? (i := 74) (by decide +kernel))) (by rfl)
theorem bg_1091 : (.selects RX12 yX12_isField yX12_isField : Cond) ∈ bg := bgf (List.mem_of_getElem? (i := 102) (by decide +kernel)) (by rfl)
theorem bg_1092 : (.methodLink RX12 326 yX12_isMethod : Cond) ∈ bg := bgf (tb_8 _ (List.mem_of_getElem? (i := 76) (by decide +kernel))) (by rfl)
theorem bg_1093 : (.instanceMethod yX12_isMethod : Cond) ∈ bg := bgf (tb_8 _ (List.mem_of_getElem? (i := 78) (by decide +kernel))) (by rfl)
theorem bg_1094 : (.selects RX12 yX12_isMethod yX12_isMethod : Cond) ∈ bg := bgf (List.mem_of_getElem? (i := 103) (by decide +kernel)) (by rfl)
theorem bg_1095 : (.methodLink RX12 329 yX12_angles : Cond) ∈ bg := bgf (tb_8 _ (List.mem_of_getElem? (i := 84) (by decide +kernel))) (by rfl)
theorem bg_1096 : (.code yX12_angles cX12_angles 3 (some .boolean) : Cond) ∈ bg := bgf (tb_8 _ (List.mem_of_getElem? (i := 87) (by rfl))) (by rfl)
theorem bg_1097 : (.instanceMethod yX12_angles : Cond) ∈ bg := bgf (tb_8 _ (List.mem_of_getElem? (i := 86) (by decide +kernel))) (by rfl)
theorem bg_1098 : (.selects RX12 yX12_angles yX12_angles : Cond) ∈ bg := bgf (List.mem_of_getElem? (i := 105) (by decide +kernel)) (by rfl)
theorem bg_1099 : (.methodLink RX12 332 yX12_endsV : Cond) ∈ bg := bgf (tb_8 _ (List.mem_of_getElem? (i := 88) (by decide +kernel))) (by rfl)
theorem bg_1100 : (.instanceMethod yX12_endsV : Cond) ∈ bg := bgf (tb_8 _ (List.mem_of_getElem? (i := 90) (by decide +kernel))) (by rfl)
theorem bg_1101 : (.selects RX12 yX12_endsV yX12_endsV : Cond) ∈ bg := bgf (List.mem_of_getElem? (i := 106) (by decide +kernel)) (by rfl)
theorem bg_1102 : (.methodLink RX12 335 yX12_handleEntry : Cond) ∈ bg := bgf (tb_8 _ (List.mem_of_getElem? (i := 92) (by decide +kernel))) (by rfl)
theorem bg_1103 : (.code yX12_handleEntry cX12_handleEntry 6 (some .boolean) : Cond) ∈ bg := bgf (tb_8 _ (List.mem_of_getElem? (i := 95) (by rfl))) (by rfl)
theorem bg_1104 : (.instanceMethod yX12_handleEntry : Cond) ∈ bg := bgf (tb_8 _ (List.mem_of_getElem? (i := 94) (by decide +kernel))) (by rfl)
theorem bg_1105 : (.selects RX12 yX12_handleEntry yX12_handleEntry : Cond) ∈ bg := bgf (List.mem_of_getElem? (i := 107) (by decide +kernel)) (by rfl)
theorem bg_1106 : (.methodLink RX12 338 yX12_tag : Cond) ∈ bg := bgf (tb_8 _ (List.mem_of_getElem? (i := 40) (by decide +kernel))) (by rfl)
theorem bg_1107 : (.instanceMethod yX12_tag : Cond) ∈ bg := bgf (tb_8 _ (List.mem_of_getElem? (i := 42) (by decide +kernel))) (by rfl)
theorem bg_1108 : (.selects RX12 yX12_tag yX12_tag : Cond) ∈ bg := bgf (List.mem_of_getElem? (i := 94) (by decide +kernel)) (by rfl)
theorem bg_1109 : (.code yX12_className cX12_className 2 (some .int) : Cond) ∈ bg := bgf (tb_8 _ (List.mem_of_getElem? (i := 108) (by rfl))) (by rfl)
theorem bg_1110 : (.code yX12_plainClass cX12_plainClass 2 (some .boolean) : Cond) ∈ bg := bgf (tb_8 _ (List.mem_of_getElem? (i := 104) (by rfl))) (by rfl)
theorem bg_1111 : (.methodLink RX12 341 yX12_className : Cond) ∈ bg := bgf (tb_8 _ (List.mem_of_getElem? (i := 105) (by decide +kernel))) (by rfl)
theorem bg_1112 : (.instanceMethod yX12_className : Cond) ∈ bg := bgf (tb_8 _ (List.mem_of_getElem? (i := 107) (by decide +kernel))) (by rfl)
theorem bg_1113 : (.selects RX12 yX12_className yX12_className : Cond) ∈ bg := bgf (List.mem_of_getElem? (i := 110) (by decide +kernel)) (by rfl)
theorem bg_1114 : (.code yX12_checkClass cX12_checkClass 8 (some .boolean) : Cond) ∈ bg := bgf (tb_8 _ (List.mem_of_getElem? (i := 99) (by rfl))) (by rfl)
theorem bg_1115 : (.fieldLink RX12 344 "ClassGateModel" "newFlags" "I" : Cond) ∈ bg := bgf (tb_7 _ (List.mem_of_getElem? (i := 8) (by decide +kernel))) (by rfl)
theorem bg_1116 : (.methodLink RX12 348 yX12_plainClass : Cond) ∈ bg := bgf (tb_8 _ (List.mem_of_getElem? (i := 101) (by decide +kernel))) (by rfl)
theorem bg_1117 : (.instanceMethod yX12_plainClass : Cond) ∈ bg := bgf (tb_8 _ (List.mem_of_getElem? (i := 103) (by decide +kernel))) (by rfl)
theorem bg_1118 : (.selects RX12 yX12_plainClass yX12_plainClass : Cond) ∈ bg := bgf (List.mem_of_getElem? (i := 109) (by decide +kernel)) (by rfl)
theorem bg_1119 : (.fieldLink RX12 351 "ClassGateModel" "newName" "I" : Cond) ∈ bg := bgf (tb_7 _ (List.mem_of_getElem? (i := 9) (by decide +kernel))) (by rfl)
theorem bg_1120 : (.fieldLink RX12 354 "ClassGateModel" "newSuper" "I" : Cond) ∈ bg := bgf (tb_7 _ (List.mem_of_getElem? (i := 10) (by decide +kernel))) (by rfl)
theorem bg_1121 : (.fieldLink RX12 357 "ClassGateModel" "newIfs" "I" : Cond) ∈ bg := bgf (tb_7 _ (List.mem_of_getElem? (i := 11) (by decide +kernel))) (by rfl)
theorem bg_1122 : (.code yX12_several cX12_several 4 (some .boolean) : Cond) ∈ bg := bgf (tb_8 _ (List.mem_of_getElem? (i := 115) (by rfl))) (by rfl)
theorem bg_1123 : (.code yX12_checkFields cX12_checkFields 8 (some .boolean) : Cond) ∈ bg := bgf (tb_8 _ (List.mem_of_getElem? (i := 112) (by rfl))) (by rfl)
theorem bg_1124 : (.methodLink RX12 360 yX12_several : Cond) ∈ bg := bgf (tb_8 _ (List.mem_of_getElem? (i := 113) (by decide +kernel))) (by rfl)
theorem bg_1125 : (.static yX12_several : Cond) ∈ bg := bgf (tb_8 _ (List.mem_of_getElem? (i := 114) (by decide +kernel))) (by rfl)
theorem bg_1126 : (.methodLink RX12 364 yX12_checkAttributes : Cond) ∈ bg := bgf (tb_8 _ (List.mem_of_getElem? (i := 116) (by decide +kernel))) (by rfl)
theorem bg_1127 : (.code yX12_checkAttributes cX12_checkAttributes 12 (some .int) : Cond) ∈ bg := bgf (tb_8 _ (List.mem_of_getElem? (i := 119) (by rfl))) (by rfl)
theorem bg_1128 : (.instanceMethod yX12_checkAttributes : Cond) ∈ bg := bgf (tb_8 _ (List.mem_of_getElem? (i := 118) (by decide +kernel))) (by rfl)
theorem bg_1129 : (.selects RX12 yX12_checkAttributes yX12_checkAttributes : Cond) ∈ bg := bgf (List.mem_of_getElem? (i := 112) (by decide +kernel)) (by rfl)
theorem bg_1130 : (.code yX12_checkMethods cX12_checkMethods 14 (some .boolean) : Cond) ∈ bg := bgf (tb_8 _ (List.mem_of_getElem? (i := 145) (by rfl))) (by rfl)
theorem bg_1131 : (.methodLink RX12 368 yX12_flagsFit : Cond) ∈ bg := bgf (tb_8 _ (List.mem_of_getElem? (i := 146) (by decide +kernel))) (by rfl)
theorem bg_1132 : (.code yX12_flagsFit cX12_flagsFit 5 (some .boolean) : Cond) ∈ bg := bgf (tb_8 _ (List.mem_of_getElem? (i := 149) (by rfl))) (by rfl)
theorem bg_1133 : (.instanceMethod yX12_flagsFit : Cond) ∈ bg := bgf (tb_8 _ (List.mem_of_getElem? (i := 148) (by decide +kernel))) (by rfl)
theorem bg_1134 : (.selects RX12 yX12_flagsFit yX12_flagsFit : Cond) ∈ bg := bgf (List.mem_of_getElem? (i := 119) (by decide +kernel)) (by rfl)
theorem bg_1135 : (.methodLink RX12 372 yX12_is : Cond) ∈ bg := bgf (tb_8 _ (List.mem_of_getElem? (i := 120) (by decide +kernel))) (by rfl)
theorem bg_1136 : (.instanceMethod yX12_is : Cond) ∈ bg := bgf (tb_8 _ (List.mem_of_getElem? (i := 122) (by decide +kernel))) (by rfl)
theorem bg_1137 : (.selects RX12 yX12_is yX12_is : Cond) ∈ bg := bgf (List.mem_of_getElem? (i := 113) (by decide +kernel)) (by rfl)
theorem bg_1138 : (.fieldLink RX12 376 "ClassGateModel" "newKnown" "I" : Cond) ∈ bg := bgf (tb_7 _ (List.mem_of_getElem? (i := 16) (by decide +kernel))) (by rfl)
theorem bg_1139 : (.methodLink RX12 379 yX12_attribute : Cond) ∈ bg := bgf (tb_8 _ (List.mem_of_getElem? (i := 124) (by decide +kernel))) (by rfl)
theorem bg_1140 : (.code yX12_attribute cX12_attribute 11 (some .int) : Cond) ∈ bg := bgf (tb_8 _ (List.mem_of_getElem? (i := 127) (by rfl))) (by rfl)
theorem bg_1141 : (.instanceMethod yX12_attribute : Cond) ∈ bg := bgf (tb_8 _ (List.mem_of_getElem? (i := 126) (by decide +kernel))) (by rfl)
theorem bg_1142 : (.selects RX12 yX12_attribute yX12_attribute : Cond) ∈ bg := bgf (List.mem_of_getElem? (i := 114) (by decide +kernel)) (by rfl)
theorem bg_1143 : (.methodLink RX12 385 yX12_code : Cond) ∈ bg := bgf (tb_8 _ (List.mem_of_getElem? (i := 129) (by decide +kernel))) (by rfl)
theorem bg_1144 : (.code yX12_code cX12_code 15 (some .int) : Cond) ∈ bg := bgf (tb_8 _ (List.mem_of_getElem? (i := 132) (by rfl))) (by rfl)
theorem bg_1145 : (.instanceMethod yX12_code : Cond) ∈ bg := bgf (tb_8 _ (List.mem_of_getElem? (i := 131) (by decide +kernel))) (by rfl)
theorem bg_1146 : (.selects RX12 yX12_code yX12_code : Cond) ∈ bg := bgf (List.mem_of_getElem? (i := 115) (by decide +kernel)) (by rfl)
theorem bg_1147 : (.fieldLink RX12 389 "ClassGateModel" "newMembers" "I" : Cond) ∈ bg := bgf (tb_7 _ (List.mem_of_getElem? (i := 18) (by decide +kernel))) (by rfl)
theorem bg_1148 : (.fieldLink RX12 392 "ClassGateModel" "newPermitted" "I" : Cond) ∈ bg := bgf (tb_7 _ (List.mem_of_getElem? (i := 19) (by decide +kernel))) (by rfl)
theorem bg_1149 : (.fieldLink RX12 395 "ClassGateModel" "newInners" "I" : Cond) ∈ bg := bgf (tb_7 _ (List.mem_of_getElem? (i := 15) (by decide +kernel))) (by rfl)
theorem bg_1150 : (.methodLink RX12 398 yX12_bootstraps : Cond) ∈ bg := bgf (tb_8 _ (List.mem_of_getElem? (i := 134) (by decide +kernel))) (by rfl)
theorem bg_1151 : (.code yX12_bootstraps cX12_bootstraps 8 (some .int) : Cond) ∈ bg := bgf (tb_8 _ (List.mem_of_getElem? (i := 137) (by rfl))) (by rfl)
theorem bg_1152 : (.instanceMethod yX12_bootstraps : Cond) ∈ bg := bgf (tb_8 _ (List.mem_of_getElem? (i := 136) (by decide +kernel))) (by rfl)
theorem bg_1153 : (.selects RX12 yX12_bootstraps yX12_bootstraps : Cond) ∈ bg := bgf (List.mem_of_getElem? (i := 116) (by decide +kernel)) (by rfl)
theorem bg_1154 : (.fieldLink RX12 401 "ClassGateModel" "newHost" "I" : Cond) ∈ bg := bgf (tb_7 _ (List.mem_of_getElem? (i := 17) (by decide +kernel))) (by rfl)
theorem bg_1155 : (.methodLink RX12 404 yX12_components : Cond) ∈ bg := bgf (tb_8 _ (List.mem_of_getElem? (i := 138) (by decide +kernel))) (by rfl)
theorem bg_1156 : (.code yX12_components cX12_components 8 (some .int) : Cond) ∈ bg := bgf (tb_8 _ (List.mem_of_getElem? (i := 141) (by rfl))) (by rfl)
theorem bg_1157 : (.instanceMethod yX12_components : Cond) ∈ bg := bgf (tb_8 _ (List.mem_of_getElem? (i := 140) (by decide +kernel))) (by rfl)
theorem bg_1158 : (.selects RX12 yX12_components yX12_components : Cond) ∈ bg := bgf (List.mem_of_getElem? (i := 117) (by decide +kernel)) (by rfl)
theorem bg_1159 : (.fieldLink RX12 407 "ClassGateModel" "newBoot" "I" : Cond) ∈ bg := bgf (tb_7 _ (List.mem_of_getElem? (i := 20) (by decide +kernel))) (by rfl)
theorem bg_1160 : (.fieldLink RX12 410 "ClassGateModel" "newBootN" "I" : Cond) ∈ bg := bgf (tb_7 _ (List.mem_of_getElem? (i := 21) (by decide +kernel))) (by rfl)
theorem bg_1161 : (.fieldLink RX12 413 "ClassGateModel" "newRecord" "I" : Cond) ∈ bg := bgf (tb_7 _ (List.mem_of_getElem? (i := 22) (by decide +kernel))) (by rfl)
theorem bg_1162 : (.constantLong RX12 416 65535 : Cond) ∈ bg := bgf (tb_8 _ (List.mem_of_getElem? (i := 133) (by decide +kernel))) (by rfl)
theorem bg_1163 : (.code yX12_checkFile cX12_checkFile 3 (some .boolean) : Cond) ∈ bg := bgf (tb_7 _ (List.mem_of_getElem? (i := 224) (by rfl))) (by rfl)
theorem bg_1164 : (.methodLink RX12 418 yX12_readFile : Cond) ∈ bg := bgf (tb_7 _ (List.mem_of_getElem? (i := 225) (by decide +kernel))) (by rfl)
theorem bg_1165 : (.instanceMethod yX12_readFile : Cond) ∈ bg := bgf (tb_7 _ (List.mem_of_getElem? (i := 227) (by decide +kernel))) (by rfl)
theorem bg_1166 : (.selects RX12 yX12_readFile yX12_readFile : Cond) ∈ bg := bgf (List.mem_of_getElem? (i := 81) (by decide +kernel)) (by rfl)
theorem bg_1167 : (.methodLink RX12 421 yX12_checkPool : Cond) ∈ bg := bgf (tb_8 _ (List.mem_of_getElem? (i := 28) (by decide +kernel))) (by rfl)
theorem bg_1168 : (.instanceMethod yX12_checkPool : Cond) ∈ bg := bgf (tb_8 _ (List.mem_of_getElem? (i := 30) (by decide +kernel))) (by rfl)
theorem bg_1169 : (.selects RX12 yX12_checkPool yX12_checkPool : Cond) ∈ bg := bgf (List.mem_of_getElem? (i := 91) (by decide +kernel)) (by rfl)
theorem bg_1170 : (.methodLink RX12 424 yX12_checkClass : Cond) ∈ bg := bgf (tb_8 _ (List.mem_of_getElem? (i := 96) (by decide +kernel))) (by rfl)
theorem bg_1171 : (.instanceMethod yX12_checkClass : Cond) ∈ bg := bgf (tb_8 _ (List.mem_of_getElem? (i := 98) (by decide +kernel))) (by rfl)
theorem bg_1172 : (.selects RX12 yX12_checkClass yX12_checkClass : Cond) ∈ bg := bgf (List.mem_of_getElem? (i := 108) (by decide +kernel)) (by rfl)
theorem bg_1173 : (.methodLink RX12 427 yX12_checkFields : Cond) ∈ bg := bgf (tb_8 _ (List.mem_of_getElem? (i := 109) (by decide +kernel))) (by rfl)
theorem bg_1174 : (.instanceMethod yX12_checkFields : Cond) ∈ bg := bgf (tb_8 _ (List.mem_of_getElem? (i := 111) (by decide +kernel))) (by rfl)
theorem bg_1175 : (.selects RX12 yX12_checkFields yX12_checkFields : Cond) ∈ bg := bgf (List.mem_of_getElem? (i := 111) (by decide +kernel)) (by rfl)
theorem bg_1176 : (.methodLink RX12 430 yX12_checkMethods : Cond) ∈ bg := bgf (tb_8 _ (List.mem_of_getElem? (i := 142) (by decide +kernel))) (by rfl)
theorem bg_1177 : (.instanceMethod yX12_checkMethods : Cond) ∈ bg := bgf (tb_8 _ (List.mem_of_getElem? (i := 144) (by decide +kernel))) (by rfl)
theorem bg_1178 : (.selects RX12 yX12_checkMethods yX12_checkMethods : Cond) ∈ bg := bgf (List.mem_of_getElem? (i := 118) (by decide +kernel)) (by rfl)
theorem bg_1179 : (.code yX12_feed cX12_feed 6 (some .int) : Cond) ∈ bg := bgf (tb_7 _ (List.mem_of_getElem? (i := 200) (by rfl))) (by rfl)
theorem bg_1180 : (.fieldLink RX12 1 "ClassGateModel" "thrown" "I" : Cond) ∈ bg := bgf (tb_6 _ (List.mem_of_getElem? (i := 190) (by decide +kernel))) (by rfl)
theorem bg_1181 : (.fieldLink RX12 433 "ClassGateModel" "cameN" "I" : Cond) ∈ bg := bgf (tb_6 _ (List.mem_of_getElem? (i := 209) (by decide +kernel))) (by rfl)
theorem bg_1182 : (.methodLink RX12 436 yX12_four : Cond) ∈ bg := bgf (tb_7 _ (List.mem_of_getElem? (i := 201) (by decide +kernel))) (by rfl)
theorem bg_1183 : (.code yX12_four cX12_four 3 none : Cond) ∈ bg := bgf (tb_7 _ (List.mem_of_getElem? (i := 204) (by rfl))) (by rfl)
theorem bg_1184 : (.instanceMethod yX12_four : Cond) ∈ bg := bgf (tb_7 _ (List.mem_of_getElem? (i := 203) (by decide +kernel))) (by rfl)
theorem bg_1185 : (.selects RX12 yX12_four yX12_four : Cond) ∈ bg := bgf (List.mem_of_getElem? (i := 77) (by decide +kernel)) (by rfl)
theorem bg_1186 : (.code yX12_bad cX12_bad 1 (some .int) : Cond) ∈ bg := bgf (tb_7 _ (List.mem_of_getElem? (i := 212) (by rfl))) (by rfl)
theorem bg_1187 : (.code yX12_end cX12_end 3 (some .int) : Cond) ∈ bg := bgf (tb_7 _ (List.mem_of_getElem? (i := 208) (by rfl))) (by rfl)
theorem bg_1188 : (.methodLink RX12 440 yX12_bad : Cond) ∈ bg := bgf (tb_7 _ (List.mem_of_getElem? (i := 209) (by decide +kernel))) (by rfl)
theorem bg_1189 : (.instanceMethod yX12_bad : Cond) ∈ bg := bgf (tb_7 _ (List.mem_of_getElem? (i := 211) (by decide +kernel))) (by rfl)
theorem bg_1190 : (.selects RX12 yX12_bad yX12_bad : Cond) ∈ bg := bgf (List.mem_of_getElem? (i := 78) (by decide +kernel)) (by rfl)
theorem bg_1191 : (.fieldLink RX12 443 "ClassGateModel" "fileN" "I" : Cond) ∈ bg := bgf (tb_6 _ (List.mem_of_getElem? (i := 207) (by decide +kernel))) (by rfl)
theorem bg_1192 : (.code yX12_read cX12_read 4 (some .int) : Cond) ∈ bg := bgf (tb_7 _ (List.mem_of_getElem? (i := 216) (by rfl))) (by rfl)
theorem bg_1193 : (.methodLink RX12 446 yX12_parse : Cond) ∈ bg := bgf (tb_7 _ (List.mem_of_getElem? (i := 217) (by decide +kernel))) (by rfl)
theorem bg_1194 : (.code yX12_parse cX12_parse 4 (some .boolean) : Cond) ∈ bg := bgf (tb_7 _ (List.mem_of_getElem? (i := 220) (by rfl))) (by rfl)
theorem bg_1195 : (.instanceMethod yX12_parse : Cond) ∈ bg := bgf (tb_7 _ (List.mem_of_getElem? (i := 219) (by decide +kernel))) (by rfl)
theorem bg_1196 : (.selects RX12 yX12_parse yX12_parse : Cond) ∈ bg := bgf (List.mem_of_getElem? (i := 79) (by decide +kernel)) (by rfl)
theorem bg_1197 : (.methodLink RX12 450 yX12_checkFile : Cond) ∈ bg := bgf (tb_7 _ (List.mem_of_getElem? (i := 221) (by decide +kernel))) (by rfl)
theorem bg_1198 : (.instanceMethod yX12_checkFile : Cond) ∈ bg := bgf (tb_7 _ (List.mem_of_getElem? (i := 223) (by decide +kernel))) (by rfl)
theorem bg_1199 : (.selects RX12 yX12_checkFile yX12_checkFile : Cond) ∈ bg := bgf (List.mem_of_getElem? (i := 80) (by decide +kernel)) (by rfl)
end
section
theorem bg_1200 : (.code yX12_place cX12_place 1 (some .int) : Cond) ∈ bg := bgf (tb_8 _ (List.mem_of_getElem? (i := 153) (by rfl))) (by rfl)
theorem bg_1201 : (.code yX12_count cX12_count 4 (some .int) : Cond) ∈ bg := bgf (tb_8 _ (List.mem_of_getElem? (i := 157) (by rfl))) (by rfl)
theorem bg_1202 : (.code yX12_entry cX12_entry 4 (some .int) : Cond) ∈ bg := bgf (tb_8 _ (List.mem_of_getElem? (i := 161) (by rfl))) (by rfl)
theorem bg_1203 : (.code yX12_bits cX12_bits 3 (some .long) : Cond) ∈ bg := bgf (tb_8 _ (List.mem_of_getElem? (i := 165) (by rfl))) (by rfl)
theorem bg_1204 : (.code yX12_character cX12_character 3 (some .int) : Cond) ∈ bg := bgf (tb_8 _ (List.mem_of_getElem? (i := 169) (by rfl))) (by rfl)
theorem bg_1205 : (.code yX12_member cX12_member 4 (some .int) : Cond) ∈ bg := bgf (tb_8 _ (List.mem_of_getElem? (i := 173) (by rfl))) (by rfl)
theorem bg_1206 : (.code yX12_find cX12_find 7 (some .int) : Cond) ∈ bg := bgf (tb_8 _ (List.mem_of_getElem? (i := 177) (by rfl))) (by rfl)
theorem bg_1207 : (.code yX12_row cX12_row 4 (some .int) : Cond) ∈ bg := bgf (tb_8 _ (List.mem_of_getElem? (i := 181) (by rfl))) (by rfl)
theorem bg_1208 : (.code yX12_bootstrap cX12_bootstrap 5 (some .int) : Cond) ∈ bg := bgf (tb_8 _ (List.mem_of_getElem? (i := 185) (by rfl))) (by rfl)
theorem bg_1209 : (.code yX12_places cX12_places 5 (some .int) : Cond) ∈ bg := bgf (tb_8 _ (List.mem_of_getElem? (i := 189) (by rfl))) (by rfl)
theorem bg_1210 : (.methodLink RX12 453 yX12_wide : Cond) ∈ bg := bgf (tb_8 _ (List.mem_of_getElem? (i := 190) (by decide +kernel))) (by rfl)
theorem bg_1211 : (.code yX12_wide cX12_wide 3 (some .boolean) : Cond) ∈ bg := bgf (tb_8 _ (List.mem_of_getElem? (i := 193) (by rfl))) (by rfl)
theorem bg_1212 : (.instanceMethod yX12_wide : Cond) ∈ bg := bgf (tb_8 _ (List.mem_of_getElem? (i := 192) (by decide +kernel))) (by rfl)
theorem bg_1213 : (.selects RX12 yX12_wide yX12_wide : Cond) ∈ bg := bgf (List.mem_of_getElem? (i := 120) (by decide +kernel)) (by rfl)
theorem bg_1214 : (.code yX12_b1 cX12_b1 2 (some .int) : Cond) ∈ bg := bgf (tb_8 _ (List.mem_of_getElem? (i := 209) (by rfl))) (by rfl)
theorem bg_1215 : (.fieldLink RX12 456 "ClassGateModel" "codeAt" "I" : Cond) ∈ bg := bgf (tb_7 _ (List.mem_of_getElem? (i := 27) (by decide +kernel))) (by rfl)
theorem bg_1216 : (.code yX12_b2 cX12_b2 2 (some .int) : Cond) ∈ bg := bgf (tb_8 _ (List.mem_of_getElem? (i := 235) (by rfl))) (by rfl)
theorem bg_1217 : (.code yX12_s2 cX12_s2 2 (some .int) : Cond) ∈ bg := bgf (tb_9 _ (List.mem_of_getElem? (i := 11) (by rfl))) (by rfl)
theorem bg_1218 : (.methodLink RX12 459 yX12_b2 : Cond) ∈ bg := bgf (tb_8 _ (List.mem_of_getElem? (i := 232) (by decide +kernel))) (by rfl)
theorem bg_1219 : (.instanceMethod yX12_b2 : Cond) ∈ bg := bgf (tb_8 _ (List.mem_of_getElem? (i := 234) (by decide +kernel))) (by rfl)
theorem bg_1220 : (.selects RX12 yX12_b2 yX12_b2 : Cond) ∈ bg := bgf (List.mem_of_getElem? (i := 128) (by decide +kernel)) (by rfl)
theorem bg_1221 : (.code yX12_b4 cX12_b4 2 (some .int) : Cond) ∈ bg := bgf (tb_8 _ (List.mem_of_getElem? (i := 220) (by rfl))) (by rfl)
theorem bg_1222 : (.code yX12_pad cX12_pad 1 (some .int) : Cond) ∈ bg := bgf (tb_8 _ (List.mem_of_getElem? (i := 216) (by rfl))) (by rfl)
theorem bg_1223 : (.code yX12_noCode cX12_noCode 2 (some .boolean) : Cond) ∈ bg := bgf (tb_8 _ (List.mem_of_getElem? (i := 201) (by rfl))) (by rfl)
theorem bg_1224 : (.code yX12_cuts cX12_cuts 5 (some .boolean) : Cond) ∈ bg := bgf (tb_8 _ (List.mem_of_getElem? (i := 205) (by rfl))) (by rfl)
theorem bg_1225 : (.fieldLink RX12 462 "ClassGateModel" "wrongCode" "I" : Cond) ∈ bg := bgf (tb_7 _ (List.mem_of_getElem? (i := 26) (by decide +kernel))) (by rfl)
theorem bg_1226 : (.fieldLink RX12 465 "ClassGateModel" "codeLen" "I" : Cond) ∈ bg := bgf (tb_7 _ (List.mem_of_getElem? (i := 28) (by decide +kernel))) (by rfl)
theorem bg_1227 : (.fieldLink RX12 468 "ClassGateModel" "maxL" "I" : Cond) ∈ bg := bgf (tb_7 _ (List.mem_of_getElem? (i := 29) (by decide +kernel))) (by rfl)
theorem bg_1228 : (.fieldLink RX12 471 "ClassGateModel" "many" "I" : Cond) ∈ bg := bgf (tb_7 _ (List.mem_of_getElem? (i := 25) (by decide +kernel))) (by rfl)
theorem bg_1229 : (.methodLink RX12 474 yX12_b1 : Cond) ∈ bg := bgf (tb_8 _ (List.mem_of_getElem? (i := 206) (by decide +kernel))) (by rfl)
theorem bg_1230 : (.instanceMethod yX12_b1 : Cond) ∈ bg := bgf (tb_8 _ (List.mem_of_getElem? (i := 208) (by decide +kernel))) (by rfl)
theorem bg_1231 : (.selects RX12 yX12_b1 yX12_b1 : Cond) ∈ bg := bgf (List.mem_of_getElem? (i := 123) (by decide +kernel)) (by rfl)
theorem bg_1232 : (.methodLink RX12 477 yX12_formed : Cond) ∈ bg := bgf (tb_8 _ (List.mem_of_getElem? (i := 210) (by decide +kernel))) (by rfl)
theorem bg_1233 : (.code yX12_formed cX12_formed 7 (some .int) : Cond) ∈ bg := bgf (tb_8 _ (List.mem_of_getElem? (i := 213) (by rfl))) (by rfl)
theorem bg_1234 : (.instanceMethod yX12_formed : Cond) ∈ bg := bgf (tb_8 _ (List.mem_of_getElem? (i := 212) (by decide +kernel))) (by rfl)
theorem bg_1235 : (.selects RX12 yX12_formed yX12_formed : Cond) ∈ bg := bgf (List.mem_of_getElem? (i := 124) (by decide +kernel)) (by rfl)
theorem bg_1236 : (.methodLink RX12 482 yX12_operands : Cond) ∈ bg := bgf (tb_8 _ (List.mem_of_getElem? (i := 224) (by decide +kernel))) (by rfl)
theorem bg_1237 : (.code yX12_operands cX12_operands 6 (some .boolean) : Cond) ∈ bg := bgf (tb_8 _ (List.mem_of_getElem? (i := 227) (by rfl))) (by rfl)
theorem bg_1238 : (.instanceMethod yX12_operands : Cond) ∈ bg := bgf (tb_8 _ (List.mem_of_getElem? (i := 226) (by decide +kernel))) (by rfl)
theorem bg_1239 : (.selects RX12 yX12_operands yX12_operands : Cond) ∈ bg := bgf (List.mem_of_getElem? (i := 126) (by decide +kernel)) (by rfl)
theorem bg_1240 : (.methodLink RX12 485 yX12_aims : Cond) ∈ bg := bgf (tb_9 _ (List.mem_of_getElem? (i := 4) (by decide +kernel))) (by rfl)
theorem bg_1241 : (.code yX12_aims cX12_aims 4 (some .boolean) : Cond) ∈ bg := bgf (tb_9 _ (List.mem_of_getElem? (i := 7) (by rfl))) (by rfl)
theorem bg_1242 : (.instanceMethod yX12_aims : Cond) ∈ bg := bgf (tb_9 _ (List.mem_of_getElem? (i := 6) (by decide +kernel))) (by rfl)
theorem bg_1243 : (.selects RX12 yX12_aims yX12_aims : Cond) ∈ bg := bgf (List.mem_of_getElem? (i := 131) (by decide +kernel)) (by rfl)
theorem bg_1244 : (.methodLink RX12 488 yX12_pad : Cond) ∈ bg := bgf (tb_8 _ (List.mem_of_getElem? (i := 214) (by decide +kernel))) (by rfl)
theorem bg_1245 : (.static yX12_pad : Cond) ∈ bg := bgf (tb_8 _ (List.mem_of_getElem? (i := 215) (by decide +kernel))) (by rfl)
theorem bg_1246 : (.methodLink RX12 491 yX12_b4 : Cond) ∈ bg := bgf (tb_8 _ (List.mem_of_getElem? (i := 217) (by decide +kernel))) (by rfl)
theorem bg_1247 : (.instanceMethod yX12_b4 : Cond) ∈ bg := bgf (tb_8 _ (List.mem_of_getElem? (i := 219) (by decide +kernel))) (by rfl)
theorem bg_1248 : (.selects RX12 yX12_b4 yX12_b4 : Cond) ∈ bg := bgf (List.mem_of_getElem? (i := 125) (by decide +kernel)) (by rfl)
theorem bg_1249 : (.constantLong RX12 494 12 : Cond) ∈ bg := bgf (tb_8 _ (List.mem_of_getElem? (i := 221) (by decide +kernel))) (by rfl)
theorem bg_1250 : (.constantLong RX12 496 8 : Cond) ∈ bg := bgf (tb_8 _ (List.mem_of_getElem? (i := 222) (by decide +kernel))) (by rfl)
theorem bg_1251 : (.code yX12_local cX12_local 3 (some .boolean) : Cond) ∈ bg := bgf (tb_8 _ (List.mem_of_getElem? (i := 231) (by rfl))) (by rfl)
theorem bg_1252 : (.code yX12_nameOf cX12_nameOf 2 (some .int) : Cond) ∈ bg := bgf (tb_9 _ (List.mem_of_getElem? (i := 3) (by rfl))) (by rfl)
theorem bg_1253 : (.code yX12_descOf cX12_descOf 2 (some .int) : Cond) ∈ bg := bgf (tb_8 _ (List.mem_of_getElem? (i := 239) (by rfl))) (by rfl)
theorem bg_1254 : (.methodLink RX12 498 yX12_local : Cond) ∈ bg := bgf (tb_8 _ (List.mem_of_getElem? (i := 228) (by decide +kernel))) (by rfl)
theorem bg_1255 : (.instanceMethod yX12_local : Cond) ∈ bg := bgf (tb_8 _ (List.mem_of_getElem? (i := 230) (by decide +kernel))) (by rfl)
theorem bg_1256 : (.selects RX12 yX12_local yX12_local : Cond) ∈ bg := bgf (List.mem_of_getElem? (i := 127) (by decide +kernel)) (by rfl)
theorem bg_1257 : (.methodLink RX12 501 yX12_descOf : Cond) ∈ bg := bgf (tb_8 _ (List.mem_of_getElem? (i := 236) (by decide +kernel))) (by rfl)
theorem bg_1258 : (.instanceMethod yX12_descOf : Cond) ∈ bg := bgf (tb_8 _ (List.mem_of_getElem? (i := 238) (by decide +kernel))) (by rfl)
theorem bg_1259 : (.selects RX12 yX12_descOf yX12_descOf : Cond) ∈ bg := bgf (List.mem_of_getElem? (i := 129) (by decide +kernel)) (by rfl)
theorem bg_1260 : (.methodLink RX12 504 yX12_nameOf : Cond) ∈ bg := bgf (tb_9 _ (List.mem_of_getElem? (i := 0) (by decide +kernel))) (by rfl)
theorem bg_1261 : (.instanceMethod yX12_nameOf : Cond) ∈ bg := bgf (tb_9 _ (List.mem_of_getElem? (i := 2) (by decide +kernel))) (by rfl)
theorem bg_1262 : (.selects RX12 yX12_nameOf yX12_nameOf : Cond) ∈ bg := bgf (List.mem_of_getElem? (i := 130) (by decide +kernel)) (by rfl)
theorem bg_1263 : (.code yX12_starts cX12_starts 3 (some .boolean) : Cond) ∈ bg := bgf (tb_9 _ (List.mem_of_getElem? (i := 15) (by rfl))) (by rfl)
theorem bg_1264 : (.methodLink RX12 507 yX12_s2 : Cond) ∈ bg := bgf (tb_9 _ (List.mem_of_getElem? (i := 8) (by decide +kernel))) (by rfl)
theorem bg_1265 : (.instanceMethod yX12_s2 : Cond) ∈ bg := bgf (tb_9 _ (List.mem_of_getElem? (i := 10) (by decide +kernel))) (by rfl)
theorem bg_1266 : (.selects RX12 yX12_s2 yX12_s2 : Cond) ∈ bg := bgf (List.mem_of_getElem? (i := 132) (by decide +kernel)) (by rfl)
theorem bg_1267 : (.methodLink RX12 510 yX12_starts : Cond) ∈ bg := bgf (tb_9 _ (List.mem_of_getElem? (i := 12) (by decide +kernel))) (by rfl)
theorem bg_1268 : (.instanceMethod yX12_starts : Cond) ∈ bg := bgf (tb_9 _ (List.mem_of_getElem? (i := 14) (by decide +kernel))) (by rfl)
theorem bg_1269 : (.selects RX12 yX12_starts yX12_starts : Cond) ∈ bg := bgf (List.mem_of_getElem? (i := 133) (by decide +kernel)) (by rfl)
theorem bg_1270 : (.methodLink RX12 513 yX12_ways : Cond) ∈ bg := bgf (tb_9 _ (List.mem_of_getElem? (i := 16) (by decide +kernel))) (by rfl)
theorem bg_1271 : (.code yX12_ways cX12_ways 3 (some .int) : Cond) ∈ bg := bgf (tb_9 _ (List.mem_of_getElem? (i := 19) (by rfl))) (by rfl)
theorem bg_1272 : (.instanceMethod yX12_ways : Cond) ∈ bg := bgf (tb_9 _ (List.mem_of_getElem? (i := 18) (by decide +kernel))) (by rfl)
theorem bg_1273 : (.selects RX12 yX12_ways yX12_ways : Cond) ∈ bg := bgf (List.mem_of_getElem? (i := 134) (by decide +kernel)) (by rfl)
theorem bg_1274 : (.methodLink RX12 516 yX12_wayAt : Cond) ∈ bg := bgf (tb_9 _ (List.mem_of_getElem? (i := 20) (by decide +kernel))) (by rfl)
theorem bg_1275 : (.code yX12_wayAt cX12_wayAt 4 (some .int) : Cond) ∈ bg := bgf (tb_9 _ (List.mem_of_getElem? (i := 23) (by rfl))) (by rfl)
theorem bg_1276 : (.instanceMethod yX12_wayAt : Cond) ∈ bg := bgf (tb_9 _ (List.mem_of_getElem? (i := 22) (by decide +kernel))) (by rfl)
theorem bg_1277 : (.selects RX12 yX12_wayAt yX12_wayAt : Cond) ∈ bg := bgf (List.mem_of_getElem? (i := 135) (by decide +kernel)) (by rfl)
theorem bg_1278 : (.code yX12_cut cX12_cut 2 (some .int) : Cond) ∈ bg := bgf (tb_8 _ (List.mem_of_getElem? (i := 197) (by rfl))) (by rfl)
theorem bg_1279 : (.methodLink RX12 519 yX12_noCode : Cond) ∈ bg := bgf (tb_8 _ (List.mem_of_getElem? (i := 198) (by decide +kernel))) (by rfl)
theorem bg_1280 : (.instanceMethod yX12_noCode : Cond) ∈ bg := bgf (tb_8 _ (List.mem_of_getElem? (i := 200) (by decide +kernel))) (by rfl)
theorem bg_1281 : (.selects RX12 yX12_noCode yX12_noCode : Cond) ∈ bg := bgf (List.mem_of_getElem? (i := 121) (by decide +kernel)) (by rfl)
theorem bg_1282 : (.methodLink RX12 522 yX12_cuts : Cond) ∈ bg := bgf (tb_8 _ (List.mem_of_getElem? (i := 202) (by decide +kernel))) (by rfl)
theorem bg_1283 : (.instanceMethod yX12_cuts : Cond) ∈ bg := bgf (tb_8 _ (List.mem_of_getElem? (i := 204) (by decide +kernel))) (by rfl)
theorem bg_1284 : (.selects RX12 yX12_cuts yX12_cuts : Cond) ∈ bg := bgf (List.mem_of_getElem? (i := 122) (by decide +kernel)) (by rfl)
theorem bg_1285 : (.code yX12_instruction cX12_instruction 6 (some .int) : Cond) ∈ bg := bgf (tb_9 _ (List.mem_of_getElem? (i := 27) (by rfl))) (by rfl)
theorem bg_1286 : (.methodLink RX12 525 yX12_plain : Cond) ∈ bg := bgf (tb_9 _ (List.mem_of_getElem? (i := 28) (by decide +kernel))) (by rfl)
theorem bg_1287 : (.code yX12_plain cX12_plain 3 (some .int) : Cond) ∈ bg := bgf (tb_9 _ (List.mem_of_getElem? (i := 31) (by rfl))) (by rfl)
theorem bg_1288 : (.instanceMethod yX12_plain : Cond) ∈ bg := bgf (tb_9 _ (List.mem_of_getElem? (i := 30) (by decide +kernel))) (by rfl)
theorem bg_1289 : (.selects RX12 yX12_plain yX12_plain : Cond) ∈ bg := bgf (List.mem_of_getElem? (i := 136) (by decide +kernel)) (by rfl)
theorem bg_1290 : (.methodLink RX12 528 yX12_first : Cond) ∈ bg := bgf (tb_9 _ (List.mem_of_getElem? (i := 32) (by decide +kernel))) (by rfl)
theorem bg_1291 : (.code yX12_first cX12_first 3 (some .int) : Cond) ∈ bg := bgf (tb_9 _ (List.mem_of_getElem? (i := 35) (by rfl))) (by rfl)
theorem bg_1292 : (.instanceMethod yX12_first : Cond) ∈ bg := bgf (tb_9 _ (List.mem_of_getElem? (i := 34) (by decide +kernel))) (by rfl)
theorem bg_1293 : (.selects RX12 yX12_first yX12_first : Cond) ∈ bg := bgf (List.mem_of_getElem? (i := 137) (by decide +kernel)) (by rfl)
theorem bg_1294 : (.methodLink RX12 531 yX12_second : Cond) ∈ bg := bgf (tb_9 _ (List.mem_of_getElem? (i := 36) (by decide +kernel))) (by rfl)
theorem bg_1295 : (.code yX12_second cX12_second 3 (some .int) : Cond) ∈ bg := bgf (tb_9 _ (List.mem_of_getElem? (i := 39) (by rfl))) (by rfl)
theorem bg_1296 : (.instanceMethod yX12_second : Cond) ∈ bg := bgf (tb_9 _ (List.mem_of_getElem? (i := 38) (by decide +kernel))) (by rfl)
theorem bg_1297 : (.selects RX12 yX12_second yX12_second : Cond) ∈ bg := bgf (List.mem_of_getElem? (i := 138) (by decide +kernel)) (by rfl)
theorem bg_1298 : (.code yX12_jump cX12_jump 7 (some .int) : Cond) ∈ bg := bgf (tb_9 _ (List.mem_of_getElem? (i := 43) (by rfl))) (by rfl)
theorem bg_1299 : (.fieldLink RJ0 9 "java/lang/String" "value" "[B" : Cond) ∈ bg := bgf (tb_9 _ (List.mem_of_getElem? (i := 46) (by decide +kernel))) (by rfl)
theorem bg_1300 : (.methodLink RJ0 335 yJ0_coder_7d493 : Cond) ∈ bg := bgf (tb_3 _ (List.mem_of_getElem? (i := 121) (by decide +kernel))) (by rfl)
theorem bg_1301 : (.code yJ0_coder_7d493 cJ0_coder_7d493 1 (some .byte) : Cond) ∈ bg := bgf (tb_3 _ (List.mem_of_getElem? (i := 124) (by rfl))) (by rfl)
theorem bg_1302 : (.instanceMethod yJ0_coder_7d493 : Cond) ∈ bg := bgf (tb_3 _ (List.mem_of_getElem? (i := 122) (by decide +kernel))) (by rfl)
theorem bg_1303 : (.selects RJ0 yJ0_coder_7d493 yJ0_coder_7d493 : Cond) ∈ bg := bgf (tb_3 _ (List.mem_of_getElem? (i := 123) (by decide +kernel))) (by rfl)
theorem bg_1304 : (.methodLink RJ0 492 yJ0_isLatin1_aae02 : Cond) ∈ bg := bgf (tb_3 _ (List.mem_of_getElem? (i := 131) (by decide +kernel))) (by rfl)
theorem bg_1305 : (.code yJ0_isLatin1_aae02 cJ0_isLatin1_aae02 1 (some .boolean) : Cond) ∈ bg := bgf (tb_3 _ (List.mem_of_getElem? (i := 134) (by rfl))) (by rfl)
theorem bg_1306 : (.instanceMethod yJ0_isLatin1_aae02 : Cond) ∈ bg := bgf (tb_3 _ (List.mem_of_getElem? (i := 132) (by decide +kernel))) (by rfl)
theorem bg_1307 : (.selects RJ0 yJ0_isLatin1_aae02 yJ0_isLatin1_aae02 : Cond) ∈ bg := bgf (tb_3 _ (List.mem_of_getElem? (i := 133) (by decide +kernel))) (by rfl)
theorem bg_1308 : (.methodLink RJ0 495 yJ1_charAt_3b067 : Cond) ∈ bg := bgf (tb_3 _ (List.mem_of_getElem? (i := 135) (by decide +kernel))) (by rfl)
theorem bg_1309 : (.code yJ1_charAt_3b067 cJ1_charAt_3b067 2 (some .char) : Cond) ∈ bg := bgf (tb_3 _ (List.mem_of_getElem? (i := 137) (by rfl))) (by rfl)
theorem bg_1310 : (.static yJ1_charAt_3b067 : Cond) ∈ bg := bgf (tb_3 _ (List.mem_of_getElem? (i := 136) (by decide +kernel))) (by rfl)
theorem bg_1311 : (.initialized RJ1 : Cond) ∈ bg := bgf (tb_1 _ (List.mem_of_getElem? (i := 4) (by decide +kernel))) (by rfl)
theorem bg_1312 : (.fieldLink RJ0 38 "java/lang/String" "COMPACT_STRINGS" "Z" : Cond) ∈ bg := bgf (tb_3 _ (List.mem_of_getElem? (i := 125) (by decide +kernel))) (by rfl)
theorem bg_1313 : (.fieldLink RJ0 15 "java/lang/String" "coder" "B" : Cond) ∈ bg := bgf (tb_9 _ (List.mem_of_getElem? (i := 47) (by decide +kernel))) (by rfl)
theorem bg_1314 : (.code yJ0_checkIndex_df160 cJ0_checkIndex_df160 2 none : Cond) ∈ bg := bgf (tb_3 _ (List.mem_of_getElem? (i := 140) (by rfl))) (by rfl)
theorem bg_1315 : (.fieldLink RJ0 1053 "jdk/internal/util/Preconditions" "SIOOBE_FORMATTER" "Ljava/util/function/BiFunction;" : Cond) ∈ bg := bgf (tb_3 _ (List.mem_of_getElem? (i := 141) (by decide +kernel))) (by rfl)
theorem bg_1316 : (.methodLink RJ0 1059 yJ3_checkIndex_8e157 : Cond) ∈ bg := bgf (tb_3 _ (List.mem_of_getElem? (i := 143) (by decide +kernel))) (by rfl)
theorem bg_1317 : (.code yJ3_checkIndex_8e157 cJ3_checkIndex_8e157 3 (some .int) : Cond) ∈ bg := bgf (tb_3 _ (List.mem_of_getElem? (i := 145) (by rfl))) (by rfl)
theorem bg_1318 : (.static yJ3_checkIndex_8e157 : Cond) ∈ bg := bgf (tb_3 _ (List.mem_of_getElem? (i := 144) (by decide +kernel))) (by rfl)
theorem bg_1319 : (.initialized RJ3 : Cond) ∈ bg := bgf (tb_1 _ (List.mem_of_getElem? (i := 5) (by decide +kernel))) (by rfl)
theorem bg_1320 : (.methodLink RJ1 9 yJ0_checkIndex_df160 : Cond) ∈ bg := bgf (tb_3 _ (List.mem_of_getElem? (i := 138) (by decide +kernel))) (by rfl)
theorem bg_1321 : (.static yJ0_checkIndex_df160 : Cond) ∈ bg := bgf (tb_3 _ (List.mem_of_getElem? (i := 139) (by decide +kernel))) (by rfl)
theorem bg_1322 : (.codeWith yL_feed cL_feed 8 (some .int) [(0, 16, 19, 13)] : Cond) ∈ bg := bgf (tb_5 _ (List.mem_of_getElem? (i := 209) (by rfl))) (by rfl)
theorem bg_1323 : (.methodLink RL 7 yX11_feed : Cond) ∈ bg := bgf (tb_5 _ (List.mem_of_getElem? (i := 211) (by decide +kernel))) (by rfl)
theorem bg_1324 : (.instanceMethod yX11_feed : Cond) ∈ bg := bgf (tb_5 _ (List.mem_of_getElem? (i := 212) (by decide +kernel))) (by rfl)
theorem bg_1325 : (.selects RX11 yX11_feed yX11_feed : Cond) ∈ bg := bgf (tb_5 _ (List.mem_of_getElem? (i := 213) (by decide +kernel))) (by rfl)
theorem bg_1326 : (.codeWith yL_end cL_end 4 (some .int) [(0, 9, 12, 19)] : Cond) ∈ bg := bgf (tb_6 _ (List.mem_of_getElem? (i := 62) (by rfl))) (by rfl)
theorem bg_1327 : (.methodLink RL 15 yX11_end : Cond) ∈ bg := bgf (tb_6 _ (List.mem_of_getElem? (i := 64) (by decide +kernel))) (by rfl)
theorem bg_1328 : (.instanceMethod yX11_end : Cond) ∈ bg := bgf (tb_6 _ (List.mem_of_getElem? (i := 65) (by decide +kernel))) (by rfl)
theorem bg_1329 : (.selects RX11 yX11_end yX11_end : Cond) ∈ bg := bgf (tb_6 _ (List.mem_of_getElem? (i := 66) (by decide +kernel))) (by rfl)
theorem bg_1330 : (.codeWith yL_count cL_count 4 (some .int) [(0, 9, 12, 19)] : Cond) ∈ bg := bgf (tb_6 _ (List.mem_of_getElem? (i := 86) (by rfl))) (by rfl)
theorem bg_1331 : (.methodLink RL 21 yX11_count : Cond) ∈ bg := bgf (tb_6 _ (List.mem_of_getElem? (i := 87) (by decide +kernel))) (by rfl)
theorem bg_1332 : (.instanceMethod yX11_count : Cond) ∈ bg := bgf (tb_6 _ (List.mem_of_getElem? (i := 88) (by decide +kernel))) (by rfl)
theorem bg_1333 : (.selects RX11 yX11_count yX11_count : Cond) ∈ bg := bgf (tb_6 _ (List.mem_of_getElem? (i := 89) (by decide +kernel))) (by rfl)
theorem bg_1334 : (.codeWith yL_entry cL_entry 5 (some .int) [(0, 10, 13, 19)] : Cond) ∈ bg := bgf (tb_6 _ (List.mem_of_getElem? (i := 102) (by rfl))) (by rfl)
theorem bg_1335 : (.methodLink RL 24 yX11_entry : Cond) ∈ bg := bgf (tb_6 _ (List.mem_of_getElem? (i := 103) (by decide +kernel))) (by rfl)
theorem bg_1336 : (.instanceMethod yX11_entry : Cond) ∈ bg := bgf (tb_6 _ (List.mem_of_getElem? (i := 104) (by decide +kernel))) (by rfl)
theorem bg_1337 : (.selects RX11 yX11_entry yX11_entry : Cond) ∈ bg := bgf (tb_6 _ (List.mem_of_getElem? (i := 105) (by decide +kernel))) (by rfl)
theorem bg_1338 : (.codeWith yL_member cL_member 6 (some .int) [(0, 12, 15, 19)] : Cond) ∈ bg := bgf (tb_6 _ (List.mem_of_getElem? (i := 112) (by rfl))) (by rfl)
theorem bg_1339 : (.methodLink RL 28 yX11_member : Cond) ∈ bg := bgf (tb_6 _ (List.mem_of_getElem? (i := 113) (by decide +kernel))) (by rfl)
theorem bg_1340 : (.instanceMethod yX11_member : Cond) ∈ bg := bgf (tb_6 _ (List.mem_of_getElem? (i := 114) (by decide +kernel))) (by rfl)
theorem bg_1341 : (.selects RX11 yX11_member yX11_member : Cond) ∈ bg := bgf (tb_6 _ (List.mem_of_getElem? (i := 115) (by decide +kernel))) (by rfl)
theorem bg_1342 : (.codeWith yL_row cL_row 6 (some .int) [(0, 12, 15, 19)] : Cond) ∈ bg := bgf (tb_6 _ (List.mem_of_getElem? (i := 128) (by rfl))) (by rfl)
theorem bg_1343 : (.methodLink RL 32 yX11_row : Cond) ∈ bg := bgf (tb_6 _ (List.mem_of_getElem? (i := 129) (by decide +kernel))) (by rfl)
theorem bg_1344 : (.instanceMethod yX11_row : Cond) ∈ bg := bgf (tb_6 _ (List.mem_of_getElem? (i := 130) (by decide +kernel))) (by rfl)
theorem bg_1345 : (.selects RX11 yX11_row yX11_row : Cond) ∈ bg := bgf (tb_6 _ (List.mem_of_getElem? (i := 131) (by decide +kernel))) (by rfl)
theorem bg_1346 : (.codeWith yL_instruction cL_instruction 6 (some .int) [(0, 12, 15, 19)] : Cond) ∈ bg := bgf (tb_6 _ (List.mem_of_getElem? (i := 137) (by rfl))) (by rfl)
theorem bg_1347 : (.methodLink RL 36 yX11_instruction : Cond) ∈ bg := bgf (tb_6 _ (List.mem_of_getElem? (i := 138) (by decide +kernel))) (by rfl)
theorem bg_1348 : (.instanceMethod yX11_instruction : Cond) ∈ bg := bgf (tb_6 _ (List.mem_of_getElem? (i := 139) (by decide +kernel))) (by rfl)
theorem bg_1349 : (.selects RX11 yX11_instruction yX11_instruction : Cond) ∈ bg := bgf (tb_6 _ (List.mem_of_getElem? (i := 140) (by decide +kernel))) (by rfl)
theorem bg_1350 : (.classLink RL 8 RX11 : Cond) ∈ bg := bgf (tb_1 _ (List.mem_of_getElem? (i := 27) (by decide +kernel))) (by rfl)
theorem bg_1351 : (.instantiable RX11 5 : Cond) ∈ bg := bgf (tb_1 _ (List.mem_of_getElem? (i := 28) (by decide +kernel))) (by rfl)
theorem bg_1352 : (.methodLink RL 39 yX11_init : Cond) ∈ bg := bgf (tb_1 _ (List.mem_of_getElem? (i := 29) (by decide +kernel))) (by rfl)
theorem bg_1353 : (.instanceMethod yX11_init : Cond) ∈ bg := bgf (tb_1 _ (List.mem_of_getElem? (i := 30) (by decide +kernel))) (by rfl)
theorem bg_1354 : (.classLink RL 40 RX12 : Cond) ∈ bg := bgf (tb_6 _ (List.mem_of_getElem? (i := 151) (by decide +kernel))) (by rfl)
theorem bg_1355 : (.instantiable RX12 82 : Cond) ∈ bg := bgf (tb_6 _ (List.mem_of_getElem? (i := 152) (by decide +kernel))) (by rfl)
theorem bg_1356 : (.methodLink RL 42 yX12_init : Cond) ∈ bg := bgf (tb_6 _ (List.mem_of_getElem? (i := 153) (by decide +kernel))) (by rfl)
theorem bg_1357 : (.instanceMethod yX12_init : Cond) ∈ bg := bgf (tb_6 _ (List.mem_of_getElem? (i := 154) (by decide +kernel))) (by rfl)
theorem bg_1358 : (.arrayClass .long : Cond) ∈ bg := bgf (tb_9 _ (List.mem_of_getElem? (i := 44) (by decide +kernel))) (by rfl)
theorem bg_1359 : (.methodLink RL 43 yL_feed : Cond) ∈ bg := bgf (tb_5 _ (List.mem_of_getElem? (i := 207) (by decide +kernel))) (by rfl)
theorem bg_1360 : (.static yL_feed : Cond) ∈ bg := bgf (tb_5 _ (List.mem_of_getElem? (i := 208) (by decide +kernel))) (by rfl)
theorem bg_1361 : (.initialized RL : Cond) ∈ bg := bgf (tb_1 _ (List.mem_of_getElem? (i := 0) (by decide +kernel))) (by rfl)
theorem bg_1362 : (.methodLink RL 48 yX12_feed : Cond) ∈ bg := bgf (tb_7 _ (List.mem_of_getElem? (i := 197) (by decide +kernel))) (by rfl)
theorem bg_1363 : (.instanceMethod yX12_feed : Cond) ∈ bg := bgf (tb_7 _ (List.mem_of_getElem? (i := 198) (by decide +kernel))) (by rfl)
theorem bg_1364 : (.selects RX12 yX12_feed yX12_feed : Cond) ∈ bg := bgf (tb_7 _ (List.mem_of_getElem? (i := 199) (by decide +kernel))) (by rfl)
theorem bg_1365 : (.methodLink RL 49 yL_end : Cond) ∈ bg := bgf (tb_6 _ (List.mem_of_getElem? (i := 60) (by decide +kernel))) (by rfl)
theorem bg_1366 : (.static yL_end : Cond) ∈ bg := bgf (tb_6 _ (List.mem_of_getElem? (i := 61) (by decide +kernel))) (by rfl)
theorem bg_1367 : (.methodLink RL 52 yX12_end : Cond) ∈ bg := bgf (tb_7 _ (List.mem_of_getElem? (i := 205) (by decide +kernel))) (by rfl)
theorem bg_1368 : (.instanceMethod yX12_end : Cond) ∈ bg := bgf (tb_7 _ (List.mem_of_getElem? (i := 206) (by decide +kernel))) (by rfl)
theorem bg_1369 : (.selects RX12 yX12_end yX12_end : Cond) ∈ bg := bgf (tb_7 _ (List.mem_of_getElem? (i := 207) (by decide +kernel))) (by rfl)
theorem bg_1370 : (.methodLink RL 53 yX11_read : Cond) ∈ bg := bgf (tb_1 _ (List.mem_of_getElem? (i := 54) (by decide +kernel))) (by rfl)
theorem bg_1371 : (.instanceMethod yX11_read : Cond) ∈ bg := bgf (tb_1 _ (List.mem_of_getElem? (i := 55) (by decide +kernel))) (by rfl)
theorem bg_1372 : (.selects RX11 yX11_read yX11_read : Cond) ∈ bg := bgf (tb_1 _ (List.mem_of_getElem? (i := 56) (by decide +kernel))) (by rfl)
theorem bg_1373 : (.methodLink RL 57 yX12_read : Cond) ∈ bg := bgf (tb_7 _ (List.mem_of_getElem? (i := 213) (by decide +kernel))) (by rfl)
theorem bg_1374 : (.instanceMethod yX12_read : Cond) ∈ bg := bgf (tb_7 _ (List.mem_of_getElem? (i := 214) (by decide +kernel))) (by rfl)
theorem bg_1375 : (.selects RX12 yX12_read yX12_read : Cond) ∈ bg := bgf (tb_7 _ (List.mem_of_getElem? (i := 215) (by decide +kernel))) (by rfl)
theorem bg_1376 : (.methodLink RL 58 yX11_place : Cond) ∈ bg := bgf (tb_5 _ (List.mem_of_getElem? (i := 26) (by decide +kernel))) (by rfl)
theorem bg_1377 : (.instanceMethod yX11_place : Cond) ∈ bg := bgf (tb_5 _ (List.mem_of_getElem? (i := 27) (by decide +kernel))) (by rfl)
theorem bg_1378 : (.selects RX11 yX11_place yX11_place : Cond) ∈ bg := bgf (tb_5 _ (List.mem_of_getElem? (i := 28) (by decide +kernel))) (by rfl)
theorem bg_1379 : (.methodLink RL 61 yX12_place : Cond) ∈ bg := bgf (tb_8 _ (List.mem_of_getElem? (i := 150) (by decide +kernel))) (by rfl)
theorem bg_1380 : (.instanceMethod yX12_place : Cond) ∈ bg := bgf (tb_8 _ (List.mem_of_getElem? (i := 151) (by decide +kernel))) (by rfl)
theorem bg_1381 : (.selects RX12 yX12_place yX12_place : Cond) ∈ bg := bgf (tb_8 _ (List.mem_of_getElem? (i := 152) (by decide +kernel))) (by rfl)
theorem bg_1382 : (.methodLink RL 62 yL_count : Cond) ∈ bg := bgf (tb_6 _ (List.mem_of_getElem? (i := 84) (by decide +kernel))) (by rfl)
theorem bg_1383 : (.static yL_count : Cond) ∈ bg := bgf (tb_6 _ (List.mem_of_getElem? (i := 85) (by decide +kernel))) (by rfl)
theorem bg_1384 : (.methodLink RL 64 yX12_count : Cond) ∈ bg := bgf (tb_8 _ (List.mem_of_getElem? (i := 154) (by decide +kernel))) (by rfl)
theorem bg_1385 : (.instanceMethod yX12_count : Cond) ∈ bg := bgf (tb_8 _ (List.mem_of_getElem? (i := 155) (by decide +kernel))) (by rfl)
theorem bg_1386 : (.selects RX12 yX12_count yX12_count : Cond) ∈ bg := bgf (tb_8 _ (List.mem_of_getElem? (i := 156) (by decide +kernel))) (by rfl)
theorem bg_1387 : (.methodLink RL 65 yL_entry : Cond) ∈ bg := bgf (tb_6 _ (List.mem_of_getElem? (i := 100) (by decide +kernel))) (by rfl)
theorem bg_1388 : (.static yL_entry : Cond) ∈ bg := bgf (tb_6 _ (List.mem_of_getElem? (i := 101) (by decide +kernel))) (by rfl)
theorem bg_1389 : (.methodLink RL 68 yX12_entry : Cond) ∈ bg := bgf (tb_8 _ (List.mem_of_getElem? (i := 158) (by decide +kernel))) (by rfl)
theorem bg_1390 : (.instanceMethod yX12_entry : Cond) ∈ bg := bgf (tb_8 _ (List.mem_of_getElem? (i := 159) (by decide +kernel))) (by rfl)
theorem bg_1391 : (.selects RX12 yX12_entry yX12_entry : Cond) ∈ bg := bgf (tb_8 _ (List.mem_of_getElem? (i := 160) (by decide +kernel))) (by rfl)
theorem bg_1392 : (.methodLink RL 69 yX11_bits : Cond) ∈ bg := bgf (tb_5 _ (List.mem_of_getElem? (i := 30) (by decide +kernel))) (by rfl)
theorem bg_1393 : (.instanceMethod yX11_bits : Cond) ∈ bg := bgf (tb_5 _ (List.mem_of_getElem? (i := 31) (by decide +kernel))) (by rfl)
theorem bg_1394 : (.selects RX11 yX11_bits yX11_bits : Cond) ∈ bg := bgf (tb_5 _ (List.mem_of_getElem? (i := 32) (by decide +kernel))) (by rfl)
theorem bg_1395 : (.methodLink RL 73 yX12_bits : Cond) ∈ bg := bgf (tb_8 _ (List.mem_of_getElem? (i := 162) (by decide +kernel))) (by rfl)
theorem bg_1396 : (.instanceMethod yX12_bits : Cond) ∈ bg := bgf (tb_8 _ (List.mem_of_getElem? (i := 163) (by decide +kernel))) (by rfl)
theorem bg_1397 : (.selects RX12 yX12_bits yX12_bits : Cond) ∈ bg := bgf (tb_8 _ (List.mem_of_getElem? (i := 164) (by decide +kernel))) (by rfl)
theorem bg_1398 : (.methodLink RL 74 yX11_character : Cond) ∈ bg := bgf (tb_5 _ (List.mem_of_getElem? (i := 38) (by decide +kernel))) (by rfl)
theorem bg_1399 : (.instanceMethod yX11_character : Cond) ∈ bg := bgf (tb_5 _ (List.mem_of_getElem? (i := 39) (by decide +kernel))) (by rfl)
theorem bg_1400 : (.selects RX11 yX11_character yX11_character : Cond) ∈ bg := bgf (tb_5 _ (List.mem_of_getElem? (i := 40) (by decide +kernel))) (by rfl)
theorem bg_1401 : (.methodLink RL 77 yX12_character : Cond) ∈ bg := bgf (tb_8 _ (List.mem_of_getElem? (i := 166) (by decide +kernel))) (by rfl)
theorem bg_1402 : (.instanceMethod yX12_character : Cond) ∈ bg := bgf (tb_8 _ (List.mem_of_getElem? (i := 167) (by decide +kernel))) (by rfl)
theorem bg_1403 : (.selects RX12 yX12_character yX12_character : Cond) ∈ bg := bgf (tb_8 _ (List.mem_of_getElem? (i := 168) (by decide +kernel))) (by rfl)
theorem bg_1404 : (.methodLink RL 78 yX11_places : Cond) ∈ bg := bgf (tb_5 _ (List.mem_of_getElem? (i := 43) (by decide +kernel))) (by rfl)
theorem bg_1405 : (.instanceMethod yX11_places : Cond) ∈ bg := bgf (tb_5 _ (List.mem_of_getElem? (i := 44) (by decide +kernel))) (by rfl)
theorem bg_1406 : (.selects RX11 yX11_places yX11_places : Cond) ∈ bg := bgf (tb_5 _ (List.mem_of_getElem? (i := 45) (by decide +kernel))) (by rfl)
theorem bg_1407 : (.methodLink RL 81 yX12_places : Cond) ∈ bg := bgf (tb_8 _ (List.mem_of_getElem? (i := 186) (by decide +kernel))) (by rfl)
theorem bg_1408 : (.instanceMethod yX12_places : Cond) ∈ bg := bgf (tb_8 _ (List.mem_of_getElem? (i := 187) (by decide +kernel))) (by rfl)
theorem bg_1409 : (.selects RX12 yX12_places yX12_places : Cond) ∈ bg := bgf (tb_8 _ (List.mem_of_getElem? (i := 188) (by decide +kernel))) (by rfl)
theorem bg_1410 : (.methodLink RL 82 yL_member : Cond) ∈ bg := bgf (tb_6 _ (List.mem_of_getElem? (i := 110) (by decide +kernel))) (by rfl)
theorem bg_1411 : (.static yL_member : Cond) ∈ bg := bgf (tb_6 _ (List.mem_of_getElem? (i := 111) (by decide +kernel))) (by rfl)
theorem bg_1412 : (.methodLink RL 85 yX12_member : Cond) ∈ bg := bgf (tb_8 _ (List.mem_of_getElem? (i := 170) (by decide +kernel))) (by rfl)
theorem bg_1413 : (.instanceMethod yX12_member : Cond) ∈ bg := bgf (tb_8 _ (List.mem_of_getElem? (i := 171) (by decide +kernel))) (by rfl)
theorem bg_1414 : (.selects RX12 yX12_member yX12_member : Cond) ∈ bg := bgf (tb_8 _ (List.mem_of_getElem? (i := 172) (by decide +kernel))) (by rfl)
theorem bg_1415 : (.methodLink RL 86 yX11_find : Cond) ∈ bg := bgf (tb_5 _ (List.mem_of_getElem? (i := 51) (by decide +kernel))) (by rfl)
theorem bg_1416 : (.instanceMethod yX11_find : Cond) ∈ bg := bgf (tb_5 _ (List.mem_of_getElem? (i := 52) (by decide +kernel))) (by rfl)
theorem bg_1417 : (.selects RX11 yX11_find yX11_find : Cond) ∈ bg := bgf (tb_5 _ (List.mem_of_getElem? (i := 53) (by decide +kernel))) (by rfl)
theorem bg_1418 : (.methodLink RL 89 yX12_find : Cond) ∈ bg := bgf (tb_8 _ (List.mem_of_getElem? (i := 174) (by decide +kernel))) (by rfl)
theorem bg_1419 : (.instanceMethod yX12_find : Cond) ∈ bg := bgf (tb_8 _ (List.mem_of_getElem? (i := 175) (by decide +kernel))) (by rfl)
theorem bg_1420 : (.selects RX12 yX12_find yX12_find : Cond) ∈ bg := bgf (tb_8 _ (List.mem_of_getElem? (i := 176) (by decide +kernel))) (by rfl)
theorem bg_1421 : (.methodLink RL 90 yL_row : Cond) ∈ bg := bgf (tb_6 _ (List.mem_of_getElem? (i := 126) (by decide +kernel))) (by rfl)
theorem bg_1422 : (.static yL_row : Cond) ∈ bg := bgf (tb_6 _ (List.mem_of_getElem? (i := 127) (by decide +kernel))) (by rfl)
theorem bg_1423 : (.methodLink RL 93 yX12_row : Cond) ∈ bg := bgf (tb_8 _ (List.mem_of_getElem? (i := 178) (by decide +kernel))) (by rfl)
theorem bg_1424 : (.instanceMethod yX12_row : Cond) ∈ bg := bgf (tb_8 _ (List.mem_of_getElem? (i := 179) (by decide +kernel))) (by rfl)
theorem bg_1425 : (.selects RX12 yX12_row yX12_row : Cond) ∈ bg := bgf (tb_8 _ (List.mem_of_getElem? (i := 180) (by decide +kernel))) (by rfl)
theorem bg_1426 : (.methodLink RL 94 yX11_bootstrap : Cond) ∈ bg := bgf (tb_5 _ (List.mem_of_getElem? (i := 56) (by decide +kernel))) (by rfl)
theorem bg_1427 : (.instanceMethod yX11_bootstrap : Cond) ∈ bg := bgf (tb_5 _ (List.mem_of_getElem? (i := 57) (by decide +kernel))) (by rfl)
theorem bg_1428 : (.selects RX11 yX11_bootstrap yX11_bootstrap : Cond) ∈ bg := bgf (tb_5 _ (List.mem_of_getElem? (i := 58) (by decide +kernel))) (by rfl)
theorem bg_1429 : (.methodLink RL 97 yX12_bootstrap : Cond) ∈ bg := bgf (tb_8 _ (List.mem_of_getElem? (i := 182) (by decide +kernel))) (by rfl)
theorem bg_1430 : (.instanceMethod yX12_bootstrap : Cond) ∈ bg := bgf (tb_8 _ (List.mem_of_getElem? (i := 183) (by decide +kernel))) (by rfl)
theorem bg_1431 : (.selects RX12 yX12_bootstrap yX12_bootstrap : Cond) ∈ bg := bgf (tb_8 _ (List.mem_of_getElem? (i := 184) (by decide +kernel))) (by rfl)
theorem bg_1432 : (.methodLink RL 98 yX11_cut : Cond) ∈ bg := bgf (tb_5 _ (List.mem_of_getElem? (i := 64) (by decide +kernel))) (by rfl)
theorem bg_1433 : (.instanceMethod yX11_cut : Cond) ∈ bg := bgf (tb_5 _ (List.mem_of_getElem? (i := 65) (by decide +kernel))) (by rfl)
theorem bg_1434 : (.selects RX11 yX11_cut yX11_cut : Cond) ∈ bg := bgf (tb_5 _ (List.mem_of_getElem? (i := 66) (by decide +kernel))) (by rfl)
theorem bg_1435 : (.methodLink RL 101 yX12_cut : Cond) ∈ bg := bgf (tb_8 _ (List.mem_of_getElem? (i := 194) (by decide +kernel))) (by rfl)
theorem bg_1436 : (.instanceMethod yX12_cut : Cond) ∈ bg := bgf (tb_8 _ (List.mem_of_getElem? (i := 195) (by decide +kernel))) (by rfl)
theorem bg_1437 : (.selects RX12 yX12_cut yX12_cut : Cond) ∈ bg := bgf (tb_8 _ (List.mem_of_getElem? (i := 196) (by decide +kernel))) (by rfl)
theorem bg_1438 : (.methodLink RL 102 yL_instruction : Cond) ∈ bg := bgf (tb_6 _ (List.mem_of_getElem? (i := 135) (by decide +kernel))) (by rfl)
theorem bg_1439 : (.static yL_instruction : Cond) ∈ bg := bgf (tb_6 _ (List.mem_of_getElem? (i := 136) (by decide +kernel))) (by rfl)
theorem bg_1440 : (.methodLink RL 104 yX12_instruction : Cond) ∈ bg := bgf (tb_9 _ (List.mem_of_getElem? (i := 24) (by decide +kernel))) (by rfl)
theorem bg_1441 : (.instanceMethod yX12_instruction : Cond) ∈ bg := bgf (tb_9 _ (List.mem_of_getElem? (i := 25) (by decide +kernel))) (by rfl)
theorem bg_1442 : (.selects RX12 yX12_instruction yX12_instruction : Cond) ∈ bg := bgf (tb_9 _ (List.mem_of_getElem? (i := 26) (by decide +kernel))) (by rfl)
theorem bg_1443 : (.methodLink RL 105 yX11_jump : Cond) ∈ bg := bgf (tb_5 _ (List.mem_of_getElem? (i := 193) (by decide +kernel))) (by rfl)
theorem bg_1444 : (.instanceMethod yX11_jump : Cond) ∈ bg := bgf (tb_5 _ (List.mem_of_getElem? (i := 194) (by decide +kernel))) (by rfl)
theorem bg_1445 : (.selects RX11 yX11_jump yX11_jump : Cond) ∈ bg := bgf (tb_5 _ (List.mem_of_getElem? (i := 195) (by decide +kernel))) (by rfl)
theorem bg_1446 : (.methodLink RL 109 yX12_jump : Cond) ∈ bg := bgf (tb_9 _ (List.mem_of_getElem? (i := 40) (by decide +kernel))) (by rfl)
theorem bg_1447 : (.instanceMethod yX12_jump : Cond) ∈ bg := bgf (tb_9 _ (List.mem_of_getElem? (i := 41) (by decide +kernel))) (by rfl)
theorem bg_1448 : (.selects RX12 yX12_jump yX12_jump : Cond) ∈ bg := bgf (tb_9 _ (List.mem_of_getElem? (i := 42) (by decide +kernel))) (by rfl)
theorem bg_1449 : (.laysFinal RX0 "ClassGate$AttributeCheck" "file" "LClassGate$ClassFile;" : Cond) ∈ bg := bgf (tb_2 _ (List.mem_of_getElem? (i := 234) (by decide +kernel))) (by rfl)
theorem bg_1450 : (.laysFinal RX0 "ClassGate$AttributeCheck" "bytes" "LClassGate$Bytes;" : Cond) ∈ bg := bgf (tb_2 _ (List.mem_of_getElem? (i := 236) (by decide +kernel))) (by rfl)
theorem bg_1451 : (.laysFinal RX0 "ClassGate$AttributeCheck" "pool" "LClassGate$Pool;" : Cond) ∈ bg := bgf (tb_2 _ (List.mem_of_getElem? (i := 238) (by decide +kernel))) (by rfl)
theorem bg_1452 : (.laysFinal RX0 "ClassGate$AttributeCheck" "verdict" "LClassGate$Verdict;" : Cond) ∈ bg := bgf (tb_3 _ (List.mem_of_getElem? (i := 0) (by decide +kernel))) (by rfl)
theorem bg_1453 : (.lays RX0 "ClassGate$AttributeCheck" "seen" "I" : Cond) ∈ bg := bgf (tb_3 _ (List.mem_of_getElem? (i := 2) (by decide +kernel))) (by rfl)
theorem bg_1454 : (.laysFinal RX1 "ClassGate$Bytes" "data" "[B" : Cond) ∈ bg := bgf (tb_1 _ (List.mem_of_getElem? (i := 67) (by decide +kernel))) (by rfl)
theorem bg_1455 : (.laysFinal RX2 "ClassGate$ClassCheck" "file" "LClassGate$ClassFile;" : Cond) ∈ bg := bgf (tb_3 _ (List.mem_of_getElem? (i := 16) (by decide +kernel))) (by rfl)
theorem bg_1456 : (.laysFinal RX2 "ClassGate$ClassCheck" "bytes" "LClassGate$Bytes;" : Cond) ∈ bg := bgf (tb_3 _ (List.mem_of_getElem? (i := 18) (by decide +kernel))) (by rfl)
theorem bg_1457 : (.laysFinal RX2 "ClassGate$ClassCheck" "pool" "LClassGate$Pool;" : Cond) ∈ bg := bgf (tb_3 _ (List.mem_of_getElem? (i := 20) (by decide +kernel))) (by rfl)
theorem bg_1458 : (.laysFinal RX2 "ClassGate$ClassCheck" "verdict" "LClassGate$Verdict;" : Cond) ∈ bg := bgf (tb_3 _ (List.mem_of_getElem? (i := 22) (by decide +kernel))) (by rfl)
theorem bg_1459 : (.laysFinal RX2 "ClassGate$ClassCheck" "attributeCheck" "LClassGate$AttributeCheck;" : Cond) ∈ bg := bgf (tb_3 _ (List.mem_of_getElem? (i := 24) (by decide +kernel))) (by rfl)
theorem bg_1460 : (.laysFinal RX3 "ClassGate$ClassFile" "bytes" "LClassGate$Bytes;" : Cond) ∈ bg := bgf (tb_1 _ (List.mem_of_getElem? (i := 175) (by decide +kernel))) (by rfl)
theorem bg_1461 : (.lays RX3 "ClassGate$ClassFile" "pool" "LClassGate$Pool;" : Cond) ∈ bg := bgf (tb_1 _ (List.mem_of_getElem? (i := 177) (by decide +kernel))) (by rfl)
theorem bg_1462 : (.lays RX3 "ClassGate$ClassFile" "minor" "I" : Cond) ∈ bg := bgf (tb_1 _ (List.mem_of_getElem? (i := 179) (by decide +kernel))) (by rfl)
theorem bg_1463 : (.lays RX3 "ClassGate$ClassFile" "major" "I" : Cond) ∈ bg := bgf (tb_1 _ (List.mem_of_getElem? (i := 181) (by decide +kernel))) (by rfl)
theorem bg_1464 : (.lays RX3 "ClassGate$ClassFile" "flagsAt" "I" : Cond) ∈ bg := bgf (tb_1 _ (List.mem_of_getElem? (i := 183) (by decide +kernel))) (by rfl)
theorem bg_1465 : (.lays RX3 "ClassGate$ClassFile" "interfaceCount" "I" : Cond) ∈ bg := bgf (tb_1 _ (List.mem_of_getElem? (i := 185) (by decide +kernel))) (by rfl)
theorem bg_1466 : (.lays RX3 "ClassGate$ClassFile" "fields" "[LClassGate$Member;" : Cond) ∈ bg := bgf (tb_1 _ (List.mem_of_getElem? (i := 187) (by decide +kernel))) (by rfl)
theorem bg_1467 : (.lays RX3 "ClassGate$ClassFile" "methods" "[LClassGate$Member;" : Cond) ∈ bg := bgf (tb_1 _ (List.mem_of_getElem? (i := 189) (by decide +kernel))) (by rfl)
theorem bg_1468 : (.lays RX3 "ClassGate$ClassFile" "attributeCount" "I" : Cond) ∈ bg := bgf (tb_1 _ (List.mem_of_getElem? (i := 191) (by decide +kernel))) (by rfl)
theorem bg_1469 : (.lays RX3 "ClassGate$ClassFile" "attributesAt" "I" : Cond) ∈ bg := bgf (tb_1 _ (List.mem_of_getElem? (i := 193) (by decide +kernel))) (by rfl)
theorem bg_1470 : (.lays RX3 "ClassGate$ClassFile" "known" "I" : Cond) ∈ bg := bgf (tb_1 _ (List.mem_of_getElem? (i := 195) (by decide +kernel))) (by rfl)
theorem bg_1471 : (.lays RX3 "ClassGate$ClassFile" "bootstrapCount" "I" : Cond) ∈ bg := bgf (tb_1 _ (List.mem_of_getElem? (i := 197) (by decide +kernel))) (by rfl)
theorem bg_1472 : (.lays RX3 "ClassGate$ClassFile" "bootstrapsAt" "I" : Cond) ∈ bg := bgf (tb_1 _ (List.mem_of_getElem? (i := 199) (by decide +kernel))) (by rfl)
theorem bg_1473 : (.lays RX3 "ClassGate$ClassFile" "innerCount" "I" : Cond) ∈ bg := bgf (tb_1 _ (List.mem_of_getElem? (i := 201) (by decide +kernel))) (by rfl)
theorem bg_1474 : (.lays RX3 "ClassGate$ClassFile" "nestCount" "I" : Cond) ∈ bg := bgf (tb_1 _ (List.mem_of_getElem? (i := 203) (by decide +kernel))) (by rfl)
theorem bg_1475 : (.lays RX3 "ClassGate$ClassFile" "permittedCount" "I" : Cond) ∈ bg := bgf (tb_1 _ (List.mem_of_getElem? (i := 205) (by decide +kernel))) (by rfl)
theorem bg_1476 : (.lays RX3 "ClassGate$ClassFile" "recordCount" "I" : Cond) ∈ bg := bgf (tb_1 _ (List.mem_of_getElem? (i := 207) (by decide +kernel))) (by rfl)
theorem bg_1477 : (.laysFinal RX4 "ClassGate$Code" "maxStack" "I" : Cond) ∈ bg := bgf (tb_4 _ (List.mem_of_getElem? (i := 185) (by decide +kernel))) (by rfl)
theorem bg_1478 : (.laysFinal RX4 "ClassGate$Code" "maxLocals" "I" : Cond) ∈ bg := bgf (tb_4 _ (List.mem_of_getElem? (i := 187) (by decide +kernel))) (by rfl)
theorem bg_1479 : (.laysFinal RX4 "ClassGate$Code" "length" "I" : Cond) ∈ bg := bgf (tb_4 _ (List.mem_of_getElem? (i := 189) (by decide +kernel))) (by rfl)
theorem bg_1480 : (.laysFinal RX4 "ClassGate$Code" "rowsAt" "I" : Cond) ∈ bg := bgf (tb_4 _ (List.mem_of_getElem? (i := 191) (by decide +kernel))) (by rfl)
theorem bg_1481 : (.laysFinal RX4 "ClassGate$Code" "rowCount" "I" : Cond) ∈ bg := bgf (tb_4 _ (List.mem_of_getElem? (i := 193) (by decide +kernel))) (by rfl)
theorem bg_1482 : (.laysFinal RX4 "ClassGate$Code" "pool" "LClassGate$Pool;" : Cond) ∈ bg := bgf (tb_4 _ (List.mem_of_getElem? (i := 195) (by decide +kernel))) (by rfl)
theorem bg_1483 : (.laysFinal RX4 "ClassGate$Code" "major" "I" : Cond) ∈ bg := bgf (tb_4 _ (List.mem_of_getElem? (i := 197) (by decide +kernel))) (by rfl)
theorem bg_1484 : (.laysFinal RX4 "ClassGate$Code" "one" "LClassGate$Instruction;" : Cond) ∈ bg := bgf (tb_4 _ (List.mem_of_getElem? (i := 199) (by decide +kernel))) (by rfl)
theorem bg_1485 : (.lays RX4 "ClassGate$Code" "cutResult" "I" : Cond) ∈ bg := bgf (tb_4 _ (List.mem_of_getElem? (i := 201) (by decide +kernel))) (by rfl)
theorem bg_1486 : (.lays RX4 "ClassGate$Code" "starts" "[I" : Cond) ∈ bg := bgf (tb_4 _ (List.mem_of_getElem? (i := 203) (by decide +kernel))) (by rfl)
theorem bg_1487 : (.lays RX4 "ClassGate$Code" "numbers" "[I" : Cond) ∈ bg := bgf (tb_4 _ (List.mem_of_getElem? (i := 205) (by decide +kernel))) (by rfl)
theorem bg_1488 : (.laysFinal RX5 "ClassGate$Instruction" "bytes" "LClassGate$Bytes;" : Cond) ∈ bg := bgf (tb_4 _ (List.mem_of_getElem? (i := 139) (by decide +kernel))) (by rfl)
theorem bg_1489 : (.laysFinal RX5 "ClassGate$Instruction" "codeAt" "I" : Cond) ∈ bg := bgf (tb_4 _ (List.mem_of_getElem? (i := 141) (by decide +kernel))) (by rfl)
theorem bg_1490 : (.laysFinal RX5 "ClassGate$Instruction" "codeLength" "I" : Cond) ∈ bg := bgf (tb_4 _ (List.mem_of_getElem? (i := 143) (by decide +kernel))) (by rfl)
theorem bg_1491 : (.lays RX5 "ClassGate$Instruction" "opcode" "I" : Cond) ∈ bg := bgf (tb_4 _ (List.mem_of_getElem? (i := 145) (by decide +kernel))) (by rfl)
theorem bg_1492 : (.lays RX5 "ClassGate$Instruction" "size" "I" : Cond) ∈ bg := bgf (tb_4 _ (List.mem_of_getElem? (i := 147) (by decide +kernel))) (by rfl)
theorem bg_1493 : (.lays RX5 "ClassGate$Instruction" "first" "I" : Cond) ∈ bg := bgf (tb_4 _ (List.mem_of_getElem? (i := 149) (by decide +kernel))) (by rfl)
theorem bg_1494 : (.lays RX5 "ClassGate$Instruction" "second" "I" : Cond) ∈ bg := bgf (tb_4 _ (List.mem_of_getElem? (i := 151) (by decide +kernel))) (by rfl)
theorem bg_1495 : (.lays RX5 "ClassGate$Instruction" "localPlaces" "I" : Cond) ∈ bg := bgf (tb_4 _ (List.mem_of_getElem? (i := 153) (by decide +kernel))) (by rfl)
theorem bg_1496 : (.lays RX5 "ClassGate$Instruction" "targetCount" "I" : Cond) ∈ bg := bgf (tb_4 _ (List.mem_of_getElem? (i := 155) (by decide +kernel))) (by rfl)
theorem bg_1497 : (.lays RX5 "ClassGate$Instruction" "pc" "I" : Cond) ∈ bg := bgf (tb_4 _ (List.mem_of_getElem? (i := 157) (by decide +kernel))) (by rfl)
theorem bg_1498 : (.lays RX5 "ClassGate$Instruction" "offset" "I" : Cond) ∈ bg := bgf (tb_4 _ (List.mem_of_getElem? (i := 159) (by decide +kernel))) (by rfl)
theorem bg_1499 : (.lays RX5 "ClassGate$Instruction" "switchAt" "I" : Cond) ∈ bg := bgf (tb_4 _ (List.mem_of_getElem? (i := 161) (by decide +kernel))) (by rfl)
theorem bg_1500 : (.laysFinal RX6 "ClassGate$Member" "begin" "I" : Cond) ∈ bg := bgf (tb_2 _ (List.mem_of_getElem? (i := 150) (by decide +kernel))) (by rfl)
theorem bg_1501 : (.laysFinal RX6 "ClassGate$Member" "flags" "I" : Cond) ∈ bg := bgf (tb_2 _ (List.mem_of_getElem? (i := 152) (by decide +kernel))) (by rfl)
theorem bg_1502 : (.laysFinal RX6 "ClassGate$Member" "name" "I" : Cond) ∈ bg := bgf (tb_2 _ (List.mem_of_getElem? (i := 154) (by decide +kernel))) (by rfl)
theorem bg_1503 : (.laysFinal RX6 "ClassGate$Member" "descriptor" "I" : Cond) ∈ bg := bgf (tb_2 _ (List.mem_of_getElem? (i := 156) (by decide +kernel))) (by rfl)
theorem bg_1504 : (.laysFinal RX6 "ClassGate$Member" "attributeCount" "I" : Cond) ∈ bg := bgf (tb_2 _ (List.mem_of_getElem? (i := 158) (by decide +kernel))) (by rfl)
theorem bg_1505 : (.laysFinal RX6 "ClassGate$Member" "attributesAt" "I" : Cond) ∈ bg := bgf (tb_2 _ (List.mem_of_getElem? (i := 160) (by decide +kernel))) (by rfl)
theorem bg_1506 : (.lays RX6 "ClassGate$Member" "known" "I" : Cond) ∈ bg := bgf (tb_2 _ (List.mem_of_getElem? (i := 162) (by decide +kernel))) (by rfl)
theorem bg_1507 : (.lays RX6 "ClassGate$Member" "constant" "I" : Cond) ∈ bg := bgf (tb_2 _ (List.mem_of_getElem? (i := 164) (by decide +kernel))) (by rfl)
theorem bg_1508 : (.lays RX6 "ClassGate$Member" "argumentPlaces" "I" : Cond) ∈ bg := bgf (tb_2 _ (List.mem_of_getElem? (i := 166) (by decide +kernel))) (by rfl)
theorem bg_1509 : (.lays RX6 "ClassGate$Member" "exceptionCount" "I" : Cond) ∈ bg := bgf (tb_2 _ (List.mem_of_getElem? (i := 168) (by decide +kernel))) (by rfl)
theorem bg_1510 : (.lays RX6 "ClassGate$Member" "code" "LClassGate$Code;" : Cond) ∈ bg := bgf (tb_2 _ (List.mem_of_getElem? (i := 170) (by decide +kernel))) (by rfl)
theorem bg_1511 : (.laysFinal RX7 "ClassGate$Pool" "size" "I" : Cond) ∈ bg := bgf (tb_1 _ (List.mem_of_getElem? (i := 100) (by decide +kernel))) (by rfl)
theorem bg_1512 : (.laysFinal RX7 "ClassGate$Pool" "tags" "[I" : Cond) ∈ bg := bgf (tb_1 _ (List.mem_of_getElem? (i := 102) (by decide +kernel))) (by rfl)
theorem bg_1513 : (.laysFinal RX7 "ClassGate$Pool" "tagPlaces" "[I" : Cond) ∈ bg := bgf (tb_1 _ (List.mem_of_getElem? (i := 104) (by decide +kernel))) (by rfl)
theorem bg_1514 : (.laysFinal RX7 "ClassGate$Pool" "firsts" "[I" : Cond) ∈ bg := bgf (tb_1 _ (List.mem_of_getElem? (i := 106) (by decide +kernel))) (by rfl)
theorem bg_1515 : (.laysFinal RX7 "ClassGate$Pool" "seconds" "[I" : Cond) ∈ bg := bgf (tb_1 _ (List.mem_of_getElem? (i := 108) (by decide +kernel))) (by rfl)
theorem bg_1516 : (.laysFinal RX7 "ClassGate$Pool" "shapes" "[I" : Cond) ∈ bg := bgf (tb_1 _ (List.mem_of_getElem? (i := 110) (by decide +kernel))) (by rfl)
theorem bg_1517 : (.laysFinal RX7 "ClassGate$Pool" "characters" "[C" : Cond) ∈ bg := bgf (tb_1 _ (List.mem_of_getElem? (i := 112) (by decide +kernel))) (by rfl)
theorem bg_1518 : (.lays RX7 "ClassGate$Pool" "characterCount" "I" : Cond) ∈ bg := bgf (tb_1 _ (List.mem_of_getElem? (i := 114) (by decide +kernel))) (by rfl)
theorem bg_1519 : (.laysFinal RX8 "ClassGate$PoolCheck" "pool" "LClassGate$Pool;" : Cond) ∈ bg := bgf (tb_2 _ (List.mem_of_getElem? (i := 216) (by decide +kernel))) (by rfl)
theorem bg_1520 : (.laysFinal RX8 "ClassGate$PoolCheck" "major" "I" : Cond) ∈ bg := bgf (tb_2 _ (List.mem_of_getElem? (i := 218) (by decide +kernel))) (by rfl)
theorem bg_1521 : (.laysFinal RX8 "ClassGate$PoolCheck" "verdict" "LClassGate$Verdict;" : Cond) ∈ bg := bgf (tb_2 _ (List.mem_of_getElem? (i := 220) (by decide +kernel))) (by rfl)
theorem bg_1522 : (.laysFinal RX9 "ClassGate$Reader" "file" "LClassGate$ClassFile;" : Cond) ∈ bg := bgf (tb_1 _ (List.mem_of_getElem? (i := 239) (by decide +kernel))) (by rfl)
theorem bg_1523 : (.laysFinal RX9 "ClassGate$Reader" "bytes" "LClassGate$Bytes;" : Cond) ∈ bg := bgf (tb_2 _ (List.mem_of_getElem? (i := 1) (by decide +kernel))) (by rfl)
theorem bg_1524 : (.laysFinal RX9 "ClassGate$Reader" "verdict" "LClassGate$Verdict;" : Cond) ∈ bg := bgf (tb_2 _ (List.mem_of_getElem? (i := 3) (by decide +kernel))) (by rfl)
theorem bg_1525 : (.lays RX9 "ClassGate$Reader" "at" "I" : Cond) ∈ bg := bgf (tb_2 _ (List.mem_of_getElem? (i := 5) (by decide +kernel))) (by rfl)
theorem bg_1526 : (.lays RX9 "ClassGate$Reader" "item" "I" : Cond) ∈ bg := bgf (tb_2 _ (List.mem_of_getElem? (i := 7) (by decide +kernel))) (by rfl)
theorem bg_1527 : (.lays RX10 "ClassGate$Verdict" "rule" "I" : Cond) ∈ bg := bgf (tb_1 _ (List.mem_of_getElem? (i := 220) (by decide +kernel))) (by rfl)
theorem bg_1528 : (.lays RX10 "ClassGate$Verdict" "wrongAt" "I" : Cond) ∈ bg := bgf (tb_1 _ (List.mem_of_getElem? (i := 222) (by decide +kernel))) (by rfl)
theorem bg_1529 : (.lays RX11 "ClassGate" "came" "[B" : Cond) ∈ bg := bgf (tb_1 _ (List.mem_of_getElem? (i := 42) (by decide +kernel))) (by rfl)
theorem bg_1530 : (.lays RX11 "ClassGate" "cameCount" "I" : Cond) ∈ bg := bgf (tb_1 _ (List.mem_of_getElem? (i := 44) (by decide +kernel))) (by rfl)
theorem bg_1531 : (.lays RX11 "ClassGate" "file" "[B" : Cond) ∈ bg := bgf (tb_1 _ (List.mem_of_getElem? (i := 46) (by decide +kernel))) (by rfl)
theorem bg_1532 : (.lays RX11 "ClassGate" "kept" "LClassGate$ClassFile;" : Cond) ∈ bg := bgf (tb_1 _ (List.mem_of_getElem? (i := 48) (by decide +kernel))) (by rfl)
theorem bg_1533 : (.lays RX11 "ClassGate" "wrongPlace" "I" : Cond) ∈ bg := bgf (tb_1 _ (List.mem_of_getElem? (i := 50) (by decide +kernel))) (by rfl)
theorem bg_1534 : (.lays RX12 "ClassGateModel" "thrown" "I" : Cond) ∈ bg := bgf (tb_7 _ (List.mem_of_getElem? (i := 32) (by decide +kernel))) (by rfl)
theorem bg_1535 : (.laysFinal RX12 "ClassGateModel" "chars" "[C" : Cond) ∈ bg := bgf (tb_7 _ (List.mem_of_getElem? (i := 34) (by decide +kernel))) (by rfl)
theorem bg_1536 : (.laysFinal RX12 "ClassGateModel" "cut" "[C" : Cond) ∈ bg := bgf (tb_7 _ (List.mem_of_getElem? (i := 36) (by decide +kernel))) (by rfl)
theorem bg_1537 : (.lays RX12 "ClassGateModel" "charsN" "I" : Cond) ∈ bg := bgf (tb_7 _ (List.mem_of_getElem? (i := 38) (by decide +kernel))) (by rfl)
theorem bg_1538 : (.laysFinal RX12 "ClassGateModel" "symAt" "[I" : Cond) ∈ bg := bgf (tb_7 _ (List.mem_of_getElem? (i := 40) (by decide +kernel))) (by rfl)
theorem bg_1539 : (.laysFinal RX12 "ClassGateModel" "symLen" "[I" : Cond) ∈ bg := bgf (tb_7 _ (List.mem_of_getElem? (i := 42) (by decide +kernel))) (by rfl)
theorem bg_1540 : (.laysFinal RX12 "ClassGateModel" "symNext" "[I" : Cond) ∈ bg := bgf (tb_7 _ (List.mem_of_getElem? (i := 44) (by decide +kernel))) (by rfl)
theorem bg_1541 : (.laysFinal RX12 "ClassGateModel" "symHead" "[I" : Cond) ∈ bg := bgf (tb_7 _ (List.mem_of_getElem? (i := 46) (by decide +kernel))) (by rfl)
theorem bg_1542 : (.lays RX12 "ClassGateModel" "syms" "I" : Cond) ∈ bg := bgf (tb_7 _ (List.mem_of_getElem? (i := 48) (by decide +kernel))) (by rfl)
theorem bg_1543 : (.lays RX12 "ClassGateModel" "S_INIT" "I" : Cond) ∈ bg := bgf (tb_7 _ (List.mem_of_getElem? (i := 50) (by decide +kernel))) (by rfl)
theorem bg_1544 : (.lays RX12 "ClassGateModel" "S_CLINIT" "I" : Cond) ∈ bg := bgf (tb_7 _ (List.mem_of_getElem? (i := 52) (by decide +kernel))) (by rfl)
theorem bg_1545 : (.lays RX12 "ClassGateModel" "S_OBJECT" "I" : Cond) ∈ bg := bgf (tb_7 _ (List.mem_of_getElem? (i := 54) (by decide +kernel))) (by rfl)
theorem bg_1546 : (.laysFinal RX12 "ClassGateModel" "files" "[B" : Cond) ∈ bg := bgf (tb_7 _ (List.mem_of_getElem? (i := 56) (by decide +kernel))) (by rfl)
theorem bg_1547 : (.laysFinal RX12 "ClassGateModel" "file" "[B" : Cond) ∈ bg := bgf (tb_7 _ (List.mem_of_getElem? (i := 58) (by decide +kernel))) (by rfl)
theorem bg_1548 : (.laysFinal RX12 "ClassGateModel" "kept" "[B" : Cond) ∈ bg := bgf (tb_7 _ (List.mem_of_getElem? (i := 60) (by decide +kernel))) (by rfl)
theorem bg_1549 : (.laysFinal RX12 "ClassGateModel" "came" "[B" : Cond) ∈ bg := bgf (tb_7 _ (List.mem_of_getElem? (i := 62) (by decide +kernel))) (by rfl)
theorem bg_1550 : (.lays RX12 "ClassGateModel" "size" "I" : Cond) ∈ bg := bgf (tb_7 _ (List.mem_of_getElem? (i := 64) (by decide +kernel))) (by rfl)
theorem bg_1551 : (.lays RX12 "ClassGateModel" "fileN" "I" : Cond) ∈ bg := bgf (tb_7 _ (List.mem_of_getElem? (i := 66) (by decide +kernel))) (by rfl)
theorem bg_1552 : (.lays RX12 "ClassGateModel" "keptN" "I" : Cond) ∈ bg := bgf (tb_7 _ (List.mem_of_getElem? (i := 68) (by decide +kernel))) (by rfl)
theorem bg_1553 : (.lays RX12 "ClassGateModel" "cameN" "I" : Cond) ∈ bg := bgf (tb_7 _ (List.mem_of_getElem? (i := 70) (by decide +kernel))) (by rfl)
theorem bg_1554 : (.lays RX12 "ClassGateModel" "pool" "I" : Cond) ∈ bg := bgf (tb_7 _ (List.mem_of_getElem? (i := 72) (by decide +kernel))) (by rfl)
theorem bg_1555 : (.laysFinal RX12 "ClassGateModel" "pAt" "[I" : Cond) ∈ bg := bgf (tb_7 _ (List.mem_of_getElem? (i := 74) (by decide +kernel))) (by rfl)
theorem bg_1556 : (.laysFinal RX12 "ClassGateModel" "pSym" "[I" : Cond) ∈ bg := bgf (tb_7 _ (List.mem_of_getElem? (i := 76) (by decide +kernel))) (by rfl)
theorem bg_1557 : (.laysFinal RX12 "ClassGateModel" "pState" "[I" : Cond) ∈ bg := bgf (tb_7 _ (List.mem_of_getElem? (i := 78) (by decide +kernel))) (by rfl)
theorem bg_1558 : (.laysFinal RX12 "ClassGateModel" "pObj" "[I" : Cond) ∈ bg := bgf (tb_7 _ (List.mem_of_getElem? (i := 80) (by decide +kernel))) (by rfl)
theorem bg_1559 : (.lays RX12 "ClassGateModel" "fields" "I" : Cond) ∈ bg := bgf (tb_7 _ (List.mem_of_getElem? (i := 82) (by decide +kernel))) (by rfl)
theorem bg_1560 : (.lays RX12 "ClassGateModel" "methods" "I" : Cond) ∈ bg := bgf (tb_7 _ (List.mem_of_getElem? (i := 84) (by decide +kernel))) (by rfl)
theorem bg_1561 : (.laysFinal RX12 "ClassGateModel" "fFlags" "[I" : Cond) ∈ bg := bgf (tb_7 _ (List.mem_of_getElem? (i := 86) (by decide +kernel))) (by rfl)
theorem bg_1562 : (.laysFinal RX12 "ClassGateModel" "fName" "[I" : Cond) ∈ bg := bgf (tb_7 _ (List.mem_of_getElem? (i := 88) (by decide +kernel))) (by rfl)
theorem bg_1563 : (.laysFinal RX12 "ClassGateModel" "fDesc" "[I" : Cond) ∈ bg := bgf (tb_7 _ (List.mem_of_getElem? (i := 90) (by decide +kernel))) (by rfl)
theorem bg_1564 : (.laysFinal RX12 "ClassGateModel" "fConst" "[I" : Cond) ∈ bg := bgf (tb_7 _ (List.mem_of_getElem? (i := 92) (by decide +kernel))) (by rfl)
theorem bg_1565 : (.laysFinal RX12 "ClassGateModel" "fKnown" "[I" : Cond) ∈ bg := bgf (tb_7 _ (List.mem_of_getElem? (i := 94) (by decide +kernel))) (by rfl)
theorem bg_1566 : (.laysFinal RX12 "ClassGateModel" "fNameAt" "[I" : Cond) ∈ bg := bgf (tb_7 _ (List.mem_of_getElem? (i := 96) (by decide +kernel))) (by rfl)
theorem bg_1567 : (.laysFinal RX12 "ClassGateModel" "fDescAt" "[I" : Cond) ∈ bg := bgf (tb_7 _ (List.mem_of_getElem? (i := 98) (by decide +kernel))) (by rfl)
theorem bg_1568 : (.laysFinal RX12 "ClassGateModel" "mFlags" "[I" : Cond) ∈ bg := bgf (tb_7 _ (List.mem_of_getElem? (i := 100) (by decide +kernel))) (by rfl)
theorem bg_1569 : (.laysFinal RX12 "ClassGateModel" "mName" "[I" : Cond) ∈ bg := bgf (tb_7 _ (List.mem_of_getElem? (i := 102) (by decide +kernel))) (by rfl)
theorem bg_1570 : (.laysFinal RX12 "ClassGateModel" "mDesc" "[I" : Cond) ∈ bg := bgf (tb_7 _ (List.mem_of_getElem? (i := 104) (by decide +kernel))) (by rfl)
theorem bg_1571 : (.laysFinal RX12 "ClassGateModel" "mCode" "[I" : Cond) ∈ bg := bgf (tb_7 _ (List.mem_of_getElem? (i := 106) (by decide +kernel))) (by rfl)
theorem bg_1572 : (.laysFinal RX12 "ClassGateModel" "mLen" "[I" : Cond) ∈ bg := bgf (tb_7 _ (List.mem_of_getElem? (i := 108) (by decide +kernel))) (by rfl)
theorem bg_1573 : (.laysFinal RX12 "ClassGateModel" "mStack" "[I" : Cond) ∈ bg := bgf (tb_7 _ (List.mem_of_getElem? (i := 110) (by decide +kernel))) (by rfl)
theorem bg_1574 : (.laysFinal RX12 "ClassGateModel" "mLocals" "[I" : Cond) ∈ bg := bgf (tb_7 _ (List.mem_of_getElem? (i := 112) (by decide +kernel))) (by rfl)
theorem bg_1575 : (.laysFinal RX12 "ClassGateModel" "mRows" "[I" : Cond) ∈ bg := bgf (tb_7 _ (List.mem_of_getElem? (i := 114) (by decide +kernel))) (by rfl)
theorem bg_1576 : (.laysFinal RX12 "ClassGateModel" "mRowN" "[I" : Cond) ∈ bg := bgf (tb_7 _ (List.mem_of_getElem? (i := 116) (by decide +kernel))) (by rfl)
theorem bg_1577 : (.laysFinal RX12 "ClassGateModel" "mKnown" "[I" : Cond) ∈ bg := bgf (tb_7 _ (List.mem_of_getElem? (i := 118) (by decide +kernel))) (by rfl)
theorem bg_1578 : (.laysFinal RX12 "ClassGateModel" "mThrows" "[I" : Cond) ∈ bg := bgf (tb_7 _ (List.mem_of_getElem? (i := 120) (by decide +kernel))) (by rfl)
theorem bg_1579 : (.laysFinal RX12 "ClassGateModel" "mNameAt" "[I" : Cond) ∈ bg := bgf (tb_7 _ (List.mem_of_getElem? (i := 122) (by decide +kernel))) (by rfl)
theorem bg_1580 : (.laysFinal RX12 "ClassGateModel" "mDescAt" "[I" : Cond) ∈ bg := bgf (tb_7 _ (List.mem_of_getElem? (i := 124) (by decide +kernel))) (by rfl)
theorem bg_1581 : (.lays RX12 "ClassGateModel" "rule" "I" : Cond) ∈ bg := bgf (tb_7 _ (List.mem_of_getElem? (i := 126) (by decide +kernel))) (by rfl)
theorem bg_1582 : (.lays RX12 "ClassGateModel" "wrongAt" "I" : Cond) ∈ bg := bgf (tb_7 _ (List.mem_of_getElem? (i := 128) (by decide +kernel))) (by rfl)
theorem bg_1583 : (.lays RX12 "ClassGateModel" "base" "I" : Cond) ∈ bg := bgf (tb_7 _ (List.mem_of_getElem? (i := 130) (by decide +kernel))) (by rfl)
theorem bg_1584 : (.lays RX12 "ClassGateModel" "pos" "I" : Cond) ∈ bg := bgf (tb_7 _ (List.mem_of_getElem? (i := 132) (by decide +kernel))) (by rfl)
theorem bg_1585 : (.lays RX12 "ClassGateModel" "cpBase" "I" : Cond) ∈ bg := bgf (tb_7 _ (List.mem_of_getElem? (i := 134) (by decide +kernel))) (by rfl)
theorem bg_1586 : (.lays RX12 "ClassGateModel" "cpN" "I" : Cond) ∈ bg := bgf (tb_7 _ (List.mem_of_getElem? (i := 136) (by decide +kernel))) (by rfl)
theorem bg_1587 : (.lays RX12 "ClassGateModel" "major" "I" : Cond) ∈ bg := bgf (tb_7 _ (List.mem_of_getElem? (i := 138) (by decide +kernel))) (by rfl)
theorem bg_1588 : (.lays RX12 "ClassGateModel" "headAt" "I" : Cond) ∈ bg := bgf (tb_7 _ (List.mem_of_getElem? (i := 140) (by decide +kernel))) (by rfl)
theorem bg_1589 : (.lays RX12 "ClassGateModel" "fieldsAt" "I" : Cond) ∈ bg := bgf (tb_7 _ (List.mem_of_getElem? (i := 142) (by decide +kernel))) (by rfl)
theorem bg_1590 : (.lays RX12 "ClassGateModel" "methodsAt" "I" : Cond) ∈ bg := bgf (tb_7 _ (List.mem_of_getElem? (i := 144) (by decide +kernel))) (by rfl)
theorem bg_1591 : (.lays RX12 "ClassGateModel" "attributesAt" "I" : Cond) ∈ bg := bgf (tb_7 _ (List.mem_of_getElem? (i := 146) (by decide +kernel))) (by rfl)
theorem bg_1592 : (.lays RX12 "ClassGateModel" "newFlags" "I" : Cond) ∈ bg := bgf (tb_7 _ (List.mem_of_getElem? (i := 148) (by decide +kernel))) (by rfl)
theorem bg_1593 : (.lays RX12 "ClassGateModel" "newName" "I" : Cond) ∈ bg := bgf (tb_7 _ (List.mem_of_getElem? (i := 150) (by decide +kernel))) (by rfl)
theorem bg_1594 : (.lays RX12 "ClassGateModel" "newSuper" "I" : Cond) ∈ bg := bgf (tb_7 _ (List.mem_of_getElem? (i := 152) (by decide +kernel))) (by rfl)
theorem bg_1595 : (.lays RX12 "ClassGateModel" "newIfs" "I" : Cond) ∈ bg := bgf (tb_7 _ (List.mem_of_getElem? (i := 154) (by decide +kernel))) (by rfl)
theorem bg_1596 : (.laysFinal RX12 "ClassGateModel" "KNOWN" "[Ljava/lang/String;" : Cond) ∈ bg := bgf (tb_7 _ (List.mem_of_getElem? (i := 156) (by decide +kernel))) (by rfl)
theorem bg_1597 : (.laysFinal RX12 "ClassGateModel" "KNOWN_IN" "[I" : Cond) ∈ bg := bgf (tb_7 _ (List.mem_of_getElem? (i := 158) (by decide +kernel))) (by rfl)
theorem bg_1598 : (.laysFinal RX12 "ClassGateModel" "KNOWN_FROM" "[I" : Cond) ∈ bg := bgf (tb_7 _ (List.mem_of_getElem? (i := 160) (by decide +kernel))) (by rfl)
theorem bg_1599 : (.lays RX12 "ClassGateModel" "newInners" "I" : Cond) ∈ bg := bgf (tb_7 _ (List.mem_of_getElem? (i := 162) (by decide +kernel))) (by rfl)
end
section
theorem bg_1600 : (.lays RX12 "ClassGateModel" "newKnown" "I" : Cond) ∈ bg := bgf (tb_7 _ (List.mem_of_getElem? (i := 164) (by decide +kernel))) (by rfl)
theorem bg_1601 : (.lays RX12 "ClassGateModel" "newHost" "I" : Cond) ∈ bg := bgf (tb_7 _ (List.mem_of_getElem? (i := 166) (by decide +kernel))) (by rfl)
theorem bg_1602 : (.lays RX12 "ClassGateModel" "newMembers" "I" : Cond) ∈ bg := bgf (tb_7 _ (List.mem_of_getElem? (i := 168) (by decide +kernel))) (by rfl)
theorem bg_1603 : (.lays RX12 "ClassGateModel" "newPermitted" "I" : Cond) ∈ bg := bgf (tb_7 _ (List.mem_of_getElem? (i := 170) (by decide +kernel))) (by rfl)
theorem bg_1604 : (.lays RX12 "ClassGateModel" "newBoot" "I" : Cond) ∈ bg := bgf (tb_7 _ (List.mem_of_getElem? (i := 172) (by decide +kernel))) (by rfl)
theorem bg_1605 : (.lays RX12 "ClassGateModel" "newBootN" "I" : Cond) ∈ bg := bgf (tb_7 _ (List.mem_of_getElem? (i := 174) (by decide +kernel))) (by rfl)
theorem bg_1606 : (.lays RX12 "ClassGateModel" "newRecord" "I" : Cond) ∈ bg := bgf (tb_7 _ (List.mem_of_getElem? (i := 176) (by decide +kernel))) (by rfl)
theorem bg_1607 : (.lays RX12 "ClassGateModel" "lastPlace" "I" : Cond) ∈ bg := bgf (tb_7 _ (List.mem_of_getElem? (i := 178) (by decide +kernel))) (by rfl)
theorem bg_1608 : (.lays RX12 "ClassGateModel" "cutOf" "I" : Cond) ∈ bg := bgf (tb_7 _ (List.mem_of_getElem? (i := 180) (by decide +kernel))) (by rfl)
theorem bg_1609 : (.lays RX12 "ClassGateModel" "many" "I" : Cond) ∈ bg := bgf (tb_7 _ (List.mem_of_getElem? (i := 182) (by decide +kernel))) (by rfl)
theorem bg_1610 : (.lays RX12 "ClassGateModel" "wrongCode" "I" : Cond) ∈ bg := bgf (tb_7 _ (List.mem_of_getElem? (i := 184) (by decide +kernel))) (by rfl)
theorem bg_1611 : (.lays RX12 "ClassGateModel" "codeAt" "I" : Cond) ∈ bg := bgf (tb_7 _ (List.mem_of_getElem? (i := 186) (by decide +kernel))) (by rfl)
theorem bg_1612 : (.lays RX12 "ClassGateModel" "codeLen" "I" : Cond) ∈ bg := bgf (tb_7 _ (List.mem_of_getElem? (i := 188) (by decide +kernel))) (by rfl)
theorem bg_1613 : (.lays RX12 "ClassGateModel" "maxL" "I" : Cond) ∈ bg := bgf (tb_7 _ (List.mem_of_getElem? (i := 190) (by decide +kernel))) (by rfl)
theorem bg_1614 : (.laysFinal RX12 "ClassGateModel" "begins" "[I" : Cond) ∈ bg := bgf (tb_7 _ (List.mem_of_getElem? (i := 192) (by decide +kernel))) (by rfl)
theorem bg_1615 : (.laysFinal RX12 "ClassGateModel" "which" "[I" : Cond) ∈ bg := bgf (tb_7 _ (List.mem_of_getElem? (i := 194) (by decide +kernel))) (by rfl)
theorem bg_1616 : (.initialized "java/lang/Throwable" : Cond) ∈ bg := bgf (tb_1 _ (List.mem_of_getElem? (i := 7) (by decide +kernel))) (by rfl)
theorem bg_1617 : (.lays "java/lang/Throwable" "java/lang/Throwable" "cause" "Ljava/lang/Throwable;" : Cond) ∈ bg := bgf (tb_5 _ (List.mem_of_getElem? (i := 228) (by decide +kernel))) (by rfl)
theorem bg_1618 : (.lays "java/lang/Throwable" "java/lang/Throwable" "stackTrace" "[Ljava/lang/StackTraceElement;" : Cond) ∈ bg := bgf (tb_5 _ (List.mem_of_getElem? (i := 230) (by decide +kernel))) (by rfl)
theorem bg_1619 : (.lays "java/lang/Throwable" "java/lang/Throwable" "suppressedExceptions" "Ljava/util/List;" : Cond) ∈ bg := bgf (tb_5 _ (List.mem_of_getElem? (i := 232) (by decide +kernel))) (by rfl)
theorem bg_1620 : (.lays "java/lang/Throwable" "java/lang/Throwable" "detailMessage" "Ljava/lang/String;" : Cond) ∈ bg := bgf (tb_5 _ (List.mem_of_getElem? (i := 234) (by decide +kernel))) (by rfl)
theorem bg_1621 : (.lays "java/lang/Throwable" "java/lang/Throwable" "backtrace" "Ljava/lang/Object;" : Cond) ∈ bg := bgf (tb_5 _ (List.mem_of_getElem? (i := 236) (by decide +kernel))) (by rfl)
theorem bg_1622 : (.fieldLink "java/lang/Throwable" 198 "java/lang/Throwable" "backtrace" "Ljava/lang/Object;" : Cond) ∈ bg := bgf (tb_5 _ (List.mem_of_getElem? (i := 237) (by decide +kernel))) (by rfl)
theorem bg_1623 : (.superclass "java/lang/Throwable" "java/lang/Object" : Cond) ∈ bg := bgf (tb_5 _ (List.mem_of_getElem? (i := 238) (by decide +kernel))) (by rfl)
theorem bg_1624 : (.instanceMethod ⟨"java/lang/Throwable", "<init>", "()V"⟩ : Cond) ∈ bg := bgf (tb_5 _ (List.mem_of_getElem? (i := 239) (by decide +kernel))) (by rfl)
theorem bg_1625 : (.code ⟨"java/lang/Throwable", "<init>", "()V"⟩ prog_26_method_1_code 1 none : Cond) ∈ bg := bgf (tb_6 _ (List.mem_of_getElem? (i := 0) (by rfl))) (by rfl)
theorem bg_1626 : (.methodLink "java/lang/Throwable" 1 ⟨"java/lang/Object", "<init>", "()V"⟩ : Cond) ∈ bg := bgf (tb_6 _ (List.mem_of_getElem? (i := 1) (by decide +kernel))) (by rfl)
theorem bg_1627 : (.fieldLink "java/lang/Throwable" 13 "java/lang/Throwable" "UNASSIGNED_STACK" "[Ljava/lang/StackTraceElement;" : Cond) ∈ bg := bgf (tb_6 _ (List.mem_of_getElem? (i := 2) (by decide +kernel))) (by rfl)
theorem bg_1628 : (.fieldLink "java/lang/Throwable" 20 "java/lang/Throwable" "SUPPRESSED_SENTINEL" "Ljava/util/List;" : Cond) ∈ bg := bgf (tb_6 _ (List.mem_of_getElem? (i := 4) (by decide +kernel))) (by rfl)
theorem bg_1629 : (.methodLink "java/lang/Throwable" 27 ⟨"java/lang/Throwable", "fillInStackTrace", "()Ljava/lang/Throwable;"⟩ : Cond) ∈ bg := bgf (tb_6 _ (List.mem_of_getElem? (i := 6) (by decide +kernel))) (by rfl)
theorem bg_1630 : (.instanceMethod ⟨"java/lang/Throwable", "fillInStackTrace", "()Ljava/lang/Throwable;"⟩ : Cond) ∈ bg := bgf (tb_6 _ (List.mem_of_getElem? (i := 7) (by decide +kernel))) (by rfl)
theorem bg_1631 : (.selects "java/lang/IllegalArgumentException" ⟨"java/lang/Throwable", "fillInStackTrace", "()Ljava/lang/Throwable;"⟩ ⟨"java/lang/Throwable", "fillInStackTrace", "()Ljava/lang/Throwable;"⟩ : Cond) ∈ bg := bgf (tb_6 _ (List.mem_of_getElem? (i := 9) (by decide +kernel))) (by rfl)
theorem bg_1632 : (.codeSync ⟨"java/lang/Throwable", "fillInStackTrace", "()Ljava/lang/Throwable;"⟩ prog_26_method_18_code 1 (some (.object "java/lang/Throwable")) : Cond) ∈ bg := bgf (tb_6 _ (List.mem_of_getElem? (i := 10) (by rfl))) (by rfl)
theorem bg_1633 : (.methodLink "java/lang/Throwable" 202 ⟨"java/lang/Throwable", "fillInStackTrace", "(I)Ljava/lang/Throwable;"⟩ : Cond) ∈ bg := bgf (tb_6 _ (List.mem_of_getElem? (i := 11) (by decide +kernel))) (by rfl)
theorem bg_1634 : (.instanceMethod ⟨"java/lang/Throwable", "fillInStackTrace", "(I)Ljava/lang/Throwable;"⟩ : Cond) ∈ bg := bgf (tb_6 _ (List.mem_of_getElem? (i := 13) (by decide +kernel))) (by rfl)
theorem bg_1635 : (.instantiable "java/lang/Throwable" 6 : Cond) ∈ bg := bgf (tb_6 _ (List.mem_of_getElem? (i := 14) (by decide +kernel))) (by rfl)
theorem bg_1636 : (.native ⟨"java/lang/Throwable", "fillInStackTrace", "(I)Ljava/lang/Throwable;"⟩ : Cond) ∈ bg := bgf (tb_6 _ (List.mem_of_getElem? (i := 15) (by decide +kernel))) (by rfl)
theorem bg_1637 : (.instanceMethod ⟨"java/lang/RuntimeException", "<init>", "(Ljava/lang/String;)V"⟩ : Cond) ∈ bg := bgf (tb_6 _ (List.mem_of_getElem? (i := 21) (by decide +kernel))) (by rfl)
theorem bg_1638 : (.code ⟨"java/lang/RuntimeException", "<init>", "(Ljava/lang/String;)V"⟩ prog_21_method_2_code 2 none : Cond) ∈ bg := bgf (tb_6 _ (List.mem_of_getElem? (i := 22) (by rfl))) (by rfl)
theorem bg_1639 : (.methodLink "java/lang/RuntimeException" 7 ⟨"java/lang/Exception", "<init>", "(Ljava/lang/String;)V"⟩ : Cond) ∈ bg := bgf (tb_6 _ (List.mem_of_getElem? (i := 23) (by decide +kernel))) (by rfl)
theorem bg_1640 : (.instanceMethod ⟨"java/lang/Exception", "<init>", "(Ljava/lang/String;)V"⟩ : Cond) ∈ bg := bgf (tb_6 _ (List.mem_of_getElem? (i := 24) (by decide +kernel))) (by rfl)
theorem bg_1641 : (.code ⟨"java/lang/Exception", "<init>", "(Ljava/lang/String;)V"⟩ prog_16_method_2_code 2 none : Cond) ∈ bg := bgf (tb_6 _ (List.mem_of_getElem? (i := 25) (by rfl))) (by rfl)
theorem bg_1642 : (.methodLink "java/lang/Exception" 7 ⟨"java/lang/Throwable", "<init>", "(Ljava/lang/String;)V"⟩ : Cond) ∈ bg := bgf (tb_6 _ (List.mem_of_getElem? (i := 26) (by decide +kernel))) (by rfl)
theorem bg_1643 : (.instanceMethod ⟨"java/lang/Throwable", "<init>", "(Ljava/lang/String;)V"⟩ : Cond) ∈ bg := bgf (tb_6 _ (List.mem_of_getElem? (i := 27) (by decide +kernel))) (by rfl)
theorem bg_1644 : (.code ⟨"java/lang/Throwable", "<init>", "(Ljava/lang/String;)V"⟩ prog_26_method_2_code 2 none : Cond) ∈ bg := bgf (tb_6 _ (List.mem_of_getElem? (i := 28) (by rfl))) (by rfl)
theorem bg_1645 : (.fieldLink "java/lang/Throwable" 31 "java/lang/Throwable" "detailMessage" "Ljava/lang/String;" : Cond) ∈ bg := bgf (tb_6 _ (List.mem_of_getElem? (i := 30) (by decide +kernel))) (by rfl)
theorem bg_1646 : (.fieldLink "java/lang/Throwable" 7 "java/lang/Throwable" "cause" "Ljava/lang/Throwable;" : Cond) ∈ bg := bgf (tb_6 _ (List.mem_of_getElem? (i := 31) (by decide +kernel))) (by rfl)
theorem bg_1647 : (.fieldLink "java/lang/Throwable" 17 "java/lang/Throwable" "stackTrace" "[Ljava/lang/StackTraceElement;" : Cond) ∈ bg := bgf (tb_6 _ (List.mem_of_getElem? (i := 32) (by decide +kernel))) (by rfl)
theorem bg_1648 : (.fieldLink "java/lang/Throwable" 24 "java/lang/Throwable" "suppressedExceptions" "Ljava/util/List;" : Cond) ∈ bg := bgf (tb_6 _ (List.mem_of_getElem? (i := 33) (by decide +kernel))) (by rfl)
theorem bg_1649 : (.instantiable "java/lang/IllegalArgumentException" 6 : Cond) ∈ bg := bgf (tb_6 _ (List.mem_of_getElem? (i := 69) (by decide +kernel))) (by rfl)
theorem bg_1650 : (.selects "java/lang/IllegalArgumentException" ⟨"java/lang/Throwable", "fillInStackTrace", "(I)Ljava/lang/Throwable;"⟩ ⟨"java/lang/Throwable", "fillInStackTrace", "(I)Ljava/lang/Throwable;"⟩ : Cond) ∈ bg := bgf (tb_6 _ (List.mem_of_getElem? (i := 71) (by decide +kernel))) (by rfl)
theorem bg_1651 : (.lays "java/lang/IllegalArgumentException" "java/lang/Throwable" "cause" "Ljava/lang/Throwable;" : Cond) ∈ bg := bgf (tb_6 _ (List.mem_of_getElem? (i := 72) (by decide +kernel))) (by rfl)
theorem bg_1652 : (.lays "java/lang/IllegalArgumentException" "java/lang/Throwable" "stackTrace" "[Ljava/lang/StackTraceElement;" : Cond) ∈ bg := bgf (tb_6 _ (List.mem_of_getElem? (i := 73) (by decide +kernel))) (by rfl)
theorem bg_1653 : (.lays "java/lang/IllegalArgumentException" "java/lang/Throwable" "suppressedExceptions" "Ljava/util/List;" : Cond) ∈ bg := bgf (tb_6 _ (List.mem_of_getElem? (i := 74) (by decide +kernel))) (by rfl)
theorem bg_1654 : (.lays "java/lang/IllegalArgumentException" "java/lang/Throwable" "detailMessage" "Ljava/lang/String;" : Cond) ∈ bg := bgf (tb_6 _ (List.mem_of_getElem? (i := 75) (by decide +kernel))) (by rfl)
theorem bg_1655 : (.lays "java/lang/IllegalArgumentException" "java/lang/Throwable" "backtrace" "Ljava/lang/Object;" : Cond) ∈ bg := bgf (tb_6 _ (List.mem_of_getElem? (i := 76) (by decide +kernel))) (by rfl)
theorem bg_1656 : (.methodLink "ClassGate" 48 ⟨"java/lang/IllegalArgumentException", "<init>", "(Ljava/lang/String;)V"⟩ : Cond) ∈ bg := bgf (tb_6 _ (List.mem_of_getElem? (i := 78) (by decide +kernel))) (by rfl)
theorem bg_1657 : (.instanceMethod ⟨"java/lang/IllegalArgumentException", "<init>", "(Ljava/lang/String;)V"⟩ : Cond) ∈ bg := bgf (tb_6 _ (List.mem_of_getElem? (i := 79) (by decide +kernel))) (by rfl)
theorem bg_1658 : (.code ⟨"java/lang/IllegalArgumentException", "<init>", "(Ljava/lang/String;)V"⟩ prog_17_method_2_code 2 none : Cond) ∈ bg := bgf (tb_6 _ (List.mem_of_getElem? (i := 80) (by rfl))) (by rfl)
theorem bg_1659 : (.methodLink "java/lang/IllegalArgumentException" 7 ⟨"java/lang/RuntimeException", "<init>", "(Ljava/lang/String;)V"⟩ : Cond) ∈ bg := bgf (tb_6 _ (List.mem_of_getElem? (i := 81) (by decide +kernel))) (by rfl)
theorem bg_1660 : (.lays "java/lang/IllegalArgumentException" "java/lang/Throwable" "depth" "I" : Cond) ∈ bg := bgf (tb_6 _ (List.mem_of_getElem? (i := 82) (by decide +kernel))) (by rfl)
theorem bg_1661 : (.superclass "java/lang/IllegalArgumentException" "java/lang/RuntimeException" : Cond) ∈ bg := bgf (tb_6 _ (List.mem_of_getElem? (i := 83) (by decide +kernel))) (by rfl)
theorem bg_1662 : (.instanceMethod ⟨"java/lang/Object", "<init>", "()V"⟩ : Cond) ∈ bg := bgf (tb_1 _ (List.mem_of_getElem? (i := 33) (by decide +kernel))) (by rfl)
theorem bg_1663 : (.classLink RL 19 "java/lang/IllegalArgumentException" : Cond) ∈ bg := bgf (tb_6 _ (List.mem_of_getElem? (i := 63) (by decide +kernel))) (by rfl)
theorem bg_1664 : (.methodLink RX7 15 Lib.Math.min.name : Cond) ∈ bg := bgf (tb_1 _ (List.mem_of_getElem? (i := 80) (by decide +kernel))) (by rfl)
theorem bg_1665 : (.methodLink RX9 137 Lib.Math.min.name : Cond) ∈ bg := bgf (tb_2 _ (List.mem_of_getElem? (i := 105) (by decide +kernel))) (by rfl)
theorem bg_1666 : (.methodLink RJ7 304 Lib.Math.min.name : Cond) ∈ bg := bgf (tb_6 _ (List.mem_of_getElem? (i := 56) (by decide +kernel))) (by rfl)
theorem bg_1667 : (.static Lib.Math.min.name : Cond) ∈ bg := bgf (tb_1 _ (List.mem_of_getElem? (i := 81) (by decide +kernel))) (by rfl)
theorem bg_1668 : (.code Lib.Math.min.name Lib.Math.min.code 2 (some .int) : Cond) ∈ bg := bgf (tb_1 _ (List.mem_of_getElem? (i := 82) (by rfl))) (by rfl)
theorem bg_1669 : (.methodLink RX4 63 Lib.Math.max.name : Cond) ∈ bg := bgf (tb_5 _ (List.mem_of_getElem? (i := 80) (by decide +kernel))) (by rfl)
theorem bg_1670 : (.methodLink RX7 21 Lib.Math.max.name : Cond) ∈ bg := bgf (tb_1 _ (List.mem_of_getElem? (i := 83) (by decide +kernel))) (by rfl)
theorem bg_1671 : (.methodLink RX9 143 Lib.Math.max.name : Cond) ∈ bg := bgf (tb_2 _ (List.mem_of_getElem? (i := 106) (by decide +kernel))) (by rfl)
theorem bg_1672 : (.static Lib.Math.max.name : Cond) ∈ bg := bgf (tb_1 _ (List.mem_of_getElem? (i := 84) (by decide +kernel))) (by rfl)
theorem bg_1673 : (.code Lib.Math.max.name Lib.Math.max.code 2 (some .int) : Cond) ∈ bg := bgf (tb_1 _ (List.mem_of_getElem? (i := 85) (by rfl))) (by rfl)
theorem bg_1674 : (.initialized "java/lang/Math" : Cond) ∈ bg := bgf (tb_1 _ (List.mem_of_getElem? (i := 12) (by decide +kernel))) (by rfl)
theorem bg_1675 : (.initialized "java/lang/System" : Cond) ∈ bg := bgf (tb_1 _ (List.mem_of_getElem? (i := 13) (by decide +kernel))) (by rfl)
theorem bg_1676 : (.methodLink RJ7 150 arraycopyName : Cond) ∈ bg := bgf (tb_6 _ (List.mem_of_getElem? (i := 57) (by decide +kernel))) (by rfl)
theorem bg_1677 : (.native arraycopyName : Cond) ∈ bg := bgf (tb_6 _ (List.mem_of_getElem? (i := 59) (by decide +kernel))) (by rfl)
theorem bg_1678 : (.static arraycopyName : Cond) ∈ bg := bgf (tb_6 _ (List.mem_of_getElem? (i := 58) (by decide +kernel))) (by rfl)
end
section
theorem bi_X0 : ∀ w ∈ u_ws RX0 TX0 5, w ∈ bg := by
  intro w hw
  obtain ⟨k, hk, rfl⟩ := List.mem_map.mp hw
  have hk := List.mem_range.mp hk
  match k, hk with
  | 0, _ => exact bg_1449
  | 1, _ => exact bg_1450
  | 2, _ => exact bg_1451
  | 3, _ => exact bg_1452
  | 4, _ => exact bg_1453
  | n + 5, h => exact absurd h (by omega)
theorem bi_X1 : ∀ w ∈ u_ws RX1 TX1 1, w ∈ bg := by
  intro w hw
  obtain ⟨k, hk, rfl⟩ := List.mem_map.mp hw
  have hk := List.mem_range.mp hk
  match k, hk with
  | 0, _ => exact bg_1454
  | n + 1, h => exact absurd h (by omega)
theorem bi_X2 : ∀ w ∈ u_ws RX2 TX2 5, w ∈ bg := by
  intro w hw
  obtain ⟨k, hk, rfl⟩ := List.mem_map.mp hw
  have hk := List.mem_range.mp hk
  match k, hk with
  | 0, _ => exact bg_1455
  | 1, _ => exact bg_1456
  | 2, _ => exact bg_1457
  | 3, _ => exact bg_1458
  | 4, _ => exact bg_1459
  | n + 5, h => exact absurd h (by omega)
theorem bi_X3 : ∀ w ∈ u_ws RX3 TX3 17, w ∈ bg := by
  intro w hw
  obtain ⟨k, hk, rfl⟩ := List.mem_map.mp hw
  have hk := List.mem_range.mp hk
  match k, hk with
  | 0, _ => exact bg_1460
  | 1, _ => exact bg_1461
  | 2, _ => exact bg_1462
  | 3, _ => exact bg_1463
  | 4, _ => exact bg_1464
  | 5, _ => exact bg_1465
  | 6, _ => exact bg_1466
  | 7, _ => exact bg_1467
  | 8, _ => exact bg_1468
  | 9, _ => exact bg_1469
  | 10, _ => exact bg_1470
  | 11, _ => exact bg_1471
  | 12, _ => exact bg_1472
  | 13, _ => exact bg_1473
  | 14, _ => exact bg_1474
  | 15, _ => exact bg_1475
  | 16, _ => exact bg_1476
  | n + 17, h => exact absurd h (by omega)
theorem bi_X4 : ∀ w ∈ u_ws RX4 TX4 11, w ∈ bg := by
  intro w hw
  obtain ⟨k, hk, rfl⟩ := List.mem_map.mp hw
  have hk := List.mem_range.mp hk
  match k, hk with
  | 0, _ => exact bg_1477
  | 1, _ => exact bg_1478
  | 2, _ => exact bg_1479
  | 3, _ => exact bg_1480
  | 4, _ => exact bg_1481
  | 5, _ => exact bg_1482
  | 6, _ => exact bg_1483
  | 7, _ => exact bg_1484
  | 8, _ => exact bg_1485
  | 9, _ => exact bg_1486
  | 10, _ => exact bg_1487
  | n + 11, h => exact absurd h (by omega)
theorem bi_X5 : ∀ w ∈ u_ws RX5 TX5 12, w ∈ bg := by
  intro w hw
  obtain ⟨k, hk, rfl⟩ := List.mem_map.mp hw
  have hk := List.mem_range.mp hk
  match k, hk with
  | 0, _ => exact bg_1488
  | 1, _ => exact bg_1489
  | 2, _ => exact bg_1490
  | 3, _ => exact bg_1491
  | 4, _ => exact bg_1492
  | 5, _ => exact bg_1493
  | 6, _ => exact bg_1494
  | 7, _ => exact bg_1495
  | 8, _ => exact bg_1496
  | 9, _ => exact bg_1497
  | 10, _ => exact bg_1498
  | 11, _ => exact bg_1499
  | n + 12, h => exact absurd h (by omega)
theorem bi_X6 : ∀ w ∈ u_ws RX6 TX6 11, w ∈ bg := by
  intro w hw
  obtain ⟨k, hk, rfl⟩ := List.mem_map.mp hw
  have hk := List.mem_range.mp hk
  match k, hk with
  | 0, _ => exact bg_1500
  | 1, _ => exact bg_1501
  | 2, _ => exact bg_1502
  | 3, _ => exact bg_1503
  | 4, _ => exact bg_1504
  | 5, _ => exact bg_1505
  | 6, _ => exact bg_1506
  | 7, _ => exact bg_1507
  | 8, _ => exact bg_1508
  | 9, _ => exact bg_1509
  | 10, _ => exact bg_1510
  | n + 11, h => exact absurd h (by omega)
theorem bi_X7 : ∀ w ∈ u_ws RX7 TX7 8, w ∈ bg := by
  intro w hw
  obtain ⟨k, hk, rfl⟩ := List.mem_map.mp hw
  have hk := List.mem_range.mp hk
  match k, hk with
  | 0, _ => exact bg_1511
  | 1, _ => exact bg_1512
  | 2, _ => exact bg_1513
  | 3, _ => exact bg_1514
  | 4, _ => exact bg_1515
  | 5, _ => exact bg_1516
  | 6, _ => exact bg_1517
  | 7, _ => exact bg_1518
  | n + 8, h => exact absurd h (by omega)
theorem bi_X8 : ∀ w ∈ u_ws RX8 TX8 3, w ∈ bg := by
  intro w hw
  obtain ⟨k, hk, rfl⟩ := List.mem_map.mp hw
  have hk := List.mem_range.mp hk
  match k, hk with
  | 0, _ => exact bg_1519
  | 1, _ => exact bg_1520
  | 2, _ => exact bg_1521
  | n + 3, h => exact absurd h (by omega)
theorem bi_X9 : ∀ w ∈ u_ws RX9 TX9 5, w ∈ bg := by
  intro w hw
  obtain ⟨k, hk, rfl⟩ := List.mem_map.mp hw
  have hk := List.mem_range.mp hk
  match k, hk with
  | 0, _ => exact bg_1522
  | 1, _ => exact bg_1523
  | 2, _ => exact bg_1524
  | 3, _ => exact bg_1525
  | 4, _ => exact bg_1526
  | n + 5, h => exact absurd h (by omega)
theorem bi_X10 : ∀ w ∈ u_ws RX10 TX10 2, w ∈ bg := by
  intro w hw
  obtain ⟨k, hk, rfl⟩ := List.mem_map.mp hw
  have hk := List.mem_range.mp hk
  match k, hk with
  | 0, _ => exact bg_1527
  | 1, _ => exact bg_1528
  | n + 2, h => exact absurd h (by omega)
theorem bi_X11 : ∀ w ∈ u_ws RX11 TX11 5, w ∈ bg := by
  intro w hw
  obtain ⟨k, hk, rfl⟩ := List.mem_map.mp hw
  have hk := List.mem_range.mp hk
  match k, hk with
  | 0, _ => exact bg_1529
  | 1, _ => exact bg_1530
  | 2, _ => exact bg_1531
  | 3, _ => exact bg_1532
  | 4, _ => exact bg_1533
  | n + 5, h => exact absurd h (by omega)
theorem bi_X12 : ∀ w ∈ u_ws RX12 TX12 82, w ∈ bg := by
  intro w hw
  obtain ⟨k, hk, rfl⟩ := List.mem_map.mp hw
  have hk := List.mem_range.mp hk
  match k, hk with
  | 0, _ => exact bg_1534
  | 1, _ => exact bg_1535
  | 2, _ => exact bg_1536
  | 3, _ => exact bg_1537
  | 4, _ => exact bg_1538
  | 5, _ => exact bg_1539
  | 6, _ => exact bg_1540
  | 7, _ => exact bg_1541
  | 8, _ => exact bg_1542
  | 9, _ => exact bg_1543
  | 10, _ => exact bg_1544
  | 11, _ => exact bg_1545
  | 12, _ => exact bg_1546
  | 13, _ => exact bg_1547
  | 14, _ => exact bg_1548
  | 15, _ => exact bg_1549
  | 16, _ => exact bg_1550
  | 17, _ => exact bg_1551
  | 18, _ => exact bg_1552
  | 19, _ => exact bg_1553
  | 20, _ => exact bg_1554
  | 21, _ => exact bg_1555
  | 22, _ => exact bg_1556
  | 23, _ => exact bg_1557
  | 24, _ => exact bg_1558
  | 25, _ => exact bg_1559
  | 26, _ => exact bg_1560
  | 27, _ => exact bg_1561
  | 28, _ => exact bg_1562
  | 29, _ => exact bg_1563
  | 30, _ => exact bg_1564
  | 31, _ => exact bg_1565
  | 32, _ => exact bg_1566
  | 33, _ => exact bg_1567
  | 34, _ => exact bg_1568
  | 35, _ => exact bg_1569
  | 36, _ => exact bg_1570
  | 37, _ => exact bg_1571
  | 38, _ => exact bg_1572
  | 39, _ => exact bg_1573
  | 40, _ => exact bg_1574
  | 41, _ => exact bg_1575
  | 42, _ => exact bg_1576
  | 43, _ => exact bg_1577
  | 44, _ => exact bg_1578
  | 45, _ => exact bg_1579
  | 46, _ => exact bg_1580
  | 47, _ => exact bg_1581
  | 48, _ => exact bg_1582
  | 49, _ => exact bg_1583
  | 50, _ => exact bg_1584
  | 51, _ => exact bg_1585
  | 52, _ => exact bg_1586
  | 53, _ => exact bg_1587
  | 54, _ => exact bg_1588
  | 55, _ => exact bg_1589
  | 56, _ => exact bg_1590
  | 57, _ => exact bg_1591
  | 58, _ => exact bg_1592
  | 59, _ => exact bg_1593
  | 60, _ => exact bg_1594
  | 61, _ => exact bg_1595
  | 62, _ => exact bg_1596
  | 63, _ => exact bg_1597
  | 64, _ => exact bg_1598
  | 65, _ => exact bg_1599
  | 66, _ => exact bg_1600
  | 67, _ => exact bg_1601
  | 68, _ => exact bg_1602
  | 69, _ => exact bg_1603
  | 70, _ => exact bg_1604
  | 71, _ => exact bg_1605
  | 72, _ => exact bg_1606
  | 73, _ => exact bg_1607
  | 74, _ => exact bg_1608
  | 75, _ => exact bg_1609
  | 76, _ => exact bg_1610
  | 77, _ => exact bg_1611
  | 78, _ => exact bg_1612
  | 79, _ => exact bg_1613
  | 80, _ => exact bg_1614
  | 81, _ => exact bg_1615
  | n + 82, h => exact absurd h (by omega)
end
section
def xe_ch (k j : Nat) : Int32 := ((((xe_lt k).2.2.2.getD j 0) &&& 255).toUInt32 % 65536).toInt32
theorem xe_len : ∀ k, k < xe_M → (xe_lt k).2.2.2.length ≤ 202 := by decide +kernel
theorem xe_chn (k j : Nat) : narrow .char (.int (xe_ch k j)) = .int (xe_ch k j) := pk_nc _
theorem xe_chv (k j : Nat) : vp_nar .char (xe_ch k j) = xe_ch k j := pk_vc _
theorem dJ0_coder_7d493_0 : decode cJ0_coder_7d493 0 = .ok (.getstatic 38, 3) := by decide +kernel
theorem dJ0_coder_7d493_3 : decode cJ0_coder_7d493 3 = .ok (.ifCond .eq 10, 3) := by decide +kernel
theorem dJ0_coder_7d493_6 : decode cJ0_coder_7d493 6 = .ok (.aload_n 0, 1) := by decide +kernel
theorem dJ0_coder_7d493_7 : decode cJ0_coder_7d493 7 = .ok (.getfield 15, 3) := by decide +kernel
theorem dJ0_coder_7d493_10 : decode cJ0_coder_7d493 10 = .ok (.goto 4, 3) := by decide +kernel
theorem dJ0_coder_7d493_14 : decode cJ0_coder_7d493 14 = .ok (.ireturn, 1) := by decide +kernel
set_option maxHeartbeats 4000000 in
set_option maxRecDepth 100000 in
theorem cs_coder (l : Launch) (D : va_G) (g : xe_G) (k : Nat) (sz : Nat) (hk : k < xe_M) : Met l yJ0_coder_7d493 (.code yJ0_coder_7d493 cJ0_coder_7d493 1 (some .byte) :: bg) ({ frames := 1, cells := 0, slots := 0, locals := 120 } : Room) (xb_Pre (xe_E g) D vwCl [] [] sz [.ref (g.2.1 k)]) (va_Qi (fun r _ => r = 0) (xb_B D vwCl (va_A [] sz) (fun u : Unit => []) (fun u : Unit => [])) (va_A [] sz)) 0 0 (va_A [] sz) := by
  refine Met.ofW (cc := cJ0_coder_7d493) (maxL := 1) (ret := (some .byte)) (by decide) rfl ?_
  intro p e s m args below meth c s₁ B hml hv
  obtain ⟨rfl, hsz, hP, hK, hD0, hE⟩ := hv
  have hx := B.exec
  have hb := B.bytes
  have hr := B.returns
  have hts := atoms_spec (ws := (.code yJ0_coder_7d493 cJ0_coder_7d493 1 (some .byte) :: bg)) B.pre
  have htb : ∀ w ∈ bg, w.before _ s = true := fun w h => hts w (List.mem_cons_of_mem _ h)
  have hown : s.vm.findClass RJ0 = some m.cls := findClass_of_methodNamed B.named
  have hlocks := B.notSynchronized
  subst hsz
  have hD := hD0.self (sz := s.heap.size)
  generalize hAe : va_A [] s.heap.size = A at hD hE ⊢
  have hA : ∀ q : Nat, s.heap.size ≤ q → A q := fun q h => by rw [← hAe]; exact Or.inr h
  have hS : va_S A s.heap s.heap [] := va_S.rf
  have hP : va_P D vwCl [] s.heap := hP
  have hl := lv_entry ([.ref (g.2.1 k)]) (n := 1) (Nat.le_of_ble_eq_true rfl)
  rw [lg_entry_eq]
  generalize (lg_sl ([.ref (g.2.1 k)]) ++ List.replicate (1 - (lg_sl ([.ref (g.2.1 k)])).length) Slot.unset).toArray = ls at hl ⊢
  have hl : lv_has ls 1 [(0, .ref (g.2.1 k))] := hl
  refine va_gets hx hb (hE.2.2.1) hS hown (htb _ bg_1312) (fun _ h9 => h9) dJ0_coder_7d493_0 ?_
  refine lv_if_eq (tgt := 13) hx hb dJ0_coder_7d493_3 (by decide) (fun c_3 => ?_) (fun c_3 => ?_)
  · exact absurd c_3 (by decide)
  refine lv_aload_n hx hb dJ0_coder_7d493_6 rfl (lv_at hl 0 rfl) ?_
  refine vk_getf hx hb (hE.2.2.2.2.2.2.2.1 k hk).1 hS hown (htb _ bg_1313) (fun _ h9 => h9) dJ0_coder_7d493_7 ?_
  refine lv_goto (tgt := 14) hx hb dJ0_coder_7d493_10 (by decide) ?_
  have hP9 := hP.sub (ws' := []) [] rfl
  have hD9 := hD.sub (ws' := []) [] rfl rfl
  have hK9 := hK.sub (tys' := []) [] rfl
  exact W.zret (v := 0) hx hb hr (by decide) (fun t ht hW => ⟨⟨0, (), rfl, rfl, by rw [ht]; exact hP9, va_K.moved hW.alike hK9, hD9⟩, hS.F ht⟩) hS.2.2 dJ0_coder_7d493_14
theorem dJ0_isLatin1_aae02_0 : decode cJ0_isLatin1_aae02 0 = .ok (.getstatic 38, 3) := by decide +kernel
theorem dJ0_isLatin1_aae02_3 : decode cJ0_isLatin1_aae02 3 = .ok (.ifCond .eq 14, 3) := by decide +kernel
theorem dJ0_isLatin1_aae02_6 : decode cJ0_isLatin1_aae02 6 = .ok (.aload_n 0, 1) := by decide +kernel
theorem dJ0_isLatin1_aae02_7 : decode cJ0_isLatin1_aae02 7 = .ok (.getfield 15, 3) := by decide +kernel
theorem dJ0_isLatin1_aae02_10 : decode cJ0_isLatin1_aae02 10 = .ok (.ifCond .ne 7, 3) := by decide +kernel
theorem dJ0_isLatin1_aae02_13 : decode cJ0_isLatin1_aae02 13 = .ok (.iconst 1, 1) := by decide +kernel
theorem dJ0_isLatin1_aae02_14 : decode cJ0_isLatin1_aae02 14 = .ok (.goto 4, 3) := by decide +kernel
theorem dJ0_isLatin1_aae02_18 : decode cJ0_isLatin1_aae02 18 = .ok (.ireturn, 1) := by decide +kernel
set_option maxHeartbeats 4000000 in
set_option maxRecDepth 100000 in
theorem cs_latin (l : Launch) (D : va_G) (g : xe_G) (k : Nat) (sz : Nat) (hk : k < xe_M) : Met l yJ0_isLatin1_aae02 (.code yJ0_isLatin1_aae02 cJ0_isLatin1_aae02 1 (some .boolean) :: bg) ({ frames := 1, cells := 0, slots := 0, locals := 120 } : Room) (xb_Pre (xe_E g) D vwCl [] [] sz [.ref (g.2.1 k)]) (va_Qi (fun r _ => r = 1) (xb_B D vwCl (va_A [] sz) (fun u : Unit => []) (fun u : Unit => [])) (va_A [] sz)) 0 0 (va_A [] sz) := by
  refine Met.ofW (cc := cJ0_isLatin1_aae02) (maxL := 1) (ret := (some .boolean)) (by decide) rfl ?_
  intro p e s m args below meth c s₁ B hml hv
  obtain ⟨rfl, hsz, hP, hK, hD0, hE⟩ := hv
  have hx := B.exec
  have hb := B.bytes
  have hr := B.returns
  have hts := atoms_spec (ws := (.code yJ0_isLatin1_aae02 cJ0_isLatin1_aae02 1 (some .boolean) :: bg)) B.pre
  have htb : ∀ w ∈ bg, w.before _ s = true := fun w h => hts w (List.mem_cons_of_mem _ h)
  have hown : s.vm.findClass RJ0 = some m.cls := findClass_of_methodNamed B.named
  have hlocks := B.notSynchronized
  subst hsz
  have hD := hD0.self (sz := s.heap.size)
  generalize hAe : va_A [] s.heap.size = A at hD hE ⊢
  have hA : ∀ q : Nat, s.heap.size ≤ q → A q := fun q h => by rw [← hAe]; exact Or.inr h
  have hS : va_S A s.heap s.heap [] := va_S.rf
  have hP : va_P D vwCl [] s.heap := hP
  have hl := lv_entry ([.ref (g.2.1 k)]) (n := 1) (Nat.le_of_ble_eq_true rfl)
  rw [lg_entry_eq]
  generalize (lg_sl ([.ref (g.2.1 k)]) ++ List.replicate (1 - (lg_sl ([.ref (g.2.1 k)])).length) Slot.unset).toArray = ls at hl ⊢
  have hl : lv_has ls 1 [(0, .ref (g.2.1 k))] := hl
  refine va_gets hx hb (hE.2.2.1) hS hown (htb _ bg_1312) (fun _ h9 => h9) dJ0_isLatin1_aae02_0 ?_
  refine lv_if_eq (tgt := 17) hx hb dJ0_isLatin1_aae02_3 (by decide) (fun c_3 => ?_) (fun c_3 => ?_)
  · exact absurd c_3 (by decide)
  refine lv_aload_n hx hb dJ0_isLatin1_aae02_6 rfl (lv_at hl 0 rfl) ?_
  refine vk_getf hx hb (hE.2.2.2.2.2.2.2.1 k hk).1 hS hown (htb _ bg_1313) (fun _ h9 => h9) dJ0_isLatin1_aae02_7 ?_
  refine lv_if_ne (tgt := 17) hx hb dJ0_isLatin1_aae02_10 (by decide) (fun c_10 => ?_) (fun c_10 => ?_)
  · exact absurd (by decide) c_10
  refine lv_iconst (v := 1) hx hb dJ0_isLatin1_aae02_13 (by decide) ?_
  refine lv_goto (tgt := 18) hx hb dJ0_isLatin1_aae02_14 (by decide) ?_
  have hP9 := hP.sub (ws' := []) [] rfl
  have hD9 := hD.sub (ws' := []) [] rfl rfl
  have hK9 := hK.sub (tys' := []) [] rfl
  exact W.zret (v := 1) hx hb hr (by decide) (fun t ht hW => ⟨⟨1, (), rfl, rfl, by rw [ht]; exact hP9, va_K.moved hW.alike hK9, hD9⟩, hS.F ht⟩) hS.2.2 dJ0_isLatin1_aae02_18
theorem dJ0_length_8abf5_0 : decode cJ0_length_8abf5 0 = .ok (.aload_n 0, 1) := by decide +kernel
theorem dJ0_length_8abf5_1 : decode cJ0_length_8abf5 1 = .ok (.getfield 9, 3) := by decide +kernel
theorem dJ0_length_8abf5_4 : decode cJ0_length_8abf5 4 = .ok (.arraylength, 1) := by decide +kernel
theorem dJ0_length_8abf5_5 : decode cJ0_length_8abf5 5 = .ok (.aload_n 0, 1) := by decide +kernel
theorem dJ0_length_8abf5_6 : decode cJ0_length_8abf5 6 = .ok (.invokevirtual 335, 3) := by decide +kernel
theorem dJ0_length_8abf5_9 : decode cJ0_length_8abf5 9 = .ok (.ishr, 1) := by decide +kernel
theorem dJ0_length_8abf5_10 : decode cJ0_length_8abf5 10 = .ok (.ireturn, 1) := by decide +kernel
set_option maxHeartbeats 4000000 in
set_option maxRecDepth 100000 in
theorem cs_length (l : Launch) (D : va_G) (g : xe_G) (k : Nat) (sz : Nat) (hk : k < xe_M) : Met l yJ0_length_8abf5 (.code yJ0_length_8abf5 cJ0_length_8abf5 1 (some .int) :: bg) ({ frames := 2, cells := 0, slots := 0, locals := 240 } : Room) (xb_Pre (xe_E g) D vwCl [] [] sz [.ref (g.2.1 k)]) (va_Qi (fun r _ => r = (nI ((xe_lt k).2.2.2.length))) (xb_B D vwCl (va_A [] sz) (fun u : Unit => []) (fun u : Unit => [])) (va_A [] sz)) 0 0 (va_A [] sz) := by
  refine Met.ofW (cc := cJ0_length_8abf5) (maxL := 1) (ret := (some .int)) (by decide) rfl ?_
  intro p e s m args below meth c s₁ B hml hv
  obtain ⟨rfl, hsz, hP, hK, hD0, hE⟩ := hv
  have hx := B.exec
  have hb := B.bytes
  have hr := B.returns
  have hts := atoms_spec (ws := (.code yJ0_length_8abf5 cJ0_length_8abf5 1 (some .int) :: bg)) B.pre
  have htb : ∀ w ∈ bg, w.before _ s = true := fun w h => hts w (List.mem_cons_of_mem _ h)
  have hown : s.vm.findClass RJ0 = some m.cls := findClass_of_methodNamed B.named
  have hlocks := B.notSynchronized
  subst hsz
  have hD := hD0.self (sz := s.heap.size)
  generalize hAe : va_A [] s.heap.size = A at hD hE ⊢
  have hA : ∀ q : Nat, s.heap.size ≤ q → A q := fun q h => by rw [← hAe]; exact Or.inr h
  have hS : va_S A s.heap s.heap [] := va_S.rf
  have hP : va_P D vwCl [] s.heap := hP
  have hl := lv_entry ([.ref (g.2.1 k)]) (n := 1) (Nat.le_of_ble_eq_true rfl)
  rw [lg_entry_eq]
  generalize (lg_sl ([.ref (g.2.1 k)]) ++ List.replicate (1 - (lg_sl ([.ref (g.2.1 k)])).length) Slot.unset).toArray = ls at hl ⊢
  have hl : lv_has ls 1 [(0, .ref (g.2.1 k))] := hl
  refine lv_aload_n hx hb dJ0_length_8abf5_0 rfl (lv_at hl 0 rfl) ?_
  refine vk_getf hx hb (hE.2.2.2.2.2.2.2.1 k hk).2.1 hS hown (htb _ bg_1299) (fun _ h9 => h9) dJ0_length_8abf5_1 ?_
  refine va_tlen (v := (nI ((xe_lt k).2.2.2.length))) hx hb (hE.2.2.2.2.2.2.2.1 k hk).2.2 hS rfl dJ0_length_8abf5_4 ?_
  refine lv_aload_n hx hb dJ0_length_8abf5_5 rfl (lv_at hl 0 rfl) ?_
  refine xb_goi (wr := []) (va_runV (As := []) (rest := [.int (nI ((xe_lt k).2.2.2.length))]) ⟨hx, hb, hml, hown, htb⟩ (cs_coder l D g k (Array.size s.heap) (hk)) (bg_V 0 htb bg_1300 bg_1302 bg_1303 bg_556 bg_1301 rfl rfl (by decide +kernel) ⟨Nat.le_of_ble_eq_true rfl, Nat.le_of_ble_eq_true rfl⟩) ⟨xb_blind xe_ok, xe_recv hE hS k (Nat.lt_trans hk (by decide)), xb_enter xe_ok hK hP hD hS hA hE [] rfl rfl rfl [] rfl⟩ rfl rfl hl.1 rfl (lv_room (Nat.le_of_ble_eq_true rfl)) dJ0_length_8abf5_6 ⟨Nat.le_of_ble_eq_true rfl, Nat.le_of_ble_eq_true rfl⟩) hK hP hD hS hA [] [] rfl rfl rfl (by decide) (fun r_6 u_6 H locs hw_6 hP hD hK hS => ?_)
  have hP : va_P D vwCl [] H := hP
  have hD : va_D A [] := hD
  have hK : va_K D vwCl [] s := hK
  refine W.widen (k := 0) (n := 0) (by decide) (by decide) ?_
  have hw_6 : r_6 = 0 := hw_6
  subst hw_6
  refine lv_ishr hx hb dJ0_length_8abf5_9 ?_
  refine lv_topi (fun x_9 ex_9 => ?_)
  have hx_9 : x_9 = (nI ((xe_lt k).2.2.2.length)) := by rw [ex_9]; exact sb_shr0 _
  rw [hx_9]
  have hP9 := hP.sub (ws' := []) [] rfl
  have hD9 := hD.sub (ws' := []) [] rfl rfl
  have hK9 := hK.sub (tys' := []) [] rfl
  exact W.iret (v := (nI ((xe_lt k).2.2.2.length))) hx hb hr (fun t ht hW => ⟨⟨(nI ((xe_lt k).2.2.2.length)), (), rfl, rfl, by rw [ht]; exact hP9, va_K.moved hW.alike hK9, hD9⟩, hS.F ht⟩) hS.2.2 dJ0_length_8abf5_10
theorem dJ3_checkIndex_8e157_0 : decode cJ3_checkIndex_8e157 0 = .ok (.iload_n 0, 1) := by decide +kernel
theorem dJ3_checkIndex_8e157_1 : decode cJ3_checkIndex_8e157 1 = .ok (.ifCond .lt 8, 3) := by decide +kernel
theorem dJ3_checkIndex_8e157_4 : decode cJ3_checkIndex_8e157 4 = .ok (.iload_n 0, 1) := by decide +kernel
theorem dJ3_checkIndex_8e157_5 : decode cJ3_checkIndex_8e157 5 = .ok (.iload_n 1, 1) := by decide +kernel
theorem dJ3_checkIndex_8e157_6 : decode cJ3_checkIndex_8e157 6 = .ok (.if_icmp .lt 10, 3) := by decide +kernel
theorem dJ3_checkIndex_8e157_16 : decode cJ3_checkIndex_8e157 16 = .ok (.iload_n 0, 1) := by decide +kernel
theorem dJ3_checkIndex_8e157_17 : decode cJ3_checkIndex_8e157 17 = .ok (.ireturn, 1) := by decide +kernel
set_option maxHeartbeats 4000000 in
set_option maxRecDepth 100000 in
theorem cs_preN (l : Launch) (D : va_G) (g : xe_G) (i : Int32) (n : Int32) (sz : Nat) (hi : ¬ i < 0) (hn : i < n) : Met l yJ3_checkIndex_8e157 (.code yJ3_checkIndex_8e157 cJ3_checkIndex_8e157 3 (some .int) :: bg) ({ frames := 1, cells := 0, slots := 0, locals := 120 } : Room) (xb_Pre (xe_E g) D vwCl [] [] sz [.int i, .int n, .null]) (va_Qi (fun r _ => r = i) (xb_B D vwCl (va_A [] sz) (fun u : Unit => []) (fun u : Unit => [])) (va_A [] sz)) 0 0 (va_A [] sz) := by
  refine Met.ofW (cc := cJ3_checkIndex_8e157) (maxL := 3) (ret := (some .int)) (by decide) rfl ?_
  intro p e s m args below meth c s₁ B hml hv
  obtain ⟨rfl, hsz, hP, hK, hD0, hE⟩ := hv
  have hx := B.exec
  have hb := B.bytes
  have hr := B.returns
  have hts := atoms_spec (ws := (.code yJ3_checkIndex_8e157 cJ3_checkIndex_8e157 3 (some .int) :: bg)) B.pre
  have htb : ∀ w ∈ bg, w.before _ s = true := fun w h => hts w (List.mem_cons_of_mem _ h)
  have hown : s.vm.findClass RJ3 = some m.cls := findClass_of_methodNamed B.named
  have hlocks := B.notSynchronized
  subst hsz
  have hD := hD0.self (sz := s.heap.size)
  generalize hAe : va_A [] s.heap.size = A at hD hE ⊢
  have hA : ∀ q : Nat, s.heap.size ≤ q → A q := fun q h => by rw [← hAe]; exact Or.inr h
  have hS : va_S A s.heap s.heap [] := va_S.rf
  have hP : va_P D vwCl [] s.heap := hP
  have hl := lv_entry ([.int i, .int n, .null]) (n := 3) (Nat.le_of_ble_eq_true rfl)
  rw [lg_entry_eq]
  generalize (lg_sl ([.int i, .int n, .null]) ++ List.replicate (3 - (lg_sl ([.int i, .int n, .null])).length) Slot.unset).toArray = ls at hl ⊢
  have hl : lv_has ls 3 [(0, .int i), (1, .int n), (2, .null)] := hl
  refine lv_iload_n hx hb dJ3_checkIndex_8e157_0 rfl (lv_at hl 0 rfl) ?_
  refine lv_if_lt (tgt := 9) hx hb dJ3_checkIndex_8e157_1 (by decide) (fun c_1 => ?_) (fun c_1 => ?_)
  · exact absurd c_1 (hi)
  refine lv_iload_n hx hb dJ3_checkIndex_8e157_4 rfl (lv_at hl 0 rfl) ?_
  refine lv_iload_n hx hb dJ3_checkIndex_8e157_5 rfl (lv_at hl 1 rfl) ?_
  refine lv_icmp_lt (tgt := 16) hx hb dJ3_checkIndex_8e157_6 (by decide) (fun c_6 => ?_) (fun c_6 => ?_)
  rotate_left
  · exact absurd (hn) c_6
  refine lv_iload_n hx hb dJ3_checkIndex_8e157_16 rfl (lv_at hl 0 rfl) ?_
  have hP9 := hP.sub (ws' := []) [] rfl
  have hD9 := hD.sub (ws' := []) [] rfl rfl
  have hK9 := hK.sub (tys' := []) [] rfl
  exact W.iret (v := i) hx hb hr (fun t ht hW => ⟨⟨i, (), rfl, rfl, by rw [ht]; exact hP9, va_K.moved hW.alike hK9, hD9⟩, hS.F ht⟩) hS.2.2 dJ3_checkIndex_8e157_17
set_option maxHeartbeats 4000000 in
set_option maxRecDepth 100000 in
theorem cs_preR (l : Launch) (D : va_G) (g : xe_G) (i : Int32) (n : Int32) (fv : Nat) (sz : Nat) (hi : ¬ i < 0) (hn : i < n) : Met l yJ3_checkIndex_8e157 (.code yJ3_checkIndex_8e157 cJ3_checkIndex_8e157 3 (some .int) :: bg) ({ frames := 1, cells := 0, slots := 0, locals := 120 } : Room) (xb_Pre (xe_E g) D vwCl [] [] sz [.int i, .int n, .ref fv]) (va_Qi (fun r _ => r = i) (xb_B D vwCl (va_A [] sz) (fun u : Unit => []) (fun u : Unit => [])) (va_A [] sz)) 0 0 (va_A [] sz) := by
  refine Met.ofW (cc := cJ3_checkIndex_8e157) (maxL := 3) (ret := (some .int)) (by decide) rfl ?_
  intro p e s m args below meth c s₁ B hml hv
  obtain ⟨rfl, hsz, hP, hK, hD0, hE⟩ := hv
  have hx := B.exec
  have hb := B.bytes
  have hr := B.returns
  have hts := atoms_spec (ws := (.code yJ3_checkIndex_8e157 cJ3_checkIndex_8e157 3 (some .int) :: bg)) B.pre
  have htb : ∀ w ∈ bg, w.before _ s = true := fun w h => hts w (List.mem_cons_of_mem _ h)
  have hown : s.vm.findClass RJ3 = some m.cls := findClass_of_methodNamed B.named
  have hlocks := B.notSynchronized
  subst hsz
  have hD := hD0.self (sz := s.heap.size)
  generalize hAe : va_A [] s.heap.size = A at hD hE ⊢
  have hA : ∀ q : Nat, s.heap.size ≤ q → A q := fun q h => by rw [← hAe]; exact Or.inr h
  have hS : va_S A s.heap s.heap [] := va_S.rf
  have hP : va_P D vwCl [] s.heap := hP
  have hl := lv_entry ([.int i, .int n, .ref fv]) (n := 3) (Nat.le_of_ble_eq_true rfl)
  rw [lg_entry_eq]
  generalize (lg_sl ([.int i, .int n, .ref fv]) ++ List.replicate (3 - (lg_sl ([.int i, .int n, .ref fv])).length) Slot.unset).toArray = ls at hl ⊢
  have hl : lv_has ls 3 [(0, .int i), (1, .int n), (2, .ref fv)] := hl
  refine lv_iload_n hx hb dJ3_checkIndex_8e157_0 rfl (lv_at hl 0 rfl) ?_
  refine lv_if_lt (tgt := 9) hx hb dJ3_checkIndex_8e157_1 (by decide) (fun c_1 => ?_) (fun c_1 => ?_)
  · exact absurd c_1 (hi)
  refine lv_iload_n hx hb dJ3_checkIndex_8e157_4 rfl (lv_at hl 0 rfl) ?_
  refine lv_iload_n hx hb dJ3_checkIndex_8e157_5 rfl (lv_at hl 1 rfl) ?_
  refine lv_icmp_lt (tgt := 16) hx hb dJ3_checkIndex_8e157_6 (by decide) (fun c_6 => ?_) (fun c_6 => ?_)
  rotate_left
  · exact absurd (hn) c_6
  refine lv_iload_n hx hb dJ3_checkIndex_8e157_16 rfl (lv_at hl 0 rfl) ?_
  have hP9 := hP.sub (ws' := []) [] rfl
  have hD9 := hD.sub (ws' := []) [] rfl rfl
  have hK9 := hK.sub (tys' := []) [] rfl
  exact W.iret (v := i) hx hb hr (fun t ht hW => ⟨⟨i, (), rfl, rfl, by rw [ht]; exact hP9, va_K.moved hW.alike hK9, hD9⟩, hS.F ht⟩) hS.2.2 dJ3_checkIndex_8e157_17
theorem dJ0_checkIndex_df160_0 : decode cJ0_checkIndex_df160 0 = .ok (.iload_n 0, 1) := by decide +kernel
theorem dJ0_checkIndex_df160_1 : decode cJ0_checkIndex_df160 1 = .ok (.iload_n 1, 1) := by decide +kernel
theorem dJ0_checkIndex_df160_2 : decode cJ0_checkIndex_df160 2 = .ok (.getstatic 1053, 3) := by decide +kernel
theorem dJ0_checkIndex_df160_5 : decode cJ0_checkIndex_df160 5 = .ok (.invokestatic 1059, 3) := by decide +kernel
theorem dJ0_checkIndex_df160_8 : decode cJ0_checkIndex_df160 8 = .ok (.pop, 1) := by decide +kernel
theorem dJ0_checkIndex_df160_9 : decode cJ0_checkIndex_df160 9 = .ok (.return_, 1) := by decide +kernel
set_option maxHeartbeats 4000000 in
set_option maxRecDepth 100000 in
theorem cs_check (l : Launch) (D : va_G) (g : xe_G) (i : Int32) (n : Int32) (sz : Nat) (hi : ¬ i < 0) (hn : i < n) : Met l yJ0_checkIndex_df160 (.code yJ0_checkIndex_df160 cJ0_checkIndex_df160 2 none :: bg) ({ frames := 2, cells := 0, slots := 0, locals := 240 } : Room) (xb_Pre (xe_E g) D vwCl [] [] sz [.int i, .int n]) (va_Qv (fun _ => True) (xb_B D vwCl (va_A [] sz) (fun u : Unit => []) (fun u : Unit => [])) (va_A [] sz)) 0 0 (va_A [] sz) := by
  refine Met.ofW (cc := cJ0_checkIndex_df160) (maxL := 2) (ret := none) (by decide) rfl ?_
  intro p e s m args below meth c s₁ B hml hv
  obtain ⟨rfl, hsz, hP, hK, hD0, hE⟩ := hv
  have hx := B.exec
  have hb := B.bytes
  have hr := B.returns
  have hts := atoms_spec (ws := (.code yJ0_checkIndex_df160 cJ0_checkIndex_df160 2 none :: bg)) B.pre
  have htb : ∀ w ∈ bg, w.before _ s = true := fun w h => hts w (List.mem_cons_of_mem _ h)
  have hown : s.vm.findClass RJ0 = some m.cls := findClass_of_methodNamed B.named
  have hlocks := B.notSynchronized
  subst hsz
  have hD := hD0.self (sz := s.heap.size)
  generalize hAe : va_A [] s.heap.size = A at hD hE ⊢
  have hA : ∀ q : Nat, s.heap.size ≤ q → A q := fun q h => by rw [← hAe]; exact Or.inr h
  have hS : va_S A s.heap s.heap [] := va_S.rf
  have hP : va_P D vwCl [] s.heap := hP
  have hl := lv_entry ([.int i, .int n]) (n := 2) (Nat.le_of_ble_eq_true rfl)
  rw [lg_entry_eq]
  generalize (lg_sl ([.int i, .int n]) ++ List.replicate (2 - (lg_sl ([.int i, .int n])).length) Slot.unset).toArray = ls at hl ⊢
  have hl : lv_has ls 2 [(0, .int i), (1, .int n)] := hl
  refine lv_iload_n hx hb dJ0_checkIndex_df160_0 rfl (lv_at hl 0 rfl) ?_
  refine lv_iload_n hx hb dJ0_checkIndex_df160_1 rfl (lv_at hl 1 rfl) ?_
  rcases hE.2.2.2.1 with hz | ⟨t9, hz⟩
  · skip
    refine va_gets hx hb hz hS hown (htb _ bg_1315) (fun _ h9 => h9) dJ0_checkIndex_df160_2 ?_
    refine xb_goi (wr := []) (va_runS (As := [.int i, .int n, .null]) (rest := []) ⟨hx, hb, hml, hown, htb⟩ (cs_preN l D g i n (Array.size s.heap) (hi) (hn)) (bg_S 3 htb bg_1316 bg_1318 bg_1319 bg_1317 rfl rfl (by decide +kernel) ⟨Nat.le_of_ble_eq_true rfl, Nat.le_of_ble_eq_true rfl⟩) ⟨xb_blind xe_ok, xb_enter xe_ok hK hP hD hS hA hE [] rfl rfl rfl [] rfl⟩ rfl rfl hl.1 rfl (lv_room (Nat.le_of_ble_eq_true rfl)) dJ0_checkIndex_df160_5 ⟨Nat.le_of_ble_eq_true rfl, Nat.le_of_ble_eq_true rfl⟩) hK hP hD hS hA [] [] rfl rfl rfl (by decide) (fun r_5 u_5 H locs hw_5 hP hD hK hS => ?_)
    have hP : va_P D vwCl [] H := hP
    have hD : va_D A [] := hD
    have hK : va_K D vwCl [] s := hK
    refine W.widen (k := 0) (n := 0) (by decide) (by decide) ?_
    have hw_5 : r_5 = i := hw_5
    subst hw_5
    refine lv_pop hx hb dJ0_checkIndex_df160_8 rfl ?_
    have hP9 := hP.sub (ws' := []) [] rfl
    have hD9 := hD.sub (ws' := []) [] rfl rfl
    have hK9 := hK.sub (tys' := []) [] rfl
    exact W.vret hx hb hr (fun t ht hW => ⟨⟨(), rfl, trivial, by rw [ht]; exact hP9, va_K.moved hW.alike hK9, hD9⟩, hS.F ht⟩) hS.2.2 dJ0_checkIndex_df160_9
  · skip
    refine va_gets hx hb hz hS hown (htb _ bg_1315) (fun _ h9 => h9) dJ0_checkIndex_df160_2 ?_
    refine xb_goi (wr := []) (va_runS (As := [.int i, .int n, .ref t9]) (rest := []) ⟨hx, hb, hml, hown, htb⟩ (cs_preR l D g i n t9 (Array.size s.heap) (hi) (hn)) (bg_S 3 htb bg_1316 bg_1318 bg_1319 bg_1317 rfl rfl (by decide +kernel) ⟨Nat.le_of_ble_eq_true rfl, Nat.le_of_ble_eq_true rfl⟩) ⟨xb_blind xe_ok, xb_enter xe_ok hK hP hD hS hA hE [] rfl rfl rfl [] rfl⟩ rfl rfl hl.1 rfl (lv_room (Nat.le_of_ble_eq_true rfl)) dJ0_checkIndex_df160_5 ⟨Nat.le_of_ble_eq_true rfl, Nat.le_of_ble_eq_true rfl⟩) hK hP hD hS hA [] [] rfl rfl rfl (by decide) (fun r_5 u_5 H locs hw_5 hP hD hK hS => ?_)
    have hP : va_P D vwCl [] H := hP
    have hD : va_D A [] := hD
    have hK : va_K D vwCl [] s := hK
    refine W.widen (k := 0) (n := 0) (by decide) (by decide) ?_
    have hw_5 : r_5 = i := hw_5
    subst hw_5
    refine lv_pop hx hb dJ0_checkIndex_df160_8 rfl ?_
    have hP9 := hP.sub (ws' := []) [] rfl
    have hD9 := hD.sub (ws' := []) [] rfl rfl
    have hK9 := hK.sub (tys' := []) [] rfl
    exact W.vret hx hb hr (fun t ht hW => ⟨⟨(), rfl, trivial, by rw [ht]; exact hP9, va_K.moved hW.alike hK9, hD9⟩, hS.F ht⟩) hS.2.2 dJ0_checkIndex_df160_9
theorem dJ1_charAt_3b067_0 : decode cJ1_charAt_3b067 0 = .ok (.iload_n 1, 1) := by decide +kernel
theorem dJ1_charAt_3b067_1 : decode cJ1_charAt_3b067 1 = .ok (.aload_n 0, 1) := by decide +kernel
theorem dJ1_charAt_3b067_2 : decode cJ1_charAt_3b067 2 = .ok (.arraylength, 1) := by decide +kernel
theorem dJ1_charAt_3b067_3 : decode cJ1_charAt_3b067 3 = .ok (.invokestatic 9, 3) := by decide +kernel
theorem dJ1_charAt_3b067_6 : decode cJ1_charAt_3b067 6 = .ok (.aload_n 0, 1) := by decide +kernel
theorem dJ1_charAt_3b067_7 : decode cJ1_charAt_3b067 7 = .ok (.iload_n 1, 1) := by decide +kernel
theorem dJ1_charAt_3b067_8 : decode cJ1_charAt_3b067 8 = .ok (.baload, 1) := by decide +kernel
theorem dJ1_charAt_3b067_9 : decode cJ1_charAt_3b067 9 = .ok (.sipush 255, 3) := by decide +kernel
theorem dJ1_charAt_3b067_12 : decode cJ1_charAt_3b067 12 = .ok (.iand, 1) := by decide +kernel
theorem dJ1_charAt_3b067_13 : decode cJ1_charAt_3b067 13 = .ok (.i2c, 1) := by decide +kernel
theorem dJ1_charAt_3b067_14 : decode cJ1_charAt_3b067 14 = .ok (.ireturn, 1) := by decide +kernel
set_option maxHeartbeats 4000000 in
set_option maxRecDepth 100000 in
theorem cs_lat1 (l : Launch) (D : va_G) (g : xe_G) (k : Nat) (j : Nat) (sz : Nat) (hk : k < xe_M) (hj : j < (xe_lt k).2.2.2.length) : Met l yJ1_charAt_3b067 (.code yJ1_charAt_3b067 cJ1_charAt_3b067 2 (some .char) :: bg) ({ frames := 3, cells := 0, slots := 0, locals := 360 } : Room) (xb_Pre (xe_E g) D vwCl [] [] sz [.ref (g.2.2 k), .int (nI j)]) (va_Qi (fun r _ => r = xe_ch k j) (xb_B D vwCl (va_A [] sz) (fun u : Unit => []) (fun u : Unit => [])) (va_A [] sz)) 0 0 (va_A [] sz) := by
  refine Met.ofW (cc := cJ1_charAt_3b067) (maxL := 2) (ret := (some .char)) (by decide) rfl ?_
  intro p e s m args below meth c s₁ B hml hv
  obtain ⟨rfl, hsz, hP, hK, hD0, hE⟩ := hv
  have hx := B.exec
  have hb := B.bytes
  have hr := B.returns
  have hts := atoms_spec (ws := (.code yJ1_charAt_3b067 cJ1_charAt_3b067 2 (some .char) :: bg)) B.pre
  have htb : ∀ w ∈ bg, w.before _ s = true := fun w h => hts w (List.mem_cons_of_mem _ h)
  have hown : s.vm.findClass RJ1 = some m.cls := findClass_of_methodNamed B.named
  have hlocks := B.notSynchronized
  subst hsz
  have hD := hD0.self (sz := s.heap.size)
  generalize hAe : va_A [] s.heap.size = A at hD hE ⊢
  have hA : ∀ q : Nat, s.heap.size ≤ q → A q := fun q h => by rw [← hAe]; exact Or.inr h
  have hS : va_S A s.heap s.heap [] := va_S.rf
  have hP : va_P D vwCl [] s.heap := hP
  have hl := lv_entry ([.ref (g.2.2 k), .int (nI j)]) (n := 2) (Nat.le_of_ble_eq_true rfl)
  rw [lg_entry_eq]
  generalize (lg_sl ([.ref (g.2.2 k), .int (nI j)]) ++ List.replicate (2 - (lg_sl ([.ref (g.2.2 k), .int (nI j)])).length) Slot.unset).toArray = ls at hl ⊢
  have hl : lv_has ls 2 [(0, .ref (g.2.2 k)), (1, .int (nI j))] := hl
  refine lv_iload_n hx hb dJ1_charAt_3b067_0 rfl (lv_at hl 1 rfl) ?_
  refine lv_aload_n hx hb dJ1_charAt_3b067_1 rfl (lv_at hl 0 rfl) ?_
  refine va_tlen (v := (nI ((xe_lt k).2.2.2.length))) hx hb (hE.2.2.2.2.2.2.2.1 k hk).2.2 hS rfl dJ1_charAt_3b067_2 ?_
  refine xb_gov (wr := []) (va_runS (As := [.int (nI j), .int (nI ((xe_lt k).2.2.2.length))]) (rest := []) ⟨hx, hb, hml, hown, htb⟩ (cs_check l D g (nI j) (nI ((xe_lt k).2.2.2.length)) (Array.size s.heap) (nI_pos (by have := xe_len k hk; omega)) (nI_lt hj (by have := xe_len k hk; omega))) (bg_S 2 htb bg_1320 bg_1321 bg_556 bg_1314 rfl rfl (by decide +kernel) ⟨Nat.le_of_ble_eq_true rfl, Nat.le_of_ble_eq_true rfl⟩) ⟨xb_blind xe_ok, xb_enter xe_ok hK hP hD hS hA hE [] rfl rfl rfl [] rfl⟩ rfl rfl hl.1 rfl (lv_room (Nat.le_of_ble_eq_true rfl)) dJ1_charAt_3b067_3 ⟨Nat.le_of_ble_eq_true rfl, Nat.le_of_ble_eq_true rfl⟩) hK hP hD hS hA [] [] rfl rfl rfl (by decide) (fun u_3 H locs hw_3 hP hD hK hS => ?_)
  have hP : va_P D vwCl [] H := hP
  have hD : va_D A [] := hD
  have hK : va_K D vwCl [] s := hK
  refine W.widen (k := 0) (n := 0) (by decide) (by decide) ?_
  refine lv_aload_n hx hb dJ1_charAt_3b067_6 rfl (lv_at hl 0 rfl) ?_
  refine lv_iload_n hx hb dJ1_charAt_3b067_7 rfl (lv_at hl 1 rfl) ?_
  refine va_tb (v := .int ((xe_lt k).2.2.2.getD (Int32.toNatClampNeg (nI j)) 0)) hx hb (hE.2.2.2.2.2.2.2.1 k hk).2.2 hS (vp_in_nI hj (by have := xe_len k hk; omega)) rfl dJ1_charAt_3b067_8 ?_
  refine lv_sipush (v := 255) hx hb dJ1_charAt_3b067_9 (by decide) ?_
  refine lv_iand hx hb dJ1_charAt_3b067_12 ?_
  refine lv_i2c hx hb dJ1_charAt_3b067_13 rfl ?_
  refine lv_topi (fun x13_c ex13_c => ?_)
  have hP9 := hP.sub (ws' := []) [] rfl
  have hD9 := hD.sub (ws' := []) [] rfl rfl
  have hK9 := hK.sub (tys' := []) [] rfl
  exact W.zret (v := x13_c) hx hb hr (by rw [ex13_c]; exact pk_nc _) (fun t ht hW => ⟨⟨x13_c, (), rfl, by rw [ex13_c, nI_clamp (by have := xe_len k hk; omega)]; rfl, by rw [ht]; exact hP9, va_K.moved hW.alike hK9, hD9⟩, hS.F ht⟩) hS.2.2 dJ1_charAt_3b067_14
theorem dJ0_charAt_5068e_0 : decode cJ0_charAt_5068e 0 = .ok (.aload_n 0, 1) := by decide +kernel
theorem dJ0_charAt_5068e_1 : decode cJ0_charAt_5068e 1 = .ok (.invokevirtual 492, 3) := by decide +kernel
theorem dJ0_charAt_5068e_4 : decode cJ0_charAt_5068e 4 = .ok (.ifCond .eq 12, 3) := by decide +kernel
theorem dJ0_charAt_5068e_7 : decode cJ0_charAt_5068e 7 = .ok (.aload_n 0, 1) := by decide +kernel
theorem dJ0_charAt_5068e_8 : decode cJ0_charAt_5068e 8 = .ok (.getfield 9, 3) := by decide +kernel
theorem dJ0_charAt_5068e_11 : decode cJ0_charAt_5068e 11 = .ok (.iload_n 1, 1) := by decide +kernel
theorem dJ0_charAt_5068e_12 : decode cJ0_charAt_5068e 12 = .ok (.invokestatic 495, 3) := by decide +kernel
theorem dJ0_charAt_5068e_15 : decode cJ0_charAt_5068e 15 = .ok (.ireturn, 1) := by decide +kernel
set_option maxHeartbeats 4000000 in
set_option maxRecDepth 100000 in
theorem cs_charAt (l : Launch) (D : va_G) (g : xe_G) (k : Nat) (j : Nat) (sz : Nat) (hk : k < xe_M) (hj : j < (xe_lt k).2.2.2.length) : Met l yJ0_charAt_5068e (.code yJ0_charAt_5068e cJ0_charAt_5068e 2 (some .char) :: bg) ({ frames := 4, cells := 0, slots := 0, locals := 480 } : Room) (xb_Pre (xe_E g) D vwCl [] [] sz [.ref (g.2.1 k), .int (nI j)]) (va_Qi (fun r _ => r = xe_ch k j) (xb_B D vwCl (va_A [] sz) (fun u : Unit => []) (fun u : Unit => [])) (va_A [] sz)) 0 0 (va_A [] sz) := by
  refine Met.ofW (cc := cJ0_charAt_5068e) (maxL := 2) (ret := (some .char)) (by decide) rfl ?_
  intro p e s m args below meth c s₁ B hml hv
  obtain ⟨rfl, hsz, hP, hK, hD0, hE⟩ := hv
  have hx := B.exec
  have hb := B.bytes
  have hr := B.returns
  have hts := atoms_spec (ws := (.code yJ0_charAt_5068e cJ0_charAt_5068e 2 (some .char) :: bg)) B.pre
  have htb : ∀ w ∈ bg, w.before _ s = true := fun w h => hts w (List.mem_cons_of_mem _ h)
  have hown : s.vm.findClass RJ0 = some m.cls := findClass_of_methodNamed B.named
  have hlocks := B.notSynchronized
  subst hsz
  have hD := hD0.self (sz := s.heap.size)
  generalize hAe : va_A [] s.heap.size = A at hD hE ⊢
  have hA : ∀ q : Nat, s.heap.size ≤ q → A q := fun q h => by rw [← hAe]; exact Or.inr h
  have hS : va_S A s.heap s.heap [] := va_S.rf
  have hP : va_P D vwCl [] s.heap := hP
  have hl := lv_entry ([.ref (g.2.1 k), .int (nI j)]) (n := 2) (Nat.le_of_ble_eq_true rfl)
  rw [lg_entry_eq]
  generalize (lg_sl ([.ref (g.2.1 k), .int (nI j)]) ++ List.replicate (2 - (lg_sl ([.ref (g.2.1 k), .int (nI j)])).length) Slot.unset).toArray = ls at hl ⊢
  have hl : lv_has ls 2 [(0, .ref (g.2.1 k)), (1, .int (nI j))] := hl
  refine lv_aload_n hx hb dJ0_charAt_5068e_0 rfl (lv_at hl 0 rfl) ?_
  refine xb_goi (wr := []) (va_runV (As := []) (rest := []) ⟨hx, hb, hml, hown, htb⟩ (cs_latin l D g k (Array.size s.heap) (hk)) (bg_V 0 htb bg_1304 bg_1306 bg_1307 bg_556 bg_1305 rfl rfl (by decide +kernel) ⟨Nat.le_of_ble_eq_true rfl, Nat.le_of_ble_eq_true rfl⟩) ⟨xb_blind xe_ok, xe_recv hE hS k (Nat.lt_trans hk (by decide)), xb_enter xe_ok hK hP hD hS hA hE [] rfl rfl rfl [] rfl⟩ rfl rfl hl.1 rfl (lv_room (Nat.le_of_ble_eq_true rfl)) dJ0_charAt_5068e_1 ⟨Nat.le_of_ble_eq_true rfl, Nat.le_of_ble_eq_true rfl⟩) hK hP hD hS hA [] [] rfl rfl rfl (by decide) (fun r_1 u_1 H locs hw_1 hP hD hK hS => ?_)
  have hP : va_P D vwCl [] H := hP
  have hD : va_D A [] := hD
  have hK : va_K D vwCl [] s := hK
  refine W.widen (k := 0) (n := 0) (by decide) (by decide) ?_
  have hw_1 : r_1 = 1 := hw_1
  subst hw_1
  refine lv_if_eq (tgt := 16) hx hb dJ0_charAt_5068e_4 (by decide) (fun c_4 => ?_) (fun c_4 => ?_)
  · exact absurd c_4 (by decide)
  refine lv_aload_n hx hb dJ0_charAt_5068e_7 rfl (lv_at hl 0 rfl) ?_
  refine vk_getf hx hb (hE.2.2.2.2.2.2.2.1 k hk).2.1 hS hown (htb _ bg_1299) (fun _ h9 => h9) dJ0_charAt_5068e_8 ?_
  refine lv_iload_n hx hb dJ0_charAt_5068e_11 rfl (lv_at hl 1 rfl) ?_
  refine xb_goi (wr := []) (va_runS (As := [.ref (g.2.2 k), .int (nI j)]) (rest := []) ⟨hx, hb, hml, hown, htb⟩ (cs_lat1 l D g k j (Array.size H) (hk) (hj)) (bg_S 2 htb bg_1308 bg_1310 bg_1311 bg_1309 rfl rfl (by decide +kernel) ⟨Nat.le_of_ble_eq_true rfl, Nat.le_of_ble_eq_true rfl⟩) ⟨xb_blind xe_ok, xb_enter xe_ok hK hP hD hS hA hE [] rfl rfl rfl [] rfl⟩ rfl rfl hl.1 rfl (lv_room (Nat.le_of_ble_eq_true rfl)) dJ0_charAt_5068e_12 ⟨Nat.le_of_ble_eq_true rfl, Nat.le_of_ble_eq_true rfl⟩) hK hP hD hS hA [] [] rfl rfl rfl (by decide) (fun r_12 u_12 H locs hw_12 hP hD hK hS => ?_)
  have hP : va_P D vwCl [] H := hP
  have hD : va_D A [] := hD
  have hK : va_K D vwCl [] s := hK
  refine W.widen (k := 0) (n := 0) (by decide) (by decide) ?_
  have hw_12 : r_12 = (xe_ch k j) := hw_12
  subst hw_12
  have hP9 := hP.sub (ws' := []) [] rfl
  have hD9 := hD.sub (ws' := []) [] rfl rfl
  have hK9 := hK.sub (tys' := []) [] rfl
  exact W.zret (v := (xe_ch k j)) hx hb hr (xe_chn k j) (fun t ht hW => ⟨⟨(xe_ch k j), (), rfl, rfl, by rw [ht]; exact hP9, va_K.moved hW.alike hK9, hD9⟩, hS.F ht⟩) hS.2.2 dJ0_charAt_5068e_15
end
section
/-! the JDK's few: text of the literals, a copy of bytes, a literal by its wide index -/
section MIT
theorem mi_sized {l : Launch} {y : MethodName} {ws : List Cond} {rm : Room} {Pc : Array Value → State → Prop} {Qc : Array Value → State → Outcome → State → Prop} {mc ms : Nat} {free : Addr → Prop} (h : Met l y ws rm Pc Qc mc ms free) : Met l y ws rm Pc (fun a st o t => Qc a st o t ∧ t.heap.size ≤ st.heap.size + mc) mc ms free :=
  MetFree.mono h (fun _ _ h => h) (fun _ _ _ _ _ _ => trivial) (fun a s o t _ h => ⟨⟨h.1, by obtain ⟨L, ⟨-, -, hsm⟩, -⟩ := h.2; exact hsm.2.2.1⟩, h.2⟩)
section MIU
variable {p : Program} {l : Launch} {e : Env} {R : Room} {s : State} {m : MethodId} {args : Array Value} {below : List Frame} {meth : Method} {c : Code} {H : Heap} {locs : List Loc} {cells slots : Nat} {Q : State → Prop} {pc : Nat} {ls : Array Slot} {rest st0 : List Value} {a : Array Value}
theorem mi_prim {w : Int32} {B : Unit → State → Prop} (hr : va_Run p l e R s m args below meth c H locs cells slots 0 0 (F0 m pc ls st0) rest (fun st oc t => va_Qi (fun r (_ : Unit) => r = w) B (va_A [] H.size) a st oc t ∧ t.heap.size ≤ st.heap.size + 0) (va_A [] H.size)) (hle : s.heap.size ≤ H.size)
    (k : W p l e R s m args below meth c H locs cells slots Q (F0 m (pc + 3) ls (.int w :: rest))) : W p l e R s m args below meth c H locs cells slots Q (F0 m pc ls st0) := by
  intro T hT X
  obtain ⟨v, st₀, t, T', L, h0, X', hL, e1, e2, ⟨⟨⟨r, u, hv, hp, -⟩, hz, hk⟩, hsz⟩, stp⟩ := hr T hT X
  cases hv
  subst hp
  rw [h0] at hz hk hsz
  have hno : ∀ q : Nat, q < H.size → ¬ va_A [] H.size q := by
    rintro q hq (⟨k9, e9, h9⟩ | h9)
    · simp at h9
    · omega
  have hH : T'.heap = H := by
    rw [e1]
    apply Array.ext_getElem?
    intro q
    by_cases hq : q < H.size
    · exact hk q hq (hno q hq)
    · rw [Array.getElem?_eq_none (by omega), Array.getElem?_eq_none (by omega)]
  obtain ⟨t2, a1, b1⟩ := k T' hH (Stand.forget X' (fun z hz9 => by
    rcases hL z hz9 with ⟨k9, e9, h9⟩ | h9
    · simp at h9
    · exact Nat.le_trans hle h9))
  exact ⟨t2, stp t2 a1, b1⟩
end MIU
theorem mi_lit {g : xe_G} {D : va_G} {A : Nat → Prop} {s : State} {M : mi_H} {H : Heap} {ws : va_W} {tys : List (ClassId × FieldType)} {a : Nat} {o : Nat × (Nat → Option Value)} (h : mi_rel g D A s M H ws tys) (hc : 100 ≤ o.1) (hM : M.1 a = some (.inr o)) : ∃ k, k < xe_N ∧ a = g.2.1 k ∧ o.1 = 100 + k := by
  rcases h.2.2.2.2.1 a _ hM with ⟨hw, -⟩ | ⟨-, f9, h9⟩ | ⟨k9, f9, h1, h2, h9⟩
  · exact absurd (hw.2 o rfl) (by omega)
  · cases h9
  · cases h9
    exact ⟨k9, h1, h2, rfl⟩
def o_slength : mi_O := fun S => match S.2.2.1 with
  | .ref a :: st => match S.2.2.2.1 a with
    | some (.inr o) => if 100 ≤ o.1 ∧ o.1 < 130 ∧ (st.map fun v => v.category).sum ≤ 8 then some (S.1 + 3, S.2.1, .int (nI (xe_lt (o.1 - 100)).2.2.2.length) :: st, S.2.2.2) else none
    | _ => none
  | _ => none
theorem sm_slength {g : xe_G} {own : String} {cc : ByteArray} {nL : Nat} {ini : Bool} {pc : Nat} {i : Nat} (w1 : Cond.methodLink own i yJ0_length_8abf5 ∈ bg) (w2 : Cond.instanceMethod yJ0_length_8abf5 ∈ bg) (w3 : Cond.selects "java/lang/String" yJ0_length_8abf5 yJ0_length_8abf5 ∈ bg) (w4 : Cond.initialized yJ0_length_8abf5.cls ∈ bg) (w5 : Cond.code yJ0_length_8abf5 cJ0_length_8abf5 1 (some .int) ∈ bg) (hd : decode cc pc = .ok (.invokevirtual i, 3)) : mi_ps g own cc nL ini pc o_slength := by
  intro lv st M S' h
  unfold o_slength at h
  dsimp only at h
  split at h
  · rename_i a rest
    split at h
    · rename_i o hM
      split at h
      · rename_i ho
        cases h
        refine ⟨rfl, rfl, ?_⟩
        intro D p l e R s m args below meth c A Q H locs ls cells slots ws tys hc hr hl hS hR1 hR2 k
        obtain ⟨hx, hb, hml, hown, htb, hE, hini, hA, hK0, hfr, hlo⟩ := hc
        obtain ⟨k9, h1, rfl, h3⟩ := mi_lit hr ho.1 hM
        have hk9 : k9 < xe_M := by show k9 < 30; omega
        rw [show o.1 - 100 = k9 by omega] at k
        exact mi_prim (va_runV (As := []) (rest := rest) ⟨hx, hb, hml, hown, htb⟩ (mi_sized (cs_length l D g k9 H.size hk9)) (bg_V 0 htb w1 w2 w3 w4 w5 rfl rfl ⟨by decide, by decide, by decide +kernel⟩ ⟨by show 2 + 1 ≤ _; omega, by show 8 + (1 + 11) + 240 ≤ _; omega⟩) ⟨xb_blind xe_ok, xe_recv hE hS k9 h1, xb_enter xe_ok hr.1 hr.2.1 hr.2.2.1 hS hA hE [] rfl rfl rfl [] rfl⟩ rfl rfl hl.1 rfl (lv_room ho.2.2) hd ⟨hR1, hR2⟩) hS.1 k
      · cases h
    · cases h
  · cases h
def o_scharAt : mi_O := fun S => match S.2.2.1 with
  | .int j :: .ref a :: st => match S.2.2.2.1 a with
    | some (.inr o) => if 100 ≤ o.1 ∧ o.1 < 130 ∧ (st.map fun v => v.category).sum ≤ 8 ∧ ¬ j < 0 ∧ j.toNatClampNeg < (xe_lt (o.1 - 100)).2.2.2.length then some (S.1 + 3, S.2.1, .int (xe_ch (o.1 - 100) j.toNatClampNeg) :: st, S.2.2.2) else none
    | _ => none
  | _ => none
theorem mi_nI {j : Int32} (h : ¬ j < 0) : nI j.toNatClampNeg = j := by
  have h0 : (0 : Int) ≤ j.toInt := by
    have := Int32.not_lt.mp h
    simpa using Int32.le_iff_toInt_le.mp this
  apply Int32.toInt_inj.mp
  have h2 : j.toNatClampNeg < 2 ^ 31 := by
    have := Int32.toInt_lt j
    show j.toInt.toNat < 2 ^ 31
    omega
  show (Int32.ofNat j.toNatClampNeg).toInt = j.toInt
  rw [Int32.toInt_ofNat_of_lt h2]
  show ((j.toInt.toNat : Nat) : Int) = j.toInt
  omega
theorem sm_scharAt {g : xe_G} {own : String} {cc : ByteArray} {nL : Nat} {ini : Bool} {pc : Nat} {i : Nat} (w1 : Cond.methodLink own i yJ0_charAt_5068e ∈ bg) (w2 : Cond.instanceMethod yJ0_charAt_5068e ∈ bg) (w3 : Cond.selects "java/lang/String" yJ0_charAt_5068e yJ0_charAt_5068e ∈ bg) (w4 : Cond.initialized yJ0_charAt_5068e.cls ∈ bg) (w5 : Cond.code yJ0_charAt_5068e cJ0_charAt_5068e 2 (some .char) ∈ bg) (hd : decode cc pc = .ok (.invokevirtual i, 3)) : mi_ps g own cc nL ini pc o_scharAt := by
  intro lv st M S' h
  unfold o_scharAt at h
  dsimp only at h
  split at h
  · rename_i j a rest
    split at h
    · rename_i o hM
      split at h
      · rename_i ho
        cases h
        refine ⟨rfl, rfl, ?_⟩
        intro D p l e R s m args below meth c A Q H locs ls cells slots ws tys hc hr hl hS hR1 hR2 k
        obtain ⟨hx, hb, hml, hown, htb, hE, hini, hA, hK0, hfr, hlo⟩ := hc
        obtain ⟨k9, h1, rfl, h3⟩ := mi_lit hr ho.1 hM
        have hk9 : k9 < xe_M := by show k9 < 30; omega
        have e9 : o.1 - 100 = k9 := by omega
        rw [e9] at k ho
        have hj := mi_nI ho.2.2.2.1
        have hgo := mi_prim (va_runV (As := [.int (nI j.toNatClampNeg)]) (rest := rest) ⟨hx, hb, hml, hown, htb⟩ (mi_sized (cs_charAt l D g k9 j.toNatClampNeg H.size hk9 ho.2.2.2.2)) (bg_V 1 htb w1 w2 w3 w4 w5 rfl rfl ⟨by decide, by decide, by decide +kernel⟩ ⟨by show 4 + 1 ≤ _; omega, by show 8 + (2 + 11) + 480 ≤ _; omega⟩) ⟨xb_blind xe_ok, xe_recv hE hS k9 h1, xb_enter xe_ok hr.1 hr.2.1 hr.2.2.1 hS hA hE [] rfl rfl rfl [] rfl⟩ rfl rfl hl.1 rfl (lv_room ho.2.2.1) hd ⟨hR1, hR2⟩) hS.1 k
        rw [hj] at hgo
        exact hgo
      · cases h
    · cases h
  · cases h
def mi_fb (o : Option Value) : Bool := match o with
  | some v => fits .byte v
  | none => false
def o_acopy : mi_O := fun S => match S.2.2.1 with
  | .int n :: .int dp :: .ref a :: .int sp :: .ref a0 :: st => match mi_ga S.2.2.2 a0 .byte with
    | some r0 => match mi_ga S.2.2.2 a .byte with
      | some r1 => if a ≠ a0 ∧ 0 < r0.1 ∧ 0 < r1.1 ∧ ¬ sp < 0 ∧ ¬ dp < 0 ∧ ¬ n < 0 ∧ sp.toNatClampNeg + n.toNatClampNeg ≤ r0.1 ∧ dp.toNatClampNeg + n.toNatClampNeg ≤ r1.1 ∧ (st.map fun v => v.category).sum ≤ 8 ∧ (List.range n.toNatClampNeg).all (fun i => mi_fb (r0.2 (sp.toNatClampNeg + i))) = true then
          some (S.1 + 3, S.2.1, st, va_up S.2.2.2.1 a (some (.inl (.byte, r1.1, va_cpy r0.2 r1.2 sp.toNatClampNeg dp.toNatClampNeg n.toNatClampNeg))), S.2.2.2.2) else none
      | none => none
    | none => none
  | _ => none
theorem mi_nn (z : Int32) (hz : ¬ z < 0) : z.toInt = (z.toNatClampNeg : Int) := by
  have hz0 : (0 : Int) ≤ z.toInt := by
    have := Int32.not_lt.mp hz
    simpa using Int32.le_iff_toInt_le.mp this
  show z.toInt = ((z.toInt.toNat : Nat) : Int)
  omega
theorem mi_nat9 {a b : Nat} (h : a ≤ 8) (h2 : 1000 ≤ b) : 2 * 0 + a + (nativeFrameWords "java/lang/System" "arraycopy" 5 + 11) ≤ b := by
  have : nativeFrameWords "java/lang/System" "arraycopy" 5 ≤ 900 := by decide
  omega
theorem sm_acopy {g : xe_G} {own : String} {cc : ByteArray} {nL : Nat} {ini : Bool} {pc : Nat} {i : Nat} (w1 : Cond.methodLink own i arraycopyName ∈ bg) (w2 : Cond.native arraycopyName ∈ bg) (w3 : Cond.static arraycopyName ∈ bg) (w4 : Cond.initialized "java/lang/System" ∈ bg) (hd : decode cc pc = .ok (.invokestatic i, 3)) : mi_sim g own cc nL ini pc o_acopy := by
  intro lv st M S' h
  unfold o_acopy at h
  dsimp only at h
  split at h
  · rename_i n dp a sp a0 rest
    split at h
    · rename_i r0 hga0
      split at h
      · rename_i r1 hga1
        split at h
        · rename_i hco
          cases h
          refine ⟨⟨Nat.le_refl _, Nat.le_refl _⟩, ?_⟩
          intro D p l e R s m args below meth c A n0 s0 Q hc hn0 hs0 hR1 hR2 hW H locs ls ws tys hr hl hS
          obtain ⟨hx, hb, hml, hown, htb, hE, hini, hA, hK0, hfr, hlo⟩ := hc
          obtain ⟨hne, p0, p1, hsp, hdp, hnn, h4, h5, hst8, hfb⟩ := hco
          obtain ⟨hM0, ⟨q0, c0, y0, t0, h1, h2, ⟨h3, h7⟩, -⟩ | ⟨-, -, h0⟩⟩ := mi_ga_in hr hga0
          · obtain ⟨hM1, ⟨q1, c1, y1, t1, k1, k2, ⟨k3, k7⟩, k5⟩ | ⟨-, -, h0⟩⟩ := mi_ga_in hr hga1
            · obtain ⟨n0', x0⟩ := y0
              obtain ⟨n1', x1⟩ := y1
              obtain ⟨n0'', f0⟩ := r0
              obtain ⟨n1'', f1⟩ := r1
              dsimp only at h3 h7 k3 k7 h4 h5 hfb k5 p0 p1
              subst h3
              subst k3
              rcases h7 with ⟨-, hf0, rfl, hv0⟩ | ⟨h9, -⟩ | ⟨⟨C9, h9⟩, -⟩
              · rcases k7 with ⟨-, hf1, rfl, hv1⟩ | ⟨h9, -⟩ | ⟨⟨C9, h9⟩, -⟩
                · have hfit : ∀ i, i < n.toNatClampNeg → f0 (sp.toNatClampNeg + i) = some (.int (hf0 (sp.toNatClampNeg + i))) ∧ fits .byte (.int (hf0 (sp.toNatClampNeg + i))) = true := by
                    intro i hi
                    have h6 := List.all_eq_true.mp hfb i (List.mem_range.mpr hi)
                    unfold mi_fb at h6
                    split at h6
                    · rename_i v hv
                      have h8 := hv0 _ _ hv
                      subst h8
                      exact ⟨hv, h6⟩
                    · cases h6
                  intro T hT X
                  have hc0 : H[a0]? = some (vp_cell c0 (n0', .inl hf0)) := hr.2.1 q0 _ h1
                  have hc1 : H[a]? = some (vp_cell c1 (n1', .inl hf1)) := hr.2.1 q1 _ k1
                  obtain ⟨-, kk0, hk0, cm0, hkk0⟩ := (hr.1.2 t0 _ h2).1 n0' (fun j => .int (hf0 j))
                  obtain ⟨-, kk1, hk1, cm1, hkk1⟩ := (hr.1.2 t1 _ k2).1 n1' (fun j => .int (hf1 j))
                  obtain ⟨vm', X', step⟩ := X.arraycopy hx hown (htb _ w1) (htb _ w2) (htb _ w3) (htb _ w4) (src := a0) (dst := a) (cs := vp_cell c0 (n0', .inl hf0)) (cd := vp_cell c1 (n1', .inl hf1)) (srcPos := sp) (destPos := dp) (n := n) (by rw [hT]; exact hc0) (by rw [hT]; exact hc1)
                    (fun _ h => by cases h) (fun _ h => by cases h) (fun h => by cases h) (fun h => by cases h) hk0 hk1 hkk0 hkk1 (by simp [refKind]) hsp hdp hnn
                    (by rw [mi_nn sp hsp, mi_nn n hnn]; show ¬ _ > ((arrV c0 n0' (fun j => .int (hf0 j))).slots.size : Int); rw [arrV_size]; omega)
                    (by rw [mi_nn dp hdp, mi_nn n hnn]; show ¬ _ > ((arrV c1 n1' (fun j => .int (hf1 j))).slots.size : Int); rw [arrV_size]; omega)
                    (fun vm₁ _ i hi => by
                      have e : (vp_cell c0 (n0', .inl hf0)).slots.getD (sp.toNatClampNeg + i) .null = .int (hf0 (sp.toNatClampNeg + i)) := by
                        show (arrV c0 n0' (fun j => .int (hf0 j))).slots.getD _ _ = _
                        rw [Array.getD_eq_getD_getElem?, arrV_read _ _ (by omega)]
                        rfl
                      refine ⟨?_, ?_⟩
                      · rw [e]
                        exact (hfit i hi).2
                      · rw [e]
                        exact trivial)
                    (g := F0 m pc ls (.int n :: .int dp :: .ref a :: .int sp :: .ref a0 :: rest)) rfl (by rw [hml]; exact hl.1) (rest := rest) rfl (by rw [hb]; exact hd) (by omega) (mi_nat9 hst8 hlo)
                  have e1 : copied (vp_cell c0 (n0', .inl hf0)) (vp_cell c1 (n1', .inl hf1)) sp dp n = vp_cell c1 (n1', .inl (va_cpy hf0 hf1 sp.toNatClampNeg dp.toNatClampNeg n.toNatClampNeg)) := va_copied (fun z => .int z) c0 c1 hf0 hf1 h4
                  rw [e1] at X' step
                  have hlt : a < H.size := (Array.getElem?_eq_some_iff.mp hc1).1
                  have hheap : ((T.setVm vm').setCell a (vp_cell c1 (n1', .inl (va_cpy hf0 hf1 sp.toNatClampNeg dp.toNatClampNeg n.toNatClampNeg)))).heap = H.setIfInBounds a (vp_cell c1 (n1', .inl (va_cpy hf0 hf1 sp.toNatClampNeg dp.toNatClampNeg n.toNatClampNeg))) := by rw [← hT]; rfl
                  generalize hH1 : H.setIfInBounds a (vp_cell c1 (n1', .inl (va_cpy hf0 hf1 sp.toNatClampNeg dp.toNatClampNeg n.toNatClampNeg))) = H1 at hheap
                  have z : H1.size = H.size := by rw [← hH1]; simp
                  have oq : ∀ q : Nat, q ≠ a → H1[q]? = H[q]? := fun q hq => by rw [← hH1]; simp [Array.getElem?_setIfInBounds, Ne.symm hq]
                  have hat : H1[a]? = some (vp_cell c1 (n1', .inl (va_cpy hf0 hf1 sp.toNatClampNeg dp.toNatClampNeg n.toNatClampNeg))) := by rw [← hH1]; simp [Array.getElem?_setIfInBounds, hlt]
                  have hA9 : A a := hr.2.2.1.2 q1 _ k1
                  have hct : ∀ (j : Nat) (w : Value), va_cpy f0 f1 sp.toNatClampNeg dp.toNatClampNeg n.toNatClampNeg j = some w → w = .int (va_cpy hf0 hf1 sp.toNatClampNeg dp.toNatClampNeg n.toNatClampNeg j) := by
                    intro j w hj
                    unfold va_cpy at hj ⊢
                    split at hj
                    · rename_i hjj
                      rw [if_pos hjj]
                      exact hv0 _ _ hj
                    · rename_i hjj
                      rw [if_neg hjj]
                      exact hv1 _ _ hj
                  obtain ⟨t, a1, b1⟩ := hW H1 _ ls (ws.set q1 (a, .inl (c1, n1', .inl (va_cpy hf0 hf1 sp.toNatClampNeg dp.toNatClampNeg n.toNatClampNeg)))) tys (hr.put k1 ⟨k5.1, fun o9 h9 => by cases h9⟩ ⟨c1, _, rfl, List.mem_of_getElem? k2, rfl, Or.inl ⟨by simp, _, rfl, hct⟩⟩ hat z oq) hl ⟨Nat.le_trans hS.1 (Nat.le_of_eq z.symm), fun q g1 g2 => by
                      rw [oq q (fun e => g2 (by rw [e]; exact hA9))]
                      exact hS.2.1 q g1 g2, fun q hq => by
                      rcases List.mem_append.mp hq with h | h
                      · exact hS.2.2 q h
                      · obtain ⟨z, -, hz⟩ := List.mem_map.mp h
                        rw [← hz]
                        exact hA9⟩ _ hheap X'
                  exact ⟨t, step t a1, b1⟩
                · cases h9
                · cases h9
              · cases h9
              · cases h9
            · exact absurd p1 (by rw [h0]; exact Nat.lt_irrefl 0)
          · exact absurd p0 (by rw [h0]; exact Nat.lt_irrefl 0)
        · cases h
      · cases h
    · cases h
  · cases h
theorem sm_ldcSw {g : xe_G} {own : String} {cc : ByteArray} {nL : Nat} {ini : Bool} {pc : Nat} {i k9 : Nat} (hk : k9 < xe_N) (h1 : (xe_lt k9).1 = own) (h2 : (xe_lt k9).2.1 = i) (hd : decode cc pc = .ok (.ldc_w i, 3)) : mi_ps g own cc nL ini pc (o_push (.ref (g.2.1 k9)) 3) := by
  intro lv st M S' h
  cases h
  refine ⟨rfl, rfl, ?_⟩
  intro D p l e R s m args below meth c A Q H locs ls cells slots ws tys hc hr hl hS hR1 hR2 k
  obtain ⟨hx, hb, hml, hown, htb, hE, hini, hA, hK0, hfr, hlo⟩ := hc
  have h9 := (hE.2.2.2.2.2.2.1 k9 hk).1
  rw [h1, h2] at h9
  intro T hT X
  obtain ⟨t, a1, b1⟩ := k T hT X
  exact ⟨t, X.ldcStringW hx hown (text := (xe_lt k9).2.2.1) (a := g.2.1 k9) h9.1 h9.2 (g := F0 m pc ls st) rfl (by rw [hb]; exact hd) t a1, b1⟩
def mi_cz (v : Int32) : Bool := decide (v = 0) || decide (v = 1)
theorem mi_cz_ok : ∀ v, mi_cz v = true → narrow .boolean (.int v) = .int v := by
  intro v h
  unfold mi_cz at h
  rcases Bool.or_eq_true_iff.mp h with h | h
  · have h := of_decide_eq_true h
    subst h
    rfl
  · have h := of_decide_eq_true h
    subst h
    rfl
def mi_cc (v : Int32) : Bool := decide (narrow .char (.int v) = .int v)
theorem mi_cc_ok : ∀ v, mi_cc v = true → narrow .char (.int v) = .int v := fun v h => of_decide_eq_true h
/-! tables as trees by pc -/
def mt_leaf (k : Nat) (e : mi_N) : Nat → Option mi_N := fun pc => cond (Nat.beq pc k) (some e) none
def mt_node (k : Nat) (a b : Nat → Option mi_N) : Nat → Option mi_N := fun pc => cond (Nat.ble pc k) (a pc) (b pc)
def mk_leaf (k : Nat) (e : List Nat) : Nat → Option (List Nat) := fun pc => cond (Nat.beq pc k) (some e) none
def mk_node (k : Nat) (a b : Nat → Option (List Nat)) : Nat → Option (List Nat) := fun pc => cond (Nat.ble pc k) (a pc) (b pc)
def mn_node {α : Type} (k : Nat) (a b : Nat → α) : Nat → α := fun y => cond (Nat.ble y k) (a y) (b y)
def mt_all (P : Nat → mi_N → Prop) (t : Nat → Option mi_N) : Prop := ∀ pc e, t pc = some e → P pc e
theorem mt_leaf_ok {P : Nat → mi_N → Prop} {k : Nat} {e : mi_N} (h : P k e) : mt_all P (mt_leaf k e) := by
  intro pc e' he
  unfold mt_leaf at he
  cases hb : Nat.beq pc k with
  | false => rw [hb] at he; cases he
  | true =>
    rw [hb] at he
    cases he
    rw [Nat.eq_of_beq_eq_true hb]
    exact h
theorem mt_node_ok {P : Nat → mi_N → Prop} {k : Nat} {a b : Nat → Option mi_N} (ha : mt_all P a) (hb : mt_all P b) : mt_all P (mt_node k a b) := by
  intro pc e' he
  unfold mt_node at he
  cases hc : Nat.ble pc k with
  | false => rw [hc] at he; exact hb pc e' he
  | true => rw [hc] at he; exact ha pc e' he
theorem en_o {g : xe_G} {I : Nat → mi_I} {q : mi_I} {pc : Nat} {o : mi_O} (h : mi_ps g q.1.cls q.2.1 q.2.2.1 (q.1.name == "<init>") pc o) : mi_ent g I q pc (.inl o) := h.sim
theorem en_s {g : xe_G} {I : Nat → mi_I} {q : mi_I} {pc : Nat} {o : mi_O} (h : mi_sim g q.1.cls q.2.1 q.2.2.1 (q.1.name == "<init>") pc o) : mi_ent g I q pc (.inl o) := h
end MIT
end
section
def mI_0 : Nat → mi_I := mn_node 19 (mn_node 9 (mn_node 4 (mn_node 1 (mn_node 0 (fun _ => (yX11_init, cX11_init, 1, none)) (fun _ => (yX11_bits, cX11_bits, 4, (some .long)))) (mn_node 2 (fun _ => (yX11_bootstrap, cX11_bootstrap, 3, (some .int))) (mn_node 3 (fun _ => (yX11_character, cX11_character, 3, (some .int))) (fun _ => (yX11_codeOf, cX11_codeOf, 3, (some (.object "ClassGate$Code"))))))) (mn_node 6 (mn_node 5 (fun _ => (yX11_count, cX11_count, 2, (some .int))) (fun _ => (yX11_cut, cX11_cut, 3, (some .int)))) (mn_node 7 (fun _ => (yX11_end, cX11_end, 2, (some .int))) (mn_node 8 (fun _ => (yX11_entry, cX11_entry, 3, (some .int))) (fun _ => (yX11_feed, cX11_feed, 6, (some .int))))))) (mn_node 14 (mn_node 11 (mn_node 10 (fun _ => (yX11_find, cX11_find, 5, (some .int))) (fun _ => (yX11_holds, cX11_holds, 5, (some .boolean)))) (mn_node 12 (fun _ => (yX11_instruction, cX11_instruction, 5, (some .int))) (mn_node 13 (fun _ => (yX11_isWhole, cX11_isWhole, 3, (some .boolean))) (fun _ => (yX11_jump, cX11_jump, 6, (some .int)))))) (mn_node 16 (mn_node 15 (fun _ => (yX11_member, cX11_member, 5, (some .int))) (fun _ => (yX11_place, cX11_place, 1, (some .int)))) (mn_node 17 (fun _ => (yX11_places, cX11_places, 2, (some .int))) (mn_node 18 (fun _ => (yX11_read, cX11_read, 3, (some .int))) (fun _ => (yX11_row, cX11_row, 5, (some .int)))))))) (mn_node 29 (mn_node 24 (mn_node 21 (mn_node 20 (fun _ => (yX11_takeWord, cX11_takeWord, 2, none)) (fun _ => (yX0_init, cX0_init, 3, none))) (mn_node 22 (fun _ => (yX0_areClasses, cX0_areClasses, 4, (some .boolean))) (mn_node 23 (fun _ => (yX0_behind, cX0_behind, 2, (some .int))) (fun _ => (yX0_bootstrapsEnd, cX0_bootstrapsEnd, 6, (some .int)))))) (mn_node 26 (mn_node 25 (fun _ => (yX0_bootstrapsHold, cX0_bootstrapsHold, 5, (some .boolean))) (fun _ => (yX0_brokenRule, cX0_brokenRule, 3, (some .int)))) (mn_node 27 (fun _ => (yX0_classKind, cX0_classKind, 2, (some .int))) (mn_node 28 (fun _ => (yX0_codeAttributesHold, cX0_codeAttributesHold, 6, (some .boolean))) (fun _ => (yX0_codeEnd, cX0_codeEnd, 6, (some .int))))))) (mn_node 34 (mn_node 31 (mn_node 30 (fun _ => (yX0_codeHolds, cX0_codeHolds, 5, (some .boolean))) (fun _ => (yX0_constantTag, cX0_constantTag, 2, (some .int)))) (mn_node 32 (fun _ => (yX0_formEnd, cX0_formEnd, 4, (some .int))) (mn_node 33 (fun _ => (yX0_hasSeen, cX0_hasSeen, 2, (some .boolean))) (fun _ => (yX0_innerClassesHold, cX0_innerClassesHold, 6, (some .boolean)))))) (mn_node 36 (mn_node 35 (fun _ => (yX0_isLoadable, cX0_isLoadable, 1, (some .boolean))) (fun _ => (yX0_isNew, cX0_isNew, 3, (some .boolean)))) (mn_node 37 (fun _ => (yX0_methodKind, cX0_methodKind, 2, (some .int))) (mn_node 38 (fun _ => (yX0_ofClass, cX0_ofClass, 5, (some .boolean))) (fun _ => (yX0_ofField, cX0_ofField, 5, (some .boolean))))))))
def mI_1 : Nat → mi_I := mn_node 59 (mn_node 49 (mn_node 44 (mn_node 41 (mn_node 40 (fun _ => (yX0_ofMethod, cX0_ofMethod, 5, (some .boolean))) (fun _ => (yX0_recordEnd, cX0_recordEnd, 6, (some .int)))) (mn_node 42 (fun _ => (yX0_recordHolds, cX0_recordHolds, 6, (some .boolean))) (mn_node 43 (fun _ => (yX0_rowHolds, cX0_rowHolds, 5, (some .boolean))) (fun _ => (yX1_init, cX1_init, 2, none))))) (mn_node 46 (mn_node 45 (fun _ => (yX1_attributesEnd, cX1_attributesEnd, 7, (some .int))) (fun _ => (yX1_goesOn, cX1_goesOn, 3, (some .boolean)))) (mn_node 47 (fun _ => (yX1_size, cX1_size, 1, (some .int))) (mn_node 48 (fun _ => (yX1_u1, cX1_u1, 2, (some .int))) (fun _ => (yX1_u2, cX1_u2, 2, (some .int))))))) (mn_node 54 (mn_node 51 (mn_node 50 (fun _ => (yX1_u4, cX1_u4, 2, (some .int))) (fun _ => (yX2_init, cX2_init, 4, none))) (mn_node 52 (fun _ => (yX2_abstractHolds, cX2_abstractHolds, 2, (some .boolean))) (mn_node 53 (fun _ => (yX2_classFlagsHold, cX2_classFlagsHold, 1, (some .boolean))) (fun _ => (yX2_codeIsDue, cX2_codeIsDue, 3, (some .boolean)))))) (mn_node 56 (mn_node 55 (fun _ => (yX2_fieldFlagsHold, cX2_fieldFlagsHold, 3, (some .boolean))) (fun _ => (yX2_fieldHolds, cX2_fieldHolds, 3, (some .boolean)))) (mn_node 57 (fun _ => (yX2_fieldsHold, cX2_fieldsHold, 3, (some .boolean))) (mn_node 58 (fun _ => (yX2_hasAll, cX2_hasAll, 2, (some .boolean))) (fun _ => (yX2_hasOneAccessAtMost, cX2_hasOneAccessAtMost, 1, (some .boolean)))))))) (mn_node 69 (mn_node 64 (mn_node 61 (mn_node 60 (fun _ => (yX2_headHolds, cX2_headHolds, 3, (some .boolean))) (fun _ => (yX2_interfaceMethodHolds, cX2_interfaceMethodHolds, 2, (some .boolean)))) (mn_node 62 (fun _ => (yX2_interfacesHold, cX2_interfacesHold, 6, (some .boolean))) (mn_node 63 (fun _ => (yX2_methodDescriptorHolds, cX2_methodDescriptorHolds, 2, (some .boolean))) (fun _ => (yX2_methodFlagsHold, cX2_methodFlagsHold, 3, (some .boolean)))))) (mn_node 66 (mn_node 65 (fun _ => (yX2_methodHolds, cX2_methodHolds, 3, (some .boolean))) (fun _ => (yX2_methodNameHolds, cX2_methodNameHolds, 2, (some .boolean)))) (mn_node 67 (fun _ => (yX2_methodsHold, cX2_methodsHold, 3, (some .boolean))) (mn_node 68 (fun _ => (yX3_init, cX3_init, 2, none)) (fun _ => (yX3_attributeNumber, cX3_attributeNumber, 2, (some .int))))))) (mn_node 74 (mn_node 71 (mn_node 70 (fun _ => (yX3_bootstrapPart, cX3_bootstrapPart, 5, (some .int))) (fun _ => (yX3_has, cX3_has, 2, (some .boolean)))) (mn_node 72 (fun _ => (yX3_memberAt, cX3_memberAt, 4, (some (.object "ClassGate$Member")))) (mn_node 73 (fun _ => (yX3_number, cX3_number, 2, (some .int))) (fun _ => (yX4_init, cX4_init, 4, none))))) (mn_node 76 (mn_node 75 (fun _ => (yX4_callHolds, cX4_callHolds, 2, (some .boolean))) (fun _ => (yX4_cutUp, cX4_cutUp, 4, (some .int)))) (mn_node 77 (fun _ => (yX4_isLoadedByLdc, cX4_isLoadedByLdc, 2, (some .boolean))) (mn_node 78 (fun _ => (yX4_isMethodOfEither, cX4_isMethodOfEither, 2, (some .boolean))) (fun _ => (yX4_isOfTwoPlaces, cX4_isOfTwoPlaces, 2, (some .boolean))))))))
def mI_2 : Nat → mi_I := mn_node 99 (mn_node 89 (mn_node 84 (mn_node 81 (mn_node 80 (fun _ => (yX4_number, cX4_number, 4, (some .int))) (fun _ => (yX4_numberAt, cX4_numberAt, 3, (some .int)))) (mn_node 82 (fun _ => (yX4_operandsHold, cX4_operandsHold, 2, (some .boolean))) (mn_node 83 (fun _ => (yX4_startOf, cX4_startOf, 2, (some .int))) (fun _ => (yX4_switchPlace, cX4_switchPlace, 4, (some .int)))))) (mn_node 86 (mn_node 85 (fun _ => (yX4_targetsHold, cX4_targetsHold, 2, (some .boolean))) (fun _ => (yX5_init, cX5_init, 4, none))) (mn_node 87 (fun _ => (yX5_areOperandsTaken, cX5_areOperandsTaken, 1, (some .boolean))) (mn_node 88 (fun _ => (yX5_isIndexTaken, cX5_isIndexTaken, 1, (some .boolean))) (fun _ => (yX5_isJump, cX5_isJump, 1, (some .boolean))))))) (mn_node 94 (mn_node 91 (mn_node 90 (fun _ => (yX5_isJumpTaken, cX5_isJumpTaken, 3, (some .boolean))) (fun _ => (yX5_isLocalOpcode, cX5_isLocalOpcode, 1, (some .boolean)))) (mn_node 92 (fun _ => (yX5_isLocalTaken, cX5_isLocalTaken, 3, (some .boolean))) (mn_node 93 (fun _ => (yX5_isLookupTaken, cX5_isLookupTaken, 2, (some .boolean))) (fun _ => (yX5_isShortLocalTaken, cX5_isShortLocalTaken, 3, (some .boolean)))))) (mn_node 96 (mn_node 95 (fun _ => (yX5_isSwitch, cX5_isSwitch, 1, (some .boolean))) (fun _ => (yX5_isSwitchTaken, cX5_isSwitchTaken, 2, (some .boolean)))) (mn_node 97 (fun _ => (yX5_isTableTaken, cX5_isTableTaken, 3, (some .boolean))) (mn_node 98 (fun _ => (yX5_isTakenApart, cX5_isTakenApart, 2, (some .boolean))) (fun _ => (yX5_isWideTaken, cX5_isWideTaken, 1, (some .boolean)))))))) (mn_node 109 (mn_node 104 (mn_node 101 (mn_node 100 (fun _ => (yX5_keyOf, cX5_keyOf, 2, (some .int))) (fun _ => (yX5_s4, cX5_s4, 2, (some .int)))) (mn_node 102 (fun _ => (yX5_sizeOf, cX5_sizeOf, 1, (some .int))) (mn_node 103 (fun _ => (yX5_target, cX5_target, 2, (some .long))) (fun _ => (yX5_u1, cX5_u1, 2, (some .int)))))) (mn_node 106 (mn_node 105 (fun _ => (yX5_u2, cX5_u2, 2, (some .int))) (fun _ => (yX6_init, cX6_init, 3, none))) (mn_node 107 (fun _ => (yX6_codeNumber, cX6_codeNumber, 2, (some .int))) (mn_node 108 (fun _ => (yX6_has, cX6_has, 2, (some .boolean))) (fun _ => (yX6_number, cX6_number, 3, (some .int))))))) (mn_node 114 (mn_node 111 (mn_node 110 (fun _ => (yX7_init, cX7_init, 4, none)) (fun _ => (yX7_addCharacter, cX7_addCharacter, 2, none))) (mn_node 112 (fun _ => (yX7_argumentPlaces, cX7_argumentPlaces, 2, (some .int))) (mn_node 113 (fun _ => (yX7_characterAt, cX7_characterAt, 3, (some .int))) (fun _ => (yX7_describeTexts, cX7_describeTexts, 2, none))))) (mn_node 116 (mn_node 115 (fun _ => (yX7_descriptorOf, cX7_descriptorOf, 2, (some .int))) (fun _ => (yX7_dimensionsOf, cX7_dimensionsOf, 4, (some .int)))) (mn_node 117 (fun _ => (yX7_firstIndex, cX7_firstIndex, 2, (some .int))) (mn_node 118 (fun _ => (yX7_hasAngle, cX7_hasAngle, 4, (some .boolean))) (fun _ => (yX7_hasNoResult, cX7_hasNoResult, 2, (some .boolean))))))))
def mI_3 : Nat → mi_I := mn_node 139 (mn_node 129 (mn_node 124 (mn_node 121 (mn_node 120 (fun _ => (yX7_isClassText, cX7_isClassText, 4, (some .boolean))) (fun _ => (yX7_isFieldDescriptor, cX7_isFieldDescriptor, 2, (some .boolean)))) (mn_node 122 (fun _ => (yX7_isMethodDescriptor, cX7_isMethodDescriptor, 2, (some .boolean))) (mn_node 123 (fun _ => (yX7_isPlainClass, cX7_isPlainClass, 2, (some .boolean))) (fun _ => (yX7_isUnqualifiedName, cX7_isUnqualifiedName, 4, (some .boolean)))))) (mn_node 126 (mn_node 125 (fun _ => (yX7_isWide, cX7_isWide, 3, (some .boolean))) (fun _ => (yX7_methodShape, cX7_methodShape, 6, (some .int)))) (mn_node 127 (fun _ => (yX7_nameEnd, cX7_nameEnd, 6, (some .int))) (mn_node 128 (fun _ => (yX7_nameOf, cX7_nameOf, 2, (some .int))) (fun _ => (yX7_namesInit, cX7_namesInit, 2, (some .boolean))))))) (mn_node 134 (mn_node 131 (mn_node 130 (fun _ => (yX7_placesOfType, cX7_placesOfType, 1, (some .int))) (fun _ => (yX7_placesTold, cX7_placesTold, 2, (some .int)))) (mn_node 132 (fun _ => (yX7_sameMember, cX7_sameMember, 7, (some .int))) (mn_node 133 (fun _ => (yX7_sameText, cX7_sameText, 4, (some .boolean))) (fun _ => (yX7_secondIndex, cX7_secondIndex, 2, (some .int)))))) (mn_node 136 (mn_node 135 (fun _ => (yX7_setNumbers, cX7_setNumbers, 4, none)) (fun _ => (yX7_setTag, cX7_setTag, 4, none))) (mn_node 137 (fun _ => (yX7_shapeOf, cX7_shapeOf, 3, (some .int))) (mn_node 138 (fun _ => (yX7_tagOf, cX7_tagOf, 2, (some .int))) (fun _ => (yX7_tagPlace, cX7_tagPlace, 2, (some .int)))))))) (mn_node 149 (mn_node 144 (mn_node 141 (mn_node 140 (fun _ => (yX7_textIs, cX7_textIs, 4, (some .boolean))) (fun _ => (yX7_textLength, cX7_textLength, 2, (some .int)))) (mn_node 142 (fun _ => (yX7_typeEnd, cX7_typeEnd, 5, (some .int))) (mn_node 143 (fun _ => (yX8_init, cX8_init, 3, none)) (fun _ => (yX8_bootstrapsHold, cX8_bootstrapsHold, 4, (some .boolean)))))) (mn_node 146 (mn_node 145 (fun _ => (yX8_brokenRule, cX8_brokenRule, 2, (some .int))) (fun _ => (yX8_entriesHold, cX8_entriesHold, 3, (some .boolean)))) (mn_node 147 (fun _ => (yX8_isHandle, cX8_isHandle, 4, (some .boolean))) (mn_node 148 (fun _ => (yX8_isMember, cX8_isMember, 3, (some .boolean))) (fun _ => (yX8_isMethodRef, cX8_isMethodRef, 3, (some .boolean))))))) (mn_node 154 (mn_node 151 (mn_node 150 (fun _ => (yX8_isNameWithType, cX8_isNameWithType, 3, (some .boolean))) (fun _ => (yX8_linksHold, cX8_linksHold, 3, (some .boolean)))) (mn_node 152 (fun _ => (yX8_memberHolds, cX8_memberHolds, 3, (some .boolean))) (mn_node 153 (fun _ => (yX8_pairHolds, cX8_pairHolds, 2, (some .boolean))) (fun _ => (yX9_init, cX9_init, 3, none))))) (mn_node 156 (mn_node 155 (fun _ => (yX9_characterOf, cX9_characterOf, 3, (some .int))) (fun _ => (yX9_characterSize, cX9_characterSize, 3, (some .int)))) (mn_node 157 (fun _ => (yX9_isTag, cX9_isTag, 2, (some .boolean))) (mn_node 158 (fun _ => (yX9_roomFor, cX9_roomFor, 2, (some .int))) (fun _ => (yX9_takes, cX9_takes, 2, (some .boolean))))))))
def mI_4 : Nat → mi_I := mn_node 179 (mn_node 169 (mn_node 164 (mn_node 161 (mn_node 160 (fun _ => (yX9_takesAttributes, cX9_takesAttributes, 3, (some .boolean))) (fun _ => (yX9_takesClass, cX9_takesClass, 3, (some .boolean)))) (mn_node 162 (fun _ => (yX9_takesEnd, cX9_takesEnd, 1, (some .boolean))) (mn_node 163 (fun _ => (yX9_takesEntry, cX9_takesEntry, 4, (some .boolean))) (fun _ => (yX9_takesFields, cX9_takesFields, 1, (some .boolean)))))) (mn_node 166 (mn_node 165 (fun _ => (yX9_takesHead, cX9_takesHead, 1, (some .boolean))) (fun _ => (yX9_takesIndexes, cX9_takesIndexes, 5, (some .boolean)))) (mn_node 167 (fun _ => (yX9_takesMembers, cX9_takesMembers, 5, (some .boolean))) (mn_node 168 (fun _ => (yX9_takesMethods, cX9_takesMethods, 1, (some .boolean))) (fun _ => (yX9_takesPool, cX9_takesPool, 4, (some .boolean))))))) (mn_node 174 (mn_node 171 (mn_node 170 (fun _ => (yX9_takesText, cX9_takesText, 5, (some .boolean))) (fun _ => (yX10_init, cX10_init, 1, none))) (mn_node 172 (fun _ => (yX10_wrong, cX10_wrong, 3, (some .boolean))) (mn_node 173 (fun _ => (yX12_init, cX12_init, 1, none)) (fun _ => (yX12_aims, cX12_aims, 4, (some .boolean)))))) (mn_node 176 (mn_node 175 (fun _ => (yX12_angles, cX12_angles, 3, (some .boolean))) (fun _ => (yX12_at, cX12_at, 3, (some .char)))) (mn_node 177 (fun _ => (yX12_attribute, cX12_attribute, 11, (some .int))) (mn_node 178 (fun _ => (yX12_attributes, cX12_attributes, 5, (some .boolean))) (fun _ => (yX12_b1, cX12_b1, 2, (some .int)))))))) (mn_node 189 (mn_node 184 (mn_node 181 (mn_node 180 (fun _ => (yX12_b2, cX12_b2, 2, (some .int))) (fun _ => (yX12_b4, cX12_b4, 2, (some .int)))) (mn_node 182 (fun _ => (yX12_bad, cX12_bad, 1, (some .int))) (mn_node 183 (fun _ => (yX12_bits, cX12_bits, 3, (some .long))) (fun _ => (yX12_bootstrap, cX12_bootstrap, 5, (some .int)))))) (mn_node 186 (mn_node 185 (fun _ => (yX12_bootstraps, cX12_bootstraps, 8, (some .int))) (fun _ => (yX12_character, cX12_character, 3, (some .int)))) (mn_node 187 (fun _ => (yX12_checkAttributes, cX12_checkAttributes, 12, (some .int))) (mn_node 188 (fun _ => (yX12_checkClass, cX12_checkClass, 8, (some .boolean))) (fun _ => (yX12_checkFields, cX12_checkFields, 8, (some .boolean))))))) (mn_node 194 (mn_node 191 (mn_node 190 (fun _ => (yX12_checkFile, cX12_checkFile, 3, (some .boolean))) (fun _ => (yX12_checkMethods, cX12_checkMethods, 14, (some .boolean)))) (mn_node 192 (fun _ => (yX12_checkPool, cX12_checkPool, 8, (some .boolean))) (mn_node 193 (fun _ => (yX12_className, cX12_className, 2, (some .int))) (fun _ => (yX12_classText, cX12_classText, 2, (some .boolean)))))) (mn_node 196 (mn_node 195 (fun _ => (yX12_clear, cX12_clear, 2, none)) (fun _ => (yX12_code, cX12_code, 15, (some .int)))) (mn_node 197 (fun _ => (yX12_components, cX12_components, 8, (some .int))) (mn_node 198 (fun _ => (yX12_count, cX12_count, 4, (some .int))) (fun _ => (yX12_cut, cX12_cut, 2, (some .int))))))))
def mI_5 : Nat → mi_I := mn_node 219 (mn_node 209 (mn_node 204 (mn_node 201 (mn_node 200 (fun _ => (yX12_cuts, cX12_cuts, 5, (some .boolean))) (fun _ => (yX12_descOf, cX12_descOf, 2, (some .int)))) (mn_node 202 (fun _ => (yX12_end, cX12_end, 3, (some .int))) (mn_node 203 (fun _ => (yX12_endsV, cX12_endsV, 2, (some .boolean))) (fun _ => (yX12_entry, cX12_entry, 4, (some .int)))))) (mn_node 206 (mn_node 205 (fun _ => (yX12_feed, cX12_feed, 6, (some .int))) (fun _ => (yX12_fieldText, cX12_fieldText, 7, (some .int)))) (mn_node 207 (fun _ => (yX12_find, cX12_find, 7, (some .int))) (mn_node 208 (fun _ => (yX12_first, cX12_first, 3, (some .int))) (fun _ => (yX12_flagsFit, cX12_flagsFit, 5, (some .boolean))))))) (mn_node 214 (mn_node 211 (mn_node 210 (fun _ => (yX12_formed, cX12_formed, 7, (some .int))) (fun _ => (yX12_four, cX12_four, 3, none))) (mn_node 212 (fun _ => (yX12_handleEntry, cX12_handleEntry, 6, (some .boolean))) (mn_node 213 (fun _ => (yX12_index, cX12_index, 3, (some .int))) (fun _ => (yX12_indexes, cX12_indexes, 5, (some .boolean)))))) (mn_node 216 (mn_node 215 (fun _ => (yX12_instruction, cX12_instruction, 6, (some .int))) (fun _ => (yX12_is, cX12_is, 4, (some .boolean)))) (mn_node 217 (fun _ => (yX12_isField, cX12_isField, 2, (some .boolean))) (mn_node 218 (fun _ => (yX12_isMethod, cX12_isMethod, 4, (some .boolean))) (fun _ => (yX12_item, cX12_item, 3, (some .boolean)))))))) (mn_node 229 (mn_node 224 (mn_node 221 (mn_node 220 (fun _ => (yX12_jump, cX12_jump, 7, (some .int))) (fun _ => (yX12_length, cX12_length, 2, (some .int)))) (mn_node 222 (fun _ => (yX12_local, cX12_local, 3, (some .boolean))) (mn_node 223 (fun _ => (yX12_member, cX12_member, 4, (some .int))) (fun _ => (yX12_members, cX12_members, 4, (some .boolean)))))) (mn_node 226 (mn_node 225 (fun _ => (yX12_nameOf, cX12_nameOf, 2, (some .int))) (fun _ => (yX12_nameText, cX12_nameText, 7, (some .boolean)))) (mn_node 227 (fun _ => (yX12_noCode, cX12_noCode, 2, (some .boolean))) (mn_node 228 (fun _ => (yX12_operands, cX12_operands, 6, (some .boolean))) (fun _ => (yX12_pad, cX12_pad, 1, (some .int))))))) (mn_node 234 (mn_node 231 (mn_node 230 (fun _ => (yX12_parse, cX12_parse, 4, (some .boolean))) (fun _ => (yX12_place, cX12_place, 1, (some .int)))) (mn_node 232 (fun _ => (yX12_places, cX12_places, 5, (some .int))) (mn_node 233 (fun _ => (yX12_places0, cX12_places0, 5, (some .int))) (fun _ => (yX12_plain, cX12_plain, 3, (some .int)))))) (mn_node 236 (mn_node 235 (fun _ => (yX12_plainClass, cX12_plainClass, 2, (some .boolean))) (fun _ => (yX12_read, cX12_read, 4, (some .int)))) (mn_node 237 (fun _ => (yX12_readFile, cX12_readFile, 3, (some .boolean))) (mn_node 238 (fun _ => (yX12_readPool, cX12_readPool, 6, (some .boolean))) (fun _ => (yX12_row, cX12_row, 4, (some .int))))))))
def mI_6 : Nat → mi_I := mn_node 248 (mn_node 243 (mn_node 241 (mn_node 240 (fun _ => (yX12_s2, cX12_s2, 2, (some .int))) (fun _ => (yX12_second, cX12_second, 3, (some .int)))) (mn_node 242 (fun _ => (yX12_several, cX12_several, 4, (some .boolean))) (fun _ => (yX12_starts, cX12_starts, 3, (some .boolean))))) (mn_node 245 (mn_node 244 (fun _ => (yX12_symOf, cX12_symOf, 2, (some .int))) (fun _ => (yX12_symbol_, cX12_symbol_, 6, (some .int)))) (mn_node 246 (fun _ => (yX12_symbol, cX12_symbol, 3, (some .int))) (mn_node 247 (fun _ => (yX12_tag, cX12_tag, 2, (some .int))) (fun _ => (yX12_u1, cX12_u1, 2, (some .int))))))) (mn_node 253 (mn_node 250 (mn_node 249 (fun _ => (yX12_u2, cX12_u2, 2, (some .int))) (fun _ => (yX12_u4, cX12_u4, 2, (some .long)))) (mn_node 251 (fun _ => (yX12_unqualified, cX12_unqualified, 6, (some .boolean))) (mn_node 252 (fun _ => (yX12_utf8, cX12_utf8, 10, (some .boolean))) (fun _ => (yX12_wayAt, cX12_wayAt, 4, (some .int)))))) (mn_node 255 (mn_node 254 (fun _ => (yX12_ways, cX12_ways, 3, (some .int))) (fun _ => (yX12_wide, cX12_wide, 3, (some .boolean)))) (mn_node 256 (fun _ => (yX12_wrong, cX12_wrong, 3, (some .boolean))) (mn_node 257 (fun _ => (yJ6_bitCount_0f7a4, cJ6_bitCount_0f7a4, 1, (some .int))) (fun _ => (yJ7_copyOf_9075b, cJ7_copyOf_9075b, 3, (some (.array .byte))))))))
def mI : Nat → mi_I := mn_node 119 (mn_node 39 (mI_0) (mn_node 79 (mI_1) (mI_2))) (mn_node 199 (mn_node 159 (mI_3) (mI_4)) (mn_node 239 (mI_5) (mI_6)))
end
