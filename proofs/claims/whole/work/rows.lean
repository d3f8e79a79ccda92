section
def lw_okq (q : MethodName × Nat) : Prop := (q.1.cls ≠ "java/lang/invoke/MethodHandle" ∧ q.1.cls ≠ "java/lang/invoke/VarHandle") ∧ Cond.instantiable q.1.cls q.2 ∈ tables_1 ∧ Cond.privateMethod q.1 ∈ tables_1 ∧ Cond.instanceMethod q.1 ∈ tables_1
theorem lw_p0 : lw_okq (⟨"EventGraphText$CharacterList", "childrenOf", "(IZ)J"⟩, 8) := ⟨⟨by decide +kernel, by decide +kernel⟩, List.mem_of_getElem? (i := 56) (by decide +kernel), List.mem_of_getElem? (i := 252) (by decide +kernel), List.mem_of_getElem? (i := 253) (by decide +kernel)⟩
theorem lw_p1 : lw_okq (⟨"EventGraphText$CharacterList", "nextBehind", "(IJ)I"⟩, 8) := ⟨⟨by decide +kernel, by decide +kernel⟩, List.mem_of_getElem? (i := 56) (by decide +kernel), List.mem_of_getElem? (i := 256) (by decide +kernel), List.mem_of_getElem? (i := 257) (by decide +kernel)⟩
theorem lw_p2 : lw_okq (⟨"EventGraphText$CharacterList", "rightPosition", "(LEventGraphText$History;II)I"⟩, 8) := ⟨⟨by decide +kernel, by decide +kernel⟩, List.mem_of_getElem? (i := 56) (by decide +kernel), List.mem_of_getElem? (i := 260) (by decide +kernel), List.mem_of_getElem? (i := 261) (by decide +kernel)⟩
theorem lw_p3 : lw_okq (⟨"EventGraphText$CharacterList", "nearerSiblings", "(LEventGraphText$History;IIZ)J"⟩, 8) := ⟨⟨by decide +kernel, by decide +kernel⟩, List.mem_of_getElem? (i := 56) (by decide +kernel), List.mem_of_getElem? (i := 264) (by decide +kernel), List.mem_of_getElem? (i := 265) (by decide +kernel)⟩
theorem lw_p4 : lw_okq (⟨"EventGraphText$CharacterList", "leftPosition", "(LEventGraphText$History;II)I"⟩, 8) := ⟨⟨by decide +kernel, by decide +kernel⟩, List.mem_of_getElem? (i := 56) (by decide +kernel), List.mem_of_getElem? (i := 272) (by decide +kernel), List.mem_of_getElem? (i := 273) (by decide +kernel)⟩
theorem lw_p5 : lw_okq (⟨"EventGraphText", "freeNumber", "()I"⟩, 5) := ⟨⟨by decide +kernel, by decide +kernel⟩, List.mem_of_getElem? (i := 12) (by decide +kernel), List.mem_of_getElem? (i := 308) (by decide +kernel), List.mem_of_getElem? (i := 309) (by decide +kernel)⟩
theorem lw_p6 : lw_okq (⟨"EventGraphText$OctetRow", "add", "(I)V"⟩, 2) := ⟨⟨by decide +kernel, by decide +kernel⟩, List.mem_of_getElem? (i := 151) (by decide +kernel), List.mem_of_getElem? (i := 348) (by decide +kernel), List.mem_of_getElem? (i := 349) (by decide +kernel)⟩
theorem lw_p7 : lw_okq (⟨"EventGraphText$Message", "writeSites", "(LEventGraphText$History;LEventGraphText$Line;)V"⟩, 5) := ⟨⟨by decide +kernel, by decide +kernel⟩, List.mem_of_getElem? (i := 145) (by decide +kernel), List.mem_of_getElem? (i := 352) (by decide +kernel), List.mem_of_getElem? (i := 353) (by decide +kernel)⟩
theorem lw_p8 : lw_okq (⟨"EventGraphText$Message", "writeKinds", "(LEventGraphText$History;LEventGraphText$Line;)V"⟩, 5) := ⟨⟨by decide +kernel, by decide +kernel⟩, List.mem_of_getElem? (i := 145) (by decide +kernel), List.mem_of_getElem? (i := 365) (by decide +kernel), List.mem_of_getElem? (i := 366) (by decide +kernel)⟩
theorem lw_p9 : lw_okq (⟨"EventGraphText$Message", "writeIndices", "(LEventGraphText$History;LEventGraphText$Line;)V"⟩, 5) := ⟨⟨by decide +kernel, by decide +kernel⟩, List.mem_of_getElem? (i := 145) (by decide +kernel), List.mem_of_getElem? (i := 373) (by decide +kernel), List.mem_of_getElem? (i := 374) (by decide +kernel)⟩
theorem lw_p10 : lw_okq (⟨"EventGraphText$Message", "writeCharacters", "(LEventGraphText$History;LEventGraphText$Line;)V"⟩, 5) := ⟨⟨by decide +kernel, by decide +kernel⟩, List.mem_of_getElem? (i := 145) (by decide +kernel), List.mem_of_getElem? (i := 386) (by decide +kernel), List.mem_of_getElem? (i := 387) (by decide +kernel)⟩
theorem lw_p11 : lw_okq (⟨"EventGraphText$Message", "writeParents", "(LEventGraphText$History;LEventGraphText$Line;)V"⟩, 5) := ⟨⟨by decide +kernel, by decide +kernel⟩, List.mem_of_getElem? (i := 145) (by decide +kernel), List.mem_of_getElem? (i := 391) (by decide +kernel), List.mem_of_getElem? (i := 392) (by decide +kernel)⟩
theorem lw_p12 : lw_okq (⟨"EventGraphText$Message", "writeParentList", "(LEventGraphText$History;J)V"⟩, 5) := ⟨⟨by decide +kernel, by decide +kernel⟩, List.mem_of_getElem? (i := 145) (by decide +kernel), List.mem_of_getElem? (i := 400) (by decide +kernel), List.mem_of_getElem? (i := 401) (by decide +kernel)⟩
theorem lw_p13 : lw_okq (⟨"EventGraphText", "isUnderWay", "(I)Z"⟩, 5) := ⟨⟨by decide +kernel, by decide +kernel⟩, List.mem_of_getElem? (i := 12) (by decide +kernel), List.mem_of_getElem? (i := 415) (by decide +kernel), List.mem_of_getElem? (i := 416) (by decide +kernel)⟩
theorem lw_p14 : lw_okq (⟨"EventGraphText$Merge", "passThrough", "(LEventGraphText$History;LEventGraphText$Line;J)J"⟩, 4) := ⟨⟨by decide +kernel, by decide +kernel⟩, List.mem_of_getElem? (i := 108) (by decide +kernel), List.mem_of_getElem? (i := 448) (by decide +kernel), List.mem_of_getElem? (i := 449) (by decide +kernel)⟩
theorem lw_p15 : lw_okq (⟨"EventGraphText$Merge", "applyAll", "(LEventGraphText$History;LEventGraphText$CharacterList;LEventGraphText$Line;J)V"⟩, 4) := ⟨⟨by decide +kernel, by decide +kernel⟩, List.mem_of_getElem? (i := 108) (by decide +kernel), List.mem_of_getElem? (i := 458) (by decide +kernel), List.mem_of_getElem? (i := 459) (by decide +kernel)⟩
def lw_privs_1 : List (MethodName × Nat) := [(⟨"EventGraphText$CharacterList", "childrenOf", "(IZ)J"⟩, 8), (⟨"EventGraphText$CharacterList", "nextBehind", "(IJ)I"⟩, 8), (⟨"EventGraphText$CharacterList", "rightPosition", "(LEventGraphText$History;II)I"⟩, 8), (⟨"EventGraphText$CharacterList", "nearerSiblings", "(LEventGraphText$History;IIZ)J"⟩, 8), (⟨"EventGraphText$CharacterList", "leftPosition", "(LEventGraphText$History;II)I"⟩, 8), (⟨"EventGraphText", "freeNumber", "()I"⟩, 5), (⟨"EventGraphText$OctetRow", "add", "(I)V"⟩, 2), (⟨"EventGraphText$Message", "writeSites", "(LEventGraphText$History;LEventGraphText$Line;)V"⟩, 5), (⟨"EventGraphText$Message", "writeKinds", "(LEventGraphText$History;LEventGraphText$Line;)V"⟩, 5), (⟨"EventGraphText$Message", "writeIndices", "(LEventGraphText$History;LEventGraphText$Line;)V"⟩, 5), (⟨"EventGraphText$Message", "writeCharacters", "(LEventGraphText$History;LEventGraphText$Line;)V"⟩, 5), (⟨"EventGraphText$Message", "writeParents", "(LEventGraphText$History;LEventGraphText$Line;)V"⟩, 5), (⟨"EventGraphText$Message", "writeParentList", "(LEventGraphText$History;J)V"⟩, 5), (⟨"EventGraphText", "isUnderWay", "(I)Z"⟩, 5), (⟨"EventGraphText$Merge", "passThrough", "(LEventGraphText$History;LEventGraphText$Line;J)J"⟩, 4), (⟨"EventGraphText$Merge", "applyAll", "(LEventGraphText$History;LEventGraphText$CharacterList;LEventGraphText$Line;J)V"⟩, 4)]
theorem lw_r1 : ∀ q ∈ lw_privs_1, lw_okq q := List.forall_mem_cons.mpr ⟨lw_p0, List.forall_mem_cons.mpr ⟨lw_p1, List.forall_mem_cons.mpr ⟨lw_p2, List.forall_mem_cons.mpr ⟨lw_p3, List.forall_mem_cons.mpr ⟨lw_p4, List.forall_mem_cons.mpr ⟨lw_p5, List.forall_mem_cons.mpr ⟨lw_p6, List.forall_mem_cons.mpr ⟨lw_p7, List.forall_mem_cons.mpr ⟨lw_p8, List.forall_mem_cons.mpr ⟨lw_p9, List.forall_mem_cons.mpr ⟨lw_p10, List.forall_mem_cons.mpr ⟨lw_p11, List.forall_mem_cons.mpr ⟨lw_p12, List.forall_mem_cons.mpr ⟨lw_p13, List.forall_mem_cons.mpr ⟨lw_p14, List.forall_mem_cons.mpr ⟨lw_p15, fun _ h => absurd h List.not_mem_nil⟩⟩⟩⟩⟩⟩⟩⟩⟩⟩⟩⟩⟩⟩⟩⟩
theorem lw_p16 : lw_okq (⟨"EventGraphTextModel", "shownBefore", "(JI)I"⟩, 26) := ⟨⟨by decide +kernel, by decide +kernel⟩, List.mem_of_getElem? (i := 553) (by decide +kernel), List.mem_of_getElem? (i := 649) (by decide +kernel), List.mem_of_getElem? (i := 650) (by decide +kernel)⟩
theorem lw_p17 : lw_okq (⟨"EventGraphTextModel", "hidden", "(J)J"⟩, 26) := ⟨⟨by decide +kernel, by decide +kernel⟩, List.mem_of_getElem? (i := 553) (by decide +kernel), List.mem_of_getElem? (i := 653) (by decide +kernel), List.mem_of_getElem? (i := 654) (by decide +kernel)⟩
theorem lw_p18 : lw_okq (⟨"EventGraphTextModel", "shownAt", "(JI)I"⟩, 26) := ⟨⟨by decide +kernel, by decide +kernel⟩, List.mem_of_getElem? (i := 553) (by decide +kernel), List.mem_of_getElem? (i := 663) (by decide +kernel), List.mem_of_getElem? (i := 664) (by decide +kernel)⟩
theorem lw_p19 : lw_okq (⟨"EventGraphTextModel", "behind", "(JI)I"⟩, 26) := ⟨⟨by decide +kernel, by decide +kernel⟩, List.mem_of_getElem? (i := 553) (by decide +kernel), List.mem_of_getElem? (i := 667) (by decide +kernel), List.mem_of_getElem? (i := 668) (by decide +kernel)⟩
theorem lw_p20 : lw_okq (⟨"EventGraphTextModel", "event", "(IZI)I"⟩, 26) := ⟨⟨by decide +kernel, by decide +kernel⟩, List.mem_of_getElem? (i := 553) (by decide +kernel), List.mem_of_getElem? (i := 671) (by decide +kernel), List.mem_of_getElem? (i := 672) (by decide +kernel)⟩
theorem lw_p21 : lw_okq (⟨"EventGraphTextModel", "tips", "(J)J"⟩, 26) := ⟨⟨by decide +kernel, by decide +kernel⟩, List.mem_of_getElem? (i := 553) (by decide +kernel), List.mem_of_getElem? (i := 675) (by decide +kernel), List.mem_of_getElem? (i := 676) (by decide +kernel)⟩
theorem lw_p22 : lw_okq (⟨"EventGraphTextModel", "intoRow", "(I)V"⟩, 26) := ⟨⟨by decide +kernel, by decide +kernel⟩, List.mem_of_getElem? (i := 553) (by decide +kernel), List.mem_of_getElem? (i := 680) (by decide +kernel), List.mem_of_getElem? (i := 681) (by decide +kernel)⟩
theorem lw_p23 : lw_okq (⟨"EventGraphTextModel", "stands", "(II)Z"⟩, 26) := ⟨⟨by decide +kernel, by decide +kernel⟩, List.mem_of_getElem? (i := 553) (by decide +kernel), List.mem_of_getElem? (i := 684) (by decide +kernel), List.mem_of_getElem? (i := 685) (by decide +kernel)⟩
theorem lw_p24 : lw_okq (⟨"EventGraphTextModel", "lower", "(II)Z"⟩, 26) := ⟨⟨by decide +kernel, by decide +kernel⟩, List.mem_of_getElem? (i := 553) (by decide +kernel), List.mem_of_getElem? (i := 688) (by decide +kernel), List.mem_of_getElem? (i := 689) (by decide +kernel)⟩
theorem lw_p25 : lw_okq (⟨"EventGraphTextModel", "none", "(I)Z"⟩, 26) := ⟨⟨by decide +kernel, by decide +kernel⟩, List.mem_of_getElem? (i := 553) (by decide +kernel), List.mem_of_getElem? (i := 712) (by decide +kernel), List.mem_of_getElem? (i := 713) (by decide +kernel)⟩
theorem lw_p26 : lw_okq (⟨"EventGraphTextModel", "whole", "(J)J"⟩, 26) := ⟨⟨by decide +kernel, by decide +kernel⟩, List.mem_of_getElem? (i := 553) (by decide +kernel), List.mem_of_getElem? (i := 720) (by decide +kernel), List.mem_of_getElem? (i := 721) (by decide +kernel)⟩
theorem lw_p27 : lw_okq (⟨"EventGraphTextModel", "merge", "(IJ)V"⟩, 26) := ⟨⟨by decide +kernel, by decide +kernel⟩, List.mem_of_getElem? (i := 553) (by decide +kernel), List.mem_of_getElem? (i := 736) (by decide +kernel), List.mem_of_getElem? (i := 737) (by decide +kernel)⟩
theorem lw_p28 : lw_okq (⟨"EventGraphTextModel", "top", "(JJ)I"⟩, 26) := ⟨⟨by decide +kernel, by decide +kernel⟩, List.mem_of_getElem? (i := 553) (by decide +kernel), List.mem_of_getElem? (i := 740) (by decide +kernel), List.mem_of_getElem? (i := 741) (by decide +kernel)⟩
theorem lw_p29 : lw_okq (⟨"EventGraphTextModel", "isCritical", "(JI)Z"⟩, 26) := ⟨⟨by decide +kernel, by decide +kernel⟩, List.mem_of_getElem? (i := 553) (by decide +kernel), List.mem_of_getElem? (i := 744) (by decide +kernel), List.mem_of_getElem? (i := 745) (by decide +kernel)⟩
theorem lw_p30 : lw_okq (⟨"EventGraphTextModel", "order", "(J)V"⟩, 26) := ⟨⟨by decide +kernel, by decide +kernel⟩, List.mem_of_getElem? (i := 553) (by decide +kernel), List.mem_of_getElem? (i := 748) (by decide +kernel), List.mem_of_getElem? (i := 749) (by decide +kernel)⟩
theorem lw_p31 : lw_okq (⟨"EventGraphTextModel", "nextOf", "(JJI)I"⟩, 26) := ⟨⟨by decide +kernel, by decide +kernel⟩, List.mem_of_getElem? (i := 553) (by decide +kernel), List.mem_of_getElem? (i := 752) (by decide +kernel), List.mem_of_getElem? (i := 753) (by decide +kernel)⟩
def lw_privs_2 : List (MethodName × Nat) := [(⟨"EventGraphTextModel", "shownBefore", "(JI)I"⟩, 26), (⟨"EventGraphTextModel", "hidden", "(J)J"⟩, 26), (⟨"EventGraphTextModel", "shownAt", "(JI)I"⟩, 26), (⟨"EventGraphTextModel", "behind", "(JI)I"⟩, 26), (⟨"EventGraphTextModel", "event", "(IZI)I"⟩, 26), (⟨"EventGraphTextModel", "tips", "(J)J"⟩, 26), (⟨"EventGraphTextModel", "intoRow", "(I)V"⟩, 26), (⟨"EventGraphTextModel", "stands", "(II)Z"⟩, 26), (⟨"EventGraphTextModel", "lower", "(II)Z"⟩, 26), (⟨"EventGraphTextModel", "none", "(I)Z"⟩, 26), (⟨"EventGraphTextModel", "whole", "(J)J"⟩, 26), (⟨"EventGraphTextModel", "merge", "(IJ)V"⟩, 26), (⟨"EventGraphTextModel", "top", "(JJ)I"⟩, 26), (⟨"EventGraphTextModel", "isCritical", "(JI)Z"⟩, 26), (⟨"EventGraphTextModel", "order", "(J)V"⟩, 26), (⟨"EventGraphTextModel", "nextOf", "(JJI)I"⟩, 26)]
theorem lw_r2 : ∀ q ∈ lw_privs_2, lw_okq q := List.forall_mem_cons.mpr ⟨lw_p16, List.forall_mem_cons.mpr ⟨lw_p17, List.forall_mem_cons.mpr ⟨lw_p18, List.forall_mem_cons.mpr ⟨lw_p19, List.forall_mem_cons.mpr ⟨lw_p20, List.forall_mem_cons.mpr ⟨lw_p21, List.forall_mem_cons.mpr ⟨lw_p22, List.forall_mem_cons.mpr ⟨lw_p23, List.forall_mem_cons.mpr ⟨lw_p24, List.forall_mem_cons.mpr ⟨lw_p25, List.forall_mem_cons.mpr ⟨lw_p26, List.forall_mem_cons.mpr ⟨lw_p27, List.forall_mem_cons.mpr ⟨lw_p28, List.forall_mem_cons.mpr ⟨lw_p29, List.forall_mem_cons.mpr ⟨lw_p30, List.forall_mem_cons.mpr ⟨lw_p31, fun _ h => absurd h List.not_mem_nil⟩⟩⟩⟩⟩⟩⟩⟩⟩⟩⟩⟩⟩⟩⟩⟩
theorem lw_p32 : lw_okq (⟨"EventGraphTextModel", "can", "(JJI)Z"⟩, 26) := ⟨⟨by decide +kernel, by decide +kernel⟩, List.mem_of_getElem? (i := 553) (by decide +kernel), List.mem_of_getElem? (i := 756) (by decide +kernel), List.mem_of_getElem? (i := 757) (by decide +kernel)⟩
theorem lw_p33 : lw_okq (⟨"EventGraphTextModel", "effect", "(JI)I"⟩, 26) := ⟨⟨by decide +kernel, by decide +kernel⟩, List.mem_of_getElem? (i := 553) (by decide +kernel), List.mem_of_getElem? (i := 760) (by decide +kernel), List.mem_of_getElem? (i := 761) (by decide +kernel)⟩
theorem lw_p34 : lw_okq (⟨"EventGraphTextModel", "write", "(I)V"⟩, 26) := ⟨⟨by decide +kernel, by decide +kernel⟩, List.mem_of_getElem? (i := 553) (by decide +kernel), List.mem_of_getElem? (i := 768) (by decide +kernel), List.mem_of_getElem? (i := 769) (by decide +kernel)⟩
theorem lw_p35 : lw_okq (⟨"EventGraphTextModel", "put", "(I)V"⟩, 26) := ⟨⟨by decide +kernel, by decide +kernel⟩, List.mem_of_getElem? (i := 553) (by decide +kernel), List.mem_of_getElem? (i := 772) (by decide +kernel), List.mem_of_getElem? (i := 773) (by decide +kernel)⟩
theorem lw_p36 : lw_okq (⟨"EventGraphTextModel", "putRuns", "()V"⟩, 26) := ⟨⟨by decide +kernel, by decide +kernel⟩, List.mem_of_getElem? (i := 553) (by decide +kernel), List.mem_of_getElem? (i := 776) (by decide +kernel), List.mem_of_getElem? (i := 777) (by decide +kernel)⟩
theorem lw_p37 : lw_okq (⟨"EventGraphTextModel", "putSigned", "(I)V"⟩, 26) := ⟨⟨by decide +kernel, by decide +kernel⟩, List.mem_of_getElem? (i := 553) (by decide +kernel), List.mem_of_getElem? (i := 780) (by decide +kernel), List.mem_of_getElem? (i := 781) (by decide +kernel)⟩
theorem lw_p38 : lw_okq (⟨"EventGraphTextModel", "putParents", "(I)V"⟩, 26) := ⟨⟨by decide +kernel, by decide +kernel⟩, List.mem_of_getElem? (i := 553) (by decide +kernel), List.mem_of_getElem? (i := 784) (by decide +kernel), List.mem_of_getElem? (i := 785) (by decide +kernel)⟩
theorem lw_p39 : lw_okq (⟨"EventGraphTextModel", "find", "(II)I"⟩, 26) := ⟨⟨by decide +kernel, by decide +kernel⟩, List.mem_of_getElem? (i := 553) (by decide +kernel), List.mem_of_getElem? (i := 808) (by decide +kernel), List.mem_of_getElem? (i := 809) (by decide +kernel)⟩
def lw_privs_3 : List (MethodName × Nat) := [(⟨"EventGraphTextModel", "can", "(JJI)Z"⟩, 26), (⟨"EventGraphTextModel", "effect", "(JI)I"⟩, 26), (⟨"EventGraphTextModel", "write", "(I)V"⟩, 26), (⟨"EventGraphTextModel", "put", "(I)V"⟩, 26), (⟨"EventGraphTextModel", "putRuns", "()V"⟩, 26), (⟨"EventGraphTextModel", "putSigned", "(I)V"⟩, 26), (⟨"EventGraphTextModel", "putParents", "(I)V"⟩, 26), (⟨"EventGraphTextModel", "find", "(II)I"⟩, 26)]
theorem lw_r3 : ∀ q ∈ lw_privs_3, lw_okq q := List.forall_mem_cons.mpr ⟨lw_p32, List.forall_mem_cons.mpr ⟨lw_p33, List.forall_mem_cons.mpr ⟨lw_p34, List.forall_mem_cons.mpr ⟨lw_p35, List.forall_mem_cons.mpr ⟨lw_p36, List.forall_mem_cons.mpr ⟨lw_p37, List.forall_mem_cons.mpr ⟨lw_p38, List.forall_mem_cons.mpr ⟨lw_p39, fun _ h => absurd h List.not_mem_nil⟩⟩⟩⟩⟩⟩⟩⟩
def lw_privs : List (MethodName × Nat) := lw_privs_1 ++ (lw_privs_2 ++ (lw_privs_3))
def lw_tbl : List Cond := k2_sels lw_privs ++ tables_1
theorem lw_privs_ok : ∀ q ∈ lw_privs, lw_okq q := by
  show ∀ q ∈ lw_privs_1 ++ (lw_privs_2 ++ (lw_privs_3)), lw_okq q
  exact List.forall_mem_append.mpr ⟨lw_r1, List.forall_mem_append.mpr ⟨lw_r2, lw_r3⟩⟩
end
section
def xG : List Cond := lw_tbl.filter goodWord
theorem xG_good : ∀ w ∈ xG, (w.onTables && w.keeps) = true ∨ ∃ ty, w = .arrayClass ty := fun _ h => good_of_word (List.mem_filter.mp h).2
theorem xG_of {w : Cond} (h : w ∈ lw_tbl) (hg : goodWord w = true) : w ∈ xG := List.mem_filter.mpr ⟨h, hg⟩
theorem xG_1 {w : Cond} (i : Nat) (h : tables_1_1[i]? = some w) (hg : goodWord w = true) : w ∈ xG := xG_of (List.mem_append_right _ (List.mem_append_left _ (List.mem_of_getElem? (i := i) h))) hg
theorem xG_2 {w : Cond} (i : Nat) (h : tables_1_2[i]? = some w) (hg : goodWord w = true) : w ∈ xG := xG_of (List.mem_append_right _ (List.mem_append_right _ (List.mem_append_left _ (List.mem_of_getElem? (i := i) h)))) hg
theorem xG_3 {w : Cond} (i : Nat) (h : tables_1_3[i]? = some w) (hg : goodWord w = true) : w ∈ xG := xG_of (List.mem_append_right _ (List.mem_append_right _ (List.mem_append_right _ (List.mem_append_left _ (List.mem_of_getElem? (i := i) h))))) hg
theorem xG_4 {w : Cond} (i : Nat) (h : tables_1_4[i]? = some w) (hg : goodWord w = true) : w ∈ xG := xG_of (List.mem_append_right _ (List.mem_append_right _ (List.mem_append_right _ (List.mem_append_right _ (List.mem_of_getElem? (i := i) h))))) hg
theorem xg0 {f g : Cond} (h : g ∈ xG) : GoodIn (f :: xG) (g :: xG) := fun w hw => by
  rcases List.mem_cons.mp hw with rfl | hw
  · exact ⟨List.mem_cons_of_mem _ h, xG_good _ h⟩
  · exact ⟨List.mem_cons_of_mem _ hw, xG_good _ hw⟩
theorem xg1 {f g : Cond} {ws : List Cond} (h : ∀ w ∈ ws, w ∈ xG) (hg : g ∈ xG) : GoodIn (f :: xG) (ws ++ (g :: xG)) := fun w hw => by
  rcases List.mem_append.mp hw with hw | hw
  · exact ⟨List.mem_cons_of_mem _ (h w hw), xG_good _ (h w hw)⟩
  · exact xg0 hg w hw
theorem xgV {f g : Cond} {own C : String} {idx : Nat} {y : MethodName} (h1 : Cond.methodLink own idx y ∈ xG) (h2 : Cond.instanceMethod y ∈ xG) (h3 : Cond.selects C y y ∈ xG) (h4 : Cond.initialized C ∈ xG) (h5 : g ∈ xG) : GoodIn (f :: xG) (wsV own idx C y (g :: xG)) :=
  xg1 (ws := [.methodLink own idx y, .instanceMethod y, .selects C y y, .initialized C]) (List.forall_mem_cons.mpr ⟨h1, List.forall_mem_cons.mpr ⟨h2, List.forall_mem_cons.mpr ⟨h3, List.forall_mem_cons.mpr ⟨h4, fun _ h => absurd h List.not_mem_nil⟩⟩⟩⟩) h5
theorem xgS {f g : Cond} {own : String} {idx : Nat} {y : MethodName} (h1 : Cond.methodLink own idx y ∈ xG) (h2 : Cond.static y ∈ xG) (h3 : Cond.initialized y.cls ∈ xG) (h5 : g ∈ xG) : GoodIn (f :: xG) (va_wsS own idx y (g :: xG)) :=
  xg1 (ws := [.methodLink own idx y, .static y, .initialized y.cls]) (List.forall_mem_cons.mpr ⟨h1, List.forall_mem_cons.mpr ⟨h2, List.forall_mem_cons.mpr ⟨h3, fun _ h => absurd h List.not_mem_nil⟩⟩⟩) h5
theorem wd_33 : (Cond.fieldLink "EventGraphText$History" 37 "EventGraphText$History" "count" "I") ∈ xG := xG_1 33 rfl rfl
theorem wd_220 : (Cond.code ⟨"EventGraphText", "bit", "(I)J"⟩ prog_1_method_25_code 1 (some .long)) ∈ xG := xG_1 220 rfl rfl
theorem wd_218 : (Cond.methodLink "EventGraphText" 78 ⟨"EventGraphText", "bit", "(I)J"⟩) ∈ xG := xG_1 218 rfl rfl
theorem wd_219 : (Cond.static ⟨"EventGraphText", "bit", "(I)J"⟩) ∈ xG := xG_1 219 rfl rfl
theorem wd_1 : (Cond.initialized "EventGraphText") ∈ xG := xG_1 1 rfl rfl
theorem wd_67 : (Cond.fieldLink "EventGraphText$CharacterList" 33 "EventGraphText$CharacterList" "inserts" "J") ∈ xG := xG_1 67 rfl rfl
theorem wd_222 : (Cond.constantLong "EventGraphText$CharacterList" 48 (-1)) ∈ xG := xG_1 222 rfl rfl
theorem wd_66 : (Cond.fieldLink "EventGraphText$CharacterList" 29 "EventGraphText$CharacterList" "deletes" "J") ∈ xG := xG_1 66 rfl rfl
theorem wd_217 : (Cond.code ⟨"EventGraphText", "has", "(JI)Z"⟩ prog_1_method_26_code 3 (some .boolean)) ∈ xG := xG_1 217 rfl rfl
theorem wd_216 : (Cond.static ⟨"EventGraphText", "has", "(JI)Z"⟩) ∈ xG := xG_1 216 rfl rfl
theorem wd_65 : (Cond.fieldLink "EventGraphText$CharacterList" 26 "EventGraphText$CharacterList" "taken" "[I") ∈ xG := xG_1 65 rfl rfl
theorem wd_226 : (Cond.constantLong "java/lang/Long" 314 6148914691236517205) ∈ xG := xG_1 226 rfl rfl
theorem wd_227 : (Cond.constantLong "java/lang/Long" 316 3689348814741910323) ∈ xG := xG_1 227 rfl rfl
theorem wd_228 : (Cond.constantLong "java/lang/Long" 318 1085102592571150095) ∈ xG := xG_1 228 rfl rfl
theorem wd_68 : (Cond.fieldLink "EventGraphText$CharacterList" 36 "EventGraphText$CharacterList" "count" "I") ∈ xG := xG_1 68 rfl rfl
theorem wd_61 : (Cond.fieldLink "EventGraphText$CharacterList" 9 "EventGraphText$CharacterList" "order" "[I") ∈ xG := xG_1 61 rfl rfl
theorem wd_29 : (Cond.fieldLink "EventGraphText$History" 24 "EventGraphText$History" "parents" "[J") ∈ xG := xG_1 29 rfl rfl
theorem wd_244 : (Cond.code ⟨"EventGraphText$History", "parentsOfAll", "(J)J"⟩ prog_3_method_18_code 6 (some .long)) ∈ xG := xG_2 4 rfl rfl
theorem wd_241 : (Cond.methodLink "EventGraphText$History" 61 ⟨"EventGraphText$History", "parentsOfAll", "(J)J"⟩) ∈ xG := xG_2 1 rfl rfl
theorem wd_242 : (Cond.instanceMethod ⟨"EventGraphText$History", "parentsOfAll", "(J)J"⟩) ∈ xG := xG_2 2 rfl rfl
theorem wd_243 : (Cond.selects "EventGraphText$History" ⟨"EventGraphText$History", "parentsOfAll", "(J)J"⟩ ⟨"EventGraphText$History", "parentsOfAll", "(J)J"⟩) ∈ xG := xG_2 3 rfl rfl
theorem wd_2 : (Cond.initialized "EventGraphText$History") ∈ xG := xG_1 2 rfl rfl
theorem wd_246 : (Cond.constantLong "EventGraphText$History" 64 (-1)) ∈ xG := xG_2 6 rfl rfl
theorem wd_25 : (Cond.fieldLink "EventGraphText$History" 9 "EventGraphText$History" "sites" "[I") ∈ xG := xG_1 25 rfl rfl
theorem wd_26 : (Cond.fieldLink "EventGraphText$History" 15 "EventGraphText$History" "numbers" "[I") ∈ xG := xG_1 26 rfl rfl
theorem wd_32 : (Cond.fieldLink "EventGraphText$History" 34 "EventGraphText$History" "made" "[I") ∈ xG := xG_1 32 rfl rfl
theorem wd_27 : (Cond.fieldLink "EventGraphText$History" 18 "EventGraphText$History" "indices" "[I") ∈ xG := xG_1 27 rfl rfl
theorem wd_28 : (Cond.fieldLink "EventGraphText$History" 21 "EventGraphText$History" "characters" "[I") ∈ xG := xG_1 28 rfl rfl
theorem wd_240 : (Cond.code ⟨"EventGraphText$History", "headsOf", "(J)J"⟩ prog_3_method_19_code 3 (some .long)) ∈ xG := xG_2 0 rfl rfl
theorem wd_237 : (Cond.methodLink "EventGraphText$History" 41 ⟨"EventGraphText$History", "headsOf", "(J)J"⟩) ∈ xG := xG_1 237 rfl rfl
theorem wd_238 : (Cond.instanceMethod ⟨"EventGraphText$History", "headsOf", "(J)J"⟩) ∈ xG := xG_1 238 rfl rfl
theorem wd_239 : (Cond.selects "EventGraphText$History" ⟨"EventGraphText$History", "headsOf", "(J)J"⟩ ⟨"EventGraphText$History", "headsOf", "(J)J"⟩) ∈ xG := xG_1 239 rfl rfl
theorem wd_30 : (Cond.fieldLink "EventGraphText$History" 28 "EventGraphText$History" "ancestors" "[J") ∈ xG := xG_1 30 rfl rfl
theorem wd_31 : (Cond.fieldLink "EventGraphText$History" 31 "EventGraphText$History" "slots" "[I") ∈ xG := xG_1 31 rfl rfl
theorem wd_62 : (Cond.fieldLink "EventGraphText$CharacterList" 15 "EventGraphText$CharacterList" "holders" "[I") ∈ xG := xG_1 62 rfl rfl
theorem wd_63 : (Cond.fieldLink "EventGraphText$CharacterList" 18 "EventGraphText$CharacterList" "onTheRight" "[Z") ∈ xG := xG_1 63 rfl rfl
theorem wd_254 : (Cond.code ⟨"EventGraphText$CharacterList", "childrenOf", "(IZ)J"⟩ prog_2_method_8_code 7 (some .long)) ∈ xG := xG_2 14 rfl rfl
theorem wd_251 : (Cond.methodLink "EventGraphText$CharacterList" 50 ⟨"EventGraphText$CharacterList", "childrenOf", "(IZ)J"⟩) ∈ xG := xG_2 11 rfl rfl
theorem wd_253 : (Cond.instanceMethod ⟨"EventGraphText$CharacterList", "childrenOf", "(IZ)J"⟩) ∈ xG := xG_2 13 rfl rfl
theorem wds_0 : (Cond.selects "EventGraphText$CharacterList" ⟨"EventGraphText$CharacterList", "childrenOf", "(IZ)J"⟩ ⟨"EventGraphText$CharacterList", "childrenOf", "(IZ)J"⟩) ∈ xG := xG_of (List.mem_append_left _ (by decide +kernel)) rfl
theorem wd_3 : (Cond.initialized "EventGraphText$CharacterList") ∈ xG := xG_1 3 rfl rfl
theorem wd_270 : (Cond.code ⟨"EventGraphText$History", "comesBefore", "(II)Z"⟩ prog_3_method_15_code 3 (some .boolean)) ∈ xG := xG_2 30 rfl rfl
theorem wd_267 : (Cond.methodLink "EventGraphText$CharacterList" 69 ⟨"EventGraphText$History", "comesBefore", "(II)Z"⟩) ∈ xG := xG_2 27 rfl rfl
theorem wd_268 : (Cond.instanceMethod ⟨"EventGraphText$History", "comesBefore", "(II)Z"⟩) ∈ xG := xG_2 28 rfl rfl
theorem wd_269 : (Cond.selects "EventGraphText$History" ⟨"EventGraphText$History", "comesBefore", "(II)Z"⟩ ⟨"EventGraphText$History", "comesBefore", "(II)Z"⟩) ∈ xG := xG_2 29 rfl rfl
theorem wd_266 : (Cond.code ⟨"EventGraphText$CharacterList", "nearerSiblings", "(LEventGraphText$History;IIZ)J"⟩ prog_2_method_12_code 11 (some .long)) ∈ xG := xG_2 26 rfl rfl
theorem wd_263 : (Cond.methodLink "EventGraphText$CharacterList" 65 ⟨"EventGraphText$CharacterList", "nearerSiblings", "(LEventGraphText$History;IIZ)J"⟩) ∈ xG := xG_2 23 rfl rfl
theorem wd_265 : (Cond.instanceMethod ⟨"EventGraphText$CharacterList", "nearerSiblings", "(LEventGraphText$History;IIZ)J"⟩) ∈ xG := xG_2 25 rfl rfl
theorem wds_1 : (Cond.selects "EventGraphText$CharacterList" ⟨"EventGraphText$CharacterList", "nearerSiblings", "(LEventGraphText$History;IIZ)J"⟩ ⟨"EventGraphText$CharacterList", "nearerSiblings", "(LEventGraphText$History;IIZ)J"⟩) ∈ xG := xG_of (List.mem_append_left _ (by decide +kernel)) rfl
theorem wd_64 : (Cond.fieldLink "EventGraphText$CharacterList" 22 "EventGraphText$CharacterList" "chains" "[J") ∈ xG := xG_1 64 rfl rfl
theorem wd_258 : (Cond.code ⟨"EventGraphText$CharacterList", "nextBehind", "(IJ)I"⟩ prog_2_method_9_code 6 (some .int)) ∈ xG := xG_2 18 rfl rfl
theorem wd_255 : (Cond.methodLink "EventGraphText$CharacterList" 54 ⟨"EventGraphText$CharacterList", "nextBehind", "(IJ)I"⟩) ∈ xG := xG_2 15 rfl rfl
theorem wd_257 : (Cond.instanceMethod ⟨"EventGraphText$CharacterList", "nextBehind", "(IJ)I"⟩) ∈ xG := xG_2 17 rfl rfl
theorem wds_2 : (Cond.selects "EventGraphText$CharacterList" ⟨"EventGraphText$CharacterList", "nextBehind", "(IJ)I"⟩ ⟨"EventGraphText$CharacterList", "nextBehind", "(IJ)I"⟩) ∈ xG := xG_of (List.mem_append_left _ (by decide +kernel)) rfl
theorem wd_274 : (Cond.code ⟨"EventGraphText$CharacterList", "leftPosition", "(LEventGraphText$History;II)I"⟩ prog_2_method_10_code 7 (some .int)) ∈ xG := xG_2 34 rfl rfl
theorem wd_271 : (Cond.methodLink "EventGraphText$CharacterList" 62 ⟨"EventGraphText$CharacterList", "leftPosition", "(LEventGraphText$History;II)I"⟩) ∈ xG := xG_2 31 rfl rfl
theorem wd_273 : (Cond.instanceMethod ⟨"EventGraphText$CharacterList", "leftPosition", "(LEventGraphText$History;II)I"⟩) ∈ xG := xG_2 33 rfl rfl
theorem wds_3 : (Cond.selects "EventGraphText$CharacterList" ⟨"EventGraphText$CharacterList", "leftPosition", "(LEventGraphText$History;II)I"⟩ ⟨"EventGraphText$CharacterList", "leftPosition", "(LEventGraphText$History;II)I"⟩) ∈ xG := xG_of (List.mem_append_left _ (by decide +kernel)) rfl
theorem wd_262 : (Cond.code ⟨"EventGraphText$CharacterList", "rightPosition", "(LEventGraphText$History;II)I"⟩ prog_2_method_11_code 7 (some .int)) ∈ xG := xG_2 22 rfl rfl
theorem wd_259 : (Cond.methodLink "EventGraphText$CharacterList" 58 ⟨"EventGraphText$CharacterList", "rightPosition", "(LEventGraphText$History;II)I"⟩) ∈ xG := xG_2 19 rfl rfl
theorem wd_261 : (Cond.instanceMethod ⟨"EventGraphText$CharacterList", "rightPosition", "(LEventGraphText$History;II)I"⟩) ∈ xG := xG_2 21 rfl rfl
theorem wds_4 : (Cond.selects "EventGraphText$CharacterList" ⟨"EventGraphText$CharacterList", "rightPosition", "(LEventGraphText$History;II)I"⟩ ⟨"EventGraphText$CharacterList", "rightPosition", "(LEventGraphText$History;II)I"⟩) ∈ xG := xG_of (List.mem_append_left _ (by decide +kernel)) rfl
theorem wd_206 : (Cond.code ⟨"EventGraphText", "isSite", "(I)Z"⟩ prog_1_method_23_code 1 (some .boolean)) ∈ xG := xG_1 206 rfl rfl
theorem wd_204 : (Cond.methodLink "EventGraphText" 44 ⟨"EventGraphText", "isSite", "(I)Z"⟩) ∈ xG := xG_1 204 rfl rfl
theorem wd_205 : (Cond.static ⟨"EventGraphText", "isSite", "(I)Z"⟩) ∈ xG := xG_1 205 rfl rfl
theorem wd_184 : (Cond.fieldLink "EventGraphText" 10 "EventGraphText" "history" "LEventGraphText$History;") ∈ xG := xG_1 184 rfl rfl
theorem wd_210 : (Cond.code ⟨"EventGraphText$History", "isFull", "()Z"⟩ prog_3_method_2_code 1 (some .boolean)) ∈ xG := xG_1 210 rfl rfl
theorem wd_207 : (Cond.methodLink "EventGraphText" 48 ⟨"EventGraphText$History", "isFull", "()Z"⟩) ∈ xG := xG_1 207 rfl rfl
theorem wd_208 : (Cond.instanceMethod ⟨"EventGraphText$History", "isFull", "()Z"⟩) ∈ xG := xG_1 208 rfl rfl
theorem wd_209 : (Cond.selects "EventGraphText$History" ⟨"EventGraphText$History", "isFull", "()Z"⟩ ⟨"EventGraphText$History", "isFull", "()Z"⟩) ∈ xG := xG_1 209 rfl rfl
theorem wd_187 : (Cond.fieldLink "EventGraphText" 32 "EventGraphText" "sites" "[LEventGraphText$Site;") ∈ xG := xG_1 187 rfl rfl
theorem wd_185 : (Cond.fieldLink "EventGraphText" 19 "EventGraphText" "characters" "LEventGraphText$CharacterList;") ∈ xG := xG_1 185 rfl rfl
theorem wd_214 : (Cond.code ⟨"EventGraphText$CharacterList", "shownIn", "(J)J"⟩ prog_2_method_4_code 6 (some .long)) ∈ xG := xG_1 214 rfl rfl
theorem wd_211 : (Cond.methodLink "EventGraphText" 56 ⟨"EventGraphText$CharacterList", "shownIn", "(J)J"⟩) ∈ xG := xG_1 211 rfl rfl
theorem wd_212 : (Cond.instanceMethod ⟨"EventGraphText$CharacterList", "shownIn", "(J)J"⟩) ∈ xG := xG_1 212 rfl rfl
theorem wd_213 : (Cond.selects "EventGraphText$CharacterList" ⟨"EventGraphText$CharacterList", "shownIn", "(J)J"⟩ ⟨"EventGraphText$CharacterList", "shownIn", "(J)J"⟩) ∈ xG := xG_1 213 rfl rfl
theorem wd_225 : (Cond.code ⟨"java/lang/Long", "bitCount", "(J)I"⟩ prog_11_method_50_code 2 (some .int)) ∈ xG := xG_1 225 rfl rfl
theorem wd_223 : (Cond.methodLink "EventGraphText" 60 ⟨"java/lang/Long", "bitCount", "(J)I"⟩) ∈ xG := xG_1 223 rfl rfl
theorem wd_224 : (Cond.static ⟨"java/lang/Long", "bitCount", "(J)I"⟩) ∈ xG := xG_1 224 rfl rfl
theorem wd_10 : (Cond.initialized "java/lang/Long") ∈ xG := xG_1 10 rfl rfl
theorem wd_232 : (Cond.code ⟨"EventGraphText$CharacterList", "shownAt", "(JI)I"⟩ prog_2_method_5_code 6 (some .int)) ∈ xG := xG_1 232 rfl rfl
theorem wd_229 : (Cond.methodLink "EventGraphText" 66 ⟨"EventGraphText$CharacterList", "shownAt", "(JI)I"⟩) ∈ xG := xG_1 229 rfl rfl
theorem wd_230 : (Cond.instanceMethod ⟨"EventGraphText$CharacterList", "shownAt", "(JI)I"⟩) ∈ xG := xG_1 230 rfl rfl
theorem wd_231 : (Cond.selects "EventGraphText$CharacterList" ⟨"EventGraphText$CharacterList", "shownAt", "(JI)I"⟩ ⟨"EventGraphText$CharacterList", "shownAt", "(JI)I"⟩) ∈ xG := xG_1 231 rfl rfl
theorem wd_236 : (Cond.code ⟨"EventGraphText$History", "record", "(IIIJ)I"⟩ prog_3_method_3_code 7 (some .int)) ∈ xG := xG_1 236 rfl rfl
theorem wd_233 : (Cond.methodLink "EventGraphText" 70 ⟨"EventGraphText$History", "record", "(IIIJ)I"⟩) ∈ xG := xG_1 233 rfl rfl
theorem wd_234 : (Cond.instanceMethod ⟨"EventGraphText$History", "record", "(IIIJ)I"⟩) ∈ xG := xG_1 234 rfl rfl
theorem wd_235 : (Cond.selects "EventGraphText$History" ⟨"EventGraphText$History", "record", "(IIIJ)I"⟩ ⟨"EventGraphText$History", "record", "(IIIJ)I"⟩) ∈ xG := xG_1 235 rfl rfl
theorem wd_250 : (Cond.code ⟨"EventGraphText$CharacterList", "putBehind", "(LEventGraphText$History;IIJ)V"⟩ prog_2_method_7_code 10 none) ∈ xG := xG_2 10 rfl rfl
theorem wd_247 : (Cond.methodLink "EventGraphText" 74 ⟨"EventGraphText$CharacterList", "putBehind", "(LEventGraphText$History;IIJ)V"⟩) ∈ xG := xG_2 7 rfl rfl
theorem wd_248 : (Cond.instanceMethod ⟨"EventGraphText$CharacterList", "putBehind", "(LEventGraphText$History;IIJ)V"⟩) ∈ xG := xG_2 8 rfl rfl
theorem wd_249 : (Cond.selects "EventGraphText$CharacterList" ⟨"EventGraphText$CharacterList", "putBehind", "(LEventGraphText$History;IIJ)V"⟩ ⟨"EventGraphText$CharacterList", "putBehind", "(LEventGraphText$History;IIJ)V"⟩) ∈ xG := xG_2 9 rfl rfl
theorem wd_278 : (Cond.code ⟨"EventGraphText$History", "numberOf", "(I)I"⟩ prog_3_method_7_code 2 (some .int)) ∈ xG := xG_2 38 rfl rfl
theorem wd_275 : (Cond.methodLink "EventGraphText" 82 ⟨"EventGraphText$History", "numberOf", "(I)I"⟩) ∈ xG := xG_2 35 rfl rfl
theorem wd_276 : (Cond.instanceMethod ⟨"EventGraphText$History", "numberOf", "(I)I"⟩) ∈ xG := xG_2 36 rfl rfl
theorem wd_277 : (Cond.selects "EventGraphText$History" ⟨"EventGraphText$History", "numberOf", "(I)I"⟩ ⟨"EventGraphText$History", "numberOf", "(I)I"⟩) ∈ xG := xG_2 37 rfl rfl
theorem wd_286 : (Cond.code ⟨"EventGraphText$CharacterList", "hide", "(II)V"⟩ prog_2_method_2_code 3 none) ∈ xG := xG_2 46 rfl rfl
theorem wd_283 : (Cond.methodLink "EventGraphText" 86 ⟨"EventGraphText$CharacterList", "hide", "(II)V"⟩) ∈ xG := xG_2 43 rfl rfl
theorem wd_284 : (Cond.instanceMethod ⟨"EventGraphText$CharacterList", "hide", "(II)V"⟩) ∈ xG := xG_2 44 rfl rfl
theorem wd_285 : (Cond.selects "EventGraphText$CharacterList" ⟨"EventGraphText$CharacterList", "hide", "(II)V"⟩ ⟨"EventGraphText$CharacterList", "hide", "(II)V"⟩) ∈ xG := xG_2 45 rfl rfl
theorem wd_298 : (Cond.code ⟨"EventGraphText$History", "characterOf", "(I)I"⟩ prog_3_method_9_code 2 (some .int)) ∈ xG := xG_2 58 rfl rfl
theorem wd_295 : (Cond.methodLink "EventGraphText" 90 ⟨"EventGraphText$History", "characterOf", "(I)I"⟩) ∈ xG := xG_2 55 rfl rfl
theorem wd_296 : (Cond.instanceMethod ⟨"EventGraphText$History", "characterOf", "(I)I"⟩) ∈ xG := xG_2 56 rfl rfl
theorem wd_297 : (Cond.selects "EventGraphText$History" ⟨"EventGraphText$History", "characterOf", "(I)I"⟩ ⟨"EventGraphText$History", "characterOf", "(I)I"⟩) ∈ xG := xG_2 57 rfl rfl
theorem wd_188 : (Cond.fieldLink "EventGraphText" 39 "EventGraphText" "messages" "[LEventGraphText$Message;") ∈ xG := xG_1 188 rfl rfl
theorem wd_324 : (Cond.methodLink "EventGraphText$History" 57 ⟨"EventGraphText$History", "comesBefore", "(II)Z"⟩) ∈ xG := xG_2 84 rfl rfl
theorem wd_323 : (Cond.code ⟨"EventGraphText$History", "leastOf", "(J)I"⟩ prog_3_method_16_code 5 (some .int)) ∈ xG := xG_2 83 rfl rfl
theorem wd_320 : (Cond.methodLink "EventGraphText$History" 77 ⟨"EventGraphText$History", "leastOf", "(J)I"⟩) ∈ xG := xG_2 80 rfl rfl
theorem wd_321 : (Cond.instanceMethod ⟨"EventGraphText$History", "leastOf", "(J)I"⟩) ∈ xG := xG_2 81 rfl rfl
theorem wd_322 : (Cond.selects "EventGraphText$History" ⟨"EventGraphText$History", "leastOf", "(J)I"⟩ ⟨"EventGraphText$History", "leastOf", "(J)I"⟩) ∈ xG := xG_2 82 rfl rfl
theorem wd_318 : (Cond.code ⟨"EventGraphText$History", "nextOf", "(JI)I"⟩ prog_3_method_23_code 9 (some .int)) ∈ xG := xG_2 78 rfl rfl
theorem wd_315 : (Cond.methodLink "EventGraphText$Line" 19 ⟨"EventGraphText$History", "nextOf", "(JI)I"⟩) ∈ xG := xG_2 75 rfl rfl
theorem wd_316 : (Cond.instanceMethod ⟨"EventGraphText$History", "nextOf", "(JI)I"⟩) ∈ xG := xG_2 76 rfl rfl
theorem wd_317 : (Cond.selects "EventGraphText$History" ⟨"EventGraphText$History", "nextOf", "(JI)I"⟩ ⟨"EventGraphText$History", "nextOf", "(JI)I"⟩) ∈ xG := xG_2 77 rfl rfl
theorem wd_94 : (Cond.fieldLink "EventGraphText$Line" 15 "EventGraphText$Line" "count" "I") ∈ xG := xG_1 94 rfl rfl
theorem wd_93 : (Cond.fieldLink "EventGraphText$Line" 9 "EventGraphText$Line" "slots" "[I") ∈ xG := xG_1 93 rfl rfl
theorem wd_326 : (Cond.constantLong "EventGraphText$Line" 29 (-1)) ∈ xG := xG_2 86 rfl rfl
theorem wd_165 : (Cond.fieldLink "EventGraphText$Message" 18 "EventGraphText$Message" "underWay" "Z") ∈ xG := xG_1 165 rfl rfl
theorem wd_167 : (Cond.fieldLink "EventGraphText$Message" 22 "EventGraphText$Message" "from" "I") ∈ xG := xG_1 167 rfl rfl
theorem wd_169 : (Cond.fieldLink "EventGraphText$Message" 26 "EventGraphText$Message" "to" "I") ∈ xG := xG_1 169 rfl rfl
theorem wd_171 : (Cond.fieldLink "EventGraphText$Message" 29 "EventGraphText$Message" "carried" "J") ∈ xG := xG_1 171 rfl rfl
theorem wd_157 : (Cond.fieldLink "EventGraphText$OctetRow" 15 "EventGraphText$OctetRow" "count" "I") ∈ xG := xG_1 157 rfl rfl
theorem wd_156 : (Cond.fieldLink "EventGraphText$OctetRow" 11 "EventGraphText$OctetRow" "row" "[I") ∈ xG := xG_1 156 rfl rfl
theorem wd_350 : (Cond.code ⟨"EventGraphText$OctetRow", "add", "(I)V"⟩ prog_7_method_7_code 2 none) ∈ xG := xG_2 110 rfl rfl
theorem wd_347 : (Cond.methodLink "EventGraphText$OctetRow" 19 ⟨"EventGraphText$OctetRow", "add", "(I)V"⟩) ∈ xG := xG_2 107 rfl rfl
theorem wd_349 : (Cond.instanceMethod ⟨"EventGraphText$OctetRow", "add", "(I)V"⟩) ∈ xG := xG_2 109 rfl rfl
theorem wds_5 : (Cond.selects "EventGraphText$OctetRow" ⟨"EventGraphText$OctetRow", "add", "(I)V"⟩ ⟨"EventGraphText$OctetRow", "add", "(I)V"⟩) ∈ xG := xG_of (List.mem_append_left _ (by decide +kernel)) rfl
theorem wd_8 : (Cond.initialized "EventGraphText$OctetRow") ∈ xG := xG_1 8 rfl rfl
theorem wd_342 : (Cond.code ⟨"EventGraphText$Line", "size", "()I"⟩ prog_4_method_3_code 1 (some .int)) ∈ xG := xG_2 102 rfl rfl
theorem wd_339 : (Cond.methodLink "EventGraphText$Message" 36 ⟨"EventGraphText$Line", "size", "()I"⟩) ∈ xG := xG_2 99 rfl rfl
theorem wd_340 : (Cond.instanceMethod ⟨"EventGraphText$Line", "size", "()I"⟩) ∈ xG := xG_2 100 rfl rfl
theorem wd_341 : (Cond.selects "EventGraphText$Line" ⟨"EventGraphText$Line", "size", "()I"⟩ ⟨"EventGraphText$Line", "size", "()I"⟩) ∈ xG := xG_2 101 rfl rfl
theorem wd_4 : (Cond.initialized "EventGraphText$Line") ∈ xG := xG_1 4 rfl rfl
theorem wd_358 : (Cond.code ⟨"EventGraphText$Line", "get", "(I)I"⟩ prog_4_method_4_code 2 (some .int)) ∈ xG := xG_2 118 rfl rfl
theorem wd_355 : (Cond.methodLink "EventGraphText$Message" 62 ⟨"EventGraphText$Line", "get", "(I)I"⟩) ∈ xG := xG_2 115 rfl rfl
theorem wd_356 : (Cond.instanceMethod ⟨"EventGraphText$Line", "get", "(I)I"⟩) ∈ xG := xG_2 116 rfl rfl
theorem wd_357 : (Cond.selects "EventGraphText$Line" ⟨"EventGraphText$Line", "get", "(I)I"⟩ ⟨"EventGraphText$Line", "get", "(I)I"⟩) ∈ xG := xG_2 117 rfl rfl
theorem wd_362 : (Cond.code ⟨"EventGraphText$History", "siteOf", "(I)I"⟩ prog_3_method_6_code 2 (some .int)) ∈ xG := xG_2 122 rfl rfl
theorem wd_359 : (Cond.methodLink "EventGraphText$Message" 66 ⟨"EventGraphText$History", "siteOf", "(I)I"⟩) ∈ xG := xG_2 119 rfl rfl
theorem wd_360 : (Cond.instanceMethod ⟨"EventGraphText$History", "siteOf", "(I)I"⟩) ∈ xG := xG_2 120 rfl rfl
theorem wd_361 : (Cond.selects "EventGraphText$History" ⟨"EventGraphText$History", "siteOf", "(I)I"⟩ ⟨"EventGraphText$History", "siteOf", "(I)I"⟩) ∈ xG := xG_2 121 rfl rfl
theorem wd_163 : (Cond.fieldLink "EventGraphText$Message" 12 "EventGraphText$Message" "octets" "LEventGraphText$OctetRow;") ∈ xG := xG_1 163 rfl rfl
theorem wd_346 : (Cond.code ⟨"EventGraphText$OctetRow", "put", "(I)V"⟩ prog_7_method_5_code 4 none) ∈ xG := xG_2 106 rfl rfl
theorem wd_343 : (Cond.methodLink "EventGraphText$Message" 42 ⟨"EventGraphText$OctetRow", "put", "(I)V"⟩) ∈ xG := xG_2 103 rfl rfl
theorem wd_344 : (Cond.instanceMethod ⟨"EventGraphText$OctetRow", "put", "(I)V"⟩) ∈ xG := xG_2 104 rfl rfl
theorem wd_345 : (Cond.selects "EventGraphText$OctetRow" ⟨"EventGraphText$OctetRow", "put", "(I)V"⟩ ⟨"EventGraphText$OctetRow", "put", "(I)V"⟩) ∈ xG := xG_2 105 rfl rfl
theorem wd_363 : (Cond.methodLink "EventGraphText$Message" 71 ⟨"EventGraphText$History", "numberOf", "(I)I"⟩) ∈ xG := xG_2 123 rfl rfl
theorem wd_371 : (Cond.code ⟨"EventGraphText$History", "isInsert", "(I)Z"⟩ prog_3_method_10_code 2 (some .boolean)) ∈ xG := xG_2 131 rfl rfl
theorem wd_368 : (Cond.methodLink "EventGraphText$Message" 74 ⟨"EventGraphText$History", "isInsert", "(I)Z"⟩) ∈ xG := xG_2 128 rfl rfl
theorem wd_369 : (Cond.instanceMethod ⟨"EventGraphText$History", "isInsert", "(I)Z"⟩) ∈ xG := xG_2 129 rfl rfl
theorem wd_370 : (Cond.selects "EventGraphText$History" ⟨"EventGraphText$History", "isInsert", "(I)Z"⟩ ⟨"EventGraphText$History", "isInsert", "(I)Z"⟩) ∈ xG := xG_2 130 rfl rfl
theorem wd_384 : (Cond.methodLink "EventGraphText$OctetRow" 23 ⟨"EventGraphText$OctetRow", "put", "(I)V"⟩) ∈ xG := xG_2 144 rfl rfl
theorem wd_379 : (Cond.code ⟨"EventGraphText$History", "indexOf", "(I)I"⟩ prog_3_method_8_code 2 (some .int)) ∈ xG := xG_2 139 rfl rfl
theorem wd_376 : (Cond.methodLink "EventGraphText$Message" 78 ⟨"EventGraphText$History", "indexOf", "(I)I"⟩) ∈ xG := xG_2 136 rfl rfl
theorem wd_377 : (Cond.instanceMethod ⟨"EventGraphText$History", "indexOf", "(I)I"⟩) ∈ xG := xG_2 137 rfl rfl
theorem wd_378 : (Cond.selects "EventGraphText$History" ⟨"EventGraphText$History", "indexOf", "(I)I"⟩ ⟨"EventGraphText$History", "indexOf", "(I)I"⟩) ∈ xG := xG_2 138 rfl rfl
theorem wd_383 : (Cond.code ⟨"EventGraphText$OctetRow", "putSigned", "(I)V"⟩ prog_7_method_6_code 2 none) ∈ xG := xG_2 143 rfl rfl
theorem wd_380 : (Cond.methodLink "EventGraphText$Message" 81 ⟨"EventGraphText$OctetRow", "putSigned", "(I)V"⟩) ∈ xG := xG_2 140 rfl rfl
theorem wd_381 : (Cond.instanceMethod ⟨"EventGraphText$OctetRow", "putSigned", "(I)V"⟩) ∈ xG := xG_2 141 rfl rfl
theorem wd_382 : (Cond.selects "EventGraphText$OctetRow" ⟨"EventGraphText$OctetRow", "putSigned", "(I)V"⟩ ⟨"EventGraphText$OctetRow", "putSigned", "(I)V"⟩) ∈ xG := xG_2 142 rfl rfl
theorem wd_389 : (Cond.methodLink "EventGraphText$Message" 84 ⟨"EventGraphText$History", "characterOf", "(I)I"⟩) ∈ xG := xG_2 149 rfl rfl
theorem wd_403 : (Cond.methodLink "EventGraphText$Message" 98 ⟨"java/lang/Long", "bitCount", "(J)I"⟩) ∈ xG := xG_2 163 rfl rfl
theorem wd_404 : (Cond.methodLink "EventGraphText$Message" 104 ⟨"EventGraphText$History", "leastOf", "(J)I"⟩) ∈ xG := xG_2 164 rfl rfl
theorem wd_408 : (Cond.code ⟨"EventGraphText$History", "codeOf", "(I)I"⟩ prog_3_method_13_code 2 (some .int)) ∈ xG := xG_2 168 rfl rfl
theorem wd_405 : (Cond.methodLink "EventGraphText$Message" 107 ⟨"EventGraphText$History", "codeOf", "(I)I"⟩) ∈ xG := xG_2 165 rfl rfl
theorem wd_406 : (Cond.instanceMethod ⟨"EventGraphText$History", "codeOf", "(I)I"⟩) ∈ xG := xG_2 166 rfl rfl
theorem wd_407 : (Cond.selects "EventGraphText$History" ⟨"EventGraphText$History", "codeOf", "(I)I"⟩ ⟨"EventGraphText$History", "codeOf", "(I)I"⟩) ∈ xG := xG_2 167 rfl rfl
theorem wd_409 : (Cond.constantLong "EventGraphText$Message" 110 (-1)) ∈ xG := xG_2 169 rfl rfl
theorem wd_397 : (Cond.code ⟨"EventGraphText$History", "parentsOf", "(I)J"⟩ prog_3_method_11_code 2 (some .long)) ∈ xG := xG_2 157 rfl rfl
theorem wd_394 : (Cond.methodLink "EventGraphText$Message" 87 ⟨"EventGraphText$History", "parentsOf", "(I)J"⟩) ∈ xG := xG_2 154 rfl rfl
theorem wd_395 : (Cond.instanceMethod ⟨"EventGraphText$History", "parentsOf", "(I)J"⟩) ∈ xG := xG_2 155 rfl rfl
theorem wd_396 : (Cond.selects "EventGraphText$History" ⟨"EventGraphText$History", "parentsOf", "(I)J"⟩ ⟨"EventGraphText$History", "parentsOf", "(I)J"⟩) ∈ xG := xG_2 156 rfl rfl
theorem wd_402 : (Cond.code ⟨"EventGraphText$Message", "writeParentList", "(LEventGraphText$History;J)V"⟩ prog_6_method_9_code 9 none) ∈ xG := xG_2 162 rfl rfl
theorem wd_399 : (Cond.methodLink "EventGraphText$Message" 94 ⟨"EventGraphText$Message", "writeParentList", "(LEventGraphText$History;J)V"⟩) ∈ xG := xG_2 159 rfl rfl
theorem wd_401 : (Cond.instanceMethod ⟨"EventGraphText$Message", "writeParentList", "(LEventGraphText$History;J)V"⟩) ∈ xG := xG_2 161 rfl rfl
theorem wds_6 : (Cond.selects "EventGraphText$Message" ⟨"EventGraphText$Message", "writeParentList", "(LEventGraphText$History;J)V"⟩ ⟨"EventGraphText$Message", "writeParentList", "(LEventGraphText$History;J)V"⟩) ∈ xG := xG_of (List.mem_append_left _ (by decide +kernel)) rfl
theorem wd_7 : (Cond.initialized "EventGraphText$Message") ∈ xG := xG_1 7 rfl rfl
theorem wd_338 : (Cond.code ⟨"EventGraphText$OctetRow", "clear", "()V"⟩ prog_7_method_2_code 1 none) ∈ xG := xG_2 98 rfl rfl
theorem wd_335 : (Cond.methodLink "EventGraphText$Message" 33 ⟨"EventGraphText$OctetRow", "clear", "()V"⟩) ∈ xG := xG_2 95 rfl rfl
theorem wd_336 : (Cond.instanceMethod ⟨"EventGraphText$OctetRow", "clear", "()V"⟩) ∈ xG := xG_2 96 rfl rfl
theorem wd_337 : (Cond.selects "EventGraphText$OctetRow" ⟨"EventGraphText$OctetRow", "clear", "()V"⟩ ⟨"EventGraphText$OctetRow", "clear", "()V"⟩) ∈ xG := xG_2 97 rfl rfl
theorem wd_354 : (Cond.code ⟨"EventGraphText$Message", "writeSites", "(LEventGraphText$History;LEventGraphText$Line;)V"⟩ prog_6_method_4_code 6 none) ∈ xG := xG_2 114 rfl rfl
theorem wd_351 : (Cond.methodLink "EventGraphText$Message" 46 ⟨"EventGraphText$Message", "writeSites", "(LEventGraphText$History;LEventGraphText$Line;)V"⟩) ∈ xG := xG_2 111 rfl rfl
theorem wd_353 : (Cond.instanceMethod ⟨"EventGraphText$Message", "writeSites", "(LEventGraphText$History;LEventGraphText$Line;)V"⟩) ∈ xG := xG_2 113 rfl rfl
theorem wds_7 : (Cond.selects "EventGraphText$Message" ⟨"EventGraphText$Message", "writeSites", "(LEventGraphText$History;LEventGraphText$Line;)V"⟩ ⟨"EventGraphText$Message", "writeSites", "(LEventGraphText$History;LEventGraphText$Line;)V"⟩) ∈ xG := xG_of (List.mem_append_left _ (by decide +kernel)) rfl
theorem wd_367 : (Cond.code ⟨"EventGraphText$Message", "writeKinds", "(LEventGraphText$History;LEventGraphText$Line;)V"⟩ prog_6_method_5_code 6 none) ∈ xG := xG_2 127 rfl rfl
theorem wd_364 : (Cond.methodLink "EventGraphText$Message" 50 ⟨"EventGraphText$Message", "writeKinds", "(LEventGraphText$History;LEventGraphText$Line;)V"⟩) ∈ xG := xG_2 124 rfl rfl
theorem wd_366 : (Cond.instanceMethod ⟨"EventGraphText$Message", "writeKinds", "(LEventGraphText$History;LEventGraphText$Line;)V"⟩) ∈ xG := xG_2 126 rfl rfl
theorem wds_8 : (Cond.selects "EventGraphText$Message" ⟨"EventGraphText$Message", "writeKinds", "(LEventGraphText$History;LEventGraphText$Line;)V"⟩ ⟨"EventGraphText$Message", "writeKinds", "(LEventGraphText$History;LEventGraphText$Line;)V"⟩) ∈ xG := xG_of (List.mem_append_left _ (by decide +kernel)) rfl
theorem wd_375 : (Cond.code ⟨"EventGraphText$Message", "writeIndices", "(LEventGraphText$History;LEventGraphText$Line;)V"⟩ prog_6_method_6_code 6 none) ∈ xG := xG_2 135 rfl rfl
theorem wd_372 : (Cond.methodLink "EventGraphText$Message" 53 ⟨"EventGraphText$Message", "writeIndices", "(LEventGraphText$History;LEventGraphText$Line;)V"⟩) ∈ xG := xG_2 132 rfl rfl
theorem wd_374 : (Cond.instanceMethod ⟨"EventGraphText$Message", "writeIndices", "(LEventGraphText$History;LEventGraphText$Line;)V"⟩) ∈ xG := xG_2 134 rfl rfl
theorem wds_9 : (Cond.selects "EventGraphText$Message" ⟨"EventGraphText$Message", "writeIndices", "(LEventGraphText$History;LEventGraphText$Line;)V"⟩ ⟨"EventGraphText$Message", "writeIndices", "(LEventGraphText$History;LEventGraphText$Line;)V"⟩) ∈ xG := xG_of (List.mem_append_left _ (by decide +kernel)) rfl
theorem wd_388 : (Cond.code ⟨"EventGraphText$Message", "writeCharacters", "(LEventGraphText$History;LEventGraphText$Line;)V"⟩ prog_6_method_7_code 6 none) ∈ xG := xG_2 148 rfl rfl
theorem wd_385 : (Cond.methodLink "EventGraphText$Message" 56 ⟨"EventGraphText$Message", "writeCharacters", "(LEventGraphText$History;LEventGraphText$Line;)V"⟩) ∈ xG := xG_2 145 rfl rfl
theorem wd_387 : (Cond.instanceMethod ⟨"EventGraphText$Message", "writeCharacters", "(LEventGraphText$History;LEventGraphText$Line;)V"⟩) ∈ xG := xG_2 147 rfl rfl
theorem wds_10 : (Cond.selects "EventGraphText$Message" ⟨"EventGraphText$Message", "writeCharacters", "(LEventGraphText$History;LEventGraphText$Line;)V"⟩ ⟨"EventGraphText$Message", "writeCharacters", "(LEventGraphText$History;LEventGraphText$Line;)V"⟩) ∈ xG := xG_of (List.mem_append_left _ (by decide +kernel)) rfl
theorem wd_393 : (Cond.code ⟨"EventGraphText$Message", "writeParents", "(LEventGraphText$History;LEventGraphText$Line;)V"⟩ prog_6_method_8_code 6 none) ∈ xG := xG_2 153 rfl rfl
theorem wd_390 : (Cond.methodLink "EventGraphText$Message" 59 ⟨"EventGraphText$Message", "writeParents", "(LEventGraphText$History;LEventGraphText$Line;)V"⟩) ∈ xG := xG_2 150 rfl rfl
theorem wd_392 : (Cond.instanceMethod ⟨"EventGraphText$Message", "writeParents", "(LEventGraphText$History;LEventGraphText$Line;)V"⟩) ∈ xG := xG_2 152 rfl rfl
theorem wds_11 : (Cond.selects "EventGraphText$Message" ⟨"EventGraphText$Message", "writeParents", "(LEventGraphText$History;LEventGraphText$Line;)V"⟩ ⟨"EventGraphText$Message", "writeParents", "(LEventGraphText$History;LEventGraphText$Line;)V"⟩) ∈ xG := xG_of (List.mem_append_left _ (by decide +kernel)) rfl
theorem wd_305 : (Cond.code ⟨"EventGraphText", "areTwoSites", "(II)Z"⟩ prog_1_method_24_code 2 (some .boolean)) ∈ xG := xG_2 65 rfl rfl
theorem wd_303 : (Cond.methodLink "EventGraphText" 93 ⟨"EventGraphText", "areTwoSites", "(II)Z"⟩) ∈ xG := xG_2 63 rfl rfl
theorem wd_304 : (Cond.static ⟨"EventGraphText", "areTwoSites", "(II)Z"⟩) ∈ xG := xG_2 64 rfl rfl
theorem wd_306 : (Cond.constantLong "EventGraphText" 101 (-1)) ∈ xG := xG_2 66 rfl rfl
theorem wd_310 : (Cond.code ⟨"EventGraphText", "freeNumber", "()I"⟩ prog_1_method_22_code 2 (some .int)) ∈ xG := xG_2 70 rfl rfl
theorem wd_307 : (Cond.methodLink "EventGraphText" 103 ⟨"EventGraphText", "freeNumber", "()I"⟩) ∈ xG := xG_2 67 rfl rfl
theorem wd_309 : (Cond.instanceMethod ⟨"EventGraphText", "freeNumber", "()I"⟩) ∈ xG := xG_2 69 rfl rfl
theorem wds_12 : (Cond.selects "EventGraphText" ⟨"EventGraphText", "freeNumber", "()I"⟩ ⟨"EventGraphText", "freeNumber", "()I"⟩) ∈ xG := xG_of (List.mem_append_left _ (by decide +kernel)) rfl
theorem wd_186 : (Cond.fieldLink "EventGraphText" 26 "EventGraphText" "line" "LEventGraphText$Line;") ∈ xG := xG_1 186 rfl rfl
theorem wd_314 : (Cond.code ⟨"EventGraphText$Line", "arrange", "(LEventGraphText$History;J)V"⟩ prog_4_method_2_code 7 none) ∈ xG := xG_2 74 rfl rfl
theorem wd_311 : (Cond.methodLink "EventGraphText" 107 ⟨"EventGraphText$Line", "arrange", "(LEventGraphText$History;J)V"⟩) ∈ xG := xG_2 71 rfl rfl
theorem wd_312 : (Cond.instanceMethod ⟨"EventGraphText$Line", "arrange", "(LEventGraphText$History;J)V"⟩) ∈ xG := xG_2 72 rfl rfl
theorem wd_313 : (Cond.selects "EventGraphText$Line" ⟨"EventGraphText$Line", "arrange", "(LEventGraphText$History;J)V"⟩ ⟨"EventGraphText$Line", "arrange", "(LEventGraphText$History;J)V"⟩) ∈ xG := xG_2 73 rfl rfl
theorem wd_330 : (Cond.code ⟨"EventGraphText$Message", "start", "(IIJ)V"⟩ prog_6_method_2_code 5 none) ∈ xG := xG_2 90 rfl rfl
theorem wd_327 : (Cond.methodLink "EventGraphText" 111 ⟨"EventGraphText$Message", "start", "(IIJ)V"⟩) ∈ xG := xG_2 87 rfl rfl
theorem wd_328 : (Cond.instanceMethod ⟨"EventGraphText$Message", "start", "(IIJ)V"⟩) ∈ xG := xG_2 88 rfl rfl
theorem wd_329 : (Cond.selects "EventGraphText$Message" ⟨"EventGraphText$Message", "start", "(IIJ)V"⟩ ⟨"EventGraphText$Message", "start", "(IIJ)V"⟩) ∈ xG := xG_2 89 rfl rfl
theorem wd_334 : (Cond.code ⟨"EventGraphText$Message", "write", "(LEventGraphText$History;LEventGraphText$Line;)V"⟩ prog_6_method_3_code 3 none) ∈ xG := xG_2 94 rfl rfl
theorem wd_331 : (Cond.methodLink "EventGraphText" 115 ⟨"EventGraphText$Message", "write", "(LEventGraphText$History;LEventGraphText$Line;)V"⟩) ∈ xG := xG_2 91 rfl rfl
theorem wd_332 : (Cond.instanceMethod ⟨"EventGraphText$Message", "write", "(LEventGraphText$History;LEventGraphText$Line;)V"⟩) ∈ xG := xG_2 92 rfl rfl
theorem wd_333 : (Cond.selects "EventGraphText$Message" ⟨"EventGraphText$Message", "write", "(LEventGraphText$History;LEventGraphText$Line;)V"⟩ ⟨"EventGraphText$Message", "write", "(LEventGraphText$History;LEventGraphText$Line;)V"⟩) ∈ xG := xG_2 93 rfl rfl
theorem wd_438 : (Cond.code ⟨"EventGraphText$History", "upTo", "(I)J"⟩ prog_3_method_14_code 2 (some .long)) ∈ xG := xG_2 198 rfl rfl
theorem wd_435 : (Cond.methodLink "EventGraphText$History" 66 ⟨"EventGraphText$History", "upTo", "(I)J"⟩) ∈ xG := xG_2 195 rfl rfl
theorem wd_436 : (Cond.instanceMethod ⟨"EventGraphText$History", "upTo", "(I)J"⟩) ∈ xG := xG_2 196 rfl rfl
theorem wd_437 : (Cond.selects "EventGraphText$History" ⟨"EventGraphText$History", "upTo", "(I)J"⟩ ⟨"EventGraphText$History", "upTo", "(I)J"⟩) ∈ xG := xG_2 197 rfl rfl
theorem wd_442 : (Cond.code ⟨"EventGraphText$History", "descendantsOf", "(IJ)J"⟩ prog_3_method_20_code 7 (some .long)) ∈ xG := xG_2 202 rfl rfl
theorem wd_439 : (Cond.methodLink "EventGraphText$History" 69 ⟨"EventGraphText$History", "descendantsOf", "(IJ)J"⟩) ∈ xG := xG_2 199 rfl rfl
theorem wd_440 : (Cond.instanceMethod ⟨"EventGraphText$History", "descendantsOf", "(IJ)J"⟩) ∈ xG := xG_2 200 rfl rfl
theorem wd_441 : (Cond.selects "EventGraphText$History" ⟨"EventGraphText$History", "descendantsOf", "(IJ)J"⟩ ⟨"EventGraphText$History", "descendantsOf", "(IJ)J"⟩) ∈ xG := xG_2 201 rfl rfl
theorem wd_434 : (Cond.code ⟨"EventGraphText$History", "isCritical", "(IJ)Z"⟩ prog_3_method_21_code 4 (some .boolean)) ∈ xG := xG_2 194 rfl rfl
theorem wd_431 : (Cond.methodLink "EventGraphText$History" 73 ⟨"EventGraphText$History", "isCritical", "(IJ)Z"⟩) ∈ xG := xG_2 191 rfl rfl
theorem wd_432 : (Cond.instanceMethod ⟨"EventGraphText$History", "isCritical", "(IJ)Z"⟩) ∈ xG := xG_2 192 rfl rfl
theorem wd_433 : (Cond.selects "EventGraphText$History" ⟨"EventGraphText$History", "isCritical", "(IJ)Z"⟩ ⟨"EventGraphText$History", "isCritical", "(IJ)Z"⟩) ∈ xG := xG_2 193 rfl rfl
theorem wd_451 : (Cond.methodLink "EventGraphText$Merge" 57 ⟨"EventGraphText$Line", "size", "()I"⟩) ∈ xG := xG_2 211 rfl rfl
theorem wd_452 : (Cond.methodLink "EventGraphText$Merge" 61 ⟨"EventGraphText$Line", "get", "(I)I"⟩) ∈ xG := xG_2 212 rfl rfl
theorem wd_119 : (Cond.fieldLink "EventGraphText$Merge" 22 "EventGraphText$Merge" "moves" "I") ∈ xG := xG_1 119 rfl rfl
theorem wd_456 : (Cond.code ⟨"EventGraphText$History", "ancestorsOf", "(I)J"⟩ prog_3_method_12_code 2 (some .long)) ∈ xG := xG_2 216 rfl rfl
theorem wd_453 : (Cond.methodLink "EventGraphText$Merge" 65 ⟨"EventGraphText$History", "ancestorsOf", "(I)J"⟩) ∈ xG := xG_2 213 rfl rfl
theorem wd_454 : (Cond.instanceMethod ⟨"EventGraphText$History", "ancestorsOf", "(I)J"⟩) ∈ xG := xG_2 214 rfl rfl
theorem wd_455 : (Cond.selects "EventGraphText$History" ⟨"EventGraphText$History", "ancestorsOf", "(I)J"⟩ ⟨"EventGraphText$History", "ancestorsOf", "(I)J"⟩) ∈ xG := xG_2 215 rfl rfl
theorem wd_445 : (Cond.methodLink "EventGraphText$Merge" 37 ⟨"java/lang/Long", "bitCount", "(J)I"⟩) ∈ xG := xG_2 205 rfl rfl
theorem wd_443 : (Cond.methodLink "EventGraphText$Merge" 31 ⟨"EventGraphText$History", "upTo", "(I)J"⟩) ∈ xG := xG_2 203 rfl rfl
theorem wd_462 : (Cond.methodLink "EventGraphText$Merge" 72 ⟨"EventGraphText$CharacterList", "shownIn", "(J)J"⟩) ∈ xG := xG_2 222 rfl rfl
theorem wd_466 : (Cond.code ⟨"EventGraphText$CharacterList", "indexIn", "(JI)I"⟩ prog_2_method_6_code 6 (some .int)) ∈ xG := xG_2 226 rfl rfl
theorem wd_463 : (Cond.methodLink "EventGraphText$Merge" 78 ⟨"EventGraphText$CharacterList", "indexIn", "(JI)I"⟩) ∈ xG := xG_2 223 rfl rfl
theorem wd_464 : (Cond.instanceMethod ⟨"EventGraphText$CharacterList", "indexIn", "(JI)I"⟩) ∈ xG := xG_2 224 rfl rfl
theorem wd_465 : (Cond.selects "EventGraphText$CharacterList" ⟨"EventGraphText$CharacterList", "indexIn", "(JI)I"⟩ ⟨"EventGraphText$CharacterList", "indexIn", "(JI)I"⟩) ∈ xG := xG_2 225 rfl rfl
theorem wd_115 : (Cond.fieldLink "EventGraphText$Merge" 15 "EventGraphText$Merge" "applied" "I") ∈ xG := xG_1 115 rfl rfl
theorem wd_113 : (Cond.fieldLink "EventGraphText$Merge" 9 "EventGraphText$Merge" "operations" "[I") ∈ xG := xG_1 113 rfl rfl
theorem wd_461 : (Cond.methodLink "EventGraphText$Merge" 68 ⟨"EventGraphText$History", "isInsert", "(I)Z"⟩) ∈ xG := xG_2 221 rfl rfl
theorem wd_470 : (Cond.code ⟨"EventGraphText$CharacterList", "takenBy", "(I)I"⟩ prog_2_method_3_code 2 (some .int)) ∈ xG := xG_2 230 rfl rfl
theorem wd_467 : (Cond.methodLink "EventGraphText$Merge" 82 ⟨"EventGraphText$CharacterList", "takenBy", "(I)I"⟩) ∈ xG := xG_2 227 rfl rfl
theorem wd_468 : (Cond.instanceMethod ⟨"EventGraphText$CharacterList", "takenBy", "(I)I"⟩) ∈ xG := xG_2 228 rfl rfl
theorem wd_469 : (Cond.selects "EventGraphText$CharacterList" ⟨"EventGraphText$CharacterList", "takenBy", "(I)I"⟩ ⟨"EventGraphText$CharacterList", "takenBy", "(I)I"⟩) ∈ xG := xG_2 229 rfl rfl
theorem wd_473 : (Cond.code ⟨"EventGraphText$Merge", "removal", "(LEventGraphText$CharacterList;JI)I"⟩ prog_5_method_5_code 6 (some .int)) ∈ xG := xG_2 233 rfl rfl
theorem wd_471 : (Cond.methodLink "EventGraphText$Merge" 85 ⟨"EventGraphText$Merge", "removal", "(LEventGraphText$CharacterList;JI)I"⟩) ∈ xG := xG_2 231 rfl rfl
theorem wd_472 : (Cond.static ⟨"EventGraphText$Merge", "removal", "(LEventGraphText$CharacterList;JI)I"⟩) ∈ xG := xG_2 232 rfl rfl
theorem wd_6 : (Cond.initialized "EventGraphText$Merge") ∈ xG := xG_1 6 rfl rfl
theorem wd_430 : (Cond.code ⟨"EventGraphText$History", "lastCritical", "(JJ)I"⟩ prog_3_method_22_code 6 (some .int)) ∈ xG := xG_2 190 rfl rfl
theorem wd_427 : (Cond.methodLink "EventGraphText$Merge" 25 ⟨"EventGraphText$History", "lastCritical", "(JJ)I"⟩) ∈ xG := xG_2 187 rfl rfl
theorem wd_428 : (Cond.instanceMethod ⟨"EventGraphText$History", "lastCritical", "(JJ)I"⟩) ∈ xG := xG_2 188 rfl rfl
theorem wd_429 : (Cond.selects "EventGraphText$History" ⟨"EventGraphText$History", "lastCritical", "(JJ)I"⟩ ⟨"EventGraphText$History", "lastCritical", "(JJ)I"⟩) ∈ xG := xG_2 189 rfl rfl
theorem wd_444 : (Cond.constantLong "EventGraphText$Merge" 35 (-1)) ∈ xG := xG_2 204 rfl rfl
theorem wd_117 : (Cond.fieldLink "EventGraphText$Merge" 19 "EventGraphText$Merge" "replayed" "I") ∈ xG := xG_1 117 rfl rfl
theorem wd_446 : (Cond.methodLink "EventGraphText$Merge" 43 ⟨"EventGraphText$Line", "arrange", "(LEventGraphText$History;J)V"⟩) ∈ xG := xG_2 206 rfl rfl
theorem wd_450 : (Cond.code ⟨"EventGraphText$Merge", "passThrough", "(LEventGraphText$History;LEventGraphText$Line;J)J"⟩ prog_5_method_3_code 9 (some .long)) ∈ xG := xG_2 210 rfl rfl
theorem wd_447 : (Cond.methodLink "EventGraphText$Merge" 49 ⟨"EventGraphText$Merge", "passThrough", "(LEventGraphText$History;LEventGraphText$Line;J)J"⟩) ∈ xG := xG_2 207 rfl rfl
theorem wd_449 : (Cond.instanceMethod ⟨"EventGraphText$Merge", "passThrough", "(LEventGraphText$History;LEventGraphText$Line;J)J"⟩) ∈ xG := xG_2 209 rfl rfl
theorem wds_13 : (Cond.selects "EventGraphText$Merge" ⟨"EventGraphText$Merge", "passThrough", "(LEventGraphText$History;LEventGraphText$Line;J)J"⟩ ⟨"EventGraphText$Merge", "passThrough", "(LEventGraphText$History;LEventGraphText$Line;J)J"⟩) ∈ xG := xG_of (List.mem_append_left _ (by decide +kernel)) rfl
theorem wd_460 : (Cond.code ⟨"EventGraphText$Merge", "applyAll", "(LEventGraphText$History;LEventGraphText$CharacterList;LEventGraphText$Line;J)V"⟩ prog_5_method_4_code 10 none) ∈ xG := xG_2 220 rfl rfl
theorem wd_457 : (Cond.methodLink "EventGraphText$Merge" 53 ⟨"EventGraphText$Merge", "applyAll", "(LEventGraphText$History;LEventGraphText$CharacterList;LEventGraphText$Line;J)V"⟩) ∈ xG := xG_2 217 rfl rfl
theorem wd_459 : (Cond.instanceMethod ⟨"EventGraphText$Merge", "applyAll", "(LEventGraphText$History;LEventGraphText$CharacterList;LEventGraphText$Line;J)V"⟩) ∈ xG := xG_2 219 rfl rfl
theorem wds_14 : (Cond.selects "EventGraphText$Merge" ⟨"EventGraphText$Merge", "applyAll", "(LEventGraphText$History;LEventGraphText$CharacterList;LEventGraphText$Line;J)V"⟩ ⟨"EventGraphText$Merge", "applyAll", "(LEventGraphText$History;LEventGraphText$CharacterList;LEventGraphText$Line;J)V"⟩) ∈ xG := xG_of (List.mem_append_left _ (by decide +kernel)) rfl
theorem wd_417 : (Cond.code ⟨"EventGraphText", "isUnderWay", "(I)Z"⟩ prog_1_method_21_code 2 (some .boolean)) ∈ xG := xG_2 177 rfl rfl
theorem wd_414 : (Cond.methodLink "EventGraphText" 119 ⟨"EventGraphText", "isUnderWay", "(I)Z"⟩) ∈ xG := xG_2 174 rfl rfl
theorem wd_416 : (Cond.instanceMethod ⟨"EventGraphText", "isUnderWay", "(I)Z"⟩) ∈ xG := xG_2 176 rfl rfl
theorem wds_15 : (Cond.selects "EventGraphText" ⟨"EventGraphText", "isUnderWay", "(I)Z"⟩ ⟨"EventGraphText", "isUnderWay", "(I)Z"⟩) ∈ xG := xG_of (List.mem_append_left _ (by decide +kernel)) rfl
theorem wd_418 : (Cond.methodLink "EventGraphText" 129 ⟨"EventGraphText$History", "parentsOfAll", "(J)J"⟩) ∈ xG := xG_2 178 rfl rfl
theorem wd_422 : (Cond.code ⟨"EventGraphText$History", "withAncestors", "(J)J"⟩ prog_3_method_17_code 6 (some .long)) ∈ xG := xG_2 182 rfl rfl
theorem wd_419 : (Cond.methodLink "EventGraphText" 135 ⟨"EventGraphText$History", "withAncestors", "(J)J"⟩) ∈ xG := xG_2 179 rfl rfl
theorem wd_420 : (Cond.instanceMethod ⟨"EventGraphText$History", "withAncestors", "(J)J"⟩) ∈ xG := xG_2 180 rfl rfl
theorem wd_421 : (Cond.selects "EventGraphText$History" ⟨"EventGraphText$History", "withAncestors", "(J)J"⟩ ⟨"EventGraphText$History", "withAncestors", "(J)J"⟩) ∈ xG := xG_2 181 rfl rfl
theorem wd_426 : (Cond.code ⟨"EventGraphText$Merge", "perform", "(LEventGraphText$History;LEventGraphText$CharacterList;LEventGraphText$Line;JJ)V"⟩ prog_5_method_2_code 14 none) ∈ xG := xG_2 186 rfl rfl
theorem wd_423 : (Cond.methodLink "EventGraphText" 142 ⟨"EventGraphText$Merge", "perform", "(LEventGraphText$History;LEventGraphText$CharacterList;LEventGraphText$Line;JJ)V"⟩) ∈ xG := xG_2 183 rfl rfl
theorem wd_424 : (Cond.instanceMethod ⟨"EventGraphText$Merge", "perform", "(LEventGraphText$History;LEventGraphText$CharacterList;LEventGraphText$Line;JJ)V"⟩) ∈ xG := xG_2 184 rfl rfl
theorem wd_425 : (Cond.selects "EventGraphText$Merge" ⟨"EventGraphText$Merge", "perform", "(LEventGraphText$History;LEventGraphText$CharacterList;LEventGraphText$Line;JJ)V"⟩ ⟨"EventGraphText$Merge", "perform", "(LEventGraphText$History;LEventGraphText$CharacterList;LEventGraphText$Line;JJ)V"⟩) ∈ xG := xG_2 185 rfl rfl
theorem wd_484 : (Cond.methodLink "EventGraphText" 152 ⟨"EventGraphText$History", "headsOf", "(J)J"⟩) ∈ xG := xG_3 4 rfl rfl
theorem wd_496 : (Cond.code ⟨"EventGraphText$OctetRow", "size", "()I"⟩ prog_7_method_3_code 1 (some .int)) ∈ xG := xG_3 16 rfl rfl
theorem wd_493 : (Cond.methodLink "EventGraphText" 159 ⟨"EventGraphText$OctetRow", "size", "()I"⟩) ∈ xG := xG_3 13 rfl rfl
theorem wd_494 : (Cond.instanceMethod ⟨"EventGraphText$OctetRow", "size", "()I"⟩) ∈ xG := xG_3 14 rfl rfl
theorem wd_495 : (Cond.selects "EventGraphText$OctetRow" ⟨"EventGraphText$OctetRow", "size", "()I"⟩ ⟨"EventGraphText$OctetRow", "size", "()I"⟩) ∈ xG := xG_3 15 rfl rfl
theorem wd_504 : (Cond.code ⟨"EventGraphText$OctetRow", "get", "(I)I"⟩ prog_7_method_4_code 2 (some .int)) ∈ xG := xG_3 24 rfl rfl
theorem wd_501 : (Cond.methodLink "EventGraphText" 164 ⟨"EventGraphText$OctetRow", "get", "(I)I"⟩) ∈ xG := xG_3 21 rfl rfl
theorem wd_502 : (Cond.instanceMethod ⟨"EventGraphText$OctetRow", "get", "(I)I"⟩) ∈ xG := xG_3 22 rfl rfl
theorem wd_503 : (Cond.selects "EventGraphText$OctetRow" ⟨"EventGraphText$OctetRow", "get", "(I)I"⟩ ⟨"EventGraphText$OctetRow", "get", "(I)I"⟩) ∈ xG := xG_3 23 rfl rfl
theorem wd_517 : (Cond.methodLink "EventGraphText" 167 ⟨"EventGraphText$History", "leastOf", "(J)I"⟩) ∈ xG := xG_3 37 rfl rfl
theorem wd_518 : (Cond.methodLink "EventGraphText" 170 ⟨"EventGraphText$History", "codeOf", "(I)I"⟩) ∈ xG := xG_3 38 rfl rfl
theorem wd_526 : (Cond.code ⟨"EventGraphText$History", "wasMade", "(II)Z"⟩ prog_3_method_4_code 3 (some .boolean)) ∈ xG := xG_3 46 rfl rfl
theorem wd_523 : (Cond.methodLink "EventGraphText" 173 ⟨"EventGraphText$History", "wasMade", "(II)Z"⟩) ∈ xG := xG_3 43 rfl rfl
theorem wd_524 : (Cond.instanceMethod ⟨"EventGraphText$History", "wasMade", "(II)Z"⟩) ∈ xG := xG_3 44 rfl rfl
theorem wd_525 : (Cond.selects "EventGraphText$History" ⟨"EventGraphText$History", "wasMade", "(II)Z"⟩ ⟨"EventGraphText$History", "wasMade", "(II)Z"⟩) ∈ xG := xG_3 45 rfl rfl
theorem wd_531 : (Cond.code ⟨"EventGraphText$History", "slotOf", "(II)I"⟩ prog_3_method_5_code 3 (some .int)) ∈ xG := xG_3 51 rfl rfl
theorem wd_528 : (Cond.methodLink "EventGraphText" 176 ⟨"EventGraphText$History", "slotOf", "(II)I"⟩) ∈ xG := xG_3 48 rfl rfl
theorem wd_529 : (Cond.instanceMethod ⟨"EventGraphText$History", "slotOf", "(II)I"⟩) ∈ xG := xG_3 49 rfl rfl
theorem wd_530 : (Cond.selects "EventGraphText$History" ⟨"EventGraphText$History", "slotOf", "(II)I"⟩ ⟨"EventGraphText$History", "slotOf", "(II)I"⟩) ∈ xG := xG_3 50 rfl rfl
theorem wd_532 : (Cond.methodLink "EventGraphText" 180 ⟨"EventGraphText$History", "ancestorsOf", "(I)J"⟩) ∈ xG := xG_3 52 rfl rfl
theorem wd_533 : (Cond.methodLink "EventGraphText" 183 ⟨"EventGraphText", "has", "(JI)Z"⟩) ∈ xG := xG_3 53 rfl rfl
theorem wd_538 : (Cond.methodLink "EventGraphText" 187 ⟨"EventGraphText$History", "lastCritical", "(JJ)I"⟩) ∈ xG := xG_3 58 rfl rfl
theorem wd_539 : (Cond.methodLink "EventGraphText" 191 ⟨"EventGraphText$History", "upTo", "(I)J"⟩) ∈ xG := xG_3 59 rfl rfl
theorem wd_658 : (Cond.code ⟨"EventGraphTextModel", "in", "(JI)Z"⟩ prog_10_method_2_code 3 (some .boolean)) ∈ xG := xG_3 178 rfl rfl
theorem wd_656 : (Cond.methodLink "EventGraphTextModel" 78 ⟨"EventGraphTextModel", "in", "(JI)Z"⟩) ∈ xG := xG_3 176 rfl rfl
theorem wd_657 : (Cond.static ⟨"EventGraphTextModel", "in", "(JI)Z"⟩) ∈ xG := xG_3 177 rfl rfl
theorem wd_9 : (Cond.initialized "EventGraphTextModel") ∈ xG := xG_1 9 rfl rfl
theorem wd_643 : (Cond.code ⟨"EventGraphTextModel", "wrong", "(I)Z"⟩ prog_10_method_5_code 1 (some .boolean)) ∈ xG := xG_3 163 rfl rfl
theorem wd_641 : (Cond.methodLink "EventGraphTextModel" 82 ⟨"EventGraphTextModel", "wrong", "(I)Z"⟩) ∈ xG := xG_3 161 rfl rfl
theorem wd_642 : (Cond.static ⟨"EventGraphTextModel", "wrong", "(I)Z"⟩) ∈ xG := xG_3 162 rfl rfl
theorem wd_558 : (Cond.fieldLink "EventGraphTextModel" 86 "EventGraphTextModel" "made" "I") ∈ xG := xG_3 78 rfl rfl
theorem wd_561 : (Cond.fieldLink "EventGraphTextModel" 16 "EventGraphTextModel" "inserts" "[Z") ∈ xG := xG_3 81 rfl rfl
theorem wd_566 : (Cond.fieldLink "EventGraphTextModel" 33 "EventGraphTextModel" "place" "[I") ∈ xG := xG_3 86 rfl rfl
theorem wd_661 : (Cond.code ⟨"EventGraphTextModel", "one", "(I)J"⟩ prog_10_method_3_code 1 (some .long)) ∈ xG := xG_3 181 rfl rfl
theorem wd_659 : (Cond.methodLink "EventGraphTextModel" 90 ⟨"EventGraphTextModel", "one", "(I)J"⟩) ∈ xG := xG_3 179 rfl rfl
theorem wd_660 : (Cond.static ⟨"EventGraphTextModel", "one", "(I)J"⟩) ∈ xG := xG_3 180 rfl rfl
theorem wd_655 : (Cond.code ⟨"EventGraphTextModel", "hidden", "(J)J"⟩ prog_10_method_7_code 6 (some .long)) ∈ xG := xG_3 175 rfl rfl
theorem wd_652 : (Cond.methodLink "EventGraphTextModel" 94 ⟨"EventGraphTextModel", "hidden", "(J)J"⟩) ∈ xG := xG_3 172 rfl rfl
theorem wd_654 : (Cond.instanceMethod ⟨"EventGraphTextModel", "hidden", "(J)J"⟩) ∈ xG := xG_3 174 rfl rfl
theorem wds_16 : (Cond.selects "EventGraphTextModel" ⟨"EventGraphTextModel", "hidden", "(J)J"⟩ ⟨"EventGraphTextModel", "hidden", "(J)J"⟩) ∈ xG := xG_of (List.mem_append_left _ (by decide +kernel)) rfl
theorem wd_570 : (Cond.fieldLink "EventGraphTextModel" 98 "EventGraphTextModel" "chars" "I") ∈ xG := xG_3 90 rfl rfl
theorem wd_569 : (Cond.fieldLink "EventGraphTextModel" 42 "EventGraphTextModel" "row" "[I") ∈ xG := xG_3 89 rfl rfl
theorem wd_559 : (Cond.fieldLink "EventGraphTextModel" 7 "EventGraphTextModel" "site" "[I") ∈ xG := xG_3 79 rfl rfl
theorem wd_560 : (Cond.fieldLink "EventGraphTextModel" 13 "EventGraphTextModel" "number" "[I") ∈ xG := xG_3 80 rfl rfl
theorem wd_567 : (Cond.fieldLink "EventGraphTextModel" 36 "EventGraphTextModel" "right" "[Z") ∈ xG := xG_3 87 rfl rfl
theorem wd_690 : (Cond.code ⟨"EventGraphTextModel", "lower", "(II)Z"⟩ prog_10_method_11_code 3 (some .boolean)) ∈ xG := xG_3 210 rfl rfl
theorem wd_687 : (Cond.methodLink "EventGraphTextModel" 101 ⟨"EventGraphTextModel", "lower", "(II)Z"⟩) ∈ xG := xG_3 207 rfl rfl
theorem wd_689 : (Cond.instanceMethod ⟨"EventGraphTextModel", "lower", "(II)Z"⟩) ∈ xG := xG_3 209 rfl rfl
theorem wds_17 : (Cond.selects "EventGraphTextModel" ⟨"EventGraphTextModel", "lower", "(II)Z"⟩ ⟨"EventGraphTextModel", "lower", "(II)Z"⟩) ∈ xG := xG_of (List.mem_append_left _ (by decide +kernel)) rfl
theorem wd_568 : (Cond.fieldLink "EventGraphTextModel" 39 "EventGraphTextModel" "depth" "[I") ∈ xG := xG_3 88 rfl rfl
theorem wd_686 : (Cond.code ⟨"EventGraphTextModel", "stands", "(II)Z"⟩ prog_10_method_12_code 8 (some .boolean)) ∈ xG := xG_3 206 rfl rfl
theorem wd_683 : (Cond.methodLink "EventGraphTextModel" 105 ⟨"EventGraphTextModel", "stands", "(II)Z"⟩) ∈ xG := xG_3 203 rfl rfl
theorem wd_685 : (Cond.instanceMethod ⟨"EventGraphTextModel", "stands", "(II)Z"⟩) ∈ xG := xG_3 205 rfl rfl
theorem wds_18 : (Cond.selects "EventGraphTextModel" ⟨"EventGraphTextModel", "stands", "(II)Z"⟩ ⟨"EventGraphTextModel", "stands", "(II)Z"⟩) ∈ xG := xG_of (List.mem_append_left _ (by decide +kernel)) rfl
theorem wd_678 : (Cond.constantLong "EventGraphTextModel" 108 (-1)) ∈ xG := xG_3 198 rfl rfl
theorem wd_564 : (Cond.fieldLink "EventGraphTextModel" 26 "EventGraphTextModel" "earlier" "[J") ∈ xG := xG_3 84 rfl rfl
theorem wd_562 : (Cond.fieldLink "EventGraphTextModel" 20 "EventGraphTextModel" "index" "[I") ∈ xG := xG_3 82 rfl rfl
theorem wd_571 : (Cond.fieldLink "EventGraphTextModel" 45 "EventGraphTextModel" "graph" "[J") ∈ xG := xG_3 91 rfl rfl
theorem wd_565 : (Cond.fieldLink "EventGraphTextModel" 30 "EventGraphTextModel" "parents" "[J") ∈ xG := xG_3 85 rfl rfl
theorem wd_677 : (Cond.code ⟨"EventGraphTextModel", "tips", "(J)J"⟩ prog_10_method_14_code 6 (some .long)) ∈ xG := xG_3 197 rfl rfl
theorem wd_674 : (Cond.methodLink "EventGraphTextModel" 110 ⟨"EventGraphTextModel", "tips", "(J)J"⟩) ∈ xG := xG_3 194 rfl rfl
theorem wd_676 : (Cond.instanceMethod ⟨"EventGraphTextModel", "tips", "(J)J"⟩) ∈ xG := xG_3 196 rfl rfl
theorem wds_19 : (Cond.selects "EventGraphTextModel" ⟨"EventGraphTextModel", "tips", "(J)J"⟩ ⟨"EventGraphTextModel", "tips", "(J)J"⟩) ∈ xG := xG_of (List.mem_append_left _ (by decide +kernel)) rfl
theorem wd_651 : (Cond.code ⟨"EventGraphTextModel", "shownBefore", "(JI)I"⟩ prog_10_method_9_code 9 (some .int)) ∈ xG := xG_3 171 rfl rfl
theorem wd_648 : (Cond.methodLink "EventGraphTextModel" 132 ⟨"EventGraphTextModel", "shownBefore", "(JI)I"⟩) ∈ xG := xG_3 168 rfl rfl
theorem wd_650 : (Cond.instanceMethod ⟨"EventGraphTextModel", "shownBefore", "(JI)I"⟩) ∈ xG := xG_3 170 rfl rfl
theorem wds_20 : (Cond.selects "EventGraphTextModel" ⟨"EventGraphTextModel", "shownBefore", "(JI)I"⟩ ⟨"EventGraphTextModel", "shownBefore", "(JI)I"⟩) ∈ xG := xG_of (List.mem_append_left _ (by decide +kernel)) rfl
theorem wd_647 : (Cond.code ⟨"EventGraphTextModel", "length", "(I)I"⟩ prog_10_method_18_code 2 (some .int)) ∈ xG := xG_3 167 rfl rfl
theorem wd_644 : (Cond.methodLink "EventGraphTextModel" 113 ⟨"EventGraphTextModel", "length", "(I)I"⟩) ∈ xG := xG_3 164 rfl rfl
theorem wd_645 : (Cond.instanceMethod ⟨"EventGraphTextModel", "length", "(I)I"⟩) ∈ xG := xG_3 165 rfl rfl
theorem wd_646 : (Cond.selects "EventGraphTextModel" ⟨"EventGraphTextModel", "length", "(I)I"⟩ ⟨"EventGraphTextModel", "length", "(I)I"⟩) ∈ xG := xG_3 166 rfl rfl
theorem wd_665 : (Cond.code ⟨"EventGraphTextModel", "shownAt", "(JI)I"⟩ prog_10_method_8_code 9 (some .int)) ∈ xG := xG_3 185 rfl rfl
theorem wd_662 : (Cond.methodLink "EventGraphTextModel" 117 ⟨"EventGraphTextModel", "shownAt", "(JI)I"⟩) ∈ xG := xG_3 182 rfl rfl
theorem wd_664 : (Cond.instanceMethod ⟨"EventGraphTextModel", "shownAt", "(JI)I"⟩) ∈ xG := xG_3 184 rfl rfl
theorem wds_21 : (Cond.selects "EventGraphTextModel" ⟨"EventGraphTextModel", "shownAt", "(JI)I"⟩ ⟨"EventGraphTextModel", "shownAt", "(JI)I"⟩) ∈ xG := xG_of (List.mem_append_left _ (by decide +kernel)) rfl
theorem wd_669 : (Cond.code ⟨"EventGraphTextModel", "behind", "(JI)I"⟩ prog_10_method_10_code 6 (some .int)) ∈ xG := xG_3 189 rfl rfl
theorem wd_666 : (Cond.methodLink "EventGraphTextModel" 121 ⟨"EventGraphTextModel", "behind", "(JI)I"⟩) ∈ xG := xG_3 186 rfl rfl
theorem wd_668 : (Cond.instanceMethod ⟨"EventGraphTextModel", "behind", "(JI)I"⟩) ∈ xG := xG_3 188 rfl rfl
theorem wds_22 : (Cond.selects "EventGraphTextModel" ⟨"EventGraphTextModel", "behind", "(JI)I"⟩ ⟨"EventGraphTextModel", "behind", "(JI)I"⟩) ∈ xG := xG_of (List.mem_append_left _ (by decide +kernel)) rfl
theorem wd_673 : (Cond.code ⟨"EventGraphTextModel", "event", "(IZI)I"⟩ prog_10_method_15_code 7 (some .int)) ∈ xG := xG_3 193 rfl rfl
theorem wd_670 : (Cond.methodLink "EventGraphTextModel" 124 ⟨"EventGraphTextModel", "event", "(IZI)I"⟩) ∈ xG := xG_3 190 rfl rfl
theorem wd_672 : (Cond.instanceMethod ⟨"EventGraphTextModel", "event", "(IZI)I"⟩) ∈ xG := xG_3 192 rfl rfl
theorem wds_23 : (Cond.selects "EventGraphTextModel" ⟨"EventGraphTextModel", "event", "(IZI)I"⟩ ⟨"EventGraphTextModel", "event", "(IZI)I"⟩) ∈ xG := xG_of (List.mem_append_left _ (by decide +kernel)) rfl
theorem wd_563 : (Cond.fieldLink "EventGraphTextModel" 23 "EventGraphTextModel" "letter" "[I") ∈ xG := xG_3 83 rfl rfl
theorem wd_682 : (Cond.code ⟨"EventGraphTextModel", "intoRow", "(I)V"⟩ prog_10_method_13_code 4 none) ∈ xG := xG_3 202 rfl rfl
theorem wd_679 : (Cond.methodLink "EventGraphTextModel" 128 ⟨"EventGraphTextModel", "intoRow", "(I)V"⟩) ∈ xG := xG_3 199 rfl rfl
theorem wd_681 : (Cond.instanceMethod ⟨"EventGraphTextModel", "intoRow", "(I)V"⟩) ∈ xG := xG_3 201 rfl rfl
theorem wds_24 : (Cond.selects "EventGraphTextModel" ⟨"EventGraphTextModel", "intoRow", "(I)V"⟩ ⟨"EventGraphTextModel", "intoRow", "(I)V"⟩) ∈ xG := xG_of (List.mem_append_left _ (by decide +kernel)) rfl
theorem wd_758 : (Cond.code ⟨"EventGraphTextModel", "can", "(JJI)Z"⟩ prog_10_method_20_code 6 (some .boolean)) ∈ xG := xG_4 38 rfl rfl
theorem wd_755 : (Cond.methodLink "EventGraphTextModel" 135 ⟨"EventGraphTextModel", "can", "(JJI)Z"⟩) ∈ xG := xG_4 35 rfl rfl
theorem wd_757 : (Cond.instanceMethod ⟨"EventGraphTextModel", "can", "(JJI)Z"⟩) ∈ xG := xG_4 37 rfl rfl
theorem wds_25 : (Cond.selects "EventGraphTextModel" ⟨"EventGraphTextModel", "can", "(JJI)Z"⟩ ⟨"EventGraphTextModel", "can", "(JJI)Z"⟩) ∈ xG := xG_of (List.mem_append_left _ (by decide +kernel)) rfl
theorem wd_581 : (Cond.fieldLink "EventGraphTextModel" 139 "EventGraphTextModel" "turns" "I") ∈ xG := xG_3 101 rfl rfl
theorem wd_754 : (Cond.code ⟨"EventGraphTextModel", "nextOf", "(JJI)I"⟩ prog_10_method_21_code 9 (some .int)) ∈ xG := xG_4 34 rfl rfl
theorem wd_751 : (Cond.methodLink "EventGraphTextModel" 142 ⟨"EventGraphTextModel", "nextOf", "(JJI)I"⟩) ∈ xG := xG_4 31 rfl rfl
theorem wd_753 : (Cond.instanceMethod ⟨"EventGraphTextModel", "nextOf", "(JJI)I"⟩) ∈ xG := xG_4 33 rfl rfl
theorem wds_26 : (Cond.selects "EventGraphTextModel" ⟨"EventGraphTextModel", "nextOf", "(JJI)I"⟩ ⟨"EventGraphTextModel", "nextOf", "(JJI)I"⟩) ∈ xG := xG_of (List.mem_append_left _ (by decide +kernel)) rfl
theorem wd_580 : (Cond.fieldLink "EventGraphTextModel" 72 "EventGraphTextModel" "turn" "[I") ∈ xG := xG_3 100 rfl rfl
theorem wd_706 : (Cond.code ⟨"EventGraphTextModel", "wrongPair", "(II)Z"⟩ prog_10_method_6_code 2 (some .boolean)) ∈ xG := xG_3 226 rfl rfl
theorem wd_704 : (Cond.methodLink "EventGraphTextModel" 146 ⟨"EventGraphTextModel", "wrongPair", "(II)Z"⟩) ∈ xG := xG_3 224 rfl rfl
theorem wd_705 : (Cond.static ⟨"EventGraphTextModel", "wrongPair", "(II)Z"⟩) ∈ xG := xG_3 225 rfl rfl
theorem wd_572 : (Cond.fieldLink "EventGraphTextModel" 48 "EventGraphTextModel" "thought" "[J") ∈ xG := xG_3 92 rfl rfl
theorem wd_573 : (Cond.fieldLink "EventGraphTextModel" 51 "EventGraphTextModel" "load" "[J") ∈ xG := xG_3 93 rfl rfl
theorem wd_574 : (Cond.fieldLink "EventGraphTextModel" 54 "EventGraphTextModel" "sender" "[I") ∈ xG := xG_3 94 rfl rfl
theorem wd_575 : (Cond.fieldLink "EventGraphTextModel" 57 "EventGraphTextModel" "receiver" "[I") ∈ xG := xG_3 95 rfl rfl
theorem wd_714 : (Cond.code ⟨"EventGraphTextModel", "none", "(I)Z"⟩ prog_10_method_24_code 2 (some .boolean)) ∈ xG := xG_3 234 rfl rfl
theorem wd_711 : (Cond.methodLink "EventGraphTextModel" 149 ⟨"EventGraphTextModel", "none", "(I)Z"⟩) ∈ xG := xG_3 231 rfl rfl
theorem wd_713 : (Cond.instanceMethod ⟨"EventGraphTextModel", "none", "(I)Z"⟩) ∈ xG := xG_3 233 rfl rfl
theorem wds_27 : (Cond.selects "EventGraphTextModel" ⟨"EventGraphTextModel", "none", "(I)Z"⟩ ⟨"EventGraphTextModel", "none", "(I)Z"⟩) ∈ xG := xG_of (List.mem_append_left _ (by decide +kernel)) rfl
theorem wd_729 : (Cond.code ⟨"EventGraphTextModel", "many", "(J)I"⟩ prog_10_method_4_code 4 (some .int)) ∈ xG := xG_4 9 rfl rfl
theorem wd_727 : (Cond.methodLink "EventGraphTextModel" 159 ⟨"EventGraphTextModel", "many", "(J)I"⟩) ∈ xG := xG_4 7 rfl rfl
theorem wd_728 : (Cond.static ⟨"EventGraphTextModel", "many", "(J)I"⟩) ∈ xG := xG_4 8 rfl rfl
theorem wd_722 : (Cond.code ⟨"EventGraphTextModel", "whole", "(J)J"⟩ prog_10_method_26_code 6 (some .long)) ∈ xG := xG_4 2 rfl rfl
theorem wd_719 : (Cond.methodLink "EventGraphTextModel" 152 ⟨"EventGraphTextModel", "whole", "(J)J"⟩) ∈ xG := xG_3 239 rfl rfl
theorem wd_721 : (Cond.instanceMethod ⟨"EventGraphTextModel", "whole", "(J)J"⟩) ∈ xG := xG_4 1 rfl rfl
theorem wds_28 : (Cond.selects "EventGraphTextModel" ⟨"EventGraphTextModel", "whole", "(J)J"⟩ ⟨"EventGraphTextModel", "whole", "(J)J"⟩) ∈ xG := xG_of (List.mem_append_left _ (by decide +kernel)) rfl
theorem wd_726 : (Cond.code ⟨"EventGraphTextModel", "believed", "(II)I"⟩ prog_10_method_28_code 3 (some .int)) ∈ xG := xG_4 6 rfl rfl
theorem wd_723 : (Cond.methodLink "EventGraphTextModel" 155 ⟨"EventGraphTextModel", "believed", "(II)I"⟩) ∈ xG := xG_4 3 rfl rfl
theorem wd_724 : (Cond.instanceMethod ⟨"EventGraphTextModel", "believed", "(II)I"⟩) ∈ xG := xG_4 4 rfl rfl
theorem wd_725 : (Cond.selects "EventGraphTextModel" ⟨"EventGraphTextModel", "believed", "(II)I"⟩ ⟨"EventGraphTextModel", "believed", "(II)I"⟩) ∈ xG := xG_4 5 rfl rfl
theorem wd_746 : (Cond.code ⟨"EventGraphTextModel", "isCritical", "(JI)Z"⟩ prog_10_method_30_code 5 (some .boolean)) ∈ xG := xG_4 26 rfl rfl
theorem wd_743 : (Cond.methodLink "EventGraphTextModel" 167 ⟨"EventGraphTextModel", "isCritical", "(JI)Z"⟩) ∈ xG := xG_4 23 rfl rfl
theorem wd_745 : (Cond.instanceMethod ⟨"EventGraphTextModel", "isCritical", "(JI)Z"⟩) ∈ xG := xG_4 25 rfl rfl
theorem wds_29 : (Cond.selects "EventGraphTextModel" ⟨"EventGraphTextModel", "isCritical", "(JI)Z"⟩ ⟨"EventGraphTextModel", "isCritical", "(JI)Z"⟩) ∈ xG := xG_of (List.mem_append_left _ (by decide +kernel)) rfl
theorem wd_742 : (Cond.code ⟨"EventGraphTextModel", "top", "(JJ)I"⟩ prog_10_method_31_code 7 (some .int)) ∈ xG := xG_4 22 rfl rfl
theorem wd_739 : (Cond.methodLink "EventGraphTextModel" 170 ⟨"EventGraphTextModel", "top", "(JJ)I"⟩) ∈ xG := xG_4 19 rfl rfl
theorem wd_741 : (Cond.instanceMethod ⟨"EventGraphTextModel", "top", "(JJ)I"⟩) ∈ xG := xG_4 21 rfl rfl
theorem wds_30 : (Cond.selects "EventGraphTextModel" ⟨"EventGraphTextModel", "top", "(JJ)I"⟩ ⟨"EventGraphTextModel", "top", "(JJ)I"⟩) ∈ xG := xG_of (List.mem_append_left _ (by decide +kernel)) rfl
theorem wd_750 : (Cond.code ⟨"EventGraphTextModel", "order", "(J)V"⟩ prog_10_method_22_code 7 none) ∈ xG := xG_4 30 rfl rfl
theorem wd_747 : (Cond.methodLink "EventGraphTextModel" 174 ⟨"EventGraphTextModel", "order", "(J)V"⟩) ∈ xG := xG_4 27 rfl rfl
theorem wd_749 : (Cond.instanceMethod ⟨"EventGraphTextModel", "order", "(J)V"⟩) ∈ xG := xG_4 29 rfl rfl
theorem wds_31 : (Cond.selects "EventGraphTextModel" ⟨"EventGraphTextModel", "order", "(J)V"⟩ ⟨"EventGraphTextModel", "order", "(J)V"⟩) ∈ xG := xG_of (List.mem_append_left _ (by decide +kernel)) rfl
theorem wd_576 : (Cond.fieldLink "EventGraphTextModel" 60 "EventGraphTextModel" "again" "[I") ∈ xG := xG_3 96 rfl rfl
theorem wd_577 : (Cond.fieldLink "EventGraphTextModel" 63 "EventGraphTextModel" "shifts" "[I") ∈ xG := xG_3 97 rfl rfl
theorem wd_578 : (Cond.fieldLink "EventGraphTextModel" 66 "EventGraphTextModel" "dones" "[I") ∈ xG := xG_3 98 rfl rfl
theorem wd_579 : (Cond.fieldLink "EventGraphTextModel" 69 "EventGraphTextModel" "did" "[I") ∈ xG := xG_3 99 rfl rfl
theorem wd_762 : (Cond.code ⟨"EventGraphTextModel", "effect", "(JI)I"⟩ prog_10_method_33_code 7 (some .int)) ∈ xG := xG_4 42 rfl rfl
theorem wd_759 : (Cond.methodLink "EventGraphTextModel" 178 ⟨"EventGraphTextModel", "effect", "(JI)I"⟩) ∈ xG := xG_4 39 rfl rfl
theorem wd_761 : (Cond.instanceMethod ⟨"EventGraphTextModel", "effect", "(JI)I"⟩) ∈ xG := xG_4 41 rfl rfl
theorem wds_32 : (Cond.selects "EventGraphTextModel" ⟨"EventGraphTextModel", "effect", "(JI)I"⟩ ⟨"EventGraphTextModel", "effect", "(JI)I"⟩) ∈ xG := xG_of (List.mem_append_left _ (by decide +kernel)) rfl
theorem wd_738 : (Cond.code ⟨"EventGraphTextModel", "merge", "(IJ)V"⟩ prog_10_method_32_code 16 none) ∈ xG := xG_4 18 rfl rfl
theorem wd_735 : (Cond.methodLink "EventGraphTextModel" 163 ⟨"EventGraphTextModel", "merge", "(IJ)V"⟩) ∈ xG := xG_4 15 rfl rfl
theorem wd_737 : (Cond.instanceMethod ⟨"EventGraphTextModel", "merge", "(IJ)V"⟩) ∈ xG := xG_4 17 rfl rfl
theorem wds_33 : (Cond.selects "EventGraphTextModel" ⟨"EventGraphTextModel", "merge", "(IJ)V"⟩ ⟨"EventGraphTextModel", "merge", "(IJ)V"⟩) ∈ xG := xG_of (List.mem_append_left _ (by decide +kernel)) rfl
theorem wd_582 : (Cond.fieldLink "EventGraphTextModel" 75 "EventGraphTextModel" "out" "[I") ∈ xG := xG_3 102 rfl rfl
theorem wd_583 : (Cond.fieldLink "EventGraphTextModel" 181 "EventGraphTextModel" "size" "I") ∈ xG := xG_3 103 rfl rfl
theorem wd_774 : (Cond.code ⟨"EventGraphTextModel", "put", "(I)V"⟩ prog_10_method_34_code 4 none) ∈ xG := xG_4 54 rfl rfl
theorem wd_771 : (Cond.methodLink "EventGraphTextModel" 184 ⟨"EventGraphTextModel", "put", "(I)V"⟩) ∈ xG := xG_4 51 rfl rfl
theorem wd_773 : (Cond.instanceMethod ⟨"EventGraphTextModel", "put", "(I)V"⟩) ∈ xG := xG_4 53 rfl rfl
theorem wds_34 : (Cond.selects "EventGraphTextModel" ⟨"EventGraphTextModel", "put", "(I)V"⟩ ⟨"EventGraphTextModel", "put", "(I)V"⟩) ∈ xG := xG_of (List.mem_append_left _ (by decide +kernel)) rfl
theorem wd_778 : (Cond.code ⟨"EventGraphTextModel", "putRuns", "()V"⟩ prog_10_method_36_code 5 none) ∈ xG := xG_4 58 rfl rfl
theorem wd_775 : (Cond.methodLink "EventGraphTextModel" 187 ⟨"EventGraphTextModel", "putRuns", "()V"⟩) ∈ xG := xG_4 55 rfl rfl
theorem wd_777 : (Cond.instanceMethod ⟨"EventGraphTextModel", "putRuns", "()V"⟩) ∈ xG := xG_4 57 rfl rfl
theorem wds_35 : (Cond.selects "EventGraphTextModel" ⟨"EventGraphTextModel", "putRuns", "()V"⟩ ⟨"EventGraphTextModel", "putRuns", "()V"⟩) ∈ xG := xG_of (List.mem_append_left _ (by decide +kernel)) rfl
theorem wd_786 : (Cond.code ⟨"EventGraphTextModel", "putParents", "(I)V"⟩ prog_10_method_37_code 5 none) ∈ xG := xG_4 66 rfl rfl
theorem wd_783 : (Cond.methodLink "EventGraphTextModel" 193 ⟨"EventGraphTextModel", "putParents", "(I)V"⟩) ∈ xG := xG_4 63 rfl rfl
theorem wd_785 : (Cond.instanceMethod ⟨"EventGraphTextModel", "putParents", "(I)V"⟩) ∈ xG := xG_4 65 rfl rfl
theorem wds_36 : (Cond.selects "EventGraphTextModel" ⟨"EventGraphTextModel", "putParents", "(I)V"⟩ ⟨"EventGraphTextModel", "putParents", "(I)V"⟩) ∈ xG := xG_of (List.mem_append_left _ (by decide +kernel)) rfl
theorem wd_782 : (Cond.code ⟨"EventGraphTextModel", "putSigned", "(I)V"⟩ prog_10_method_35_code 2 none) ∈ xG := xG_4 62 rfl rfl
theorem wd_779 : (Cond.methodLink "EventGraphTextModel" 190 ⟨"EventGraphTextModel", "putSigned", "(I)V"⟩) ∈ xG := xG_4 59 rfl rfl
theorem wd_781 : (Cond.instanceMethod ⟨"EventGraphTextModel", "putSigned", "(I)V"⟩) ∈ xG := xG_4 61 rfl rfl
theorem wds_37 : (Cond.selects "EventGraphTextModel" ⟨"EventGraphTextModel", "putSigned", "(I)V"⟩ ⟨"EventGraphTextModel", "putSigned", "(I)V"⟩) ∈ xG := xG_of (List.mem_append_left _ (by decide +kernel)) rfl
theorem wd_770 : (Cond.code ⟨"EventGraphTextModel", "write", "(I)V"⟩ prog_10_method_38_code 4 none) ∈ xG := xG_4 50 rfl rfl
theorem wd_767 : (Cond.methodLink "EventGraphTextModel" 196 ⟨"EventGraphTextModel", "write", "(I)V"⟩) ∈ xG := xG_4 47 rfl rfl
theorem wd_769 : (Cond.instanceMethod ⟨"EventGraphTextModel", "write", "(I)V"⟩) ∈ xG := xG_4 49 rfl rfl
theorem wds_38 : (Cond.selects "EventGraphTextModel" ⟨"EventGraphTextModel", "write", "(I)V"⟩ ⟨"EventGraphTextModel", "write", "(I)V"⟩) ∈ xG := xG_of (List.mem_append_left _ (by decide +kernel)) rfl
theorem wd_810 : (Cond.code ⟨"EventGraphTextModel", "find", "(II)I"⟩ prog_10_method_44_code 4 (some .int)) ∈ xG := xG_4 90 rfl rfl
theorem wd_807 : (Cond.methodLink "EventGraphTextModel" 199 ⟨"EventGraphTextModel", "find", "(II)I"⟩) ∈ xG := xG_4 87 rfl rfl
theorem wd_809 : (Cond.instanceMethod ⟨"EventGraphTextModel", "find", "(II)I"⟩) ∈ xG := xG_4 89 rfl rfl
theorem wds_39 : (Cond.selects "EventGraphTextModel" ⟨"EventGraphTextModel", "find", "(II)I"⟩ ⟨"EventGraphTextModel", "find", "(II)I"⟩) ∈ xG := xG_of (List.mem_append_left _ (by decide +kernel)) rfl
theorem wd_69 : (Cond.laysFinal "EventGraphText$CharacterList" "EventGraphText$CharacterList" "order" "[I") ∈ xG := xG_1 69 rfl rfl
theorem wd_71 : (Cond.laysFinal "EventGraphText$CharacterList" "EventGraphText$CharacterList" "holders" "[I") ∈ xG := xG_1 71 rfl rfl
theorem wd_73 : (Cond.laysFinal "EventGraphText$CharacterList" "EventGraphText$CharacterList" "onTheRight" "[Z") ∈ xG := xG_1 73 rfl rfl
theorem wd_75 : (Cond.laysFinal "EventGraphText$CharacterList" "EventGraphText$CharacterList" "chains" "[J") ∈ xG := xG_1 75 rfl rfl
theorem wd_77 : (Cond.laysFinal "EventGraphText$CharacterList" "EventGraphText$CharacterList" "taken" "[I") ∈ xG := xG_1 77 rfl rfl
theorem wd_79 : (Cond.lays "EventGraphText$CharacterList" "EventGraphText$CharacterList" "deletes" "J") ∈ xG := xG_1 79 rfl rfl
theorem wd_81 : (Cond.lays "EventGraphText$CharacterList" "EventGraphText$CharacterList" "inserts" "J") ∈ xG := xG_1 81 rfl rfl
theorem wd_83 : (Cond.lays "EventGraphText$CharacterList" "EventGraphText$CharacterList" "count" "I") ∈ xG := xG_1 83 rfl rfl
theorem wd_34 : (Cond.laysFinal "EventGraphText$History" "EventGraphText$History" "sites" "[I") ∈ xG := xG_1 34 rfl rfl
theorem wd_36 : (Cond.laysFinal "EventGraphText$History" "EventGraphText$History" "numbers" "[I") ∈ xG := xG_1 36 rfl rfl
theorem wd_38 : (Cond.laysFinal "EventGraphText$History" "EventGraphText$History" "indices" "[I") ∈ xG := xG_1 38 rfl rfl
theorem wd_40 : (Cond.laysFinal "EventGraphText$History" "EventGraphText$History" "characters" "[I") ∈ xG := xG_1 40 rfl rfl
theorem wd_42 : (Cond.laysFinal "EventGraphText$History" "EventGraphText$History" "parents" "[J") ∈ xG := xG_1 42 rfl rfl
theorem wd_44 : (Cond.laysFinal "EventGraphText$History" "EventGraphText$History" "ancestors" "[J") ∈ xG := xG_1 44 rfl rfl
theorem wd_46 : (Cond.laysFinal "EventGraphText$History" "EventGraphText$History" "slots" "[I") ∈ xG := xG_1 46 rfl rfl
theorem wd_48 : (Cond.laysFinal "EventGraphText$History" "EventGraphText$History" "made" "[I") ∈ xG := xG_1 48 rfl rfl
theorem wd_50 : (Cond.lays "EventGraphText$History" "EventGraphText$History" "count" "I") ∈ xG := xG_1 50 rfl rfl
theorem wd_95 : (Cond.laysFinal "EventGraphText$Line" "EventGraphText$Line" "slots" "[I") ∈ xG := xG_1 95 rfl rfl
theorem wd_97 : (Cond.lays "EventGraphText$Line" "EventGraphText$Line" "count" "I") ∈ xG := xG_1 97 rfl rfl
theorem wd_121 : (Cond.laysFinal "EventGraphText$Merge" "EventGraphText$Merge" "operations" "[I") ∈ xG := xG_1 121 rfl rfl
theorem wd_123 : (Cond.lays "EventGraphText$Merge" "EventGraphText$Merge" "applied" "I") ∈ xG := xG_1 123 rfl rfl
theorem wd_125 : (Cond.lays "EventGraphText$Merge" "EventGraphText$Merge" "replayed" "I") ∈ xG := xG_1 125 rfl rfl
theorem wd_127 : (Cond.lays "EventGraphText$Merge" "EventGraphText$Merge" "moves" "I") ∈ xG := xG_1 127 rfl rfl
theorem wd_173 : (Cond.laysFinal "EventGraphText$Message" "EventGraphText$Message" "octets" "LEventGraphText$OctetRow;") ∈ xG := xG_1 173 rfl rfl
theorem wd_175 : (Cond.lays "EventGraphText$Message" "EventGraphText$Message" "underWay" "Z") ∈ xG := xG_1 175 rfl rfl
theorem wd_177 : (Cond.lays "EventGraphText$Message" "EventGraphText$Message" "from" "I") ∈ xG := xG_1 177 rfl rfl
theorem wd_179 : (Cond.lays "EventGraphText$Message" "EventGraphText$Message" "to" "I") ∈ xG := xG_1 179 rfl rfl
theorem wd_181 : (Cond.lays "EventGraphText$Message" "EventGraphText$Message" "carried" "J") ∈ xG := xG_1 181 rfl rfl
theorem wd_158 : (Cond.laysFinal "EventGraphText$OctetRow" "EventGraphText$OctetRow" "row" "[I") ∈ xG := xG_1 158 rfl rfl
theorem wd_160 : (Cond.lays "EventGraphText$OctetRow" "EventGraphText$OctetRow" "count" "I") ∈ xG := xG_1 160 rfl rfl
theorem wd_136 : (Cond.laysFinal "EventGraphText$Site" "EventGraphText$Site" "beliefs" "[J") ∈ xG := xG_1 136 rfl rfl
theorem wd_138 : (Cond.laysFinal "EventGraphText$Site" "EventGraphText$Site" "merge" "LEventGraphText$Merge;") ∈ xG := xG_1 138 rfl rfl
theorem wd_140 : (Cond.lays "EventGraphText$Site" "EventGraphText$Site" "graph" "J") ∈ xG := xG_1 140 rfl rfl
theorem wd_189 : (Cond.laysFinal "EventGraphText" "EventGraphText" "history" "LEventGraphText$History;") ∈ xG := xG_1 189 rfl rfl
theorem wd_191 : (Cond.laysFinal "EventGraphText" "EventGraphText" "characters" "LEventGraphText$CharacterList;") ∈ xG := xG_1 191 rfl rfl
theorem wd_193 : (Cond.laysFinal "EventGraphText" "EventGraphText" "line" "LEventGraphText$Line;") ∈ xG := xG_1 193 rfl rfl
theorem wd_195 : (Cond.laysFinal "EventGraphText" "EventGraphText" "sites" "[LEventGraphText$Site;") ∈ xG := xG_1 195 rfl rfl
theorem wd_197 : (Cond.laysFinal "EventGraphText" "EventGraphText" "messages" "[LEventGraphText$Message;") ∈ xG := xG_1 197 rfl rfl
theorem wd_584 : (Cond.lays "EventGraphTextModel" "EventGraphTextModel" "made" "I") ∈ xG := xG_3 104 rfl rfl
theorem wd_586 : (Cond.laysFinal "EventGraphTextModel" "EventGraphTextModel" "site" "[I") ∈ xG := xG_3 106 rfl rfl
theorem wd_588 : (Cond.laysFinal "EventGraphTextModel" "EventGraphTextModel" "number" "[I") ∈ xG := xG_3 108 rfl rfl
theorem wd_590 : (Cond.laysFinal "EventGraphTextModel" "EventGraphTextModel" "inserts" "[Z") ∈ xG := xG_3 110 rfl rfl
theorem wd_592 : (Cond.laysFinal "EventGraphTextModel" "EventGraphTextModel" "index" "[I") ∈ xG := xG_3 112 rfl rfl
theorem wd_594 : (Cond.laysFinal "EventGraphTextModel" "EventGraphTextModel" "letter" "[I") ∈ xG := xG_3 114 rfl rfl
theorem wd_596 : (Cond.laysFinal "EventGraphTextModel" "EventGraphTextModel" "earlier" "[J") ∈ xG := xG_3 116 rfl rfl
theorem wd_598 : (Cond.laysFinal "EventGraphTextModel" "EventGraphTextModel" "parents" "[J") ∈ xG := xG_3 118 rfl rfl
theorem wd_600 : (Cond.laysFinal "EventGraphTextModel" "EventGraphTextModel" "place" "[I") ∈ xG := xG_3 120 rfl rfl
theorem wd_602 : (Cond.laysFinal "EventGraphTextModel" "EventGraphTextModel" "right" "[Z") ∈ xG := xG_3 122 rfl rfl
theorem wd_604 : (Cond.laysFinal "EventGraphTextModel" "EventGraphTextModel" "depth" "[I") ∈ xG := xG_3 124 rfl rfl
theorem wd_606 : (Cond.laysFinal "EventGraphTextModel" "EventGraphTextModel" "row" "[I") ∈ xG := xG_3 126 rfl rfl
theorem wd_608 : (Cond.lays "EventGraphTextModel" "EventGraphTextModel" "chars" "I") ∈ xG := xG_3 128 rfl rfl
theorem wd_610 : (Cond.laysFinal "EventGraphTextModel" "EventGraphTextModel" "graph" "[J") ∈ xG := xG_3 130 rfl rfl
theorem wd_612 : (Cond.laysFinal "EventGraphTextModel" "EventGraphTextModel" "thought" "[J") ∈ xG := xG_3 132 rfl rfl
theorem wd_614 : (Cond.laysFinal "EventGraphTextModel" "EventGraphTextModel" "load" "[J") ∈ xG := xG_3 134 rfl rfl
theorem wd_616 : (Cond.laysFinal "EventGraphTextModel" "EventGraphTextModel" "sender" "[I") ∈ xG := xG_3 136 rfl rfl
theorem wd_618 : (Cond.laysFinal "EventGraphTextModel" "EventGraphTextModel" "receiver" "[I") ∈ xG := xG_3 138 rfl rfl
theorem wd_620 : (Cond.laysFinal "EventGraphTextModel" "EventGraphTextModel" "again" "[I") ∈ xG := xG_3 140 rfl rfl
theorem wd_622 : (Cond.laysFinal "EventGraphTextModel" "EventGraphTextModel" "shifts" "[I") ∈ xG := xG_3 142 rfl rfl
theorem wd_624 : (Cond.laysFinal "EventGraphTextModel" "EventGraphTextModel" "dones" "[I") ∈ xG := xG_3 144 rfl rfl
theorem wd_626 : (Cond.laysFinal "EventGraphTextModel" "EventGraphTextModel" "did" "[I") ∈ xG := xG_3 146 rfl rfl
theorem wd_628 : (Cond.laysFinal "EventGraphTextModel" "EventGraphTextModel" "turn" "[I") ∈ xG := xG_3 148 rfl rfl
theorem wd_630 : (Cond.lays "EventGraphTextModel" "EventGraphTextModel" "turns" "I") ∈ xG := xG_3 150 rfl rfl
theorem wd_632 : (Cond.laysFinal "EventGraphTextModel" "EventGraphTextModel" "out" "[I") ∈ xG := xG_3 152 rfl rfl
theorem wd_634 : (Cond.lays "EventGraphTextModel" "EventGraphTextModel" "size" "I") ∈ xG := xG_3 154 rfl rfl
def xnF : List (String × Nat × String × String × String × String) := [("EventGraphText", 203, "EventGraphText$Merge", "operations", "[I", "EventGraphText"), ("EventGraphText", 200, "EventGraphText$Merge", "applied", "I", "EventGraphText"), ("EventGraphText", 194, "EventGraphText$Merge", "replayed", "I", "EventGraphText"), ("EventGraphText", 197, "EventGraphText$Merge", "moves", "I", "EventGraphText"), ("EventGraphText", 97, "EventGraphText$Site", "beliefs", "[J", "EventGraphText"), ("EventGraphText", 138, "EventGraphText$Site", "merge", "LEventGraphText$Merge;", "EventGraphText"), ("EventGraphText", 52, "EventGraphText$Site", "graph", "J", "EventGraphText"), ("EventGraphText", 155, "EventGraphText$Message", "octets", "LEventGraphText$OctetRow;", "EventGraphText"), ("EventGraphText", 148, "EventGraphText$Message", "underWay", "Z", "EventGraphText"), ("EventGraphText", 132, "EventGraphText$Message", "from", "I", "EventGraphText"), ("EventGraphText", 125, "EventGraphText$Message", "to", "I", "EventGraphText"), ("EventGraphText", 122, "EventGraphText$Message", "carried", "J", "EventGraphText")]
def xnM : List (String × Nat × MethodName × String) := [("EventGraphText", 9, ⟨"EventGraphText$History", "<init>", "()V"⟩, "EventGraphText"), ("EventGraphText", 18, ⟨"EventGraphText$CharacterList", "<init>", "()V"⟩, "EventGraphText"), ("EventGraphText", 25, ⟨"EventGraphText$Line", "<init>", "()V"⟩, "EventGraphText"), ("EventGraphText", 36, ⟨"EventGraphText$Site", "<init>", "()V"⟩, "EventGraphText"), ("EventGraphText$Site", 17, ⟨"EventGraphText$Merge", "<init>", "()V"⟩, "EventGraphText"), ("EventGraphText", 43, ⟨"EventGraphText$Message", "<init>", "()V"⟩, "EventGraphText"), ("EventGraphText$Message", 11, ⟨"EventGraphText$OctetRow", "<init>", "()V"⟩, "EventGraphText"), ("EventGraphText$CharacterList", 44, ⟨"EventGraphText", "has", "(JI)Z"⟩, "EventGraphText"), ("EventGraphText$CharacterList", 40, ⟨"EventGraphText", "bit", "(I)J"⟩, "EventGraphText"), ("EventGraphText$History", 53, ⟨"EventGraphText", "has", "(JI)Z"⟩, "EventGraphText"), ("EventGraphText$History", 49, ⟨"EventGraphText", "bit", "(I)J"⟩, "EventGraphText"), ("EventGraphText$Line", 25, ⟨"EventGraphText", "bit", "(I)J"⟩, "EventGraphText"), ("EventGraphText$Message", 91, ⟨"EventGraphText", "bit", "(I)J"⟩, "EventGraphText"), ("EventGraphText$Merge", 92, ⟨"EventGraphText", "has", "(JI)Z"⟩, "EventGraphText"), ("EventGraphText$Merge", 89, ⟨"EventGraphText", "bit", "(I)J"⟩, "EventGraphText"), ("EventGraphText$History", 45, ⟨"EventGraphText", "isSite", "(I)Z"⟩, "EventGraphText")]
def xNw (U : State) : Prop := (∀ q ∈ xnF, va_Nw (.fieldLinkNest q.1 q.2.1 q.2.2.1 q.2.2.2.1 q.2.2.2.2.1 q.2.2.2.2.2) U) ∧ ∀ q ∈ xnM, va_Nw (.methodLinkNest q.1 q.2.1 q.2.2.1 q.2.2.2) U
theorem xNw_warm {s U : State} (hW : s.WarmedH U.vm) (h : xNw s) : xNw U := ⟨fun q hq => va_Nw.warmF hW (h.1 q hq), fun q hq => va_Nw.warmM hW (h.2 q hq)⟩
theorem xNw_same {u U : State} (hv : u.vm = U.vm) (h : xNw u) : xNw U := ⟨fun q hq => va_Nw.same rfl hv (h.1 q hq), fun q hq => va_Nw.same rfl hv (h.2 q hq)⟩
theorem nf_0 {U : State} (h : xNw U) : va_Nw (Cond.fieldLinkNest "EventGraphText" 203 "EventGraphText$Merge" "operations" "[I" "EventGraphText") U := h.1 ("EventGraphText", 203, "EventGraphText$Merge", "operations", "[I", "EventGraphText") (List.mem_of_getElem? (i := 0) rfl)
theorem nf_1 {U : State} (h : xNw U) : va_Nw (Cond.fieldLinkNest "EventGraphText" 200 "EventGraphText$Merge" "applied" "I" "EventGraphText") U := h.1 ("EventGraphText", 200, "EventGraphText$Merge", "applied", "I", "EventGraphText") (List.mem_of_getElem? (i := 1) rfl)
theorem nf_2 {U : State} (h : xNw U) : va_Nw (Cond.fieldLinkNest "EventGraphText" 194 "EventGraphText$Merge" "replayed" "I" "EventGraphText") U := h.1 ("EventGraphText", 194, "EventGraphText$Merge", "replayed", "I", "EventGraphText") (List.mem_of_getElem? (i := 2) rfl)
theorem nf_3 {U : State} (h : xNw U) : va_Nw (Cond.fieldLinkNest "EventGraphText" 197 "EventGraphText$Merge" "moves" "I" "EventGraphText") U := h.1 ("EventGraphText", 197, "EventGraphText$Merge", "moves", "I", "EventGraphText") (List.mem_of_getElem? (i := 3) rfl)
theorem nf_4 {U : State} (h : xNw U) : va_Nw (Cond.fieldLinkNest "EventGraphText" 97 "EventGraphText$Site" "beliefs" "[J" "EventGraphText") U := h.1 ("EventGraphText", 97, "EventGraphText$Site", "beliefs", "[J", "EventGraphText") (List.mem_of_getElem? (i := 4) rfl)
theorem nf_5 {U : State} (h : xNw U) : va_Nw (Cond.fieldLinkNest "EventGraphText" 138 "EventGraphText$Site" "merge" "LEventGraphText$Merge;" "EventGraphText") U := h.1 ("EventGraphText", 138, "EventGraphText$Site", "merge", "LEventGraphText$Merge;", "EventGraphText") (List.mem_of_getElem? (i := 5) rfl)
theorem nf_6 {U : State} (h : xNw U) : va_Nw (Cond.fieldLinkNest "EventGraphText" 52 "EventGraphText$Site" "graph" "J" "EventGraphText") U := h.1 ("EventGraphText", 52, "EventGraphText$Site", "graph", "J", "EventGraphText") (List.mem_of_getElem? (i := 6) rfl)
theorem nf_7 {U : State} (h : xNw U) : va_Nw (Cond.fieldLinkNest "EventGraphText" 155 "EventGraphText$Message" "octets" "LEventGraphText$OctetRow;" "EventGraphText") U := h.1 ("EventGraphText", 155, "EventGraphText$Message", "octets", "LEventGraphText$OctetRow;", "EventGraphText") (List.mem_of_getElem? (i := 7) rfl)
theorem nf_8 {U : State} (h : xNw U) : va_Nw (Cond.fieldLinkNest "EventGraphText" 148 "EventGraphText$Message" "underWay" "Z" "EventGraphText") U := h.1 ("EventGraphText", 148, "EventGraphText$Message", "underWay", "Z", "EventGraphText") (List.mem_of_getElem? (i := 8) rfl)
theorem nf_9 {U : State} (h : xNw U) : va_Nw (Cond.fieldLinkNest "EventGraphText" 132 "EventGraphText$Message" "from" "I" "EventGraphText") U := h.1 ("EventGraphText", 132, "EventGraphText$Message", "from", "I", "EventGraphText") (List.mem_of_getElem? (i := 9) rfl)
theorem nf_10 {U : State} (h : xNw U) : va_Nw (Cond.fieldLinkNest "EventGraphText" 125 "EventGraphText$Message" "to" "I" "EventGraphText") U := h.1 ("EventGraphText", 125, "EventGraphText$Message", "to", "I", "EventGraphText") (List.mem_of_getElem? (i := 10) rfl)
theorem nf_11 {U : State} (h : xNw U) : va_Nw (Cond.fieldLinkNest "EventGraphText" 122 "EventGraphText$Message" "carried" "J" "EventGraphText") U := h.1 ("EventGraphText", 122, "EventGraphText$Message", "carried", "J", "EventGraphText") (List.mem_of_getElem? (i := 11) rfl)
theorem nmm_0 {U : State} (h : xNw U) : va_Nw (Cond.methodLinkNest "EventGraphText" 9 ⟨"EventGraphText$History", "<init>", "()V"⟩ "EventGraphText") U := h.2 ("EventGraphText", 9, ⟨"EventGraphText$History", "<init>", "()V"⟩, "EventGraphText") (List.mem_of_getElem? (i := 0) rfl)
theorem nmm_1 {U : State} (h : xNw U) : va_Nw (Cond.methodLinkNest "EventGraphText" 18 ⟨"EventGraphText$CharacterList", "<init>", "()V"⟩ "EventGraphText") U := h.2 ("EventGraphText", 18, ⟨"EventGraphText$CharacterList", "<init>", "()V"⟩, "EventGraphText") (List.mem_of_getElem? (i := 1) rfl)
theorem nmm_2 {U : State} (h : xNw U) : va_Nw (Cond.methodLinkNest "EventGraphText" 25 ⟨"EventGraphText$Line", "<init>", "()V"⟩ "EventGraphText") U := h.2 ("EventGraphText", 25, ⟨"EventGraphText$Line", "<init>", "()V"⟩, "EventGraphText") (List.mem_of_getElem? (i := 2) rfl)
theorem nmm_3 {U : State} (h : xNw U) : va_Nw (Cond.methodLinkNest "EventGraphText" 36 ⟨"EventGraphText$Site", "<init>", "()V"⟩ "EventGraphText") U := h.2 ("EventGraphText", 36, ⟨"EventGraphText$Site", "<init>", "()V"⟩, "EventGraphText") (List.mem_of_getElem? (i := 3) rfl)
theorem nmm_4 {U : State} (h : xNw U) : va_Nw (Cond.methodLinkNest "EventGraphText$Site" 17 ⟨"EventGraphText$Merge", "<init>", "()V"⟩ "EventGraphText") U := h.2 ("EventGraphText$Site", 17, ⟨"EventGraphText$Merge", "<init>", "()V"⟩, "EventGraphText") (List.mem_of_getElem? (i := 4) rfl)
theorem nmm_5 {U : State} (h : xNw U) : va_Nw (Cond.methodLinkNest "EventGraphText" 43 ⟨"EventGraphText$Message", "<init>", "()V"⟩ "EventGraphText") U := h.2 ("EventGraphText", 43, ⟨"EventGraphText$Message", "<init>", "()V"⟩, "EventGraphText") (List.mem_of_getElem? (i := 5) rfl)
theorem nmm_6 {U : State} (h : xNw U) : va_Nw (Cond.methodLinkNest "EventGraphText$Message" 11 ⟨"EventGraphText$OctetRow", "<init>", "()V"⟩ "EventGraphText") U := h.2 ("EventGraphText$Message", 11, ⟨"EventGraphText$OctetRow", "<init>", "()V"⟩, "EventGraphText") (List.mem_of_getElem? (i := 6) rfl)
theorem nmm_7 {U : State} (h : xNw U) : va_Nw (Cond.methodLinkNest "EventGraphText$CharacterList" 44 ⟨"EventGraphText", "has", "(JI)Z"⟩ "EventGraphText") U := h.2 ("EventGraphText$CharacterList", 44, ⟨"EventGraphText", "has", "(JI)Z"⟩, "EventGraphText") (List.mem_of_getElem? (i := 7) rfl)
theorem nmm_8 {U : State} (h : xNw U) : va_Nw (Cond.methodLinkNest "EventGraphText$CharacterList" 40 ⟨"EventGraphText", "bit", "(I)J"⟩ "EventGraphText") U := h.2 ("EventGraphText$CharacterList", 40, ⟨"EventGraphText", "bit", "(I)J"⟩, "EventGraphText") (List.mem_of_getElem? (i := 8) rfl)
theorem nmm_9 {U : State} (h : xNw U) : va_Nw (Cond.methodLinkNest "EventGraphText$History" 53 ⟨"EventGraphText", "has", "(JI)Z"⟩ "EventGraphText") U := h.2 ("EventGraphText$History", 53, ⟨"EventGraphText", "has", "(JI)Z"⟩, "EventGraphText") (List.mem_of_getElem? (i := 9) rfl)
theorem nmm_10 {U : State} (h : xNw U) : va_Nw (Cond.methodLinkNest "EventGraphText$History" 49 ⟨"EventGraphText", "bit", "(I)J"⟩ "EventGraphText") U := h.2 ("EventGraphText$History", 49, ⟨"EventGraphText", "bit", "(I)J"⟩, "EventGraphText") (List.mem_of_getElem? (i := 10) rfl)
theorem nmm_11 {U : State} (h : xNw U) : va_Nw (Cond.methodLinkNest "EventGraphText$Line" 25 ⟨"EventGraphText", "bit", "(I)J"⟩ "EventGraphText") U := h.2 ("EventGraphText$Line", 25, ⟨"EventGraphText", "bit", "(I)J"⟩, "EventGraphText") (List.mem_of_getElem? (i := 11) rfl)
theorem nmm_12 {U : State} (h : xNw U) : va_Nw (Cond.methodLinkNest "EventGraphText$Message" 91 ⟨"EventGraphText", "bit", "(I)J"⟩ "EventGraphText") U := h.2 ("EventGraphText$Message", 91, ⟨"EventGraphText", "bit", "(I)J"⟩, "EventGraphText") (List.mem_of_getElem? (i := 12) rfl)
theorem nmm_13 {U : State} (h : xNw U) : va_Nw (Cond.methodLinkNest "EventGraphText$Merge" 92 ⟨"EventGraphText", "has", "(JI)Z"⟩ "EventGraphText") U := h.2 ("EventGraphText$Merge", 92, ⟨"EventGraphText", "has", "(JI)Z"⟩, "EventGraphText") (List.mem_of_getElem? (i := 13) rfl)
theorem nmm_14 {U : State} (h : xNw U) : va_Nw (Cond.methodLinkNest "EventGraphText$Merge" 89 ⟨"EventGraphText", "bit", "(I)J"⟩ "EventGraphText") U := h.2 ("EventGraphText$Merge", 89, ⟨"EventGraphText", "bit", "(I)J"⟩, "EventGraphText") (List.mem_of_getElem? (i := 14) rfl)
theorem nmm_15 {U : State} (h : xNw U) : va_Nw (Cond.methodLinkNest "EventGraphText$History" 45 ⟨"EventGraphText", "isSite", "(I)Z"⟩ "EventGraphText") U := h.2 ("EventGraphText$History", 45, ⟨"EventGraphText", "isSite", "(I)Z"⟩, "EventGraphText") (List.mem_of_getElem? (i := 15) rfl)
end
section
def T_CharacterList : u_T := fun k => match k with
  | 0 => ("EventGraphText$CharacterList", "order", "[I", true)
  | 1 => ("EventGraphText$CharacterList", "holders", "[I", true)
  | 2 => ("EventGraphText$CharacterList", "onTheRight", "[Z", true)
  | 3 => ("EventGraphText$CharacterList", "chains", "[J", true)
  | 4 => ("EventGraphText$CharacterList", "taken", "[I", true)
  | 5 => ("EventGraphText$CharacterList", "deletes", "J", false)
  | 6 => ("EventGraphText$CharacterList", "inserts", "J", false)
  | _ => ("EventGraphText$CharacterList", "count", "I", false)
def ty_CharacterList : Nat → FieldType := fun k => match k with
  | 0 => .array .int
  | 1 => .array .int
  | 2 => .array .boolean
  | 3 => .array .long
  | 4 => .array .int
  | 5 => .long
  | 6 => .long
  | _ => .int
theorem nm_CharacterList : ∀ a, a < 8 → ∀ b, b < 8 → a ≠ b → (T_CharacterList a).2.1 ≠ (T_CharacterList b).2.1 := by decide +kernel
theorem tyok_CharacterList : ∀ k, k < 8 → parseFieldDescriptor (T_CharacterList k).2.2.1 = some (ty_CharacterList k) := by decide +kernel
theorem hin_CharacterList : ∀ w ∈ u_ws "EventGraphText$CharacterList" T_CharacterList 8, w ∈ xG := by
  intro w hw
  obtain ⟨k, hk, rfl⟩ := List.mem_map.mp hw
  have hk := List.mem_range.mp hk
  match k, hk with
  | 0, _ => exact wd_69
  | 1, _ => exact wd_71
  | 2, _ => exact wd_73
  | 3, _ => exact wd_75
  | 4, _ => exact wd_77
  | 5, _ => exact wd_79
  | 6, _ => exact wd_81
  | 7, _ => exact wd_83
  | k + 8, h => exact absurd h (by omega)
def T_History : u_T := fun k => match k with
  | 0 => ("EventGraphText$History", "sites", "[I", true)
  | 1 => ("EventGraphText$History", "numbers", "[I", true)
  | 2 => ("EventGraphText$History", "indices", "[I", true)
  | 3 => ("EventGraphText$History", "characters", "[I", true)
  | 4 => ("EventGraphText$History", "parents", "[J", true)
  | 5 => ("EventGraphText$History", "ancestors", "[J", true)
  | 6 => ("EventGraphText$History", "slots", "[I", true)
  | 7 => ("EventGraphText$History", "made", "[I", true)
  | _ => ("EventGraphText$History", "count", "I", false)
def ty_History : Nat → FieldType := fun k => match k with
  | 0 => .array .int
  | 1 => .array .int
  | 2 => .array .int
  | 3 => .array .int
  | 4 => .array .long
  | 5 => .array .long
  | 6 => .array .int
  | 7 => .array .int
  | _ => .int
theorem nm_History : ∀ a, a < 9 → ∀ b, b < 9 → a ≠ b → (T_History a).2.1 ≠ (T_History b).2.1 := by decide +kernel
theorem tyok_History : ∀ k, k < 9 → parseFieldDescriptor (T_History k).2.2.1 = some (ty_History k) := by decide +kernel
theorem hin_History : ∀ w ∈ u_ws "EventGraphText$History" T_History 9, w ∈ xG := by
  intro w hw
  obtain ⟨k, hk, rfl⟩ := List.mem_map.mp hw
  have hk := List.mem_range.mp hk
  match k, hk with
  | 0, _ => exact wd_34
  | 1, _ => exact wd_36
  | 2, _ => exact wd_38
  | 3, _ => exact wd_40
  | 4, _ => exact wd_42
  | 5, _ => exact wd_44
  | 6, _ => exact wd_46
  | 7, _ => exact wd_48
  | 8, _ => exact wd_50
  | k + 9, h => exact absurd h (by omega)
def T_Line : u_T := fun k => match k with
  | 0 => ("EventGraphText$Line", "slots", "[I", true)
  | _ => ("EventGraphText$Line", "count", "I", false)
def ty_Line : Nat → FieldType := fun k => match k with
  | 0 => .array .int
  | _ => .int
theorem nm_Line : ∀ a, a < 2 → ∀ b, b < 2 → a ≠ b → (T_Line a).2.1 ≠ (T_Line b).2.1 := by decide +kernel
theorem tyok_Line : ∀ k, k < 2 → parseFieldDescriptor (T_Line k).2.2.1 = some (ty_Line k) := by decide +kernel
theorem hin_Line : ∀ w ∈ u_ws "EventGraphText$Line" T_Line 2, w ∈ xG := by
  intro w hw
  obtain ⟨k, hk, rfl⟩ := List.mem_map.mp hw
  have hk := List.mem_range.mp hk
  match k, hk with
  | 0, _ => exact wd_95
  | 1, _ => exact wd_97
  | k + 2, h => exact absurd h (by omega)
def T_Merge : u_T := fun k => match k with
  | 0 => ("EventGraphText$Merge", "operations", "[I", true)
  | 1 => ("EventGraphText$Merge", "applied", "I", false)
  | 2 => ("EventGraphText$Merge", "replayed", "I", false)
  | _ => ("EventGraphText$Merge", "moves", "I", false)
def ty_Merge : Nat → FieldType := fun k => match k with
  | 0 => .array .int
  | 1 => .int
  | 2 => .int
  | _ => .int
theorem nm_Merge : ∀ a, a < 4 → ∀ b, b < 4 → a ≠ b → (T_Merge a).2.1 ≠ (T_Merge b).2.1 := by decide +kernel
theorem tyok_Merge : ∀ k, k < 4 → parseFieldDescriptor (T_Merge k).2.2.1 = some (ty_Merge k) := by decide +kernel
theorem hin_Merge : ∀ w ∈ u_ws "EventGraphText$Merge" T_Merge 4, w ∈ xG := by
  intro w hw
  obtain ⟨k, hk, rfl⟩ := List.mem_map.mp hw
  have hk := List.mem_range.mp hk
  match k, hk with
  | 0, _ => exact wd_121
  | 1, _ => exact wd_123
  | 2, _ => exact wd_125
  | 3, _ => exact wd_127
  | k + 4, h => exact absurd h (by omega)
def T_Message : u_T := fun k => match k with
  | 0 => ("EventGraphText$Message", "octets", "LEventGraphText$OctetRow;", true)
  | 1 => ("EventGraphText$Message", "underWay", "Z", false)
  | 2 => ("EventGraphText$Message", "from", "I", false)
  | 3 => ("EventGraphText$Message", "to", "I", false)
  | _ => ("EventGraphText$Message", "carried", "J", false)
def ty_Message : Nat → FieldType := fun k => match k with
  | 0 => .object "EventGraphText$OctetRow"
  | 1 => .boolean
  | 2 => .int
  | 3 => .int
  | _ => .long
theorem nm_Message : ∀ a, a < 5 → ∀ b, b < 5 → a ≠ b → (T_Message a).2.1 ≠ (T_Message b).2.1 := by decide +kernel
theorem tyok_Message : ∀ k, k < 5 → parseFieldDescriptor (T_Message k).2.2.1 = some (ty_Message k) := by decide +kernel
theorem hin_Message : ∀ w ∈ u_ws "EventGraphText$Message" T_Message 5, w ∈ xG := by
  intro w hw
  obtain ⟨k, hk, rfl⟩ := List.mem_map.mp hw
  have hk := List.mem_range.mp hk
  match k, hk with
  | 0, _ => exact wd_173
  | 1, _ => exact wd_175
  | 2, _ => exact wd_177
  | 3, _ => exact wd_179
  | 4, _ => exact wd_181
  | k + 5, h => exact absurd h (by omega)
def T_OctetRow : u_T := fun k => match k with
  | 0 => ("EventGraphText$OctetRow", "row", "[I", true)
  | _ => ("EventGraphText$OctetRow", "count", "I", false)
def ty_OctetRow : Nat → FieldType := fun k => match k with
  | 0 => .array .int
  | _ => .int
theorem nm_OctetRow : ∀ a, a < 2 → ∀ b, b < 2 → a ≠ b → (T_OctetRow a).2.1 ≠ (T_OctetRow b).2.1 := by decide +kernel
theorem tyok_OctetRow : ∀ k, k < 2 → parseFieldDescriptor (T_OctetRow k).2.2.1 = some (ty_OctetRow k) := by decide +kernel
theorem hin_OctetRow : ∀ w ∈ u_ws "EventGraphText$OctetRow" T_OctetRow 2, w ∈ xG := by
  intro w hw
  obtain ⟨k, hk, rfl⟩ := List.mem_map.mp hw
  have hk := List.mem_range.mp hk
  match k, hk with
  | 0, _ => exact wd_158
  | 1, _ => exact wd_160
  | k + 2, h => exact absurd h (by omega)
def T_Site : u_T := fun k => match k with
  | 0 => ("EventGraphText$Site", "beliefs", "[J", true)
  | 1 => ("EventGraphText$Site", "merge", "LEventGraphText$Merge;", true)
  | _ => ("EventGraphText$Site", "graph", "J", false)
def ty_Site : Nat → FieldType := fun k => match k with
  | 0 => .array .long
  | 1 => .object "EventGraphText$Merge"
  | _ => .long
theorem nm_Site : ∀ a, a < 3 → ∀ b, b < 3 → a ≠ b → (T_Site a).2.1 ≠ (T_Site b).2.1 := by decide +kernel
theorem tyok_Site : ∀ k, k < 3 → parseFieldDescriptor (T_Site k).2.2.1 = some (ty_Site k) := by decide +kernel
theorem hin_Site : ∀ w ∈ u_ws "EventGraphText$Site" T_Site 3, w ∈ xG := by
  intro w hw
  obtain ⟨k, hk, rfl⟩ := List.mem_map.mp hw
  have hk := List.mem_range.mp hk
  match k, hk with
  | 0, _ => exact wd_136
  | 1, _ => exact wd_138
  | 2, _ => exact wd_140
  | k + 3, h => exact absurd h (by omega)
def T_Text : u_T := fun k => match k with
  | 0 => ("EventGraphText", "history", "LEventGraphText$History;", true)
  | 1 => ("EventGraphText", "characters", "LEventGraphText$CharacterList;", true)
  | 2 => ("EventGraphText", "line", "LEventGraphText$Line;", true)
  | 3 => ("EventGraphText", "sites", "[LEventGraphText$Site;", true)
  | _ => ("EventGraphText", "messages", "[LEventGraphText$Message;", true)
def ty_Text : Nat → FieldType := fun k => match k with
  | 0 => .object "EventGraphText$History"
  | 1 => .object "EventGraphText$CharacterList"
  | 2 => .object "EventGraphText$Line"
  | 3 => .array (.object "EventGraphText$Site")
  | _ => .array (.object "EventGraphText$Message")
theorem nm_Text : ∀ a, a < 5 → ∀ b, b < 5 → a ≠ b → (T_Text a).2.1 ≠ (T_Text b).2.1 := by decide +kernel
theorem tyok_Text : ∀ k, k < 5 → parseFieldDescriptor (T_Text k).2.2.1 = some (ty_Text k) := by decide +kernel
theorem hin_Text : ∀ w ∈ u_ws "EventGraphText" T_Text 5, w ∈ xG := by
  intro w hw
  obtain ⟨k, hk, rfl⟩ := List.mem_map.mp hw
  have hk := List.mem_range.mp hk
  match k, hk with
  | 0, _ => exact wd_189
  | 1, _ => exact wd_191
  | 2, _ => exact wd_193
  | 3, _ => exact wd_195
  | 4, _ => exact wd_197
  | k + 5, h => exact absurd h (by omega)
def T_Model : u_T := fun k => match k with
  | 0 => ("EventGraphTextModel", "made", "I", false)
  | 1 => ("EventGraphTextModel", "site", "[I", true)
  | 2 => ("EventGraphTextModel", "number", "[I", true)
  | 3 => ("EventGraphTextModel", "inserts", "[Z", true)
  | 4 => ("EventGraphTextModel", "index", "[I", true)
  | 5 => ("EventGraphTextModel", "letter", "[I", true)
  | 6 => ("EventGraphTextModel", "earlier", "[J", true)
  | 7 => ("EventGraphTextModel", "parents", "[J", true)
  | 8 => ("EventGraphTextModel", "place", "[I", true)
  | 9 => ("EventGraphTextModel", "right", "[Z", true)
  | 10 => ("EventGraphTextModel", "depth", "[I", true)
  | 11 => ("EventGraphTextModel", "row", "[I", true)
  | 12 => ("EventGraphTextModel", "chars", "I", false)
  | 13 => ("EventGraphTextModel", "graph", "[J", true)
  | 14 => ("EventGraphTextModel", "thought", "[J", true)
  | 15 => ("EventGraphTextModel", "load", "[J", true)
  | 16 => ("EventGraphTextModel", "sender", "[I", true)
  | 17 => ("EventGraphTextModel", "receiver", "[I", true)
  | 18 => ("EventGraphTextModel", "again", "[I", true)
  | 19 => ("EventGraphTextModel", "shifts", "[I", true)
  | 20 => ("EventGraphTextModel", "dones", "[I", true)
  | 21 => ("EventGraphTextModel", "did", "[I", true)
  | 22 => ("EventGraphTextModel", "turn", "[I", true)
  | 23 => ("EventGraphTextModel", "turns", "I", false)
  | 24 => ("EventGraphTextModel", "out", "[I", true)
  | _ => ("EventGraphTextModel", "size", "I", false)
def ty_Model : Nat → FieldType := fun k => match k with
  | 0 => .int
  | 1 => .array .int
  | 2 => .array .int
  | 3 => .array .boolean
  | 4 => .array .int
  | 5 => .array .int
  | 6 => .array .long
  | 7 => .array .long
  | 8 => .array .int
  | 9 => .array .boolean
  | 10 => .array .int
  | 11 => .array .int
  | 12 => .int
  | 13 => .array .long
  | 14 => .array .long
  | 15 => .array .long
  | 16 => .array .int
  | 17 => .array .int
  | 18 => .array .int
  | 19 => .array .int
  | 20 => .array .int
  | 21 => .array .int
  | 22 => .array .int
  | 23 => .int
  | 24 => .array .int
  | _ => .int
theorem nm_Model : ∀ a, a < 26 → ∀ b, b < 26 → a ≠ b → (T_Model a).2.1 ≠ (T_Model b).2.1 := by decide +kernel
theorem tyok_Model : ∀ k, k < 26 → parseFieldDescriptor (T_Model k).2.2.1 = some (ty_Model k) := by decide +kernel
theorem hin_Model : ∀ w ∈ u_ws "EventGraphTextModel" T_Model 26, w ∈ xG := by
  intro w hw
  obtain ⟨k, hk, rfl⟩ := List.mem_map.mp hw
  have hk := List.mem_range.mp hk
  match k, hk with
  | 0, _ => exact wd_584
  | 1, _ => exact wd_586
  | 2, _ => exact wd_588
  | 3, _ => exact wd_590
  | 4, _ => exact wd_592
  | 5, _ => exact wd_594
  | 6, _ => exact wd_596
  | 7, _ => exact wd_598
  | 8, _ => exact wd_600
  | 9, _ => exact wd_602
  | 10, _ => exact wd_604
  | 11, _ => exact wd_606
  | 12, _ => exact wd_608
  | 13, _ => exact wd_610
  | 14, _ => exact wd_612
  | 15, _ => exact wd_614
  | 16, _ => exact wd_616
  | 17, _ => exact wd_618
  | 18, _ => exact wd_620
  | 19, _ => exact wd_622
  | 20, _ => exact wd_624
  | 21, _ => exact wd_626
  | 22, _ => exact wd_628
  | 23, _ => exact wd_630
  | 24, _ => exact wd_632
  | 25, _ => exact wd_634
  | k + 26, h => exact absurd h (by omega)
abbrev xCl : List vw_C := [("EventGraphText$CharacterList", T_CharacterList, 8), ("EventGraphText$History", T_History, 9), ("EventGraphText$Line", T_Line, 2), ("EventGraphText$Merge", T_Merge, 4), ("EventGraphText$Message", T_Message, 5), ("EventGraphText$OctetRow", T_OctetRow, 2), ("EventGraphText$Site", T_Site, 3), ("EventGraphText", T_Text, 5), ("EventGraphTextModel", T_Model, 26)]
def xT (dT : Nat → ClassId) : List (ClassId × FieldType) := [(dT 0, .int), (dT 1, .long), (dT 2, .boolean), (dT 3, .object "EventGraphText$Site"), (dT 4, .object "EventGraphText$Message")]
abbrev y_Text_isSite : MethodName := ⟨"EventGraphText", "isSite", "(I)Z"⟩
abbrev b_Text_isSite : ByteArray := prog_1_method_23_code
theorem pd_Text_isSite : y_Text_isSite.cls = "EventGraphText" ∧ y_Text_isSite.cls ≠ "java/lang/invoke/MethodHandle" ∧ y_Text_isSite.cls ≠ "java/lang/invoke/VarHandle" ∧ (parseMethodDescriptor y_Text_isSite.desc).map (fun d => d.parameters.length) = some 1 := by decide +kernel
abbrev y_History_isFull : MethodName := ⟨"EventGraphText$History", "isFull", "()Z"⟩
abbrev b_History_isFull : ByteArray := prog_3_method_2_code
theorem pd_History_isFull : y_History_isFull.cls = "EventGraphText$History" ∧ y_History_isFull.cls ≠ "java/lang/invoke/MethodHandle" ∧ y_History_isFull.cls ≠ "java/lang/invoke/VarHandle" ∧ (parseMethodDescriptor y_History_isFull.desc).map (fun d => d.parameters.length) = some 0 := by decide +kernel
abbrev y_Text_bit : MethodName := ⟨"EventGraphText", "bit", "(I)J"⟩
abbrev b_Text_bit : ByteArray := prog_1_method_25_code
theorem pd_Text_bit : y_Text_bit.cls = "EventGraphText" ∧ y_Text_bit.cls ≠ "java/lang/invoke/MethodHandle" ∧ y_Text_bit.cls ≠ "java/lang/invoke/VarHandle" ∧ (parseMethodDescriptor y_Text_bit.desc).map (fun d => d.parameters.length) = some 1 := by decide +kernel
abbrev y_Text_has : MethodName := ⟨"EventGraphText", "has", "(JI)Z"⟩
abbrev b_Text_has : ByteArray := prog_1_method_26_code
theorem pd_Text_has : y_Text_has.cls = "EventGraphText" ∧ y_Text_has.cls ≠ "java/lang/invoke/MethodHandle" ∧ y_Text_has.cls ≠ "java/lang/invoke/VarHandle" ∧ (parseMethodDescriptor y_Text_has.desc).map (fun d => d.parameters.length) = some 2 := by decide +kernel
abbrev y_CharacterList_shownIn : MethodName := ⟨"EventGraphText$CharacterList", "shownIn", "(J)J"⟩
abbrev b_CharacterList_shownIn : ByteArray := prog_2_method_4_code
theorem pd_CharacterList_shownIn : y_CharacterList_shownIn.cls = "EventGraphText$CharacterList" ∧ y_CharacterList_shownIn.cls ≠ "java/lang/invoke/MethodHandle" ∧ y_CharacterList_shownIn.cls ≠ "java/lang/invoke/VarHandle" ∧ (parseMethodDescriptor y_CharacterList_shownIn.desc).map (fun d => d.parameters.length) = some 1 := by decide +kernel
abbrev y_Long_bitCount : MethodName := ⟨"java/lang/Long", "bitCount", "(J)I"⟩
abbrev b_Long_bitCount : ByteArray := prog_11_method_50_code
theorem pd_Long_bitCount : y_Long_bitCount.cls = "java/lang/Long" ∧ y_Long_bitCount.cls ≠ "java/lang/invoke/MethodHandle" ∧ y_Long_bitCount.cls ≠ "java/lang/invoke/VarHandle" ∧ (parseMethodDescriptor y_Long_bitCount.desc).map (fun d => d.parameters.length) = some 1 := by decide +kernel
abbrev y_CharacterList_shownAt : MethodName := ⟨"EventGraphText$CharacterList", "shownAt", "(JI)I"⟩
abbrev b_CharacterList_shownAt : ByteArray := prog_2_method_5_code
theorem pd_CharacterList_shownAt : y_CharacterList_shownAt.cls = "EventGraphText$CharacterList" ∧ y_CharacterList_shownAt.cls ≠ "java/lang/invoke/MethodHandle" ∧ y_CharacterList_shownAt.cls ≠ "java/lang/invoke/VarHandle" ∧ (parseMethodDescriptor y_CharacterList_shownAt.desc).map (fun d => d.parameters.length) = some 2 := by decide +kernel
abbrev y_History_parentsOfAll : MethodName := ⟨"EventGraphText$History", "parentsOfAll", "(J)J"⟩
abbrev b_History_parentsOfAll : ByteArray := prog_3_method_18_code
theorem pd_History_parentsOfAll : y_History_parentsOfAll.cls = "EventGraphText$History" ∧ y_History_parentsOfAll.cls ≠ "java/lang/invoke/MethodHandle" ∧ y_History_parentsOfAll.cls ≠ "java/lang/invoke/VarHandle" ∧ (parseMethodDescriptor y_History_parentsOfAll.desc).map (fun d => d.parameters.length) = some 1 := by decide +kernel
abbrev y_History_headsOf : MethodName := ⟨"EventGraphText$History", "headsOf", "(J)J"⟩
abbrev b_History_headsOf : ByteArray := prog_3_method_19_code
theorem pd_History_headsOf : y_History_headsOf.cls = "EventGraphText$History" ∧ y_History_headsOf.cls ≠ "java/lang/invoke/MethodHandle" ∧ y_History_headsOf.cls ≠ "java/lang/invoke/VarHandle" ∧ (parseMethodDescriptor y_History_headsOf.desc).map (fun d => d.parameters.length) = some 1 := by decide +kernel
abbrev y_History_record : MethodName := ⟨"EventGraphText$History", "record", "(IIIJ)I"⟩
abbrev b_History_record : ByteArray := prog_3_method_3_code
theorem pd_History_record : y_History_record.cls = "EventGraphText$History" ∧ y_History_record.cls ≠ "java/lang/invoke/MethodHandle" ∧ y_History_record.cls ≠ "java/lang/invoke/VarHandle" ∧ (parseMethodDescriptor y_History_record.desc).map (fun d => d.parameters.length) = some 4 := by decide +kernel
abbrev y_CharacterList_childrenOf : MethodName := ⟨"EventGraphText$CharacterList", "childrenOf", "(IZ)J"⟩
abbrev b_CharacterList_childrenOf : ByteArray := prog_2_method_8_code
theorem pd_CharacterList_childrenOf : y_CharacterList_childrenOf.cls = "EventGraphText$CharacterList" ∧ y_CharacterList_childrenOf.cls ≠ "java/lang/invoke/MethodHandle" ∧ y_CharacterList_childrenOf.cls ≠ "java/lang/invoke/VarHandle" ∧ (parseMethodDescriptor y_CharacterList_childrenOf.desc).map (fun d => d.parameters.length) = some 2 := by decide +kernel
abbrev y_CharacterList_nextBehind : MethodName := ⟨"EventGraphText$CharacterList", "nextBehind", "(IJ)I"⟩
abbrev b_CharacterList_nextBehind : ByteArray := prog_2_method_9_code
theorem pd_CharacterList_nextBehind : y_CharacterList_nextBehind.cls = "EventGraphText$CharacterList" ∧ y_CharacterList_nextBehind.cls ≠ "java/lang/invoke/MethodHandle" ∧ y_CharacterList_nextBehind.cls ≠ "java/lang/invoke/VarHandle" ∧ (parseMethodDescriptor y_CharacterList_nextBehind.desc).map (fun d => d.parameters.length) = some 2 := by decide +kernel
abbrev y_History_comesBefore : MethodName := ⟨"EventGraphText$History", "comesBefore", "(II)Z"⟩
abbrev b_History_comesBefore : ByteArray := prog_3_method_15_code
theorem pd_History_comesBefore : y_History_comesBefore.cls = "EventGraphText$History" ∧ y_History_comesBefore.cls ≠ "java/lang/invoke/MethodHandle" ∧ y_History_comesBefore.cls ≠ "java/lang/invoke/VarHandle" ∧ (parseMethodDescriptor y_History_comesBefore.desc).map (fun d => d.parameters.length) = some 2 := by decide +kernel
abbrev y_CharacterList_nearerSiblings : MethodName := ⟨"EventGraphText$CharacterList", "nearerSiblings", "(LEventGraphText$History;IIZ)J"⟩
abbrev b_CharacterList_nearerSiblings : ByteArray := prog_2_method_12_code
theorem pd_CharacterList_nearerSiblings : y_CharacterList_nearerSiblings.cls = "EventGraphText$CharacterList" ∧ y_CharacterList_nearerSiblings.cls ≠ "java/lang/invoke/MethodHandle" ∧ y_CharacterList_nearerSiblings.cls ≠ "java/lang/invoke/VarHandle" ∧ (parseMethodDescriptor y_CharacterList_nearerSiblings.desc).map (fun d => d.parameters.length) = some 4 := by decide +kernel
abbrev y_CharacterList_rightPosition : MethodName := ⟨"EventGraphText$CharacterList", "rightPosition", "(LEventGraphText$History;II)I"⟩
abbrev b_CharacterList_rightPosition : ByteArray := prog_2_method_11_code
theorem pd_CharacterList_rightPosition : y_CharacterList_rightPosition.cls = "EventGraphText$CharacterList" ∧ y_CharacterList_rightPosition.cls ≠ "java/lang/invoke/MethodHandle" ∧ y_CharacterList_rightPosition.cls ≠ "java/lang/invoke/VarHandle" ∧ (parseMethodDescriptor y_CharacterList_rightPosition.desc).map (fun d => d.parameters.length) = some 3 := by decide +kernel
abbrev y_CharacterList_leftPosition : MethodName := ⟨"EventGraphText$CharacterList", "leftPosition", "(LEventGraphText$History;II)I"⟩
abbrev b_CharacterList_leftPosition : ByteArray := prog_2_method_10_code
theorem pd_CharacterList_leftPosition : y_CharacterList_leftPosition.cls = "EventGraphText$CharacterList" ∧ y_CharacterList_leftPosition.cls ≠ "java/lang/invoke/MethodHandle" ∧ y_CharacterList_leftPosition.cls ≠ "java/lang/invoke/VarHandle" ∧ (parseMethodDescriptor y_CharacterList_leftPosition.desc).map (fun d => d.parameters.length) = some 3 := by decide +kernel
abbrev y_CharacterList_putBehind : MethodName := ⟨"EventGraphText$CharacterList", "putBehind", "(LEventGraphText$History;IIJ)V"⟩
abbrev b_CharacterList_putBehind : ByteArray := prog_2_method_7_code
theorem pd_CharacterList_putBehind : y_CharacterList_putBehind.cls = "EventGraphText$CharacterList" ∧ y_CharacterList_putBehind.cls ≠ "java/lang/invoke/MethodHandle" ∧ y_CharacterList_putBehind.cls ≠ "java/lang/invoke/VarHandle" ∧ (parseMethodDescriptor y_CharacterList_putBehind.desc).map (fun d => d.parameters.length) = some 4 := by decide +kernel
abbrev y_History_numberOf : MethodName := ⟨"EventGraphText$History", "numberOf", "(I)I"⟩
abbrev b_History_numberOf : ByteArray := prog_3_method_7_code
theorem pd_History_numberOf : y_History_numberOf.cls = "EventGraphText$History" ∧ y_History_numberOf.cls ≠ "java/lang/invoke/MethodHandle" ∧ y_History_numberOf.cls ≠ "java/lang/invoke/VarHandle" ∧ (parseMethodDescriptor y_History_numberOf.desc).map (fun d => d.parameters.length) = some 1 := by decide +kernel
abbrev y_Text_insert : MethodName := ⟨"EventGraphText", "insert", "(III)I"⟩
abbrev b_Text_insert : ByteArray := prog_1_method_2_code
theorem pd_Text_insert : y_Text_insert.cls = "EventGraphText" ∧ y_Text_insert.cls ≠ "java/lang/invoke/MethodHandle" ∧ y_Text_insert.cls ≠ "java/lang/invoke/VarHandle" ∧ (parseMethodDescriptor y_Text_insert.desc).map (fun d => d.parameters.length) = some 3 := by decide +kernel
abbrev y_CharacterList_hide : MethodName := ⟨"EventGraphText$CharacterList", "hide", "(II)V"⟩
abbrev b_CharacterList_hide : ByteArray := prog_2_method_2_code
theorem pd_CharacterList_hide : y_CharacterList_hide.cls = "EventGraphText$CharacterList" ∧ y_CharacterList_hide.cls ≠ "java/lang/invoke/MethodHandle" ∧ y_CharacterList_hide.cls ≠ "java/lang/invoke/VarHandle" ∧ (parseMethodDescriptor y_CharacterList_hide.desc).map (fun d => d.parameters.length) = some 2 := by decide +kernel
abbrev y_Text_delete : MethodName := ⟨"EventGraphText", "delete", "(II)I"⟩
abbrev b_Text_delete : ByteArray := prog_1_method_3_code
theorem pd_Text_delete : y_Text_delete.cls = "EventGraphText" ∧ y_Text_delete.cls ≠ "java/lang/invoke/MethodHandle" ∧ y_Text_delete.cls ≠ "java/lang/invoke/VarHandle" ∧ (parseMethodDescriptor y_Text_delete.desc).map (fun d => d.parameters.length) = some 2 := by decide +kernel
abbrev y_Text_length : MethodName := ⟨"EventGraphText", "length", "(I)I"⟩
abbrev b_Text_length : ByteArray := prog_1_method_4_code
theorem pd_Text_length : y_Text_length.cls = "EventGraphText" ∧ y_Text_length.cls ≠ "java/lang/invoke/MethodHandle" ∧ y_Text_length.cls ≠ "java/lang/invoke/VarHandle" ∧ (parseMethodDescriptor y_Text_length.desc).map (fun d => d.parameters.length) = some 1 := by decide +kernel
abbrev y_History_characterOf : MethodName := ⟨"EventGraphText$History", "characterOf", "(I)I"⟩
abbrev b_History_characterOf : ByteArray := prog_3_method_9_code
theorem pd_History_characterOf : y_History_characterOf.cls = "EventGraphText$History" ∧ y_History_characterOf.cls ≠ "java/lang/invoke/MethodHandle" ∧ y_History_characterOf.cls ≠ "java/lang/invoke/VarHandle" ∧ (parseMethodDescriptor y_History_characterOf.desc).map (fun d => d.parameters.length) = some 1 := by decide +kernel
abbrev y_Text_at : MethodName := ⟨"EventGraphText", "at", "(II)I"⟩
abbrev b_Text_at : ByteArray := prog_1_method_5_code
theorem pd_Text_at : y_Text_at.cls = "EventGraphText" ∧ y_Text_at.cls ≠ "java/lang/invoke/MethodHandle" ∧ y_Text_at.cls ≠ "java/lang/invoke/VarHandle" ∧ (parseMethodDescriptor y_Text_at.desc).map (fun d => d.parameters.length) = some 2 := by decide +kernel
abbrev y_Text_areTwoSites : MethodName := ⟨"EventGraphText", "areTwoSites", "(II)Z"⟩
abbrev b_Text_areTwoSites : ByteArray := prog_1_method_24_code
theorem pd_Text_areTwoSites : y_Text_areTwoSites.cls = "EventGraphText" ∧ y_Text_areTwoSites.cls ≠ "java/lang/invoke/MethodHandle" ∧ y_Text_areTwoSites.cls ≠ "java/lang/invoke/VarHandle" ∧ (parseMethodDescriptor y_Text_areTwoSites.desc).map (fun d => d.parameters.length) = some 2 := by decide +kernel
abbrev y_Text_freeNumber : MethodName := ⟨"EventGraphText", "freeNumber", "()I"⟩
abbrev b_Text_freeNumber : ByteArray := prog_1_method_22_code
theorem pd_Text_freeNumber : y_Text_freeNumber.cls = "EventGraphText" ∧ y_Text_freeNumber.cls ≠ "java/lang/invoke/MethodHandle" ∧ y_Text_freeNumber.cls ≠ "java/lang/invoke/VarHandle" ∧ (parseMethodDescriptor y_Text_freeNumber.desc).map (fun d => d.parameters.length) = some 0 := by decide +kernel
abbrev y_History_leastOf : MethodName := ⟨"EventGraphText$History", "leastOf", "(J)I"⟩
abbrev b_History_leastOf : ByteArray := prog_3_method_16_code
theorem pd_History_leastOf : y_History_leastOf.cls = "EventGraphText$History" ∧ y_History_leastOf.cls ≠ "java/lang/invoke/MethodHandle" ∧ y_History_leastOf.cls ≠ "java/lang/invoke/VarHandle" ∧ (parseMethodDescriptor y_History_leastOf.desc).map (fun d => d.parameters.length) = some 1 := by decide +kernel
abbrev y_History_nextOf : MethodName := ⟨"EventGraphText$History", "nextOf", "(JI)I"⟩
abbrev b_History_nextOf : ByteArray := prog_3_method_23_code
theorem pd_History_nextOf : y_History_nextOf.cls = "EventGraphText$History" ∧ y_History_nextOf.cls ≠ "java/lang/invoke/MethodHandle" ∧ y_History_nextOf.cls ≠ "java/lang/invoke/VarHandle" ∧ (parseMethodDescriptor y_History_nextOf.desc).map (fun d => d.parameters.length) = some 2 := by decide +kernel
abbrev y_Line_arrange : MethodName := ⟨"EventGraphText$Line", "arrange", "(LEventGraphText$History;J)V"⟩
abbrev b_Line_arrange : ByteArray := prog_4_method_2_code
theorem pd_Line_arrange : y_Line_arrange.cls = "EventGraphText$Line" ∧ y_Line_arrange.cls ≠ "java/lang/invoke/MethodHandle" ∧ y_Line_arrange.cls ≠ "java/lang/invoke/VarHandle" ∧ (parseMethodDescriptor y_Line_arrange.desc).map (fun d => d.parameters.length) = some 2 := by decide +kernel
abbrev y_Message_start : MethodName := ⟨"EventGraphText$Message", "start", "(IIJ)V"⟩
abbrev b_Message_start : ByteArray := prog_6_method_2_code
theorem pd_Message_start : y_Message_start.cls = "EventGraphText$Message" ∧ y_Message_start.cls ≠ "java/lang/invoke/MethodHandle" ∧ y_Message_start.cls ≠ "java/lang/invoke/VarHandle" ∧ (parseMethodDescriptor y_Message_start.desc).map (fun d => d.parameters.length) = some 3 := by decide +kernel
abbrev y_OctetRow_clear : MethodName := ⟨"EventGraphText$OctetRow", "clear", "()V"⟩
abbrev b_OctetRow_clear : ByteArray := prog_7_method_2_code
theorem pd_OctetRow_clear : y_OctetRow_clear.cls = "EventGraphText$OctetRow" ∧ y_OctetRow_clear.cls ≠ "java/lang/invoke/MethodHandle" ∧ y_OctetRow_clear.cls ≠ "java/lang/invoke/VarHandle" ∧ (parseMethodDescriptor y_OctetRow_clear.desc).map (fun d => d.parameters.length) = some 0 := by decide +kernel
abbrev y_Line_size : MethodName := ⟨"EventGraphText$Line", "size", "()I"⟩
abbrev b_Line_size : ByteArray := prog_4_method_3_code
theorem pd_Line_size : y_Line_size.cls = "EventGraphText$Line" ∧ y_Line_size.cls ≠ "java/lang/invoke/MethodHandle" ∧ y_Line_size.cls ≠ "java/lang/invoke/VarHandle" ∧ (parseMethodDescriptor y_Line_size.desc).map (fun d => d.parameters.length) = some 0 := by decide +kernel
abbrev y_OctetRow_add : MethodName := ⟨"EventGraphText$OctetRow", "add", "(I)V"⟩
abbrev b_OctetRow_add : ByteArray := prog_7_method_7_code
theorem pd_OctetRow_add : y_OctetRow_add.cls = "EventGraphText$OctetRow" ∧ y_OctetRow_add.cls ≠ "java/lang/invoke/MethodHandle" ∧ y_OctetRow_add.cls ≠ "java/lang/invoke/VarHandle" ∧ (parseMethodDescriptor y_OctetRow_add.desc).map (fun d => d.parameters.length) = some 1 := by decide +kernel
abbrev y_OctetRow_put : MethodName := ⟨"EventGraphText$OctetRow", "put", "(I)V"⟩
abbrev b_OctetRow_put : ByteArray := prog_7_method_5_code
theorem pd_OctetRow_put : y_OctetRow_put.cls = "EventGraphText$OctetRow" ∧ y_OctetRow_put.cls ≠ "java/lang/invoke/MethodHandle" ∧ y_OctetRow_put.cls ≠ "java/lang/invoke/VarHandle" ∧ (parseMethodDescriptor y_OctetRow_put.desc).map (fun d => d.parameters.length) = some 1 := by decide +kernel
abbrev y_Line_get : MethodName := ⟨"EventGraphText$Line", "get", "(I)I"⟩
abbrev b_Line_get : ByteArray := prog_4_method_4_code
theorem pd_Line_get : y_Line_get.cls = "EventGraphText$Line" ∧ y_Line_get.cls ≠ "java/lang/invoke/MethodHandle" ∧ y_Line_get.cls ≠ "java/lang/invoke/VarHandle" ∧ (parseMethodDescriptor y_Line_get.desc).map (fun d => d.parameters.length) = some 1 := by decide +kernel
abbrev y_History_siteOf : MethodName := ⟨"EventGraphText$History", "siteOf", "(I)I"⟩
abbrev b_History_siteOf : ByteArray := prog_3_method_6_code
theorem pd_History_siteOf : y_History_siteOf.cls = "EventGraphText$History" ∧ y_History_siteOf.cls ≠ "java/lang/invoke/MethodHandle" ∧ y_History_siteOf.cls ≠ "java/lang/invoke/VarHandle" ∧ (parseMethodDescriptor y_History_siteOf.desc).map (fun d => d.parameters.length) = some 1 := by decide +kernel
abbrev y_Message_writeSites : MethodName := ⟨"EventGraphText$Message", "writeSites", "(LEventGraphText$History;LEventGraphText$Line;)V"⟩
abbrev b_Message_writeSites : ByteArray := prog_6_method_4_code
theorem pd_Message_writeSites : y_Message_writeSites.cls = "EventGraphText$Message" ∧ y_Message_writeSites.cls ≠ "java/lang/invoke/MethodHandle" ∧ y_Message_writeSites.cls ≠ "java/lang/invoke/VarHandle" ∧ (parseMethodDescriptor y_Message_writeSites.desc).map (fun d => d.parameters.length) = some 2 := by decide +kernel
abbrev y_History_isInsert : MethodName := ⟨"EventGraphText$History", "isInsert", "(I)Z"⟩
abbrev b_History_isInsert : ByteArray := prog_3_method_10_code
theorem pd_History_isInsert : y_History_isInsert.cls = "EventGraphText$History" ∧ y_History_isInsert.cls ≠ "java/lang/invoke/MethodHandle" ∧ y_History_isInsert.cls ≠ "java/lang/invoke/VarHandle" ∧ (parseMethodDescriptor y_History_isInsert.desc).map (fun d => d.parameters.length) = some 1 := by decide +kernel
abbrev y_Message_writeKinds : MethodName := ⟨"EventGraphText$Message", "writeKinds", "(LEventGraphText$History;LEventGraphText$Line;)V"⟩
abbrev b_Message_writeKinds : ByteArray := prog_6_method_5_code
theorem pd_Message_writeKinds : y_Message_writeKinds.cls = "EventGraphText$Message" ∧ y_Message_writeKinds.cls ≠ "java/lang/invoke/MethodHandle" ∧ y_Message_writeKinds.cls ≠ "java/lang/invoke/VarHandle" ∧ (parseMethodDescriptor y_Message_writeKinds.desc).map (fun d => d.parameters.length) = some 2 := by decide +kernel
abbrev y_History_indexOf : MethodName := ⟨"EventGraphText$History", "indexOf", "(I)I"⟩
abbrev b_History_indexOf : ByteArray := prog_3_method_8_code
theorem pd_History_indexOf : y_History_indexOf.cls = "EventGraphText$History" ∧ y_History_indexOf.cls ≠ "java/lang/invoke/MethodHandle" ∧ y_History_indexOf.cls ≠ "java/lang/invoke/VarHandle" ∧ (parseMethodDescriptor y_History_indexOf.desc).map (fun d => d.parameters.length) = some 1 := by decide +kernel
abbrev y_OctetRow_putSigned : MethodName := ⟨"EventGraphText$OctetRow", "putSigned", "(I)V"⟩
abbrev b_OctetRow_putSigned : ByteArray := prog_7_method_6_code
theorem pd_OctetRow_putSigned : y_OctetRow_putSigned.cls = "EventGraphText$OctetRow" ∧ y_OctetRow_putSigned.cls ≠ "java/lang/invoke/MethodHandle" ∧ y_OctetRow_putSigned.cls ≠ "java/lang/invoke/VarHandle" ∧ (parseMethodDescriptor y_OctetRow_putSigned.desc).map (fun d => d.parameters.length) = some 1 := by decide +kernel
abbrev y_Message_writeIndices : MethodName := ⟨"EventGraphText$Message", "writeIndices", "(LEventGraphText$History;LEventGraphText$Line;)V"⟩
abbrev b_Message_writeIndices : ByteArray := prog_6_method_6_code
theorem pd_Message_writeIndices : y_Message_writeIndices.cls = "EventGraphText$Message" ∧ y_Message_writeIndices.cls ≠ "java/lang/invoke/MethodHandle" ∧ y_Message_writeIndices.cls ≠ "java/lang/invoke/VarHandle" ∧ (parseMethodDescriptor y_Message_writeIndices.desc).map (fun d => d.parameters.length) = some 2 := by decide +kernel
abbrev y_Message_writeCharacters : MethodName := ⟨"EventGraphText$Message", "writeCharacters", "(LEventGraphText$History;LEventGraphText$Line;)V"⟩
abbrev b_Message_writeCharacters : ByteArray := prog_6_method_7_code
theorem pd_Message_writeCharacters : y_Message_writeCharacters.cls = "EventGraphText$Message" ∧ y_Message_writeCharacters.cls ≠ "java/lang/invoke/MethodHandle" ∧ y_Message_writeCharacters.cls ≠ "java/lang/invoke/VarHandle" ∧ (parseMethodDescriptor y_Message_writeCharacters.desc).map (fun d => d.parameters.length) = some 2 := by decide +kernel
abbrev y_History_parentsOf : MethodName := ⟨"EventGraphText$History", "parentsOf", "(I)J"⟩
abbrev b_History_parentsOf : ByteArray := prog_3_method_11_code
theorem pd_History_parentsOf : y_History_parentsOf.cls = "EventGraphText$History" ∧ y_History_parentsOf.cls ≠ "java/lang/invoke/MethodHandle" ∧ y_History_parentsOf.cls ≠ "java/lang/invoke/VarHandle" ∧ (parseMethodDescriptor y_History_parentsOf.desc).map (fun d => d.parameters.length) = some 1 := by decide +kernel
abbrev y_History_codeOf : MethodName := ⟨"EventGraphText$History", "codeOf", "(I)I"⟩
abbrev b_History_codeOf : ByteArray := prog_3_method_13_code
theorem pd_History_codeOf : y_History_codeOf.cls = "EventGraphText$History" ∧ y_History_codeOf.cls ≠ "java/lang/invoke/MethodHandle" ∧ y_History_codeOf.cls ≠ "java/lang/invoke/VarHandle" ∧ (parseMethodDescriptor y_History_codeOf.desc).map (fun d => d.parameters.length) = some 1 := by decide +kernel
abbrev y_Message_writeParentList : MethodName := ⟨"EventGraphText$Message", "writeParentList", "(LEventGraphText$History;J)V"⟩
abbrev b_Message_writeParentList : ByteArray := prog_6_method_9_code
theorem pd_Message_writeParentList : y_Message_writeParentList.cls = "EventGraphText$Message" ∧ y_Message_writeParentList.cls ≠ "java/lang/invoke/MethodHandle" ∧ y_Message_writeParentList.cls ≠ "java/lang/invoke/VarHandle" ∧ (parseMethodDescriptor y_Message_writeParentList.desc).map (fun d => d.parameters.length) = some 2 := by decide +kernel
abbrev y_Message_writeParents : MethodName := ⟨"EventGraphText$Message", "writeParents", "(LEventGraphText$History;LEventGraphText$Line;)V"⟩
abbrev b_Message_writeParents : ByteArray := prog_6_method_8_code
theorem pd_Message_writeParents : y_Message_writeParents.cls = "EventGraphText$Message" ∧ y_Message_writeParents.cls ≠ "java/lang/invoke/MethodHandle" ∧ y_Message_writeParents.cls ≠ "java/lang/invoke/VarHandle" ∧ (parseMethodDescriptor y_Message_writeParents.desc).map (fun d => d.parameters.length) = some 2 := by decide +kernel
abbrev y_Message_write : MethodName := ⟨"EventGraphText$Message", "write", "(LEventGraphText$History;LEventGraphText$Line;)V"⟩
abbrev b_Message_write : ByteArray := prog_6_method_3_code
theorem pd_Message_write : y_Message_write.cls = "EventGraphText$Message" ∧ y_Message_write.cls ≠ "java/lang/invoke/MethodHandle" ∧ y_Message_write.cls ≠ "java/lang/invoke/VarHandle" ∧ (parseMethodDescriptor y_Message_write.desc).map (fun d => d.parameters.length) = some 2 := by decide +kernel
abbrev y_Text_send : MethodName := ⟨"EventGraphText", "send", "(II)I"⟩
abbrev b_Text_send : ByteArray := prog_1_method_6_code
theorem pd_Text_send : y_Text_send.cls = "EventGraphText" ∧ y_Text_send.cls ≠ "java/lang/invoke/MethodHandle" ∧ y_Text_send.cls ≠ "java/lang/invoke/VarHandle" ∧ (parseMethodDescriptor y_Text_send.desc).map (fun d => d.parameters.length) = some 2 := by decide +kernel
abbrev y_Text_isUnderWay : MethodName := ⟨"EventGraphText", "isUnderWay", "(I)Z"⟩
abbrev b_Text_isUnderWay : ByteArray := prog_1_method_21_code
theorem pd_Text_isUnderWay : y_Text_isUnderWay.cls = "EventGraphText" ∧ y_Text_isUnderWay.cls ≠ "java/lang/invoke/MethodHandle" ∧ y_Text_isUnderWay.cls ≠ "java/lang/invoke/VarHandle" ∧ (parseMethodDescriptor y_Text_isUnderWay.desc).map (fun d => d.parameters.length) = some 1 := by decide +kernel
abbrev y_History_withAncestors : MethodName := ⟨"EventGraphText$History", "withAncestors", "(J)J"⟩
abbrev b_History_withAncestors : ByteArray := prog_3_method_17_code
theorem pd_History_withAncestors : y_History_withAncestors.cls = "EventGraphText$History" ∧ y_History_withAncestors.cls ≠ "java/lang/invoke/MethodHandle" ∧ y_History_withAncestors.cls ≠ "java/lang/invoke/VarHandle" ∧ (parseMethodDescriptor y_History_withAncestors.desc).map (fun d => d.parameters.length) = some 1 := by decide +kernel
abbrev y_History_upTo : MethodName := ⟨"EventGraphText$History", "upTo", "(I)J"⟩
abbrev b_History_upTo : ByteArray := prog_3_method_14_code
theorem pd_History_upTo : y_History_upTo.cls = "EventGraphText$History" ∧ y_History_upTo.cls ≠ "java/lang/invoke/MethodHandle" ∧ y_History_upTo.cls ≠ "java/lang/invoke/VarHandle" ∧ (parseMethodDescriptor y_History_upTo.desc).map (fun d => d.parameters.length) = some 1 := by decide +kernel
abbrev y_History_descendantsOf : MethodName := ⟨"EventGraphText$History", "descendantsOf", "(IJ)J"⟩
abbrev b_History_descendantsOf : ByteArray := prog_3_method_20_code
theorem pd_History_descendantsOf : y_History_descendantsOf.cls = "EventGraphText$History" ∧ y_History_descendantsOf.cls ≠ "java/lang/invoke/MethodHandle" ∧ y_History_descendantsOf.cls ≠ "java/lang/invoke/VarHandle" ∧ (parseMethodDescriptor y_History_descendantsOf.desc).map (fun d => d.parameters.length) = some 2 := by decide +kernel
abbrev y_History_isCritical : MethodName := ⟨"EventGraphText$History", "isCritical", "(IJ)Z"⟩
abbrev b_History_isCritical : ByteArray := prog_3_method_21_code
theorem pd_History_isCritical : y_History_isCritical.cls = "EventGraphText$History" ∧ y_History_isCritical.cls ≠ "java/lang/invoke/MethodHandle" ∧ y_History_isCritical.cls ≠ "java/lang/invoke/VarHandle" ∧ (parseMethodDescriptor y_History_isCritical.desc).map (fun d => d.parameters.length) = some 2 := by decide +kernel
abbrev y_History_lastCritical : MethodName := ⟨"EventGraphText$History", "lastCritical", "(JJ)I"⟩
abbrev b_History_lastCritical : ByteArray := prog_3_method_22_code
theorem pd_History_lastCritical : y_History_lastCritical.cls = "EventGraphText$History" ∧ y_History_lastCritical.cls ≠ "java/lang/invoke/MethodHandle" ∧ y_History_lastCritical.cls ≠ "java/lang/invoke/VarHandle" ∧ (parseMethodDescriptor y_History_lastCritical.desc).map (fun d => d.parameters.length) = some 2 := by decide +kernel
abbrev y_History_ancestorsOf : MethodName := ⟨"EventGraphText$History", "ancestorsOf", "(I)J"⟩
abbrev b_History_ancestorsOf : ByteArray := prog_3_method_12_code
theorem pd_History_ancestorsOf : y_History_ancestorsOf.cls = "EventGraphText$History" ∧ y_History_ancestorsOf.cls ≠ "java/lang/invoke/MethodHandle" ∧ y_History_ancestorsOf.cls ≠ "java/lang/invoke/VarHandle" ∧ (parseMethodDescriptor y_History_ancestorsOf.desc).map (fun d => d.parameters.length) = some 1 := by decide +kernel
abbrev y_Merge_passThrough : MethodName := ⟨"EventGraphText$Merge", "passThrough", "(LEventGraphText$History;LEventGraphText$Line;J)J"⟩
abbrev b_Merge_passThrough : ByteArray := prog_5_method_3_code
theorem pd_Merge_passThrough : y_Merge_passThrough.cls = "EventGraphText$Merge" ∧ y_Merge_passThrough.cls ≠ "java/lang/invoke/MethodHandle" ∧ y_Merge_passThrough.cls ≠ "java/lang/invoke/VarHandle" ∧ (parseMethodDescriptor y_Merge_passThrough.desc).map (fun d => d.parameters.length) = some 3 := by decide +kernel
abbrev y_CharacterList_indexIn : MethodName := ⟨"EventGraphText$CharacterList", "indexIn", "(JI)I"⟩
abbrev b_CharacterList_indexIn : ByteArray := prog_2_method_6_code
theorem pd_CharacterList_indexIn : y_CharacterList_indexIn.cls = "EventGraphText$CharacterList" ∧ y_CharacterList_indexIn.cls ≠ "java/lang/invoke/MethodHandle" ∧ y_CharacterList_indexIn.cls ≠ "java/lang/invoke/VarHandle" ∧ (parseMethodDescriptor y_CharacterList_indexIn.desc).map (fun d => d.parameters.length) = some 2 := by decide +kernel
abbrev y_CharacterList_takenBy : MethodName := ⟨"EventGraphText$CharacterList", "takenBy", "(I)I"⟩
abbrev b_CharacterList_takenBy : ByteArray := prog_2_method_3_code
theorem pd_CharacterList_takenBy : y_CharacterList_takenBy.cls = "EventGraphText$CharacterList" ∧ y_CharacterList_takenBy.cls ≠ "java/lang/invoke/MethodHandle" ∧ y_CharacterList_takenBy.cls ≠ "java/lang/invoke/VarHandle" ∧ (parseMethodDescriptor y_CharacterList_takenBy.desc).map (fun d => d.parameters.length) = some 1 := by decide +kernel
abbrev y_Merge_removal : MethodName := ⟨"EventGraphText$Merge", "removal", "(LEventGraphText$CharacterList;JI)I"⟩
abbrev b_Merge_removal : ByteArray := prog_5_method_5_code
theorem pd_Merge_removal : y_Merge_removal.cls = "EventGraphText$Merge" ∧ y_Merge_removal.cls ≠ "java/lang/invoke/MethodHandle" ∧ y_Merge_removal.cls ≠ "java/lang/invoke/VarHandle" ∧ (parseMethodDescriptor y_Merge_removal.desc).map (fun d => d.parameters.length) = some 3 := by decide +kernel
abbrev y_Merge_applyAll : MethodName := ⟨"EventGraphText$Merge", "applyAll", "(LEventGraphText$History;LEventGraphText$CharacterList;LEventGraphText$Line;J)V"⟩
abbrev b_Merge_applyAll : ByteArray := prog_5_method_4_code
theorem pd_Merge_applyAll : y_Merge_applyAll.cls = "EventGraphText$Merge" ∧ y_Merge_applyAll.cls ≠ "java/lang/invoke/MethodHandle" ∧ y_Merge_applyAll.cls ≠ "java/lang/invoke/VarHandle" ∧ (parseMethodDescriptor y_Merge_applyAll.desc).map (fun d => d.parameters.length) = some 4 := by decide +kernel
abbrev y_Merge_perform : MethodName := ⟨"EventGraphText$Merge", "perform", "(LEventGraphText$History;LEventGraphText$CharacterList;LEventGraphText$Line;JJ)V"⟩
abbrev b_Merge_perform : ByteArray := prog_5_method_2_code
theorem pd_Merge_perform : y_Merge_perform.cls = "EventGraphText$Merge" ∧ y_Merge_perform.cls ≠ "java/lang/invoke/MethodHandle" ∧ y_Merge_perform.cls ≠ "java/lang/invoke/VarHandle" ∧ (parseMethodDescriptor y_Merge_perform.desc).map (fun d => d.parameters.length) = some 5 := by decide +kernel
abbrev y_Text_deliver : MethodName := ⟨"EventGraphText", "deliver", "(I)I"⟩
abbrev b_Text_deliver : ByteArray := prog_1_method_7_code
theorem pd_Text_deliver : y_Text_deliver.cls = "EventGraphText" ∧ y_Text_deliver.cls ≠ "java/lang/invoke/MethodHandle" ∧ y_Text_deliver.cls ≠ "java/lang/invoke/VarHandle" ∧ (parseMethodDescriptor y_Text_deliver.desc).map (fun d => d.parameters.length) = some 1 := by decide +kernel
abbrev y_Text_discard : MethodName := ⟨"EventGraphText", "discard", "(I)Z"⟩
abbrev b_Text_discard : ByteArray := prog_1_method_8_code
theorem pd_Text_discard : y_Text_discard.cls = "EventGraphText" ∧ y_Text_discard.cls ≠ "java/lang/invoke/MethodHandle" ∧ y_Text_discard.cls ≠ "java/lang/invoke/VarHandle" ∧ (parseMethodDescriptor y_Text_discard.desc).map (fun d => d.parameters.length) = some 1 := by decide +kernel
abbrev y_Text_hear : MethodName := ⟨"EventGraphText", "hear", "(II)I"⟩
abbrev b_Text_hear : ByteArray := prog_1_method_9_code
theorem pd_Text_hear : y_Text_hear.cls = "EventGraphText" ∧ y_Text_hear.cls ≠ "java/lang/invoke/MethodHandle" ∧ y_Text_hear.cls ≠ "java/lang/invoke/VarHandle" ∧ (parseMethodDescriptor y_Text_hear.desc).map (fun d => d.parameters.length) = some 2 := by decide +kernel
abbrev y_Text_believed : MethodName := ⟨"EventGraphText", "believed", "(II)I"⟩
abbrev b_Text_believed : ByteArray := prog_1_method_10_code
theorem pd_Text_believed : y_Text_believed.cls = "EventGraphText" ∧ y_Text_believed.cls ≠ "java/lang/invoke/MethodHandle" ∧ y_Text_believed.cls ≠ "java/lang/invoke/VarHandle" ∧ (parseMethodDescriptor y_Text_believed.desc).map (fun d => d.parameters.length) = some 2 := by decide +kernel
abbrev y_OctetRow_size : MethodName := ⟨"EventGraphText$OctetRow", "size", "()I"⟩
abbrev b_OctetRow_size : ByteArray := prog_7_method_3_code
theorem pd_OctetRow_size : y_OctetRow_size.cls = "EventGraphText$OctetRow" ∧ y_OctetRow_size.cls ≠ "java/lang/invoke/MethodHandle" ∧ y_OctetRow_size.cls ≠ "java/lang/invoke/VarHandle" ∧ (parseMethodDescriptor y_OctetRow_size.desc).map (fun d => d.parameters.length) = some 0 := by decide +kernel
abbrev y_Text_octets : MethodName := ⟨"EventGraphText", "octets", "(I)I"⟩
abbrev b_Text_octets : ByteArray := prog_1_method_11_code
theorem pd_Text_octets : y_Text_octets.cls = "EventGraphText" ∧ y_Text_octets.cls ≠ "java/lang/invoke/MethodHandle" ∧ y_Text_octets.cls ≠ "java/lang/invoke/VarHandle" ∧ (parseMethodDescriptor y_Text_octets.desc).map (fun d => d.parameters.length) = some 1 := by decide +kernel
abbrev y_OctetRow_get : MethodName := ⟨"EventGraphText$OctetRow", "get", "(I)I"⟩
abbrev b_OctetRow_get : ByteArray := prog_7_method_4_code
theorem pd_OctetRow_get : y_OctetRow_get.cls = "EventGraphText$OctetRow" ∧ y_OctetRow_get.cls ≠ "java/lang/invoke/MethodHandle" ∧ y_OctetRow_get.cls ≠ "java/lang/invoke/VarHandle" ∧ (parseMethodDescriptor y_OctetRow_get.desc).map (fun d => d.parameters.length) = some 1 := by decide +kernel
abbrev y_Text_octet : MethodName := ⟨"EventGraphText", "octet", "(II)I"⟩
abbrev b_Text_octet : ByteArray := prog_1_method_12_code
theorem pd_Text_octet : y_Text_octet.cls = "EventGraphText" ∧ y_Text_octet.cls ≠ "java/lang/invoke/MethodHandle" ∧ y_Text_octet.cls ≠ "java/lang/invoke/VarHandle" ∧ (parseMethodDescriptor y_Text_octet.desc).map (fun d => d.parameters.length) = some 2 := by decide +kernel
abbrev y_Text_events : MethodName := ⟨"EventGraphText", "events", "(I)I"⟩
abbrev b_Text_events : ByteArray := prog_1_method_13_code
theorem pd_Text_events : y_Text_events.cls = "EventGraphText" ∧ y_Text_events.cls ≠ "java/lang/invoke/MethodHandle" ∧ y_Text_events.cls ≠ "java/lang/invoke/VarHandle" ∧ (parseMethodDescriptor y_Text_events.desc).map (fun d => d.parameters.length) = some 1 := by decide +kernel
abbrev y_Text_heads : MethodName := ⟨"EventGraphText", "heads", "(I)I"⟩
abbrev b_Text_heads : ByteArray := prog_1_method_14_code
theorem pd_Text_heads : y_Text_heads.cls = "EventGraphText" ∧ y_Text_heads.cls ≠ "java/lang/invoke/MethodHandle" ∧ y_Text_heads.cls ≠ "java/lang/invoke/VarHandle" ∧ (parseMethodDescriptor y_Text_heads.desc).map (fun d => d.parameters.length) = some 1 := by decide +kernel
abbrev y_Text_head : MethodName := ⟨"EventGraphText", "head", "(II)I"⟩
abbrev b_Text_head : ByteArray := prog_1_method_15_code
theorem pd_Text_head : y_Text_head.cls = "EventGraphText" ∧ y_Text_head.cls ≠ "java/lang/invoke/MethodHandle" ∧ y_Text_head.cls ≠ "java/lang/invoke/VarHandle" ∧ (parseMethodDescriptor y_Text_head.desc).map (fun d => d.parameters.length) = some 2 := by decide +kernel
abbrev y_History_wasMade : MethodName := ⟨"EventGraphText$History", "wasMade", "(II)Z"⟩
abbrev b_History_wasMade : ByteArray := prog_3_method_4_code
theorem pd_History_wasMade : y_History_wasMade.cls = "EventGraphText$History" ∧ y_History_wasMade.cls ≠ "java/lang/invoke/MethodHandle" ∧ y_History_wasMade.cls ≠ "java/lang/invoke/VarHandle" ∧ (parseMethodDescriptor y_History_wasMade.desc).map (fun d => d.parameters.length) = some 2 := by decide +kernel
abbrev y_History_slotOf : MethodName := ⟨"EventGraphText$History", "slotOf", "(II)I"⟩
abbrev b_History_slotOf : ByteArray := prog_3_method_5_code
theorem pd_History_slotOf : y_History_slotOf.cls = "EventGraphText$History" ∧ y_History_slotOf.cls ≠ "java/lang/invoke/MethodHandle" ∧ y_History_slotOf.cls ≠ "java/lang/invoke/VarHandle" ∧ (parseMethodDescriptor y_History_slotOf.desc).map (fun d => d.parameters.length) = some 2 := by decide +kernel
abbrev y_Text_ancestor : MethodName := ⟨"EventGraphText", "ancestor", "(IIII)I"⟩
abbrev b_Text_ancestor : ByteArray := prog_1_method_16_code
theorem pd_Text_ancestor : y_Text_ancestor.cls = "EventGraphText" ∧ y_Text_ancestor.cls ≠ "java/lang/invoke/MethodHandle" ∧ y_Text_ancestor.cls ≠ "java/lang/invoke/VarHandle" ∧ (parseMethodDescriptor y_Text_ancestor.desc).map (fun d => d.parameters.length) = some 4 := by decide +kernel
abbrev y_Text_critical : MethodName := ⟨"EventGraphText", "critical", "(I)I"⟩
abbrev b_Text_critical : ByteArray := prog_1_method_17_code
theorem pd_Text_critical : y_Text_critical.cls = "EventGraphText" ∧ y_Text_critical.cls ≠ "java/lang/invoke/MethodHandle" ∧ y_Text_critical.cls ≠ "java/lang/invoke/VarHandle" ∧ (parseMethodDescriptor y_Text_critical.desc).map (fun d => d.parameters.length) = some 1 := by decide +kernel
abbrev y_Text_replayed : MethodName := ⟨"EventGraphText", "replayed", "(I)I"⟩
abbrev b_Text_replayed : ByteArray := prog_1_method_18_code
theorem pd_Text_replayed : y_Text_replayed.cls = "EventGraphText" ∧ y_Text_replayed.cls ≠ "java/lang/invoke/MethodHandle" ∧ y_Text_replayed.cls ≠ "java/lang/invoke/VarHandle" ∧ (parseMethodDescriptor y_Text_replayed.desc).map (fun d => d.parameters.length) = some 1 := by decide +kernel
abbrev y_Text_moves : MethodName := ⟨"EventGraphText", "moves", "(I)I"⟩
abbrev b_Text_moves : ByteArray := prog_1_method_19_code
theorem pd_Text_moves : y_Text_moves.cls = "EventGraphText" ∧ y_Text_moves.cls ≠ "java/lang/invoke/MethodHandle" ∧ y_Text_moves.cls ≠ "java/lang/invoke/VarHandle" ∧ (parseMethodDescriptor y_Text_moves.desc).map (fun d => d.parameters.length) = some 1 := by decide +kernel
abbrev y_Text_operation : MethodName := ⟨"EventGraphText", "operation", "(II)I"⟩
abbrev b_Text_operation : ByteArray := prog_1_method_20_code
theorem pd_Text_operation : y_Text_operation.cls = "EventGraphText" ∧ y_Text_operation.cls ≠ "java/lang/invoke/MethodHandle" ∧ y_Text_operation.cls ≠ "java/lang/invoke/VarHandle" ∧ (parseMethodDescriptor y_Text_operation.desc).map (fun d => d.parameters.length) = some 2 := by decide +kernel
abbrev y_Model_in : MethodName := ⟨"EventGraphTextModel", "in", "(JI)Z"⟩
abbrev b_Model_in : ByteArray := prog_10_method_2_code
theorem pd_Model_in : y_Model_in.cls = "EventGraphTextModel" ∧ y_Model_in.cls ≠ "java/lang/invoke/MethodHandle" ∧ y_Model_in.cls ≠ "java/lang/invoke/VarHandle" ∧ (parseMethodDescriptor y_Model_in.desc).map (fun d => d.parameters.length) = some 2 := by decide +kernel
abbrev y_Model_one : MethodName := ⟨"EventGraphTextModel", "one", "(I)J"⟩
abbrev b_Model_one : ByteArray := prog_10_method_3_code
theorem pd_Model_one : y_Model_one.cls = "EventGraphTextModel" ∧ y_Model_one.cls ≠ "java/lang/invoke/MethodHandle" ∧ y_Model_one.cls ≠ "java/lang/invoke/VarHandle" ∧ (parseMethodDescriptor y_Model_one.desc).map (fun d => d.parameters.length) = some 1 := by decide +kernel
abbrev y_Model_many : MethodName := ⟨"EventGraphTextModel", "many", "(J)I"⟩
abbrev b_Model_many : ByteArray := prog_10_method_4_code
theorem pd_Model_many : y_Model_many.cls = "EventGraphTextModel" ∧ y_Model_many.cls ≠ "java/lang/invoke/MethodHandle" ∧ y_Model_many.cls ≠ "java/lang/invoke/VarHandle" ∧ (parseMethodDescriptor y_Model_many.desc).map (fun d => d.parameters.length) = some 1 := by decide +kernel
abbrev y_Model_wrong : MethodName := ⟨"EventGraphTextModel", "wrong", "(I)Z"⟩
abbrev b_Model_wrong : ByteArray := prog_10_method_5_code
theorem pd_Model_wrong : y_Model_wrong.cls = "EventGraphTextModel" ∧ y_Model_wrong.cls ≠ "java/lang/invoke/MethodHandle" ∧ y_Model_wrong.cls ≠ "java/lang/invoke/VarHandle" ∧ (parseMethodDescriptor y_Model_wrong.desc).map (fun d => d.parameters.length) = some 1 := by decide +kernel
abbrev y_Model_wrongPair : MethodName := ⟨"EventGraphTextModel", "wrongPair", "(II)Z"⟩
abbrev b_Model_wrongPair : ByteArray := prog_10_method_6_code
theorem pd_Model_wrongPair : y_Model_wrongPair.cls = "EventGraphTextModel" ∧ y_Model_wrongPair.cls ≠ "java/lang/invoke/MethodHandle" ∧ y_Model_wrongPair.cls ≠ "java/lang/invoke/VarHandle" ∧ (parseMethodDescriptor y_Model_wrongPair.desc).map (fun d => d.parameters.length) = some 2 := by decide +kernel
abbrev y_Model_hidden : MethodName := ⟨"EventGraphTextModel", "hidden", "(J)J"⟩
abbrev b_Model_hidden : ByteArray := prog_10_method_7_code
theorem pd_Model_hidden : y_Model_hidden.cls = "EventGraphTextModel" ∧ y_Model_hidden.cls ≠ "java/lang/invoke/MethodHandle" ∧ y_Model_hidden.cls ≠ "java/lang/invoke/VarHandle" ∧ (parseMethodDescriptor y_Model_hidden.desc).map (fun d => d.parameters.length) = some 1 := by decide +kernel
abbrev y_Model_shownAt : MethodName := ⟨"EventGraphTextModel", "shownAt", "(JI)I"⟩
abbrev b_Model_shownAt : ByteArray := prog_10_method_8_code
theorem pd_Model_shownAt : y_Model_shownAt.cls = "EventGraphTextModel" ∧ y_Model_shownAt.cls ≠ "java/lang/invoke/MethodHandle" ∧ y_Model_shownAt.cls ≠ "java/lang/invoke/VarHandle" ∧ (parseMethodDescriptor y_Model_shownAt.desc).map (fun d => d.parameters.length) = some 2 := by decide +kernel
abbrev y_Model_shownBefore : MethodName := ⟨"EventGraphTextModel", "shownBefore", "(JI)I"⟩
abbrev b_Model_shownBefore : ByteArray := prog_10_method_9_code
theorem pd_Model_shownBefore : y_Model_shownBefore.cls = "EventGraphTextModel" ∧ y_Model_shownBefore.cls ≠ "java/lang/invoke/MethodHandle" ∧ y_Model_shownBefore.cls ≠ "java/lang/invoke/VarHandle" ∧ (parseMethodDescriptor y_Model_shownBefore.desc).map (fun d => d.parameters.length) = some 2 := by decide +kernel
abbrev y_Model_behind : MethodName := ⟨"EventGraphTextModel", "behind", "(JI)I"⟩
abbrev b_Model_behind : ByteArray := prog_10_method_10_code
theorem pd_Model_behind : y_Model_behind.cls = "EventGraphTextModel" ∧ y_Model_behind.cls ≠ "java/lang/invoke/MethodHandle" ∧ y_Model_behind.cls ≠ "java/lang/invoke/VarHandle" ∧ (parseMethodDescriptor y_Model_behind.desc).map (fun d => d.parameters.length) = some 2 := by decide +kernel
abbrev y_Model_lower : MethodName := ⟨"EventGraphTextModel", "lower", "(II)Z"⟩
abbrev b_Model_lower : ByteArray := prog_10_method_11_code
theorem pd_Model_lower : y_Model_lower.cls = "EventGraphTextModel" ∧ y_Model_lower.cls ≠ "java/lang/invoke/MethodHandle" ∧ y_Model_lower.cls ≠ "java/lang/invoke/VarHandle" ∧ (parseMethodDescriptor y_Model_lower.desc).map (fun d => d.parameters.length) = some 2 := by decide +kernel
abbrev y_Model_stands : MethodName := ⟨"EventGraphTextModel", "stands", "(II)Z"⟩
abbrev b_Model_stands : ByteArray := prog_10_method_12_code
theorem pd_Model_stands : y_Model_stands.cls = "EventGraphTextModel" ∧ y_Model_stands.cls ≠ "java/lang/invoke/MethodHandle" ∧ y_Model_stands.cls ≠ "java/lang/invoke/VarHandle" ∧ (parseMethodDescriptor y_Model_stands.desc).map (fun d => d.parameters.length) = some 2 := by decide +kernel
abbrev y_Model_intoRow : MethodName := ⟨"EventGraphTextModel", "intoRow", "(I)V"⟩
abbrev b_Model_intoRow : ByteArray := prog_10_method_13_code
theorem pd_Model_intoRow : y_Model_intoRow.cls = "EventGraphTextModel" ∧ y_Model_intoRow.cls ≠ "java/lang/invoke/MethodHandle" ∧ y_Model_intoRow.cls ≠ "java/lang/invoke/VarHandle" ∧ (parseMethodDescriptor y_Model_intoRow.desc).map (fun d => d.parameters.length) = some 1 := by decide +kernel
abbrev y_Model_tips : MethodName := ⟨"EventGraphTextModel", "tips", "(J)J"⟩
abbrev b_Model_tips : ByteArray := prog_10_method_14_code
theorem pd_Model_tips : y_Model_tips.cls = "EventGraphTextModel" ∧ y_Model_tips.cls ≠ "java/lang/invoke/MethodHandle" ∧ y_Model_tips.cls ≠ "java/lang/invoke/VarHandle" ∧ (parseMethodDescriptor y_Model_tips.desc).map (fun d => d.parameters.length) = some 1 := by decide +kernel
abbrev y_Model_event : MethodName := ⟨"EventGraphTextModel", "event", "(IZI)I"⟩
abbrev b_Model_event : ByteArray := prog_10_method_15_code
theorem pd_Model_event : y_Model_event.cls = "EventGraphTextModel" ∧ y_Model_event.cls ≠ "java/lang/invoke/MethodHandle" ∧ y_Model_event.cls ≠ "java/lang/invoke/VarHandle" ∧ (parseMethodDescriptor y_Model_event.desc).map (fun d => d.parameters.length) = some 3 := by decide +kernel
abbrev y_Model_length : MethodName := ⟨"EventGraphTextModel", "length", "(I)I"⟩
abbrev b_Model_length : ByteArray := prog_10_method_18_code
theorem pd_Model_length : y_Model_length.cls = "EventGraphTextModel" ∧ y_Model_length.cls ≠ "java/lang/invoke/MethodHandle" ∧ y_Model_length.cls ≠ "java/lang/invoke/VarHandle" ∧ (parseMethodDescriptor y_Model_length.desc).map (fun d => d.parameters.length) = some 1 := by decide +kernel
abbrev y_Model_insert : MethodName := ⟨"EventGraphTextModel", "insert", "(III)I"⟩
abbrev b_Model_insert : ByteArray := prog_10_method_16_code
theorem pd_Model_insert : y_Model_insert.cls = "EventGraphTextModel" ∧ y_Model_insert.cls ≠ "java/lang/invoke/MethodHandle" ∧ y_Model_insert.cls ≠ "java/lang/invoke/VarHandle" ∧ (parseMethodDescriptor y_Model_insert.desc).map (fun d => d.parameters.length) = some 3 := by decide +kernel
abbrev y_Model_delete : MethodName := ⟨"EventGraphTextModel", "delete", "(II)I"⟩
abbrev b_Model_delete : ByteArray := prog_10_method_17_code
theorem pd_Model_delete : y_Model_delete.cls = "EventGraphTextModel" ∧ y_Model_delete.cls ≠ "java/lang/invoke/MethodHandle" ∧ y_Model_delete.cls ≠ "java/lang/invoke/VarHandle" ∧ (parseMethodDescriptor y_Model_delete.desc).map (fun d => d.parameters.length) = some 2 := by decide +kernel
abbrev y_Model_at : MethodName := ⟨"EventGraphTextModel", "at", "(II)I"⟩
abbrev b_Model_at : ByteArray := prog_10_method_19_code
theorem pd_Model_at : y_Model_at.cls = "EventGraphTextModel" ∧ y_Model_at.cls ≠ "java/lang/invoke/MethodHandle" ∧ y_Model_at.cls ≠ "java/lang/invoke/VarHandle" ∧ (parseMethodDescriptor y_Model_at.desc).map (fun d => d.parameters.length) = some 2 := by decide +kernel
abbrev y_Model_can : MethodName := ⟨"EventGraphTextModel", "can", "(JJI)Z"⟩
abbrev b_Model_can : ByteArray := prog_10_method_20_code
theorem pd_Model_can : y_Model_can.cls = "EventGraphTextModel" ∧ y_Model_can.cls ≠ "java/lang/invoke/MethodHandle" ∧ y_Model_can.cls ≠ "java/lang/invoke/VarHandle" ∧ (parseMethodDescriptor y_Model_can.desc).map (fun d => d.parameters.length) = some 3 := by decide +kernel
abbrev y_Model_nextOf : MethodName := ⟨"EventGraphTextModel", "nextOf", "(JJI)I"⟩
abbrev b_Model_nextOf : ByteArray := prog_10_method_21_code
theorem pd_Model_nextOf : y_Model_nextOf.cls = "EventGraphTextModel" ∧ y_Model_nextOf.cls ≠ "java/lang/invoke/MethodHandle" ∧ y_Model_nextOf.cls ≠ "java/lang/invoke/VarHandle" ∧ (parseMethodDescriptor y_Model_nextOf.desc).map (fun d => d.parameters.length) = some 3 := by decide +kernel
abbrev y_Model_order : MethodName := ⟨"EventGraphTextModel", "order", "(J)V"⟩
abbrev b_Model_order : ByteArray := prog_10_method_22_code
theorem pd_Model_order : y_Model_order.cls = "EventGraphTextModel" ∧ y_Model_order.cls ≠ "java/lang/invoke/MethodHandle" ∧ y_Model_order.cls ≠ "java/lang/invoke/VarHandle" ∧ (parseMethodDescriptor y_Model_order.desc).map (fun d => d.parameters.length) = some 1 := by decide +kernel
abbrev y_Model_send : MethodName := ⟨"EventGraphTextModel", "send", "(II)I"⟩
abbrev b_Model_send : ByteArray := prog_10_method_23_code
theorem pd_Model_send : y_Model_send.cls = "EventGraphTextModel" ∧ y_Model_send.cls ≠ "java/lang/invoke/MethodHandle" ∧ y_Model_send.cls ≠ "java/lang/invoke/VarHandle" ∧ (parseMethodDescriptor y_Model_send.desc).map (fun d => d.parameters.length) = some 2 := by decide +kernel
abbrev y_Model_none : MethodName := ⟨"EventGraphTextModel", "none", "(I)Z"⟩
abbrev b_Model_none : ByteArray := prog_10_method_24_code
theorem pd_Model_none : y_Model_none.cls = "EventGraphTextModel" ∧ y_Model_none.cls ≠ "java/lang/invoke/MethodHandle" ∧ y_Model_none.cls ≠ "java/lang/invoke/VarHandle" ∧ (parseMethodDescriptor y_Model_none.desc).map (fun d => d.parameters.length) = some 1 := by decide +kernel
abbrev y_Model_discard : MethodName := ⟨"EventGraphTextModel", "discard", "(I)Z"⟩
abbrev b_Model_discard : ByteArray := prog_10_method_25_code
theorem pd_Model_discard : y_Model_discard.cls = "EventGraphTextModel" ∧ y_Model_discard.cls ≠ "java/lang/invoke/MethodHandle" ∧ y_Model_discard.cls ≠ "java/lang/invoke/VarHandle" ∧ (parseMethodDescriptor y_Model_discard.desc).map (fun d => d.parameters.length) = some 1 := by decide +kernel
abbrev y_Model_whole : MethodName := ⟨"EventGraphTextModel", "whole", "(J)J"⟩
abbrev b_Model_whole : ByteArray := prog_10_method_26_code
theorem pd_Model_whole : y_Model_whole.cls = "EventGraphTextModel" ∧ y_Model_whole.cls ≠ "java/lang/invoke/MethodHandle" ∧ y_Model_whole.cls ≠ "java/lang/invoke/VarHandle" ∧ (parseMethodDescriptor y_Model_whole.desc).map (fun d => d.parameters.length) = some 1 := by decide +kernel
abbrev y_Model_believed : MethodName := ⟨"EventGraphTextModel", "believed", "(II)I"⟩
abbrev b_Model_believed : ByteArray := prog_10_method_28_code
theorem pd_Model_believed : y_Model_believed.cls = "EventGraphTextModel" ∧ y_Model_believed.cls ≠ "java/lang/invoke/MethodHandle" ∧ y_Model_believed.cls ≠ "java/lang/invoke/VarHandle" ∧ (parseMethodDescriptor y_Model_believed.desc).map (fun d => d.parameters.length) = some 2 := by decide +kernel
abbrev y_Model_hear : MethodName := ⟨"EventGraphTextModel", "hear", "(II)I"⟩
abbrev b_Model_hear : ByteArray := prog_10_method_27_code
theorem pd_Model_hear : y_Model_hear.cls = "EventGraphTextModel" ∧ y_Model_hear.cls ≠ "java/lang/invoke/MethodHandle" ∧ y_Model_hear.cls ≠ "java/lang/invoke/VarHandle" ∧ (parseMethodDescriptor y_Model_hear.desc).map (fun d => d.parameters.length) = some 2 := by decide +kernel
abbrev y_Model_isCritical : MethodName := ⟨"EventGraphTextModel", "isCritical", "(JI)Z"⟩
abbrev b_Model_isCritical : ByteArray := prog_10_method_30_code
theorem pd_Model_isCritical : y_Model_isCritical.cls = "EventGraphTextModel" ∧ y_Model_isCritical.cls ≠ "java/lang/invoke/MethodHandle" ∧ y_Model_isCritical.cls ≠ "java/lang/invoke/VarHandle" ∧ (parseMethodDescriptor y_Model_isCritical.desc).map (fun d => d.parameters.length) = some 2 := by decide +kernel
abbrev y_Model_top : MethodName := ⟨"EventGraphTextModel", "top", "(JJ)I"⟩
abbrev b_Model_top : ByteArray := prog_10_method_31_code
theorem pd_Model_top : y_Model_top.cls = "EventGraphTextModel" ∧ y_Model_top.cls ≠ "java/lang/invoke/MethodHandle" ∧ y_Model_top.cls ≠ "java/lang/invoke/VarHandle" ∧ (parseMethodDescriptor y_Model_top.desc).map (fun d => d.parameters.length) = some 2 := by decide +kernel
abbrev y_Model_effect : MethodName := ⟨"EventGraphTextModel", "effect", "(JI)I"⟩
abbrev b_Model_effect : ByteArray := prog_10_method_33_code
theorem pd_Model_effect : y_Model_effect.cls = "EventGraphTextModel" ∧ y_Model_effect.cls ≠ "java/lang/invoke/MethodHandle" ∧ y_Model_effect.cls ≠ "java/lang/invoke/VarHandle" ∧ (parseMethodDescriptor y_Model_effect.desc).map (fun d => d.parameters.length) = some 2 := by decide +kernel
abbrev y_Model_merge : MethodName := ⟨"EventGraphTextModel", "merge", "(IJ)V"⟩
abbrev b_Model_merge : ByteArray := prog_10_method_32_code
theorem pd_Model_merge : y_Model_merge.cls = "EventGraphTextModel" ∧ y_Model_merge.cls ≠ "java/lang/invoke/MethodHandle" ∧ y_Model_merge.cls ≠ "java/lang/invoke/VarHandle" ∧ (parseMethodDescriptor y_Model_merge.desc).map (fun d => d.parameters.length) = some 2 := by decide +kernel
abbrev y_Model_deliver : MethodName := ⟨"EventGraphTextModel", "deliver", "(I)I"⟩
abbrev b_Model_deliver : ByteArray := prog_10_method_29_code
theorem pd_Model_deliver : y_Model_deliver.cls = "EventGraphTextModel" ∧ y_Model_deliver.cls ≠ "java/lang/invoke/MethodHandle" ∧ y_Model_deliver.cls ≠ "java/lang/invoke/VarHandle" ∧ (parseMethodDescriptor y_Model_deliver.desc).map (fun d => d.parameters.length) = some 1 := by decide +kernel
abbrev y_Model_put : MethodName := ⟨"EventGraphTextModel", "put", "(I)V"⟩
abbrev b_Model_put : ByteArray := prog_10_method_34_code
theorem pd_Model_put : y_Model_put.cls = "EventGraphTextModel" ∧ y_Model_put.cls ≠ "java/lang/invoke/MethodHandle" ∧ y_Model_put.cls ≠ "java/lang/invoke/VarHandle" ∧ (parseMethodDescriptor y_Model_put.desc).map (fun d => d.parameters.length) = some 1 := by decide +kernel
abbrev y_Model_putSigned : MethodName := ⟨"EventGraphTextModel", "putSigned", "(I)V"⟩
abbrev b_Model_putSigned : ByteArray := prog_10_method_35_code
theorem pd_Model_putSigned : y_Model_putSigned.cls = "EventGraphTextModel" ∧ y_Model_putSigned.cls ≠ "java/lang/invoke/MethodHandle" ∧ y_Model_putSigned.cls ≠ "java/lang/invoke/VarHandle" ∧ (parseMethodDescriptor y_Model_putSigned.desc).map (fun d => d.parameters.length) = some 1 := by decide +kernel
abbrev y_Model_putRuns : MethodName := ⟨"EventGraphTextModel", "putRuns", "()V"⟩
abbrev b_Model_putRuns : ByteArray := prog_10_method_36_code
theorem pd_Model_putRuns : y_Model_putRuns.cls = "EventGraphTextModel" ∧ y_Model_putRuns.cls ≠ "java/lang/invoke/MethodHandle" ∧ y_Model_putRuns.cls ≠ "java/lang/invoke/VarHandle" ∧ (parseMethodDescriptor y_Model_putRuns.desc).map (fun d => d.parameters.length) = some 0 := by decide +kernel
abbrev y_Model_putParents : MethodName := ⟨"EventGraphTextModel", "putParents", "(I)V"⟩
abbrev b_Model_putParents : ByteArray := prog_10_method_37_code
theorem pd_Model_putParents : y_Model_putParents.cls = "EventGraphTextModel" ∧ y_Model_putParents.cls ≠ "java/lang/invoke/MethodHandle" ∧ y_Model_putParents.cls ≠ "java/lang/invoke/VarHandle" ∧ (parseMethodDescriptor y_Model_putParents.desc).map (fun d => d.parameters.length) = some 1 := by decide +kernel
abbrev y_Model_write : MethodName := ⟨"EventGraphTextModel", "write", "(I)V"⟩
abbrev b_Model_write : ByteArray := prog_10_method_38_code
theorem pd_Model_write : y_Model_write.cls = "EventGraphTextModel" ∧ y_Model_write.cls ≠ "java/lang/invoke/MethodHandle" ∧ y_Model_write.cls ≠ "java/lang/invoke/VarHandle" ∧ (parseMethodDescriptor y_Model_write.desc).map (fun d => d.parameters.length) = some 1 := by decide +kernel
abbrev y_Model_octets : MethodName := ⟨"EventGraphTextModel", "octets", "(I)I"⟩
abbrev b_Model_octets : ByteArray := prog_10_method_39_code
theorem pd_Model_octets : y_Model_octets.cls = "EventGraphTextModel" ∧ y_Model_octets.cls ≠ "java/lang/invoke/MethodHandle" ∧ y_Model_octets.cls ≠ "java/lang/invoke/VarHandle" ∧ (parseMethodDescriptor y_Model_octets.desc).map (fun d => d.parameters.length) = some 1 := by decide +kernel
abbrev y_Model_octet : MethodName := ⟨"EventGraphTextModel", "octet", "(II)I"⟩
abbrev b_Model_octet : ByteArray := prog_10_method_40_code
theorem pd_Model_octet : y_Model_octet.cls = "EventGraphTextModel" ∧ y_Model_octet.cls ≠ "java/lang/invoke/MethodHandle" ∧ y_Model_octet.cls ≠ "java/lang/invoke/VarHandle" ∧ (parseMethodDescriptor y_Model_octet.desc).map (fun d => d.parameters.length) = some 2 := by decide +kernel
abbrev y_Model_events : MethodName := ⟨"EventGraphTextModel", "events", "(I)I"⟩
abbrev b_Model_events : ByteArray := prog_10_method_41_code
theorem pd_Model_events : y_Model_events.cls = "EventGraphTextModel" ∧ y_Model_events.cls ≠ "java/lang/invoke/MethodHandle" ∧ y_Model_events.cls ≠ "java/lang/invoke/VarHandle" ∧ (parseMethodDescriptor y_Model_events.desc).map (fun d => d.parameters.length) = some 1 := by decide +kernel
abbrev y_Model_heads : MethodName := ⟨"EventGraphTextModel", "heads", "(I)I"⟩
abbrev b_Model_heads : ByteArray := prog_10_method_42_code
theorem pd_Model_heads : y_Model_heads.cls = "EventGraphTextModel" ∧ y_Model_heads.cls ≠ "java/lang/invoke/MethodHandle" ∧ y_Model_heads.cls ≠ "java/lang/invoke/VarHandle" ∧ (parseMethodDescriptor y_Model_heads.desc).map (fun d => d.parameters.length) = some 1 := by decide +kernel
abbrev y_Model_head : MethodName := ⟨"EventGraphTextModel", "head", "(II)I"⟩
abbrev b_Model_head : ByteArray := prog_10_method_43_code
theorem pd_Model_head : y_Model_head.cls = "EventGraphTextModel" ∧ y_Model_head.cls ≠ "java/lang/invoke/MethodHandle" ∧ y_Model_head.cls ≠ "java/lang/invoke/VarHandle" ∧ (parseMethodDescriptor y_Model_head.desc).map (fun d => d.parameters.length) = some 2 := by decide +kernel
abbrev y_Model_find : MethodName := ⟨"EventGraphTextModel", "find", "(II)I"⟩
abbrev b_Model_find : ByteArray := prog_10_method_44_code
theorem pd_Model_find : y_Model_find.cls = "EventGraphTextModel" ∧ y_Model_find.cls ≠ "java/lang/invoke/MethodHandle" ∧ y_Model_find.cls ≠ "java/lang/invoke/VarHandle" ∧ (parseMethodDescriptor y_Model_find.desc).map (fun d => d.parameters.length) = some 2 := by decide +kernel
abbrev y_Model_ancestor : MethodName := ⟨"EventGraphTextModel", "ancestor", "(IIII)I"⟩
abbrev b_Model_ancestor : ByteArray := prog_10_method_45_code
theorem pd_Model_ancestor : y_Model_ancestor.cls = "EventGraphTextModel" ∧ y_Model_ancestor.cls ≠ "java/lang/invoke/MethodHandle" ∧ y_Model_ancestor.cls ≠ "java/lang/invoke/VarHandle" ∧ (parseMethodDescriptor y_Model_ancestor.desc).map (fun d => d.parameters.length) = some 4 := by decide +kernel
abbrev y_Model_critical : MethodName := ⟨"EventGraphTextModel", "critical", "(I)I"⟩
abbrev b_Model_critical : ByteArray := prog_10_method_46_code
theorem pd_Model_critical : y_Model_critical.cls = "EventGraphTextModel" ∧ y_Model_critical.cls ≠ "java/lang/invoke/MethodHandle" ∧ y_Model_critical.cls ≠ "java/lang/invoke/VarHandle" ∧ (parseMethodDescriptor y_Model_critical.desc).map (fun d => d.parameters.length) = some 1 := by decide +kernel
abbrev y_Model_replayed : MethodName := ⟨"EventGraphTextModel", "replayed", "(I)I"⟩
abbrev b_Model_replayed : ByteArray := prog_10_method_47_code
theorem pd_Model_replayed : y_Model_replayed.cls = "EventGraphTextModel" ∧ y_Model_replayed.cls ≠ "java/lang/invoke/MethodHandle" ∧ y_Model_replayed.cls ≠ "java/lang/invoke/VarHandle" ∧ (parseMethodDescriptor y_Model_replayed.desc).map (fun d => d.parameters.length) = some 1 := by decide +kernel
abbrev y_Model_moves : MethodName := ⟨"EventGraphTextModel", "moves", "(I)I"⟩
abbrev b_Model_moves : ByteArray := prog_10_method_48_code
theorem pd_Model_moves : y_Model_moves.cls = "EventGraphTextModel" ∧ y_Model_moves.cls ≠ "java/lang/invoke/MethodHandle" ∧ y_Model_moves.cls ≠ "java/lang/invoke/VarHandle" ∧ (parseMethodDescriptor y_Model_moves.desc).map (fun d => d.parameters.length) = some 1 := by decide +kernel
abbrev y_Model_operation : MethodName := ⟨"EventGraphTextModel", "operation", "(II)I"⟩
abbrev b_Model_operation : ByteArray := prog_10_method_49_code
theorem pd_Model_operation : y_Model_operation.cls = "EventGraphTextModel" ∧ y_Model_operation.cls ≠ "java/lang/invoke/MethodHandle" ∧ y_Model_operation.cls ≠ "java/lang/invoke/VarHandle" ∧ (parseMethodDescriptor y_Model_operation.desc).map (fun d => d.parameters.length) = some 2 := by decide +kernel
abbrev y_Text_init : MethodName := ⟨"EventGraphText", "<init>", "()V"⟩
abbrev b_Text_init : ByteArray := prog_1_method_1_code
theorem pd_Text_init : y_Text_init.cls = "EventGraphText" ∧ y_Text_init.cls ≠ "java/lang/invoke/MethodHandle" ∧ y_Text_init.cls ≠ "java/lang/invoke/VarHandle" ∧ (parseMethodDescriptor y_Text_init.desc).map (fun d => d.parameters.length) = some 0 := by decide +kernel
abbrev y_Model_init : MethodName := ⟨"EventGraphTextModel", "<init>", "()V"⟩
abbrev b_Model_init : ByteArray := prog_10_method_1_code
theorem pd_Model_init : y_Model_init.cls = "EventGraphTextModel" ∧ y_Model_init.cls ≠ "java/lang/invoke/MethodHandle" ∧ y_Model_init.cls ≠ "java/lang/invoke/VarHandle" ∧ (parseMethodDescriptor y_Model_init.desc).map (fun d => d.parameters.length) = some 0 := by decide +kernel
abbrev y_CharacterList_init : MethodName := ⟨"EventGraphText$CharacterList", "<init>", "()V"⟩
abbrev b_CharacterList_init : ByteArray := prog_2_method_1_code
theorem pd_CharacterList_init : y_CharacterList_init.cls = "EventGraphText$CharacterList" ∧ y_CharacterList_init.cls ≠ "java/lang/invoke/MethodHandle" ∧ y_CharacterList_init.cls ≠ "java/lang/invoke/VarHandle" ∧ (parseMethodDescriptor y_CharacterList_init.desc).map (fun d => d.parameters.length) = some 0 := by decide +kernel
abbrev y_History_init : MethodName := ⟨"EventGraphText$History", "<init>", "()V"⟩
abbrev b_History_init : ByteArray := prog_3_method_1_code
theorem pd_History_init : y_History_init.cls = "EventGraphText$History" ∧ y_History_init.cls ≠ "java/lang/invoke/MethodHandle" ∧ y_History_init.cls ≠ "java/lang/invoke/VarHandle" ∧ (parseMethodDescriptor y_History_init.desc).map (fun d => d.parameters.length) = some 0 := by decide +kernel
abbrev y_Line_init : MethodName := ⟨"EventGraphText$Line", "<init>", "()V"⟩
abbrev b_Line_init : ByteArray := prog_4_method_1_code
theorem pd_Line_init : y_Line_init.cls = "EventGraphText$Line" ∧ y_Line_init.cls ≠ "java/lang/invoke/MethodHandle" ∧ y_Line_init.cls ≠ "java/lang/invoke/VarHandle" ∧ (parseMethodDescriptor y_Line_init.desc).map (fun d => d.parameters.length) = some 0 := by decide +kernel
abbrev y_Merge_init : MethodName := ⟨"EventGraphText$Merge", "<init>", "()V"⟩
abbrev b_Merge_init : ByteArray := prog_5_method_1_code
theorem pd_Merge_init : y_Merge_init.cls = "EventGraphText$Merge" ∧ y_Merge_init.cls ≠ "java/lang/invoke/MethodHandle" ∧ y_Merge_init.cls ≠ "java/lang/invoke/VarHandle" ∧ (parseMethodDescriptor y_Merge_init.desc).map (fun d => d.parameters.length) = some 0 := by decide +kernel
abbrev y_Message_init : MethodName := ⟨"EventGraphText$Message", "<init>", "()V"⟩
abbrev b_Message_init : ByteArray := prog_6_method_1_code
theorem pd_Message_init : y_Message_init.cls = "EventGraphText$Message" ∧ y_Message_init.cls ≠ "java/lang/invoke/MethodHandle" ∧ y_Message_init.cls ≠ "java/lang/invoke/VarHandle" ∧ (parseMethodDescriptor y_Message_init.desc).map (fun d => d.parameters.length) = some 0 := by decide +kernel
abbrev y_OctetRow_init : MethodName := ⟨"EventGraphText$OctetRow", "<init>", "()V"⟩
abbrev b_OctetRow_init : ByteArray := prog_7_method_1_code
theorem pd_OctetRow_init : y_OctetRow_init.cls = "EventGraphText$OctetRow" ∧ y_OctetRow_init.cls ≠ "java/lang/invoke/MethodHandle" ∧ y_OctetRow_init.cls ≠ "java/lang/invoke/VarHandle" ∧ (parseMethodDescriptor y_OctetRow_init.desc).map (fun d => d.parameters.length) = some 0 := by decide +kernel
abbrev y_Site_init : MethodName := ⟨"EventGraphText$Site", "<init>", "()V"⟩
abbrev b_Site_init : ByteArray := prog_8_method_1_code
theorem pd_Site_init : y_Site_init.cls = "EventGraphText$Site" ∧ y_Site_init.cls ≠ "java/lang/invoke/MethodHandle" ∧ y_Site_init.cls ≠ "java/lang/invoke/VarHandle" ∧ (parseMethodDescriptor y_Site_init.desc).map (fun d => d.parameters.length) = some 0 := by decide +kernel
end
section
theorem d_Text_isSite_0 : decode b_Text_isSite 0 = .ok (.iload_n 0, 1) := by decide +kernel
theorem d_Text_isSite_1 : decode b_Text_isSite 1 = .ok (.ifCond .lt 12, 3) := by decide +kernel
theorem d_Text_isSite_4 : decode b_Text_isSite 4 = .ok (.iload_n 0, 1) := by decide +kernel
theorem d_Text_isSite_5 : decode b_Text_isSite 5 = .ok (.iconst 3, 1) := by decide +kernel
theorem d_Text_isSite_6 : decode b_Text_isSite 6 = .ok (.if_icmp .ge 7, 3) := by decide +kernel
theorem d_Text_isSite_9 : decode b_Text_isSite 9 = .ok (.iconst 1, 1) := by decide +kernel
theorem d_Text_isSite_10 : decode b_Text_isSite 10 = .ok (.goto 4, 3) := by decide +kernel
theorem d_Text_isSite_13 : decode b_Text_isSite 13 = .ok (.iconst 0, 1) := by decide +kernel
theorem d_Text_isSite_14 : decode b_Text_isSite 14 = .ok (.ireturn, 1) := by decide +kernel
theorem d_History_isFull_0 : decode b_History_isFull 0 = .ok (.aload_n 0, 1) := by decide +kernel
theorem d_History_isFull_1 : decode b_History_isFull 1 = .ok (.getfield 37, 3) := by decide +kernel
theorem d_History_isFull_4 : decode b_History_isFull 4 = .ok (.bipush 40, 2) := by decide +kernel
theorem d_History_isFull_6 : decode b_History_isFull 6 = .ok (.if_icmp .lt 7, 3) := by decide +kernel
theorem d_History_isFull_9 : decode b_History_isFull 9 = .ok (.iconst 1, 1) := by decide +kernel
theorem d_History_isFull_10 : decode b_History_isFull 10 = .ok (.goto 4, 3) := by decide +kernel
theorem d_History_isFull_13 : decode b_History_isFull 13 = .ok (.iconst 0, 1) := by decide +kernel
theorem d_History_isFull_14 : decode b_History_isFull 14 = .ok (.ireturn, 1) := by decide +kernel
theorem d_Text_bit_0 : decode b_Text_bit 0 = .ok (.lconst 1, 1) := by decide +kernel
theorem d_Text_bit_1 : decode b_Text_bit 1 = .ok (.iload_n 0, 1) := by decide +kernel
theorem d_Text_bit_2 : decode b_Text_bit 2 = .ok (.lshl, 1) := by decide +kernel
theorem d_Text_bit_3 : decode b_Text_bit 3 = .ok (.lreturn, 1) := by decide +kernel
theorem d_Text_has_0 : decode b_Text_has 0 = .ok (.iload_n 2, 1) := by decide +kernel
theorem d_Text_has_1 : decode b_Text_has 1 = .ok (.ifCond .lt 18, 3) := by decide +kernel
theorem d_Text_has_4 : decode b_Text_has 4 = .ok (.lload_n 0, 1) := by decide +kernel
theorem d_Text_has_5 : decode b_Text_has 5 = .ok (.iload_n 2, 1) := by decide +kernel
theorem d_Text_has_6 : decode b_Text_has 6 = .ok (.invokestatic 78, 3) := by decide +kernel
theorem d_Text_has_9 : decode b_Text_has 9 = .ok (.land, 1) := by decide +kernel
theorem d_Text_has_10 : decode b_Text_has 10 = .ok (.lconst 0, 1) := by decide +kernel
theorem d_Text_has_11 : decode b_Text_has 11 = .ok (.lcmp, 1) := by decide +kernel
theorem d_Text_has_12 : decode b_Text_has 12 = .ok (.ifCond .eq 7, 3) := by decide +kernel
theorem d_Text_has_15 : decode b_Text_has 15 = .ok (.iconst 1, 1) := by decide +kernel
theorem d_Text_has_16 : decode b_Text_has 16 = .ok (.goto 4, 3) := by decide +kernel
theorem d_Text_has_19 : decode b_Text_has 19 = .ok (.iconst 0, 1) := by decide +kernel
theorem d_Text_has_20 : decode b_Text_has 20 = .ok (.ireturn, 1) := by decide +kernel
theorem d_CharacterList_shownIn_0 : decode b_CharacterList_shownIn 0 = .ok (.lconst 0, 1) := by decide +kernel
theorem d_CharacterList_shownIn_1 : decode b_CharacterList_shownIn 1 = .ok (.lstore_n 3, 1) := by decide +kernel
theorem d_CharacterList_shownIn_2 : decode b_CharacterList_shownIn 2 = .ok (.iconst 0, 1) := by decide +kernel
theorem d_CharacterList_shownIn_3 : decode b_CharacterList_shownIn 3 = .ok (.istore 5, 2) := by decide +kernel
theorem d_CharacterList_shownIn_5 : decode b_CharacterList_shownIn 5 = .ok (.iload 5, 2) := by decide +kernel
theorem d_CharacterList_shownIn_7 : decode b_CharacterList_shownIn 7 = .ok (.bipush 40, 2) := by decide +kernel
theorem d_CharacterList_shownIn_9 : decode b_CharacterList_shownIn 9 = .ok (.if_icmp .ge 36, 3) := by decide +kernel
theorem d_CharacterList_shownIn_12 : decode b_CharacterList_shownIn 12 = .ok (.lload_n 1, 1) := by decide +kernel
theorem d_CharacterList_shownIn_13 : decode b_CharacterList_shownIn 13 = .ok (.aload_n 0, 1) := by decide +kernel
theorem d_CharacterList_shownIn_14 : decode b_CharacterList_shownIn 14 = .ok (.getfield 29, 3) := by decide +kernel
theorem d_CharacterList_shownIn_17 : decode b_CharacterList_shownIn 17 = .ok (.land, 1) := by decide +kernel
theorem d_CharacterList_shownIn_18 : decode b_CharacterList_shownIn 18 = .ok (.iload 5, 2) := by decide +kernel
theorem d_CharacterList_shownIn_20 : decode b_CharacterList_shownIn 20 = .ok (.invokestatic 44, 3) := by decide +kernel
theorem d_CharacterList_shownIn_23 : decode b_CharacterList_shownIn 23 = .ok (.ifCond .eq 16, 3) := by decide +kernel
theorem d_CharacterList_shownIn_26 : decode b_CharacterList_shownIn 26 = .ok (.lload_n 3, 1) := by decide +kernel
theorem d_CharacterList_shownIn_27 : decode b_CharacterList_shownIn 27 = .ok (.aload_n 0, 1) := by decide +kernel
theorem d_CharacterList_shownIn_28 : decode b_CharacterList_shownIn 28 = .ok (.getfield 26, 3) := by decide +kernel
theorem d_CharacterList_shownIn_31 : decode b_CharacterList_shownIn 31 = .ok (.iload 5, 2) := by decide +kernel
theorem d_CharacterList_shownIn_33 : decode b_CharacterList_shownIn 33 = .ok (.iaload, 1) := by decide +kernel
theorem d_CharacterList_shownIn_34 : decode b_CharacterList_shownIn 34 = .ok (.invokestatic 40, 3) := by decide +kernel
theorem d_CharacterList_shownIn_37 : decode b_CharacterList_shownIn 37 = .ok (.lor, 1) := by decide +kernel
theorem d_CharacterList_shownIn_38 : decode b_CharacterList_shownIn 38 = .ok (.lstore_n 3, 1) := by decide +kernel
theorem d_CharacterList_shownIn_39 : decode b_CharacterList_shownIn 39 = .ok (.iinc 5 1, 3) := by decide +kernel
theorem d_CharacterList_shownIn_42 : decode b_CharacterList_shownIn 42 = .ok (.goto (-37), 3) := by decide +kernel
theorem d_CharacterList_shownIn_45 : decode b_CharacterList_shownIn 45 = .ok (.lload_n 1, 1) := by decide +kernel
theorem d_CharacterList_shownIn_46 : decode b_CharacterList_shownIn 46 = .ok (.aload_n 0, 1) := by decide +kernel
theorem d_CharacterList_shownIn_47 : decode b_CharacterList_shownIn 47 = .ok (.getfield 33, 3) := by decide +kernel
theorem d_CharacterList_shownIn_50 : decode b_CharacterList_shownIn 50 = .ok (.land, 1) := by decide +kernel
theorem d_CharacterList_shownIn_51 : decode b_CharacterList_shownIn 51 = .ok (.lload_n 3, 1) := by decide +kernel
theorem d_CharacterList_shownIn_52 : decode b_CharacterList_shownIn 52 = .ok (.ldc2_w 48, 3) := by decide +kernel
theorem d_CharacterList_shownIn_55 : decode b_CharacterList_shownIn 55 = .ok (.lxor, 1) := by decide +kernel
theorem d_CharacterList_shownIn_56 : decode b_CharacterList_shownIn 56 = .ok (.land, 1) := by decide +kernel
theorem d_CharacterList_shownIn_57 : decode b_CharacterList_shownIn 57 = .ok (.lreturn, 1) := by decide +kernel
theorem d_Long_bitCount_0 : decode b_Long_bitCount 0 = .ok (.lload_n 0, 1) := by decide +kernel
theorem d_Long_bitCount_1 : decode b_Long_bitCount 1 = .ok (.lload_n 0, 1) := by decide +kernel
theorem d_Long_bitCount_2 : decode b_Long_bitCount 2 = .ok (.iconst 1, 1) := by decide +kernel
theorem d_Long_bitCount_3 : decode b_Long_bitCount 3 = .ok (.lushr, 1) := by decide +kernel
theorem d_Long_bitCount_4 : decode b_Long_bitCount 4 = .ok (.ldc2_w 314, 3) := by decide +kernel
theorem d_Long_bitCount_7 : decode b_Long_bitCount 7 = .ok (.land, 1) := by decide +kernel
theorem d_Long_bitCount_8 : decode b_Long_bitCount 8 = .ok (.lsub, 1) := by decide +kernel
theorem d_Long_bitCount_9 : decode b_Long_bitCount 9 = .ok (.lstore_n 0, 1) := by decide +kernel
theorem d_Long_bitCount_10 : decode b_Long_bitCount 10 = .ok (.lload_n 0, 1) := by decide +kernel
theorem d_Long_bitCount_11 : decode b_Long_bitCount 11 = .ok (.ldc2_w 316, 3) := by decide +kernel
theorem d_Long_bitCount_14 : decode b_Long_bitCount 14 = .ok (.land, 1) := by decide +kernel
theorem d_Long_bitCount_15 : decode b_Long_bitCount 15 = .ok (.lload_n 0, 1) := by decide +kernel
theorem d_Long_bitCount_16 : decode b_Long_bitCount 16 = .ok (.iconst 2, 1) := by decide +kernel
theorem d_Long_bitCount_17 : decode b_Long_bitCount 17 = .ok (.lushr, 1) := by decide +kernel
theorem d_Long_bitCount_18 : decode b_Long_bitCount 18 = .ok (.ldc2_w 316, 3) := by decide +kernel
theorem d_Long_bitCount_21 : decode b_Long_bitCount 21 = .ok (.land, 1) := by decide +kernel
theorem d_Long_bitCount_22 : decode b_Long_bitCount 22 = .ok (.ladd, 1) := by decide +kernel
theorem d_Long_bitCount_23 : decode b_Long_bitCount 23 = .ok (.lstore_n 0, 1) := by decide +kernel
theorem d_Long_bitCount_24 : decode b_Long_bitCount 24 = .ok (.lload_n 0, 1) := by decide +kernel
theorem d_Long_bitCount_25 : decode b_Long_bitCount 25 = .ok (.lload_n 0, 1) := by decide +kernel
theorem d_Long_bitCount_26 : decode b_Long_bitCount 26 = .ok (.iconst 4, 1) := by decide +kernel
theorem d_Long_bitCount_27 : decode b_Long_bitCount 27 = .ok (.lushr, 1) := by decide +kernel
theorem d_Long_bitCount_28 : decode b_Long_bitCount 28 = .ok (.ladd, 1) := by decide +kernel
theorem d_Long_bitCount_29 : decode b_Long_bitCount 29 = .ok (.ldc2_w 318, 3) := by decide +kernel
theorem d_Long_bitCount_32 : decode b_Long_bitCount 32 = .ok (.land, 1) := by decide +kernel
theorem d_Long_bitCount_33 : decode b_Long_bitCount 33 = .ok (.lstore_n 0, 1) := by decide +kernel
theorem d_Long_bitCount_34 : decode b_Long_bitCount 34 = .ok (.lload_n 0, 1) := by decide +kernel
theorem d_Long_bitCount_35 : decode b_Long_bitCount 35 = .ok (.lload_n 0, 1) := by decide +kernel
theorem d_Long_bitCount_36 : decode b_Long_bitCount 36 = .ok (.bipush 8, 2) := by decide +kernel
theorem d_Long_bitCount_38 : decode b_Long_bitCount 38 = .ok (.lushr, 1) := by decide +kernel
theorem d_Long_bitCount_39 : decode b_Long_bitCount 39 = .ok (.ladd, 1) := by decide +kernel
theorem d_Long_bitCount_40 : decode b_Long_bitCount 40 = .ok (.lstore_n 0, 1) := by decide +kernel
theorem d_Long_bitCount_41 : decode b_Long_bitCount 41 = .ok (.lload_n 0, 1) := by decide +kernel
theorem d_Long_bitCount_42 : decode b_Long_bitCount 42 = .ok (.lload_n 0, 1) := by decide +kernel
theorem d_Long_bitCount_43 : decode b_Long_bitCount 43 = .ok (.bipush 16, 2) := by decide +kernel
theorem d_Long_bitCount_45 : decode b_Long_bitCount 45 = .ok (.lushr, 1) := by decide +kernel
theorem d_Long_bitCount_46 : decode b_Long_bitCount 46 = .ok (.ladd, 1) := by decide +kernel
theorem d_Long_bitCount_47 : decode b_Long_bitCount 47 = .ok (.lstore_n 0, 1) := by decide +kernel
theorem d_Long_bitCount_48 : decode b_Long_bitCount 48 = .ok (.lload_n 0, 1) := by decide +kernel
theorem d_Long_bitCount_49 : decode b_Long_bitCount 49 = .ok (.lload_n 0, 1) := by decide +kernel
theorem d_Long_bitCount_50 : decode b_Long_bitCount 50 = .ok (.bipush 32, 2) := by decide +kernel
theorem d_Long_bitCount_52 : decode b_Long_bitCount 52 = .ok (.lushr, 1) := by decide +kernel
theorem d_Long_bitCount_53 : decode b_Long_bitCount 53 = .ok (.ladd, 1) := by decide +kernel
theorem d_Long_bitCount_54 : decode b_Long_bitCount 54 = .ok (.lstore_n 0, 1) := by decide +kernel
theorem d_Long_bitCount_55 : decode b_Long_bitCount 55 = .ok (.lload_n 0, 1) := by decide +kernel
theorem d_Long_bitCount_56 : decode b_Long_bitCount 56 = .ok (.l2i, 1) := by decide +kernel
theorem d_Long_bitCount_57 : decode b_Long_bitCount 57 = .ok (.bipush 127, 2) := by decide +kernel
theorem d_Long_bitCount_59 : decode b_Long_bitCount 59 = .ok (.iand, 1) := by decide +kernel
theorem d_Long_bitCount_60 : decode b_Long_bitCount 60 = .ok (.ireturn, 1) := by decide +kernel
theorem d_CharacterList_shownAt_0 : decode b_CharacterList_shownAt 0 = .ok (.iconst 0, 1) := by decide +kernel
theorem d_CharacterList_shownAt_1 : decode b_CharacterList_shownAt 1 = .ok (.istore 4, 2) := by decide +kernel
theorem d_CharacterList_shownAt_3 : decode b_CharacterList_shownAt 3 = .ok (.iconst 0, 1) := by decide +kernel
theorem d_CharacterList_shownAt_4 : decode b_CharacterList_shownAt 4 = .ok (.istore 5, 2) := by decide +kernel
theorem d_CharacterList_shownAt_6 : decode b_CharacterList_shownAt 6 = .ok (.iload 5, 2) := by decide +kernel
theorem d_CharacterList_shownAt_8 : decode b_CharacterList_shownAt 8 = .ok (.aload_n 0, 1) := by decide +kernel
theorem d_CharacterList_shownAt_9 : decode b_CharacterList_shownAt 9 = .ok (.getfield 36, 3) := by decide +kernel
theorem d_CharacterList_shownAt_12 : decode b_CharacterList_shownAt 12 = .ok (.if_icmp .ge 40, 3) := by decide +kernel
theorem d_CharacterList_shownAt_15 : decode b_CharacterList_shownAt 15 = .ok (.lload_n 1, 1) := by decide +kernel
theorem d_CharacterList_shownAt_16 : decode b_CharacterList_shownAt 16 = .ok (.aload_n 0, 1) := by decide +kernel
theorem d_CharacterList_shownAt_17 : decode b_CharacterList_shownAt 17 = .ok (.getfield 9, 3) := by decide +kernel
theorem d_CharacterList_shownAt_20 : decode b_CharacterList_shownAt 20 = .ok (.iload 5, 2) := by decide +kernel
theorem d_CharacterList_shownAt_22 : decode b_CharacterList_shownAt 22 = .ok (.iaload, 1) := by decide +kernel
theorem d_CharacterList_shownAt_23 : decode b_CharacterList_shownAt 23 = .ok (.invokestatic 44, 3) := by decide +kernel
theorem d_CharacterList_shownAt_26 : decode b_CharacterList_shownAt 26 = .ok (.ifCond .eq 20, 3) := by decide +kernel
theorem d_CharacterList_shownAt_29 : decode b_CharacterList_shownAt 29 = .ok (.iload 4, 2) := by decide +kernel
theorem d_CharacterList_shownAt_31 : decode b_CharacterList_shownAt 31 = .ok (.iload_n 3, 1) := by decide +kernel
theorem d_CharacterList_shownAt_32 : decode b_CharacterList_shownAt 32 = .ok (.if_icmp .ne 11, 3) := by decide +kernel
theorem d_CharacterList_shownAt_35 : decode b_CharacterList_shownAt 35 = .ok (.aload_n 0, 1) := by decide +kernel
theorem d_CharacterList_shownAt_36 : decode b_CharacterList_shownAt 36 = .ok (.getfield 9, 3) := by decide +kernel
theorem d_CharacterList_shownAt_39 : decode b_CharacterList_shownAt 39 = .ok (.iload 5, 2) := by decide +kernel
theorem d_CharacterList_shownAt_41 : decode b_CharacterList_shownAt 41 = .ok (.iaload, 1) := by decide +kernel
theorem d_CharacterList_shownAt_42 : decode b_CharacterList_shownAt 42 = .ok (.ireturn, 1) := by decide +kernel
theorem d_CharacterList_shownAt_43 : decode b_CharacterList_shownAt 43 = .ok (.iinc 4 1, 3) := by decide +kernel
theorem d_CharacterList_shownAt_46 : decode b_CharacterList_shownAt 46 = .ok (.iinc 5 1, 3) := by decide +kernel
theorem d_CharacterList_shownAt_49 : decode b_CharacterList_shownAt 49 = .ok (.goto (-43), 3) := by decide +kernel
theorem d_CharacterList_shownAt_52 : decode b_CharacterList_shownAt 52 = .ok (.iconst (-1), 1) := by decide +kernel
theorem d_CharacterList_shownAt_53 : decode b_CharacterList_shownAt 53 = .ok (.ireturn, 1) := by decide +kernel
theorem d_History_parentsOfAll_0 : decode b_History_parentsOfAll 0 = .ok (.lconst 0, 1) := by decide +kernel
theorem d_History_parentsOfAll_1 : decode b_History_parentsOfAll 1 = .ok (.lstore_n 3, 1) := by decide +kernel
theorem d_History_parentsOfAll_2 : decode b_History_parentsOfAll 2 = .ok (.iconst 0, 1) := by decide +kernel
theorem d_History_parentsOfAll_3 : decode b_History_parentsOfAll 3 = .ok (.istore 5, 2) := by decide +kernel
theorem d_History_parentsOfAll_5 : decode b_History_parentsOfAll 5 = .ok (.iload 5, 2) := by decide +kernel
theorem d_History_parentsOfAll_7 : decode b_History_parentsOfAll 7 = .ok (.aload_n 0, 1) := by decide +kernel
theorem d_History_parentsOfAll_8 : decode b_History_parentsOfAll 8 = .ok (.getfield 37, 3) := by decide +kernel
theorem d_History_parentsOfAll_11 : decode b_History_parentsOfAll 11 = .ok (.if_icmp .ge 28, 3) := by decide +kernel
theorem d_History_parentsOfAll_14 : decode b_History_parentsOfAll 14 = .ok (.lload_n 1, 1) := by decide +kernel
theorem d_History_parentsOfAll_15 : decode b_History_parentsOfAll 15 = .ok (.iload 5, 2) := by decide +kernel
theorem d_History_parentsOfAll_17 : decode b_History_parentsOfAll 17 = .ok (.invokestatic 53, 3) := by decide +kernel
theorem d_History_parentsOfAll_20 : decode b_History_parentsOfAll 20 = .ok (.ifCond .eq 13, 3) := by decide +kernel
theorem d_History_parentsOfAll_23 : decode b_History_parentsOfAll 23 = .ok (.lload_n 3, 1) := by decide +kernel
theorem d_History_parentsOfAll_24 : decode b_History_parentsOfAll 24 = .ok (.aload_n 0, 1) := by decide +kernel
theorem d_History_parentsOfAll_25 : decode b_History_parentsOfAll 25 = .ok (.getfield 24, 3) := by decide +kernel
theorem d_History_parentsOfAll_28 : decode b_History_parentsOfAll 28 = .ok (.iload 5, 2) := by decide +kernel
theorem d_History_parentsOfAll_30 : decode b_History_parentsOfAll 30 = .ok (.laload, 1) := by decide +kernel
theorem d_History_parentsOfAll_31 : decode b_History_parentsOfAll 31 = .ok (.lor, 1) := by decide +kernel
theorem d_History_parentsOfAll_32 : decode b_History_parentsOfAll 32 = .ok (.lstore_n 3, 1) := by decide +kernel
theorem d_History_parentsOfAll_33 : decode b_History_parentsOfAll 33 = .ok (.iinc 5 1, 3) := by decide +kernel
theorem d_History_parentsOfAll_36 : decode b_History_parentsOfAll 36 = .ok (.goto (-31), 3) := by decide +kernel
theorem d_History_parentsOfAll_39 : decode b_History_parentsOfAll 39 = .ok (.lload_n 3, 1) := by decide +kernel
theorem d_History_parentsOfAll_40 : decode b_History_parentsOfAll 40 = .ok (.lreturn, 1) := by decide +kernel
theorem d_History_headsOf_0 : decode b_History_headsOf 0 = .ok (.lload_n 1, 1) := by decide +kernel
theorem d_History_headsOf_1 : decode b_History_headsOf 1 = .ok (.aload_n 0, 1) := by decide +kernel
theorem d_History_headsOf_2 : decode b_History_headsOf 2 = .ok (.lload_n 1, 1) := by decide +kernel
theorem d_History_headsOf_3 : decode b_History_headsOf 3 = .ok (.invokevirtual 61, 3) := by decide +kernel
theorem d_History_headsOf_6 : decode b_History_headsOf 6 = .ok (.ldc2_w 64, 3) := by decide +kernel
theorem d_History_headsOf_9 : decode b_History_headsOf 9 = .ok (.lxor, 1) := by decide +kernel
theorem d_History_headsOf_10 : decode b_History_headsOf 10 = .ok (.land, 1) := by decide +kernel
theorem d_History_headsOf_11 : decode b_History_headsOf 11 = .ok (.lreturn, 1) := by decide +kernel
theorem d_History_record_0 : decode b_History_record 0 = .ok (.aload_n 0, 1) := by decide +kernel
theorem d_History_record_1 : decode b_History_record 1 = .ok (.getfield 37, 3) := by decide +kernel
theorem d_History_record_4 : decode b_History_record 4 = .ok (.istore 6, 2) := by decide +kernel
theorem d_History_record_6 : decode b_History_record 6 = .ok (.aload_n 0, 1) := by decide +kernel
theorem d_History_record_7 : decode b_History_record 7 = .ok (.getfield 9, 3) := by decide +kernel
theorem d_History_record_10 : decode b_History_record 10 = .ok (.iload 6, 2) := by decide +kernel
theorem d_History_record_12 : decode b_History_record 12 = .ok (.iload_n 1, 1) := by decide +kernel
theorem d_History_record_13 : decode b_History_record 13 = .ok (.iastore, 1) := by decide +kernel
theorem d_History_record_14 : decode b_History_record 14 = .ok (.aload_n 0, 1) := by decide +kernel
theorem d_History_record_15 : decode b_History_record 15 = .ok (.getfield 15, 3) := by decide +kernel
theorem d_History_record_18 : decode b_History_record 18 = .ok (.iload 6, 2) := by decide +kernel
theorem d_History_record_20 : decode b_History_record 20 = .ok (.aload_n 0, 1) := by decide +kernel
theorem d_History_record_21 : decode b_History_record 21 = .ok (.getfield 34, 3) := by decide +kernel
theorem d_History_record_24 : decode b_History_record 24 = .ok (.iload_n 1, 1) := by decide +kernel
theorem d_History_record_25 : decode b_History_record 25 = .ok (.iaload, 1) := by decide +kernel
theorem d_History_record_26 : decode b_History_record 26 = .ok (.iastore, 1) := by decide +kernel
theorem d_History_record_27 : decode b_History_record 27 = .ok (.aload_n 0, 1) := by decide +kernel
theorem d_History_record_28 : decode b_History_record 28 = .ok (.getfield 18, 3) := by decide +kernel
theorem d_History_record_31 : decode b_History_record 31 = .ok (.iload 6, 2) := by decide +kernel
theorem d_History_record_33 : decode b_History_record 33 = .ok (.iload_n 2, 1) := by decide +kernel
theorem d_History_record_34 : decode b_History_record 34 = .ok (.iastore, 1) := by decide +kernel
theorem d_History_record_35 : decode b_History_record 35 = .ok (.aload_n 0, 1) := by decide +kernel
theorem d_History_record_36 : decode b_History_record 36 = .ok (.getfield 21, 3) := by decide +kernel
theorem d_History_record_39 : decode b_History_record 39 = .ok (.iload 6, 2) := by decide +kernel
theorem d_History_record_41 : decode b_History_record 41 = .ok (.iload_n 3, 1) := by decide +kernel
theorem d_History_record_42 : decode b_History_record 42 = .ok (.iastore, 1) := by decide +kernel
theorem d_History_record_43 : decode b_History_record 43 = .ok (.aload_n 0, 1) := by decide +kernel
theorem d_History_record_44 : decode b_History_record 44 = .ok (.getfield 24, 3) := by decide +kernel
theorem d_History_record_47 : decode b_History_record 47 = .ok (.iload 6, 2) := by decide +kernel
theorem d_History_record_49 : decode b_History_record 49 = .ok (.aload_n 0, 1) := by decide +kernel
theorem d_History_record_50 : decode b_History_record 50 = .ok (.lload 4, 2) := by decide +kernel
theorem d_History_record_52 : decode b_History_record 52 = .ok (.invokevirtual 41, 3) := by decide +kernel
theorem d_History_record_55 : decode b_History_record 55 = .ok (.lastore, 1) := by decide +kernel
theorem d_History_record_56 : decode b_History_record 56 = .ok (.aload_n 0, 1) := by decide +kernel
theorem d_History_record_57 : decode b_History_record 57 = .ok (.getfield 28, 3) := by decide +kernel
theorem d_History_record_60 : decode b_History_record 60 = .ok (.iload 6, 2) := by decide +kernel
theorem d_History_record_62 : decode b_History_record 62 = .ok (.lload 4, 2) := by decide +kernel
theorem d_History_record_64 : decode b_History_record 64 = .ok (.lastore, 1) := by decide +kernel
theorem d_History_record_65 : decode b_History_record 65 = .ok (.aload_n 0, 1) := by decide +kernel
theorem d_History_record_66 : decode b_History_record 66 = .ok (.getfield 31, 3) := by decide +kernel
theorem d_History_record_69 : decode b_History_record 69 = .ok (.iload_n 1, 1) := by decide +kernel
theorem d_History_record_70 : decode b_History_record 70 = .ok (.bipush 40, 2) := by decide +kernel
theorem d_History_record_72 : decode b_History_record 72 = .ok (.imul, 1) := by decide +kernel
theorem d_History_record_73 : decode b_History_record 73 = .ok (.aload_n 0, 1) := by decide +kernel
theorem d_History_record_74 : decode b_History_record 74 = .ok (.getfield 34, 3) := by decide +kernel
theorem d_History_record_77 : decode b_History_record 77 = .ok (.iload_n 1, 1) := by decide +kernel
theorem d_History_record_78 : decode b_History_record 78 = .ok (.iaload, 1) := by decide +kernel
theorem d_History_record_79 : decode b_History_record 79 = .ok (.iadd, 1) := by decide +kernel
theorem d_History_record_80 : decode b_History_record 80 = .ok (.iload 6, 2) := by decide +kernel
theorem d_History_record_82 : decode b_History_record 82 = .ok (.iastore, 1) := by decide +kernel
theorem d_History_record_83 : decode b_History_record 83 = .ok (.aload_n 0, 1) := by decide +kernel
theorem d_History_record_84 : decode b_History_record 84 = .ok (.getfield 34, 3) := by decide +kernel
theorem d_History_record_87 : decode b_History_record 87 = .ok (.iload_n 1, 1) := by decide +kernel
theorem d_History_record_88 : decode b_History_record 88 = .ok (.dup2, 1) := by decide +kernel
theorem d_History_record_89 : decode b_History_record 89 = .ok (.iaload, 1) := by decide +kernel
theorem d_History_record_90 : decode b_History_record 90 = .ok (.iconst 1, 1) := by decide +kernel
theorem d_History_record_91 : decode b_History_record 91 = .ok (.iadd, 1) := by decide +kernel
theorem d_History_record_92 : decode b_History_record 92 = .ok (.iastore, 1) := by decide +kernel
theorem d_History_record_93 : decode b_History_record 93 = .ok (.aload_n 0, 1) := by decide +kernel
theorem d_History_record_94 : decode b_History_record 94 = .ok (.dup, 1) := by decide +kernel
theorem d_History_record_95 : decode b_History_record 95 = .ok (.getfield 37, 3) := by decide +kernel
theorem d_History_record_98 : decode b_History_record 98 = .ok (.iconst 1, 1) := by decide +kernel
theorem d_History_record_99 : decode b_History_record 99 = .ok (.iadd, 1) := by decide +kernel
theorem d_History_record_100 : decode b_History_record 100 = .ok (.putfield 37, 3) := by decide +kernel
theorem d_History_record_103 : decode b_History_record 103 = .ok (.iload 6, 2) := by decide +kernel
theorem d_History_record_105 : decode b_History_record 105 = .ok (.ireturn, 1) := by decide +kernel
theorem d_CharacterList_childrenOf_0 : decode b_CharacterList_childrenOf 0 = .ok (.lconst 0, 1) := by decide +kernel
theorem d_CharacterList_childrenOf_1 : decode b_CharacterList_childrenOf 1 = .ok (.lstore_n 3, 1) := by decide +kernel
theorem d_CharacterList_childrenOf_2 : decode b_CharacterList_childrenOf 2 = .ok (.iconst 0, 1) := by decide +kernel
theorem d_CharacterList_childrenOf_3 : decode b_CharacterList_childrenOf 3 = .ok (.istore 5, 2) := by decide +kernel
theorem d_CharacterList_childrenOf_5 : decode b_CharacterList_childrenOf 5 = .ok (.iload 5, 2) := by decide +kernel
theorem d_CharacterList_childrenOf_7 : decode b_CharacterList_childrenOf 7 = .ok (.aload_n 0, 1) := by decide +kernel
theorem d_CharacterList_childrenOf_8 : decode b_CharacterList_childrenOf 8 = .ok (.getfield 36, 3) := by decide +kernel
theorem d_CharacterList_childrenOf_11 : decode b_CharacterList_childrenOf 11 = .ok (.if_icmp .ge 48, 3) := by decide +kernel
theorem d_CharacterList_childrenOf_14 : decode b_CharacterList_childrenOf 14 = .ok (.aload_n 0, 1) := by decide +kernel
theorem d_CharacterList_childrenOf_15 : decode b_CharacterList_childrenOf 15 = .ok (.getfield 9, 3) := by decide +kernel
theorem d_CharacterList_childrenOf_18 : decode b_CharacterList_childrenOf 18 = .ok (.iload 5, 2) := by decide +kernel
theorem d_CharacterList_childrenOf_20 : decode b_CharacterList_childrenOf 20 = .ok (.iaload, 1) := by decide +kernel
theorem d_CharacterList_childrenOf_21 : decode b_CharacterList_childrenOf 21 = .ok (.istore 6, 2) := by decide +kernel
theorem d_CharacterList_childrenOf_23 : decode b_CharacterList_childrenOf 23 = .ok (.aload_n 0, 1) := by decide +kernel
theorem d_CharacterList_childrenOf_24 : decode b_CharacterList_childrenOf 24 = .ok (.getfield 15, 3) := by decide +kernel
theorem d_CharacterList_childrenOf_27 : decode b_CharacterList_childrenOf 27 = .ok (.iload 6, 2) := by decide +kernel
theorem d_CharacterList_childrenOf_29 : decode b_CharacterList_childrenOf 29 = .ok (.iaload, 1) := by decide +kernel
theorem d_CharacterList_childrenOf_30 : decode b_CharacterList_childrenOf 30 = .ok (.iload_n 1, 1) := by decide +kernel
theorem d_CharacterList_childrenOf_31 : decode b_CharacterList_childrenOf 31 = .ok (.if_icmp .ne 22, 3) := by decide +kernel
theorem d_CharacterList_childrenOf_34 : decode b_CharacterList_childrenOf 34 = .ok (.aload_n 0, 1) := by decide +kernel
theorem d_CharacterList_childrenOf_35 : decode b_CharacterList_childrenOf 35 = .ok (.getfield 18, 3) := by decide +kernel
theorem d_CharacterList_childrenOf_38 : decode b_CharacterList_childrenOf 38 = .ok (.iload 6, 2) := by decide +kernel
theorem d_CharacterList_childrenOf_40 : decode b_CharacterList_childrenOf 40 = .ok (.baload, 1) := by decide +kernel
theorem d_CharacterList_childrenOf_41 : decode b_CharacterList_childrenOf 41 = .ok (.iload_n 2, 1) := by decide +kernel
theorem d_CharacterList_childrenOf_42 : decode b_CharacterList_childrenOf 42 = .ok (.if_icmp .ne 11, 3) := by decide +kernel
theorem d_CharacterList_childrenOf_45 : decode b_CharacterList_childrenOf 45 = .ok (.lload_n 3, 1) := by decide +kernel
theorem d_CharacterList_childrenOf_46 : decode b_CharacterList_childrenOf 46 = .ok (.iload 6, 2) := by decide +kernel
theorem d_CharacterList_childrenOf_48 : decode b_CharacterList_childrenOf 48 = .ok (.invokestatic 40, 3) := by decide +kernel
theorem d_CharacterList_childrenOf_51 : decode b_CharacterList_childrenOf 51 = .ok (.lor, 1) := by decide +kernel
theorem d_CharacterList_childrenOf_52 : decode b_CharacterList_childrenOf 52 = .ok (.lstore_n 3, 1) := by decide +kernel
theorem d_CharacterList_childrenOf_53 : decode b_CharacterList_childrenOf 53 = .ok (.iinc 5 1, 3) := by decide +kernel
theorem d_CharacterList_childrenOf_56 : decode b_CharacterList_childrenOf 56 = .ok (.goto (-51), 3) := by decide +kernel
theorem d_CharacterList_childrenOf_59 : decode b_CharacterList_childrenOf 59 = .ok (.lload_n 3, 1) := by decide +kernel
theorem d_CharacterList_childrenOf_60 : decode b_CharacterList_childrenOf 60 = .ok (.lreturn, 1) := by decide +kernel
theorem d_CharacterList_nextBehind_0 : decode b_CharacterList_nextBehind 0 = .ok (.iload_n 1, 1) := by decide +kernel
theorem d_CharacterList_nextBehind_1 : decode b_CharacterList_nextBehind 1 = .ok (.iconst (-1), 1) := by decide +kernel
theorem d_CharacterList_nextBehind_2 : decode b_CharacterList_nextBehind 2 = .ok (.if_icmp .ne 7, 3) := by decide +kernel
theorem d_CharacterList_nextBehind_5 : decode b_CharacterList_nextBehind 5 = .ok (.iconst 1, 1) := by decide +kernel
theorem d_CharacterList_nextBehind_6 : decode b_CharacterList_nextBehind 6 = .ok (.goto 4, 3) := by decide +kernel
theorem d_CharacterList_nextBehind_9 : decode b_CharacterList_nextBehind 9 = .ok (.iconst 0, 1) := by decide +kernel
theorem d_CharacterList_nextBehind_10 : decode b_CharacterList_nextBehind 10 = .ok (.istore 4, 2) := by decide +kernel
theorem d_CharacterList_nextBehind_12 : decode b_CharacterList_nextBehind 12 = .ok (.iconst 0, 1) := by decide +kernel
theorem d_CharacterList_nextBehind_13 : decode b_CharacterList_nextBehind 13 = .ok (.istore 5, 2) := by decide +kernel
theorem d_CharacterList_nextBehind_15 : decode b_CharacterList_nextBehind 15 = .ok (.iload 5, 2) := by decide +kernel
theorem d_CharacterList_nextBehind_17 : decode b_CharacterList_nextBehind 17 = .ok (.aload_n 0, 1) := by decide +kernel
theorem d_CharacterList_nextBehind_18 : decode b_CharacterList_nextBehind 18 = .ok (.getfield 36, 3) := by decide +kernel
theorem d_CharacterList_nextBehind_21 : decode b_CharacterList_nextBehind 21 = .ok (.if_icmp .ge 59, 3) := by decide +kernel
theorem d_CharacterList_nextBehind_24 : decode b_CharacterList_nextBehind 24 = .ok (.iload 4, 2) := by decide +kernel
theorem d_CharacterList_nextBehind_26 : decode b_CharacterList_nextBehind 26 = .ok (.ifCond .eq 25, 3) := by decide +kernel
theorem d_CharacterList_nextBehind_29 : decode b_CharacterList_nextBehind 29 = .ok (.lload_n 2, 1) := by decide +kernel
theorem d_CharacterList_nextBehind_30 : decode b_CharacterList_nextBehind 30 = .ok (.aload_n 0, 1) := by decide +kernel
theorem d_CharacterList_nextBehind_31 : decode b_CharacterList_nextBehind 31 = .ok (.getfield 9, 3) := by decide +kernel
theorem d_CharacterList_nextBehind_34 : decode b_CharacterList_nextBehind 34 = .ok (.iload 5, 2) := by decide +kernel
theorem d_CharacterList_nextBehind_36 : decode b_CharacterList_nextBehind 36 = .ok (.iaload, 1) := by decide +kernel
theorem d_CharacterList_nextBehind_37 : decode b_CharacterList_nextBehind 37 = .ok (.invokestatic 44, 3) := by decide +kernel
theorem d_CharacterList_nextBehind_40 : decode b_CharacterList_nextBehind 40 = .ok (.ifCond .eq 11, 3) := by decide +kernel
theorem d_CharacterList_nextBehind_43 : decode b_CharacterList_nextBehind 43 = .ok (.aload_n 0, 1) := by decide +kernel
theorem d_CharacterList_nextBehind_44 : decode b_CharacterList_nextBehind 44 = .ok (.getfield 9, 3) := by decide +kernel
theorem d_CharacterList_nextBehind_47 : decode b_CharacterList_nextBehind 47 = .ok (.iload 5, 2) := by decide +kernel
end
section
abbrev xS : Type := (Nat → Nat → Int32) × (Nat → Nat → Int64) × (Nat → Int32) × (Nat → Int64)
def xs_I (u : xS) (k : Nat) : Nat → Int32 := u.1 k
def xs_L (u : xS) (k : Nat) : Nat → Int64 := u.2.1 k
def xs_i (u : xS) (k : Nat) : Int32 := u.2.2.1 k
def xs_l (u : xS) (k : Nat) : Int64 := u.2.2.2 k
def xs_sI (u : xS) (k j : Nat) (v : Int32) : xS := (fun q => if q = k then upd (u.1 k) j v else u.1 q, u.2)
def xs_sL (u : xS) (k j : Nat) (v : Int64) : xS := (u.1, fun q => if q = k then vp_updL (u.2.1 k) j v else u.2.1 q, u.2.2)
def xs_si (u : xS) (k : Nat) (v : Int32) : xS := (u.1, u.2.1, fun q => if q = k then v else u.2.2.1 q, u.2.2.2)
def xs_sl (u : xS) (k : Nat) (v : Int64) : xS := (u.1, u.2.1, u.2.2.1, fun q => if q = k then v else u.2.2.2 q)
def xFU : Nat := 200
abbrev xin (i : Int32) (n : Nat) : Prop := ¬ (i < 0 ∨ n ≤ i.toNatClampNeg)
def xg {β : Type} (c : Prop) [Decidable c] (k : Option β) : Option β := if c then k else none
def xb1 {α β : Type} (o : Option α) (k : α → Option β) : Option β := match o with
  | none => none
  | some a => k a
def xb2 {α β : Type} (o : Option (α × xS)) (k : α → xS → Option β) : Option β := match o with
  | none => none
  | some (a, u) => k a u
def xlt {α β : Type} (a : α) (k : α → Option β) : Option β := k a
theorem xlt_some {α β : Type} {a : α} {k : α → Option β} {b : β} (h : xlt a k = some b) : ∃ x, x = a ∧ k x = some b := ⟨a, rfl, h⟩
def xShl (x : Int64) (y : Int32) : Int64 := x <<< (y.toInt64 &&& 63)
def xUshr (x : Int64) (y : Int32) : Int64 := (x.toUInt64 >>> (y.toInt64.toUInt64 &&& Int64.toUInt64 63)).toInt64
theorem xin_lt {i : Int32} {n : Nat} (h : xin i n) : i.toNatClampNeg < n := Nat.not_le.mp fun q => h (Or.inr q)
theorem xg_some {β : Type} {c : Prop} [Decidable c] {k : Option β} {b : β} (h : xg c k = some b) : c ∧ k = some b := by
  unfold xg at h
  by_cases hc : c
  · rw [if_pos hc] at h
    exact ⟨hc, h⟩
  · rw [if_neg hc] at h
    cases h
theorem xb1_some {α β : Type} {o : Option α} {k : α → Option β} {b : β} (h : xb1 o k = some b) : ∃ a, o = some a ∧ k a = some b := by
  cases o with
  | none => cases h
  | some a => exact ⟨a, rfl, h⟩
theorem xb2_some {α β : Type} {o : Option (α × xS)} {k : α → xS → Option β} {b : β} (h : xb2 o k = some b) : ∃ a u, o = some (a, u) ∧ k a u = some b := by
  cases o with
  | none => cases h
  | some q =>
    obtain ⟨a, u⟩ := q
    exact ⟨a, u, rfl, h⟩
theorem xi_pos {β : Type} {c : Prop} [Decidable c] {a b : Option β} {r : β} (hc : c) (h : (if c then a else b) = some r) : a = some r := by
  rw [if_pos hc] at h
  exact h
theorem xi_neg {β : Type} {c : Prop} [Decidable c] {a b : Option β} {r : β} (hc : ¬ c) (h : (if c then a else b) = some r) : b = some r := by
  rw [if_neg hc] at h
  exact h
theorem xnar {v : Int32} (h : v = 0 ∨ v = 1) : narrow .boolean (.int v) = .int v := by
  rcases h with rfl | rfl <;> rfl
theorem xcmp0 {x y : Int64} : lg_cmp x y = 0 ↔ x = y := by
  unfold lg_cmp
  by_cases h1 : x > y
  · rw [if_pos h1]
    exact ⟨fun h => absurd h (by decide), fun h => by subst h; exact absurd h1 (by simp)⟩
  · rw [if_neg h1]
    by_cases h2 : x = y
    · rw [if_pos h2]
      exact ⟨fun _ => h2, fun _ => rfl⟩
    · rw [if_neg h2]
      exact ⟨fun h => absurd h (by decide), fun h => absurd h h2⟩
def xN : Nat → Prop := fun _ => False
def xA (ad : Nat → Nat) (N : Nat) : Nat → Prop := fun q => ∃ k, k < N ∧ q = ad k
def xR (D : va_G) (cl : List vw_C) (tys : List (ClassId × FieldType)) (ws : va_W) (U : State) : Prop := va_P D cl ws U.heap ∧ va_K D cl tys U ∧ xNw U
theorem xp_conv {D : va_G} {cl : List vw_C} {w w2 : va_W} {H : Heap} (h : w = w2) (hP : va_P D cl w H) : va_P D cl w2 H := h ▸ hP
theorem xp_heap {D : va_G} {cl : List vw_C} {w : va_W} {H H2 : Heap} (h : H2 = H) (hP : va_P D cl w H) : va_P D cl w H2 := by
  subst h
  exact hP
theorem xP_kept {D : va_G} {cl : List vw_C} {ws : va_W} {H H1 : Heap} (hP : va_P D cl ws H) (hk : ∀ q : Nat, q < H.size → H1[q]? = H[q]?) : va_P D cl ws H1 := fun k q hq => (hP k q hq).kept (hk q.1 (hP k q hq).lt)
theorem xR_blind {D : va_G} {cl : List vw_C} {tys : List (ClassId × FieldType)} {ws : va_W} {av : List Value} : FrameBlind (va_Pc av (xR D cl tys ws)) := fun a U g mk q => ⟨q.1, q.2.1, va_K.moved (u := U) (U := U.calling g mk a) (Vm.Alike.refl U.vm) q.2.2.1, xNw_same (u := U) (U := U.calling g mk a) rfl q.2.2.2⟩
theorem xpreS {D : va_G} {cl : List vw_C} {tys : List (ClassId × FieldType)} {ws : va_W} {av : List Value} {s : State} {H : Heap} (hP : va_P D cl ws H) (hK : va_K D cl tys s) (hN : xNw s) : PreS s H (va_Pc av (xR D cl tys ws)) av := ⟨xR_blind, fun U hU hW => ⟨rfl, by rw [hU]; exact hP, va_K.moved hW.alike hK, xNw_warm hW hN⟩⟩
theorem xpreS0 {av : List Value} {s : State} {H : Heap} : PreS s H (va_Pc av (fun _ => True)) av := ⟨fun _ _ _ _ q => q, fun _ _ _ => ⟨rfl, trivial⟩⟩
theorem xpreV {D : va_G} {cl : List vw_C} {tys : List (ClassId × FieldType)} {ws : va_W} {As : List Value} {s : State} {H : Heap} {b q0 ci N : Nat} {C : String} {T : u_T} {fs : List Value} (hP : va_P D cl ws H) (hK : va_K D cl tys s) (hN : xNw s) (hc : cl[ci]? = some (C, T, N)) (he : ws[q0]? = some (b, .inr (ci, fs))) : PreV s H C b (va_Pc (.ref b :: As) (xR D cl tys ws)) As := ⟨xR_blind, va_recv hK hP hc he, fun U hU hW => ⟨rfl, by rw [hU]; exact hP, va_K.moved hW.alike hK, xNw_warm hW hN⟩⟩
section XW
variable {p : Program} {l : Launch} {e : Env} {R : Room} {s : State} {m : MethodId} {args : Array Value} {below : List Frame} {meth : Method} {c : Code} {H : Heap} {locs : List Loc} {cells slots : Nat} {Q : State → Prop}
variable {cc : ByteArray} {pc : Nat} {ls : Array Slot} {rest st0 : List Value} {a : Array Value} {D : va_G} {cl : List vw_C} {tys : List (ClassId × FieldType)} {ws : va_W} {A0 A1 : Nat → Prop} {H0 : Heap}
theorem xl_cmp_eq (hexec : p.tables.exec = Jvm.exec) (hb : c.code = cc) {x y : Int64} {off : Int} {tgt : Nat} (h1 : decode cc pc = .ok (.lcmp, 1)) (h2 : decode cc (pc + 1) = .ok (.ifCond .eq off, 3)) (ht : ((pc + 1 : Nat) : Int) + off = (tgt : Int))
    (kt : x = y → W p l e R s m args below meth c H locs cells slots Q (F0 m tgt ls rest)) (kf : ¬ x = y → W p l e R s m args below meth c H locs cells slots Q (F0 m (pc + 1 + 3) ls rest)) : W p l e R s m args below meth c H locs cells slots Q (F0 m pc ls (.long y :: .long x :: rest)) :=
  W.lcmp hexec hb h1 (lv_if_eq hexec hb h2 ht (fun h => kt (xcmp0.mp h)) (fun h => kf (fun q => h (xcmp0.mpr q))))
theorem xl_cmp_ne (hexec : p.tables.exec = Jvm.exec) (hb : c.code = cc) {x y : Int64} {off : Int} {tgt : Nat} (h1 : decode cc pc = .ok (.lcmp, 1)) (h2 : decode cc (pc + 1) = .ok (.ifCond .ne off, 3)) (ht : ((pc + 1 : Nat) : Int) + off = (tgt : Int))
    (kt : ¬ x = y → W p l e R s m args below meth c H locs cells slots Q (F0 m tgt ls rest)) (kf : x = y → W p l e R s m args below meth c H locs cells slots Q (F0 m (pc + 1 + 3) ls rest)) : W p l e R s m args below meth c H locs cells slots Q (F0 m pc ls (.long y :: .long x :: rest)) :=
  W.lcmp hexec hb h1 (lv_if_ne hexec hb h2 ht (fun h => kt (fun q => h (xcmp0.mpr q))) (fun h => kf (xcmp0.mp h)))
theorem xc_i {r : Int32} (hr : va_Run p l e R s m args below meth c H locs cells slots 0 0 (F0 m pc ls st0) rest (va_Qi (fun r9 (_ : Unit) => r9 = r) (fun _ _ => True) xN a) xN) (hP : va_P D cl ws H) (hS : va_S A0 H0 H locs)
    (kk : ∀ (H1 : Heap) (locs1 : List Loc), va_P D cl ws H1 → va_S A0 H0 H1 locs1 → W p l e R s m args below meth c H1 locs1 cells slots Q (F0 m (pc + 3) ls (.int r :: rest))) : W p l e R s m args below meth c H locs cells slots Q (F0 m pc ls st0) :=
  va_calli hr hS (fun _ _ h => h.elim) (fun _ h => h.elim) (fun _ _ _ H1 locs1 _ _ h _ _ hk hS1 => by subst h; exact kk H1 locs1 (xP_kept hP (fun q hq => hk q hq (fun z => z))) hS1)
theorem xc_i0 {r : Int32} (hr : va_Run p l e R s m args below meth c H locs cells slots 0 0 (F0 m pc ls st0) rest (va_Qi (fun r9 (_ : Unit) => r9 = r) (fun _ _ => True) xN a) xN) (hS : va_S A0 H0 H locs)
    (kk : ∀ (H1 : Heap) (locs1 : List Loc), va_S A0 H0 H1 locs1 → W p l e R s m args below meth c H1 locs1 cells slots Q (F0 m (pc + 3) ls (.int r :: rest))) : W p l e R s m args below meth c H locs cells slots Q (F0 m pc ls st0) :=
  va_calli hr hS (fun _ _ h => h.elim) (fun _ h => h.elim) (fun _ _ _ H1 locs1 _ _ h _ _ _ hS1 => by subst h; exact kk H1 locs1 hS1)
theorem xc_l {r : Int64} (hr : va_Run p l e R s m args below meth c H locs cells slots 0 0 (F0 m pc ls st0) rest (va_Ql (fun r9 (_ : Unit) => r9 = r) (fun _ _ => True) xN a) xN) (hP : va_P D cl ws H) (hS : va_S A0 H0 H locs)
    (kk : ∀ (H1 : Heap) (locs1 : List Loc), va_P D cl ws H1 → va_S A0 H0 H1 locs1 → W p l e R s m args below meth c H1 locs1 cells slots Q (F0 m (pc + 3) ls (.long r :: rest))) : W p l e R s m args below meth c H locs cells slots Q (F0 m pc ls st0) :=
  va_calll hr hS (fun _ _ h => h.elim) (fun _ h => h.elim) (fun _ _ _ H1 locs1 _ _ h _ _ hk hS1 => by subst h; exact kk H1 locs1 (xP_kept hP (fun q hq => hk q hq (fun z => z))) hS1)
theorem xc_l0 {r : Int64} (hr : va_Run p l e R s m args below meth c H locs cells slots 0 0 (F0 m pc ls st0) rest (va_Ql (fun r9 (_ : Unit) => r9 = r) (fun _ _ => True) xN a) xN) (hS : va_S A0 H0 H locs)
    (kk : ∀ (H1 : Heap) (locs1 : List Loc), va_S A0 H0 H1 locs1 → W p l e R s m args below meth c H1 locs1 cells slots Q (F0 m (pc + 3) ls (.long r :: rest))) : W p l e R s m args below meth c H locs cells slots Q (F0 m pc ls st0) :=
  va_calll hr hS (fun _ _ h => h.elim) (fun _ h => h.elim) (fun _ _ _ H1 locs1 _ _ h _ _ _ hS1 => by subst h; exact kk H1 locs1 hS1)
theorem xc_iw {r : Int32} {u1 : xS} {Wd : xS → va_W} (hr : va_Run p l e R s m args below meth c H locs cells slots 0 0 (F0 m pc ls st0) rest (va_Qi (fun r9 (u9 : xS) => r9 = r ∧ u9 = u1) (fun u9 t => va_P D cl (Wd u9) t.heap) A1 a) A1) (hS : va_S A0 H0 H locs) (hA : ∀ q, A1 q → A0 q)
    (kk : ∀ (H1 : Heap) (locs1 : List Loc), va_P D cl (Wd u1) H1 → va_S A0 H0 H1 locs1 → W p l e R s m args below meth c H1 locs1 cells slots Q (F0 m (pc + 3) ls (.int r :: rest))) : W p l e R s m args below meth c H locs cells slots Q (F0 m pc ls st0) :=
  va_calli hr hS (fun q _ h => hA q h) hA (fun _ _ t H1 locs1 ht _ h hB _ _ hS1 => by
    obtain ⟨rfl, rfl⟩ := h
    exact kk H1 locs1 (by rw [← ht]; exact hB) hS1)
theorem xc_lw {r : Int64} {u1 : xS} {Wd : xS → va_W} (hr : va_Run p l e R s m args below meth c H locs cells slots 0 0 (F0 m pc ls st0) rest (va_Ql (fun r9 (u9 : xS) => r9 = r ∧ u9 = u1) (fun u9 t => va_P D cl (Wd u9) t.heap) A1 a) A1) (hS : va_S A0 H0 H locs) (hA : ∀ q, A1 q → A0 q)
    (kk : ∀ (H1 : Heap) (locs1 : List Loc), va_P D cl (Wd u1) H1 → va_S A0 H0 H1 locs1 → W p l e R s m args below meth c H1 locs1 cells slots Q (F0 m (pc + 3) ls (.long r :: rest))) : W p l e R s m args below meth c H locs cells slots Q (F0 m pc ls st0) :=
  va_calll hr hS (fun q _ h => hA q h) hA (fun _ _ t H1 locs1 ht _ h hB _ _ hS1 => by
    obtain ⟨rfl, rfl⟩ := h
    exact kk H1 locs1 (by rw [← ht]; exact hB) hS1)
theorem xc_vw {u1 : xS} {Wd : xS → va_W} (hr : va_Run p l e R s m args below meth c H locs cells slots 0 0 (F0 m pc ls st0) rest (va_Qv (fun (u9 : xS) => u9 = u1) (fun u9 t => va_P D cl (Wd u9) t.heap) A1 a) A1) (hS : va_S A0 H0 H locs) (hA : ∀ q, A1 q → A0 q)
    (kk : ∀ (H1 : Heap) (locs1 : List Loc), va_P D cl (Wd u1) H1 → va_S A0 H0 H1 locs1 → W p l e R s m args below meth c H1 locs1 cells slots Q (F0 m (pc + 3) ls rest)) : W p l e R s m args below meth c H locs cells slots Q (F0 m pc ls st0) :=
  va_callv hr hS (fun q _ h => hA q h) hA (fun _ t H1 locs1 ht _ h hB _ _ hS1 => by
    subst h
    exact kk H1 locs1 (by rw [← ht]; exact hB) hS1)
end XW
abbrev xrm (f lo : Nat) : Room := { frames := f, cells := 0, slots := 0, locals := lo }
theorem xm_pui {l : Launch} {y : MethodName} {ws ws' : List Cond} {rm : Room} {cc : ByteArray} {maxL : Nat} {av : List Value} {r : Int32} (hy : plainName y.cls = true) (hw : ws = Cond.code y cc maxL (some .int) :: ws') (hav : (lg_sl av).length ≤ maxL)
    (body : ∀ (p : Program) (e : Env) (s : State) (m : MethodId) (args : Array Value) (below : List Frame) (meth : Method) (c : Code) (Q : State → Prop) (ls : Array Slot), p.tables.exec = Jvm.exec → c.code = cc → c.maxLocals = maxL → (∀ w ∈ ws, w.before args s = true) → s.vm.findClass y.cls = some m.cls → lv_has ls maxL (lv_args 0 av) → (∀ {v : Int32} {H : Heap} {locs : List Loc} {ls1 : Array Slot} {pc : Nat}, some v = some r → va_S xN s.heap H locs → decode cc pc = .ok (.ireturn, 1) → W p l e rm s m args below meth c H locs 0 0 Q (F0 m pc ls1 [.int v])) → W p l e rm s m args below meth c s.heap [] 0 0 Q (F0 m 0 ls [])) :
    Met l y ws rm (va_Pc av (fun _ => True)) (va_Qi (fun r9 (_ : Unit) => r9 = r) (fun _ _ => True) xN) 0 0 xN := by
  refine Met.ofW (cc := cc) (maxL := maxL) (ret := (some .int)) hy hw ?_
  intro p e s m args below meth c s₁ B hml hv
  obtain ⟨rfl, hv⟩ := hv
  have hl := lv_entry av (n := maxL) hav
  rw [lg_entry_eq]
  generalize (lg_sl av ++ List.replicate (maxL - (lg_sl av).length) Slot.unset).toArray = ls at hl ⊢
  exact body p e s m av.toArray below meth c _ ls B.exec B.bytes hml (atoms_spec (ws := ws) B.pre) (findClass_of_methodNamed B.named) hl (fun {v} {H} {locs} {ls1} {pc} h hS hd => W.iret (v := v) B.exec B.bytes B.returns (fun t ht hW => ⟨⟨v, (), rfl, Option.some.inj h, trivial⟩, hS.F ht⟩) hS.2.2 hd B.notSynchronized)
theorem xm_puz {l : Launch} {y : MethodName} {ws ws' : List Cond} {rm : Room} {cc : ByteArray} {maxL : Nat} {av : List Value} {r : Int32} (hy : plainName y.cls = true) (hw : ws = Cond.code y cc maxL (some .boolean) :: ws') (hav : (lg_sl av).length ≤ maxL)
    (body : ∀ (p : Program) (e : Env) (s : State) (m : MethodId) (args : Array Value) (below : List Frame) (meth : Method) (c : Code) (Q : State → Prop) (ls : Array Slot), p.tables.exec = Jvm.exec → c.code = cc → c.maxLocals = maxL → (∀ w ∈ ws, w.before args s = true) → s.vm.findClass y.cls = some m.cls → lv_has ls maxL (lv_args 0 av) → (∀ {v : Int32} {H : Heap} {locs : List Loc} {ls1 : Array Slot} {pc : Nat}, some v = some r → narrow .boolean (.int v) = .int v → va_S xN s.heap H locs → decode cc pc = .ok (.ireturn, 1) → W p l e rm s m args below meth c H locs 0 0 Q (F0 m pc ls1 [.int v])) → W p l e rm s m args below meth c s.heap [] 0 0 Q (F0 m 0 ls [])) :
    Met l y ws rm (va_Pc av (fun _ => True)) (va_Qi (fun r9 (_ : Unit) => r9 = r) (fun _ _ => True) xN) 0 0 xN := by
  refine Met.ofW (cc := cc) (maxL := maxL) (ret := (some .boolean)) hy hw ?_
  intro p e s m args below meth c s₁ B hml hv
  obtain ⟨rfl, hv⟩ := hv
  have hl := lv_entry av (n := maxL) hav
  rw [lg_entry_eq]
  generalize (lg_sl av ++ List.replicate (maxL - (lg_sl av).length) Slot.unset).toArray = ls at hl ⊢
  exact body p e s m av.toArray below meth c _ ls B.exec B.bytes hml (atoms_spec (ws := ws) B.pre) (findClass_of_methodNamed B.named) hl (fun {v} {H} {locs} {ls1} {pc} h hn hS hd => W.zret (v := v) B.exec B.bytes B.returns hn (fun t ht hW => ⟨⟨v, (), rfl, Option.some.inj h, trivial⟩, hS.F ht⟩) hS.2.2 hd B.notSynchronized)
theorem xm_puj {l : Launch} {y : MethodName} {ws ws' : List Cond} {rm : Room} {cc : ByteArray} {maxL : Nat} {av : List Value} {r : Int64} (hy : plainName y.cls = true) (hw : ws = Cond.code y cc maxL (some .long) :: ws') (hav : (lg_sl av).length ≤ maxL)
    (body : ∀ (p : Program) (e : Env) (s : State) (m : MethodId) (args : Array Value) (below : List Frame) (meth : Method) (c : Code) (Q : State → Prop) (ls : Array Slot), p.tables.exec = Jvm.exec → c.code = cc → c.maxLocals = maxL → (∀ w ∈ ws, w.before args s = true) → s.vm.findClass y.cls = some m.cls → lv_has ls maxL (lv_args 0 av) → (∀ {v : Int64} {H : Heap} {locs : List Loc} {ls1 : Array Slot} {pc : Nat}, some v = some r → va_S xN s.heap H locs → decode cc pc = .ok (.lreturn, 1) → W p l e rm s m args below meth c H locs 0 0 Q (F0 m pc ls1 [.long v])) → W p l e rm s m args below meth c s.heap [] 0 0 Q (F0 m 0 ls [])) :
    Met l y ws rm (va_Pc av (fun _ => True)) (va_Ql (fun r9 (_ : Unit) => r9 = r) (fun _ _ => True) xN) 0 0 xN := by
  refine Met.ofW (cc := cc) (maxL := maxL) (ret := (some .long)) hy hw ?_
  intro p e s m args below meth c s₁ B hml hv
  obtain ⟨rfl, hv⟩ := hv
  have hl := lv_entry av (n := maxL) hav
  rw [lg_entry_eq]
  generalize (lg_sl av ++ List.replicate (maxL - (lg_sl av).length) Slot.unset).toArray = ls at hl ⊢
  exact body p e s m av.toArray below meth c _ ls B.exec B.bytes hml (atoms_spec (ws := ws) B.pre) (findClass_of_methodNamed B.named) hl (fun {v} {H} {locs} {ls1} {pc} h hS hd => W.lret (v := v) B.exec B.bytes B.returns (fun t ht hW => ⟨⟨v, (), rfl, Option.some.inj h, trivial⟩, hS.F ht⟩) hS.2.2 hd B.notSynchronized)
theorem xm_roi {l : Launch} {y : MethodName} {ws ws' : List Cond} {rm : Room} {cc : ByteArray} {maxL : Nat} {av : List Value} {D : va_G} {cl : List vw_C} {tys : List (ClassId × FieldType)} {wd : va_W} {r : Int32} (hy : plainName y.cls = true) (hw : ws = Cond.code y cc maxL (some .int) :: ws') (hav : (lg_sl av).length ≤ maxL)
    (body : ∀ (p : Program) (e : Env) (s : State) (m : MethodId) (args : Array Value) (below : List Frame) (meth : Method) (c : Code) (Q : State → Prop) (ls : Array Slot), p.tables.exec = Jvm.exec → c.code = cc → c.maxLocals = maxL → (∀ w ∈ ws, w.before args s = true) → s.vm.findClass y.cls = some m.cls → va_K D cl tys s → xNw s → va_P D cl wd s.heap → lv_has ls maxL (lv_args 0 av) → (∀ {v : Int32} {H : Heap} {locs : List Loc} {ls1 : Array Slot} {pc : Nat}, some v = some r → va_S xN s.heap H locs → decode cc pc = .ok (.ireturn, 1) → W p l e rm s m args below meth c H locs 0 0 Q (F0 m pc ls1 [.int v])) → W p l e rm s m args below meth c s.heap [] 0 0 Q (F0 m 0 ls [])) :
    Met l y ws rm (va_Pc av (xR D cl tys wd)) (va_Qi (fun r9 (_ : Unit) => r9 = r) (fun _ _ => True) xN) 0 0 xN := by
  refine Met.ofW (cc := cc) (maxL := maxL) (ret := (some .int)) hy hw ?_
  intro p e s m args below meth c s₁ B hml hv
  obtain ⟨rfl, hv⟩ := hv
  obtain ⟨hP, hK, hN⟩ := hv
  have hl := lv_entry av (n := maxL) hav
  rw [lg_entry_eq]
  generalize (lg_sl av ++ List.replicate (maxL - (lg_sl av).length) Slot.unset).toArray = ls at hl ⊢
  exact body p e s m av.toArray below meth c _ ls B.exec B.bytes hml (atoms_spec (ws := ws) B.pre) (findClass_of_methodNamed B.named) hK hN hP hl (fun {v} {H} {locs} {ls1} {pc} h hS hd => W.iret (v := v) B.exec B.bytes B.returns (fun t ht hW => ⟨⟨v, (), rfl, Option.some.inj h, trivial⟩, hS.F ht⟩) hS.2.2 hd B.notSynchronized)
theorem xm_roz {l : Launch} {y : MethodName} {ws ws' : List Cond} {rm : Room} {cc : ByteArray} {maxL : Nat} {av : List Value} {D : va_G} {cl : List vw_C} {tys : List (ClassId × FieldType)} {wd : va_W} {r : Int32} (hy : plainName y.cls = true) (hw : ws = Cond.code y cc maxL (some .boolean) :: ws') (hav : (lg_sl av).length ≤ maxL)
    (body : ∀ (p : Program) (e : Env) (s : State) (m : MethodId) (args : Array Value) (below : List Frame) (meth : Method) (c : Code) (Q : State → Prop) (ls : Array Slot), p.tables.exec = Jvm.exec → c.code = cc → c.maxLocals = maxL → (∀ w ∈ ws, w.before args s = true) → s.vm.findClass y.cls = some m.cls → va_K D cl tys s → xNw s → va_P D cl wd s.heap → lv_has ls maxL (lv_args 0 av) → (∀ {v : Int32} {H : Heap} {locs : List Loc} {ls1 : Array Slot} {pc : Nat}, some v = some r → narrow .boolean (.int v) = .int v → va_S xN s.heap H locs → decode cc pc = .ok (.ireturn, 1) → W p l e rm s m args below meth c H locs 0 0 Q (F0 m pc ls1 [.int v])) → W p l e rm s m args below meth c s.heap [] 0 0 Q (F0 m 0 ls [])) :
    Met l y ws rm (va_Pc av (xR D cl tys wd)) (va_Qi (fun r9 (_ : Unit) => r9 = r) (fun _ _ => True) xN) 0 0 xN := by
  refine Met.ofW (cc := cc) (maxL := maxL) (ret := (some .boolean)) hy hw ?_
  intro p e s m args below meth c s₁ B hml hv
  obtain ⟨rfl, hv⟩ := hv
  obtain ⟨hP, hK, hN⟩ := hv
  have hl := lv_entry av (n := maxL) hav
  rw [lg_entry_eq]
  generalize (lg_sl av ++ List.replicate (maxL - (lg_sl av).length) Slot.unset).toArray = ls at hl ⊢
  exact body p e s m av.toArray below meth c _ ls B.exec B.bytes hml (atoms_spec (ws := ws) B.pre) (findClass_of_methodNamed B.named) hK hN hP hl (fun {v} {H} {locs} {ls1} {pc} h hn hS hd => W.zret (v := v) B.exec B.bytes B.returns hn (fun t ht hW => ⟨⟨v, (), rfl, Option.some.inj h, trivial⟩, hS.F ht⟩) hS.2.2 hd B.notSynchronized)
theorem xm_roj {l : Launch} {y : MethodName} {ws ws' : List Cond} {rm : Room} {cc : ByteArray} {maxL : Nat} {av : List Value} {D : va_G} {cl : List vw_C} {tys : List (ClassId × FieldType)} {wd : va_W} {r : Int64} (hy : plainName y.cls = true) (hw : ws = Cond.code y cc maxL (some .long) :: ws') (hav : (lg_sl av).length ≤ maxL)
    (body : ∀ (p : Program) (e : Env) (s : State) (m : MethodId) (args : Array Value) (below : List Frame) (meth : Method) (c : Code) (Q : State → Prop) (ls : Array Slot), p.tables.exec = Jvm.exec → c.code = cc → c.maxLocals = maxL → (∀ w ∈ ws, w.before args s = true) → s.vm.findClass y.cls = some m.cls → va_K D cl tys s → xNw s → va_P D cl wd s.heap → lv_has ls maxL (lv_args 0 av) → (∀ {v : Int64} {H : Heap} {locs : List Loc} {ls1 : Array Slot} {pc : Nat}, some v = some r → va_S xN s.heap H locs → decode cc pc = .ok (.lreturn, 1) → W p l e rm s m args below meth c H locs 0 0 Q (F0 m pc ls1 [.long v])) → W p l e rm s m args below meth c s.heap [] 0 0 Q (F0 m 0 ls [])) :
    Met l y ws rm (va_Pc av (xR D cl tys wd)) (va_Ql (fun r9 (_ : Unit) => r9 = r) (fun _ _ => True) xN) 0 0 xN := by
  refine Met.ofW (cc := cc) (maxL := maxL) (ret := (some .long)) hy hw ?_
  intro p e s m args below meth c s₁ B hml hv
  obtain ⟨rfl, hv⟩ := hv
  obtain ⟨hP, hK, hN⟩ := hv
  have hl := lv_entry av (n := maxL) hav
  rw [lg_entry_eq]
  generalize (lg_sl av ++ List.replicate (maxL - (lg_sl av).length) Slot.unset).toArray = ls at hl ⊢
  exact body p e s m av.toArray below meth c _ ls B.exec B.bytes hml (atoms_spec (ws := ws) B.pre) (findClass_of_methodNamed B.named) hK hN hP hl (fun {v} {H} {locs} {ls1} {pc} h hS hd => W.lret (v := v) B.exec B.bytes B.returns (fun t ht hW => ⟨⟨v, (), rfl, Option.some.inj h, trivial⟩, hS.F ht⟩) hS.2.2 hd B.notSynchronized)
theorem xm_rwi {l : Launch} {y : MethodName} {ws ws' : List Cond} {rm : Room} {cc : ByteArray} {maxL : Nat} {av : List Value} {D : va_G} {cl : List vw_C} {tys : List (ClassId × FieldType)} {Wd : xS → va_W} {u u1 : xS} {A : Nat → Prop} {r : Int32} (hy : plainName y.cls = true) (hw : ws = Cond.code y cc maxL (some .int) :: ws') (hav : (lg_sl av).length ≤ maxL)
    (body : ∀ (p : Program) (e : Env) (s : State) (m : MethodId) (args : Array Value) (below : List Frame) (meth : Method) (c : Code) (Q : State → Prop) (ls : Array Slot), p.tables.exec = Jvm.exec → c.code = cc → c.maxLocals = maxL → (∀ w ∈ ws, w.before args s = true) → s.vm.findClass y.cls = some m.cls → va_K D cl tys s → xNw s → va_P D cl (Wd u) s.heap → lv_has ls maxL (lv_args 0 av) → (∀ {v : Int32} {u2 : xS} {H : Heap} {locs : List Loc} {ls1 : Array Slot} {pc : Nat}, some (v, u2) = some (r, u1) → va_P D cl (Wd u2) H → va_S A s.heap H locs → decode cc pc = .ok (.ireturn, 1) → W p l e rm s m args below meth c H locs 0 0 Q (F0 m pc ls1 [.int v])) → W p l e rm s m args below meth c s.heap [] 0 0 Q (F0 m 0 ls [])) :
    Met l y ws rm (va_Pc av (xR D cl tys (Wd u))) (va_Qi (fun r9 (u9 : xS) => r9 = r ∧ u9 = u1) (fun u9 t => va_P D cl (Wd u9) t.heap) A) 0 0 A := by
  refine Met.ofW (cc := cc) (maxL := maxL) (ret := (some .int)) hy hw ?_
  intro p e s m args below meth c s₁ B hml hv
  obtain ⟨rfl, hv⟩ := hv
  obtain ⟨hP, hK, hN⟩ := hv
  have hl := lv_entry av (n := maxL) hav
  rw [lg_entry_eq]
  generalize (lg_sl av ++ List.replicate (maxL - (lg_sl av).length) Slot.unset).toArray = ls at hl ⊢
  exact body p e s m av.toArray below meth c _ ls B.exec B.bytes hml (atoms_spec (ws := ws) B.pre) (findClass_of_methodNamed B.named) hK hN hP hl (fun {v} {u2} {H} {locs} {ls1} {pc} h hP2 hS hd => W.iret (v := v) B.exec B.bytes B.returns (fun t ht hW => ⟨⟨v, u2, rfl, Prod.mk.inj (Option.some.inj h), xp_heap ht hP2⟩, hS.F ht⟩) hS.2.2 hd B.notSynchronized)
theorem xm_rwz {l : Launch} {y : MethodName} {ws ws' : List Cond} {rm : Room} {cc : ByteArray} {maxL : Nat} {av : List Value} {D : va_G} {cl : List vw_C} {tys : List (ClassId × FieldType)} {Wd : xS → va_W} {u u1 : xS} {A : Nat → Prop} {r : Int32} (hy : plainName y.cls = true) (hw : ws = Cond.code y cc maxL (some .boolean) :: ws') (hav : (lg_sl av).length ≤ maxL)
    (body : ∀ (p : Program) (e : Env) (s : State) (m : MethodId) (args : Array Value) (below : List Frame) (meth : Method) (c : Code) (Q : State → Prop) (ls : Array Slot), p.tables.exec = Jvm.exec → c.code = cc → c.maxLocals = maxL → (∀ w ∈ ws, w.before args s = true) → s.vm.findClass y.cls = some m.cls → va_K D cl tys s → xNw s → va_P D cl (Wd u) s.heap → lv_has ls maxL (lv_args 0 av) → (∀ {v : Int32} {u2 : xS} {H : Heap} {locs : List Loc} {ls1 : Array Slot} {pc : Nat}, some (v, u2) = some (r, u1) → narrow .boolean (.int v) = .int v → va_P D cl (Wd u2) H → va_S A s.heap H locs → decode cc pc = .ok (.ireturn, 1) → W p l e rm s m args below meth c H locs 0 0 Q (F0 m pc ls1 [.int v])) → W p l e rm s m args below meth c s.heap [] 0 0 Q (F0 m 0 ls [])) :
    Met l y ws rm (va_Pc av (xR D cl tys (Wd u))) (va_Qi (fun r9 (u9 : xS) => r9 = r ∧ u9 = u1) (fun u9 t => va_P D cl (Wd u9) t.heap) A) 0 0 A := by
  refine Met.ofW (cc := cc) (maxL := maxL) (ret := (some .boolean)) hy hw ?_
  intro p e s m args below meth c s₁ B hml hv
  obtain ⟨rfl, hv⟩ := hv
  obtain ⟨hP, hK, hN⟩ := hv
  have hl := lv_entry av (n := maxL) hav
  rw [lg_entry_eq]
  generalize (lg_sl av ++ List.replicate (maxL - (lg_sl av).length) Slot.unset).toArray = ls at hl ⊢
  exact body p e s m av.toArray below meth c _ ls B.exec B.bytes hml (atoms_spec (ws := ws) B.pre) (findClass_of_methodNamed B.named) hK hN hP hl (fun {v} {u2} {H} {locs} {ls1} {pc} h hn hP2 hS hd => W.zret (v := v) B.exec B.bytes B.returns hn (fun t ht hW => ⟨⟨v, u2, rfl, Prod.mk.inj (Option.some.inj h), xp_heap ht hP2⟩, hS.F ht⟩) hS.2.2 hd B.notSynchronized)
theorem xm_rwj {l : Launch} {y : MethodName} {ws ws' : List Cond} {rm : Room} {cc : ByteArray} {maxL : Nat} {av : List Value} {D : va_G} {cl : List vw_C} {tys : List (ClassId × FieldType)} {Wd : xS → va_W} {u u1 : xS} {A : Nat → Prop} {r : Int64} (hy : plainName y.cls = true) (hw : ws = Cond.code y cc maxL (some .long) :: ws') (hav : (lg_sl av).length ≤ maxL)
    (body : ∀ (p : Program) (e : Env) (s : State) (m : MethodId) (args : Array Value) (below : List Frame) (meth : Method) (c : Code) (Q : State → Prop) (ls : Array Slot), p.tables.exec = Jvm.exec → c.code = cc → c.maxLocals = maxL → (∀ w ∈ ws, w.before args s = true) → s.vm.findClass y.cls = some m.cls → va_K D cl tys s → xNw s → va_P D cl (Wd u) s.heap → lv_has ls maxL (lv_args 0 av) → (∀ {v : Int64} {u2 : xS} {H : Heap} {locs : List Loc} {ls1 : Array Slot} {pc : Nat}, some (v, u2) = some (r, u1) → va_P D cl (Wd u2) H → va_S A s.heap H locs → decode cc pc = .ok (.lreturn, 1) → W p l e rm s m args below meth c H locs 0 0 Q (F0 m pc ls1 [.long v])) → W p l e rm s m args below meth c s.heap [] 0 0 Q (F0 m 0 ls [])) :
    Met l y ws rm (va_Pc av (xR D cl tys (Wd u))) (va_Ql (fun r9 (u9 : xS) => r9 = r ∧ u9 = u1) (fun u9 t => va_P D cl (Wd u9) t.heap) A) 0 0 A := by
  refine Met.ofW (cc := cc) (maxL := maxL) (ret := (some .long)) hy hw ?_
  intro p e s m args below meth c s₁ B hml hv
  obtain ⟨rfl, hv⟩ := hv
  obtain ⟨hP, hK, hN⟩ := hv
  have hl := lv_entry av (n := maxL) hav
  rw [lg_entry_eq]
  generalize (lg_sl av ++ List.replicate (maxL - (lg_sl av).length) Slot.unset).toArray = ls at hl ⊢
  exact body p e s m av.toArray below meth c _ ls B.exec B.bytes hml (atoms_spec (ws := ws) B.pre) (findClass_of_methodNamed B.named) hK hN hP hl (fun {v} {u2} {H} {locs} {ls1} {pc} h hP2 hS hd => W.lret (v := v) B.exec B.bytes B.returns (fun t ht hW => ⟨⟨v, u2, rfl, Prod.mk.inj (Option.some.inj h), xp_heap ht hP2⟩, hS.F ht⟩) hS.2.2 hd B.notSynchronized)
theorem xm_rwv {l : Launch} {y : MethodName} {ws ws' : List Cond} {rm : Room} {cc : ByteArray} {maxL : Nat} {av : List Value} {D : va_G} {cl : List vw_C} {tys : List (ClassId × FieldType)} {Wd : xS → va_W} {u u1 : xS} {A : Nat → Prop} (hy : plainName y.cls = true) (hw : ws = Cond.code y cc maxL none :: ws') (hav : (lg_sl av).length ≤ maxL)
    (body : ∀ (p : Program) (e : Env) (s : State) (m : MethodId) (args : Array Value) (below : List Frame) (meth : Method) (c : Code) (Q : State → Prop) (ls : Array Slot), p.tables.exec = Jvm.exec → c.code = cc → c.maxLocals = maxL → (∀ w ∈ ws, w.before args s = true) → s.vm.findClass y.cls = some m.cls → va_K D cl tys s → xNw s → va_P D cl (Wd u) s.heap → lv_has ls maxL (lv_args 0 av) → (∀ {u2 : xS} {H : Heap} {locs : List Loc} {ls1 : Array Slot} {pc : Nat}, some u2 = some u1 → va_P D cl (Wd u2) H → va_S A s.heap H locs → decode cc pc = .ok (.return_, 1) → W p l e rm s m args below meth c H locs 0 0 Q (F0 m pc ls1 [])) → W p l e rm s m args below meth c s.heap [] 0 0 Q (F0 m 0 ls [])) :
    Met l y ws rm (va_Pc av (xR D cl tys (Wd u))) (va_Qv (fun (u9 : xS) => u9 = u1) (fun u9 t => va_P D cl (Wd u9) t.heap) A) 0 0 A := by
  refine Met.ofW (cc := cc) (maxL := maxL) (ret := none) hy hw ?_
  intro p e s m args below meth c s₁ B hml hv
  obtain ⟨rfl, hv⟩ := hv
  obtain ⟨hP, hK, hN⟩ := hv
  have hl := lv_entry av (n := maxL) hav
  rw [lg_entry_eq]
  generalize (lg_sl av ++ List.replicate (maxL - (lg_sl av).length) Slot.unset).toArray = ls at hl ⊢
  exact body p e s m av.toArray below meth c _ ls B.exec B.bytes hml (atoms_spec (ws := ws) B.pre) (findClass_of_methodNamed B.named) hK hN hP hl (fun {u2} {H} {locs} {ls1} {pc} h hP2 hS hd => W.vret B.exec B.bytes B.returns (fun t ht hW => ⟨⟨u2, rfl, Option.some.inj h, xp_heap ht hP2⟩, hS.F ht⟩) hS.2.2 hd B.notSynchronized)
end
section
def cW (dT : Nat → ClassId) (ad : Nat → Nat) (u : xS) : va_W := [
  (ad 0, .inr (7, [.ref (ad 1), .ref (ad 10), .ref (ad 16), .ref (ad 18), .ref (ad 31)])),
  (ad 1, .inr (1, [.ref (ad 2), .ref (ad 3), .ref (ad 4), .ref (ad 5), .ref (ad 6), .ref (ad 7), .ref (ad 8), .ref (ad 9), .int (xs_i u 0)])),
  (ad 2, .inl (dT 0, 40, .inl (xs_I u 0))),
  (ad 3, .inl (dT 0, 40, .inl (xs_I u 1))),
  (ad 4, .inl (dT 0, 40, .inl (xs_I u 2))),
  (ad 5, .inl (dT 0, 40, .inl (xs_I u 3))),
  (ad 6, .inl (dT 1, 40, .inr (.inl (xs_L u 0)))),
  (ad 7, .inl (dT 1, 40, .inr (.inl (xs_L u 1)))),
  (ad 8, .inl (dT 0, 120, .inl (xs_I u 4))),
  (ad 9, .inl (dT 0, 3, .inl (xs_I u 5))),
  (ad 10, .inr (0, [.ref (ad 11), .ref (ad 12), .ref (ad 13), .ref (ad 14), .ref (ad 15), .long (xs_l u 0), .long (xs_l u 1), .int (xs_i u 1)])),
  (ad 11, .inl (dT 0, 40, .inl (xs_I u 6))),
  (ad 12, .inl (dT 0, 40, .inl (xs_I u 7))),
  (ad 13, .inl (dT 2, 40, .inl (xs_I u 8))),
  (ad 14, .inl (dT 1, 40, .inr (.inl (xs_L u 2)))),
  (ad 15, .inl (dT 0, 40, .inl (xs_I u 9))),
  (ad 16, .inr (2, [.ref (ad 17), .int (xs_i u 2)])),
  (ad 17, .inl (dT 0, 40, .inl (xs_I u 10))),
  (ad 18, .inl (dT 3, 3, .inr (.inr (.inr (.inr (fun k => some (ad (19 + 4 * k)))))))),
  (ad 19, .inr (6, [.ref (ad 20), .ref (ad 21), .long (xs_l u 2)])),
  (ad 20, .inl (dT 1, 3, .inr (.inl (xs_L u 3)))),
  (ad 21, .inr (3, [.ref (ad 22), .int (xs_i u 3), .int (xs_i u 6), .int (xs_i u 9)])),
  (ad 22, .inl (dT 0, 40, .inl (xs_I u 11))),
  (ad 23, .inr (6, [.ref (ad 24), .ref (ad 25), .long (xs_l u 3)])),
  (ad 24, .inl (dT 1, 3, .inr (.inl (xs_L u 4)))),
  (ad 25, .inr (3, [.ref (ad 26), .int (xs_i u 4), .int (xs_i u 7), .int (xs_i u 10)])),
  (ad 26, .inl (dT 0, 40, .inl (xs_I u 12))),
  (ad 27, .inr (6, [.ref (ad 28), .ref (ad 29), .long (xs_l u 4)])),
  (ad 28, .inl (dT 1, 3, .inr (.inl (xs_L u 5)))),
  (ad 29, .inr (3, [.ref (ad 30), .int (xs_i u 5), .int (xs_i u 8), .int (xs_i u 11)])),
  (ad 30, .inl (dT 0, 40, .inl (xs_I u 13))),
  (ad 31, .inl (dT 4, 6, .inr (.inr (.inr (.inr (fun k => some (ad (32 + 3 * k)))))))),
  (ad 32, .inr (4, [.ref (ad 33), .int (xs_i u 12), .int (xs_i u 18), .int (xs_i u 24), .long (xs_l u 5)])),
  (ad 33, .inr (5, [.ref (ad 34), .int (xs_i u 30)])),
  (ad 34, .inl (dT 0, 442, .inl (xs_I u 14))),
  (ad 35, .inr (4, [.ref (ad 36), .int (xs_i u 13), .int (xs_i u 19), .int (xs_i u 25), .long (xs_l u 6)])),
  (ad 36, .inr (5, [.ref (ad 37), .int (xs_i u 31)])),
  (ad 37, .inl (dT 0, 442, .inl (xs_I u 15))),
  (ad 38, .inr (4, [.ref (ad 39), .int (xs_i u 14), .int (xs_i u 20), .int (xs_i u 26), .long (xs_l u 7)])),
  (ad 39, .inr (5, [.ref (ad 40), .int (xs_i u 32)])),
  (ad 40, .inl (dT 0, 442, .inl (xs_I u 16))),
  (ad 41, .inr (4, [.ref (ad 42), .int (xs_i u 15), .int (xs_i u 21), .int (xs_i u 27), .long (xs_l u 8)])),
  (ad 42, .inr (5, [.ref (ad 43), .int (xs_i u 33)])),
  (ad 43, .inl (dT 0, 442, .inl (xs_I u 17))),
  (ad 44, .inr (4, [.ref (ad 45), .int (xs_i u 16), .int (xs_i u 22), .int (xs_i u 28), .long (xs_l u 9)])),
  (ad 45, .inr (5, [.ref (ad 46), .int (xs_i u 34)])),
  (ad 46, .inl (dT 0, 442, .inl (xs_I u 18))),
  (ad 47, .inr (4, [.ref (ad 48), .int (xs_i u 17), .int (xs_i u 23), .int (xs_i u 29), .long (xs_l u 10)])),
  (ad 48, .inr (5, [.ref (ad 49), .int (xs_i u 35)])),
  (ad 49, .inl (dT 0, 442, .inl (xs_I u 19)))]
theorem cW_E {dT : Nat → ClassId} {ad : Nat → Nat} {u : xS} : (cW dT ad u)[0]? = some (ad 0, .inr (7, [.ref (ad 1), .ref (ad 10), .ref (ad 16), .ref (ad 18), .ref (ad 31)])) := rfl
theorem cW_H {dT : Nat → ClassId} {ad : Nat → Nat} {u : xS} : (cW dT ad u)[1]? = some (ad 1, .inr (1, [.ref (ad 2), .ref (ad 3), .ref (ad 4), .ref (ad 5), .ref (ad 6), .ref (ad 7), .ref (ad 8), .ref (ad 9), .int (xs_i u 0)])) := rfl
theorem cW_f_H_count {dT : Nat → ClassId} {ad : Nat → Nat} {u : xS} {v : Int32} : (cW dT ad u).set 1 (ad 1, .inr (1, [.ref (ad 2), .ref (ad 3), .ref (ad 4), .ref (ad 5), .ref (ad 6), .ref (ad 7), .ref (ad 8), .ref (ad 9), .int v])) = cW dT ad (xs_si u 0 v) := rfl
theorem cW_H_sites {dT : Nat → ClassId} {ad : Nat → Nat} {u : xS} : (cW dT ad u)[2]? = some (ad 2, .inl (dT 0, 40, .inl (xs_I u 0))) := rfl
theorem cW_s_H_sites {dT : Nat → ClassId} {ad : Nat → Nat} {u : xS} {q : Nat} {v : Int32} : (cW dT ad u).set 2 (ad 2, .inl (dT 0, 40, .inl (upd (xs_I u 0) q v))) = cW dT ad (xs_sI u 0 q v) := rfl
theorem cW_H_numbers {dT : Nat → ClassId} {ad : Nat → Nat} {u : xS} : (cW dT ad u)[3]? = some (ad 3, .inl (dT 0, 40, .inl (xs_I u 1))) := rfl
theorem cW_s_H_numbers {dT : Nat → ClassId} {ad : Nat → Nat} {u : xS} {q : Nat} {v : Int32} : (cW dT ad u).set 3 (ad 3, .inl (dT 0, 40, .inl (upd (xs_I u 1) q v))) = cW dT ad (xs_sI u 1 q v) := rfl
theorem cW_H_indices {dT : Nat → ClassId} {ad : Nat → Nat} {u : xS} : (cW dT ad u)[4]? = some (ad 4, .inl (dT 0, 40, .inl (xs_I u 2))) := rfl
theorem cW_s_H_indices {dT : Nat → ClassId} {ad : Nat → Nat} {u : xS} {q : Nat} {v : Int32} : (cW dT ad u).set 4 (ad 4, .inl (dT 0, 40, .inl (upd (xs_I u 2) q v))) = cW dT ad (xs_sI u 2 q v) := rfl
theorem cW_H_characters {dT : Nat → ClassId} {ad : Nat → Nat} {u : xS} : (cW dT ad u)[5]? = some (ad 5, .inl (dT 0, 40, .inl (xs_I u 3))) := rfl
theorem cW_s_H_characters {dT : Nat → ClassId} {ad : Nat → Nat} {u : xS} {q : Nat} {v : Int32} : (cW dT ad u).set 5 (ad 5, .inl (dT 0, 40, .inl (upd (xs_I u 3) q v))) = cW dT ad (xs_sI u 3 q v) := rfl
theorem cW_H_parents {dT : Nat → ClassId} {ad : Nat → Nat} {u : xS} : (cW dT ad u)[6]? = some (ad 6, .inl (dT 1, 40, .inr (.inl (xs_L u 0)))) := rfl
theorem cW_s_H_parents {dT : Nat → ClassId} {ad : Nat → Nat} {u : xS} {q : Nat} {v : Int64} : (cW dT ad u).set 6 (ad 6, .inl (dT 1, 40, .inr (.inl (vp_updL (xs_L u 0) q v)))) = cW dT ad (xs_sL u 0 q v) := rfl
theorem cW_H_ancestors {dT : Nat → ClassId} {ad : Nat → Nat} {u : xS} : (cW dT ad u)[7]? = some (ad 7, .inl (dT 1, 40, .inr (.inl (xs_L u 1)))) := rfl
theorem cW_s_H_ancestors {dT : Nat → ClassId} {ad : Nat → Nat} {u : xS} {q : Nat} {v : Int64} : (cW dT ad u).set 7 (ad 7, .inl (dT 1, 40, .inr (.inl (vp_updL (xs_L u 1) q v)))) = cW dT ad (xs_sL u 1 q v) := rfl
theorem cW_H_slots {dT : Nat → ClassId} {ad : Nat → Nat} {u : xS} : (cW dT ad u)[8]? = some (ad 8, .inl (dT 0, 120, .inl (xs_I u 4))) := rfl
theorem cW_s_H_slots {dT : Nat → ClassId} {ad : Nat → Nat} {u : xS} {q : Nat} {v : Int32} : (cW dT ad u).set 8 (ad 8, .inl (dT 0, 120, .inl (upd (xs_I u 4) q v))) = cW dT ad (xs_sI u 4 q v) := rfl
theorem cW_H_made {dT : Nat → ClassId} {ad : Nat → Nat} {u : xS} : (cW dT ad u)[9]? = some (ad 9, .inl (dT 0, 3, .inl (xs_I u 5))) := rfl
theorem cW_s_H_made {dT : Nat → ClassId} {ad : Nat → Nat} {u : xS} {q : Nat} {v : Int32} : (cW dT ad u).set 9 (ad 9, .inl (dT 0, 3, .inl (upd (xs_I u 5) q v))) = cW dT ad (xs_sI u 5 q v) := rfl
theorem cW_L {dT : Nat → ClassId} {ad : Nat → Nat} {u : xS} : (cW dT ad u)[10]? = some (ad 10, .inr (0, [.ref (ad 11), .ref (ad 12), .ref (ad 13), .ref (ad 14), .ref (ad 15), .long (xs_l u 0), .long (xs_l u 1), .int (xs_i u 1)])) := rfl
theorem cW_f_L_deletes {dT : Nat → ClassId} {ad : Nat → Nat} {u : xS} {v : Int64} : (cW dT ad u).set 10 (ad 10, .inr (0, [.ref (ad 11), .ref (ad 12), .ref (ad 13), .ref (ad 14), .ref (ad 15), .long v, .long (xs_l u 1), .int (xs_i u 1)])) = cW dT ad (xs_sl u 0 v) := rfl
theorem cW_f_L_inserts {dT : Nat → ClassId} {ad : Nat → Nat} {u : xS} {v : Int64} : (cW dT ad u).set 10 (ad 10, .inr (0, [.ref (ad 11), .ref (ad 12), .ref (ad 13), .ref (ad 14), .ref (ad 15), .long (xs_l u 0), .long v, .int (xs_i u 1)])) = cW dT ad (xs_sl u 1 v) := rfl
theorem cW_f_L_count {dT : Nat → ClassId} {ad : Nat → Nat} {u : xS} {v : Int32} : (cW dT ad u).set 10 (ad 10, .inr (0, [.ref (ad 11), .ref (ad 12), .ref (ad 13), .ref (ad 14), .ref (ad 15), .long (xs_l u 0), .long (xs_l u 1), .int v])) = cW dT ad (xs_si u 1 v) := rfl
theorem cW_L_order {dT : Nat → ClassId} {ad : Nat → Nat} {u : xS} : (cW dT ad u)[11]? = some (ad 11, .inl (dT 0, 40, .inl (xs_I u 6))) := rfl
theorem cW_s_L_order {dT : Nat → ClassId} {ad : Nat → Nat} {u : xS} {q : Nat} {v : Int32} : (cW dT ad u).set 11 (ad 11, .inl (dT 0, 40, .inl (upd (xs_I u 6) q v))) = cW dT ad (xs_sI u 6 q v) := rfl
theorem cW_L_holders {dT : Nat → ClassId} {ad : Nat → Nat} {u : xS} : (cW dT ad u)[12]? = some (ad 12, .inl (dT 0, 40, .inl (xs_I u 7))) := rfl
theorem cW_s_L_holders {dT : Nat → ClassId} {ad : Nat → Nat} {u : xS} {q : Nat} {v : Int32} : (cW dT ad u).set 12 (ad 12, .inl (dT 0, 40, .inl (upd (xs_I u 7) q v))) = cW dT ad (xs_sI u 7 q v) := rfl
theorem cW_L_onTheRight {dT : Nat → ClassId} {ad : Nat → Nat} {u : xS} : (cW dT ad u)[13]? = some (ad 13, .inl (dT 2, 40, .inl (xs_I u 8))) := rfl
theorem cW_s_L_onTheRight {dT : Nat → ClassId} {ad : Nat → Nat} {u : xS} {q : Nat} {v : Int32} : (cW dT ad u).set 13 (ad 13, .inl (dT 2, 40, .inl (upd (xs_I u 8) q v))) = cW dT ad (xs_sI u 8 q v) := rfl
theorem cW_L_chains {dT : Nat → ClassId} {ad : Nat → Nat} {u : xS} : (cW dT ad u)[14]? = some (ad 14, .inl (dT 1, 40, .inr (.inl (xs_L u 2)))) := rfl
theorem cW_s_L_chains {dT : Nat → ClassId} {ad : Nat → Nat} {u : xS} {q : Nat} {v : Int64} : (cW dT ad u).set 14 (ad 14, .inl (dT 1, 40, .inr (.inl (vp_updL (xs_L u 2) q v)))) = cW dT ad (xs_sL u 2 q v) := rfl
theorem cW_L_taken {dT : Nat → ClassId} {ad : Nat → Nat} {u : xS} : (cW dT ad u)[15]? = some (ad 15, .inl (dT 0, 40, .inl (xs_I u 9))) := rfl
theorem cW_s_L_taken {dT : Nat → ClassId} {ad : Nat → Nat} {u : xS} {q : Nat} {v : Int32} : (cW dT ad u).set 15 (ad 15, .inl (dT 0, 40, .inl (upd (xs_I u 9) q v))) = cW dT ad (xs_sI u 9 q v) := rfl
theorem cW_N {dT : Nat → ClassId} {ad : Nat → Nat} {u : xS} : (cW dT ad u)[16]? = some (ad 16, .inr (2, [.ref (ad 17), .int (xs_i u 2)])) := rfl
theorem cW_f_N_count {dT : Nat → ClassId} {ad : Nat → Nat} {u : xS} {v : Int32} : (cW dT ad u).set 16 (ad 16, .inr (2, [.ref (ad 17), .int v])) = cW dT ad (xs_si u 2 v) := rfl
theorem cW_N_slots {dT : Nat → ClassId} {ad : Nat → Nat} {u : xS} : (cW dT ad u)[17]? = some (ad 17, .inl (dT 0, 40, .inl (xs_I u 10))) := rfl
theorem cW_s_N_slots {dT : Nat → ClassId} {ad : Nat → Nat} {u : xS} {q : Nat} {v : Int32} : (cW dT ad u).set 17 (ad 17, .inl (dT 0, 40, .inl (upd (xs_I u 10) q v))) = cW dT ad (xs_sI u 10 q v) := rfl
theorem cW_Ss {dT : Nat → ClassId} {ad : Nat → Nat} {u : xS} : (cW dT ad u)[18]? = some (ad 18, .inl (dT 3, 3, .inr (.inr (.inr (.inr (fun k => some (ad (19 + 4 * k)))))))) := rfl
theorem cW_S {dT : Nat → ClassId} {ad : Nat → Nat} {u : xS} {j : Nat} (hj : j < 3) : (cW dT ad u)[(19 + 4 * j)]? = some (ad (19 + 4 * j), .inr (6, [.ref (ad (20 + 4 * j)), .ref (ad (21 + 4 * j)), .long (xs_l u (2 + j))])) := by
  match j, hj with
  | 0, _ => rfl
  | 1, _ => rfl
  | 2, _ => rfl
  | j + 3, h => exact absurd h (by omega)
theorem cW_f_S_graph {dT : Nat → ClassId} {ad : Nat → Nat} {u : xS} {j : Nat} (hj : j < 3) {v : Int64} : (cW dT ad u).set (19 + 4 * j) (ad (19 + 4 * j), .inr (6, [.ref (ad (20 + 4 * j)), .ref (ad (21 + 4 * j)), .long v])) = cW dT ad (xs_sl u (2 + j) v) := by
  match j, hj with
  | 0, _ => rfl
  | 1, _ => rfl
  | 2, _ => rfl
  | j + 3, h => exact absurd h (by omega)
theorem cW_S_beliefs {dT : Nat → ClassId} {ad : Nat → Nat} {u : xS} {j : Nat} (hj : j < 3) : (cW dT ad u)[(20 + 4 * j)]? = some (ad (20 + 4 * j), .inl (dT 1, 3, .inr (.inl (xs_L u (3 + j))))) := by
  match j, hj with
  | 0, _ => rfl
  | 1, _ => rfl
  | 2, _ => rfl
  | j + 3, h => exact absurd h (by omega)
theorem cW_s_S_beliefs {dT : Nat → ClassId} {ad : Nat → Nat} {u : xS} {j : Nat} (hj : j < 3) {q : Nat} {v : Int64} : (cW dT ad u).set (20 + 4 * j) (ad (20 + 4 * j), .inl (dT 1, 3, .inr (.inl (vp_updL (xs_L u (3 + j)) q v)))) = cW dT ad (xs_sL u (3 + j) q v) := by
  match j, hj with
  | 0, _ => rfl
  | 1, _ => rfl
  | 2, _ => rfl
  | j + 3, h => exact absurd h (by omega)
theorem cW_G {dT : Nat → ClassId} {ad : Nat → Nat} {u : xS} {j : Nat} (hj : j < 3) : (cW dT ad u)[(21 + 4 * j)]? = some (ad (21 + 4 * j), .inr (3, [.ref (ad (22 + 4 * j)), .int (xs_i u (3 + j)), .int (xs_i u (6 + j)), .int (xs_i u (9 + j))])) := by
  match j, hj with
  | 0, _ => rfl
  | 1, _ => rfl
  | 2, _ => rfl
  | j + 3, h => exact absurd h (by omega)
theorem cW_f_G_applied {dT : Nat → ClassId} {ad : Nat → Nat} {u : xS} {j : Nat} (hj : j < 3) {v : Int32} : (cW dT ad u).set (21 + 4 * j) (ad (21 + 4 * j), .inr (3, [.ref (ad (22 + 4 * j)), .int v, .int (xs_i u (6 + j)), .int (xs_i u (9 + j))])) = cW dT ad (xs_si u (3 + j) v) := by
  match j, hj with
  | 0, _ => rfl
  | 1, _ => rfl
  | 2, _ => rfl
  | j + 3, h => exact absurd h (by omega)
theorem cW_f_G_replayed {dT : Nat → ClassId} {ad : Nat → Nat} {u : xS} {j : Nat} (hj : j < 3) {v : Int32} : (cW dT ad u).set (21 + 4 * j) (ad (21 + 4 * j), .inr (3, [.ref (ad (22 + 4 * j)), .int (xs_i u (3 + j)), .int v, .int (xs_i u (9 + j))])) = cW dT ad (xs_si u (6 + j) v) := by
  match j, hj with
  | 0, _ => rfl
  | 1, _ => rfl
  | 2, _ => rfl
  | j + 3, h => exact absurd h (by omega)
theorem cW_f_G_moves {dT : Nat → ClassId} {ad : Nat → Nat} {u : xS} {j : Nat} (hj : j < 3) {v : Int32} : (cW dT ad u).set (21 + 4 * j) (ad (21 + 4 * j), .inr (3, [.ref (ad (22 + 4 * j)), .int (xs_i u (3 + j)), .int (xs_i u (6 + j)), .int v])) = cW dT ad (xs_si u (9 + j) v) := by
  match j, hj with
  | 0, _ => rfl
  | 1, _ => rfl
  | 2, _ => rfl
  | j + 3, h => exact absurd h (by omega)
theorem cW_G_operations {dT : Nat → ClassId} {ad : Nat → Nat} {u : xS} {j : Nat} (hj : j < 3) : (cW dT ad u)[(22 + 4 * j)]? = some (ad (22 + 4 * j), .inl (dT 0, 40, .inl (xs_I u (11 + j)))) := by
  match j, hj with
  | 0, _ => rfl
  | 1, _ => rfl
  | 2, _ => rfl
  | j + 3, h => exact absurd h (by omega)
theorem cW_s_G_operations {dT : Nat → ClassId} {ad : Nat → Nat} {u : xS} {j : Nat} (hj : j < 3) {q : Nat} {v : Int32} : (cW dT ad u).set (22 + 4 * j) (ad (22 + 4 * j), .inl (dT 0, 40, .inl (upd (xs_I u (11 + j)) q v))) = cW dT ad (xs_sI u (11 + j) q v) := by
  match j, hj with
  | 0, _ => rfl
  | 1, _ => rfl
  | 2, _ => rfl
  | j + 3, h => exact absurd h (by omega)
theorem cW_Ms {dT : Nat → ClassId} {ad : Nat → Nat} {u : xS} : (cW dT ad u)[31]? = some (ad 31, .inl (dT 4, 6, .inr (.inr (.inr (.inr (fun k => some (ad (32 + 3 * k)))))))) := rfl
theorem cW_M {dT : Nat → ClassId} {ad : Nat → Nat} {u : xS} {j : Nat} (hj : j < 6) : (cW dT ad u)[(32 + 3 * j)]? = some (ad (32 + 3 * j), .inr (4, [.ref (ad (33 + 3 * j)), .int (xs_i u (12 + j)), .int (xs_i u (18 + j)), .int (xs_i u (24 + j)), .long (xs_l u (5 + j))])) := by
  match j, hj with
  | 0, _ => rfl
  | 1, _ => rfl
  | 2, _ => rfl
  | 3, _ => rfl
  | 4, _ => rfl
  | 5, _ => rfl
  | j + 6, h => exact absurd h (by omega)
theorem cW_f_M_underWay {dT : Nat → ClassId} {ad : Nat → Nat} {u : xS} {j : Nat} (hj : j < 6) {v : Int32} : (cW dT ad u).set (32 + 3 * j) (ad (32 + 3 * j), .inr (4, [.ref (ad (33 + 3 * j)), .int v, .int (xs_i u (18 + j)), .int (xs_i u (24 + j)), .long (xs_l u (5 + j))])) = cW dT ad (xs_si u (12 + j) v) := by
  match j, hj with
  | 0, _ => rfl
  | 1, _ => rfl
  | 2, _ => rfl
  | 3, _ => rfl
  | 4, _ => rfl
  | 5, _ => rfl
  | j + 6, h => exact absurd h (by omega)
theorem cW_f_M_carried {dT : Nat → ClassId} {ad : Nat → Nat} {u : xS} {j : Nat} (hj : j < 6) {v : Int64} : (cW dT ad u).set (32 + 3 * j) (ad (32 + 3 * j), .inr (4, [.ref (ad (33 + 3 * j)), .int (xs_i u (12 + j)), .int (xs_i u (18 + j)), .int (xs_i u (24 + j)), .long v])) = cW dT ad (xs_sl u (5 + j) v) := by
  match j, hj with
  | 0, _ => rfl
  | 1, _ => rfl
  | 2, _ => rfl
  | 3, _ => rfl
  | 4, _ => rfl
  | 5, _ => rfl
  | j + 6, h => exact absurd h (by omega)
theorem cW_f_M_from {dT : Nat → ClassId} {ad : Nat → Nat} {u : xS} {j : Nat} (hj : j < 6) {v : Int32} : (cW dT ad u).set (32 + 3 * j) (ad (32 + 3 * j), .inr (4, [.ref (ad (33 + 3 * j)), .int (xs_i u (12 + j)), .int v, .int (xs_i u (24 + j)), .long (xs_l u (5 + j))])) = cW dT ad (xs_si u (18 + j) v) := by
  match j, hj with
  | 0, _ => rfl
  | 1, _ => rfl
  | 2, _ => rfl
  | 3, _ => rfl
  | 4, _ => rfl
  | 5, _ => rfl
  | j + 6, h => exact absurd h (by omega)
theorem cW_f_M_to {dT : Nat → ClassId} {ad : Nat → Nat} {u : xS} {j : Nat} (hj : j < 6) {v : Int32} : (cW dT ad u).set (32 + 3 * j) (ad (32 + 3 * j), .inr (4, [.ref (ad (33 + 3 * j)), .int (xs_i u (12 + j)), .int (xs_i u (18 + j)), .int v, .long (xs_l u (5 + j))])) = cW dT ad (xs_si u (24 + j) v) := by
  match j, hj with
  | 0, _ => rfl
  | 1, _ => rfl
  | 2, _ => rfl
  | 3, _ => rfl
  | 4, _ => rfl
  | 5, _ => rfl
  | j + 6, h => exact absurd h (by omega)
theorem cW_O {dT : Nat → ClassId} {ad : Nat → Nat} {u : xS} {j : Nat} (hj : j < 6) : (cW dT ad u)[(33 + 3 * j)]? = some (ad (33 + 3 * j), .inr (5, [.ref (ad (34 + 3 * j)), .int (xs_i u (30 + j))])) := by
  match j, hj with
  | 0, _ => rfl
  | 1, _ => rfl
  | 2, _ => rfl
  | 3, _ => rfl
  | 4, _ => rfl
  | 5, _ => rfl
  | j + 6, h => exact absurd h (by omega)
theorem cW_f_O_count {dT : Nat → ClassId} {ad : Nat → Nat} {u : xS} {j : Nat} (hj : j < 6) {v : Int32} : (cW dT ad u).set (33 + 3 * j) (ad (33 + 3 * j), .inr (5, [.ref (ad (34 + 3 * j)), .int v])) = cW dT ad (xs_si u (30 + j) v) := by
  match j, hj with
  | 0, _ => rfl
  | 1, _ => rfl
  | 2, _ => rfl
  | 3, _ => rfl
  | 4, _ => rfl
  | 5, _ => rfl
  | j + 6, h => exact absurd h (by omega)
theorem cW_O_row {dT : Nat → ClassId} {ad : Nat → Nat} {u : xS} {j : Nat} (hj : j < 6) : (cW dT ad u)[(34 + 3 * j)]? = some (ad (34 + 3 * j), .inl (dT 0, 442, .inl (xs_I u (14 + j)))) := by
  match j, hj with
  | 0, _ => rfl
  | 1, _ => rfl
  | 2, _ => rfl
  | 3, _ => rfl
  | 4, _ => rfl
  | 5, _ => rfl
  | j + 6, h => exact absurd h (by omega)
theorem cW_s_O_row {dT : Nat → ClassId} {ad : Nat → Nat} {u : xS} {j : Nat} (hj : j < 6) {q : Nat} {v : Int32} : (cW dT ad u).set (34 + 3 * j) (ad (34 + 3 * j), .inl (dT 0, 442, .inl (upd (xs_I u (14 + j)) q v))) = cW dT ad (xs_sI u (14 + j) q v) := by
  match j, hj with
  | 0, _ => rfl
  | 1, _ => rfl
  | 2, _ => rfl
  | 3, _ => rfl
  | 4, _ => rfl
  | 5, _ => rfl
  | j + 6, h => exact absurd h (by omega)
def mW (dT : Nat → ClassId) (ad : Nat → Nat) (u : xS) : va_W := [
  (ad 0, .inr (8, [.int (xs_i u 0), .ref (ad 1), .ref (ad 2), .ref (ad 3), .ref (ad 4), .ref (ad 5), .ref (ad 6), .ref (ad 7), .ref (ad 8), .ref (ad 9), .ref (ad 10), .ref (ad 11), .int (xs_i u 1), .ref (ad 12), .ref (ad 13), .ref (ad 14), .ref (ad 15), .ref (ad 16), .ref (ad 17), .ref (ad 18), .ref (ad 19), .ref (ad 20), .ref (ad 21), .int (xs_i u 2), .ref (ad 22), .int (xs_i u 3)])),
  (ad 1, .inl (dT 0, 40, .inl (xs_I u 0))),
  (ad 2, .inl (dT 0, 40, .inl (xs_I u 1))),
  (ad 3, .inl (dT 2, 40, .inl (xs_I u 2))),
  (ad 4, .inl (dT 0, 40, .inl (xs_I u 3))),
  (ad 5, .inl (dT 0, 40, .inl (xs_I u 4))),
  (ad 6, .inl (dT 1, 40, .inr (.inl (xs_L u 0)))),
  (ad 7, .inl (dT 1, 40, .inr (.inl (xs_L u 1)))),
  (ad 8, .inl (dT 0, 41, .inl (xs_I u 5))),
  (ad 9, .inl (dT 2, 41, .inl (xs_I u 6))),
  (ad 10, .inl (dT 0, 41, .inl (xs_I u 7))),
  (ad 11, .inl (dT 0, 40, .inl (xs_I u 8))),
  (ad 12, .inl (dT 1, 3, .inr (.inl (xs_L u 2)))),
  (ad 13, .inl (dT 1, 9, .inr (.inl (xs_L u 3)))),
  (ad 14, .inl (dT 1, 6, .inr (.inl (xs_L u 4)))),
  (ad 15, .inl (dT 0, 6, .inl (xs_I u 9))),
  (ad 16, .inl (dT 0, 6, .inl (xs_I u 10))),
  (ad 17, .inl (dT 0, 3, .inl (xs_I u 11))),
  (ad 18, .inl (dT 0, 3, .inl (xs_I u 12))),
  (ad 19, .inl (dT 0, 3, .inl (xs_I u 13))),
  (ad 20, .inl (dT 0, 120, .inl (xs_I u 14))),
  (ad 21, .inl (dT 0, 40, .inl (xs_I u 15))),
  (ad 22, .inl (dT 0, 460, .inl (xs_I u 16)))]
theorem mW_X {dT : Nat → ClassId} {ad : Nat → Nat} {u : xS} : (mW dT ad u)[0]? = some (ad 0, .inr (8, [.int (xs_i u 0), .ref (ad 1), .ref (ad 2), .ref (ad 3), .ref (ad 4), .ref (ad 5), .ref (ad 6), .ref (ad 7), .ref (ad 8), .ref (ad 9), .ref (ad 10), .ref (ad 11), .int (xs_i u 1), .ref (ad 12), .ref (ad 13), .ref (ad 14), .ref (ad 15), .ref (ad 16), .ref (ad 17), .ref (ad 18), .ref (ad 19), .ref (ad 20), .ref (ad 21), .int (xs_i u 2), .ref (ad 22), .int (xs_i u 3)])) := rfl
theorem mW_f_X_made {dT : Nat → ClassId} {ad : Nat → Nat} {u : xS} {v : Int32} : (mW dT ad u).set 0 (ad 0, .inr (8, [.int v, .ref (ad 1), .ref (ad 2), .ref (ad 3), .ref (ad 4), .ref (ad 5), .ref (ad 6), .ref (ad 7), .ref (ad 8), .ref (ad 9), .ref (ad 10), .ref (ad 11), .int (xs_i u 1), .ref (ad 12), .ref (ad 13), .ref (ad 14), .ref (ad 15), .ref (ad 16), .ref (ad 17), .ref (ad 18), .ref (ad 19), .ref (ad 20), .ref (ad 21), .int (xs_i u 2), .ref (ad 22), .int (xs_i u 3)])) = mW dT ad (xs_si u 0 v) := rfl
theorem mW_f_X_chars {dT : Nat → ClassId} {ad : Nat → Nat} {u : xS} {v : Int32} : (mW dT ad u).set 0 (ad 0, .inr (8, [.int (xs_i u 0), .ref (ad 1), .ref (ad 2), .ref (ad 3), .ref (ad 4), .ref (ad 5), .ref (ad 6), .ref (ad 7), .ref (ad 8), .ref (ad 9), .ref (ad 10), .ref (ad 11), .int v, .ref (ad 12), .ref (ad 13), .ref (ad 14), .ref (ad 15), .ref (ad 16), .ref (ad 17), .ref (ad 18), .ref (ad 19), .ref (ad 20), .ref (ad 21), .int (xs_i u 2), .ref (ad 22), .int (xs_i u 3)])) = mW dT ad (xs_si u 1 v) := rfl
theorem mW_f_X_turns {dT : Nat → ClassId} {ad : Nat → Nat} {u : xS} {v : Int32} : (mW dT ad u).set 0 (ad 0, .inr (8, [.int (xs_i u 0), .ref (ad 1), .ref (ad 2), .ref (ad 3), .ref (ad 4), .ref (ad 5), .ref (ad 6), .ref (ad 7), .ref (ad 8), .ref (ad 9), .ref (ad 10), .ref (ad 11), .int (xs_i u 1), .ref (ad 12), .ref (ad 13), .ref (ad 14), .ref (ad 15), .ref (ad 16), .ref (ad 17), .ref (ad 18), .ref (ad 19), .ref (ad 20), .ref (ad 21), .int v, .ref (ad 22), .int (xs_i u 3)])) = mW dT ad (xs_si u 2 v) := rfl
theorem mW_f_X_size {dT : Nat → ClassId} {ad : Nat → Nat} {u : xS} {v : Int32} : (mW dT ad u).set 0 (ad 0, .inr (8, [.int (xs_i u 0), .ref (ad 1), .ref (ad 2), .ref (ad 3), .ref (ad 4), .ref (ad 5), .ref (ad 6), .ref (ad 7), .ref (ad 8), .ref (ad 9), .ref (ad 10), .ref (ad 11), .int (xs_i u 1), .ref (ad 12), .ref (ad 13), .ref (ad 14), .ref (ad 15), .ref (ad 16), .ref (ad 17), .ref (ad 18), .ref (ad 19), .ref (ad 20), .ref (ad 21), .int (xs_i u 2), .ref (ad 22), .int v])) = mW dT ad (xs_si u 3 v) := rfl
theorem mW_X_site {dT : Nat → ClassId} {ad : Nat → Nat} {u : xS} : (mW dT ad u)[1]? = some (ad 1, .inl (dT 0, 40, .inl (xs_I u 0))) := rfl
theorem mW_s_X_site {dT : Nat → ClassId} {ad : Nat → Nat} {u : xS} {q : Nat} {v : Int32} : (mW dT ad u).set 1 (ad 1, .inl (dT 0, 40, .inl (upd (xs_I u 0) q v))) = mW dT ad (xs_sI u 0 q v) := rfl
theorem mW_X_number {dT : Nat → ClassId} {ad : Nat → Nat} {u : xS} : (mW dT ad u)[2]? = some (ad 2, .inl (dT 0, 40, .inl (xs_I u 1))) := rfl
theorem mW_s_X_number {dT : Nat → ClassId} {ad : Nat → Nat} {u : xS} {q : Nat} {v : Int32} : (mW dT ad u).set 2 (ad 2, .inl (dT 0, 40, .inl (upd (xs_I u 1) q v))) = mW dT ad (xs_sI u 1 q v) := rfl
theorem mW_X_inserts {dT : Nat → ClassId} {ad : Nat → Nat} {u : xS} : (mW dT ad u)[3]? = some (ad 3, .inl (dT 2, 40, .inl (xs_I u 2))) := rfl
theorem mW_s_X_inserts {dT : Nat → ClassId} {ad : Nat → Nat} {u : xS} {q : Nat} {v : Int32} : (mW dT ad u).set 3 (ad 3, .inl (dT 2, 40, .inl (upd (xs_I u 2) q v))) = mW dT ad (xs_sI u 2 q v) := rfl
theorem mW_X_index {dT : Nat → ClassId} {ad : Nat → Nat} {u : xS} : (mW dT ad u)[4]? = some (ad 4, .inl (dT 0, 40, .inl (xs_I u 3))) := rfl
theorem mW_s_X_index {dT : Nat → ClassId} {ad : Nat → Nat} {u : xS} {q : Nat} {v : Int32} : (mW dT ad u).set 4 (ad 4, .inl (dT 0, 40, .inl (upd (xs_I u 3) q v))) = mW dT ad (xs_sI u 3 q v) := rfl
theorem mW_X_letter {dT : Nat → ClassId} {ad : Nat → Nat} {u : xS} : (mW dT ad u)[5]? = some (ad 5, .inl (dT 0, 40, .inl (xs_I u 4))) := rfl
theorem mW_s_X_letter {dT : Nat → ClassId} {ad : Nat → Nat} {u : xS} {q : Nat} {v : Int32} : (mW dT ad u).set 5 (ad 5, .inl (dT 0, 40, .inl (upd (xs_I u 4) q v))) = mW dT ad (xs_sI u 4 q v) := rfl
theorem mW_X_earlier {dT : Nat → ClassId} {ad : Nat → Nat} {u : xS} : (mW dT ad u)[6]? = some (ad 6, .inl (dT 1, 40, .inr (.inl (xs_L u 0)))) := rfl
theorem mW_s_X_earlier {dT : Nat → ClassId} {ad : Nat → Nat} {u : xS} {q : Nat} {v : Int64} : (mW dT ad u).set 6 (ad 6, .inl (dT 1, 40, .inr (.inl (vp_updL (xs_L u 0) q v)))) = mW dT ad (xs_sL u 0 q v) := rfl
theorem mW_X_parents {dT : Nat → ClassId} {ad : Nat → Nat} {u : xS} : (mW dT ad u)[7]? = some (ad 7, .inl (dT 1, 40, .inr (.inl (xs_L u 1)))) := rfl
theorem mW_s_X_parents {dT : Nat → ClassId} {ad : Nat → Nat} {u : xS} {q : Nat} {v : Int64} : (mW dT ad u).set 7 (ad 7, .inl (dT 1, 40, .inr (.inl (vp_updL (xs_L u 1) q v)))) = mW dT ad (xs_sL u 1 q v) := rfl
theorem mW_X_place {dT : Nat → ClassId} {ad : Nat → Nat} {u : xS} : (mW dT ad u)[8]? = some (ad 8, .inl (dT 0, 41, .inl (xs_I u 5))) := rfl
theorem mW_s_X_place {dT : Nat → ClassId} {ad : Nat → Nat} {u : xS} {q : Nat} {v : Int32} : (mW dT ad u).set 8 (ad 8, .inl (dT 0, 41, .inl (upd (xs_I u 5) q v))) = mW dT ad (xs_sI u 5 q v) := rfl
theorem mW_X_right {dT : Nat → ClassId} {ad : Nat → Nat} {u : xS} : (mW dT ad u)[9]? = some (ad 9, .inl (dT 2, 41, .inl (xs_I u 6))) := rfl
theorem mW_s_X_right {dT : Nat → ClassId} {ad : Nat → Nat} {u : xS} {q : Nat} {v : Int32} : (mW dT ad u).set 9 (ad 9, .inl (dT 2, 41, .inl (upd (xs_I u 6) q v))) = mW dT ad (xs_sI u 6 q v) := rfl
theorem mW_X_depth {dT : Nat → ClassId} {ad : Nat → Nat} {u : xS} : (mW dT ad u)[10]? = some (ad 10, .inl (dT 0, 41, .inl (xs_I u 7))) := rfl
theorem mW_s_X_depth {dT : Nat → ClassId} {ad : Nat → Nat} {u : xS} {q : Nat} {v : Int32} : (mW dT ad u).set 10 (ad 10, .inl (dT 0, 41, .inl (upd (xs_I u 7) q v))) = mW dT ad (xs_sI u 7 q v) := rfl
theorem mW_X_row {dT : Nat → ClassId} {ad : Nat → Nat} {u : xS} : (mW dT ad u)[11]? = some (ad 11, .inl (dT 0, 40, .inl (xs_I u 8))) := rfl
theorem mW_s_X_row {dT : Nat → ClassId} {ad : Nat → Nat} {u : xS} {q : Nat} {v : Int32} : (mW dT ad u).set 11 (ad 11, .inl (dT 0, 40, .inl (upd (xs_I u 8) q v))) = mW dT ad (xs_sI u 8 q v) := rfl
theorem mW_X_graph {dT : Nat → ClassId} {ad : Nat → Nat} {u : xS} : (mW dT ad u)[12]? = some (ad 12, .inl (dT 1, 3, .inr (.inl (xs_L u 2)))) := rfl
theorem mW_s_X_graph {dT : Nat → ClassId} {ad : Nat → Nat} {u : xS} {q : Nat} {v : Int64} : (mW dT ad u).set 12 (ad 12, .inl (dT 1, 3, .inr (.inl (vp_updL (xs_L u 2) q v)))) = mW dT ad (xs_sL u 2 q v) := rfl
theorem mW_X_thought {dT : Nat → ClassId} {ad : Nat → Nat} {u : xS} : (mW dT ad u)[13]? = some (ad 13, .inl (dT 1, 9, .inr (.inl (xs_L u 3)))) := rfl
theorem mW_s_X_thought {dT : Nat → ClassId} {ad : Nat → Nat} {u : xS} {q : Nat} {v : Int64} : (mW dT ad u).set 13 (ad 13, .inl (dT 1, 9, .inr (.inl (vp_updL (xs_L u 3) q v)))) = mW dT ad (xs_sL u 3 q v) := rfl
theorem mW_X_load {dT : Nat → ClassId} {ad : Nat → Nat} {u : xS} : (mW dT ad u)[14]? = some (ad 14, .inl (dT 1, 6, .inr (.inl (xs_L u 4)))) := rfl
theorem mW_s_X_load {dT : Nat → ClassId} {ad : Nat → Nat} {u : xS} {q : Nat} {v : Int64} : (mW dT ad u).set 14 (ad 14, .inl (dT 1, 6, .inr (.inl (vp_updL (xs_L u 4) q v)))) = mW dT ad (xs_sL u 4 q v) := rfl
theorem mW_X_sender {dT : Nat → ClassId} {ad : Nat → Nat} {u : xS} : (mW dT ad u)[15]? = some (ad 15, .inl (dT 0, 6, .inl (xs_I u 9))) := rfl
theorem mW_s_X_sender {dT : Nat → ClassId} {ad : Nat → Nat} {u : xS} {q : Nat} {v : Int32} : (mW dT ad u).set 15 (ad 15, .inl (dT 0, 6, .inl (upd (xs_I u 9) q v))) = mW dT ad (xs_sI u 9 q v) := rfl
theorem mW_X_receiver {dT : Nat → ClassId} {ad : Nat → Nat} {u : xS} : (mW dT ad u)[16]? = some (ad 16, .inl (dT 0, 6, .inl (xs_I u 10))) := rfl
theorem mW_s_X_receiver {dT : Nat → ClassId} {ad : Nat → Nat} {u : xS} {q : Nat} {v : Int32} : (mW dT ad u).set 16 (ad 16, .inl (dT 0, 6, .inl (upd (xs_I u 10) q v))) = mW dT ad (xs_sI u 10 q v) := rfl
theorem mW_X_again {dT : Nat → ClassId} {ad : Nat → Nat} {u : xS} : (mW dT ad u)[17]? = some (ad 17, .inl (dT 0, 3, .inl (xs_I u 11))) := rfl
theorem mW_s_X_again {dT : Nat → ClassId} {ad : Nat → Nat} {u : xS} {q : Nat} {v : Int32} : (mW dT ad u).set 17 (ad 17, .inl (dT 0, 3, .inl (upd (xs_I u 11) q v))) = mW dT ad (xs_sI u 11 q v) := rfl
theorem mW_X_shifts {dT : Nat → ClassId} {ad : Nat → Nat} {u : xS} : (mW dT ad u)[18]? = some (ad 18, .inl (dT 0, 3, .inl (xs_I u 12))) := rfl
theorem mW_s_X_shifts {dT : Nat → ClassId} {ad : Nat → Nat} {u : xS} {q : Nat} {v : Int32} : (mW dT ad u).set 18 (ad 18, .inl (dT 0, 3, .inl (upd (xs_I u 12) q v))) = mW dT ad (xs_sI u 12 q v) := rfl
theorem mW_X_dones {dT : Nat → ClassId} {ad : Nat → Nat} {u : xS} : (mW dT ad u)[19]? = some (ad 19, .inl (dT 0, 3, .inl (xs_I u 13))) := rfl
theorem mW_s_X_dones {dT : Nat → ClassId} {ad : Nat → Nat} {u : xS} {q : Nat} {v : Int32} : (mW dT ad u).set 19 (ad 19, .inl (dT 0, 3, .inl (upd (xs_I u 13) q v))) = mW dT ad (xs_sI u 13 q v) := rfl
theorem mW_X_did {dT : Nat → ClassId} {ad : Nat → Nat} {u : xS} : (mW dT ad u)[20]? = some (ad 20, .inl (dT 0, 120, .inl (xs_I u 14))) := rfl
theorem mW_s_X_did {dT : Nat → ClassId} {ad : Nat → Nat} {u : xS} {q : Nat} {v : Int32} : (mW dT ad u).set 20 (ad 20, .inl (dT 0, 120, .inl (upd (xs_I u 14) q v))) = mW dT ad (xs_sI u 14 q v) := rfl
theorem mW_X_turn {dT : Nat → ClassId} {ad : Nat → Nat} {u : xS} : (mW dT ad u)[21]? = some (ad 21, .inl (dT 0, 40, .inl (xs_I u 15))) := rfl
theorem mW_s_X_turn {dT : Nat → ClassId} {ad : Nat → Nat} {u : xS} {q : Nat} {v : Int32} : (mW dT ad u).set 21 (ad 21, .inl (dT 0, 40, .inl (upd (xs_I u 15) q v))) = mW dT ad (xs_sI u 15 q v) := rfl
theorem mW_X_out {dT : Nat → ClassId} {ad : Nat → Nat} {u : xS} : (mW dT ad u)[22]? = some (ad 22, .inl (dT 0, 460, .inl (xs_I u 16))) := rfl
theorem mW_s_X_out {dT : Nat → ClassId} {ad : Nat → Nat} {u : xS} {q : Nat} {v : Int32} : (mW dT ad u).set 22 (ad 22, .inl (dT 0, 460, .inl (upd (xs_I u 16) q v))) = mW dT ad (xs_sI u 16 q v) := rfl
end
section
def m_Text_isSite (a0 : Int32) : Option Int32 :=
  (if a0 < 0 then
    some (0 : Int32)
  else
    (if (3 : Int32) ≤ a0 then
      some (0 : Int32)
    else
      some (1 : Int32)))
def m_History_isFull (u : xS) : Option Int32 :=
  (if (xs_i u 0) < (40 : Int32) then
    some (0 : Int32)
  else
    some (1 : Int32))
def m_Text_bit (a0 : Int32) : Option Int64 :=
  some (xShl (1 : Int64) a0)
def m_Text_has (a0 : Int64) (a2 : Int32) : Option Int32 :=
  (if a2 < 0 then
    some (0 : Int32)
  else
    xb1 (m_Text_bit a2) fun r6 =>
    (if (a0 &&& r6) = (0 : Int64) then
      some (0 : Int32)
    else
      some (1 : Int32)))
def m_CharacterList_shownIn_s5 (k5 : Int64 → Int64 → Int32 → xS → Option Int64) (b1 : Int64) (b3 : Int64) (b5 : Int32) (u : xS) : Option Int64 :=
  (if (40 : Int32) ≤ b5 then
    some ((b1 &&& (xs_l u 1)) &&& (b3 ^^^ (-1 : Int64)))
  else
    xb1 (m_Text_has (b1 &&& (xs_l u 0)) b5) fun r20 =>
    (if r20 = 0 then
      k5 b1 b3 (b5 + (1 : Int32)) u
    else
      xg (xin b5 40) <|
      xb1 (m_Text_bit (xs_I u 9 b5.toNatClampNeg)) fun r34 =>
      k5 b1 (b3 ||| r34) (b5 + (1 : Int32)) u))
def m_CharacterList_shownIn_l5 : Nat → Int64 → Int64 → Int32 → xS → Option Int64
  | 0, _, _, _, _ => none
  | n + 1, b1, b3, b5, u => m_CharacterList_shownIn_s5 (m_CharacterList_shownIn_l5 n) b1 b3 b5 u
def m_CharacterList_shownIn (a1 : Int64) (u : xS) : Option Int64 :=
  m_CharacterList_shownIn_l5 xFU a1 (0 : Int64) (0 : Int32) u
def m_Long_bitCount (a0 : Int64) : Option Int32 :=
  some (((((((((((a0 - ((xUshr a0 (1 : Int32)) &&& (6148914691236517205 : Int64))) &&& (3689348814741910323 : Int64)) + ((xUshr (a0 - ((xUshr a0 (1 : Int32)) &&& (6148914691236517205 : Int64))) (2 : Int32)) &&& (3689348814741910323 : Int64))) + (xUshr (((a0 - ((xUshr a0 (1 : Int32)) &&& (6148914691236517205 : Int64))) &&& (3689348814741910323 : Int64)) + ((xUshr (a0 - ((xUshr a0 (1 : Int32)) &&& (6148914691236517205 : Int64))) (2 : Int32)) &&& (3689348814741910323 : Int64))) (4 : Int32))) &&& (1085102592571150095 : Int64)) + (xUshr (((((a0 - ((xUshr a0 (1 : Int32)) &&& (6148914691236517205 : Int64))) &&& (3689348814741910323 : Int64)) + ((xUshr (a0 - ((xUshr a0 (1 : Int32)) &&& (6148914691236517205 : Int64))) (2 : Int32)) &&& (3689348814741910323 : Int64))) + (xUshr (((a0 - ((xUshr a0 (1 : Int32)) &&& (6148914691236517205 : Int64))) &&& (3689348814741910323 : Int64)) + ((xUshr (a0 - ((xUshr a0 (1 : Int32)) &&& (6148914691236517205 : Int64))) (2 : Int32)) &&& (3689348814741910323 : Int64))) (4 : Int32))) &&& (1085102592571150095 : Int64)) (8 : Int32))) + (xUshr ((((((a0 - ((xUshr a0 (1 : Int32)) &&& (6148914691236517205 : Int64))) &&& (3689348814741910323 : Int64)) + ((xUshr (a0 - ((xUshr a0 (1 : Int32)) &&& (6148914691236517205 : Int64))) (2 : Int32)) &&& (3689348814741910323 : Int64))) + (xUshr (((a0 - ((xUshr a0 (1 : Int32)) &&& (6148914691236517205 : Int64))) &&& (3689348814741910323 : Int64)) + ((xUshr (a0 - ((xUshr a0 (1 : Int32)) &&& (6148914691236517205 : Int64))) (2 : Int32)) &&& (3689348814741910323 : Int64))) (4 : Int32))) &&& (1085102592571150095 : Int64)) + (xUshr (((((a0 - ((xUshr a0 (1 : Int32)) &&& (6148914691236517205 : Int64))) &&& (3689348814741910323 : Int64)) + ((xUshr (a0 - ((xUshr a0 (1 : Int32)) &&& (6148914691236517205 : Int64))) (2 : Int32)) &&& (3689348814741910323 : Int64))) + (xUshr (((a0 - ((xUshr a0 (1 : Int32)) &&& (6148914691236517205 : Int64))) &&& (3689348814741910323 : Int64)) + ((xUshr (a0 - ((xUshr a0 (1 : Int32)) &&& (6148914691236517205 : Int64))) (2 : Int32)) &&& (3689348814741910323 : Int64))) (4 : Int32))) &&& (1085102592571150095 : Int64)) (8 : Int32))) (16 : Int32))) + (xUshr (((((((a0 - ((xUshr a0 (1 : Int32)) &&& (6148914691236517205 : Int64))) &&& (3689348814741910323 : Int64)) + ((xUshr (a0 - ((xUshr a0 (1 : Int32)) &&& (6148914691236517205 : Int64))) (2 : Int32)) &&& (3689348814741910323 : Int64))) + (xUshr (((a0 - ((xUshr a0 (1 : Int32)) &&& (6148914691236517205 : Int64))) &&& (3689348814741910323 : Int64)) + ((xUshr (a0 - ((xUshr a0 (1 : Int32)) &&& (6148914691236517205 : Int64))) (2 : Int32)) &&& (3689348814741910323 : Int64))) (4 : Int32))) &&& (1085102592571150095 : Int64)) + (xUshr (((((a0 - ((xUshr a0 (1 : Int32)) &&& (6148914691236517205 : Int64))) &&& (3689348814741910323 : Int64)) + ((xUshr (a0 - ((xUshr a0 (1 : Int32)) &&& (6148914691236517205 : Int64))) (2 : Int32)) &&& (3689348814741910323 : Int64))) + (xUshr (((a0 - ((xUshr a0 (1 : Int32)) &&& (6148914691236517205 : Int64))) &&& (3689348814741910323 : Int64)) + ((xUshr (a0 - ((xUshr a0 (1 : Int32)) &&& (6148914691236517205 : Int64))) (2 : Int32)) &&& (3689348814741910323 : Int64))) (4 : Int32))) &&& (1085102592571150095 : Int64)) (8 : Int32))) + (xUshr ((((((a0 - ((xUshr a0 (1 : Int32)) &&& (6148914691236517205 : Int64))) &&& (3689348814741910323 : Int64)) + ((xUshr (a0 - ((xUshr a0 (1 : Int32)) &&& (6148914691236517205 : Int64))) (2 : Int32)) &&& (3689348814741910323 : Int64))) + (xUshr (((a0 - ((xUshr a0 (1 : Int32)) &&& (6148914691236517205 : Int64))) &&& (3689348814741910323 : Int64)) + ((xUshr (a0 - ((xUshr a0 (1 : Int32)) &&& (6148914691236517205 : Int64))) (2 : Int32)) &&& (3689348814741910323 : Int64))) (4 : Int32))) &&& (1085102592571150095 : Int64)) + (xUshr (((((a0 - ((xUshr a0 (1 : Int32)) &&& (6148914691236517205 : Int64))) &&& (3689348814741910323 : Int64)) + ((xUshr (a0 - ((xUshr a0 (1 : Int32)) &&& (6148914691236517205 : Int64))) (2 : Int32)) &&& (3689348814741910323 : Int64))) + (xUshr (((a0 - ((xUshr a0 (1 : Int32)) &&& (6148914691236517205 : Int64))) &&& (3689348814741910323 : Int64)) + ((xUshr (a0 - ((xUshr a0 (1 : Int32)) &&& (6148914691236517205 : Int64))) (2 : Int32)) &&& (3689348814741910323 : Int64))) (4 : Int32))) &&& (1085102592571150095 : Int64)) (8 : Int32))) (16 : Int32))) (32 : Int32)))).toInt32) &&& (127 : Int32))
def m_CharacterList_shownAt_s6 (k6 : Int64 → Int32 → Int32 → Int32 → xS → Option Int32) (b1 : Int64) (b3 : Int32) (b4 : Int32) (b5 : Int32) (u : xS) : Option Int32 :=
  (if (xs_i u 1) ≤ b5 then
    some (-1 : Int32)
  else
    xg (xin b5 40) <|
    xb1 (m_Text_has b1 (xs_I u 6 b5.toNatClampNeg)) fun r23 =>
    (if r23 = 0 then
      k6 b1 b3 b4 (b5 + (1 : Int32)) u
    else
      (if b4 = b3 then
        some (xs_I u 6 b5.toNatClampNeg)
      else
        k6 b1 b3 (b4 + (1 : Int32)) (b5 + (1 : Int32)) u)))
def m_CharacterList_shownAt_l6 : Nat → Int64 → Int32 → Int32 → Int32 → xS → Option Int32
  | 0, _, _, _, _, _ => none
  | n + 1, b1, b3, b4, b5, u => m_CharacterList_shownAt_s6 (m_CharacterList_shownAt_l6 n) b1 b3 b4 b5 u
def m_CharacterList_shownAt (a1 : Int64) (a3 : Int32) (u : xS) : Option Int32 :=
  m_CharacterList_shownAt_l6 xFU a1 a3 (0 : Int32) (0 : Int32) u
def m_History_parentsOfAll_s5 (k5 : Int64 → Int64 → Int32 → xS → Option Int64) (b1 : Int64) (b3 : Int64) (b5 : Int32) (u : xS) : Option Int64 :=
  (if (xs_i u 0) ≤ b5 then
    some b3
  else
    xb1 (m_Text_has b1 b5) fun r17 =>
    (if r17 = 0 then
      k5 b1 b3 (b5 + (1 : Int32)) u
    else
      xg (xin b5 40) <|
      k5 b1 (b3 ||| (xs_L u 0 b5.toNatClampNeg)) (b5 + (1 : Int32)) u))
def m_History_parentsOfAll_l5 : Nat → Int64 → Int64 → Int32 → xS → Option Int64
  | 0, _, _, _, _ => none
  | n + 1, b1, b3, b5, u => m_History_parentsOfAll_s5 (m_History_parentsOfAll_l5 n) b1 b3 b5 u
def m_History_parentsOfAll (a1 : Int64) (u : xS) : Option Int64 :=
  m_History_parentsOfAll_l5 xFU a1 (0 : Int64) (0 : Int32) u
def m_History_headsOf (a1 : Int64) (u : xS) : Option Int64 :=
  xb1 (m_History_parentsOfAll a1 u) fun r3 =>
  some (a1 &&& (r3 ^^^ (-1 : Int64)))
def m_History_record (a1 : Int32) (a2 : Int32) (a3 : Int32) (a4 : Int64) (u : xS) : Option (Int32 × xS) :=
  xg (xin (xs_i u 0) 40) <|
  xlt (xs_sI u 0 (xs_i u 0).toNatClampNeg a1) fun w13 =>
  xg (xin a1 3) <|
  xlt (xs_sI w13 1 (xs_i u 0).toNatClampNeg (xs_I w13 5 a1.toNatClampNeg)) fun w26 =>
  xlt (xs_sI w26 2 (xs_i u 0).toNatClampNeg a2) fun w34 =>
  xlt (xs_sI w34 3 (xs_i u 0).toNatClampNeg a3) fun w42 =>
  xb1 (m_History_headsOf a4 w42) fun r52 =>
  xlt (xs_sL w42 0 (xs_i u 0).toNatClampNeg r52) fun w55 =>
  xlt (xs_sL w55 1 (xs_i u 0).toNatClampNeg a4) fun w64 =>
  xg (xin ((a1 * (40 : Int32)) + (xs_I w64 5 a1.toNatClampNeg)) 120) <|
  xlt (xs_sI w64 4 ((a1 * (40 : Int32)) + (xs_I w64 5 a1.toNatClampNeg)).toNatClampNeg (xs_i u 0)) fun w82 =>
  xlt (xs_sI w82 5 a1.toNatClampNeg ((xs_I w82 5 a1.toNatClampNeg) + (1 : Int32))) fun w92 =>
  xlt (xs_si w92 0 ((xs_i w92 0) + (1 : Int32))) fun w100 =>
  some ((xs_i u 0), w100)
def m_CharacterList_childrenOf_s5 (k5 : Int32 → Int32 → Int64 → Int32 → xS → Option Int64) (b1 : Int32) (b2 : Int32) (b3 : Int64) (b5 : Int32) (u : xS) : Option Int64 :=
  (if (xs_i u 1) ≤ b5 then
    some b3
  else
    xg (xin b5 40) <|
    xg (xin (xs_I u 6 b5.toNatClampNeg) 40) <|
    (if (xs_I u 7 (xs_I u 6 b5.toNatClampNeg).toNatClampNeg) = b1 then
      (if (xs_I u 8 (xs_I u 6 b5.toNatClampNeg).toNatClampNeg) = b2 then
        xb1 (m_Text_bit (xs_I u 6 b5.toNatClampNeg)) fun r48 =>
        k5 b1 b2 (b3 ||| r48) (b5 + (1 : Int32)) u
      else
        k5 b1 b2 b3 (b5 + (1 : Int32)) u)
    else
      k5 b1 b2 b3 (b5 + (1 : Int32)) u))
def m_CharacterList_childrenOf_l5 : Nat → Int32 → Int32 → Int64 → Int32 → xS → Option Int64
  | 0, _, _, _, _, _ => none
  | n + 1, b1, b2, b3, b5, u => m_CharacterList_childrenOf_s5 (m_CharacterList_childrenOf_l5 n) b1 b2 b3 b5 u
def m_CharacterList_childrenOf (a1 : Int32) (a2 : Int32) (u : xS) : Option Int64 :=
  m_CharacterList_childrenOf_l5 xFU a1 a2 (0 : Int64) (0 : Int32) u
def m_CharacterList_nextBehind_b51 (k15 : Int32 → Int64 → Int32 → Int32 → xS → Option Int32) (b1 : Int32) (b2 : Int64) (b4 : Int32) (b5 : Int32) (u : xS) : Option Int32 :=
  (if b4 = 0 then
    xg (xin b5 40) <|
    (if (xs_I u 6 b5.toNatClampNeg) = b1 then
      k15 b1 b2 (1 : Int32) (b5 + (1 : Int32)) u
    else
      k15 b1 b2 (0 : Int32) (b5 + (1 : Int32)) u)
  else
    k15 b1 b2 (1 : Int32) (b5 + (1 : Int32)) u)
def m_CharacterList_nextBehind_s15 (k15 : Int32 → Int64 → Int32 → Int32 → xS → Option Int32) (b1 : Int32) (b2 : Int64) (b4 : Int32) (b5 : Int32) (u : xS) : Option Int32 :=
  (if (xs_i u 1) ≤ b5 then
    some (-1 : Int32)
  else
    (if b4 = 0 then
      m_CharacterList_nextBehind_b51 k15 b1 b2 b4 b5 u
    else
      xg (xin b5 40) <|
      xb1 (m_Text_has b2 (xs_I u 6 b5.toNatClampNeg)) fun r37 =>
      (if r37 = 0 then
        m_CharacterList_nextBehind_b51 k15 b1 b2 b4 b5 u
      else
        some (xs_I u 6 b5.toNatClampNeg))))
def m_CharacterList_nextBehind_l15 : Nat → Int32 → Int64 → Int32 → Int32 → xS → Option Int32
  | 0, _, _, _, _, _ => none
  | n + 1, b1, b2, b4, b5, u => m_CharacterList_nextBehind_s15 (m_CharacterList_nextBehind_l15 n) b1 b2 b4 b5 u
def m_CharacterList_nextBehind (a1 : Int32) (a2 : Int64) (u : xS) : Option Int32 :=
  (if a1 = (-1 : Int32) then
    m_CharacterList_nextBehind_l15 xFU a1 a2 (1 : Int32) (0 : Int32) u
  else
    m_CharacterList_nextBehind_l15 xFU a1 a2 (0 : Int32) (0 : Int32) u)
def m_History_comesBefore (a1 : Int32) (a2 : Int32) (u : xS) : Option Int32 :=
  xg (xin a1 40) <|
  xg (xin a2 40) <|
  (if (xs_I u 0 a1.toNatClampNeg) = (xs_I u 0 a2.toNatClampNeg) then
    (if (xs_I u 1 a2.toNatClampNeg) ≤ (xs_I u 1 a1.toNatClampNeg) then
      some (0 : Int32)
    else
      some (1 : Int32))
  else
    (if (xs_I u 0 a2.toNatClampNeg) ≤ (xs_I u 0 a1.toNatClampNeg) then
      some (0 : Int32)
    else
      some (1 : Int32)))
def m_CharacterList_nearerSiblings_s15 (k15 : Int32 → Int32 → Int64 → Int64 → Int32 → xS → Option Int64) (b2 : Int32) (b4 : Int32) (b5 : Int64) (b7 : Int64) (b9 : Int32) (u : xS) : Option Int64 :=
  (if (xs_i u 1) ≤ b9 then
    some b7
  else
    xg (xin b9 40) <|
    xb1 (m_Text_has b5 (xs_I u 6 b9.toNatClampNeg)) fun r37 =>
    (if r37 = 0 then
      k15 b2 b4 b5 b7 (b9 + (1 : Int32)) u
    else
      xb1 (m_History_comesBefore (xs_I u 6 b9.toNatClampNeg) b2 u) fun r47 =>
      (if r47 = b4 then
        xb1 (m_Text_bit (xs_I u 6 b9.toNatClampNeg)) fun r59 =>
        k15 b2 b4 b5 (b7 ||| r59) (b9 + (1 : Int32)) u
      else
        k15 b2 b4 b5 b7 (b9 + (1 : Int32)) u)))
def m_CharacterList_nearerSiblings_l15 : Nat → Int32 → Int32 → Int64 → Int64 → Int32 → xS → Option Int64
  | 0, _, _, _, _, _, _ => none
  | n + 1, b2, b4, b5, b7, b9, u => m_CharacterList_nearerSiblings_s15 (m_CharacterList_nearerSiblings_l15 n) b2 b4 b5 b7 b9 u
def m_CharacterList_nearerSiblings (a2 : Int32) (a3 : Int32) (a4 : Int32) (u : xS) : Option Int64 :=
  xb1 (m_CharacterList_childrenOf a3 a4 u) fun r4 =>
  m_CharacterList_nearerSiblings_l15 xFU a2 a4 r4 (0 : Int64) (0 : Int32) u
def m_CharacterList_rightPosition_s16 (k16 : Int32 → Int64 → Int32 → xS → Option Int32) (b3 : Int32) (b4 : Int64) (b6 : Int32) (u : xS) : Option Int32 :=
  (if b6 ≤ 0 then
    some b6
  else
    xg (xin (b6 - (1 : Int32)) 40) <|
    (if (xs_I u 6 (b6 - (1 : Int32)).toNatClampNeg) = b3 then
      some b6
    else
      xg (xin (xs_I u 6 (b6 - (1 : Int32)).toNatClampNeg) 40) <|
      (if ((xs_L u 2 (xs_I u 6 (b6 - (1 : Int32)).toNatClampNeg).toNatClampNeg) &&& b4) = (0 : Int64) then
        k16 b3 b4 (b6 + (-1 : Int32)) u
      else
        some b6)))
def m_CharacterList_rightPosition_l16 : Nat → Int32 → Int64 → Int32 → xS → Option Int32
  | 0, _, _, _, _ => none
  | n + 1, b3, b4, b6, u => m_CharacterList_rightPosition_s16 (m_CharacterList_rightPosition_l16 n) b3 b4 b6 u
def m_CharacterList_rightPosition (a2 : Int32) (a3 : Int32) (u : xS) : Option Int32 :=
  xb1 (m_CharacterList_nearerSiblings a2 a3 (1 : Int32) u) fun r5 =>
  m_CharacterList_rightPosition_l16 xFU a3 r5 (xs_i u 1) u
def m_CharacterList_leftPosition_s13 (k13 : Int32 → Int64 → Int32 → xS → Option Int32) (b3 : Int32) (b4 : Int64) (b6 : Int32) (u : xS) : Option Int32 :=
  (if (xs_i u 1) ≤ b6 then
    some b6
  else
    xg (xin b6 40) <|
    (if (xs_I u 6 b6.toNatClampNeg) = b3 then
      some b6
    else
      xg (xin (xs_I u 6 b6.toNatClampNeg) 40) <|
      (if ((xs_L u 2 (xs_I u 6 b6.toNatClampNeg).toNatClampNeg) &&& b4) = (0 : Int64) then
        k13 b3 b4 (b6 + (1 : Int32)) u
      else
        some b6)))
def m_CharacterList_leftPosition_l13 : Nat → Int32 → Int64 → Int32 → xS → Option Int32
  | 0, _, _, _, _ => none
  | n + 1, b3, b4, b6, u => m_CharacterList_leftPosition_s13 (m_CharacterList_leftPosition_l13 n) b3 b4 b6 u
def m_CharacterList_leftPosition (a2 : Int32) (a3 : Int32) (u : xS) : Option Int32 :=
  xb1 (m_CharacterList_nearerSiblings a2 a3 (0 : Int32) u) fun r5 =>
  m_CharacterList_leftPosition_l13 xFU a3 r5 (0 : Int32) u
def m_CharacterList_putBehind_s115 (k115 : Int32 → Int32 → Int32 → xS → Option xS) (b2 : Int32) (b8 : Int32) (b9 : Int32) (u : xS) : Option xS :=
  (if b9 ≤ b8 then
    xg (xin b8 40) <|
    xlt (xs_sI u 6 b8.toNatClampNeg b2) fun w151 =>
    xb1 (m_Text_bit b2) fun r158 =>
    xlt (xs_sl w151 1 ((xs_l w151 1) ||| r158)) fun w162 =>
    xlt (xs_si w162 1 ((xs_i w162 1) + (1 : Int32))) fun w172 =>
    some w172
  else
    xg (xin (b9 - (1 : Int32)) 40) <|
    xg (xin b9 40) <|
    xlt (xs_sI u 6 b9.toNatClampNeg (xs_I u 6 (b9 - (1 : Int32)).toNatClampNeg)) fun w137 =>
    k115 b2 b8 (b9 + (-1 : Int32)) w137)
def m_CharacterList_putBehind_l115 : Nat → Int32 → Int32 → Int32 → xS → Option xS
  | 0, _, _, _, _ => none
  | n + 1, b2, b8, b9, u => m_CharacterList_putBehind_s115 (m_CharacterList_putBehind_l115 n) b2 b8 b9 u
def m_CharacterList_putBehind_b81 (b2 : Int32) (b6 : Int32) (b7 : Int32) (t0 : Int64) (t1 : Int64) (t2 : Int32) (u : xS) : Option xS :=
  xg (xin t2 40) <|
  xlt (xs_sL u 2 t2.toNatClampNeg (t1 ||| t0)) fun w82 =>
  (if b6 = 0 then
    xb1 (m_CharacterList_leftPosition b2 b7 w82) fun r104 =>
    m_CharacterList_putBehind_l115 xFU b2 r104 (xs_i w82 1) w82
  else
    xb1 (m_CharacterList_rightPosition b2 b7 w82) fun r93 =>
    m_CharacterList_putBehind_l115 xFU b2 r93 (xs_i w82 1) w82)
def m_CharacterList_putBehind_b37 (b2 : Int32) (b6 : Int32) (t0 : Int32) (u : xS) : Option xS :=
  xg (xin b2 40) <|
  xlt (xs_sI u 7 b2.toNatClampNeg t0) fun w46 =>
  xlt (xs_sI w46 8 b2.toNatClampNeg (vp_nar .boolean b6)) fun w54 =>
  xb1 (m_Text_bit b2) fun r61 =>
  (if t0 = (-1 : Int32) then
    m_CharacterList_putBehind_b81 b2 b6 t0 (0 : Int64) r61 b2 w54
  else
    xg (xin t0 40) <|
    m_CharacterList_putBehind_b81 b2 b6 t0 (xs_L w54 2 t0.toNatClampNeg) r61 b2 w54)
def m_CharacterList_putBehind_b19 (b2 : Int32) (b3 : Int32) (b4 : Int64) (t0 : Int32) (u : xS) : Option xS :=
  (if t0 = 0 then
    xb1 (m_CharacterList_nextBehind b3 b4 u) fun r34 =>
    m_CharacterList_putBehind_b37 b2 t0 r34 u
  else
    m_CharacterList_putBehind_b37 b2 t0 b3 u)
def m_CharacterList_putBehind (a2 : Int32) (a3 : Int32) (a4 : Int64) (u : xS) : Option xS :=
  xb1 (m_CharacterList_childrenOf a3 (1 : Int32) u) fun r3 =>
  (if (r3 &&& a4) = (0 : Int64) then
    m_CharacterList_putBehind_b19 a2 a3 a4 (1 : Int32) u
  else
    m_CharacterList_putBehind_b19 a2 a3 a4 (0 : Int32) u)
def m_History_numberOf (a1 : Int32) (u : xS) : Option Int32 :=
  xg (xin a1 40) <|
  some (xs_I u 1 a1.toNatClampNeg)
def m_Text_insert_b92 (b1 : Int32) (b2 : Int32) (b3 : Int32) (b4 : Int64) (t0 : Int32) (u : xS) : Option (Int32 × xS) :=
  xb2 (m_History_record b1 b2 b3 b4 u) fun r103 u103 =>
  xb1 (m_CharacterList_putBehind r103 t0 b4 u103) fun u122 =>
  xg (xin b1 3) <|
  xb1 (m_Text_bit r103) fun r135 =>
  xlt (xs_sl u122 (2 + (b1.toNatClampNeg)) (b4 ||| r135)) fun w139 =>
  xb1 (m_History_numberOf r103 w139) fun r148 =>
  some (r148, w139)
def m_Text_insert (a1 : Int32) (a2 : Int32) (a3 : Int32) (u : xS) : Option (Int32 × xS) :=
  xb1 (m_Text_isSite a1) fun r1 =>
  (if r1 = 0 then
    some ((-1000 : Int32), u)
  else
    (if a3 < (32 : Int32) then
      some ((-1000 : Int32), u)
    else
      (if (126 : Int32) < a3 then
        some ((-1000 : Int32), u)
      else
        xb1 (m_History_isFull u) fun r23 =>
        (if r23 = 0 then
          xg (xin a1 3) <|
          xb1 (m_CharacterList_shownIn (xs_l u (2 + (a1.toNatClampNeg))) u) fun r50 =>
          (if a2 < 0 then
            some ((-1000 : Int32), u)
          else
            xb1 (m_Long_bitCount r50) fun r62 =>
            (if a2 ≤ r62 then
              (if a2 = 0 then
                m_Text_insert_b92 a1 a2 a3 (xs_l u (2 + (a1.toNatClampNeg))) (-1 : Int32) u
              else
                xb1 (m_CharacterList_shownAt r50 (a2 - (1 : Int32)) u) fun r89 =>
                m_Text_insert_b92 a1 a2 a3 (xs_l u (2 + (a1.toNatClampNeg))) r89 u)
            else
              some ((-1000 : Int32), u)))
        else
          some ((-1000 : Int32), u)))))
def m_CharacterList_hide (a1 : Int32) (a2 : Int32) (u : xS) : Option xS :=
  xg (xin a1 40) <|
  xlt (xs_sI u 9 a1.toNatClampNeg a2) fun w6 =>
  xb1 (m_Text_bit a1) fun r13 =>
  xlt (xs_sl w6 0 ((xs_l w6 0) ||| r13)) fun w17 =>
  some w17
def m_Text_delete (a1 : Int32) (a2 : Int32) (u : xS) : Option (Int32 × xS) :=
  xb1 (m_Text_isSite a1) fun r1 =>
  (if r1 = 0 then
    some ((-1000 : Int32), u)
  else
    xb1 (m_History_isFull u) fun r11 =>
    (if r11 = 0 then
      xg (xin a1 3) <|
      xb1 (m_CharacterList_shownIn (xs_l u (2 + (a1.toNatClampNeg))) u) fun r40 =>
      xb1 (m_CharacterList_shownAt r40 a2 u) fun r44 =>
      (if r44 = (-1 : Int32) then
        some ((-1000 : Int32), u)
      else
        xb2 (m_History_record a1 a2 (-1 : Int32) (xs_l u (2 + (a1.toNatClampNeg))) u) fun r67 u67 =>
        xb1 (m_CharacterList_hide r67 r44 u67) fun u80 =>
        xb1 (m_Text_bit r67) fun r92 =>
        xlt (xs_sl u80 (2 + (a1.toNatClampNeg)) ((xs_l u (2 + (a1.toNatClampNeg))) ||| r92)) fun w96 =>
        xb1 (m_History_numberOf r67 w96) fun r105 =>
        some (r105, w96))
    else
      some ((-1000 : Int32), u)))
def m_Text_length (a1 : Int32) (u : xS) : Option Int32 :=
  xb1 (m_Text_isSite a1) fun r1 =>
  (if r1 = 0 then
    some (-1000 : Int32)
  else
    xg (xin a1 3) <|
    xb1 (m_CharacterList_shownIn (xs_l u (2 + (a1.toNatClampNeg))) u) fun r20 =>
    xb1 (m_Long_bitCount r20) fun r23 =>
    some r23)
def m_History_characterOf (a1 : Int32) (u : xS) : Option Int32 :=
  xg (xin a1 40) <|
  some (xs_I u 3 a1.toNatClampNeg)
def m_Text_at (a1 : Int32) (a2 : Int32) (u : xS) : Option Int32 :=
  xb1 (m_Text_isSite a1) fun r1 =>
  (if r1 = 0 then
    some (-1000 : Int32)
  else
    xg (xin a1 3) <|
    xb1 (m_CharacterList_shownIn (xs_l u (2 + (a1.toNatClampNeg))) u) fun r28 =>
    xb1 (m_CharacterList_shownAt r28 a2 u) fun r32 =>
    (if r32 = (-1 : Int32) then
      some (-1000 : Int32)
    else
      xb1 (m_History_characterOf r32 u) fun r52 =>
      some r52))
def m_Text_areTwoSites (a0 : Int32) (a1 : Int32) : Option Int32 :=
  xb1 (m_Text_isSite a0) fun r1 =>
  (if r1 = 0 then
    some (0 : Int32)
  else
    xb1 (m_Text_isSite a1) fun r8 =>
    (if r8 = 0 then
      some (0 : Int32)
    else
      (if a0 = a1 then
        some (0 : Int32)
      else
        some (1 : Int32))))
def m_Text_freeNumber_s2 (k2 : Int32 → xS → Option Int32) (b1 : Int32) (u : xS) : Option Int32 :=
  (if (6 : Int32) ≤ b1 then
    some b1
  else
    xg (xin b1 6) <|
    (if (xs_i u (12 + (b1.toNatClampNeg))) = 0 then
      some b1
    else
      k2 (b1 + (1 : Int32)) u))
def m_Text_freeNumber_l2 : Nat → Int32 → xS → Option Int32
  | 0, _, _ => none
  | n + 1, b1, u => m_Text_freeNumber_s2 (m_Text_freeNumber_l2 n) b1 u
def m_Text_freeNumber (u : xS) : Option Int32 :=
  m_Text_freeNumber_l2 xFU (0 : Int32) u
def m_History_leastOf_s5 (k5 : Int64 → Int32 → Int32 → xS → Option Int32) (b1 : Int64) (b3 : Int32) (b4 : Int32) (u : xS) : Option Int32 :=
  (if (xs_i u 0) ≤ b4 then
    some b3
  else
    xb1 (m_Text_has b1 b4) fun r17 =>
    (if r17 = 0 then
      k5 b1 b3 (b4 + (1 : Int32)) u
    else
      (if b3 = (-1 : Int32) then
        k5 b1 b4 (b4 + (1 : Int32)) u
      else
        xb1 (m_History_comesBefore b4 b3 u) fun r32 =>
        (if r32 = 0 then
          k5 b1 b3 (b4 + (1 : Int32)) u
        else
          k5 b1 b4 (b4 + (1 : Int32)) u))))
def m_History_leastOf_l5 : Nat → Int64 → Int32 → Int32 → xS → Option Int32
  | 0, _, _, _, _ => none
  | n + 1, b1, b3, b4, u => m_History_leastOf_s5 (m_History_leastOf_l5 n) b1 b3 b4 u
def m_History_leastOf (a1 : Int64) (u : xS) : Option Int32 :=
  m_History_leastOf_l5 xFU a1 (-1 : Int32) (0 : Int32) u
def m_History_nextOf_b96 (t0 : Int64) (u : xS) : Option Int32 :=
  xb1 (m_History_leastOf t0 u) fun r96 =>
  some r96
def m_History_nextOf_s9 (k9 : Int64 → Int32 → Int64 → Int64 → Int32 → xS → Option Int32) (b1 : Int64) (b3 : Int32) (b4 : Int64) (b6 : Int64) (b8 : Int32) (u : xS) : Option Int32 :=
  (if (xs_i u 0) ≤ b8 then
    (if b6 = (0 : Int64) then
      m_History_nextOf_b96 b4 u
    else
      m_History_nextOf_b96 b6 u)
  else
    xb1 (m_Text_has b1 b8) fun r21 =>
    (if r21 = 0 then
      k9 b1 b3 b4 b6 (b8 + (1 : Int32)) u
    else
      xg (xin b8 40) <|
      (if ((xs_L u 0 b8.toNatClampNeg) &&& b1) = (0 : Int64) then
        xb1 (m_Text_bit b8) fun r45 =>
        xb1 (m_Text_has (xs_L u 0 b8.toNatClampNeg) b3) fun r59 =>
        (if r59 = 0 then
          k9 b1 b3 (b4 ||| r45) b6 (b8 + (1 : Int32)) u
        else
          xb1 (m_Text_bit b8) fun r69 =>
          k9 b1 b3 (b4 ||| r45) (b6 ||| r69) (b8 + (1 : Int32)) u)
      else
        k9 b1 b3 b4 b6 (b8 + (1 : Int32)) u)))
def m_History_nextOf_l9 : Nat → Int64 → Int32 → Int64 → Int64 → Int32 → xS → Option Int32
  | 0, _, _, _, _, _, _ => none
  | n + 1, b1, b3, b4, b6, b8, u => m_History_nextOf_s9 (m_History_nextOf_l9 n) b1 b3 b4 b6 b8 u
def m_History_nextOf (a1 : Int64) (a3 : Int32) (u : xS) : Option Int32 :=
  m_History_nextOf_l9 xFU a1 a3 (0 : Int64) (0 : Int64) (0 : Int32) u
def m_Line_arrange_s17 (k17 : Int64 → Int32 → xS → Option xS) (b4 : Int64) (b6 : Int32) (u : xS) : Option xS :=
  (if (40 : Int32) ≤ (xs_i u 2) then
    some u
  else
    (if b6 = (-1 : Int32) then
      some u
    else
      xg (xin (xs_i u 2) 40) <|
      xlt (xs_sI u 10 (xs_i u 2).toNatClampNeg b6) fun w42 =>
      xlt (xs_si w42 2 ((xs_i w42 2) + (1 : Int32))) fun w50 =>
      xb1 (m_Text_bit b6) fun r57 =>
      xb1 (m_History_nextOf (b4 &&& (r57 ^^^ (-1 : Int64))) b6 w50) fun r72 =>
      k17 (b4 &&& (r57 ^^^ (-1 : Int64))) r72 w50))
def m_Line_arrange_l17 : Nat → Int64 → Int32 → xS → Option xS
  | 0, _, _, _ => none
  | n + 1, b4, b6, u => m_Line_arrange_s17 (m_Line_arrange_l17 n) b4 b6 u
def m_Line_arrange (a2 : Int64) (u : xS) : Option xS :=
  xb1 (m_History_nextOf a2 (-1 : Int32) u) fun r7 =>
  xlt (xs_si u 2 (0 : Int32)) fun w14 =>
  m_Line_arrange_l17 xFU a2 r7 w14
def m_Message_start (j : Nat) (a1 : Int32) (a2 : Int32) (a3 : Int64) (u : xS) : Option xS :=
  xlt (xs_si u (12 + j) (1 : Int32)) fun w2 =>
  xlt (xs_si w2 (18 + j) a1) fun w7 =>
  xlt (xs_si w7 (24 + j) a2) fun w12 =>
  xlt (xs_sl w12 (5 + j) a3) fun w17 =>
  some w17
def m_OctetRow_clear (j : Nat) (u : xS) : Option xS :=
  xlt (xs_si u (30 + j) (0 : Int32)) fun w2 =>
  some w2
def m_Line_size (u : xS) : Option Int32 :=
  some (xs_i u 2)
def m_OctetRow_add (j : Nat) (a1 : Int32) (u : xS) : Option xS :=
  (if (442 : Int32) ≤ (xs_i u (30 + j)) then
    some u
  else
    xg (xin (xs_i u (30 + j)) 442) <|
    xlt (xs_sI u (14 + j) (xs_i u (30 + j)).toNatClampNeg a1) fun w19 =>
    xlt (xs_si w19 (30 + j) ((xs_i w19 (30 + j)) + (1 : Int32))) fun w27 =>
    some w27)
def m_OctetRow_put_b38 (j : Nat) (b2 : Int32) (u : xS) : Option xS :=
  xb1 (m_OctetRow_add j b2 u) fun u40 =>
  some u40
def m_OctetRow_put_s4 (k4 : Nat → Int32 → Int32 → xS → Option xS) (j : Nat) (b2 : Int32) (b3 : Int32) (u : xS) : Option xS :=
  (if (5 : Int32) ≤ b3 then
    m_OctetRow_put_b38 j b2 u
  else
    (if b2 ≤ (127 : Int32) then
      m_OctetRow_put_b38 j b2 u
    else
      xb1 (m_OctetRow_add j ((128 : Int32) + (b2 &&& (127 : Int32))) u) fun u24 =>
      k4 j (b2 >>> ((7 : Int32) &&& 31)) (b3 + (1 : Int32)) u24))
def m_OctetRow_put_l4 : Nat → Nat → Int32 → Int32 → xS → Option xS
  | 0, _, _, _, _ => none
  | n + 1, j, b2, b3, u => m_OctetRow_put_s4 (m_OctetRow_put_l4 n) j b2 b3 u
def m_OctetRow_put (j : Nat) (a1 : Int32) (u : xS) : Option xS :=
  m_OctetRow_put_l4 xFU j a1 (1 : Int32) u
def m_Line_get (a1 : Int32) (u : xS) : Option Int32 :=
  xg (xin a1 40) <|
  some (xs_I u 10 a1.toNatClampNeg)
def m_History_siteOf (a1 : Int32) (u : xS) : Option Int32 :=
  xg (xin a1 40) <|
  some (xs_I u 0 a1.toNatClampNeg)
def m_Message_writeSites_b49 (k5 : Nat → Int32 → Int32 → xS → Option xS) (j : Nat) (b3 : Int32) (b4 : Int32) (b5 : Int32) (u : xS) : Option xS :=
  xb1 (m_OctetRow_put j b5 u) fun u55 =>
  xb1 (m_Line_get b3 u55) fun r65 =>
  xb1 (m_History_numberOf r65 u55) fun r68 =>
  xb1 (m_OctetRow_put j r68 u55) fun u71 =>
  xb1 (m_OctetRow_put j (b4 - b3) u71) fun u82 =>
  k5 j b4 (b4 + (1 : Int32)) u82
def m_Message_writeSites_s5 (k5 : Nat → Int32 → Int32 → xS → Option xS) (j : Nat) (b3 : Int32) (b4 : Int32) (u : xS) : Option xS :=
  xb1 (m_Line_size u) fun r8 =>
  (if r8 < b4 then
    some u
  else
    xb1 (m_Line_get b3 u) fun r17 =>
    xb1 (m_History_siteOf r17 u) fun r20 =>
    xb1 (m_Line_size u) fun r28 =>
    (if b4 = r28 then
      m_Message_writeSites_b49 k5 j b3 b4 r20 u
    else
      xb1 (m_Line_get b4 u) fun r38 =>
      xb1 (m_History_siteOf r38 u) fun r41 =>
      (if r41 = r20 then
        k5 j b3 (b4 + (1 : Int32)) u
      else
        m_Message_writeSites_b49 k5 j b3 b4 r20 u)))
def m_Message_writeSites_l5 : Nat → Nat → Int32 → Int32 → xS → Option xS
  | 0, _, _, _, _ => none
  | n + 1, j, b3, b4, u => m_Message_writeSites_s5 (m_Message_writeSites_l5 n) j b3 b4 u
def m_Message_writeSites (j : Nat) (u : xS) : Option xS :=
  m_Message_writeSites_l5 xFU j (0 : Int32) (1 : Int32) u
def m_History_isInsert (a1 : Int32) (u : xS) : Option Int32 :=
  xg (xin a1 40) <|
  (if (xs_I u 3 a1.toNatClampNeg) = (-1 : Int32) then
    some (0 : Int32)
  else
    some (1 : Int32))
def m_Message_writeKinds_s8 (k8 : Nat → Int32 → Int32 → Int32 → xS → Option xS) (j : Nat) (b3 : Int32) (b4 : Int32) (b5 : Int32) (u : xS) : Option xS :=
  xb1 (m_Line_size u) fun r11 =>
  (if r11 ≤ b5 then
    xb1 (m_OctetRow_put j b4 u) fun u68 =>
    some u68
  else
    xb1 (m_Line_get b5 u) fun r21 =>
    xb1 (m_History_isInsert r21 u) fun r24 =>
    (if r24 = b3 then
      k8 j b3 (b4 + (1 : Int32)) (b5 + (1 : Int32)) u
    else
      xb1 (m_OctetRow_put j b4 u) fun u37 =>
      (if b3 = 0 then
        k8 j (1 : Int32) ((0 : Int32) + (1 : Int32)) (b5 + (1 : Int32)) u37
      else
        k8 j (0 : Int32) ((0 : Int32) + (1 : Int32)) (b5 + (1 : Int32)) u37)))
def m_Message_writeKinds_l8 : Nat → Nat → Int32 → Int32 → Int32 → xS → Option xS
  | 0, _, _, _, _, _ => none
  | n + 1, j, b3, b4, b5, u => m_Message_writeKinds_s8 (m_Message_writeKinds_l8 n) j b3 b4 b5 u
def m_Message_writeKinds (j : Nat) (u : xS) : Option xS :=
  m_Message_writeKinds_l8 xFU j (1 : Int32) (0 : Int32) (0 : Int32) u
def m_History_indexOf (a1 : Int32) (u : xS) : Option Int32 :=
  xg (xin a1 40) <|
  some (xs_I u 2 a1.toNatClampNeg)
def m_OctetRow_putSigned_b17 (j : Nat) (t0 : Int32) (u : xS) : Option xS :=
  xb1 (m_OctetRow_put j t0 u) fun u17 =>
  some u17
def m_OctetRow_putSigned (j : Nat) (a1 : Int32) (u : xS) : Option xS :=
  (if 0 ≤ a1 then
    m_OctetRow_putSigned_b17 j ((2 : Int32) * a1) u
  else
    m_OctetRow_putSigned_b17 j (((-2 : Int32) * a1) - (1 : Int32)) u)
def m_Message_writeIndices_s5 (k5 : Nat → Int32 → Int32 → xS → Option xS) (j : Nat) (b3 : Int32) (b4 : Int32) (u : xS) : Option xS :=
  xb1 (m_Line_size u) fun r8 =>
  (if r8 ≤ b4 then
    some u
  else
    xb1 (m_Line_get b4 u) fun r18 =>
    xb1 (m_History_indexOf r18 u) fun r21 =>
    xb1 (m_OctetRow_putSigned j (r21 - b3) u) fun u34 =>
    k5 j r21 (b4 + (1 : Int32)) u34)
def m_Message_writeIndices_l5 : Nat → Nat → Int32 → Int32 → xS → Option xS
  | 0, _, _, _, _ => none
  | n + 1, j, b3, b4, u => m_Message_writeIndices_s5 (m_Message_writeIndices_l5 n) j b3 b4 u
def m_Message_writeIndices (j : Nat) (u : xS) : Option xS :=
  m_Message_writeIndices_l5 xFU j (0 : Int32) (0 : Int32) u
def m_Message_writeCharacters_s5 (k5 : Nat → Int32 → Int32 → xS → Option xS) (j : Nat) (b3 : Int32) (b4 : Int32) (u : xS) : Option xS :=
  xb1 (m_Line_size u) fun r8 =>
  (if r8 ≤ b4 then
    some u
  else
    xb1 (m_Line_get b4 u) fun r18 =>
    xb1 (m_History_isInsert r18 u) fun r21 =>
    (if r21 = 0 then
      k5 j b3 (b4 + (1 : Int32)) u
    else
      xb1 (m_Line_get b4 u) fun r31 =>
      xb1 (m_History_characterOf r31 u) fun r34 =>
      xb1 (m_OctetRow_putSigned j (r34 - b3) u) fun u47 =>
      k5 j r34 (b4 + (1 : Int32)) u47))
def m_Message_writeCharacters_l5 : Nat → Nat → Int32 → Int32 → xS → Option xS
  | 0, _, _, _, _ => none
  | n + 1, j, b3, b4, u => m_Message_writeCharacters_s5 (m_Message_writeCharacters_l5 n) j b3 b4 u
def m_Message_writeCharacters (j : Nat) (u : xS) : Option xS :=
  m_Message_writeCharacters_l5 xFU j (0 : Int32) (0 : Int32) u
def m_History_parentsOf (a1 : Int32) (u : xS) : Option Int64 :=
  xg (xin a1 40) <|
  some (xs_L u 0 a1.toNatClampNeg)
def m_History_codeOf (a1 : Int32) (u : xS) : Option Int32 :=
  xg (xin a1 40) <|
  some ((xs_I u 0 a1.toNatClampNeg) + ((3 : Int32) * (xs_I u 1 a1.toNatClampNeg)))
def m_Message_writeParentList_s31 (k31 : Nat → Int32 → Int64 → Int32 → Int32 → xS → Option xS) (j : Nat) (b4 : Int32) (b5 : Int64) (b7 : Int32) (b8 : Int32) (u : xS) : Option xS :=
  (if b4 ≤ b8 then
    some u
  else
    (if b7 = (-1 : Int32) then
      some u
    else
      xb1 (m_History_codeOf b7 u) fun r51 =>
      xb1 (m_OctetRow_put j r51 u) fun u54 =>
      xb1 (m_Text_bit b7) fun r61 =>
      xb1 (m_History_leastOf (b5 &&& (r61 ^^^ (-1 : Int64))) u54) fun r74 =>
      k31 j b4 (b5 &&& (r61 ^^^ (-1 : Int64))) r74 (b8 + (1 : Int32)) u54))
def m_Message_writeParentList_l31 : Nat → Nat → Int32 → Int64 → Int32 → Int32 → xS → Option xS
  | 0, _, _, _, _, _, _ => none
  | n + 1, j, b4, b5, b7, b8, u => m_Message_writeParentList_s31 (m_Message_writeParentList_l31 n) j b4 b5 b7 b8 u
def m_Message_writeParentList (j : Nat) (a2 : Int64) (u : xS) : Option xS :=
  xb1 (m_Long_bitCount a2) fun r1 =>
  xb1 (m_History_leastOf a2 u) fun r12 =>
  xb1 (m_OctetRow_put j ((1 : Int32) + r1) u) fun u25 =>
  m_Message_writeParentList_l31 xFU j r1 a2 r12 (0 : Int32) u25
def m_Message_writeParents_b52 (k2 : Nat → Int32 → xS → Option xS) (j : Nat) (b3 : Int32) (b4 : Int64) (u : xS) : Option xS :=
  xb1 (m_Message_writeParentList j b4 u) fun u56 =>
  k2 j (b3 + (1 : Int32)) u56
def m_Message_writeParents_s2 (k2 : Nat → Int32 → xS → Option xS) (j : Nat) (b3 : Int32) (u : xS) : Option xS :=
  xb1 (m_Line_size u) fun r4 =>
  (if r4 ≤ b3 then
    some u
  else
    xb1 (m_Line_get b3 u) fun r13 =>
    xb1 (m_History_parentsOf r13 u) fun r16 =>
    (if b3 ≤ 0 then
      m_Message_writeParents_b52 k2 j b3 r16 u
    else
      xb1 (m_Line_get (b3 - (1 : Int32)) u) fun r31 =>
      xb1 (m_Text_bit r31) fun r34 =>
      (if r16 = r34 then
        xb1 (m_OctetRow_put j (0 : Int32) u) fun u46 =>
        k2 j (b3 + (1 : Int32)) u46
      else
        m_Message_writeParents_b52 k2 j b3 r16 u)))
def m_Message_writeParents_l2 : Nat → Nat → Int32 → xS → Option xS
  | 0, _, _, _ => none
  | n + 1, j, b3, u => m_Message_writeParents_s2 (m_Message_writeParents_l2 n) j b3 u
def m_Message_writeParents (j : Nat) (u : xS) : Option xS :=
  m_Message_writeParents_l2 xFU j (0 : Int32) u
def m_Message_write (j : Nat) (u : xS) : Option xS :=
  xb1 (m_OctetRow_clear j u) fun u4 =>
  xb1 (m_Line_size u4) fun r12 =>
  xb1 (m_OctetRow_put j r12 u4) fun u15 =>
  xb1 (m_Message_writeSites j u15) fun u21 =>
  xb1 (m_Message_writeKinds j u21) fun u27 =>
  xb1 (m_Message_writeIndices j u27) fun u33 =>
  xb1 (m_Message_writeCharacters j u33) fun u39 =>
  xb1 (m_Message_writeParents j u39) fun u45 =>
  some u45
def m_Text_send (a1 : Int32) (a2 : Int32) (u : xS) : Option (Int32 × xS) :=
  xb1 (m_Text_areTwoSites a1 a2) fun r2 =>
  (if r2 = 0 then
    some ((-1000 : Int32), u)
  else
    xg (xin a1 3) <|
    xg (xin a2 3) <|
    xb1 (m_Text_freeNumber u) fun r37 =>
    (if ((xs_l u (2 + (a1.toNatClampNeg))) &&& ((xs_L u (3 + (a1.toNatClampNeg)) a2.toNatClampNeg) ^^^ (-1 : Int64))) = (0 : Int64) then
      some ((-1000 : Int32), u)
    else
      (if r37 = (6 : Int32) then
        some ((-1000 : Int32), u)
      else
        xb1 (m_Line_arrange ((xs_l u (2 + (a1.toNatClampNeg))) &&& ((xs_L u (3 + (a1.toNatClampNeg)) a2.toNatClampNeg) ^^^ (-1 : Int64))) u) fun u70 =>
        xg (xin r37 6) <|
        xb1 (m_Message_start (r37.toNatClampNeg) a1 a2 ((xs_l u (2 + (a1.toNatClampNeg))) &&& ((xs_L u (3 + (a1.toNatClampNeg)) a2.toNatClampNeg) ^^^ (-1 : Int64))) u70) fun u84 =>
        xb1 (m_Message_write (r37.toNatClampNeg) u84) fun u102 =>
        xlt (xs_sL u102 (3 + (a1.toNatClampNeg)) a2.toNatClampNeg (xs_l u102 (2 + (a1.toNatClampNeg)))) fun w114 =>
        some (r37, w114))))
def m_Text_isUnderWay (a1 : Int32) (u : xS) : Option Int32 :=
  (if a1 < 0 then
    some (0 : Int32)
  else
    (if (6 : Int32) ≤ a1 then
      some (0 : Int32)
    else
      xg (xin a1 6) <|
      (if (xs_i u (12 + (a1.toNatClampNeg))) = 0 then
        some (0 : Int32)
      else
        some (1 : Int32))))
def m_History_withAncestors_s5 (k5 : Int64 → Int64 → Int32 → xS → Option Int64) (b1 : Int64) (b3 : Int64) (b5 : Int32) (u : xS) : Option Int64 :=
  (if (xs_i u 0) ≤ b5 then
    some b3
  else
    xb1 (m_Text_has b1 b5) fun r17 =>
    (if r17 = 0 then
      k5 b1 b3 (b5 + (1 : Int32)) u
    else
      xg (xin b5 40) <|
      k5 b1 (b3 ||| (xs_L u 1 b5.toNatClampNeg)) (b5 + (1 : Int32)) u))
def m_History_withAncestors_l5 : Nat → Int64 → Int64 → Int32 → xS → Option Int64
  | 0, _, _, _, _ => none
  | n + 1, b1, b3, b5, u => m_History_withAncestors_s5 (m_History_withAncestors_l5 n) b1 b3 b5 u
def m_History_withAncestors (a1 : Int64) (u : xS) : Option Int64 :=
  m_History_withAncestors_l5 xFU a1 a1 (0 : Int32) u
def m_History_upTo (a1 : Int32) (u : xS) : Option Int64 :=
  (if a1 = (-1 : Int32) then
    some (0 : Int64)
  else
    xg (xin a1 40) <|
    xb1 (m_Text_bit a1) fun r16 =>
    some ((xs_L u 1 a1.toNatClampNeg) ||| r16))
def m_History_descendantsOf_s8 (k8 : Int32 → Int64 → Int64 → Int32 → xS → Option Int64) (b1 : Int32) (b2 : Int64) (b4 : Int64) (b6 : Int32) (u : xS) : Option Int64 :=
  (if (xs_i u 0) ≤ b6 then
    some b4
  else
    xb1 (m_Text_has b2 b6) fun r20 =>
    (if r20 = 0 then
      k8 b1 b2 b4 (b6 + (1 : Int32)) u
    else
      xg (xin b6 40) <|
      xb1 (m_Text_has (xs_L u 1 b6.toNatClampNeg) b1) fun r34 =>
      (if r34 = 0 then
        k8 b1 b2 b4 (b6 + (1 : Int32)) u
      else
        xb1 (m_Text_bit b6) fun r44 =>
        k8 b1 b2 (b4 ||| r44) (b6 + (1 : Int32)) u)))
def m_History_descendantsOf_l8 : Nat → Int32 → Int64 → Int64 → Int32 → xS → Option Int64
  | 0, _, _, _, _, _ => none
  | n + 1, b1, b2, b4, b6, u => m_History_descendantsOf_s8 (m_History_descendantsOf_l8 n) b1 b2 b4 b6 u
def m_History_descendantsOf (a1 : Int32) (a2 : Int64) (u : xS) : Option Int64 :=
  m_History_descendantsOf_l8 xFU a1 a2 (0 : Int64) (a1 + (1 : Int32)) u
def m_History_isCritical (a1 : Int32) (a2 : Int64) (u : xS) : Option Int32 :=
  xb1 (m_History_upTo a1 u) fun r3 =>
  xb1 (m_History_descendantsOf a1 a2 u) fun r9 =>
  (if (a2 &&& ((r3 ||| r9) ^^^ (-1 : Int64))) = (0 : Int64) then
    some (1 : Int32)
  else
    some (0 : Int32))
def m_History_lastCritical_s8 (k8 : Int64 → Int64 → Int32 → xS → Option Int32) (b1 : Int64) (b3 : Int64) (b5 : Int32) (u : xS) : Option Int32 :=
  (if b5 < 0 then
    some (-1 : Int32)
  else
    xb1 (m_Text_has b3 b5) fun r16 =>
    (if r16 = 0 then
      k8 b1 b3 (b5 + (-1 : Int32)) u
    else
      xb1 (m_History_isCritical b5 b1 u) fun r26 =>
      (if r26 = 0 then
        k8 b1 b3 (b5 + (-1 : Int32)) u
      else
        some b5)))
def m_History_lastCritical_l8 : Nat → Int64 → Int64 → Int32 → xS → Option Int32
  | 0, _, _, _, _ => none
  | n + 1, b1, b3, b5, u => m_History_lastCritical_s8 (m_History_lastCritical_l8 n) b1 b3 b5 u
def m_History_lastCritical (a1 : Int64) (a3 : Int64) (u : xS) : Option Int32 :=
  m_History_lastCritical_l8 xFU a1 a3 ((xs_i u 0) - (1 : Int32)) u
def m_History_ancestorsOf (a1 : Int32) (u : xS) : Option Int64 :=
  xg (xin a1 40) <|
  some (xs_L u 1 a1.toNatClampNeg)
def m_Merge_passThrough_s6 (k6 : Nat → Int64 → Int32 → xS → Option (Int64 × xS)) (j : Nat) (b5 : Int64) (b7 : Int32) (u : xS) : Option (Int64 × xS) :=
  xb1 (m_Line_size u) fun r9 =>
  (if r9 ≤ b7 then
    some (b5, u)
  else
    xb1 (m_Line_get b7 u) fun r18 =>
    xb1 (m_History_ancestorsOf r18 u) fun r33 =>
    xb1 (m_Long_bitCount (b5 ^^^ r33)) fun r37 =>
    xlt (xs_si u (9 + j) ((xs_i u (9 + j)) + r37)) fun w41 =>
    xb1 (m_History_upTo r18 w41) fun r47 =>
    k6 j r47 (b7 + (1 : Int32)) w41)
def m_Merge_passThrough_l6 : Nat → Nat → Int64 → Int32 → xS → Option (Int64 × xS)
  | 0, _, _, _, _ => none
  | n + 1, j, b5, b7, u => m_Merge_passThrough_s6 (m_Merge_passThrough_l6 n) j b5 b7 u
def m_Merge_passThrough (j : Nat) (a3 : Int64) (u : xS) : Option (Int64 × xS) :=
  m_Merge_passThrough_l6 xFU j a3 (0 : Int32) u
def m_CharacterList_indexIn_s6 (k6 : Int64 → Int32 → Int32 → Int32 → xS → Option Int32) (b1 : Int64) (b3 : Int32) (b4 : Int32) (b5 : Int32) (u : xS) : Option Int32 :=
  (if (xs_i u 1) ≤ b5 then
    some b4
  else
    xg (xin b5 40) <|
    (if (xs_I u 6 b5.toNatClampNeg) = b3 then
      some b4
    else
      xb1 (m_Text_has b1 (xs_I u 6 b5.toNatClampNeg)) fun r34 =>
      (if r34 = 0 then
        k6 b1 b3 b4 (b5 + (1 : Int32)) u
      else
        k6 b1 b3 (b4 + (1 : Int32)) (b5 + (1 : Int32)) u)))
def m_CharacterList_indexIn_l6 : Nat → Int64 → Int32 → Int32 → Int32 → xS → Option Int32
  | 0, _, _, _, _, _ => none
  | n + 1, b1, b3, b4, b5, u => m_CharacterList_indexIn_s6 (m_CharacterList_indexIn_l6 n) b1 b3 b4 b5 u
def m_CharacterList_indexIn (a1 : Int64) (a3 : Int32) (u : xS) : Option Int32 :=
  m_CharacterList_indexIn_l6 xFU a1 a3 (0 : Int32) (0 : Int32) u
def m_CharacterList_takenBy (a1 : Int32) (u : xS) : Option Int32 :=
  xg (xin a1 40) <|
  some (xs_I u 9 a1.toNatClampNeg)
def m_Merge_removal (a1 : Int64) (a3 : Int32) (u : xS) : Option Int32 :=
  xb1 (m_CharacterList_shownIn a1 u) fun r2 =>
  xb1 (m_Text_has r2 a3) fun r10 =>
  (if r10 = 0 then
    some (1000 : Int32)
  else
    xb1 (m_CharacterList_indexIn r2 a3 u) fun r21 =>
    some ((-1 : Int32) - r21))
def m_Merge_applyAll_b74 (k15 : Nat → Int64 → Int32 → xS → Option xS) (j : Nat) (b6 : Int64) (b8 : Int32) (b9 : Int32) (t0 : Int32) (t1 : Int32) (u : xS) : Option xS :=
  xg (xin t1 40) <|
  xlt (xs_sI u (11 + j) t1.toNatClampNeg t0) fun w74 =>
  xb1 (m_Text_bit b9) fun r79 =>
  k15 j (b6 ||| r79) (b8 + (1 : Int32)) w74
def m_Merge_applyAll_s15 (k15 : Nat → Int64 → Int32 → xS → Option xS) (j : Nat) (b6 : Int64) (b8 : Int32) (u : xS) : Option xS :=
  (if (xs_i u (3 + j)) ≤ b8 then
    some u
  else
    xb1 (m_Line_get b8 u) fun r27 =>
    xb1 (m_History_isInsert r27 u) fun r41 =>
    (if r41 = 0 then
      xb1 (m_CharacterList_takenBy r27 u) fun r68 =>
      xb1 (m_Merge_removal b6 r68 u) fun r71 =>
      m_Merge_applyAll_b74 k15 j b6 b8 r27 r71 b8 u
    else
      xb1 (m_CharacterList_shownIn b6 u) fun r51 =>
      xb1 (m_CharacterList_indexIn r51 r27 u) fun r56 =>
      m_Merge_applyAll_b74 k15 j b6 b8 r27 r56 b8 u))
def m_Merge_applyAll_l15 : Nat → Nat → Int64 → Int32 → xS → Option xS
  | 0, _, _, _, _ => none
  | n + 1, j, b6, b8, u => m_Merge_applyAll_s15 (m_Merge_applyAll_l15 n) j b6 b8 u
def m_Merge_applyAll (j : Nat) (a4 : Int64) (u : xS) : Option xS :=
  xb1 (m_Line_size u) fun r6 =>
  xlt (xs_si u (3 + j) r6) fun w9 =>
  m_Merge_applyAll_l15 xFU j a4 (0 : Int32) w9
def m_Merge_perform (j : Nat) (a4 : Int64) (a6 : Int64) (u : xS) : Option xS :=
  xb1 (m_History_lastCritical (a4 ||| a6) a4 u) fun r9 =>
  xb1 (m_History_upTo r9 u) fun r12 =>
  xlt (xs_si u (9 + j) (0 : Int32)) fun w30 =>
  xb1 (m_Long_bitCount (a4 &&& (r12 ^^^ (-1 : Int64)))) fun r36 =>
  xlt (xs_si w30 (6 + j) r36) fun w39 =>
  xb1 (m_Line_arrange (a4 &&& (r12 ^^^ (-1 : Int64))) w39) fun u46 =>
  xb2 (m_Merge_passThrough j r12 u46) fun r54 u54 =>
  xb1 (m_Line_arrange a6 u54) fun u63 =>
  xb2 (m_Merge_passThrough j r54 u63) fun r71 u71 =>
  xb1 (m_Merge_applyAll j a4 u71) fun u81 =>
  some u81
def m_Text_deliver_b138 (b8 : Int64) (u : xS) : Option (Int32 × xS) :=
  xb1 (m_Long_bitCount b8) fun r140 =>
  some (r140, u)
def m_Text_deliver (a1 : Int32) (u : xS) : Option (Int32 × xS) :=
  xb1 (m_Text_isUnderWay a1 u) fun r2 =>
  (if r2 = 0 then
    some ((-1000 : Int32), u)
  else
    xg (xin a1 6) <|
    xg (xin (xs_i u (24 + (a1.toNatClampNeg))) 3) <|
    xb1 (m_History_parentsOfAll (xs_l u (5 + (a1.toNatClampNeg))) u) fun r47 =>
    (if (r47 &&& (((xs_l u (5 + (a1.toNatClampNeg))) ||| (xs_l u (2 + ((xs_i u (24 + (a1.toNatClampNeg))).toNatClampNeg)))) ^^^ (-1 : Int64))) = (0 : Int64) then
      xg (xin (xs_i u (18 + (a1.toNatClampNeg))) 3) <|
      xb1 (m_History_withAncestors (xs_l u (5 + (a1.toNatClampNeg))) u) fun r82 =>
      xlt (xs_sL u (3 + ((xs_i u (24 + (a1.toNatClampNeg))).toNatClampNeg)) (xs_i u (18 + (a1.toNatClampNeg))).toNatClampNeg ((xs_L u (3 + ((xs_i u (24 + (a1.toNatClampNeg))).toNatClampNeg)) (xs_i u (18 + (a1.toNatClampNeg))).toNatClampNeg) ||| r82)) fun w86 =>
      (if ((xs_l u (5 + (a1.toNatClampNeg))) &&& ((xs_l u (2 + ((xs_i u (24 + (a1.toNatClampNeg))).toNatClampNeg))) ^^^ (-1 : Int64))) = (0 : Int64) then
        m_Text_deliver_b138 ((xs_l u (5 + (a1.toNatClampNeg))) &&& ((xs_l u (2 + ((xs_i u (24 + (a1.toNatClampNeg))).toNatClampNeg))) ^^^ (-1 : Int64))) w86
      else
        xb1 (m_Merge_perform ((xs_i u (24 + (a1.toNatClampNeg))).toNatClampNeg) (xs_l u (2 + ((xs_i u (24 + (a1.toNatClampNeg))).toNatClampNeg))) ((xs_l u (5 + (a1.toNatClampNeg))) &&& ((xs_l u (2 + ((xs_i u (24 + (a1.toNatClampNeg))).toNatClampNeg))) ^^^ (-1 : Int64))) w86) fun u125 =>
        xlt (xs_sl u125 (2 + ((xs_i u (24 + (a1.toNatClampNeg))).toNatClampNeg)) ((xs_l u (2 + ((xs_i u (24 + (a1.toNatClampNeg))).toNatClampNeg))) ||| ((xs_l u (5 + (a1.toNatClampNeg))) &&& ((xs_l u (2 + ((xs_i u (24 + (a1.toNatClampNeg))).toNatClampNeg))) ^^^ (-1 : Int64))))) fun w135 =>
        m_Text_deliver_b138 ((xs_l u (5 + (a1.toNatClampNeg))) &&& ((xs_l u (2 + ((xs_i u (24 + (a1.toNatClampNeg))).toNatClampNeg))) ^^^ (-1 : Int64))) w135)
    else
      some ((-1 : Int32), u)))
def m_Text_discard (a1 : Int32) (u : xS) : Option (Int32 × xS) :=
  xb1 (m_Text_isUnderWay a1 u) fun r2 =>
  (if r2 = 0 then
    some ((0 : Int32), u)
  else
    xg (xin a1 6) <|
    xlt (xs_si u (12 + (a1.toNatClampNeg)) (0 : Int32)) fun w17 =>
    some ((1 : Int32), w17))
def m_Text_hear (a1 : Int32) (a2 : Int32) (u : xS) : Option (Int32 × xS) :=
  xb1 (m_Text_areTwoSites a1 a2) fun r2 =>
  (if r2 = 0 then
    some ((-1000 : Int32), u)
  else
    xg (xin a1 3) <|
    xg (xin a2 3) <|
    xb1 (m_History_headsOf (xs_l u (2 + (a2.toNatClampNeg))) u) fun r32 =>
    xb1 (m_History_withAncestors (r32 &&& (xs_l u (2 + (a1.toNatClampNeg)))) u) fun r53 =>
    xlt (xs_sL u (3 + (a1.toNatClampNeg)) a2.toNatClampNeg r53) fun w56 =>
    xb1 (m_Long_bitCount (xs_L w56 (3 + (a1.toNatClampNeg)) a2.toNatClampNeg)) fun r63 =>
    some (r63, w56))
def m_Text_believed (a1 : Int32) (a2 : Int32) (u : xS) : Option Int32 :=
  xb1 (m_Text_areTwoSites a1 a2) fun r2 =>
  (if r2 = 0 then
    some (-1000 : Int32)
  else
    xg (xin a1 3) <|
    xg (xin a2 3) <|
    xb1 (m_Long_bitCount (xs_L u (3 + (a1.toNatClampNeg)) a2.toNatClampNeg)) fun r19 =>
    some r19)
def m_OctetRow_size (j : Nat) (u : xS) : Option Int32 :=
  some (xs_i u (30 + j))
def m_Text_octets (a1 : Int32) (u : xS) : Option Int32 :=
  xb1 (m_Text_isUnderWay a1 u) fun r2 =>
  (if r2 = 0 then
    some (-1000 : Int32)
  else
    xg (xin a1 6) <|
    xb1 (m_OctetRow_size (a1.toNatClampNeg) u) fun r17 =>
    some r17)
def m_OctetRow_get (j : Nat) (a1 : Int32) (u : xS) : Option Int32 :=
  (if a1 < 0 then
    some (-1000 : Int32)
  else
    (if (xs_i u (30 + j)) ≤ a1 then
      some (-1000 : Int32)
    else
      xg (xin a1 442) <|
      some (xs_I u (14 + j) a1.toNatClampNeg)))
def m_Text_octet (a1 : Int32) (a2 : Int32) (u : xS) : Option Int32 :=
  xb1 (m_Text_isUnderWay a1 u) fun r2 =>
  (if r2 = 0 then
    some (-1000 : Int32)
  else
    xg (xin a1 6) <|
    xb1 (m_OctetRow_get (a1.toNatClampNeg) a2 u) fun r18 =>
    some r18)
def m_Text_events (a1 : Int32) (u : xS) : Option Int32 :=
  xb1 (m_Text_isSite a1) fun r1 =>
  (if r1 = 0 then
    some (-1000 : Int32)
  else
    xg (xin a1 3) <|
    xb1 (m_Long_bitCount (xs_l u (2 + (a1.toNatClampNeg)))) fun r16 =>
    some r16)
def m_Text_heads (a1 : Int32) (u : xS) : Option Int32 :=
  xb1 (m_Text_isSite a1) fun r1 =>
  (if r1 = 0 then
    some (-1000 : Int32)
  else
    xg (xin a1 3) <|
    xb1 (m_History_headsOf (xs_l u (2 + (a1.toNatClampNeg))) u) fun r20 =>
    xb1 (m_Long_bitCount r20) fun r23 =>
    some r23)
def m_Text_head_b85 (b5 : Int32) (u : xS) : Option Int32 :=
  (if b5 = (-1 : Int32) then
    some (-1000 : Int32)
  else
    xb1 (m_History_codeOf b5 u) fun r103 =>
    some r103)
def m_Text_head_s45 (k45 : Int32 → Int64 → Int32 → Int32 → xS → Option Int32) (b2 : Int32) (b3 : Int64) (b5 : Int32) (b6 : Int32) (u : xS) : Option Int32 :=
  (if b2 ≤ b6 then
    m_Text_head_b85 b5 u
  else
    (if b5 = (-1 : Int32) then
      m_Text_head_b85 b5 u
    else
      xb1 (m_Text_bit b5) fun r60 =>
      xb1 (m_History_leastOf (b3 &&& (r60 ^^^ (-1 : Int64))) u) fun r74 =>
      k45 b2 (b3 &&& (r60 ^^^ (-1 : Int64))) r74 (b6 + (1 : Int32)) u))
def m_Text_head_l45 : Nat → Int32 → Int64 → Int32 → Int32 → xS → Option Int32
  | 0, _, _, _, _, _ => none
  | n + 1, b2, b3, b5, b6, u => m_Text_head_s45 (m_Text_head_l45 n) b2 b3 b5 b6 u
def m_Text_head (a1 : Int32) (a2 : Int32) (u : xS) : Option Int32 :=
  xb1 (m_Text_isSite a1) fun r1 =>
  (if r1 = 0 then
    some (-1000 : Int32)
  else
    (if 0 ≤ a2 then
      xg (xin a1 3) <|
      xb1 (m_History_headsOf (xs_l u (2 + (a1.toNatClampNeg))) u) fun r28 =>
      xb1 (m_History_leastOf r28 u) fun r37 =>
      m_Text_head_l45 xFU a2 r28 r37 (0 : Int32) u
    else
      some (-1000 : Int32)))
def m_History_wasMade (a1 : Int32) (a2 : Int32) (u : xS) : Option Int32 :=
  xb1 (m_Text_isSite a1) fun r1 =>
  (if r1 = 0 then
    some (0 : Int32)
  else
    (if a2 < 0 then
      some (0 : Int32)
    else
      xg (xin a1 3) <|
      (if (xs_I u 5 a1.toNatClampNeg) ≤ a2 then
        some (0 : Int32)
      else
        some (1 : Int32))))
def m_History_slotOf (a1 : Int32) (a2 : Int32) (u : xS) : Option Int32 :=
  xg (xin ((a1 * (40 : Int32)) + a2) 120) <|
  some (xs_I u 4 ((a1 * (40 : Int32)) + a2).toNatClampNeg)
def m_Text_ancestor (a1 : Int32) (a2 : Int32) (a3 : Int32) (a4 : Int32) (u : xS) : Option Int32 :=
  xb1 (m_History_wasMade a1 a2 u) fun r6 =>
  (if r6 = 0 then
    some (-1000 : Int32)
  else
    xb1 (m_History_wasMade a3 a4 u) fun r19 =>
    (if r19 = 0 then
      some (-1000 : Int32)
    else
      xb1 (m_History_slotOf a3 a4 u) fun r40 =>
      xb1 (m_History_ancestorsOf r40 u) fun r43 =>
      xb1 (m_History_slotOf a1 a2 u) fun r52 =>
      xb1 (m_Text_has r43 r52) fun r55 =>
      (if r55 = 0 then
        some (0 : Int32)
      else
        some (1 : Int32))))
def m_Text_critical (a1 : Int32) (u : xS) : Option Int32 :=
  xb1 (m_Text_isSite a1) fun r1 =>
  (if r1 = 0 then
    some (-1000 : Int32)
  else
    xg (xin a1 3) <|
    xb1 (m_History_lastCritical (xs_l u (2 + (a1.toNatClampNeg))) (xs_l u (2 + (a1.toNatClampNeg))) u) fun r31 =>
    xb1 (m_History_upTo r31 u) fun r34 =>
    xb1 (m_Long_bitCount r34) fun r37 =>
    some r37)
def m_Text_replayed (a1 : Int32) (u : xS) : Option Int32 :=
  xb1 (m_Text_isSite a1) fun r1 =>
  (if r1 = 0 then
    some (-1000 : Int32)
  else
    xg (xin a1 3) <|
    some (xs_i u (6 + (a1.toNatClampNeg))))
def m_Text_moves (a1 : Int32) (u : xS) : Option Int32 :=
  xb1 (m_Text_isSite a1) fun r1 =>
  (if r1 = 0 then
    some (-1000 : Int32)
  else
    xg (xin a1 3) <|
    some (xs_i u (9 + (a1.toNatClampNeg))))
def m_Text_operation (a1 : Int32) (a2 : Int32) (u : xS) : Option Int32 :=
  xb1 (m_Text_isSite a1) fun r1 =>
  (if r1 = 0 then
    some (-1000 : Int32)
  else
    (if a2 < 0 then
      some (-1000 : Int32)
    else
      xg (xin a1 3) <|
      (if a2 < (xs_i u (3 + (a1.toNatClampNeg))) then
        xg (xin a2 40) <|
        some (xs_I u (11 + (a1.toNatClampNeg)) a2.toNatClampNeg)
      else
        some (-1000 : Int32))))
def m_Model_in (a0 : Int64) (a2 : Int32) : Option Int32 :=
  (if ((xUshr a0 a2) &&& (1 : Int64)) = (0 : Int64) then
    some (0 : Int32)
  else
    some (1 : Int32))
def m_Model_one (a0 : Int32) : Option Int64 :=
  some (xShl (1 : Int64) a0)
def m_Model_many_s4 (k4 : Int64 → Int32 → Int32 → Option Int32) (b0 : Int64) (b2 : Int32) (b3 : Int32) : Option Int32 :=
  (if (40 : Int32) ≤ b3 then
    some b2
  else
    xb1 (m_Model_in b0 b3) fun r13 =>
    (if r13 = 0 then
      k4 b0 (b2 + (0 : Int32)) (b3 + (1 : Int32))
    else
      k4 b0 (b2 + (1 : Int32)) (b3 + (1 : Int32))))
def m_Model_many_l4 : Nat → Int64 → Int32 → Int32 → Option Int32
  | 0, _, _, _ => none
  | n + 1, b0, b2, b3 => m_Model_many_s4 (m_Model_many_l4 n) b0 b2 b3
def m_Model_many (a0 : Int64) : Option Int32 :=
  m_Model_many_l4 xFU a0 (0 : Int32) (0 : Int32)
def m_Model_wrong (a0 : Int32) : Option Int32 :=
  (if a0 < 0 then
    some (1 : Int32)
  else
    (if a0 ≤ (2 : Int32) then
      some (0 : Int32)
    else
      some (1 : Int32)))
def m_Model_wrongPair (a0 : Int32) (a1 : Int32) : Option Int32 :=
  xb1 (m_Model_wrong a0) fun r1 =>
  (if r1 = 0 then
    xb1 (m_Model_wrong a1) fun r8 =>
    (if r8 = 0 then
      (if a0 = a1 then
        some (1 : Int32)
      else
        some (0 : Int32))
    else
      some (1 : Int32))
  else
    some (1 : Int32))
def m_Model_hidden_s5 (k5 : Int64 → Int64 → Int32 → xS → Option Int64) (b1 : Int64) (b3 : Int64) (b5 : Int32) (u : xS) : Option Int64 :=
  (if (xs_i u 0) ≤ b5 then
    some b3
  else
    xb1 (m_Model_in b1 b5) fun r17 =>
    (if r17 = 0 then
      k5 b1 b3 (b5 + (1 : Int32)) u
    else
      xg (xin b5 40) <|
      (if (xs_I u 2 b5.toNatClampNeg) = 0 then
        xg (xin b5 41) <|
        xb1 (m_Model_one (xs_I u 5 b5.toNatClampNeg)) fun r41 =>
        k5 b1 (b3 ||| r41) (b5 + (1 : Int32)) u
      else
        k5 b1 b3 (b5 + (1 : Int32)) u)))
def m_Model_hidden_l5 : Nat → Int64 → Int64 → Int32 → xS → Option Int64
  | 0, _, _, _, _ => none
  | n + 1, b1, b3, b5, u => m_Model_hidden_s5 (m_Model_hidden_l5 n) b1 b3 b5 u
def m_Model_hidden (a1 : Int64) (u : xS) : Option Int64 :=
  m_Model_hidden_l5 xFU a1 (0 : Int64) (0 : Int32) u
def m_Model_shownAt_s13 (k13 : Int64 → Int32 → Int64 → Int32 → Int32 → xS → Option Int32) (b1 : Int64) (b3 : Int32) (b4 : Int64) (b6 : Int32) (b7 : Int32) (u : xS) : Option Int32 :=
  (if (xs_i u 1) ≤ b7 then
    some (-1 : Int32)
  else
    xg (xin b7 40) <|
    xb1 (m_Model_in b1 (xs_I u 8 b7.toNatClampNeg)) fun r34 =>
    (if r34 = 0 then
      k13 b1 b3 b4 b6 (b7 + (1 : Int32)) u
    else
      xb1 (m_Model_in b4 (xs_I u 8 b7.toNatClampNeg)) fun r44 =>
      (if r44 = 0 then
        (if b6 = b3 then
          some (xs_I u 8 b7.toNatClampNeg)
        else
          k13 b1 b3 b4 (b6 + (1 : Int32)) (b7 + (1 : Int32)) u)
      else
        k13 b1 b3 b4 b6 (b7 + (1 : Int32)) u)))
def m_Model_shownAt_l13 : Nat → Int64 → Int32 → Int64 → Int32 → Int32 → xS → Option Int32
  | 0, _, _, _, _, _, _ => none
  | n + 1, b1, b3, b4, b6, b7, u => m_Model_shownAt_s13 (m_Model_shownAt_l13 n) b1 b3 b4 b6 b7 u
def m_Model_shownAt (a1 : Int64) (a3 : Int32) (u : xS) : Option Int32 :=
  xb1 (m_Model_hidden a1 u) fun r2 =>
  m_Model_shownAt_l13 xFU a1 a3 r2 (0 : Int32) (0 : Int32) u
def m_Model_shownBefore_s13 (k13 : Int64 → Int32 → Int64 → Int32 → Int32 → xS → Option Int32) (b1 : Int64) (b3 : Int32) (b4 : Int64) (b6 : Int32) (b7 : Int32) (u : xS) : Option Int32 :=
  (if (xs_i u 1) ≤ b7 then
    some b6
  else
    xg (xin b7 40) <|
    (if (xs_I u 8 b7.toNatClampNeg) = b3 then
      some b6
    else
      xb1 (m_Model_in b1 (xs_I u 8 b7.toNatClampNeg)) fun r47 =>
      (if r47 = 0 then
        k13 b1 b3 b4 (b6 + (0 : Int32)) (b7 + (1 : Int32)) u
      else
        xb1 (m_Model_in b4 (xs_I u 8 b7.toNatClampNeg)) fun r57 =>
        (if r57 = 0 then
          k13 b1 b3 b4 (b6 + (1 : Int32)) (b7 + (1 : Int32)) u
        else
          k13 b1 b3 b4 (b6 + (0 : Int32)) (b7 + (1 : Int32)) u))))
def m_Model_shownBefore_l13 : Nat → Int64 → Int32 → Int64 → Int32 → Int32 → xS → Option Int32
  | 0, _, _, _, _, _, _ => none
  | n + 1, b1, b3, b4, b6, b7, u => m_Model_shownBefore_s13 (m_Model_shownBefore_l13 n) b1 b3 b4 b6 b7 u
def m_Model_shownBefore (a1 : Int64) (a3 : Int32) (u : xS) : Option Int32 :=
  xb1 (m_Model_hidden a1 u) fun r2 =>
  m_Model_shownBefore_l13 xFU a1 a3 r2 (0 : Int32) (0 : Int32) u
def m_Model_behind_b52 (k16 : Int64 → Int32 → Int32 → Int32 → xS → Option Int32) (b1 : Int64) (b3 : Int32) (b4 : Int32) (b5 : Int32) (u : xS) : Option Int32 :=
  (if b4 = 0 then
    xg (xin b5 40) <|
    (if (xs_I u 8 b5.toNatClampNeg) = b3 then
      k16 b1 b3 (1 : Int32) (b5 + (1 : Int32)) u
    else
      k16 b1 b3 (0 : Int32) (b5 + (1 : Int32)) u)
  else
    k16 b1 b3 (1 : Int32) (b5 + (1 : Int32)) u)
def m_Model_behind_s16 (k16 : Int64 → Int32 → Int32 → Int32 → xS → Option Int32) (b1 : Int64) (b3 : Int32) (b4 : Int32) (b5 : Int32) (u : xS) : Option Int32 :=
  (if (xs_i u 1) ≤ b5 then
    some (40 : Int32)
  else
    (if b4 = 0 then
      m_Model_behind_b52 k16 b1 b3 b4 b5 u
    else
      xg (xin b5 40) <|
      xb1 (m_Model_in b1 (xs_I u 8 b5.toNatClampNeg)) fun r38 =>
      (if r38 = 0 then
        m_Model_behind_b52 k16 b1 b3 b4 b5 u
      else
        some (xs_I u 8 b5.toNatClampNeg))))
def m_Model_behind_l16 : Nat → Int64 → Int32 → Int32 → Int32 → xS → Option Int32
  | 0, _, _, _, _, _ => none
  | n + 1, b1, b3, b4, b5, u => m_Model_behind_s16 (m_Model_behind_l16 n) b1 b3 b4 b5 u
def m_Model_behind (a1 : Int64) (a3 : Int32) (u : xS) : Option Int32 :=
  (if a3 = (40 : Int32) then
    m_Model_behind_l16 xFU a1 a3 (1 : Int32) (0 : Int32) u
  else
    m_Model_behind_l16 xFU a1 a3 (0 : Int32) (0 : Int32) u)
def m_Model_lower (a1 : Int32) (a2 : Int32) (u : xS) : Option Int32 :=
  xg (xin a1 40) <|
  xg (xin a2 40) <|
  (if (xs_I u 0 a1.toNatClampNeg) = (xs_I u 0 a2.toNatClampNeg) then
    (if (xs_I u 1 a2.toNatClampNeg) ≤ (xs_I u 1 a1.toNatClampNeg) then
      some (0 : Int32)
    else
      some (1 : Int32))
  else
    (if (xs_I u 0 a2.toNatClampNeg) ≤ (xs_I u 0 a1.toNatClampNeg) then
      some (0 : Int32)
    else
      some (1 : Int32)))
def m_Model_stands_b75 (b5 : Int32) (b6 : Int32) (u : xS) : Option Int32 :=
  (if 0 ≤ b5 then
    (if 0 ≤ b6 then
      xg (xin b5 41) <|
      xg (xin b6 41) <|
      (if (xs_I u 6 b5.toNatClampNeg) = (xs_I u 6 b6.toNatClampNeg) then
        xb1 (m_Model_lower b5 b6 u) fun r141 =>
        xg (r141 = 0 ∨ r141 = 1) <|
        some r141
      else
        xg ((xs_I u 6 b6.toNatClampNeg) = 0 ∨ (xs_I u 6 b6.toNatClampNeg) = 1) <|
        some (xs_I u 6 b6.toNatClampNeg))
    else
      xg (xin b5 41) <|
      (if (xs_I u 6 b5.toNatClampNeg) = 0 then
        some (1 : Int32)
      else
        some (0 : Int32)))
  else
    xg (xin b6 41) <|
    xg ((xs_I u 6 b6.toNatClampNeg) = 0 ∨ (xs_I u 6 b6.toNatClampNeg) = 1) <|
    some (xs_I u 6 b6.toNatClampNeg))
def m_Model_stands_s14 (k14 : Int32 → Int32 → Int32 → Int32 → Int32 → xS → Option Int32) (b3 : Int32) (b4 : Int32) (b5 : Int32) (b6 : Int32) (b7 : Int32) (u : xS) : Option Int32 :=
  (if (90 : Int32) ≤ b7 then
    m_Model_stands_b75 b5 b6 u
  else
    (if b3 = b4 then
      m_Model_stands_b75 b5 b6 u
    else
      xg (xin b3 41) <|
      xg (xin b4 41) <|
      (if (xs_I u 7 b3.toNatClampNeg) < (xs_I u 7 b4.toNatClampNeg) then
        k14 b3 (xs_I u 5 b4.toNatClampNeg) b5 b4 (b7 + (1 : Int32)) u
      else
        k14 (xs_I u 5 b3.toNatClampNeg) b4 b3 b6 (b7 + (1 : Int32)) u)))
def m_Model_stands_l14 : Nat → Int32 → Int32 → Int32 → Int32 → Int32 → xS → Option Int32
  | 0, _, _, _, _, _, _ => none
  | n + 1, b3, b4, b5, b6, b7, u => m_Model_stands_s14 (m_Model_stands_l14 n) b3 b4 b5 b6 b7 u
def m_Model_stands (a1 : Int32) (a2 : Int32) (u : xS) : Option Int32 :=
  m_Model_stands_l14 xFU a1 a2 (-1 : Int32) (-1 : Int32) (0 : Int32) u
def m_Model_intoRow_s35 (k35 : Int32 → Int32 → Int32 → xS → Option xS) (b1 : Int32) (b2 : Int32) (b3 : Int32) (u : xS) : Option xS :=
  (if b3 ≤ b2 then
    xg (xin b2 40) <|
    xlt (xs_sI u 8 b2.toNatClampNeg b1) fun w66 =>
    xlt (xs_si w66 1 ((xs_i w66 1) + (1 : Int32))) fun w74 =>
    some w74
  else
    xg (xin (b3 - (1 : Int32)) 40) <|
    xg (xin b3 40) <|
    xlt (xs_sI u 8 b3.toNatClampNeg (xs_I u 8 (b3 - (1 : Int32)).toNatClampNeg)) fun w53 =>
    k35 b1 b2 (b3 + (-1 : Int32)) w53)
def m_Model_intoRow_l35 : Nat → Int32 → Int32 → Int32 → xS → Option xS
  | 0, _, _, _, _ => none
  | n + 1, b1, b2, b3, u => m_Model_intoRow_s35 (m_Model_intoRow_l35 n) b1 b2 b3 u
def m_Model_intoRow_s2 (k2 : Int32 → Int32 → xS → Option xS) (b1 : Int32) (b2 : Int32) (u : xS) : Option xS :=
  (if (xs_i u 1) ≤ b2 then
    m_Model_intoRow_l35 xFU b1 b2 (xs_i u 1) u
  else
    xg (xin b2 40) <|
    xb1 (m_Model_stands (xs_I u 8 b2.toNatClampNeg) b1 u) fun r18 =>
    (if r18 = 0 then
      m_Model_intoRow_l35 xFU b1 b2 (xs_i u 1) u
    else
      k2 b1 (b2 + (1 : Int32)) u))
def m_Model_intoRow_l2 : Nat → Int32 → Int32 → xS → Option xS
  | 0, _, _, _ => none
  | n + 1, b1, b2, u => m_Model_intoRow_s2 (m_Model_intoRow_l2 n) b1 b2 u
def m_Model_intoRow (a1 : Int32) (u : xS) : Option xS :=
  m_Model_intoRow_l2 xFU a1 (0 : Int32) u
def m_Model_tips_s5 (k5 : Int64 → Int64 → Int32 → xS → Option Int64) (b1 : Int64) (b3 : Int64) (b5 : Int32) (u : xS) : Option Int64 :=
  (if (xs_i u 0) ≤ b5 then
    some (b1 &&& (b3 ^^^ (-1 : Int64)))
  else
    xb1 (m_Model_in b1 b5) fun r18 =>
    (if r18 = 0 then
      k5 b1 (b3 ||| (0 : Int64)) (b5 + (1 : Int32)) u
    else
      xg (xin b5 40) <|
      k5 b1 (b3 ||| (xs_L u 0 b5.toNatClampNeg)) (b5 + (1 : Int32)) u))
def m_Model_tips_l5 : Nat → Int64 → Int64 → Int32 → xS → Option Int64
  | 0, _, _, _, _ => none
  | n + 1, b1, b3, b5, u => m_Model_tips_s5 (m_Model_tips_l5 n) b1 b3 b5 u
def m_Model_tips (a1 : Int64) (u : xS) : Option Int64 :=
  m_Model_tips_l5 xFU a1 (0 : Int64) (0 : Int32) u
def m_Model_event_s12 (k12 : Int32 → Int32 → Int32 → Int32 → Int32 → Int32 → xS → Option (Int32 × xS)) (b1 : Int32) (b2 : Int32) (b3 : Int32) (b4 : Int32) (b5 : Int32) (b6 : Int32) (u : xS) : Option (Int32 × xS) :=
  (if (xs_i u 0) ≤ b6 then
    xg (xin b4 40) <|
    xlt (xs_sI u 0 b4.toNatClampNeg b1) fun w55 =>
    xlt (xs_sI w55 1 b4.toNatClampNeg b5) fun w64 =>
    xlt (xs_sI w64 2 b4.toNatClampNeg (vp_nar .boolean b2)) fun w72 =>
    xlt (xs_sI w72 3 b4.toNatClampNeg b3) fun w80 =>
    xg (xin b1 3) <|
    xlt (xs_sL w80 0 b4.toNatClampNeg (xs_L w80 2 b1.toNatClampNeg)) fun w93 =>
    xb1 (m_Model_tips (xs_L w93 2 b1.toNatClampNeg) w93) fun r107 =>
    xlt (xs_sL w93 1 b4.toNatClampNeg r107) fun w110 =>
    xb1 (m_Model_one b4) fun r120 =>
    xlt (xs_sL w110 2 b1.toNatClampNeg ((xs_L w110 2 b1.toNatClampNeg) ||| r120)) fun w124 =>
    xlt (xs_si w124 0 ((xs_i w124 0) + (1 : Int32))) fun w132 =>
    some (b4, w132)
  else
    xg (xin b6 40) <|
    (if (xs_I u 0 b6.toNatClampNeg) = b1 then
      k12 b1 b2 b3 b4 (b5 + (1 : Int32)) (b6 + (1 : Int32)) u
    else
      k12 b1 b2 b3 b4 (b5 + (0 : Int32)) (b6 + (1 : Int32)) u))
def m_Model_event_l12 : Nat → Int32 → Int32 → Int32 → Int32 → Int32 → Int32 → xS → Option (Int32 × xS)
  | 0, _, _, _, _, _, _, _ => none
  | n + 1, b1, b2, b3, b4, b5, b6, u => m_Model_event_s12 (m_Model_event_l12 n) b1 b2 b3 b4 b5 b6 u
def m_Model_event (a1 : Int32) (a2 : Int32) (a3 : Int32) (u : xS) : Option (Int32 × xS) :=
  m_Model_event_l12 xFU a1 a2 a3 (xs_i u 0) (0 : Int32) (0 : Int32) u
def m_Model_length (a1 : Int32) (u : xS) : Option Int32 :=
  xb1 (m_Model_wrong a1) fun r1 =>
  (if r1 = 0 then
    xg (xin a1 3) <|
    xb1 (m_Model_shownBefore (xs_L u 2 a1.toNatClampNeg) (-1 : Int32) u) fun r21 =>
    some r21
  else
    some (-1000 : Int32))
def m_Model_insert_b157 (b1 : Int32) (b2 : Int32) (b3 : Int32) (b7 : Int32) (t0 : Int32) (u : xS) : Option (Int32 × xS) :=
  xb2 (m_Model_event b1 (1 : Int32) b2 u) fun r163 u163 =>
  xg (xin r163 40) <|
  xlt (xs_sI u163 4 r163.toNatClampNeg b3) fun w175 =>
  xg (xin r163 41) <|
  xlt (xs_sI w175 5 r163.toNatClampNeg t0) fun w184 =>
  xlt (xs_sI w184 6 r163.toNatClampNeg (vp_nar .boolean b7)) fun w193 =>
  xg (xin t0 41) <|
  xlt (xs_sI w193 7 r163.toNatClampNeg ((xs_I w193 7 t0.toNatClampNeg) + (1 : Int32))) fun w209 =>
  xb1 (m_Model_intoRow r163 w209) fun u213 =>
  some ((xs_I u213 1 r163.toNatClampNeg), u213)
def m_Model_insert_s79 (k79 : Int32 → Int32 → Int32 → Int64 → Int32 → Int32 → Int32 → xS → Option (Int32 × xS)) (b1 : Int32) (b2 : Int32) (b3 : Int32) (b4 : Int64) (b6 : Int32) (b7 : Int32) (b8 : Int32) (u : xS) : Option (Int32 × xS) :=
  (if (xs_i u 0) ≤ b8 then
    (if b7 = 0 then
      xb1 (m_Model_behind b4 b6 u) fun r154 =>
      m_Model_insert_b157 b1 b2 b3 b7 r154 u
    else
      m_Model_insert_b157 b1 b2 b3 b7 b6 u)
  else
    xb1 (m_Model_in b4 b8) fun r92 =>
    (if r92 = 0 then
      k79 b1 b2 b3 b4 b6 b7 (b8 + (1 : Int32)) u
    else
      xg (xin b8 40) <|
      (if (xs_I u 2 b8.toNatClampNeg) = 0 then
        k79 b1 b2 b3 b4 b6 b7 (b8 + (1 : Int32)) u
      else
        xg (xin b8 41) <|
        (if (xs_I u 6 b8.toNatClampNeg) = 0 then
          k79 b1 b2 b3 b4 b6 b7 (b8 + (1 : Int32)) u
        else
          (if (xs_I u 5 b8.toNatClampNeg) = b6 then
            k79 b1 b2 b3 b4 b6 (0 : Int32) (b8 + (1 : Int32)) u
          else
            k79 b1 b2 b3 b4 b6 b7 (b8 + (1 : Int32)) u)))))
def m_Model_insert_l79 : Nat → Int32 → Int32 → Int32 → Int64 → Int32 → Int32 → Int32 → xS → Option (Int32 × xS)
  | 0, _, _, _, _, _, _, _, _ => none
  | n + 1, b1, b2, b3, b4, b6, b7, b8, u => m_Model_insert_s79 (m_Model_insert_l79 n) b1 b2 b3 b4 b6 b7 b8 u
def m_Model_insert (a1 : Int32) (a2 : Int32) (a3 : Int32) (u : xS) : Option (Int32 × xS) :=
  xb1 (m_Model_wrong a1) fun r1 =>
  (if r1 = 0 then
    (if a3 < (32 : Int32) then
      some ((-1000 : Int32), u)
    else
      (if (126 : Int32) < a3 then
        some ((-1000 : Int32), u)
      else
        (if (40 : Int32) ≤ (xs_i u 0) then
          some ((-1000 : Int32), u)
        else
          (if a2 < 0 then
            some ((-1000 : Int32), u)
          else
            xb1 (m_Model_length a1 u) fun r35 =>
            (if a2 ≤ r35 then
              xg (xin a1 3) <|
              (if a2 = 0 then
                m_Model_insert_l79 xFU a1 a2 a3 (xs_L u 2 a1.toNatClampNeg) (40 : Int32) (1 : Int32) (0 : Int32) u
              else
                xb1 (m_Model_shownAt (xs_L u 2 a1.toNatClampNeg) (a2 - (1 : Int32)) u) fun r68 =>
                m_Model_insert_l79 xFU a1 a2 a3 (xs_L u 2 a1.toNatClampNeg) r68 (1 : Int32) (0 : Int32) u)
            else
              some ((-1000 : Int32), u))))))
  else
    some ((-1000 : Int32), u))
def m_Model_delete (a1 : Int32) (a2 : Int32) (u : xS) : Option (Int32 × xS) :=
  xb1 (m_Model_wrong a1) fun r1 =>
  (if r1 = 0 then
    (if (40 : Int32) ≤ (xs_i u 0) then
      some ((-1000 : Int32), u)
    else
      (if a2 < 0 then
        some ((-1000 : Int32), u)
      else
        xb1 (m_Model_length a1 u) fun r23 =>
        (if a2 < r23 then
          xg (xin a1 3) <|
          xb1 (m_Model_shownAt (xs_L u 2 a1.toNatClampNeg) a2 u) fun r41 =>
          xb2 (m_Model_event a1 (0 : Int32) a2 u) fun r49 u49 =>
          xg (xin r49 41) <|
          xlt (xs_sI u49 5 r49.toNatClampNeg r41) fun w61 =>
          xg (xin r49 40) <|
          some ((xs_I w61 1 r49.toNatClampNeg), w61)
        else
          some ((-1000 : Int32), u))))
  else
    some ((-1000 : Int32), u))
def m_Model_at (a1 : Int32) (a2 : Int32) (u : xS) : Option Int32 :=
  xb1 (m_Model_wrong a1) fun r1 =>
  (if r1 = 0 then
    (if a2 < 0 then
      some (-1000 : Int32)
    else
      xb1 (m_Model_length a1 u) fun r14 =>
      (if a2 < r14 then
        xg (xin a1 3) <|
        xb1 (m_Model_shownAt (xs_L u 2 a1.toNatClampNeg) a2 u) fun r32 =>
        xg (xin r32 40) <|
        some (xs_I u 4 r32.toNatClampNeg)
      else
        some (-1000 : Int32)))
  else
    some (-1000 : Int32))
def m_Model_can (a1 : Int64) (a3 : Int64) (a5 : Int32) (u : xS) : Option Int32 :=
  xb1 (m_Model_in a1 a5) fun r3 =>
  (if r3 = 0 then
    some (0 : Int32)
  else
    xb1 (m_Model_in a3 a5) fun r12 =>
    (if r12 = 0 then
      xg (xin a5 40) <|
      (if (((xs_L u 1 a5.toNatClampNeg) &&& a1) &&& (a3 ^^^ (-1 : Int64))) = (0 : Int64) then
        some (1 : Int32)
      else
        some (0 : Int32))
    else
      some (0 : Int32)))
def m_Model_nextOf_b70 (k6 : Int64 → Int64 → Int32 → Int32 → Int32 → xS → Option Int32) (k15 : Int64 → Int64 → Int32 → Int32 → Int32 → Int32 → xS → Option Int32) (b1 : Int64) (b3 : Int64) (b5 : Int32) (b6 : Int32) (b7 : Int32) (b8 : Int32) (u : xS) : Option Int32 :=
  (if 0 ≤ b6 then
    k15 b1 b3 b5 b6 b7 (b8 + (1 : Int32)) u
  else
    k15 b1 b3 b5 b8 b7 (b8 + (1 : Int32)) u)
def m_Model_nextOf_s15 (k6 : Int64 → Int64 → Int32 → Int32 → Int32 → xS → Option Int32) (k15 : Int64 → Int64 → Int32 → Int32 → Int32 → Int32 → xS → Option Int32) (b1 : Int64) (b3 : Int64) (b5 : Int32) (b6 : Int32) (b7 : Int32) (b8 : Int32) (u : xS) : Option Int32 :=
  (if (xs_i u 0) ≤ b8 then
    k6 b1 b3 b5 b6 (b7 + (1 : Int32)) u
  else
    xg (xin b8 40) <|
    (if (xs_I u 0 b8.toNatClampNeg) = b7 then
      xb1 (m_Model_can b1 b3 b8 u) fun r41 =>
      (if r41 = 0 then
        k15 b1 b3 b5 b6 b7 (b8 + (1 : Int32)) u
      else
        (if b5 < 0 then
          m_Model_nextOf_b70 k6 k15 b1 b3 b5 b6 b7 b8 u
        else
          xb1 (m_Model_in (xs_L u 1 b8.toNatClampNeg) b5) fun r61 =>
          (if r61 = 0 then
            m_Model_nextOf_b70 k6 k15 b1 b3 b5 b6 b7 b8 u
          else
            some b8)))
    else
      k15 b1 b3 b5 b6 b7 (b8 + (1 : Int32)) u))
def m_Model_nextOf_l15 (k6 : Int64 → Int64 → Int32 → Int32 → Int32 → xS → Option Int32) : Nat → Int64 → Int64 → Int32 → Int32 → Int32 → Int32 → xS → Option Int32
  | 0, _, _, _, _, _, _, _ => none
  | n + 1, b1, b3, b5, b6, b7, b8, u => m_Model_nextOf_s15 k6 (m_Model_nextOf_l15 k6 n) b1 b3 b5 b6 b7 b8 u
def m_Model_nextOf_s6 (k6 : Int64 → Int64 → Int32 → Int32 → Int32 → xS → Option Int32) (b1 : Int64) (b3 : Int64) (b5 : Int32) (b6 : Int32) (b7 : Int32) (u : xS) : Option Int32 :=
  (if (3 : Int32) ≤ b7 then
    some b6
  else
    m_Model_nextOf_l15 k6 xFU b1 b3 b5 b6 b7 (0 : Int32) u)
def m_Model_nextOf_l6 : Nat → Int64 → Int64 → Int32 → Int32 → Int32 → xS → Option Int32
  | 0, _, _, _, _, _, _ => none
  | n + 1, b1, b3, b5, b6, b7, u => m_Model_nextOf_s6 (m_Model_nextOf_l6 n) b1 b3 b5 b6 b7 u
def m_Model_nextOf (a1 : Int64) (a3 : Int64) (a5 : Int32) (u : xS) : Option Int32 :=
  m_Model_nextOf_l6 xFU a1 a3 a5 (-1 : Int32) (0 : Int32) u
def m_Model_order_s13 (k13 : Int64 → Int64 → Int32 → Int32 → xS → Option xS) (b1 : Int64) (b3 : Int64) (b5 : Int32) (b6 : Int32) (u : xS) : Option xS :=
  (if (40 : Int32) ≤ b6 then
    some u
  else
    (if b3 = b1 then
      some u
    else
      xb1 (m_Model_nextOf b1 b3 b5 u) fun r31 =>
      xb1 (m_Model_one r31) fun r39 =>
      xg (xin (xs_i u 2) 40) <|
      xlt (xs_sI u 15 (xs_i u 2).toNatClampNeg r31) fun w54 =>
      xlt (xs_si w54 2 ((xs_i w54 2) + (1 : Int32))) fun w62 =>
      k13 b1 (b3 ||| r39) r31 (b6 + (1 : Int32)) w62))
def m_Model_order_l13 : Nat → Int64 → Int64 → Int32 → Int32 → xS → Option xS
  | 0, _, _, _, _, _ => none
  | n + 1, b1, b3, b5, b6, u => m_Model_order_s13 (m_Model_order_l13 n) b1 b3 b5 b6 u
def m_Model_order (a1 : Int64) (u : xS) : Option xS :=
  xlt (xs_si u 2 (0 : Int32)) fun w2 =>
  m_Model_order_l13 xFU a1 (0 : Int64) (-1 : Int32) (0 : Int32) w2
def m_Model_send_b62 (b1 : Int32) (b2 : Int32) (b3 : Int64) (b5 : Int32) (u : xS) : Option (Int32 × xS) :=
  (if b5 = (6 : Int32) then
    some ((-1000 : Int32), u)
  else
    (if b3 = (0 : Int64) then
      some ((-1000 : Int32), u)
    else
      xg (xin b5 6) <|
      xlt (xs_sL u 4 b5.toNatClampNeg b3) fun w86 =>
      xlt (xs_sI w86 9 b5.toNatClampNeg b1) fun w94 =>
      xlt (xs_sI w94 10 b5.toNatClampNeg b2) fun w102 =>
      xg (xin (((3 : Int32) * b1) + b2) 9) <|
      xg (xin b1 3) <|
      xlt (xs_sL w102 3 (((3 : Int32) * b1) + b2).toNatClampNeg ((xs_L w102 3 (((3 : Int32) * b1) + b2).toNatClampNeg) ||| (xs_L w102 2 b1.toNatClampNeg))) fun w121 =>
      some (b5, w121)))
def m_Model_send_s37 (k37 : Int32 → Int32 → Int64 → Int32 → xS → Option (Int32 × xS)) (b1 : Int32) (b2 : Int32) (b3 : Int64) (b5 : Int32) (u : xS) : Option (Int32 × xS) :=
  (if (6 : Int32) ≤ b5 then
    m_Model_send_b62 b1 b2 b3 b5 u
  else
    xg (xin b5 6) <|
    (if (xs_L u 4 b5.toNatClampNeg) = (0 : Int64) then
      m_Model_send_b62 b1 b2 b3 b5 u
    else
      k37 b1 b2 b3 (b5 + (1 : Int32)) u))
def m_Model_send_l37 : Nat → Int32 → Int32 → Int64 → Int32 → xS → Option (Int32 × xS)
  | 0, _, _, _, _, _ => none
  | n + 1, b1, b2, b3, b5, u => m_Model_send_s37 (m_Model_send_l37 n) b1 b2 b3 b5 u
def m_Model_send (a1 : Int32) (a2 : Int32) (u : xS) : Option (Int32 × xS) :=
  xb1 (m_Model_wrongPair a1 a2) fun r2 =>
  (if r2 = 0 then
    xg (xin a1 3) <|
    xg (xin (((3 : Int32) * a1) + a2) 9) <|
    m_Model_send_l37 xFU a1 a2 ((xs_L u 2 a1.toNatClampNeg) &&& ((xs_L u 3 (((3 : Int32) * a1) + a2).toNatClampNeg) ^^^ (-1 : Int64))) (0 : Int32) u
  else
    some ((-1000 : Int32), u))
def m_Model_none (a1 : Int32) (u : xS) : Option Int32 :=
  (if a1 < 0 then
    some (1 : Int32)
  else
    (if (5 : Int32) < a1 then
      some (1 : Int32)
    else
      xg (xin a1 6) <|
      (if (xs_L u 4 a1.toNatClampNeg) = (0 : Int64) then
        some (1 : Int32)
      else
        some (0 : Int32))))
def m_Model_discard (a1 : Int32) (u : xS) : Option (Int32 × xS) :=
  xb1 (m_Model_none a1 u) fun r2 =>
  (if r2 = 0 then
    xg (xin a1 6) <|
    xlt (xs_sL u 4 a1.toNatClampNeg (0 : Int64)) fun w16 =>
    some ((1 : Int32), w16)
  else
    some ((0 : Int32), u))
def m_Model_whole_s5 (k5 : Int64 → Int64 → Int32 → xS → Option Int64) (b1 : Int64) (b3 : Int64) (b5 : Int32) (u : xS) : Option Int64 :=
  (if (xs_i u 0) ≤ b5 then
    some b3
  else
    xb1 (m_Model_in b1 b5) fun r18 =>
    (if r18 = 0 then
      k5 b1 (b3 ||| (0 : Int64)) (b5 + (1 : Int32)) u
    else
      xg (xin b5 40) <|
      k5 b1 (b3 ||| (xs_L u 0 b5.toNatClampNeg)) (b5 + (1 : Int32)) u))
def m_Model_whole_l5 : Nat → Int64 → Int64 → Int32 → xS → Option Int64
  | 0, _, _, _, _ => none
  | n + 1, b1, b3, b5, u => m_Model_whole_s5 (m_Model_whole_l5 n) b1 b3 b5 u
def m_Model_whole (a1 : Int64) (u : xS) : Option Int64 :=
  m_Model_whole_l5 xFU a1 a1 (0 : Int32) u
def m_Model_believed (a1 : Int32) (a2 : Int32) (u : xS) : Option Int32 :=
  xb1 (m_Model_wrongPair a1 a2) fun r2 =>
  (if r2 = 0 then
    xg (xin (((3 : Int32) * a1) + a2) 9) <|
    xb1 (m_Model_many (xs_L u 3 (((3 : Int32) * a1) + a2).toNatClampNeg)) fun r24 =>
    some r24
  else
    some (-1000 : Int32))
def m_Model_hear (a1 : Int32) (a2 : Int32) (u : xS) : Option (Int32 × xS) :=
  xb1 (m_Model_wrongPair a1 a2) fun r2 =>
  (if r2 = 0 then
    xg (xin a2 3) <|
    xb1 (m_Model_tips (xs_L u 2 a2.toNatClampNeg) u) fun r19 =>
    xg (xin a1 3) <|
    xb1 (m_Model_whole (r19 &&& (xs_L u 2 a1.toNatClampNeg)) u) fun r41 =>
    xg (xin (((3 : Int32) * a1) + a2) 9) <|
    xlt (xs_sL u 3 (((3 : Int32) * a1) + a2).toNatClampNeg r41) fun w44 =>
    xb1 (m_Model_believed a1 a2 w44) fun r48 =>
    some (r48, w44)
  else
    some ((-1000 : Int32), u))
def m_Model_isCritical_s3 (k3 : Int64 → Int32 → Int32 → xS → Option Int32) (b1 : Int64) (b3 : Int32) (b4 : Int32) (u : xS) : Option Int32 :=
  (if (xs_i u 0) ≤ b4 then
    some (1 : Int32)
  else
    xb1 (m_Model_in b1 b4) fun r15 =>
    (if r15 = 0 then
      k3 b1 b3 (b4 + (1 : Int32)) u
    else
      (if b4 = b3 then
        k3 b1 b3 (b4 + (1 : Int32)) u
      else
        xg (xin b3 40) <|
        xb1 (m_Model_in (xs_L u 0 b3.toNatClampNeg) b4) fun r35 =>
        (if r35 = 0 then
          xg (xin b4 40) <|
          xb1 (m_Model_in (xs_L u 0 b4.toNatClampNeg) b3) fun r49 =>
          (if r49 = 0 then
            some (0 : Int32)
          else
            k3 b1 b3 (b4 + (1 : Int32)) u)
        else
          k3 b1 b3 (b4 + (1 : Int32)) u))))
def m_Model_isCritical_l3 : Nat → Int64 → Int32 → Int32 → xS → Option Int32
  | 0, _, _, _, _ => none
  | n + 1, b1, b3, b4, u => m_Model_isCritical_s3 (m_Model_isCritical_l3 n) b1 b3 b4 u
def m_Model_isCritical (a1 : Int64) (a3 : Int32) (u : xS) : Option Int32 :=
  m_Model_isCritical_l3 xFU a1 a3 (0 : Int32) u
def m_Model_top_s6 (k6 : Int64 → Int64 → Int32 → Int32 → xS → Option Int32) (b1 : Int64) (b3 : Int64) (b5 : Int32) (b6 : Int32) (u : xS) : Option Int32 :=
  (if (xs_i u 0) ≤ b6 then
    some b5
  else
    xb1 (m_Model_in b3 b6) fun r18 =>
    (if r18 = 0 then
      k6 b1 b3 b5 (b6 + (1 : Int32)) u
    else
      xb1 (m_Model_isCritical b1 b6 u) fun r28 =>
      (if r28 = 0 then
        k6 b1 b3 b5 (b6 + (1 : Int32)) u
      else
        (if b5 < 0 then
          k6 b1 b3 b6 (b6 + (1 : Int32)) u
        else
          xg (xin b6 40) <|
          xb1 (m_Model_many (xs_L u 0 b6.toNatClampNeg)) fun r46 =>
          xg (xin b5 40) <|
          xb1 (m_Model_many (xs_L u 0 b5.toNatClampNeg)) fun r56 =>
          (if r46 ≤ r56 then
            k6 b1 b3 b5 (b6 + (1 : Int32)) u
          else
            k6 b1 b3 b6 (b6 + (1 : Int32)) u)))))
def m_Model_top_l6 : Nat → Int64 → Int64 → Int32 → Int32 → xS → Option Int32
  | 0, _, _, _, _, _ => none
  | n + 1, b1, b3, b5, b6, u => m_Model_top_s6 (m_Model_top_l6 n) b1 b3 b5 b6 u
def m_Model_top (a1 : Int64) (a3 : Int64) (u : xS) : Option Int32 :=
  m_Model_top_l6 xFU a1 a3 (-1 : Int32) (0 : Int32) u
def m_Model_effect (a1 : Int64) (a3 : Int32) (u : xS) : Option Int32 :=
  xg (xin a3 40) <|
  (if (xs_I u 2 a3.toNatClampNeg) = 0 then
    xg (xin a3 41) <|
    xb1 (m_Model_hidden a1 u) fun r26 =>
    xb1 (m_Model_in r26 (xs_I u 5 a3.toNatClampNeg)) fun r35 =>
    (if r35 = 0 then
      xb1 (m_Model_shownBefore a1 (xs_I u 5 a3.toNatClampNeg) u) fun r52 =>
      some ((-1 : Int32) - r52)
    else
      some (1000 : Int32))
  else
    xb1 (m_Model_shownBefore a1 a3 u) fun r12 =>
    some r12)
def m_Model_merge_s146 (k146 : Int32 → Int32 → Int64 → Int64 → Int32 → xS → Option xS) (b1 : Int32) (b9 : Int32) (b10 : Int64) (b12 : Int64) (b14 : Int32) (u : xS) : Option xS :=
  (if (xs_i u 2) ≤ b14 then
    xg (xin b1 3) <|
    xlt (xs_sI u 12 b1.toNatClampNeg b9) fun w240 =>
    xlt (xs_sI w240 13 b1.toNatClampNeg (xs_i w240 2)) fun w250 =>
    xlt (xs_sL w250 2 b1.toNatClampNeg b12) fun w258 =>
    some w258
  else
    xg (xin b14 40) <|
    xg (xin (xs_I u 15 b14.toNatClampNeg) 40) <|
    xb1 (m_Model_many (b10 ^^^ (xs_L u 0 (xs_I u 15 b14.toNatClampNeg).toNatClampNeg))) fun r176 =>
    xb1 (m_Model_one (xs_I u 15 b14.toNatClampNeg)) fun r191 =>
    xb1 (m_Model_effect b12 (xs_I u 15 b14.toNatClampNeg) u) fun r213 =>
    xg (xin (((40 : Int32) * b1) + b14) 120) <|
    xlt (xs_sI u 14 (((40 : Int32) * b1) + b14).toNatClampNeg r213) fun w216 =>
    xb1 (m_Model_one (xs_I u 15 b14.toNatClampNeg)) fun r221 =>
    k146 b1 (b9 + r176) ((xs_L u 0 (xs_I u 15 b14.toNatClampNeg).toNatClampNeg) ||| r191) (b12 ||| r221) (b14 + (1 : Int32)) w216)
def m_Model_merge_l146 : Nat → Int32 → Int32 → Int64 → Int64 → Int32 → xS → Option xS
  | 0, _, _, _, _, _, _ => none
  | n + 1, b1, b9, b10, b12, b14, u => m_Model_merge_s146 (m_Model_merge_l146 n) b1 b9 b10 b12 b14 u
def m_Model_merge_s77 (k77 : Int32 → Int64 → Int64 → Int32 → Int64 → Int32 → xS → Option xS) (b1 : Int32) (b2 : Int64) (b4 : Int64) (b9 : Int32) (b10 : Int64) (b12 : Int32) (u : xS) : Option xS :=
  (if (xs_i u 2) ≤ b12 then
    xb1 (m_Model_order b2 u) fun u136 =>
    m_Model_merge_l146 xFU b1 b9 b10 b4 (0 : Int32) u136
  else
    xg (xin b12 40) <|
    xg (xin (xs_I u 15 b12.toNatClampNeg) 40) <|
    xb1 (m_Model_many (b10 ^^^ (xs_L u 0 (xs_I u 15 b12.toNatClampNeg).toNatClampNeg))) fun r107 =>
    xb1 (m_Model_one (xs_I u 15 b12.toNatClampNeg)) fun r122 =>
    k77 b1 b2 b4 (b9 + r107) ((xs_L u 0 (xs_I u 15 b12.toNatClampNeg).toNatClampNeg) ||| r122) (b12 + (1 : Int32)) u)
def m_Model_merge_l77 : Nat → Int32 → Int64 → Int64 → Int32 → Int64 → Int32 → xS → Option xS
  | 0, _, _, _, _, _, _, _ => none
  | n + 1, b1, b2, b4, b9, b10, b12, u => m_Model_merge_s77 (m_Model_merge_l77 n) b1 b2 b4 b9 b10 b12 u
def m_Model_merge_b42 (b1 : Int32) (b2 : Int64) (b4 : Int64) (t0 : Int64) (u : xS) : Option xS :=
  xb1 (m_Model_order (b4 &&& (t0 ^^^ (-1 : Int64))) u) fun u54 =>
  xg (xin b1 3) <|
  xlt (xs_sI u54 11 b1.toNatClampNeg (xs_i u54 2)) fun w66 =>
  m_Model_merge_l77 xFU b1 b2 b4 (0 : Int32) t0 (0 : Int32) w66
def m_Model_merge (a1 : Int32) (a2 : Int64) (u : xS) : Option xS :=
  xg (xin a1 3) <|
  xb1 (m_Model_top ((xs_L u 2 a1.toNatClampNeg) ||| a2) (xs_L u 2 a1.toNatClampNeg) u) fun r15 =>
  (if 0 ≤ r15 then
    xg (xin r15 40) <|
    xb1 (m_Model_one r15) fun r38 =>
    m_Model_merge_b42 a1 a2 (xs_L u 2 a1.toNatClampNeg) ((xs_L u 0 r15.toNatClampNeg) ||| r38) u
  else
    m_Model_merge_b42 a1 a2 (xs_L u 2 a1.toNatClampNeg) (0 : Int64) u)
def m_Model_deliver_b131 (b5 : Int64) (u : xS) : Option (Int32 × xS) :=
  xb1 (m_Model_many b5) fun r133 =>
  some (r133, u)
def m_Model_deliver_s29 (k29 : Int32 → Int32 → Int64 → Int32 → xS → Option (Int32 × xS)) (b1 : Int32) (b2 : Int32) (b3 : Int64) (b5 : Int32) (u : xS) : Option (Int32 × xS) :=
  (if (xs_i u 0) ≤ b5 then
    xg (xin b1 6) <|
    xg (xin (((3 : Int32) * b2) + (xs_I u 9 b1.toNatClampNeg)) 9) <|
    xb1 (m_Model_whole b3 u) fun r98 =>
    xlt (xs_sL u 3 (((3 : Int32) * b2) + (xs_I u 9 b1.toNatClampNeg)).toNatClampNeg ((xs_L u 3 (((3 : Int32) * b2) + (xs_I u 9 b1.toNatClampNeg)).toNatClampNeg) ||| r98)) fun w102 =>
    xg (xin b2 3) <|
    (if (b3 &&& ((xs_L w102 2 b2.toNatClampNeg) ^^^ (-1 : Int64))) = (0 : Int64) then
      m_Model_deliver_b131 (b3 &&& ((xs_L w102 2 b2.toNatClampNeg) ^^^ (-1 : Int64))) w102
    else
      xb1 (m_Model_merge b2 (b3 &&& ((xs_L w102 2 b2.toNatClampNeg) ^^^ (-1 : Int64))) w102) fun u128 =>
      m_Model_deliver_b131 (b3 &&& ((xs_L w102 2 b2.toNatClampNeg) ^^^ (-1 : Int64))) u128)
  else
    xb1 (m_Model_in b3 b5) fun r41 =>
    (if r41 = 0 then
      k29 b1 b2 b3 (b5 + (1 : Int32)) u
    else
      xg (xin b5 40) <|
      xg (xin b2 3) <|
      (if ((xs_L u 1 b5.toNatClampNeg) &&& ((b3 ||| (xs_L u 2 b2.toNatClampNeg)) ^^^ (-1 : Int64))) = (0 : Int64) then
        k29 b1 b2 b3 (b5 + (1 : Int32)) u
      else
        some ((-1 : Int32), u))))
def m_Model_deliver_l29 : Nat → Int32 → Int32 → Int64 → Int32 → xS → Option (Int32 × xS)
  | 0, _, _, _, _, _ => none
  | n + 1, b1, b2, b3, b5, u => m_Model_deliver_s29 (m_Model_deliver_l29 n) b1 b2 b3 b5 u
def m_Model_deliver (a1 : Int32) (u : xS) : Option (Int32 × xS) :=
  xb1 (m_Model_none a1 u) fun r2 =>
  (if r2 = 0 then
    xg (xin a1 6) <|
    m_Model_deliver_l29 xFU a1 (xs_I u 10 a1.toNatClampNeg) (xs_L u 4 a1.toNatClampNeg) (0 : Int32) u
  else
    some ((-1000 : Int32), u))
def m_Model_put_b55 (b2 : Int32) (u : xS) : Option xS :=
  xg (xin (xs_i u 3) 460) <|
  xlt (xs_sI u 16 (xs_i u 3).toNatClampNeg b2) fun w64 =>
  xlt (xs_si w64 3 ((xs_i w64 3) + (1 : Int32))) fun w72 =>
  some w72
def m_Model_put_s4 (k4 : Int32 → Int32 → xS → Option xS) (b2 : Int32) (b3 : Int32) (u : xS) : Option xS :=
  (if (5 : Int32) ≤ b3 then
    m_Model_put_b55 b2 u
  else
    (if b2 ≤ (127 : Int32) then
      m_Model_put_b55 b2 u
    else
      xg (xin (xs_i u 3) 460) <|
      xlt (xs_sI u 16 (xs_i u 3).toNatClampNeg ((b2 - b2 / (128 : Int32) * (128 : Int32)) + (128 : Int32))) fun w32 =>
      xlt (xs_si w32 3 ((xs_i w32 3) + (1 : Int32))) fun w40 =>
      k4 (b2 / (128 : Int32)) (b3 + (1 : Int32)) w40))
def m_Model_put_l4 : Nat → Int32 → Int32 → xS → Option xS
  | 0, _, _, _ => none
  | n + 1, b2, b3, u => m_Model_put_s4 (m_Model_put_l4 n) b2 b3 u
def m_Model_put (a1 : Int32) (u : xS) : Option xS :=
  m_Model_put_l4 xFU a1 (0 : Int32) u
def m_Model_putSigned_b17 (t0 : Int32) (u : xS) : Option xS :=
  xb1 (m_Model_put t0 u) fun u17 =>
  some u17
def m_Model_putSigned (a1 : Int32) (u : xS) : Option xS :=
  (if 0 ≤ a1 then
    m_Model_putSigned_b17 ((2 : Int32) * a1) u
  else
    m_Model_putSigned_b17 (((-2 : Int32) * a1) - (1 : Int32)) u)
def m_Model_putRuns_b139 (k93 : Int32 → Int32 → xS → Option xS) (b2 : Int32) (b3 : Int32) (b4 : Int32) (u : xS) : Option xS :=
  xb1 (m_Model_put b4 u) fun u142 =>
  (if b2 = 0 then
    k93 (1 : Int32) (b3 + b4) u142
  else
    k93 (0 : Int32) (b3 + b4) u142)
def m_Model_putRuns_s104 (k93 : Int32 → Int32 → xS → Option xS) (k104 : Int32 → Int32 → Int32 → xS → Option xS) (b2 : Int32) (b3 : Int32) (b4 : Int32) (u : xS) : Option xS :=
  (if (xs_i u 2) ≤ (b3 + b4) then
    m_Model_putRuns_b139 k93 b2 b3 b4 u
  else
    xg (xin (b3 + b4) 40) <|
    xg (xin (xs_I u 15 (b3 + b4).toNatClampNeg) 40) <|
    (if (xs_I u 2 (xs_I u 15 (b3 + b4).toNatClampNeg).toNatClampNeg) = b2 then
      k104 b2 b3 (b4 + (1 : Int32)) u
    else
      m_Model_putRuns_b139 k93 b2 b3 b4 u))
def m_Model_putRuns_l104 (k93 : Int32 → Int32 → xS → Option xS) : Nat → Int32 → Int32 → Int32 → xS → Option xS
  | 0, _, _, _, _ => none
  | n + 1, b2, b3, b4, u => m_Model_putRuns_s104 k93 (m_Model_putRuns_l104 k93 n) b2 b3 b4 u
def m_Model_putRuns_s93 (k93 : Int32 → Int32 → xS → Option xS) (b2 : Int32) (b3 : Int32) (u : xS) : Option xS :=
  (if (xs_i u 2) ≤ b3 then
    some u
  else
    m_Model_putRuns_l104 k93 xFU b2 b3 (0 : Int32) u)
def m_Model_putRuns_l93 : Nat → Int32 → Int32 → xS → Option xS
  | 0, _, _, _ => none
  | n + 1, b2, b3, u => m_Model_putRuns_s93 (m_Model_putRuns_l93 n) b2 b3 u
def m_Model_putRuns_b57 (k2 : Int32 → xS → Option xS) (b1 : Int32) (b2 : Int32) (b3 : Int32) (u : xS) : Option xS :=
  xg (xin b2 40) <|
  xb1 (m_Model_put (xs_I u 0 b2.toNatClampNeg) u) fun u64 =>
  xb1 (m_Model_put (xs_I u64 1 b2.toNatClampNeg) u64) fun u74 =>
  xb1 (m_Model_put b3 u74) fun u79 =>
  k2 (b1 + b3) u79
def m_Model_putRuns_s19 (k2 : Int32 → xS → Option xS) (k19 : Int32 → Int32 → Int32 → xS → Option xS) (b1 : Int32) (b2 : Int32) (b3 : Int32) (u : xS) : Option xS :=
  (if (xs_i u 2) ≤ (b1 + b3) then
    m_Model_putRuns_b57 k2 b1 b2 b3 u
  else
    xg (xin (b1 + b3) 40) <|
    xg (xin (xs_I u 15 (b1 + b3).toNatClampNeg) 40) <|
    xg (xin b2 40) <|
    (if (xs_I u 0 (xs_I u 15 (b1 + b3).toNatClampNeg).toNatClampNeg) = (xs_I u 0 b2.toNatClampNeg) then
      k19 b1 b2 (b3 + (1 : Int32)) u
    else
      m_Model_putRuns_b57 k2 b1 b2 b3 u))
def m_Model_putRuns_l19 (k2 : Int32 → xS → Option xS) : Nat → Int32 → Int32 → Int32 → xS → Option xS
  | 0, _, _, _, _ => none
  | n + 1, b1, b2, b3, u => m_Model_putRuns_s19 k2 (m_Model_putRuns_l19 k2 n) b1 b2 b3 u
def m_Model_putRuns_s2 (k2 : Int32 → xS → Option xS) (b1 : Int32) (u : xS) : Option xS :=
  (if (xs_i u 2) ≤ b1 then
    m_Model_putRuns_l93 xFU (1 : Int32) (0 : Int32) u
  else
    xg (xin b1 40) <|
    m_Model_putRuns_l19 k2 xFU b1 (xs_I u 15 b1.toNatClampNeg) (1 : Int32) u)
def m_Model_putRuns_l2 : Nat → Int32 → xS → Option xS
  | 0, _, _ => none
  | n + 1, b1, u => m_Model_putRuns_s2 (m_Model_putRuns_l2 n) b1 u
def m_Model_putRuns (u : xS) : Option xS :=
  m_Model_putRuns_l2 xFU (0 : Int32) u
def m_Model_putParents_s63 (k55 : Int32 → Int32 → xS → Option xS) (k63 : Int32 → Int32 → Int32 → xS → Option xS) (b2 : Int32) (b3 : Int32) (b4 : Int32) (u : xS) : Option xS :=
  (if (xs_i u 0) ≤ b4 then
    k55 b2 (b3 + (1 : Int32)) u
  else
    xg (xin b4 40) <|
    (if (xs_I u 0 b4.toNatClampNeg) = b3 then
      xg (xin b2 40) <|
      xb1 (m_Model_in (xs_L u 1 b2.toNatClampNeg) b4) fun r91 =>
      (if r91 = 0 then
        k63 b2 b3 (b4 + (1 : Int32)) u
      else
        xb1 (m_Model_put (b3 + ((3 : Int32) * (xs_I u 1 b4.toNatClampNeg))) u) fun u109 =>
        k63 b2 b3 (b4 + (1 : Int32)) u109)
    else
      k63 b2 b3 (b4 + (1 : Int32)) u))
def m_Model_putParents_l63 (k55 : Int32 → Int32 → xS → Option xS) : Nat → Int32 → Int32 → Int32 → xS → Option xS
  | 0, _, _, _, _ => none
  | n + 1, b2, b3, b4, u => m_Model_putParents_s63 k55 (m_Model_putParents_l63 k55 n) b2 b3 b4 u
def m_Model_putParents_s55 (k55 : Int32 → Int32 → xS → Option xS) (b2 : Int32) (b3 : Int32) (u : xS) : Option xS :=
  (if (3 : Int32) ≤ b3 then
    some u
  else
    m_Model_putParents_l63 k55 xFU b2 b3 (0 : Int32) u)
def m_Model_putParents_l55 : Nat → Int32 → Int32 → xS → Option xS
  | 0, _, _, _ => none
  | n + 1, b2, b3, u => m_Model_putParents_s55 (m_Model_putParents_l55 n) b2 b3 u
def m_Model_putParents_b38 (b2 : Int32) (u : xS) : Option xS :=
  xg (xin b2 40) <|
  xb1 (m_Model_many (xs_L u 1 b2.toNatClampNeg)) fun r46 =>
  xb1 (m_Model_put ((1 : Int32) + r46) u) fun u50 =>
  m_Model_putParents_l55 xFU b2 (0 : Int32) u50
def m_Model_putParents (a1 : Int32) (u : xS) : Option xS :=
  xg (xin a1 40) <|
  (if a1 ≤ 0 then
    m_Model_putParents_b38 (xs_I u 15 a1.toNatClampNeg) u
  else
    xg (xin (xs_I u 15 a1.toNatClampNeg) 40) <|
    xg (xin (a1 - (1 : Int32)) 40) <|
    xb1 (m_Model_one (xs_I u 15 (a1 - (1 : Int32)).toNatClampNeg)) fun r25 =>
    (if (xs_L u 1 (xs_I u 15 a1.toNatClampNeg).toNatClampNeg) = r25 then
      xb1 (m_Model_put (0 : Int32) u) fun u34 =>
      some u34
    else
      m_Model_putParents_b38 (xs_I u 15 a1.toNatClampNeg) u))
def m_Model_write_s137 (k137 : Int32 → xS → Option xS) (b3 : Int32) (u : xS) : Option xS :=
  (if (xs_i u 2) ≤ b3 then
    some u
  else
    xb1 (m_Model_putParents b3 u) fun u147 =>
    k137 (b3 + (1 : Int32)) u147)
def m_Model_write_l137 : Nat → Int32 → xS → Option xS
  | 0, _, _ => none
  | n + 1, b3, u => m_Model_write_s137 (m_Model_write_l137 n) b3 u
def m_Model_write_s78 (k78 : Int32 → Int32 → xS → Option xS) (b2 : Int32) (b3 : Int32) (u : xS) : Option xS :=
  (if (xs_i u 2) ≤ b3 then
    m_Model_write_l137 xFU (0 : Int32) u
  else
    xg (xin b3 40) <|
    xg (xin (xs_I u 15 b3.toNatClampNeg) 40) <|
    (if (xs_I u 2 (xs_I u 15 b3.toNatClampNeg).toNatClampNeg) = 0 then
      k78 b2 (b3 + (1 : Int32)) u
    else
      xb1 (m_Model_putSigned ((xs_I u 4 (xs_I u 15 b3.toNatClampNeg).toNatClampNeg) - b2) u) fun u114 =>
      xg (xin (xs_I u114 15 b3.toNatClampNeg) 40) <|
      k78 (xs_I u114 4 (xs_I u114 15 b3.toNatClampNeg).toNatClampNeg) (b3 + (1 : Int32)) u114))
def m_Model_write_l78 : Nat → Int32 → Int32 → xS → Option xS
  | 0, _, _, _ => none
  | n + 1, b2, b3, u => m_Model_write_s78 (m_Model_write_l78 n) b2 b3 u
def m_Model_write_s31 (k31 : Int32 → Int32 → xS → Option xS) (b2 : Int32) (b3 : Int32) (u : xS) : Option xS :=
  (if (xs_i u 2) ≤ b3 then
    m_Model_write_l78 xFU (0 : Int32) (0 : Int32) u
  else
    xg (xin b3 40) <|
    xg (xin (xs_I u 15 b3.toNatClampNeg) 40) <|
    xb1 (m_Model_putSigned ((xs_I u 3 (xs_I u 15 b3.toNatClampNeg).toNatClampNeg) - b2) u) fun u53 =>
    xg (xin (xs_I u53 15 b3.toNatClampNeg) 40) <|
    k31 (xs_I u53 3 (xs_I u53 15 b3.toNatClampNeg).toNatClampNeg) (b3 + (1 : Int32)) u53)
def m_Model_write_l31 : Nat → Int32 → Int32 → xS → Option xS
  | 0, _, _, _ => none
  | n + 1, b2, b3, u => m_Model_write_s31 (m_Model_write_l31 n) b2 b3 u
def m_Model_write (a1 : Int32) (u : xS) : Option xS :=
  xg (xin a1 6) <|
  xb1 (m_Model_order (xs_L u 4 a1.toNatClampNeg) u) fun u7 =>
  xlt (xs_si u7 3 (0 : Int32)) fun w12 =>
  xb1 (m_Model_put (xs_i w12 2) w12) fun u20 =>
  xb1 (m_Model_putRuns u20) fun u24 =>
  m_Model_write_l31 xFU (0 : Int32) (0 : Int32) u24
def m_Model_octets (a1 : Int32) (u : xS) : Option (Int32 × xS) :=
  xb1 (m_Model_none a1 u) fun r2 =>
  (if r2 = 0 then
    xb1 (m_Model_write a1 u) fun u14 =>
    some ((xs_i u14 3), u14)
  else
    some ((-1000 : Int32), u))
def m_Model_octet (a1 : Int32) (a2 : Int32) (u : xS) : Option (Int32 × xS) :=
  xb1 (m_Model_none a1 u) fun r2 =>
  (if r2 = 0 then
    xb1 (m_Model_write a1 u) fun u14 =>
    (if a2 < 0 then
      some ((-1000 : Int32), u14)
    else
      (if a2 < (xs_i u14 3) then
        xg (xin a2 460) <|
        some ((xs_I u14 16 a2.toNatClampNeg), u14)
      else
        some ((-1000 : Int32), u14)))
  else
    some ((-1000 : Int32), u))
def m_Model_events (a1 : Int32) (u : xS) : Option Int32 :=
  xb1 (m_Model_wrong a1) fun r1 =>
  (if r1 = 0 then
    xg (xin a1 3) <|
    xb1 (m_Model_many (xs_L u 2 a1.toNatClampNeg)) fun r19 =>
    some r19
  else
    some (-1000 : Int32))
def m_Model_heads (a1 : Int32) (u : xS) : Option Int32 :=
  xb1 (m_Model_wrong a1) fun r1 =>
  (if r1 = 0 then
    xg (xin a1 3) <|
    xb1 (m_Model_tips (xs_L u 2 a1.toNatClampNeg) u) fun r20 =>
    xb1 (m_Model_many r20) fun r23 =>
    some r23
  else
    some (-1000 : Int32))
def m_Model_head_s41 (k32 : Int32 → Int64 → Int32 → Int32 → xS → Option Int32) (k41 : Int32 → Int64 → Int32 → Int32 → Int32 → xS → Option Int32) (b2 : Int32) (b3 : Int64) (b5 : Int32) (b6 : Int32) (b7 : Int32) (u : xS) : Option Int32 :=
  (if (xs_i u 0) ≤ b7 then
    k32 b2 b3 b5 (b6 + (1 : Int32)) u
  else
    xg (xin b7 40) <|
    (if (xs_I u 0 b7.toNatClampNeg) = b6 then
      xb1 (m_Model_in b3 b7) fun r65 =>
      (if r65 = 0 then
        k41 b2 b3 b5 b6 (b7 + (1 : Int32)) u
      else
        (if b5 = b2 then
          some (b6 + ((3 : Int32) * (xs_I u 1 b7.toNatClampNeg)))
        else
          k41 b2 b3 (b5 + (1 : Int32)) b6 (b7 + (1 : Int32)) u))
    else
      k41 b2 b3 b5 b6 (b7 + (1 : Int32)) u))
def m_Model_head_l41 (k32 : Int32 → Int64 → Int32 → Int32 → xS → Option Int32) : Nat → Int32 → Int64 → Int32 → Int32 → Int32 → xS → Option Int32
  | 0, _, _, _, _, _, _ => none
  | n + 1, b2, b3, b5, b6, b7, u => m_Model_head_s41 k32 (m_Model_head_l41 k32 n) b2 b3 b5 b6 b7 u
def m_Model_head_s32 (k32 : Int32 → Int64 → Int32 → Int32 → xS → Option Int32) (b2 : Int32) (b3 : Int64) (b5 : Int32) (b6 : Int32) (u : xS) : Option Int32 :=
  (if (3 : Int32) ≤ b6 then
    some (-1000 : Int32)
  else
    m_Model_head_l41 k32 xFU b2 b3 b5 b6 (0 : Int32) u)
def m_Model_head_l32 : Nat → Int32 → Int64 → Int32 → Int32 → xS → Option Int32
  | 0, _, _, _, _, _ => none
  | n + 1, b2, b3, b5, b6, u => m_Model_head_s32 (m_Model_head_l32 n) b2 b3 b5 b6 u
def m_Model_head (a1 : Int32) (a2 : Int32) (u : xS) : Option Int32 :=
  xb1 (m_Model_wrong a1) fun r1 =>
  (if r1 = 0 then
    (if 0 ≤ a2 then
      xg (xin a1 3) <|
      xb1 (m_Model_tips (xs_L u 2 a1.toNatClampNeg) u) fun r22 =>
      m_Model_head_l32 xFU a2 r22 (0 : Int32) (0 : Int32) u
    else
      some (-1000 : Int32))
  else
    some (-1000 : Int32))
def m_Model_find_s2 (k2 : Int32 → Int32 → Int32 → xS → Option Int32) (b1 : Int32) (b2 : Int32) (b3 : Int32) (u : xS) : Option Int32 :=
  (if (xs_i u 0) ≤ b3 then
    some (-1 : Int32)
  else
    xg (xin b3 40) <|
    (if (xs_I u 0 b3.toNatClampNeg) = b1 then
      (if (xs_I u 1 b3.toNatClampNeg) = b2 then
        some b3
      else
        k2 b1 b2 (b3 + (1 : Int32)) u)
    else
      k2 b1 b2 (b3 + (1 : Int32)) u))
def m_Model_find_l2 : Nat → Int32 → Int32 → Int32 → xS → Option Int32
  | 0, _, _, _, _ => none
  | n + 1, b1, b2, b3, u => m_Model_find_s2 (m_Model_find_l2 n) b1 b2 b3 u
def m_Model_find (a1 : Int32) (a2 : Int32) (u : xS) : Option Int32 :=
  m_Model_find_l2 xFU a1 a2 (0 : Int32) u
def m_Model_ancestor (a1 : Int32) (a2 : Int32) (a3 : Int32) (a4 : Int32) (u : xS) : Option Int32 :=
  xb1 (m_Model_find a1 a2 u) fun r3 =>
  xb1 (m_Model_find a3 a4 u) fun r12 =>
  (if r3 < 0 then
    some (-1000 : Int32)
  else
    (if 0 ≤ r12 then
      xg (xin r12 40) <|
      xb1 (m_Model_in (xs_L u 0 r12.toNatClampNeg) r3) fun r40 =>
      (if r40 = 0 then
        some (0 : Int32)
      else
        some (1 : Int32))
    else
      some (-1000 : Int32)))
def m_Model_critical (a1 : Int32) (u : xS) : Option Int32 :=
  xb1 (m_Model_wrong a1) fun r1 =>
  (if r1 = 0 then
    xg (xin a1 3) <|
    xb1 (m_Model_top (xs_L u 2 a1.toNatClampNeg) (xs_L u 2 a1.toNatClampNeg) u) fun r24 =>
    (if 0 ≤ r24 then
      xg (xin r24 40) <|
      xb1 (m_Model_many (xs_L u 0 r24.toNatClampNeg)) fun r43 =>
      some ((1 : Int32) + r43)
    else
      some (0 : Int32))
  else
    some (-1000 : Int32))
def m_Model_replayed (a1 : Int32) (u : xS) : Option Int32 :=
  xb1 (m_Model_wrong a1) fun r1 =>
  (if r1 = 0 then
    xg (xin a1 3) <|
    some (xs_I u 11 a1.toNatClampNeg)
  else
    some (-1000 : Int32))
def m_Model_moves (a1 : Int32) (u : xS) : Option Int32 :=
  xb1 (m_Model_wrong a1) fun r1 =>
  (if r1 = 0 then
    xg (xin a1 3) <|
    some (xs_I u 12 a1.toNatClampNeg)
  else
    some (-1000 : Int32))
def m_Model_operation (a1 : Int32) (a2 : Int32) (u : xS) : Option Int32 :=
  xb1 (m_Model_wrong a1) fun r1 =>
  (if r1 = 0 then
    (if a2 < 0 then
      some (-1000 : Int32)
    else
      xg (xin a1 3) <|
      (if a2 < (xs_I u 13 a1.toNatClampNeg) then
        xg (xin (((40 : Int32) * a1) + a2) 120) <|
        some (xs_I u 14 (((40 : Int32) * a1) + a2).toNatClampNeg)
      else
        some (-1000 : Int32)))
  else
    some (-1000 : Int32))
end
section
set_option maxHeartbeats 4000000 in
set_option maxRecDepth 100000 in
theorem c_Text_isSite (l : Launch) (a0 : Int32) (out : Int32) (hm : m_Text_isSite a0 = some out) : Met l y_Text_isSite (Cond.code y_Text_isSite b_Text_isSite 1 (some .boolean) :: xG) (xrm 0 0) (va_Pc [.int a0] (fun _ => True)) (va_Qi (fun r9 (_ : Unit) => r9 = out) (fun _ _ => True) xN) 0 0 xN := by
  refine xm_puz (cc := b_Text_isSite) (maxL := 1) (by decide) rfl (Nat.le_of_ble_eq_true rfl) ?_
  intro p e s m args below meth c Q ls hx hb hml hts hown hl hret
  have hT : ∀ w ∈ xG, w.before args s = true := fun w h => hts w (List.mem_cons_of_mem _ h)
  have hown : s.vm.findClass "EventGraphText" = some m.cls := hown
  have hl : lv_has ls 1 [(0, .int a0)] := hl
  have hS : va_S xN s.heap s.heap [] := va_S.rf
  unfold m_Text_isSite at hm
  refine lv_iload_n hx hb d_Text_isSite_0 rfl (lv_at hl 0 rfl) ?_
  refine lv_if_lt (tgt := 13) hx hb d_Text_isSite_1 rfl (fun h => ?_) (fun h => ?_)
  · replace hm := xi_pos h hm
    refine lv_iconst (v := (0 : Int32)) hx hb d_Text_isSite_13 (by decide) ?_
    exact hret hm rfl hS d_Text_isSite_14
  · replace hm := xi_neg h hm
    refine lv_iload_n hx hb d_Text_isSite_4 rfl (lv_at hl 0 rfl) ?_
    refine lv_iconst (v := (3 : Int32)) hx hb d_Text_isSite_5 (by decide) ?_
    refine lv_icmp_ge (tgt := 13) hx hb d_Text_isSite_6 rfl (fun h => ?_) (fun h => ?_)
    · replace hm := xi_pos h hm
      refine lv_iconst (v := (0 : Int32)) hx hb d_Text_isSite_13 (by decide) ?_
      exact hret hm rfl hS d_Text_isSite_14
    · replace hm := xi_neg h hm
      refine lv_iconst (v := (1 : Int32)) hx hb d_Text_isSite_9 (by decide) ?_
      refine lv_goto (tgt := 14) hx hb d_Text_isSite_10 rfl ?_
      exact hret hm rfl hS d_Text_isSite_14
set_option maxHeartbeats 4000000 in
set_option maxRecDepth 100000 in
theorem c_History_isFull (l : Launch) (dC : Nat → ClassId) (dI : Nat → Nat → Nat) (dT : Nat → ClassId) (ad : Nat → Nat) (u : xS) (out : Int32) (hm : m_History_isFull u = some out) : Met l y_History_isFull (Cond.code y_History_isFull b_History_isFull 1 (some .boolean) :: xG) (xrm 0 0) (va_Pc [.ref (ad 1)] (xR (dC, dI) xCl (xT dT) (cW dT ad u))) (va_Qi (fun r9 (_ : Unit) => r9 = out) (fun _ _ => True) xN) 0 0 xN := by
  refine xm_roz (cc := b_History_isFull) (maxL := 1) (by decide) rfl (Nat.le_of_ble_eq_true rfl) ?_
  intro p e s m args below meth c Q ls hx hb hml hts hown hK hN hP hl hret
  have hT : ∀ w ∈ xG, w.before args s = true := fun w h => hts w (List.mem_cons_of_mem _ h)
  have hown : s.vm.findClass "EventGraphText$History" = some m.cls := hown
  have hl : lv_has ls 1 [(0, .ref (ad 1))] := hl
  have hS : va_S xN s.heap s.heap [] := va_S.rf
  unfold m_History_isFull at hm
  refine lv_aload_n hx hb d_History_isFull_0 rfl (lv_at hl 0 rfl) ?_
  refine va_get (D := (dC, dI)) (ci := 1) (v := .int (xs_i u 0)) (C := "EventGraphText$History") (T := T_History) (N := 9) hx hb hT hin_History hown hK hP 1 cW_H rfl 8 (by decide) (hT _ wd_33) (fun _ h9 => h9) rfl d_History_isFull_1 ?_
  refine lv_bipush (v := (40 : Int32)) hx hb d_History_isFull_4 (by decide) ?_
  refine lv_icmp_lt (tgt := 13) hx hb d_History_isFull_6 rfl (fun h => ?_) (fun h => ?_)
  · replace hm := xi_pos h hm
    refine lv_iconst (v := (0 : Int32)) hx hb d_History_isFull_13 (by decide) ?_
    exact hret hm rfl hS d_History_isFull_14
  · replace hm := xi_neg h hm
    refine lv_iconst (v := (1 : Int32)) hx hb d_History_isFull_9 (by decide) ?_
    refine lv_goto (tgt := 14) hx hb d_History_isFull_10 rfl ?_
    exact hret hm rfl hS d_History_isFull_14
set_option maxHeartbeats 4000000 in
set_option maxRecDepth 100000 in
theorem c_Text_bit (l : Launch) (a0 : Int32) (out : Int64) (hm : m_Text_bit a0 = some out) : Met l y_Text_bit (Cond.code y_Text_bit b_Text_bit 1 (some .long) :: xG) (xrm 0 0) (va_Pc [.int a0] (fun _ => True)) (va_Ql (fun r9 (_ : Unit) => r9 = out) (fun _ _ => True) xN) 0 0 xN := by
  refine xm_puj (cc := b_Text_bit) (maxL := 1) (by decide) rfl (Nat.le_of_ble_eq_true rfl) ?_
  intro p e s m args below meth c Q ls hx hb hml hts hown hl hret
  have hT : ∀ w ∈ xG, w.before args s = true := fun w h => hts w (List.mem_cons_of_mem _ h)
  have hown : s.vm.findClass "EventGraphText" = some m.cls := hown
  have hl : lv_has ls 1 [(0, .int a0)] := hl
  have hS : va_S xN s.heap s.heap [] := va_S.rf
  unfold m_Text_bit at hm
  refine lv_lconst (v := (1 : Int64)) hx hb d_Text_bit_0 (by decide) ?_
  refine lv_iload_n hx hb d_Text_bit_1 rfl (lv_at hl 0 rfl) ?_
  refine lv_lshl (v := (xShl (1 : Int64) a0)) hx hb d_Text_bit_2 rfl ?_
  exact hret hm hS d_Text_bit_3
set_option maxHeartbeats 4000000 in
set_option maxRecDepth 100000 in
theorem c_Text_has (l : Launch) (a0 : Int64) (a2 : Int32) (out : Int32) (hm : m_Text_has a0 a2 = some out) : Met l y_Text_has (Cond.code y_Text_has b_Text_has 3 (some .boolean) :: xG) (xrm 1 20) (va_Pc [.long a0, .int a2] (fun _ => True)) (va_Qi (fun r9 (_ : Unit) => r9 = out) (fun _ _ => True) xN) 0 0 xN := by
  refine xm_puz (cc := b_Text_has) (maxL := 3) (by decide) rfl (Nat.le_of_ble_eq_true rfl) ?_
  intro p e s m args below meth c Q ls hx hb hml hts hown hl hret
  have hT : ∀ w ∈ xG, w.before args s = true := fun w h => hts w (List.mem_cons_of_mem _ h)
  have hown : s.vm.findClass "EventGraphText" = some m.cls := hown
  have hl : lv_has ls 3 [(0, .long a0), (2, .int a2)] := hl
  have hS : va_S xN s.heap s.heap [] := va_S.rf
  unfold m_Text_has at hm
  refine lv_iload_n hx hb d_Text_has_0 rfl (lv_at hl 1 rfl) ?_
  refine lv_if_lt (tgt := 19) hx hb d_Text_has_1 rfl (fun h => ?_) (fun h => ?_)
  · replace hm := xi_pos h hm
    refine lv_iconst (v := (0 : Int32)) hx hb d_Text_has_19 (by decide) ?_
    exact hret hm rfl hS d_Text_has_20
  · replace hm := xi_neg h hm
    refine lv_lload_n hx hb d_Text_has_4 rfl (lv_at hl 0 rfl) ?_
    refine lv_iload_n hx hb d_Text_has_5 rfl (lv_at hl 1 rfl) ?_
    obtain ⟨r6, h6, hm⟩ := xb1_some hm
    refine xc_l0 (va_runS (As := [.int a2]) (rest := [.long a0]) ⟨hx, hb, hml, hown, hts⟩ (c_Text_bit l a2 r6 h6) (va_cwS 1 hts (xgS wd_218 wd_219 wd_1 wd_220) rfl rfl rfl pd_Text_bit.2 ⟨Nat.le_of_ble_eq_true rfl, Nat.le_of_ble_eq_true rfl⟩) xpreS0 rfl rfl hl.1 rfl (lv_room (Nat.le_of_ble_eq_true rfl)) d_Text_has_6 ⟨Nat.le_of_ble_eq_true rfl, Nat.le_of_ble_eq_true rfl⟩) hS (fun H locs hS => ?_)
    refine lv_land hx hb d_Text_has_9 ?_
    refine lv_lconst (v := (0 : Int64)) hx hb d_Text_has_10 (by decide) ?_
    refine xl_cmp_eq (tgt := 19) hx hb d_Text_has_11 d_Text_has_12 rfl (fun h => ?_) (fun h => ?_)
    · replace hm := xi_pos h hm
      refine lv_iconst (v := (0 : Int32)) hx hb d_Text_has_19 (by decide) ?_
      exact hret hm rfl hS d_Text_has_20
    · replace hm := xi_neg h hm
      refine lv_iconst (v := (1 : Int32)) hx hb d_Text_has_15 (by decide) ?_
      refine lv_goto (tgt := 20) hx hb d_Text_has_16 rfl ?_
      exact hret hm rfl hS d_Text_has_20
end
