section
def lw_okq (q : MethodName × Nat) : Prop := (q.1.cls ≠ "java/lang/invoke/MethodHandle" ∧ q.1.cls ≠ "java/lang/invoke/VarHandle") ∧ Cond.instantiable q.1.cls q.2 ∈ tables_1 ∧ Cond.privateMethod q.1 ∈ tables_1 ∧ Cond.instanceMethod q.1 ∈ tables_1
theorem lw_p0 : lw_okq (⟨"EventGraphText$CharacterList", "childrenOf", "(IZ)J"⟩, 8) := ⟨⟨by decide +kernel, by decide +kernel⟩, List.mem_of_getElem? (i := 56) (by decide +kernel), List.mem_of_getElem? (i := 252) (by decide +kernel), List.mem_of_getElem? (i := 253) (by decide +kernel)⟩
theorem lw_p1 : lw_okq (⟨"EventGraphText$CharacterList", "nextBehind", "(IJ)I"⟩, 8) := ⟨⟨by decide +kernel, by decide +kernel⟩, List.mem_of_getElem? (i := 56) (by decide +kernel), List.mem_of_getElem? (i := 256) (by decide +kernel), List.mem_of_getElem? (i := 257) (by decide +kernel)⟩
theorem lw_p2 : lw_okq (⟨"EventGraphText$CharacterList", "rightPosition", "(LEventGraphText$History;II)I"⟩, 8) := ⟨⟨by decide +kernel, by decide +kernel⟩, List.mem_of_getElem? (i := 56) (by decide +kernel), List.mem_of_getElem? (i := 260) (by decide +kernel), List.mem_of_getElem? (i := 261) (by decide +kernel)⟩
theorem lw_p3 : lw_okq (⟨"EventGraphText$CharacterList", "nearerSiblings", "(LEventGraphText$History;IIZ)J"⟩, 8) := ⟨⟨by decide +kernel, by decide +kernel⟩, List.mem_of_getElem? (i := 56) (by decide +kernel), List.mem_of_getElem? (i := 264) (by decide +kernel), List.mem_of_getElem? (i := 265) (by decide +kernel)⟩
theorem lw_p4 : lw_okq (⟨"EventGraphText$CharacterList", "leftPosition", "(LEventGraphText$History;II)I"⟩, 8) := ⟨⟨by decide +kernel, by decide +kernel⟩, List.mem_of_getElem? (i := 56) (by decide +kernel), List.mem_of_getElem? (i := 272) (by decide +kernel), List.mem_of_getElem? (i := 273) (by decide +kernel)⟩
theorem lw_p5 : lw_okq (⟨"EventGraphText", "freeNumber", "()I"⟩, 5) := ⟨⟨by decide +kernel, by decide +kernel⟩, List.mem_of_getElem? (i := 12) (by decide +kernel), List.mem_of_getElem? (i := 308) (by decide +kernel), List.mem_of_getElem? (i := 309) (by decide +kernel)⟩
theorem lw_p6 : lw_okq (⟨"EventGraphText$OctetRow", "add", "(I)V"⟩, 2) := ⟨⟨by decide +kernel, by decide +kernel⟩, List.mem_of_getElem? (i := 151) (by decide +kernel), List.mem_of_getElem? (i := 348) (by decide +kernel), List.mem_of_getElem? (i := 349) (by decide +kernel)⟩
theorem lw_p7 : lw_okq (⟨"EventGraphText$Message", "writeSites", "(LEventGraphText$History;LEventGraphText$Line;)V"⟩, 5) := ⟨⟨by decide +kernel, by decide +kernel⟩, List.mem_of_getElem? (i := 145) (by decide +kernel), List.mem_of_getElem? (i := 352) (by decide +kernel), List.mem_of_getElem? (i := 353) (by decide +kernel)⟩
theorem lw_p8 : lw_okq (⟨"EventGraphText$Message", "writeKinds", "(LEventGraphText$History;LEventGraphText$Line;)V"⟩, 5) := ⟨⟨by decide +kernel, by decide +kernel⟩, List.mem_of_getElem? (i := 145) (by decide +kernel), List.mem_of_getElem? (i := 365) (by decide +kernel), List.mem_of_getElem? (i := 366) (by decide +kernel)⟩
theorem lw_p9 : lw_okq (⟨"EventGraphText$Message", "writeIndices", "(LEventGraphText$History;LEventGraphText$Line;)V"⟩, 5) := ⟨⟨by decide +kernel, by decide +kernel⟩, List.mem_of_getElem? (i := 145) (by decide +kernel), List.mem_of_getElem? (i := 373) (by decide +kernel), List.mem_of_getElem? (i := 374) (by decide +kernel)⟩
theorem lw_p10 : lw_okq (⟨"EventGraphText$Message", "writeCharacters", "(LEventGraphText$History;LEventGraphText$Line;)V"⟩, 5) := ⟨⟨by decide +kernel, by decide +kernel⟩, List.mem_of_getElem? (i := 145) (by decide +kernel), List.mem_of_getElem? (i := 386) (by decide +kernel), List.mem_of_getElem? (i := 387) (by decide +kernel)⟩
theorem lw_p11 : lw_okq (⟨"EventGraphText$Message", "writeParents", "(LEventGraphText$History;LEventGraphText$Line;)V"⟩, 5) := ⟨⟨by decide +kernel, by decide +kernel⟩, List.mem_of_getElem? (i := 145) (by decide +kernel), List.mem_of_getElem? (i := 391) (by decide +kernel), List.mem_of_getElem? (i := 392) (by decide +kernel)⟩
theorem lw_p12 : lw_okq (⟨"EventGraphText$Message", "writeParentList", "(LEventGraphText$History;J)V"⟩, 5) := ⟨⟨by decide +kernel, by decide +kernel⟩, List.mem_of_getElem? (i := 145) (by decide +kernel), List.mem_of_getElem? (i := 400) (by decide +kernel), List.mem_of_getElem? (i := 401) (by decide +kernel)⟩
theorem lw_p13 : lw_okq (⟨"EventGraphText", "isUnderWay", "(I)Z"⟩, 5) := ⟨⟨by decide +kernel, by decide +kernel⟩, List.mem_of_getElem? (i := 12) (by decide +kernel), List.mem_of_getElem? (i := 415) (by decide +kernel), List.mem_of_getElem? (i := 416) (by decide +kernel)⟩
theorem lw_p14 : lw_okq (⟨"EventGraphText$Merge", "passThrough", "(LEventGraphText$History;LEventGraphText$Line;J)J"⟩, 4) := ⟨⟨by decide +kernel, by decide +kernel⟩, List.mem_of_getElem? (i := 108) (by decide +kernel), List.mem_of_getElem? (i := 448) (by decide +kernel), List.mem_of_getElem? (i := 449) (by decide +kernel)⟩
theorem lw_p15 : lw_okq (⟨"EventGraphText$Merge", "applyAll", "(LEventGraphText$History;LEventGraphText$CharacterList;LEventGraphText$Line;J)V"⟩, 4) := ⟨⟨by decide +kernel, by decide +kernel⟩, List.mem_of_getElem? (i := 108) (by decide +kernel), List.mem_of_getElem? (i := 458) (by decide +kernel), List.mem_of_getElem? (i := 459) (by decide +kernel)⟩
def lw_privs_1 : List (MethodName × Nat) := [(⟨"EventGraphText$CharacterList", "childrenOf", "(IZ)J"⟩, 8), (⟨"EventGraphText$CharacterList", "nextBehind", "(IJ)I"⟩, 8), (⟨"EventGraphText$CharacterList", "rightPosition", "(LEventGraphText$History;II)I"⟩, 8), (⟨"EventGraphText$CharacterList", "nearerSiblings", "(LEventGraphText$History;IIZ)J"⟩, 8), (⟨"EventGraphText$CharacterList", "leftPosition", "(LEventGraphText$History;II)I"⟩, 8), (⟨"EventGraphText", "freeNumber", "()I"⟩, 5), (⟨"EventGraphText$OctetRow", "add", "(I)V"⟩, 2), (⟨"EventGraphText$Message", "writeSites", "(LEventGraphText$History;LEventGraphText$Line;)V"⟩, 5), (⟨"EventGraphText$Message", "writeKinds", "(LEventGraphText$History;LEventGraphText$Line;)V"⟩, 5), (⟨"EventGraphText$Message", "writeIndices", "(LEventGraphText$History;LEventGraphText$Line;)V"⟩, 5), (⟨"EventGraphText$Message", "writeCharacters", "(LEventGraphText$History;LEventGraphText$Line;)V"⟩, 5), (⟨"EventGraphText$Message", "writeParents", "(LEventGraphText$History;LEventGraphText$Line;)V"⟩, 5), (⟨"EventGraphText$Message", "writeParentList", "(LEventGraphText$History;J)V"⟩, 5), (⟨"EventGraphText", "isUnderWay", "(I)Z"⟩, 5), (⟨"EventGraphText$Merge", "passThrough", "(LEventGraphText$History;LEventGraphText$Line;J)J"⟩, 4), (⟨"EventGraphText$Merge", "applyAll", "(LEventGraphText$History;LEventGraphText$CharacterList;LEventGraphText$Line;J)V"⟩, 4)]
theorem lw_r1 : ∀ q ∈ lw_privs_1, lw_okq q := List.forall_mem_cons.mpr ⟨lw_p0, List.forall_mem_cons.mpr ⟨lw_p1, List.forall_mem_cons.mpr ⟨lw_p2, List.forall_mem_cons.mpr ⟨lw_p3, List.forall_mem_cons.mpr ⟨lw_p4, List.forall_mem_cons.mpr ⟨lw_p5, List.forall_mem_cons.mpr ⟨lw_p6, List.forall_mem_cons.mpr ⟨lw_p7, List.forall_mem_cons.mpr ⟨lw_p8, List.forall_mem_cons.mpr ⟨lw_p9, List.forall_mem_cons.mpr ⟨lw_p10, List.forall_mem_cons.mpr ⟨lw_p11, List.forall_mem_cons.mpr ⟨lw_p12, List.forall_mem_cons.mpr ⟨lw_p13, List.forall_mem_cons.mpr ⟨lw_p14, List.forall_mem_cons.mpr ⟨lw_p15, fun _ h => absurd h List.not_mem_nil⟩⟩⟩⟩⟩⟩⟩⟩⟩⟩⟩⟩⟩⟩⟩⟩
theorem lw_p16 : lw_okq (⟨"EventGraphTextModel", "shownBefore", "(JI)I"⟩, 26) := ⟨⟨by decide +kernel, by decide +kernel⟩, List.mem_of_getElem? (i := 553) (by decide +kernel), List.mem_of_getElem? (i := 649) (by decide +kernel), List.mem_of_getElem? (i := 650) (by decide +kernel)⟩
theorem lw_p17 : lw_okq (⟨"EventGraphTextModel", "hidden", "(J)J"⟩, 26) := ⟨⟨by decide +kernel, by decide +kernel⟩, List.mem_of_getElem? (i := 553) (by decide +kernel), List.mem_of_getElem? (i := 653) (by decide +kernel), List.mem_of_getElem? (i := 654) (by decide +kernel)⟩
theorem lw_p18 : lw_okq (⟨"EventGraphTextModel", "shownAt", "(JI)I"⟩, 26) := ⟨⟨by decide +kernel, by decide +kernel⟩, List.mem_of_getElem? (i := 553) (by decide +kernel), List.mem_of_getElem? (i := 663) (by decide +kernel), List.mem_of_getElem? (i := 664) (by decide +kernel)⟩
theorem lw_p19 : lw_okq (⟨"EventGraphTextModel", "behind", "(JI)I"⟩, 26) := ⟨⟨by decide +kernel, by decide +kernel⟩, List.mem_of_getElem? (i := 553) (by decide +kernel), List.mem_of_getElem? (i := 667) (by decide +kernel), List.mem_of_getElem? (i := 668) (by decide +kernel)⟩
theorem lw_p20 : lw_okq (⟨"EventGraphTextModel", "event", "(IZI)I"⟩, 26) := ⟨⟨by decide +kernel, by decide +kernel⟩, List.mem_of_getElem? (i := 553) (by decide +kernel), List.mem_of_getElem? (i := 671) (by decide +kernel), List.mem_of_getElem? (i := 672) (by decide +kernel)⟩
theorem lw_p21 : lw_okq (⟨"EventGraphTextModel", "tips", "(J)J"⟩, 26) := ⟨⟨by decide +kernel, by decide +kernel⟩, List.mem_of_getElem? (i := 553) (by decide +kernel), List.mem_of_getElem? (i := 675) (by decide +kernel), List.mem_of_getElem? (i := 676) (by decide +kernel)⟩
theorem lw_p22 : lw_okq (⟨"EventGraphTextModel", "intoRow", "(I)V"⟩, 26) := ⟨⟨by decide +kernel, by decide +kernel⟩, List.mem_of_getElem? (i := 553) (by decide +kernel), List.mem_of_getElem? (i := 680) (by decide +kernel), List.mem_of_getElem? (i := 681) (by decide +kernel)⟩
theorem lw_p23 : lw_okq (⟨"EventGraphTextModel", "stands", "(II)Z"⟩, 26) := ⟨⟨by decide +kernel, by decide +kernel⟩, List.mem_of_getElem? (i := 553) (by decide +kernel), List.mem_of_getElem? (i := 684) (by decide +kernel), List.mem_of_getElem? (i := 685) (by decide +kernel)⟩
theorem lw_p24 : lw_okq (⟨"EventGraphTextModel", "lower", "(II)Z"⟩, 26) := ⟨⟨by decide +kernel, by decide +kernel⟩, List.mem_of_getElem? (i := 553) (by decide +kernel), List.mem_of_getElem? (i := 688) (by decide +kernel), List.mem_of_getElem? (i := 689) (by decide +kernel)⟩
theorem lw_p25 : lw_okq (⟨"EventGraphTextModel", "none", "(I)Z"⟩, 26) := ⟨⟨by decide +kernel, by decide +kernel⟩, List.mem_of_getElem? (i := 553) (by decide +kernel), List.mem_of_getElem? (i := 712) (by decide +kernel), List.mem_of_getElem? (i := 713) (by decide +kernel)⟩
theorem lw_p26 : lw_okq (⟨"EventGraphTextModel", "whole", "(J)J"⟩, 26) := ⟨⟨by decide +kernel, by decide +kernel⟩, List.mem_of_getElem? (i := 553) (by decide +kernel), List.mem_of_getElem? (i := 720) (by decide +kernel), List.mem_of_getElem? (i := 721) (by decide +kernel)⟩
theorem lw_p27 : lw_okq (⟨"EventGraphTextModel", "merge", "(IJ)V"⟩, 26) := ⟨⟨by decide +kernel, by decide +kernel⟩, List.mem_of_getElem? (i := 553) (by decide +kernel), List.mem_of_getElem? (i := 736) (by decide +kernel), List.mem_of_getElem? (i := 737) (by decide +kernel)⟩
theorem lw_p28 : lw_okq (⟨"EventGraphTextModel", "top", "(JJ)I"⟩, 26) := ⟨⟨by decide +kernel, by decide +kernel⟩, List.mem_of_getElem? (i := 553) (by decide +kernel), List.mem_of_getElem? (i := 740) (by decide +kernel), List.mem_of_getElem? (i := 741) (by decide +kernel)⟩
theorem lw_p29 : lw_okq (⟨"EventGraphTextModel", "isCritical", "(JI)Z"⟩, 26) := ⟨⟨by decide +kernel, by decide +kernel⟩, List.mem_of_getElem? (i := 553) (by decide +kernel), List.mem_of_getElem? (i := 744) (by decide +kernel), List.mem_of_getElem? (i := 745) (by decide +kernel)⟩
theorem lw_p30 : lw_okq (⟨"EventGraphTextModel", "order", "(J)V"⟩, 26) := ⟨⟨by decide +kernel, by decide +kernel⟩, List.mem_of_getElem? (i := 553) (by decide +kernel), List.mem_of_getElem? (i := 748) (by decide +kernel), List.mem_of_getElem? (i := 749) (by decide +kernel)⟩
theorem lw_p31 : lw_okq (⟨"EventGraphTextModel", "nextOf", "(JJI)I"⟩, 26) := ⟨⟨by decide +kernel, by decide +kernel⟩, List.mem_of_getElem? (i := 553) (by decide +kernel), List.mem_of_getElem? (i := 752) (by decide +kernel), List.mem_of_getElem? (i := 753) (by decide +kernel)⟩
def lw_privs_2 : List (MethodName × Nat) := [(⟨"EventGraphTextModel", "shownBefore", "(JI)I"⟩, 26), (⟨"EventGraphTextModel", "hidden", "(J)J"⟩, 26), (⟨"EventGraphTextModel", "shownAt", "(JI)I"⟩, 26), (⟨"EventGraphTextModel", "behind", "(JI)I"⟩, 26), (⟨"EventGraphTextModel", "event", "(IZI)I"⟩, 26), (⟨"EventGraphTextModel", "tips", "(J)J"⟩, 26), (⟨"EventGraphTextModel", "intoRow", "(I)V"⟩, 26), (⟨"EventGraphTextModel", "stands", "(II)Z"⟩, 26), (⟨"EventGraphTextModel", "lower", "(II)Z"⟩, 26), (⟨"EventGraphTextModel", "none", "(I)Z"⟩, 26), (⟨"EventGraphTextModel", "whole", "(J)J"⟩, 26), (⟨"EventGraphTextModel", "merge", "(IJ)V"⟩, 26), (⟨"EventGraphTextModel", "top", "(JJ)I"⟩, 26), (⟨"EventGraphTextModel", "isCritical", "(JI)Z"⟩, 26), (⟨"EventGraphTextModel", "order", "(J)V"⟩, 26), (⟨"EventGraphTextModel", "nextOf", "(JJI)I"⟩, 26)]
theorem lw_r2 : ∀ q ∈ lw_privs_2, lw_okq q := List.forall_mem_cons.mpr ⟨lw_p16, List.forall_mem_cons.mpr ⟨lw_p17, List.forall_mem_cons.mpr ⟨lw_p18, List.forall_mem_cons.mpr ⟨lw_p19, List.forall_mem_cons.mpr ⟨lw_p20, List.forall_mem_cons.mpr ⟨lw_p21, List.forall_mem_cons.mpr ⟨lw_p22, List.forall_mem_cons.mpr ⟨lw_p23, List.forall_mem_cons.mpr ⟨lw_p24, List.forall_mem_cons.mpr ⟨lw_p25, List.forall_mem_cons.mpr ⟨lw_p26, List.forall_mem_cons.mpr ⟨lw_p27, List.forall_mem_cons.mpr ⟨lw_p28, List.forall_mem_cons.mpr ⟨lw_p29, List.forall_mem_cons.mpr ⟨lw_p30, List.forall_mem_cons.mpr ⟨lw_p31, fun _ h => absurd h List.not_mem_nil⟩⟩⟩⟩⟩⟩⟩⟩⟩⟩⟩⟩⟩⟩⟩⟩
theorem lw_p32 : lw_okq (⟨"EventGraphTextModel", "can", "(JJI)Z"⟩, 26) := ⟨⟨by decide +kernel, by decide +kernel⟩, List.mem_of_getElem? (i := 553) (by decide +kernel), List.mem_of_getElem? (i := 756) (by decide +kernel), List.mem_of_getElem? (i := 757) (by decide +kernel)⟩
theorem lw_p33 : lw_okq (⟨"EventGraphTextModel", "effect", "(JI)I"⟩, 26) := ⟨⟨by decide +kernel, by decide +kernel⟩, List.mem_of_getElem? (i := 553) (by decide +kernel), List.mem_of_getElem? (i := 760) (by decide +kernel), List.mem_of_getElem? (i := 761) (by decide +kernel)⟩
theorem lw_p34 : lw_okq (⟨"EventGraphTextModel", "write", "(I)V"⟩, 26) := ⟨⟨by decide +kernel, by decide +kernel⟩, List.mem_of_getElem? (i := 553) (by decide +kernel), List.mem_of_getElem? (i := 768) (by decide +kernel), List.mem_of_getElem? (i := 769) (by decide +kernel)⟩
theorem lw_p35 : lw_okq (⟨"EventGraphTextModel", "put", "(I)V"⟩, 26) := ⟨⟨by decide +kernel, by decide +kernel⟩, List.mem_of_getElem? (i := 553) (by decide +kernel), List.mem_of_getElem? (i := 772) (by decide +kernel), List.mem_of_getElem? (i := 773) (by decide +kernel)⟩
theorem lw_p36 : lw_okq (⟨"EventGraphTextModel", "putRuns", "()V"⟩, 26) := ⟨⟨by decide +kernel, by decide +kernel⟩, List.mem_of_getElem? (i := 553) (by decide +kernel), List.mem_of_getElem? (i := 776) (by decide +kernel), List.mem_of_getElem? (i := 777) (by decide +kernel)⟩
theorem lw_p37 : lw_okq (⟨"EventGraphTextModel", "putSigned", "(I)V"⟩, 26) := ⟨⟨by decide +kernel, by decide +kernel⟩, List.mem_of_getElem? (i := 553) (by decide +kernel), List.mem_of_getElem? (i := 780) (by decide +kernel), List.mem_of_getElem? (i := 781) (by decide +kernel)⟩
theorem lw_p38 : lw_okq (⟨"EventGraphTextModel", "putParents", "(I)V"⟩, 26) := ⟨⟨by decide +kernel, by decide +kernel⟩, List.mem_of_getElem? (i := 553) (by decide +kernel), List.mem_of_getElem? (i := 784) (by decide +kernel), List.mem_of_getElem? (i := 785) (by decide +kernel)⟩
theorem lw_p39 : lw_okq (⟨"EventGraphTextModel", "find", "(II)I"⟩, 26) := ⟨⟨by decide +kernel, by decide +kernel⟩, List.mem_of_getElem? (i := 553) (by decide +kernel), List.mem_of_getElem? (i := 808) (by decide +kernel), List.mem_of_getElem? (i := 809) (by decide +kernel)⟩
def lw_privs_3 : List (MethodName × Nat) := [(⟨"EventGraphTextModel", "can", "(JJI)Z"⟩, 26), (⟨"EventGraphTextModel", "effect", "(JI)I"⟩, 26), (⟨"EventGraphTextModel", "write", "(I)V"⟩, 26), (⟨"EventGraphTextModel", "put", "(I)V"⟩, 26), (⟨"EventGraphTextModel", "putRuns", "()V"⟩, 26), (⟨"EventGraphTextModel", "putSigned", "(I)V"⟩, 26), (⟨"EventGraphTextModel", "putParents", "(I)V"⟩, 26), (⟨"EventGraphTextModel", "find", "(II)I"⟩, 26)]
theorem lw_r3 : ∀ q ∈ lw_privs_3, lw_okq q := List.forall_mem_cons.mpr ⟨lw_p32, List.forall_mem_cons.mpr ⟨lw_p33, List.forall_mem_cons.mpr ⟨lw_p34, List.forall_mem_cons.mpr ⟨lw_p35, List.forall_mem_cons.mpr ⟨lw_p36, List.forall_mem_cons.mpr ⟨lw_p37, List.forall_mem_cons.mpr ⟨lw_p38, List.forall_mem_cons.mpr ⟨lw_p39, fun _ h => absurd h List.not_mem_nil⟩⟩⟩⟩⟩⟩⟩⟩
def lw_privs : List (MethodName × Nat) := lw_privs_1 ++ (lw_privs_2 ++ (lw_privs_3))
def lw_tbl : List Cond := k2_sels lw_privs ++ tables_1
theorem lw_privs_ok : ∀ q ∈ lw_privs, lw_okq q := by
  show ∀ q ∈ lw_privs_1 ++ (lw_privs_2 ++ (lw_privs_3)), lw_okq q
  exact List.forall_mem_append.mpr ⟨lw_r1, List.forall_mem_append.mpr ⟨lw_r2, lw_r3⟩⟩
end
section
def xG : List Cond := lw_tbl.filter goodWord
theorem xG_good : ∀ w ∈ xG, (w.onTables && w.keeps) = true ∨ ∃ ty, w = .arrayClass ty := fun _ h => good_of_word (List.mem_filter.mp h).2
theorem xG_of {w : Cond} (h : w ∈ lw_tbl) (hg : goodWord w = true) : w ∈ xG := List.mem_filter.mpr ⟨h, hg⟩
theorem xG_1 {w : Cond} (i : Nat) (h : tables_1_1[i]? = some w) (hg : goodWord w = true) : w ∈ xG := xG_of (List.mem_append_right _ (List.mem_append_left _ (List.mem_of_getElem? (i := i) h))) hg
theorem xG_2 {w : Cond} (i : Nat) (h : tables_1_2[i]? = some w) (hg : goodWord w = true) : w ∈ xG := xG_of (List.mem_append_right _ (List.mem_append_right _ (List.mem_append_left _ (List.mem_of_getElem? (i := i) h)))) hg
theorem xG_3 {w : Cond} (i : Nat) (h : tables_1_3[i]? = some w) (hg : goodWord w = true) : w ∈ xG := xG_of (List.mem_append_right _ (List.mem_append_right _ (List.mem_append_right _ (List.mem_append_left _ (List.mem_of_getElem? (i := i) h))))) hg
theorem xG_4 {w : Cond} (i : Nat) (h : tables_1_4[i]? = some w) (hg : goodWord w = true) : w ∈ xG := xG_of (List.mem_append_right _ (List.mem_append_right _ (List.mem_append_right _ (List.mem_append_right _ (List.mem_of_getElem? (i := i) h))))) hg
theorem xg0 {f g : Cond} (h : g ∈ xG) : GoodIn (f :: xG) (g :: xG) := fun w hw => by
  rcases List.mem_cons.mp hw with rfl | hw
  · exact ⟨List.mem_cons_of_mem _ h, xG_good _ h⟩
  · exact ⟨List.mem_cons_of_mem _ hw, xG_good _ hw⟩
theorem xg1 {f g : Cond} {ws : List Cond} (h : ∀ w ∈ ws, w ∈ xG) (hg : g ∈ xG) : GoodIn (f :: xG) (ws ++ (g :: xG)) := fun w hw => by
  rcases List.mem_append.mp hw with hw | hw
  · exact ⟨List.mem_cons_of_mem _ (h w hw), xG_good _ (h w hw)⟩
  · exact xg0 hg w hw
theorem xgV {f g : Cond} {own C : String} {idx : Nat} {y : MethodName} (h1 : Cond.methodLink own idx y ∈ xG) (h2 : Cond.instanceMethod y ∈ xG) (h3 : Cond.selects C y y ∈ xG) (h4 : Cond.initialized C ∈ xG) (h5 : g ∈ xG) : GoodIn (f :: xG) (wsV own idx C y (g :: xG)) :=
  xg1 (ws := [.methodLink own idx y, .instanceMethod y, .selects C y y, .initialized C]) (List.forall_mem_cons.mpr ⟨h1, List.forall_mem_cons.mpr ⟨h2, List.forall_mem_cons.mpr ⟨h3, List.forall_mem_cons.mpr ⟨h4, fun _ h => absurd h List.not_mem_nil⟩⟩⟩⟩) h5
theorem xgS {f g : Cond} {own : String} {idx : Nat} {y : MethodName} (h1 : Cond.methodLink own idx y ∈ xG) (h2 : Cond.static y ∈ xG) (h3 : Cond.initialized y.cls ∈ xG) (h5 : g ∈ xG) : GoodIn (f :: xG) (va_wsS own idx y (g :: xG)) :=
  xg1 (ws := [.methodLink own idx y, .static y, .initialized y.cls]) (List.forall_mem_cons.mpr ⟨h1, List.forall_mem_cons.mpr ⟨h2, List.forall_mem_cons.mpr ⟨h3, fun _ h => absurd h List.not_mem_nil⟩⟩⟩) h5
theorem wd_33 : (Cond.fieldLink "EventGraphText$History" 37 "EventGraphText$History" "count" "I") ∈ xG := xG_1 33 rfl rfl
theorem wd_220 : (Cond.code ⟨"EventGraphText", "bit", "(I)J"⟩ prog_1_method_25_code 1 (some .long)) ∈ xG := xG_1 220 rfl rfl
theorem wd_218 : (Cond.methodLink "EventGraphText" 78 ⟨"EventGraphText", "bit", "(I)J"⟩) ∈ xG := xG_1 218 rfl rfl
theorem wd_219 : (Cond.static ⟨"EventGraphText", "bit", "(I)J"⟩) ∈ xG := xG_1 219 rfl rfl
theorem wd_1 : (Cond.initialized "EventGraphText") ∈ xG := xG_1 1 rfl rfl
theorem wd_67 : (Cond.fieldLink "EventGraphText$CharacterList" 33 "EventGraphText$CharacterList" "inserts" "J") ∈ xG := xG_1 67 rfl rfl
theorem wd_222 : (Cond.constantLong "EventGraphText$CharacterList" 48 (-1)) ∈ xG := xG_1 222 rfl rfl
theorem wd_66 : (Cond.fieldLink "EventGraphText$CharacterList" 29 "EventGraphText$CharacterList" "deletes" "J") ∈ xG := xG_1 66 rfl rfl
theorem wd_217 : (Cond.code ⟨"EventGraphText", "has", "(JI)Z"⟩ prog_1_method_26_code 3 (some .boolean)) ∈ xG := xG_1 217 rfl rfl
theorem wd_216 : (Cond.static ⟨"EventGraphText", "has", "(JI)Z"⟩) ∈ xG := xG_1 216 rfl rfl
theorem wd_65 : (Cond.fieldLink "EventGraphText$CharacterList" 26 "EventGraphText$CharacterList" "taken" "[I") ∈ xG := xG_1 65 rfl rfl
theorem wd_226 : (Cond.constantLong "java/lang/Long" 314 6148914691236517205) ∈ xG := xG_1 226 rfl rfl
theorem wd_227 : (Cond.constantLong "java/lang/Long" 316 3689348814741910323) ∈ xG := xG_1 227 rfl rfl
theorem wd_228 : (Cond.constantLong "java/lang/Long" 318 1085102592571150095) ∈ xG := xG_1 228 rfl rfl
theorem wd_68 : (Cond.fieldLink "EventGraphText$CharacterList" 36 "EventGraphText$CharacterList" "count" "I") ∈ xG := xG_1 68 rfl rfl
theorem wd_61 : (Cond.fieldLink "EventGraphText$CharacterList" 9 "EventGraphText$CharacterList" "order" "[I") ∈ xG := xG_1 61 rfl rfl
theorem wd_29 : (Cond.fieldLink "EventGraphText$History" 24 "EventGraphText$History" "parents" "[J") ∈ xG := xG_1 29 rfl rfl
theorem wd_244 : (Cond.code ⟨"EventGraphText$History", "parentsOfAll", "(J)J"⟩ prog_3_method_18_code 6 (some .long)) ∈ xG := xG_2 4 rfl rfl
theorem wd_241 : (Cond.methodLink "EventGraphText$History" 61 ⟨"EventGraphText$History", "parentsOfAll", "(J)J"⟩) ∈ xG := xG_2 1 rfl rfl
theorem wd_242 : (Cond.instanceMethod ⟨"EventGraphText$History", "parentsOfAll", "(J)J"⟩) ∈ xG := xG_2 2 rfl rfl
theorem wd_243 : (Cond.selects "EventGraphText$History" ⟨"EventGraphText$History", "parentsOfAll", "(J)J"⟩ ⟨"EventGraphText$History", "parentsOfAll", "(J)J"⟩) ∈ xG := xG_2 3 rfl rfl
theorem wd_2 : (Cond.initialized "EventGraphText$History") ∈ xG := xG_1 2 rfl rfl
theorem wd_246 : (Cond.constantLong "EventGraphText$History" 64 (-1)) ∈ xG := xG_2 6 rfl rfl
theorem wd_25 : (Cond.fieldLink "EventGraphText$History" 9 "EventGraphText$History" "sites" "[I") ∈ xG := xG_1 25 rfl rfl
theorem wd_26 : (Cond.fieldLink "EventGraphText$History" 15 "EventGraphText$History" "numbers" "[I") ∈ xG := xG_1 26 rfl rfl
theorem wd_32 : (Cond.fieldLink "EventGraphText$History" 34 "EventGraphText$History" "made" "[I") ∈ xG := xG_1 32 rfl rfl
theorem wd_27 : (Cond.fieldLink "EventGraphText$History" 18 "EventGraphText$History" "indices" "[I") ∈ xG := xG_1 27 rfl rfl
theorem wd_28 : (Cond.fieldLink "EventGraphText$History" 21 "EventGraphText$History" "characters" "[I") ∈ xG := xG_1 28 rfl rfl
theorem wd_240 : (Cond.code ⟨"EventGraphText$History", "headsOf", "(J)J"⟩ prog_3_method_19_code 3 (some .long)) ∈ xG := xG_2 0 rfl rfl
theorem wd_237 : (Cond.methodLink "EventGraphText$History" 41 ⟨"EventGraphText$History", "headsOf", "(J)J"⟩) ∈ xG := xG_1 237 rfl rfl
theorem wd_238 : (Cond.instanceMethod ⟨"EventGraphText$History", "headsOf", "(J)J"⟩) ∈ xG := xG_1 238 rfl rfl
theorem wd_239 : (Cond.selects "EventGraphText$History" ⟨"EventGraphText$History", "headsOf", "(J)J"⟩ ⟨"EventGraphText$History", "headsOf", "(J)J"⟩) ∈ xG := xG_1 239 rfl rfl
theorem wd_30 : (Cond.fieldLink "EventGraphText$History" 28 "EventGraphText$History" "ancestors" "[J") ∈ xG := xG_1 30 rfl rfl
theorem wd_31 : (Cond.fieldLink "EventGraphText$History" 31 "EventGraphText$History" "slots" "[I") ∈ xG := xG_1 31 rfl rfl
theorem wd_62 : (Cond.fieldLink "EventGraphText$CharacterList" 15 "EventGraphText$CharacterList" "holders" "[I") ∈ xG := xG_1 62 rfl rfl
theorem wd_63 : (Cond.fieldLink "EventGraphText$CharacterList" 18 "EventGraphText$CharacterList" "onTheRight" "[Z") ∈ xG := xG_1 63 rfl rfl
theorem wd_254 : (Cond.code ⟨"EventGraphText$CharacterList", "childrenOf", "(IZ)J"⟩ prog_2_method_8_code 7 (some .long)) ∈ xG := xG_2 14 rfl rfl
theorem wd_251 : (Cond.methodLink "EventGraphText$CharacterList" 50 ⟨"EventGraphText$CharacterList", "childrenOf", "(IZ)J"⟩) ∈ xG := xG_2 11 rfl rfl
theorem wd_253 : (Cond.instanceMethod ⟨"EventGraphText$CharacterList", "childrenOf", "(IZ)J"⟩) ∈ xG := xG_2 13 rfl rfl
theorem wds_0 : (Cond.selects "EventGraphText$CharacterList" ⟨"EventGraphText$CharacterList", "childrenOf", "(IZ)J"⟩ ⟨"EventGraphText$CharacterList", "childrenOf", "(IZ)J"⟩) ∈ xG := xG_of (List.mem_append_left _ (by decide +kernel)) rfl
theorem wd_3 : (Cond.initialized "EventGraphText$CharacterList") ∈ xG := xG_1 3 rfl rfl
theorem wd_270 : (Cond.code ⟨"EventGraphText$History", "comesBefore", "(II)Z"⟩ prog_3_method_15_code 3 (some .boolean)) ∈ xG := xG_2 30 rfl rfl
theorem wd_267 : (Cond.methodLink "EventGraphText$CharacterList" 69 ⟨"EventGraphText$History", "comesBefore", "(II)Z"⟩) ∈ xG := xG_2 27 rfl rfl
theorem wd_268 : (Cond.instanceMethod ⟨"EventGraphText$History", "comesBefore", "(II)Z"⟩) ∈ xG := xG_2 28 rfl rfl
theorem wd_269 : (Cond.selects "EventGraphText$History" ⟨"EventGraphText$History", "comesBefore", "(II)Z"⟩ ⟨"EventGraphText$History", "comesBefore", "(II)Z"⟩) ∈ xG := xG_2 29 rfl rfl
theorem wd_266 : (Cond.code ⟨"EventGraphText$CharacterList", "nearerSiblings", "(LEventGraphText$History;IIZ)J"⟩ prog_2_method_12_code 11 (some .long)) ∈ xG := xG_2 26 rfl rfl
theorem wd_263 : (Cond.methodLink "EventGraphText$CharacterList" 65 ⟨"EventGraphText$CharacterList", "nearerSiblings", "(LEventGraphText$History;IIZ)J"⟩) ∈ xG := xG_2 23 rfl rfl
theorem wd_265 : (Cond.instanceMethod ⟨"EventGraphText$CharacterList", "nearerSiblings", "(LEventGraphText$History;IIZ)J"⟩) ∈ xG := xG_2 25 rfl rfl
theorem wds_1 : (Cond.selects "EventGraphText$CharacterList" ⟨"EventGraphText$CharacterList", "nearerSiblings", "(LEventGraphText$History;IIZ)J"⟩ ⟨"EventGraphText$CharacterList", "nearerSiblings", "(LEventGraphText$History;IIZ)J"⟩) ∈ xG := xG_of (List.mem_append_left _ (by decide +kernel)) rfl
theorem wd_64 : (Cond.fieldLink "EventGraphText$CharacterList" 22 "EventGraphText$CharacterList" "chains" "[J") ∈ xG := xG_1 64 rfl rfl
theorem wd_258 : (Cond.code ⟨"EventGraphText$CharacterList", "nextBehind", "(IJ)I"⟩ prog_2_method_9_code 6 (some .int)) ∈ xG := xG_2 18 rfl rfl
theorem wd_255 : (Cond.methodLink "EventGraphText$CharacterList" 54 ⟨"EventGraphText$CharacterList", "nextBehind", "(IJ)I"⟩) ∈ xG := xG_2 15 rfl rfl
theorem wd_257 : (Cond.instanceMethod ⟨"EventGraphText$CharacterList", "nextBehind", "(IJ)I"⟩) ∈ xG := xG_2 17 rfl rfl
theorem wds_2 : (Cond.selects "EventGraphText$CharacterList" ⟨"EventGraphText$CharacterList", "nextBehind", "(IJ)I"⟩ ⟨"EventGraphText$CharacterList", "nextBehind", "(IJ)I"⟩) ∈ xG := xG_of (List.mem_append_left _ (by decide +kernel)) rfl
theorem wd_274 : (Cond.code ⟨"EventGraphText$CharacterList", "leftPosition", "(LEventGraphText$History;II)I"⟩ prog_2_method_10_code 7 (some .int)) ∈ xG := xG_2 34 rfl rfl
theorem wd_271 : (Cond.methodLink "EventGraphText$CharacterList" 62 ⟨"EventGraphText$CharacterList", "leftPosition", "(LEventGraphText$History;II)I"⟩) ∈ xG := xG_2 31 rfl rfl
theorem wd_273 : (Cond.instanceMethod ⟨"EventGraphText$CharacterList", "leftPosition", "(LEventGraphText$History;II)I"⟩) ∈ xG := xG_2 33 rfl rfl
theorem wds_3 : (Cond.selects "EventGraphText$CharacterList" ⟨"EventGraphText$CharacterList", "leftPosition", "(LEventGraphText$History;II)I"⟩ ⟨"EventGraphText$CharacterList", "leftPosition", "(LEventGraphText$History;II)I"⟩) ∈ xG := xG_of (List.mem_append_left _ (by decide +kernel)) rfl
theorem wd_262 : (Cond.code ⟨"EventGraphText$CharacterList", "rightPosition", "(LEventGraphText$History;II)I"⟩ prog_2_method_11_code 7 (some .int)) ∈ xG := xG_2 22 rfl rfl
theorem wd_259 : (Cond.methodLink "EventGraphText$CharacterList" 58 ⟨"EventGraphText$CharacterList", "rightPosition", "(LEventGraphText$History;II)I"⟩) ∈ xG := xG_2 19 rfl rfl
theorem wd_261 : (Cond.instanceMethod ⟨"EventGraphText$CharacterList", "rightPosition", "(LEventGraphText$History;II)I"⟩) ∈ xG := xG_2 21 rfl rfl
theorem wds_4 : (Cond.selects "EventGraphText$CharacterList" ⟨"EventGraphText$CharacterList", "rightPosition", "(LEventGraphText$History;II)I"⟩ ⟨"EventGraphText$CharacterList", "rightPosition", "(LEventGraphText$History;II)I"⟩) ∈ xG := xG_of (List.mem_append_left _ (by decide +kernel)) rfl
theorem wd_206 : (Cond.code ⟨"EventGraphText", "isSite", "(I)Z"⟩ prog_1_method_23_code 1 (some .boolean)) ∈ xG := xG_1 206 rfl rfl
theorem wd_204 : (Cond.methodLink "EventGraphText" 44 ⟨"EventGraphText", "isSite", "(I)Z"⟩) ∈ xG := xG_1 204 rfl rfl
theorem wd_205 : (Cond.static ⟨"EventGraphText", "isSite", "(I)Z"⟩) ∈ xG := xG_1 205 rfl rfl
theorem wd_184 : (Cond.fieldLink "EventGraphText" 10 "EventGraphText" "history" "LEventGraphText$History;") ∈ xG := xG_1 184 rfl rfl
theorem wd_210 : (Cond.code ⟨"EventGraphText$History", "isFull", "()Z"⟩ prog_3_method_2_code 1 (some .boolean)) ∈ xG := xG_1 210 rfl rfl
theorem wd_207 : (Cond.methodLink "EventGraphText" 48 ⟨"EventGraphText$History", "isFull", "()Z"⟩) ∈ xG := xG_1 207 rfl rfl
theorem wd_208 : (Cond.instanceMethod ⟨"EventGraphText$History", "isFull", "()Z"⟩) ∈ xG := xG_1 208 rfl rfl
theorem wd_209 : (Cond.selects "EventGraphText$History" ⟨"EventGraphText$History", "isFull", "()Z"⟩ ⟨"EventGraphText$History", "isFull", "()Z"⟩) ∈ xG := xG_1 209 rfl rfl
theorem wd_187 : (Cond.fieldLink "EventGraphText" 32 "EventGraphText" "sites" "[LEventGraphText$Site;") ∈ xG := xG_1 187 rfl rfl
theorem wd_185 : (Cond.fieldLink "EventGraphText" 19 "EventGraphText" "characters" "LEventGraphText$CharacterList;") ∈ xG := xG_1 185 rfl rfl
theorem wd_214 : (Cond.code ⟨"EventGraphText$CharacterList", "shownIn", "(J)J"⟩ prog_2_method_4_code 6 (some .long)) ∈ xG := xG_1 214 rfl rfl
theorem wd_211 : (Cond.methodLink "EventGraphText" 56 ⟨"EventGraphText$CharacterList", "shownIn", "(J)J"⟩) ∈ xG := xG_1 211 rfl rfl
theorem wd_212 : (Cond.instanceMethod ⟨"EventGraphText$CharacterList", "shownIn", "(J)J"⟩) ∈ xG := xG_1 212 rfl rfl
theorem wd_213 : (Cond.selects "EventGraphText$CharacterList" ⟨"EventGraphText$CharacterList", "shownIn", "(J)J"⟩ ⟨"EventGraphText$CharacterList", "shownIn", "(J)J"⟩) ∈ xG := xG_1 213 rfl rfl
theorem wd_225 : (Cond.code ⟨"java/lang/Long", "bitCount", "(J)I"⟩ prog_11_method_50_code 2 (some .int)) ∈ xG := xG_1 225 rfl rfl
theorem wd_223 : (Cond.methodLink "EventGraphText" 60 ⟨"java/lang/Long", "bitCount", "(J)I"⟩) ∈ xG := xG_1 223 rfl rfl
theorem wd_224 : (Cond.static ⟨"java/lang/Long", "bitCount", "(J)I"⟩) ∈ xG := xG_1 224 rfl rfl
theorem wd_10 : (Cond.initialized "java/lang/Long") ∈ xG := xG_1 10 rfl rfl
theorem wd_232 : (Cond.code ⟨"EventGraphText$CharacterList", "shownAt", "(JI)I"⟩ prog_2_method_5_code 6 (some .int)) ∈ xG := xG_1 232 rfl rfl
theorem wd_229 : (Cond.methodLink "EventGraphText" 66 ⟨"EventGraphText$CharacterList", "shownAt", "(JI)I"⟩) ∈ xG := xG_1 229 rfl rfl
theorem wd_230 : (Cond.instanceMethod ⟨"EventGraphText$CharacterList", "shownAt", "(JI)I"⟩) ∈ xG := xG_1 230 rfl rfl
theorem wd_231 : (Cond.selects "EventGraphText$CharacterList" ⟨"EventGraphText$CharacterList", "shownAt", "(JI)I"⟩ ⟨"EventGraphText$CharacterList", "shownAt", "(JI)I"⟩) ∈ xG := xG_1 231 rfl rfl
theorem wd_236 : (Cond.code ⟨"EventGraphText$History", "record", "(IIIJ)I"⟩ prog_3_method_3_code 7 (some .int)) ∈ xG := xG_1 236 rfl rfl
theorem wd_233 : (Cond.methodLink "EventGraphText" 70 ⟨"EventGraphText$History", "record", "(IIIJ)I"⟩) ∈ xG := xG_1 233 rfl rfl
theorem wd_234 : (Cond.instanceMethod ⟨"EventGraphText$History", "record", "(IIIJ)I"⟩) ∈ xG := xG_1 234 rfl rfl
theorem wd_235 : (Cond.selects "EventGraphText$History" ⟨"EventGraphText$History", "record", "(IIIJ)I"⟩ ⟨"EventGraphText$History", "record", "(IIIJ)I"⟩) ∈ xG := xG_1 235 rfl rfl
theorem wd_250 : (Cond.code ⟨"EventGraphText$CharacterList", "putBehind", "(LEventGraphText$History;IIJ)V"⟩ prog_2_method_7_code 10 none) ∈ xG := xG_2 10 rfl rfl
theorem wd_247 : (Cond.methodLink "EventGraphText" 74 ⟨"EventGraphText$CharacterList", "putBehind", "(LEventGraphText$History;IIJ)V"⟩) ∈ xG := xG_2 7 rfl rfl
theorem wd_248 : (Cond.instanceMethod ⟨"EventGraphText$CharacterList", "putBehind", "(LEventGraphText$History;IIJ)V"⟩) ∈ xG := xG_2 8 rfl rfl
theorem wd_249 : (Cond.selects "EventGraphText$CharacterList" ⟨"EventGraphText$CharacterList", "putBehind", "(LEventGraphText$History;IIJ)V"⟩ ⟨"EventGraphText$CharacterList", "putBehind", "(LEventGraphText$History;IIJ)V"⟩) ∈ xG := xG_2 9 rfl rfl
theorem wd_278 : (Cond.code ⟨"EventGraphText$History", "numberOf", "(I)I"⟩ prog_3_method_7_code 2 (some .int)) ∈ xG := xG_2 38 rfl rfl
theorem wd_275 : (Cond.methodLink "EventGraphText" 82 ⟨"EventGraphText$History", "numberOf", "(I)I"⟩) ∈ xG := xG_2 35 rfl rfl
theorem wd_276 : (Cond.instanceMethod ⟨"EventGraphText$History", "numberOf", "(I)I"⟩) ∈ xG := xG_2 36 rfl rfl
theorem wd_277 : (Cond.selects "EventGraphText$History" ⟨"EventGraphText$History", "numberOf", "(I)I"⟩ ⟨"EventGraphText$History", "numberOf", "(I)I"⟩) ∈ xG := xG_2 37 rfl rfl
theorem wd_286 : (Cond.code ⟨"EventGraphText$CharacterList", "hide", "(II)V"⟩ prog_2_method_2_code 3 none) ∈ xG := xG_2 46 rfl rfl
theorem wd_283 : (Cond.methodLink "EventGraphText" 86 ⟨"EventGraphText$CharacterList", "hide", "(II)V"⟩) ∈ xG := xG_2 43 rfl rfl
theorem wd_284 : (Cond.instanceMethod ⟨"EventGraphText$CharacterList", "hide", "(II)V"⟩) ∈ xG := xG_2 44 rfl rfl
theorem wd_285 : (Cond.selects "EventGraphText$CharacterList" ⟨"EventGraphText$CharacterList", "hide", "(II)V"⟩ ⟨"EventGraphText$CharacterList", "hide", "(II)V"⟩) ∈ xG := xG_2 45 rfl rfl
theorem wd_298 : (Cond.code ⟨"EventGraphText$History", "characterOf", "(I)I"⟩ prog_3_method_9_code 2 (some .int)) ∈ xG := xG_2 58 rfl rfl
theorem wd_295 : (Cond.methodLink "EventGraphText" 90 ⟨"EventGraphText$History", "characterOf", "(I)I"⟩) ∈ xG := xG_2 55 rfl rfl
theorem wd_296 : (Cond.instanceMethod ⟨"EventGraphText$History", "characterOf", "(I)I"⟩) ∈ xG := xG_2 56 rfl rfl
theorem wd_297 : (Cond.selects "EventGraphText$History" ⟨"EventGraphText$History", "characterOf", "(I)I"⟩ ⟨"EventGraphText$History", "characterOf", "(I)I"⟩) ∈ xG := xG_2 57 rfl rfl
theorem wd_188 : (Cond.fieldLink "EventGraphText" 39 "EventGraphText" "messages" "[LEventGraphText$Message;") ∈ xG := xG_1 188 rfl rfl
theorem wd_324 : (Cond.methodLink "EventGraphText$History" 57 ⟨"EventGraphText$History", "comesBefore", "(II)Z"⟩) ∈ xG := xG_2 84 rfl rfl
theorem wd_323 : (Cond.code ⟨"EventGraphText$History", "leastOf", "(J)I"⟩ prog_3_method_16_code 5 (some .int)) ∈ xG := xG_2 83 rfl rfl
theorem wd_320 : (Cond.methodLink "EventGraphText$History" 77 ⟨"EventGraphText$History", "leastOf", "(J)I"⟩) ∈ xG := xG_2 80 rfl rfl
theorem wd_321 : (Cond.instanceMethod ⟨"EventGraphText$History", "leastOf", "(J)I"⟩) ∈ xG := xG_2 81 rfl rfl
theorem wd_322 : (Cond.selects "EventGraphText$History" ⟨"EventGraphText$History", "leastOf", "(J)I"⟩ ⟨"EventGraphText$History", "leastOf", "(J)I"⟩) ∈ xG := xG_2 82 rfl rfl
theorem wd_318 : (Cond.code ⟨"EventGraphText$History", "nextOf", "(JI)I"⟩ prog_3_method_23_code 9 (some .int)) ∈ xG := xG_2 78 rfl rfl
theorem wd_315 : (Cond.methodLink "EventGraphText$Line" 19 ⟨"EventGraphText$History", "nextOf", "(JI)I"⟩) ∈ xG := xG_2 75 rfl rfl
theorem wd_316 : (Cond.instanceMethod ⟨"EventGraphText$History", "nextOf", "(JI)I"⟩) ∈ xG := xG_2 76 rfl rfl
theorem wd_317 : (Cond.selects "EventGraphText$History" ⟨"EventGraphText$History", "nextOf", "(JI)I"⟩ ⟨"EventGraphText$History", "nextOf", "(JI)I"⟩) ∈ xG := xG_2 77 rfl rfl
theorem wd_94 : (Cond.fieldLink "EventGraphText$Line" 15 "EventGraphText$Line" "count" "I") ∈ xG := xG_1 94 rfl rfl
theorem wd_93 : (Cond.fieldLink "EventGraphText$Line" 9 "EventGraphText$Line" "slots" "[I") ∈ xG := xG_1 93 rfl rfl
theorem wd_326 : (Cond.constantLong "EventGraphText$Line" 29 (-1)) ∈ xG := xG_2 86 rfl rfl
theorem wd_165 : (Cond.fieldLink "EventGraphText$Message" 18 "EventGraphText$Message" "underWay" "Z") ∈ xG := xG_1 165 rfl rfl
theorem wd_167 : (Cond.fieldLink "EventGraphText$Message" 22 "EventGraphText$Message" "from" "I") ∈ xG := xG_1 167 rfl rfl
theorem wd_169 : (Cond.fieldLink "EventGraphText$Message" 26 "EventGraphText$Message" "to" "I") ∈ xG := xG_1 169 rfl rfl
theorem wd_171 : (Cond.fieldLink "EventGraphText$Message" 29 "EventGraphText$Message" "carried" "J") ∈ xG := xG_1 171 rfl rfl
theorem wd_157 : (Cond.fieldLink "EventGraphText$OctetRow" 15 "EventGraphText$OctetRow" "count" "I") ∈ xG := xG_1 157 rfl rfl
theorem wd_156 : (Cond.fieldLink "EventGraphText$OctetRow" 11 "EventGraphText$OctetRow" "row" "[I") ∈ xG := xG_1 156 rfl rfl
theorem wd_350 : (Cond.code ⟨"EventGraphText$OctetRow", "add", "(I)V"⟩ prog_7_method_7_code 2 none) ∈ xG := xG_2 110 rfl rfl
theorem wd_347 : (Cond.methodLink "EventGraphText$OctetRow" 19 ⟨"EventGraphText$OctetRow", "add", "(I)V"⟩) ∈ xG := xG_2 107 rfl rfl
theorem wd_349 : (Cond.instanceMethod ⟨"EventGraphText$OctetRow", "add", "(I)V"⟩) ∈ xG := xG_2 109 rfl rfl
theorem wds_5 : (Cond.selects "EventGraphText$OctetRow" ⟨"EventGraphText$OctetRow", "add", "(I)V"⟩ ⟨"EventGraphText$OctetRow", "add", "(I)V"⟩) ∈ xG := xG_of (List.mem_append_left _ (by decide +kernel)) rfl
theorem wd_8 : (Cond.initialized "EventGraphText$OctetRow") ∈ xG := xG_1 8 rfl rfl
theorem wd_342 : (Cond.code ⟨"EventGraphText$Line", "size", "()I"⟩ prog_4_method_3_code 1 (some .int)) ∈ xG := xG_2 102 rfl rfl
theorem wd_339 : (Cond.methodLink "EventGraphText$Message" 36 ⟨"EventGraphText$Line", "size", "()I"⟩) ∈ xG := xG_2 99 rfl rfl
theorem wd_340 : (Cond.instanceMethod ⟨"EventGraphText$Line", "size", "()I"⟩) ∈ xG := xG_2 100 rfl rfl
theorem wd_341 : (Cond.selects "EventGraphText$Line" ⟨"EventGraphText$Line", "size", "()I"⟩ ⟨"EventGraphText$Line", "size", "()I"⟩) ∈ xG := xG_2 101 rfl rfl
theorem wd_4 : (Cond.initialized "EventGraphText$Line") ∈ xG := xG_1 4 rfl rfl
theorem wd_358 : (Cond.code ⟨"EventGraphText$Line", "get", "(I)I"⟩ prog_4_method_4_code 2 (some .int)) ∈ xG := xG_2 118 rfl rfl
theorem wd_355 : (Cond.methodLink "EventGraphText$Message" 62 ⟨"EventGraphText$Line", "get", "(I)I"⟩) ∈ xG := xG_2 115 rfl rfl
theorem wd_356 : (Cond.instanceMethod ⟨"EventGraphText$Line", "get", "(I)I"⟩) ∈ xG := xG_2 116 rfl rfl
theorem wd_357 : (Cond.selects "EventGraphText$Line" ⟨"EventGraphText$Line", "get", "(I)I"⟩ ⟨"EventGraphText$Line", "get", "(I)I"⟩) ∈ xG := xG_2 117 rfl rfl
theorem wd_362 : (Cond.code ⟨"EventGraphText$History", "siteOf", "(I)I"⟩ prog_3_method_6_code 2 (some .int)) ∈ xG := xG_2 122 rfl rfl
theorem wd_359 : (Cond.methodLink "EventGraphText$Message" 66 ⟨"EventGraphText$History", "siteOf", "(I)I"⟩) ∈ xG := xG_2 119 rfl rfl
theorem wd_360 : (Cond.instanceMethod ⟨"EventGraphText$History", "siteOf", "(I)I"⟩) ∈ xG := xG_2 120 rfl rfl
theorem wd_361 : (Cond.selects "EventGraphText$History" ⟨"EventGraphText$History", "siteOf", "(I)I"⟩ ⟨"EventGraphText$History", "siteOf", "(I)I"⟩) ∈ xG := xG_2 121 rfl rfl
theorem wd_163 : (Cond.fieldLink "EventGraphText$Message" 12 "EventGraphText$Message" "octets" "LEventGraphText$OctetRow;") ∈ xG := xG_1 163 rfl rfl
theorem wd_346 : (Cond.code ⟨"EventGraphText$OctetRow", "put", "(I)V"⟩ prog_7_method_5_code 4 none) ∈ xG := xG_2 106 rfl rfl
theorem wd_343 : (Cond.methodLink "EventGraphText$Message" 42 ⟨"EventGraphText$OctetRow", "put", "(I)V"⟩) ∈ xG := xG_2 103 rfl rfl
theorem wd_344 : (Cond.instanceMethod ⟨"EventGraphText$OctetRow", "put", "(I)V"⟩) ∈ xG := xG_2 104 rfl rfl
theorem wd_345 : (Cond.selects "EventGraphText$OctetRow" ⟨"EventGraphText$OctetRow", "put", "(I)V"⟩ ⟨"EventGraphText$OctetRow", "put", "(I)V"⟩) ∈ xG := xG_2 105 rfl rfl
theorem wd_363 : (Cond.methodLink "EventGraphText$Message" 71 ⟨"EventGraphText$History", "numberOf", "(I)I"⟩) ∈ xG := xG_2 123 rfl rfl
theorem wd_371 : (Cond.code ⟨"EventGraphText$History", "isInsert", "(I)Z"⟩ prog_3_method_10_code 2 (some .boolean)) ∈ xG := xG_2 131 rfl rfl
theorem wd_368 : (Cond.methodLink "EventGraphText$Message" 74 ⟨"EventGraphText$History", "isInsert", "(I)Z"⟩) ∈ xG := xG_2 128 rfl rfl
theorem wd_369 : (Cond.instanceMethod ⟨"EventGraphText$History", "isInsert", "(I)Z"⟩) ∈ xG := xG_2 129 rfl rfl
theorem wd_370 : (Cond.selects "EventGraphText$History" ⟨"EventGraphText$History", "isInsert", "(I)Z"⟩ ⟨"EventGraphText$History", "isInsert", "(I)Z"⟩) ∈ xG := xG_2 130 rfl rfl
theorem wd_384 : (Cond.methodLink "EventGraphText$OctetRow" 23 ⟨"EventGraphText$OctetRow", "put", "(I)V"⟩) ∈ xG := xG_2 144 rfl rfl
theorem wd_379 : (Cond.code ⟨"EventGraphText$History", "indexOf", "(I)I"⟩ prog_3_method_8_code 2 (some .int)) ∈ xG := xG_2 139 rfl rfl
theorem wd_376 : (Cond.methodLink "EventGraphText$Message" 78 ⟨"EventGraphText$History", "indexOf", "(I)I"⟩) ∈ xG := xG_2 136 rfl rfl
theorem wd_377 : (Cond.instanceMethod ⟨"EventGraphText$History", "indexOf", "(I)I"⟩) ∈ xG := xG_2 137 rfl rfl
theorem wd_378 : (Cond.selects "EventGraphText$History" ⟨"EventGraphText$History", "indexOf", "(I)I"⟩ ⟨"EventGraphText$History", "indexOf", "(I)I"⟩) ∈ xG := xG_2 138 rfl rfl
theorem wd_383 : (Cond.code ⟨"EventGraphText$OctetRow", "putSigned", "(I)V"⟩ prog_7_method_6_code 2 none) ∈ xG := xG_2 143 rfl rfl
theorem wd_380 : (Cond.methodLink "EventGraphText$Message" 81 ⟨"EventGraphText$OctetRow", "putSigned", "(I)V"⟩) ∈ xG := xG_2 140 rfl rfl
theorem wd_381 : (Cond.instanceMethod ⟨"EventGraphText$OctetRow", "putSigned", "(I)V"⟩) ∈ xG := xG_2 141 rfl rfl
theorem wd_382 : (Cond.selects "EventGraphText$OctetRow" ⟨"EventGraphText$OctetRow", "putSigned", "(I)V"⟩ ⟨"EventGraphText$OctetRow", "putSigned", "(I)V"⟩) ∈ xG := xG_2 142 rfl rfl
theorem wd_389 : (Cond.methodLink "EventGraphText$Message" 84 ⟨"EventGraphText$History", "characterOf", "(I)I"⟩) ∈ xG := xG_2 149 rfl rfl
theorem wd_403 : (Cond.methodLink "EventGraphText$Message" 98 ⟨"java/lang/Long", "bitCount", "(J)I"⟩) ∈ xG := xG_2 163 rfl rfl
theorem wd_404 : (Cond.methodLink "EventGraphText$Message" 104 ⟨"EventGraphText$History", "leastOf", "(J)I"⟩) ∈ xG := xG_2 164 rfl rfl
theorem wd_408 : (Cond.code ⟨"EventGraphText$History", "codeOf", "(I)I"⟩ prog_3_method_13_code 2 (some .int)) ∈ xG := xG_2 168 rfl rfl
theorem wd_405 : (Cond.methodLink "EventGraphText$Message" 107 ⟨"EventGraphText$History", "codeOf", "(I)I"⟩) ∈ xG := xG_2 165 rfl rfl
theorem wd_406 : (Cond.instanceMethod ⟨"EventGraphText$History", "codeOf", "(I)I"⟩) ∈ xG := xG_2 166 rfl rfl
theorem wd_407 : (Cond.selects "EventGraphText$History" ⟨"EventGraphText$History", "codeOf", "(I)I"⟩ ⟨"EventGraphText$History", "codeOf", "(I)I"⟩) ∈ xG := xG_2 167 rfl rfl
theorem wd_409 : (Cond.constantLong "EventGraphText$Message" 110 (-1)) ∈ xG := xG_2 169 rfl rfl
theorem wd_397 : (Cond.code ⟨"EventGraphText$History", "parentsOf", "(I)J"⟩ prog_3_method_11_code 2 (some .long)) ∈ xG := xG_2 157 rfl rfl
theorem wd_394 : (Cond.methodLink "EventGraphText$Message" 87 ⟨"EventGraphText$History", "parentsOf", "(I)J"⟩) ∈ xG := xG_2 154 rfl rfl
theorem wd_395 : (Cond.instanceMethod ⟨"EventGraphText$History", "parentsOf", "(I)J"⟩) ∈ xG := xG_2 155 rfl rfl
theorem wd_396 : (Cond.selects "EventGraphText$History" ⟨"EventGraphText$History", "parentsOf", "(I)J"⟩ ⟨"EventGraphText$History", "parentsOf", "(I)J"⟩) ∈ xG := xG_2 156 rfl rfl
theorem wd_402 : (Cond.code ⟨"EventGraphText$Message", "writeParentList", "(LEventGraphText$History;J)V"⟩ prog_6_method_9_code 9 none) ∈ xG := xG_2 162 rfl rfl
theorem wd_399 : (Cond.methodLink "EventGraphText$Message" 94 ⟨"EventGraphText$Message", "writeParentList", "(LEventGraphText$History;J)V"⟩) ∈ xG := xG_2 159 rfl rfl
theorem wd_401 : (Cond.instanceMethod ⟨"EventGraphText$Message", "writeParentList", "(LEventGraphText$History;J)V"⟩) ∈ xG := xG_2 161 rfl rfl
theorem wds_6 : (Cond.selects "EventGraphText$Message" ⟨"EventGraphText$Message", "writeParentList", "(LEventGraphText$History;J)V"⟩ ⟨"EventGraphText$Message", "writeParentList", "(LEventGraphText$History;J)V"⟩) ∈ xG := xG_of (List.mem_append_left _ (by decide +kernel)) rfl
theorem wd_7 : (Cond.initialized "EventGraphText$Message") ∈ xG := xG_1 7 rfl rfl
theorem wd_338 : (Cond.code ⟨"EventGraphText$OctetRow", "clear", "()V"⟩ prog_7_method_2_code 1 none) ∈ xG := xG_2 98 rfl rfl
theorem wd_335 : (Cond.methodLink "EventGraphText$Message" 33 ⟨"EventGraphText$OctetRow", "clear", "()V"⟩) ∈ xG := xG_2 95 rfl rfl
theorem wd_336 : (Cond.instanceMethod ⟨"EventGraphText$OctetRow", "clear", "()V"⟩) ∈ xG := xG_2 96 rfl rfl
theorem wd_337 : (Cond.selects "EventGraphText$OctetRow" ⟨"EventGraphText$OctetRow", "clear", "()V"⟩ ⟨"EventGraphText$OctetRow", "clear", "()V"⟩) ∈ xG := xG_2 97 rfl rfl
theorem wd_354 : (Cond.code ⟨"EventGraphText$Message", "writeSites", "(LEventGraphText$History;LEventGraphText$Line;)V"⟩ prog_6_method_4_code 6 none) ∈ xG := xG_2 114 rfl rfl
theorem wd_351 : (Cond.methodLink "EventGraphText$Message" 46 ⟨"EventGraphText$Message", "writeSites", "(LEventGraphText$History;LEventGraphText$Line;)V"⟩) ∈ xG := xG_2 111 rfl rfl
theorem wd_353 : (Cond.instanceMethod ⟨"EventGraphText$Message", "writeSites", "(LEventGraphText$History;LEventGraphText$Line;)V"⟩) ∈ xG := xG_2 113 rfl rfl
theorem wds_7 : (Cond.selects "EventGraphText$Message" ⟨"EventGraphText$Message", "writeSites", "(LEventGraphText$History;LEventGraphText$Line;)V"⟩ ⟨"EventGraphText$Message", "writeSites", "(LEventGraphText$History;LEventGraphText$Line;)V"⟩) ∈ xG := xG_of (List.mem_append_left _ (by decide +kernel)) rfl
theorem wd_367 : (Cond.code ⟨"EventGraphText$Message", "writeKinds", "(LEventGraphText$History;LEventGraphText$Line;)V"⟩ prog_6_method_5_code 6 none) ∈ xG := xG_2 127 rfl rfl
theorem wd_364 : (Cond.methodLink "EventGraphText$Message" 50 ⟨"EventGraphText$Message", "writeKinds", "(LEventGraphText$History;LEventGraphText$Line;)V"⟩) ∈ xG := xG_2 124 rfl rfl
theorem wd_366 : (Cond.instanceMethod ⟨"EventGraphText$Message", "writeKinds", "(LEventGraphText$History;LEventGraphText$Line;)V"⟩) ∈ xG := xG_2 126 rfl rfl
theorem wds_8 : (Cond.selects "EventGraphText$Message" ⟨"EventGraphText$Message", "writeKinds", "(LEventGraphText$History;LEventGraphText$Line;)V"⟩ ⟨"EventGraphText$Message", "writeKinds", "(LEventGraphText$History;LEventGraphText$Line;)V"⟩) ∈ xG := xG_of (List.mem_append_left _ (by decide +kernel)) rfl
theorem wd_375 : (Cond.code ⟨"EventGraphText$Message", "writeIndices", "(LEventGraphText$History;LEventGraphText$Line;)V"⟩ prog_6_method_6_code 6 none) ∈ xG := xG_2 135 rfl rfl
theorem wd_372 : (Cond.methodLink "EventGraphText$Message" 53 ⟨"EventGraphText$Message", "writeIndices", "(LEventGraphText$History;LEventGraphText$Line;)V"⟩) ∈ xG := xG_2 132 rfl rfl
theorem wd_374 : (Cond.instanceMethod ⟨"EventGraphText$Message", "writeIndices", "(LEventGraphText$History;LEventGraphText$Line;)V"⟩) ∈ xG := xG_2 134 rfl rfl
theorem wds_9 : (Cond.selects "EventGraphText$Message" ⟨"EventGraphText$Message", "writeIndices", "(LEventGraphText$History;LEventGraphText$Line;)V"⟩ ⟨"EventGraphText$Message", "writeIndices", "(LEventGraphText$History;LEventGraphText$Line;)V"⟩) ∈ xG := xG_of (List.mem_append_left _ (by decide +kernel)) rfl
theorem wd_388 : (Cond.code ⟨"EventGraphText$Message", "writeCharacters", "(LEventGraphText$History;LEventGraphText$Line;)V"⟩ prog_6_method_7_code 6 none) ∈ xG := xG_2 148 rfl rfl
theorem wd_385 : (Cond.methodLink "EventGraphText$Message" 56 ⟨"EventGraphText$Message", "writeCharacters", "(LEventGraphText$History;LEventGraphText$Line;)V"⟩) ∈ xG := xG_2 145 rfl rfl
theorem wd_387 : (Cond.instanceMethod ⟨"EventGraphText$Message", "writeCharacters", "(LEventGraphText$History;LEventGraphText$Line;)V"⟩) ∈ xG := xG_2 147 rfl rfl
theorem wds_10 : (Cond.selects "EventGraphText$Message" ⟨"EventGraphText$Message", "writeCharacters", "(LEventGraphText$History;LEventGraphText$Line;)V"⟩ ⟨"EventGraphText$Message", "writeCharacters", "(LEventGraphText$History;LEventGraphText$Line;)V"⟩) ∈ xG := xG_of (List.mem_append_left _ (by decide +kernel)) rfl
theorem wd_393 : (Cond.code ⟨"EventGraphText$Message", "writeParents", "(LEventGraphText$History;LEventGraphText$Line;)V"⟩ prog_6_method_8_code 6 none) ∈ xG := xG_2 153 rfl rfl
theorem wd_390 : (Cond.methodLink "EventGraphText$Message" 59 ⟨"EventGraphText$Message", "writeParents", "(LEventGraphText$History;LEventGraphText$Line;)V"⟩) ∈ xG := xG_2 150 rfl rfl
theorem wd_392 : (Cond.instanceMethod ⟨"EventGraphText$Message", "writeParents", "(LEventGraphText$History;LEventGraphText$Line;)V"⟩) ∈ xG := xG_2 152 rfl rfl
theorem wds_11 : (Cond.selects "EventGraphText$Message" ⟨"EventGraphText$Message", "writeParents", "(LEventGraphText$History;LEventGraphText$Line;)V"⟩ ⟨"EventGraphText$Message", "writeParents", "(LEventGraphText$History;LEventGraphText$Line;)V"⟩) ∈ xG := xG_of (List.mem_append_left _ (by decide +kernel)) rfl
theorem wd_305 : (Cond.code ⟨"EventGraphText", "areTwoSites", "(II)Z"⟩ prog_1_method_24_code 2 (some .boolean)) ∈ xG := xG_2 65 rfl rfl
theorem wd_303 : (Cond.methodLink "EventGraphText" 93 ⟨"EventGraphText", "areTwoSites", "(II)Z"⟩) ∈ xG := xG_2 63 rfl rfl
theorem wd_304 : (Cond.static ⟨"EventGraphText", "areTwoSites", "(II)Z"⟩) ∈ xG := xG_2 64 rfl rfl
theorem wd_306 : (Cond.constantLong "EventGraphText" 101 (-1)) ∈ xG := xG_2 66 rfl rfl
theorem wd_310 : (Cond.code ⟨"EventGraphText", "freeNumber", "()I"⟩ prog_1_method_22_code 2 (some .int)) ∈ xG := xG_2 70 rfl rfl
theorem wd_307 : (Cond.methodLink "EventGraphText" 103 ⟨"EventGraphText", "freeNumber", "()I"⟩) ∈ xG := xG_2 67 rfl rfl
theorem wd_309 : (Cond.instanceMethod ⟨"EventGraphText", "freeNumber", "()I"⟩) ∈ xG := xG_2 69 rfl rfl
theorem wds_12 : (Cond.selects "EventGraphText" ⟨"EventGraphText", "freeNumber", "()I"⟩ ⟨"EventGraphText", "freeNumber", "()I"⟩) ∈ xG := xG_of (List.mem_append_left _ (by decide +kernel)) rfl
theorem wd_186 : (Cond.fieldLink "EventGraphText" 26 "EventGraphText" "line" "LEventGraphText$Line;") ∈ xG := xG_1 186 rfl rfl
theorem wd_314 : (Cond.code ⟨"EventGraphText$Line", "arrange", "(LEventGraphText$History;J)V"⟩ prog_4_method_2_code 7 none) ∈ xG := xG_2 74 rfl rfl
theorem wd_311 : (Cond.methodLink "EventGraphText" 107 ⟨"EventGraphText$Line", "arrange", "(LEventGraphText$History;J)V"⟩) ∈ xG := xG_2 71 rfl rfl
theorem wd_312 : (Cond.instanceMethod ⟨"EventGraphText$Line", "arrange", "(LEventGraphText$History;J)V"⟩) ∈ xG := xG_2 72 rfl rfl
theorem wd_313 : (Cond.selects "EventGraphText$Line" ⟨"EventGraphText$Line", "arrange", "(LEventGraphText$History;J)V"⟩ ⟨"EventGraphText$Line", "arrange", "(LEventGraphText$History;J)V"⟩) ∈ xG := xG_2 73 rfl rfl
theorem wd_330 : (Cond.code ⟨"EventGraphText$Message", "start", "(IIJ)V"⟩ prog_6_method_2_code 5 none) ∈ xG := xG_2 90 rfl rfl
theorem wd_327 : (Cond.methodLink "EventGraphText" 111 ⟨"EventGraphText$Message", "start", "(IIJ)V"⟩) ∈ xG := xG_2 87 rfl rfl
theorem wd_328 : (Cond.instanceMethod ⟨"EventGraphText$Message", "start", "(IIJ)V"⟩) ∈ xG := xG_2 88 rfl rfl
theorem wd_329 : (Cond.selects "EventGraphText$Message" ⟨"EventGraphText$Message", "start", "(IIJ)V"⟩ ⟨"EventGraphText$Message", "start", "(IIJ)V"⟩) ∈ xG := xG_2 89 rfl rfl
theorem wd_334 : (Cond.code ⟨"EventGraphText$Message", "write", "(LEventGraphText$History;LEventGraphText$Line;)V"⟩ prog_6_method_3_code 3 none) ∈ xG := xG_2 94 rfl rfl
theorem wd_331 : (Cond.methodLink "EventGraphText" 115 ⟨"EventGraphText$Message", "write", "(LEventGraphText$History;LEventGraphText$Line;)V"⟩) ∈ xG := xG_2 91 rfl rfl
theorem wd_332 : (Cond.instanceMethod ⟨"EventGraphText$Message", "write", "(LEventGraphText$History;LEventGraphText$Line;)V"⟩) ∈ xG := xG_2 92 rfl rfl
theorem wd_333 : (Cond.selects "EventGraphText$Message" ⟨"EventGraphText$Message", "write", "(LEventGraphText$History;LEventGraphText$Line;)V"⟩ ⟨"EventGraphText$Message", "write", "(LEventGraphText$History;LEventGraphText$Line;)V"⟩) ∈ xG := xG_2 93 rfl rfl
theorem wd_438 : (Cond.code ⟨"EventGraphText$History", "upTo", "(I)J"⟩ prog_3_method_14_code 2 (some .long)) ∈ xG := xG_2 198 rfl rfl
theorem wd_435 : (Cond.methodLink "EventGraphText$History" 66 ⟨"EventGraphText$History", "upTo", "(I)J"⟩) ∈ xG := xG_2 195 rfl rfl
theorem wd_436 : (Cond.instanceMethod ⟨"EventGraphText$History", "upTo", "(I)J"⟩) ∈ xG := xG_2 196 rfl rfl
theorem wd_437 : (Cond.selects "EventGraphText$History" ⟨"EventGraphText$History", "upTo", "(I)J"⟩ ⟨"EventGraphText$History", "upTo", "(I)J"⟩) ∈ xG := xG_2 197 rfl rfl
theorem wd_442 : (Cond.code ⟨"EventGraphText$History", "descendantsOf", "(IJ)J"⟩ prog_3_method_20_code 7 (some .long)) ∈ xG := xG_2 202 rfl rfl
theorem wd_439 : (Cond.methodLink "EventGraphText$History" 69 ⟨"EventGraphText$History", "descendantsOf", "(IJ)J"⟩) ∈ xG := xG_2 199 rfl rfl
theorem wd_440 : (Cond.instanceMethod ⟨"EventGraphText$History", "descendantsOf", "(IJ)J"⟩) ∈ xG := xG_2 200 rfl rfl
theorem wd_441 : (Cond.selects "EventGraphText$History" ⟨"EventGraphText$History", "descendantsOf", "(IJ)J"⟩ ⟨"EventGraphText$History", "descendantsOf", "(IJ)J"⟩) ∈ xG := xG_2 201 rfl rfl
theorem wd_434 : (Cond.code ⟨"EventGraphText$History", "isCritical", "(IJ)Z"⟩ prog_3_method_21_code 4 (some .boolean)) ∈ xG := xG_2 194 rfl rfl
theorem wd_431 : (Cond.methodLink "EventGraphText$History" 73 ⟨"EventGraphText$History", "isCritical", "(IJ)Z"⟩) ∈ xG := xG_2 191 rfl rfl
theorem wd_432 : (Cond.instanceMethod ⟨"EventGraphText$History", "isCritical", "(IJ)Z"⟩) ∈ xG := xG_2 192 rfl rfl
theorem wd_433 : (Cond.selects "EventGraphText$History" ⟨"EventGraphText$History", "isCritical", "(IJ)Z"⟩ ⟨"EventGraphText$History", "isCritical", "(IJ)Z"⟩) ∈ xG := xG_2 193 rfl rfl
theorem wd_451 : (Cond.methodLink "EventGraphText$Merge" 57 ⟨"EventGraphText$Line", "size", "()I"⟩) ∈ xG := xG_2 211 rfl rfl
theorem wd_452 : (Cond.methodLink "EventGraphText$Merge" 61 ⟨"EventGraphText$Line", "get", "(I)I"⟩) ∈ xG := xG_2 212 rfl rfl
theorem wd_119 : (Cond.fieldLink "EventGraphText$Merge" 22 "EventGraphText$Merge" "moves" "I") ∈ xG := xG_1 119 rfl rfl
theorem wd_456 : (Cond.code ⟨"EventGraphText$History", "ancestorsOf", "(I)J"⟩ prog_3_method_12_code 2 (some .long)) ∈ xG := xG_2 216 rfl rfl
theorem wd_453 : (Cond.methodLink "EventGraphText$Merge" 65 ⟨"EventGraphText$History", "ancestorsOf", "(I)J"⟩) ∈ xG := xG_2 213 rfl rfl
theorem wd_454 : (Cond.instanceMethod ⟨"EventGraphText$History", "ancestorsOf", "(I)J"⟩) ∈ xG := xG_2 214 rfl rfl
theorem wd_455 : (Cond.selects "EventGraphText$History" ⟨"EventGraphText$History", "ancestorsOf", "(I)J"⟩ ⟨"EventGraphText$History", "ancestorsOf", "(I)J"⟩) ∈ xG := xG_2 215 rfl rfl
theorem wd_445 : (Cond.methodLink "EventGraphText$Merge" 37 ⟨"java/lang/Long", "bitCount", "(J)I"⟩) ∈ xG := xG_2 205 rfl rfl
theorem wd_443 : (Cond.methodLink "EventGraphText$Merge" 31 ⟨"EventGraphText$History", "upTo", "(I)J"⟩) ∈ xG := xG_2 203 rfl rfl
theorem wd_462 : (Cond.methodLink "EventGraphText$Merge" 72 ⟨"EventGraphText$CharacterList", "shownIn", "(J)J"⟩) ∈ xG := xG_2 222 rfl rfl
theorem wd_466 : (Cond.code ⟨"EventGraphText$CharacterList", "indexIn", "(JI)I"⟩ prog_2_method_6_code 6 (some .int)) ∈ xG := xG_2 226 rfl rfl
theorem wd_463 : (Cond.methodLink "EventGraphText$Merge" 78 ⟨"EventGraphText$CharacterList", "indexIn", "(JI)I"⟩) ∈ xG := xG_2 223 rfl rfl
theorem wd_464 : (Cond.instanceMethod ⟨"EventGraphText$CharacterList", "indexIn", "(JI)I"⟩) ∈ xG := xG_2 224 rfl rfl
theorem wd_465 : (Cond.selects "EventGraphText$CharacterList" ⟨"EventGraphText$CharacterList", "indexIn", "(JI)I"⟩ ⟨"EventGraphText$CharacterList", "indexIn", "(JI)I"⟩) ∈ xG := xG_2 225 rfl rfl
theorem wd_115 : (Cond.fieldLink "EventGraphText$Merge" 15 "EventGraphText$Merge" "applied" "I") ∈ xG := xG_1 115 rfl rfl
theorem wd_113 : (Cond.fieldLink "EventGraphText$Merge" 9 "EventGraphText$Merge" "operations" "[I") ∈ xG := xG_1 113 rfl rfl
theorem wd_461 : (Cond.methodLink "EventGraphText$Merge" 68 ⟨"EventGraphText$History", "isInsert", "(I)Z"⟩) ∈ xG := xG_2 221 rfl rfl
theorem wd_470 : (Cond.code ⟨"EventGraphText$CharacterList", "takenBy", "(I)I"⟩ prog_2_method_3_code 2 (some .int)) ∈ xG := xG_2 230 rfl rfl
theorem wd_467 : (Cond.methodLink "EventGraphText$Merge" 82 ⟨"EventGraphText$CharacterList", "takenBy", "(I)I"⟩) ∈ xG := xG_2 227 rfl rfl
theorem wd_468 : (Cond.instanceMethod ⟨"EventGraphText$CharacterList", "takenBy", "(I)I"⟩) ∈ xG := xG_2 228 rfl rfl
theorem wd_469 : (Cond.selects "EventGraphText$CharacterList" ⟨"EventGraphText$CharacterList", "takenBy", "(I)I"⟩ ⟨"EventGraphText$CharacterList", "takenBy", "(I)I"⟩) ∈ xG := xG_2 229 rfl rfl
theorem wd_473 : (Cond.code ⟨"EventGraphText$Merge", "removal", "(LEventGraphText$CharacterList;JI)I"⟩ prog_5_method_5_code 6 (some .int)) ∈ xG := xG_2 233 rfl rfl
theorem wd_471 : (Cond.methodLink "EventGraphText$Merge" 85 ⟨"EventGraphText$Merge", "removal", "(LEventGraphText$CharacterList;JI)I"⟩) ∈ xG := xG_2 231 rfl rfl
theorem wd_472 : (Cond.static ⟨"EventGraphText$Merge", "removal", "(LEventGraphText$CharacterList;JI)I"⟩) ∈ xG := xG_2 232 rfl rfl
theorem wd_6 : (Cond.initialized "EventGraphText$Merge") ∈ xG := xG_1 6 rfl rfl
theorem wd_430 : (Cond.code ⟨"EventGraphText$History", "lastCritical", "(JJ)I"⟩ prog_3_method_22_code 6 (some .int)) ∈ xG := xG_2 190 rfl rfl
theorem wd_427 : (Cond.methodLink "EventGraphText$Merge" 25 ⟨"EventGraphText$History", "lastCritical", "(JJ)I"⟩) ∈ xG := xG_2 187 rfl rfl
theorem wd_428 : (Cond.instanceMethod ⟨"EventGraphText$History", "lastCritical", "(JJ)I"⟩) ∈ xG := xG_2 188 rfl rfl
theorem wd_429 : (Cond.selects "EventGraphText$History" ⟨"EventGraphText$History", "lastCritical", "(JJ)I"⟩ ⟨"EventGraphText$History", "lastCritical", "(JJ)I"⟩) ∈ xG := xG_2 189 rfl rfl
theorem wd_444 : (Cond.constantLong "EventGraphText$Merge" 35 (-1)) ∈ xG := xG_2 204 rfl rfl
theorem wd_117 : (Cond.fieldLink "EventGraphText$Merge" 19 "EventGraphText$Merge" "replayed" "I") ∈ xG := xG_1 117 rfl rfl
theorem wd_446 : (Cond.methodLink "EventGraphText$Merge" 43 ⟨"EventGraphText$Line", "arrange", "(LEventGraphText$History;J)V"⟩) ∈ xG := xG_2 206 rfl rfl
theorem wd_450 : (Cond.code ⟨"EventGraphText$Merge", "passThrough", "(LEventGraphText$History;LEventGraphText$Line;J)J"⟩ prog_5_method_3_code 9 (some .long)) ∈ xG := xG_2 210 rfl rfl
theorem wd_447 : (Cond.methodLink "EventGraphText$Merge" 49 ⟨"EventGraphText$Merge", "passThrough", "(LEventGraphText$History;LEventGraphText$Line;J)J"⟩) ∈ xG := xG_2 207 rfl rfl
theorem wd_449 : (Cond.instanceMethod ⟨"EventGraphText$Merge", "passThrough", "(LEventGraphText$History;LEventGraphText$Line;J)J"⟩) ∈ xG := xG_2 209 rfl rfl
theorem wds_13 : (Cond.selects "EventGraphText$Merge" ⟨"EventGraphText$Merge", "passThrough", "(LEventGraphText$History;LEventGraphText$Line;J)J"⟩ ⟨"EventGraphText$Merge", "passThrough", "(LEventGraphText$History;LEventGraphText$Line;J)J"⟩) ∈ xG := xG_of (List.mem_append_left _ (by decide +kernel)) rfl
theorem wd_460 : (Cond.code ⟨"EventGraphText$Merge", "applyAll", "(LEventGraphText$History;LEventGraphText$CharacterList;LEventGraphText$Line;J)V"⟩ prog_5_method_4_code 10 none) ∈ xG := xG_2 220 rfl rfl
theorem wd_457 : (Cond.methodLink "EventGraphText$Merge" 53 ⟨"EventGraphText$Merge", "applyAll", "(LEventGraphText$History;LEventGraphText$CharacterList;LEventGraphText$Line;J)V"⟩) ∈ xG := xG_2 217 rfl rfl
theorem wd_459 : (Cond.instanceMethod ⟨"EventGraphText$Merge", "applyAll", "(LEventGraphText$History;LEventGraphText$CharacterList;LEventGraphText$Line;J)V"⟩) ∈ xG := xG_2 219 rfl rfl
theorem wds_14 : (Cond.selects "EventGraphText$Merge" ⟨"EventGraphText$Merge", "applyAll", "(LEventGraphText$History;LEventGraphText$CharacterList;LEventGraphText$Line;J)V"⟩ ⟨"EventGraphText$Merge", "applyAll", "(LEventGraphText$History;LEventGraphText$CharacterList;LEventGraphText$Line;J)V"⟩) ∈ xG := xG_of (List.mem_append_left _ (by decide +kernel)) rfl
theorem wd_417 : (Cond.code ⟨"EventGraphText", "isUnderWay", "(I)Z"⟩ prog_1_method_21_code 2 (some .boolean)) ∈ xG := xG_2 177 rfl rfl
theorem wd_414 : (Cond.methodLink "EventGraphText" 119 ⟨"EventGraphText", "isUnderWay", "(I)Z"⟩) ∈ xG := xG_2 174 rfl rfl
theorem wd_416 : (Cond.instanceMethod ⟨"EventGraphText", "isUnderWay", "(I)Z"⟩) ∈ xG := xG_2 176 rfl rfl
theorem wds_15 : (Cond.selects "EventGraphText" ⟨"EventGraphText", "isUnderWay", "(I)Z"⟩ ⟨"EventGraphText", "isUnderWay", "(I)Z"⟩) ∈ xG := xG_of (List.mem_append_left _ (by decide +kernel)) rfl
theorem wd_418 : (Cond.methodLink "EventGraphText" 129 ⟨"EventGraphText$History", "parentsOfAll", "(J)J"⟩) ∈ xG := xG_2 178 rfl rfl
theorem wd_422 : (Cond.code ⟨"EventGraphText$History", "withAncestors", "(J)J"⟩ prog_3_method_17_code 6 (some .long)) ∈ xG := xG_2 182 rfl rfl
theorem wd_419 : (Cond.methodLink "EventGraphText" 135 ⟨"EventGraphText$History", "withAncestors", "(J)J"⟩) ∈ xG := xG_2 179 rfl rfl
theorem wd_420 : (Cond.instanceMethod ⟨"EventGraphText$History", "withAncestors", "(J)J"⟩) ∈ xG := xG_2 180 rfl rfl
theorem wd_421 : (Cond.selects "EventGraphText$History" ⟨"EventGraphText$History", "withAncestors", "(J)J"⟩ ⟨"EventGraphText$History", "withAncestors", "(J)J"⟩) ∈ xG := xG_2 181 rfl rfl
theorem wd_426 : (Cond.code ⟨"EventGraphText$Merge", "perform", "(LEventGraphText$History;LEventGraphText$CharacterList;LEventGraphText$Line;JJ)V"⟩ prog_5_method_2_code 14 none) ∈ xG := xG_2 186 rfl rfl
theorem wd_423 : (Cond.methodLink "EventGraphText" 142 ⟨"EventGraphText$Merge", "perform", "(LEventGraphText$History;LEventGraphText$CharacterList;LEventGraphText$Line;JJ)V"⟩) ∈ xG := xG_2 183 rfl rfl
theorem wd_424 : (Cond.instanceMethod ⟨"EventGraphText$Merge", "perform", "(LEventGraphText$History;LEventGraphText$CharacterList;LEventGraphText$Line;JJ)V"⟩) ∈ xG := xG_2 184 rfl rfl
theorem wd_425 : (Cond.selects "EventGraphText$Merge" ⟨"EventGraphText$Merge", "perform", "(LEventGraphText$History;LEventGraphText$CharacterList;LEventGraphText$Line;JJ)V"⟩ ⟨"EventGraphText$Merge", "perform", "(LEventGraphText$History;LEventGraphText$CharacterList;LEventGraphText$Line;JJ)V"⟩) ∈ xG := xG_2 185 rfl rfl
theorem wd_484 : (Cond.methodLink "EventGraphText" 152 ⟨"EventGraphText$History", "headsOf", "(J)J"⟩) ∈ xG := xG_3 4 rfl rfl
theorem wd_496 : (Cond.code ⟨"EventGraphText$OctetRow", "size", "()I"⟩ prog_7_method_3_code 1 (some .int)) ∈ xG := xG_3 16 rfl rfl
theorem wd_493 : (Cond.methodLink "EventGraphText" 159 ⟨"EventGraphText$OctetRow", "size", "()I"⟩) ∈ xG := xG_3 13 rfl rfl
theorem wd_494 : (Cond.instanceMethod ⟨"EventGraphText$OctetRow", "size", "()I"⟩) ∈ xG := xG_3 14 rfl rfl
theorem wd_495 : (Cond.selects "EventGraphText$OctetRow" ⟨"EventGraphText$OctetRow", "size", "()I"⟩ ⟨"EventGraphText$OctetRow", "size", "()I"⟩) ∈ xG := xG_3 15 rfl rfl
theorem wd_504 : (Cond.code ⟨"EventGraphText$OctetRow", "get", "(I)I"⟩ prog_7_method_4_code 2 (some .int)) ∈ xG := xG_3 24 rfl rfl
theorem wd_501 : (Cond.methodLink "EventGraphText" 164 ⟨"EventGraphText$OctetRow", "get", "(I)I"⟩) ∈ xG := xG_3 21 rfl rfl
theorem wd_502 : (Cond.instanceMethod ⟨"EventGraphText$OctetRow", "get", "(I)I"⟩) ∈ xG := xG_3 22 rfl rfl
theorem wd_503 : (Cond.selects "EventGraphText$OctetRow" ⟨"EventGraphText$OctetRow", "get", "(I)I"⟩ ⟨"EventGraphText$OctetRow", "get", "(I)I"⟩) ∈ xG := xG_3 23 rfl rfl
theorem wd_517 : (Cond.methodLink "EventGraphText" 167 ⟨"EventGraphText$History", "leastOf", "(J)I"⟩) ∈ xG := xG_3 37 rfl rfl
theorem wd_518 : (Cond.methodLink "EventGraphText" 170 ⟨"EventGraphText$History", "codeOf", "(I)I"⟩) ∈ xG := xG_3 38 rfl rfl
theorem wd_526 : (Cond.code ⟨"EventGraphText$History", "wasMade", "(II)Z"⟩ prog_3_method_4_code 3 (some .boolean)) ∈ xG := xG_3 46 rfl rfl
theorem wd_523 : (Cond.methodLink "EventGraphText" 173 ⟨"EventGraphText$History", "wasMade", "(II)Z"⟩) ∈ xG := xG_3 43 rfl rfl
theorem wd_524 : (Cond.instanceMethod ⟨"EventGraphText$History", "wasMade", "(II)Z"⟩) ∈ xG := xG_3 44 rfl rfl
theorem wd_525 : (Cond.selects "EventGraphText$History" ⟨"EventGraphText$History", "wasMade", "(II)Z"⟩ ⟨"EventGraphText$History", "wasMade", "(II)Z"⟩) ∈ xG := xG_3 45 rfl rfl
theorem wd_531 : (Cond.code ⟨"EventGraphText$History", "slotOf", "(II)I"⟩ prog_3_method_5_code 3 (some .int)) ∈ xG := xG_3 51 rfl rfl
theorem wd_528 : (Cond.methodLink "EventGraphText" 176 ⟨"EventGraphText$History", "slotOf", "(II)I"⟩) ∈ xG := xG_3 48 rfl rfl
theorem wd_529 : (Cond.instanceMethod ⟨"EventGraphText$History", "slotOf", "(II)I"⟩) ∈ xG := xG_3 49 rfl rfl
theorem wd_530 : (Cond.selects "EventGraphText$History" ⟨"EventGraphText$History", "slotOf", "(II)I"⟩ ⟨"EventGraphText$History", "slotOf", "(II)I"⟩) ∈ xG := xG_3 50 rfl rfl
theorem wd_532 : (Cond.methodLink "EventGraphText" 180 ⟨"EventGraphText$History", "ancestorsOf", "(I)J"⟩) ∈ xG := xG_3 52 rfl rfl
theorem wd_533 : (Cond.methodLink "EventGraphText" 183 ⟨"EventGraphText", "has", "(JI)Z"⟩) ∈ xG := xG_3 53 rfl rfl
theorem wd_538 : (Cond.methodLink "EventGraphText" 187 ⟨"EventGraphText$History", "lastCritical", "(JJ)I"⟩) ∈ xG := xG_3 58 rfl rfl
theorem wd_539 : (Cond.methodLink "EventGraphText" 191 ⟨"EventGraphText$History", "upTo", "(I)J"⟩) ∈ xG := xG_3 59 rfl rfl
theorem wd_658 : (Cond.code ⟨"EventGraphTextModel", "in", "(JI)Z"⟩ prog_10_method_2_code 3 (some .boolean)) ∈ xG := xG_3 178 rfl rfl
theorem wd_656 : (Cond.methodLink "EventGraphTextModel" 78 ⟨"EventGraphTextModel", "in", "(JI)Z"⟩) ∈ xG := xG_3 176 rfl rfl
theorem wd_657 : (Cond.static ⟨"EventGraphTextModel", "in", "(JI)Z"⟩) ∈ xG := xG_3 177 rfl rfl
theorem wd_9 : (Cond.initialized "EventGraphTextModel") ∈ xG := xG_1 9 rfl rfl
theorem wd_643 : (Cond.code ⟨"EventGraphTextModel", "wrong", "(I)Z"⟩ prog_10_method_5_code 1 (some .boolean)) ∈ xG := xG_3 163 rfl rfl
theorem wd_641 : (Cond.methodLink "EventGraphTextModel" 82 ⟨"EventGraphTextModel", "wrong", "(I)Z"⟩) ∈ xG := xG_3 161 rfl rfl
theorem wd_642 : (Cond.static ⟨"EventGraphTextModel", "wrong", "(I)Z"⟩) ∈ xG := xG_3 162 rfl rfl
theorem wd_558 : (Cond.fieldLink "EventGraphTextModel" 86 "EventGraphTextModel" "made" "I") ∈ xG := xG_3 78 rfl rfl
theorem wd_561 : (Cond.fieldLink "EventGraphTextModel" 16 "EventGraphTextModel" "inserts" "[Z") ∈ xG := xG_3 81 rfl rfl
theorem wd_566 : (Cond.fieldLink "EventGraphTextModel" 33 "EventGraphTextModel" "place" "[I") ∈ xG := xG_3 86 rfl rfl
theorem wd_661 : (Cond.code ⟨"EventGraphTextModel", "one", "(I)J"⟩ prog_10_method_3_code 1 (some .long)) ∈ xG := xG_3 181 rfl rfl
theorem wd_659 : (Cond.methodLink "EventGraphTextModel" 90 ⟨"EventGraphTextModel", "one", "(I)J"⟩) ∈ xG := xG_3 179 rfl rfl
theorem wd_660 : (Cond.static ⟨"EventGraphTextModel", "one", "(I)J"⟩) ∈ xG := xG_3 180 rfl rfl
theorem wd_655 : (Cond.code ⟨"EventGraphTextModel", "hidden", "(J)J"⟩ prog_10_method_7_code 6 (some .long)) ∈ xG := xG_3 175 rfl rfl
theorem wd_652 : (Cond.methodLink "EventGraphTextModel" 94 ⟨"EventGraphTextModel", "hidden", "(J)J"⟩) ∈ xG := xG_3 172 rfl rfl
theorem wd_654 : (Cond.instanceMethod ⟨"EventGraphTextModel", "hidden", "(J)J"⟩) ∈ xG := xG_3 174 rfl rfl
theorem wds_16 : (Cond.selects "EventGraphTextModel" ⟨"EventGraphTextModel", "hidden", "(J)J"⟩ ⟨"EventGraphTextModel", "hidden", "(J)J"⟩) ∈ xG := xG_of (List.mem_append_left _ (by decide +kernel)) rfl
theorem wd_570 : (Cond.fieldLink "EventGraphTextModel" 98 "EventGraphTextModel" "chars" "I") ∈ xG := xG_3 90 rfl rfl
theorem wd_569 : (Cond.fieldLink "EventGraphTextModel" 42 "EventGraphTextModel" "row" "[I") ∈ xG := xG_3 89 rfl rfl
theorem wd_559 : (Cond.fieldLink "EventGraphTextModel" 7 "EventGraphTextModel" "site" "[I") ∈ xG := xG_3 79 rfl rfl
theorem wd_560 : (Cond.fieldLink "EventGraphTextModel" 13 "EventGraphTextModel" "number" "[I") ∈ xG := xG_3 80 rfl rfl
theorem wd_567 : (Cond.fieldLink "EventGraphTextModel" 36 "EventGraphTextModel" "right" "[Z") ∈ xG := xG_3 87 rfl rfl
theorem wd_690 : (Cond.code ⟨"EventGraphTextModel", "lower", "(II)Z"⟩ prog_10_method_11_code 3 (some .boolean)) ∈ xG := xG_3 210 rfl rfl
theorem wd_687 : (Cond.methodLink "EventGraphTextModel" 101 ⟨"EventGraphTextModel", "lower", "(II)Z"⟩) ∈ xG := xG_3 207 rfl rfl
theorem wd_689 : (Cond.instanceMethod ⟨"EventGraphTextModel", "lower", "(II)Z"⟩) ∈ xG := xG_3 209 rfl rfl
theorem wds_17 : (Cond.selects "EventGraphTextModel" ⟨"EventGraphTextModel", "lower", "(II)Z"⟩ ⟨"EventGraphTextModel", "lower", "(II)Z"⟩) ∈ xG := xG_of (List.mem_append_left _ (by decide +kernel)) rfl
theorem wd_568 : (Cond.fieldLink "EventGraphTextModel" 39 "EventGraphTextModel" "depth" "[I") ∈ xG := xG_3 88 rfl rfl
theorem wd_686 : (Cond.code ⟨"EventGraphTextModel", "stands", "(II)Z"⟩ prog_10_method_12_code 8 (some .boolean)) ∈ xG := xG_3 206 rfl rfl
theorem wd_683 : (Cond.methodLink "EventGraphTextModel" 105 ⟨"EventGraphTextModel", "stands", "(II)Z"⟩) ∈ xG := xG_3 203 rfl rfl
theorem wd_685 : (Cond.instanceMethod ⟨"EventGraphTextModel", "stands", "(II)Z"⟩) ∈ xG := xG_3 205 rfl rfl
theorem wds_18 : (Cond.selects "EventGraphTextModel" ⟨"EventGraphTextModel", "stands", "(II)Z"⟩ ⟨"EventGraphTextModel", "stands", "(II)Z"⟩) ∈ xG := xG_of (List.mem_append_left _ (by decide +kernel)) rfl
theorem wd_678 : (Cond.constantLong "EventGraphTextModel" 108 (-1)) ∈ xG := xG_3 198 rfl rfl
theorem wd_564 : (Cond.fieldLink "EventGraphTextModel" 26 "EventGraphTextModel" "earlier" "[J") ∈ xG := xG_3 84 rfl rfl
theorem wd_562 : (Cond.fieldLink "EventGraphTextModel" 20 "EventGraphTextModel" "index" "[I") ∈ xG := xG_3 82 rfl rfl
theorem wd_571 : (Cond.fieldLink "EventGraphTextModel" 45 "EventGraphTextModel" "graph" "[J") ∈ xG := xG_3 91 rfl rfl
theorem wd_565 : (Cond.fieldLink "EventGraphTextModel" 30 "EventGraphTextModel" "parents" "[J") ∈ xG := xG_3 85 rfl rfl
theorem wd_677 : (Cond.code ⟨"EventGraphTextModel", "tips", "(J)J"⟩ prog_10_method_14_code 6 (some .long)) ∈ xG := xG_3 197 rfl rfl
theorem wd_674 : (Cond.methodLink "EventGraphTextModel" 110 ⟨"EventGraphTextModel", "tips", "(J)J"⟩) ∈ xG := xG_3 194 rfl rfl
theorem wd_676 : (Cond.instanceMethod ⟨"EventGraphTextModel", "tips", "(J)J"⟩) ∈ xG := xG_3 196 rfl rfl
theorem wds_19 : (Cond.selects "EventGraphTextModel" ⟨"EventGraphTextModel", "tips", "(J)J"⟩ ⟨"EventGraphTextModel", "tips", "(J)J"⟩) ∈ xG := xG_of (List.mem_append_left _ (by decide +kernel)) rfl
theorem wd_651 : (Cond.code ⟨"EventGraphTextModel", "shownBefore", "(JI)I"⟩ prog_10_method_9_code 9 (some .int)) ∈ xG := xG_3 171 rfl rfl
theorem wd_648 : (Cond.methodLink "EventGraphTextModel" 132 ⟨"EventGraphTextModel", "shownBefore", "(JI)I"⟩) ∈ xG := xG_3 168 rfl rfl
theorem wd_650 : (Cond.instanceMethod ⟨"EventGraphTextModel", "shownBefore", "(JI)I"⟩) ∈ xG := xG_3 170 rfl rfl
theorem wds_20 : (Cond.selects "EventGraphTextModel" ⟨"EventGraphTextModel", "shownBefore", "(JI)I"⟩ ⟨"EventGraphTextModel", "shownBefore", "(JI)I"⟩) ∈ xG := xG_of (List.mem_append_left _ (by decide +kernel)) rfl
theorem wd_647 : (Cond.code ⟨"EventGraphTextModel", "length", "(I)I"⟩ prog_10_method_18_code 2 (some .int)) ∈ xG := xG_3 167 rfl rfl
theorem wd_644 : (Cond.methodLink "EventGraphTextModel" 113 ⟨"EventGraphTextModel", "length", "(I)I"⟩) ∈ xG := xG_3 164 rfl rfl
theorem wd_645 : (Cond.instanceMethod ⟨"EventGraphTextModel", "length", "(I)I"⟩) ∈ xG := xG_3 165 rfl rfl
theorem wd_646 : (Cond.selects "EventGraphTextModel" ⟨"EventGraphTextModel", "length", "(I)I"⟩ ⟨"EventGraphTextModel", "length", "(I)I"⟩) ∈ xG := xG_3 166 rfl rfl
theorem wd_665 : (Cond.code ⟨"EventGraphTextModel", "shownAt", "(JI)I"⟩ prog_10_method_8_code 9 (some .int)) ∈ xG := xG_3 185 rfl rfl
theorem wd_662 : (Cond.methodLink "EventGraphTextModel" 117 ⟨"EventGraphTextModel", "shownAt", "(JI)I"⟩) ∈ xG := xG_3 182 rfl rfl
theorem wd_664 : (Cond.instanceMethod ⟨"EventGraphTextModel", "shownAt", "(JI)I"⟩) ∈ xG := xG_3 184 rfl rfl
theorem wds_21 : (Cond.selects "EventGraphTextModel" ⟨"EventGraphTextModel", "shownAt", "(JI)I"⟩ ⟨"EventGraphTextModel", "shownAt", "(JI)I"⟩) ∈ xG := xG_of (List.mem_append_left _ (by decide +kernel)) rfl
theorem wd_669 : (Cond.code ⟨"EventGraphTextModel", "behind", "(JI)I"⟩ prog_10_method_10_code 6 (some .int)) ∈ xG := xG_3 189 rfl rfl
theorem wd_666 : (Cond.methodLink "EventGraphTextModel" 121 ⟨"EventGraphTextModel", "behind", "(JI)I"⟩) ∈ xG := xG_3 186 rfl rfl
theorem wd_668 : (Cond.instanceMethod ⟨"EventGraphTextModel", "behind", "(JI)I"⟩) ∈ xG := xG_3 188 rfl rfl
theorem wds_22 : (Cond.selects "EventGraphTextModel" ⟨"EventGraphTextModel", "behind", "(JI)I"⟩ ⟨"EventGraphTextModel", "behind", "(JI)I"⟩) ∈ xG := xG_of (List.mem_append_left _ (by decide +kernel)) rfl
theorem wd_673 : (Cond.code ⟨"EventGraphTextModel", "event", "(IZI)I"⟩ prog_10_method_15_code 7 (some .int)) ∈ xG := xG_3 193 rfl rfl
theorem wd_670 : (Cond.methodLink "EventGraphTextModel" 124 ⟨"EventGraphTextModel", "event", "(IZI)I"⟩) ∈ xG := xG_3 190 rfl rfl
theorem wd_672 : (Cond.instanceMethod ⟨"EventGraphTextModel", "event", "(IZI)I"⟩) ∈ xG := xG_3 192 rfl rfl
theorem wds_23 : (Cond.selects "EventGraphTextModel" ⟨"EventGraphTextModel", "event", "(IZI)I"⟩ ⟨"EventGraphTextModel", "event", "(IZI)I"⟩) ∈ xG := xG_of (List.mem_append_left _ (by decide +kernel)) rfl
theorem wd_563 : (Cond.fieldLink "EventGraphTextModel" 23 "EventGraphTextModel" "letter" "[I") ∈ xG := xG_3 83 rfl rfl
theorem wd_682 : (Cond.code ⟨"EventGraphTextModel", "intoRow", "(I)V"⟩ prog_10_method_13_code 4 none) ∈ xG := xG_3 202 rfl rfl
theorem wd_679 : (Cond.methodLink "EventGraphTextModel" 128 ⟨"EventGraphTextModel", "intoRow", "(I)V"⟩) ∈ xG := xG_3 199 rfl rfl
theorem wd_681 : (Cond.instanceMethod ⟨"EventGraphTextModel", "intoRow", "(I)V"⟩) ∈ xG := xG_3 201 rfl rfl
theorem wds_24 : (Cond.selects "EventGraphTextModel" ⟨"EventGraphTextModel", "intoRow", "(I)V"⟩ ⟨"EventGraphTextModel", "intoRow", "(I)V"⟩) ∈ xG := xG_of (List.mem_append_left _ (by decide +kernel)) rfl
theorem wd_758 : (Cond.code ⟨"EventGraphTextModel", "can", "(JJI)Z"⟩ prog_10_method_20_code 6 (some .boolean)) ∈ xG := xG_4 38 rfl rfl
theorem wd_755 : (Cond.methodLink "EventGraphTextModel" 135 ⟨"EventGraphTextModel", "can", "(JJI)Z"⟩) ∈ xG := xG_4 35 rfl rfl
theorem wd_757 : (Cond.instanceMethod ⟨"EventGraphTextModel", "can", "(JJI)Z"⟩) ∈ xG := xG_4 37 rfl rfl
theorem wds_25 : (Cond.selects "EventGraphTextModel" ⟨"EventGraphTextModel", "can", "(JJI)Z"⟩ ⟨"EventGraphTextModel", "can", "(JJI)Z"⟩) ∈ xG := xG_of (List.mem_append_left _ (by decide +kernel)) rfl
theorem wd_581 : (Cond.fieldLink "EventGraphTextModel" 139 "EventGraphTextModel" "turns" "I") ∈ xG := xG_3 101 rfl rfl
theorem wd_754 : (Cond.code ⟨"EventGraphTextModel", "nextOf", "(JJI)I"⟩ prog_10_method_21_code 9 (some .int)) ∈ xG := xG_4 34 rfl rfl
theorem wd_751 : (Cond.methodLink "EventGraphTextModel" 142 ⟨"EventGraphTextModel", "nextOf", "(JJI)I"⟩) ∈ xG := xG_4 31 rfl rfl
theorem wd_753 : (Cond.instanceMethod ⟨"EventGraphTextModel", "nextOf", "(JJI)I"⟩) ∈ xG := xG_4 33 rfl rfl
theorem wds_26 : (Cond.selects "EventGraphTextModel" ⟨"EventGraphTextModel", "nextOf", "(JJI)I"⟩ ⟨"EventGraphTextModel", "nextOf", "(JJI)I"⟩) ∈ xG := xG_of (List.mem_append_left _ (by decide +kernel)) rfl
theorem wd_580 : (Cond.fieldLink "EventGraphTextModel" 72 "EventGraphTextModel" "turn" "[I") ∈ xG := xG_3 100 rfl rfl
theorem wd_706 : (Cond.code ⟨"EventGraphTextModel", "wrongPair", "(II)Z"⟩ prog_10_method_6_code 2 (some .boolean)) ∈ xG := xG_3 226 rfl rfl
theorem wd_704 : (Cond.methodLink "EventGraphTextModel" 146 ⟨"EventGraphTextModel", "wrongPair", "(II)Z"⟩) ∈ xG := xG_3 224 rfl rfl
theorem wd_705 : (Cond.static ⟨"EventGraphTextModel", "wrongPair", "(II)Z"⟩) ∈ xG := xG_3 225 rfl rfl
theorem wd_572 : (Cond.fieldLink "EventGraphTextModel" 48 "EventGraphTextModel" "thought" "[J") ∈ xG := xG_3 92 rfl rfl
theorem wd_573 : (Cond.fieldLink "EventGraphTextModel" 51 "EventGraphTextModel" "load" "[J") ∈ xG := xG_3 93 rfl rfl
theorem wd_574 : (Cond.fieldLink "EventGraphTextModel" 54 "EventGraphTextModel" "sender" "[I") ∈ xG := xG_3 94 rfl rfl
theorem wd_575 : (Cond.fieldLink "EventGraphTextModel" 57 "EventGraphTextModel" "receiver" "[I") ∈ xG := xG_3 95 rfl rfl
theorem wd_714 : (Cond.code ⟨"EventGraphTextModel", "none", "(I)Z"⟩ prog_10_method_24_code 2 (some .boolean)) ∈ xG := xG_3 234 rfl rfl
theorem wd_711 : (Cond.methodLink "EventGraphTextModel" 149 ⟨"EventGraphTextModel", "none", "(I)Z"⟩) ∈ xG := xG_3 231 rfl rfl
theorem wd_713 : (Cond.instanceMethod ⟨"EventGraphTextModel", "none", "(I)Z"⟩) ∈ xG := xG_3 233 rfl rfl
theorem wds_27 : (Cond.selects "EventGraphTextModel" ⟨"EventGraphTextModel", "none", "(I)Z"⟩ ⟨"EventGraphTextModel", "none", "(I)Z"⟩) ∈ xG := xG_of (List.mem_append_left _ (by decide +kernel)) rfl
theorem wd_729 : (Cond.code ⟨"EventGraphTextModel", "many", "(J)I"⟩ prog_10_method_4_code 4 (some .int)) ∈ xG := xG_4 9 rfl rfl
theorem wd_727 : (Cond.methodLink "EventGraphTextModel" 159 ⟨"EventGraphTextModel", "many", "(J)I"⟩) ∈ xG := xG_4 7 rfl rfl
theorem wd_728 : (Cond.static ⟨"EventGraphTextModel", "many", "(J)I"⟩) ∈ xG := xG_4 8 rfl rfl
theorem wd_722 : (Cond.code ⟨"EventGraphTextModel", "whole", "(J)J"⟩ prog_10_method_26_code 6 (some .long)) ∈ xG := xG_4 2 rfl rfl
theorem wd_719 : (Cond.methodLink "EventGraphTextModel" 152 ⟨"EventGraphTextModel", "whole", "(J)J"⟩) ∈ xG := xG_3 239 rfl rfl
theorem wd_721 : (Cond.instanceMethod ⟨"EventGraphTextModel", "whole", "(J)J"⟩) ∈ xG := xG_4 1 rfl rfl
theorem wds_28 : (Cond.selects "EventGraphTextModel" ⟨"EventGraphTextModel", "whole", "(J)J"⟩ ⟨"EventGraphTextModel", "whole", "(J)J"⟩) ∈ xG := xG_of (List.mem_append_left _ (by decide +kernel)) rfl
theorem wd_726 : (Cond.code ⟨"EventGraphTextModel", "believed", "(II)I"⟩ prog_10_method_28_code 3 (some .int)) ∈ xG := xG_4 6 rfl rfl
theorem wd_723 : (Cond.methodLink "EventGraphTextModel" 155 ⟨"EventGraphTextModel", "believed", "(II)I"⟩) ∈ xG := xG_4 3 rfl rfl
theorem wd_724 : (Cond.instanceMethod ⟨"EventGraphTextModel", "believed", "(II)I"⟩) ∈ xG := xG_4 4 rfl rfl
theorem wd_725 : (Cond.selects "EventGraphTextModel" ⟨"EventGraphTextModel", "believed", "(II)I"⟩ ⟨"EventGraphTextModel", "believed", "(II)I"⟩) ∈ xG := xG_4 5 rfl rfl
theorem wd_746 : (Cond.code ⟨"EventGraphTextModel", "isCritical", "(JI)Z"⟩ prog_10_method_30_code 5 (some .boolean)) ∈ xG := xG_4 26 rfl rfl
theorem wd_743 : (Cond.methodLink "EventGraphTextModel" 167 ⟨"EventGraphTextModel", "isCritical", "(JI)Z"⟩) ∈ xG := xG_4 23 rfl rfl
theorem wd_745 : (Cond.instanceMethod ⟨"EventGraphTextModel", "isCritical", "(JI)Z"⟩) ∈ xG := xG_4 25 rfl rfl
theorem wds_29 : (Cond.selects "EventGraphTextModel" ⟨"EventGraphTextModel", "isCritical", "(JI)Z"⟩ ⟨"EventGraphTextModel", "isCritical", "(JI)Z"⟩) ∈ xG := xG_of (List.mem_append_left _ (by decide +kernel)) rfl
theorem wd_742 : (Cond.code ⟨"EventGraphTextModel", "top", "(JJ)I"⟩ prog_10_method_31_code 7 (some .int)) ∈ xG := xG_4 22 rfl rfl
theorem wd_739 : (Cond.methodLink "EventGraphTextModel" 170 ⟨"EventGraphTextModel", "top", "(JJ)I"⟩) ∈ xG := xG_4 19 rfl rfl
theorem wd_741 : (Cond.instanceMethod ⟨"EventGraphTextModel", "top", "(JJ)I"⟩) ∈ xG := xG_4 21 rfl rfl
theorem wds_30 : (Cond.selects "EventGraphTextModel" ⟨"EventGraphTextModel", "top", "(JJ)I"⟩ ⟨"EventGraphTextModel", "top", "(JJ)I"⟩) ∈ xG := xG_of (List.mem_append_left _ (by decide +kernel)) rfl
theorem wd_750 : (Cond.code ⟨"EventGraphTextModel", "order", "(J)V"⟩ prog_10_method_22_code 7 none) ∈ xG := xG_4 30 rfl rfl
theorem wd_747 : (Cond.methodLink "EventGraphTextModel" 174 ⟨"EventGraphTextModel", "order", "(J)V"⟩) ∈ xG := xG_4 27 rfl rfl
theorem wd_749 : (Cond.instanceMethod ⟨"EventGraphTextModel", "order", "(J)V"⟩) ∈ xG := xG_4 29 rfl rfl
theorem wds_31 : (Cond.selects "EventGraphTextModel" ⟨"EventGraphTextModel", "order", "(J)V"⟩ ⟨"EventGraphTextModel", "order", "(J)V"⟩) ∈ xG := xG_of (List.mem_append_left _ (by decide +kernel)) rfl
theorem wd_576 : (Cond.fieldLink "EventGraphTextModel" 60 "EventGraphTextModel" "again" "[I") ∈ xG := xG_3 96 rfl rfl
theorem wd_577 : (Cond.fieldLink "EventGraphTextModel" 63 "EventGraphTextModel" "shifts" "[I") ∈ xG := xG_3 97 rfl rfl
theorem wd_578 : (Cond.fieldLink "EventGraphTextModel" 66 "EventGraphTextModel" "dones" "[I") ∈ xG := xG_3 98 rfl rfl
theorem wd_579 : (Cond.fieldLink "EventGraphTextModel" 69 "EventGraphTextModel" "did" "[I") ∈ xG := xG_3 99 rfl rfl
theorem wd_762 : (Cond.code ⟨"EventGraphTextModel", "effect", "(JI)I"⟩ prog_10_method_33_code 7 (some .int)) ∈ xG := xG_4 42 rfl rfl
theorem wd_759 : (Cond.methodLink "EventGraphTextModel" 178 ⟨"EventGraphTextModel", "effect", "(JI)I"⟩) ∈ xG := xG_4 39 rfl rfl
theorem wd_761 : (Cond.instanceMethod ⟨"EventGraphTextModel", "effect", "(JI)I"⟩) ∈ xG := xG_4 41 rfl rfl
theorem wds_32 : (Cond.selects "EventGraphTextModel" ⟨"EventGraphTextModel", "effect", "(JI)I"⟩ ⟨"EventGraphTextModel", "effect", "(JI)I"⟩) ∈ xG := xG_of (List.mem_append_left _ (by decide +kernel)) rfl
theorem wd_738 : (Cond.code ⟨"EventGraphTextModel", "merge", "(IJ)V"⟩ prog_10_method_32_code 16 none) ∈ xG := xG_4 18 rfl rfl
theorem wd_735 : (Cond.methodLink "EventGraphTextModel" 163 ⟨"EventGraphTextModel", "merge", "(IJ)V"⟩) ∈ xG := xG_4 15 rfl rfl
theorem wd_737 : (Cond.instanceMethod ⟨"EventGraphTextModel", "merge", "(IJ)V"⟩) ∈ xG := xG_4 17 rfl rfl
theorem wds_33 : (Cond.selects "EventGraphTextModel" ⟨"EventGraphTextModel", "merge", "(IJ)V"⟩ ⟨"EventGraphTextModel", "merge", "(IJ)V"⟩) ∈ xG := xG_of (List.mem_append_left _ (by decide +kernel)) rfl
theorem wd_582 : (Cond.fieldLink "EventGraphTextModel" 75 "EventGraphTextModel" "out" "[I") ∈ xG := xG_3 102 rfl rfl
theorem wd_583 : (Cond.fieldLink "EventGraphTextModel" 181 "EventGraphTextModel" "size" "I") ∈ xG := xG_3 103 rfl rfl
theorem wd_774 : (Cond.code ⟨"EventGraphTextModel", "put", "(I)V"⟩ prog_10_method_34_code 4 none) ∈ xG := xG_4 54 rfl rfl
theorem wd_771 : (Cond.methodLink "EventGraphTextModel" 184 ⟨"EventGraphTextModel", "put", "(I)V"⟩) ∈ xG := xG_4 51 rfl rfl
theorem wd_773 : (Cond.instanceMethod ⟨"EventGraphTextModel", "put", "(I)V"⟩) ∈ xG := xG_4 53 rfl rfl
theorem wds_34 : (Cond.selects "EventGraphTextModel" ⟨"EventGraphTextModel", "put", "(I)V"⟩ ⟨"EventGraphTextModel", "put", "(I)V"⟩) ∈ xG := xG_of (List.mem_append_left _ (by decide +kernel)) rfl
theorem wd_778 : (Cond.code ⟨"EventGraphTextModel", "putRuns", "()V"⟩ prog_10_method_36_code 5 none) ∈ xG := xG_4 58 rfl rfl
theorem wd_775 : (Cond.methodLink "EventGraphTextModel" 187 ⟨"EventGraphTextModel", "putRuns", "()V"⟩) ∈ xG := xG_4 55 rfl rfl
theorem wd_777 : (Cond.instanceMethod ⟨"EventGraphTextModel", "putRuns", "()V"⟩) ∈ xG := xG_4 57 rfl rfl
theorem wds_35 : (Cond.selects "EventGraphTextModel" ⟨"EventGraphTextModel", "putRuns", "()V"⟩ ⟨"EventGraphTextModel", "putRuns", "()V"⟩) ∈ xG := xG_of (List.mem_append_left _ (by decide +kernel)) rfl
theorem wd_786 : (Cond.code ⟨"EventGraphTextModel", "putParents", "(I)V"⟩ prog_10_method_37_code 5 none) ∈ xG := xG_4 66 rfl rfl
theorem wd_783 : (Cond.methodLink "EventGraphTextModel" 193 ⟨"EventGraphTextModel", "putParents", "(I)V"⟩) ∈ xG := xG_4 63 rfl rfl
theorem wd_785 : (Cond.instanceMethod ⟨"EventGraphTextModel", "putParents", "(I)V"⟩) ∈ xG := xG_4 65 rfl rfl
theorem wds_36 : (Cond.selects "EventGraphTextModel" ⟨"EventGraphTextModel", "putParents", "(I)V"⟩ ⟨"EventGraphTextModel", "putParents", "(I)V"⟩) ∈ xG := xG_of (List.mem_append_left _ (by decide +kernel)) rfl
theorem wd_782 : (Cond.code ⟨"EventGraphTextModel", "putSigned", "(I)V"⟩ prog_10_method_35_code 2 none) ∈ xG := xG_4 62 rfl rfl
theorem wd_779 : (Cond.methodLink "EventGraphTextModel" 190 ⟨"EventGraphTextModel", "putSigned", "(I)V"⟩) ∈ xG := xG_4 59 rfl rfl
theorem wd_781 : (Cond.instanceMethod ⟨"EventGraphTextModel", "putSigned", "(I)V"⟩) ∈ xG := xG_4 61 rfl rfl
theorem wds_37 : (Cond.selects "EventGraphTextModel" ⟨"EventGraphTextModel", "putSigned", "(I)V"⟩ ⟨"EventGraphTextModel", "putSigned", "(I)V"⟩) ∈ xG := xG_of (List.mem_append_left _ (by decide +kernel)) rfl
theorem wd_770 : (Cond.code ⟨"EventGraphTextModel", "write", "(I)V"⟩ prog_10_method_38_code 4 none) ∈ xG := xG_4 50 rfl rfl
theorem wd_767 : (Cond.methodLink "EventGraphTextModel" 196 ⟨"EventGraphTextModel", "write", "(I)V"⟩) ∈ xG := xG_4 47 rfl rfl
theorem wd_769 : (Cond.instanceMethod ⟨"EventGraphTextModel", "write", "(I)V"⟩) ∈ xG := xG_4 49 rfl rfl
theorem wds_38 : (Cond.selects "EventGraphTextModel" ⟨"EventGraphTextModel", "write", "(I)V"⟩ ⟨"EventGraphTextModel", "write", "(I)V"⟩) ∈ xG := xG_of (List.mem_append_left _ (by decide +kernel)) rfl
theorem wd_810 : (Cond.code ⟨"EventGraphTextModel", "find", "(II)I"⟩ prog_10_method_44_code 4 (some .int)) ∈ xG := xG_4 90 rfl rfl
theorem wd_807 : (Cond.methodLink "EventGraphTextModel" 199 ⟨"EventGraphTextModel", "find", "(II)I"⟩) ∈ xG := xG_4 87 rfl rfl
theorem wd_809 : (Cond.instanceMethod ⟨"EventGraphTextModel", "find", "(II)I"⟩) ∈ xG := xG_4 89 rfl rfl
theorem wds_39 : (Cond.selects "EventGraphTextModel" ⟨"EventGraphTextModel", "find", "(II)I"⟩ ⟨"EventGraphTextModel", "find", "(II)I"⟩) ∈ xG := xG_of (List.mem_append_left _ (by decide +kernel)) rfl
theorem wd_69 : (Cond.laysFinal "EventGraphText$CharacterList" "EventGraphText$CharacterList" "order" "[I") ∈ xG := xG_1 69 rfl rfl
theorem wd_71 : (Cond.laysFinal "EventGraphText$CharacterList" "EventGraphText$CharacterList" "holders" "[I") ∈ xG := xG_1 71 rfl rfl
theorem wd_73 : (Cond.laysFinal "EventGraphText$CharacterList" "EventGraphText$CharacterList" "onTheRight" "[Z") ∈ xG := xG_1 73 rfl rfl
theorem wd_75 : (Cond.laysFinal "EventGraphText$CharacterList" "EventGraphText$CharacterList" "chains" "[J") ∈ xG := xG_1 75 rfl rfl
theorem wd_77 : (Cond.laysFinal "EventGraphText$CharacterList" "EventGraphText$CharacterList" "taken" "[I") ∈ xG := xG_1 77 rfl rfl
theorem wd_79 : (Cond.lays "EventGraphText$CharacterList" "EventGraphText$CharacterList" "deletes" "J") ∈ xG := xG_1 79 rfl rfl
theorem wd_81 : (Cond.lays "EventGraphText$CharacterList" "EventGraphText$CharacterList" "inserts" "J") ∈ xG := xG_1 81 rfl rfl
theorem wd_83 : (Cond.lays "EventGraphText$CharacterList" "EventGraphText$CharacterList" "count" "I") ∈ xG := xG_1 83 rfl rfl
theorem wd_34 : (Cond.laysFinal "EventGraphText$History" "EventGraphText$History" "sites" "[I") ∈ xG := xG_1 34 rfl rfl
theorem wd_36 : (Cond.laysFinal "EventGraphText$History" "EventGraphText$History" "numbers" "[I") ∈ xG := xG_1 36 rfl rfl
theorem wd_38 : (Cond.laysFinal "EventGraphText$History" "EventGraphText$History" "indices" "[I") ∈ xG := xG_1 38 rfl rfl
theorem wd_40 : (Cond.laysFinal "EventGraphText$History" "EventGraphText$History" "characters" "[I") ∈ xG := xG_1 40 rfl rfl
theorem wd_42 : (Cond.laysFinal "EventGraphText$History" "EventGraphText$History" "parents" "[J") ∈ xG := xG_1 42 rfl rfl
theorem wd_44 : (Cond.laysFinal "EventGraphText$History" "EventGraphText$History" "ancestors" "[J") ∈ xG := xG_1 44 rfl rfl
theorem wd_46 : (Cond.laysFinal "EventGraphText$History" "EventGraphText$History" "slots" "[I") ∈ xG := xG_1 46 rfl rfl
theorem wd_48 : (Cond.laysFinal "EventGraphText$History" "EventGraphText$History" "made" "[I") ∈ xG := xG_1 48 rfl rfl
theorem wd_50 : (Cond.lays "EventGraphText$History" "EventGraphText$History" "count" "I") ∈ xG := xG_1 50 rfl rfl
theorem wd_95 : (Cond.laysFinal "EventGraphText$Line" "EventGraphText$Line" "slots" "[I") ∈ xG := xG_1 95 rfl rfl
theorem wd_97 : (Cond.lays "EventGraphText$Line" "EventGraphText$Line" "count" "I") ∈ xG := xG_1 97 rfl rfl
theorem wd_121 : (Cond.laysFinal "EventGraphText$Merge" "EventGraphText$Merge" "operations" "[I") ∈ xG := xG_1 121 rfl rfl
theorem wd_123 : (Cond.lays "EventGraphText$Merge" "EventGraphText$Merge" "applied" "I") ∈ xG := xG_1 123 rfl rfl
theorem wd_125 : (Cond.lays "EventGraphText$Merge" "EventGraphText$Merge" "replayed" "I") ∈ xG := xG_1 125 rfl rfl
theorem wd_127 : (Cond.lays "EventGraphText$Merge" "EventGraphText$Merge" "moves" "I") ∈ xG := xG_1 127 rfl rfl
theorem wd_173 : (Cond.laysFinal "EventGraphText$Message" "EventGraphText$Message" "octets" "LEventGraphText$OctetRow;") ∈ xG := xG_1 173 rfl rfl
theorem wd_175 : (Cond.lays "EventGraphText$Message" "EventGraphText$Message" "underWay" "Z") ∈ xG := xG_1 175 rfl rfl
theorem wd_177 : (Cond.lays "EventGraphText$Message" "EventGraphText$Message" "from" "I") ∈ xG := xG_1 177 rfl rfl
theorem wd_179 : (Cond.lays "EventGraphText$Message" "EventGraphText$Message" "to" "I") ∈ xG := xG_1 179 rfl rfl
theorem wd_181 : (Cond.lays "EventGraphText$Message" "EventGraphText$Message" "carried" "J") ∈ xG := xG_1 181 rfl rfl
theorem wd_158 : (Cond.laysFinal "EventGraphText$OctetRow" "EventGraphText$OctetRow" "row" "[I") ∈ xG := xG_1 158 rfl rfl
theorem wd_160 : (Cond.lays "EventGraphText$OctetRow" "EventGraphText$OctetRow" "count" "I") ∈ xG := xG_1 160 rfl rfl
theorem wd_136 : (Cond.laysFinal "EventGraphText$Site" "EventGraphText$Site" "beliefs" "[J") ∈ xG := xG_1 136 rfl rfl
theorem wd_138 : (Cond.laysFinal "EventGraphText$Site" "EventGraphText$Site" "merge" "LEventGraphText$Merge;") ∈ xG := xG_1 138 rfl rfl
theorem wd_140 : (Cond.lays "EventGraphText$Site" "EventGraphText$Site" "graph" "J") ∈ xG := xG_1 140 rfl rfl
theorem wd_189 : (Cond.laysFinal "EventGraphText" "EventGraphText" "history" "LEventGraphText$History;") ∈ xG := xG_1 189 rfl rfl
theorem wd_191 : (Cond.laysFinal "EventGraphText" "EventGraphText" "characters" "LEventGraphText$CharacterList;") ∈ xG := xG_1 191 rfl rfl
theorem wd_193 : (Cond.laysFinal "EventGraphText" "EventGraphText" "line" "LEventGraphText$Line;") ∈ xG := xG_1 193 rfl rfl
theorem wd_195 : (Cond.laysFinal "EventGraphText" "EventGraphText" "sites" "[LEventGraphText$Site;") ∈ xG := xG_1 195 rfl rfl
theorem wd_197 : (Cond.laysFinal "EventGraphText" "EventGraphText" "messages" "[LEventGraphText$Message;") ∈ xG := xG_1 197 rfl rfl
theorem wd_584 : (Cond.lays "EventGraphTextModel" "EventGraphTextModel" "made" "I") ∈ xG := xG_3 104 rfl rfl
theorem wd_586 : (Cond.laysFinal "EventGraphTextModel" "EventGraphTextModel" "site" "[I") ∈ xG := xG_3 106 rfl rfl
theorem wd_588 : (Cond.laysFinal "EventGraphTextModel" "EventGraphTextModel" "number" "[I") ∈ xG := xG_3 108 rfl rfl
theorem wd_590 : (Cond.laysFinal "EventGraphTextModel" "EventGraphTextModel" "inserts" "[Z") ∈ xG := xG_3 110 rfl rfl
theorem wd_592 : (Cond.laysFinal "EventGraphTextModel" "EventGraphTextModel" "index" "[I") ∈ xG := xG_3 112 rfl rfl
theorem wd_594 : (Cond.laysFinal "EventGraphTextModel" "EventGraphTextModel" "letter" "[I") ∈ xG := xG_3 114 rfl rfl
theorem wd_596 : (Cond.laysFinal "EventGraphTextModel" "EventGraphTextModel" "earlier" "[J") ∈ xG := xG_3 116 rfl rfl
theorem wd_598 : (Cond.laysFinal "EventGraphTextModel" "EventGraphTextModel" "parents" "[J") ∈ xG := xG_3 118 rfl rfl
theorem wd_600 : (Cond.laysFinal "EventGraphTextModel" "EventGraphTextModel" "place" "[I") ∈ xG := xG_3 120 rfl rfl
theorem wd_602 : (Cond.laysFinal "EventGraphTextModel" "EventGraphTextModel" "right" "[Z") ∈ xG := xG_3 122 rfl rfl
theorem wd_604 : (Cond.laysFinal "EventGraphTextModel" "EventGraphTextModel" "depth" "[I") ∈ xG := xG_3 124 rfl rfl
theorem wd_606 : (Cond.laysFinal "EventGraphTextModel" "EventGraphTextModel" "row" "[I") ∈ xG := xG_3 126 rfl rfl
theorem wd_608 : (Cond.lays "EventGraphTextModel" "EventGraphTextModel" "chars" "I") ∈ xG := xG_3 128 rfl rfl
theorem wd_610 : (Cond.laysFinal "EventGraphTextModel" "EventGraphTextModel" "graph" "[J") ∈ xG := xG_3 130 rfl rfl
theorem wd_612 : (Cond.laysFinal "EventGraphTextModel" "EventGraphTextModel" "thought" "[J") ∈ xG := xG_3 132 rfl rfl
theorem wd_614 : (Cond.laysFinal "EventGraphTextModel" "EventGraphTextModel" "load" "[J") ∈ xG := xG_3 134 rfl rfl
theorem wd_616 : (Cond.laysFinal "EventGraphTextModel" "EventGraphTextModel" "sender" "[I") ∈ xG := xG_3 136 rfl rfl
theorem wd_618 : (Cond.laysFinal "EventGraphTextModel" "EventGraphTextModel" "receiver" "[I") ∈ xG := xG_3 138 rfl rfl
theorem wd_620 : (Cond.laysFinal "EventGraphTextModel" "EventGraphTextModel" "again" "[I") ∈ xG := xG_3 140 rfl rfl
theorem wd_622 : (Cond.laysFinal "EventGraphTextModel" "EventGraphTextModel" "shifts" "[I") ∈ xG := xG_3 142 rfl rfl
theorem wd_624 : (Cond.laysFinal "EventGraphTextModel" "EventGraphTextModel" "dones" "[I") ∈ xG := xG_3 144 rfl rfl
theorem wd_626 : (Cond.laysFinal "EventGraphTextModel" "EventGraphTextModel" "did" "[I") ∈ xG := xG_3 146 rfl rfl
theorem wd_628 : (Cond.laysFinal "EventGraphTextModel" "EventGraphTextModel" "turn" "[I") ∈ xG := xG_3 148 rfl rfl
theorem wd_630 : (Cond.lays "EventGraphTextModel" "EventGraphTextModel" "turns" "I") ∈ xG := xG_3 150 rfl rfl
theorem wd_632 : (Cond.laysFinal "EventGraphTextModel" "EventGraphTextModel" "out" "[I") ∈ xG := xG_3 152 rfl rfl
theorem wd_634 : (Cond.lays "EventGraphTextModel" "EventGraphTextModel" "size" "I") ∈ xG := xG_3 154 rfl rfl
def xnF : List (String × Nat × String × String × String × String) := [("EventGraphText", 203, "EventGraphText$Merge", "operations", "[I", "EventGraphText"), ("EventGraphText", 200, "EventGraphText$Merge", "applied", "I", "EventGraphText"), ("EventGraphText", 194, "EventGraphText$Merge", "replayed", "I", "EventGraphText"), ("EventGraphText", 197, "EventGraphText$Merge", "moves", "I", "EventGraphText"), ("EventGraphText", 97, "EventGraphText$Site", "beliefs", "[J", "EventGraphText"), ("EventGraphText", 138, "EventGraphText$Site", "merge", "LEventGraphText$Merge;", "EventGraphText"), ("EventGraphText", 52, "EventGraphText$Site", "graph", "J", "EventGraphText"), ("EventGraphText", 155, "EventGraphText$Message", "octets", "LEventGraphText$OctetRow;", "EventGraphText"), ("EventGraphText", 148, "EventGraphText$Message", "underWay", "Z", "EventGraphText"), ("EventGraphText", 132, "EventGraphText$Message", "from", "I", "EventGraphText"), ("EventGraphText", 125, "EventGraphText$Message", "to", "I", "EventGraphText"), ("EventGraphText", 122, "EventGraphText$Message", "carried", "J", "EventGraphText")]
def xnM : List (String × Nat × MethodName × String) := [("EventGraphText", 9, ⟨"EventGraphText$History", "<init>", "()V"⟩, "EventGraphText"), ("EventGraphText", 18, ⟨"EventGraphText$CharacterList", "<init>", "()V"⟩, "EventGraphText"), ("EventGraphText", 25, ⟨"EventGraphText$Line", "<init>", "()V"⟩, "EventGraphText"), ("EventGraphText", 36, ⟨"EventGraphText$Site", "<init>", "()V"⟩, "EventGraphText"), ("EventGraphText$Site", 17, ⟨"EventGraphText$Merge", "<init>", "()V"⟩, "EventGraphText"), ("EventGraphText", 43, ⟨"EventGraphText$Message", "<init>", "()V"⟩, "EventGraphText"), ("EventGraphText$Message", 11, ⟨"EventGraphText$OctetRow", "<init>", "()V"⟩, "EventGraphText"), ("EventGraphText$CharacterList", 44, ⟨"EventGraphText", "has", "(JI)Z"⟩, "EventGraphText"), ("EventGraphText$CharacterList", 40, ⟨"EventGraphText", "bit", "(I)J"⟩, "EventGraphText"), ("EventGraphText$History", 53, ⟨"EventGraphText", "has", "(JI)Z"⟩, "EventGraphText"), ("EventGraphText$History", 49, ⟨"EventGraphText", "bit", "(I)J"⟩, "EventGraphText"), ("EventGraphText$Line", 25, ⟨"EventGraphText", "bit", "(I)J"⟩, "EventGraphText"), ("EventGraphText$Message", 91, ⟨"EventGraphText", "bit", "(I)J"⟩, "EventGraphText"), ("EventGraphText$Merge", 92, ⟨"EventGraphText", "has", "(JI)Z"⟩, "EventGraphText"), ("EventGraphText$Merge", 89, ⟨"EventGraphText", "bit", "(I)J"⟩, "EventGraphText"), ("EventGraphText$History", 45, ⟨"EventGraphText", "isSite", "(I)Z"⟩, "EventGraphText")]
def xNw (U : State) : Prop := (∀ q ∈ xnF, va_Nw (.fieldLinkNest q.1 q.2.1 q.2.2.1 q.2.2.2.1 q.2.2.2.2.1 q.2.2.2.2.2) U) ∧ ∀ q ∈ xnM, va_Nw (.methodLinkNest q.1 q.2.1 q.2.2.1 q.2.2.2) U
theorem xNw_warm {s U : State} (hW : s.WarmedH U.vm) (h : xNw s) : xNw U := ⟨fun q hq => va_Nw.warmF hW (h.1 q hq), fun q hq => va_Nw.warmM hW (h.2 q hq)⟩
theorem xNw_same {u U : State} (hv : u.vm = U.vm) (h : xNw u) : xNw U := ⟨fun q hq => va_Nw.same rfl hv (h.1 q hq), fun q hq => va_Nw.same rfl hv (h.2 q hq)⟩
theorem nf_0 {U : State} (h : xNw U) : va_Nw (Cond.fieldLinkNest "EventGraphText" 203 "EventGraphText$Merge" "operations" "[I" "EventGraphText") U := h.1 ("EventGraphText", 203, "EventGraphText$Merge", "operations", "[I", "EventGraphText") (List.mem_of_getElem? (i := 0) rfl)
theorem nf_1 {U : State} (h : xNw U) : va_Nw (Cond.fieldLinkNest "EventGraphText" 200 "EventGraphText$Merge" "applied" "I" "EventGraphText") U := h.1 ("EventGraphText", 200, "EventGraphText$Merge", "applied", "I", "EventGraphText") (List.mem_of_getElem? (i := 1) rfl)
theorem nf_2 {U : State} (h : xNw U) : va_Nw (Cond.fieldLinkNest "EventGraphText" 194 "EventGraphText$Merge" "replayed" "I" "EventGraphText") U := h.1 ("EventGraphText", 194, "EventGraphText$Merge", "replayed", "I", "EventGraphText") (List.mem_of_getElem? (i := 2) rfl)
theorem nf_3 {U : State} (h : xNw U) : va_Nw (Cond.fieldLinkNest "EventGraphText" 197 "EventGraphText$Merge" "moves" "I" "EventGraphText") U := h.1 ("EventGraphText", 197, "EventGraphText$Merge", "moves", "I", "EventGraphText") (List.mem_of_getElem? (i := 3) rfl)
theorem nf_4 {U : State} (h : xNw U) : va_Nw (Cond.fieldLinkNest "EventGraphText" 97 "EventGraphText$Site" "beliefs" "[J" "EventGraphText") U := h.1 ("EventGraphText", 97, "EventGraphText$Site", "beliefs", "[J", "EventGraphText") (List.mem_of_getElem? (i := 4) rfl)
theorem nf_5 {U : State} (h : xNw U) : va_Nw (Cond.fieldLinkNest "EventGraphText" 138 "EventGraphText$Site" "merge" "LEventGraphText$Merge;" "EventGraphText") U := h.1 ("EventGraphText", 138, "EventGraphText$Site", "merge", "LEventGraphText$Merge;", "EventGraphText") (List.mem_of_getElem? (i := 5) rfl)
theorem nf_6 {U : State} (h : xNw U) : va_Nw (Cond.fieldLinkNest "EventGraphText" 52 "EventGraphText$Site" "graph" "J" "EventGraphText") U := h.1 ("EventGraphText", 52, "EventGraphText$Site", "graph", "J", "EventGraphText") (List.mem_of_getElem? (i := 6) rfl)
theorem nf_7 {U : State} (h : xNw U) : va_Nw (Cond.fieldLinkNest "EventGraphText" 155 "EventGraphText$Message" "octets" "LEventGraphText$OctetRow;" "EventGraphText") U := h.1 ("EventGraphText", 155, "EventGraphText$Message", "octets", "LEventGraphText$OctetRow;", "EventGraphText") (List.mem_of_getElem? (i := 7) rfl)
theorem nf_8 {U : State} (h : xNw U) : va_Nw (Cond.fieldLinkNest "EventGraphText" 148 "EventGraphText$Message" "underWay" "Z" "EventGraphText") U := h.1 ("EventGraphText", 148, "EventGraphText$Message", "underWay", "Z", "EventGraphText") (List.mem_of_getElem? (i := 8) rfl)
theorem nf_9 {U : State} (h : xNw U) : va_Nw (Cond.fieldLinkNest "EventGraphText" 132 "EventGraphText$Message" "from" "I" "EventGraphText") U := h.1 ("EventGraphText", 132, "EventGraphText$Message", "from", "I", "EventGraphText") (List.mem_of_getElem? (i := 9) rfl)
theorem nf_10 {U : State} (h : xNw U) : va_Nw (Cond.fieldLinkNest "EventGraphText" 125 "EventGraphText$Message" "to" "I" "EventGraphText") U := h.1 ("EventGraphText", 125, "EventGraphText$Message", "to", "I", "EventGraphText") (List.mem_of_getElem? (i := 10) rfl)
theorem nf_11 {U : State} (h : xNw U) : va_Nw (Cond.fieldLinkNest "EventGraphText" 122 "EventGraphText$Message" "carried" "J" "EventGraphText") U := h.1 ("EventGraphText", 122, "EventGraphText$Message", "carried", "J", "EventGraphText") (List.mem_of_getElem? (i := 11) rfl)
theorem nmm_0 {U : State} (h : xNw U) : va_Nw (Cond.methodLinkNest "EventGraphText" 9 ⟨"EventGraphText$History", "<init>", "()V"⟩ "EventGraphText") U := h.2 ("EventGraphText", 9, ⟨"EventGraphText$History", "<init>", "()V"⟩, "EventGraphText") (List.mem_of_getElem? (i := 0) rfl)
theorem nmm_1 {U : State} (h : xNw U) : va_Nw (Cond.methodLinkNest "EventGraphText" 18 ⟨"EventGraphText$CharacterList", "<init>", "()V"⟩ "EventGraphText") U := h.2 ("EventGraphText", 18, ⟨"EventGraphText$CharacterList", "<init>", "()V"⟩, "EventGraphText") (List.mem_of_getElem? (i := 1) rfl)
theorem nmm_2 {U : State} (h : xNw U) : va_Nw (Cond.methodLinkNest "EventGraphText" 25 ⟨"EventGraphText$Line", "<init>", "()V"⟩ "EventGraphText") U := h.2 ("EventGraphText", 25, ⟨"EventGraphText$Line", "<init>", "()V"⟩, "EventGraphText") (List.mem_of_getElem? (i := 2) rfl)
theorem nmm_3 {U : State} (h : xNw U) : va_Nw (Cond.methodLinkNest "EventGraphText" 36 ⟨"EventGraphText$Site", "<init>", "()V"⟩ "EventGraphText") U := h.2 ("EventGraphText", 36, ⟨"EventGraphText$Site", "<init>", "()V"⟩, "EventGraphText") (List.mem_of_getElem? (i := 3) rfl)
theorem nmm_4 {U : State} (h : xNw U) : va_Nw (Cond.methodLinkNest "EventGraphText$Site" 17 ⟨"EventGraphText$Merge", "<init>", "()V"⟩ "EventGraphText") U := h.2 ("EventGraphText$Site", 17, ⟨"EventGraphText$Merge", "<init>", "()V"⟩, "EventGraphText") (List.mem_of_getElem? (i := 4) rfl)
theorem nmm_5 {U : State} (h : xNw U) : va_Nw (Cond.methodLinkNest "EventGraphText" 43 ⟨"EventGraphText$Message", "<init>", "()V"⟩ "EventGraphText") U := h.2 ("EventGraphText", 43, ⟨"EventGraphText$Message", "<init>", "()V"⟩, "EventGraphText") (List.mem_of_getElem? (i := 5) rfl)
theorem nmm_6 {U : State} (h : xNw U) : va_Nw (Cond.methodLinkNest "EventGraphText$Message" 11 ⟨"EventGraphText$OctetRow", "<init>", "()V"⟩ "EventGraphText") U := h.2 ("EventGraphText$Message", 11, ⟨"EventGraphText$OctetRow", "<init>", "()V"⟩, "EventGraphText") (List.mem_of_getElem? (i := 6) rfl)
theorem nmm_7 {U : State} (h : xNw U) : va_Nw (Cond.methodLinkNest "EventGraphText$CharacterList" 44 ⟨"EventGraphText", "has", "(JI)Z"⟩ "EventGraphText") U := h.2 ("EventGraphText$CharacterList", 44, ⟨"EventGraphText", "has", "(JI)Z"⟩, "EventGraphText") (List.mem_of_getElem? (i := 7) rfl)
theorem nmm_8 {U : State} (h : xNw U) : va_Nw (Cond.methodLinkNest "EventGraphText$CharacterList" 40 ⟨"EventGraphText", "bit", "(I)J"⟩ "EventGraphText") U := h.2 ("EventGraphText$CharacterList", 40, ⟨"EventGraphText", "bit", "(I)J"⟩, "EventGraphText") (List.mem_of_getElem? (i := 8) rfl)
theorem nmm_9 {U : State} (h : xNw U) : va_Nw (Cond.methodLinkNest "EventGraphText$History" 53 ⟨"EventGraphText", "has", "(JI)Z"⟩ "EventGraphText") U := h.2 ("EventGraphText$History", 53, ⟨"EventGraphText", "has", "(JI)Z"⟩, "EventGraphText") (List.mem_of_getElem? (i := 9) rfl)
theorem nmm_10 {U : State} (h : xNw U) : va_Nw (Cond.methodLinkNest "EventGraphText$History" 49 ⟨"EventGraphText", "bit", "(I)J"⟩ "EventGraphText") U := h.2 ("EventGraphText$History", 49, ⟨"EventGraphText", "bit", "(I)J"⟩, "EventGraphText") (List.mem_of_getElem? (i := 10) rfl)
theorem nmm_11 {U : State} (h : xNw U) : va_Nw (Cond.methodLinkNest "EventGraphText$Line" 25 ⟨"EventGraphText", "bit", "(I)J"⟩ "EventGraphText") U := h.2 ("EventGraphText$Line", 25, ⟨"EventGraphText", "bit", "(I)J"⟩, "EventGraphText") (List.mem_of_getElem? (i := 11) rfl)
theorem nmm_12 {U : State} (h : xNw U) : va_Nw (Cond.methodLinkNest "EventGraphText$Message" 91 ⟨"EventGraphText", "bit", "(I)J"⟩ "EventGraphText") U := h.2 ("EventGraphText$Message", 91, ⟨"EventGraphText", "bit", "(I)J"⟩, "EventGraphText") (List.mem_of_getElem? (i := 12) rfl)
theorem nmm_13 {U : State} (h : xNw U) : va_Nw (Cond.methodLinkNest "EventGraphText$Merge" 92 ⟨"EventGraphText", "has", "(JI)Z"⟩ "EventGraphText") U := h.2 ("EventGraphText$Merge", 92, ⟨"EventGraphText", "has", "(JI)Z"⟩, "EventGraphText") (List.mem_of_getElem? (i := 13) rfl)
theorem nmm_14 {U : State} (h : xNw U) : va_Nw (Cond.methodLinkNest "EventGraphText$Merge" 89 ⟨"EventGraphText", "bit", "(I)J"⟩ "EventGraphText") U := h.2 ("EventGraphText$Merge", 89, ⟨"EventGraphText", "bit", "(I)J"⟩, "EventGraphText") (List.mem_of_getElem? (i := 14) rfl)
theorem nmm_15 {U : State} (h : xNw U) : va_Nw (Cond.methodLinkNest "EventGraphText$History" 45 ⟨"EventGraphText", "isSite", "(I)Z"⟩ "EventGraphText") U := h.2 ("EventGraphText$History", 45, ⟨"EventGraphText", "isSite", "(I)Z"⟩, "EventGraphText") (List.mem_of_getElem? (i := 15) rfl)
end
section
def T_CharacterList : u_T := fun k => match k with
  | 0 => ("EventGraphText$CharacterList", "order", "[I", true)
  | 1 => ("EventGraphText$CharacterList", "holders", "[I", true)
  | 2 => ("EventGraphText$CharacterList", "onTheRight", "[Z", true)
  | 3 => ("EventGraphText$CharacterList", "chains", "[J", true)
  | 4 => ("EventGraphText$CharacterList", "taken", "[I", true)
  | 5 => ("EventGraphText$CharacterList", "deletes", "J", false)
  | 6 => ("EventGraphText$CharacterList", "inserts", "J", false)
  | _ => ("EventGraphText$CharacterList", "count", "I", false)
def ty_CharacterList : Nat → FieldType := fun k => match k with
  | 0 => .array .int
  | 1 => .array .int
  | 2 => .array .boolean
  | 3 => .array .long
  | 4 => .array .int
  | 5 => .long
  | 6 => .long
  | _ => .int
theorem nm_CharacterList : ∀ a, a < 8 → ∀ b, b < 8 → a ≠ b → (T_CharacterList a).2.1 ≠ (T_CharacterList b).2.1 := by decide +kernel
theorem tyok_CharacterList : ∀ k, k < 8 → parseFieldDescriptor (T_CharacterList k).2.2.1 = some (ty_CharacterList k) := by decide +kernel
theorem hin_CharacterList : ∀ w ∈ u_ws "EventGraphText$CharacterList" T_CharacterList 8, w ∈ xG := by
  intro w hw
  obtain ⟨k, hk, rfl⟩ := List.mem_map.mp hw
  have hk := List.mem_range.mp hk
  match k, hk with
  | 0, _ => exact wd_69
  | 1, _ => exact wd_71
  | 2, _ => exact wd_73
  | 3, _ => exact wd_75
  | 4, _ => exact wd_77
  | 5, _ => exact wd_79
  | 6, _ => exact wd_81
  | 7, _ => exact wd_83
  | k + 8, h => exact absurd h (by omega)
def T_History : u_T := fun k => match k with
  | 0 => ("EventGraphText$History", "sites", "[I", true)
  | 1 => ("EventGraphText$History", "numbers", "[I", true)
  | 2 => ("EventGraphText$History", "indices", "[I", true)
  | 3 => ("EventGraphText$History", "characters", "[I", true)
  | 4 => ("EventGraphText$History", "parents", "[J", true)
  | 5 => ("EventGraphText$History", "ancestors", "[J", true)
  | 6 => ("EventGraphText$History", "slots", "[I", true)
  | 7 => ("EventGraphText$History", "made", "[I", true)
  | _ => ("EventGraphText$History", "count", "I", false)
def ty_History : Nat → FieldType := fun k => match k with
  | 0 => .array .int
  | 1 => .array .int
  | 2 => .array .int
  | 3 => .array .int
  | 4 => .array .long
  | 5 => .array .long
  | 6 => .array .int
  | 7 => .array .int
  | _ => .int
theorem nm_History : ∀ a, a < 9 → ∀ b, b < 9 → a ≠ b → (T_History a).2.1 ≠ (T_History b).2.1 := by decide +kernel
theorem tyok_History : ∀ k, k < 9 → parseFieldDescriptor (T_History k).2.2.1 = some (ty_History k) := by decide +kernel
theorem hin_History : ∀ w ∈ u_ws "EventGraphText$History" T_History 9, w ∈ xG := by
  intro w hw
  obtain ⟨k, hk, rfl⟩ := List.mem_map.mp hw
  have hk := List.mem_range.mp hk
  match k, hk with
  | 0, _ => exact wd_34
  | 1, _ => exact wd_36
  | 2, _ => exact wd_38
  | 3, _ => exact wd_40
  | 4, _ => exact wd_42
  | 5, _ => exact wd_44
  | 6, _ => exact wd_46
  | 7, _ => exact wd_48
  | 8, _ => exact wd_50
  | k + 9, h => exact absurd h (by omega)
def T_Line : u_T := fun k => match k with
  | 0 => ("EventGraphText$Line", "slots", "[I", true)
  | _ => ("EventGraphText$Line", "count", "I", false)
def ty_Line : Nat → FieldType := fun k => match k with
  | 0 => .array .int
  | _ => .int
theorem nm_Line : ∀ a, a < 2 → ∀ b, b < 2 → a ≠ b → (T_Line a).2.1 ≠ (T_Line b).2.1 := by decide +kernel
theorem tyok_Line : ∀ k, k < 2 → parseFieldDescriptor (T_Line k).2.2.1 = some (ty_Line k) := by decide +kernel
theorem hin_Line : ∀ w ∈ u_ws "EventGraphText$Line" T_Line 2, w ∈ xG := by
  intro w hw
  obtain ⟨k, hk, rfl⟩ := List.mem_map.mp hw
  have hk := List.mem_range.mp hk
  match k, hk with
  | 0, _ => exact wd_95
  | 1, _ => exact wd_97
  | k + 2, h => exact absurd h (by omega)
def T_Merge : u_T := fun k => match k with
  | 0 => ("EventGraphText$Merge", "operations", "[I", true)
  | 1 => ("EventGraphText$Merge", "applied", "I", false)
  | 2 => ("EventGraphText$Merge", "replayed", "I", false)
  | _ => ("EventGraphText$Merge", "moves", "I", false)
def ty_Merge : Nat → FieldType := fun k => match k with
  | 0 => .array .int
  | 1 => .int
  | 2 => .int
  | _ => .int
theorem nm_Merge : ∀ a, a < 4 → ∀ b, b < 4 → a ≠ b → (T_Merge a).2.1 ≠ (T_Merge b).2.1 := by decide +kernel
theorem tyok_Merge : ∀ k, k < 4 → parseFieldDescriptor (T_Merge k).2.2.1 = some (ty_Merge k) := by decide +kernel
theorem hin_Merge : ∀ w ∈ u_ws "EventGraphText$Merge" T_Merge 4, w ∈ xG := by
  intro w hw
  obtain ⟨k, hk, rfl⟩ := List.mem_map.mp hw
  have hk := List.mem_range.mp hk
  match k, hk with
  | 0, _ => exact wd_121
  | 1, _ => exact wd_123
  | 2, _ => exact wd_125
  | 3, _ => exact wd_127
  | k + 4, h => exact absurd h (by omega)
def T_Message : u_T := fun k => match k with
  | 0 => ("EventGraphText$Message", "octets", "LEventGraphText$OctetRow;", true)
  | 1 => ("EventGraphText$Message", "underWay", "Z", false)
  | 2 => ("EventGraphText$Message", "from", "I", false)
  | 3 => ("EventGraphText$Message", "to", "I", false)
  | _ => ("EventGraphText$Message", "carried", "J", false)
def ty_Message : Nat → FieldType := fun k => match k with
  | 0 => .object "EventGraphText$OctetRow"
  | 1 => .boolean
  | 2 => .int
  | 3 => .int
  | _ => .long
theorem nm_Message : ∀ a, a < 5 → ∀ b, b < 5 → a ≠ b → (T_Message a).2.1 ≠ (T_Message b).2.1 := by decide +kernel
theorem tyok_Message : ∀ k, k < 5 → parseFieldDescriptor (T_Message k).2.2.1 = some (ty_Message k) := by decide +kernel
theorem hin_Message : ∀ w ∈ u_ws "EventGraphText$Message" T_Message 5, w ∈ xG := by
  intro w hw
  obtain ⟨k, hk, rfl⟩ := List.mem_map.mp hw
  have hk := List.mem_range.mp hk
  match k, hk with
  | 0, _ => exact wd_173
  | 1, _ => exact wd_175
  | 2, _ => exact wd_177
  | 3, _ => exact wd_179
  | 4, _ => exact wd_181
  | k + 5, h => exact absurd h (by omega)
def T_OctetRow : u_T := fun k => match k with
  | 0 => ("EventGraphText$OctetRow", "row", "[I", true)
  | _ => ("EventGraphText$OctetRow", "count", "I", false)
def ty_OctetRow : Nat → FieldType := fun k => match k with
  | 0 => .array .int
  | _ => .int
theorem nm_OctetRow : ∀ a, a < 2 → ∀ b, b < 2 → a ≠ b → (T_OctetRow a).2.1 ≠ (T_OctetRow b).2.1 := by decide +kernel
theorem tyok_OctetRow : ∀ k, k < 2 → parseFieldDescriptor (T_OctetRow k).2.2.1 = some (ty_OctetRow k) := by decide +kernel
theorem hin_OctetRow : ∀ w ∈ u_ws "EventGraphText$OctetRow" T_OctetRow 2, w ∈ xG := by
  intro w hw
  obtain ⟨k, hk, rfl⟩ := List.mem_map.mp hw
  have hk := List.mem_range.mp hk
  match k, hk with
  | 0, _ => exact wd_158
  | 1, _ => exact wd_160
  | k + 2, h => exact absurd h (by omega)
def T_Site : u_T := fun k => match k with
  | 0 => ("EventGraphText$Site", "beliefs", "[J", true)
  | 1 => ("EventGraphText$Site", "merge", "LEventGraphText$Merge;", true)
  | _ => ("EventGraphText$Site", "graph", "J", false)
def ty_Site : Nat → FieldType := fun k => match k with
  | 0 => .array .long
  | 1 => .object "EventGraphText$Merge"
  | _ => .long
theorem nm_Site : ∀ a, a < 3 → ∀ b, b < 3 → a ≠ b → (T_Site a).2.1 ≠ (T_Site b).2.1 := by decide +kernel
theorem tyok_Site : ∀ k, k < 3 → parseFieldDescriptor (T_Site k).2.2.1 = some (ty_Site k) := by decide +kernel
theorem hin_Site : ∀ w ∈ u_ws "EventGraphText$Site" T_Site 3, w ∈ xG := by
  intro w hw
  obtain ⟨k, hk, rfl⟩ := List.mem_map.mp hw
  have hk := List.mem_range.mp hk
  match k, hk with
  | 0, _ => exact wd_136
  | 1, _ => exact wd_138
  | 2, _ => exact wd_140
  | k + 3, h => exact absurd h (by omega)
def T_Text : u_T := fun k => match k with
  | 0 => ("EventGraphText", "history", "LEventGraphText$History;", true)
  | 1 => ("EventGraphText", "characters", "LEventGraphText$CharacterList;", true)
  | 2 => ("EventGraphText", "line", "LEventGraphText$Line;", true)
  | 3 => ("EventGraphText", "sites", "[LEventGraphText$Site;", true)
  | _ => ("EventGraphText", "messages", "[LEventGraphText$Message;", true)
def ty_Text : Nat → FieldType := fun k => match k with
  | 0 => .object "EventGraphText$History"
  | 1 => .object "EventGraphText$CharacterList"
  | 2 => .object "EventGraphText$Line"
  | 3 => .array (.object "EventGraphText$Site")
  | _ => .array (.object "EventGraphText$Message")
theorem nm_Text : ∀ a, a < 5 → ∀ b, b < 5 → a ≠ b → (T_Text a).2.1 ≠ (T_Text b).2.1 := by decide +kernel
theorem tyok_Text : ∀ k, k < 5 → parseFieldDescriptor (T_Text k).2.2.1 = some (ty_Text k) := by decide +kernel
theorem hin_Text : ∀ w ∈ u_ws "EventGraphText" T_Text 5, w ∈ xG := by
  intro w hw
  obtain ⟨k, hk, rfl⟩ := List.mem_map.mp hw
  have hk := List.mem_range.mp hk
  match k, hk with
  | 0, _ => exact wd_189
  | 1, _ => exact wd_191
  | 2, _ => exact wd_193
  | 3, _ => exact wd_195
  | 4, _ => exact wd_197
  | k + 5, h => exact absurd h (by omega)
def T_Model : u_T := fun k => match k with
  | 0 => ("EventGraphTextModel", "made", "I", false)
  | 1 => ("EventGraphTextModel", "site", "[I", true)
  | 2 => ("EventGraphTextModel", "number", "[I", true)
  | 3 => ("EventGraphTextModel", "inserts", "[Z", true)
  | 4 => ("EventGraphTextModel", "index", "[I", true)
  | 5 => ("EventGraphTextModel", "letter", "[I", true)
  | 6 => ("EventGraphTextModel", "earlier", "[J", true)
  | 7 => ("EventGraphTextModel", "parents", "[J", true)
  | 8 => ("EventGraphTextModel", "place", "[I", true)
  | 9 => ("EventGraphTextModel", "right", "[Z", true)
  | 10 => ("EventGraphTextModel", "depth", "[I", true)
  | 11 => ("EventGraphTextModel", "row", "[I", true)
  | 12 => ("EventGraphTextModel", "chars", "I", false)
  | 13 => ("EventGraphTextModel", "graph", "[J", true)
  | 14 => ("EventGraphTextModel", "thought", "[J", true)
  | 15 => ("EventGraphTextModel", "load", "[J", true)
  | 16 => ("EventGraphTextModel", "sender", "[I", true)
  | 17 => ("EventGraphTextModel", "receiver", "[I", true)
  | 18 => ("EventGraphTextModel", "again", "[I", true)
  | 19 => ("EventGraphTextModel", "shifts", "[I", true)
  | 20 => ("EventGraphTextModel", "dones", "[I", true)
  | 21 => ("EventGraphTextModel", "did", "[I", true)
  | 22 => ("EventGraphTextModel", "turn", "[I", true)
  | 23 => ("EventGraphTextModel", "turns", "I", false)
  | 24 => ("EventGraphTextModel", "out", "[I", true)
  | _ => ("EventGraphTextModel", "size", "I", false)
def ty_Model : Nat → FieldType := fun k => match k with
  | 0 => .int
  | 1 => .array .int
  | 2 => .array .int
  | 3 => .array .boolean
  | 4 => .array .int
  | 5 => .array .int
  | 6 => .array .long
  | 7 => .array .long
  | 8 => .array .int
  | 9 => .array .boolean
  | 10 => .array .int
  | 11 => .array .int
  | 12 => .int
  | 13 => .array .long
  | 14 => .array .long
  | 15 => .array .long
  | 16 => .array .int
  | 17 => .array .int
  | 18 => .array .int
  | 19 => .array .int
  | 20 => .array .int
  | 21 => .array .int
  | 22 => .array .int
  | 23 => .int
  | 24 => .array .int
  | _ => .int
theorem nm_Model : ∀ a, a < 26 → ∀ b, b < 26 → a ≠ b → (T_Model a).2.1 ≠ (T_Model b).2.1 := by decide +kernel
theorem tyok_Model : ∀ k, k < 26 → parseFieldDescriptor (T_Model k).2.2.1 = some (ty_Model k) := by decide +kernel
theorem hin_Model : ∀ w ∈ u_ws "EventGraphTextModel" T_Model 26, w ∈ xG := by
  intro w hw
  obtain ⟨k, hk, rfl⟩ := List.mem_map.mp hw
  have hk := List.mem_range.mp hk
  match k, hk with
  | 0, _ => exact wd_584
  | 1, _ => exact wd_586
  | 2, _ => exact wd_588
  | 3, _ => exact wd_590
  | 4, _ => exact wd_592
  | 5, _ => exact wd_594
  | 6, _ => exact wd_596
  | 7, _ => exact wd_598
  | 8, _ => exact wd_600
  | 9, _ => exact wd_602
  | 10, _ => exact wd_604
  | 11, _ => exact wd_606
  | 12, _ => exact wd_608
  | 13, _ => exact wd_610
  | 14, _ => exact wd_612
  | 15, _ => exact wd_614
  | 16, _ => exact wd_616
  | 17, _ => exact wd_618
  | 18, _ => exact wd_620
  | 19, _ => exact wd_622
  | 20, _ => exact wd_624
  | 21, _ => exact wd_626
  | 22, _ => exact wd_628
  | 23, _ => exact wd_630
  | 24, _ => exact wd_632
  | 25, _ => exact wd_634
  | k + 26, h => exact absurd h (by omega)
abbrev xCl : List vw_C := [("EventGraphText$CharacterList", T_CharacterList, 8), ("EventGraphText$History", T_History, 9), ("EventGraphText$Line", T_Line, 2), ("EventGraphText$Merge", T_Merge, 4), ("EventGraphText$Message", T_Message, 5), ("EventGraphText$OctetRow", T_OctetRow, 2), ("EventGraphText$Site", T_Site, 3), ("EventGraphText", T_Text, 5), ("EventGraphTextModel", T_Model, 26)]
def xT (dT : Nat → ClassId) : List (ClassId × FieldType) := [(dT 0, .int), (dT 1, .long), (dT 2, .boolean), (dT 3, .object "EventGraphText$Site"), (dT 4, .object "EventGraphText$Message")]
abbrev y_Text_isSite : MethodName := ⟨"EventGraphText", "isSite", "(I)Z"⟩
abbrev b_Text_isSite : ByteArray := prog_1_method_23_code
theorem pd_Text_isSite : y_Text_isSite.cls = "EventGraphText" ∧ y_Text_isSite.cls ≠ "java/lang/invoke/MethodHandle" ∧ y_Text_isSite.cls ≠ "java/lang/invoke/VarHandle" ∧ (parseMethodDescriptor y_Text_isSite.desc).map (fun d => d.parameters.length) = some 1 := by decide +kernel
abbrev y_History_isFull : MethodName := ⟨"EventGraphText$History", "isFull", "()Z"⟩
abbrev b_History_isFull : ByteArray := prog_3_method_2_code
theorem pd_History_isFull : y_History_isFull.cls = "EventGraphText$History" ∧ y_History_isFull.cls ≠ "java/lang/invoke/MethodHandle" ∧ y_History_isFull.cls ≠ "java/lang/invoke/VarHandle" ∧ (parseMethodDescriptor y_History_isFull.desc).map (fun d => d.parameters.length) = some 0 := by decide +kernel
abbrev y_Text_bit : MethodName := ⟨"EventGraphText", "bit", "(I)J"⟩
abbrev b_Text_bit : ByteArray := prog_1_method_25_code
theorem pd_Text_bit : y_Text_bit.cls = "EventGraphText" ∧ y_Text_bit.cls ≠ "java/lang/invoke/MethodHandle" ∧ y_Text_bit.cls ≠ "java/lang/invoke/VarHandle" ∧ (parseMethodDescriptor y_Text_bit.desc).map (fun d => d.parameters.length) = some 1 := by decide +kernel
abbrev y_Text_has : MethodName := ⟨"EventGraphText", "has", "(JI)Z"⟩
abbrev b_Text_has : ByteArray := prog_1_method_26_code
theorem pd_Text_has : y_Text_has.cls = "EventGraphText" ∧ y_Text_has.cls ≠ "java/lang/invoke/MethodHandle" ∧ y_Text_has.cls ≠ "java/lang/invoke/VarHandle" ∧ (parseMethodDescriptor y_Text_has.desc).map (fun d => d.parameters.length) = some 2 := by decide +kernel
abbrev y_CharacterList_shownIn : MethodName := ⟨"EventGraphText$CharacterList", "shownIn", "(J)J"⟩
abbrev b_CharacterList_shownIn : ByteArray := prog_2_method_4_code
theorem pd_CharacterList_shownIn : y_CharacterList_shownIn.cls = "EventGraphText$CharacterList" ∧ y_CharacterList_shownIn.cls ≠ "java/lang/invoke/MethodHandle" ∧ y_CharacterList_shownIn.cls ≠ "java/lang/invoke/VarHandle" ∧ (parseMethodDescriptor y_CharacterList_shownIn.desc).map (fun d => d.parameters.length) = some 1 := by decide +kernel
abbrev y_Long_bitCount : MethodName := ⟨"java/lang/Long", "bitCount", "(J)I"⟩
abbrev b_Long_bitCount : ByteArray := prog_11_method_50_code
theorem pd_Long_bitCount : y_Long_bitCount.cls = "java/lang/Long" ∧ y_Long_bitCount.cls ≠ "java/lang/invoke/MethodHandle" ∧ y_Long_bitCount.cls ≠ "java/lang/invoke/VarHandle" ∧ (parseMethodDescriptor y_Long_bitCount.desc).map (fun d => d.parameters.length) = some 1 := by decide +kernel
abbrev y_CharacterList_shownAt : MethodName := ⟨"EventGraphText$CharacterList", "shownAt", "(JI)I"⟩
abbrev b_CharacterList_shownAt : ByteArray := prog_2_method_5_code
theorem pd_CharacterList_shownAt : y_CharacterList_shownAt.cls = "EventGraphText$CharacterList" ∧ y_CharacterList_shownAt.cls ≠ "java/lang/invoke/MethodHandle" ∧ y_CharacterList_shownAt.cls ≠ "java/lang/invoke/VarHandle" ∧ (parseMethodDescriptor y_CharacterList_shownAt.desc).map (fun d => d.parameters.length) = some 2 := by decide +kernel
abbrev y_History_parentsOfAll : MethodName := ⟨"EventGraphText$History", "parentsOfAll", "(J)J"⟩
abbrev b_History_parentsOfAll : ByteArray := prog_3_method_18_code
theorem pd_History_parentsOfAll : y_History_parentsOfAll.cls = "EventGraphText$History" ∧ y_History_parentsOfAll.cls ≠ "java/lang/invoke/MethodHandle" ∧ y_History_parentsOfAll.cls ≠ "java/lang/invoke/VarHandle" ∧ (parseMethodDescriptor y_History_parentsOfAll.desc).map (fun d => d.parameters.length) = some 1 := by decide +kernel
abbrev y_History_headsOf : MethodName := ⟨"EventGraphText$History", "headsOf", "(J)J"⟩
abbrev b_History_headsOf : ByteArray := prog_3_method_19_code
theorem pd_History_headsOf : y_History_headsOf.cls = "EventGraphText$History" ∧ y_History_headsOf.cls ≠ "java/lang/invoke/MethodHandle" ∧ y_History_headsOf.cls ≠ "java/lang/invoke/VarHandle" ∧ (parseMethodDescriptor y_History_headsOf.desc).map (fun d => d.parameters.length) = some 1 := by decide +kernel
abbrev y_History_record : MethodName := ⟨"EventGraphText$History", "record", "(IIIJ)I"⟩
abbrev b_History_record : ByteArray := prog_3_method_3_code
theorem pd_History_record : y_History_record.cls = "EventGraphText$History" ∧ y_History_record.cls ≠ "java/lang/invoke/MethodHandle" ∧ y_History_record.cls ≠ "java/lang/invoke/VarHandle" ∧ (parseMethodDescriptor y_History_record.desc).map (fun d => d.parameters.length) = some 4 := by decide +kernel
abbrev y_CharacterList_childrenOf : MethodName := ⟨"EventGraphText$CharacterList", "childrenOf", "(IZ)J"⟩
abbrev b_CharacterList_childrenOf : ByteArray := prog_2_method_8_code
theorem pd_CharacterList_childrenOf : y_CharacterList_childrenOf.cls = "EventGraphText$CharacterList" ∧ y_CharacterList_childrenOf.cls ≠ "java/lang/invoke/MethodHandle" ∧ y_CharacterList_childrenOf.cls ≠ "java/lang/invoke/VarHandle" ∧ (parseMethodDescriptor y_CharacterList_childrenOf.desc).map (fun d => d.parameters.length) = some 2 := by decide +kernel
abbrev y_CharacterList_nextBehind : MethodName := ⟨"EventGraphText$CharacterList", "nextBehind", "(IJ)I"⟩
abbrev b_CharacterList_nextBehind : ByteArray := prog_2_method_9_code
theorem pd_CharacterList_nextBehind : y_CharacterList_nextBehind.cls = "EventGraphText$CharacterList" ∧ y_CharacterList_nextBehind.cls ≠ "java/lang/invoke/MethodHandle" ∧ y_CharacterList_nextBehind.cls ≠ "java/lang/invoke/VarHandle" ∧ (parseMethodDescriptor y_CharacterList_nextBehind.desc).map (fun d => d.parameters.length) = some 2 := by decide +kernel
abbrev y_History_comesBefore : MethodName := ⟨"EventGraphText$History", "comesBefore", "(II)Z"⟩
abbrev b_History_comesBefore : ByteArray := prog_3_method_15_code
theorem pd_History_comesBefore : y_History_comesBefore.cls = "EventGraphText$History" ∧ y_History_comesBefore.cls ≠ "java/lang/invoke/MethodHandle" ∧ y_History_comesBefore.cls ≠ "java/lang/invoke/VarHandle" ∧ (parseMethodDescriptor y_History_comesBefore.desc).map (fun d => d.parameters.length) = some 2 := by decide +kernel
abbrev y_CharacterList_nearerSiblings : MethodName := ⟨"EventGraphText$CharacterList", "nearerSiblings", "(LEventGraphText$History;IIZ)J"⟩
abbrev b_CharacterList_nearerSiblings : ByteArray := prog_2_method_12_code
theorem pd_CharacterList_nearerSiblings : y_CharacterList_nearerSiblings.cls = "EventGraphText$CharacterList" ∧ y_CharacterList_nearerSiblings.cls ≠ "java/lang/invoke/MethodHandle" ∧ y_CharacterList_nearerSiblings.cls ≠ "java/lang/invoke/VarHandle" ∧ (parseMethodDescriptor y_CharacterList_nearerSiblings.desc).map (fun d => d.parameters.length) = some 4 := by decide +kernel
abbrev y_CharacterList_rightPosition : MethodName := ⟨"EventGraphText$CharacterList", "rightPosition", "(LEventGraphText$History;II)I"⟩
abbrev b_CharacterList_rightPosition : ByteArray := prog_2_method_11_code
theorem pd_CharacterList_rightPosition : y_CharacterList_rightPosition.cls = "EventGraphText$CharacterList" ∧ y_CharacterList_rightPosition.cls ≠ "java/lang/invoke/MethodHandle" ∧ y_CharacterList_rightPosition.cls ≠ "java/lang/invoke/VarHandle" ∧ (parseMethodDescriptor y_CharacterList_rightPosition.desc).map (fun d => d.parameters.length) = some 3 := by decide +kernel
abbrev y_CharacterList_leftPosition : MethodName := ⟨"EventGraphText$CharacterList", "leftPosition", "(LEventGraphText$History;II)I"⟩
abbrev b_CharacterList_leftPosition : ByteArray := prog_2_method_10_code
theorem pd_CharacterList_leftPosition : y_CharacterList_leftPosition.cls = "EventGraphText$CharacterList" ∧ y_CharacterList_leftPosition.cls ≠ "java/lang/invoke/MethodHandle" ∧ y_CharacterList_leftPosition.cls ≠ "java/lang/invoke/VarHandle" ∧ (parseMethodDescriptor y_CharacterList_leftPosition.desc).map (fun d => d.parameters.length) = some 3 := by decide +kernel
abbrev y_CharacterList_putBehind : MethodName := ⟨"EventGraphText$CharacterList", "putBehind", "(LEventGraphText$History;IIJ)V"⟩
abbrev b_CharacterList_putBehind : ByteArray := prog_2_method_7_code
theorem pd_CharacterList_putBehind : y_CharacterList_putBehind.cls = "EventGraphText$CharacterList" ∧ y_CharacterList_putBehind.cls ≠ "java/lang/invoke/MethodHandle" ∧ y_CharacterList_putBehind.cls ≠ "java/lang/invoke/VarHandle" ∧ (parseMethodDescriptor y_CharacterList_putBehind.desc).map (fun d => d.parameters.length) = some 4 := by decide +kernel
abbrev y_History_numberOf : MethodName := ⟨"EventGraphText$History", "numberOf", "(I)I"⟩
abbrev b_History_numberOf : ByteArray := prog_3_method_7_code
theorem pd_History_numberOf : y_History_numberOf.cls = "EventGraphText$History" ∧ y_History_numberOf.cls ≠ "java/lang/invoke/MethodHandle" ∧ y_History_numberOf.cls ≠ "java/lang/invoke/VarHandle" ∧ (parseMethodDescriptor y_History_numberOf.desc).map (fun d => d.parameters.length) = some 1 := by decide +kernel
abbrev y_Text_insert : MethodName := ⟨"EventGraphText", "insert", "(III)I"⟩
abbrev b_Text_insert : ByteArray := prog_1_method_2_code
theorem pd_Text_insert : y_Text_insert.cls = "EventGraphText" ∧ y_Text_insert.cls ≠ "java/lang/invoke/MethodHandle" ∧ y_Text_insert.cls ≠ "java/lang/invoke/VarHandle" ∧ (parseMethodDescriptor y_Text_insert.desc).map (fun d => d.parameters.length) = some 3 := by decide +kernel
abbrev y_CharacterList_hide : MethodName := ⟨"EventGraphText$CharacterList", "hide", "(II)V"⟩
abbrev b_CharacterList_hide : ByteArray := prog_2_method_2_code
theorem pd_CharacterList_hide : y_CharacterList_hide.cls = "EventGraphText$CharacterList" ∧ y_CharacterList_hide.cls ≠ "java/lang/invoke/MethodHandle" ∧ y_CharacterList_hide.cls ≠ "java/lang/invoke/VarHandle" ∧ (parseMethodDescriptor y_CharacterList_hide.desc).map (fun d => d.parameters.length) = some 2 := by decide +kernel
abbrev y_Text_delete : MethodName := ⟨"EventGraphText", "delete", "(II)I"⟩
abbrev b_Text_delete : ByteArray := prog_1_method_3_code
theorem pd_Text_delete : y_Text_delete.cls = "EventGraphText" ∧ y_Text_delete.cls ≠ "java/lang/invoke/MethodHandle" ∧ y_Text_delete.cls ≠ "java/lang/invoke/VarHandle" ∧ (parseMethodDescriptor y_Text_delete.desc).map (fun d => d.parameters.length) = some 2 := by decide +kernel
abbrev y_Text_length : MethodName := ⟨"EventGraphText", "length", "(I)I"⟩
abbrev b_Text_length : ByteArray := prog_1_method_4_code
theorem pd_Text_length : y_Text_length.cls = "EventGraphText" ∧ y_Text_length.cls ≠ "java/lang/invoke/MethodHandle" ∧ y_Text_length.cls ≠ "java/lang/invoke/VarHandle" ∧ (parseMethodDescriptor y_Text_length.desc).map (fun d => d.parameters.length) = some 1 := by decide +kernel
abbrev y_History_characterOf : MethodName := ⟨"EventGraphText$History", "characterOf", "(I)I"⟩
abbrev b_History_characterOf : ByteArray := prog_3_method_9_code
theorem pd_History_characterOf : y_History_characterOf.cls = "EventGraphText$History" ∧ y_History_characterOf.cls ≠ "java/lang/invoke/MethodHandle" ∧ y_History_characterOf.cls ≠ "java/lang/invoke/VarHandle" ∧ (parseMethodDescriptor y_History_characterOf.desc).map (fun d => d.parameters.length) = some 1 := by decide +kernel
abbrev y_Text_at : MethodName := ⟨"EventGraphText", "at", "(II)I"⟩
abbrev b_Text_at : ByteArray := prog_1_method_5_code
theorem pd_Text_at : y_Text_at.cls = "EventGraphText" ∧ y_Text_at.cls ≠ "java/lang/invoke/MethodHandle" ∧ y_Text_at.cls ≠ "java/lang/invoke/VarHandle" ∧ (parseMethodDescriptor y_Text_at.desc).map (fun d => d.parameters.length) = some 2 := by decide +kernel
abbrev y_Text_areTwoSites : MethodName := ⟨"EventGraphText", "areTwoSites", "(II)Z"⟩
abbrev b_Text_areTwoSites : ByteArray := prog_1_method_24_code
theorem pd_Text_areTwoSites : y_Text_areTwoSites.cls = "EventGraphText" ∧ y_Text_areTwoSites.cls ≠ "java/lang/invoke/MethodHandle" ∧ y_Text_areTwoSites.cls ≠ "java/lang/invoke/VarHandle" ∧ (parseMethodDescriptor y_Text_areTwoSites.desc).map (fun d => d.parameters.length) = some 2 := by decide +kernel
abbrev y_Text_freeNumber : MethodName := ⟨"EventGraphText", "freeNumber", "()I"⟩
abbrev b_Text_freeNumber : ByteArray := prog_1_method_22_code
theorem pd_Text_freeNumber : y_Text_freeNumber.cls = "EventGraphText" ∧ y_Text_freeNumber.cls ≠ "java/lang/invoke/MethodHandle" ∧ y_Text_freeNumber.cls ≠ "java/lang/invoke/VarHandle" ∧ (parseMethodDescriptor y_Text_freeNumber.desc).map (fun d => d.parameters.length) = some 0 := by decide +kernel
abbrev y_History_leastOf : MethodName := ⟨"EventGraphText$History", "leastOf", "(J)I"⟩
abbrev b_History_leastOf : ByteArray := prog_3_method_16_code
theorem pd_History_leastOf : y_History_leastOf.cls = "EventGraphText$History" ∧ y_History_leastOf.cls ≠ "java/lang/invoke/MethodHandle" ∧ y_History_leastOf.cls ≠ "java/lang/invoke/VarHandle" ∧ (parseMethodDescriptor y_History_leastOf.desc).map (fun d => d.parameters.length) = some 1 := by decide +kernel
abbrev y_History_nextOf : MethodName := ⟨"EventGraphText$History", "nextOf", "(JI)I"⟩
abbrev b_History_nextOf : ByteArray := prog_3_method_23_code
theorem pd_History_nextOf : y_History_nextOf.cls = "EventGraphText$History" ∧ y_History_nextOf.cls ≠ "java/lang/invoke/MethodHandle" ∧ y_History_nextOf.cls ≠ "java/lang/invoke/VarHandle" ∧ (parseMethodDescriptor y_History_nextOf.desc).map (fun d => d.parameters.length) = some 2 := by decide +kernel
abbrev y_Line_arrange : MethodName := ⟨"EventGraphText$Line", "arrange", "(LEventGraphText$History;J)V"⟩
abbrev b_Line_arrange : ByteArray := prog_4_method_2_code
theorem pd_Line_arrange : y_Line_arrange.cls = "EventGraphText$Line" ∧ y_Line_arrange.cls ≠ "java/lang/invoke/MethodHandle" ∧ y_Line_arrange.cls ≠ "java/lang/invoke/VarHandle" ∧ (parseMethodDescriptor y_Line_arrange.desc).map (fun d => d.parameters.length) = some 2 := by decide +kernel
abbrev y_Message_start : MethodName := ⟨"EventGraphText$Message", "start", "(IIJ)V"⟩
abbrev b_Message_start : ByteArray := prog_6_method_2_code
theorem pd_Message_start : y_Message_start.cls = "EventGraphText$Message" ∧ y_Message_start.cls ≠ "java/lang/invoke/MethodHandle" ∧ y_Message_start.cls ≠ "java/lang/invoke/VarHandle" ∧ (parseMethodDescriptor y_Message_start.desc).map (fun d => d.parameters.length) = some 3 := by decide +kernel
abbrev y_OctetRow_clear : MethodName := ⟨"EventGraphText$OctetRow", "clear", "()V"⟩
abbrev b_OctetRow_clear : ByteArray := prog_7_method_2_code
theorem pd_OctetRow_clear : y_OctetRow_clear.cls = "EventGraphText$OctetRow" ∧ y_OctetRow_clear.cls ≠ "java/lang/invoke/MethodHandle" ∧ y_OctetRow_clear.cls ≠ "java/lang/invoke/VarHandle" ∧ (parseMethodDescriptor y_OctetRow_clear.desc).map (fun d => d.parameters.length) = some 0 := by decide +kernel
abbrev y_Line_size : MethodName := ⟨"EventGraphText$Line", "size", "()I"⟩
abbrev b_Line_size : ByteArray := prog_4_method_3_code
theorem pd_Line_size : y_Line_size.cls = "EventGraphText$Line" ∧ y_Line_size.cls ≠ "java/lang/invoke/MethodHandle" ∧ y_Line_size.cls ≠ "java/lang/invoke/VarHandle" ∧ (parseMethodDescriptor y_Line_size.desc).map (fun d => d.parameters.length) = some 0 := by decide +kernel
abbrev y_OctetRow_add : MethodName := ⟨"EventGraphText$OctetRow", "add", "(I)V"⟩
abbrev b_OctetRow_add : ByteArray := prog_7_method_7_code
theorem pd_OctetRow_add : y_OctetRow_add.cls = "EventGraphText$OctetRow" ∧ y_OctetRow_add.cls ≠ "java/lang/invoke/MethodHandle" ∧ y_OctetRow_add.cls ≠ "java/lang/invoke/VarHandle" ∧ (parseMethodDescriptor y_OctetRow_add.desc).map (fun d => d.parameters.length) = some 1 := by decide +kernel
abbrev y_OctetRow_put : MethodName := ⟨"EventGraphText$OctetRow", "put", "(I)V"⟩
abbrev b_OctetRow_put : ByteArray := prog_7_method_5_code
theorem pd_OctetRow_put : y_OctetRow_put.cls = "EventGraphText$OctetRow" ∧ y_OctetRow_put.cls ≠ "java/lang/invoke/MethodHandle" ∧ y_OctetRow_put.cls ≠ "java/lang/invoke/VarHandle" ∧ (parseMethodDescriptor y_OctetRow_put.desc).map (fun d => d.parameters.length) = some 1 := by decide +kernel
abbrev y_Line_get : MethodName := ⟨"EventGraphText$Line", "get", "(I)I"⟩
abbrev b_Line_get : ByteArray := prog_4_method_4_code
theorem pd_Line_get : y_Line_get.cls = "EventGraphText$Line" ∧ y_Line_get.cls ≠ "java/lang/invoke/MethodHandle" ∧ y_Line_get.cls ≠ "java/lang/invoke/VarHandle" ∧ (parseMethodDescriptor y_Line_get.desc).map (fun d => d.parameters.length) = some 1 := by decide +kernel
abbrev y_History_siteOf : MethodName := ⟨"EventGraphText$History", "siteOf", "(I)I"⟩
abbrev b_History_siteOf : ByteArray := prog_3_method_6_code
theorem pd_History_siteOf : y_History_siteOf.cls = "EventGraphText$History" ∧ y_History_siteOf.cls ≠ "java/lang/invoke/MethodHandle" ∧ y_History_siteOf.cls ≠ "java/lang/invoke/VarHandle" ∧ (parseMethodDescriptor y_History_siteOf.desc).map (fun d => d.parameters.length) = some 1 := by decide +kernel
abbrev y_Message_writeSites : MethodName := ⟨"EventGraphText$Message", "writeSites", "(LEventGraphText$History;LEventGraphText$Line;)V"⟩
abbrev b_Message_writeSites : ByteArray := prog_6_method_4_code
theorem pd_Message_writeSites : y_Message_writeSites.cls = "EventGraphText$Message" ∧ y_Message_writeSites.cls ≠ "java/lang/invoke/MethodHandle" ∧ y_Message_writeSites.cls ≠ "java/lang/invoke/VarHandle" ∧ (parseMethodDescriptor y_Message_writeSites.desc).map (fun d => d.parameters.length) = some 2 := by decide +kernel
abbrev y_History_isInsert : MethodName := ⟨"EventGraphText$History", "isInsert", "(I)Z"⟩
abbrev b_History_isInsert : ByteArray := prog_3_method_10_code
theorem pd_History_isInsert : y_History_isInsert.cls = "EventGraphText$History" ∧ y_History_isInsert.cls ≠ "java/lang/invoke/MethodHandle" ∧ y_History_isInsert.cls ≠ "java/lang/invoke/VarHandle" ∧ (parseMethodDescriptor y_History_isInsert.desc).map (fun d => d.parameters.length) = some 1 := by decide +kernel
abbrev y_Message_writeKinds : MethodName := ⟨"EventGraphText$Message", "writeKinds", "(LEventGraphText$History;LEventGraphText$Line;)V"⟩
abbrev b_Message_writeKinds : ByteArray := prog_6_method_5_code
theorem pd_Message_writeKinds : y_Message_writeKinds.cls = "EventGraphText$Message" ∧ y_Message_writeKinds.cls ≠ "java/lang/invoke/MethodHandle" ∧ y_Message_writeKinds.cls ≠ "java/lang/invoke/VarHandle" ∧ (parseMethodDescriptor y_Message_writeKinds.desc).map (fun d => d.parameters.length) = some 2 := by decide +kernel
abbrev y_History_indexOf : MethodName := ⟨"EventGraphText$History", "indexOf", "(I)I"⟩
abbrev b_History_indexOf : ByteArray := prog_3_method_8_code
theorem pd_History_indexOf : y_History_indexOf.cls = "EventGraphText$History" ∧ y_History_indexOf.cls ≠ "java/lang/invoke/MethodHandle" ∧ y_History_indexOf.cls ≠ "java/lang/invoke/VarHandle" ∧ (parseMethodDescriptor y_History_indexOf.desc).map (fun d => d.parameters.length) = some 1 := by decide +kernel
abbrev y_OctetRow_putSigned : MethodName := ⟨"EventGraphText$OctetRow", "putSigned", "(I)V"⟩
abbrev b_OctetRow_putSigned : ByteArray := prog_7_method_6_code
theorem pd_OctetRow_putSigned : y_OctetRow_putSigned.cls = "EventGraphText$OctetRow" ∧ y_OctetRow_putSigned.cls ≠ "java/lang/invoke/MethodHandle" ∧ y_OctetRow_putSigned.cls ≠ "java/lang/invoke/VarHandle" ∧ (parseMethodDescriptor y_OctetRow_putSigned.desc).map (fun d => d.parameters.length) = some 1 := by decide +kernel
abbrev y_Message_writeIndices : MethodName := ⟨"EventGraphText$Message", "writeIndices", "(LEventGraphText$History;LEventGraphText$Line;)V"⟩
abbrev b_Message_writeIndices : ByteArray := prog_6_method_6_code
theorem pd_Message_writeIndices : y_Message_writeIndices.cls = "EventGraphText$Message" ∧ y_Message_writeIndices.cls ≠ "java/lang/invoke/MethodHandle" ∧ y_Message_writeIndices.cls ≠ "java/lang/invoke/VarHandle" ∧ (parseMethodDescriptor y_Message_writeIndices.desc).map (fun d => d.parameters.length) = some 2 := by decide +kernel
abbrev y_Message_writeCharacters : MethodName := ⟨"EventGraphText$Message", "writeCharacters", "(LEventGraphText$History;LEventGraphText$Line;)V"⟩
abbrev b_Message_writeCharacters : ByteArray := prog_6_method_7_code
theorem pd_Message_writeCharacters : y_Message_writeCharacters.cls = "EventGraphText$Message" ∧ y_Message_writeCharacters.cls ≠ "java/lang/invoke/MethodHandle" ∧ y_Message_writeCharacters.cls ≠ "java/lang/invoke/VarHandle" ∧ (parseMethodDescriptor y_Message_writeCharacters.desc).map (fun d => d.parameters.length) = some 2 := by decide +kernel
abbrev y_History_parentsOf : MethodName := ⟨"EventGraphText$History", "parentsOf", "(I)J"⟩
abbrev b_History_parentsOf : ByteArray := prog_3_method_11_code
theorem pd_History_parentsOf : y_History_parentsOf.cls = "EventGraphText$History" ∧ y_History_parentsOf.cls ≠ "java/lang/invoke/MethodHandle" ∧ y_History_parentsOf.cls ≠ "java/lang/invoke/VarHandle" ∧ (parseMethodDescriptor y_History_parentsOf.desc).map (fun d => d.parameters.length) = some 1 := by decide +kernel
abbrev y_History_codeOf : MethodName := ⟨"EventGraphText$History", "codeOf", "(I)I"⟩
abbrev b_History_codeOf : ByteArray := prog_3_method_13_code
theorem pd_History_codeOf : y_History_codeOf.cls = "EventGraphText$History" ∧ y_History_codeOf.cls ≠ "java/lang/invoke/MethodHandle" ∧ y_History_codeOf.cls ≠ "java/lang/invoke/VarHandle" ∧ (parseMethodDescriptor y_History_codeOf.desc).map (fun d => d.parameters.length) = some 1 := by decide +kernel
abbrev y_Message_writeParentList : MethodName := ⟨"EventGraphText$Message", "writeParentList", "(LEventGraphText$History;J)V"⟩
abbrev b_Message_writeParentList : ByteArray := prog_6_method_9_code
theorem pd_Message_writeParentList : y_Message_writeParentList.cls = "EventGraphText$Message" ∧ y_Message_writeParentList.cls ≠ "java/lang/invoke/MethodHandle" ∧ y_Message_writeParentList.cls ≠ "java/lang/invoke/VarHandle" ∧ (parseMethodDescriptor y_Message_writeParentList.desc).map (fun d => d.parameters.length) = some 2 := by decide +kernel
abbrev y_Message_writeParents : MethodName := ⟨"EventGraphText$Message", "writeParents", "(LEventGraphText$History;LEventGraphText$Line;)V"⟩
abbrev b_Message_writeParents : ByteArray := prog_6_method_8_code
theorem pd_Message_writeParents : y_Message_writeParents.cls = "EventGraphText$Message" ∧ y_Message_writeParents.cls ≠ "java/lang/invoke/MethodHandle" ∧ y_Message_writeParents.cls ≠ "java/lang/invoke/VarHandle" ∧ (parseMethodDescriptor y_Message_writeParents.desc).map (fun d => d.parameters.length) = some 2 := by decide +kernel
abbrev y_Message_write : MethodName := ⟨"EventGraphText$Message", "write", "(LEventGraphText$History;LEventGraphText$Line;)V"⟩
abbrev b_Message_write : ByteArray := prog_6_method_3_code
theorem pd_Message_write : y_Message_write.cls = "EventGraphText$Message" ∧ y_Message_write.cls ≠ "java/lang/invoke/MethodHandle" ∧ y_Message_write.cls ≠ "java/lang/invoke/VarHandle" ∧ (parseMethodDescriptor y_Message_write.desc).map (fun d => d.parameters.length) = some 2 := by decide +kernel
abbrev y_Text_send : MethodName := ⟨"EventGraphText", "send", "(II)I"⟩
abbrev b_Text_send : ByteArray := prog_1_method_6_code
theorem pd_Text_send : y_Text_send.cls = "EventGraphText" ∧ y_Text_send.cls ≠ "java/lang/invoke/MethodHandle" ∧ y_Text_send.cls ≠ "java/lang/invoke/VarHandle" ∧ (parseMethodDescriptor y_Text_send.desc).map (fun d => d.parameters.length) = some 2 := by decide +kernel
abbrev y_Text_isUnderWay : MethodName := ⟨"EventGraphText", "isUnderWay", "(I)Z"⟩
abbrev b_Text_isUnderWay : ByteArray := prog_1_method_21_code
theorem pd_Text_isUnderWay : y_Text_isUnderWay.cls = "EventGraphText" ∧ y_Text_isUnderWay.cls ≠ "java/lang/invoke/MethodHandle" ∧ y_Text_isUnderWay.cls ≠ "java/lang/invoke/VarHandle" ∧ (parseMethodDescriptor y_Text_isUnderWay.desc).map (fun d => d.parameters.length) = some 1 := by decide +kernel
abbrev y_History_withAncestors : MethodName := ⟨"EventGraphText$History", "withAncestors", "(J)J"⟩
abbrev b_History_withAncestors : ByteArray := prog_3_method_17_code
theorem pd_History_withAncestors : y_History_withAncestors.cls = "EventGraphText$History" ∧ y_History_withAncestors.cls ≠ "java/lang/invoke/MethodHandle" ∧ y_History_withAncestors.cls ≠ "java/lang/invoke/VarHandle" ∧ (parseMethodDescriptor y_History_withAncestors.desc).map (fun d => d.parameters.length) = some 1 := by decide +kernel
abbrev y_History_upTo : MethodName := ⟨"EventGraphText$History", "upTo", "(I)J"⟩
abbrev b_History_upTo : ByteArray := prog_3_method_14_code
theorem pd_History_upTo : y_History_upTo.cls = "EventGraphText$History" ∧ y_History_upTo.cls ≠ "java/lang/invoke/MethodHandle" ∧ y_History_upTo.cls ≠ "java/lang/invoke/VarHandle" ∧ (parseMethodDescriptor y_History_upTo.desc).map (fun d => d.parameters.length) = some 1 := by decide +kernel
abbrev y_History_descendantsOf : MethodName := ⟨"EventGraphText$History", "descendantsOf", "(IJ)J"⟩
abbrev b_History_descendantsOf : ByteArray := prog_3_method_20_code
theorem pd_History_descendantsOf : y_History_descendantsOf.cls = "EventGraphText$History" ∧ y_History_descendantsOf.cls ≠ "java/lang/invoke/MethodHandle" ∧ y_History_descendantsOf.cls ≠ "java/lang/invoke/VarHandle" ∧ (parseMethodDescriptor y_History_descendantsOf.desc).map (fun d => d.parameters.length) = some 2 := by decide +kernel
abbrev y_History_isCritical : MethodName := ⟨"EventGraphText$History", "isCritical", "(IJ)Z"⟩
abbrev b_History_isCritical : ByteArray := prog_3_method_21_code
theorem pd_History_isCritical : y_History_isCritical.cls = "EventGraphText$History" ∧ y_History_isCritical.cls ≠ "java/lang/invoke/MethodHandle" ∧ y_History_isCritical.cls ≠ "java/lang/invoke/VarHandle" ∧ (parseMethodDescriptor y_History_isCritical.desc).map (fun d => d.parameters.length) = some 2 := by decide +kernel
abbrev y_History_lastCritical : MethodName := ⟨"EventGraphText$History", "lastCritical", "(JJ)I"⟩
abbrev b_History_lastCritical : ByteArray := prog_3_method_22_code
theorem pd_History_lastCritical : y_History_lastCritical.cls = "EventGraphText$History" ∧ y_History_lastCritical.cls ≠ "java/lang/invoke/MethodHandle" ∧ y_History_lastCritical.cls ≠ "java/lang/invoke/VarHandle" ∧ (parseMethodDescriptor y_History_lastCritical.desc).map (fun d => d.parameters.length) = some 2 := by decide +kernel
abbrev y_History_ancestorsOf : MethodName := ⟨"EventGraphText$History", "ancestorsOf", "(I)J"⟩
abbrev b_History_ancestorsOf : ByteArray := prog_3_method_12_code
theorem pd_History_ancestorsOf : y_History_ancestorsOf.cls = "EventGraphText$History" ∧ y_History_ancestorsOf.cls ≠ "java/lang/invoke/MethodHandle" ∧ y_History_ancestorsOf.cls ≠ "java/lang/invoke/VarHandle" ∧ (parseMethodDescriptor y_History_ancestorsOf.desc).map (fun d => d.parameters.length) = some 1 := by decide +kernel
abbrev y_Merge_passThrough : MethodName := ⟨"EventGraphText$Merge", "passThrough", "(LEventGraphText$History;LEventGraphText$Line;J)J"⟩
abbrev b_Merge_passThrough : ByteArray := prog_5_method_3_code
theorem pd_Merge_passThrough : y_Merge_passThrough.cls = "EventGraphText$Merge" ∧ y_Merge_passThrough.cls ≠ "java/lang/invoke/MethodHandle" ∧ y_Merge_passThrough.cls ≠ "java/lang/invoke/VarHandle" ∧ (parseMethodDescriptor y_Merge_passThrough.desc).map (fun d => d.parameters.length) = some 3 := by decide +kernel
abbrev y_CharacterList_indexIn : MethodName := ⟨"EventGraphText$CharacterList", "indexIn", "(JI)I"⟩
abbrev b_CharacterList_indexIn : ByteArray := prog_2_method_6_code
theorem pd_CharacterList_indexIn : y_CharacterList_indexIn.cls = "EventGraphText$CharacterList" ∧ y_CharacterList_indexIn.cls ≠ "java/lang/invoke/MethodHandle" ∧ y_CharacterList_indexIn.cls ≠ "java/lang/invoke/VarHandle" ∧ (parseMethodDescriptor y_CharacterList_indexIn.desc).map (fun d => d.parameters.length) = some 2 := by decide +kernel
abbrev y_CharacterList_takenBy : MethodName := ⟨"EventGraphText$CharacterList", "takenBy", "(I)I"⟩
abbrev b_CharacterList_takenBy : ByteArray := prog_2_method_3_code
theorem pd_CharacterList_takenBy : y_CharacterList_takenBy.cls = "EventGraphText$CharacterList" ∧ y_CharacterList_takenBy.cls ≠ "java/lang/invoke/MethodHandle" ∧ y_CharacterList_takenBy.cls ≠ "java/lang/invoke/VarHandle" ∧ (parseMethodDescriptor y_CharacterList_takenBy.desc).map (fun d => d.parameters.length) = some 1 := by decide +kernel
abbrev y_Merge_removal : MethodName := ⟨"EventGraphText$Merge", "removal", "(LEventGraphText$CharacterList;JI)I"⟩
abbrev b_Merge_removal : ByteArray := prog_5_method_5_code
theorem pd_Merge_removal : y_Merge_removal.cls = "EventGraphText$Merge" ∧ y_Merge_removal.cls ≠ "java/lang/invoke/MethodHandle" ∧ y_Merge_removal.cls ≠ "java/lang/invoke/VarHandle" ∧ (parseMethodDescriptor y_Merge_removal.desc).map (fun d => d.parameters.length) = some 3 := by decide +kernel
abbrev y_Merge_applyAll : MethodName := ⟨"EventGraphText$Merge", "applyAll", "(LEventGraphText$History;LEventGraphText$CharacterList;LEventGraphText$Line;J)V"⟩
abbrev b_Merge_applyAll : ByteArray := prog_5_method_4_code
theorem pd_Merge_applyAll : y_Merge_applyAll.cls = "EventGraphText$Merge" ∧ y_Merge_applyAll.cls ≠ "java/lang/invoke/MethodHandle" ∧ y_Merge_applyAll.cls ≠ "java/lang/invoke/VarHandle" ∧ (parseMethodDescriptor y_Merge_applyAll.desc).map (fun d => d.parameters.length) = some 4 := by decide +kernel
abbrev y_Merge_perform : MethodName := ⟨"EventGraphText$Merge", "perform", "(LEventGraphText$History;LEventGraphText$CharacterList;LEventGraphText$Line;JJ)V"⟩
abbrev b_Merge_perform : ByteArray := prog_5_method_2_code
theorem pd_Merge_perform : y_Merge_perform.cls = "EventGraphText$Merge" ∧ y_Merge_perform.cls ≠ "java/lang/invoke/MethodHandle" ∧ y_Merge_perform.cls ≠ "java/lang/invoke/VarHandle" ∧ (parseMethodDescriptor y_Merge_perform.desc).map (fun d => d.parameters.length) = some 5 := by decide +kernel
abbrev y_Text_deliver : MethodName := ⟨"EventGraphText", "deliver", "(I)I"⟩
abbrev b_Text_deliver : ByteArray := prog_1_method_7_code
theorem pd_Text_deliver : y_Text_deliver.cls = "EventGraphText" ∧ y_Text_deliver.cls ≠ "java/lang/invoke/MethodHandle" ∧ y_Text_deliver.cls ≠ "java/lang/invoke/VarHandle" ∧ (parseMethodDescriptor y_Text_deliver.desc).map (fun d => d.parameters.length) = some 1 := by decide +kernel
abbrev y_Text_discard : MethodName := ⟨"EventGraphText", "discard", "(I)Z"⟩
abbrev b_Text_discard : ByteArray := prog_1_method_8_code
theorem pd_Text_discard : y_Text_discard.cls = "EventGraphText" ∧ y_Text_discard.cls ≠ "java/lang/invoke/MethodHandle" ∧ y_Text_discard.cls ≠ "java/lang/invoke/VarHandle" ∧ (parseMethodDescriptor y_Text_discard.desc).map (fun d => d.parameters.length) = some 1 := by decide +kernel
abbrev y_Text_hear : MethodName := ⟨"EventGraphText", "hear", "(II)I"⟩
abbrev b_Text_hear : ByteArray := prog_1_method_9_code
theorem pd_Text_hear : y_Text_hear.cls = "EventGraphText" ∧ y_Text_hear.cls ≠ "java/lang/invoke/MethodHandle" ∧ y_Text_hear.cls ≠ "java/lang/invoke/VarHandle" ∧ (parseMethodDescriptor y_Text_hear.desc).map (fun d => d.parameters.length) = some 2 := by decide +kernel
abbrev y_Text_believed : MethodName := ⟨"EventGraphText", "believed", "(II)I"⟩
abbrev b_Text_believed : ByteArray := prog_1_method_10_code
theorem pd_Text_believed : y_Text_believed.cls = "EventGraphText" ∧ y_Text_believed.cls ≠ "java/lang/invoke/MethodHandle" ∧ y_Text_believed.cls ≠ "java/lang/invoke/VarHandle" ∧ (parseMethodDescriptor y_Text_believed.desc).map (fun d => d.parameters.length) = some 2 := by decide +kernel
abbrev y_OctetRow_size : MethodName := ⟨"EventGraphText$OctetRow", "size", "()I"⟩
abbrev b_OctetRow_size : ByteArray := prog_7_method_3_code
theorem pd_OctetRow_size : y_OctetRow_size.cls = "EventGraphText$OctetRow" ∧ y_OctetRow_size.cls ≠ "java/lang/invoke/MethodHandle" ∧ y_OctetRow_size.cls ≠ "java/lang/invoke/VarHandle" ∧ (parseMethodDescriptor y_OctetRow_size.desc).map (fun d => d.parameters.length) = some 0 := by decide +kernel
abbrev y_Text_octets : MethodName := ⟨"EventGraphText", "octets", "(I)I"⟩
abbrev b_Text_octets : ByteArray := prog_1_method_11_code
theorem pd_Text_octets : y_Text_octets.cls = "EventGraphText" ∧ y_Text_octets.cls ≠ "java/lang/invoke/MethodHandle" ∧ y_Text_octets.cls ≠ "java/lang/invoke/VarHandle" ∧ (parseMethodDescriptor y_Text_octets.desc).map (fun d => d.parameters.length) = some 1 := by decide +kernel
abbrev y_OctetRow_get : MethodName := ⟨"EventGraphText$OctetRow", "get", "(I)I"⟩
abbrev b_OctetRow_get : ByteArray := prog_7_method_4_code
theorem pd_OctetRow_get : y_OctetRow_get.cls = "EventGraphText$OctetRow" ∧ y_OctetRow_get.cls ≠ "java/lang/invoke/MethodHandle" ∧ y_OctetRow_get.cls ≠ "java/lang/invoke/VarHandle" ∧ (parseMethodDescriptor y_OctetRow_get.desc).map (fun d => d.parameters.length) = some 1 := by decide +kernel
abbrev y_Text_octet : MethodName := ⟨"EventGraphText", "octet", "(II)I"⟩
abbrev b_Text_octet : ByteArray := prog_1_method_12_code
theorem pd_Text_octet : y_Text_octet.cls = "EventGraphText" ∧ y_Text_octet.cls ≠ "java/lang/invoke/MethodHandle" ∧ y_Text_octet.cls ≠ "java/lang/invoke/VarHandle" ∧ (parseMethodDescriptor y_Text_octet.desc).map (fun d => d.parameters.length) = some 2 := by decide +kernel
abbrev y_Text_events : MethodName := ⟨"EventGraphText", "events", "(I)I"⟩
abbrev b_Text_events : ByteArray := prog_1_method_13_code
theorem pd_Text_events : y_Text_events.cls = "EventGraphText" ∧ y_Text_events.cls ≠ "java/lang/invoke/MethodHandle" ∧ y_Text_events.cls ≠ "java/lang/invoke/VarHandle" ∧ (parseMethodDescriptor y_Text_events.desc).map (fun d => d.parameters.length) = some 1 := by decide +kernel
abbrev y_Text_heads : MethodName := ⟨"EventGraphText", "heads", "(I)I"⟩
abbrev b_Text_heads : ByteArray := prog_1_method_14_code
theorem pd_Text_heads : y_Text_heads.cls = "EventGraphText" ∧ y_Text_heads.cls ≠ "java/lang/invoke/MethodHandle" ∧ y_Text_heads.cls ≠ "java/lang/invoke/VarHandle" ∧ (parseMethodDescriptor y_Text_heads.desc).map (fun d => d.parameters.length) = some 1 := by decide +kernel
abbrev y_Text_head : MethodName := ⟨"EventGraphText", "head", "(II)I"⟩
abbrev b_Text_head : ByteArray := prog_1_method_15_code
theorem pd_Text_head : y_Text_head.cls = "EventGraphText" ∧ y_Text_head.cls ≠ "java/lang/invoke/MethodHandle" ∧ y_Text_head.cls ≠ "java/lang/invoke/VarHandle" ∧ (parseMethodDescriptor y_Text_head.desc).map (fun d => d.parameters.length) = some 2 := by decide +kernel
abbrev y_History_wasMade : MethodName := ⟨"EventGraphText$History", "wasMade", "(II)Z"⟩
abbrev b_History_wasMade : ByteArray := prog_3_method_4_code
theorem pd_History_wasMade : y_History_wasMade.cls = "EventGraphText$History" ∧ y_History_wasMade.cls ≠ "java/lang/invoke/MethodHandle" ∧ y_History_wasMade.cls ≠ "java/lang/invoke/VarHandle" ∧ (parseMethodDescriptor y_History_wasMade.desc).map (fun d => d.parameters.length) = some 2 := by decide +kernel
abbrev y_History_slotOf : MethodName := ⟨"EventGraphText$History", "slotOf", "(II)I"⟩
abbrev b_History_slotOf : ByteArray := prog_3_method_5_code
theorem pd_History_slotOf : y_History_slotOf.cls = "EventGraphText$History" ∧ y_History_slotOf.cls ≠ "java/lang/invoke/MethodHandle" ∧ y_History_slotOf.cls ≠ "java/lang/invoke/VarHandle" ∧ (parseMethodDescriptor y_History_slotOf.desc).map (fun d => d.parameters.length) = some 2 := by decide +kernel
abbrev y_Text_ancestor : MethodName := ⟨"EventGraphText", "ancestor", "(IIII)I"⟩
abbrev b_Text_ancestor : ByteArray := prog_1_method_16_code
theorem pd_Text_ancestor : y_Text_ancestor.cls = "EventGraphText" ∧ y_Text_ancestor.cls ≠ "java/lang/invoke/MethodHandle" ∧ y_Text_ancestor.cls ≠ "java/lang/invoke/VarHandle" ∧ (parseMethodDescriptor y_Text_ancestor.desc).map (fun d => d.parameters.length) = some 4 := by decide +kernel
abbrev y_Text_critical : MethodName := ⟨"EventGraphText", "critical", "(I)I"⟩
abbrev b_Text_critical : ByteArray := prog_1_method_17_code
theorem pd_Text_critical : y_Text_critical.cls = "EventGraphText" ∧ y_Text_critical.cls ≠ "java/lang/invoke/MethodHandle" ∧ y_Text_critical.cls ≠ "java/lang/invoke/VarHandle" ∧ (parseMethodDescriptor y_Text_critical.desc).map (fun d => d.parameters.length) = some 1 := by decide +kernel
abbrev y_Text_replayed : MethodName := ⟨"EventGraphText", "replayed", "(I)I"⟩
abbrev b_Text_replayed : ByteArray := prog_1_method_18_code
theorem pd_Text_replayed : y_Text_replayed.cls = "EventGraphText" ∧ y_Text_replayed.cls ≠ "java/lang/invoke/MethodHandle" ∧ y_Text_replayed.cls ≠ "java/lang/invoke/VarHandle" ∧ (parseMethodDescriptor y_Text_replayed.desc).map (fun d => d.parameters.length) = some 1 := by decide +kernel
abbrev y_Text_moves : MethodName := ⟨"EventGraphText", "moves", "(I)I"⟩
abbrev b_Text_moves : ByteArray := prog_1_method_19_code
theorem pd_Text_moves : y_Text_moves.cls = "EventGraphText" ∧ y_Text_moves.cls ≠ "java/lang/invoke/MethodHandle" ∧ y_Text_moves.cls ≠ "java/lang/invoke/VarHandle" ∧ (parseMethodDescriptor y_Text_moves.desc).map (fun d => d.parameters.length) = some 1 := by decide +kernel
abbrev y_Text_operation : MethodName := ⟨"EventGraphText", "operation", "(II)I"⟩
abbrev b_Text_operation : ByteArray := prog_1_method_20_code
theorem pd_Text_operation : y_Text_operation.cls = "EventGraphText" ∧ y_Text_operation.cls ≠ "java/lang/invoke/MethodHandle" ∧ y_Text_operation.cls ≠ "java/lang/invoke/VarHandle" ∧ (parseMethodDescriptor y_Text_operation.desc).map (fun d => d.parameters.length) = some 2 := by decide +kernel
abbrev y_Model_in : MethodName := ⟨"EventGraphTextModel", "in", "(JI)Z"⟩
abbrev b_Model_in : ByteArray := prog_10_method_2_code
theorem pd_Model_in : y_Model_in.cls = "EventGraphTextModel" ∧ y_Model_in.cls ≠ "java/lang/invoke/MethodHandle" ∧ y_Model_in.cls ≠ "java/lang/invoke/VarHandle" ∧ (parseMethodDescriptor y_Model_in.desc).map (fun d => d.parameters.length) = some 2 := by decide +kernel
abbrev y_Model_one : MethodName := ⟨"EventGraphTextModel", "one", "(I)J"⟩
abbrev b_Model_one : ByteArray := prog_10_method_3_code
theorem pd_Model_one : y_Model_one.cls = "EventGraphTextModel" ∧ y_Model_one.cls ≠ "java/lang/invoke/MethodHandle" ∧ y_Model_one.cls ≠ "java/lang/invoke/VarHandle" ∧ (parseMethodDescriptor y_Model_one.desc).map (fun d => d.parameters.length) = some 1 := by decide +kernel
abbrev y_Model_many : MethodName := ⟨"EventGraphTextModel", "many", "(J)I"⟩
abbrev b_Model_many : ByteArray := prog_10_method_4_code
theorem pd_Model_many : y_Model_many.cls = "EventGraphTextModel" ∧ y_Model_many.cls ≠ "java/lang/invoke/MethodHandle" ∧ y_Model_many.cls ≠ "java/lang/invoke/VarHandle" ∧ (parseMethodDescriptor y_Model_many.desc).map (fun d => d.parameters.length) = some 1 := by decide +kernel
abbrev y_Model_wrong : MethodName := ⟨"EventGraphTextModel", "wrong", "(I)Z"⟩
abbrev b_Model_wrong : ByteArray := prog_10_method_5_code
theorem pd_Model_wrong : y_Model_wrong.cls = "EventGraphTextModel" ∧ y_Model_wrong.cls ≠ "java/lang/invoke/MethodHandle" ∧ y_Model_wrong.cls ≠ "java/lang/invoke/VarHandle" ∧ (parseMethodDescriptor y_Model_wrong.desc).map (fun d => d.parameters.length) = some 1 := by decide +kernel
abbrev y_Model_wrongPair : MethodName := ⟨"EventGraphTextModel", "wrongPair", "(II)Z"⟩
abbrev b_Model_wrongPair : ByteArray := prog_10_method_6_code
theorem pd_Model_wrongPair : y_Model_wrongPair.cls = "EventGraphTextModel" ∧ y_Model_wrongPair.cls ≠ "java/lang/invoke/MethodHandle" ∧ y_Model_wrongPair.cls ≠ "java/lang/invoke/VarHandle" ∧ (parseMethodDescriptor y_Model_wrongPair.desc).map (fun d => d.parameters.length) = some 2 := by decide +kernel
abbrev y_Model_hidden : MethodName := ⟨"EventGraphTextModel", "hidden", "(J)J"⟩
abbrev b_Model_hidden : ByteArray := prog_10_method_7_code
theorem pd_Model_hidden : y_Model_hidden.cls = "EventGraphTextModel" ∧ y_Model_hidden.cls ≠ "java/lang/invoke/MethodHandle" ∧ y_Model_hidden.cls ≠ "java/lang/invoke/VarHandle" ∧ (parseMethodDescriptor y_Model_hidden.desc).map (fun d => d.parameters.length) = some 1 := by decide +kernel
abbrev y_Model_shownAt : MethodName := ⟨"EventGraphTextModel", "shownAt", "(JI)I"⟩
abbrev b_Model_shownAt : ByteArray := prog_10_method_8_code
theorem pd_Model_shownAt : y_Model_shownAt.cls = "EventGraphTextModel" ∧ y_Model_shownAt.cls ≠ "java/lang/invoke/MethodHandle" ∧ y_Model_shownAt.cls ≠ "java/lang/invoke/VarHandle" ∧ (parseMethodDescriptor y_Model_shownAt.desc).map (fun d => d.parameters.length) = some 2 := by decide +kernel
abbrev y_Model_shownBefore : MethodName := ⟨"EventGraphTextModel", "shownBefore", "(JI)I"⟩
abbrev b_Model_shownBefore : ByteArray := prog_10_method_9_code
theorem pd_Model_shownBefore : y_Model_shownBefore.cls = "EventGraphTextModel" ∧ y_Model_shownBefore.cls ≠ "java/lang/invoke/MethodHandle" ∧ y_Model_shownBefore.cls ≠ "java/lang/invoke/VarHandle" ∧ (parseMethodDescriptor y_Model_shownBefore.desc).map (fun d => d.parameters.length) = some 2 := by decide +kernel
abbrev y_Model_behind : MethodName := ⟨"EventGraphTextModel", "behind", "(JI)I"⟩
abbrev b_Model_behind : ByteArray := prog_10_method_10_code
theorem pd_Model_behind : y_Model_behind.cls = "EventGraphTextModel" ∧ y_Model_behind.cls ≠ "java/lang/invoke/MethodHandle" ∧ y_Model_behind.cls ≠ "java/lang/invoke/VarHandle" ∧ (parseMethodDescriptor y_Model_behind.desc).map (fun d => d.parameters.length) = some 2 := by decide +kernel
abbrev y_Model_lower : MethodName := ⟨"EventGraphTextModel", "lower", "(II)Z"⟩
abbrev b_Model_lower : ByteArray := prog_10_method_11_code
theorem pd_Model_lower : y_Model_lower.cls = "EventGraphTextModel" ∧ y_Model_lower.cls ≠ "java/lang/invoke/MethodHandle" ∧ y_Model_lower.cls ≠ "java/lang/invoke/VarHandle" ∧ (parseMethodDescriptor y_Model_lower.desc).map (fun d => d.parameters.length) = some 2 := by decide +kernel
abbrev y_Model_stands : MethodName := ⟨"EventGraphTextModel", "stands", "(II)Z"⟩
abbrev b_Model_stands : ByteArray := prog_10_method_12_code
theorem pd_Model_stands : y_Model_stands.cls = "EventGraphTextModel" ∧ y_Model_stands.cls ≠ "java/lang/invoke/MethodHandle" ∧ y_Model_stands.cls ≠ "java/lang/invoke/VarHandle" ∧ (parseMethodDescriptor y_Model_stands.desc).map (fun d => d.parameters.length) = some 2 := by decide +kernel
abbrev y_Model_intoRow : MethodName := ⟨"EventGraphTextModel", "intoRow", "(I)V"⟩
abbrev b_Model_intoRow : ByteArray := prog_10_method_13_code
theorem pd_Model_intoRow : y_Model_intoRow.cls = "EventGraphTextModel" ∧ y_Model_intoRow.cls ≠ "java/lang/invoke/MethodHandle" ∧ y_Model_intoRow.cls ≠ "java/lang/invoke/VarHandle" ∧ (parseMethodDescriptor y_Model_intoRow.desc).map (fun d => d.parameters.length) = some 1 := by decide +kernel
abbrev y_Model_tips : MethodName := ⟨"EventGraphTextModel", "tips", "(J)J"⟩
abbrev b_Model_tips : ByteArray := prog_10_method_14_code
theorem pd_Model_tips : y_Model_tips.cls = "EventGraphTextModel" ∧ y_Model_tips.cls ≠ "java/lang/invoke/MethodHandle" ∧ y_Model_tips.cls ≠ "java/lang/invoke/VarHandle" ∧ (parseMethodDescriptor y_Model_tips.desc).map (fun d => d.parameters.length) = some 1 := by decide +kernel
abbrev y_Model_event : MethodName := ⟨"EventGraphTextModel", "event", "(IZI)I"⟩
abbrev b_Model_event : ByteArray := prog_10_method_15_code
theorem pd_Model_event : y_Model_event.cls = "EventGraphTextModel" ∧ y_Model_event.cls ≠ "java/lang/invoke/MethodHandle" ∧ y_Model_event.cls ≠ "java/lang/invoke/VarHandle" ∧ (parseMethodDescriptor y_Model_event.desc).map (fun d => d.parameters.length) = some 3 := by decide +kernel
abbrev y_Model_length : MethodName := ⟨"EventGraphTextModel", "length", "(I)I"⟩
abbrev b_Model_length : ByteArray := prog_10_method_18_code
theorem pd_Model_length : y_Model_length.cls = "EventGraphTextModel" ∧ y_Model_length.cls ≠ "java/lang/invoke/MethodHandle" ∧ y_Model_length.cls ≠ "java/lang/invoke/VarHandle" ∧ (parseMethodDescriptor y_Model_length.desc).map (fun d => d.parameters.length) = some 1 := by decide +kernel
abbrev y_Model_insert : MethodName := ⟨"EventGraphTextModel", "insert", "(III)I"⟩
abbrev b_Model_insert : ByteArray := prog_10_method_16_code
theorem pd_Model_insert : y_Model_insert.cls = "EventGraphTextModel" ∧ y_Model_insert.cls ≠ "java/lang/invoke/MethodHandle" ∧ y_Model_insert.cls ≠ "java/lang/invoke/VarHandle" ∧ (parseMethodDescriptor y_Model_insert.desc).map (fun d => d.parameters.length) = some 3 := by decide +kernel
abbrev y_Model_delete : MethodName := ⟨"EventGraphTextModel", "delete", "(II)I"⟩
abbrev b_Model_delete : ByteArray := prog_10_method_17_code
theorem pd_Model_delete : y_Model_delete.cls = "EventGraphTextModel" ∧ y_Model_delete.cls ≠ "java/lang/invoke/MethodHandle" ∧ y_Model_delete.cls ≠ "java/lang/invoke/VarHandle" ∧ (parseMethodDescriptor y_Model_delete.desc).map (fun d => d.parameters.length) = some 2 := by decide +kernel
abbrev y_Model_at : MethodName := ⟨"EventGraphTextModel", "at", "(II)I"⟩
abbrev b_Model_at : ByteArray := prog_10_method_19_code
theorem pd_Model_at : y_Model_at.cls = "EventGraphTextModel" ∧ y_Model_at.cls ≠ "java/lang/invoke/MethodHandle" ∧ y_Model_at.cls ≠ "java/lang/invoke/VarHandle" ∧ (parseMethodDescriptor y_Model_at.desc).map (fun d => d.parameters.length) = some 2 := by decide +kernel
abbrev y_Model_can : MethodName := ⟨"EventGraphTextModel", "can", "(JJI)Z"⟩
abbrev b_Model_can : ByteArray := prog_10_method_20_code
theorem pd_Model_can : y_Model_can.cls = "EventGraphTextModel" ∧ y_Model_can.cls ≠ "java/lang/invoke/MethodHandle" ∧ y_Model_can.cls ≠ "java/lang/invoke/VarHandle" ∧ (parseMethodDescriptor y_Model_can.desc).map (fun d => d.parameters.length) = some 3 := by decide +kernel
abbrev y_Model_nextOf : MethodName := ⟨"EventGraphTextModel", "nextOf", "(JJI)I"⟩
abbrev b_Model_nextOf : ByteArray := prog_10_method_21_code
theorem pd_Model_nextOf : y_Model_nextOf.cls = "EventGraphTextModel" ∧ y_Model_nextOf.cls ≠ "java/lang/invoke/MethodHandle" ∧ y_Model_nextOf.cls ≠ "java/lang/invoke/VarHandle" ∧ (parseMethodDescriptor y_Model_nextOf.desc).map (fun d => d.parameters.length) = some 3 := by decide +kernel
abbrev y_Model_order : MethodName := ⟨"EventGraphTextModel", "order", "(J)V"⟩
abbrev b_Model_order : ByteArray := prog_10_method_22_code
theorem pd_Model_order : y_Model_order.cls = "EventGraphTextModel" ∧ y_Model_order.cls ≠ "java/lang/invoke/MethodHandle" ∧ y_Model_order.cls ≠ "java/lang/invoke/VarHandle" ∧ (parseMethodDescriptor y_Model_order.desc).map (fun d => d.parameters.length) = some 1 := by decide +kernel
abbrev y_Model_send : MethodName := ⟨"EventGraphTextModel", "send", "(II)I"⟩
abbrev b_Model_send : ByteArray := prog_10_method_23_code
theorem pd_Model_send : y_Model_send.cls = "EventGraphTextModel" ∧ y_Model_send.cls ≠ "java/lang/invoke/MethodHandle" ∧ y_Model_send.cls ≠ "java/lang/invoke/VarHandle" ∧ (parseMethodDescriptor y_Model_send.desc).map (fun d => d.parameters.length) = some 2 := by decide +kernel
abbrev y_Model_none : MethodName := ⟨"EventGraphTextModel", "none", "(I)Z"⟩
abbrev b_Model_none : ByteArray := prog_10_method_24_code
theorem pd_Model_none : y_Model_none.cls = "EventGraphTextModel" ∧ y_Model_none.cls ≠ "java/lang/invoke/MethodHandle" ∧ y_Model_none.cls ≠ "java/lang/invoke/VarHandle" ∧ (parseMethodDescriptor y_Model_none.desc).map (fun d => d.parameters.length) = some 1 := by decide +kernel
abbrev y_Model_discard : MethodName := ⟨"EventGraphTextModel", "discard", "(I)Z"⟩
abbrev b_Model_discard : ByteArray := prog_10_method_25_code
theorem pd_Model_discard : y_Model_discard.cls = "EventGraphTextModel" ∧ y_Model_discard.cls ≠ "java/lang/invoke/MethodHandle" ∧ y_Model_discard.cls ≠ "java/lang/invoke/VarHandle" ∧ (parseMethodDescriptor y_Model_discard.desc).map (fun d => d.parameters.length) = some 1 := by decide +kernel
abbrev y_Model_whole : MethodName := ⟨"EventGraphTextModel", "whole", "(J)J"⟩
abbrev b_Model_whole : ByteArray := prog_10_method_26_code
theorem pd_Model_whole : y_Model_whole.cls = "EventGraphTextModel" ∧ y_Model_whole.cls ≠ "java/lang/invoke/MethodHandle" ∧ y_Model_whole.cls ≠ "java/lang/invoke/VarHandle" ∧ (parseMethodDescriptor y_Model_whole.desc).map (fun d => d.parameters.length) = some 1 := by decide +kernel
abbrev y_Model_believed : MethodName := ⟨"EventGraphTextModel", "believed", "(II)I"⟩
abbrev b_Model_believed : ByteArray := prog_10_method_28_code
theorem pd_Model_believed : y_Model_believed.cls = "EventGraphTextModel" ∧ y_Model_believed.cls ≠ "java/lang/invoke/MethodHandle" ∧ y_Model_believed.cls ≠ "java/lang/invoke/VarHandle" ∧ (parseMethodDescriptor y_Model_believed.desc).map (fun d => d.parameters.length) = some 2 := by decide +kernel
abbrev y_Model_hear : MethodName := ⟨"EventGraphTextModel", "hear", "(II)I"⟩
abbrev b_Model_hear : ByteArray := prog_10_method_27_code
theorem pd_Model_hear : y_Model_hear.cls = "EventGraphTextModel" ∧ y_Model_hear.cls ≠ "java/lang/invoke/MethodHandle" ∧ y_Model_hear.cls ≠ "java/lang/invoke/VarHandle" ∧ (parseMethodDescriptor y_Model_hear.desc).map (fun d => d.parameters.length) = some 2 := by decide +kernel
abbrev y_Model_isCritical : MethodName := ⟨"EventGraphTextModel", "isCritical", "(JI)Z"⟩
abbrev b_Model_isCritical : ByteArray := prog_10_method_30_code
theorem pd_Model_isCritical : y_Model_isCritical.cls = "EventGraphTextModel" ∧ y_Model_isCritical.cls ≠ "java/lang/invoke/MethodHandle" ∧ y_Model_isCritical.cls ≠ "java/lang/invoke/VarHandle" ∧ (parseMethodDescriptor y_Model_isCritical.desc).map (fun d => d.parameters.length) = some 2 := by decide +kernel
abbrev y_Model_top : MethodName := ⟨"EventGraphTextModel", "top", "(JJ)I"⟩
abbrev b_Model_top : ByteArray := prog_10_method_31_code
theorem pd_Model_top : y_Model_top.cls = "EventGraphTextModel" ∧ y_Model_top.cls ≠ "java/lang/invoke/MethodHandle" ∧ y_Model_top.cls ≠ "java/lang/invoke/VarHandle" ∧ (parseMethodDescriptor y_Model_top.desc).map (fun d => d.parameters.length) = some 2 := by decide +kernel
abbrev y_Model_effect : MethodName := ⟨"EventGraphTextModel", "effect", "(JI)I"⟩
abbrev b_Model_effect : ByteArray := prog_10_method_33_code
theorem pd_Model_effect : y_Model_effect.cls = "EventGraphTextModel" ∧ y_Model_effect.cls ≠ "java/lang/invoke/MethodHandle" ∧ y_Model_effect.cls ≠ "java/lang/invoke/VarHandle" ∧ (parseMethodDescriptor y_Model_effect.desc).map (fun d => d.parameters.length) = some 2 := by decide +kernel
abbrev y_Model_merge : MethodName := ⟨"EventGraphTextModel", "merge", "(IJ)V"⟩
abbrev b_Model_merge : ByteArray := prog_10_method_32_code
theorem pd_Model_merge : y_Model_merge.cls = "EventGraphTextModel" ∧ y_Model_merge.cls ≠ "java/lang/invoke/MethodHandle" ∧ y_Model_merge.cls ≠ "java/lang/invoke/VarHandle" ∧ (parseMethodDescriptor y_Model_merge.desc).map (fun d => d.parameters.length) = some 2 := by decide +kernel
abbrev y_Model_deliver : MethodName := ⟨"EventGraphTextModel", "deliver", "(I)I"⟩
abbrev b_Model_deliver : ByteArray := prog_10_method_29_code
theorem pd_Model_deliver : y_Model_deliver.cls = "EventGraphTextModel" ∧ y_Model_deliver.cls ≠ "java/lang/invoke/MethodHandle" ∧ y_Model_deliver.cls ≠ "java/lang/invoke/VarHandle" ∧ (parseMethodDescriptor y_Model_deliver.desc).map (fun d => d.parameters.length) = some 1 := by decide +kernel
abbrev y_Model_put : MethodName := ⟨"EventGraphTextModel", "put", "(I)V"⟩
abbrev b_Model_put : ByteArray := prog_10_method_34_code
theorem pd_Model_put : y_Model_put.cls = "EventGraphTextModel" ∧ y_Model_put.cls ≠ "java/lang/invoke/MethodHandle" ∧ y_Model_put.cls ≠ "java/lang/invoke/VarHandle" ∧ (parseMethodDescriptor y_Model_put.desc).map (fun d => d.parameters.length) = some 1 := by decide +kernel
abbrev y_Model_putSigned : MethodName := ⟨"EventGraphTextModel", "putSigned", "(I)V"⟩
abbrev b_Model_putSigned : ByteArray := prog_10_method_35_code
theorem pd_Model_putSigned : y_Model_putSigned.cls = "EventGraphTextModel" ∧ y_Model_putSigned.cls ≠ "java/lang/invoke/MethodHandle" ∧ y_Model_putSigned.cls ≠ "java/lang/invoke/VarHandle" ∧ (parseMethodDescriptor y_Model_putSigned.desc).map (fun d => d.parameters.length) = some 1 := by decide +kernel
abbrev y_Model_putRuns : MethodName := ⟨"EventGraphTextModel", "putRuns", "()V"⟩
abbrev b_Model_putRuns : ByteArray := prog_10_method_36_code
theorem pd_Model_putRuns : y_Model_putRuns.cls = "EventGraphTextModel" ∧ y_Model_putRuns.cls ≠ "java/lang/invoke/MethodHandle" ∧ y_Model_putRuns.cls ≠ "java/lang/invoke/VarHandle" ∧ (parseMethodDescriptor y_Model_putRuns.desc).map (fun d => d.parameters.length) = some 0 := by decide +kernel
abbrev y_Model_putParents : MethodName := ⟨"EventGraphTextModel", "putParents", "(I)V"⟩
abbrev b_Model_putParents : ByteArray := prog_10_method_37_code
theorem pd_Model_putParents : y_Model_putParents.cls = "EventGraphTextModel" ∧ y_Model_putParents.cls ≠ "java/lang/invoke/MethodHandle" ∧ y_Model_putParents.cls ≠ "java/lang/invoke/VarHandle" ∧ (parseMethodDescriptor y_Model_putParents.desc).map (fun d => d.parameters.length) = some 1 := by decide +kernel
abbrev y_Model_write : MethodName := ⟨"EventGraphTextModel", "write", "(I)V"⟩
abbrev b_Model_write : ByteArray := prog_10_method_38_code
theorem pd_Model_write : y_Model_write.cls = "EventGraphTextModel" ∧ y_Model_write.cls ≠ "java/lang/invoke/MethodHandle" ∧ y_Model_write.cls ≠ "java/lang/invoke/VarHandle" ∧ (parseMethodDescriptor y_Model_write.desc).map (fun d => d.parameters.length) = some 1 := by decide +kernel
abbrev y_Model_octets : MethodName := ⟨"EventGraphTextModel", "octets", "(I)I"⟩
abbrev b_Model_octets : ByteArray := prog_10_method_39_code
theorem pd_Model_octets : y_Model_octets.cls = "EventGraphTextModel" ∧ y_Model_octets.cls ≠ "java/lang/invoke/MethodHandle" ∧ y_Model_octets.cls ≠ "java/lang/invoke/VarHandle" ∧ (parseMethodDescriptor y_Model_octets.desc).map (fun d => d.parameters.length) = some 1 := by decide +kernel
abbrev y_Model_octet : MethodName := ⟨"EventGraphTextModel", "octet", "(II)I"⟩
abbrev b_Model_octet : ByteArray := prog_10_method_40_code
theorem pd_Model_octet : y_Model_octet.cls = "EventGraphTextModel" ∧ y_Model_octet.cls ≠ "java/lang/invoke/MethodHandle" ∧ y_Model_octet.cls ≠ "java/lang/invoke/VarHandle" ∧ (parseMethodDescriptor y_Model_octet.desc).map (fun d => d.parameters.length) = some 2 := by decide +kernel
abbrev y_Model_events : MethodName := ⟨"EventGraphTextModel", "events", "(I)I"⟩
abbrev b_Model_events : ByteArray := prog_10_method_41_code
theorem pd_Model_events : y_Model_events.cls = "EventGraphTextModel" ∧ y_Model_events.cls ≠ "java/lang/invoke/MethodHandle" ∧ y_Model_events.cls ≠ "java/lang/invoke/VarHandle" ∧ (parseMethodDescriptor y_Model_events.desc).map (fun d => d.parameters.length) = some 1 := by decide +kernel
abbrev y_Model_heads : MethodName := ⟨"EventGraphTextModel", "heads", "(I)I"⟩
abbrev b_Model_heads : ByteArray := prog_10_method_42_code
theorem pd_Model_heads : y_Model_heads.cls = "EventGraphTextModel" ∧ y_Model_heads.cls ≠ "java/lang/invoke/MethodHandle" ∧ y_Model_heads.cls ≠ "java/lang/invoke/VarHandle" ∧ (parseMethodDescriptor y_Model_heads.desc).map (fun d => d.parameters.length) = some 1 := by decide +kernel
abbrev y_Model_head : MethodName := ⟨"EventGraphTextModel", "head", "(II)I"⟩
abbrev b_Model_head : ByteArray := prog_10_method_43_code
theorem pd_Model_head : y_Model_head.cls = "EventGraphTextModel" ∧ y_Model_head.cls ≠ "java/lang/invoke/MethodHandle" ∧ y_Model_head.cls ≠ "java/lang/invoke/VarHandle" ∧ (parseMethodDescriptor y_Model_head.desc).map (fun d => d.parameters.length) = some 2 := by decide +kernel
abbrev y_Model_find : MethodName := ⟨"EventGraphTextModel", "find", "(II)I"⟩
abbrev b_Model_find : ByteArray := prog_10_method_44_code
theorem pd_Model_find : y_Model_find.cls = "EventGraphTextModel" ∧ y_Model_find.cls ≠ "java/lang/invoke/MethodHandle" ∧ y_Model_find.cls ≠ "java/lang/invoke/VarHandle" ∧ (parseMethodDescriptor y_Model_find.desc).map (fun d => d.parameters.length) = some 2 := by decide +kernel
abbrev y_Model_ancestor : MethodName := ⟨"EventGraphTextModel", "ancestor", "(IIII)I"⟩
abbrev b_Model_ancestor : ByteArray := prog_10_method_45_code
theorem pd_Model_ancestor : y_Model_ancestor.cls = "EventGraphTextModel" ∧ y_Model_ancestor.cls ≠ "java/lang/invoke/MethodHandle" ∧ y_Model_ancestor.cls ≠ "java/lang/invoke/VarHandle" ∧ (parseMethodDescriptor y_Model_ancestor.desc).map (fun d => d.parameters.length) = some 4 := by decide +kernel
abbrev y_Model_critical : MethodName := ⟨"EventGraphTextModel", "critical", "(I)I"⟩
abbrev b_Model_critical : ByteArray := prog_10_method_46_code
theorem pd_Model_critical : y_Model_critical.cls = "EventGraphTextModel" ∧ y_Model_critical.cls ≠ "java/lang/invoke/MethodHandle" ∧ y_Model_critical.cls ≠ "java/lang/invoke/VarHandle" ∧ (parseMethodDescriptor y_Model_critical.desc).map (fun d => d.parameters.length) = some 1 := by decide +kernel
abbrev y_Model_replayed : MethodName := ⟨"EventGraphTextModel", "replayed", "(I)I"⟩
abbrev b_Model_replayed : ByteArray := prog_10_method_47_code
theorem pd_Model_replayed : y_Model_replayed.cls = "EventGraphTextModel" ∧ y_Model_replayed.cls ≠ "java/lang/invoke/MethodHandle" ∧ y_Model_replayed.cls ≠ "java/lang/invoke/VarHandle" ∧ (parseMethodDescriptor y_Model_replayed.desc).map (fun d => d.parameters.length) = some 1 := by decide +kernel
abbrev y_Model_moves : MethodName := ⟨"EventGraphTextModel", "moves", "(I)I"⟩
abbrev b_Model_moves : ByteArray := prog_10_method_48_code
theorem pd_Model_moves : y_Model_moves.cls = "EventGraphTextModel" ∧ y_Model_moves.cls ≠ "java/lang/invoke/MethodHandle" ∧ y_Model_moves.cls ≠ "java/lang/invoke/VarHandle" ∧ (parseMethodDescriptor y_Model_moves.desc).map (fun d => d.parameters.length) = some 1 := by decide +kernel
abbrev y_Model_operation : MethodName := ⟨"EventGraphTextModel", "operation", "(II)I"⟩
abbrev b_Model_operation : ByteArray := prog_10_method_49_code
theorem pd_Model_operation : y_Model_operation.cls = "EventGraphTextModel" ∧ y_Model_operation.cls ≠ "java/lang/invoke/MethodHandle" ∧ y_Model_operation.cls ≠ "java/lang/invoke/VarHandle" ∧ (parseMethodDescriptor y_Model_operation.desc).map (fun d => d.parameters.length) = some 2 := by decide +kernel
abbrev y_Text_init : MethodName := ⟨"EventGraphText", "<init>", "()V"⟩
abbrev b_Text_init : ByteArray := prog_1_method_1_code
theorem pd_Text_init : y_Text_init.cls = "EventGraphText" ∧ y_Text_init.cls ≠ "java/lang/invoke/MethodHandle" ∧ y_Text_init.cls ≠ "java/lang/invoke/VarHandle" ∧ (parseMethodDescriptor y_Text_init.desc).map (fun d => d.parameters.length) = some 0 := by decide +kernel
abbrev y_Model_init : MethodName := ⟨"EventGraphTextModel", "<init>", "()V"⟩
abbrev b_Model_init : ByteArray := prog_10_method_1_code
theorem pd_Model_init : y_Model_init.cls = "EventGraphTextModel" ∧ y_Model_init.cls ≠ "java/lang/invoke/MethodHandle" ∧ y_Model_init.cls ≠ "java/lang/invoke/VarHandle" ∧ (parseMethodDescriptor y_Model_init.desc).map (fun d => d.parameters.length) = some 0 := by decide +kernel
abbrev y_CharacterList_init : MethodName := ⟨"EventGraphText$CharacterList", "<init>", "()V"⟩
abbrev b_CharacterList_init : ByteArray := prog_2_method_1_code
theorem pd_CharacterList_init : y_CharacterList_init.cls = "EventGraphText$CharacterList" ∧ y_CharacterList_init.cls ≠ "java/lang/invoke/MethodHandle" ∧ y_CharacterList_init.cls ≠ "java/lang/invoke/VarHandle" ∧ (parseMethodDescriptor y_CharacterList_init.desc).map (fun d => d.parameters.length) = some 0 := by decide +kernel
abbrev y_History_init : MethodName := ⟨"EventGraphText$History", "<init>", "()V"⟩
abbrev b_History_init : ByteArray := prog_3_method_1_code
theorem pd_History_init : y_History_init.cls = "EventGraphText$History" ∧ y_History_init.cls ≠ "java/lang/invoke/MethodHandle" ∧ y_History_init.cls ≠ "java/lang/invoke/VarHandle" ∧ (parseMethodDescriptor y_History_init.desc).map (fun d => d.parameters.length) = some 0 := by decide +kernel
abbrev y_Line_init : MethodName := ⟨"EventGraphText$Line", "<init>", "()V"⟩
abbrev b_Line_init : ByteArray := prog_4_method_1_code
theorem pd_Line_init : y_Line_init.cls = "EventGraphText$Line" ∧ y_Line_init.cls ≠ "java/lang/invoke/MethodHandle" ∧ y_Line_init.cls ≠ "java/lang/invoke/VarHandle" ∧ (parseMethodDescriptor y_Line_init.desc).map (fun d => d.parameters.length) = some 0 := by decide +kernel
abbrev y_Merge_init : MethodName := ⟨"EventGraphText$Merge", "<init>", "()V"⟩
abbrev b_Merge_init : ByteArray := prog_5_method_1_code
theorem pd_Merge_init : y_Merge_init.cls = "EventGraphText$Merge" ∧ y_Merge_init.cls ≠ "java/lang/invoke/MethodHandle" ∧ y_Merge_init.cls ≠ "java/lang/invoke/VarHandle" ∧ (parseMethodDescriptor y_Merge_init.desc).map (fun d => d.parameters.length) = some 0 := by decide +kernel
abbrev y_Message_init : MethodName := ⟨"EventGraphText$Message", "<init>", "()V"⟩
abbrev b_Message_init : ByteArray := prog_6_method_1_code
theorem pd_Message_init : y_Message_init.cls = "EventGraphText$Message" ∧ y_Message_init.cls ≠ "java/lang/invoke/MethodHandle" ∧ y_Message_init.cls ≠ "java/lang/invoke/VarHandle" ∧ (parseMethodDescriptor y_Message_init.desc).map (fun d => d.parameters.length) = some 0 := by decide +kernel
abbrev y_OctetRow_init : MethodName := ⟨"EventGraphText$OctetRow", "<init>", "()V"⟩
abbrev b_OctetRow_init : ByteArray := prog_7_method_1_code
theorem pd_OctetRow_init : y_OctetRow_init.cls = "EventGraphText$OctetRow" ∧ y_OctetRow_init.cls ≠ "java/lang/invoke/MethodHandle" ∧ y_OctetRow_init.cls ≠ "java/lang/invoke/VarHandle" ∧ (parseMethodDescriptor y_OctetRow_init.desc).map (fun d => d.parameters.length) = some 0 := by decide +kernel
abbrev y_Site_init : MethodName := ⟨"EventGraphText$Site", "<init>", "()V"⟩
abbrev b_Site_init : ByteArray := prog_8_method_1_code
theorem pd_Site_init : y_Site_init.cls = "EventGraphText$Site" ∧ y_Site_init.cls ≠ "java/lang/invoke/MethodHandle" ∧ y_Site_init.cls ≠ "java/lang/invoke/VarHandle" ∧ (parseMethodDescriptor y_Site_init.desc).map (fun d => d.parameters.length) = some 0 := by decide +kernel
end
section
theorem d_Text_isSite_0 : decode b_Text_isSite 0 = .ok (.iload_n 0, 1) := by decide +kernel
theorem d_Text_isSite_1 : decode b_Text_isSite 1 = .ok (.ifCond .lt 12, 3) := by decide +kernel
theorem d_Text_isSite_4 : decode b_Text_isSite 4 = .ok (.iload_n 0, 1) := by decide +kernel
theorem d_Text_isSite_5 : decode b_Text_isSite 5 = .ok (.iconst 3, 1) := by decide +kernel
theorem d_Text_isSite_6 : decode b_Text_isSite 6 = .ok (.if_icmp .ge 7, 3) := by decide +kernel
theorem d_Text_isSite_9 : decode b_Text_isSite 9 = .ok (.iconst 1, 1) := by decide +kernel
theorem d_Text_isSite_10 : decode b_Text_isSite 10 = .ok (.goto 4, 3) := by decide +kernel
theorem d_Text_isSite_13 : decode b_Text_isSite 13 = .ok (.iconst 0, 1) := by decide +kernel
theorem d_Text_isSite_14 : decode b_Text_isSite 14 = .ok (.ireturn, 1) := by decide +kernel
theorem d_History_isFull_0 : decode b_History_isFull 0 = .ok (.aload_n 0, 1) := by decide +kernel
theorem d_History_isFull_1 : decode b_History_isFull 1 = .ok (.getfield 37, 3) := by decide +kernel
theorem d_History_isFull_4 : decode b_History_isFull 4 = .ok (.bipush 40, 2) := by decide +kernel
theorem d_History_isFull_6 : decode b_History_isFull 6 = .ok (.if_icmp .lt 7, 3) := by decide +kernel
theorem d_History_isFull_9 : decode b_History_isFull 9 = .ok (.iconst 1, 1) := by decide +kernel
theorem d_History_isFull_10 : decode b_History_isFull 10 = .ok (.goto 4, 3) := by decide +kernel
theorem d_History_isFull_13 : decode b_History_isFull 13 = .ok (.iconst 0, 1) := by decide +kernel
theorem d_History_isFull_14 : decode b_History_isFull 14 = .ok (.ireturn, 1) := by decide +kernel
theorem d_Text_bit_0 : decode b_Text_bit 0 = .ok (.lconst 1, 1) := by decide +kernel
theorem d_Text_bit_1 : decode b_Text_bit 1 = .ok (.iload_n 0, 1) := by decide +kernel
theorem d_Text_bit_2 : decode b_Text_bit 2 = .ok (.lshl, 1) := by decide +kernel
theorem d_Text_bit_3 : decode b_Text_bit 3 = .ok (.lreturn, 1) := by decide +kernel
theorem d_Text_has_0 : decode b_Text_has 0 = .ok (.iload_n 2, 1) := by decide +kernel
theorem d_Text_has_1 : decode b_Text_has 1 = .ok (.ifCond .lt 18, 3) := by decide +kernel
theorem d_Text_has_4 : decode b_Text_has 4 = .ok (.lload_n 0, 1) := by decide +kernel
theorem d_Text_has_5 : decode b_Text_has 5 = .ok (.iload_n 2, 1) := by decide +kernel
theorem d_Text_has_6 : decode b_Text_has 6 = .ok (.invokestatic 78, 3) := by decide +kernel
theorem d_Text_has_9 : decode b_Text_has 9 = .ok (.land, 1) := by decide +kernel
theorem d_Text_has_10 : decode b_Text_has 10 = .ok (.lconst 0, 1) := by decide +kernel
theorem d_Text_has_11 : decode b_Text_has 11 = .ok (.lcmp, 1) := by decide +kernel
theorem d_Text_has_12 : decode b_Text_has 12 = .ok (.ifCond .eq 7, 3) := by decide +kernel
theorem d_Text_has_15 : decode b_Text_has 15 = .ok (.iconst 1, 1) := by decide +kernel
theorem d_Text_has_16 : decode b_Text_has 16 = .ok (.goto 4, 3) := by decide +kernel
theorem d_Text_has_19 : decode b_Text_has 19 = .ok (.iconst 0, 1) := by decide +kernel
theorem d_Text_has_20 : decode b_Text_has 20 = .ok (.ireturn, 1) := by decide +kernel
theorem d_CharacterList_shownIn_0 : decode b_CharacterList_shownIn 0 = .ok (.lconst 0, 1) := by decide +kernel
theorem d_CharacterList_shownIn_1 : decode b_CharacterList_shownIn 1 = .ok (.lstore_n 3, 1) := by decide +kernel
theorem d_CharacterList_shownIn_2 : decode b_CharacterList_shownIn 2 = .ok (.iconst 0, 1) := by decide +kernel
theorem d_CharacterList_shownIn_3 : decode b_CharacterList_shownIn 3 = .ok (.istore 5, 2) := by decide +kernel
theorem d_CharacterList_shownIn_5 : decode b_CharacterList_shownIn 5 = .ok (.iload 5, 2) := by decide +kernel
theorem d_CharacterList_shownIn_7 : decode b_CharacterList_shownIn 7 = .ok (.bipush 40, 2) := by decide +kernel
theorem d_CharacterList_shownIn_9 : decode b_CharacterList_shownIn 9 = .ok (.if_icmp .ge 36, 3) := by decide +kernel
theorem d_CharacterList_shownIn_12 : decode b_CharacterList_shownIn 12 = .ok (.lload_n 1, 1) := by decide +kernel
theorem d_CharacterList_shownIn_13 : decode b_CharacterList_shownIn 13 = .ok (.aload_n 0, 1) := by decide +kernel
theorem d_CharacterList_shownIn_14 : decode b_CharacterList_shownIn 14 = .ok (.getfield 29, 3) := by decide +kernel
theorem d_CharacterList_shownIn_17 : decode b_CharacterList_shownIn 17 = .ok (.land, 1) := by decide +kernel
theorem d_CharacterList_shownIn_18 : decode b_CharacterList_shownIn 18 = .ok (.iload 5, 2) := by decide +kernel
theorem d_CharacterList_shownIn_20 : decode b_CharacterList_shownIn 20 = .ok (.invokestatic 44, 3) := by decide +kernel
theorem d_CharacterList_shownIn_23 : decode b_CharacterList_shownIn 23 = .ok (.ifCond .eq 16, 3) := by decide +kernel
theorem d_CharacterList_shownIn_26 : decode b_CharacterList_shownIn 26 = .ok (.lload_n 3, 1) := by decide +kernel
theorem d_CharacterList_shownIn_27 : decode b_CharacterList_shownIn 27 = .ok (.aload_n 0, 1) := by decide +kernel
theorem d_CharacterList_shownIn_28 : decode b_CharacterList_shownIn 28 = .ok (.getfield 26, 3) := by decide +kernel
theorem d_CharacterList_shownIn_31 : decode b_CharacterList_shownIn 31 = .ok (.iload 5, 2) := by decide +kernel
theorem d_CharacterList_shownIn_33 : decode b_CharacterList_shownIn 33 = .ok (.iaload, 1) := by decide +kernel
theorem d_CharacterList_shownIn_34 : decode b_CharacterList_shownIn 34 = .ok (.invokestatic 40, 3) := by decide +kernel
theorem d_CharacterList_shownIn_37 : decode b_CharacterList_shownIn 37 = .ok (.lor, 1) := by decide +kernel
theorem d_CharacterList_shownIn_38 : decode b_CharacterList_shownIn 38 = .ok (.lstore_n 3, 1) := by decide +kernel
theorem d_CharacterList_shownIn_39 : decode b_CharacterList_shownIn 39 = .ok (.iinc 5 1, 3) := by decide +kernel
theorem d_CharacterList_shownIn_42 : decode b_CharacterList_shownIn 42 = .ok (.goto (-37), 3) := by decide +kernel
theorem d_CharacterList_shownIn_45 : decode b_CharacterList_shownIn 45 = .ok (.lload_n 1, 1) := by decide +kernel
theorem d_CharacterList_shownIn_46 : decode b_CharacterList_shownIn 46 = .ok (.aload_n 0, 1) := by decide +kernel
theorem d_CharacterList_shownIn_47 : decode b_CharacterList_shownIn 47 = .ok (.getfield 33, 3) := by decide +kernel
theorem d_CharacterList_shownIn_50 : decode b_CharacterList_shownIn 50 = .ok (.land, 1) := by decide +kernel
theorem d_CharacterList_shownIn_51 : decode b_CharacterList_shownIn 51 = .ok (.lload_n 3, 1) := by decide +kernel
theorem d_CharacterList_shownIn_52 : decode b_CharacterList_shownIn 52 = .ok (.ldc2_w 48, 3) := by decide +kernel
theorem d_CharacterList_shownIn_55 : decode b_CharacterList_shownIn 55 = .ok (.lxor, 1) := by decide +kernel
theorem d_CharacterList_shownIn_56 : decode b_CharacterList_shownIn 56 = .ok (.land, 1) := by decide +kernel
theorem d_CharacterList_shownIn_57 : decode b_CharacterList_shownIn 57 = .ok (.lreturn, 1) := by decide +kernel
theorem d_Long_bitCount_0 : decode b_Long_bitCount 0 = .ok (.lload_n 0, 1) := by decide +kernel
theorem d_Long_bitCount_1 : decode b_Long_bitCount 1 = .ok (.lload_n 0, 1) := by decide +kernel
theorem d_Long_bitCount_2 : decode b_Long_bitCount 2 = .ok (.iconst 1, 1) := by decide +kernel
theorem d_Long_bitCount_3 : decode b_Long_bitCount 3 = .ok (.lushr, 1) := by decide +kernel
theorem d_Long_bitCount_4 : decode b_Long_bitCount 4 = .ok (.ldc2_w 314, 3) := by decide +kernel
theorem d_Long_bitCount_7 : decode b_Long_bitCount 7 = .ok (.land, 1) := by decide +kernel
theorem d_Long_bitCount_8 : decode b_Long_bitCount 8 = .ok (.lsub, 1) := by decide +kernel
theorem d_Long_bitCount_9 : decode b_Long_bitCount 9 = .ok (.lstore_n 0, 1) := by decide +kernel
theorem d_Long_bitCount_10 : decode b_Long_bitCount 10 = .ok (.lload_n 0, 1) := by decide +kernel
theorem d_Long_bitCount_11 : decode b_Long_bitCount 11 = .ok (.ldc2_w 316, 3) := by decide +kernel
theorem d_Long_bitCount_14 : decode b_Long_bitCount 14 = .ok (.land, 1) := by decide +kernel
theorem d_Long_bitCount_15 : decode b_Long_bitCount 15 = .ok (.lload_n 0, 1) := by decide +kernel
theorem d_Long_bitCount_16 : decode b_Long_bitCount 16 = .ok (.iconst 2, 1) := by decide +kernel
theorem d_Long_bitCount_17 : decode b_Long_bitCount 17 = .ok (.lushr, 1) := by decide +kernel
theorem d_Long_bitCount_18 : decode b_Long_bitCount 18 = .ok (.ldc2_w 316, 3) := by decide +kernel
theorem d_Long_bitCount_21 : decode b_Long_bitCount 21 = .ok (.land, 1) := by decide +kernel
theorem d_Long_bitCount_22 : decode b_Long_bitCount 22 = .ok (.ladd, 1) := by decide +kernel
theorem d_Long_bitCount_23 : decode b_Long_bitCount 23 = .ok (.lstore_n 0, 1) := by decide +kernel
theorem d_Long_bitCount_24 : decode b_Long_bitCount 24 = .ok (.lload_n 0, 1) := by decide +kernel
theorem d_Long_bitCount_25 : decode b_Long_bitCount 25 = .ok (.lload_n 0, 1) := by decide +kernel
theorem d_Long_bitCount_26 : decode b_Long_bitCount 26 = .ok (.iconst 4, 1) := by decide +kernel
theorem d_Long_bitCount_27 : decode b_Long_bitCount 27 = .ok (.lushr, 1) := by decide +kernel
theorem d_Long_bitCount_28 : decode b_Long_bitCount 28 = .ok (.ladd, 1) := by decide +kernel
theorem d_Long_bitCount_29 : decode b_Long_bitCount 29 = .ok (.ldc2_w 318, 3) := by decide +kernel
theorem d_Long_bitCount_32 : decode b_Long_bitCount 32 = .ok (.land, 1) := by decide +kernel
theorem d_Long_bitCount_33 : decode b_Long_bitCount 33 = .ok (.lstore_n 0, 1) := by decide +kernel
theorem d_Long_bitCount_34 : decode b_Long_bitCount 34 = .ok (.lload_n 0, 1) := by decide +kernel
theorem d_Long_bitCount_35 : decode b_Long_bitCount 35 = .ok (.lload_n 0, 1) := by decide +kernel
theorem d_Long_bitCount_36 : decode b_Long_bitCount 36 = .ok (.bipush 8, 2) := by decide +kernel
theorem d_Long_bitCount_38 : decode b_Long_bitCount 38 = .ok (.lushr, 1) := by decide +kernel
theorem d_Long_bitCount_39 : decode b_Long_bitCount 39 = .ok (.ladd, 1) := by decide +kernel
theorem d_Long_bitCount_40 : decode b_Long_bitCount 40 = .ok (.lstore_n 0, 1) := by decide +kernel
theorem d_Long_bitCount_41 : decode b_Long_bitCount 41 = .ok (.lload_n 0, 1) := by decide +kernel
theorem d_Long_bitCount_42 : decode b_Long_bitCount 42 = .ok (.lload_n 0, 1) := by decide +kernel
theorem d_Long_bitCount_43 : decode b_Long_bitCount 43 = .ok (.bipush 16, 2) := by decide +kernel
theorem d_Long_bitCount_45 : decode b_Long_bitCount 45 = .ok (.lushr, 1) := by decide +kernel
theorem d_Long_bitCount_46 : decode b_Long_bitCount 46 = .ok (.ladd, 1) := by decide +kernel
theorem d_Long_bitCount_47 : decode b_Long_bitCount 47 = .ok (.lstore_n 0, 1) := by decide +kernel
theorem d_Long_bitCount_48 : decode b_Long_bitCount 48 = .ok (.lload_n 0, 1) := by decide +kernel
theorem d_Long_bitCount_49 : decode b_Long_bitCount 49 = .ok (.lload_n 0, 1) := by decide +kernel
theorem d_Long_bitCount_50 : decode b_Long_bitCount 50 = .ok (.bipush 32, 2) := by decide +kernel
theorem d_Long_bitCount_52 : decode b_Long_bitCount 52 = .ok (.lushr, 1) := by decide +kernel
theorem d_Long_bitCount_53 : decode b_Long_bitCount 53 = .ok (.ladd, 1) := by decide +kernel
theorem d_Long_bitCount_54 : decode b_Long_bitCount 54 = .ok (.lstore_n 0, 1) := by decide +kernel
theorem d_Long_bitCount_55 : decode b_Long_bitCount 55 = .ok (.lload_n 0, 1) := by decide +kernel
theorem d_Long_bitCount_56 : decode b_Long_bitCount 56 = .ok (.l2i, 1) := by decide +kernel
theorem d_Long_bitCount_57 : decode b_Long_bitCount 57 = .ok (.bipush 127, 2) := by decide +kernel
theorem d_Long_bitCount_59 : decode b_Long_bitCount 59 = .ok (.iand, 1) := by decide +kernel
theorem d_Long_bitCount_60 : decode b_Long_bitCount 60 = .ok (.ireturn, 1) := by decide +kernel
theorem d_CharacterList_shownAt_0 : decode b_CharacterList_shownAt 0 = .ok (.iconst 0, 1) := by decide +kernel
theorem d_CharacterList_shownAt_1 : decode b_CharacterList_shownAt 1 = .ok (.istore 4, 2) := by decide +kernel
theorem d_CharacterList_shownAt_3 : decode b_CharacterList_shownAt 3 = .ok (.iconst 0, 1) := by decide +kernel
theorem d_CharacterList_shownAt_4 : decode b_CharacterList_shownAt 4 = .ok (.istore 5, 2) := by decide +kernel
theorem d_CharacterList_shownAt_6 : decode b_CharacterList_shownAt 6 = .ok (.iload 5, 2) := by decide +kernel
theorem d_CharacterList_shownAt_8 : decode b_CharacterList_shownAt 8 = .ok (.aload_n 0, 1) := by decide +kernel
theorem d_CharacterList_shownAt_9 : decode b_CharacterList_shownAt 9 = .ok (.getfield 36, 3) := by decide +kernel
theorem d_CharacterList_shownAt_12 : decode b_CharacterList_shownAt 12 = .ok (.if_icmp .ge 40, 3) := by decide +kernel
theorem d_CharacterList_shownAt_15 : decode b_CharacterList_shownAt 15 = .ok (.lload_n 1, 1) := by decide +kernel
theorem d_CharacterList_shownAt_16 : decode b_CharacterList_shownAt 16 = .ok (.aload_n 0, 1) := by decide +kernel
theorem d_CharacterList_shownAt_17 : decode b_CharacterList_shownAt 17 = .ok (.getfield 9, 3) := by decide +kernel
theorem d_CharacterList_shownAt_20 : decode b_CharacterList_shownAt 20 = .ok (.iload 5, 2) := by decide +kernel
theorem d_CharacterList_shownAt_22 : decode b_CharacterList_shownAt 22 = .ok (.iaload, 1) := by decide +kernel
theorem d_CharacterList_shownAt_23 : decode b_CharacterList_shownAt 23 = .ok (.invokestatic 44, 3) := by decide +kernel
theorem d_CharacterList_shownAt_26 : decode b_CharacterList_shownAt 26 = .ok (.ifCond .eq 20, 3) := by decide +kernel
theorem d_CharacterList_shownAt_29 : decode b_CharacterList_shownAt 29 = .ok (.iload 4, 2) := by decide +kernel
theorem d_CharacterList_shownAt_31 : decode b_CharacterList_shownAt 31 = .ok (.iload_n 3, 1) := by decide +kernel
theorem d_CharacterList_shownAt_32 : decode b_CharacterList_shownAt 32 = .ok (.if_icmp .ne 11, 3) := by decide +kernel
theorem d_CharacterList_shownAt_35 : decode b_CharacterList_shownAt 35 = .ok (.aload_n 0, 1) := by decide +kernel
theorem d_CharacterList_shownAt_36 : decode b_CharacterList_shownAt 36 = .ok (.getfield 9, 3) := by decide +kernel
theorem d_CharacterList_shownAt_39 : decode b_CharacterList_shownAt 39 = .ok (.iload 5, 2) := by decide +kernel
theorem d_CharacterList_shownAt_41 : decode b_CharacterList_shownAt 41 = .ok (.iaload, 1) := by decide +kernel
theorem d_CharacterList_shownAt_42 : decode b_CharacterList_shownAt 42 = .ok (.ireturn, 1) := by decide +kernel
theorem d_CharacterList_shownAt_43 : decode b_CharacterList_shownAt 43 = .ok (.iinc 4 1, 3) := by decide +kernel
theorem d_CharacterList_shownAt_46 : decode b_CharacterList_shownAt 46 = .ok (.iinc 5 1, 3) := by decide +kernel
theorem d_CharacterList_shownAt_49 : decode b_CharacterList_shownAt 49 = .ok (.goto (-43), 3) := by decide +kernel
theorem d_CharacterList_shownAt_52 : decode b_CharacterList_shownAt 52 = .ok (.iconst (-1), 1) := by decide +kernel
theorem d_CharacterList_shownAt_53 : decode b_CharacterList_shownAt 53 = .ok (.ireturn, 1) := by decide +kernel
theorem d_History_parentsOfAll_0 : decode b_History_parentsOfAll 0 = .ok (.lconst 0, 1) := by decide +kernel
theorem d_History_parentsOfAll_1 : decode b_History_parentsOfAll 1 = .ok (.lstore_n 3, 1) := by decide +kernel
theorem d_History_parentsOfAll_2 : decode b_History_parentsOfAll 2 = .ok (.iconst 0, 1) := by decide +kernel
theorem d_History_parentsOfAll_3 : decode b_History_parentsOfAll 3 = .ok (.istore 5, 2) := by decide +kernel
theorem d_History_parentsOfAll_5 : decode b_History_parentsOfAll 5 = .ok (.iload 5, 2) := by decide +kernel
theorem d_History_parentsOfAll_7 : decode b_History_parentsOfAll 7 = .ok (.aload_n 0, 1) := by decide +kernel
theorem d_History_parentsOfAll_8 : decode b_History_parentsOfAll 8 = .ok (.getfield 37, 3) := by decide +kernel
theorem d_History_parentsOfAll_11 : decode b_History_parentsOfAll 11 = .ok (.if_icmp .ge 28, 3) := by decide +kernel
theorem d_History_parentsOfAll_14 : decode b_History_parentsOfAll 14 = .ok (.lload_n 1, 1) := by decide +kernel
theorem d_History_parentsOfAll_15 : decode b_History_parentsOfAll 15 = .ok (.iload 5, 2) := by decide +kernel
theorem d_History_parentsOfAll_17 : decode b_History_parentsOfAll 17 = .ok (.invokestatic 53, 3) := by decide +kernel
theorem d_History_parentsOfAll_20 : decode b_History_parentsOfAll 20 = .ok (.ifCond .eq 13, 3) := by decide +kernel
theorem d_History_parentsOfAll_23 : decode b_History_parentsOfAll 23 = .ok (.lload_n 3, 1) := by decide +kernel
theorem d_History_parentsOfAll_24 : decode b_History_parentsOfAll 24 = .ok (.aload_n 0, 1) := by decide +kernel
theorem d_History_parentsOfAll_25 : decode b_History_parentsOfAll 25 = .ok (.getfield 24, 3) := by decide +kernel
theorem d_History_parentsOfAll_28 : decode b_History_parentsOfAll 28 = .ok (.iload 5, 2) := by decide +kernel
theorem d_History_parentsOfAll_30 : decode b_History_parentsOfAll 30 = .ok (.laload, 1) := by decide +kernel
theorem d_History_parentsOfAll_31 : decode b_History_parentsOfAll 31 = .ok (.lor, 1) := by decide +kernel
theorem d_History_parentsOfAll_32 : decode b_History_parentsOfAll 32 = .ok (.lstore_n 3, 1) := by decide +kernel
theorem d_History_parentsOfAll_33 : decode b_History_parentsOfAll 33 = .ok (.iinc 5 1, 3) := by decide +kernel
theorem d_History_parentsOfAll_36 : decode b_History_parentsOfAll 36 = .ok (.goto (-31), 3) := by decide +kernel
theorem d_History_parentsOfAll_39 : decode b_History_parentsOfAll 39 = .ok (.lload_n 3, 1) := by decide +kernel
theorem d_History_parentsOfAll_40 : decode b_History_parentsOfAll 40 = .ok (.lreturn, 1) := by decide +kernel
theorem d_History_headsOf_0 : decode b_History_headsOf 0 = .ok (.lload_n 1, 1) := by decide +kernel
theorem d_History_headsOf_1 : decode b_History_headsOf 1 = .ok (.aload_n 0, 1) := by decide +kernel
theorem d_History_headsOf_2 : decode b_History_headsOf 2 = .ok (.lload_n 1, 1) := by decide +kernel
theorem d_History_headsOf_3 : decode b_History_headsOf 3 = .ok (.invokevirtual 61, 3) := by decide +kernel
theorem d_History_headsOf_6 : decode b_History_headsOf 6 = .ok (.ldc2_w 64, 3) := by decide +kernel
theorem d_History_headsOf_9 : decode b_History_headsOf 9 = .ok (.lxor, 1) := by decide +kernel
theorem d_History_headsOf_10 : decode b_History_headsOf 10 = .ok (.land, 1) := by decide +kernel
theorem d_History_headsOf_11 : decode b_History_headsOf 11 = .ok (.lreturn, 1) := by decide +kernel
theorem d_History_record_0 : decode b_History_record 0 = .ok (.aload_n 0, 1) := by decide +kernel
theorem d_History_record_1 : decode b_History_record 1 = .ok (.getfield 37, 3) := by decide +kernel
theorem d_History_record_4 : decode b_History_record 4 = .ok (.istore 6, 2) := by decide +kernel
theorem d_History_record_6 : decode b_History_record 6 = .ok (.aload_n 0, 1) := by decide +kernel
theorem d_History_record_7 : decode b_History_record 7 = .ok (.getfield 9, 3) := by decide +kernel
theorem d_History_record_10 : decode b_History_record 10 = .ok (.iload 6, 2) := by decide +kernel
theorem d_History_record_12 : decode b_History_record 12 = .ok (.iload_n 1, 1) := by decide +kernel
theorem d_History_record_13 : decode b_History_record 13 = .ok (.iastore, 1) := by decide +kernel
theorem d_History_record_14 : decode b_History_record 14 = .ok (.aload_n 0, 1) := by decide +kernel
theorem d_History_record_15 : decode b_History_record 15 = .ok (.getfield 15, 3) := by decide +kernel
theorem d_History_record_18 : decode b_History_record 18 = .ok (.iload 6, 2) := by decide +kernel
theorem d_History_record_20 : decode b_History_record 20 = .ok (.aload_n 0, 1) := by decide +kernel
theorem d_History_record_21 : decode b_History_record 21 = .ok (.getfield 34, 3) := by decide +kernel
theorem d_History_record_24 : decode b_History_record 24 = .ok (.iload_n 1, 1) := by decide +kernel
theorem d_History_record_25 : decode b_History_record 25 = .ok (.iaload, 1) := by decide +kernel
theorem d_History_record_26 : decode b_History_record 26 = .ok (.iastore, 1) := by decide +kernel
theorem d_History_record_27 : decode b_History_record 27 = .ok (.aload_n 0, 1) := by decide +kernel
theorem d_History_record_28 : decode b_History_record 28 = .ok (.getfield 18, 3) := by decide +kernel
theorem d_History_record_31 : decode b_History_record 31 = .ok (.iload 6, 2) := by decide +kernel
theorem d_History_record_33 : decode b_History_record 33 = .ok (.iload_n 2, 1) := by decide +kernel
theorem d_History_record_34 : decode b_History_record 34 = .ok (.iastore, 1) := by decide +kernel
theorem d_History_record_35 : decode b_History_record 35 = .ok (.aload_n 0, 1) := by decide +kernel
theorem d_History_record_36 : decode b_History_record 36 = .ok (.getfield 21, 3) := by decide +kernel
theorem d_History_record_39 : decode b_History_record 39 = .ok (.iload 6, 2) := by decide +kernel
theorem d_History_record_41 : decode b_History_record 41 = .ok (.iload_n 3, 1) := by decide +kernel
theorem d_History_record_42 : decode b_History_record 42 = .ok (.iastore, 1) := by decide +kernel
theorem d_History_record_43 : decode b_History_record 43 = .ok (.aload_n 0, 1) := by decide +kernel
theorem d_History_record_44 : decode b_History_record 44 = .ok (.getfield 24, 3) := by decide +kernel
theorem d_History_record_47 : decode b_History_record 47 = .ok (.iload 6, 2) := by decide +kernel
theorem d_History_record_49 : decode b_History_record 49 = .ok (.aload_n 0, 1) := by decide +kernel
theorem d_History_record_50 : decode b_History_record 50 = .ok (.lload 4, 2) := by decide +kernel
theorem d_History_record_52 : decode b_History_record 52 = .ok (.invokevirtual 41, 3) := by decide +kernel
theorem d_History_record_55 : decode b_History_record 55 = .ok (.lastore, 1) := by decide +kernel
theorem d_History_record_56 : decode b_History_record 56 = .ok (.aload_n 0, 1) := by decide +kernel
theorem d_History_record_57 : decode b_History_record 57 = .ok (.getfield 28, 3) := by decide +kernel
theorem d_History_record_60 : decode b_History_record 60 = .ok (.iload 6, 2) := by decide +kernel
theorem d_History_record_62 : decode b_History_record 62 = .ok (.lload 4, 2) := by decide +kernel
theorem d_History_record_64 : decode b_History_record 64 = .ok (.lastore, 1) := by decide +kernel
theorem d_History_record_65 : decode b_History_record 65 = .ok (.aload_n 0, 1) := by decide +kernel
theorem d_History_record_66 : decode b_History_record 66 = .ok (.getfield 31, 3) := by decide +kernel
theorem d_History_record_69 : decode b_History_record 69 = .ok (.iload_n 1, 1) := by decide +kernel
theorem d_History_record_70 : decode b_History_record 70 = .ok (.bipush 40, 2) := by decide +kernel
theorem d_History_record_72 : decode b_History_record 72 = .ok (.imul, 1) := by decide +kernel
theorem d_History_record_73 : decode b_History_record 73 = .ok (.aload_n 0, 1) := by decide +kernel
theorem d_History_record_74 : decode b_History_record 74 = .ok (.getfield 34, 3) := by decide +kernel
theorem d_History_record_77 : decode b_History_record 77 = .ok (.iload_n 1, 1) := by decide +kernel
theorem d_History_record_78 : decode b_History_record 78 = .ok (.iaload, 1) := by decide +kernel
theorem d_History_record_79 : decode b_History_record 79 = .ok (.iadd, 1) := by decide +kernel
theorem d_History_record_80 : decode b_History_record 80 = .ok (.iload 6, 2) := by decide +kernel
theorem d_History_record_82 : decode b_History_record 82 = .ok (.iastore, 1) := by decide +kernel
theorem d_History_record_83 : decode b_History_record 83 = .ok (.aload_n 0, 1) := by decide +kernel
theorem d_History_record_84 : decode b_History_record 84 = .ok (.getfield 34, 3) := by decide +kernel
theorem d_History_record_87 : decode b_History_record 87 = .ok (.iload_n 1, 1) := by decide +kernel
theorem d_History_record_88 : decode b_History_record 88 = .ok (.dup2, 1) := by decide +kernel
theorem d_History_record_89 : decode b_History_record 89 = .ok (.iaload, 1) := by decide +kernel
theorem d_History_record_90 : decode b_History_record 90 = .ok (.iconst 1, 1) := by decide +kernel
theorem d_History_record_91 : decode b_History_record 91 = .ok (.iadd, 1) := by decide +kernel
theorem d_History_record_92 : decode b_History_record 92 = .ok (.iastore, 1) := by decide +kernel
theorem d_History_record_93 : decode b_History_record 93 = .ok (.aload_n 0, 1) := by decide +kernel
theorem d_History_record_94 : decode b_History_record 94 = .ok (.dup, 1) := by decide +kernel
theorem d_History_record_95 : decode b_History_record 95 = .ok (.getfield 37, 3) := by decide +kernel
theorem d_History_record_98 : decode b_History_record 98 = .ok (.iconst 1, 1) := by decide +kernel
theorem d_History_record_99 : decode b_History_record 99 = .ok (.iadd, 1) := by decide +kernel
theorem d_History_record_100 : decode b_History_record 100 = .ok (.putfield 37, 3) := by decide +kernel
theorem d_History_record_103 : decode b_History_record 103 = .ok (.iload 6, 2) := by decide +kernel
theorem d_History_record_105 : decode b_History_record 105 = .ok (.ireturn, 1) := by decide +kernel
theorem d_CharacterList_childrenOf_0 : decode b_CharacterList_childrenOf 0 = .ok (.lconst 0, 1) := by decide +kernel
theorem d_CharacterList_childrenOf_1 : decode b_CharacterList_childrenOf 1 = .ok (.lstore_n 3, 1) := by decide +kernel
theorem d_CharacterList_childrenOf_2 : decode b_CharacterList_childrenOf 2 = .ok (.iconst 0, 1) := by decide +kernel
theorem d_CharacterList_childrenOf_3 : decode b_CharacterList_childrenOf 3 = .ok (.istore 5, 2) := by decide +kernel
theorem d_CharacterList_childrenOf_5 : decode b_CharacterList_childrenOf 5 = .ok (.iload 5, 2) := by decide +kernel
theorem d_CharacterList_childrenOf_7 : decode b_CharacterList_childrenOf 7 = .ok (.aload_n 0, 1) := by decide +kernel
theorem d_CharacterList_childrenOf_8 : decode b_CharacterList_childrenOf 8 = .ok (.getfield 36, 3) := by decide +kernel
theorem d_CharacterList_childrenOf_11 : decode b_CharacterList_childrenOf 11 = .ok (.if_icmp .ge 48, 3) := by decide +kernel
theorem d_CharacterList_childrenOf_14 : decode b_CharacterList_childrenOf 14 = .ok (.aload_n 0, 1) := by decide +kernel
theorem d_CharacterList_childrenOf_15 : decode b_CharacterList_childrenOf 15 = .ok (.getfield 9, 3) := by decide +kernel
theorem d_CharacterList_childrenOf_18 : decode b_CharacterList_childrenOf 18 = .ok (.iload 5, 2) := by decide +kernel
theorem d_CharacterList_childrenOf_20 : decode b_CharacterList_childrenOf 20 = .ok (.iaload, 1) := by decide +kernel
theorem d_CharacterList_childrenOf_21 : decode b_CharacterList_childrenOf 21 = .ok (.istore 6, 2) := by decide +kernel
theorem d_CharacterList_childrenOf_23 : decode b_CharacterList_childrenOf 23 = .ok (.aload_n 0, 1) := by decide +kernel
theorem d_CharacterList_childrenOf_24 : decode b_CharacterList_childrenOf 24 = .ok (.getfield 15, 3) := by decide +kernel
theorem d_CharacterList_childrenOf_27 : decode b_CharacterList_childrenOf 27 = .ok (.iload 6, 2) := by decide +kernel
theorem d_CharacterList_childrenOf_29 : decode b_CharacterList_childrenOf 29 = .ok (.iaload, 1) := by decide +kernel
theorem d_CharacterList_childrenOf_30 : decode b_CharacterList_childrenOf 30 = .ok (.iload_n 1, 1) := by decide +kernel
theorem d_CharacterList_childrenOf_31 : decode b_CharacterList_childrenOf 31 = .ok (.if_icmp .ne 22, 3) := by decide +kernel
theorem d_CharacterList_childrenOf_34 : decode b_CharacterList_childrenOf 34 = .ok (.aload_n 0, 1) := by decide +kernel
theorem d_CharacterList_childrenOf_35 : decode b_CharacterList_childrenOf 35 = .ok (.getfield 18, 3) := by decide +kernel
theorem d_CharacterList_childrenOf_38 : decode b_CharacterList_childrenOf 38 = .ok (.iload 6, 2) := by decide +kernel
theorem d_CharacterList_childrenOf_40 : decode b_CharacterList_childrenOf 40 = .ok (.baload, 1) := by decide +kernel
theorem d_CharacterList_childrenOf_41 : decode b_CharacterList_childrenOf 41 = .ok (.iload_n 2, 1) := by decide +kernel
theorem d_CharacterList_childrenOf_42 : decode b_CharacterList_childrenOf 42 = .ok (.if_icmp .ne 11, 3) := by decide +kernel
theorem d_CharacterList_childrenOf_45 : decode b_CharacterList_childrenOf 45 = .ok (.lload_n 3, 1) := by decide +kernel
theorem d_CharacterList_childrenOf_46 : decode b_CharacterList_childrenOf 46 = .ok (.iload 6, 2) := by decide +kernel
theorem d_CharacterList_childrenOf_48 : decode b_CharacterList_childrenOf 48 = .ok (.invokestatic 40, 3) := by decide +kernel
theorem d_CharacterList_childrenOf_51 : decode b_CharacterList_childrenOf 51 = .ok (.lor, 1) := by decide +kernel
theorem d_CharacterList_childrenOf_52 : decode b_CharacterList_childrenOf 52 = .ok (.lstore_n 3, 1) := by decide +kernel
theorem d_CharacterList_childrenOf_53 : decode b_CharacterList_childrenOf 53 = .ok (.iinc 5 1, 3) := by decide +kernel
theorem d_CharacterList_childrenOf_56 : decode b_CharacterList_childrenOf 56 = .ok (.goto (-51), 3) := by decide +kernel
theorem d_CharacterList_childrenOf_59 : decode b_CharacterList_childrenOf 59 = .ok (.lload_n 3, 1) := by decide +kernel
theorem d_CharacterList_childrenOf_60 : decode b_CharacterList_childrenOf 60 = .ok (.lreturn, 1) := by decide +kernel
theorem d_CharacterList_nextBehind_0 : decode b_CharacterList_nextBehind 0 = .ok (.iload_n 1, 1) := by decide +kernel
theorem d_CharacterList_nextBehind_1 : decode b_CharacterList_nextBehind 1 = .ok (.iconst (-1), 1) := by decide +kernel
theorem d_CharacterList_nextBehind_2 : decode b_CharacterList_nextBehind 2 = .ok (.if_icmp .ne 7, 3) := by decide +kernel
theorem d_CharacterList_nextBehind_5 : decode b_CharacterList_nextBehind 5 = .ok (.iconst 1, 1) := by decide +kernel
theorem d_CharacterList_nextBehind_6 : decode b_CharacterList_nextBehind 6 = .ok (.goto 4, 3) := by decide +kernel
theorem d_CharacterList_nextBehind_9 : decode b_CharacterList_nextBehind 9 = .ok (.iconst 0, 1) := by decide +kernel
theorem d_CharacterList_nextBehind_10 : decode b_CharacterList_nextBehind 10 = .ok (.istore 4, 2) := by decide +kernel
theorem d_CharacterList_nextBehind_12 : decode b_CharacterList_nextBehind 12 = .ok (.iconst 0, 1) := by decide +kernel
theorem d_CharacterList_nextBehind_13 : decode b_CharacterList_nextBehind 13 = .ok (.istore 5, 2) := by decide +kernel
theorem d_CharacterList_nextBehind_15 : decode b_CharacterList_nextBehind 15 = .ok (.iload 5, 2) := by decide +kernel
theorem d_CharacterList_nextBehind_17 : decode b_CharacterList_nextBehind 17 = .ok (.aload_n 0, 1) := by decide +kernel
theorem d_CharacterList_nextBehind_18 : decode b_CharacterList_nextBehind 18 = .ok (.getfield 36, 3) := by decide +kernel
theorem d_CharacterList_nextBehind_21 : decode b_CharacterList_nextBehind 21 = .ok (.if_icmp .ge 59, 3) := by decide +kernel
theorem d_CharacterList_nextBehind_24 : decode b_CharacterList_nextBehind 24 = .ok (.iload 4, 2) := by decide +kernel
theorem d_CharacterList_nextBehind_26 : decode b_CharacterList_nextBehind 26 = .ok (.ifCond .eq 25, 3) := by decide +kernel
theorem d_CharacterList_nextBehind_29 : decode b_CharacterList_nextBehind 29 = .ok (.lload_n 2, 1) := by decide +kernel
theorem d_CharacterList_nextBehind_30 : decode b_CharacterList_nextBehind 30 = .ok (.aload_n 0, 1) := by decide +kernel
theorem d_CharacterList_nextBehind_31 : decode b_CharacterList_nextBehind 31 = .ok (.getfield 9, 3) := by decide +kernel
theorem d_CharacterList_nextBehind_34 : decode b_CharacterList_nextBehind 34 = .ok (.iload 5, 2) := by decide +kernel
theorem d_CharacterList_nextBehind_36 : decode b_CharacterList_nextBehind 36 = .ok (.iaload, 1) := by decide +kernel
theorem d_CharacterList_nextBehind_37 : decode b_CharacterList_nextBehind 37 = .ok (.invokestatic 44, 3) := by decide +kernel
theorem d_CharacterList_nextBehind_40 : decode b_CharacterList_nextBehind 40 = .ok (.ifCond .eq 11, 3) := by decide +kernel
theorem d_CharacterList_nextBehind_43 : decode b_CharacterList_nextBehind 43 = .ok (.aload_n 0, 1) := by decide +kernel
theorem d_CharacterList_nextBehind_44 : decode b_CharacterList_nextBehind 44 = .ok (.getfield 9, 3) := by decide +kernel
theorem d_CharacterList_nextBehind_47 : decode b_CharacterList_nextBehind 47 = .ok (.iload 5, 2) := by decide +kernel
end
section
theorem d_CharacterList_nextBehind_49 : decode b_CharacterList_nextBehind 49 = .ok (.iaload, 1) := by decide +kernel
theorem d_CharacterList_nextBehind_50 : decode b_CharacterList_nextBehind 50 = .ok (.ireturn, 1) := by decide +kernel
theorem d_CharacterList_nextBehind_51 : decode b_CharacterList_nextBehind 51 = .ok (.iload 4, 2) := by decide +kernel
theorem d_CharacterList_nextBehind_53 : decode b_CharacterList_nextBehind 53 = .ok (.ifCond .ne 14, 3) := by decide +kernel
theorem d_CharacterList_nextBehind_56 : decode b_CharacterList_nextBehind 56 = .ok (.aload_n 0, 1) := by decide +kernel
theorem d_CharacterList_nextBehind_57 : decode b_CharacterList_nextBehind 57 = .ok (.getfield 9, 3) := by decide +kernel
theorem d_CharacterList_nextBehind_60 : decode b_CharacterList_nextBehind 60 = .ok (.iload 5, 2) := by decide +kernel
theorem d_CharacterList_nextBehind_62 : decode b_CharacterList_nextBehind 62 = .ok (.iaload, 1) := by decide +kernel
theorem d_CharacterList_nextBehind_63 : decode b_CharacterList_nextBehind 63 = .ok (.iload_n 1, 1) := by decide +kernel
theorem d_CharacterList_nextBehind_64 : decode b_CharacterList_nextBehind 64 = .ok (.if_icmp .ne 7, 3) := by decide +kernel
theorem d_CharacterList_nextBehind_67 : decode b_CharacterList_nextBehind 67 = .ok (.iconst 1, 1) := by decide +kernel
theorem d_CharacterList_nextBehind_68 : decode b_CharacterList_nextBehind 68 = .ok (.goto 4, 3) := by decide +kernel
theorem d_CharacterList_nextBehind_71 : decode b_CharacterList_nextBehind 71 = .ok (.iconst 0, 1) := by decide +kernel
theorem d_CharacterList_nextBehind_72 : decode b_CharacterList_nextBehind 72 = .ok (.istore 4, 2) := by decide +kernel
theorem d_CharacterList_nextBehind_74 : decode b_CharacterList_nextBehind 74 = .ok (.iinc 5 1, 3) := by decide +kernel
theorem d_CharacterList_nextBehind_77 : decode b_CharacterList_nextBehind 77 = .ok (.goto (-62), 3) := by decide +kernel
theorem d_CharacterList_nextBehind_80 : decode b_CharacterList_nextBehind 80 = .ok (.iconst (-1), 1) := by decide +kernel
theorem d_CharacterList_nextBehind_81 : decode b_CharacterList_nextBehind 81 = .ok (.ireturn, 1) := by decide +kernel
theorem d_History_comesBefore_0 : decode b_History_comesBefore 0 = .ok (.aload_n 0, 1) := by decide +kernel
theorem d_History_comesBefore_1 : decode b_History_comesBefore 1 = .ok (.getfield 9, 3) := by decide +kernel
theorem d_History_comesBefore_4 : decode b_History_comesBefore 4 = .ok (.iload_n 1, 1) := by decide +kernel
theorem d_History_comesBefore_5 : decode b_History_comesBefore 5 = .ok (.iaload, 1) := by decide +kernel
theorem d_History_comesBefore_6 : decode b_History_comesBefore 6 = .ok (.aload_n 0, 1) := by decide +kernel
theorem d_History_comesBefore_7 : decode b_History_comesBefore 7 = .ok (.getfield 9, 3) := by decide +kernel
theorem d_History_comesBefore_10 : decode b_History_comesBefore 10 = .ok (.iload_n 2, 1) := by decide +kernel
theorem d_History_comesBefore_11 : decode b_History_comesBefore 11 = .ok (.iaload, 1) := by decide +kernel
theorem d_History_comesBefore_12 : decode b_History_comesBefore 12 = .ok (.if_icmp .eq 24, 3) := by decide +kernel
theorem d_History_comesBefore_15 : decode b_History_comesBefore 15 = .ok (.aload_n 0, 1) := by decide +kernel
theorem d_History_comesBefore_16 : decode b_History_comesBefore 16 = .ok (.getfield 9, 3) := by decide +kernel
theorem d_History_comesBefore_19 : decode b_History_comesBefore 19 = .ok (.iload_n 1, 1) := by decide +kernel
theorem d_History_comesBefore_20 : decode b_History_comesBefore 20 = .ok (.iaload, 1) := by decide +kernel
theorem d_History_comesBefore_21 : decode b_History_comesBefore 21 = .ok (.aload_n 0, 1) := by decide +kernel
theorem d_History_comesBefore_22 : decode b_History_comesBefore 22 = .ok (.getfield 9, 3) := by decide +kernel
theorem d_History_comesBefore_25 : decode b_History_comesBefore 25 = .ok (.iload_n 2, 1) := by decide +kernel
theorem d_History_comesBefore_26 : decode b_History_comesBefore 26 = .ok (.iaload, 1) := by decide +kernel
theorem d_History_comesBefore_27 : decode b_History_comesBefore 27 = .ok (.if_icmp .ge 7, 3) := by decide +kernel
theorem d_History_comesBefore_30 : decode b_History_comesBefore 30 = .ok (.iconst 1, 1) := by decide +kernel
theorem d_History_comesBefore_31 : decode b_History_comesBefore 31 = .ok (.goto 4, 3) := by decide +kernel
theorem d_History_comesBefore_34 : decode b_History_comesBefore 34 = .ok (.iconst 0, 1) := by decide +kernel
theorem d_History_comesBefore_35 : decode b_History_comesBefore 35 = .ok (.ireturn, 1) := by decide +kernel
theorem d_History_comesBefore_36 : decode b_History_comesBefore 36 = .ok (.aload_n 0, 1) := by decide +kernel
theorem d_History_comesBefore_37 : decode b_History_comesBefore 37 = .ok (.getfield 15, 3) := by decide +kernel
theorem d_History_comesBefore_40 : decode b_History_comesBefore 40 = .ok (.iload_n 1, 1) := by decide +kernel
theorem d_History_comesBefore_41 : decode b_History_comesBefore 41 = .ok (.iaload, 1) := by decide +kernel
theorem d_History_comesBefore_42 : decode b_History_comesBefore 42 = .ok (.aload_n 0, 1) := by decide +kernel
theorem d_History_comesBefore_43 : decode b_History_comesBefore 43 = .ok (.getfield 15, 3) := by decide +kernel
theorem d_History_comesBefore_46 : decode b_History_comesBefore 46 = .ok (.iload_n 2, 1) := by decide +kernel
theorem d_History_comesBefore_47 : decode b_History_comesBefore 47 = .ok (.iaload, 1) := by decide +kernel
theorem d_History_comesBefore_48 : decode b_History_comesBefore 48 = .ok (.if_icmp .ge 7, 3) := by decide +kernel
theorem d_History_comesBefore_51 : decode b_History_comesBefore 51 = .ok (.iconst 1, 1) := by decide +kernel
theorem d_History_comesBefore_52 : decode b_History_comesBefore 52 = .ok (.goto 4, 3) := by decide +kernel
theorem d_History_comesBefore_55 : decode b_History_comesBefore 55 = .ok (.iconst 0, 1) := by decide +kernel
theorem d_History_comesBefore_56 : decode b_History_comesBefore 56 = .ok (.ireturn, 1) := by decide +kernel
theorem d_CharacterList_nearerSiblings_0 : decode b_CharacterList_nearerSiblings 0 = .ok (.aload_n 0, 1) := by decide +kernel
theorem d_CharacterList_nearerSiblings_1 : decode b_CharacterList_nearerSiblings 1 = .ok (.iload_n 3, 1) := by decide +kernel
theorem d_CharacterList_nearerSiblings_2 : decode b_CharacterList_nearerSiblings 2 = .ok (.iload 4, 2) := by decide +kernel
theorem d_CharacterList_nearerSiblings_4 : decode b_CharacterList_nearerSiblings 4 = .ok (.invokevirtual 50, 3) := by decide +kernel
theorem d_CharacterList_nearerSiblings_7 : decode b_CharacterList_nearerSiblings 7 = .ok (.lstore 5, 2) := by decide +kernel
theorem d_CharacterList_nearerSiblings_9 : decode b_CharacterList_nearerSiblings 9 = .ok (.lconst 0, 1) := by decide +kernel
theorem d_CharacterList_nearerSiblings_10 : decode b_CharacterList_nearerSiblings 10 = .ok (.lstore 7, 2) := by decide +kernel
theorem d_CharacterList_nearerSiblings_12 : decode b_CharacterList_nearerSiblings 12 = .ok (.iconst 0, 1) := by decide +kernel
theorem d_CharacterList_nearerSiblings_13 : decode b_CharacterList_nearerSiblings 13 = .ok (.istore 9, 2) := by decide +kernel
theorem d_CharacterList_nearerSiblings_15 : decode b_CharacterList_nearerSiblings 15 = .ok (.iload 9, 2) := by decide +kernel
theorem d_CharacterList_nearerSiblings_17 : decode b_CharacterList_nearerSiblings 17 = .ok (.aload_n 0, 1) := by decide +kernel
theorem d_CharacterList_nearerSiblings_18 : decode b_CharacterList_nearerSiblings 18 = .ok (.getfield 36, 3) := by decide +kernel
theorem d_CharacterList_nearerSiblings_21 : decode b_CharacterList_nearerSiblings 21 = .ok (.if_icmp .ge 50, 3) := by decide +kernel
theorem d_CharacterList_nearerSiblings_24 : decode b_CharacterList_nearerSiblings 24 = .ok (.aload_n 0, 1) := by decide +kernel
theorem d_CharacterList_nearerSiblings_25 : decode b_CharacterList_nearerSiblings 25 = .ok (.getfield 9, 3) := by decide +kernel
theorem d_CharacterList_nearerSiblings_28 : decode b_CharacterList_nearerSiblings 28 = .ok (.iload 9, 2) := by decide +kernel
theorem d_CharacterList_nearerSiblings_30 : decode b_CharacterList_nearerSiblings 30 = .ok (.iaload, 1) := by decide +kernel
theorem d_CharacterList_nearerSiblings_31 : decode b_CharacterList_nearerSiblings 31 = .ok (.istore 10, 2) := by decide +kernel
theorem d_CharacterList_nearerSiblings_33 : decode b_CharacterList_nearerSiblings 33 = .ok (.lload 5, 2) := by decide +kernel
theorem d_CharacterList_nearerSiblings_35 : decode b_CharacterList_nearerSiblings 35 = .ok (.iload 10, 2) := by decide +kernel
theorem d_CharacterList_nearerSiblings_37 : decode b_CharacterList_nearerSiblings 37 = .ok (.invokestatic 44, 3) := by decide +kernel
theorem d_CharacterList_nearerSiblings_40 : decode b_CharacterList_nearerSiblings 40 = .ok (.ifCond .eq 25, 3) := by decide +kernel
theorem d_CharacterList_nearerSiblings_43 : decode b_CharacterList_nearerSiblings 43 = .ok (.aload_n 1, 1) := by decide +kernel
theorem d_CharacterList_nearerSiblings_44 : decode b_CharacterList_nearerSiblings 44 = .ok (.iload 10, 2) := by decide +kernel
theorem d_CharacterList_nearerSiblings_46 : decode b_CharacterList_nearerSiblings 46 = .ok (.iload_n 2, 1) := by decide +kernel
theorem d_CharacterList_nearerSiblings_47 : decode b_CharacterList_nearerSiblings 47 = .ok (.invokevirtual 69, 3) := by decide +kernel
theorem d_CharacterList_nearerSiblings_50 : decode b_CharacterList_nearerSiblings 50 = .ok (.iload 4, 2) := by decide +kernel
theorem d_CharacterList_nearerSiblings_52 : decode b_CharacterList_nearerSiblings 52 = .ok (.if_icmp .ne 13, 3) := by decide +kernel
theorem d_CharacterList_nearerSiblings_55 : decode b_CharacterList_nearerSiblings 55 = .ok (.lload 7, 2) := by decide +kernel
theorem d_CharacterList_nearerSiblings_57 : decode b_CharacterList_nearerSiblings 57 = .ok (.iload 10, 2) := by decide +kernel
theorem d_CharacterList_nearerSiblings_59 : decode b_CharacterList_nearerSiblings 59 = .ok (.invokestatic 40, 3) := by decide +kernel
theorem d_CharacterList_nearerSiblings_62 : decode b_CharacterList_nearerSiblings 62 = .ok (.lor, 1) := by decide +kernel
theorem d_CharacterList_nearerSiblings_63 : decode b_CharacterList_nearerSiblings 63 = .ok (.lstore 7, 2) := by decide +kernel
theorem d_CharacterList_nearerSiblings_65 : decode b_CharacterList_nearerSiblings 65 = .ok (.iinc 9 1, 3) := by decide +kernel
theorem d_CharacterList_nearerSiblings_68 : decode b_CharacterList_nearerSiblings 68 = .ok (.goto (-53), 3) := by decide +kernel
theorem d_CharacterList_nearerSiblings_71 : decode b_CharacterList_nearerSiblings 71 = .ok (.lload 7, 2) := by decide +kernel
theorem d_CharacterList_nearerSiblings_73 : decode b_CharacterList_nearerSiblings 73 = .ok (.lreturn, 1) := by decide +kernel
theorem d_CharacterList_rightPosition_0 : decode b_CharacterList_rightPosition 0 = .ok (.aload_n 0, 1) := by decide +kernel
theorem d_CharacterList_rightPosition_1 : decode b_CharacterList_rightPosition 1 = .ok (.aload_n 1, 1) := by decide +kernel
theorem d_CharacterList_rightPosition_2 : decode b_CharacterList_rightPosition 2 = .ok (.iload_n 2, 1) := by decide +kernel
theorem d_CharacterList_rightPosition_3 : decode b_CharacterList_rightPosition 3 = .ok (.iload_n 3, 1) := by decide +kernel
theorem d_CharacterList_rightPosition_4 : decode b_CharacterList_rightPosition 4 = .ok (.iconst 1, 1) := by decide +kernel
theorem d_CharacterList_rightPosition_5 : decode b_CharacterList_rightPosition 5 = .ok (.invokevirtual 65, 3) := by decide +kernel
theorem d_CharacterList_rightPosition_8 : decode b_CharacterList_rightPosition 8 = .ok (.lstore 4, 2) := by decide +kernel
theorem d_CharacterList_rightPosition_10 : decode b_CharacterList_rightPosition 10 = .ok (.aload_n 0, 1) := by decide +kernel
theorem d_CharacterList_rightPosition_11 : decode b_CharacterList_rightPosition 11 = .ok (.getfield 36, 3) := by decide +kernel
theorem d_CharacterList_rightPosition_14 : decode b_CharacterList_rightPosition 14 = .ok (.istore 6, 2) := by decide +kernel
theorem d_CharacterList_rightPosition_16 : decode b_CharacterList_rightPosition 16 = .ok (.iload 6, 2) := by decide +kernel
theorem d_CharacterList_rightPosition_18 : decode b_CharacterList_rightPosition 18 = .ok (.ifCond .le 44, 3) := by decide +kernel
theorem d_CharacterList_rightPosition_21 : decode b_CharacterList_rightPosition 21 = .ok (.aload_n 0, 1) := by decide +kernel
theorem d_CharacterList_rightPosition_22 : decode b_CharacterList_rightPosition 22 = .ok (.getfield 9, 3) := by decide +kernel
theorem d_CharacterList_rightPosition_25 : decode b_CharacterList_rightPosition 25 = .ok (.iload 6, 2) := by decide +kernel
theorem d_CharacterList_rightPosition_27 : decode b_CharacterList_rightPosition 27 = .ok (.iconst 1, 1) := by decide +kernel
theorem d_CharacterList_rightPosition_28 : decode b_CharacterList_rightPosition 28 = .ok (.isub, 1) := by decide +kernel
theorem d_CharacterList_rightPosition_29 : decode b_CharacterList_rightPosition 29 = .ok (.iaload, 1) := by decide +kernel
theorem d_CharacterList_rightPosition_30 : decode b_CharacterList_rightPosition 30 = .ok (.iload_n 3, 1) := by decide +kernel
theorem d_CharacterList_rightPosition_31 : decode b_CharacterList_rightPosition 31 = .ok (.if_icmp .eq 31, 3) := by decide +kernel
theorem d_CharacterList_rightPosition_34 : decode b_CharacterList_rightPosition 34 = .ok (.aload_n 0, 1) := by decide +kernel
theorem d_CharacterList_rightPosition_35 : decode b_CharacterList_rightPosition 35 = .ok (.getfield 22, 3) := by decide +kernel
theorem d_CharacterList_rightPosition_38 : decode b_CharacterList_rightPosition 38 = .ok (.aload_n 0, 1) := by decide +kernel
theorem d_CharacterList_rightPosition_39 : decode b_CharacterList_rightPosition 39 = .ok (.getfield 9, 3) := by decide +kernel
theorem d_CharacterList_rightPosition_42 : decode b_CharacterList_rightPosition 42 = .ok (.iload 6, 2) := by decide +kernel
theorem d_CharacterList_rightPosition_44 : decode b_CharacterList_rightPosition 44 = .ok (.iconst 1, 1) := by decide +kernel
theorem d_CharacterList_rightPosition_45 : decode b_CharacterList_rightPosition 45 = .ok (.isub, 1) := by decide +kernel
theorem d_CharacterList_rightPosition_46 : decode b_CharacterList_rightPosition 46 = .ok (.iaload, 1) := by decide +kernel
theorem d_CharacterList_rightPosition_47 : decode b_CharacterList_rightPosition 47 = .ok (.laload, 1) := by decide +kernel
theorem d_CharacterList_rightPosition_48 : decode b_CharacterList_rightPosition 48 = .ok (.lload 4, 2) := by decide +kernel
theorem d_CharacterList_rightPosition_50 : decode b_CharacterList_rightPosition 50 = .ok (.land, 1) := by decide +kernel
theorem d_CharacterList_rightPosition_51 : decode b_CharacterList_rightPosition 51 = .ok (.lconst 0, 1) := by decide +kernel
theorem d_CharacterList_rightPosition_52 : decode b_CharacterList_rightPosition 52 = .ok (.lcmp, 1) := by decide +kernel
theorem d_CharacterList_rightPosition_53 : decode b_CharacterList_rightPosition 53 = .ok (.ifCond .ne 9, 3) := by decide +kernel
theorem d_CharacterList_rightPosition_56 : decode b_CharacterList_rightPosition 56 = .ok (.iinc 6 (-1), 3) := by decide +kernel
theorem d_CharacterList_rightPosition_59 : decode b_CharacterList_rightPosition 59 = .ok (.goto (-43), 3) := by decide +kernel
theorem d_CharacterList_rightPosition_62 : decode b_CharacterList_rightPosition 62 = .ok (.iload 6, 2) := by decide +kernel
theorem d_CharacterList_rightPosition_64 : decode b_CharacterList_rightPosition 64 = .ok (.ireturn, 1) := by decide +kernel
theorem d_CharacterList_leftPosition_0 : decode b_CharacterList_leftPosition 0 = .ok (.aload_n 0, 1) := by decide +kernel
theorem d_CharacterList_leftPosition_1 : decode b_CharacterList_leftPosition 1 = .ok (.aload_n 1, 1) := by decide +kernel
theorem d_CharacterList_leftPosition_2 : decode b_CharacterList_leftPosition 2 = .ok (.iload_n 2, 1) := by decide +kernel
theorem d_CharacterList_leftPosition_3 : decode b_CharacterList_leftPosition 3 = .ok (.iload_n 3, 1) := by decide +kernel
theorem d_CharacterList_leftPosition_4 : decode b_CharacterList_leftPosition 4 = .ok (.iconst 0, 1) := by decide +kernel
theorem d_CharacterList_leftPosition_5 : decode b_CharacterList_leftPosition 5 = .ok (.invokevirtual 65, 3) := by decide +kernel
theorem d_CharacterList_leftPosition_8 : decode b_CharacterList_leftPosition 8 = .ok (.lstore 4, 2) := by decide +kernel
theorem d_CharacterList_leftPosition_10 : decode b_CharacterList_leftPosition 10 = .ok (.iconst 0, 1) := by decide +kernel
theorem d_CharacterList_leftPosition_11 : decode b_CharacterList_leftPosition 11 = .ok (.istore 6, 2) := by decide +kernel
theorem d_CharacterList_leftPosition_13 : decode b_CharacterList_leftPosition 13 = .ok (.iload 6, 2) := by decide +kernel
theorem d_CharacterList_leftPosition_15 : decode b_CharacterList_leftPosition 15 = .ok (.aload_n 0, 1) := by decide +kernel
theorem d_CharacterList_leftPosition_16 : decode b_CharacterList_leftPosition 16 = .ok (.getfield 36, 3) := by decide +kernel
theorem d_CharacterList_leftPosition_19 : decode b_CharacterList_leftPosition 19 = .ok (.if_icmp .ge 40, 3) := by decide +kernel
theorem d_CharacterList_leftPosition_22 : decode b_CharacterList_leftPosition 22 = .ok (.aload_n 0, 1) := by decide +kernel
theorem d_CharacterList_leftPosition_23 : decode b_CharacterList_leftPosition 23 = .ok (.getfield 9, 3) := by decide +kernel
theorem d_CharacterList_leftPosition_26 : decode b_CharacterList_leftPosition 26 = .ok (.iload 6, 2) := by decide +kernel
theorem d_CharacterList_leftPosition_28 : decode b_CharacterList_leftPosition 28 = .ok (.iaload, 1) := by decide +kernel
theorem d_CharacterList_leftPosition_29 : decode b_CharacterList_leftPosition 29 = .ok (.iload_n 3, 1) := by decide +kernel
theorem d_CharacterList_leftPosition_30 : decode b_CharacterList_leftPosition 30 = .ok (.if_icmp .eq 29, 3) := by decide +kernel
theorem d_CharacterList_leftPosition_33 : decode b_CharacterList_leftPosition 33 = .ok (.aload_n 0, 1) := by decide +kernel
theorem d_CharacterList_leftPosition_34 : decode b_CharacterList_leftPosition 34 = .ok (.getfield 22, 3) := by decide +kernel
theorem d_CharacterList_leftPosition_37 : decode b_CharacterList_leftPosition 37 = .ok (.aload_n 0, 1) := by decide +kernel
theorem d_CharacterList_leftPosition_38 : decode b_CharacterList_leftPosition 38 = .ok (.getfield 9, 3) := by decide +kernel
theorem d_CharacterList_leftPosition_41 : decode b_CharacterList_leftPosition 41 = .ok (.iload 6, 2) := by decide +kernel
theorem d_CharacterList_leftPosition_43 : decode b_CharacterList_leftPosition 43 = .ok (.iaload, 1) := by decide +kernel
theorem d_CharacterList_leftPosition_44 : decode b_CharacterList_leftPosition 44 = .ok (.laload, 1) := by decide +kernel
theorem d_CharacterList_leftPosition_45 : decode b_CharacterList_leftPosition 45 = .ok (.lload 4, 2) := by decide +kernel
theorem d_CharacterList_leftPosition_47 : decode b_CharacterList_leftPosition 47 = .ok (.land, 1) := by decide +kernel
theorem d_CharacterList_leftPosition_48 : decode b_CharacterList_leftPosition 48 = .ok (.lconst 0, 1) := by decide +kernel
theorem d_CharacterList_leftPosition_49 : decode b_CharacterList_leftPosition 49 = .ok (.lcmp, 1) := by decide +kernel
theorem d_CharacterList_leftPosition_50 : decode b_CharacterList_leftPosition 50 = .ok (.ifCond .ne 9, 3) := by decide +kernel
theorem d_CharacterList_leftPosition_53 : decode b_CharacterList_leftPosition 53 = .ok (.iinc 6 1, 3) := by decide +kernel
theorem d_CharacterList_leftPosition_56 : decode b_CharacterList_leftPosition 56 = .ok (.goto (-43), 3) := by decide +kernel
theorem d_CharacterList_leftPosition_59 : decode b_CharacterList_leftPosition 59 = .ok (.iload 6, 2) := by decide +kernel
theorem d_CharacterList_leftPosition_61 : decode b_CharacterList_leftPosition 61 = .ok (.ireturn, 1) := by decide +kernel
theorem d_CharacterList_putBehind_0 : decode b_CharacterList_putBehind 0 = .ok (.aload_n 0, 1) := by decide +kernel
theorem d_CharacterList_putBehind_1 : decode b_CharacterList_putBehind 1 = .ok (.iload_n 3, 1) := by decide +kernel
theorem d_CharacterList_putBehind_2 : decode b_CharacterList_putBehind 2 = .ok (.iconst 1, 1) := by decide +kernel
theorem d_CharacterList_putBehind_3 : decode b_CharacterList_putBehind 3 = .ok (.invokevirtual 50, 3) := by decide +kernel
theorem d_CharacterList_putBehind_6 : decode b_CharacterList_putBehind 6 = .ok (.lload 4, 2) := by decide +kernel
theorem d_CharacterList_putBehind_8 : decode b_CharacterList_putBehind 8 = .ok (.land, 1) := by decide +kernel
theorem d_CharacterList_putBehind_9 : decode b_CharacterList_putBehind 9 = .ok (.lconst 0, 1) := by decide +kernel
theorem d_CharacterList_putBehind_10 : decode b_CharacterList_putBehind 10 = .ok (.lcmp, 1) := by decide +kernel
theorem d_CharacterList_putBehind_11 : decode b_CharacterList_putBehind 11 = .ok (.ifCond .ne 7, 3) := by decide +kernel
theorem d_CharacterList_putBehind_14 : decode b_CharacterList_putBehind 14 = .ok (.iconst 1, 1) := by decide +kernel
theorem d_CharacterList_putBehind_15 : decode b_CharacterList_putBehind 15 = .ok (.goto 4, 3) := by decide +kernel
theorem d_CharacterList_putBehind_18 : decode b_CharacterList_putBehind 18 = .ok (.iconst 0, 1) := by decide +kernel
theorem d_CharacterList_putBehind_19 : decode b_CharacterList_putBehind 19 = .ok (.istore 6, 2) := by decide +kernel
theorem d_CharacterList_putBehind_21 : decode b_CharacterList_putBehind 21 = .ok (.iload 6, 2) := by decide +kernel
theorem d_CharacterList_putBehind_23 : decode b_CharacterList_putBehind 23 = .ok (.ifCond .eq 7, 3) := by decide +kernel
theorem d_CharacterList_putBehind_26 : decode b_CharacterList_putBehind 26 = .ok (.iload_n 3, 1) := by decide +kernel
theorem d_CharacterList_putBehind_27 : decode b_CharacterList_putBehind 27 = .ok (.goto 10, 3) := by decide +kernel
theorem d_CharacterList_putBehind_30 : decode b_CharacterList_putBehind 30 = .ok (.aload_n 0, 1) := by decide +kernel
theorem d_CharacterList_putBehind_31 : decode b_CharacterList_putBehind 31 = .ok (.iload_n 3, 1) := by decide +kernel
theorem d_CharacterList_putBehind_32 : decode b_CharacterList_putBehind 32 = .ok (.lload 4, 2) := by decide +kernel
theorem d_CharacterList_putBehind_34 : decode b_CharacterList_putBehind 34 = .ok (.invokevirtual 54, 3) := by decide +kernel
theorem d_CharacterList_putBehind_37 : decode b_CharacterList_putBehind 37 = .ok (.istore 7, 2) := by decide +kernel
theorem d_CharacterList_putBehind_39 : decode b_CharacterList_putBehind 39 = .ok (.aload_n 0, 1) := by decide +kernel
theorem d_CharacterList_putBehind_40 : decode b_CharacterList_putBehind 40 = .ok (.getfield 15, 3) := by decide +kernel
theorem d_CharacterList_putBehind_43 : decode b_CharacterList_putBehind 43 = .ok (.iload_n 2, 1) := by decide +kernel
theorem d_CharacterList_putBehind_44 : decode b_CharacterList_putBehind 44 = .ok (.iload 7, 2) := by decide +kernel
theorem d_CharacterList_putBehind_46 : decode b_CharacterList_putBehind 46 = .ok (.iastore, 1) := by decide +kernel
theorem d_CharacterList_putBehind_47 : decode b_CharacterList_putBehind 47 = .ok (.aload_n 0, 1) := by decide +kernel
theorem d_CharacterList_putBehind_48 : decode b_CharacterList_putBehind 48 = .ok (.getfield 18, 3) := by decide +kernel
theorem d_CharacterList_putBehind_51 : decode b_CharacterList_putBehind 51 = .ok (.iload_n 2, 1) := by decide +kernel
theorem d_CharacterList_putBehind_52 : decode b_CharacterList_putBehind 52 = .ok (.iload 6, 2) := by decide +kernel
theorem d_CharacterList_putBehind_54 : decode b_CharacterList_putBehind 54 = .ok (.bastore, 1) := by decide +kernel
theorem d_CharacterList_putBehind_55 : decode b_CharacterList_putBehind 55 = .ok (.aload_n 0, 1) := by decide +kernel
theorem d_CharacterList_putBehind_56 : decode b_CharacterList_putBehind 56 = .ok (.getfield 22, 3) := by decide +kernel
theorem d_CharacterList_putBehind_59 : decode b_CharacterList_putBehind 59 = .ok (.iload_n 2, 1) := by decide +kernel
theorem d_CharacterList_putBehind_60 : decode b_CharacterList_putBehind 60 = .ok (.iload_n 2, 1) := by decide +kernel
theorem d_CharacterList_putBehind_61 : decode b_CharacterList_putBehind 61 = .ok (.invokestatic 40, 3) := by decide +kernel
theorem d_CharacterList_putBehind_64 : decode b_CharacterList_putBehind 64 = .ok (.iload 7, 2) := by decide +kernel
theorem d_CharacterList_putBehind_66 : decode b_CharacterList_putBehind 66 = .ok (.iconst (-1), 1) := by decide +kernel
theorem d_CharacterList_putBehind_67 : decode b_CharacterList_putBehind 67 = .ok (.if_icmp .ne 7, 3) := by decide +kernel
theorem d_CharacterList_putBehind_70 : decode b_CharacterList_putBehind 70 = .ok (.lconst 0, 1) := by decide +kernel
theorem d_CharacterList_putBehind_71 : decode b_CharacterList_putBehind 71 = .ok (.goto 10, 3) := by decide +kernel
theorem d_CharacterList_putBehind_74 : decode b_CharacterList_putBehind 74 = .ok (.aload_n 0, 1) := by decide +kernel
theorem d_CharacterList_putBehind_75 : decode b_CharacterList_putBehind 75 = .ok (.getfield 22, 3) := by decide +kernel
theorem d_CharacterList_putBehind_78 : decode b_CharacterList_putBehind 78 = .ok (.iload 7, 2) := by decide +kernel
theorem d_CharacterList_putBehind_80 : decode b_CharacterList_putBehind 80 = .ok (.laload, 1) := by decide +kernel
theorem d_CharacterList_putBehind_81 : decode b_CharacterList_putBehind 81 = .ok (.lor, 1) := by decide +kernel
theorem d_CharacterList_putBehind_82 : decode b_CharacterList_putBehind 82 = .ok (.lastore, 1) := by decide +kernel
theorem d_CharacterList_putBehind_83 : decode b_CharacterList_putBehind 83 = .ok (.iload 6, 2) := by decide +kernel
theorem d_CharacterList_putBehind_85 : decode b_CharacterList_putBehind 85 = .ok (.ifCond .eq 14, 3) := by decide +kernel
theorem d_CharacterList_putBehind_88 : decode b_CharacterList_putBehind 88 = .ok (.aload_n 0, 1) := by decide +kernel
theorem d_CharacterList_putBehind_89 : decode b_CharacterList_putBehind 89 = .ok (.aload_n 1, 1) := by decide +kernel
theorem d_CharacterList_putBehind_90 : decode b_CharacterList_putBehind 90 = .ok (.iload_n 2, 1) := by decide +kernel
theorem d_CharacterList_putBehind_91 : decode b_CharacterList_putBehind 91 = .ok (.iload 7, 2) := by decide +kernel
theorem d_CharacterList_putBehind_93 : decode b_CharacterList_putBehind 93 = .ok (.invokevirtual 58, 3) := by decide +kernel
theorem d_CharacterList_putBehind_96 : decode b_CharacterList_putBehind 96 = .ok (.goto 11, 3) := by decide +kernel
theorem d_CharacterList_putBehind_99 : decode b_CharacterList_putBehind 99 = .ok (.aload_n 0, 1) := by decide +kernel
theorem d_CharacterList_putBehind_100 : decode b_CharacterList_putBehind 100 = .ok (.aload_n 1, 1) := by decide +kernel
theorem d_CharacterList_putBehind_101 : decode b_CharacterList_putBehind 101 = .ok (.iload_n 2, 1) := by decide +kernel
theorem d_CharacterList_putBehind_102 : decode b_CharacterList_putBehind 102 = .ok (.iload 7, 2) := by decide +kernel
theorem d_CharacterList_putBehind_104 : decode b_CharacterList_putBehind 104 = .ok (.invokevirtual 62, 3) := by decide +kernel
theorem d_CharacterList_putBehind_107 : decode b_CharacterList_putBehind 107 = .ok (.istore 8, 2) := by decide +kernel
theorem d_CharacterList_putBehind_109 : decode b_CharacterList_putBehind 109 = .ok (.aload_n 0, 1) := by decide +kernel
theorem d_CharacterList_putBehind_110 : decode b_CharacterList_putBehind 110 = .ok (.getfield 36, 3) := by decide +kernel
theorem d_CharacterList_putBehind_113 : decode b_CharacterList_putBehind 113 = .ok (.istore 9, 2) := by decide +kernel
theorem d_CharacterList_putBehind_115 : decode b_CharacterList_putBehind 115 = .ok (.iload 9, 2) := by decide +kernel
theorem d_CharacterList_putBehind_117 : decode b_CharacterList_putBehind 117 = .ok (.iload 8, 2) := by decide +kernel
theorem d_CharacterList_putBehind_119 : decode b_CharacterList_putBehind 119 = .ok (.if_icmp .le 25, 3) := by decide +kernel
theorem d_CharacterList_putBehind_122 : decode b_CharacterList_putBehind 122 = .ok (.aload_n 0, 1) := by decide +kernel
theorem d_CharacterList_putBehind_123 : decode b_CharacterList_putBehind 123 = .ok (.getfield 9, 3) := by decide +kernel
theorem d_CharacterList_putBehind_126 : decode b_CharacterList_putBehind 126 = .ok (.iload 9, 2) := by decide +kernel
theorem d_CharacterList_putBehind_128 : decode b_CharacterList_putBehind 128 = .ok (.aload_n 0, 1) := by decide +kernel
theorem d_CharacterList_putBehind_129 : decode b_CharacterList_putBehind 129 = .ok (.getfield 9, 3) := by decide +kernel
theorem d_CharacterList_putBehind_132 : decode b_CharacterList_putBehind 132 = .ok (.iload 9, 2) := by decide +kernel
theorem d_CharacterList_putBehind_134 : decode b_CharacterList_putBehind 134 = .ok (.iconst 1, 1) := by decide +kernel
theorem d_CharacterList_putBehind_135 : decode b_CharacterList_putBehind 135 = .ok (.isub, 1) := by decide +kernel
theorem d_CharacterList_putBehind_136 : decode b_CharacterList_putBehind 136 = .ok (.iaload, 1) := by decide +kernel
theorem d_CharacterList_putBehind_137 : decode b_CharacterList_putBehind 137 = .ok (.iastore, 1) := by decide +kernel
theorem d_CharacterList_putBehind_138 : decode b_CharacterList_putBehind 138 = .ok (.iinc 9 (-1), 3) := by decide +kernel
theorem d_CharacterList_putBehind_141 : decode b_CharacterList_putBehind 141 = .ok (.goto (-26), 3) := by decide +kernel
theorem d_CharacterList_putBehind_144 : decode b_CharacterList_putBehind 144 = .ok (.aload_n 0, 1) := by decide +kernel
theorem d_CharacterList_putBehind_145 : decode b_CharacterList_putBehind 145 = .ok (.getfield 9, 3) := by decide +kernel
theorem d_CharacterList_putBehind_148 : decode b_CharacterList_putBehind 148 = .ok (.iload 8, 2) := by decide +kernel
theorem d_CharacterList_putBehind_150 : decode b_CharacterList_putBehind 150 = .ok (.iload_n 2, 1) := by decide +kernel
theorem d_CharacterList_putBehind_151 : decode b_CharacterList_putBehind 151 = .ok (.iastore, 1) := by decide +kernel
theorem d_CharacterList_putBehind_152 : decode b_CharacterList_putBehind 152 = .ok (.aload_n 0, 1) := by decide +kernel
theorem d_CharacterList_putBehind_153 : decode b_CharacterList_putBehind 153 = .ok (.dup, 1) := by decide +kernel
theorem d_CharacterList_putBehind_154 : decode b_CharacterList_putBehind 154 = .ok (.getfield 33, 3) := by decide +kernel
theorem d_CharacterList_putBehind_157 : decode b_CharacterList_putBehind 157 = .ok (.iload_n 2, 1) := by decide +kernel
theorem d_CharacterList_putBehind_158 : decode b_CharacterList_putBehind 158 = .ok (.invokestatic 40, 3) := by decide +kernel
theorem d_CharacterList_putBehind_161 : decode b_CharacterList_putBehind 161 = .ok (.lor, 1) := by decide +kernel
theorem d_CharacterList_putBehind_162 : decode b_CharacterList_putBehind 162 = .ok (.putfield 33, 3) := by decide +kernel
theorem d_CharacterList_putBehind_165 : decode b_CharacterList_putBehind 165 = .ok (.aload_n 0, 1) := by decide +kernel
theorem d_CharacterList_putBehind_166 : decode b_CharacterList_putBehind 166 = .ok (.dup, 1) := by decide +kernel
theorem d_CharacterList_putBehind_167 : decode b_CharacterList_putBehind 167 = .ok (.getfield 36, 3) := by decide +kernel
theorem d_CharacterList_putBehind_170 : decode b_CharacterList_putBehind 170 = .ok (.iconst 1, 1) := by decide +kernel
theorem d_CharacterList_putBehind_171 : decode b_CharacterList_putBehind 171 = .ok (.iadd, 1) := by decide +kernel
theorem d_CharacterList_putBehind_172 : decode b_CharacterList_putBehind 172 = .ok (.putfield 36, 3) := by decide +kernel
theorem d_CharacterList_putBehind_175 : decode b_CharacterList_putBehind 175 = .ok (.return_, 1) := by decide +kernel
theorem d_History_numberOf_0 : decode b_History_numberOf 0 = .ok (.aload_n 0, 1) := by decide +kernel
theorem d_History_numberOf_1 : decode b_History_numberOf 1 = .ok (.getfield 15, 3) := by decide +kernel
theorem d_History_numberOf_4 : decode b_History_numberOf 4 = .ok (.iload_n 1, 1) := by decide +kernel
theorem d_History_numberOf_5 : decode b_History_numberOf 5 = .ok (.iaload, 1) := by decide +kernel
theorem d_History_numberOf_6 : decode b_History_numberOf 6 = .ok (.ireturn, 1) := by decide +kernel
theorem d_Text_insert_0 : decode b_Text_insert 0 = .ok (.iload_n 1, 1) := by decide +kernel
theorem d_Text_insert_1 : decode b_Text_insert 1 = .ok (.invokestatic 44, 3) := by decide +kernel
theorem d_Text_insert_4 : decode b_Text_insert 4 = .ok (.ifCond .eq 25, 3) := by decide +kernel
theorem d_Text_insert_7 : decode b_Text_insert 7 = .ok (.iload_n 3, 1) := by decide +kernel
theorem d_Text_insert_8 : decode b_Text_insert 8 = .ok (.bipush 32, 2) := by decide +kernel
theorem d_Text_insert_10 : decode b_Text_insert 10 = .ok (.if_icmp .lt 19, 3) := by decide +kernel
theorem d_Text_insert_13 : decode b_Text_insert 13 = .ok (.iload_n 3, 1) := by decide +kernel
theorem d_Text_insert_14 : decode b_Text_insert 14 = .ok (.bipush 126, 2) := by decide +kernel
theorem d_Text_insert_16 : decode b_Text_insert 16 = .ok (.if_icmp .gt 13, 3) := by decide +kernel
theorem d_Text_insert_19 : decode b_Text_insert 19 = .ok (.aload_n 0, 1) := by decide +kernel
theorem d_Text_insert_20 : decode b_Text_insert 20 = .ok (.getfield 10, 3) := by decide +kernel
theorem d_Text_insert_23 : decode b_Text_insert 23 = .ok (.invokevirtual 48, 3) := by decide +kernel
theorem d_Text_insert_26 : decode b_Text_insert 26 = .ok (.ifCond .eq 7, 3) := by decide +kernel
theorem d_Text_insert_29 : decode b_Text_insert 29 = .ok (.sipush (-1000), 3) := by decide +kernel
theorem d_Text_insert_32 : decode b_Text_insert 32 = .ok (.ireturn, 1) := by decide +kernel
theorem d_Text_insert_33 : decode b_Text_insert 33 = .ok (.aload_n 0, 1) := by decide +kernel
theorem d_Text_insert_34 : decode b_Text_insert 34 = .ok (.getfield 32, 3) := by decide +kernel
theorem d_Text_insert_37 : decode b_Text_insert 37 = .ok (.iload_n 1, 1) := by decide +kernel
theorem d_Text_insert_38 : decode b_Text_insert 38 = .ok (.aaload, 1) := by decide +kernel
theorem d_Text_insert_39 : decode b_Text_insert 39 = .ok (.getfield 52, 3) := by decide +kernel
theorem d_Text_insert_42 : decode b_Text_insert 42 = .ok (.lstore 4, 2) := by decide +kernel
theorem d_Text_insert_44 : decode b_Text_insert 44 = .ok (.aload_n 0, 1) := by decide +kernel
theorem d_Text_insert_45 : decode b_Text_insert 45 = .ok (.getfield 19, 3) := by decide +kernel
theorem d_Text_insert_48 : decode b_Text_insert 48 = .ok (.lload 4, 2) := by decide +kernel
theorem d_Text_insert_50 : decode b_Text_insert 50 = .ok (.invokevirtual 56, 3) := by decide +kernel
theorem d_Text_insert_53 : decode b_Text_insert 53 = .ok (.lstore 6, 2) := by decide +kernel
theorem d_Text_insert_55 : decode b_Text_insert 55 = .ok (.iload_n 2, 1) := by decide +kernel
theorem d_Text_insert_56 : decode b_Text_insert 56 = .ok (.ifCond .lt 12, 3) := by decide +kernel
theorem d_Text_insert_59 : decode b_Text_insert 59 = .ok (.iload_n 2, 1) := by decide +kernel
theorem d_Text_insert_60 : decode b_Text_insert 60 = .ok (.lload 6, 2) := by decide +kernel
theorem d_Text_insert_62 : decode b_Text_insert 62 = .ok (.invokestatic 60, 3) := by decide +kernel
theorem d_Text_insert_65 : decode b_Text_insert 65 = .ok (.if_icmp .le 7, 3) := by decide +kernel
theorem d_Text_insert_68 : decode b_Text_insert 68 = .ok (.sipush (-1000), 3) := by decide +kernel
end
section
theorem d_Text_insert_71 : decode b_Text_insert 71 = .ok (.ireturn, 1) := by decide +kernel
theorem d_Text_insert_72 : decode b_Text_insert 72 = .ok (.iload_n 2, 1) := by decide +kernel
theorem d_Text_insert_73 : decode b_Text_insert 73 = .ok (.ifCond .ne 7, 3) := by decide +kernel
theorem d_Text_insert_76 : decode b_Text_insert 76 = .ok (.iconst (-1), 1) := by decide +kernel
theorem d_Text_insert_77 : decode b_Text_insert 77 = .ok (.goto 15, 3) := by decide +kernel
theorem d_Text_insert_80 : decode b_Text_insert 80 = .ok (.aload_n 0, 1) := by decide +kernel
theorem d_Text_insert_81 : decode b_Text_insert 81 = .ok (.getfield 19, 3) := by decide +kernel
theorem d_Text_insert_84 : decode b_Text_insert 84 = .ok (.lload 6, 2) := by decide +kernel
theorem d_Text_insert_86 : decode b_Text_insert 86 = .ok (.iload_n 2, 1) := by decide +kernel
theorem d_Text_insert_87 : decode b_Text_insert 87 = .ok (.iconst 1, 1) := by decide +kernel
theorem d_Text_insert_88 : decode b_Text_insert 88 = .ok (.isub, 1) := by decide +kernel
theorem d_Text_insert_89 : decode b_Text_insert 89 = .ok (.invokevirtual 66, 3) := by decide +kernel
theorem d_Text_insert_92 : decode b_Text_insert 92 = .ok (.istore 8, 2) := by decide +kernel
theorem d_Text_insert_94 : decode b_Text_insert 94 = .ok (.aload_n 0, 1) := by decide +kernel
theorem d_Text_insert_95 : decode b_Text_insert 95 = .ok (.getfield 10, 3) := by decide +kernel
theorem d_Text_insert_98 : decode b_Text_insert 98 = .ok (.iload_n 1, 1) := by decide +kernel
theorem d_Text_insert_99 : decode b_Text_insert 99 = .ok (.iload_n 2, 1) := by decide +kernel
theorem d_Text_insert_100 : decode b_Text_insert 100 = .ok (.iload_n 3, 1) := by decide +kernel
theorem d_Text_insert_101 : decode b_Text_insert 101 = .ok (.lload 4, 2) := by decide +kernel
theorem d_Text_insert_103 : decode b_Text_insert 103 = .ok (.invokevirtual 70, 3) := by decide +kernel
theorem d_Text_insert_106 : decode b_Text_insert 106 = .ok (.istore 9, 2) := by decide +kernel
theorem d_Text_insert_108 : decode b_Text_insert 108 = .ok (.aload_n 0, 1) := by decide +kernel
theorem d_Text_insert_109 : decode b_Text_insert 109 = .ok (.getfield 19, 3) := by decide +kernel
theorem d_Text_insert_112 : decode b_Text_insert 112 = .ok (.aload_n 0, 1) := by decide +kernel
theorem d_Text_insert_113 : decode b_Text_insert 113 = .ok (.getfield 10, 3) := by decide +kernel
theorem d_Text_insert_116 : decode b_Text_insert 116 = .ok (.iload 9, 2) := by decide +kernel
theorem d_Text_insert_118 : decode b_Text_insert 118 = .ok (.iload 8, 2) := by decide +kernel
theorem d_Text_insert_120 : decode b_Text_insert 120 = .ok (.lload 4, 2) := by decide +kernel
theorem d_Text_insert_122 : decode b_Text_insert 122 = .ok (.invokevirtual 74, 3) := by decide +kernel
theorem d_Text_insert_125 : decode b_Text_insert 125 = .ok (.aload_n 0, 1) := by decide +kernel
theorem d_Text_insert_126 : decode b_Text_insert 126 = .ok (.getfield 32, 3) := by decide +kernel
theorem d_Text_insert_129 : decode b_Text_insert 129 = .ok (.iload_n 1, 1) := by decide +kernel
theorem d_Text_insert_130 : decode b_Text_insert 130 = .ok (.aaload, 1) := by decide +kernel
theorem d_Text_insert_131 : decode b_Text_insert 131 = .ok (.lload 4, 2) := by decide +kernel
theorem d_Text_insert_133 : decode b_Text_insert 133 = .ok (.iload 9, 2) := by decide +kernel
theorem d_Text_insert_135 : decode b_Text_insert 135 = .ok (.invokestatic 78, 3) := by decide +kernel
theorem d_Text_insert_138 : decode b_Text_insert 138 = .ok (.lor, 1) := by decide +kernel
theorem d_Text_insert_139 : decode b_Text_insert 139 = .ok (.putfield 52, 3) := by decide +kernel
theorem d_Text_insert_142 : decode b_Text_insert 142 = .ok (.aload_n 0, 1) := by decide +kernel
theorem d_Text_insert_143 : decode b_Text_insert 143 = .ok (.getfield 10, 3) := by decide +kernel
theorem d_Text_insert_146 : decode b_Text_insert 146 = .ok (.iload 9, 2) := by decide +kernel
theorem d_Text_insert_148 : decode b_Text_insert 148 = .ok (.invokevirtual 82, 3) := by decide +kernel
theorem d_Text_insert_151 : decode b_Text_insert 151 = .ok (.ireturn, 1) := by decide +kernel
theorem d_CharacterList_hide_0 : decode b_CharacterList_hide 0 = .ok (.aload_n 0, 1) := by decide +kernel
theorem d_CharacterList_hide_1 : decode b_CharacterList_hide 1 = .ok (.getfield 26, 3) := by decide +kernel
theorem d_CharacterList_hide_4 : decode b_CharacterList_hide 4 = .ok (.iload_n 1, 1) := by decide +kernel
theorem d_CharacterList_hide_5 : decode b_CharacterList_hide 5 = .ok (.iload_n 2, 1) := by decide +kernel
theorem d_CharacterList_hide_6 : decode b_CharacterList_hide 6 = .ok (.iastore, 1) := by decide +kernel
theorem d_CharacterList_hide_7 : decode b_CharacterList_hide 7 = .ok (.aload_n 0, 1) := by decide +kernel
theorem d_CharacterList_hide_8 : decode b_CharacterList_hide 8 = .ok (.dup, 1) := by decide +kernel
theorem d_CharacterList_hide_9 : decode b_CharacterList_hide 9 = .ok (.getfield 29, 3) := by decide +kernel
theorem d_CharacterList_hide_12 : decode b_CharacterList_hide 12 = .ok (.iload_n 1, 1) := by decide +kernel
theorem d_CharacterList_hide_13 : decode b_CharacterList_hide 13 = .ok (.invokestatic 40, 3) := by decide +kernel
theorem d_CharacterList_hide_16 : decode b_CharacterList_hide 16 = .ok (.lor, 1) := by decide +kernel
theorem d_CharacterList_hide_17 : decode b_CharacterList_hide 17 = .ok (.putfield 29, 3) := by decide +kernel
theorem d_CharacterList_hide_20 : decode b_CharacterList_hide 20 = .ok (.return_, 1) := by decide +kernel
theorem d_Text_delete_0 : decode b_Text_delete 0 = .ok (.iload_n 1, 1) := by decide +kernel
theorem d_Text_delete_1 : decode b_Text_delete 1 = .ok (.invokestatic 44, 3) := by decide +kernel
theorem d_Text_delete_4 : decode b_Text_delete 4 = .ok (.ifCond .eq 13, 3) := by decide +kernel
theorem d_Text_delete_7 : decode b_Text_delete 7 = .ok (.aload_n 0, 1) := by decide +kernel
theorem d_Text_delete_8 : decode b_Text_delete 8 = .ok (.getfield 10, 3) := by decide +kernel
theorem d_Text_delete_11 : decode b_Text_delete 11 = .ok (.invokevirtual 48, 3) := by decide +kernel
theorem d_Text_delete_14 : decode b_Text_delete 14 = .ok (.ifCond .eq 7, 3) := by decide +kernel
theorem d_Text_delete_17 : decode b_Text_delete 17 = .ok (.sipush (-1000), 3) := by decide +kernel
theorem d_Text_delete_20 : decode b_Text_delete 20 = .ok (.ireturn, 1) := by decide +kernel
theorem d_Text_delete_21 : decode b_Text_delete 21 = .ok (.aload_n 0, 1) := by decide +kernel
theorem d_Text_delete_22 : decode b_Text_delete 22 = .ok (.getfield 32, 3) := by decide +kernel
theorem d_Text_delete_25 : decode b_Text_delete 25 = .ok (.iload_n 1, 1) := by decide +kernel
theorem d_Text_delete_26 : decode b_Text_delete 26 = .ok (.aaload, 1) := by decide +kernel
theorem d_Text_delete_27 : decode b_Text_delete 27 = .ok (.getfield 52, 3) := by decide +kernel
theorem d_Text_delete_30 : decode b_Text_delete 30 = .ok (.lstore_n 3, 1) := by decide +kernel
theorem d_Text_delete_31 : decode b_Text_delete 31 = .ok (.aload_n 0, 1) := by decide +kernel
theorem d_Text_delete_32 : decode b_Text_delete 32 = .ok (.getfield 19, 3) := by decide +kernel
theorem d_Text_delete_35 : decode b_Text_delete 35 = .ok (.aload_n 0, 1) := by decide +kernel
theorem d_Text_delete_36 : decode b_Text_delete 36 = .ok (.getfield 19, 3) := by decide +kernel
theorem d_Text_delete_39 : decode b_Text_delete 39 = .ok (.lload_n 3, 1) := by decide +kernel
theorem d_Text_delete_40 : decode b_Text_delete 40 = .ok (.invokevirtual 56, 3) := by decide +kernel
theorem d_Text_delete_43 : decode b_Text_delete 43 = .ok (.iload_n 2, 1) := by decide +kernel
theorem d_Text_delete_44 : decode b_Text_delete 44 = .ok (.invokevirtual 66, 3) := by decide +kernel
theorem d_Text_delete_47 : decode b_Text_delete 47 = .ok (.istore 5, 2) := by decide +kernel
theorem d_Text_delete_49 : decode b_Text_delete 49 = .ok (.iload 5, 2) := by decide +kernel
theorem d_Text_delete_51 : decode b_Text_delete 51 = .ok (.iconst (-1), 1) := by decide +kernel
theorem d_Text_delete_52 : decode b_Text_delete 52 = .ok (.if_icmp .ne 7, 3) := by decide +kernel
theorem d_Text_delete_55 : decode b_Text_delete 55 = .ok (.sipush (-1000), 3) := by decide +kernel
theorem d_Text_delete_58 : decode b_Text_delete 58 = .ok (.ireturn, 1) := by decide +kernel
theorem d_Text_delete_59 : decode b_Text_delete 59 = .ok (.aload_n 0, 1) := by decide +kernel
theorem d_Text_delete_60 : decode b_Text_delete 60 = .ok (.getfield 10, 3) := by decide +kernel
theorem d_Text_delete_63 : decode b_Text_delete 63 = .ok (.iload_n 1, 1) := by decide +kernel
theorem d_Text_delete_64 : decode b_Text_delete 64 = .ok (.iload_n 2, 1) := by decide +kernel
theorem d_Text_delete_65 : decode b_Text_delete 65 = .ok (.iconst (-1), 1) := by decide +kernel
theorem d_Text_delete_66 : decode b_Text_delete 66 = .ok (.lload_n 3, 1) := by decide +kernel
theorem d_Text_delete_67 : decode b_Text_delete 67 = .ok (.invokevirtual 70, 3) := by decide +kernel
theorem d_Text_delete_70 : decode b_Text_delete 70 = .ok (.istore 6, 2) := by decide +kernel
theorem d_Text_delete_72 : decode b_Text_delete 72 = .ok (.aload_n 0, 1) := by decide +kernel
theorem d_Text_delete_73 : decode b_Text_delete 73 = .ok (.getfield 19, 3) := by decide +kernel
theorem d_Text_delete_76 : decode b_Text_delete 76 = .ok (.iload 6, 2) := by decide +kernel
theorem d_Text_delete_78 : decode b_Text_delete 78 = .ok (.iload 5, 2) := by decide +kernel
theorem d_Text_delete_80 : decode b_Text_delete 80 = .ok (.invokevirtual 86, 3) := by decide +kernel
theorem d_Text_delete_83 : decode b_Text_delete 83 = .ok (.aload_n 0, 1) := by decide +kernel
theorem d_Text_delete_84 : decode b_Text_delete 84 = .ok (.getfield 32, 3) := by decide +kernel
theorem d_Text_delete_87 : decode b_Text_delete 87 = .ok (.iload_n 1, 1) := by decide +kernel
theorem d_Text_delete_88 : decode b_Text_delete 88 = .ok (.aaload, 1) := by decide +kernel
theorem d_Text_delete_89 : decode b_Text_delete 89 = .ok (.lload_n 3, 1) := by decide +kernel
theorem d_Text_delete_90 : decode b_Text_delete 90 = .ok (.iload 6, 2) := by decide +kernel
theorem d_Text_delete_92 : decode b_Text_delete 92 = .ok (.invokestatic 78, 3) := by decide +kernel
theorem d_Text_delete_95 : decode b_Text_delete 95 = .ok (.lor, 1) := by decide +kernel
theorem d_Text_delete_96 : decode b_Text_delete 96 = .ok (.putfield 52, 3) := by decide +kernel
theorem d_Text_delete_99 : decode b_Text_delete 99 = .ok (.aload_n 0, 1) := by decide +kernel
theorem d_Text_delete_100 : decode b_Text_delete 100 = .ok (.getfield 10, 3) := by decide +kernel
theorem d_Text_delete_103 : decode b_Text_delete 103 = .ok (.iload 6, 2) := by decide +kernel
theorem d_Text_delete_105 : decode b_Text_delete 105 = .ok (.invokevirtual 82, 3) := by decide +kernel
theorem d_Text_delete_108 : decode b_Text_delete 108 = .ok (.ireturn, 1) := by decide +kernel
theorem d_Text_length_0 : decode b_Text_length 0 = .ok (.iload_n 1, 1) := by decide +kernel
theorem d_Text_length_1 : decode b_Text_length 1 = .ok (.invokestatic 44, 3) := by decide +kernel
theorem d_Text_length_4 : decode b_Text_length 4 = .ok (.ifCond .eq 25, 3) := by decide +kernel
theorem d_Text_length_7 : decode b_Text_length 7 = .ok (.aload_n 0, 1) := by decide +kernel
theorem d_Text_length_8 : decode b_Text_length 8 = .ok (.getfield 19, 3) := by decide +kernel
theorem d_Text_length_11 : decode b_Text_length 11 = .ok (.aload_n 0, 1) := by decide +kernel
theorem d_Text_length_12 : decode b_Text_length 12 = .ok (.getfield 32, 3) := by decide +kernel
theorem d_Text_length_15 : decode b_Text_length 15 = .ok (.iload_n 1, 1) := by decide +kernel
theorem d_Text_length_16 : decode b_Text_length 16 = .ok (.aaload, 1) := by decide +kernel
theorem d_Text_length_17 : decode b_Text_length 17 = .ok (.getfield 52, 3) := by decide +kernel
theorem d_Text_length_20 : decode b_Text_length 20 = .ok (.invokevirtual 56, 3) := by decide +kernel
theorem d_Text_length_23 : decode b_Text_length 23 = .ok (.invokestatic 60, 3) := by decide +kernel
theorem d_Text_length_26 : decode b_Text_length 26 = .ok (.goto 6, 3) := by decide +kernel
theorem d_Text_length_29 : decode b_Text_length 29 = .ok (.sipush (-1000), 3) := by decide +kernel
theorem d_Text_length_32 : decode b_Text_length 32 = .ok (.ireturn, 1) := by decide +kernel
theorem d_History_characterOf_0 : decode b_History_characterOf 0 = .ok (.aload_n 0, 1) := by decide +kernel
theorem d_History_characterOf_1 : decode b_History_characterOf 1 = .ok (.getfield 21, 3) := by decide +kernel
theorem d_History_characterOf_4 : decode b_History_characterOf 4 = .ok (.iload_n 1, 1) := by decide +kernel
theorem d_History_characterOf_5 : decode b_History_characterOf 5 = .ok (.iaload, 1) := by decide +kernel
theorem d_History_characterOf_6 : decode b_History_characterOf 6 = .ok (.ireturn, 1) := by decide +kernel
theorem d_Text_at_0 : decode b_Text_at 0 = .ok (.iload_n 1, 1) := by decide +kernel
theorem d_Text_at_1 : decode b_Text_at 1 = .ok (.invokestatic 44, 3) := by decide +kernel
theorem d_Text_at_4 : decode b_Text_at 4 = .ok (.ifCond .ne 7, 3) := by decide +kernel
theorem d_Text_at_7 : decode b_Text_at 7 = .ok (.sipush (-1000), 3) := by decide +kernel
theorem d_Text_at_10 : decode b_Text_at 10 = .ok (.ireturn, 1) := by decide +kernel
theorem d_Text_at_11 : decode b_Text_at 11 = .ok (.aload_n 0, 1) := by decide +kernel
theorem d_Text_at_12 : decode b_Text_at 12 = .ok (.getfield 19, 3) := by decide +kernel
theorem d_Text_at_15 : decode b_Text_at 15 = .ok (.aload_n 0, 1) := by decide +kernel
theorem d_Text_at_16 : decode b_Text_at 16 = .ok (.getfield 19, 3) := by decide +kernel
theorem d_Text_at_19 : decode b_Text_at 19 = .ok (.aload_n 0, 1) := by decide +kernel
theorem d_Text_at_20 : decode b_Text_at 20 = .ok (.getfield 32, 3) := by decide +kernel
theorem d_Text_at_23 : decode b_Text_at 23 = .ok (.iload_n 1, 1) := by decide +kernel
theorem d_Text_at_24 : decode b_Text_at 24 = .ok (.aaload, 1) := by decide +kernel
theorem d_Text_at_25 : decode b_Text_at 25 = .ok (.getfield 52, 3) := by decide +kernel
theorem d_Text_at_28 : decode b_Text_at 28 = .ok (.invokevirtual 56, 3) := by decide +kernel
theorem d_Text_at_31 : decode b_Text_at 31 = .ok (.iload_n 2, 1) := by decide +kernel
theorem d_Text_at_32 : decode b_Text_at 32 = .ok (.invokevirtual 66, 3) := by decide +kernel
theorem d_Text_at_35 : decode b_Text_at 35 = .ok (.istore_n 3, 1) := by decide +kernel
theorem d_Text_at_36 : decode b_Text_at 36 = .ok (.iload_n 3, 1) := by decide +kernel
theorem d_Text_at_37 : decode b_Text_at 37 = .ok (.iconst (-1), 1) := by decide +kernel
theorem d_Text_at_38 : decode b_Text_at 38 = .ok (.if_icmp .ne 9, 3) := by decide +kernel
theorem d_Text_at_41 : decode b_Text_at 41 = .ok (.sipush (-1000), 3) := by decide +kernel
theorem d_Text_at_44 : decode b_Text_at 44 = .ok (.goto 11, 3) := by decide +kernel
theorem d_Text_at_47 : decode b_Text_at 47 = .ok (.aload_n 0, 1) := by decide +kernel
theorem d_Text_at_48 : decode b_Text_at 48 = .ok (.getfield 10, 3) := by decide +kernel
theorem d_Text_at_51 : decode b_Text_at 51 = .ok (.iload_n 3, 1) := by decide +kernel
theorem d_Text_at_52 : decode b_Text_at 52 = .ok (.invokevirtual 90, 3) := by decide +kernel
theorem d_Text_at_55 : decode b_Text_at 55 = .ok (.ireturn, 1) := by decide +kernel
theorem d_Text_areTwoSites_0 : decode b_Text_areTwoSites 0 = .ok (.iload_n 0, 1) := by decide +kernel
theorem d_Text_areTwoSites_1 : decode b_Text_areTwoSites 1 = .ok (.invokestatic 44, 3) := by decide +kernel
theorem d_Text_areTwoSites_4 : decode b_Text_areTwoSites 4 = .ok (.ifCond .eq 19, 3) := by decide +kernel
theorem d_Text_areTwoSites_7 : decode b_Text_areTwoSites 7 = .ok (.iload_n 1, 1) := by decide +kernel
theorem d_Text_areTwoSites_8 : decode b_Text_areTwoSites 8 = .ok (.invokestatic 44, 3) := by decide +kernel
theorem d_Text_areTwoSites_11 : decode b_Text_areTwoSites 11 = .ok (.ifCond .eq 12, 3) := by decide +kernel
theorem d_Text_areTwoSites_14 : decode b_Text_areTwoSites 14 = .ok (.iload_n 0, 1) := by decide +kernel
theorem d_Text_areTwoSites_15 : decode b_Text_areTwoSites 15 = .ok (.iload_n 1, 1) := by decide +kernel
theorem d_Text_areTwoSites_16 : decode b_Text_areTwoSites 16 = .ok (.if_icmp .eq 7, 3) := by decide +kernel
theorem d_Text_areTwoSites_19 : decode b_Text_areTwoSites 19 = .ok (.iconst 1, 1) := by decide +kernel
theorem d_Text_areTwoSites_20 : decode b_Text_areTwoSites 20 = .ok (.goto 4, 3) := by decide +kernel
theorem d_Text_areTwoSites_23 : decode b_Text_areTwoSites 23 = .ok (.iconst 0, 1) := by decide +kernel
theorem d_Text_areTwoSites_24 : decode b_Text_areTwoSites 24 = .ok (.ireturn, 1) := by decide +kernel
theorem d_Text_freeNumber_0 : decode b_Text_freeNumber 0 = .ok (.iconst 0, 1) := by decide +kernel
theorem d_Text_freeNumber_1 : decode b_Text_freeNumber 1 = .ok (.istore_n 1, 1) := by decide +kernel
theorem d_Text_freeNumber_2 : decode b_Text_freeNumber 2 = .ok (.iload_n 1, 1) := by decide +kernel
theorem d_Text_freeNumber_3 : decode b_Text_freeNumber 3 = .ok (.bipush 6, 2) := by decide +kernel
theorem d_Text_freeNumber_5 : decode b_Text_freeNumber 5 = .ok (.if_icmp .ge 21, 3) := by decide +kernel
theorem d_Text_freeNumber_8 : decode b_Text_freeNumber 8 = .ok (.aload_n 0, 1) := by decide +kernel
theorem d_Text_freeNumber_9 : decode b_Text_freeNumber 9 = .ok (.getfield 39, 3) := by decide +kernel
theorem d_Text_freeNumber_12 : decode b_Text_freeNumber 12 = .ok (.iload_n 1, 1) := by decide +kernel
theorem d_Text_freeNumber_13 : decode b_Text_freeNumber 13 = .ok (.aaload, 1) := by decide +kernel
theorem d_Text_freeNumber_14 : decode b_Text_freeNumber 14 = .ok (.getfield 148, 3) := by decide +kernel
theorem d_Text_freeNumber_17 : decode b_Text_freeNumber 17 = .ok (.ifCond .eq 9, 3) := by decide +kernel
theorem d_Text_freeNumber_20 : decode b_Text_freeNumber 20 = .ok (.iinc 1 1, 3) := by decide +kernel
theorem d_Text_freeNumber_23 : decode b_Text_freeNumber 23 = .ok (.goto (-21), 3) := by decide +kernel
theorem d_Text_freeNumber_26 : decode b_Text_freeNumber 26 = .ok (.iload_n 1, 1) := by decide +kernel
theorem d_Text_freeNumber_27 : decode b_Text_freeNumber 27 = .ok (.ireturn, 1) := by decide +kernel
theorem d_History_leastOf_0 : decode b_History_leastOf 0 = .ok (.iconst (-1), 1) := by decide +kernel
theorem d_History_leastOf_1 : decode b_History_leastOf 1 = .ok (.istore_n 3, 1) := by decide +kernel
theorem d_History_leastOf_2 : decode b_History_leastOf 2 = .ok (.iconst 0, 1) := by decide +kernel
theorem d_History_leastOf_3 : decode b_History_leastOf 3 = .ok (.istore 4, 2) := by decide +kernel
theorem d_History_leastOf_5 : decode b_History_leastOf 5 = .ok (.iload 4, 2) := by decide +kernel
theorem d_History_leastOf_7 : decode b_History_leastOf 7 = .ok (.aload_n 0, 1) := by decide +kernel
theorem d_History_leastOf_8 : decode b_History_leastOf 8 = .ok (.getfield 37, 3) := by decide +kernel
theorem d_History_leastOf_11 : decode b_History_leastOf 11 = .ok (.if_icmp .ge 36, 3) := by decide +kernel
theorem d_History_leastOf_14 : decode b_History_leastOf 14 = .ok (.lload_n 1, 1) := by decide +kernel
theorem d_History_leastOf_15 : decode b_History_leastOf 15 = .ok (.iload 4, 2) := by decide +kernel
theorem d_History_leastOf_17 : decode b_History_leastOf 17 = .ok (.invokestatic 53, 3) := by decide +kernel
theorem d_History_leastOf_20 : decode b_History_leastOf 20 = .ok (.ifCond .eq 21, 3) := by decide +kernel
theorem d_History_leastOf_23 : decode b_History_leastOf 23 = .ok (.iload_n 3, 1) := by decide +kernel
theorem d_History_leastOf_24 : decode b_History_leastOf 24 = .ok (.iconst (-1), 1) := by decide +kernel
theorem d_History_leastOf_25 : decode b_History_leastOf 25 = .ok (.if_icmp .eq 13, 3) := by decide +kernel
theorem d_History_leastOf_28 : decode b_History_leastOf 28 = .ok (.aload_n 0, 1) := by decide +kernel
theorem d_History_leastOf_29 : decode b_History_leastOf 29 = .ok (.iload 4, 2) := by decide +kernel
theorem d_History_leastOf_31 : decode b_History_leastOf 31 = .ok (.iload_n 3, 1) := by decide +kernel
theorem d_History_leastOf_32 : decode b_History_leastOf 32 = .ok (.invokevirtual 57, 3) := by decide +kernel
theorem d_History_leastOf_35 : decode b_History_leastOf 35 = .ok (.ifCond .eq 6, 3) := by decide +kernel
theorem d_History_leastOf_38 : decode b_History_leastOf 38 = .ok (.iload 4, 2) := by decide +kernel
theorem d_History_leastOf_40 : decode b_History_leastOf 40 = .ok (.istore_n 3, 1) := by decide +kernel
theorem d_History_leastOf_41 : decode b_History_leastOf 41 = .ok (.iinc 4 1, 3) := by decide +kernel
theorem d_History_leastOf_44 : decode b_History_leastOf 44 = .ok (.goto (-39), 3) := by decide +kernel
theorem d_History_leastOf_47 : decode b_History_leastOf 47 = .ok (.iload_n 3, 1) := by decide +kernel
theorem d_History_leastOf_48 : decode b_History_leastOf 48 = .ok (.ireturn, 1) := by decide +kernel
theorem d_History_nextOf_0 : decode b_History_nextOf 0 = .ok (.lconst 0, 1) := by decide +kernel
theorem d_History_nextOf_1 : decode b_History_nextOf 1 = .ok (.lstore 4, 2) := by decide +kernel
theorem d_History_nextOf_3 : decode b_History_nextOf 3 = .ok (.lconst 0, 1) := by decide +kernel
theorem d_History_nextOf_4 : decode b_History_nextOf 4 = .ok (.lstore 6, 2) := by decide +kernel
theorem d_History_nextOf_6 : decode b_History_nextOf 6 = .ok (.iconst 0, 1) := by decide +kernel
theorem d_History_nextOf_7 : decode b_History_nextOf 7 = .ok (.istore 8, 2) := by decide +kernel
theorem d_History_nextOf_9 : decode b_History_nextOf 9 = .ok (.iload 8, 2) := by decide +kernel
theorem d_History_nextOf_11 : decode b_History_nextOf 11 = .ok (.aload_n 0, 1) := by decide +kernel
theorem d_History_nextOf_12 : decode b_History_nextOf 12 = .ok (.getfield 37, 3) := by decide +kernel
theorem d_History_nextOf_15 : decode b_History_nextOf 15 = .ok (.if_icmp .ge 66, 3) := by decide +kernel
theorem d_History_nextOf_18 : decode b_History_nextOf 18 = .ok (.lload_n 1, 1) := by decide +kernel
theorem d_History_nextOf_19 : decode b_History_nextOf 19 = .ok (.iload 8, 2) := by decide +kernel
theorem d_History_nextOf_21 : decode b_History_nextOf 21 = .ok (.invokestatic 53, 3) := by decide +kernel
theorem d_History_nextOf_24 : decode b_History_nextOf 24 = .ok (.ifCond .eq 51, 3) := by decide +kernel
theorem d_History_nextOf_27 : decode b_History_nextOf 27 = .ok (.aload_n 0, 1) := by decide +kernel
theorem d_History_nextOf_28 : decode b_History_nextOf 28 = .ok (.getfield 24, 3) := by decide +kernel
theorem d_History_nextOf_31 : decode b_History_nextOf 31 = .ok (.iload 8, 2) := by decide +kernel
theorem d_History_nextOf_33 : decode b_History_nextOf 33 = .ok (.laload, 1) := by decide +kernel
theorem d_History_nextOf_34 : decode b_History_nextOf 34 = .ok (.lload_n 1, 1) := by decide +kernel
theorem d_History_nextOf_35 : decode b_History_nextOf 35 = .ok (.land, 1) := by decide +kernel
theorem d_History_nextOf_36 : decode b_History_nextOf 36 = .ok (.lconst 0, 1) := by decide +kernel
theorem d_History_nextOf_37 : decode b_History_nextOf 37 = .ok (.lcmp, 1) := by decide +kernel
theorem d_History_nextOf_38 : decode b_History_nextOf 38 = .ok (.ifCond .ne 37, 3) := by decide +kernel
theorem d_History_nextOf_41 : decode b_History_nextOf 41 = .ok (.lload 4, 2) := by decide +kernel
theorem d_History_nextOf_43 : decode b_History_nextOf 43 = .ok (.iload 8, 2) := by decide +kernel
theorem d_History_nextOf_45 : decode b_History_nextOf 45 = .ok (.invokestatic 49, 3) := by decide +kernel
theorem d_History_nextOf_48 : decode b_History_nextOf 48 = .ok (.lor, 1) := by decide +kernel
theorem d_History_nextOf_49 : decode b_History_nextOf 49 = .ok (.lstore 4, 2) := by decide +kernel
theorem d_History_nextOf_51 : decode b_History_nextOf 51 = .ok (.aload_n 0, 1) := by decide +kernel
theorem d_History_nextOf_52 : decode b_History_nextOf 52 = .ok (.getfield 24, 3) := by decide +kernel
theorem d_History_nextOf_55 : decode b_History_nextOf 55 = .ok (.iload 8, 2) := by decide +kernel
theorem d_History_nextOf_57 : decode b_History_nextOf 57 = .ok (.laload, 1) := by decide +kernel
theorem d_History_nextOf_58 : decode b_History_nextOf 58 = .ok (.iload_n 3, 1) := by decide +kernel
theorem d_History_nextOf_59 : decode b_History_nextOf 59 = .ok (.invokestatic 53, 3) := by decide +kernel
theorem d_History_nextOf_62 : decode b_History_nextOf 62 = .ok (.ifCond .eq 13, 3) := by decide +kernel
theorem d_History_nextOf_65 : decode b_History_nextOf 65 = .ok (.lload 6, 2) := by decide +kernel
theorem d_History_nextOf_67 : decode b_History_nextOf 67 = .ok (.iload 8, 2) := by decide +kernel
theorem d_History_nextOf_69 : decode b_History_nextOf 69 = .ok (.invokestatic 49, 3) := by decide +kernel
theorem d_History_nextOf_72 : decode b_History_nextOf 72 = .ok (.lor, 1) := by decide +kernel
theorem d_History_nextOf_73 : decode b_History_nextOf 73 = .ok (.lstore 6, 2) := by decide +kernel
theorem d_History_nextOf_75 : decode b_History_nextOf 75 = .ok (.iinc 8 1, 3) := by decide +kernel
theorem d_History_nextOf_78 : decode b_History_nextOf 78 = .ok (.goto (-69), 3) := by decide +kernel
theorem d_History_nextOf_81 : decode b_History_nextOf 81 = .ok (.aload_n 0, 1) := by decide +kernel
theorem d_History_nextOf_82 : decode b_History_nextOf 82 = .ok (.lload 6, 2) := by decide +kernel
theorem d_History_nextOf_84 : decode b_History_nextOf 84 = .ok (.lconst 0, 1) := by decide +kernel
theorem d_History_nextOf_85 : decode b_History_nextOf 85 = .ok (.lcmp, 1) := by decide +kernel
theorem d_History_nextOf_86 : decode b_History_nextOf 86 = .ok (.ifCond .eq 8, 3) := by decide +kernel
theorem d_History_nextOf_89 : decode b_History_nextOf 89 = .ok (.lload 6, 2) := by decide +kernel
theorem d_History_nextOf_91 : decode b_History_nextOf 91 = .ok (.goto 5, 3) := by decide +kernel
theorem d_History_nextOf_94 : decode b_History_nextOf 94 = .ok (.lload 4, 2) := by decide +kernel
theorem d_History_nextOf_96 : decode b_History_nextOf 96 = .ok (.invokevirtual 77, 3) := by decide +kernel
theorem d_History_nextOf_99 : decode b_History_nextOf 99 = .ok (.ireturn, 1) := by decide +kernel
theorem d_Line_arrange_0 : decode b_Line_arrange 0 = .ok (.lload_n 2, 1) := by decide +kernel
theorem d_Line_arrange_1 : decode b_Line_arrange 1 = .ok (.lstore 4, 2) := by decide +kernel
theorem d_Line_arrange_3 : decode b_Line_arrange 3 = .ok (.aload_n 1, 1) := by decide +kernel
theorem d_Line_arrange_4 : decode b_Line_arrange 4 = .ok (.lload 4, 2) := by decide +kernel
theorem d_Line_arrange_6 : decode b_Line_arrange 6 = .ok (.iconst (-1), 1) := by decide +kernel
theorem d_Line_arrange_7 : decode b_Line_arrange 7 = .ok (.invokevirtual 19, 3) := by decide +kernel
theorem d_Line_arrange_10 : decode b_Line_arrange 10 = .ok (.istore 6, 2) := by decide +kernel
theorem d_Line_arrange_12 : decode b_Line_arrange 12 = .ok (.aload_n 0, 1) := by decide +kernel
theorem d_Line_arrange_13 : decode b_Line_arrange 13 = .ok (.iconst 0, 1) := by decide +kernel
theorem d_Line_arrange_14 : decode b_Line_arrange 14 = .ok (.putfield 15, 3) := by decide +kernel
theorem d_Line_arrange_17 : decode b_Line_arrange 17 = .ok (.aload_n 0, 1) := by decide +kernel
theorem d_Line_arrange_18 : decode b_Line_arrange 18 = .ok (.getfield 15, 3) := by decide +kernel
theorem d_Line_arrange_21 : decode b_Line_arrange 21 = .ok (.bipush 40, 2) := by decide +kernel
theorem d_Line_arrange_23 : decode b_Line_arrange 23 = .ok (.if_icmp .ge 57, 3) := by decide +kernel
theorem d_Line_arrange_26 : decode b_Line_arrange 26 = .ok (.iload 6, 2) := by decide +kernel
theorem d_Line_arrange_28 : decode b_Line_arrange 28 = .ok (.iconst (-1), 1) := by decide +kernel
theorem d_Line_arrange_29 : decode b_Line_arrange 29 = .ok (.if_icmp .eq 51, 3) := by decide +kernel
theorem d_Line_arrange_32 : decode b_Line_arrange 32 = .ok (.aload_n 0, 1) := by decide +kernel
theorem d_Line_arrange_33 : decode b_Line_arrange 33 = .ok (.getfield 9, 3) := by decide +kernel
theorem d_Line_arrange_36 : decode b_Line_arrange 36 = .ok (.aload_n 0, 1) := by decide +kernel
theorem d_Line_arrange_37 : decode b_Line_arrange 37 = .ok (.getfield 15, 3) := by decide +kernel
theorem d_Line_arrange_40 : decode b_Line_arrange 40 = .ok (.iload 6, 2) := by decide +kernel
theorem d_Line_arrange_42 : decode b_Line_arrange 42 = .ok (.iastore, 1) := by decide +kernel
theorem d_Line_arrange_43 : decode b_Line_arrange 43 = .ok (.aload_n 0, 1) := by decide +kernel
theorem d_Line_arrange_44 : decode b_Line_arrange 44 = .ok (.dup, 1) := by decide +kernel
theorem d_Line_arrange_45 : decode b_Line_arrange 45 = .ok (.getfield 15, 3) := by decide +kernel
theorem d_Line_arrange_48 : decode b_Line_arrange 48 = .ok (.iconst 1, 1) := by decide +kernel
theorem d_Line_arrange_49 : decode b_Line_arrange 49 = .ok (.iadd, 1) := by decide +kernel
theorem d_Line_arrange_50 : decode b_Line_arrange 50 = .ok (.putfield 15, 3) := by decide +kernel
theorem d_Line_arrange_53 : decode b_Line_arrange 53 = .ok (.lload 4, 2) := by decide +kernel
theorem d_Line_arrange_55 : decode b_Line_arrange 55 = .ok (.iload 6, 2) := by decide +kernel
theorem d_Line_arrange_57 : decode b_Line_arrange 57 = .ok (.invokestatic 25, 3) := by decide +kernel
theorem d_Line_arrange_60 : decode b_Line_arrange 60 = .ok (.ldc2_w 29, 3) := by decide +kernel
theorem d_Line_arrange_63 : decode b_Line_arrange 63 = .ok (.lxor, 1) := by decide +kernel
end
section
theorem d_Line_arrange_64 : decode b_Line_arrange 64 = .ok (.land, 1) := by decide +kernel
theorem d_Line_arrange_65 : decode b_Line_arrange 65 = .ok (.lstore 4, 2) := by decide +kernel
theorem d_Line_arrange_67 : decode b_Line_arrange 67 = .ok (.aload_n 1, 1) := by decide +kernel
theorem d_Line_arrange_68 : decode b_Line_arrange 68 = .ok (.lload 4, 2) := by decide +kernel
theorem d_Line_arrange_70 : decode b_Line_arrange 70 = .ok (.iload 6, 2) := by decide +kernel
theorem d_Line_arrange_72 : decode b_Line_arrange 72 = .ok (.invokevirtual 19, 3) := by decide +kernel
theorem d_Line_arrange_75 : decode b_Line_arrange 75 = .ok (.istore 6, 2) := by decide +kernel
theorem d_Line_arrange_77 : decode b_Line_arrange 77 = .ok (.goto (-60), 3) := by decide +kernel
theorem d_Line_arrange_80 : decode b_Line_arrange 80 = .ok (.return_, 1) := by decide +kernel
theorem d_Message_start_0 : decode b_Message_start 0 = .ok (.aload_n 0, 1) := by decide +kernel
theorem d_Message_start_1 : decode b_Message_start 1 = .ok (.iconst 1, 1) := by decide +kernel
theorem d_Message_start_2 : decode b_Message_start 2 = .ok (.putfield 18, 3) := by decide +kernel
theorem d_Message_start_5 : decode b_Message_start 5 = .ok (.aload_n 0, 1) := by decide +kernel
theorem d_Message_start_6 : decode b_Message_start 6 = .ok (.iload_n 1, 1) := by decide +kernel
theorem d_Message_start_7 : decode b_Message_start 7 = .ok (.putfield 22, 3) := by decide +kernel
theorem d_Message_start_10 : decode b_Message_start 10 = .ok (.aload_n 0, 1) := by decide +kernel
theorem d_Message_start_11 : decode b_Message_start 11 = .ok (.iload_n 2, 1) := by decide +kernel
theorem d_Message_start_12 : decode b_Message_start 12 = .ok (.putfield 26, 3) := by decide +kernel
theorem d_Message_start_15 : decode b_Message_start 15 = .ok (.aload_n 0, 1) := by decide +kernel
theorem d_Message_start_16 : decode b_Message_start 16 = .ok (.lload_n 3, 1) := by decide +kernel
theorem d_Message_start_17 : decode b_Message_start 17 = .ok (.putfield 29, 3) := by decide +kernel
theorem d_Message_start_20 : decode b_Message_start 20 = .ok (.return_, 1) := by decide +kernel
theorem d_OctetRow_clear_0 : decode b_OctetRow_clear 0 = .ok (.aload_n 0, 1) := by decide +kernel
theorem d_OctetRow_clear_1 : decode b_OctetRow_clear 1 = .ok (.iconst 0, 1) := by decide +kernel
theorem d_OctetRow_clear_2 : decode b_OctetRow_clear 2 = .ok (.putfield 15, 3) := by decide +kernel
theorem d_OctetRow_clear_5 : decode b_OctetRow_clear 5 = .ok (.return_, 1) := by decide +kernel
theorem d_Line_size_0 : decode b_Line_size 0 = .ok (.aload_n 0, 1) := by decide +kernel
theorem d_Line_size_1 : decode b_Line_size 1 = .ok (.getfield 15, 3) := by decide +kernel
theorem d_Line_size_4 : decode b_Line_size 4 = .ok (.ireturn, 1) := by decide +kernel
theorem d_OctetRow_add_0 : decode b_OctetRow_add 0 = .ok (.aload_n 0, 1) := by decide +kernel
theorem d_OctetRow_add_1 : decode b_OctetRow_add 1 = .ok (.getfield 15, 3) := by decide +kernel
theorem d_OctetRow_add_4 : decode b_OctetRow_add 4 = .ok (.sipush 442, 3) := by decide +kernel
theorem d_OctetRow_add_7 : decode b_OctetRow_add 7 = .ok (.if_icmp .ge 23, 3) := by decide +kernel
theorem d_OctetRow_add_10 : decode b_OctetRow_add 10 = .ok (.aload_n 0, 1) := by decide +kernel
theorem d_OctetRow_add_11 : decode b_OctetRow_add 11 = .ok (.getfield 11, 3) := by decide +kernel
theorem d_OctetRow_add_14 : decode b_OctetRow_add 14 = .ok (.aload_n 0, 1) := by decide +kernel
theorem d_OctetRow_add_15 : decode b_OctetRow_add 15 = .ok (.getfield 15, 3) := by decide +kernel
theorem d_OctetRow_add_18 : decode b_OctetRow_add 18 = .ok (.iload_n 1, 1) := by decide +kernel
theorem d_OctetRow_add_19 : decode b_OctetRow_add 19 = .ok (.iastore, 1) := by decide +kernel
theorem d_OctetRow_add_20 : decode b_OctetRow_add 20 = .ok (.aload_n 0, 1) := by decide +kernel
theorem d_OctetRow_add_21 : decode b_OctetRow_add 21 = .ok (.dup, 1) := by decide +kernel
theorem d_OctetRow_add_22 : decode b_OctetRow_add 22 = .ok (.getfield 15, 3) := by decide +kernel
theorem d_OctetRow_add_25 : decode b_OctetRow_add 25 = .ok (.iconst 1, 1) := by decide +kernel
theorem d_OctetRow_add_26 : decode b_OctetRow_add 26 = .ok (.iadd, 1) := by decide +kernel
theorem d_OctetRow_add_27 : decode b_OctetRow_add 27 = .ok (.putfield 15, 3) := by decide +kernel
theorem d_OctetRow_add_30 : decode b_OctetRow_add 30 = .ok (.return_, 1) := by decide +kernel
theorem d_OctetRow_put_0 : decode b_OctetRow_put 0 = .ok (.iload_n 1, 1) := by decide +kernel
theorem d_OctetRow_put_1 : decode b_OctetRow_put 1 = .ok (.istore_n 2, 1) := by decide +kernel
theorem d_OctetRow_put_2 : decode b_OctetRow_put 2 = .ok (.iconst 1, 1) := by decide +kernel
theorem d_OctetRow_put_3 : decode b_OctetRow_put 3 = .ok (.istore_n 3, 1) := by decide +kernel
theorem d_OctetRow_put_4 : decode b_OctetRow_put 4 = .ok (.iload_n 3, 1) := by decide +kernel
theorem d_OctetRow_put_5 : decode b_OctetRow_put 5 = .ok (.iconst 5, 1) := by decide +kernel
theorem d_OctetRow_put_6 : decode b_OctetRow_put 6 = .ok (.if_icmp .ge 32, 3) := by decide +kernel
theorem d_OctetRow_put_9 : decode b_OctetRow_put 9 = .ok (.iload_n 2, 1) := by decide +kernel
theorem d_OctetRow_put_10 : decode b_OctetRow_put 10 = .ok (.bipush 127, 2) := by decide +kernel
theorem d_OctetRow_put_12 : decode b_OctetRow_put 12 = .ok (.if_icmp .le 26, 3) := by decide +kernel
theorem d_OctetRow_put_15 : decode b_OctetRow_put 15 = .ok (.aload_n 0, 1) := by decide +kernel
theorem d_OctetRow_put_16 : decode b_OctetRow_put 16 = .ok (.sipush 128, 3) := by decide +kernel
theorem d_OctetRow_put_19 : decode b_OctetRow_put 19 = .ok (.iload_n 2, 1) := by decide +kernel
theorem d_OctetRow_put_20 : decode b_OctetRow_put 20 = .ok (.bipush 127, 2) := by decide +kernel
theorem d_OctetRow_put_22 : decode b_OctetRow_put 22 = .ok (.iand, 1) := by decide +kernel
theorem d_OctetRow_put_23 : decode b_OctetRow_put 23 = .ok (.iadd, 1) := by decide +kernel
theorem d_OctetRow_put_24 : decode b_OctetRow_put 24 = .ok (.invokevirtual 19, 3) := by decide +kernel
theorem d_OctetRow_put_27 : decode b_OctetRow_put 27 = .ok (.iload_n 2, 1) := by decide +kernel
theorem d_OctetRow_put_28 : decode b_OctetRow_put 28 = .ok (.bipush 7, 2) := by decide +kernel
theorem d_OctetRow_put_30 : decode b_OctetRow_put 30 = .ok (.ishr, 1) := by decide +kernel
theorem d_OctetRow_put_31 : decode b_OctetRow_put 31 = .ok (.istore_n 2, 1) := by decide +kernel
theorem d_OctetRow_put_32 : decode b_OctetRow_put 32 = .ok (.iinc 3 1, 3) := by decide +kernel
theorem d_OctetRow_put_35 : decode b_OctetRow_put 35 = .ok (.goto (-31), 3) := by decide +kernel
theorem d_OctetRow_put_38 : decode b_OctetRow_put 38 = .ok (.aload_n 0, 1) := by decide +kernel
theorem d_OctetRow_put_39 : decode b_OctetRow_put 39 = .ok (.iload_n 2, 1) := by decide +kernel
theorem d_OctetRow_put_40 : decode b_OctetRow_put 40 = .ok (.invokevirtual 19, 3) := by decide +kernel
theorem d_OctetRow_put_43 : decode b_OctetRow_put 43 = .ok (.return_, 1) := by decide +kernel
theorem d_Line_get_0 : decode b_Line_get 0 = .ok (.aload_n 0, 1) := by decide +kernel
theorem d_Line_get_1 : decode b_Line_get 1 = .ok (.getfield 9, 3) := by decide +kernel
theorem d_Line_get_4 : decode b_Line_get 4 = .ok (.iload_n 1, 1) := by decide +kernel
theorem d_Line_get_5 : decode b_Line_get 5 = .ok (.iaload, 1) := by decide +kernel
theorem d_Line_get_6 : decode b_Line_get 6 = .ok (.ireturn, 1) := by decide +kernel
theorem d_History_siteOf_0 : decode b_History_siteOf 0 = .ok (.aload_n 0, 1) := by decide +kernel
theorem d_History_siteOf_1 : decode b_History_siteOf 1 = .ok (.getfield 9, 3) := by decide +kernel
theorem d_History_siteOf_4 : decode b_History_siteOf 4 = .ok (.iload_n 1, 1) := by decide +kernel
theorem d_History_siteOf_5 : decode b_History_siteOf 5 = .ok (.iaload, 1) := by decide +kernel
theorem d_History_siteOf_6 : decode b_History_siteOf 6 = .ok (.ireturn, 1) := by decide +kernel
theorem d_Message_writeSites_0 : decode b_Message_writeSites 0 = .ok (.iconst 0, 1) := by decide +kernel
theorem d_Message_writeSites_1 : decode b_Message_writeSites 1 = .ok (.istore_n 3, 1) := by decide +kernel
theorem d_Message_writeSites_2 : decode b_Message_writeSites 2 = .ok (.iconst 1, 1) := by decide +kernel
theorem d_Message_writeSites_3 : decode b_Message_writeSites 3 = .ok (.istore 4, 2) := by decide +kernel
theorem d_Message_writeSites_5 : decode b_Message_writeSites 5 = .ok (.iload 4, 2) := by decide +kernel
theorem d_Message_writeSites_7 : decode b_Message_writeSites 7 = .ok (.aload_n 2, 1) := by decide +kernel
theorem d_Message_writeSites_8 : decode b_Message_writeSites 8 = .ok (.invokevirtual 36, 3) := by decide +kernel
theorem d_Message_writeSites_11 : decode b_Message_writeSites 11 = .ok (.if_icmp .gt 83, 3) := by decide +kernel
theorem d_Message_writeSites_14 : decode b_Message_writeSites 14 = .ok (.aload_n 1, 1) := by decide +kernel
theorem d_Message_writeSites_15 : decode b_Message_writeSites 15 = .ok (.aload_n 2, 1) := by decide +kernel
theorem d_Message_writeSites_16 : decode b_Message_writeSites 16 = .ok (.iload_n 3, 1) := by decide +kernel
theorem d_Message_writeSites_17 : decode b_Message_writeSites 17 = .ok (.invokevirtual 62, 3) := by decide +kernel
theorem d_Message_writeSites_20 : decode b_Message_writeSites 20 = .ok (.invokevirtual 66, 3) := by decide +kernel
theorem d_Message_writeSites_23 : decode b_Message_writeSites 23 = .ok (.istore 5, 2) := by decide +kernel
theorem d_Message_writeSites_25 : decode b_Message_writeSites 25 = .ok (.iload 4, 2) := by decide +kernel
theorem d_Message_writeSites_27 : decode b_Message_writeSites 27 = .ok (.aload_n 2, 1) := by decide +kernel
theorem d_Message_writeSites_28 : decode b_Message_writeSites 28 = .ok (.invokevirtual 36, 3) := by decide +kernel
theorem d_Message_writeSites_31 : decode b_Message_writeSites 31 = .ok (.if_icmp .eq 18, 3) := by decide +kernel
theorem d_Message_writeSites_34 : decode b_Message_writeSites 34 = .ok (.aload_n 1, 1) := by decide +kernel
theorem d_Message_writeSites_35 : decode b_Message_writeSites 35 = .ok (.aload_n 2, 1) := by decide +kernel
theorem d_Message_writeSites_36 : decode b_Message_writeSites 36 = .ok (.iload 4, 2) := by decide +kernel
theorem d_Message_writeSites_38 : decode b_Message_writeSites 38 = .ok (.invokevirtual 62, 3) := by decide +kernel
theorem d_Message_writeSites_41 : decode b_Message_writeSites 41 = .ok (.invokevirtual 66, 3) := by decide +kernel
theorem d_Message_writeSites_44 : decode b_Message_writeSites 44 = .ok (.iload 5, 2) := by decide +kernel
theorem d_Message_writeSites_46 : decode b_Message_writeSites 46 = .ok (.if_icmp .eq 42, 3) := by decide +kernel
theorem d_Message_writeSites_49 : decode b_Message_writeSites 49 = .ok (.aload_n 0, 1) := by decide +kernel
theorem d_Message_writeSites_50 : decode b_Message_writeSites 50 = .ok (.getfield 12, 3) := by decide +kernel
theorem d_Message_writeSites_53 : decode b_Message_writeSites 53 = .ok (.iload 5, 2) := by decide +kernel
theorem d_Message_writeSites_55 : decode b_Message_writeSites 55 = .ok (.invokevirtual 42, 3) := by decide +kernel
theorem d_Message_writeSites_58 : decode b_Message_writeSites 58 = .ok (.aload_n 0, 1) := by decide +kernel
theorem d_Message_writeSites_59 : decode b_Message_writeSites 59 = .ok (.getfield 12, 3) := by decide +kernel
theorem d_Message_writeSites_62 : decode b_Message_writeSites 62 = .ok (.aload_n 1, 1) := by decide +kernel
theorem d_Message_writeSites_63 : decode b_Message_writeSites 63 = .ok (.aload_n 2, 1) := by decide +kernel
theorem d_Message_writeSites_64 : decode b_Message_writeSites 64 = .ok (.iload_n 3, 1) := by decide +kernel
theorem d_Message_writeSites_65 : decode b_Message_writeSites 65 = .ok (.invokevirtual 62, 3) := by decide +kernel
theorem d_Message_writeSites_68 : decode b_Message_writeSites 68 = .ok (.invokevirtual 71, 3) := by decide +kernel
theorem d_Message_writeSites_71 : decode b_Message_writeSites 71 = .ok (.invokevirtual 42, 3) := by decide +kernel
theorem d_Message_writeSites_74 : decode b_Message_writeSites 74 = .ok (.aload_n 0, 1) := by decide +kernel
theorem d_Message_writeSites_75 : decode b_Message_writeSites 75 = .ok (.getfield 12, 3) := by decide +kernel
theorem d_Message_writeSites_78 : decode b_Message_writeSites 78 = .ok (.iload 4, 2) := by decide +kernel
theorem d_Message_writeSites_80 : decode b_Message_writeSites 80 = .ok (.iload_n 3, 1) := by decide +kernel
theorem d_Message_writeSites_81 : decode b_Message_writeSites 81 = .ok (.isub, 1) := by decide +kernel
theorem d_Message_writeSites_82 : decode b_Message_writeSites 82 = .ok (.invokevirtual 42, 3) := by decide +kernel
theorem d_Message_writeSites_85 : decode b_Message_writeSites 85 = .ok (.iload 4, 2) := by decide +kernel
theorem d_Message_writeSites_87 : decode b_Message_writeSites 87 = .ok (.istore_n 3, 1) := by decide +kernel
theorem d_Message_writeSites_88 : decode b_Message_writeSites 88 = .ok (.iinc 4 1, 3) := by decide +kernel
theorem d_Message_writeSites_91 : decode b_Message_writeSites 91 = .ok (.goto (-86), 3) := by decide +kernel
theorem d_Message_writeSites_94 : decode b_Message_writeSites 94 = .ok (.return_, 1) := by decide +kernel
theorem d_History_isInsert_0 : decode b_History_isInsert 0 = .ok (.aload_n 0, 1) := by decide +kernel
theorem d_History_isInsert_1 : decode b_History_isInsert 1 = .ok (.getfield 21, 3) := by decide +kernel
theorem d_History_isInsert_4 : decode b_History_isInsert 4 = .ok (.iload_n 1, 1) := by decide +kernel
theorem d_History_isInsert_5 : decode b_History_isInsert 5 = .ok (.iaload, 1) := by decide +kernel
theorem d_History_isInsert_6 : decode b_History_isInsert 6 = .ok (.iconst (-1), 1) := by decide +kernel
theorem d_History_isInsert_7 : decode b_History_isInsert 7 = .ok (.if_icmp .eq 7, 3) := by decide +kernel
theorem d_History_isInsert_10 : decode b_History_isInsert 10 = .ok (.iconst 1, 1) := by decide +kernel
theorem d_History_isInsert_11 : decode b_History_isInsert 11 = .ok (.goto 4, 3) := by decide +kernel
theorem d_History_isInsert_14 : decode b_History_isInsert 14 = .ok (.iconst 0, 1) := by decide +kernel
theorem d_History_isInsert_15 : decode b_History_isInsert 15 = .ok (.ireturn, 1) := by decide +kernel
theorem d_Message_writeKinds_0 : decode b_Message_writeKinds 0 = .ok (.iconst 1, 1) := by decide +kernel
theorem d_Message_writeKinds_1 : decode b_Message_writeKinds 1 = .ok (.istore_n 3, 1) := by decide +kernel
theorem d_Message_writeKinds_2 : decode b_Message_writeKinds 2 = .ok (.iconst 0, 1) := by decide +kernel
theorem d_Message_writeKinds_3 : decode b_Message_writeKinds 3 = .ok (.istore 4, 2) := by decide +kernel
theorem d_Message_writeKinds_5 : decode b_Message_writeKinds 5 = .ok (.iconst 0, 1) := by decide +kernel
theorem d_Message_writeKinds_6 : decode b_Message_writeKinds 6 = .ok (.istore 5, 2) := by decide +kernel
theorem d_Message_writeKinds_8 : decode b_Message_writeKinds 8 = .ok (.iload 5, 2) := by decide +kernel
theorem d_Message_writeKinds_10 : decode b_Message_writeKinds 10 = .ok (.aload_n 2, 1) := by decide +kernel
theorem d_Message_writeKinds_11 : decode b_Message_writeKinds 11 = .ok (.invokevirtual 36, 3) := by decide +kernel
theorem d_Message_writeKinds_14 : decode b_Message_writeKinds 14 = .ok (.if_icmp .ge 48, 3) := by decide +kernel
theorem d_Message_writeKinds_17 : decode b_Message_writeKinds 17 = .ok (.aload_n 1, 1) := by decide +kernel
theorem d_Message_writeKinds_18 : decode b_Message_writeKinds 18 = .ok (.aload_n 2, 1) := by decide +kernel
theorem d_Message_writeKinds_19 : decode b_Message_writeKinds 19 = .ok (.iload 5, 2) := by decide +kernel
theorem d_Message_writeKinds_21 : decode b_Message_writeKinds 21 = .ok (.invokevirtual 62, 3) := by decide +kernel
theorem d_Message_writeKinds_24 : decode b_Message_writeKinds 24 = .ok (.invokevirtual 74, 3) := by decide +kernel
theorem d_Message_writeKinds_27 : decode b_Message_writeKinds 27 = .ok (.iload_n 3, 1) := by decide +kernel
theorem d_Message_writeKinds_28 : decode b_Message_writeKinds 28 = .ok (.if_icmp .eq 25, 3) := by decide +kernel
theorem d_Message_writeKinds_31 : decode b_Message_writeKinds 31 = .ok (.aload_n 0, 1) := by decide +kernel
theorem d_Message_writeKinds_32 : decode b_Message_writeKinds 32 = .ok (.getfield 12, 3) := by decide +kernel
theorem d_Message_writeKinds_35 : decode b_Message_writeKinds 35 = .ok (.iload 4, 2) := by decide +kernel
theorem d_Message_writeKinds_37 : decode b_Message_writeKinds 37 = .ok (.invokevirtual 42, 3) := by decide +kernel
theorem d_Message_writeKinds_40 : decode b_Message_writeKinds 40 = .ok (.iload_n 3, 1) := by decide +kernel
theorem d_Message_writeKinds_41 : decode b_Message_writeKinds 41 = .ok (.ifCond .ne 7, 3) := by decide +kernel
theorem d_Message_writeKinds_44 : decode b_Message_writeKinds 44 = .ok (.iconst 1, 1) := by decide +kernel
theorem d_Message_writeKinds_45 : decode b_Message_writeKinds 45 = .ok (.goto 4, 3) := by decide +kernel
theorem d_Message_writeKinds_48 : decode b_Message_writeKinds 48 = .ok (.iconst 0, 1) := by decide +kernel
theorem d_Message_writeKinds_49 : decode b_Message_writeKinds 49 = .ok (.istore_n 3, 1) := by decide +kernel
theorem d_Message_writeKinds_50 : decode b_Message_writeKinds 50 = .ok (.iconst 0, 1) := by decide +kernel
theorem d_Message_writeKinds_51 : decode b_Message_writeKinds 51 = .ok (.istore 4, 2) := by decide +kernel
theorem d_Message_writeKinds_53 : decode b_Message_writeKinds 53 = .ok (.iinc 4 1, 3) := by decide +kernel
theorem d_Message_writeKinds_56 : decode b_Message_writeKinds 56 = .ok (.iinc 5 1, 3) := by decide +kernel
theorem d_Message_writeKinds_59 : decode b_Message_writeKinds 59 = .ok (.goto (-51), 3) := by decide +kernel
theorem d_Message_writeKinds_62 : decode b_Message_writeKinds 62 = .ok (.aload_n 0, 1) := by decide +kernel
theorem d_Message_writeKinds_63 : decode b_Message_writeKinds 63 = .ok (.getfield 12, 3) := by decide +kernel
theorem d_Message_writeKinds_66 : decode b_Message_writeKinds 66 = .ok (.iload 4, 2) := by decide +kernel
theorem d_Message_writeKinds_68 : decode b_Message_writeKinds 68 = .ok (.invokevirtual 42, 3) := by decide +kernel
theorem d_Message_writeKinds_71 : decode b_Message_writeKinds 71 = .ok (.return_, 1) := by decide +kernel
theorem d_History_indexOf_0 : decode b_History_indexOf 0 = .ok (.aload_n 0, 1) := by decide +kernel
theorem d_History_indexOf_1 : decode b_History_indexOf 1 = .ok (.getfield 18, 3) := by decide +kernel
theorem d_History_indexOf_4 : decode b_History_indexOf 4 = .ok (.iload_n 1, 1) := by decide +kernel
theorem d_History_indexOf_5 : decode b_History_indexOf 5 = .ok (.iaload, 1) := by decide +kernel
theorem d_History_indexOf_6 : decode b_History_indexOf 6 = .ok (.ireturn, 1) := by decide +kernel
theorem d_OctetRow_putSigned_0 : decode b_OctetRow_putSigned 0 = .ok (.aload_n 0, 1) := by decide +kernel
theorem d_OctetRow_putSigned_1 : decode b_OctetRow_putSigned 1 = .ok (.iload_n 1, 1) := by decide +kernel
theorem d_OctetRow_putSigned_2 : decode b_OctetRow_putSigned 2 = .ok (.ifCond .ge 12, 3) := by decide +kernel
theorem d_OctetRow_putSigned_5 : decode b_OctetRow_putSigned 5 = .ok (.bipush (-2), 2) := by decide +kernel
theorem d_OctetRow_putSigned_7 : decode b_OctetRow_putSigned 7 = .ok (.iload_n 1, 1) := by decide +kernel
theorem d_OctetRow_putSigned_8 : decode b_OctetRow_putSigned 8 = .ok (.imul, 1) := by decide +kernel
theorem d_OctetRow_putSigned_9 : decode b_OctetRow_putSigned 9 = .ok (.iconst 1, 1) := by decide +kernel
theorem d_OctetRow_putSigned_10 : decode b_OctetRow_putSigned 10 = .ok (.isub, 1) := by decide +kernel
theorem d_OctetRow_putSigned_11 : decode b_OctetRow_putSigned 11 = .ok (.goto 6, 3) := by decide +kernel
theorem d_OctetRow_putSigned_14 : decode b_OctetRow_putSigned 14 = .ok (.iconst 2, 1) := by decide +kernel
theorem d_OctetRow_putSigned_15 : decode b_OctetRow_putSigned 15 = .ok (.iload_n 1, 1) := by decide +kernel
theorem d_OctetRow_putSigned_16 : decode b_OctetRow_putSigned 16 = .ok (.imul, 1) := by decide +kernel
theorem d_OctetRow_putSigned_17 : decode b_OctetRow_putSigned 17 = .ok (.invokevirtual 23, 3) := by decide +kernel
theorem d_OctetRow_putSigned_20 : decode b_OctetRow_putSigned 20 = .ok (.return_, 1) := by decide +kernel
theorem d_Message_writeIndices_0 : decode b_Message_writeIndices 0 = .ok (.iconst 0, 1) := by decide +kernel
theorem d_Message_writeIndices_1 : decode b_Message_writeIndices 1 = .ok (.istore_n 3, 1) := by decide +kernel
theorem d_Message_writeIndices_2 : decode b_Message_writeIndices 2 = .ok (.iconst 0, 1) := by decide +kernel
theorem d_Message_writeIndices_3 : decode b_Message_writeIndices 3 = .ok (.istore 4, 2) := by decide +kernel
theorem d_Message_writeIndices_5 : decode b_Message_writeIndices 5 = .ok (.iload 4, 2) := by decide +kernel
theorem d_Message_writeIndices_7 : decode b_Message_writeIndices 7 = .ok (.aload_n 2, 1) := by decide +kernel
theorem d_Message_writeIndices_8 : decode b_Message_writeIndices 8 = .ok (.invokevirtual 36, 3) := by decide +kernel
theorem d_Message_writeIndices_11 : decode b_Message_writeIndices 11 = .ok (.if_icmp .ge 35, 3) := by decide +kernel
theorem d_Message_writeIndices_14 : decode b_Message_writeIndices 14 = .ok (.aload_n 1, 1) := by decide +kernel
theorem d_Message_writeIndices_15 : decode b_Message_writeIndices 15 = .ok (.aload_n 2, 1) := by decide +kernel
theorem d_Message_writeIndices_16 : decode b_Message_writeIndices 16 = .ok (.iload 4, 2) := by decide +kernel
theorem d_Message_writeIndices_18 : decode b_Message_writeIndices 18 = .ok (.invokevirtual 62, 3) := by decide +kernel
theorem d_Message_writeIndices_21 : decode b_Message_writeIndices 21 = .ok (.invokevirtual 78, 3) := by decide +kernel
theorem d_Message_writeIndices_24 : decode b_Message_writeIndices 24 = .ok (.istore 5, 2) := by decide +kernel
theorem d_Message_writeIndices_26 : decode b_Message_writeIndices 26 = .ok (.aload_n 0, 1) := by decide +kernel
theorem d_Message_writeIndices_27 : decode b_Message_writeIndices 27 = .ok (.getfield 12, 3) := by decide +kernel
theorem d_Message_writeIndices_30 : decode b_Message_writeIndices 30 = .ok (.iload 5, 2) := by decide +kernel
theorem d_Message_writeIndices_32 : decode b_Message_writeIndices 32 = .ok (.iload_n 3, 1) := by decide +kernel
theorem d_Message_writeIndices_33 : decode b_Message_writeIndices 33 = .ok (.isub, 1) := by decide +kernel
theorem d_Message_writeIndices_34 : decode b_Message_writeIndices 34 = .ok (.invokevirtual 81, 3) := by decide +kernel
theorem d_Message_writeIndices_37 : decode b_Message_writeIndices 37 = .ok (.iload 5, 2) := by decide +kernel
theorem d_Message_writeIndices_39 : decode b_Message_writeIndices 39 = .ok (.istore_n 3, 1) := by decide +kernel
theorem d_Message_writeIndices_40 : decode b_Message_writeIndices 40 = .ok (.iinc 4 1, 3) := by decide +kernel
theorem d_Message_writeIndices_43 : decode b_Message_writeIndices 43 = .ok (.goto (-38), 3) := by decide +kernel
theorem d_Message_writeIndices_46 : decode b_Message_writeIndices 46 = .ok (.return_, 1) := by decide +kernel
theorem d_Message_writeCharacters_0 : decode b_Message_writeCharacters 0 = .ok (.iconst 0, 1) := by decide +kernel
theorem d_Message_writeCharacters_1 : decode b_Message_writeCharacters 1 = .ok (.istore_n 3, 1) := by decide +kernel
theorem d_Message_writeCharacters_2 : decode b_Message_writeCharacters 2 = .ok (.iconst 0, 1) := by decide +kernel
theorem d_Message_writeCharacters_3 : decode b_Message_writeCharacters 3 = .ok (.istore 4, 2) := by decide +kernel
theorem d_Message_writeCharacters_5 : decode b_Message_writeCharacters 5 = .ok (.iload 4, 2) := by decide +kernel
theorem d_Message_writeCharacters_7 : decode b_Message_writeCharacters 7 = .ok (.aload_n 2, 1) := by decide +kernel
theorem d_Message_writeCharacters_8 : decode b_Message_writeCharacters 8 = .ok (.invokevirtual 36, 3) := by decide +kernel
theorem d_Message_writeCharacters_11 : decode b_Message_writeCharacters 11 = .ok (.if_icmp .ge 48, 3) := by decide +kernel
theorem d_Message_writeCharacters_14 : decode b_Message_writeCharacters 14 = .ok (.aload_n 1, 1) := by decide +kernel
theorem d_Message_writeCharacters_15 : decode b_Message_writeCharacters 15 = .ok (.aload_n 2, 1) := by decide +kernel
theorem d_Message_writeCharacters_16 : decode b_Message_writeCharacters 16 = .ok (.iload 4, 2) := by decide +kernel
theorem d_Message_writeCharacters_18 : decode b_Message_writeCharacters 18 = .ok (.invokevirtual 62, 3) := by decide +kernel
theorem d_Message_writeCharacters_21 : decode b_Message_writeCharacters 21 = .ok (.invokevirtual 74, 3) := by decide +kernel
theorem d_Message_writeCharacters_24 : decode b_Message_writeCharacters 24 = .ok (.ifCond .eq 29, 3) := by decide +kernel
theorem d_Message_writeCharacters_27 : decode b_Message_writeCharacters 27 = .ok (.aload_n 1, 1) := by decide +kernel
theorem d_Message_writeCharacters_28 : decode b_Message_writeCharacters 28 = .ok (.aload_n 2, 1) := by decide +kernel
theorem d_Message_writeCharacters_29 : decode b_Message_writeCharacters 29 = .ok (.iload 4, 2) := by decide +kernel
theorem d_Message_writeCharacters_31 : decode b_Message_writeCharacters 31 = .ok (.invokevirtual 62, 3) := by decide +kernel
theorem d_Message_writeCharacters_34 : decode b_Message_writeCharacters 34 = .ok (.invokevirtual 84, 3) := by decide +kernel
theorem d_Message_writeCharacters_37 : decode b_Message_writeCharacters 37 = .ok (.istore 5, 2) := by decide +kernel
theorem d_Message_writeCharacters_39 : decode b_Message_writeCharacters 39 = .ok (.aload_n 0, 1) := by decide +kernel
theorem d_Message_writeCharacters_40 : decode b_Message_writeCharacters 40 = .ok (.getfield 12, 3) := by decide +kernel
theorem d_Message_writeCharacters_43 : decode b_Message_writeCharacters 43 = .ok (.iload 5, 2) := by decide +kernel
theorem d_Message_writeCharacters_45 : decode b_Message_writeCharacters 45 = .ok (.iload_n 3, 1) := by decide +kernel
theorem d_Message_writeCharacters_46 : decode b_Message_writeCharacters 46 = .ok (.isub, 1) := by decide +kernel
theorem d_Message_writeCharacters_47 : decode b_Message_writeCharacters 47 = .ok (.invokevirtual 81, 3) := by decide +kernel
theorem d_Message_writeCharacters_50 : decode b_Message_writeCharacters 50 = .ok (.iload 5, 2) := by decide +kernel
theorem d_Message_writeCharacters_52 : decode b_Message_writeCharacters 52 = .ok (.istore_n 3, 1) := by decide +kernel
theorem d_Message_writeCharacters_53 : decode b_Message_writeCharacters 53 = .ok (.iinc 4 1, 3) := by decide +kernel
theorem d_Message_writeCharacters_56 : decode b_Message_writeCharacters 56 = .ok (.goto (-51), 3) := by decide +kernel
theorem d_Message_writeCharacters_59 : decode b_Message_writeCharacters 59 = .ok (.return_, 1) := by decide +kernel
theorem d_History_parentsOf_0 : decode b_History_parentsOf 0 = .ok (.aload_n 0, 1) := by decide +kernel
theorem d_History_parentsOf_1 : decode b_History_parentsOf 1 = .ok (.getfield 24, 3) := by decide +kernel
theorem d_History_parentsOf_4 : decode b_History_parentsOf 4 = .ok (.iload_n 1, 1) := by decide +kernel
theorem d_History_parentsOf_5 : decode b_History_parentsOf 5 = .ok (.laload, 1) := by decide +kernel
theorem d_History_parentsOf_6 : decode b_History_parentsOf 6 = .ok (.lreturn, 1) := by decide +kernel
theorem d_History_codeOf_0 : decode b_History_codeOf 0 = .ok (.aload_n 0, 1) := by decide +kernel
theorem d_History_codeOf_1 : decode b_History_codeOf 1 = .ok (.getfield 9, 3) := by decide +kernel
theorem d_History_codeOf_4 : decode b_History_codeOf 4 = .ok (.iload_n 1, 1) := by decide +kernel
theorem d_History_codeOf_5 : decode b_History_codeOf 5 = .ok (.iaload, 1) := by decide +kernel
theorem d_History_codeOf_6 : decode b_History_codeOf 6 = .ok (.iconst 3, 1) := by decide +kernel
theorem d_History_codeOf_7 : decode b_History_codeOf 7 = .ok (.aload_n 0, 1) := by decide +kernel
theorem d_History_codeOf_8 : decode b_History_codeOf 8 = .ok (.getfield 15, 3) := by decide +kernel
theorem d_History_codeOf_11 : decode b_History_codeOf 11 = .ok (.iload_n 1, 1) := by decide +kernel
theorem d_History_codeOf_12 : decode b_History_codeOf 12 = .ok (.iaload, 1) := by decide +kernel
theorem d_History_codeOf_13 : decode b_History_codeOf 13 = .ok (.imul, 1) := by decide +kernel
theorem d_History_codeOf_14 : decode b_History_codeOf 14 = .ok (.iadd, 1) := by decide +kernel
theorem d_History_codeOf_15 : decode b_History_codeOf 15 = .ok (.ireturn, 1) := by decide +kernel
theorem d_Message_writeParentList_0 : decode b_Message_writeParentList 0 = .ok (.lload_n 2, 1) := by decide +kernel
theorem d_Message_writeParentList_1 : decode b_Message_writeParentList 1 = .ok (.invokestatic 98, 3) := by decide +kernel
theorem d_Message_writeParentList_4 : decode b_Message_writeParentList 4 = .ok (.istore 4, 2) := by decide +kernel
theorem d_Message_writeParentList_6 : decode b_Message_writeParentList 6 = .ok (.lload_n 2, 1) := by decide +kernel
theorem d_Message_writeParentList_7 : decode b_Message_writeParentList 7 = .ok (.lstore 5, 2) := by decide +kernel
theorem d_Message_writeParentList_9 : decode b_Message_writeParentList 9 = .ok (.aload_n 1, 1) := by decide +kernel
theorem d_Message_writeParentList_10 : decode b_Message_writeParentList 10 = .ok (.lload 5, 2) := by decide +kernel
theorem d_Message_writeParentList_12 : decode b_Message_writeParentList 12 = .ok (.invokevirtual 104, 3) := by decide +kernel
theorem d_Message_writeParentList_15 : decode b_Message_writeParentList 15 = .ok (.istore 7, 2) := by decide +kernel
theorem d_Message_writeParentList_17 : decode b_Message_writeParentList 17 = .ok (.aload_n 0, 1) := by decide +kernel
theorem d_Message_writeParentList_18 : decode b_Message_writeParentList 18 = .ok (.getfield 12, 3) := by decide +kernel
theorem d_Message_writeParentList_21 : decode b_Message_writeParentList 21 = .ok (.iconst 1, 1) := by decide +kernel
theorem d_Message_writeParentList_22 : decode b_Message_writeParentList 22 = .ok (.iload 4, 2) := by decide +kernel
theorem d_Message_writeParentList_24 : decode b_Message_writeParentList 24 = .ok (.iadd, 1) := by decide +kernel
theorem d_Message_writeParentList_25 : decode b_Message_writeParentList 25 = .ok (.invokevirtual 42, 3) := by decide +kernel
theorem d_Message_writeParentList_28 : decode b_Message_writeParentList 28 = .ok (.iconst 0, 1) := by decide +kernel
theorem d_Message_writeParentList_29 : decode b_Message_writeParentList 29 = .ok (.istore 8, 2) := by decide +kernel
theorem d_Message_writeParentList_31 : decode b_Message_writeParentList 31 = .ok (.iload 8, 2) := by decide +kernel
theorem d_Message_writeParentList_33 : decode b_Message_writeParentList 33 = .ok (.iload 4, 2) := by decide +kernel
theorem d_Message_writeParentList_35 : decode b_Message_writeParentList 35 = .ok (.if_icmp .ge 50, 3) := by decide +kernel
theorem d_Message_writeParentList_38 : decode b_Message_writeParentList 38 = .ok (.iload 7, 2) := by decide +kernel
theorem d_Message_writeParentList_40 : decode b_Message_writeParentList 40 = .ok (.iconst (-1), 1) := by decide +kernel
theorem d_Message_writeParentList_41 : decode b_Message_writeParentList 41 = .ok (.if_icmp .eq 44, 3) := by decide +kernel
theorem d_Message_writeParentList_44 : decode b_Message_writeParentList 44 = .ok (.aload_n 0, 1) := by decide +kernel
theorem d_Message_writeParentList_45 : decode b_Message_writeParentList 45 = .ok (.getfield 12, 3) := by decide +kernel
theorem d_Message_writeParentList_48 : decode b_Message_writeParentList 48 = .ok (.aload_n 1, 1) := by decide +kernel
theorem d_Message_writeParentList_49 : decode b_Message_writeParentList 49 = .ok (.iload 7, 2) := by decide +kernel
theorem d_Message_writeParentList_51 : decode b_Message_writeParentList 51 = .ok (.invokevirtual 107, 3) := by decide +kernel
theorem d_Message_writeParentList_54 : decode b_Message_writeParentList 54 = .ok (.invokevirtual 42, 3) := by decide +kernel
theorem d_Message_writeParentList_57 : decode b_Message_writeParentList 57 = .ok (.lload 5, 2) := by decide +kernel
end
section
theorem d_Message_writeParentList_59 : decode b_Message_writeParentList 59 = .ok (.iload 7, 2) := by decide +kernel
theorem d_Message_writeParentList_61 : decode b_Message_writeParentList 61 = .ok (.invokestatic 91, 3) := by decide +kernel
theorem d_Message_writeParentList_64 : decode b_Message_writeParentList 64 = .ok (.ldc2_w 110, 3) := by decide +kernel
theorem d_Message_writeParentList_67 : decode b_Message_writeParentList 67 = .ok (.lxor, 1) := by decide +kernel
theorem d_Message_writeParentList_68 : decode b_Message_writeParentList 68 = .ok (.land, 1) := by decide +kernel
theorem d_Message_writeParentList_69 : decode b_Message_writeParentList 69 = .ok (.lstore 5, 2) := by decide +kernel
theorem d_Message_writeParentList_71 : decode b_Message_writeParentList 71 = .ok (.aload_n 1, 1) := by decide +kernel
theorem d_Message_writeParentList_72 : decode b_Message_writeParentList 72 = .ok (.lload 5, 2) := by decide +kernel
theorem d_Message_writeParentList_74 : decode b_Message_writeParentList 74 = .ok (.invokevirtual 104, 3) := by decide +kernel
theorem d_Message_writeParentList_77 : decode b_Message_writeParentList 77 = .ok (.istore 7, 2) := by decide +kernel
theorem d_Message_writeParentList_79 : decode b_Message_writeParentList 79 = .ok (.iinc 8 1, 3) := by decide +kernel
theorem d_Message_writeParentList_82 : decode b_Message_writeParentList 82 = .ok (.goto (-51), 3) := by decide +kernel
theorem d_Message_writeParentList_85 : decode b_Message_writeParentList 85 = .ok (.return_, 1) := by decide +kernel
theorem d_Message_writeParents_0 : decode b_Message_writeParents 0 = .ok (.iconst 0, 1) := by decide +kernel
theorem d_Message_writeParents_1 : decode b_Message_writeParents 1 = .ok (.istore_n 3, 1) := by decide +kernel
theorem d_Message_writeParents_2 : decode b_Message_writeParents 2 = .ok (.iload_n 3, 1) := by decide +kernel
theorem d_Message_writeParents_3 : decode b_Message_writeParents 3 = .ok (.aload_n 2, 1) := by decide +kernel
theorem d_Message_writeParents_4 : decode b_Message_writeParents 4 = .ok (.invokevirtual 36, 3) := by decide +kernel
theorem d_Message_writeParents_7 : decode b_Message_writeParents 7 = .ok (.if_icmp .ge 58, 3) := by decide +kernel
theorem d_Message_writeParents_10 : decode b_Message_writeParents 10 = .ok (.aload_n 1, 1) := by decide +kernel
theorem d_Message_writeParents_11 : decode b_Message_writeParents 11 = .ok (.aload_n 2, 1) := by decide +kernel
theorem d_Message_writeParents_12 : decode b_Message_writeParents 12 = .ok (.iload_n 3, 1) := by decide +kernel
theorem d_Message_writeParents_13 : decode b_Message_writeParents 13 = .ok (.invokevirtual 62, 3) := by decide +kernel
theorem d_Message_writeParents_16 : decode b_Message_writeParents 16 = .ok (.invokevirtual 87, 3) := by decide +kernel
theorem d_Message_writeParents_19 : decode b_Message_writeParents 19 = .ok (.lstore 4, 2) := by decide +kernel
theorem d_Message_writeParents_21 : decode b_Message_writeParents 21 = .ok (.iload_n 3, 1) := by decide +kernel
theorem d_Message_writeParents_22 : decode b_Message_writeParents 22 = .ok (.ifCond .le 30, 3) := by decide +kernel
theorem d_Message_writeParents_25 : decode b_Message_writeParents 25 = .ok (.lload 4, 2) := by decide +kernel
theorem d_Message_writeParents_27 : decode b_Message_writeParents 27 = .ok (.aload_n 2, 1) := by decide +kernel
theorem d_Message_writeParents_28 : decode b_Message_writeParents 28 = .ok (.iload_n 3, 1) := by decide +kernel
theorem d_Message_writeParents_29 : decode b_Message_writeParents 29 = .ok (.iconst 1, 1) := by decide +kernel
theorem d_Message_writeParents_30 : decode b_Message_writeParents 30 = .ok (.isub, 1) := by decide +kernel
theorem d_Message_writeParents_31 : decode b_Message_writeParents 31 = .ok (.invokevirtual 62, 3) := by decide +kernel
theorem d_Message_writeParents_34 : decode b_Message_writeParents 34 = .ok (.invokestatic 91, 3) := by decide +kernel
theorem d_Message_writeParents_37 : decode b_Message_writeParents 37 = .ok (.lcmp, 1) := by decide +kernel
theorem d_Message_writeParents_38 : decode b_Message_writeParents 38 = .ok (.ifCond .ne 14, 3) := by decide +kernel
theorem d_Message_writeParents_41 : decode b_Message_writeParents 41 = .ok (.aload_n 0, 1) := by decide +kernel
theorem d_Message_writeParents_42 : decode b_Message_writeParents 42 = .ok (.getfield 12, 3) := by decide +kernel
theorem d_Message_writeParents_45 : decode b_Message_writeParents 45 = .ok (.iconst 0, 1) := by decide +kernel
theorem d_Message_writeParents_46 : decode b_Message_writeParents 46 = .ok (.invokevirtual 42, 3) := by decide +kernel
theorem d_Message_writeParents_49 : decode b_Message_writeParents 49 = .ok (.goto 10, 3) := by decide +kernel
theorem d_Message_writeParents_52 : decode b_Message_writeParents 52 = .ok (.aload_n 0, 1) := by decide +kernel
theorem d_Message_writeParents_53 : decode b_Message_writeParents 53 = .ok (.aload_n 1, 1) := by decide +kernel
theorem d_Message_writeParents_54 : decode b_Message_writeParents 54 = .ok (.lload 4, 2) := by decide +kernel
theorem d_Message_writeParents_56 : decode b_Message_writeParents 56 = .ok (.invokevirtual 94, 3) := by decide +kernel
theorem d_Message_writeParents_59 : decode b_Message_writeParents 59 = .ok (.iinc 3 1, 3) := by decide +kernel
theorem d_Message_writeParents_62 : decode b_Message_writeParents 62 = .ok (.goto (-60), 3) := by decide +kernel
theorem d_Message_writeParents_65 : decode b_Message_writeParents 65 = .ok (.return_, 1) := by decide +kernel
theorem d_Message_write_0 : decode b_Message_write 0 = .ok (.aload_n 0, 1) := by decide +kernel
theorem d_Message_write_1 : decode b_Message_write 1 = .ok (.getfield 12, 3) := by decide +kernel
theorem d_Message_write_4 : decode b_Message_write 4 = .ok (.invokevirtual 33, 3) := by decide +kernel
theorem d_Message_write_7 : decode b_Message_write 7 = .ok (.aload_n 0, 1) := by decide +kernel
theorem d_Message_write_8 : decode b_Message_write 8 = .ok (.getfield 12, 3) := by decide +kernel
theorem d_Message_write_11 : decode b_Message_write 11 = .ok (.aload_n 2, 1) := by decide +kernel
theorem d_Message_write_12 : decode b_Message_write 12 = .ok (.invokevirtual 36, 3) := by decide +kernel
theorem d_Message_write_15 : decode b_Message_write 15 = .ok (.invokevirtual 42, 3) := by decide +kernel
theorem d_Message_write_18 : decode b_Message_write 18 = .ok (.aload_n 0, 1) := by decide +kernel
theorem d_Message_write_19 : decode b_Message_write 19 = .ok (.aload_n 1, 1) := by decide +kernel
theorem d_Message_write_20 : decode b_Message_write 20 = .ok (.aload_n 2, 1) := by decide +kernel
theorem d_Message_write_21 : decode b_Message_write 21 = .ok (.invokevirtual 46, 3) := by decide +kernel
theorem d_Message_write_24 : decode b_Message_write 24 = .ok (.aload_n 0, 1) := by decide +kernel
theorem d_Message_write_25 : decode b_Message_write 25 = .ok (.aload_n 1, 1) := by decide +kernel
theorem d_Message_write_26 : decode b_Message_write 26 = .ok (.aload_n 2, 1) := by decide +kernel
theorem d_Message_write_27 : decode b_Message_write 27 = .ok (.invokevirtual 50, 3) := by decide +kernel
theorem d_Message_write_30 : decode b_Message_write 30 = .ok (.aload_n 0, 1) := by decide +kernel
theorem d_Message_write_31 : decode b_Message_write 31 = .ok (.aload_n 1, 1) := by decide +kernel
theorem d_Message_write_32 : decode b_Message_write 32 = .ok (.aload_n 2, 1) := by decide +kernel
theorem d_Message_write_33 : decode b_Message_write 33 = .ok (.invokevirtual 53, 3) := by decide +kernel
theorem d_Message_write_36 : decode b_Message_write 36 = .ok (.aload_n 0, 1) := by decide +kernel
theorem d_Message_write_37 : decode b_Message_write 37 = .ok (.aload_n 1, 1) := by decide +kernel
theorem d_Message_write_38 : decode b_Message_write 38 = .ok (.aload_n 2, 1) := by decide +kernel
theorem d_Message_write_39 : decode b_Message_write 39 = .ok (.invokevirtual 56, 3) := by decide +kernel
theorem d_Message_write_42 : decode b_Message_write 42 = .ok (.aload_n 0, 1) := by decide +kernel
theorem d_Message_write_43 : decode b_Message_write 43 = .ok (.aload_n 1, 1) := by decide +kernel
theorem d_Message_write_44 : decode b_Message_write 44 = .ok (.aload_n 2, 1) := by decide +kernel
theorem d_Message_write_45 : decode b_Message_write 45 = .ok (.invokevirtual 59, 3) := by decide +kernel
theorem d_Message_write_48 : decode b_Message_write 48 = .ok (.return_, 1) := by decide +kernel
theorem d_Text_send_0 : decode b_Text_send 0 = .ok (.iload_n 1, 1) := by decide +kernel
theorem d_Text_send_1 : decode b_Text_send 1 = .ok (.iload_n 2, 1) := by decide +kernel
theorem d_Text_send_2 : decode b_Text_send 2 = .ok (.invokestatic 93, 3) := by decide +kernel
theorem d_Text_send_5 : decode b_Text_send 5 = .ok (.ifCond .ne 7, 3) := by decide +kernel
theorem d_Text_send_8 : decode b_Text_send 8 = .ok (.sipush (-1000), 3) := by decide +kernel
theorem d_Text_send_11 : decode b_Text_send 11 = .ok (.ireturn, 1) := by decide +kernel
theorem d_Text_send_12 : decode b_Text_send 12 = .ok (.aload_n 0, 1) := by decide +kernel
theorem d_Text_send_13 : decode b_Text_send 13 = .ok (.getfield 32, 3) := by decide +kernel
theorem d_Text_send_16 : decode b_Text_send 16 = .ok (.iload_n 1, 1) := by decide +kernel
theorem d_Text_send_17 : decode b_Text_send 17 = .ok (.aaload, 1) := by decide +kernel
theorem d_Text_send_18 : decode b_Text_send 18 = .ok (.astore_n 3, 1) := by decide +kernel
theorem d_Text_send_19 : decode b_Text_send 19 = .ok (.aload_n 3, 1) := by decide +kernel
theorem d_Text_send_20 : decode b_Text_send 20 = .ok (.getfield 52, 3) := by decide +kernel
theorem d_Text_send_23 : decode b_Text_send 23 = .ok (.aload_n 3, 1) := by decide +kernel
theorem d_Text_send_24 : decode b_Text_send 24 = .ok (.getfield 97, 3) := by decide +kernel
theorem d_Text_send_27 : decode b_Text_send 27 = .ok (.iload_n 2, 1) := by decide +kernel
theorem d_Text_send_28 : decode b_Text_send 28 = .ok (.laload, 1) := by decide +kernel
theorem d_Text_send_29 : decode b_Text_send 29 = .ok (.ldc2_w 101, 3) := by decide +kernel
theorem d_Text_send_32 : decode b_Text_send 32 = .ok (.lxor, 1) := by decide +kernel
theorem d_Text_send_33 : decode b_Text_send 33 = .ok (.land, 1) := by decide +kernel
theorem d_Text_send_34 : decode b_Text_send 34 = .ok (.lstore 4, 2) := by decide +kernel
theorem d_Text_send_36 : decode b_Text_send 36 = .ok (.aload_n 0, 1) := by decide +kernel
theorem d_Text_send_37 : decode b_Text_send 37 = .ok (.invokevirtual 103, 3) := by decide +kernel
theorem d_Text_send_40 : decode b_Text_send 40 = .ok (.istore 6, 2) := by decide +kernel
theorem d_Text_send_42 : decode b_Text_send 42 = .ok (.lload 4, 2) := by decide +kernel
theorem d_Text_send_44 : decode b_Text_send 44 = .ok (.lconst 0, 1) := by decide +kernel
theorem d_Text_send_45 : decode b_Text_send 45 = .ok (.lcmp, 1) := by decide +kernel
theorem d_Text_send_46 : decode b_Text_send 46 = .ok (.ifCond .eq 10, 3) := by decide +kernel
theorem d_Text_send_49 : decode b_Text_send 49 = .ok (.iload 6, 2) := by decide +kernel
theorem d_Text_send_51 : decode b_Text_send 51 = .ok (.bipush 6, 2) := by decide +kernel
theorem d_Text_send_53 : decode b_Text_send 53 = .ok (.if_icmp .ne 7, 3) := by decide +kernel
theorem d_Text_send_56 : decode b_Text_send 56 = .ok (.sipush (-1000), 3) := by decide +kernel
theorem d_Text_send_59 : decode b_Text_send 59 = .ok (.ireturn, 1) := by decide +kernel
theorem d_Text_send_60 : decode b_Text_send 60 = .ok (.aload_n 0, 1) := by decide +kernel
theorem d_Text_send_61 : decode b_Text_send 61 = .ok (.getfield 26, 3) := by decide +kernel
theorem d_Text_send_64 : decode b_Text_send 64 = .ok (.aload_n 0, 1) := by decide +kernel
theorem d_Text_send_65 : decode b_Text_send 65 = .ok (.getfield 10, 3) := by decide +kernel
theorem d_Text_send_68 : decode b_Text_send 68 = .ok (.lload 4, 2) := by decide +kernel
theorem d_Text_send_70 : decode b_Text_send 70 = .ok (.invokevirtual 107, 3) := by decide +kernel
theorem d_Text_send_73 : decode b_Text_send 73 = .ok (.aload_n 0, 1) := by decide +kernel
theorem d_Text_send_74 : decode b_Text_send 74 = .ok (.getfield 39, 3) := by decide +kernel
theorem d_Text_send_77 : decode b_Text_send 77 = .ok (.iload 6, 2) := by decide +kernel
theorem d_Text_send_79 : decode b_Text_send 79 = .ok (.aaload, 1) := by decide +kernel
theorem d_Text_send_80 : decode b_Text_send 80 = .ok (.iload_n 1, 1) := by decide +kernel
theorem d_Text_send_81 : decode b_Text_send 81 = .ok (.iload_n 2, 1) := by decide +kernel
theorem d_Text_send_82 : decode b_Text_send 82 = .ok (.lload 4, 2) := by decide +kernel
theorem d_Text_send_84 : decode b_Text_send 84 = .ok (.invokevirtual 111, 3) := by decide +kernel
theorem d_Text_send_87 : decode b_Text_send 87 = .ok (.aload_n 0, 1) := by decide +kernel
theorem d_Text_send_88 : decode b_Text_send 88 = .ok (.getfield 39, 3) := by decide +kernel
theorem d_Text_send_91 : decode b_Text_send 91 = .ok (.iload 6, 2) := by decide +kernel
theorem d_Text_send_93 : decode b_Text_send 93 = .ok (.aaload, 1) := by decide +kernel
theorem d_Text_send_94 : decode b_Text_send 94 = .ok (.aload_n 0, 1) := by decide +kernel
theorem d_Text_send_95 : decode b_Text_send 95 = .ok (.getfield 10, 3) := by decide +kernel
theorem d_Text_send_98 : decode b_Text_send 98 = .ok (.aload_n 0, 1) := by decide +kernel
theorem d_Text_send_99 : decode b_Text_send 99 = .ok (.getfield 26, 3) := by decide +kernel
theorem d_Text_send_102 : decode b_Text_send 102 = .ok (.invokevirtual 115, 3) := by decide +kernel
theorem d_Text_send_105 : decode b_Text_send 105 = .ok (.aload_n 3, 1) := by decide +kernel
theorem d_Text_send_106 : decode b_Text_send 106 = .ok (.getfield 97, 3) := by decide +kernel
theorem d_Text_send_109 : decode b_Text_send 109 = .ok (.iload_n 2, 1) := by decide +kernel
theorem d_Text_send_110 : decode b_Text_send 110 = .ok (.aload_n 3, 1) := by decide +kernel
theorem d_Text_send_111 : decode b_Text_send 111 = .ok (.getfield 52, 3) := by decide +kernel
theorem d_Text_send_114 : decode b_Text_send 114 = .ok (.lastore, 1) := by decide +kernel
theorem d_Text_send_115 : decode b_Text_send 115 = .ok (.iload 6, 2) := by decide +kernel
theorem d_Text_send_117 : decode b_Text_send 117 = .ok (.ireturn, 1) := by decide +kernel
theorem d_Text_isUnderWay_0 : decode b_Text_isUnderWay 0 = .ok (.iload_n 1, 1) := by decide +kernel
theorem d_Text_isUnderWay_1 : decode b_Text_isUnderWay 1 = .ok (.ifCond .lt 25, 3) := by decide +kernel
theorem d_Text_isUnderWay_4 : decode b_Text_isUnderWay 4 = .ok (.iload_n 1, 1) := by decide +kernel
theorem d_Text_isUnderWay_5 : decode b_Text_isUnderWay 5 = .ok (.bipush 6, 2) := by decide +kernel
theorem d_Text_isUnderWay_7 : decode b_Text_isUnderWay 7 = .ok (.if_icmp .ge 19, 3) := by decide +kernel
theorem d_Text_isUnderWay_10 : decode b_Text_isUnderWay 10 = .ok (.aload_n 0, 1) := by decide +kernel
theorem d_Text_isUnderWay_11 : decode b_Text_isUnderWay 11 = .ok (.getfield 39, 3) := by decide +kernel
theorem d_Text_isUnderWay_14 : decode b_Text_isUnderWay 14 = .ok (.iload_n 1, 1) := by decide +kernel
theorem d_Text_isUnderWay_15 : decode b_Text_isUnderWay 15 = .ok (.aaload, 1) := by decide +kernel
theorem d_Text_isUnderWay_16 : decode b_Text_isUnderWay 16 = .ok (.getfield 148, 3) := by decide +kernel
theorem d_Text_isUnderWay_19 : decode b_Text_isUnderWay 19 = .ok (.ifCond .eq 7, 3) := by decide +kernel
theorem d_Text_isUnderWay_22 : decode b_Text_isUnderWay 22 = .ok (.iconst 1, 1) := by decide +kernel
theorem d_Text_isUnderWay_23 : decode b_Text_isUnderWay 23 = .ok (.goto 4, 3) := by decide +kernel
theorem d_Text_isUnderWay_26 : decode b_Text_isUnderWay 26 = .ok (.iconst 0, 1) := by decide +kernel
theorem d_Text_isUnderWay_27 : decode b_Text_isUnderWay 27 = .ok (.ireturn, 1) := by decide +kernel
theorem d_History_withAncestors_0 : decode b_History_withAncestors 0 = .ok (.lload_n 1, 1) := by decide +kernel
theorem d_History_withAncestors_1 : decode b_History_withAncestors 1 = .ok (.lstore_n 3, 1) := by decide +kernel
theorem d_History_withAncestors_2 : decode b_History_withAncestors 2 = .ok (.iconst 0, 1) := by decide +kernel
theorem d_History_withAncestors_3 : decode b_History_withAncestors 3 = .ok (.istore 5, 2) := by decide +kernel
theorem d_History_withAncestors_5 : decode b_History_withAncestors 5 = .ok (.iload 5, 2) := by decide +kernel
theorem d_History_withAncestors_7 : decode b_History_withAncestors 7 = .ok (.aload_n 0, 1) := by decide +kernel
theorem d_History_withAncestors_8 : decode b_History_withAncestors 8 = .ok (.getfield 37, 3) := by decide +kernel
theorem d_History_withAncestors_11 : decode b_History_withAncestors 11 = .ok (.if_icmp .ge 28, 3) := by decide +kernel
theorem d_History_withAncestors_14 : decode b_History_withAncestors 14 = .ok (.lload_n 1, 1) := by decide +kernel
theorem d_History_withAncestors_15 : decode b_History_withAncestors 15 = .ok (.iload 5, 2) := by decide +kernel
theorem d_History_withAncestors_17 : decode b_History_withAncestors 17 = .ok (.invokestatic 53, 3) := by decide +kernel
theorem d_History_withAncestors_20 : decode b_History_withAncestors 20 = .ok (.ifCond .eq 13, 3) := by decide +kernel
theorem d_History_withAncestors_23 : decode b_History_withAncestors 23 = .ok (.lload_n 3, 1) := by decide +kernel
theorem d_History_withAncestors_24 : decode b_History_withAncestors 24 = .ok (.aload_n 0, 1) := by decide +kernel
theorem d_History_withAncestors_25 : decode b_History_withAncestors 25 = .ok (.getfield 28, 3) := by decide +kernel
theorem d_History_withAncestors_28 : decode b_History_withAncestors 28 = .ok (.iload 5, 2) := by decide +kernel
theorem d_History_withAncestors_30 : decode b_History_withAncestors 30 = .ok (.laload, 1) := by decide +kernel
theorem d_History_withAncestors_31 : decode b_History_withAncestors 31 = .ok (.lor, 1) := by decide +kernel
theorem d_History_withAncestors_32 : decode b_History_withAncestors 32 = .ok (.lstore_n 3, 1) := by decide +kernel
theorem d_History_withAncestors_33 : decode b_History_withAncestors 33 = .ok (.iinc 5 1, 3) := by decide +kernel
theorem d_History_withAncestors_36 : decode b_History_withAncestors 36 = .ok (.goto (-31), 3) := by decide +kernel
theorem d_History_withAncestors_39 : decode b_History_withAncestors 39 = .ok (.lload_n 3, 1) := by decide +kernel
theorem d_History_withAncestors_40 : decode b_History_withAncestors 40 = .ok (.lreturn, 1) := by decide +kernel
theorem d_History_upTo_0 : decode b_History_upTo 0 = .ok (.iload_n 1, 1) := by decide +kernel
theorem d_History_upTo_1 : decode b_History_upTo 1 = .ok (.iconst (-1), 1) := by decide +kernel
theorem d_History_upTo_2 : decode b_History_upTo 2 = .ok (.if_icmp .ne 7, 3) := by decide +kernel
theorem d_History_upTo_5 : decode b_History_upTo 5 = .ok (.lconst 0, 1) := by decide +kernel
theorem d_History_upTo_6 : decode b_History_upTo 6 = .ok (.goto 14, 3) := by decide +kernel
theorem d_History_upTo_9 : decode b_History_upTo 9 = .ok (.aload_n 0, 1) := by decide +kernel
theorem d_History_upTo_10 : decode b_History_upTo 10 = .ok (.getfield 28, 3) := by decide +kernel
theorem d_History_upTo_13 : decode b_History_upTo 13 = .ok (.iload_n 1, 1) := by decide +kernel
theorem d_History_upTo_14 : decode b_History_upTo 14 = .ok (.laload, 1) := by decide +kernel
theorem d_History_upTo_15 : decode b_History_upTo 15 = .ok (.iload_n 1, 1) := by decide +kernel
theorem d_History_upTo_16 : decode b_History_upTo 16 = .ok (.invokestatic 49, 3) := by decide +kernel
theorem d_History_upTo_19 : decode b_History_upTo 19 = .ok (.lor, 1) := by decide +kernel
theorem d_History_upTo_20 : decode b_History_upTo 20 = .ok (.lreturn, 1) := by decide +kernel
theorem d_History_descendantsOf_0 : decode b_History_descendantsOf 0 = .ok (.lconst 0, 1) := by decide +kernel
theorem d_History_descendantsOf_1 : decode b_History_descendantsOf 1 = .ok (.lstore 4, 2) := by decide +kernel
theorem d_History_descendantsOf_3 : decode b_History_descendantsOf 3 = .ok (.iload_n 1, 1) := by decide +kernel
theorem d_History_descendantsOf_4 : decode b_History_descendantsOf 4 = .ok (.iconst 1, 1) := by decide +kernel
theorem d_History_descendantsOf_5 : decode b_History_descendantsOf 5 = .ok (.iadd, 1) := by decide +kernel
theorem d_History_descendantsOf_6 : decode b_History_descendantsOf 6 = .ok (.istore 6, 2) := by decide +kernel
theorem d_History_descendantsOf_8 : decode b_History_descendantsOf 8 = .ok (.iload 6, 2) := by decide +kernel
theorem d_History_descendantsOf_10 : decode b_History_descendantsOf 10 = .ok (.aload_n 0, 1) := by decide +kernel
theorem d_History_descendantsOf_11 : decode b_History_descendantsOf 11 = .ok (.getfield 37, 3) := by decide +kernel
theorem d_History_descendantsOf_14 : decode b_History_descendantsOf 14 = .ok (.if_icmp .ge 42, 3) := by decide +kernel
theorem d_History_descendantsOf_17 : decode b_History_descendantsOf 17 = .ok (.lload_n 2, 1) := by decide +kernel
theorem d_History_descendantsOf_18 : decode b_History_descendantsOf 18 = .ok (.iload 6, 2) := by decide +kernel
theorem d_History_descendantsOf_20 : decode b_History_descendantsOf 20 = .ok (.invokestatic 53, 3) := by decide +kernel
theorem d_History_descendantsOf_23 : decode b_History_descendantsOf 23 = .ok (.ifCond .eq 27, 3) := by decide +kernel
theorem d_History_descendantsOf_26 : decode b_History_descendantsOf 26 = .ok (.aload_n 0, 1) := by decide +kernel
theorem d_History_descendantsOf_27 : decode b_History_descendantsOf 27 = .ok (.getfield 28, 3) := by decide +kernel
theorem d_History_descendantsOf_30 : decode b_History_descendantsOf 30 = .ok (.iload 6, 2) := by decide +kernel
theorem d_History_descendantsOf_32 : decode b_History_descendantsOf 32 = .ok (.laload, 1) := by decide +kernel
theorem d_History_descendantsOf_33 : decode b_History_descendantsOf 33 = .ok (.iload_n 1, 1) := by decide +kernel
theorem d_History_descendantsOf_34 : decode b_History_descendantsOf 34 = .ok (.invokestatic 53, 3) := by decide +kernel
theorem d_History_descendantsOf_37 : decode b_History_descendantsOf 37 = .ok (.ifCond .eq 13, 3) := by decide +kernel
theorem d_History_descendantsOf_40 : decode b_History_descendantsOf 40 = .ok (.lload 4, 2) := by decide +kernel
theorem d_History_descendantsOf_42 : decode b_History_descendantsOf 42 = .ok (.iload 6, 2) := by decide +kernel
theorem d_History_descendantsOf_44 : decode b_History_descendantsOf 44 = .ok (.invokestatic 49, 3) := by decide +kernel
theorem d_History_descendantsOf_47 : decode b_History_descendantsOf 47 = .ok (.lor, 1) := by decide +kernel
theorem d_History_descendantsOf_48 : decode b_History_descendantsOf 48 = .ok (.lstore 4, 2) := by decide +kernel
theorem d_History_descendantsOf_50 : decode b_History_descendantsOf 50 = .ok (.iinc 6 1, 3) := by decide +kernel
theorem d_History_descendantsOf_53 : decode b_History_descendantsOf 53 = .ok (.goto (-45), 3) := by decide +kernel
theorem d_History_descendantsOf_56 : decode b_History_descendantsOf 56 = .ok (.lload 4, 2) := by decide +kernel
theorem d_History_descendantsOf_58 : decode b_History_descendantsOf 58 = .ok (.lreturn, 1) := by decide +kernel
theorem d_History_isCritical_0 : decode b_History_isCritical 0 = .ok (.lload_n 2, 1) := by decide +kernel
theorem d_History_isCritical_1 : decode b_History_isCritical 1 = .ok (.aload_n 0, 1) := by decide +kernel
theorem d_History_isCritical_2 : decode b_History_isCritical 2 = .ok (.iload_n 1, 1) := by decide +kernel
theorem d_History_isCritical_3 : decode b_History_isCritical 3 = .ok (.invokevirtual 66, 3) := by decide +kernel
theorem d_History_isCritical_6 : decode b_History_isCritical 6 = .ok (.aload_n 0, 1) := by decide +kernel
theorem d_History_isCritical_7 : decode b_History_isCritical 7 = .ok (.iload_n 1, 1) := by decide +kernel
theorem d_History_isCritical_8 : decode b_History_isCritical 8 = .ok (.lload_n 2, 1) := by decide +kernel
theorem d_History_isCritical_9 : decode b_History_isCritical 9 = .ok (.invokevirtual 69, 3) := by decide +kernel
theorem d_History_isCritical_12 : decode b_History_isCritical 12 = .ok (.lor, 1) := by decide +kernel
theorem d_History_isCritical_13 : decode b_History_isCritical 13 = .ok (.ldc2_w 64, 3) := by decide +kernel
theorem d_History_isCritical_16 : decode b_History_isCritical 16 = .ok (.lxor, 1) := by decide +kernel
theorem d_History_isCritical_17 : decode b_History_isCritical 17 = .ok (.land, 1) := by decide +kernel
theorem d_History_isCritical_18 : decode b_History_isCritical 18 = .ok (.lconst 0, 1) := by decide +kernel
theorem d_History_isCritical_19 : decode b_History_isCritical 19 = .ok (.lcmp, 1) := by decide +kernel
theorem d_History_isCritical_20 : decode b_History_isCritical 20 = .ok (.ifCond .ne 7, 3) := by decide +kernel
theorem d_History_isCritical_23 : decode b_History_isCritical 23 = .ok (.iconst 1, 1) := by decide +kernel
theorem d_History_isCritical_24 : decode b_History_isCritical 24 = .ok (.goto 4, 3) := by decide +kernel
theorem d_History_isCritical_27 : decode b_History_isCritical 27 = .ok (.iconst 0, 1) := by decide +kernel
theorem d_History_isCritical_28 : decode b_History_isCritical 28 = .ok (.ireturn, 1) := by decide +kernel
theorem d_History_lastCritical_0 : decode b_History_lastCritical 0 = .ok (.aload_n 0, 1) := by decide +kernel
theorem d_History_lastCritical_1 : decode b_History_lastCritical 1 = .ok (.getfield 37, 3) := by decide +kernel
theorem d_History_lastCritical_4 : decode b_History_lastCritical 4 = .ok (.iconst 1, 1) := by decide +kernel
theorem d_History_lastCritical_5 : decode b_History_lastCritical 5 = .ok (.isub, 1) := by decide +kernel
theorem d_History_lastCritical_6 : decode b_History_lastCritical 6 = .ok (.istore 5, 2) := by decide +kernel
theorem d_History_lastCritical_8 : decode b_History_lastCritical 8 = .ok (.iload 5, 2) := by decide +kernel
theorem d_History_lastCritical_10 : decode b_History_lastCritical 10 = .ok (.ifCond .lt 31, 3) := by decide +kernel
theorem d_History_lastCritical_13 : decode b_History_lastCritical 13 = .ok (.lload_n 3, 1) := by decide +kernel
theorem d_History_lastCritical_14 : decode b_History_lastCritical 14 = .ok (.iload 5, 2) := by decide +kernel
theorem d_History_lastCritical_16 : decode b_History_lastCritical 16 = .ok (.invokestatic 53, 3) := by decide +kernel
theorem d_History_lastCritical_19 : decode b_History_lastCritical 19 = .ok (.ifCond .eq 16, 3) := by decide +kernel
theorem d_History_lastCritical_22 : decode b_History_lastCritical 22 = .ok (.aload_n 0, 1) := by decide +kernel
theorem d_History_lastCritical_23 : decode b_History_lastCritical 23 = .ok (.iload 5, 2) := by decide +kernel
theorem d_History_lastCritical_25 : decode b_History_lastCritical 25 = .ok (.lload_n 1, 1) := by decide +kernel
theorem d_History_lastCritical_26 : decode b_History_lastCritical 26 = .ok (.invokevirtual 73, 3) := by decide +kernel
theorem d_History_lastCritical_29 : decode b_History_lastCritical 29 = .ok (.ifCond .eq 6, 3) := by decide +kernel
theorem d_History_lastCritical_32 : decode b_History_lastCritical 32 = .ok (.iload 5, 2) := by decide +kernel
theorem d_History_lastCritical_34 : decode b_History_lastCritical 34 = .ok (.ireturn, 1) := by decide +kernel
theorem d_History_lastCritical_35 : decode b_History_lastCritical 35 = .ok (.iinc 5 (-1), 3) := by decide +kernel
theorem d_History_lastCritical_38 : decode b_History_lastCritical 38 = .ok (.goto (-30), 3) := by decide +kernel
theorem d_History_lastCritical_41 : decode b_History_lastCritical 41 = .ok (.iconst (-1), 1) := by decide +kernel
theorem d_History_lastCritical_42 : decode b_History_lastCritical 42 = .ok (.ireturn, 1) := by decide +kernel
theorem d_History_ancestorsOf_0 : decode b_History_ancestorsOf 0 = .ok (.aload_n 0, 1) := by decide +kernel
theorem d_History_ancestorsOf_1 : decode b_History_ancestorsOf 1 = .ok (.getfield 28, 3) := by decide +kernel
theorem d_History_ancestorsOf_4 : decode b_History_ancestorsOf 4 = .ok (.iload_n 1, 1) := by decide +kernel
theorem d_History_ancestorsOf_5 : decode b_History_ancestorsOf 5 = .ok (.laload, 1) := by decide +kernel
theorem d_History_ancestorsOf_6 : decode b_History_ancestorsOf 6 = .ok (.lreturn, 1) := by decide +kernel
theorem d_Merge_passThrough_0 : decode b_Merge_passThrough 0 = .ok (.lload_n 3, 1) := by decide +kernel
theorem d_Merge_passThrough_1 : decode b_Merge_passThrough 1 = .ok (.lstore 5, 2) := by decide +kernel
theorem d_Merge_passThrough_3 : decode b_Merge_passThrough 3 = .ok (.iconst 0, 1) := by decide +kernel
theorem d_Merge_passThrough_4 : decode b_Merge_passThrough 4 = .ok (.istore 7, 2) := by decide +kernel
theorem d_Merge_passThrough_6 : decode b_Merge_passThrough 6 = .ok (.iload 7, 2) := by decide +kernel
theorem d_Merge_passThrough_8 : decode b_Merge_passThrough 8 = .ok (.aload_n 2, 1) := by decide +kernel
theorem d_Merge_passThrough_9 : decode b_Merge_passThrough 9 = .ok (.invokevirtual 57, 3) := by decide +kernel
theorem d_Merge_passThrough_12 : decode b_Merge_passThrough 12 = .ok (.if_icmp .ge 46, 3) := by decide +kernel
theorem d_Merge_passThrough_15 : decode b_Merge_passThrough 15 = .ok (.aload_n 2, 1) := by decide +kernel
theorem d_Merge_passThrough_16 : decode b_Merge_passThrough 16 = .ok (.iload 7, 2) := by decide +kernel
theorem d_Merge_passThrough_18 : decode b_Merge_passThrough 18 = .ok (.invokevirtual 61, 3) := by decide +kernel
theorem d_Merge_passThrough_21 : decode b_Merge_passThrough 21 = .ok (.istore 8, 2) := by decide +kernel
theorem d_Merge_passThrough_23 : decode b_Merge_passThrough 23 = .ok (.aload_n 0, 1) := by decide +kernel
theorem d_Merge_passThrough_24 : decode b_Merge_passThrough 24 = .ok (.dup, 1) := by decide +kernel
theorem d_Merge_passThrough_25 : decode b_Merge_passThrough 25 = .ok (.getfield 22, 3) := by decide +kernel
theorem d_Merge_passThrough_28 : decode b_Merge_passThrough 28 = .ok (.lload 5, 2) := by decide +kernel
theorem d_Merge_passThrough_30 : decode b_Merge_passThrough 30 = .ok (.aload_n 1, 1) := by decide +kernel
theorem d_Merge_passThrough_31 : decode b_Merge_passThrough 31 = .ok (.iload 8, 2) := by decide +kernel
theorem d_Merge_passThrough_33 : decode b_Merge_passThrough 33 = .ok (.invokevirtual 65, 3) := by decide +kernel
theorem d_Merge_passThrough_36 : decode b_Merge_passThrough 36 = .ok (.lxor, 1) := by decide +kernel
theorem d_Merge_passThrough_37 : decode b_Merge_passThrough 37 = .ok (.invokestatic 37, 3) := by decide +kernel
theorem d_Merge_passThrough_40 : decode b_Merge_passThrough 40 = .ok (.iadd, 1) := by decide +kernel
theorem d_Merge_passThrough_41 : decode b_Merge_passThrough 41 = .ok (.putfield 22, 3) := by decide +kernel
theorem d_Merge_passThrough_44 : decode b_Merge_passThrough 44 = .ok (.aload_n 1, 1) := by decide +kernel
theorem d_Merge_passThrough_45 : decode b_Merge_passThrough 45 = .ok (.iload 8, 2) := by decide +kernel
theorem d_Merge_passThrough_47 : decode b_Merge_passThrough 47 = .ok (.invokevirtual 31, 3) := by decide +kernel
theorem d_Merge_passThrough_50 : decode b_Merge_passThrough 50 = .ok (.lstore 5, 2) := by decide +kernel
theorem d_Merge_passThrough_52 : decode b_Merge_passThrough 52 = .ok (.iinc 7 1, 3) := by decide +kernel
theorem d_Merge_passThrough_55 : decode b_Merge_passThrough 55 = .ok (.goto (-49), 3) := by decide +kernel
theorem d_Merge_passThrough_58 : decode b_Merge_passThrough 58 = .ok (.lload 5, 2) := by decide +kernel
theorem d_Merge_passThrough_60 : decode b_Merge_passThrough 60 = .ok (.lreturn, 1) := by decide +kernel
theorem d_CharacterList_indexIn_0 : decode b_CharacterList_indexIn 0 = .ok (.iconst 0, 1) := by decide +kernel
end
section
theorem d_CharacterList_indexIn_1 : decode b_CharacterList_indexIn 1 = .ok (.istore 4, 2) := by decide +kernel
theorem d_CharacterList_indexIn_3 : decode b_CharacterList_indexIn 3 = .ok (.iconst 0, 1) := by decide +kernel
theorem d_CharacterList_indexIn_4 : decode b_CharacterList_indexIn 4 = .ok (.istore 5, 2) := by decide +kernel
theorem d_CharacterList_indexIn_6 : decode b_CharacterList_indexIn 6 = .ok (.iload 5, 2) := by decide +kernel
theorem d_CharacterList_indexIn_8 : decode b_CharacterList_indexIn 8 = .ok (.aload_n 0, 1) := by decide +kernel
theorem d_CharacterList_indexIn_9 : decode b_CharacterList_indexIn 9 = .ok (.getfield 36, 3) := by decide +kernel
theorem d_CharacterList_indexIn_12 : decode b_CharacterList_indexIn 12 = .ok (.if_icmp .ge 37, 3) := by decide +kernel
theorem d_CharacterList_indexIn_15 : decode b_CharacterList_indexIn 15 = .ok (.aload_n 0, 1) := by decide +kernel
theorem d_CharacterList_indexIn_16 : decode b_CharacterList_indexIn 16 = .ok (.getfield 9, 3) := by decide +kernel
theorem d_CharacterList_indexIn_19 : decode b_CharacterList_indexIn 19 = .ok (.iload 5, 2) := by decide +kernel
theorem d_CharacterList_indexIn_21 : decode b_CharacterList_indexIn 21 = .ok (.iaload, 1) := by decide +kernel
theorem d_CharacterList_indexIn_22 : decode b_CharacterList_indexIn 22 = .ok (.iload_n 3, 1) := by decide +kernel
theorem d_CharacterList_indexIn_23 : decode b_CharacterList_indexIn 23 = .ok (.if_icmp .eq 26, 3) := by decide +kernel
theorem d_CharacterList_indexIn_26 : decode b_CharacterList_indexIn 26 = .ok (.lload_n 1, 1) := by decide +kernel
theorem d_CharacterList_indexIn_27 : decode b_CharacterList_indexIn 27 = .ok (.aload_n 0, 1) := by decide +kernel
theorem d_CharacterList_indexIn_28 : decode b_CharacterList_indexIn 28 = .ok (.getfield 9, 3) := by decide +kernel
theorem d_CharacterList_indexIn_31 : decode b_CharacterList_indexIn 31 = .ok (.iload 5, 2) := by decide +kernel
theorem d_CharacterList_indexIn_33 : decode b_CharacterList_indexIn 33 = .ok (.iaload, 1) := by decide +kernel
theorem d_CharacterList_indexIn_34 : decode b_CharacterList_indexIn 34 = .ok (.invokestatic 44, 3) := by decide +kernel
theorem d_CharacterList_indexIn_37 : decode b_CharacterList_indexIn 37 = .ok (.ifCond .eq 6, 3) := by decide +kernel
theorem d_CharacterList_indexIn_40 : decode b_CharacterList_indexIn 40 = .ok (.iinc 4 1, 3) := by decide +kernel
theorem d_CharacterList_indexIn_43 : decode b_CharacterList_indexIn 43 = .ok (.iinc 5 1, 3) := by decide +kernel
theorem d_CharacterList_indexIn_46 : decode b_CharacterList_indexIn 46 = .ok (.goto (-40), 3) := by decide +kernel
theorem d_CharacterList_indexIn_49 : decode b_CharacterList_indexIn 49 = .ok (.iload 4, 2) := by decide +kernel
theorem d_CharacterList_indexIn_51 : decode b_CharacterList_indexIn 51 = .ok (.ireturn, 1) := by decide +kernel
theorem d_CharacterList_takenBy_0 : decode b_CharacterList_takenBy 0 = .ok (.aload_n 0, 1) := by decide +kernel
theorem d_CharacterList_takenBy_1 : decode b_CharacterList_takenBy 1 = .ok (.getfield 26, 3) := by decide +kernel
theorem d_CharacterList_takenBy_4 : decode b_CharacterList_takenBy 4 = .ok (.iload_n 1, 1) := by decide +kernel
theorem d_CharacterList_takenBy_5 : decode b_CharacterList_takenBy 5 = .ok (.iaload, 1) := by decide +kernel
theorem d_CharacterList_takenBy_6 : decode b_CharacterList_takenBy 6 = .ok (.ireturn, 1) := by decide +kernel
theorem d_Merge_removal_0 : decode b_Merge_removal 0 = .ok (.aload_n 0, 1) := by decide +kernel
theorem d_Merge_removal_1 : decode b_Merge_removal 1 = .ok (.lload_n 1, 1) := by decide +kernel
theorem d_Merge_removal_2 : decode b_Merge_removal 2 = .ok (.invokevirtual 72, 3) := by decide +kernel
theorem d_Merge_removal_5 : decode b_Merge_removal 5 = .ok (.lstore 4, 2) := by decide +kernel
theorem d_Merge_removal_7 : decode b_Merge_removal 7 = .ok (.lload 4, 2) := by decide +kernel
theorem d_Merge_removal_9 : decode b_Merge_removal 9 = .ok (.iload_n 3, 1) := by decide +kernel
theorem d_Merge_removal_10 : decode b_Merge_removal 10 = .ok (.invokestatic 92, 3) := by decide +kernel
theorem d_Merge_removal_13 : decode b_Merge_removal 13 = .ok (.ifCond .eq 15, 3) := by decide +kernel
theorem d_Merge_removal_16 : decode b_Merge_removal 16 = .ok (.iconst (-1), 1) := by decide +kernel
theorem d_Merge_removal_17 : decode b_Merge_removal 17 = .ok (.aload_n 0, 1) := by decide +kernel
theorem d_Merge_removal_18 : decode b_Merge_removal 18 = .ok (.lload 4, 2) := by decide +kernel
theorem d_Merge_removal_20 : decode b_Merge_removal 20 = .ok (.iload_n 3, 1) := by decide +kernel
theorem d_Merge_removal_21 : decode b_Merge_removal 21 = .ok (.invokevirtual 78, 3) := by decide +kernel
theorem d_Merge_removal_24 : decode b_Merge_removal 24 = .ok (.isub, 1) := by decide +kernel
theorem d_Merge_removal_25 : decode b_Merge_removal 25 = .ok (.goto 6, 3) := by decide +kernel
theorem d_Merge_removal_28 : decode b_Merge_removal 28 = .ok (.sipush 1000, 3) := by decide +kernel
theorem d_Merge_removal_31 : decode b_Merge_removal 31 = .ok (.ireturn, 1) := by decide +kernel
theorem d_Merge_applyAll_0 : decode b_Merge_applyAll 0 = .ok (.lload 4, 2) := by decide +kernel
theorem d_Merge_applyAll_2 : decode b_Merge_applyAll 2 = .ok (.lstore 6, 2) := by decide +kernel
theorem d_Merge_applyAll_4 : decode b_Merge_applyAll 4 = .ok (.aload_n 0, 1) := by decide +kernel
theorem d_Merge_applyAll_5 : decode b_Merge_applyAll 5 = .ok (.aload_n 3, 1) := by decide +kernel
theorem d_Merge_applyAll_6 : decode b_Merge_applyAll 6 = .ok (.invokevirtual 57, 3) := by decide +kernel
theorem d_Merge_applyAll_9 : decode b_Merge_applyAll 9 = .ok (.putfield 15, 3) := by decide +kernel
theorem d_Merge_applyAll_12 : decode b_Merge_applyAll 12 = .ok (.iconst 0, 1) := by decide +kernel
theorem d_Merge_applyAll_13 : decode b_Merge_applyAll 13 = .ok (.istore 8, 2) := by decide +kernel
theorem d_Merge_applyAll_15 : decode b_Merge_applyAll 15 = .ok (.iload 8, 2) := by decide +kernel
theorem d_Merge_applyAll_17 : decode b_Merge_applyAll 17 = .ok (.aload_n 0, 1) := by decide +kernel
theorem d_Merge_applyAll_18 : decode b_Merge_applyAll 18 = .ok (.getfield 15, 3) := by decide +kernel
theorem d_Merge_applyAll_21 : decode b_Merge_applyAll 21 = .ok (.if_icmp .ge 70, 3) := by decide +kernel
theorem d_Merge_applyAll_24 : decode b_Merge_applyAll 24 = .ok (.aload_n 3, 1) := by decide +kernel
theorem d_Merge_applyAll_25 : decode b_Merge_applyAll 25 = .ok (.iload 8, 2) := by decide +kernel
theorem d_Merge_applyAll_27 : decode b_Merge_applyAll 27 = .ok (.invokevirtual 61, 3) := by decide +kernel
theorem d_Merge_applyAll_30 : decode b_Merge_applyAll 30 = .ok (.istore 9, 2) := by decide +kernel
theorem d_Merge_applyAll_32 : decode b_Merge_applyAll 32 = .ok (.aload_n 0, 1) := by decide +kernel
theorem d_Merge_applyAll_33 : decode b_Merge_applyAll 33 = .ok (.getfield 9, 3) := by decide +kernel
theorem d_Merge_applyAll_36 : decode b_Merge_applyAll 36 = .ok (.iload 8, 2) := by decide +kernel
theorem d_Merge_applyAll_38 : decode b_Merge_applyAll 38 = .ok (.aload_n 1, 1) := by decide +kernel
theorem d_Merge_applyAll_39 : decode b_Merge_applyAll 39 = .ok (.iload 9, 2) := by decide +kernel
theorem d_Merge_applyAll_41 : decode b_Merge_applyAll 41 = .ok (.invokevirtual 68, 3) := by decide +kernel
theorem d_Merge_applyAll_44 : decode b_Merge_applyAll 44 = .ok (.ifCond .eq 18, 3) := by decide +kernel
theorem d_Merge_applyAll_47 : decode b_Merge_applyAll 47 = .ok (.aload_n 2, 1) := by decide +kernel
theorem d_Merge_applyAll_48 : decode b_Merge_applyAll 48 = .ok (.aload_n 2, 1) := by decide +kernel
theorem d_Merge_applyAll_49 : decode b_Merge_applyAll 49 = .ok (.lload 6, 2) := by decide +kernel
theorem d_Merge_applyAll_51 : decode b_Merge_applyAll 51 = .ok (.invokevirtual 72, 3) := by decide +kernel
theorem d_Merge_applyAll_54 : decode b_Merge_applyAll 54 = .ok (.iload 9, 2) := by decide +kernel
theorem d_Merge_applyAll_56 : decode b_Merge_applyAll 56 = .ok (.invokevirtual 78, 3) := by decide +kernel
theorem d_Merge_applyAll_59 : decode b_Merge_applyAll 59 = .ok (.goto 15, 3) := by decide +kernel
theorem d_Merge_applyAll_62 : decode b_Merge_applyAll 62 = .ok (.aload_n 2, 1) := by decide +kernel
theorem d_Merge_applyAll_63 : decode b_Merge_applyAll 63 = .ok (.lload 6, 2) := by decide +kernel
theorem d_Merge_applyAll_65 : decode b_Merge_applyAll 65 = .ok (.aload_n 2, 1) := by decide +kernel
theorem d_Merge_applyAll_66 : decode b_Merge_applyAll 66 = .ok (.iload 9, 2) := by decide +kernel
theorem d_Merge_applyAll_68 : decode b_Merge_applyAll 68 = .ok (.invokevirtual 82, 3) := by decide +kernel
theorem d_Merge_applyAll_71 : decode b_Merge_applyAll 71 = .ok (.invokestatic 85, 3) := by decide +kernel
theorem d_Merge_applyAll_74 : decode b_Merge_applyAll 74 = .ok (.iastore, 1) := by decide +kernel
theorem d_Merge_applyAll_75 : decode b_Merge_applyAll 75 = .ok (.lload 6, 2) := by decide +kernel
theorem d_Merge_applyAll_77 : decode b_Merge_applyAll 77 = .ok (.iload 9, 2) := by decide +kernel
theorem d_Merge_applyAll_79 : decode b_Merge_applyAll 79 = .ok (.invokestatic 89, 3) := by decide +kernel
theorem d_Merge_applyAll_82 : decode b_Merge_applyAll 82 = .ok (.lor, 1) := by decide +kernel
theorem d_Merge_applyAll_83 : decode b_Merge_applyAll 83 = .ok (.lstore 6, 2) := by decide +kernel
theorem d_Merge_applyAll_85 : decode b_Merge_applyAll 85 = .ok (.iinc 8 1, 3) := by decide +kernel
theorem d_Merge_applyAll_88 : decode b_Merge_applyAll 88 = .ok (.goto (-73), 3) := by decide +kernel
theorem d_Merge_applyAll_91 : decode b_Merge_applyAll 91 = .ok (.return_, 1) := by decide +kernel
theorem d_Merge_perform_0 : decode b_Merge_perform 0 = .ok (.aload_n 1, 1) := by decide +kernel
theorem d_Merge_perform_1 : decode b_Merge_perform 1 = .ok (.aload_n 1, 1) := by decide +kernel
theorem d_Merge_perform_2 : decode b_Merge_perform 2 = .ok (.lload 4, 2) := by decide +kernel
theorem d_Merge_perform_4 : decode b_Merge_perform 4 = .ok (.lload 6, 2) := by decide +kernel
theorem d_Merge_perform_6 : decode b_Merge_perform 6 = .ok (.lor, 1) := by decide +kernel
theorem d_Merge_perform_7 : decode b_Merge_perform 7 = .ok (.lload 4, 2) := by decide +kernel
theorem d_Merge_perform_9 : decode b_Merge_perform 9 = .ok (.invokevirtual 25, 3) := by decide +kernel
theorem d_Merge_perform_12 : decode b_Merge_perform 12 = .ok (.invokevirtual 31, 3) := by decide +kernel
theorem d_Merge_perform_15 : decode b_Merge_perform 15 = .ok (.lstore 8, 2) := by decide +kernel
theorem d_Merge_perform_17 : decode b_Merge_perform 17 = .ok (.lload 4, 2) := by decide +kernel
theorem d_Merge_perform_19 : decode b_Merge_perform 19 = .ok (.lload 8, 2) := by decide +kernel
theorem d_Merge_perform_21 : decode b_Merge_perform 21 = .ok (.ldc2_w 35, 3) := by decide +kernel
theorem d_Merge_perform_24 : decode b_Merge_perform 24 = .ok (.lxor, 1) := by decide +kernel
theorem d_Merge_perform_25 : decode b_Merge_perform 25 = .ok (.land, 1) := by decide +kernel
theorem d_Merge_perform_26 : decode b_Merge_perform 26 = .ok (.lstore 10, 2) := by decide +kernel
theorem d_Merge_perform_28 : decode b_Merge_perform 28 = .ok (.aload_n 0, 1) := by decide +kernel
theorem d_Merge_perform_29 : decode b_Merge_perform 29 = .ok (.iconst 0, 1) := by decide +kernel
theorem d_Merge_perform_30 : decode b_Merge_perform 30 = .ok (.putfield 22, 3) := by decide +kernel
theorem d_Merge_perform_33 : decode b_Merge_perform 33 = .ok (.aload_n 0, 1) := by decide +kernel
theorem d_Merge_perform_34 : decode b_Merge_perform 34 = .ok (.lload 10, 2) := by decide +kernel
theorem d_Merge_perform_36 : decode b_Merge_perform 36 = .ok (.invokestatic 37, 3) := by decide +kernel
theorem d_Merge_perform_39 : decode b_Merge_perform 39 = .ok (.putfield 19, 3) := by decide +kernel
theorem d_Merge_perform_42 : decode b_Merge_perform 42 = .ok (.aload_n 3, 1) := by decide +kernel
theorem d_Merge_perform_43 : decode b_Merge_perform 43 = .ok (.aload_n 1, 1) := by decide +kernel
theorem d_Merge_perform_44 : decode b_Merge_perform 44 = .ok (.lload 10, 2) := by decide +kernel
theorem d_Merge_perform_46 : decode b_Merge_perform 46 = .ok (.invokevirtual 43, 3) := by decide +kernel
theorem d_Merge_perform_49 : decode b_Merge_perform 49 = .ok (.aload_n 0, 1) := by decide +kernel
theorem d_Merge_perform_50 : decode b_Merge_perform 50 = .ok (.aload_n 1, 1) := by decide +kernel
theorem d_Merge_perform_51 : decode b_Merge_perform 51 = .ok (.aload_n 3, 1) := by decide +kernel
theorem d_Merge_perform_52 : decode b_Merge_perform 52 = .ok (.lload 8, 2) := by decide +kernel
theorem d_Merge_perform_54 : decode b_Merge_perform 54 = .ok (.invokevirtual 49, 3) := by decide +kernel
theorem d_Merge_perform_57 : decode b_Merge_perform 57 = .ok (.lstore 12, 2) := by decide +kernel
theorem d_Merge_perform_59 : decode b_Merge_perform 59 = .ok (.aload_n 3, 1) := by decide +kernel
theorem d_Merge_perform_60 : decode b_Merge_perform 60 = .ok (.aload_n 1, 1) := by decide +kernel
theorem d_Merge_perform_61 : decode b_Merge_perform 61 = .ok (.lload 6, 2) := by decide +kernel
theorem d_Merge_perform_63 : decode b_Merge_perform 63 = .ok (.invokevirtual 43, 3) := by decide +kernel
theorem d_Merge_perform_66 : decode b_Merge_perform 66 = .ok (.aload_n 0, 1) := by decide +kernel
theorem d_Merge_perform_67 : decode b_Merge_perform 67 = .ok (.aload_n 1, 1) := by decide +kernel
theorem d_Merge_perform_68 : decode b_Merge_perform 68 = .ok (.aload_n 3, 1) := by decide +kernel
theorem d_Merge_perform_69 : decode b_Merge_perform 69 = .ok (.lload 12, 2) := by decide +kernel
theorem d_Merge_perform_71 : decode b_Merge_perform 71 = .ok (.invokevirtual 49, 3) := by decide +kernel
theorem d_Merge_perform_74 : decode b_Merge_perform 74 = .ok (.pop2, 1) := by decide +kernel
theorem d_Merge_perform_75 : decode b_Merge_perform 75 = .ok (.aload_n 0, 1) := by decide +kernel
theorem d_Merge_perform_76 : decode b_Merge_perform 76 = .ok (.aload_n 1, 1) := by decide +kernel
theorem d_Merge_perform_77 : decode b_Merge_perform 77 = .ok (.aload_n 2, 1) := by decide +kernel
theorem d_Merge_perform_78 : decode b_Merge_perform 78 = .ok (.aload_n 3, 1) := by decide +kernel
theorem d_Merge_perform_79 : decode b_Merge_perform 79 = .ok (.lload 4, 2) := by decide +kernel
theorem d_Merge_perform_81 : decode b_Merge_perform 81 = .ok (.invokevirtual 53, 3) := by decide +kernel
theorem d_Merge_perform_84 : decode b_Merge_perform 84 = .ok (.return_, 1) := by decide +kernel
theorem d_Text_deliver_0 : decode b_Text_deliver 0 = .ok (.aload_n 0, 1) := by decide +kernel
theorem d_Text_deliver_1 : decode b_Text_deliver 1 = .ok (.iload_n 1, 1) := by decide +kernel
theorem d_Text_deliver_2 : decode b_Text_deliver 2 = .ok (.invokevirtual 119, 3) := by decide +kernel
theorem d_Text_deliver_5 : decode b_Text_deliver 5 = .ok (.ifCond .ne 7, 3) := by decide +kernel
theorem d_Text_deliver_8 : decode b_Text_deliver 8 = .ok (.sipush (-1000), 3) := by decide +kernel
theorem d_Text_deliver_11 : decode b_Text_deliver 11 = .ok (.ireturn, 1) := by decide +kernel
theorem d_Text_deliver_12 : decode b_Text_deliver 12 = .ok (.aload_n 0, 1) := by decide +kernel
theorem d_Text_deliver_13 : decode b_Text_deliver 13 = .ok (.getfield 39, 3) := by decide +kernel
theorem d_Text_deliver_16 : decode b_Text_deliver 16 = .ok (.iload_n 1, 1) := by decide +kernel
theorem d_Text_deliver_17 : decode b_Text_deliver 17 = .ok (.aaload, 1) := by decide +kernel
theorem d_Text_deliver_18 : decode b_Text_deliver 18 = .ok (.astore_n 2, 1) := by decide +kernel
theorem d_Text_deliver_19 : decode b_Text_deliver 19 = .ok (.aload_n 2, 1) := by decide +kernel
theorem d_Text_deliver_20 : decode b_Text_deliver 20 = .ok (.getfield 122, 3) := by decide +kernel
theorem d_Text_deliver_23 : decode b_Text_deliver 23 = .ok (.lstore_n 3, 1) := by decide +kernel
theorem d_Text_deliver_24 : decode b_Text_deliver 24 = .ok (.aload_n 0, 1) := by decide +kernel
theorem d_Text_deliver_25 : decode b_Text_deliver 25 = .ok (.getfield 32, 3) := by decide +kernel
theorem d_Text_deliver_28 : decode b_Text_deliver 28 = .ok (.aload_n 2, 1) := by decide +kernel
theorem d_Text_deliver_29 : decode b_Text_deliver 29 = .ok (.getfield 125, 3) := by decide +kernel
theorem d_Text_deliver_32 : decode b_Text_deliver 32 = .ok (.aaload, 1) := by decide +kernel
theorem d_Text_deliver_33 : decode b_Text_deliver 33 = .ok (.astore 5, 2) := by decide +kernel
theorem d_Text_deliver_35 : decode b_Text_deliver 35 = .ok (.aload 5, 2) := by decide +kernel
theorem d_Text_deliver_37 : decode b_Text_deliver 37 = .ok (.getfield 52, 3) := by decide +kernel
theorem d_Text_deliver_40 : decode b_Text_deliver 40 = .ok (.lstore 6, 2) := by decide +kernel
theorem d_Text_deliver_42 : decode b_Text_deliver 42 = .ok (.aload_n 0, 1) := by decide +kernel
theorem d_Text_deliver_43 : decode b_Text_deliver 43 = .ok (.getfield 10, 3) := by decide +kernel
theorem d_Text_deliver_46 : decode b_Text_deliver 46 = .ok (.lload_n 3, 1) := by decide +kernel
theorem d_Text_deliver_47 : decode b_Text_deliver 47 = .ok (.invokevirtual 129, 3) := by decide +kernel
theorem d_Text_deliver_50 : decode b_Text_deliver 50 = .ok (.lload_n 3, 1) := by decide +kernel
theorem d_Text_deliver_51 : decode b_Text_deliver 51 = .ok (.lload 6, 2) := by decide +kernel
theorem d_Text_deliver_53 : decode b_Text_deliver 53 = .ok (.lor, 1) := by decide +kernel
theorem d_Text_deliver_54 : decode b_Text_deliver 54 = .ok (.ldc2_w 101, 3) := by decide +kernel
theorem d_Text_deliver_57 : decode b_Text_deliver 57 = .ok (.lxor, 1) := by decide +kernel
theorem d_Text_deliver_58 : decode b_Text_deliver 58 = .ok (.land, 1) := by decide +kernel
theorem d_Text_deliver_59 : decode b_Text_deliver 59 = .ok (.lconst 0, 1) := by decide +kernel
theorem d_Text_deliver_60 : decode b_Text_deliver 60 = .ok (.lcmp, 1) := by decide +kernel
theorem d_Text_deliver_61 : decode b_Text_deliver 61 = .ok (.ifCond .eq 5, 3) := by decide +kernel
theorem d_Text_deliver_64 : decode b_Text_deliver 64 = .ok (.iconst (-1), 1) := by decide +kernel
theorem d_Text_deliver_65 : decode b_Text_deliver 65 = .ok (.ireturn, 1) := by decide +kernel
theorem d_Text_deliver_66 : decode b_Text_deliver 66 = .ok (.aload 5, 2) := by decide +kernel
theorem d_Text_deliver_68 : decode b_Text_deliver 68 = .ok (.getfield 97, 3) := by decide +kernel
theorem d_Text_deliver_71 : decode b_Text_deliver 71 = .ok (.aload_n 2, 1) := by decide +kernel
theorem d_Text_deliver_72 : decode b_Text_deliver 72 = .ok (.getfield 132, 3) := by decide +kernel
theorem d_Text_deliver_75 : decode b_Text_deliver 75 = .ok (.dup2, 1) := by decide +kernel
theorem d_Text_deliver_76 : decode b_Text_deliver 76 = .ok (.laload, 1) := by decide +kernel
theorem d_Text_deliver_77 : decode b_Text_deliver 77 = .ok (.aload_n 0, 1) := by decide +kernel
theorem d_Text_deliver_78 : decode b_Text_deliver 78 = .ok (.getfield 10, 3) := by decide +kernel
theorem d_Text_deliver_81 : decode b_Text_deliver 81 = .ok (.lload_n 3, 1) := by decide +kernel
theorem d_Text_deliver_82 : decode b_Text_deliver 82 = .ok (.invokevirtual 135, 3) := by decide +kernel
theorem d_Text_deliver_85 : decode b_Text_deliver 85 = .ok (.lor, 1) := by decide +kernel
theorem d_Text_deliver_86 : decode b_Text_deliver 86 = .ok (.lastore, 1) := by decide +kernel
theorem d_Text_deliver_87 : decode b_Text_deliver 87 = .ok (.lload_n 3, 1) := by decide +kernel
theorem d_Text_deliver_88 : decode b_Text_deliver 88 = .ok (.lload 6, 2) := by decide +kernel
theorem d_Text_deliver_90 : decode b_Text_deliver 90 = .ok (.ldc2_w 101, 3) := by decide +kernel
theorem d_Text_deliver_93 : decode b_Text_deliver 93 = .ok (.lxor, 1) := by decide +kernel
theorem d_Text_deliver_94 : decode b_Text_deliver 94 = .ok (.land, 1) := by decide +kernel
theorem d_Text_deliver_95 : decode b_Text_deliver 95 = .ok (.lstore 8, 2) := by decide +kernel
theorem d_Text_deliver_97 : decode b_Text_deliver 97 = .ok (.lload 8, 2) := by decide +kernel
theorem d_Text_deliver_99 : decode b_Text_deliver 99 = .ok (.lconst 0, 1) := by decide +kernel
theorem d_Text_deliver_100 : decode b_Text_deliver 100 = .ok (.lcmp, 1) := by decide +kernel
theorem d_Text_deliver_101 : decode b_Text_deliver 101 = .ok (.ifCond .eq 37, 3) := by decide +kernel
theorem d_Text_deliver_104 : decode b_Text_deliver 104 = .ok (.aload 5, 2) := by decide +kernel
theorem d_Text_deliver_106 : decode b_Text_deliver 106 = .ok (.getfield 138, 3) := by decide +kernel
theorem d_Text_deliver_109 : decode b_Text_deliver 109 = .ok (.aload_n 0, 1) := by decide +kernel
theorem d_Text_deliver_110 : decode b_Text_deliver 110 = .ok (.getfield 10, 3) := by decide +kernel
theorem d_Text_deliver_113 : decode b_Text_deliver 113 = .ok (.aload_n 0, 1) := by decide +kernel
theorem d_Text_deliver_114 : decode b_Text_deliver 114 = .ok (.getfield 19, 3) := by decide +kernel
theorem d_Text_deliver_117 : decode b_Text_deliver 117 = .ok (.aload_n 0, 1) := by decide +kernel
theorem d_Text_deliver_118 : decode b_Text_deliver 118 = .ok (.getfield 26, 3) := by decide +kernel
theorem d_Text_deliver_121 : decode b_Text_deliver 121 = .ok (.lload 6, 2) := by decide +kernel
theorem d_Text_deliver_123 : decode b_Text_deliver 123 = .ok (.lload 8, 2) := by decide +kernel
theorem d_Text_deliver_125 : decode b_Text_deliver 125 = .ok (.invokevirtual 142, 3) := by decide +kernel
theorem d_Text_deliver_128 : decode b_Text_deliver 128 = .ok (.aload 5, 2) := by decide +kernel
theorem d_Text_deliver_130 : decode b_Text_deliver 130 = .ok (.lload 6, 2) := by decide +kernel
theorem d_Text_deliver_132 : decode b_Text_deliver 132 = .ok (.lload 8, 2) := by decide +kernel
theorem d_Text_deliver_134 : decode b_Text_deliver 134 = .ok (.lor, 1) := by decide +kernel
theorem d_Text_deliver_135 : decode b_Text_deliver 135 = .ok (.putfield 52, 3) := by decide +kernel
theorem d_Text_deliver_138 : decode b_Text_deliver 138 = .ok (.lload 8, 2) := by decide +kernel
theorem d_Text_deliver_140 : decode b_Text_deliver 140 = .ok (.invokestatic 60, 3) := by decide +kernel
theorem d_Text_deliver_143 : decode b_Text_deliver 143 = .ok (.ireturn, 1) := by decide +kernel
theorem d_Text_discard_0 : decode b_Text_discard 0 = .ok (.aload_n 0, 1) := by decide +kernel
theorem d_Text_discard_1 : decode b_Text_discard 1 = .ok (.iload_n 1, 1) := by decide +kernel
theorem d_Text_discard_2 : decode b_Text_discard 2 = .ok (.invokevirtual 119, 3) := by decide +kernel
theorem d_Text_discard_5 : decode b_Text_discard 5 = .ok (.ifCond .ne 5, 3) := by decide +kernel
theorem d_Text_discard_8 : decode b_Text_discard 8 = .ok (.iconst 0, 1) := by decide +kernel
theorem d_Text_discard_9 : decode b_Text_discard 9 = .ok (.ireturn, 1) := by decide +kernel
theorem d_Text_discard_10 : decode b_Text_discard 10 = .ok (.aload_n 0, 1) := by decide +kernel
theorem d_Text_discard_11 : decode b_Text_discard 11 = .ok (.getfield 39, 3) := by decide +kernel
theorem d_Text_discard_14 : decode b_Text_discard 14 = .ok (.iload_n 1, 1) := by decide +kernel
theorem d_Text_discard_15 : decode b_Text_discard 15 = .ok (.aaload, 1) := by decide +kernel
theorem d_Text_discard_16 : decode b_Text_discard 16 = .ok (.iconst 0, 1) := by decide +kernel
theorem d_Text_discard_17 : decode b_Text_discard 17 = .ok (.putfield 148, 3) := by decide +kernel
theorem d_Text_discard_20 : decode b_Text_discard 20 = .ok (.iconst 1, 1) := by decide +kernel
theorem d_Text_discard_21 : decode b_Text_discard 21 = .ok (.ireturn, 1) := by decide +kernel
theorem d_Text_hear_0 : decode b_Text_hear 0 = .ok (.iload_n 1, 1) := by decide +kernel
theorem d_Text_hear_1 : decode b_Text_hear 1 = .ok (.iload_n 2, 1) := by decide +kernel
theorem d_Text_hear_2 : decode b_Text_hear 2 = .ok (.invokestatic 93, 3) := by decide +kernel
theorem d_Text_hear_5 : decode b_Text_hear 5 = .ok (.ifCond .ne 7, 3) := by decide +kernel
theorem d_Text_hear_8 : decode b_Text_hear 8 = .ok (.sipush (-1000), 3) := by decide +kernel
theorem d_Text_hear_11 : decode b_Text_hear 11 = .ok (.ireturn, 1) := by decide +kernel
theorem d_Text_hear_12 : decode b_Text_hear 12 = .ok (.aload_n 0, 1) := by decide +kernel
theorem d_Text_hear_13 : decode b_Text_hear 13 = .ok (.getfield 32, 3) := by decide +kernel
theorem d_Text_hear_16 : decode b_Text_hear 16 = .ok (.iload_n 1, 1) := by decide +kernel
theorem d_Text_hear_17 : decode b_Text_hear 17 = .ok (.aaload, 1) := by decide +kernel
theorem d_Text_hear_18 : decode b_Text_hear 18 = .ok (.astore_n 3, 1) := by decide +kernel
theorem d_Text_hear_19 : decode b_Text_hear 19 = .ok (.aload_n 0, 1) := by decide +kernel
theorem d_Text_hear_20 : decode b_Text_hear 20 = .ok (.getfield 10, 3) := by decide +kernel
theorem d_Text_hear_23 : decode b_Text_hear 23 = .ok (.aload_n 0, 1) := by decide +kernel
theorem d_Text_hear_24 : decode b_Text_hear 24 = .ok (.getfield 32, 3) := by decide +kernel
theorem d_Text_hear_27 : decode b_Text_hear 27 = .ok (.iload_n 2, 1) := by decide +kernel
theorem d_Text_hear_28 : decode b_Text_hear 28 = .ok (.aaload, 1) := by decide +kernel
theorem d_Text_hear_29 : decode b_Text_hear 29 = .ok (.getfield 52, 3) := by decide +kernel
theorem d_Text_hear_32 : decode b_Text_hear 32 = .ok (.invokevirtual 152, 3) := by decide +kernel
theorem d_Text_hear_35 : decode b_Text_hear 35 = .ok (.aload_n 3, 1) := by decide +kernel
theorem d_Text_hear_36 : decode b_Text_hear 36 = .ok (.getfield 52, 3) := by decide +kernel
theorem d_Text_hear_39 : decode b_Text_hear 39 = .ok (.land, 1) := by decide +kernel
theorem d_Text_hear_40 : decode b_Text_hear 40 = .ok (.lstore 4, 2) := by decide +kernel
theorem d_Text_hear_42 : decode b_Text_hear 42 = .ok (.aload_n 3, 1) := by decide +kernel
theorem d_Text_hear_43 : decode b_Text_hear 43 = .ok (.getfield 97, 3) := by decide +kernel
theorem d_Text_hear_46 : decode b_Text_hear 46 = .ok (.iload_n 2, 1) := by decide +kernel
theorem d_Text_hear_47 : decode b_Text_hear 47 = .ok (.aload_n 0, 1) := by decide +kernel
theorem d_Text_hear_48 : decode b_Text_hear 48 = .ok (.getfield 10, 3) := by decide +kernel
theorem d_Text_hear_51 : decode b_Text_hear 51 = .ok (.lload 4, 2) := by decide +kernel
theorem d_Text_hear_53 : decode b_Text_hear 53 = .ok (.invokevirtual 135, 3) := by decide +kernel
theorem d_Text_hear_56 : decode b_Text_hear 56 = .ok (.lastore, 1) := by decide +kernel
theorem d_Text_hear_57 : decode b_Text_hear 57 = .ok (.aload_n 3, 1) := by decide +kernel
theorem d_Text_hear_58 : decode b_Text_hear 58 = .ok (.getfield 97, 3) := by decide +kernel
theorem d_Text_hear_61 : decode b_Text_hear 61 = .ok (.iload_n 2, 1) := by decide +kernel
theorem d_Text_hear_62 : decode b_Text_hear 62 = .ok (.laload, 1) := by decide +kernel
theorem d_Text_hear_63 : decode b_Text_hear 63 = .ok (.invokestatic 60, 3) := by decide +kernel
theorem d_Text_hear_66 : decode b_Text_hear 66 = .ok (.ireturn, 1) := by decide +kernel
theorem d_Text_believed_0 : decode b_Text_believed 0 = .ok (.iload_n 1, 1) := by decide +kernel
theorem d_Text_believed_1 : decode b_Text_believed 1 = .ok (.iload_n 2, 1) := by decide +kernel
theorem d_Text_believed_2 : decode b_Text_believed 2 = .ok (.invokestatic 93, 3) := by decide +kernel
theorem d_Text_believed_5 : decode b_Text_believed 5 = .ok (.ifCond .eq 20, 3) := by decide +kernel
theorem d_Text_believed_8 : decode b_Text_believed 8 = .ok (.aload_n 0, 1) := by decide +kernel
theorem d_Text_believed_9 : decode b_Text_believed 9 = .ok (.getfield 32, 3) := by decide +kernel
theorem d_Text_believed_12 : decode b_Text_believed 12 = .ok (.iload_n 1, 1) := by decide +kernel
theorem d_Text_believed_13 : decode b_Text_believed 13 = .ok (.aaload, 1) := by decide +kernel
theorem d_Text_believed_14 : decode b_Text_believed 14 = .ok (.getfield 97, 3) := by decide +kernel
theorem d_Text_believed_17 : decode b_Text_believed 17 = .ok (.iload_n 2, 1) := by decide +kernel
theorem d_Text_believed_18 : decode b_Text_believed 18 = .ok (.laload, 1) := by decide +kernel
theorem d_Text_believed_19 : decode b_Text_believed 19 = .ok (.invokestatic 60, 3) := by decide +kernel
theorem d_Text_believed_22 : decode b_Text_believed 22 = .ok (.goto 6, 3) := by decide +kernel
theorem d_Text_believed_25 : decode b_Text_believed 25 = .ok (.sipush (-1000), 3) := by decide +kernel
theorem d_Text_believed_28 : decode b_Text_believed 28 = .ok (.ireturn, 1) := by decide +kernel
theorem d_OctetRow_size_0 : decode b_OctetRow_size 0 = .ok (.aload_n 0, 1) := by decide +kernel
theorem d_OctetRow_size_1 : decode b_OctetRow_size 1 = .ok (.getfield 15, 3) := by decide +kernel
theorem d_OctetRow_size_4 : decode b_OctetRow_size 4 = .ok (.ireturn, 1) := by decide +kernel
theorem d_Text_octets_0 : decode b_Text_octets 0 = .ok (.aload_n 0, 1) := by decide +kernel
theorem d_Text_octets_1 : decode b_Text_octets 1 = .ok (.iload_n 1, 1) := by decide +kernel
theorem d_Text_octets_2 : decode b_Text_octets 2 = .ok (.invokevirtual 119, 3) := by decide +kernel
theorem d_Text_octets_5 : decode b_Text_octets 5 = .ok (.ifCond .eq 18, 3) := by decide +kernel
theorem d_Text_octets_8 : decode b_Text_octets 8 = .ok (.aload_n 0, 1) := by decide +kernel
theorem d_Text_octets_9 : decode b_Text_octets 9 = .ok (.getfield 39, 3) := by decide +kernel
theorem d_Text_octets_12 : decode b_Text_octets 12 = .ok (.iload_n 1, 1) := by decide +kernel
theorem d_Text_octets_13 : decode b_Text_octets 13 = .ok (.aaload, 1) := by decide +kernel
theorem d_Text_octets_14 : decode b_Text_octets 14 = .ok (.getfield 155, 3) := by decide +kernel
theorem d_Text_octets_17 : decode b_Text_octets 17 = .ok (.invokevirtual 159, 3) := by decide +kernel
theorem d_Text_octets_20 : decode b_Text_octets 20 = .ok (.goto 6, 3) := by decide +kernel
end
section
theorem d_Text_octets_23 : decode b_Text_octets 23 = .ok (.sipush (-1000), 3) := by decide +kernel
theorem d_Text_octets_26 : decode b_Text_octets 26 = .ok (.ireturn, 1) := by decide +kernel
theorem d_OctetRow_get_0 : decode b_OctetRow_get 0 = .ok (.iload_n 1, 1) := by decide +kernel
theorem d_OctetRow_get_1 : decode b_OctetRow_get 1 = .ok (.ifCond .lt 20, 3) := by decide +kernel
theorem d_OctetRow_get_4 : decode b_OctetRow_get 4 = .ok (.iload_n 1, 1) := by decide +kernel
theorem d_OctetRow_get_5 : decode b_OctetRow_get 5 = .ok (.aload_n 0, 1) := by decide +kernel
theorem d_OctetRow_get_6 : decode b_OctetRow_get 6 = .ok (.getfield 15, 3) := by decide +kernel
theorem d_OctetRow_get_9 : decode b_OctetRow_get 9 = .ok (.if_icmp .ge 12, 3) := by decide +kernel
theorem d_OctetRow_get_12 : decode b_OctetRow_get 12 = .ok (.aload_n 0, 1) := by decide +kernel
theorem d_OctetRow_get_13 : decode b_OctetRow_get 13 = .ok (.getfield 11, 3) := by decide +kernel
theorem d_OctetRow_get_16 : decode b_OctetRow_get 16 = .ok (.iload_n 1, 1) := by decide +kernel
theorem d_OctetRow_get_17 : decode b_OctetRow_get 17 = .ok (.iaload, 1) := by decide +kernel
theorem d_OctetRow_get_18 : decode b_OctetRow_get 18 = .ok (.goto 6, 3) := by decide +kernel
theorem d_OctetRow_get_21 : decode b_OctetRow_get 21 = .ok (.sipush (-1000), 3) := by decide +kernel
theorem d_OctetRow_get_24 : decode b_OctetRow_get 24 = .ok (.ireturn, 1) := by decide +kernel
theorem d_Text_octet_0 : decode b_Text_octet 0 = .ok (.aload_n 0, 1) := by decide +kernel
theorem d_Text_octet_1 : decode b_Text_octet 1 = .ok (.iload_n 1, 1) := by decide +kernel
theorem d_Text_octet_2 : decode b_Text_octet 2 = .ok (.invokevirtual 119, 3) := by decide +kernel
theorem d_Text_octet_5 : decode b_Text_octet 5 = .ok (.ifCond .eq 19, 3) := by decide +kernel
theorem d_Text_octet_8 : decode b_Text_octet 8 = .ok (.aload_n 0, 1) := by decide +kernel
theorem d_Text_octet_9 : decode b_Text_octet 9 = .ok (.getfield 39, 3) := by decide +kernel
theorem d_Text_octet_12 : decode b_Text_octet 12 = .ok (.iload_n 1, 1) := by decide +kernel
theorem d_Text_octet_13 : decode b_Text_octet 13 = .ok (.aaload, 1) := by decide +kernel
theorem d_Text_octet_14 : decode b_Text_octet 14 = .ok (.getfield 155, 3) := by decide +kernel
theorem d_Text_octet_17 : decode b_Text_octet 17 = .ok (.iload_n 2, 1) := by decide +kernel
theorem d_Text_octet_18 : decode b_Text_octet 18 = .ok (.invokevirtual 164, 3) := by decide +kernel
theorem d_Text_octet_21 : decode b_Text_octet 21 = .ok (.goto 6, 3) := by decide +kernel
theorem d_Text_octet_24 : decode b_Text_octet 24 = .ok (.sipush (-1000), 3) := by decide +kernel
theorem d_Text_octet_27 : decode b_Text_octet 27 = .ok (.ireturn, 1) := by decide +kernel
theorem d_Text_events_0 : decode b_Text_events 0 = .ok (.iload_n 1, 1) := by decide +kernel
theorem d_Text_events_1 : decode b_Text_events 1 = .ok (.invokestatic 44, 3) := by decide +kernel
theorem d_Text_events_4 : decode b_Text_events 4 = .ok (.ifCond .eq 18, 3) := by decide +kernel
theorem d_Text_events_7 : decode b_Text_events 7 = .ok (.aload_n 0, 1) := by decide +kernel
theorem d_Text_events_8 : decode b_Text_events 8 = .ok (.getfield 32, 3) := by decide +kernel
theorem d_Text_events_11 : decode b_Text_events 11 = .ok (.iload_n 1, 1) := by decide +kernel
theorem d_Text_events_12 : decode b_Text_events 12 = .ok (.aaload, 1) := by decide +kernel
theorem d_Text_events_13 : decode b_Text_events 13 = .ok (.getfield 52, 3) := by decide +kernel
theorem d_Text_events_16 : decode b_Text_events 16 = .ok (.invokestatic 60, 3) := by decide +kernel
theorem d_Text_events_19 : decode b_Text_events 19 = .ok (.goto 6, 3) := by decide +kernel
theorem d_Text_events_22 : decode b_Text_events 22 = .ok (.sipush (-1000), 3) := by decide +kernel
theorem d_Text_events_25 : decode b_Text_events 25 = .ok (.ireturn, 1) := by decide +kernel
theorem d_Text_heads_0 : decode b_Text_heads 0 = .ok (.iload_n 1, 1) := by decide +kernel
theorem d_Text_heads_1 : decode b_Text_heads 1 = .ok (.invokestatic 44, 3) := by decide +kernel
theorem d_Text_heads_4 : decode b_Text_heads 4 = .ok (.ifCond .eq 25, 3) := by decide +kernel
theorem d_Text_heads_7 : decode b_Text_heads 7 = .ok (.aload_n 0, 1) := by decide +kernel
theorem d_Text_heads_8 : decode b_Text_heads 8 = .ok (.getfield 10, 3) := by decide +kernel
theorem d_Text_heads_11 : decode b_Text_heads 11 = .ok (.aload_n 0, 1) := by decide +kernel
theorem d_Text_heads_12 : decode b_Text_heads 12 = .ok (.getfield 32, 3) := by decide +kernel
theorem d_Text_heads_15 : decode b_Text_heads 15 = .ok (.iload_n 1, 1) := by decide +kernel
theorem d_Text_heads_16 : decode b_Text_heads 16 = .ok (.aaload, 1) := by decide +kernel
theorem d_Text_heads_17 : decode b_Text_heads 17 = .ok (.getfield 52, 3) := by decide +kernel
theorem d_Text_heads_20 : decode b_Text_heads 20 = .ok (.invokevirtual 152, 3) := by decide +kernel
theorem d_Text_heads_23 : decode b_Text_heads 23 = .ok (.invokestatic 60, 3) := by decide +kernel
theorem d_Text_heads_26 : decode b_Text_heads 26 = .ok (.goto 6, 3) := by decide +kernel
theorem d_Text_heads_29 : decode b_Text_heads 29 = .ok (.sipush (-1000), 3) := by decide +kernel
theorem d_Text_heads_32 : decode b_Text_heads 32 = .ok (.ireturn, 1) := by decide +kernel
theorem d_Text_head_0 : decode b_Text_head 0 = .ok (.iload_n 1, 1) := by decide +kernel
theorem d_Text_head_1 : decode b_Text_head 1 = .ok (.invokestatic 44, 3) := by decide +kernel
theorem d_Text_head_4 : decode b_Text_head 4 = .ok (.ifCond .eq 7, 3) := by decide +kernel
theorem d_Text_head_7 : decode b_Text_head 7 = .ok (.iload_n 2, 1) := by decide +kernel
theorem d_Text_head_8 : decode b_Text_head 8 = .ok (.ifCond .ge 7, 3) := by decide +kernel
theorem d_Text_head_11 : decode b_Text_head 11 = .ok (.sipush (-1000), 3) := by decide +kernel
theorem d_Text_head_14 : decode b_Text_head 14 = .ok (.ireturn, 1) := by decide +kernel
theorem d_Text_head_15 : decode b_Text_head 15 = .ok (.aload_n 0, 1) := by decide +kernel
theorem d_Text_head_16 : decode b_Text_head 16 = .ok (.getfield 10, 3) := by decide +kernel
theorem d_Text_head_19 : decode b_Text_head 19 = .ok (.aload_n 0, 1) := by decide +kernel
theorem d_Text_head_20 : decode b_Text_head 20 = .ok (.getfield 32, 3) := by decide +kernel
theorem d_Text_head_23 : decode b_Text_head 23 = .ok (.iload_n 1, 1) := by decide +kernel
theorem d_Text_head_24 : decode b_Text_head 24 = .ok (.aaload, 1) := by decide +kernel
theorem d_Text_head_25 : decode b_Text_head 25 = .ok (.getfield 52, 3) := by decide +kernel
theorem d_Text_head_28 : decode b_Text_head 28 = .ok (.invokevirtual 152, 3) := by decide +kernel
theorem d_Text_head_31 : decode b_Text_head 31 = .ok (.lstore_n 3, 1) := by decide +kernel
theorem d_Text_head_32 : decode b_Text_head 32 = .ok (.aload_n 0, 1) := by decide +kernel
theorem d_Text_head_33 : decode b_Text_head 33 = .ok (.getfield 10, 3) := by decide +kernel
theorem d_Text_head_36 : decode b_Text_head 36 = .ok (.lload_n 3, 1) := by decide +kernel
theorem d_Text_head_37 : decode b_Text_head 37 = .ok (.invokevirtual 167, 3) := by decide +kernel
theorem d_Text_head_40 : decode b_Text_head 40 = .ok (.istore 5, 2) := by decide +kernel
theorem d_Text_head_42 : decode b_Text_head 42 = .ok (.iconst 0, 1) := by decide +kernel
theorem d_Text_head_43 : decode b_Text_head 43 = .ok (.istore 6, 2) := by decide +kernel
theorem d_Text_head_45 : decode b_Text_head 45 = .ok (.iload 6, 2) := by decide +kernel
theorem d_Text_head_47 : decode b_Text_head 47 = .ok (.iload_n 2, 1) := by decide +kernel
theorem d_Text_head_48 : decode b_Text_head 48 = .ok (.if_icmp .ge 37, 3) := by decide +kernel
theorem d_Text_head_51 : decode b_Text_head 51 = .ok (.iload 5, 2) := by decide +kernel
theorem d_Text_head_53 : decode b_Text_head 53 = .ok (.iconst (-1), 1) := by decide +kernel
theorem d_Text_head_54 : decode b_Text_head 54 = .ok (.if_icmp .eq 31, 3) := by decide +kernel
theorem d_Text_head_57 : decode b_Text_head 57 = .ok (.lload_n 3, 1) := by decide +kernel
theorem d_Text_head_58 : decode b_Text_head 58 = .ok (.iload 5, 2) := by decide +kernel
theorem d_Text_head_60 : decode b_Text_head 60 = .ok (.invokestatic 78, 3) := by decide +kernel
theorem d_Text_head_63 : decode b_Text_head 63 = .ok (.ldc2_w 101, 3) := by decide +kernel
theorem d_Text_head_66 : decode b_Text_head 66 = .ok (.lxor, 1) := by decide +kernel
theorem d_Text_head_67 : decode b_Text_head 67 = .ok (.land, 1) := by decide +kernel
theorem d_Text_head_68 : decode b_Text_head 68 = .ok (.lstore_n 3, 1) := by decide +kernel
theorem d_Text_head_69 : decode b_Text_head 69 = .ok (.aload_n 0, 1) := by decide +kernel
theorem d_Text_head_70 : decode b_Text_head 70 = .ok (.getfield 10, 3) := by decide +kernel
theorem d_Text_head_73 : decode b_Text_head 73 = .ok (.lload_n 3, 1) := by decide +kernel
theorem d_Text_head_74 : decode b_Text_head 74 = .ok (.invokevirtual 167, 3) := by decide +kernel
theorem d_Text_head_77 : decode b_Text_head 77 = .ok (.istore 5, 2) := by decide +kernel
theorem d_Text_head_79 : decode b_Text_head 79 = .ok (.iinc 6 1, 3) := by decide +kernel
theorem d_Text_head_82 : decode b_Text_head 82 = .ok (.goto (-37), 3) := by decide +kernel
theorem d_Text_head_85 : decode b_Text_head 85 = .ok (.iload 5, 2) := by decide +kernel
theorem d_Text_head_87 : decode b_Text_head 87 = .ok (.iconst (-1), 1) := by decide +kernel
theorem d_Text_head_88 : decode b_Text_head 88 = .ok (.if_icmp .ne 9, 3) := by decide +kernel
theorem d_Text_head_91 : decode b_Text_head 91 = .ok (.sipush (-1000), 3) := by decide +kernel
theorem d_Text_head_94 : decode b_Text_head 94 = .ok (.goto 12, 3) := by decide +kernel
theorem d_Text_head_97 : decode b_Text_head 97 = .ok (.aload_n 0, 1) := by decide +kernel
theorem d_Text_head_98 : decode b_Text_head 98 = .ok (.getfield 10, 3) := by decide +kernel
theorem d_Text_head_101 : decode b_Text_head 101 = .ok (.iload 5, 2) := by decide +kernel
theorem d_Text_head_103 : decode b_Text_head 103 = .ok (.invokevirtual 170, 3) := by decide +kernel
theorem d_Text_head_106 : decode b_Text_head 106 = .ok (.ireturn, 1) := by decide +kernel
theorem d_History_wasMade_0 : decode b_History_wasMade 0 = .ok (.iload_n 1, 1) := by decide +kernel
theorem d_History_wasMade_1 : decode b_History_wasMade 1 = .ok (.invokestatic 45, 3) := by decide +kernel
theorem d_History_wasMade_4 : decode b_History_wasMade 4 = .ok (.ifCond .eq 21, 3) := by decide +kernel
theorem d_History_wasMade_7 : decode b_History_wasMade 7 = .ok (.iload_n 2, 1) := by decide +kernel
theorem d_History_wasMade_8 : decode b_History_wasMade 8 = .ok (.ifCond .lt 17, 3) := by decide +kernel
theorem d_History_wasMade_11 : decode b_History_wasMade 11 = .ok (.iload_n 2, 1) := by decide +kernel
theorem d_History_wasMade_12 : decode b_History_wasMade 12 = .ok (.aload_n 0, 1) := by decide +kernel
theorem d_History_wasMade_13 : decode b_History_wasMade 13 = .ok (.getfield 34, 3) := by decide +kernel
theorem d_History_wasMade_16 : decode b_History_wasMade 16 = .ok (.iload_n 1, 1) := by decide +kernel
theorem d_History_wasMade_17 : decode b_History_wasMade 17 = .ok (.iaload, 1) := by decide +kernel
theorem d_History_wasMade_18 : decode b_History_wasMade 18 = .ok (.if_icmp .ge 7, 3) := by decide +kernel
theorem d_History_wasMade_21 : decode b_History_wasMade 21 = .ok (.iconst 1, 1) := by decide +kernel
theorem d_History_wasMade_22 : decode b_History_wasMade 22 = .ok (.goto 4, 3) := by decide +kernel
theorem d_History_wasMade_25 : decode b_History_wasMade 25 = .ok (.iconst 0, 1) := by decide +kernel
theorem d_History_wasMade_26 : decode b_History_wasMade 26 = .ok (.ireturn, 1) := by decide +kernel
theorem d_History_slotOf_0 : decode b_History_slotOf 0 = .ok (.aload_n 0, 1) := by decide +kernel
theorem d_History_slotOf_1 : decode b_History_slotOf 1 = .ok (.getfield 31, 3) := by decide +kernel
theorem d_History_slotOf_4 : decode b_History_slotOf 4 = .ok (.iload_n 1, 1) := by decide +kernel
theorem d_History_slotOf_5 : decode b_History_slotOf 5 = .ok (.bipush 40, 2) := by decide +kernel
theorem d_History_slotOf_7 : decode b_History_slotOf 7 = .ok (.imul, 1) := by decide +kernel
theorem d_History_slotOf_8 : decode b_History_slotOf 8 = .ok (.iload_n 2, 1) := by decide +kernel
theorem d_History_slotOf_9 : decode b_History_slotOf 9 = .ok (.iadd, 1) := by decide +kernel
theorem d_History_slotOf_10 : decode b_History_slotOf 10 = .ok (.iaload, 1) := by decide +kernel
theorem d_History_slotOf_11 : decode b_History_slotOf 11 = .ok (.ireturn, 1) := by decide +kernel
theorem d_Text_ancestor_0 : decode b_Text_ancestor 0 = .ok (.aload_n 0, 1) := by decide +kernel
theorem d_Text_ancestor_1 : decode b_Text_ancestor 1 = .ok (.getfield 10, 3) := by decide +kernel
theorem d_Text_ancestor_4 : decode b_Text_ancestor 4 = .ok (.iload_n 1, 1) := by decide +kernel
theorem d_Text_ancestor_5 : decode b_Text_ancestor 5 = .ok (.iload_n 2, 1) := by decide +kernel
theorem d_Text_ancestor_6 : decode b_Text_ancestor 6 = .ok (.invokevirtual 173, 3) := by decide +kernel
theorem d_Text_ancestor_9 : decode b_Text_ancestor 9 = .ok (.ifCond .eq 16, 3) := by decide +kernel
theorem d_Text_ancestor_12 : decode b_Text_ancestor 12 = .ok (.aload_n 0, 1) := by decide +kernel
theorem d_Text_ancestor_13 : decode b_Text_ancestor 13 = .ok (.getfield 10, 3) := by decide +kernel
theorem d_Text_ancestor_16 : decode b_Text_ancestor 16 = .ok (.iload_n 3, 1) := by decide +kernel
theorem d_Text_ancestor_17 : decode b_Text_ancestor 17 = .ok (.iload 4, 2) := by decide +kernel
theorem d_Text_ancestor_19 : decode b_Text_ancestor 19 = .ok (.invokevirtual 173, 3) := by decide +kernel
theorem d_Text_ancestor_22 : decode b_Text_ancestor 22 = .ok (.ifCond .ne 7, 3) := by decide +kernel
theorem d_Text_ancestor_25 : decode b_Text_ancestor 25 = .ok (.sipush (-1000), 3) := by decide +kernel
theorem d_Text_ancestor_28 : decode b_Text_ancestor 28 = .ok (.ireturn, 1) := by decide +kernel
theorem d_Text_ancestor_29 : decode b_Text_ancestor 29 = .ok (.aload_n 0, 1) := by decide +kernel
theorem d_Text_ancestor_30 : decode b_Text_ancestor 30 = .ok (.getfield 10, 3) := by decide +kernel
theorem d_Text_ancestor_33 : decode b_Text_ancestor 33 = .ok (.aload_n 0, 1) := by decide +kernel
theorem d_Text_ancestor_34 : decode b_Text_ancestor 34 = .ok (.getfield 10, 3) := by decide +kernel
theorem d_Text_ancestor_37 : decode b_Text_ancestor 37 = .ok (.iload_n 3, 1) := by decide +kernel
theorem d_Text_ancestor_38 : decode b_Text_ancestor 38 = .ok (.iload 4, 2) := by decide +kernel
theorem d_Text_ancestor_40 : decode b_Text_ancestor 40 = .ok (.invokevirtual 176, 3) := by decide +kernel
theorem d_Text_ancestor_43 : decode b_Text_ancestor 43 = .ok (.invokevirtual 180, 3) := by decide +kernel
theorem d_Text_ancestor_46 : decode b_Text_ancestor 46 = .ok (.aload_n 0, 1) := by decide +kernel
theorem d_Text_ancestor_47 : decode b_Text_ancestor 47 = .ok (.getfield 10, 3) := by decide +kernel
theorem d_Text_ancestor_50 : decode b_Text_ancestor 50 = .ok (.iload_n 1, 1) := by decide +kernel
theorem d_Text_ancestor_51 : decode b_Text_ancestor 51 = .ok (.iload_n 2, 1) := by decide +kernel
theorem d_Text_ancestor_52 : decode b_Text_ancestor 52 = .ok (.invokevirtual 176, 3) := by decide +kernel
theorem d_Text_ancestor_55 : decode b_Text_ancestor 55 = .ok (.invokestatic 183, 3) := by decide +kernel
theorem d_Text_ancestor_58 : decode b_Text_ancestor 58 = .ok (.ifCond .eq 7, 3) := by decide +kernel
theorem d_Text_ancestor_61 : decode b_Text_ancestor 61 = .ok (.iconst 1, 1) := by decide +kernel
theorem d_Text_ancestor_62 : decode b_Text_ancestor 62 = .ok (.goto 4, 3) := by decide +kernel
theorem d_Text_ancestor_65 : decode b_Text_ancestor 65 = .ok (.iconst 0, 1) := by decide +kernel
theorem d_Text_ancestor_66 : decode b_Text_ancestor 66 = .ok (.ireturn, 1) := by decide +kernel
theorem d_Text_critical_0 : decode b_Text_critical 0 = .ok (.iload_n 1, 1) := by decide +kernel
theorem d_Text_critical_1 : decode b_Text_critical 1 = .ok (.invokestatic 44, 3) := by decide +kernel
theorem d_Text_critical_4 : decode b_Text_critical 4 = .ok (.ifCond .ne 7, 3) := by decide +kernel
theorem d_Text_critical_7 : decode b_Text_critical 7 = .ok (.sipush (-1000), 3) := by decide +kernel
theorem d_Text_critical_10 : decode b_Text_critical 10 = .ok (.ireturn, 1) := by decide +kernel
theorem d_Text_critical_11 : decode b_Text_critical 11 = .ok (.aload_n 0, 1) := by decide +kernel
theorem d_Text_critical_12 : decode b_Text_critical 12 = .ok (.getfield 32, 3) := by decide +kernel
theorem d_Text_critical_15 : decode b_Text_critical 15 = .ok (.iload_n 1, 1) := by decide +kernel
theorem d_Text_critical_16 : decode b_Text_critical 16 = .ok (.aaload, 1) := by decide +kernel
theorem d_Text_critical_17 : decode b_Text_critical 17 = .ok (.getfield 52, 3) := by decide +kernel
theorem d_Text_critical_20 : decode b_Text_critical 20 = .ok (.lstore_n 2, 1) := by decide +kernel
theorem d_Text_critical_21 : decode b_Text_critical 21 = .ok (.aload_n 0, 1) := by decide +kernel
theorem d_Text_critical_22 : decode b_Text_critical 22 = .ok (.getfield 10, 3) := by decide +kernel
theorem d_Text_critical_25 : decode b_Text_critical 25 = .ok (.aload_n 0, 1) := by decide +kernel
theorem d_Text_critical_26 : decode b_Text_critical 26 = .ok (.getfield 10, 3) := by decide +kernel
theorem d_Text_critical_29 : decode b_Text_critical 29 = .ok (.lload_n 2, 1) := by decide +kernel
theorem d_Text_critical_30 : decode b_Text_critical 30 = .ok (.lload_n 2, 1) := by decide +kernel
theorem d_Text_critical_31 : decode b_Text_critical 31 = .ok (.invokevirtual 187, 3) := by decide +kernel
theorem d_Text_critical_34 : decode b_Text_critical 34 = .ok (.invokevirtual 191, 3) := by decide +kernel
theorem d_Text_critical_37 : decode b_Text_critical 37 = .ok (.invokestatic 60, 3) := by decide +kernel
theorem d_Text_critical_40 : decode b_Text_critical 40 = .ok (.ireturn, 1) := by decide +kernel
theorem d_Text_replayed_0 : decode b_Text_replayed 0 = .ok (.iload_n 1, 1) := by decide +kernel
theorem d_Text_replayed_1 : decode b_Text_replayed 1 = .ok (.invokestatic 44, 3) := by decide +kernel
theorem d_Text_replayed_4 : decode b_Text_replayed 4 = .ok (.ifCond .eq 18, 3) := by decide +kernel
theorem d_Text_replayed_7 : decode b_Text_replayed 7 = .ok (.aload_n 0, 1) := by decide +kernel
theorem d_Text_replayed_8 : decode b_Text_replayed 8 = .ok (.getfield 32, 3) := by decide +kernel
theorem d_Text_replayed_11 : decode b_Text_replayed 11 = .ok (.iload_n 1, 1) := by decide +kernel
theorem d_Text_replayed_12 : decode b_Text_replayed 12 = .ok (.aaload, 1) := by decide +kernel
theorem d_Text_replayed_13 : decode b_Text_replayed 13 = .ok (.getfield 138, 3) := by decide +kernel
theorem d_Text_replayed_16 : decode b_Text_replayed 16 = .ok (.getfield 194, 3) := by decide +kernel
theorem d_Text_replayed_19 : decode b_Text_replayed 19 = .ok (.goto 6, 3) := by decide +kernel
theorem d_Text_replayed_22 : decode b_Text_replayed 22 = .ok (.sipush (-1000), 3) := by decide +kernel
theorem d_Text_replayed_25 : decode b_Text_replayed 25 = .ok (.ireturn, 1) := by decide +kernel
theorem d_Text_moves_0 : decode b_Text_moves 0 = .ok (.iload_n 1, 1) := by decide +kernel
theorem d_Text_moves_1 : decode b_Text_moves 1 = .ok (.invokestatic 44, 3) := by decide +kernel
theorem d_Text_moves_4 : decode b_Text_moves 4 = .ok (.ifCond .eq 18, 3) := by decide +kernel
theorem d_Text_moves_7 : decode b_Text_moves 7 = .ok (.aload_n 0, 1) := by decide +kernel
theorem d_Text_moves_8 : decode b_Text_moves 8 = .ok (.getfield 32, 3) := by decide +kernel
theorem d_Text_moves_11 : decode b_Text_moves 11 = .ok (.iload_n 1, 1) := by decide +kernel
theorem d_Text_moves_12 : decode b_Text_moves 12 = .ok (.aaload, 1) := by decide +kernel
theorem d_Text_moves_13 : decode b_Text_moves 13 = .ok (.getfield 138, 3) := by decide +kernel
theorem d_Text_moves_16 : decode b_Text_moves 16 = .ok (.getfield 197, 3) := by decide +kernel
theorem d_Text_moves_19 : decode b_Text_moves 19 = .ok (.goto 6, 3) := by decide +kernel
theorem d_Text_moves_22 : decode b_Text_moves 22 = .ok (.sipush (-1000), 3) := by decide +kernel
theorem d_Text_moves_25 : decode b_Text_moves 25 = .ok (.ireturn, 1) := by decide +kernel
theorem d_Text_operation_0 : decode b_Text_operation 0 = .ok (.iload_n 1, 1) := by decide +kernel
theorem d_Text_operation_1 : decode b_Text_operation 1 = .ok (.invokestatic 44, 3) := by decide +kernel
theorem d_Text_operation_4 : decode b_Text_operation 4 = .ok (.ifCond .eq 23, 3) := by decide +kernel
theorem d_Text_operation_7 : decode b_Text_operation 7 = .ok (.iload_n 2, 1) := by decide +kernel
theorem d_Text_operation_8 : decode b_Text_operation 8 = .ok (.ifCond .lt 19, 3) := by decide +kernel
theorem d_Text_operation_11 : decode b_Text_operation 11 = .ok (.iload_n 2, 1) := by decide +kernel
theorem d_Text_operation_12 : decode b_Text_operation 12 = .ok (.aload_n 0, 1) := by decide +kernel
theorem d_Text_operation_13 : decode b_Text_operation 13 = .ok (.getfield 32, 3) := by decide +kernel
theorem d_Text_operation_16 : decode b_Text_operation 16 = .ok (.iload_n 1, 1) := by decide +kernel
theorem d_Text_operation_17 : decode b_Text_operation 17 = .ok (.aaload, 1) := by decide +kernel
theorem d_Text_operation_18 : decode b_Text_operation 18 = .ok (.getfield 138, 3) := by decide +kernel
theorem d_Text_operation_21 : decode b_Text_operation 21 = .ok (.getfield 200, 3) := by decide +kernel
theorem d_Text_operation_24 : decode b_Text_operation 24 = .ok (.if_icmp .lt 7, 3) := by decide +kernel
theorem d_Text_operation_27 : decode b_Text_operation 27 = .ok (.sipush (-1000), 3) := by decide +kernel
theorem d_Text_operation_30 : decode b_Text_operation 30 = .ok (.ireturn, 1) := by decide +kernel
theorem d_Text_operation_31 : decode b_Text_operation 31 = .ok (.aload_n 0, 1) := by decide +kernel
theorem d_Text_operation_32 : decode b_Text_operation 32 = .ok (.getfield 32, 3) := by decide +kernel
theorem d_Text_operation_35 : decode b_Text_operation 35 = .ok (.iload_n 1, 1) := by decide +kernel
theorem d_Text_operation_36 : decode b_Text_operation 36 = .ok (.aaload, 1) := by decide +kernel
theorem d_Text_operation_37 : decode b_Text_operation 37 = .ok (.getfield 138, 3) := by decide +kernel
theorem d_Text_operation_40 : decode b_Text_operation 40 = .ok (.getfield 203, 3) := by decide +kernel
theorem d_Text_operation_43 : decode b_Text_operation 43 = .ok (.iload_n 2, 1) := by decide +kernel
theorem d_Text_operation_44 : decode b_Text_operation 44 = .ok (.iaload, 1) := by decide +kernel
theorem d_Text_operation_45 : decode b_Text_operation 45 = .ok (.ireturn, 1) := by decide +kernel
theorem d_Model_in_0 : decode b_Model_in 0 = .ok (.lload_n 0, 1) := by decide +kernel
theorem d_Model_in_1 : decode b_Model_in 1 = .ok (.iload_n 2, 1) := by decide +kernel
theorem d_Model_in_2 : decode b_Model_in 2 = .ok (.lushr, 1) := by decide +kernel
theorem d_Model_in_3 : decode b_Model_in 3 = .ok (.lconst 1, 1) := by decide +kernel
theorem d_Model_in_4 : decode b_Model_in 4 = .ok (.land, 1) := by decide +kernel
theorem d_Model_in_5 : decode b_Model_in 5 = .ok (.lconst 0, 1) := by decide +kernel
theorem d_Model_in_6 : decode b_Model_in 6 = .ok (.lcmp, 1) := by decide +kernel
theorem d_Model_in_7 : decode b_Model_in 7 = .ok (.ifCond .eq 7, 3) := by decide +kernel
theorem d_Model_in_10 : decode b_Model_in 10 = .ok (.iconst 1, 1) := by decide +kernel
theorem d_Model_in_11 : decode b_Model_in 11 = .ok (.goto 4, 3) := by decide +kernel
theorem d_Model_in_14 : decode b_Model_in 14 = .ok (.iconst 0, 1) := by decide +kernel
theorem d_Model_in_15 : decode b_Model_in 15 = .ok (.ireturn, 1) := by decide +kernel
theorem d_Model_one_0 : decode b_Model_one 0 = .ok (.lconst 1, 1) := by decide +kernel
theorem d_Model_one_1 : decode b_Model_one 1 = .ok (.iload_n 0, 1) := by decide +kernel
theorem d_Model_one_2 : decode b_Model_one 2 = .ok (.lshl, 1) := by decide +kernel
theorem d_Model_one_3 : decode b_Model_one 3 = .ok (.lreturn, 1) := by decide +kernel
theorem d_Model_many_0 : decode b_Model_many 0 = .ok (.iconst 0, 1) := by decide +kernel
theorem d_Model_many_1 : decode b_Model_many 1 = .ok (.istore_n 2, 1) := by decide +kernel
theorem d_Model_many_2 : decode b_Model_many 2 = .ok (.iconst 0, 1) := by decide +kernel
theorem d_Model_many_3 : decode b_Model_many 3 = .ok (.istore_n 3, 1) := by decide +kernel
theorem d_Model_many_4 : decode b_Model_many 4 = .ok (.iload_n 3, 1) := by decide +kernel
theorem d_Model_many_5 : decode b_Model_many 5 = .ok (.bipush 40, 2) := by decide +kernel
theorem d_Model_many_7 : decode b_Model_many 7 = .ok (.if_icmp .ge 25, 3) := by decide +kernel
theorem d_Model_many_10 : decode b_Model_many 10 = .ok (.iload_n 2, 1) := by decide +kernel
theorem d_Model_many_11 : decode b_Model_many 11 = .ok (.lload_n 0, 1) := by decide +kernel
theorem d_Model_many_12 : decode b_Model_many 12 = .ok (.iload_n 3, 1) := by decide +kernel
theorem d_Model_many_13 : decode b_Model_many 13 = .ok (.invokestatic 78, 3) := by decide +kernel
theorem d_Model_many_16 : decode b_Model_many 16 = .ok (.ifCond .eq 7, 3) := by decide +kernel
theorem d_Model_many_19 : decode b_Model_many 19 = .ok (.iconst 1, 1) := by decide +kernel
theorem d_Model_many_20 : decode b_Model_many 20 = .ok (.goto 4, 3) := by decide +kernel
theorem d_Model_many_23 : decode b_Model_many 23 = .ok (.iconst 0, 1) := by decide +kernel
theorem d_Model_many_24 : decode b_Model_many 24 = .ok (.iadd, 1) := by decide +kernel
theorem d_Model_many_25 : decode b_Model_many 25 = .ok (.istore_n 2, 1) := by decide +kernel
theorem d_Model_many_26 : decode b_Model_many 26 = .ok (.iinc 3 1, 3) := by decide +kernel
theorem d_Model_many_29 : decode b_Model_many 29 = .ok (.goto (-25), 3) := by decide +kernel
theorem d_Model_many_32 : decode b_Model_many 32 = .ok (.iload_n 2, 1) := by decide +kernel
theorem d_Model_many_33 : decode b_Model_many 33 = .ok (.ireturn, 1) := by decide +kernel
theorem d_Model_wrong_0 : decode b_Model_wrong 0 = .ok (.iload_n 0, 1) := by decide +kernel
theorem d_Model_wrong_1 : decode b_Model_wrong 1 = .ok (.ifCond .lt 8, 3) := by decide +kernel
theorem d_Model_wrong_4 : decode b_Model_wrong 4 = .ok (.iload_n 0, 1) := by decide +kernel
theorem d_Model_wrong_5 : decode b_Model_wrong 5 = .ok (.iconst 2, 1) := by decide +kernel
theorem d_Model_wrong_6 : decode b_Model_wrong 6 = .ok (.if_icmp .le 7, 3) := by decide +kernel
theorem d_Model_wrong_9 : decode b_Model_wrong 9 = .ok (.iconst 1, 1) := by decide +kernel
theorem d_Model_wrong_10 : decode b_Model_wrong 10 = .ok (.goto 4, 3) := by decide +kernel
theorem d_Model_wrong_13 : decode b_Model_wrong 13 = .ok (.iconst 0, 1) := by decide +kernel
theorem d_Model_wrong_14 : decode b_Model_wrong 14 = .ok (.ireturn, 1) := by decide +kernel
theorem d_Model_wrongPair_0 : decode b_Model_wrongPair 0 = .ok (.iload_n 0, 1) := by decide +kernel
theorem d_Model_wrongPair_1 : decode b_Model_wrongPair 1 = .ok (.invokestatic 82, 3) := by decide +kernel
theorem d_Model_wrongPair_4 : decode b_Model_wrongPair 4 = .ok (.ifCond .ne 15, 3) := by decide +kernel
theorem d_Model_wrongPair_7 : decode b_Model_wrongPair 7 = .ok (.iload_n 1, 1) := by decide +kernel
theorem d_Model_wrongPair_8 : decode b_Model_wrongPair 8 = .ok (.invokestatic 82, 3) := by decide +kernel
theorem d_Model_wrongPair_11 : decode b_Model_wrongPair 11 = .ok (.ifCond .ne 8, 3) := by decide +kernel
theorem d_Model_wrongPair_14 : decode b_Model_wrongPair 14 = .ok (.iload_n 0, 1) := by decide +kernel
theorem d_Model_wrongPair_15 : decode b_Model_wrongPair 15 = .ok (.iload_n 1, 1) := by decide +kernel
theorem d_Model_wrongPair_16 : decode b_Model_wrongPair 16 = .ok (.if_icmp .ne 7, 3) := by decide +kernel
theorem d_Model_wrongPair_19 : decode b_Model_wrongPair 19 = .ok (.iconst 1, 1) := by decide +kernel
theorem d_Model_wrongPair_20 : decode b_Model_wrongPair 20 = .ok (.goto 4, 3) := by decide +kernel
theorem d_Model_wrongPair_23 : decode b_Model_wrongPair 23 = .ok (.iconst 0, 1) := by decide +kernel
theorem d_Model_wrongPair_24 : decode b_Model_wrongPair 24 = .ok (.ireturn, 1) := by decide +kernel
theorem d_Model_hidden_0 : decode b_Model_hidden 0 = .ok (.lconst 0, 1) := by decide +kernel
theorem d_Model_hidden_1 : decode b_Model_hidden 1 = .ok (.lstore_n 3, 1) := by decide +kernel
theorem d_Model_hidden_2 : decode b_Model_hidden 2 = .ok (.iconst 0, 1) := by decide +kernel
theorem d_Model_hidden_3 : decode b_Model_hidden 3 = .ok (.istore 5, 2) := by decide +kernel
theorem d_Model_hidden_5 : decode b_Model_hidden 5 = .ok (.iload 5, 2) := by decide +kernel
theorem d_Model_hidden_7 : decode b_Model_hidden 7 = .ok (.aload_n 0, 1) := by decide +kernel
end
section
theorem d_Model_hidden_8 : decode b_Model_hidden 8 = .ok (.getfield 86, 3) := by decide +kernel
theorem d_Model_hidden_11 : decode b_Model_hidden 11 = .ok (.if_icmp .ge 41, 3) := by decide +kernel
theorem d_Model_hidden_14 : decode b_Model_hidden 14 = .ok (.lload_n 1, 1) := by decide +kernel
theorem d_Model_hidden_15 : decode b_Model_hidden 15 = .ok (.iload 5, 2) := by decide +kernel
theorem d_Model_hidden_17 : decode b_Model_hidden 17 = .ok (.invokestatic 78, 3) := by decide +kernel
theorem d_Model_hidden_20 : decode b_Model_hidden 20 = .ok (.ifCond .eq 26, 3) := by decide +kernel
theorem d_Model_hidden_23 : decode b_Model_hidden 23 = .ok (.aload_n 0, 1) := by decide +kernel
theorem d_Model_hidden_24 : decode b_Model_hidden 24 = .ok (.getfield 16, 3) := by decide +kernel
theorem d_Model_hidden_27 : decode b_Model_hidden 27 = .ok (.iload 5, 2) := by decide +kernel
theorem d_Model_hidden_29 : decode b_Model_hidden 29 = .ok (.baload, 1) := by decide +kernel
theorem d_Model_hidden_30 : decode b_Model_hidden 30 = .ok (.ifCond .ne 16, 3) := by decide +kernel
theorem d_Model_hidden_33 : decode b_Model_hidden 33 = .ok (.lload_n 3, 1) := by decide +kernel
theorem d_Model_hidden_34 : decode b_Model_hidden 34 = .ok (.aload_n 0, 1) := by decide +kernel
theorem d_Model_hidden_35 : decode b_Model_hidden 35 = .ok (.getfield 33, 3) := by decide +kernel
theorem d_Model_hidden_38 : decode b_Model_hidden 38 = .ok (.iload 5, 2) := by decide +kernel
theorem d_Model_hidden_40 : decode b_Model_hidden 40 = .ok (.iaload, 1) := by decide +kernel
theorem d_Model_hidden_41 : decode b_Model_hidden 41 = .ok (.invokestatic 90, 3) := by decide +kernel
theorem d_Model_hidden_44 : decode b_Model_hidden 44 = .ok (.lor, 1) := by decide +kernel
theorem d_Model_hidden_45 : decode b_Model_hidden 45 = .ok (.lstore_n 3, 1) := by decide +kernel
theorem d_Model_hidden_46 : decode b_Model_hidden 46 = .ok (.iinc 5 1, 3) := by decide +kernel
theorem d_Model_hidden_49 : decode b_Model_hidden 49 = .ok (.goto (-44), 3) := by decide +kernel
theorem d_Model_hidden_52 : decode b_Model_hidden 52 = .ok (.lload_n 3, 1) := by decide +kernel
theorem d_Model_hidden_53 : decode b_Model_hidden 53 = .ok (.lreturn, 1) := by decide +kernel
theorem d_Model_shownAt_0 : decode b_Model_shownAt 0 = .ok (.aload_n 0, 1) := by decide +kernel
theorem d_Model_shownAt_1 : decode b_Model_shownAt 1 = .ok (.lload_n 1, 1) := by decide +kernel
theorem d_Model_shownAt_2 : decode b_Model_shownAt 2 = .ok (.invokevirtual 94, 3) := by decide +kernel
theorem d_Model_shownAt_5 : decode b_Model_shownAt 5 = .ok (.lstore 4, 2) := by decide +kernel
theorem d_Model_shownAt_7 : decode b_Model_shownAt 7 = .ok (.iconst 0, 1) := by decide +kernel
theorem d_Model_shownAt_8 : decode b_Model_shownAt 8 = .ok (.istore 6, 2) := by decide +kernel
theorem d_Model_shownAt_10 : decode b_Model_shownAt 10 = .ok (.iconst 0, 1) := by decide +kernel
theorem d_Model_shownAt_11 : decode b_Model_shownAt 11 = .ok (.istore 7, 2) := by decide +kernel
theorem d_Model_shownAt_13 : decode b_Model_shownAt 13 = .ok (.iload 7, 2) := by decide +kernel
theorem d_Model_shownAt_15 : decode b_Model_shownAt 15 = .ok (.aload_n 0, 1) := by decide +kernel
theorem d_Model_shownAt_16 : decode b_Model_shownAt 16 = .ok (.getfield 98, 3) := by decide +kernel
theorem d_Model_shownAt_19 : decode b_Model_shownAt 19 = .ok (.if_icmp .ge 49, 3) := by decide +kernel
theorem d_Model_shownAt_22 : decode b_Model_shownAt 22 = .ok (.aload_n 0, 1) := by decide +kernel
theorem d_Model_shownAt_23 : decode b_Model_shownAt 23 = .ok (.getfield 42, 3) := by decide +kernel
theorem d_Model_shownAt_26 : decode b_Model_shownAt 26 = .ok (.iload 7, 2) := by decide +kernel
theorem d_Model_shownAt_28 : decode b_Model_shownAt 28 = .ok (.iaload, 1) := by decide +kernel
theorem d_Model_shownAt_29 : decode b_Model_shownAt 29 = .ok (.istore 8, 2) := by decide +kernel
theorem d_Model_shownAt_31 : decode b_Model_shownAt 31 = .ok (.lload_n 1, 1) := by decide +kernel
theorem d_Model_shownAt_32 : decode b_Model_shownAt 32 = .ok (.iload 8, 2) := by decide +kernel
theorem d_Model_shownAt_34 : decode b_Model_shownAt 34 = .ok (.invokestatic 78, 3) := by decide +kernel
theorem d_Model_shownAt_37 : decode b_Model_shownAt 37 = .ok (.ifCond .eq 25, 3) := by decide +kernel
theorem d_Model_shownAt_40 : decode b_Model_shownAt 40 = .ok (.lload 4, 2) := by decide +kernel
theorem d_Model_shownAt_42 : decode b_Model_shownAt 42 = .ok (.iload 8, 2) := by decide +kernel
theorem d_Model_shownAt_44 : decode b_Model_shownAt 44 = .ok (.invokestatic 78, 3) := by decide +kernel
theorem d_Model_shownAt_47 : decode b_Model_shownAt 47 = .ok (.ifCond .ne 15, 3) := by decide +kernel
theorem d_Model_shownAt_50 : decode b_Model_shownAt 50 = .ok (.iload 6, 2) := by decide +kernel
theorem d_Model_shownAt_52 : decode b_Model_shownAt 52 = .ok (.iload_n 3, 1) := by decide +kernel
theorem d_Model_shownAt_53 : decode b_Model_shownAt 53 = .ok (.if_icmp .ne 6, 3) := by decide +kernel
theorem d_Model_shownAt_56 : decode b_Model_shownAt 56 = .ok (.iload 8, 2) := by decide +kernel
theorem d_Model_shownAt_58 : decode b_Model_shownAt 58 = .ok (.ireturn, 1) := by decide +kernel
theorem d_Model_shownAt_59 : decode b_Model_shownAt 59 = .ok (.iinc 6 1, 3) := by decide +kernel
theorem d_Model_shownAt_62 : decode b_Model_shownAt 62 = .ok (.iinc 7 1, 3) := by decide +kernel
theorem d_Model_shownAt_65 : decode b_Model_shownAt 65 = .ok (.goto (-52), 3) := by decide +kernel
theorem d_Model_shownAt_68 : decode b_Model_shownAt 68 = .ok (.iconst (-1), 1) := by decide +kernel
theorem d_Model_shownAt_69 : decode b_Model_shownAt 69 = .ok (.ireturn, 1) := by decide +kernel
theorem d_Model_shownBefore_0 : decode b_Model_shownBefore 0 = .ok (.aload_n 0, 1) := by decide +kernel
theorem d_Model_shownBefore_1 : decode b_Model_shownBefore 1 = .ok (.lload_n 1, 1) := by decide +kernel
theorem d_Model_shownBefore_2 : decode b_Model_shownBefore 2 = .ok (.invokevirtual 94, 3) := by decide +kernel
theorem d_Model_shownBefore_5 : decode b_Model_shownBefore 5 = .ok (.lstore 4, 2) := by decide +kernel
theorem d_Model_shownBefore_7 : decode b_Model_shownBefore 7 = .ok (.iconst 0, 1) := by decide +kernel
theorem d_Model_shownBefore_8 : decode b_Model_shownBefore 8 = .ok (.istore 6, 2) := by decide +kernel
theorem d_Model_shownBefore_10 : decode b_Model_shownBefore 10 = .ok (.iconst 0, 1) := by decide +kernel
theorem d_Model_shownBefore_11 : decode b_Model_shownBefore 11 = .ok (.istore 7, 2) := by decide +kernel
theorem d_Model_shownBefore_13 : decode b_Model_shownBefore 13 = .ok (.iload 7, 2) := by decide +kernel
theorem d_Model_shownBefore_15 : decode b_Model_shownBefore 15 = .ok (.aload_n 0, 1) := by decide +kernel
theorem d_Model_shownBefore_16 : decode b_Model_shownBefore 16 = .ok (.getfield 98, 3) := by decide +kernel
theorem d_Model_shownBefore_19 : decode b_Model_shownBefore 19 = .ok (.if_icmp .ge 58, 3) := by decide +kernel
theorem d_Model_shownBefore_22 : decode b_Model_shownBefore 22 = .ok (.aload_n 0, 1) := by decide +kernel
theorem d_Model_shownBefore_23 : decode b_Model_shownBefore 23 = .ok (.getfield 42, 3) := by decide +kernel
theorem d_Model_shownBefore_26 : decode b_Model_shownBefore 26 = .ok (.iload 7, 2) := by decide +kernel
theorem d_Model_shownBefore_28 : decode b_Model_shownBefore 28 = .ok (.iaload, 1) := by decide +kernel
theorem d_Model_shownBefore_29 : decode b_Model_shownBefore 29 = .ok (.iload_n 3, 1) := by decide +kernel
theorem d_Model_shownBefore_30 : decode b_Model_shownBefore 30 = .ok (.if_icmp .eq 47, 3) := by decide +kernel
theorem d_Model_shownBefore_33 : decode b_Model_shownBefore 33 = .ok (.aload_n 0, 1) := by decide +kernel
theorem d_Model_shownBefore_34 : decode b_Model_shownBefore 34 = .ok (.getfield 42, 3) := by decide +kernel
theorem d_Model_shownBefore_37 : decode b_Model_shownBefore 37 = .ok (.iload 7, 2) := by decide +kernel
theorem d_Model_shownBefore_39 : decode b_Model_shownBefore 39 = .ok (.iaload, 1) := by decide +kernel
theorem d_Model_shownBefore_40 : decode b_Model_shownBefore 40 = .ok (.istore 8, 2) := by decide +kernel
theorem d_Model_shownBefore_42 : decode b_Model_shownBefore 42 = .ok (.iload 6, 2) := by decide +kernel
theorem d_Model_shownBefore_44 : decode b_Model_shownBefore 44 = .ok (.lload_n 1, 1) := by decide +kernel
theorem d_Model_shownBefore_45 : decode b_Model_shownBefore 45 = .ok (.iload 8, 2) := by decide +kernel
theorem d_Model_shownBefore_47 : decode b_Model_shownBefore 47 = .ok (.invokestatic 78, 3) := by decide +kernel
theorem d_Model_shownBefore_50 : decode b_Model_shownBefore 50 = .ok (.ifCond .eq 17, 3) := by decide +kernel
theorem d_Model_shownBefore_53 : decode b_Model_shownBefore 53 = .ok (.lload 4, 2) := by decide +kernel
theorem d_Model_shownBefore_55 : decode b_Model_shownBefore 55 = .ok (.iload 8, 2) := by decide +kernel
theorem d_Model_shownBefore_57 : decode b_Model_shownBefore 57 = .ok (.invokestatic 78, 3) := by decide +kernel
theorem d_Model_shownBefore_60 : decode b_Model_shownBefore 60 = .ok (.ifCond .ne 7, 3) := by decide +kernel
theorem d_Model_shownBefore_63 : decode b_Model_shownBefore 63 = .ok (.iconst 1, 1) := by decide +kernel
theorem d_Model_shownBefore_64 : decode b_Model_shownBefore 64 = .ok (.goto 4, 3) := by decide +kernel
theorem d_Model_shownBefore_67 : decode b_Model_shownBefore 67 = .ok (.iconst 0, 1) := by decide +kernel
theorem d_Model_shownBefore_68 : decode b_Model_shownBefore 68 = .ok (.iadd, 1) := by decide +kernel
theorem d_Model_shownBefore_69 : decode b_Model_shownBefore 69 = .ok (.istore 6, 2) := by decide +kernel
theorem d_Model_shownBefore_71 : decode b_Model_shownBefore 71 = .ok (.iinc 7 1, 3) := by decide +kernel
theorem d_Model_shownBefore_74 : decode b_Model_shownBefore 74 = .ok (.goto (-61), 3) := by decide +kernel
theorem d_Model_shownBefore_77 : decode b_Model_shownBefore 77 = .ok (.iload 6, 2) := by decide +kernel
theorem d_Model_shownBefore_79 : decode b_Model_shownBefore 79 = .ok (.ireturn, 1) := by decide +kernel
theorem d_Model_behind_0 : decode b_Model_behind 0 = .ok (.iload_n 3, 1) := by decide +kernel
theorem d_Model_behind_1 : decode b_Model_behind 1 = .ok (.bipush 40, 2) := by decide +kernel
theorem d_Model_behind_3 : decode b_Model_behind 3 = .ok (.if_icmp .ne 7, 3) := by decide +kernel
theorem d_Model_behind_6 : decode b_Model_behind 6 = .ok (.iconst 1, 1) := by decide +kernel
theorem d_Model_behind_7 : decode b_Model_behind 7 = .ok (.goto 4, 3) := by decide +kernel
theorem d_Model_behind_10 : decode b_Model_behind 10 = .ok (.iconst 0, 1) := by decide +kernel
theorem d_Model_behind_11 : decode b_Model_behind 11 = .ok (.istore 4, 2) := by decide +kernel
theorem d_Model_behind_13 : decode b_Model_behind 13 = .ok (.iconst 0, 1) := by decide +kernel
theorem d_Model_behind_14 : decode b_Model_behind 14 = .ok (.istore 5, 2) := by decide +kernel
theorem d_Model_behind_16 : decode b_Model_behind 16 = .ok (.iload 5, 2) := by decide +kernel
theorem d_Model_behind_18 : decode b_Model_behind 18 = .ok (.aload_n 0, 1) := by decide +kernel
theorem d_Model_behind_19 : decode b_Model_behind 19 = .ok (.getfield 98, 3) := by decide +kernel
theorem d_Model_behind_22 : decode b_Model_behind 22 = .ok (.if_icmp .ge 59, 3) := by decide +kernel
theorem d_Model_behind_25 : decode b_Model_behind 25 = .ok (.iload 4, 2) := by decide +kernel
theorem d_Model_behind_27 : decode b_Model_behind 27 = .ok (.ifCond .eq 25, 3) := by decide +kernel
theorem d_Model_behind_30 : decode b_Model_behind 30 = .ok (.lload_n 1, 1) := by decide +kernel
theorem d_Model_behind_31 : decode b_Model_behind 31 = .ok (.aload_n 0, 1) := by decide +kernel
theorem d_Model_behind_32 : decode b_Model_behind 32 = .ok (.getfield 42, 3) := by decide +kernel
theorem d_Model_behind_35 : decode b_Model_behind 35 = .ok (.iload 5, 2) := by decide +kernel
theorem d_Model_behind_37 : decode b_Model_behind 37 = .ok (.iaload, 1) := by decide +kernel
theorem d_Model_behind_38 : decode b_Model_behind 38 = .ok (.invokestatic 78, 3) := by decide +kernel
theorem d_Model_behind_41 : decode b_Model_behind 41 = .ok (.ifCond .eq 11, 3) := by decide +kernel
theorem d_Model_behind_44 : decode b_Model_behind 44 = .ok (.aload_n 0, 1) := by decide +kernel
theorem d_Model_behind_45 : decode b_Model_behind 45 = .ok (.getfield 42, 3) := by decide +kernel
theorem d_Model_behind_48 : decode b_Model_behind 48 = .ok (.iload 5, 2) := by decide +kernel
theorem d_Model_behind_50 : decode b_Model_behind 50 = .ok (.iaload, 1) := by decide +kernel
theorem d_Model_behind_51 : decode b_Model_behind 51 = .ok (.ireturn, 1) := by decide +kernel
theorem d_Model_behind_52 : decode b_Model_behind 52 = .ok (.iload 4, 2) := by decide +kernel
theorem d_Model_behind_54 : decode b_Model_behind 54 = .ok (.ifCond .ne 14, 3) := by decide +kernel
theorem d_Model_behind_57 : decode b_Model_behind 57 = .ok (.aload_n 0, 1) := by decide +kernel
theorem d_Model_behind_58 : decode b_Model_behind 58 = .ok (.getfield 42, 3) := by decide +kernel
theorem d_Model_behind_61 : decode b_Model_behind 61 = .ok (.iload 5, 2) := by decide +kernel
theorem d_Model_behind_63 : decode b_Model_behind 63 = .ok (.iaload, 1) := by decide +kernel
theorem d_Model_behind_64 : decode b_Model_behind 64 = .ok (.iload_n 3, 1) := by decide +kernel
theorem d_Model_behind_65 : decode b_Model_behind 65 = .ok (.if_icmp .ne 7, 3) := by decide +kernel
theorem d_Model_behind_68 : decode b_Model_behind 68 = .ok (.iconst 1, 1) := by decide +kernel
theorem d_Model_behind_69 : decode b_Model_behind 69 = .ok (.goto 4, 3) := by decide +kernel
theorem d_Model_behind_72 : decode b_Model_behind 72 = .ok (.iconst 0, 1) := by decide +kernel
theorem d_Model_behind_73 : decode b_Model_behind 73 = .ok (.istore 4, 2) := by decide +kernel
theorem d_Model_behind_75 : decode b_Model_behind 75 = .ok (.iinc 5 1, 3) := by decide +kernel
theorem d_Model_behind_78 : decode b_Model_behind 78 = .ok (.goto (-62), 3) := by decide +kernel
theorem d_Model_behind_81 : decode b_Model_behind 81 = .ok (.bipush 40, 2) := by decide +kernel
theorem d_Model_behind_83 : decode b_Model_behind 83 = .ok (.ireturn, 1) := by decide +kernel
theorem d_Model_lower_0 : decode b_Model_lower 0 = .ok (.aload_n 0, 1) := by decide +kernel
theorem d_Model_lower_1 : decode b_Model_lower 1 = .ok (.getfield 7, 3) := by decide +kernel
theorem d_Model_lower_4 : decode b_Model_lower 4 = .ok (.iload_n 1, 1) := by decide +kernel
theorem d_Model_lower_5 : decode b_Model_lower 5 = .ok (.iaload, 1) := by decide +kernel
theorem d_Model_lower_6 : decode b_Model_lower 6 = .ok (.aload_n 0, 1) := by decide +kernel
theorem d_Model_lower_7 : decode b_Model_lower 7 = .ok (.getfield 7, 3) := by decide +kernel
theorem d_Model_lower_10 : decode b_Model_lower 10 = .ok (.iload_n 2, 1) := by decide +kernel
theorem d_Model_lower_11 : decode b_Model_lower 11 = .ok (.iaload, 1) := by decide +kernel
theorem d_Model_lower_12 : decode b_Model_lower 12 = .ok (.if_icmp .eq 26, 3) := by decide +kernel
theorem d_Model_lower_15 : decode b_Model_lower 15 = .ok (.aload_n 0, 1) := by decide +kernel
theorem d_Model_lower_16 : decode b_Model_lower 16 = .ok (.getfield 7, 3) := by decide +kernel
theorem d_Model_lower_19 : decode b_Model_lower 19 = .ok (.iload_n 1, 1) := by decide +kernel
theorem d_Model_lower_20 : decode b_Model_lower 20 = .ok (.iaload, 1) := by decide +kernel
theorem d_Model_lower_21 : decode b_Model_lower 21 = .ok (.aload_n 0, 1) := by decide +kernel
theorem d_Model_lower_22 : decode b_Model_lower 22 = .ok (.getfield 7, 3) := by decide +kernel
theorem d_Model_lower_25 : decode b_Model_lower 25 = .ok (.iload_n 2, 1) := by decide +kernel
theorem d_Model_lower_26 : decode b_Model_lower 26 = .ok (.iaload, 1) := by decide +kernel
theorem d_Model_lower_27 : decode b_Model_lower 27 = .ok (.if_icmp .ge 7, 3) := by decide +kernel
theorem d_Model_lower_30 : decode b_Model_lower 30 = .ok (.iconst 1, 1) := by decide +kernel
theorem d_Model_lower_31 : decode b_Model_lower 31 = .ok (.goto 27, 3) := by decide +kernel
theorem d_Model_lower_34 : decode b_Model_lower 34 = .ok (.iconst 0, 1) := by decide +kernel
theorem d_Model_lower_35 : decode b_Model_lower 35 = .ok (.goto 23, 3) := by decide +kernel
theorem d_Model_lower_38 : decode b_Model_lower 38 = .ok (.aload_n 0, 1) := by decide +kernel
theorem d_Model_lower_39 : decode b_Model_lower 39 = .ok (.getfield 13, 3) := by decide +kernel
theorem d_Model_lower_42 : decode b_Model_lower 42 = .ok (.iload_n 1, 1) := by decide +kernel
theorem d_Model_lower_43 : decode b_Model_lower 43 = .ok (.iaload, 1) := by decide +kernel
theorem d_Model_lower_44 : decode b_Model_lower 44 = .ok (.aload_n 0, 1) := by decide +kernel
theorem d_Model_lower_45 : decode b_Model_lower 45 = .ok (.getfield 13, 3) := by decide +kernel
theorem d_Model_lower_48 : decode b_Model_lower 48 = .ok (.iload_n 2, 1) := by decide +kernel
theorem d_Model_lower_49 : decode b_Model_lower 49 = .ok (.iaload, 1) := by decide +kernel
theorem d_Model_lower_50 : decode b_Model_lower 50 = .ok (.if_icmp .ge 7, 3) := by decide +kernel
theorem d_Model_lower_53 : decode b_Model_lower 53 = .ok (.iconst 1, 1) := by decide +kernel
theorem d_Model_lower_54 : decode b_Model_lower 54 = .ok (.goto 4, 3) := by decide +kernel
theorem d_Model_lower_57 : decode b_Model_lower 57 = .ok (.iconst 0, 1) := by decide +kernel
theorem d_Model_lower_58 : decode b_Model_lower 58 = .ok (.ireturn, 1) := by decide +kernel
theorem d_Model_stands_0 : decode b_Model_stands 0 = .ok (.iload_n 1, 1) := by decide +kernel
theorem d_Model_stands_1 : decode b_Model_stands 1 = .ok (.istore_n 3, 1) := by decide +kernel
theorem d_Model_stands_2 : decode b_Model_stands 2 = .ok (.iload_n 2, 1) := by decide +kernel
theorem d_Model_stands_3 : decode b_Model_stands 3 = .ok (.istore 4, 2) := by decide +kernel
theorem d_Model_stands_5 : decode b_Model_stands 5 = .ok (.iconst (-1), 1) := by decide +kernel
theorem d_Model_stands_6 : decode b_Model_stands 6 = .ok (.istore 5, 2) := by decide +kernel
theorem d_Model_stands_8 : decode b_Model_stands 8 = .ok (.iconst (-1), 1) := by decide +kernel
theorem d_Model_stands_9 : decode b_Model_stands 9 = .ok (.istore 6, 2) := by decide +kernel
theorem d_Model_stands_11 : decode b_Model_stands 11 = .ok (.iconst 0, 1) := by decide +kernel
theorem d_Model_stands_12 : decode b_Model_stands 12 = .ok (.istore 7, 2) := by decide +kernel
theorem d_Model_stands_14 : decode b_Model_stands 14 = .ok (.iload 7, 2) := by decide +kernel
theorem d_Model_stands_16 : decode b_Model_stands 16 = .ok (.bipush 90, 2) := by decide +kernel
theorem d_Model_stands_18 : decode b_Model_stands 18 = .ok (.if_icmp .ge 57, 3) := by decide +kernel
theorem d_Model_stands_21 : decode b_Model_stands 21 = .ok (.iload_n 3, 1) := by decide +kernel
theorem d_Model_stands_22 : decode b_Model_stands 22 = .ok (.iload 4, 2) := by decide +kernel
theorem d_Model_stands_24 : decode b_Model_stands 24 = .ok (.if_icmp .eq 51, 3) := by decide +kernel
theorem d_Model_stands_27 : decode b_Model_stands 27 = .ok (.aload_n 0, 1) := by decide +kernel
theorem d_Model_stands_28 : decode b_Model_stands 28 = .ok (.getfield 39, 3) := by decide +kernel
theorem d_Model_stands_31 : decode b_Model_stands 31 = .ok (.iload_n 3, 1) := by decide +kernel
theorem d_Model_stands_32 : decode b_Model_stands 32 = .ok (.iaload, 1) := by decide +kernel
theorem d_Model_stands_33 : decode b_Model_stands 33 = .ok (.aload_n 0, 1) := by decide +kernel
theorem d_Model_stands_34 : decode b_Model_stands 34 = .ok (.getfield 39, 3) := by decide +kernel
theorem d_Model_stands_37 : decode b_Model_stands 37 = .ok (.iload 4, 2) := by decide +kernel
theorem d_Model_stands_39 : decode b_Model_stands 39 = .ok (.iaload, 1) := by decide +kernel
theorem d_Model_stands_40 : decode b_Model_stands 40 = .ok (.if_icmp .lt 16, 3) := by decide +kernel
theorem d_Model_stands_43 : decode b_Model_stands 43 = .ok (.iload_n 3, 1) := by decide +kernel
theorem d_Model_stands_44 : decode b_Model_stands 44 = .ok (.istore 5, 2) := by decide +kernel
theorem d_Model_stands_46 : decode b_Model_stands 46 = .ok (.aload_n 0, 1) := by decide +kernel
theorem d_Model_stands_47 : decode b_Model_stands 47 = .ok (.getfield 33, 3) := by decide +kernel
theorem d_Model_stands_50 : decode b_Model_stands 50 = .ok (.iload_n 3, 1) := by decide +kernel
theorem d_Model_stands_51 : decode b_Model_stands 51 = .ok (.iaload, 1) := by decide +kernel
theorem d_Model_stands_52 : decode b_Model_stands 52 = .ok (.istore_n 3, 1) := by decide +kernel
theorem d_Model_stands_53 : decode b_Model_stands 53 = .ok (.goto 16, 3) := by decide +kernel
theorem d_Model_stands_56 : decode b_Model_stands 56 = .ok (.iload 4, 2) := by decide +kernel
theorem d_Model_stands_58 : decode b_Model_stands 58 = .ok (.istore 6, 2) := by decide +kernel
theorem d_Model_stands_60 : decode b_Model_stands 60 = .ok (.aload_n 0, 1) := by decide +kernel
theorem d_Model_stands_61 : decode b_Model_stands 61 = .ok (.getfield 33, 3) := by decide +kernel
theorem d_Model_stands_64 : decode b_Model_stands 64 = .ok (.iload 4, 2) := by decide +kernel
theorem d_Model_stands_66 : decode b_Model_stands 66 = .ok (.iaload, 1) := by decide +kernel
theorem d_Model_stands_67 : decode b_Model_stands 67 = .ok (.istore 4, 2) := by decide +kernel
theorem d_Model_stands_69 : decode b_Model_stands 69 = .ok (.iinc 7 1, 3) := by decide +kernel
theorem d_Model_stands_72 : decode b_Model_stands 72 = .ok (.goto (-58), 3) := by decide +kernel
theorem d_Model_stands_75 : decode b_Model_stands 75 = .ok (.iload 5, 2) := by decide +kernel
theorem d_Model_stands_77 : decode b_Model_stands 77 = .ok (.ifCond .ge 11, 3) := by decide +kernel
theorem d_Model_stands_80 : decode b_Model_stands 80 = .ok (.aload_n 0, 1) := by decide +kernel
theorem d_Model_stands_81 : decode b_Model_stands 81 = .ok (.getfield 36, 3) := by decide +kernel
theorem d_Model_stands_84 : decode b_Model_stands 84 = .ok (.iload 6, 2) := by decide +kernel
theorem d_Model_stands_86 : decode b_Model_stands 86 = .ok (.baload, 1) := by decide +kernel
theorem d_Model_stands_87 : decode b_Model_stands 87 = .ok (.ireturn, 1) := by decide +kernel
theorem d_Model_stands_88 : decode b_Model_stands 88 = .ok (.iload 6, 2) := by decide +kernel
theorem d_Model_stands_90 : decode b_Model_stands 90 = .ok (.ifCond .ge 19, 3) := by decide +kernel
theorem d_Model_stands_93 : decode b_Model_stands 93 = .ok (.aload_n 0, 1) := by decide +kernel
theorem d_Model_stands_94 : decode b_Model_stands 94 = .ok (.getfield 36, 3) := by decide +kernel
theorem d_Model_stands_97 : decode b_Model_stands 97 = .ok (.iload 5, 2) := by decide +kernel
theorem d_Model_stands_99 : decode b_Model_stands 99 = .ok (.baload, 1) := by decide +kernel
theorem d_Model_stands_100 : decode b_Model_stands 100 = .ok (.ifCond .ne 7, 3) := by decide +kernel
theorem d_Model_stands_103 : decode b_Model_stands 103 = .ok (.iconst 1, 1) := by decide +kernel
theorem d_Model_stands_104 : decode b_Model_stands 104 = .ok (.goto 4, 3) := by decide +kernel
theorem d_Model_stands_107 : decode b_Model_stands 107 = .ok (.iconst 0, 1) := by decide +kernel
theorem d_Model_stands_108 : decode b_Model_stands 108 = .ok (.ireturn, 1) := by decide +kernel
theorem d_Model_stands_109 : decode b_Model_stands 109 = .ok (.aload_n 0, 1) := by decide +kernel
theorem d_Model_stands_110 : decode b_Model_stands 110 = .ok (.getfield 36, 3) := by decide +kernel
theorem d_Model_stands_113 : decode b_Model_stands 113 = .ok (.iload 5, 2) := by decide +kernel
theorem d_Model_stands_115 : decode b_Model_stands 115 = .ok (.baload, 1) := by decide +kernel
theorem d_Model_stands_116 : decode b_Model_stands 116 = .ok (.aload_n 0, 1) := by decide +kernel
theorem d_Model_stands_117 : decode b_Model_stands 117 = .ok (.getfield 36, 3) := by decide +kernel
theorem d_Model_stands_120 : decode b_Model_stands 120 = .ok (.iload 6, 2) := by decide +kernel
theorem d_Model_stands_122 : decode b_Model_stands 122 = .ok (.baload, 1) := by decide +kernel
theorem d_Model_stands_123 : decode b_Model_stands 123 = .ok (.if_icmp .eq 13, 3) := by decide +kernel
theorem d_Model_stands_126 : decode b_Model_stands 126 = .ok (.aload_n 0, 1) := by decide +kernel
theorem d_Model_stands_127 : decode b_Model_stands 127 = .ok (.getfield 36, 3) := by decide +kernel
theorem d_Model_stands_130 : decode b_Model_stands 130 = .ok (.iload 6, 2) := by decide +kernel
theorem d_Model_stands_132 : decode b_Model_stands 132 = .ok (.baload, 1) := by decide +kernel
theorem d_Model_stands_133 : decode b_Model_stands 133 = .ok (.goto 11, 3) := by decide +kernel
theorem d_Model_stands_136 : decode b_Model_stands 136 = .ok (.aload_n 0, 1) := by decide +kernel
theorem d_Model_stands_137 : decode b_Model_stands 137 = .ok (.iload 5, 2) := by decide +kernel
theorem d_Model_stands_139 : decode b_Model_stands 139 = .ok (.iload 6, 2) := by decide +kernel
theorem d_Model_stands_141 : decode b_Model_stands 141 = .ok (.invokevirtual 101, 3) := by decide +kernel
theorem d_Model_stands_144 : decode b_Model_stands 144 = .ok (.ireturn, 1) := by decide +kernel
theorem d_Model_intoRow_0 : decode b_Model_intoRow 0 = .ok (.iconst 0, 1) := by decide +kernel
theorem d_Model_intoRow_1 : decode b_Model_intoRow 1 = .ok (.istore_n 2, 1) := by decide +kernel
theorem d_Model_intoRow_2 : decode b_Model_intoRow 2 = .ok (.iload_n 2, 1) := by decide +kernel
theorem d_Model_intoRow_3 : decode b_Model_intoRow 3 = .ok (.aload_n 0, 1) := by decide +kernel
theorem d_Model_intoRow_4 : decode b_Model_intoRow 4 = .ok (.getfield 98, 3) := by decide +kernel
theorem d_Model_intoRow_7 : decode b_Model_intoRow 7 = .ok (.if_icmp .ge 23, 3) := by decide +kernel
theorem d_Model_intoRow_10 : decode b_Model_intoRow 10 = .ok (.aload_n 0, 1) := by decide +kernel
theorem d_Model_intoRow_11 : decode b_Model_intoRow 11 = .ok (.aload_n 0, 1) := by decide +kernel
theorem d_Model_intoRow_12 : decode b_Model_intoRow 12 = .ok (.getfield 42, 3) := by decide +kernel
theorem d_Model_intoRow_15 : decode b_Model_intoRow 15 = .ok (.iload_n 2, 1) := by decide +kernel
theorem d_Model_intoRow_16 : decode b_Model_intoRow 16 = .ok (.iaload, 1) := by decide +kernel
theorem d_Model_intoRow_17 : decode b_Model_intoRow 17 = .ok (.iload_n 1, 1) := by decide +kernel
theorem d_Model_intoRow_18 : decode b_Model_intoRow 18 = .ok (.invokevirtual 105, 3) := by decide +kernel
theorem d_Model_intoRow_21 : decode b_Model_intoRow 21 = .ok (.ifCond .eq 9, 3) := by decide +kernel
theorem d_Model_intoRow_24 : decode b_Model_intoRow 24 = .ok (.iinc 2 1, 3) := by decide +kernel
theorem d_Model_intoRow_27 : decode b_Model_intoRow 27 = .ok (.goto (-25), 3) := by decide +kernel
theorem d_Model_intoRow_30 : decode b_Model_intoRow 30 = .ok (.aload_n 0, 1) := by decide +kernel
theorem d_Model_intoRow_31 : decode b_Model_intoRow 31 = .ok (.getfield 98, 3) := by decide +kernel
theorem d_Model_intoRow_34 : decode b_Model_intoRow 34 = .ok (.istore_n 3, 1) := by decide +kernel
theorem d_Model_intoRow_35 : decode b_Model_intoRow 35 = .ok (.iload_n 3, 1) := by decide +kernel
theorem d_Model_intoRow_36 : decode b_Model_intoRow 36 = .ok (.iload_n 2, 1) := by decide +kernel
theorem d_Model_intoRow_37 : decode b_Model_intoRow 37 = .ok (.if_icmp .le 23, 3) := by decide +kernel
theorem d_Model_intoRow_40 : decode b_Model_intoRow 40 = .ok (.aload_n 0, 1) := by decide +kernel
theorem d_Model_intoRow_41 : decode b_Model_intoRow 41 = .ok (.getfield 42, 3) := by decide +kernel
theorem d_Model_intoRow_44 : decode b_Model_intoRow 44 = .ok (.iload_n 3, 1) := by decide +kernel
theorem d_Model_intoRow_45 : decode b_Model_intoRow 45 = .ok (.aload_n 0, 1) := by decide +kernel
theorem d_Model_intoRow_46 : decode b_Model_intoRow 46 = .ok (.getfield 42, 3) := by decide +kernel
theorem d_Model_intoRow_49 : decode b_Model_intoRow 49 = .ok (.iload_n 3, 1) := by decide +kernel
theorem d_Model_intoRow_50 : decode b_Model_intoRow 50 = .ok (.iconst 1, 1) := by decide +kernel
theorem d_Model_intoRow_51 : decode b_Model_intoRow 51 = .ok (.isub, 1) := by decide +kernel
theorem d_Model_intoRow_52 : decode b_Model_intoRow 52 = .ok (.iaload, 1) := by decide +kernel
theorem d_Model_intoRow_53 : decode b_Model_intoRow 53 = .ok (.iastore, 1) := by decide +kernel
theorem d_Model_intoRow_54 : decode b_Model_intoRow 54 = .ok (.iinc 3 (-1), 3) := by decide +kernel
theorem d_Model_intoRow_57 : decode b_Model_intoRow 57 = .ok (.goto (-22), 3) := by decide +kernel
theorem d_Model_intoRow_60 : decode b_Model_intoRow 60 = .ok (.aload_n 0, 1) := by decide +kernel
theorem d_Model_intoRow_61 : decode b_Model_intoRow 61 = .ok (.getfield 42, 3) := by decide +kernel
theorem d_Model_intoRow_64 : decode b_Model_intoRow 64 = .ok (.iload_n 2, 1) := by decide +kernel
theorem d_Model_intoRow_65 : decode b_Model_intoRow 65 = .ok (.iload_n 1, 1) := by decide +kernel
theorem d_Model_intoRow_66 : decode b_Model_intoRow 66 = .ok (.iastore, 1) := by decide +kernel
theorem d_Model_intoRow_67 : decode b_Model_intoRow 67 = .ok (.aload_n 0, 1) := by decide +kernel
theorem d_Model_intoRow_68 : decode b_Model_intoRow 68 = .ok (.dup, 1) := by decide +kernel
theorem d_Model_intoRow_69 : decode b_Model_intoRow 69 = .ok (.getfield 98, 3) := by decide +kernel
theorem d_Model_intoRow_72 : decode b_Model_intoRow 72 = .ok (.iconst 1, 1) := by decide +kernel
theorem d_Model_intoRow_73 : decode b_Model_intoRow 73 = .ok (.iadd, 1) := by decide +kernel
end
section
theorem d_Model_intoRow_74 : decode b_Model_intoRow 74 = .ok (.putfield 98, 3) := by decide +kernel
theorem d_Model_intoRow_77 : decode b_Model_intoRow 77 = .ok (.return_, 1) := by decide +kernel
theorem d_Model_tips_0 : decode b_Model_tips 0 = .ok (.lconst 0, 1) := by decide +kernel
theorem d_Model_tips_1 : decode b_Model_tips 1 = .ok (.lstore_n 3, 1) := by decide +kernel
theorem d_Model_tips_2 : decode b_Model_tips 2 = .ok (.iconst 0, 1) := by decide +kernel
theorem d_Model_tips_3 : decode b_Model_tips 3 = .ok (.istore 5, 2) := by decide +kernel
theorem d_Model_tips_5 : decode b_Model_tips 5 = .ok (.iload 5, 2) := by decide +kernel
theorem d_Model_tips_7 : decode b_Model_tips 7 = .ok (.aload_n 0, 1) := by decide +kernel
theorem d_Model_tips_8 : decode b_Model_tips 8 = .ok (.getfield 86, 3) := by decide +kernel
theorem d_Model_tips_11 : decode b_Model_tips 11 = .ok (.if_icmp .ge 32, 3) := by decide +kernel
theorem d_Model_tips_14 : decode b_Model_tips 14 = .ok (.lload_n 3, 1) := by decide +kernel
theorem d_Model_tips_15 : decode b_Model_tips 15 = .ok (.lload_n 1, 1) := by decide +kernel
theorem d_Model_tips_16 : decode b_Model_tips 16 = .ok (.iload 5, 2) := by decide +kernel
theorem d_Model_tips_18 : decode b_Model_tips 18 = .ok (.invokestatic 78, 3) := by decide +kernel
theorem d_Model_tips_21 : decode b_Model_tips 21 = .ok (.ifCond .eq 13, 3) := by decide +kernel
theorem d_Model_tips_24 : decode b_Model_tips 24 = .ok (.aload_n 0, 1) := by decide +kernel
theorem d_Model_tips_25 : decode b_Model_tips 25 = .ok (.getfield 26, 3) := by decide +kernel
theorem d_Model_tips_28 : decode b_Model_tips 28 = .ok (.iload 5, 2) := by decide +kernel
theorem d_Model_tips_30 : decode b_Model_tips 30 = .ok (.laload, 1) := by decide +kernel
theorem d_Model_tips_31 : decode b_Model_tips 31 = .ok (.goto 4, 3) := by decide +kernel
theorem d_Model_tips_34 : decode b_Model_tips 34 = .ok (.lconst 0, 1) := by decide +kernel
theorem d_Model_tips_35 : decode b_Model_tips 35 = .ok (.lor, 1) := by decide +kernel
theorem d_Model_tips_36 : decode b_Model_tips 36 = .ok (.lstore_n 3, 1) := by decide +kernel
theorem d_Model_tips_37 : decode b_Model_tips 37 = .ok (.iinc 5 1, 3) := by decide +kernel
theorem d_Model_tips_40 : decode b_Model_tips 40 = .ok (.goto (-35), 3) := by decide +kernel
theorem d_Model_tips_43 : decode b_Model_tips 43 = .ok (.lload_n 1, 1) := by decide +kernel
theorem d_Model_tips_44 : decode b_Model_tips 44 = .ok (.lload_n 3, 1) := by decide +kernel
theorem d_Model_tips_45 : decode b_Model_tips 45 = .ok (.ldc2_w 108, 3) := by decide +kernel
theorem d_Model_tips_48 : decode b_Model_tips 48 = .ok (.lxor, 1) := by decide +kernel
theorem d_Model_tips_49 : decode b_Model_tips 49 = .ok (.land, 1) := by decide +kernel
theorem d_Model_tips_50 : decode b_Model_tips 50 = .ok (.lreturn, 1) := by decide +kernel
theorem d_Model_event_0 : decode b_Model_event 0 = .ok (.aload_n 0, 1) := by decide +kernel
theorem d_Model_event_1 : decode b_Model_event 1 = .ok (.getfield 86, 3) := by decide +kernel
theorem d_Model_event_4 : decode b_Model_event 4 = .ok (.istore 4, 2) := by decide +kernel
theorem d_Model_event_6 : decode b_Model_event 6 = .ok (.iconst 0, 1) := by decide +kernel
theorem d_Model_event_7 : decode b_Model_event 7 = .ok (.istore 5, 2) := by decide +kernel
theorem d_Model_event_9 : decode b_Model_event 9 = .ok (.iconst 0, 1) := by decide +kernel
theorem d_Model_event_10 : decode b_Model_event 10 = .ok (.istore 6, 2) := by decide +kernel
theorem d_Model_event_12 : decode b_Model_event 12 = .ok (.iload 6, 2) := by decide +kernel
theorem d_Model_event_14 : decode b_Model_event 14 = .ok (.aload_n 0, 1) := by decide +kernel
theorem d_Model_event_15 : decode b_Model_event 15 = .ok (.getfield 86, 3) := by decide +kernel
theorem d_Model_event_18 : decode b_Model_event 18 = .ok (.if_icmp .ge 30, 3) := by decide +kernel
theorem d_Model_event_21 : decode b_Model_event 21 = .ok (.iload 5, 2) := by decide +kernel
theorem d_Model_event_23 : decode b_Model_event 23 = .ok (.aload_n 0, 1) := by decide +kernel
theorem d_Model_event_24 : decode b_Model_event 24 = .ok (.getfield 7, 3) := by decide +kernel
theorem d_Model_event_27 : decode b_Model_event 27 = .ok (.iload 6, 2) := by decide +kernel
theorem d_Model_event_29 : decode b_Model_event 29 = .ok (.iaload, 1) := by decide +kernel
theorem d_Model_event_30 : decode b_Model_event 30 = .ok (.iload_n 1, 1) := by decide +kernel
theorem d_Model_event_31 : decode b_Model_event 31 = .ok (.if_icmp .ne 7, 3) := by decide +kernel
theorem d_Model_event_34 : decode b_Model_event 34 = .ok (.iconst 1, 1) := by decide +kernel
theorem d_Model_event_35 : decode b_Model_event 35 = .ok (.goto 4, 3) := by decide +kernel
theorem d_Model_event_38 : decode b_Model_event 38 = .ok (.iconst 0, 1) := by decide +kernel
theorem d_Model_event_39 : decode b_Model_event 39 = .ok (.iadd, 1) := by decide +kernel
theorem d_Model_event_40 : decode b_Model_event 40 = .ok (.istore 5, 2) := by decide +kernel
theorem d_Model_event_42 : decode b_Model_event 42 = .ok (.iinc 6 1, 3) := by decide +kernel
theorem d_Model_event_45 : decode b_Model_event 45 = .ok (.goto (-33), 3) := by decide +kernel
theorem d_Model_event_48 : decode b_Model_event 48 = .ok (.aload_n 0, 1) := by decide +kernel
theorem d_Model_event_49 : decode b_Model_event 49 = .ok (.getfield 7, 3) := by decide +kernel
theorem d_Model_event_52 : decode b_Model_event 52 = .ok (.iload 4, 2) := by decide +kernel
theorem d_Model_event_54 : decode b_Model_event 54 = .ok (.iload_n 1, 1) := by decide +kernel
theorem d_Model_event_55 : decode b_Model_event 55 = .ok (.iastore, 1) := by decide +kernel
theorem d_Model_event_56 : decode b_Model_event 56 = .ok (.aload_n 0, 1) := by decide +kernel
theorem d_Model_event_57 : decode b_Model_event 57 = .ok (.getfield 13, 3) := by decide +kernel
theorem d_Model_event_60 : decode b_Model_event 60 = .ok (.iload 4, 2) := by decide +kernel
theorem d_Model_event_62 : decode b_Model_event 62 = .ok (.iload 5, 2) := by decide +kernel
theorem d_Model_event_64 : decode b_Model_event 64 = .ok (.iastore, 1) := by decide +kernel
theorem d_Model_event_65 : decode b_Model_event 65 = .ok (.aload_n 0, 1) := by decide +kernel
theorem d_Model_event_66 : decode b_Model_event 66 = .ok (.getfield 16, 3) := by decide +kernel
theorem d_Model_event_69 : decode b_Model_event 69 = .ok (.iload 4, 2) := by decide +kernel
theorem d_Model_event_71 : decode b_Model_event 71 = .ok (.iload_n 2, 1) := by decide +kernel
theorem d_Model_event_72 : decode b_Model_event 72 = .ok (.bastore, 1) := by decide +kernel
theorem d_Model_event_73 : decode b_Model_event 73 = .ok (.aload_n 0, 1) := by decide +kernel
theorem d_Model_event_74 : decode b_Model_event 74 = .ok (.getfield 20, 3) := by decide +kernel
theorem d_Model_event_77 : decode b_Model_event 77 = .ok (.iload 4, 2) := by decide +kernel
theorem d_Model_event_79 : decode b_Model_event 79 = .ok (.iload_n 3, 1) := by decide +kernel
theorem d_Model_event_80 : decode b_Model_event 80 = .ok (.iastore, 1) := by decide +kernel
theorem d_Model_event_81 : decode b_Model_event 81 = .ok (.aload_n 0, 1) := by decide +kernel
theorem d_Model_event_82 : decode b_Model_event 82 = .ok (.getfield 26, 3) := by decide +kernel
theorem d_Model_event_85 : decode b_Model_event 85 = .ok (.iload 4, 2) := by decide +kernel
theorem d_Model_event_87 : decode b_Model_event 87 = .ok (.aload_n 0, 1) := by decide +kernel
theorem d_Model_event_88 : decode b_Model_event 88 = .ok (.getfield 45, 3) := by decide +kernel
theorem d_Model_event_91 : decode b_Model_event 91 = .ok (.iload_n 1, 1) := by decide +kernel
theorem d_Model_event_92 : decode b_Model_event 92 = .ok (.laload, 1) := by decide +kernel
theorem d_Model_event_93 : decode b_Model_event 93 = .ok (.lastore, 1) := by decide +kernel
theorem d_Model_event_94 : decode b_Model_event 94 = .ok (.aload_n 0, 1) := by decide +kernel
theorem d_Model_event_95 : decode b_Model_event 95 = .ok (.getfield 30, 3) := by decide +kernel
theorem d_Model_event_98 : decode b_Model_event 98 = .ok (.iload 4, 2) := by decide +kernel
theorem d_Model_event_100 : decode b_Model_event 100 = .ok (.aload_n 0, 1) := by decide +kernel
theorem d_Model_event_101 : decode b_Model_event 101 = .ok (.aload_n 0, 1) := by decide +kernel
theorem d_Model_event_102 : decode b_Model_event 102 = .ok (.getfield 45, 3) := by decide +kernel
theorem d_Model_event_105 : decode b_Model_event 105 = .ok (.iload_n 1, 1) := by decide +kernel
theorem d_Model_event_106 : decode b_Model_event 106 = .ok (.laload, 1) := by decide +kernel
theorem d_Model_event_107 : decode b_Model_event 107 = .ok (.invokevirtual 110, 3) := by decide +kernel
theorem d_Model_event_110 : decode b_Model_event 110 = .ok (.lastore, 1) := by decide +kernel
theorem d_Model_event_111 : decode b_Model_event 111 = .ok (.aload_n 0, 1) := by decide +kernel
theorem d_Model_event_112 : decode b_Model_event 112 = .ok (.getfield 45, 3) := by decide +kernel
theorem d_Model_event_115 : decode b_Model_event 115 = .ok (.iload_n 1, 1) := by decide +kernel
theorem d_Model_event_116 : decode b_Model_event 116 = .ok (.dup2, 1) := by decide +kernel
theorem d_Model_event_117 : decode b_Model_event 117 = .ok (.laload, 1) := by decide +kernel
theorem d_Model_event_118 : decode b_Model_event 118 = .ok (.iload 4, 2) := by decide +kernel
theorem d_Model_event_120 : decode b_Model_event 120 = .ok (.invokestatic 90, 3) := by decide +kernel
theorem d_Model_event_123 : decode b_Model_event 123 = .ok (.lor, 1) := by decide +kernel
theorem d_Model_event_124 : decode b_Model_event 124 = .ok (.lastore, 1) := by decide +kernel
theorem d_Model_event_125 : decode b_Model_event 125 = .ok (.aload_n 0, 1) := by decide +kernel
theorem d_Model_event_126 : decode b_Model_event 126 = .ok (.dup, 1) := by decide +kernel
theorem d_Model_event_127 : decode b_Model_event 127 = .ok (.getfield 86, 3) := by decide +kernel
theorem d_Model_event_130 : decode b_Model_event 130 = .ok (.iconst 1, 1) := by decide +kernel
theorem d_Model_event_131 : decode b_Model_event 131 = .ok (.iadd, 1) := by decide +kernel
theorem d_Model_event_132 : decode b_Model_event 132 = .ok (.putfield 86, 3) := by decide +kernel
theorem d_Model_event_135 : decode b_Model_event 135 = .ok (.iload 4, 2) := by decide +kernel
theorem d_Model_event_137 : decode b_Model_event 137 = .ok (.ireturn, 1) := by decide +kernel
theorem d_Model_length_0 : decode b_Model_length 0 = .ok (.iload_n 1, 1) := by decide +kernel
theorem d_Model_length_1 : decode b_Model_length 1 = .ok (.invokestatic 82, 3) := by decide +kernel
theorem d_Model_length_4 : decode b_Model_length 4 = .ok (.ifCond .eq 9, 3) := by decide +kernel
theorem d_Model_length_7 : decode b_Model_length 7 = .ok (.sipush (-1000), 3) := by decide +kernel
theorem d_Model_length_10 : decode b_Model_length 10 = .ok (.goto 14, 3) := by decide +kernel
theorem d_Model_length_13 : decode b_Model_length 13 = .ok (.aload_n 0, 1) := by decide +kernel
theorem d_Model_length_14 : decode b_Model_length 14 = .ok (.aload_n 0, 1) := by decide +kernel
theorem d_Model_length_15 : decode b_Model_length 15 = .ok (.getfield 45, 3) := by decide +kernel
theorem d_Model_length_18 : decode b_Model_length 18 = .ok (.iload_n 1, 1) := by decide +kernel
theorem d_Model_length_19 : decode b_Model_length 19 = .ok (.laload, 1) := by decide +kernel
theorem d_Model_length_20 : decode b_Model_length 20 = .ok (.iconst (-1), 1) := by decide +kernel
theorem d_Model_length_21 : decode b_Model_length 21 = .ok (.invokevirtual 132, 3) := by decide +kernel
theorem d_Model_length_24 : decode b_Model_length 24 = .ok (.ireturn, 1) := by decide +kernel
theorem d_Model_insert_0 : decode b_Model_insert 0 = .ok (.iload_n 1, 1) := by decide +kernel
theorem d_Model_insert_1 : decode b_Model_insert 1 = .ok (.invokestatic 82, 3) := by decide +kernel
theorem d_Model_insert_4 : decode b_Model_insert 4 = .ok (.ifCond .ne 37, 3) := by decide +kernel
theorem d_Model_insert_7 : decode b_Model_insert 7 = .ok (.iload_n 3, 1) := by decide +kernel
theorem d_Model_insert_8 : decode b_Model_insert 8 = .ok (.bipush 32, 2) := by decide +kernel
theorem d_Model_insert_10 : decode b_Model_insert 10 = .ok (.if_icmp .lt 31, 3) := by decide +kernel
theorem d_Model_insert_13 : decode b_Model_insert 13 = .ok (.iload_n 3, 1) := by decide +kernel
theorem d_Model_insert_14 : decode b_Model_insert 14 = .ok (.bipush 126, 2) := by decide +kernel
theorem d_Model_insert_16 : decode b_Model_insert 16 = .ok (.if_icmp .gt 25, 3) := by decide +kernel
theorem d_Model_insert_19 : decode b_Model_insert 19 = .ok (.aload_n 0, 1) := by decide +kernel
theorem d_Model_insert_20 : decode b_Model_insert 20 = .ok (.getfield 86, 3) := by decide +kernel
theorem d_Model_insert_23 : decode b_Model_insert 23 = .ok (.bipush 40, 2) := by decide +kernel
theorem d_Model_insert_25 : decode b_Model_insert 25 = .ok (.if_icmp .ge 16, 3) := by decide +kernel
theorem d_Model_insert_28 : decode b_Model_insert 28 = .ok (.iload_n 2, 1) := by decide +kernel
theorem d_Model_insert_29 : decode b_Model_insert 29 = .ok (.ifCond .lt 12, 3) := by decide +kernel
theorem d_Model_insert_32 : decode b_Model_insert 32 = .ok (.iload_n 2, 1) := by decide +kernel
theorem d_Model_insert_33 : decode b_Model_insert 33 = .ok (.aload_n 0, 1) := by decide +kernel
theorem d_Model_insert_34 : decode b_Model_insert 34 = .ok (.iload_n 1, 1) := by decide +kernel
theorem d_Model_insert_35 : decode b_Model_insert 35 = .ok (.invokevirtual 113, 3) := by decide +kernel
theorem d_Model_insert_38 : decode b_Model_insert 38 = .ok (.if_icmp .le 7, 3) := by decide +kernel
theorem d_Model_insert_41 : decode b_Model_insert 41 = .ok (.sipush (-1000), 3) := by decide +kernel
theorem d_Model_insert_44 : decode b_Model_insert 44 = .ok (.ireturn, 1) := by decide +kernel
theorem d_Model_insert_45 : decode b_Model_insert 45 = .ok (.aload_n 0, 1) := by decide +kernel
theorem d_Model_insert_46 : decode b_Model_insert 46 = .ok (.getfield 45, 3) := by decide +kernel
theorem d_Model_insert_49 : decode b_Model_insert 49 = .ok (.iload_n 1, 1) := by decide +kernel
theorem d_Model_insert_50 : decode b_Model_insert 50 = .ok (.laload, 1) := by decide +kernel
theorem d_Model_insert_51 : decode b_Model_insert 51 = .ok (.lstore 4, 2) := by decide +kernel
theorem d_Model_insert_53 : decode b_Model_insert 53 = .ok (.iload_n 2, 1) := by decide +kernel
theorem d_Model_insert_54 : decode b_Model_insert 54 = .ok (.ifCond .ne 8, 3) := by decide +kernel
theorem d_Model_insert_57 : decode b_Model_insert 57 = .ok (.bipush 40, 2) := by decide +kernel
theorem d_Model_insert_59 : decode b_Model_insert 59 = .ok (.goto 12, 3) := by decide +kernel
theorem d_Model_insert_62 : decode b_Model_insert 62 = .ok (.aload_n 0, 1) := by decide +kernel
theorem d_Model_insert_63 : decode b_Model_insert 63 = .ok (.lload 4, 2) := by decide +kernel
theorem d_Model_insert_65 : decode b_Model_insert 65 = .ok (.iload_n 2, 1) := by decide +kernel
theorem d_Model_insert_66 : decode b_Model_insert 66 = .ok (.iconst 1, 1) := by decide +kernel
theorem d_Model_insert_67 : decode b_Model_insert 67 = .ok (.isub, 1) := by decide +kernel
theorem d_Model_insert_68 : decode b_Model_insert 68 = .ok (.invokevirtual 117, 3) := by decide +kernel
theorem d_Model_insert_71 : decode b_Model_insert 71 = .ok (.istore 6, 2) := by decide +kernel
theorem d_Model_insert_73 : decode b_Model_insert 73 = .ok (.iconst 1, 1) := by decide +kernel
theorem d_Model_insert_74 : decode b_Model_insert 74 = .ok (.istore 7, 2) := by decide +kernel
theorem d_Model_insert_76 : decode b_Model_insert 76 = .ok (.iconst 0, 1) := by decide +kernel
theorem d_Model_insert_77 : decode b_Model_insert 77 = .ok (.istore 8, 2) := by decide +kernel
theorem d_Model_insert_79 : decode b_Model_insert 79 = .ok (.iload 8, 2) := by decide +kernel
theorem d_Model_insert_81 : decode b_Model_insert 81 = .ok (.aload_n 0, 1) := by decide +kernel
theorem d_Model_insert_82 : decode b_Model_insert 82 = .ok (.getfield 86, 3) := by decide +kernel
theorem d_Model_insert_85 : decode b_Model_insert 85 = .ok (.if_icmp .ge 54, 3) := by decide +kernel
theorem d_Model_insert_88 : decode b_Model_insert 88 = .ok (.lload 4, 2) := by decide +kernel
theorem d_Model_insert_90 : decode b_Model_insert 90 = .ok (.iload 8, 2) := by decide +kernel
theorem d_Model_insert_92 : decode b_Model_insert 92 = .ok (.invokestatic 78, 3) := by decide +kernel
theorem d_Model_insert_95 : decode b_Model_insert 95 = .ok (.ifCond .eq 38, 3) := by decide +kernel
theorem d_Model_insert_98 : decode b_Model_insert 98 = .ok (.aload_n 0, 1) := by decide +kernel
theorem d_Model_insert_99 : decode b_Model_insert 99 = .ok (.getfield 16, 3) := by decide +kernel
theorem d_Model_insert_102 : decode b_Model_insert 102 = .ok (.iload 8, 2) := by decide +kernel
theorem d_Model_insert_104 : decode b_Model_insert 104 = .ok (.baload, 1) := by decide +kernel
theorem d_Model_insert_105 : decode b_Model_insert 105 = .ok (.ifCond .eq 28, 3) := by decide +kernel
theorem d_Model_insert_108 : decode b_Model_insert 108 = .ok (.aload_n 0, 1) := by decide +kernel
theorem d_Model_insert_109 : decode b_Model_insert 109 = .ok (.getfield 36, 3) := by decide +kernel
theorem d_Model_insert_112 : decode b_Model_insert 112 = .ok (.iload 8, 2) := by decide +kernel
theorem d_Model_insert_114 : decode b_Model_insert 114 = .ok (.baload, 1) := by decide +kernel
theorem d_Model_insert_115 : decode b_Model_insert 115 = .ok (.ifCond .eq 18, 3) := by decide +kernel
theorem d_Model_insert_118 : decode b_Model_insert 118 = .ok (.aload_n 0, 1) := by decide +kernel
theorem d_Model_insert_119 : decode b_Model_insert 119 = .ok (.getfield 33, 3) := by decide +kernel
theorem d_Model_insert_122 : decode b_Model_insert 122 = .ok (.iload 8, 2) := by decide +kernel
theorem d_Model_insert_124 : decode b_Model_insert 124 = .ok (.iaload, 1) := by decide +kernel
theorem d_Model_insert_125 : decode b_Model_insert 125 = .ok (.iload 6, 2) := by decide +kernel
theorem d_Model_insert_127 : decode b_Model_insert 127 = .ok (.if_icmp .ne 6, 3) := by decide +kernel
theorem d_Model_insert_130 : decode b_Model_insert 130 = .ok (.iconst 0, 1) := by decide +kernel
theorem d_Model_insert_131 : decode b_Model_insert 131 = .ok (.istore 7, 2) := by decide +kernel
theorem d_Model_insert_133 : decode b_Model_insert 133 = .ok (.iinc 8 1, 3) := by decide +kernel
theorem d_Model_insert_136 : decode b_Model_insert 136 = .ok (.goto (-57), 3) := by decide +kernel
theorem d_Model_insert_139 : decode b_Model_insert 139 = .ok (.iload 7, 2) := by decide +kernel
theorem d_Model_insert_141 : decode b_Model_insert 141 = .ok (.ifCond .eq 8, 3) := by decide +kernel
theorem d_Model_insert_144 : decode b_Model_insert 144 = .ok (.iload 6, 2) := by decide +kernel
theorem d_Model_insert_146 : decode b_Model_insert 146 = .ok (.goto 11, 3) := by decide +kernel
theorem d_Model_insert_149 : decode b_Model_insert 149 = .ok (.aload_n 0, 1) := by decide +kernel
theorem d_Model_insert_150 : decode b_Model_insert 150 = .ok (.lload 4, 2) := by decide +kernel
theorem d_Model_insert_152 : decode b_Model_insert 152 = .ok (.iload 6, 2) := by decide +kernel
theorem d_Model_insert_154 : decode b_Model_insert 154 = .ok (.invokevirtual 121, 3) := by decide +kernel
theorem d_Model_insert_157 : decode b_Model_insert 157 = .ok (.istore 8, 2) := by decide +kernel
theorem d_Model_insert_159 : decode b_Model_insert 159 = .ok (.aload_n 0, 1) := by decide +kernel
theorem d_Model_insert_160 : decode b_Model_insert 160 = .ok (.iload_n 1, 1) := by decide +kernel
theorem d_Model_insert_161 : decode b_Model_insert 161 = .ok (.iconst 1, 1) := by decide +kernel
theorem d_Model_insert_162 : decode b_Model_insert 162 = .ok (.iload_n 2, 1) := by decide +kernel
theorem d_Model_insert_163 : decode b_Model_insert 163 = .ok (.invokevirtual 124, 3) := by decide +kernel
theorem d_Model_insert_166 : decode b_Model_insert 166 = .ok (.istore 9, 2) := by decide +kernel
theorem d_Model_insert_168 : decode b_Model_insert 168 = .ok (.aload_n 0, 1) := by decide +kernel
theorem d_Model_insert_169 : decode b_Model_insert 169 = .ok (.getfield 23, 3) := by decide +kernel
theorem d_Model_insert_172 : decode b_Model_insert 172 = .ok (.iload 9, 2) := by decide +kernel
theorem d_Model_insert_174 : decode b_Model_insert 174 = .ok (.iload_n 3, 1) := by decide +kernel
theorem d_Model_insert_175 : decode b_Model_insert 175 = .ok (.iastore, 1) := by decide +kernel
theorem d_Model_insert_176 : decode b_Model_insert 176 = .ok (.aload_n 0, 1) := by decide +kernel
theorem d_Model_insert_177 : decode b_Model_insert 177 = .ok (.getfield 33, 3) := by decide +kernel
theorem d_Model_insert_180 : decode b_Model_insert 180 = .ok (.iload 9, 2) := by decide +kernel
theorem d_Model_insert_182 : decode b_Model_insert 182 = .ok (.iload 8, 2) := by decide +kernel
theorem d_Model_insert_184 : decode b_Model_insert 184 = .ok (.iastore, 1) := by decide +kernel
theorem d_Model_insert_185 : decode b_Model_insert 185 = .ok (.aload_n 0, 1) := by decide +kernel
theorem d_Model_insert_186 : decode b_Model_insert 186 = .ok (.getfield 36, 3) := by decide +kernel
theorem d_Model_insert_189 : decode b_Model_insert 189 = .ok (.iload 9, 2) := by decide +kernel
theorem d_Model_insert_191 : decode b_Model_insert 191 = .ok (.iload 7, 2) := by decide +kernel
theorem d_Model_insert_193 : decode b_Model_insert 193 = .ok (.bastore, 1) := by decide +kernel
theorem d_Model_insert_194 : decode b_Model_insert 194 = .ok (.aload_n 0, 1) := by decide +kernel
theorem d_Model_insert_195 : decode b_Model_insert 195 = .ok (.getfield 39, 3) := by decide +kernel
theorem d_Model_insert_198 : decode b_Model_insert 198 = .ok (.iload 9, 2) := by decide +kernel
theorem d_Model_insert_200 : decode b_Model_insert 200 = .ok (.aload_n 0, 1) := by decide +kernel
theorem d_Model_insert_201 : decode b_Model_insert 201 = .ok (.getfield 39, 3) := by decide +kernel
theorem d_Model_insert_204 : decode b_Model_insert 204 = .ok (.iload 8, 2) := by decide +kernel
theorem d_Model_insert_206 : decode b_Model_insert 206 = .ok (.iaload, 1) := by decide +kernel
theorem d_Model_insert_207 : decode b_Model_insert 207 = .ok (.iconst 1, 1) := by decide +kernel
theorem d_Model_insert_208 : decode b_Model_insert 208 = .ok (.iadd, 1) := by decide +kernel
theorem d_Model_insert_209 : decode b_Model_insert 209 = .ok (.iastore, 1) := by decide +kernel
theorem d_Model_insert_210 : decode b_Model_insert 210 = .ok (.aload_n 0, 1) := by decide +kernel
theorem d_Model_insert_211 : decode b_Model_insert 211 = .ok (.iload 9, 2) := by decide +kernel
theorem d_Model_insert_213 : decode b_Model_insert 213 = .ok (.invokevirtual 128, 3) := by decide +kernel
theorem d_Model_insert_216 : decode b_Model_insert 216 = .ok (.aload_n 0, 1) := by decide +kernel
theorem d_Model_insert_217 : decode b_Model_insert 217 = .ok (.getfield 13, 3) := by decide +kernel
theorem d_Model_insert_220 : decode b_Model_insert 220 = .ok (.iload 9, 2) := by decide +kernel
theorem d_Model_insert_222 : decode b_Model_insert 222 = .ok (.iaload, 1) := by decide +kernel
theorem d_Model_insert_223 : decode b_Model_insert 223 = .ok (.ireturn, 1) := by decide +kernel
theorem d_Model_delete_0 : decode b_Model_delete 0 = .ok (.iload_n 1, 1) := by decide +kernel
theorem d_Model_delete_1 : decode b_Model_delete 1 = .ok (.invokestatic 82, 3) := by decide +kernel
theorem d_Model_delete_4 : decode b_Model_delete 4 = .ok (.ifCond .ne 25, 3) := by decide +kernel
theorem d_Model_delete_7 : decode b_Model_delete 7 = .ok (.aload_n 0, 1) := by decide +kernel
theorem d_Model_delete_8 : decode b_Model_delete 8 = .ok (.getfield 86, 3) := by decide +kernel
theorem d_Model_delete_11 : decode b_Model_delete 11 = .ok (.bipush 40, 2) := by decide +kernel
theorem d_Model_delete_13 : decode b_Model_delete 13 = .ok (.if_icmp .ge 16, 3) := by decide +kernel
theorem d_Model_delete_16 : decode b_Model_delete 16 = .ok (.iload_n 2, 1) := by decide +kernel
theorem d_Model_delete_17 : decode b_Model_delete 17 = .ok (.ifCond .lt 12, 3) := by decide +kernel
theorem d_Model_delete_20 : decode b_Model_delete 20 = .ok (.iload_n 2, 1) := by decide +kernel
theorem d_Model_delete_21 : decode b_Model_delete 21 = .ok (.aload_n 0, 1) := by decide +kernel
theorem d_Model_delete_22 : decode b_Model_delete 22 = .ok (.iload_n 1, 1) := by decide +kernel
theorem d_Model_delete_23 : decode b_Model_delete 23 = .ok (.invokevirtual 113, 3) := by decide +kernel
theorem d_Model_delete_26 : decode b_Model_delete 26 = .ok (.if_icmp .lt 7, 3) := by decide +kernel
theorem d_Model_delete_29 : decode b_Model_delete 29 = .ok (.sipush (-1000), 3) := by decide +kernel
theorem d_Model_delete_32 : decode b_Model_delete 32 = .ok (.ireturn, 1) := by decide +kernel
theorem d_Model_delete_33 : decode b_Model_delete 33 = .ok (.aload_n 0, 1) := by decide +kernel
theorem d_Model_delete_34 : decode b_Model_delete 34 = .ok (.aload_n 0, 1) := by decide +kernel
theorem d_Model_delete_35 : decode b_Model_delete 35 = .ok (.getfield 45, 3) := by decide +kernel
theorem d_Model_delete_38 : decode b_Model_delete 38 = .ok (.iload_n 1, 1) := by decide +kernel
theorem d_Model_delete_39 : decode b_Model_delete 39 = .ok (.laload, 1) := by decide +kernel
theorem d_Model_delete_40 : decode b_Model_delete 40 = .ok (.iload_n 2, 1) := by decide +kernel
theorem d_Model_delete_41 : decode b_Model_delete 41 = .ok (.invokevirtual 117, 3) := by decide +kernel
theorem d_Model_delete_44 : decode b_Model_delete 44 = .ok (.istore_n 3, 1) := by decide +kernel
theorem d_Model_delete_45 : decode b_Model_delete 45 = .ok (.aload_n 0, 1) := by decide +kernel
theorem d_Model_delete_46 : decode b_Model_delete 46 = .ok (.iload_n 1, 1) := by decide +kernel
theorem d_Model_delete_47 : decode b_Model_delete 47 = .ok (.iconst 0, 1) := by decide +kernel
theorem d_Model_delete_48 : decode b_Model_delete 48 = .ok (.iload_n 2, 1) := by decide +kernel
theorem d_Model_delete_49 : decode b_Model_delete 49 = .ok (.invokevirtual 124, 3) := by decide +kernel
theorem d_Model_delete_52 : decode b_Model_delete 52 = .ok (.istore 4, 2) := by decide +kernel
theorem d_Model_delete_54 : decode b_Model_delete 54 = .ok (.aload_n 0, 1) := by decide +kernel
theorem d_Model_delete_55 : decode b_Model_delete 55 = .ok (.getfield 33, 3) := by decide +kernel
theorem d_Model_delete_58 : decode b_Model_delete 58 = .ok (.iload 4, 2) := by decide +kernel
theorem d_Model_delete_60 : decode b_Model_delete 60 = .ok (.iload_n 3, 1) := by decide +kernel
theorem d_Model_delete_61 : decode b_Model_delete 61 = .ok (.iastore, 1) := by decide +kernel
theorem d_Model_delete_62 : decode b_Model_delete 62 = .ok (.aload_n 0, 1) := by decide +kernel
theorem d_Model_delete_63 : decode b_Model_delete 63 = .ok (.getfield 13, 3) := by decide +kernel
theorem d_Model_delete_66 : decode b_Model_delete 66 = .ok (.iload 4, 2) := by decide +kernel
theorem d_Model_delete_68 : decode b_Model_delete 68 = .ok (.iaload, 1) := by decide +kernel
theorem d_Model_delete_69 : decode b_Model_delete 69 = .ok (.ireturn, 1) := by decide +kernel
theorem d_Model_at_0 : decode b_Model_at 0 = .ok (.iload_n 1, 1) := by decide +kernel
theorem d_Model_at_1 : decode b_Model_at 1 = .ok (.invokestatic 82, 3) := by decide +kernel
theorem d_Model_at_4 : decode b_Model_at 4 = .ok (.ifCond .ne 16, 3) := by decide +kernel
theorem d_Model_at_7 : decode b_Model_at 7 = .ok (.iload_n 2, 1) := by decide +kernel
theorem d_Model_at_8 : decode b_Model_at 8 = .ok (.ifCond .lt 12, 3) := by decide +kernel
theorem d_Model_at_11 : decode b_Model_at 11 = .ok (.iload_n 2, 1) := by decide +kernel
theorem d_Model_at_12 : decode b_Model_at 12 = .ok (.aload_n 0, 1) := by decide +kernel
theorem d_Model_at_13 : decode b_Model_at 13 = .ok (.iload_n 1, 1) := by decide +kernel
theorem d_Model_at_14 : decode b_Model_at 14 = .ok (.invokevirtual 113, 3) := by decide +kernel
theorem d_Model_at_17 : decode b_Model_at 17 = .ok (.if_icmp .lt 7, 3) := by decide +kernel
theorem d_Model_at_20 : decode b_Model_at 20 = .ok (.sipush (-1000), 3) := by decide +kernel
theorem d_Model_at_23 : decode b_Model_at 23 = .ok (.ireturn, 1) := by decide +kernel
theorem d_Model_at_24 : decode b_Model_at 24 = .ok (.aload_n 0, 1) := by decide +kernel
theorem d_Model_at_25 : decode b_Model_at 25 = .ok (.aload_n 0, 1) := by decide +kernel
theorem d_Model_at_26 : decode b_Model_at 26 = .ok (.getfield 45, 3) := by decide +kernel
theorem d_Model_at_29 : decode b_Model_at 29 = .ok (.iload_n 1, 1) := by decide +kernel
theorem d_Model_at_30 : decode b_Model_at 30 = .ok (.laload, 1) := by decide +kernel
theorem d_Model_at_31 : decode b_Model_at 31 = .ok (.iload_n 2, 1) := by decide +kernel
end
section
theorem d_Model_at_32 : decode b_Model_at 32 = .ok (.invokevirtual 117, 3) := by decide +kernel
theorem d_Model_at_35 : decode b_Model_at 35 = .ok (.istore_n 3, 1) := by decide +kernel
theorem d_Model_at_36 : decode b_Model_at 36 = .ok (.aload_n 0, 1) := by decide +kernel
theorem d_Model_at_37 : decode b_Model_at 37 = .ok (.getfield 23, 3) := by decide +kernel
theorem d_Model_at_40 : decode b_Model_at 40 = .ok (.iload_n 3, 1) := by decide +kernel
theorem d_Model_at_41 : decode b_Model_at 41 = .ok (.iaload, 1) := by decide +kernel
theorem d_Model_at_42 : decode b_Model_at 42 = .ok (.ireturn, 1) := by decide +kernel
theorem d_Model_can_0 : decode b_Model_can 0 = .ok (.lload_n 1, 1) := by decide +kernel
theorem d_Model_can_1 : decode b_Model_can 1 = .ok (.iload 5, 2) := by decide +kernel
theorem d_Model_can_3 : decode b_Model_can 3 = .ok (.invokestatic 78, 3) := by decide +kernel
theorem d_Model_can_6 : decode b_Model_can 6 = .ok (.ifCond .eq 36, 3) := by decide +kernel
theorem d_Model_can_9 : decode b_Model_can 9 = .ok (.lload_n 3, 1) := by decide +kernel
theorem d_Model_can_10 : decode b_Model_can 10 = .ok (.iload 5, 2) := by decide +kernel
theorem d_Model_can_12 : decode b_Model_can 12 = .ok (.invokestatic 78, 3) := by decide +kernel
theorem d_Model_can_15 : decode b_Model_can 15 = .ok (.ifCond .ne 27, 3) := by decide +kernel
theorem d_Model_can_18 : decode b_Model_can 18 = .ok (.aload_n 0, 1) := by decide +kernel
theorem d_Model_can_19 : decode b_Model_can 19 = .ok (.getfield 30, 3) := by decide +kernel
theorem d_Model_can_22 : decode b_Model_can 22 = .ok (.iload 5, 2) := by decide +kernel
theorem d_Model_can_24 : decode b_Model_can 24 = .ok (.laload, 1) := by decide +kernel
theorem d_Model_can_25 : decode b_Model_can 25 = .ok (.lload_n 1, 1) := by decide +kernel
theorem d_Model_can_26 : decode b_Model_can 26 = .ok (.land, 1) := by decide +kernel
theorem d_Model_can_27 : decode b_Model_can 27 = .ok (.lload_n 3, 1) := by decide +kernel
theorem d_Model_can_28 : decode b_Model_can 28 = .ok (.ldc2_w 108, 3) := by decide +kernel
theorem d_Model_can_31 : decode b_Model_can 31 = .ok (.lxor, 1) := by decide +kernel
theorem d_Model_can_32 : decode b_Model_can 32 = .ok (.land, 1) := by decide +kernel
theorem d_Model_can_33 : decode b_Model_can 33 = .ok (.lconst 0, 1) := by decide +kernel
theorem d_Model_can_34 : decode b_Model_can 34 = .ok (.lcmp, 1) := by decide +kernel
theorem d_Model_can_35 : decode b_Model_can 35 = .ok (.ifCond .ne 7, 3) := by decide +kernel
theorem d_Model_can_38 : decode b_Model_can 38 = .ok (.iconst 1, 1) := by decide +kernel
theorem d_Model_can_39 : decode b_Model_can 39 = .ok (.goto 4, 3) := by decide +kernel
theorem d_Model_can_42 : decode b_Model_can 42 = .ok (.iconst 0, 1) := by decide +kernel
theorem d_Model_can_43 : decode b_Model_can 43 = .ok (.ireturn, 1) := by decide +kernel
theorem d_Model_nextOf_0 : decode b_Model_nextOf 0 = .ok (.iconst (-1), 1) := by decide +kernel
theorem d_Model_nextOf_1 : decode b_Model_nextOf 1 = .ok (.istore 6, 2) := by decide +kernel
theorem d_Model_nextOf_3 : decode b_Model_nextOf 3 = .ok (.iconst 0, 1) := by decide +kernel
theorem d_Model_nextOf_4 : decode b_Model_nextOf 4 = .ok (.istore 7, 2) := by decide +kernel
theorem d_Model_nextOf_6 : decode b_Model_nextOf 6 = .ok (.iload 7, 2) := by decide +kernel
theorem d_Model_nextOf_8 : decode b_Model_nextOf 8 = .ok (.iconst 3, 1) := by decide +kernel
theorem d_Model_nextOf_9 : decode b_Model_nextOf 9 = .ok (.if_icmp .ge 87, 3) := by decide +kernel
theorem d_Model_nextOf_12 : decode b_Model_nextOf 12 = .ok (.iconst 0, 1) := by decide +kernel
theorem d_Model_nextOf_13 : decode b_Model_nextOf 13 = .ok (.istore 8, 2) := by decide +kernel
theorem d_Model_nextOf_15 : decode b_Model_nextOf 15 = .ok (.iload 8, 2) := by decide +kernel
theorem d_Model_nextOf_17 : decode b_Model_nextOf 17 = .ok (.aload_n 0, 1) := by decide +kernel
theorem d_Model_nextOf_18 : decode b_Model_nextOf 18 = .ok (.getfield 86, 3) := by decide +kernel
theorem d_Model_nextOf_21 : decode b_Model_nextOf 21 = .ok (.if_icmp .ge 69, 3) := by decide +kernel
theorem d_Model_nextOf_24 : decode b_Model_nextOf 24 = .ok (.aload_n 0, 1) := by decide +kernel
theorem d_Model_nextOf_25 : decode b_Model_nextOf 25 = .ok (.getfield 7, 3) := by decide +kernel
theorem d_Model_nextOf_28 : decode b_Model_nextOf 28 = .ok (.iload 8, 2) := by decide +kernel
theorem d_Model_nextOf_30 : decode b_Model_nextOf 30 = .ok (.iaload, 1) := by decide +kernel
theorem d_Model_nextOf_31 : decode b_Model_nextOf 31 = .ok (.iload 7, 2) := by decide +kernel
theorem d_Model_nextOf_33 : decode b_Model_nextOf 33 = .ok (.if_icmp .ne 51, 3) := by decide +kernel
theorem d_Model_nextOf_36 : decode b_Model_nextOf 36 = .ok (.aload_n 0, 1) := by decide +kernel
theorem d_Model_nextOf_37 : decode b_Model_nextOf 37 = .ok (.lload_n 1, 1) := by decide +kernel
theorem d_Model_nextOf_38 : decode b_Model_nextOf 38 = .ok (.lload_n 3, 1) := by decide +kernel
theorem d_Model_nextOf_39 : decode b_Model_nextOf 39 = .ok (.iload 8, 2) := by decide +kernel
theorem d_Model_nextOf_41 : decode b_Model_nextOf 41 = .ok (.invokevirtual 135, 3) := by decide +kernel
theorem d_Model_nextOf_44 : decode b_Model_nextOf 44 = .ok (.ifCond .eq 40, 3) := by decide +kernel
theorem d_Model_nextOf_47 : decode b_Model_nextOf 47 = .ok (.iload 5, 2) := by decide +kernel
theorem d_Model_nextOf_49 : decode b_Model_nextOf 49 = .ok (.ifCond .lt 21, 3) := by decide +kernel
theorem d_Model_nextOf_52 : decode b_Model_nextOf 52 = .ok (.aload_n 0, 1) := by decide +kernel
theorem d_Model_nextOf_53 : decode b_Model_nextOf 53 = .ok (.getfield 30, 3) := by decide +kernel
theorem d_Model_nextOf_56 : decode b_Model_nextOf 56 = .ok (.iload 8, 2) := by decide +kernel
theorem d_Model_nextOf_58 : decode b_Model_nextOf 58 = .ok (.laload, 1) := by decide +kernel
theorem d_Model_nextOf_59 : decode b_Model_nextOf 59 = .ok (.iload 5, 2) := by decide +kernel
theorem d_Model_nextOf_61 : decode b_Model_nextOf 61 = .ok (.invokestatic 78, 3) := by decide +kernel
theorem d_Model_nextOf_64 : decode b_Model_nextOf 64 = .ok (.ifCond .eq 6, 3) := by decide +kernel
theorem d_Model_nextOf_67 : decode b_Model_nextOf 67 = .ok (.iload 8, 2) := by decide +kernel
theorem d_Model_nextOf_69 : decode b_Model_nextOf 69 = .ok (.ireturn, 1) := by decide +kernel
theorem d_Model_nextOf_70 : decode b_Model_nextOf 70 = .ok (.iload 6, 2) := by decide +kernel
theorem d_Model_nextOf_72 : decode b_Model_nextOf 72 = .ok (.ifCond .ge 8, 3) := by decide +kernel
theorem d_Model_nextOf_75 : decode b_Model_nextOf 75 = .ok (.iload 8, 2) := by decide +kernel
theorem d_Model_nextOf_77 : decode b_Model_nextOf 77 = .ok (.goto 5, 3) := by decide +kernel
theorem d_Model_nextOf_80 : decode b_Model_nextOf 80 = .ok (.iload 6, 2) := by decide +kernel
theorem d_Model_nextOf_82 : decode b_Model_nextOf 82 = .ok (.istore 6, 2) := by decide +kernel
theorem d_Model_nextOf_84 : decode b_Model_nextOf 84 = .ok (.iinc 8 1, 3) := by decide +kernel
theorem d_Model_nextOf_87 : decode b_Model_nextOf 87 = .ok (.goto (-72), 3) := by decide +kernel
theorem d_Model_nextOf_90 : decode b_Model_nextOf 90 = .ok (.iinc 7 1, 3) := by decide +kernel
theorem d_Model_nextOf_93 : decode b_Model_nextOf 93 = .ok (.goto (-87), 3) := by decide +kernel
theorem d_Model_nextOf_96 : decode b_Model_nextOf 96 = .ok (.iload 6, 2) := by decide +kernel
theorem d_Model_nextOf_98 : decode b_Model_nextOf 98 = .ok (.ireturn, 1) := by decide +kernel
theorem d_Model_order_0 : decode b_Model_order 0 = .ok (.aload_n 0, 1) := by decide +kernel
theorem d_Model_order_1 : decode b_Model_order 1 = .ok (.iconst 0, 1) := by decide +kernel
theorem d_Model_order_2 : decode b_Model_order 2 = .ok (.putfield 139, 3) := by decide +kernel
theorem d_Model_order_5 : decode b_Model_order 5 = .ok (.lconst 0, 1) := by decide +kernel
theorem d_Model_order_6 : decode b_Model_order 6 = .ok (.lstore_n 3, 1) := by decide +kernel
theorem d_Model_order_7 : decode b_Model_order 7 = .ok (.iconst (-1), 1) := by decide +kernel
theorem d_Model_order_8 : decode b_Model_order 8 = .ok (.istore 5, 2) := by decide +kernel
theorem d_Model_order_10 : decode b_Model_order 10 = .ok (.iconst 0, 1) := by decide +kernel
theorem d_Model_order_11 : decode b_Model_order 11 = .ok (.istore 6, 2) := by decide +kernel
theorem d_Model_order_13 : decode b_Model_order 13 = .ok (.iload 6, 2) := by decide +kernel
theorem d_Model_order_15 : decode b_Model_order 15 = .ok (.bipush 40, 2) := by decide +kernel
theorem d_Model_order_17 : decode b_Model_order 17 = .ok (.if_icmp .ge 54, 3) := by decide +kernel
theorem d_Model_order_20 : decode b_Model_order 20 = .ok (.lload_n 3, 1) := by decide +kernel
theorem d_Model_order_21 : decode b_Model_order 21 = .ok (.lload_n 1, 1) := by decide +kernel
theorem d_Model_order_22 : decode b_Model_order 22 = .ok (.lcmp, 1) := by decide +kernel
theorem d_Model_order_23 : decode b_Model_order 23 = .ok (.ifCond .eq 48, 3) := by decide +kernel
theorem d_Model_order_26 : decode b_Model_order 26 = .ok (.aload_n 0, 1) := by decide +kernel
theorem d_Model_order_27 : decode b_Model_order 27 = .ok (.lload_n 1, 1) := by decide +kernel
theorem d_Model_order_28 : decode b_Model_order 28 = .ok (.lload_n 3, 1) := by decide +kernel
theorem d_Model_order_29 : decode b_Model_order 29 = .ok (.iload 5, 2) := by decide +kernel
theorem d_Model_order_31 : decode b_Model_order 31 = .ok (.invokevirtual 142, 3) := by decide +kernel
theorem d_Model_order_34 : decode b_Model_order 34 = .ok (.istore 5, 2) := by decide +kernel
theorem d_Model_order_36 : decode b_Model_order 36 = .ok (.lload_n 3, 1) := by decide +kernel
theorem d_Model_order_37 : decode b_Model_order 37 = .ok (.iload 5, 2) := by decide +kernel
theorem d_Model_order_39 : decode b_Model_order 39 = .ok (.invokestatic 90, 3) := by decide +kernel
theorem d_Model_order_42 : decode b_Model_order 42 = .ok (.lor, 1) := by decide +kernel
theorem d_Model_order_43 : decode b_Model_order 43 = .ok (.lstore_n 3, 1) := by decide +kernel
theorem d_Model_order_44 : decode b_Model_order 44 = .ok (.aload_n 0, 1) := by decide +kernel
theorem d_Model_order_45 : decode b_Model_order 45 = .ok (.getfield 72, 3) := by decide +kernel
theorem d_Model_order_48 : decode b_Model_order 48 = .ok (.aload_n 0, 1) := by decide +kernel
theorem d_Model_order_49 : decode b_Model_order 49 = .ok (.getfield 139, 3) := by decide +kernel
theorem d_Model_order_52 : decode b_Model_order 52 = .ok (.iload 5, 2) := by decide +kernel
theorem d_Model_order_54 : decode b_Model_order 54 = .ok (.iastore, 1) := by decide +kernel
theorem d_Model_order_55 : decode b_Model_order 55 = .ok (.aload_n 0, 1) := by decide +kernel
theorem d_Model_order_56 : decode b_Model_order 56 = .ok (.dup, 1) := by decide +kernel
theorem d_Model_order_57 : decode b_Model_order 57 = .ok (.getfield 139, 3) := by decide +kernel
theorem d_Model_order_60 : decode b_Model_order 60 = .ok (.iconst 1, 1) := by decide +kernel
theorem d_Model_order_61 : decode b_Model_order 61 = .ok (.iadd, 1) := by decide +kernel
theorem d_Model_order_62 : decode b_Model_order 62 = .ok (.putfield 139, 3) := by decide +kernel
theorem d_Model_order_65 : decode b_Model_order 65 = .ok (.iinc 6 1, 3) := by decide +kernel
theorem d_Model_order_68 : decode b_Model_order 68 = .ok (.goto (-55), 3) := by decide +kernel
theorem d_Model_order_71 : decode b_Model_order 71 = .ok (.return_, 1) := by decide +kernel
theorem d_Model_send_0 : decode b_Model_send 0 = .ok (.iload_n 1, 1) := by decide +kernel
theorem d_Model_send_1 : decode b_Model_send 1 = .ok (.iload_n 2, 1) := by decide +kernel
theorem d_Model_send_2 : decode b_Model_send 2 = .ok (.invokestatic 146, 3) := by decide +kernel
theorem d_Model_send_5 : decode b_Model_send 5 = .ok (.ifCond .eq 7, 3) := by decide +kernel
theorem d_Model_send_8 : decode b_Model_send 8 = .ok (.sipush (-1000), 3) := by decide +kernel
theorem d_Model_send_11 : decode b_Model_send 11 = .ok (.ireturn, 1) := by decide +kernel
theorem d_Model_send_12 : decode b_Model_send 12 = .ok (.aload_n 0, 1) := by decide +kernel
theorem d_Model_send_13 : decode b_Model_send 13 = .ok (.getfield 45, 3) := by decide +kernel
theorem d_Model_send_16 : decode b_Model_send 16 = .ok (.iload_n 1, 1) := by decide +kernel
theorem d_Model_send_17 : decode b_Model_send 17 = .ok (.laload, 1) := by decide +kernel
theorem d_Model_send_18 : decode b_Model_send 18 = .ok (.aload_n 0, 1) := by decide +kernel
theorem d_Model_send_19 : decode b_Model_send 19 = .ok (.getfield 48, 3) := by decide +kernel
theorem d_Model_send_22 : decode b_Model_send 22 = .ok (.iconst 3, 1) := by decide +kernel
theorem d_Model_send_23 : decode b_Model_send 23 = .ok (.iload_n 1, 1) := by decide +kernel
theorem d_Model_send_24 : decode b_Model_send 24 = .ok (.imul, 1) := by decide +kernel
theorem d_Model_send_25 : decode b_Model_send 25 = .ok (.iload_n 2, 1) := by decide +kernel
theorem d_Model_send_26 : decode b_Model_send 26 = .ok (.iadd, 1) := by decide +kernel
theorem d_Model_send_27 : decode b_Model_send 27 = .ok (.laload, 1) := by decide +kernel
theorem d_Model_send_28 : decode b_Model_send 28 = .ok (.ldc2_w 108, 3) := by decide +kernel
theorem d_Model_send_31 : decode b_Model_send 31 = .ok (.lxor, 1) := by decide +kernel
theorem d_Model_send_32 : decode b_Model_send 32 = .ok (.land, 1) := by decide +kernel
theorem d_Model_send_33 : decode b_Model_send 33 = .ok (.lstore_n 3, 1) := by decide +kernel
theorem d_Model_send_34 : decode b_Model_send 34 = .ok (.iconst 0, 1) := by decide +kernel
theorem d_Model_send_35 : decode b_Model_send 35 = .ok (.istore 5, 2) := by decide +kernel
theorem d_Model_send_37 : decode b_Model_send 37 = .ok (.iload 5, 2) := by decide +kernel
theorem d_Model_send_39 : decode b_Model_send 39 = .ok (.bipush 6, 2) := by decide +kernel
theorem d_Model_send_41 : decode b_Model_send 41 = .ok (.if_icmp .ge 21, 3) := by decide +kernel
theorem d_Model_send_44 : decode b_Model_send 44 = .ok (.aload_n 0, 1) := by decide +kernel
theorem d_Model_send_45 : decode b_Model_send 45 = .ok (.getfield 51, 3) := by decide +kernel
theorem d_Model_send_48 : decode b_Model_send 48 = .ok (.iload 5, 2) := by decide +kernel
theorem d_Model_send_50 : decode b_Model_send 50 = .ok (.laload, 1) := by decide +kernel
theorem d_Model_send_51 : decode b_Model_send 51 = .ok (.lconst 0, 1) := by decide +kernel
theorem d_Model_send_52 : decode b_Model_send 52 = .ok (.lcmp, 1) := by decide +kernel
theorem d_Model_send_53 : decode b_Model_send 53 = .ok (.ifCond .eq 9, 3) := by decide +kernel
theorem d_Model_send_56 : decode b_Model_send 56 = .ok (.iinc 5 1, 3) := by decide +kernel
theorem d_Model_send_59 : decode b_Model_send 59 = .ok (.goto (-22), 3) := by decide +kernel
theorem d_Model_send_62 : decode b_Model_send 62 = .ok (.iload 5, 2) := by decide +kernel
theorem d_Model_send_64 : decode b_Model_send 64 = .ok (.bipush 6, 2) := by decide +kernel
theorem d_Model_send_66 : decode b_Model_send 66 = .ok (.if_icmp .eq 9, 3) := by decide +kernel
theorem d_Model_send_69 : decode b_Model_send 69 = .ok (.lload_n 3, 1) := by decide +kernel
theorem d_Model_send_70 : decode b_Model_send 70 = .ok (.lconst 0, 1) := by decide +kernel
theorem d_Model_send_71 : decode b_Model_send 71 = .ok (.lcmp, 1) := by decide +kernel
theorem d_Model_send_72 : decode b_Model_send 72 = .ok (.ifCond .ne 7, 3) := by decide +kernel
theorem d_Model_send_75 : decode b_Model_send 75 = .ok (.sipush (-1000), 3) := by decide +kernel
theorem d_Model_send_78 : decode b_Model_send 78 = .ok (.ireturn, 1) := by decide +kernel
theorem d_Model_send_79 : decode b_Model_send 79 = .ok (.aload_n 0, 1) := by decide +kernel
theorem d_Model_send_80 : decode b_Model_send 80 = .ok (.getfield 51, 3) := by decide +kernel
theorem d_Model_send_83 : decode b_Model_send 83 = .ok (.iload 5, 2) := by decide +kernel
theorem d_Model_send_85 : decode b_Model_send 85 = .ok (.lload_n 3, 1) := by decide +kernel
theorem d_Model_send_86 : decode b_Model_send 86 = .ok (.lastore, 1) := by decide +kernel
theorem d_Model_send_87 : decode b_Model_send 87 = .ok (.aload_n 0, 1) := by decide +kernel
theorem d_Model_send_88 : decode b_Model_send 88 = .ok (.getfield 54, 3) := by decide +kernel
theorem d_Model_send_91 : decode b_Model_send 91 = .ok (.iload 5, 2) := by decide +kernel
theorem d_Model_send_93 : decode b_Model_send 93 = .ok (.iload_n 1, 1) := by decide +kernel
theorem d_Model_send_94 : decode b_Model_send 94 = .ok (.iastore, 1) := by decide +kernel
theorem d_Model_send_95 : decode b_Model_send 95 = .ok (.aload_n 0, 1) := by decide +kernel
theorem d_Model_send_96 : decode b_Model_send 96 = .ok (.getfield 57, 3) := by decide +kernel
theorem d_Model_send_99 : decode b_Model_send 99 = .ok (.iload 5, 2) := by decide +kernel
theorem d_Model_send_101 : decode b_Model_send 101 = .ok (.iload_n 2, 1) := by decide +kernel
theorem d_Model_send_102 : decode b_Model_send 102 = .ok (.iastore, 1) := by decide +kernel
theorem d_Model_send_103 : decode b_Model_send 103 = .ok (.aload_n 0, 1) := by decide +kernel
theorem d_Model_send_104 : decode b_Model_send 104 = .ok (.getfield 48, 3) := by decide +kernel
theorem d_Model_send_107 : decode b_Model_send 107 = .ok (.iconst 3, 1) := by decide +kernel
theorem d_Model_send_108 : decode b_Model_send 108 = .ok (.iload_n 1, 1) := by decide +kernel
theorem d_Model_send_109 : decode b_Model_send 109 = .ok (.imul, 1) := by decide +kernel
theorem d_Model_send_110 : decode b_Model_send 110 = .ok (.iload_n 2, 1) := by decide +kernel
theorem d_Model_send_111 : decode b_Model_send 111 = .ok (.iadd, 1) := by decide +kernel
theorem d_Model_send_112 : decode b_Model_send 112 = .ok (.dup2, 1) := by decide +kernel
theorem d_Model_send_113 : decode b_Model_send 113 = .ok (.laload, 1) := by decide +kernel
theorem d_Model_send_114 : decode b_Model_send 114 = .ok (.aload_n 0, 1) := by decide +kernel
theorem d_Model_send_115 : decode b_Model_send 115 = .ok (.getfield 45, 3) := by decide +kernel
theorem d_Model_send_118 : decode b_Model_send 118 = .ok (.iload_n 1, 1) := by decide +kernel
theorem d_Model_send_119 : decode b_Model_send 119 = .ok (.laload, 1) := by decide +kernel
theorem d_Model_send_120 : decode b_Model_send 120 = .ok (.lor, 1) := by decide +kernel
theorem d_Model_send_121 : decode b_Model_send 121 = .ok (.lastore, 1) := by decide +kernel
theorem d_Model_send_122 : decode b_Model_send 122 = .ok (.iload 5, 2) := by decide +kernel
theorem d_Model_send_124 : decode b_Model_send 124 = .ok (.ireturn, 1) := by decide +kernel
theorem d_Model_none_0 : decode b_Model_none 0 = .ok (.iload_n 1, 1) := by decide +kernel
theorem d_Model_none_1 : decode b_Model_none 1 = .ok (.ifCond .lt 19, 3) := by decide +kernel
theorem d_Model_none_4 : decode b_Model_none 4 = .ok (.iload_n 1, 1) := by decide +kernel
theorem d_Model_none_5 : decode b_Model_none 5 = .ok (.iconst 5, 1) := by decide +kernel
theorem d_Model_none_6 : decode b_Model_none 6 = .ok (.if_icmp .gt 14, 3) := by decide +kernel
theorem d_Model_none_9 : decode b_Model_none 9 = .ok (.aload_n 0, 1) := by decide +kernel
theorem d_Model_none_10 : decode b_Model_none 10 = .ok (.getfield 51, 3) := by decide +kernel
theorem d_Model_none_13 : decode b_Model_none 13 = .ok (.iload_n 1, 1) := by decide +kernel
theorem d_Model_none_14 : decode b_Model_none 14 = .ok (.laload, 1) := by decide +kernel
theorem d_Model_none_15 : decode b_Model_none 15 = .ok (.lconst 0, 1) := by decide +kernel
theorem d_Model_none_16 : decode b_Model_none 16 = .ok (.lcmp, 1) := by decide +kernel
theorem d_Model_none_17 : decode b_Model_none 17 = .ok (.ifCond .ne 7, 3) := by decide +kernel
theorem d_Model_none_20 : decode b_Model_none 20 = .ok (.iconst 1, 1) := by decide +kernel
theorem d_Model_none_21 : decode b_Model_none 21 = .ok (.goto 4, 3) := by decide +kernel
theorem d_Model_none_24 : decode b_Model_none 24 = .ok (.iconst 0, 1) := by decide +kernel
theorem d_Model_none_25 : decode b_Model_none 25 = .ok (.ireturn, 1) := by decide +kernel
theorem d_Model_discard_0 : decode b_Model_discard 0 = .ok (.aload_n 0, 1) := by decide +kernel
theorem d_Model_discard_1 : decode b_Model_discard 1 = .ok (.iload_n 1, 1) := by decide +kernel
theorem d_Model_discard_2 : decode b_Model_discard 2 = .ok (.invokevirtual 149, 3) := by decide +kernel
theorem d_Model_discard_5 : decode b_Model_discard 5 = .ok (.ifCond .eq 5, 3) := by decide +kernel
theorem d_Model_discard_8 : decode b_Model_discard 8 = .ok (.iconst 0, 1) := by decide +kernel
theorem d_Model_discard_9 : decode b_Model_discard 9 = .ok (.ireturn, 1) := by decide +kernel
theorem d_Model_discard_10 : decode b_Model_discard 10 = .ok (.aload_n 0, 1) := by decide +kernel
theorem d_Model_discard_11 : decode b_Model_discard 11 = .ok (.getfield 51, 3) := by decide +kernel
theorem d_Model_discard_14 : decode b_Model_discard 14 = .ok (.iload_n 1, 1) := by decide +kernel
theorem d_Model_discard_15 : decode b_Model_discard 15 = .ok (.lconst 0, 1) := by decide +kernel
theorem d_Model_discard_16 : decode b_Model_discard 16 = .ok (.lastore, 1) := by decide +kernel
theorem d_Model_discard_17 : decode b_Model_discard 17 = .ok (.iconst 1, 1) := by decide +kernel
theorem d_Model_discard_18 : decode b_Model_discard 18 = .ok (.ireturn, 1) := by decide +kernel
theorem d_Model_whole_0 : decode b_Model_whole 0 = .ok (.lload_n 1, 1) := by decide +kernel
theorem d_Model_whole_1 : decode b_Model_whole 1 = .ok (.lstore_n 3, 1) := by decide +kernel
theorem d_Model_whole_2 : decode b_Model_whole 2 = .ok (.iconst 0, 1) := by decide +kernel
theorem d_Model_whole_3 : decode b_Model_whole 3 = .ok (.istore 5, 2) := by decide +kernel
theorem d_Model_whole_5 : decode b_Model_whole 5 = .ok (.iload 5, 2) := by decide +kernel
theorem d_Model_whole_7 : decode b_Model_whole 7 = .ok (.aload_n 0, 1) := by decide +kernel
theorem d_Model_whole_8 : decode b_Model_whole 8 = .ok (.getfield 86, 3) := by decide +kernel
theorem d_Model_whole_11 : decode b_Model_whole 11 = .ok (.if_icmp .ge 32, 3) := by decide +kernel
theorem d_Model_whole_14 : decode b_Model_whole 14 = .ok (.lload_n 3, 1) := by decide +kernel
theorem d_Model_whole_15 : decode b_Model_whole 15 = .ok (.lload_n 1, 1) := by decide +kernel
theorem d_Model_whole_16 : decode b_Model_whole 16 = .ok (.iload 5, 2) := by decide +kernel
theorem d_Model_whole_18 : decode b_Model_whole 18 = .ok (.invokestatic 78, 3) := by decide +kernel
theorem d_Model_whole_21 : decode b_Model_whole 21 = .ok (.ifCond .eq 13, 3) := by decide +kernel
theorem d_Model_whole_24 : decode b_Model_whole 24 = .ok (.aload_n 0, 1) := by decide +kernel
theorem d_Model_whole_25 : decode b_Model_whole 25 = .ok (.getfield 26, 3) := by decide +kernel
theorem d_Model_whole_28 : decode b_Model_whole 28 = .ok (.iload 5, 2) := by decide +kernel
theorem d_Model_whole_30 : decode b_Model_whole 30 = .ok (.laload, 1) := by decide +kernel
theorem d_Model_whole_31 : decode b_Model_whole 31 = .ok (.goto 4, 3) := by decide +kernel
theorem d_Model_whole_34 : decode b_Model_whole 34 = .ok (.lconst 0, 1) := by decide +kernel
theorem d_Model_whole_35 : decode b_Model_whole 35 = .ok (.lor, 1) := by decide +kernel
theorem d_Model_whole_36 : decode b_Model_whole 36 = .ok (.lstore_n 3, 1) := by decide +kernel
theorem d_Model_whole_37 : decode b_Model_whole 37 = .ok (.iinc 5 1, 3) := by decide +kernel
theorem d_Model_whole_40 : decode b_Model_whole 40 = .ok (.goto (-35), 3) := by decide +kernel
theorem d_Model_whole_43 : decode b_Model_whole 43 = .ok (.lload_n 3, 1) := by decide +kernel
theorem d_Model_whole_44 : decode b_Model_whole 44 = .ok (.lreturn, 1) := by decide +kernel
theorem d_Model_believed_0 : decode b_Model_believed 0 = .ok (.iload_n 1, 1) := by decide +kernel
theorem d_Model_believed_1 : decode b_Model_believed 1 = .ok (.iload_n 2, 1) := by decide +kernel
theorem d_Model_believed_2 : decode b_Model_believed 2 = .ok (.invokestatic 146, 3) := by decide +kernel
theorem d_Model_believed_5 : decode b_Model_believed 5 = .ok (.ifCond .eq 9, 3) := by decide +kernel
theorem d_Model_believed_8 : decode b_Model_believed 8 = .ok (.sipush (-1000), 3) := by decide +kernel
theorem d_Model_believed_11 : decode b_Model_believed 11 = .ok (.goto 16, 3) := by decide +kernel
theorem d_Model_believed_14 : decode b_Model_believed 14 = .ok (.aload_n 0, 1) := by decide +kernel
theorem d_Model_believed_15 : decode b_Model_believed 15 = .ok (.getfield 48, 3) := by decide +kernel
theorem d_Model_believed_18 : decode b_Model_believed 18 = .ok (.iconst 3, 1) := by decide +kernel
theorem d_Model_believed_19 : decode b_Model_believed 19 = .ok (.iload_n 1, 1) := by decide +kernel
theorem d_Model_believed_20 : decode b_Model_believed 20 = .ok (.imul, 1) := by decide +kernel
theorem d_Model_believed_21 : decode b_Model_believed 21 = .ok (.iload_n 2, 1) := by decide +kernel
theorem d_Model_believed_22 : decode b_Model_believed 22 = .ok (.iadd, 1) := by decide +kernel
theorem d_Model_believed_23 : decode b_Model_believed 23 = .ok (.laload, 1) := by decide +kernel
theorem d_Model_believed_24 : decode b_Model_believed 24 = .ok (.invokestatic 159, 3) := by decide +kernel
theorem d_Model_believed_27 : decode b_Model_believed 27 = .ok (.ireturn, 1) := by decide +kernel
theorem d_Model_hear_0 : decode b_Model_hear 0 = .ok (.iload_n 1, 1) := by decide +kernel
theorem d_Model_hear_1 : decode b_Model_hear 1 = .ok (.iload_n 2, 1) := by decide +kernel
theorem d_Model_hear_2 : decode b_Model_hear 2 = .ok (.invokestatic 146, 3) := by decide +kernel
theorem d_Model_hear_5 : decode b_Model_hear 5 = .ok (.ifCond .eq 7, 3) := by decide +kernel
theorem d_Model_hear_8 : decode b_Model_hear 8 = .ok (.sipush (-1000), 3) := by decide +kernel
theorem d_Model_hear_11 : decode b_Model_hear 11 = .ok (.ireturn, 1) := by decide +kernel
theorem d_Model_hear_12 : decode b_Model_hear 12 = .ok (.aload_n 0, 1) := by decide +kernel
theorem d_Model_hear_13 : decode b_Model_hear 13 = .ok (.aload_n 0, 1) := by decide +kernel
theorem d_Model_hear_14 : decode b_Model_hear 14 = .ok (.getfield 45, 3) := by decide +kernel
theorem d_Model_hear_17 : decode b_Model_hear 17 = .ok (.iload_n 2, 1) := by decide +kernel
theorem d_Model_hear_18 : decode b_Model_hear 18 = .ok (.laload, 1) := by decide +kernel
theorem d_Model_hear_19 : decode b_Model_hear 19 = .ok (.invokevirtual 110, 3) := by decide +kernel
theorem d_Model_hear_22 : decode b_Model_hear 22 = .ok (.aload_n 0, 1) := by decide +kernel
theorem d_Model_hear_23 : decode b_Model_hear 23 = .ok (.getfield 45, 3) := by decide +kernel
theorem d_Model_hear_26 : decode b_Model_hear 26 = .ok (.iload_n 1, 1) := by decide +kernel
theorem d_Model_hear_27 : decode b_Model_hear 27 = .ok (.laload, 1) := by decide +kernel
theorem d_Model_hear_28 : decode b_Model_hear 28 = .ok (.land, 1) := by decide +kernel
theorem d_Model_hear_29 : decode b_Model_hear 29 = .ok (.lstore_n 3, 1) := by decide +kernel
theorem d_Model_hear_30 : decode b_Model_hear 30 = .ok (.aload_n 0, 1) := by decide +kernel
theorem d_Model_hear_31 : decode b_Model_hear 31 = .ok (.getfield 48, 3) := by decide +kernel
theorem d_Model_hear_34 : decode b_Model_hear 34 = .ok (.iconst 3, 1) := by decide +kernel
theorem d_Model_hear_35 : decode b_Model_hear 35 = .ok (.iload_n 1, 1) := by decide +kernel
theorem d_Model_hear_36 : decode b_Model_hear 36 = .ok (.imul, 1) := by decide +kernel
theorem d_Model_hear_37 : decode b_Model_hear 37 = .ok (.iload_n 2, 1) := by decide +kernel
theorem d_Model_hear_38 : decode b_Model_hear 38 = .ok (.iadd, 1) := by decide +kernel
theorem d_Model_hear_39 : decode b_Model_hear 39 = .ok (.aload_n 0, 1) := by decide +kernel
theorem d_Model_hear_40 : decode b_Model_hear 40 = .ok (.lload_n 3, 1) := by decide +kernel
theorem d_Model_hear_41 : decode b_Model_hear 41 = .ok (.invokevirtual 152, 3) := by decide +kernel
theorem d_Model_hear_44 : decode b_Model_hear 44 = .ok (.lastore, 1) := by decide +kernel
theorem d_Model_hear_45 : decode b_Model_hear 45 = .ok (.aload_n 0, 1) := by decide +kernel
theorem d_Model_hear_46 : decode b_Model_hear 46 = .ok (.iload_n 1, 1) := by decide +kernel
end
section
theorem d_Model_hear_47 : decode b_Model_hear 47 = .ok (.iload_n 2, 1) := by decide +kernel
theorem d_Model_hear_48 : decode b_Model_hear 48 = .ok (.invokevirtual 155, 3) := by decide +kernel
theorem d_Model_hear_51 : decode b_Model_hear 51 = .ok (.ireturn, 1) := by decide +kernel
theorem d_Model_isCritical_0 : decode b_Model_isCritical 0 = .ok (.iconst 0, 1) := by decide +kernel
theorem d_Model_isCritical_1 : decode b_Model_isCritical 1 = .ok (.istore 4, 2) := by decide +kernel
theorem d_Model_isCritical_3 : decode b_Model_isCritical 3 = .ok (.iload 4, 2) := by decide +kernel
theorem d_Model_isCritical_5 : decode b_Model_isCritical 5 = .ok (.aload_n 0, 1) := by decide +kernel
theorem d_Model_isCritical_6 : decode b_Model_isCritical 6 = .ok (.getfield 86, 3) := by decide +kernel
theorem d_Model_isCritical_9 : decode b_Model_isCritical 9 = .ok (.if_icmp .ge 54, 3) := by decide +kernel
theorem d_Model_isCritical_12 : decode b_Model_isCritical 12 = .ok (.lload_n 1, 1) := by decide +kernel
theorem d_Model_isCritical_13 : decode b_Model_isCritical 13 = .ok (.iload 4, 2) := by decide +kernel
theorem d_Model_isCritical_15 : decode b_Model_isCritical 15 = .ok (.invokestatic 78, 3) := by decide +kernel
theorem d_Model_isCritical_18 : decode b_Model_isCritical 18 = .ok (.ifCond .eq 39, 3) := by decide +kernel
theorem d_Model_isCritical_21 : decode b_Model_isCritical 21 = .ok (.iload 4, 2) := by decide +kernel
theorem d_Model_isCritical_23 : decode b_Model_isCritical 23 = .ok (.iload_n 3, 1) := by decide +kernel
theorem d_Model_isCritical_24 : decode b_Model_isCritical 24 = .ok (.if_icmp .eq 33, 3) := by decide +kernel
theorem d_Model_isCritical_27 : decode b_Model_isCritical 27 = .ok (.aload_n 0, 1) := by decide +kernel
theorem d_Model_isCritical_28 : decode b_Model_isCritical 28 = .ok (.getfield 26, 3) := by decide +kernel
theorem d_Model_isCritical_31 : decode b_Model_isCritical 31 = .ok (.iload_n 3, 1) := by decide +kernel
theorem d_Model_isCritical_32 : decode b_Model_isCritical 32 = .ok (.laload, 1) := by decide +kernel
theorem d_Model_isCritical_33 : decode b_Model_isCritical 33 = .ok (.iload 4, 2) := by decide +kernel
theorem d_Model_isCritical_35 : decode b_Model_isCritical 35 = .ok (.invokestatic 78, 3) := by decide +kernel
theorem d_Model_isCritical_38 : decode b_Model_isCritical 38 = .ok (.ifCond .ne 19, 3) := by decide +kernel
theorem d_Model_isCritical_41 : decode b_Model_isCritical 41 = .ok (.aload_n 0, 1) := by decide +kernel
theorem d_Model_isCritical_42 : decode b_Model_isCritical 42 = .ok (.getfield 26, 3) := by decide +kernel
theorem d_Model_isCritical_45 : decode b_Model_isCritical 45 = .ok (.iload 4, 2) := by decide +kernel
theorem d_Model_isCritical_47 : decode b_Model_isCritical 47 = .ok (.laload, 1) := by decide +kernel
theorem d_Model_isCritical_48 : decode b_Model_isCritical 48 = .ok (.iload_n 3, 1) := by decide +kernel
theorem d_Model_isCritical_49 : decode b_Model_isCritical 49 = .ok (.invokestatic 78, 3) := by decide +kernel
theorem d_Model_isCritical_52 : decode b_Model_isCritical 52 = .ok (.ifCond .ne 5, 3) := by decide +kernel
theorem d_Model_isCritical_55 : decode b_Model_isCritical 55 = .ok (.iconst 0, 1) := by decide +kernel
theorem d_Model_isCritical_56 : decode b_Model_isCritical 56 = .ok (.ireturn, 1) := by decide +kernel
theorem d_Model_isCritical_57 : decode b_Model_isCritical 57 = .ok (.iinc 4 1, 3) := by decide +kernel
theorem d_Model_isCritical_60 : decode b_Model_isCritical 60 = .ok (.goto (-57), 3) := by decide +kernel
theorem d_Model_isCritical_63 : decode b_Model_isCritical 63 = .ok (.iconst 1, 1) := by decide +kernel
theorem d_Model_isCritical_64 : decode b_Model_isCritical 64 = .ok (.ireturn, 1) := by decide +kernel
theorem d_Model_top_0 : decode b_Model_top 0 = .ok (.iconst (-1), 1) := by decide +kernel
theorem d_Model_top_1 : decode b_Model_top 1 = .ok (.istore 5, 2) := by decide +kernel
theorem d_Model_top_3 : decode b_Model_top 3 = .ok (.iconst 0, 1) := by decide +kernel
theorem d_Model_top_4 : decode b_Model_top 4 = .ok (.istore 6, 2) := by decide +kernel
theorem d_Model_top_6 : decode b_Model_top 6 = .ok (.iload 6, 2) := by decide +kernel
theorem d_Model_top_8 : decode b_Model_top 8 = .ok (.aload_n 0, 1) := by decide +kernel
theorem d_Model_top_9 : decode b_Model_top 9 = .ok (.getfield 86, 3) := by decide +kernel
theorem d_Model_top_12 : decode b_Model_top 12 = .ok (.if_icmp .ge 60, 3) := by decide +kernel
theorem d_Model_top_15 : decode b_Model_top 15 = .ok (.lload_n 3, 1) := by decide +kernel
theorem d_Model_top_16 : decode b_Model_top 16 = .ok (.iload 6, 2) := by decide +kernel
theorem d_Model_top_18 : decode b_Model_top 18 = .ok (.invokestatic 78, 3) := by decide +kernel
theorem d_Model_top_21 : decode b_Model_top 21 = .ok (.ifCond .eq 45, 3) := by decide +kernel
theorem d_Model_top_24 : decode b_Model_top 24 = .ok (.aload_n 0, 1) := by decide +kernel
theorem d_Model_top_25 : decode b_Model_top 25 = .ok (.lload_n 1, 1) := by decide +kernel
theorem d_Model_top_26 : decode b_Model_top 26 = .ok (.iload 6, 2) := by decide +kernel
theorem d_Model_top_28 : decode b_Model_top 28 = .ok (.invokevirtual 167, 3) := by decide +kernel
theorem d_Model_top_31 : decode b_Model_top 31 = .ok (.ifCond .eq 35, 3) := by decide +kernel
theorem d_Model_top_34 : decode b_Model_top 34 = .ok (.iload 5, 2) := by decide +kernel
theorem d_Model_top_36 : decode b_Model_top 36 = .ok (.ifCond .lt 26, 3) := by decide +kernel
theorem d_Model_top_39 : decode b_Model_top 39 = .ok (.aload_n 0, 1) := by decide +kernel
theorem d_Model_top_40 : decode b_Model_top 40 = .ok (.getfield 26, 3) := by decide +kernel
theorem d_Model_top_43 : decode b_Model_top 43 = .ok (.iload 6, 2) := by decide +kernel
theorem d_Model_top_45 : decode b_Model_top 45 = .ok (.laload, 1) := by decide +kernel
theorem d_Model_top_46 : decode b_Model_top 46 = .ok (.invokestatic 159, 3) := by decide +kernel
theorem d_Model_top_49 : decode b_Model_top 49 = .ok (.aload_n 0, 1) := by decide +kernel
theorem d_Model_top_50 : decode b_Model_top 50 = .ok (.getfield 26, 3) := by decide +kernel
theorem d_Model_top_53 : decode b_Model_top 53 = .ok (.iload 5, 2) := by decide +kernel
theorem d_Model_top_55 : decode b_Model_top 55 = .ok (.laload, 1) := by decide +kernel
theorem d_Model_top_56 : decode b_Model_top 56 = .ok (.invokestatic 159, 3) := by decide +kernel
theorem d_Model_top_59 : decode b_Model_top 59 = .ok (.if_icmp .le 7, 3) := by decide +kernel
theorem d_Model_top_62 : decode b_Model_top 62 = .ok (.iload 6, 2) := by decide +kernel
theorem d_Model_top_64 : decode b_Model_top 64 = .ok (.istore 5, 2) := by decide +kernel
theorem d_Model_top_66 : decode b_Model_top 66 = .ok (.iinc 6 1, 3) := by decide +kernel
theorem d_Model_top_69 : decode b_Model_top 69 = .ok (.goto (-63), 3) := by decide +kernel
theorem d_Model_top_72 : decode b_Model_top 72 = .ok (.iload 5, 2) := by decide +kernel
theorem d_Model_top_74 : decode b_Model_top 74 = .ok (.ireturn, 1) := by decide +kernel
theorem d_Model_effect_0 : decode b_Model_effect 0 = .ok (.aload_n 0, 1) := by decide +kernel
theorem d_Model_effect_1 : decode b_Model_effect 1 = .ok (.getfield 16, 3) := by decide +kernel
theorem d_Model_effect_4 : decode b_Model_effect 4 = .ok (.iload_n 3, 1) := by decide +kernel
theorem d_Model_effect_5 : decode b_Model_effect 5 = .ok (.baload, 1) := by decide +kernel
theorem d_Model_effect_6 : decode b_Model_effect 6 = .ok (.ifCond .eq 10, 3) := by decide +kernel
theorem d_Model_effect_9 : decode b_Model_effect 9 = .ok (.aload_n 0, 1) := by decide +kernel
theorem d_Model_effect_10 : decode b_Model_effect 10 = .ok (.lload_n 1, 1) := by decide +kernel
theorem d_Model_effect_11 : decode b_Model_effect 11 = .ok (.iload_n 3, 1) := by decide +kernel
theorem d_Model_effect_12 : decode b_Model_effect 12 = .ok (.invokevirtual 132, 3) := by decide +kernel
theorem d_Model_effect_15 : decode b_Model_effect 15 = .ok (.ireturn, 1) := by decide +kernel
theorem d_Model_effect_16 : decode b_Model_effect 16 = .ok (.aload_n 0, 1) := by decide +kernel
theorem d_Model_effect_17 : decode b_Model_effect 17 = .ok (.getfield 33, 3) := by decide +kernel
theorem d_Model_effect_20 : decode b_Model_effect 20 = .ok (.iload_n 3, 1) := by decide +kernel
theorem d_Model_effect_21 : decode b_Model_effect 21 = .ok (.iaload, 1) := by decide +kernel
theorem d_Model_effect_22 : decode b_Model_effect 22 = .ok (.istore 4, 2) := by decide +kernel
theorem d_Model_effect_24 : decode b_Model_effect 24 = .ok (.aload_n 0, 1) := by decide +kernel
theorem d_Model_effect_25 : decode b_Model_effect 25 = .ok (.lload_n 1, 1) := by decide +kernel
theorem d_Model_effect_26 : decode b_Model_effect 26 = .ok (.invokevirtual 94, 3) := by decide +kernel
theorem d_Model_effect_29 : decode b_Model_effect 29 = .ok (.lstore 5, 2) := by decide +kernel
theorem d_Model_effect_31 : decode b_Model_effect 31 = .ok (.lload 5, 2) := by decide +kernel
theorem d_Model_effect_33 : decode b_Model_effect 33 = .ok (.iload 4, 2) := by decide +kernel
theorem d_Model_effect_35 : decode b_Model_effect 35 = .ok (.invokestatic 78, 3) := by decide +kernel
theorem d_Model_effect_38 : decode b_Model_effect 38 = .ok (.ifCond .eq 9, 3) := by decide +kernel
theorem d_Model_effect_41 : decode b_Model_effect 41 = .ok (.sipush 1000, 3) := by decide +kernel
theorem d_Model_effect_44 : decode b_Model_effect 44 = .ok (.goto 12, 3) := by decide +kernel
theorem d_Model_effect_47 : decode b_Model_effect 47 = .ok (.iconst (-1), 1) := by decide +kernel
theorem d_Model_effect_48 : decode b_Model_effect 48 = .ok (.aload_n 0, 1) := by decide +kernel
theorem d_Model_effect_49 : decode b_Model_effect 49 = .ok (.lload_n 1, 1) := by decide +kernel
theorem d_Model_effect_50 : decode b_Model_effect 50 = .ok (.iload 4, 2) := by decide +kernel
theorem d_Model_effect_52 : decode b_Model_effect 52 = .ok (.invokevirtual 132, 3) := by decide +kernel
theorem d_Model_effect_55 : decode b_Model_effect 55 = .ok (.isub, 1) := by decide +kernel
theorem d_Model_effect_56 : decode b_Model_effect 56 = .ok (.ireturn, 1) := by decide +kernel
theorem d_Model_merge_0 : decode b_Model_merge 0 = .ok (.aload_n 0, 1) := by decide +kernel
theorem d_Model_merge_1 : decode b_Model_merge 1 = .ok (.getfield 45, 3) := by decide +kernel
theorem d_Model_merge_4 : decode b_Model_merge 4 = .ok (.iload_n 1, 1) := by decide +kernel
theorem d_Model_merge_5 : decode b_Model_merge 5 = .ok (.laload, 1) := by decide +kernel
theorem d_Model_merge_6 : decode b_Model_merge 6 = .ok (.lstore 4, 2) := by decide +kernel
theorem d_Model_merge_8 : decode b_Model_merge 8 = .ok (.aload_n 0, 1) := by decide +kernel
theorem d_Model_merge_9 : decode b_Model_merge 9 = .ok (.lload 4, 2) := by decide +kernel
theorem d_Model_merge_11 : decode b_Model_merge 11 = .ok (.lload_n 2, 1) := by decide +kernel
theorem d_Model_merge_12 : decode b_Model_merge 12 = .ok (.lor, 1) := by decide +kernel
theorem d_Model_merge_13 : decode b_Model_merge 13 = .ok (.lload 4, 2) := by decide +kernel
theorem d_Model_merge_15 : decode b_Model_merge 15 = .ok (.invokevirtual 170, 3) := by decide +kernel
theorem d_Model_merge_18 : decode b_Model_merge 18 = .ok (.istore 6, 2) := by decide +kernel
theorem d_Model_merge_20 : decode b_Model_merge 20 = .ok (.iload 6, 2) := by decide +kernel
theorem d_Model_merge_22 : decode b_Model_merge 22 = .ok (.ifCond .ge 7, 3) := by decide +kernel
theorem d_Model_merge_25 : decode b_Model_merge 25 = .ok (.lconst 0, 1) := by decide +kernel
theorem d_Model_merge_26 : decode b_Model_merge 26 = .ok (.goto 16, 3) := by decide +kernel
theorem d_Model_merge_29 : decode b_Model_merge 29 = .ok (.aload_n 0, 1) := by decide +kernel
theorem d_Model_merge_30 : decode b_Model_merge 30 = .ok (.getfield 26, 3) := by decide +kernel
theorem d_Model_merge_33 : decode b_Model_merge 33 = .ok (.iload 6, 2) := by decide +kernel
theorem d_Model_merge_35 : decode b_Model_merge 35 = .ok (.laload, 1) := by decide +kernel
theorem d_Model_merge_36 : decode b_Model_merge 36 = .ok (.iload 6, 2) := by decide +kernel
theorem d_Model_merge_38 : decode b_Model_merge 38 = .ok (.invokestatic 90, 3) := by decide +kernel
theorem d_Model_merge_41 : decode b_Model_merge 41 = .ok (.lor, 1) := by decide +kernel
theorem d_Model_merge_42 : decode b_Model_merge 42 = .ok (.lstore 7, 2) := by decide +kernel
theorem d_Model_merge_44 : decode b_Model_merge 44 = .ok (.aload_n 0, 1) := by decide +kernel
theorem d_Model_merge_45 : decode b_Model_merge 45 = .ok (.lload 4, 2) := by decide +kernel
theorem d_Model_merge_47 : decode b_Model_merge 47 = .ok (.lload 7, 2) := by decide +kernel
theorem d_Model_merge_49 : decode b_Model_merge 49 = .ok (.ldc2_w 108, 3) := by decide +kernel
theorem d_Model_merge_52 : decode b_Model_merge 52 = .ok (.lxor, 1) := by decide +kernel
theorem d_Model_merge_53 : decode b_Model_merge 53 = .ok (.land, 1) := by decide +kernel
theorem d_Model_merge_54 : decode b_Model_merge 54 = .ok (.invokevirtual 174, 3) := by decide +kernel
theorem d_Model_merge_57 : decode b_Model_merge 57 = .ok (.aload_n 0, 1) := by decide +kernel
theorem d_Model_merge_58 : decode b_Model_merge 58 = .ok (.getfield 60, 3) := by decide +kernel
theorem d_Model_merge_61 : decode b_Model_merge 61 = .ok (.iload_n 1, 1) := by decide +kernel
theorem d_Model_merge_62 : decode b_Model_merge 62 = .ok (.aload_n 0, 1) := by decide +kernel
theorem d_Model_merge_63 : decode b_Model_merge 63 = .ok (.getfield 139, 3) := by decide +kernel
theorem d_Model_merge_66 : decode b_Model_merge 66 = .ok (.iastore, 1) := by decide +kernel
theorem d_Model_merge_67 : decode b_Model_merge 67 = .ok (.iconst 0, 1) := by decide +kernel
theorem d_Model_merge_68 : decode b_Model_merge 68 = .ok (.istore 9, 2) := by decide +kernel
theorem d_Model_merge_70 : decode b_Model_merge 70 = .ok (.lload 7, 2) := by decide +kernel
theorem d_Model_merge_72 : decode b_Model_merge 72 = .ok (.lstore 10, 2) := by decide +kernel
theorem d_Model_merge_74 : decode b_Model_merge 74 = .ok (.iconst 0, 1) := by decide +kernel
theorem d_Model_merge_75 : decode b_Model_merge 75 = .ok (.istore 12, 2) := by decide +kernel
theorem d_Model_merge_77 : decode b_Model_merge 77 = .ok (.iload 12, 2) := by decide +kernel
theorem d_Model_merge_79 : decode b_Model_merge 79 = .ok (.aload_n 0, 1) := by decide +kernel
theorem d_Model_merge_80 : decode b_Model_merge 80 = .ok (.getfield 139, 3) := by decide +kernel
theorem d_Model_merge_83 : decode b_Model_merge 83 = .ok (.if_icmp .ge 51, 3) := by decide +kernel
theorem d_Model_merge_86 : decode b_Model_merge 86 = .ok (.aload_n 0, 1) := by decide +kernel
theorem d_Model_merge_87 : decode b_Model_merge 87 = .ok (.getfield 72, 3) := by decide +kernel
theorem d_Model_merge_90 : decode b_Model_merge 90 = .ok (.iload 12, 2) := by decide +kernel
theorem d_Model_merge_92 : decode b_Model_merge 92 = .ok (.iaload, 1) := by decide +kernel
theorem d_Model_merge_93 : decode b_Model_merge 93 = .ok (.istore 13, 2) := by decide +kernel
theorem d_Model_merge_95 : decode b_Model_merge 95 = .ok (.iload 9, 2) := by decide +kernel
theorem d_Model_merge_97 : decode b_Model_merge 97 = .ok (.lload 10, 2) := by decide +kernel
theorem d_Model_merge_99 : decode b_Model_merge 99 = .ok (.aload_n 0, 1) := by decide +kernel
theorem d_Model_merge_100 : decode b_Model_merge 100 = .ok (.getfield 26, 3) := by decide +kernel
theorem d_Model_merge_103 : decode b_Model_merge 103 = .ok (.iload 13, 2) := by decide +kernel
theorem d_Model_merge_105 : decode b_Model_merge 105 = .ok (.laload, 1) := by decide +kernel
theorem d_Model_merge_106 : decode b_Model_merge 106 = .ok (.lxor, 1) := by decide +kernel
theorem d_Model_merge_107 : decode b_Model_merge 107 = .ok (.invokestatic 159, 3) := by decide +kernel
theorem d_Model_merge_110 : decode b_Model_merge 110 = .ok (.iadd, 1) := by decide +kernel
theorem d_Model_merge_111 : decode b_Model_merge 111 = .ok (.istore 9, 2) := by decide +kernel
theorem d_Model_merge_113 : decode b_Model_merge 113 = .ok (.aload_n 0, 1) := by decide +kernel
theorem d_Model_merge_114 : decode b_Model_merge 114 = .ok (.getfield 26, 3) := by decide +kernel
theorem d_Model_merge_117 : decode b_Model_merge 117 = .ok (.iload 13, 2) := by decide +kernel
theorem d_Model_merge_119 : decode b_Model_merge 119 = .ok (.laload, 1) := by decide +kernel
theorem d_Model_merge_120 : decode b_Model_merge 120 = .ok (.iload 13, 2) := by decide +kernel
theorem d_Model_merge_122 : decode b_Model_merge 122 = .ok (.invokestatic 90, 3) := by decide +kernel
theorem d_Model_merge_125 : decode b_Model_merge 125 = .ok (.lor, 1) := by decide +kernel
theorem d_Model_merge_126 : decode b_Model_merge 126 = .ok (.lstore 10, 2) := by decide +kernel
theorem d_Model_merge_128 : decode b_Model_merge 128 = .ok (.iinc 12 1, 3) := by decide +kernel
theorem d_Model_merge_131 : decode b_Model_merge 131 = .ok (.goto (-54), 3) := by decide +kernel
theorem d_Model_merge_134 : decode b_Model_merge 134 = .ok (.aload_n 0, 1) := by decide +kernel
theorem d_Model_merge_135 : decode b_Model_merge 135 = .ok (.lload_n 2, 1) := by decide +kernel
theorem d_Model_merge_136 : decode b_Model_merge 136 = .ok (.invokevirtual 174, 3) := by decide +kernel
theorem d_Model_merge_139 : decode b_Model_merge 139 = .ok (.lload 4, 2) := by decide +kernel
theorem d_Model_merge_141 : decode b_Model_merge 141 = .ok (.lstore 12, 2) := by decide +kernel
theorem d_Model_merge_143 : decode b_Model_merge 143 = .ok (.iconst 0, 1) := by decide +kernel
theorem d_Model_merge_144 : decode b_Model_merge 144 = .ok (.istore 14, 2) := by decide +kernel
theorem d_Model_merge_146 : decode b_Model_merge 146 = .ok (.iload 14, 2) := by decide +kernel
theorem d_Model_merge_148 : decode b_Model_merge 148 = .ok (.aload_n 0, 1) := by decide +kernel
theorem d_Model_merge_149 : decode b_Model_merge 149 = .ok (.getfield 139, 3) := by decide +kernel
theorem d_Model_merge_152 : decode b_Model_merge 152 = .ok (.if_icmp .ge 81, 3) := by decide +kernel
theorem d_Model_merge_155 : decode b_Model_merge 155 = .ok (.aload_n 0, 1) := by decide +kernel
theorem d_Model_merge_156 : decode b_Model_merge 156 = .ok (.getfield 72, 3) := by decide +kernel
theorem d_Model_merge_159 : decode b_Model_merge 159 = .ok (.iload 14, 2) := by decide +kernel
theorem d_Model_merge_161 : decode b_Model_merge 161 = .ok (.iaload, 1) := by decide +kernel
theorem d_Model_merge_162 : decode b_Model_merge 162 = .ok (.istore 15, 2) := by decide +kernel
theorem d_Model_merge_164 : decode b_Model_merge 164 = .ok (.iload 9, 2) := by decide +kernel
theorem d_Model_merge_166 : decode b_Model_merge 166 = .ok (.lload 10, 2) := by decide +kernel
theorem d_Model_merge_168 : decode b_Model_merge 168 = .ok (.aload_n 0, 1) := by decide +kernel
theorem d_Model_merge_169 : decode b_Model_merge 169 = .ok (.getfield 26, 3) := by decide +kernel
theorem d_Model_merge_172 : decode b_Model_merge 172 = .ok (.iload 15, 2) := by decide +kernel
theorem d_Model_merge_174 : decode b_Model_merge 174 = .ok (.laload, 1) := by decide +kernel
theorem d_Model_merge_175 : decode b_Model_merge 175 = .ok (.lxor, 1) := by decide +kernel
theorem d_Model_merge_176 : decode b_Model_merge 176 = .ok (.invokestatic 159, 3) := by decide +kernel
theorem d_Model_merge_179 : decode b_Model_merge 179 = .ok (.iadd, 1) := by decide +kernel
theorem d_Model_merge_180 : decode b_Model_merge 180 = .ok (.istore 9, 2) := by decide +kernel
theorem d_Model_merge_182 : decode b_Model_merge 182 = .ok (.aload_n 0, 1) := by decide +kernel
theorem d_Model_merge_183 : decode b_Model_merge 183 = .ok (.getfield 26, 3) := by decide +kernel
theorem d_Model_merge_186 : decode b_Model_merge 186 = .ok (.iload 15, 2) := by decide +kernel
theorem d_Model_merge_188 : decode b_Model_merge 188 = .ok (.laload, 1) := by decide +kernel
theorem d_Model_merge_189 : decode b_Model_merge 189 = .ok (.iload 15, 2) := by decide +kernel
theorem d_Model_merge_191 : decode b_Model_merge 191 = .ok (.invokestatic 90, 3) := by decide +kernel
theorem d_Model_merge_194 : decode b_Model_merge 194 = .ok (.lor, 1) := by decide +kernel
theorem d_Model_merge_195 : decode b_Model_merge 195 = .ok (.lstore 10, 2) := by decide +kernel
theorem d_Model_merge_197 : decode b_Model_merge 197 = .ok (.aload_n 0, 1) := by decide +kernel
theorem d_Model_merge_198 : decode b_Model_merge 198 = .ok (.getfield 69, 3) := by decide +kernel
theorem d_Model_merge_201 : decode b_Model_merge 201 = .ok (.bipush 40, 2) := by decide +kernel
theorem d_Model_merge_203 : decode b_Model_merge 203 = .ok (.iload_n 1, 1) := by decide +kernel
theorem d_Model_merge_204 : decode b_Model_merge 204 = .ok (.imul, 1) := by decide +kernel
theorem d_Model_merge_205 : decode b_Model_merge 205 = .ok (.iload 14, 2) := by decide +kernel
theorem d_Model_merge_207 : decode b_Model_merge 207 = .ok (.iadd, 1) := by decide +kernel
theorem d_Model_merge_208 : decode b_Model_merge 208 = .ok (.aload_n 0, 1) := by decide +kernel
theorem d_Model_merge_209 : decode b_Model_merge 209 = .ok (.lload 12, 2) := by decide +kernel
theorem d_Model_merge_211 : decode b_Model_merge 211 = .ok (.iload 15, 2) := by decide +kernel
theorem d_Model_merge_213 : decode b_Model_merge 213 = .ok (.invokevirtual 178, 3) := by decide +kernel
theorem d_Model_merge_216 : decode b_Model_merge 216 = .ok (.iastore, 1) := by decide +kernel
theorem d_Model_merge_217 : decode b_Model_merge 217 = .ok (.lload 12, 2) := by decide +kernel
theorem d_Model_merge_219 : decode b_Model_merge 219 = .ok (.iload 15, 2) := by decide +kernel
theorem d_Model_merge_221 : decode b_Model_merge 221 = .ok (.invokestatic 90, 3) := by decide +kernel
theorem d_Model_merge_224 : decode b_Model_merge 224 = .ok (.lor, 1) := by decide +kernel
theorem d_Model_merge_225 : decode b_Model_merge 225 = .ok (.lstore 12, 2) := by decide +kernel
theorem d_Model_merge_227 : decode b_Model_merge 227 = .ok (.iinc 14 1, 3) := by decide +kernel
theorem d_Model_merge_230 : decode b_Model_merge 230 = .ok (.goto (-84), 3) := by decide +kernel
theorem d_Model_merge_233 : decode b_Model_merge 233 = .ok (.aload_n 0, 1) := by decide +kernel
theorem d_Model_merge_234 : decode b_Model_merge 234 = .ok (.getfield 63, 3) := by decide +kernel
theorem d_Model_merge_237 : decode b_Model_merge 237 = .ok (.iload_n 1, 1) := by decide +kernel
theorem d_Model_merge_238 : decode b_Model_merge 238 = .ok (.iload 9, 2) := by decide +kernel
theorem d_Model_merge_240 : decode b_Model_merge 240 = .ok (.iastore, 1) := by decide +kernel
theorem d_Model_merge_241 : decode b_Model_merge 241 = .ok (.aload_n 0, 1) := by decide +kernel
theorem d_Model_merge_242 : decode b_Model_merge 242 = .ok (.getfield 66, 3) := by decide +kernel
theorem d_Model_merge_245 : decode b_Model_merge 245 = .ok (.iload_n 1, 1) := by decide +kernel
theorem d_Model_merge_246 : decode b_Model_merge 246 = .ok (.aload_n 0, 1) := by decide +kernel
theorem d_Model_merge_247 : decode b_Model_merge 247 = .ok (.getfield 139, 3) := by decide +kernel
theorem d_Model_merge_250 : decode b_Model_merge 250 = .ok (.iastore, 1) := by decide +kernel
theorem d_Model_merge_251 : decode b_Model_merge 251 = .ok (.aload_n 0, 1) := by decide +kernel
theorem d_Model_merge_252 : decode b_Model_merge 252 = .ok (.getfield 45, 3) := by decide +kernel
theorem d_Model_merge_255 : decode b_Model_merge 255 = .ok (.iload_n 1, 1) := by decide +kernel
theorem d_Model_merge_256 : decode b_Model_merge 256 = .ok (.lload 12, 2) := by decide +kernel
theorem d_Model_merge_258 : decode b_Model_merge 258 = .ok (.lastore, 1) := by decide +kernel
theorem d_Model_merge_259 : decode b_Model_merge 259 = .ok (.return_, 1) := by decide +kernel
theorem d_Model_deliver_0 : decode b_Model_deliver 0 = .ok (.aload_n 0, 1) := by decide +kernel
theorem d_Model_deliver_1 : decode b_Model_deliver 1 = .ok (.iload_n 1, 1) := by decide +kernel
theorem d_Model_deliver_2 : decode b_Model_deliver 2 = .ok (.invokevirtual 149, 3) := by decide +kernel
theorem d_Model_deliver_5 : decode b_Model_deliver 5 = .ok (.ifCond .eq 7, 3) := by decide +kernel
theorem d_Model_deliver_8 : decode b_Model_deliver 8 = .ok (.sipush (-1000), 3) := by decide +kernel
theorem d_Model_deliver_11 : decode b_Model_deliver 11 = .ok (.ireturn, 1) := by decide +kernel
theorem d_Model_deliver_12 : decode b_Model_deliver 12 = .ok (.aload_n 0, 1) := by decide +kernel
theorem d_Model_deliver_13 : decode b_Model_deliver 13 = .ok (.getfield 57, 3) := by decide +kernel
theorem d_Model_deliver_16 : decode b_Model_deliver 16 = .ok (.iload_n 1, 1) := by decide +kernel
theorem d_Model_deliver_17 : decode b_Model_deliver 17 = .ok (.iaload, 1) := by decide +kernel
theorem d_Model_deliver_18 : decode b_Model_deliver 18 = .ok (.istore_n 2, 1) := by decide +kernel
theorem d_Model_deliver_19 : decode b_Model_deliver 19 = .ok (.aload_n 0, 1) := by decide +kernel
theorem d_Model_deliver_20 : decode b_Model_deliver 20 = .ok (.getfield 51, 3) := by decide +kernel
theorem d_Model_deliver_23 : decode b_Model_deliver 23 = .ok (.iload_n 1, 1) := by decide +kernel
theorem d_Model_deliver_24 : decode b_Model_deliver 24 = .ok (.laload, 1) := by decide +kernel
theorem d_Model_deliver_25 : decode b_Model_deliver 25 = .ok (.lstore_n 3, 1) := by decide +kernel
theorem d_Model_deliver_26 : decode b_Model_deliver 26 = .ok (.iconst 0, 1) := by decide +kernel
theorem d_Model_deliver_27 : decode b_Model_deliver 27 = .ok (.istore 5, 2) := by decide +kernel
theorem d_Model_deliver_29 : decode b_Model_deliver 29 = .ok (.iload 5, 2) := by decide +kernel
theorem d_Model_deliver_31 : decode b_Model_deliver 31 = .ok (.aload_n 0, 1) := by decide +kernel
theorem d_Model_deliver_32 : decode b_Model_deliver 32 = .ok (.getfield 86, 3) := by decide +kernel
theorem d_Model_deliver_35 : decode b_Model_deliver 35 = .ok (.if_icmp .ge 45, 3) := by decide +kernel
theorem d_Model_deliver_38 : decode b_Model_deliver 38 = .ok (.lload_n 3, 1) := by decide +kernel
theorem d_Model_deliver_39 : decode b_Model_deliver 39 = .ok (.iload 5, 2) := by decide +kernel
theorem d_Model_deliver_41 : decode b_Model_deliver 41 = .ok (.invokestatic 78, 3) := by decide +kernel
theorem d_Model_deliver_44 : decode b_Model_deliver 44 = .ok (.ifCond .eq 30, 3) := by decide +kernel
theorem d_Model_deliver_47 : decode b_Model_deliver 47 = .ok (.aload_n 0, 1) := by decide +kernel
theorem d_Model_deliver_48 : decode b_Model_deliver 48 = .ok (.getfield 30, 3) := by decide +kernel
theorem d_Model_deliver_51 : decode b_Model_deliver 51 = .ok (.iload 5, 2) := by decide +kernel
theorem d_Model_deliver_53 : decode b_Model_deliver 53 = .ok (.laload, 1) := by decide +kernel
theorem d_Model_deliver_54 : decode b_Model_deliver 54 = .ok (.lload_n 3, 1) := by decide +kernel
theorem d_Model_deliver_55 : decode b_Model_deliver 55 = .ok (.aload_n 0, 1) := by decide +kernel
theorem d_Model_deliver_56 : decode b_Model_deliver 56 = .ok (.getfield 45, 3) := by decide +kernel
theorem d_Model_deliver_59 : decode b_Model_deliver 59 = .ok (.iload_n 2, 1) := by decide +kernel
theorem d_Model_deliver_60 : decode b_Model_deliver 60 = .ok (.laload, 1) := by decide +kernel
theorem d_Model_deliver_61 : decode b_Model_deliver 61 = .ok (.lor, 1) := by decide +kernel
theorem d_Model_deliver_62 : decode b_Model_deliver 62 = .ok (.ldc2_w 108, 3) := by decide +kernel
theorem d_Model_deliver_65 : decode b_Model_deliver 65 = .ok (.lxor, 1) := by decide +kernel
theorem d_Model_deliver_66 : decode b_Model_deliver 66 = .ok (.land, 1) := by decide +kernel
theorem d_Model_deliver_67 : decode b_Model_deliver 67 = .ok (.lconst 0, 1) := by decide +kernel
theorem d_Model_deliver_68 : decode b_Model_deliver 68 = .ok (.lcmp, 1) := by decide +kernel
theorem d_Model_deliver_69 : decode b_Model_deliver 69 = .ok (.ifCond .eq 5, 3) := by decide +kernel
theorem d_Model_deliver_72 : decode b_Model_deliver 72 = .ok (.iconst (-1), 1) := by decide +kernel
theorem d_Model_deliver_73 : decode b_Model_deliver 73 = .ok (.ireturn, 1) := by decide +kernel
theorem d_Model_deliver_74 : decode b_Model_deliver 74 = .ok (.iinc 5 1, 3) := by decide +kernel
theorem d_Model_deliver_77 : decode b_Model_deliver 77 = .ok (.goto (-48), 3) := by decide +kernel
theorem d_Model_deliver_80 : decode b_Model_deliver 80 = .ok (.aload_n 0, 1) := by decide +kernel
theorem d_Model_deliver_81 : decode b_Model_deliver 81 = .ok (.getfield 48, 3) := by decide +kernel
theorem d_Model_deliver_84 : decode b_Model_deliver 84 = .ok (.iconst 3, 1) := by decide +kernel
theorem d_Model_deliver_85 : decode b_Model_deliver 85 = .ok (.iload_n 2, 1) := by decide +kernel
theorem d_Model_deliver_86 : decode b_Model_deliver 86 = .ok (.imul, 1) := by decide +kernel
theorem d_Model_deliver_87 : decode b_Model_deliver 87 = .ok (.aload_n 0, 1) := by decide +kernel
theorem d_Model_deliver_88 : decode b_Model_deliver 88 = .ok (.getfield 54, 3) := by decide +kernel
theorem d_Model_deliver_91 : decode b_Model_deliver 91 = .ok (.iload_n 1, 1) := by decide +kernel
end
section
theorem d_Model_deliver_92 : decode b_Model_deliver 92 = .ok (.iaload, 1) := by decide +kernel
theorem d_Model_deliver_93 : decode b_Model_deliver 93 = .ok (.iadd, 1) := by decide +kernel
theorem d_Model_deliver_94 : decode b_Model_deliver 94 = .ok (.dup2, 1) := by decide +kernel
theorem d_Model_deliver_95 : decode b_Model_deliver 95 = .ok (.laload, 1) := by decide +kernel
theorem d_Model_deliver_96 : decode b_Model_deliver 96 = .ok (.aload_n 0, 1) := by decide +kernel
theorem d_Model_deliver_97 : decode b_Model_deliver 97 = .ok (.lload_n 3, 1) := by decide +kernel
theorem d_Model_deliver_98 : decode b_Model_deliver 98 = .ok (.invokevirtual 152, 3) := by decide +kernel
theorem d_Model_deliver_101 : decode b_Model_deliver 101 = .ok (.lor, 1) := by decide +kernel
theorem d_Model_deliver_102 : decode b_Model_deliver 102 = .ok (.lastore, 1) := by decide +kernel
theorem d_Model_deliver_103 : decode b_Model_deliver 103 = .ok (.lload_n 3, 1) := by decide +kernel
theorem d_Model_deliver_104 : decode b_Model_deliver 104 = .ok (.aload_n 0, 1) := by decide +kernel
theorem d_Model_deliver_105 : decode b_Model_deliver 105 = .ok (.getfield 45, 3) := by decide +kernel
theorem d_Model_deliver_108 : decode b_Model_deliver 108 = .ok (.iload_n 2, 1) := by decide +kernel
theorem d_Model_deliver_109 : decode b_Model_deliver 109 = .ok (.laload, 1) := by decide +kernel
theorem d_Model_deliver_110 : decode b_Model_deliver 110 = .ok (.ldc2_w 108, 3) := by decide +kernel
theorem d_Model_deliver_113 : decode b_Model_deliver 113 = .ok (.lxor, 1) := by decide +kernel
theorem d_Model_deliver_114 : decode b_Model_deliver 114 = .ok (.land, 1) := by decide +kernel
theorem d_Model_deliver_115 : decode b_Model_deliver 115 = .ok (.lstore 5, 2) := by decide +kernel
theorem d_Model_deliver_117 : decode b_Model_deliver 117 = .ok (.lload 5, 2) := by decide +kernel
theorem d_Model_deliver_119 : decode b_Model_deliver 119 = .ok (.lconst 0, 1) := by decide +kernel
theorem d_Model_deliver_120 : decode b_Model_deliver 120 = .ok (.lcmp, 1) := by decide +kernel
theorem d_Model_deliver_121 : decode b_Model_deliver 121 = .ok (.ifCond .eq 10, 3) := by decide +kernel
theorem d_Model_deliver_124 : decode b_Model_deliver 124 = .ok (.aload_n 0, 1) := by decide +kernel
theorem d_Model_deliver_125 : decode b_Model_deliver 125 = .ok (.iload_n 2, 1) := by decide +kernel
theorem d_Model_deliver_126 : decode b_Model_deliver 126 = .ok (.lload 5, 2) := by decide +kernel
theorem d_Model_deliver_128 : decode b_Model_deliver 128 = .ok (.invokevirtual 163, 3) := by decide +kernel
theorem d_Model_deliver_131 : decode b_Model_deliver 131 = .ok (.lload 5, 2) := by decide +kernel
theorem d_Model_deliver_133 : decode b_Model_deliver 133 = .ok (.invokestatic 159, 3) := by decide +kernel
theorem d_Model_deliver_136 : decode b_Model_deliver 136 = .ok (.ireturn, 1) := by decide +kernel
theorem d_Model_put_0 : decode b_Model_put 0 = .ok (.iload_n 1, 1) := by decide +kernel
theorem d_Model_put_1 : decode b_Model_put 1 = .ok (.istore_n 2, 1) := by decide +kernel
theorem d_Model_put_2 : decode b_Model_put 2 = .ok (.iconst 0, 1) := by decide +kernel
theorem d_Model_put_3 : decode b_Model_put 3 = .ok (.istore_n 3, 1) := by decide +kernel
theorem d_Model_put_4 : decode b_Model_put 4 = .ok (.iload_n 3, 1) := by decide +kernel
theorem d_Model_put_5 : decode b_Model_put 5 = .ok (.iconst 5, 1) := by decide +kernel
theorem d_Model_put_6 : decode b_Model_put 6 = .ok (.if_icmp .ge 49, 3) := by decide +kernel
theorem d_Model_put_9 : decode b_Model_put 9 = .ok (.iload_n 2, 1) := by decide +kernel
theorem d_Model_put_10 : decode b_Model_put 10 = .ok (.bipush 127, 2) := by decide +kernel
theorem d_Model_put_12 : decode b_Model_put 12 = .ok (.if_icmp .le 43, 3) := by decide +kernel
theorem d_Model_put_15 : decode b_Model_put 15 = .ok (.aload_n 0, 1) := by decide +kernel
theorem d_Model_put_16 : decode b_Model_put 16 = .ok (.getfield 75, 3) := by decide +kernel
theorem d_Model_put_19 : decode b_Model_put 19 = .ok (.aload_n 0, 1) := by decide +kernel
theorem d_Model_put_20 : decode b_Model_put 20 = .ok (.getfield 181, 3) := by decide +kernel
theorem d_Model_put_23 : decode b_Model_put 23 = .ok (.iload_n 2, 1) := by decide +kernel
theorem d_Model_put_24 : decode b_Model_put 24 = .ok (.sipush 128, 3) := by decide +kernel
theorem d_Model_put_27 : decode b_Model_put 27 = .ok (.irem, 1) := by decide +kernel
theorem d_Model_put_28 : decode b_Model_put 28 = .ok (.sipush 128, 3) := by decide +kernel
theorem d_Model_put_31 : decode b_Model_put 31 = .ok (.iadd, 1) := by decide +kernel
theorem d_Model_put_32 : decode b_Model_put 32 = .ok (.iastore, 1) := by decide +kernel
theorem d_Model_put_33 : decode b_Model_put 33 = .ok (.aload_n 0, 1) := by decide +kernel
theorem d_Model_put_34 : decode b_Model_put 34 = .ok (.dup, 1) := by decide +kernel
theorem d_Model_put_35 : decode b_Model_put 35 = .ok (.getfield 181, 3) := by decide +kernel
theorem d_Model_put_38 : decode b_Model_put 38 = .ok (.iconst 1, 1) := by decide +kernel
theorem d_Model_put_39 : decode b_Model_put 39 = .ok (.iadd, 1) := by decide +kernel
theorem d_Model_put_40 : decode b_Model_put 40 = .ok (.putfield 181, 3) := by decide +kernel
theorem d_Model_put_43 : decode b_Model_put 43 = .ok (.iload_n 2, 1) := by decide +kernel
theorem d_Model_put_44 : decode b_Model_put 44 = .ok (.sipush 128, 3) := by decide +kernel
theorem d_Model_put_47 : decode b_Model_put 47 = .ok (.idiv, 1) := by decide +kernel
theorem d_Model_put_48 : decode b_Model_put 48 = .ok (.istore_n 2, 1) := by decide +kernel
theorem d_Model_put_49 : decode b_Model_put 49 = .ok (.iinc 3 1, 3) := by decide +kernel
theorem d_Model_put_52 : decode b_Model_put 52 = .ok (.goto (-48), 3) := by decide +kernel
theorem d_Model_put_55 : decode b_Model_put 55 = .ok (.aload_n 0, 1) := by decide +kernel
theorem d_Model_put_56 : decode b_Model_put 56 = .ok (.getfield 75, 3) := by decide +kernel
theorem d_Model_put_59 : decode b_Model_put 59 = .ok (.aload_n 0, 1) := by decide +kernel
theorem d_Model_put_60 : decode b_Model_put 60 = .ok (.getfield 181, 3) := by decide +kernel
theorem d_Model_put_63 : decode b_Model_put 63 = .ok (.iload_n 2, 1) := by decide +kernel
theorem d_Model_put_64 : decode b_Model_put 64 = .ok (.iastore, 1) := by decide +kernel
theorem d_Model_put_65 : decode b_Model_put 65 = .ok (.aload_n 0, 1) := by decide +kernel
theorem d_Model_put_66 : decode b_Model_put 66 = .ok (.dup, 1) := by decide +kernel
theorem d_Model_put_67 : decode b_Model_put 67 = .ok (.getfield 181, 3) := by decide +kernel
theorem d_Model_put_70 : decode b_Model_put 70 = .ok (.iconst 1, 1) := by decide +kernel
theorem d_Model_put_71 : decode b_Model_put 71 = .ok (.iadd, 1) := by decide +kernel
theorem d_Model_put_72 : decode b_Model_put 72 = .ok (.putfield 181, 3) := by decide +kernel
theorem d_Model_put_75 : decode b_Model_put 75 = .ok (.return_, 1) := by decide +kernel
theorem d_Model_putSigned_0 : decode b_Model_putSigned 0 = .ok (.aload_n 0, 1) := by decide +kernel
theorem d_Model_putSigned_1 : decode b_Model_putSigned 1 = .ok (.iload_n 1, 1) := by decide +kernel
theorem d_Model_putSigned_2 : decode b_Model_putSigned 2 = .ok (.ifCond .ge 12, 3) := by decide +kernel
theorem d_Model_putSigned_5 : decode b_Model_putSigned 5 = .ok (.bipush (-2), 2) := by decide +kernel
theorem d_Model_putSigned_7 : decode b_Model_putSigned 7 = .ok (.iload_n 1, 1) := by decide +kernel
theorem d_Model_putSigned_8 : decode b_Model_putSigned 8 = .ok (.imul, 1) := by decide +kernel
theorem d_Model_putSigned_9 : decode b_Model_putSigned 9 = .ok (.iconst 1, 1) := by decide +kernel
theorem d_Model_putSigned_10 : decode b_Model_putSigned 10 = .ok (.isub, 1) := by decide +kernel
theorem d_Model_putSigned_11 : decode b_Model_putSigned 11 = .ok (.goto 6, 3) := by decide +kernel
theorem d_Model_putSigned_14 : decode b_Model_putSigned 14 = .ok (.iconst 2, 1) := by decide +kernel
theorem d_Model_putSigned_15 : decode b_Model_putSigned 15 = .ok (.iload_n 1, 1) := by decide +kernel
theorem d_Model_putSigned_16 : decode b_Model_putSigned 16 = .ok (.imul, 1) := by decide +kernel
theorem d_Model_putSigned_17 : decode b_Model_putSigned 17 = .ok (.invokevirtual 184, 3) := by decide +kernel
theorem d_Model_putSigned_20 : decode b_Model_putSigned 20 = .ok (.return_, 1) := by decide +kernel
theorem d_Model_putRuns_0 : decode b_Model_putRuns 0 = .ok (.iconst 0, 1) := by decide +kernel
theorem d_Model_putRuns_1 : decode b_Model_putRuns 1 = .ok (.istore_n 1, 1) := by decide +kernel
theorem d_Model_putRuns_2 : decode b_Model_putRuns 2 = .ok (.iload_n 1, 1) := by decide +kernel
theorem d_Model_putRuns_3 : decode b_Model_putRuns 3 = .ok (.aload_n 0, 1) := by decide +kernel
theorem d_Model_putRuns_4 : decode b_Model_putRuns 4 = .ok (.getfield 139, 3) := by decide +kernel
theorem d_Model_putRuns_7 : decode b_Model_putRuns 7 = .ok (.if_icmp .ge 82, 3) := by decide +kernel
theorem d_Model_putRuns_10 : decode b_Model_putRuns 10 = .ok (.aload_n 0, 1) := by decide +kernel
theorem d_Model_putRuns_11 : decode b_Model_putRuns 11 = .ok (.getfield 72, 3) := by decide +kernel
theorem d_Model_putRuns_14 : decode b_Model_putRuns 14 = .ok (.iload_n 1, 1) := by decide +kernel
theorem d_Model_putRuns_15 : decode b_Model_putRuns 15 = .ok (.iaload, 1) := by decide +kernel
theorem d_Model_putRuns_16 : decode b_Model_putRuns 16 = .ok (.istore_n 2, 1) := by decide +kernel
theorem d_Model_putRuns_17 : decode b_Model_putRuns 17 = .ok (.iconst 1, 1) := by decide +kernel
theorem d_Model_putRuns_18 : decode b_Model_putRuns 18 = .ok (.istore_n 3, 1) := by decide +kernel
theorem d_Model_putRuns_19 : decode b_Model_putRuns 19 = .ok (.iload_n 1, 1) := by decide +kernel
theorem d_Model_putRuns_20 : decode b_Model_putRuns 20 = .ok (.iload_n 3, 1) := by decide +kernel
theorem d_Model_putRuns_21 : decode b_Model_putRuns 21 = .ok (.iadd, 1) := by decide +kernel
theorem d_Model_putRuns_22 : decode b_Model_putRuns 22 = .ok (.aload_n 0, 1) := by decide +kernel
theorem d_Model_putRuns_23 : decode b_Model_putRuns 23 = .ok (.getfield 139, 3) := by decide +kernel
theorem d_Model_putRuns_26 : decode b_Model_putRuns 26 = .ok (.if_icmp .ge 31, 3) := by decide +kernel
theorem d_Model_putRuns_29 : decode b_Model_putRuns 29 = .ok (.aload_n 0, 1) := by decide +kernel
theorem d_Model_putRuns_30 : decode b_Model_putRuns 30 = .ok (.getfield 7, 3) := by decide +kernel
theorem d_Model_putRuns_33 : decode b_Model_putRuns 33 = .ok (.aload_n 0, 1) := by decide +kernel
theorem d_Model_putRuns_34 : decode b_Model_putRuns 34 = .ok (.getfield 72, 3) := by decide +kernel
theorem d_Model_putRuns_37 : decode b_Model_putRuns 37 = .ok (.iload_n 1, 1) := by decide +kernel
theorem d_Model_putRuns_38 : decode b_Model_putRuns 38 = .ok (.iload_n 3, 1) := by decide +kernel
theorem d_Model_putRuns_39 : decode b_Model_putRuns 39 = .ok (.iadd, 1) := by decide +kernel
theorem d_Model_putRuns_40 : decode b_Model_putRuns 40 = .ok (.iaload, 1) := by decide +kernel
theorem d_Model_putRuns_41 : decode b_Model_putRuns 41 = .ok (.iaload, 1) := by decide +kernel
theorem d_Model_putRuns_42 : decode b_Model_putRuns 42 = .ok (.aload_n 0, 1) := by decide +kernel
theorem d_Model_putRuns_43 : decode b_Model_putRuns 43 = .ok (.getfield 7, 3) := by decide +kernel
theorem d_Model_putRuns_46 : decode b_Model_putRuns 46 = .ok (.iload_n 2, 1) := by decide +kernel
theorem d_Model_putRuns_47 : decode b_Model_putRuns 47 = .ok (.iaload, 1) := by decide +kernel
theorem d_Model_putRuns_48 : decode b_Model_putRuns 48 = .ok (.if_icmp .ne 9, 3) := by decide +kernel
theorem d_Model_putRuns_51 : decode b_Model_putRuns 51 = .ok (.iinc 3 1, 3) := by decide +kernel
theorem d_Model_putRuns_54 : decode b_Model_putRuns 54 = .ok (.goto (-35), 3) := by decide +kernel
theorem d_Model_putRuns_57 : decode b_Model_putRuns 57 = .ok (.aload_n 0, 1) := by decide +kernel
theorem d_Model_putRuns_58 : decode b_Model_putRuns 58 = .ok (.aload_n 0, 1) := by decide +kernel
theorem d_Model_putRuns_59 : decode b_Model_putRuns 59 = .ok (.getfield 7, 3) := by decide +kernel
theorem d_Model_putRuns_62 : decode b_Model_putRuns 62 = .ok (.iload_n 2, 1) := by decide +kernel
theorem d_Model_putRuns_63 : decode b_Model_putRuns 63 = .ok (.iaload, 1) := by decide +kernel
theorem d_Model_putRuns_64 : decode b_Model_putRuns 64 = .ok (.invokevirtual 184, 3) := by decide +kernel
theorem d_Model_putRuns_67 : decode b_Model_putRuns 67 = .ok (.aload_n 0, 1) := by decide +kernel
theorem d_Model_putRuns_68 : decode b_Model_putRuns 68 = .ok (.aload_n 0, 1) := by decide +kernel
theorem d_Model_putRuns_69 : decode b_Model_putRuns 69 = .ok (.getfield 13, 3) := by decide +kernel
theorem d_Model_putRuns_72 : decode b_Model_putRuns 72 = .ok (.iload_n 2, 1) := by decide +kernel
theorem d_Model_putRuns_73 : decode b_Model_putRuns 73 = .ok (.iaload, 1) := by decide +kernel
theorem d_Model_putRuns_74 : decode b_Model_putRuns 74 = .ok (.invokevirtual 184, 3) := by decide +kernel
theorem d_Model_putRuns_77 : decode b_Model_putRuns 77 = .ok (.aload_n 0, 1) := by decide +kernel
theorem d_Model_putRuns_78 : decode b_Model_putRuns 78 = .ok (.iload_n 3, 1) := by decide +kernel
theorem d_Model_putRuns_79 : decode b_Model_putRuns 79 = .ok (.invokevirtual 184, 3) := by decide +kernel
theorem d_Model_putRuns_82 : decode b_Model_putRuns 82 = .ok (.iload_n 1, 1) := by decide +kernel
theorem d_Model_putRuns_83 : decode b_Model_putRuns 83 = .ok (.iload_n 3, 1) := by decide +kernel
theorem d_Model_putRuns_84 : decode b_Model_putRuns 84 = .ok (.iadd, 1) := by decide +kernel
theorem d_Model_putRuns_85 : decode b_Model_putRuns 85 = .ok (.istore_n 1, 1) := by decide +kernel
theorem d_Model_putRuns_86 : decode b_Model_putRuns 86 = .ok (.goto (-84), 3) := by decide +kernel
theorem d_Model_putRuns_89 : decode b_Model_putRuns 89 = .ok (.iconst 1, 1) := by decide +kernel
theorem d_Model_putRuns_90 : decode b_Model_putRuns 90 = .ok (.istore_n 2, 1) := by decide +kernel
theorem d_Model_putRuns_91 : decode b_Model_putRuns 91 = .ok (.iconst 0, 1) := by decide +kernel
theorem d_Model_putRuns_92 : decode b_Model_putRuns 92 = .ok (.istore_n 3, 1) := by decide +kernel
theorem d_Model_putRuns_93 : decode b_Model_putRuns 93 = .ok (.iload_n 3, 1) := by decide +kernel
theorem d_Model_putRuns_94 : decode b_Model_putRuns 94 = .ok (.aload_n 0, 1) := by decide +kernel
theorem d_Model_putRuns_95 : decode b_Model_putRuns 95 = .ok (.getfield 139, 3) := by decide +kernel
theorem d_Model_putRuns_98 : decode b_Model_putRuns 98 = .ok (.if_icmp .ge 65, 3) := by decide +kernel
theorem d_Model_putRuns_101 : decode b_Model_putRuns 101 = .ok (.iconst 0, 1) := by decide +kernel
theorem d_Model_putRuns_102 : decode b_Model_putRuns 102 = .ok (.istore 4, 2) := by decide +kernel
theorem d_Model_putRuns_104 : decode b_Model_putRuns 104 = .ok (.iload_n 3, 1) := by decide +kernel
theorem d_Model_putRuns_105 : decode b_Model_putRuns 105 = .ok (.iload 4, 2) := by decide +kernel
theorem d_Model_putRuns_107 : decode b_Model_putRuns 107 = .ok (.iadd, 1) := by decide +kernel
theorem d_Model_putRuns_108 : decode b_Model_putRuns 108 = .ok (.aload_n 0, 1) := by decide +kernel
theorem d_Model_putRuns_109 : decode b_Model_putRuns 109 = .ok (.getfield 139, 3) := by decide +kernel
theorem d_Model_putRuns_112 : decode b_Model_putRuns 112 = .ok (.if_icmp .ge 27, 3) := by decide +kernel
theorem d_Model_putRuns_115 : decode b_Model_putRuns 115 = .ok (.aload_n 0, 1) := by decide +kernel
theorem d_Model_putRuns_116 : decode b_Model_putRuns 116 = .ok (.getfield 16, 3) := by decide +kernel
theorem d_Model_putRuns_119 : decode b_Model_putRuns 119 = .ok (.aload_n 0, 1) := by decide +kernel
theorem d_Model_putRuns_120 : decode b_Model_putRuns 120 = .ok (.getfield 72, 3) := by decide +kernel
theorem d_Model_putRuns_123 : decode b_Model_putRuns 123 = .ok (.iload_n 3, 1) := by decide +kernel
theorem d_Model_putRuns_124 : decode b_Model_putRuns 124 = .ok (.iload 4, 2) := by decide +kernel
theorem d_Model_putRuns_126 : decode b_Model_putRuns 126 = .ok (.iadd, 1) := by decide +kernel
theorem d_Model_putRuns_127 : decode b_Model_putRuns 127 = .ok (.iaload, 1) := by decide +kernel
theorem d_Model_putRuns_128 : decode b_Model_putRuns 128 = .ok (.baload, 1) := by decide +kernel
theorem d_Model_putRuns_129 : decode b_Model_putRuns 129 = .ok (.iload_n 2, 1) := by decide +kernel
theorem d_Model_putRuns_130 : decode b_Model_putRuns 130 = .ok (.if_icmp .ne 9, 3) := by decide +kernel
theorem d_Model_putRuns_133 : decode b_Model_putRuns 133 = .ok (.iinc 4 1, 3) := by decide +kernel
theorem d_Model_putRuns_136 : decode b_Model_putRuns 136 = .ok (.goto (-32), 3) := by decide +kernel
theorem d_Model_putRuns_139 : decode b_Model_putRuns 139 = .ok (.aload_n 0, 1) := by decide +kernel
theorem d_Model_putRuns_140 : decode b_Model_putRuns 140 = .ok (.iload 4, 2) := by decide +kernel
theorem d_Model_putRuns_142 : decode b_Model_putRuns 142 = .ok (.invokevirtual 184, 3) := by decide +kernel
theorem d_Model_putRuns_145 : decode b_Model_putRuns 145 = .ok (.iload_n 3, 1) := by decide +kernel
theorem d_Model_putRuns_146 : decode b_Model_putRuns 146 = .ok (.iload 4, 2) := by decide +kernel
theorem d_Model_putRuns_148 : decode b_Model_putRuns 148 = .ok (.iadd, 1) := by decide +kernel
theorem d_Model_putRuns_149 : decode b_Model_putRuns 149 = .ok (.istore_n 3, 1) := by decide +kernel
theorem d_Model_putRuns_150 : decode b_Model_putRuns 150 = .ok (.iload_n 2, 1) := by decide +kernel
theorem d_Model_putRuns_151 : decode b_Model_putRuns 151 = .ok (.ifCond .ne 7, 3) := by decide +kernel
theorem d_Model_putRuns_154 : decode b_Model_putRuns 154 = .ok (.iconst 1, 1) := by decide +kernel
theorem d_Model_putRuns_155 : decode b_Model_putRuns 155 = .ok (.goto 4, 3) := by decide +kernel
theorem d_Model_putRuns_158 : decode b_Model_putRuns 158 = .ok (.iconst 0, 1) := by decide +kernel
theorem d_Model_putRuns_159 : decode b_Model_putRuns 159 = .ok (.istore_n 2, 1) := by decide +kernel
theorem d_Model_putRuns_160 : decode b_Model_putRuns 160 = .ok (.goto (-67), 3) := by decide +kernel
theorem d_Model_putRuns_163 : decode b_Model_putRuns 163 = .ok (.return_, 1) := by decide +kernel
theorem d_Model_putParents_0 : decode b_Model_putParents 0 = .ok (.aload_n 0, 1) := by decide +kernel
theorem d_Model_putParents_1 : decode b_Model_putParents 1 = .ok (.getfield 72, 3) := by decide +kernel
theorem d_Model_putParents_4 : decode b_Model_putParents 4 = .ok (.iload_n 1, 1) := by decide +kernel
theorem d_Model_putParents_5 : decode b_Model_putParents 5 = .ok (.iaload, 1) := by decide +kernel
theorem d_Model_putParents_6 : decode b_Model_putParents 6 = .ok (.istore_n 2, 1) := by decide +kernel
theorem d_Model_putParents_7 : decode b_Model_putParents 7 = .ok (.iload_n 1, 1) := by decide +kernel
theorem d_Model_putParents_8 : decode b_Model_putParents 8 = .ok (.ifCond .le 30, 3) := by decide +kernel
theorem d_Model_putParents_11 : decode b_Model_putParents 11 = .ok (.aload_n 0, 1) := by decide +kernel
theorem d_Model_putParents_12 : decode b_Model_putParents 12 = .ok (.getfield 30, 3) := by decide +kernel
theorem d_Model_putParents_15 : decode b_Model_putParents 15 = .ok (.iload_n 2, 1) := by decide +kernel
theorem d_Model_putParents_16 : decode b_Model_putParents 16 = .ok (.laload, 1) := by decide +kernel
theorem d_Model_putParents_17 : decode b_Model_putParents 17 = .ok (.aload_n 0, 1) := by decide +kernel
theorem d_Model_putParents_18 : decode b_Model_putParents 18 = .ok (.getfield 72, 3) := by decide +kernel
theorem d_Model_putParents_21 : decode b_Model_putParents 21 = .ok (.iload_n 1, 1) := by decide +kernel
theorem d_Model_putParents_22 : decode b_Model_putParents 22 = .ok (.iconst 1, 1) := by decide +kernel
theorem d_Model_putParents_23 : decode b_Model_putParents 23 = .ok (.isub, 1) := by decide +kernel
theorem d_Model_putParents_24 : decode b_Model_putParents 24 = .ok (.iaload, 1) := by decide +kernel
theorem d_Model_putParents_25 : decode b_Model_putParents 25 = .ok (.invokestatic 90, 3) := by decide +kernel
theorem d_Model_putParents_28 : decode b_Model_putParents 28 = .ok (.lcmp, 1) := by decide +kernel
theorem d_Model_putParents_29 : decode b_Model_putParents 29 = .ok (.ifCond .ne 9, 3) := by decide +kernel
theorem d_Model_putParents_32 : decode b_Model_putParents 32 = .ok (.aload_n 0, 1) := by decide +kernel
theorem d_Model_putParents_33 : decode b_Model_putParents 33 = .ok (.iconst 0, 1) := by decide +kernel
theorem d_Model_putParents_34 : decode b_Model_putParents 34 = .ok (.invokevirtual 184, 3) := by decide +kernel
theorem d_Model_putParents_37 : decode b_Model_putParents 37 = .ok (.return_, 1) := by decide +kernel
theorem d_Model_putParents_38 : decode b_Model_putParents 38 = .ok (.aload_n 0, 1) := by decide +kernel
theorem d_Model_putParents_39 : decode b_Model_putParents 39 = .ok (.iconst 1, 1) := by decide +kernel
theorem d_Model_putParents_40 : decode b_Model_putParents 40 = .ok (.aload_n 0, 1) := by decide +kernel
theorem d_Model_putParents_41 : decode b_Model_putParents 41 = .ok (.getfield 30, 3) := by decide +kernel
theorem d_Model_putParents_44 : decode b_Model_putParents 44 = .ok (.iload_n 2, 1) := by decide +kernel
theorem d_Model_putParents_45 : decode b_Model_putParents 45 = .ok (.laload, 1) := by decide +kernel
theorem d_Model_putParents_46 : decode b_Model_putParents 46 = .ok (.invokestatic 159, 3) := by decide +kernel
theorem d_Model_putParents_49 : decode b_Model_putParents 49 = .ok (.iadd, 1) := by decide +kernel
theorem d_Model_putParents_50 : decode b_Model_putParents 50 = .ok (.invokevirtual 184, 3) := by decide +kernel
theorem d_Model_putParents_53 : decode b_Model_putParents 53 = .ok (.iconst 0, 1) := by decide +kernel
theorem d_Model_putParents_54 : decode b_Model_putParents 54 = .ok (.istore_n 3, 1) := by decide +kernel
theorem d_Model_putParents_55 : decode b_Model_putParents 55 = .ok (.iload_n 3, 1) := by decide +kernel
theorem d_Model_putParents_56 : decode b_Model_putParents 56 = .ok (.iconst 3, 1) := by decide +kernel
theorem d_Model_putParents_57 : decode b_Model_putParents 57 = .ok (.if_icmp .ge 67, 3) := by decide +kernel
theorem d_Model_putParents_60 : decode b_Model_putParents 60 = .ok (.iconst 0, 1) := by decide +kernel
theorem d_Model_putParents_61 : decode b_Model_putParents 61 = .ok (.istore 4, 2) := by decide +kernel
theorem d_Model_putParents_63 : decode b_Model_putParents 63 = .ok (.iload 4, 2) := by decide +kernel
theorem d_Model_putParents_65 : decode b_Model_putParents 65 = .ok (.aload_n 0, 1) := by decide +kernel
theorem d_Model_putParents_66 : decode b_Model_putParents 66 = .ok (.getfield 86, 3) := by decide +kernel
theorem d_Model_putParents_69 : decode b_Model_putParents 69 = .ok (.if_icmp .ge 49, 3) := by decide +kernel
theorem d_Model_putParents_72 : decode b_Model_putParents 72 = .ok (.aload_n 0, 1) := by decide +kernel
theorem d_Model_putParents_73 : decode b_Model_putParents 73 = .ok (.getfield 7, 3) := by decide +kernel
theorem d_Model_putParents_76 : decode b_Model_putParents 76 = .ok (.iload 4, 2) := by decide +kernel
theorem d_Model_putParents_78 : decode b_Model_putParents 78 = .ok (.iaload, 1) := by decide +kernel
theorem d_Model_putParents_79 : decode b_Model_putParents 79 = .ok (.iload_n 3, 1) := by decide +kernel
theorem d_Model_putParents_80 : decode b_Model_putParents 80 = .ok (.if_icmp .ne 32, 3) := by decide +kernel
theorem d_Model_putParents_83 : decode b_Model_putParents 83 = .ok (.aload_n 0, 1) := by decide +kernel
theorem d_Model_putParents_84 : decode b_Model_putParents 84 = .ok (.getfield 30, 3) := by decide +kernel
theorem d_Model_putParents_87 : decode b_Model_putParents 87 = .ok (.iload_n 2, 1) := by decide +kernel
theorem d_Model_putParents_88 : decode b_Model_putParents 88 = .ok (.laload, 1) := by decide +kernel
theorem d_Model_putParents_89 : decode b_Model_putParents 89 = .ok (.iload 4, 2) := by decide +kernel
theorem d_Model_putParents_91 : decode b_Model_putParents 91 = .ok (.invokestatic 78, 3) := by decide +kernel
theorem d_Model_putParents_94 : decode b_Model_putParents 94 = .ok (.ifCond .eq 18, 3) := by decide +kernel
theorem d_Model_putParents_97 : decode b_Model_putParents 97 = .ok (.aload_n 0, 1) := by decide +kernel
theorem d_Model_putParents_98 : decode b_Model_putParents 98 = .ok (.iload_n 3, 1) := by decide +kernel
theorem d_Model_putParents_99 : decode b_Model_putParents 99 = .ok (.iconst 3, 1) := by decide +kernel
theorem d_Model_putParents_100 : decode b_Model_putParents 100 = .ok (.aload_n 0, 1) := by decide +kernel
theorem d_Model_putParents_101 : decode b_Model_putParents 101 = .ok (.getfield 13, 3) := by decide +kernel
theorem d_Model_putParents_104 : decode b_Model_putParents 104 = .ok (.iload 4, 2) := by decide +kernel
theorem d_Model_putParents_106 : decode b_Model_putParents 106 = .ok (.iaload, 1) := by decide +kernel
theorem d_Model_putParents_107 : decode b_Model_putParents 107 = .ok (.imul, 1) := by decide +kernel
theorem d_Model_putParents_108 : decode b_Model_putParents 108 = .ok (.iadd, 1) := by decide +kernel
theorem d_Model_putParents_109 : decode b_Model_putParents 109 = .ok (.invokevirtual 184, 3) := by decide +kernel
theorem d_Model_putParents_112 : decode b_Model_putParents 112 = .ok (.iinc 4 1, 3) := by decide +kernel
theorem d_Model_putParents_115 : decode b_Model_putParents 115 = .ok (.goto (-52), 3) := by decide +kernel
theorem d_Model_putParents_118 : decode b_Model_putParents 118 = .ok (.iinc 3 1, 3) := by decide +kernel
theorem d_Model_putParents_121 : decode b_Model_putParents 121 = .ok (.goto (-66), 3) := by decide +kernel
theorem d_Model_putParents_124 : decode b_Model_putParents 124 = .ok (.return_, 1) := by decide +kernel
theorem d_Model_write_0 : decode b_Model_write 0 = .ok (.aload_n 0, 1) := by decide +kernel
theorem d_Model_write_1 : decode b_Model_write 1 = .ok (.aload_n 0, 1) := by decide +kernel
theorem d_Model_write_2 : decode b_Model_write 2 = .ok (.getfield 51, 3) := by decide +kernel
theorem d_Model_write_5 : decode b_Model_write 5 = .ok (.iload_n 1, 1) := by decide +kernel
theorem d_Model_write_6 : decode b_Model_write 6 = .ok (.laload, 1) := by decide +kernel
theorem d_Model_write_7 : decode b_Model_write 7 = .ok (.invokevirtual 174, 3) := by decide +kernel
theorem d_Model_write_10 : decode b_Model_write 10 = .ok (.aload_n 0, 1) := by decide +kernel
theorem d_Model_write_11 : decode b_Model_write 11 = .ok (.iconst 0, 1) := by decide +kernel
theorem d_Model_write_12 : decode b_Model_write 12 = .ok (.putfield 181, 3) := by decide +kernel
theorem d_Model_write_15 : decode b_Model_write 15 = .ok (.aload_n 0, 1) := by decide +kernel
theorem d_Model_write_16 : decode b_Model_write 16 = .ok (.aload_n 0, 1) := by decide +kernel
theorem d_Model_write_17 : decode b_Model_write 17 = .ok (.getfield 139, 3) := by decide +kernel
theorem d_Model_write_20 : decode b_Model_write 20 = .ok (.invokevirtual 184, 3) := by decide +kernel
theorem d_Model_write_23 : decode b_Model_write 23 = .ok (.aload_n 0, 1) := by decide +kernel
theorem d_Model_write_24 : decode b_Model_write 24 = .ok (.invokevirtual 187, 3) := by decide +kernel
theorem d_Model_write_27 : decode b_Model_write 27 = .ok (.iconst 0, 1) := by decide +kernel
theorem d_Model_write_28 : decode b_Model_write 28 = .ok (.istore_n 2, 1) := by decide +kernel
theorem d_Model_write_29 : decode b_Model_write 29 = .ok (.iconst 0, 1) := by decide +kernel
theorem d_Model_write_30 : decode b_Model_write 30 = .ok (.istore_n 3, 1) := by decide +kernel
theorem d_Model_write_31 : decode b_Model_write 31 = .ok (.iload_n 3, 1) := by decide +kernel
theorem d_Model_write_32 : decode b_Model_write 32 = .ok (.aload_n 0, 1) := by decide +kernel
theorem d_Model_write_33 : decode b_Model_write 33 = .ok (.getfield 139, 3) := by decide +kernel
theorem d_Model_write_36 : decode b_Model_write 36 = .ok (.if_icmp .ge 38, 3) := by decide +kernel
theorem d_Model_write_39 : decode b_Model_write 39 = .ok (.aload_n 0, 1) := by decide +kernel
theorem d_Model_write_40 : decode b_Model_write 40 = .ok (.aload_n 0, 1) := by decide +kernel
theorem d_Model_write_41 : decode b_Model_write 41 = .ok (.getfield 20, 3) := by decide +kernel
theorem d_Model_write_44 : decode b_Model_write 44 = .ok (.aload_n 0, 1) := by decide +kernel
theorem d_Model_write_45 : decode b_Model_write 45 = .ok (.getfield 72, 3) := by decide +kernel
theorem d_Model_write_48 : decode b_Model_write 48 = .ok (.iload_n 3, 1) := by decide +kernel
theorem d_Model_write_49 : decode b_Model_write 49 = .ok (.iaload, 1) := by decide +kernel
theorem d_Model_write_50 : decode b_Model_write 50 = .ok (.iaload, 1) := by decide +kernel
theorem d_Model_write_51 : decode b_Model_write 51 = .ok (.iload_n 2, 1) := by decide +kernel
theorem d_Model_write_52 : decode b_Model_write 52 = .ok (.isub, 1) := by decide +kernel
theorem d_Model_write_53 : decode b_Model_write 53 = .ok (.invokevirtual 190, 3) := by decide +kernel
theorem d_Model_write_56 : decode b_Model_write 56 = .ok (.aload_n 0, 1) := by decide +kernel
theorem d_Model_write_57 : decode b_Model_write 57 = .ok (.getfield 20, 3) := by decide +kernel
theorem d_Model_write_60 : decode b_Model_write 60 = .ok (.aload_n 0, 1) := by decide +kernel
theorem d_Model_write_61 : decode b_Model_write 61 = .ok (.getfield 72, 3) := by decide +kernel
theorem d_Model_write_64 : decode b_Model_write 64 = .ok (.iload_n 3, 1) := by decide +kernel
theorem d_Model_write_65 : decode b_Model_write 65 = .ok (.iaload, 1) := by decide +kernel
theorem d_Model_write_66 : decode b_Model_write 66 = .ok (.iaload, 1) := by decide +kernel
end
section
theorem d_Model_write_67 : decode b_Model_write 67 = .ok (.istore_n 2, 1) := by decide +kernel
theorem d_Model_write_68 : decode b_Model_write 68 = .ok (.iinc 3 1, 3) := by decide +kernel
theorem d_Model_write_71 : decode b_Model_write 71 = .ok (.goto (-40), 3) := by decide +kernel
theorem d_Model_write_74 : decode b_Model_write 74 = .ok (.iconst 0, 1) := by decide +kernel
theorem d_Model_write_75 : decode b_Model_write 75 = .ok (.istore_n 2, 1) := by decide +kernel
theorem d_Model_write_76 : decode b_Model_write 76 = .ok (.iconst 0, 1) := by decide +kernel
theorem d_Model_write_77 : decode b_Model_write 77 = .ok (.istore_n 3, 1) := by decide +kernel
theorem d_Model_write_78 : decode b_Model_write 78 = .ok (.iload_n 3, 1) := by decide +kernel
theorem d_Model_write_79 : decode b_Model_write 79 = .ok (.aload_n 0, 1) := by decide +kernel
theorem d_Model_write_80 : decode b_Model_write 80 = .ok (.getfield 139, 3) := by decide +kernel
theorem d_Model_write_83 : decode b_Model_write 83 = .ok (.if_icmp .ge 52, 3) := by decide +kernel
theorem d_Model_write_86 : decode b_Model_write 86 = .ok (.aload_n 0, 1) := by decide +kernel
theorem d_Model_write_87 : decode b_Model_write 87 = .ok (.getfield 16, 3) := by decide +kernel
theorem d_Model_write_90 : decode b_Model_write 90 = .ok (.aload_n 0, 1) := by decide +kernel
theorem d_Model_write_91 : decode b_Model_write 91 = .ok (.getfield 72, 3) := by decide +kernel
theorem d_Model_write_94 : decode b_Model_write 94 = .ok (.iload_n 3, 1) := by decide +kernel
theorem d_Model_write_95 : decode b_Model_write 95 = .ok (.iaload, 1) := by decide +kernel
theorem d_Model_write_96 : decode b_Model_write 96 = .ok (.baload, 1) := by decide +kernel
theorem d_Model_write_97 : decode b_Model_write 97 = .ok (.ifCond .eq 32, 3) := by decide +kernel
theorem d_Model_write_100 : decode b_Model_write 100 = .ok (.aload_n 0, 1) := by decide +kernel
theorem d_Model_write_101 : decode b_Model_write 101 = .ok (.aload_n 0, 1) := by decide +kernel
theorem d_Model_write_102 : decode b_Model_write 102 = .ok (.getfield 23, 3) := by decide +kernel
theorem d_Model_write_105 : decode b_Model_write 105 = .ok (.aload_n 0, 1) := by decide +kernel
theorem d_Model_write_106 : decode b_Model_write 106 = .ok (.getfield 72, 3) := by decide +kernel
theorem d_Model_write_109 : decode b_Model_write 109 = .ok (.iload_n 3, 1) := by decide +kernel
theorem d_Model_write_110 : decode b_Model_write 110 = .ok (.iaload, 1) := by decide +kernel
theorem d_Model_write_111 : decode b_Model_write 111 = .ok (.iaload, 1) := by decide +kernel
theorem d_Model_write_112 : decode b_Model_write 112 = .ok (.iload_n 2, 1) := by decide +kernel
theorem d_Model_write_113 : decode b_Model_write 113 = .ok (.isub, 1) := by decide +kernel
theorem d_Model_write_114 : decode b_Model_write 114 = .ok (.invokevirtual 190, 3) := by decide +kernel
theorem d_Model_write_117 : decode b_Model_write 117 = .ok (.aload_n 0, 1) := by decide +kernel
theorem d_Model_write_118 : decode b_Model_write 118 = .ok (.getfield 23, 3) := by decide +kernel
theorem d_Model_write_121 : decode b_Model_write 121 = .ok (.aload_n 0, 1) := by decide +kernel
theorem d_Model_write_122 : decode b_Model_write 122 = .ok (.getfield 72, 3) := by decide +kernel
theorem d_Model_write_125 : decode b_Model_write 125 = .ok (.iload_n 3, 1) := by decide +kernel
theorem d_Model_write_126 : decode b_Model_write 126 = .ok (.iaload, 1) := by decide +kernel
theorem d_Model_write_127 : decode b_Model_write 127 = .ok (.iaload, 1) := by decide +kernel
theorem d_Model_write_128 : decode b_Model_write 128 = .ok (.istore_n 2, 1) := by decide +kernel
theorem d_Model_write_129 : decode b_Model_write 129 = .ok (.iinc 3 1, 3) := by decide +kernel
theorem d_Model_write_132 : decode b_Model_write 132 = .ok (.goto (-54), 3) := by decide +kernel
theorem d_Model_write_135 : decode b_Model_write 135 = .ok (.iconst 0, 1) := by decide +kernel
theorem d_Model_write_136 : decode b_Model_write 136 = .ok (.istore_n 3, 1) := by decide +kernel
theorem d_Model_write_137 : decode b_Model_write 137 = .ok (.iload_n 3, 1) := by decide +kernel
theorem d_Model_write_138 : decode b_Model_write 138 = .ok (.aload_n 0, 1) := by decide +kernel
theorem d_Model_write_139 : decode b_Model_write 139 = .ok (.getfield 139, 3) := by decide +kernel
theorem d_Model_write_142 : decode b_Model_write 142 = .ok (.if_icmp .ge 14, 3) := by decide +kernel
theorem d_Model_write_145 : decode b_Model_write 145 = .ok (.aload_n 0, 1) := by decide +kernel
theorem d_Model_write_146 : decode b_Model_write 146 = .ok (.iload_n 3, 1) := by decide +kernel
theorem d_Model_write_147 : decode b_Model_write 147 = .ok (.invokevirtual 193, 3) := by decide +kernel
theorem d_Model_write_150 : decode b_Model_write 150 = .ok (.iinc 3 1, 3) := by decide +kernel
theorem d_Model_write_153 : decode b_Model_write 153 = .ok (.goto (-16), 3) := by decide +kernel
theorem d_Model_write_156 : decode b_Model_write 156 = .ok (.return_, 1) := by decide +kernel
theorem d_Model_octets_0 : decode b_Model_octets 0 = .ok (.aload_n 0, 1) := by decide +kernel
theorem d_Model_octets_1 : decode b_Model_octets 1 = .ok (.iload_n 1, 1) := by decide +kernel
theorem d_Model_octets_2 : decode b_Model_octets 2 = .ok (.invokevirtual 149, 3) := by decide +kernel
theorem d_Model_octets_5 : decode b_Model_octets 5 = .ok (.ifCond .eq 7, 3) := by decide +kernel
theorem d_Model_octets_8 : decode b_Model_octets 8 = .ok (.sipush (-1000), 3) := by decide +kernel
theorem d_Model_octets_11 : decode b_Model_octets 11 = .ok (.ireturn, 1) := by decide +kernel
theorem d_Model_octets_12 : decode b_Model_octets 12 = .ok (.aload_n 0, 1) := by decide +kernel
theorem d_Model_octets_13 : decode b_Model_octets 13 = .ok (.iload_n 1, 1) := by decide +kernel
theorem d_Model_octets_14 : decode b_Model_octets 14 = .ok (.invokevirtual 196, 3) := by decide +kernel
theorem d_Model_octets_17 : decode b_Model_octets 17 = .ok (.aload_n 0, 1) := by decide +kernel
theorem d_Model_octets_18 : decode b_Model_octets 18 = .ok (.getfield 181, 3) := by decide +kernel
theorem d_Model_octets_21 : decode b_Model_octets 21 = .ok (.ireturn, 1) := by decide +kernel
theorem d_Model_octet_0 : decode b_Model_octet 0 = .ok (.aload_n 0, 1) := by decide +kernel
theorem d_Model_octet_1 : decode b_Model_octet 1 = .ok (.iload_n 1, 1) := by decide +kernel
theorem d_Model_octet_2 : decode b_Model_octet 2 = .ok (.invokevirtual 149, 3) := by decide +kernel
theorem d_Model_octet_5 : decode b_Model_octet 5 = .ok (.ifCond .eq 7, 3) := by decide +kernel
theorem d_Model_octet_8 : decode b_Model_octet 8 = .ok (.sipush (-1000), 3) := by decide +kernel
theorem d_Model_octet_11 : decode b_Model_octet 11 = .ok (.ireturn, 1) := by decide +kernel
theorem d_Model_octet_12 : decode b_Model_octet 12 = .ok (.aload_n 0, 1) := by decide +kernel
theorem d_Model_octet_13 : decode b_Model_octet 13 = .ok (.iload_n 1, 1) := by decide +kernel
theorem d_Model_octet_14 : decode b_Model_octet 14 = .ok (.invokevirtual 196, 3) := by decide +kernel
theorem d_Model_octet_17 : decode b_Model_octet 17 = .ok (.iload_n 2, 1) := by decide +kernel
theorem d_Model_octet_18 : decode b_Model_octet 18 = .ok (.ifCond .lt 11, 3) := by decide +kernel
theorem d_Model_octet_21 : decode b_Model_octet 21 = .ok (.iload_n 2, 1) := by decide +kernel
theorem d_Model_octet_22 : decode b_Model_octet 22 = .ok (.aload_n 0, 1) := by decide +kernel
theorem d_Model_octet_23 : decode b_Model_octet 23 = .ok (.getfield 181, 3) := by decide +kernel
theorem d_Model_octet_26 : decode b_Model_octet 26 = .ok (.if_icmp .lt 9, 3) := by decide +kernel
theorem d_Model_octet_29 : decode b_Model_octet 29 = .ok (.sipush (-1000), 3) := by decide +kernel
theorem d_Model_octet_32 : decode b_Model_octet 32 = .ok (.goto 9, 3) := by decide +kernel
theorem d_Model_octet_35 : decode b_Model_octet 35 = .ok (.aload_n 0, 1) := by decide +kernel
theorem d_Model_octet_36 : decode b_Model_octet 36 = .ok (.getfield 75, 3) := by decide +kernel
theorem d_Model_octet_39 : decode b_Model_octet 39 = .ok (.iload_n 2, 1) := by decide +kernel
theorem d_Model_octet_40 : decode b_Model_octet 40 = .ok (.iaload, 1) := by decide +kernel
theorem d_Model_octet_41 : decode b_Model_octet 41 = .ok (.ireturn, 1) := by decide +kernel
theorem d_Model_events_0 : decode b_Model_events 0 = .ok (.iload_n 1, 1) := by decide +kernel
theorem d_Model_events_1 : decode b_Model_events 1 = .ok (.invokestatic 82, 3) := by decide +kernel
theorem d_Model_events_4 : decode b_Model_events 4 = .ok (.ifCond .eq 9, 3) := by decide +kernel
theorem d_Model_events_7 : decode b_Model_events 7 = .ok (.sipush (-1000), 3) := by decide +kernel
theorem d_Model_events_10 : decode b_Model_events 10 = .ok (.goto 12, 3) := by decide +kernel
theorem d_Model_events_13 : decode b_Model_events 13 = .ok (.aload_n 0, 1) := by decide +kernel
theorem d_Model_events_14 : decode b_Model_events 14 = .ok (.getfield 45, 3) := by decide +kernel
theorem d_Model_events_17 : decode b_Model_events 17 = .ok (.iload_n 1, 1) := by decide +kernel
theorem d_Model_events_18 : decode b_Model_events 18 = .ok (.laload, 1) := by decide +kernel
theorem d_Model_events_19 : decode b_Model_events 19 = .ok (.invokestatic 159, 3) := by decide +kernel
theorem d_Model_events_22 : decode b_Model_events 22 = .ok (.ireturn, 1) := by decide +kernel
theorem d_Model_heads_0 : decode b_Model_heads 0 = .ok (.iload_n 1, 1) := by decide +kernel
theorem d_Model_heads_1 : decode b_Model_heads 1 = .ok (.invokestatic 82, 3) := by decide +kernel
theorem d_Model_heads_4 : decode b_Model_heads 4 = .ok (.ifCond .eq 9, 3) := by decide +kernel
theorem d_Model_heads_7 : decode b_Model_heads 7 = .ok (.sipush (-1000), 3) := by decide +kernel
theorem d_Model_heads_10 : decode b_Model_heads 10 = .ok (.goto 16, 3) := by decide +kernel
theorem d_Model_heads_13 : decode b_Model_heads 13 = .ok (.aload_n 0, 1) := by decide +kernel
theorem d_Model_heads_14 : decode b_Model_heads 14 = .ok (.aload_n 0, 1) := by decide +kernel
theorem d_Model_heads_15 : decode b_Model_heads 15 = .ok (.getfield 45, 3) := by decide +kernel
theorem d_Model_heads_18 : decode b_Model_heads 18 = .ok (.iload_n 1, 1) := by decide +kernel
theorem d_Model_heads_19 : decode b_Model_heads 19 = .ok (.laload, 1) := by decide +kernel
theorem d_Model_heads_20 : decode b_Model_heads 20 = .ok (.invokevirtual 110, 3) := by decide +kernel
theorem d_Model_heads_23 : decode b_Model_heads 23 = .ok (.invokestatic 159, 3) := by decide +kernel
theorem d_Model_heads_26 : decode b_Model_heads 26 = .ok (.ireturn, 1) := by decide +kernel
theorem d_Model_head_0 : decode b_Model_head 0 = .ok (.iload_n 1, 1) := by decide +kernel
theorem d_Model_head_1 : decode b_Model_head 1 = .ok (.invokestatic 82, 3) := by decide +kernel
theorem d_Model_head_4 : decode b_Model_head 4 = .ok (.ifCond .ne 7, 3) := by decide +kernel
theorem d_Model_head_7 : decode b_Model_head 7 = .ok (.iload_n 2, 1) := by decide +kernel
theorem d_Model_head_8 : decode b_Model_head 8 = .ok (.ifCond .ge 7, 3) := by decide +kernel
theorem d_Model_head_11 : decode b_Model_head 11 = .ok (.sipush (-1000), 3) := by decide +kernel
theorem d_Model_head_14 : decode b_Model_head 14 = .ok (.ireturn, 1) := by decide +kernel
theorem d_Model_head_15 : decode b_Model_head 15 = .ok (.aload_n 0, 1) := by decide +kernel
theorem d_Model_head_16 : decode b_Model_head 16 = .ok (.aload_n 0, 1) := by decide +kernel
theorem d_Model_head_17 : decode b_Model_head 17 = .ok (.getfield 45, 3) := by decide +kernel
theorem d_Model_head_20 : decode b_Model_head 20 = .ok (.iload_n 1, 1) := by decide +kernel
theorem d_Model_head_21 : decode b_Model_head 21 = .ok (.laload, 1) := by decide +kernel
theorem d_Model_head_22 : decode b_Model_head 22 = .ok (.invokevirtual 110, 3) := by decide +kernel
theorem d_Model_head_25 : decode b_Model_head 25 = .ok (.lstore_n 3, 1) := by decide +kernel
theorem d_Model_head_26 : decode b_Model_head 26 = .ok (.iconst 0, 1) := by decide +kernel
theorem d_Model_head_27 : decode b_Model_head 27 = .ok (.istore 5, 2) := by decide +kernel
theorem d_Model_head_29 : decode b_Model_head 29 = .ok (.iconst 0, 1) := by decide +kernel
theorem d_Model_head_30 : decode b_Model_head 30 = .ok (.istore 6, 2) := by decide +kernel
theorem d_Model_head_32 : decode b_Model_head 32 = .ok (.iload 6, 2) := by decide +kernel
theorem d_Model_head_34 : decode b_Model_head 34 = .ok (.iconst 3, 1) := by decide +kernel
theorem d_Model_head_35 : decode b_Model_head 35 = .ok (.if_icmp .ge 70, 3) := by decide +kernel
theorem d_Model_head_38 : decode b_Model_head 38 = .ok (.iconst 0, 1) := by decide +kernel
theorem d_Model_head_39 : decode b_Model_head 39 = .ok (.istore 7, 2) := by decide +kernel
theorem d_Model_head_41 : decode b_Model_head 41 = .ok (.iload 7, 2) := by decide +kernel
theorem d_Model_head_43 : decode b_Model_head 43 = .ok (.aload_n 0, 1) := by decide +kernel
theorem d_Model_head_44 : decode b_Model_head 44 = .ok (.getfield 86, 3) := by decide +kernel
theorem d_Model_head_47 : decode b_Model_head 47 = .ok (.if_icmp .ge 52, 3) := by decide +kernel
theorem d_Model_head_50 : decode b_Model_head 50 = .ok (.aload_n 0, 1) := by decide +kernel
theorem d_Model_head_51 : decode b_Model_head 51 = .ok (.getfield 7, 3) := by decide +kernel
theorem d_Model_head_54 : decode b_Model_head 54 = .ok (.iload 7, 2) := by decide +kernel
theorem d_Model_head_56 : decode b_Model_head 56 = .ok (.iaload, 1) := by decide +kernel
theorem d_Model_head_57 : decode b_Model_head 57 = .ok (.iload 6, 2) := by decide +kernel
theorem d_Model_head_59 : decode b_Model_head 59 = .ok (.if_icmp .ne 34, 3) := by decide +kernel
theorem d_Model_head_62 : decode b_Model_head 62 = .ok (.lload_n 3, 1) := by decide +kernel
theorem d_Model_head_63 : decode b_Model_head 63 = .ok (.iload 7, 2) := by decide +kernel
theorem d_Model_head_65 : decode b_Model_head 65 = .ok (.invokestatic 78, 3) := by decide +kernel
theorem d_Model_head_68 : decode b_Model_head 68 = .ok (.ifCond .eq 25, 3) := by decide +kernel
theorem d_Model_head_71 : decode b_Model_head 71 = .ok (.iload 5, 2) := by decide +kernel
theorem d_Model_head_73 : decode b_Model_head 73 = .ok (.iload_n 2, 1) := by decide +kernel
theorem d_Model_head_74 : decode b_Model_head 74 = .ok (.if_icmp .ne 16, 3) := by decide +kernel
theorem d_Model_head_77 : decode b_Model_head 77 = .ok (.iload 6, 2) := by decide +kernel
theorem d_Model_head_79 : decode b_Model_head 79 = .ok (.iconst 3, 1) := by decide +kernel
theorem d_Model_head_80 : decode b_Model_head 80 = .ok (.aload_n 0, 1) := by decide +kernel
theorem d_Model_head_81 : decode b_Model_head 81 = .ok (.getfield 13, 3) := by decide +kernel
theorem d_Model_head_84 : decode b_Model_head 84 = .ok (.iload 7, 2) := by decide +kernel
theorem d_Model_head_86 : decode b_Model_head 86 = .ok (.iaload, 1) := by decide +kernel
theorem d_Model_head_87 : decode b_Model_head 87 = .ok (.imul, 1) := by decide +kernel
theorem d_Model_head_88 : decode b_Model_head 88 = .ok (.iadd, 1) := by decide +kernel
theorem d_Model_head_89 : decode b_Model_head 89 = .ok (.ireturn, 1) := by decide +kernel
theorem d_Model_head_90 : decode b_Model_head 90 = .ok (.iinc 5 1, 3) := by decide +kernel
theorem d_Model_head_93 : decode b_Model_head 93 = .ok (.iinc 7 1, 3) := by decide +kernel
theorem d_Model_head_96 : decode b_Model_head 96 = .ok (.goto (-55), 3) := by decide +kernel
theorem d_Model_head_99 : decode b_Model_head 99 = .ok (.iinc 6 1, 3) := by decide +kernel
theorem d_Model_head_102 : decode b_Model_head 102 = .ok (.goto (-70), 3) := by decide +kernel
theorem d_Model_head_105 : decode b_Model_head 105 = .ok (.sipush (-1000), 3) := by decide +kernel
theorem d_Model_head_108 : decode b_Model_head 108 = .ok (.ireturn, 1) := by decide +kernel
theorem d_Model_find_0 : decode b_Model_find 0 = .ok (.iconst 0, 1) := by decide +kernel
theorem d_Model_find_1 : decode b_Model_find 1 = .ok (.istore_n 3, 1) := by decide +kernel
theorem d_Model_find_2 : decode b_Model_find 2 = .ok (.iload_n 3, 1) := by decide +kernel
theorem d_Model_find_3 : decode b_Model_find 3 = .ok (.aload_n 0, 1) := by decide +kernel
theorem d_Model_find_4 : decode b_Model_find 4 = .ok (.getfield 86, 3) := by decide +kernel
theorem d_Model_find_7 : decode b_Model_find 7 = .ok (.if_icmp .ge 31, 3) := by decide +kernel
theorem d_Model_find_10 : decode b_Model_find 10 = .ok (.aload_n 0, 1) := by decide +kernel
theorem d_Model_find_11 : decode b_Model_find 11 = .ok (.getfield 7, 3) := by decide +kernel
theorem d_Model_find_14 : decode b_Model_find 14 = .ok (.iload_n 3, 1) := by decide +kernel
theorem d_Model_find_15 : decode b_Model_find 15 = .ok (.iaload, 1) := by decide +kernel
theorem d_Model_find_16 : decode b_Model_find 16 = .ok (.iload_n 1, 1) := by decide +kernel
theorem d_Model_find_17 : decode b_Model_find 17 = .ok (.if_icmp .ne 15, 3) := by decide +kernel
theorem d_Model_find_20 : decode b_Model_find 20 = .ok (.aload_n 0, 1) := by decide +kernel
theorem d_Model_find_21 : decode b_Model_find 21 = .ok (.getfield 13, 3) := by decide +kernel
theorem d_Model_find_24 : decode b_Model_find 24 = .ok (.iload_n 3, 1) := by decide +kernel
theorem d_Model_find_25 : decode b_Model_find 25 = .ok (.iaload, 1) := by decide +kernel
theorem d_Model_find_26 : decode b_Model_find 26 = .ok (.iload_n 2, 1) := by decide +kernel
theorem d_Model_find_27 : decode b_Model_find 27 = .ok (.if_icmp .ne 5, 3) := by decide +kernel
theorem d_Model_find_30 : decode b_Model_find 30 = .ok (.iload_n 3, 1) := by decide +kernel
theorem d_Model_find_31 : decode b_Model_find 31 = .ok (.ireturn, 1) := by decide +kernel
theorem d_Model_find_32 : decode b_Model_find 32 = .ok (.iinc 3 1, 3) := by decide +kernel
theorem d_Model_find_35 : decode b_Model_find 35 = .ok (.goto (-33), 3) := by decide +kernel
theorem d_Model_find_38 : decode b_Model_find 38 = .ok (.iconst (-1), 1) := by decide +kernel
theorem d_Model_find_39 : decode b_Model_find 39 = .ok (.ireturn, 1) := by decide +kernel
theorem d_Model_ancestor_0 : decode b_Model_ancestor 0 = .ok (.aload_n 0, 1) := by decide +kernel
theorem d_Model_ancestor_1 : decode b_Model_ancestor 1 = .ok (.iload_n 1, 1) := by decide +kernel
theorem d_Model_ancestor_2 : decode b_Model_ancestor 2 = .ok (.iload_n 2, 1) := by decide +kernel
theorem d_Model_ancestor_3 : decode b_Model_ancestor 3 = .ok (.invokevirtual 199, 3) := by decide +kernel
theorem d_Model_ancestor_6 : decode b_Model_ancestor 6 = .ok (.istore 5, 2) := by decide +kernel
theorem d_Model_ancestor_8 : decode b_Model_ancestor 8 = .ok (.aload_n 0, 1) := by decide +kernel
theorem d_Model_ancestor_9 : decode b_Model_ancestor 9 = .ok (.iload_n 3, 1) := by decide +kernel
theorem d_Model_ancestor_10 : decode b_Model_ancestor 10 = .ok (.iload 4, 2) := by decide +kernel
theorem d_Model_ancestor_12 : decode b_Model_ancestor 12 = .ok (.invokevirtual 199, 3) := by decide +kernel
theorem d_Model_ancestor_15 : decode b_Model_ancestor 15 = .ok (.istore 6, 2) := by decide +kernel
theorem d_Model_ancestor_17 : decode b_Model_ancestor 17 = .ok (.iload 5, 2) := by decide +kernel
theorem d_Model_ancestor_19 : decode b_Model_ancestor 19 = .ok (.ifCond .lt 8, 3) := by decide +kernel
theorem d_Model_ancestor_22 : decode b_Model_ancestor 22 = .ok (.iload 6, 2) := by decide +kernel
theorem d_Model_ancestor_24 : decode b_Model_ancestor 24 = .ok (.ifCond .ge 7, 3) := by decide +kernel
theorem d_Model_ancestor_27 : decode b_Model_ancestor 27 = .ok (.sipush (-1000), 3) := by decide +kernel
theorem d_Model_ancestor_30 : decode b_Model_ancestor 30 = .ok (.ireturn, 1) := by decide +kernel
theorem d_Model_ancestor_31 : decode b_Model_ancestor 31 = .ok (.aload_n 0, 1) := by decide +kernel
theorem d_Model_ancestor_32 : decode b_Model_ancestor 32 = .ok (.getfield 26, 3) := by decide +kernel
theorem d_Model_ancestor_35 : decode b_Model_ancestor 35 = .ok (.iload 6, 2) := by decide +kernel
theorem d_Model_ancestor_37 : decode b_Model_ancestor 37 = .ok (.laload, 1) := by decide +kernel
theorem d_Model_ancestor_38 : decode b_Model_ancestor 38 = .ok (.iload 5, 2) := by decide +kernel
theorem d_Model_ancestor_40 : decode b_Model_ancestor 40 = .ok (.invokestatic 78, 3) := by decide +kernel
theorem d_Model_ancestor_43 : decode b_Model_ancestor 43 = .ok (.ifCond .eq 7, 3) := by decide +kernel
theorem d_Model_ancestor_46 : decode b_Model_ancestor 46 = .ok (.iconst 1, 1) := by decide +kernel
theorem d_Model_ancestor_47 : decode b_Model_ancestor 47 = .ok (.goto 4, 3) := by decide +kernel
theorem d_Model_ancestor_50 : decode b_Model_ancestor 50 = .ok (.iconst 0, 1) := by decide +kernel
theorem d_Model_ancestor_51 : decode b_Model_ancestor 51 = .ok (.ireturn, 1) := by decide +kernel
theorem d_Model_critical_0 : decode b_Model_critical 0 = .ok (.iload_n 1, 1) := by decide +kernel
theorem d_Model_critical_1 : decode b_Model_critical 1 = .ok (.invokestatic 82, 3) := by decide +kernel
theorem d_Model_critical_4 : decode b_Model_critical 4 = .ok (.ifCond .eq 7, 3) := by decide +kernel
theorem d_Model_critical_7 : decode b_Model_critical 7 = .ok (.sipush (-1000), 3) := by decide +kernel
theorem d_Model_critical_10 : decode b_Model_critical 10 = .ok (.ireturn, 1) := by decide +kernel
theorem d_Model_critical_11 : decode b_Model_critical 11 = .ok (.aload_n 0, 1) := by decide +kernel
theorem d_Model_critical_12 : decode b_Model_critical 12 = .ok (.aload_n 0, 1) := by decide +kernel
theorem d_Model_critical_13 : decode b_Model_critical 13 = .ok (.getfield 45, 3) := by decide +kernel
theorem d_Model_critical_16 : decode b_Model_critical 16 = .ok (.iload_n 1, 1) := by decide +kernel
theorem d_Model_critical_17 : decode b_Model_critical 17 = .ok (.laload, 1) := by decide +kernel
theorem d_Model_critical_18 : decode b_Model_critical 18 = .ok (.aload_n 0, 1) := by decide +kernel
theorem d_Model_critical_19 : decode b_Model_critical 19 = .ok (.getfield 45, 3) := by decide +kernel
theorem d_Model_critical_22 : decode b_Model_critical 22 = .ok (.iload_n 1, 1) := by decide +kernel
theorem d_Model_critical_23 : decode b_Model_critical 23 = .ok (.laload, 1) := by decide +kernel
theorem d_Model_critical_24 : decode b_Model_critical 24 = .ok (.invokevirtual 170, 3) := by decide +kernel
theorem d_Model_critical_27 : decode b_Model_critical 27 = .ok (.istore_n 2, 1) := by decide +kernel
theorem d_Model_critical_28 : decode b_Model_critical 28 = .ok (.iload_n 2, 1) := by decide +kernel
theorem d_Model_critical_29 : decode b_Model_critical 29 = .ok (.ifCond .ge 7, 3) := by decide +kernel
theorem d_Model_critical_32 : decode b_Model_critical 32 = .ok (.iconst 0, 1) := by decide +kernel
theorem d_Model_critical_33 : decode b_Model_critical 33 = .ok (.goto 14, 3) := by decide +kernel
theorem d_Model_critical_36 : decode b_Model_critical 36 = .ok (.iconst 1, 1) := by decide +kernel
theorem d_Model_critical_37 : decode b_Model_critical 37 = .ok (.aload_n 0, 1) := by decide +kernel
theorem d_Model_critical_38 : decode b_Model_critical 38 = .ok (.getfield 26, 3) := by decide +kernel
theorem d_Model_critical_41 : decode b_Model_critical 41 = .ok (.iload_n 2, 1) := by decide +kernel
theorem d_Model_critical_42 : decode b_Model_critical 42 = .ok (.laload, 1) := by decide +kernel
theorem d_Model_critical_43 : decode b_Model_critical 43 = .ok (.invokestatic 159, 3) := by decide +kernel
theorem d_Model_critical_46 : decode b_Model_critical 46 = .ok (.iadd, 1) := by decide +kernel
theorem d_Model_critical_47 : decode b_Model_critical 47 = .ok (.ireturn, 1) := by decide +kernel
theorem d_Model_replayed_0 : decode b_Model_replayed 0 = .ok (.iload_n 1, 1) := by decide +kernel
theorem d_Model_replayed_1 : decode b_Model_replayed 1 = .ok (.invokestatic 82, 3) := by decide +kernel
theorem d_Model_replayed_4 : decode b_Model_replayed 4 = .ok (.ifCond .eq 9, 3) := by decide +kernel
theorem d_Model_replayed_7 : decode b_Model_replayed 7 = .ok (.sipush (-1000), 3) := by decide +kernel
theorem d_Model_replayed_10 : decode b_Model_replayed 10 = .ok (.goto 9, 3) := by decide +kernel
theorem d_Model_replayed_13 : decode b_Model_replayed 13 = .ok (.aload_n 0, 1) := by decide +kernel
theorem d_Model_replayed_14 : decode b_Model_replayed 14 = .ok (.getfield 60, 3) := by decide +kernel
theorem d_Model_replayed_17 : decode b_Model_replayed 17 = .ok (.iload_n 1, 1) := by decide +kernel
theorem d_Model_replayed_18 : decode b_Model_replayed 18 = .ok (.iaload, 1) := by decide +kernel
theorem d_Model_replayed_19 : decode b_Model_replayed 19 = .ok (.ireturn, 1) := by decide +kernel
theorem d_Model_moves_0 : decode b_Model_moves 0 = .ok (.iload_n 1, 1) := by decide +kernel
theorem d_Model_moves_1 : decode b_Model_moves 1 = .ok (.invokestatic 82, 3) := by decide +kernel
theorem d_Model_moves_4 : decode b_Model_moves 4 = .ok (.ifCond .eq 9, 3) := by decide +kernel
theorem d_Model_moves_7 : decode b_Model_moves 7 = .ok (.sipush (-1000), 3) := by decide +kernel
theorem d_Model_moves_10 : decode b_Model_moves 10 = .ok (.goto 9, 3) := by decide +kernel
theorem d_Model_moves_13 : decode b_Model_moves 13 = .ok (.aload_n 0, 1) := by decide +kernel
theorem d_Model_moves_14 : decode b_Model_moves 14 = .ok (.getfield 63, 3) := by decide +kernel
theorem d_Model_moves_17 : decode b_Model_moves 17 = .ok (.iload_n 1, 1) := by decide +kernel
theorem d_Model_moves_18 : decode b_Model_moves 18 = .ok (.iaload, 1) := by decide +kernel
theorem d_Model_moves_19 : decode b_Model_moves 19 = .ok (.ireturn, 1) := by decide +kernel
theorem d_Model_operation_0 : decode b_Model_operation 0 = .ok (.iload_n 1, 1) := by decide +kernel
theorem d_Model_operation_1 : decode b_Model_operation 1 = .ok (.invokestatic 82, 3) := by decide +kernel
theorem d_Model_operation_4 : decode b_Model_operation 4 = .ok (.ifCond .ne 17, 3) := by decide +kernel
theorem d_Model_operation_7 : decode b_Model_operation 7 = .ok (.iload_n 2, 1) := by decide +kernel
theorem d_Model_operation_8 : decode b_Model_operation 8 = .ok (.ifCond .lt 13, 3) := by decide +kernel
theorem d_Model_operation_11 : decode b_Model_operation 11 = .ok (.iload_n 2, 1) := by decide +kernel
theorem d_Model_operation_12 : decode b_Model_operation 12 = .ok (.aload_n 0, 1) := by decide +kernel
theorem d_Model_operation_13 : decode b_Model_operation 13 = .ok (.getfield 66, 3) := by decide +kernel
theorem d_Model_operation_16 : decode b_Model_operation 16 = .ok (.iload_n 1, 1) := by decide +kernel
theorem d_Model_operation_17 : decode b_Model_operation 17 = .ok (.iaload, 1) := by decide +kernel
theorem d_Model_operation_18 : decode b_Model_operation 18 = .ok (.if_icmp .lt 9, 3) := by decide +kernel
theorem d_Model_operation_21 : decode b_Model_operation 21 = .ok (.sipush (-1000), 3) := by decide +kernel
theorem d_Model_operation_24 : decode b_Model_operation 24 = .ok (.goto 14, 3) := by decide +kernel
theorem d_Model_operation_27 : decode b_Model_operation 27 = .ok (.aload_n 0, 1) := by decide +kernel
theorem d_Model_operation_28 : decode b_Model_operation 28 = .ok (.getfield 69, 3) := by decide +kernel
theorem d_Model_operation_31 : decode b_Model_operation 31 = .ok (.bipush 40, 2) := by decide +kernel
theorem d_Model_operation_33 : decode b_Model_operation 33 = .ok (.iload_n 1, 1) := by decide +kernel
theorem d_Model_operation_34 : decode b_Model_operation 34 = .ok (.imul, 1) := by decide +kernel
theorem d_Model_operation_35 : decode b_Model_operation 35 = .ok (.iload_n 2, 1) := by decide +kernel
theorem d_Model_operation_36 : decode b_Model_operation 36 = .ok (.iadd, 1) := by decide +kernel
theorem d_Model_operation_37 : decode b_Model_operation 37 = .ok (.iaload, 1) := by decide +kernel
theorem d_Model_operation_38 : decode b_Model_operation 38 = .ok (.ireturn, 1) := by decide +kernel
theorem d_Text_init_0 : decode b_Text_init 0 = .ok (.aload_n 0, 1) := by decide +kernel
theorem d_Text_init_1 : decode b_Text_init 1 = .ok (.invokespecial 1, 3) := by decide +kernel
theorem d_Text_init_4 : decode b_Text_init 4 = .ok (.aload_n 0, 1) := by decide +kernel
theorem d_Text_init_5 : decode b_Text_init 5 = .ok (.new 7, 3) := by decide +kernel
theorem d_Text_init_8 : decode b_Text_init 8 = .ok (.dup, 1) := by decide +kernel
theorem d_Text_init_9 : decode b_Text_init 9 = .ok (.invokespecial 9, 3) := by decide +kernel
theorem d_Text_init_12 : decode b_Text_init 12 = .ok (.putfield 10, 3) := by decide +kernel
theorem d_Text_init_15 : decode b_Text_init 15 = .ok (.aload_n 0, 1) := by decide +kernel
theorem d_Text_init_16 : decode b_Text_init 16 = .ok (.new 16, 3) := by decide +kernel
theorem d_Text_init_19 : decode b_Text_init 19 = .ok (.dup, 1) := by decide +kernel
theorem d_Text_init_20 : decode b_Text_init 20 = .ok (.invokespecial 18, 3) := by decide +kernel
theorem d_Text_init_23 : decode b_Text_init 23 = .ok (.putfield 19, 3) := by decide +kernel
theorem d_Text_init_26 : decode b_Text_init 26 = .ok (.aload_n 0, 1) := by decide +kernel
end
section
theorem d_Text_init_27 : decode b_Text_init 27 = .ok (.new 23, 3) := by decide +kernel
theorem d_Text_init_30 : decode b_Text_init 30 = .ok (.dup, 1) := by decide +kernel
theorem d_Text_init_31 : decode b_Text_init 31 = .ok (.invokespecial 25, 3) := by decide +kernel
theorem d_Text_init_34 : decode b_Text_init 34 = .ok (.putfield 26, 3) := by decide +kernel
theorem d_Text_init_37 : decode b_Text_init 37 = .ok (.aload_n 0, 1) := by decide +kernel
theorem d_Text_init_38 : decode b_Text_init 38 = .ok (.iconst 3, 1) := by decide +kernel
theorem d_Text_init_39 : decode b_Text_init 39 = .ok (.anewarray 30, 3) := by decide +kernel
theorem d_Text_init_42 : decode b_Text_init 42 = .ok (.putfield 32, 3) := by decide +kernel
theorem d_Text_init_45 : decode b_Text_init 45 = .ok (.iconst 0, 1) := by decide +kernel
theorem d_Text_init_46 : decode b_Text_init 46 = .ok (.istore_n 1, 1) := by decide +kernel
theorem d_Text_init_47 : decode b_Text_init 47 = .ok (.iload_n 1, 1) := by decide +kernel
theorem d_Text_init_48 : decode b_Text_init 48 = .ok (.iconst 3, 1) := by decide +kernel
theorem d_Text_init_49 : decode b_Text_init 49 = .ok (.if_icmp .ge 22, 3) := by decide +kernel
theorem d_Text_init_52 : decode b_Text_init 52 = .ok (.aload_n 0, 1) := by decide +kernel
theorem d_Text_init_53 : decode b_Text_init 53 = .ok (.getfield 32, 3) := by decide +kernel
theorem d_Text_init_56 : decode b_Text_init 56 = .ok (.iload_n 1, 1) := by decide +kernel
theorem d_Text_init_57 : decode b_Text_init 57 = .ok (.new 30, 3) := by decide +kernel
theorem d_Text_init_60 : decode b_Text_init 60 = .ok (.dup, 1) := by decide +kernel
theorem d_Text_init_61 : decode b_Text_init 61 = .ok (.invokespecial 36, 3) := by decide +kernel
theorem d_Text_init_64 : decode b_Text_init 64 = .ok (.aastore, 1) := by decide +kernel
theorem d_Text_init_65 : decode b_Text_init 65 = .ok (.iinc 1 1, 3) := by decide +kernel
theorem d_Text_init_68 : decode b_Text_init 68 = .ok (.goto (-21), 3) := by decide +kernel
theorem d_Text_init_71 : decode b_Text_init 71 = .ok (.aload_n 0, 1) := by decide +kernel
theorem d_Text_init_72 : decode b_Text_init 72 = .ok (.bipush 6, 2) := by decide +kernel
theorem d_Text_init_74 : decode b_Text_init 74 = .ok (.anewarray 37, 3) := by decide +kernel
theorem d_Text_init_77 : decode b_Text_init 77 = .ok (.putfield 39, 3) := by decide +kernel
theorem d_Text_init_80 : decode b_Text_init 80 = .ok (.iconst 0, 1) := by decide +kernel
theorem d_Text_init_81 : decode b_Text_init 81 = .ok (.istore_n 1, 1) := by decide +kernel
theorem d_Text_init_82 : decode b_Text_init 82 = .ok (.iload_n 1, 1) := by decide +kernel
theorem d_Text_init_83 : decode b_Text_init 83 = .ok (.bipush 6, 2) := by decide +kernel
theorem d_Text_init_85 : decode b_Text_init 85 = .ok (.if_icmp .ge 22, 3) := by decide +kernel
theorem d_Text_init_88 : decode b_Text_init 88 = .ok (.aload_n 0, 1) := by decide +kernel
theorem d_Text_init_89 : decode b_Text_init 89 = .ok (.getfield 39, 3) := by decide +kernel
theorem d_Text_init_92 : decode b_Text_init 92 = .ok (.iload_n 1, 1) := by decide +kernel
theorem d_Text_init_93 : decode b_Text_init 93 = .ok (.new 37, 3) := by decide +kernel
theorem d_Text_init_96 : decode b_Text_init 96 = .ok (.dup, 1) := by decide +kernel
theorem d_Text_init_97 : decode b_Text_init 97 = .ok (.invokespecial 43, 3) := by decide +kernel
theorem d_Text_init_100 : decode b_Text_init 100 = .ok (.aastore, 1) := by decide +kernel
theorem d_Text_init_101 : decode b_Text_init 101 = .ok (.iinc 1 1, 3) := by decide +kernel
theorem d_Text_init_104 : decode b_Text_init 104 = .ok (.goto (-22), 3) := by decide +kernel
theorem d_Text_init_107 : decode b_Text_init 107 = .ok (.return_, 1) := by decide +kernel
theorem d_Model_init_0 : decode b_Model_init 0 = .ok (.aload_n 0, 1) := by decide +kernel
theorem d_Model_init_1 : decode b_Model_init 1 = .ok (.invokespecial 1, 3) := by decide +kernel
theorem d_Model_init_4 : decode b_Model_init 4 = .ok (.aload_n 0, 1) := by decide +kernel
theorem d_Model_init_5 : decode b_Model_init 5 = .ok (.bipush 40, 2) := by decide +kernel
theorem d_Model_init_7 : decode b_Model_init 7 = .ok (.newarray .int, 2) := by decide +kernel
theorem d_Model_init_9 : decode b_Model_init 9 = .ok (.putfield 7, 3) := by decide +kernel
theorem d_Model_init_12 : decode b_Model_init 12 = .ok (.aload_n 0, 1) := by decide +kernel
theorem d_Model_init_13 : decode b_Model_init 13 = .ok (.bipush 40, 2) := by decide +kernel
theorem d_Model_init_15 : decode b_Model_init 15 = .ok (.newarray .int, 2) := by decide +kernel
theorem d_Model_init_17 : decode b_Model_init 17 = .ok (.putfield 13, 3) := by decide +kernel
theorem d_Model_init_20 : decode b_Model_init 20 = .ok (.aload_n 0, 1) := by decide +kernel
theorem d_Model_init_21 : decode b_Model_init 21 = .ok (.bipush 40, 2) := by decide +kernel
theorem d_Model_init_23 : decode b_Model_init 23 = .ok (.newarray .boolean, 2) := by decide +kernel
theorem d_Model_init_25 : decode b_Model_init 25 = .ok (.putfield 16, 3) := by decide +kernel
theorem d_Model_init_28 : decode b_Model_init 28 = .ok (.aload_n 0, 1) := by decide +kernel
theorem d_Model_init_29 : decode b_Model_init 29 = .ok (.bipush 40, 2) := by decide +kernel
theorem d_Model_init_31 : decode b_Model_init 31 = .ok (.newarray .int, 2) := by decide +kernel
theorem d_Model_init_33 : decode b_Model_init 33 = .ok (.putfield 20, 3) := by decide +kernel
theorem d_Model_init_36 : decode b_Model_init 36 = .ok (.aload_n 0, 1) := by decide +kernel
theorem d_Model_init_37 : decode b_Model_init 37 = .ok (.bipush 40, 2) := by decide +kernel
theorem d_Model_init_39 : decode b_Model_init 39 = .ok (.newarray .int, 2) := by decide +kernel
theorem d_Model_init_41 : decode b_Model_init 41 = .ok (.putfield 23, 3) := by decide +kernel
theorem d_Model_init_44 : decode b_Model_init 44 = .ok (.aload_n 0, 1) := by decide +kernel
theorem d_Model_init_45 : decode b_Model_init 45 = .ok (.bipush 40, 2) := by decide +kernel
theorem d_Model_init_47 : decode b_Model_init 47 = .ok (.newarray .long, 2) := by decide +kernel
theorem d_Model_init_49 : decode b_Model_init 49 = .ok (.putfield 26, 3) := by decide +kernel
theorem d_Model_init_52 : decode b_Model_init 52 = .ok (.aload_n 0, 1) := by decide +kernel
theorem d_Model_init_53 : decode b_Model_init 53 = .ok (.bipush 40, 2) := by decide +kernel
theorem d_Model_init_55 : decode b_Model_init 55 = .ok (.newarray .long, 2) := by decide +kernel
theorem d_Model_init_57 : decode b_Model_init 57 = .ok (.putfield 30, 3) := by decide +kernel
theorem d_Model_init_60 : decode b_Model_init 60 = .ok (.aload_n 0, 1) := by decide +kernel
theorem d_Model_init_61 : decode b_Model_init 61 = .ok (.bipush 41, 2) := by decide +kernel
theorem d_Model_init_63 : decode b_Model_init 63 = .ok (.newarray .int, 2) := by decide +kernel
theorem d_Model_init_65 : decode b_Model_init 65 = .ok (.putfield 33, 3) := by decide +kernel
theorem d_Model_init_68 : decode b_Model_init 68 = .ok (.aload_n 0, 1) := by decide +kernel
theorem d_Model_init_69 : decode b_Model_init 69 = .ok (.bipush 41, 2) := by decide +kernel
theorem d_Model_init_71 : decode b_Model_init 71 = .ok (.newarray .boolean, 2) := by decide +kernel
theorem d_Model_init_73 : decode b_Model_init 73 = .ok (.putfield 36, 3) := by decide +kernel
theorem d_Model_init_76 : decode b_Model_init 76 = .ok (.aload_n 0, 1) := by decide +kernel
theorem d_Model_init_77 : decode b_Model_init 77 = .ok (.bipush 41, 2) := by decide +kernel
theorem d_Model_init_79 : decode b_Model_init 79 = .ok (.newarray .int, 2) := by decide +kernel
theorem d_Model_init_81 : decode b_Model_init 81 = .ok (.putfield 39, 3) := by decide +kernel
theorem d_Model_init_84 : decode b_Model_init 84 = .ok (.aload_n 0, 1) := by decide +kernel
theorem d_Model_init_85 : decode b_Model_init 85 = .ok (.bipush 40, 2) := by decide +kernel
theorem d_Model_init_87 : decode b_Model_init 87 = .ok (.newarray .int, 2) := by decide +kernel
theorem d_Model_init_89 : decode b_Model_init 89 = .ok (.putfield 42, 3) := by decide +kernel
theorem d_Model_init_92 : decode b_Model_init 92 = .ok (.aload_n 0, 1) := by decide +kernel
theorem d_Model_init_93 : decode b_Model_init 93 = .ok (.iconst 3, 1) := by decide +kernel
theorem d_Model_init_94 : decode b_Model_init 94 = .ok (.newarray .long, 2) := by decide +kernel
theorem d_Model_init_96 : decode b_Model_init 96 = .ok (.putfield 45, 3) := by decide +kernel
theorem d_Model_init_99 : decode b_Model_init 99 = .ok (.aload_n 0, 1) := by decide +kernel
theorem d_Model_init_100 : decode b_Model_init 100 = .ok (.bipush 9, 2) := by decide +kernel
theorem d_Model_init_102 : decode b_Model_init 102 = .ok (.newarray .long, 2) := by decide +kernel
theorem d_Model_init_104 : decode b_Model_init 104 = .ok (.putfield 48, 3) := by decide +kernel
theorem d_Model_init_107 : decode b_Model_init 107 = .ok (.aload_n 0, 1) := by decide +kernel
theorem d_Model_init_108 : decode b_Model_init 108 = .ok (.bipush 6, 2) := by decide +kernel
theorem d_Model_init_110 : decode b_Model_init 110 = .ok (.newarray .long, 2) := by decide +kernel
theorem d_Model_init_112 : decode b_Model_init 112 = .ok (.putfield 51, 3) := by decide +kernel
theorem d_Model_init_115 : decode b_Model_init 115 = .ok (.aload_n 0, 1) := by decide +kernel
theorem d_Model_init_116 : decode b_Model_init 116 = .ok (.bipush 6, 2) := by decide +kernel
theorem d_Model_init_118 : decode b_Model_init 118 = .ok (.newarray .int, 2) := by decide +kernel
theorem d_Model_init_120 : decode b_Model_init 120 = .ok (.putfield 54, 3) := by decide +kernel
theorem d_Model_init_123 : decode b_Model_init 123 = .ok (.aload_n 0, 1) := by decide +kernel
theorem d_Model_init_124 : decode b_Model_init 124 = .ok (.bipush 6, 2) := by decide +kernel
theorem d_Model_init_126 : decode b_Model_init 126 = .ok (.newarray .int, 2) := by decide +kernel
theorem d_Model_init_128 : decode b_Model_init 128 = .ok (.putfield 57, 3) := by decide +kernel
theorem d_Model_init_131 : decode b_Model_init 131 = .ok (.aload_n 0, 1) := by decide +kernel
theorem d_Model_init_132 : decode b_Model_init 132 = .ok (.iconst 3, 1) := by decide +kernel
theorem d_Model_init_133 : decode b_Model_init 133 = .ok (.newarray .int, 2) := by decide +kernel
theorem d_Model_init_135 : decode b_Model_init 135 = .ok (.putfield 60, 3) := by decide +kernel
theorem d_Model_init_138 : decode b_Model_init 138 = .ok (.aload_n 0, 1) := by decide +kernel
theorem d_Model_init_139 : decode b_Model_init 139 = .ok (.iconst 3, 1) := by decide +kernel
theorem d_Model_init_140 : decode b_Model_init 140 = .ok (.newarray .int, 2) := by decide +kernel
theorem d_Model_init_142 : decode b_Model_init 142 = .ok (.putfield 63, 3) := by decide +kernel
theorem d_Model_init_145 : decode b_Model_init 145 = .ok (.aload_n 0, 1) := by decide +kernel
theorem d_Model_init_146 : decode b_Model_init 146 = .ok (.iconst 3, 1) := by decide +kernel
theorem d_Model_init_147 : decode b_Model_init 147 = .ok (.newarray .int, 2) := by decide +kernel
theorem d_Model_init_149 : decode b_Model_init 149 = .ok (.putfield 66, 3) := by decide +kernel
theorem d_Model_init_152 : decode b_Model_init 152 = .ok (.aload_n 0, 1) := by decide +kernel
theorem d_Model_init_153 : decode b_Model_init 153 = .ok (.bipush 120, 2) := by decide +kernel
theorem d_Model_init_155 : decode b_Model_init 155 = .ok (.newarray .int, 2) := by decide +kernel
theorem d_Model_init_157 : decode b_Model_init 157 = .ok (.putfield 69, 3) := by decide +kernel
theorem d_Model_init_160 : decode b_Model_init 160 = .ok (.aload_n 0, 1) := by decide +kernel
theorem d_Model_init_161 : decode b_Model_init 161 = .ok (.bipush 40, 2) := by decide +kernel
theorem d_Model_init_163 : decode b_Model_init 163 = .ok (.newarray .int, 2) := by decide +kernel
theorem d_Model_init_165 : decode b_Model_init 165 = .ok (.putfield 72, 3) := by decide +kernel
theorem d_Model_init_168 : decode b_Model_init 168 = .ok (.aload_n 0, 1) := by decide +kernel
theorem d_Model_init_169 : decode b_Model_init 169 = .ok (.sipush 460, 3) := by decide +kernel
theorem d_Model_init_172 : decode b_Model_init 172 = .ok (.newarray .int, 2) := by decide +kernel
theorem d_Model_init_174 : decode b_Model_init 174 = .ok (.putfield 75, 3) := by decide +kernel
theorem d_Model_init_177 : decode b_Model_init 177 = .ok (.return_, 1) := by decide +kernel
theorem d_CharacterList_init_0 : decode b_CharacterList_init 0 = .ok (.aload_n 0, 1) := by decide +kernel
theorem d_CharacterList_init_1 : decode b_CharacterList_init 1 = .ok (.invokespecial 3, 3) := by decide +kernel
theorem d_CharacterList_init_4 : decode b_CharacterList_init 4 = .ok (.aload_n 0, 1) := by decide +kernel
theorem d_CharacterList_init_5 : decode b_CharacterList_init 5 = .ok (.bipush 40, 2) := by decide +kernel
theorem d_CharacterList_init_7 : decode b_CharacterList_init 7 = .ok (.newarray .int, 2) := by decide +kernel
theorem d_CharacterList_init_9 : decode b_CharacterList_init 9 = .ok (.putfield 9, 3) := by decide +kernel
theorem d_CharacterList_init_12 : decode b_CharacterList_init 12 = .ok (.aload_n 0, 1) := by decide +kernel
theorem d_CharacterList_init_13 : decode b_CharacterList_init 13 = .ok (.bipush 40, 2) := by decide +kernel
theorem d_CharacterList_init_15 : decode b_CharacterList_init 15 = .ok (.newarray .int, 2) := by decide +kernel
theorem d_CharacterList_init_17 : decode b_CharacterList_init 17 = .ok (.putfield 15, 3) := by decide +kernel
theorem d_CharacterList_init_20 : decode b_CharacterList_init 20 = .ok (.aload_n 0, 1) := by decide +kernel
theorem d_CharacterList_init_21 : decode b_CharacterList_init 21 = .ok (.bipush 40, 2) := by decide +kernel
theorem d_CharacterList_init_23 : decode b_CharacterList_init 23 = .ok (.newarray .boolean, 2) := by decide +kernel
theorem d_CharacterList_init_25 : decode b_CharacterList_init 25 = .ok (.putfield 18, 3) := by decide +kernel
theorem d_CharacterList_init_28 : decode b_CharacterList_init 28 = .ok (.aload_n 0, 1) := by decide +kernel
theorem d_CharacterList_init_29 : decode b_CharacterList_init 29 = .ok (.bipush 40, 2) := by decide +kernel
theorem d_CharacterList_init_31 : decode b_CharacterList_init 31 = .ok (.newarray .long, 2) := by decide +kernel
theorem d_CharacterList_init_33 : decode b_CharacterList_init 33 = .ok (.putfield 22, 3) := by decide +kernel
theorem d_CharacterList_init_36 : decode b_CharacterList_init 36 = .ok (.aload_n 0, 1) := by decide +kernel
theorem d_CharacterList_init_37 : decode b_CharacterList_init 37 = .ok (.bipush 40, 2) := by decide +kernel
theorem d_CharacterList_init_39 : decode b_CharacterList_init 39 = .ok (.newarray .int, 2) := by decide +kernel
theorem d_CharacterList_init_41 : decode b_CharacterList_init 41 = .ok (.putfield 26, 3) := by decide +kernel
theorem d_CharacterList_init_44 : decode b_CharacterList_init 44 = .ok (.aload_n 0, 1) := by decide +kernel
theorem d_CharacterList_init_45 : decode b_CharacterList_init 45 = .ok (.lconst 0, 1) := by decide +kernel
theorem d_CharacterList_init_46 : decode b_CharacterList_init 46 = .ok (.putfield 29, 3) := by decide +kernel
theorem d_CharacterList_init_49 : decode b_CharacterList_init 49 = .ok (.aload_n 0, 1) := by decide +kernel
theorem d_CharacterList_init_50 : decode b_CharacterList_init 50 = .ok (.lconst 0, 1) := by decide +kernel
theorem d_CharacterList_init_51 : decode b_CharacterList_init 51 = .ok (.putfield 33, 3) := by decide +kernel
theorem d_CharacterList_init_54 : decode b_CharacterList_init 54 = .ok (.aload_n 0, 1) := by decide +kernel
theorem d_CharacterList_init_55 : decode b_CharacterList_init 55 = .ok (.iconst 0, 1) := by decide +kernel
theorem d_CharacterList_init_56 : decode b_CharacterList_init 56 = .ok (.putfield 36, 3) := by decide +kernel
theorem d_CharacterList_init_59 : decode b_CharacterList_init 59 = .ok (.return_, 1) := by decide +kernel
theorem d_History_init_0 : decode b_History_init 0 = .ok (.aload_n 0, 1) := by decide +kernel
theorem d_History_init_1 : decode b_History_init 1 = .ok (.invokespecial 3, 3) := by decide +kernel
theorem d_History_init_4 : decode b_History_init 4 = .ok (.aload_n 0, 1) := by decide +kernel
theorem d_History_init_5 : decode b_History_init 5 = .ok (.bipush 40, 2) := by decide +kernel
theorem d_History_init_7 : decode b_History_init 7 = .ok (.newarray .int, 2) := by decide +kernel
theorem d_History_init_9 : decode b_History_init 9 = .ok (.putfield 9, 3) := by decide +kernel
theorem d_History_init_12 : decode b_History_init 12 = .ok (.aload_n 0, 1) := by decide +kernel
theorem d_History_init_13 : decode b_History_init 13 = .ok (.bipush 40, 2) := by decide +kernel
theorem d_History_init_15 : decode b_History_init 15 = .ok (.newarray .int, 2) := by decide +kernel
theorem d_History_init_17 : decode b_History_init 17 = .ok (.putfield 15, 3) := by decide +kernel
theorem d_History_init_20 : decode b_History_init 20 = .ok (.aload_n 0, 1) := by decide +kernel
theorem d_History_init_21 : decode b_History_init 21 = .ok (.bipush 40, 2) := by decide +kernel
theorem d_History_init_23 : decode b_History_init 23 = .ok (.newarray .int, 2) := by decide +kernel
theorem d_History_init_25 : decode b_History_init 25 = .ok (.putfield 18, 3) := by decide +kernel
theorem d_History_init_28 : decode b_History_init 28 = .ok (.aload_n 0, 1) := by decide +kernel
theorem d_History_init_29 : decode b_History_init 29 = .ok (.bipush 40, 2) := by decide +kernel
theorem d_History_init_31 : decode b_History_init 31 = .ok (.newarray .int, 2) := by decide +kernel
theorem d_History_init_33 : decode b_History_init 33 = .ok (.putfield 21, 3) := by decide +kernel
theorem d_History_init_36 : decode b_History_init 36 = .ok (.aload_n 0, 1) := by decide +kernel
theorem d_History_init_37 : decode b_History_init 37 = .ok (.bipush 40, 2) := by decide +kernel
theorem d_History_init_39 : decode b_History_init 39 = .ok (.newarray .long, 2) := by decide +kernel
theorem d_History_init_41 : decode b_History_init 41 = .ok (.putfield 24, 3) := by decide +kernel
theorem d_History_init_44 : decode b_History_init 44 = .ok (.aload_n 0, 1) := by decide +kernel
theorem d_History_init_45 : decode b_History_init 45 = .ok (.bipush 40, 2) := by decide +kernel
theorem d_History_init_47 : decode b_History_init 47 = .ok (.newarray .long, 2) := by decide +kernel
theorem d_History_init_49 : decode b_History_init 49 = .ok (.putfield 28, 3) := by decide +kernel
theorem d_History_init_52 : decode b_History_init 52 = .ok (.aload_n 0, 1) := by decide +kernel
theorem d_History_init_53 : decode b_History_init 53 = .ok (.bipush 120, 2) := by decide +kernel
theorem d_History_init_55 : decode b_History_init 55 = .ok (.newarray .int, 2) := by decide +kernel
theorem d_History_init_57 : decode b_History_init 57 = .ok (.putfield 31, 3) := by decide +kernel
theorem d_History_init_60 : decode b_History_init 60 = .ok (.aload_n 0, 1) := by decide +kernel
theorem d_History_init_61 : decode b_History_init 61 = .ok (.iconst 3, 1) := by decide +kernel
theorem d_History_init_62 : decode b_History_init 62 = .ok (.newarray .int, 2) := by decide +kernel
theorem d_History_init_64 : decode b_History_init 64 = .ok (.putfield 34, 3) := by decide +kernel
theorem d_History_init_67 : decode b_History_init 67 = .ok (.aload_n 0, 1) := by decide +kernel
theorem d_History_init_68 : decode b_History_init 68 = .ok (.iconst 0, 1) := by decide +kernel
theorem d_History_init_69 : decode b_History_init 69 = .ok (.putfield 37, 3) := by decide +kernel
theorem d_History_init_72 : decode b_History_init 72 = .ok (.return_, 1) := by decide +kernel
theorem d_Line_init_0 : decode b_Line_init 0 = .ok (.aload_n 0, 1) := by decide +kernel
theorem d_Line_init_1 : decode b_Line_init 1 = .ok (.invokespecial 3, 3) := by decide +kernel
theorem d_Line_init_4 : decode b_Line_init 4 = .ok (.aload_n 0, 1) := by decide +kernel
theorem d_Line_init_5 : decode b_Line_init 5 = .ok (.bipush 40, 2) := by decide +kernel
theorem d_Line_init_7 : decode b_Line_init 7 = .ok (.newarray .int, 2) := by decide +kernel
theorem d_Line_init_9 : decode b_Line_init 9 = .ok (.putfield 9, 3) := by decide +kernel
theorem d_Line_init_12 : decode b_Line_init 12 = .ok (.aload_n 0, 1) := by decide +kernel
theorem d_Line_init_13 : decode b_Line_init 13 = .ok (.iconst 0, 1) := by decide +kernel
theorem d_Line_init_14 : decode b_Line_init 14 = .ok (.putfield 15, 3) := by decide +kernel
theorem d_Line_init_17 : decode b_Line_init 17 = .ok (.return_, 1) := by decide +kernel
theorem d_Merge_init_0 : decode b_Merge_init 0 = .ok (.aload_n 0, 1) := by decide +kernel
theorem d_Merge_init_1 : decode b_Merge_init 1 = .ok (.invokespecial 3, 3) := by decide +kernel
theorem d_Merge_init_4 : decode b_Merge_init 4 = .ok (.aload_n 0, 1) := by decide +kernel
theorem d_Merge_init_5 : decode b_Merge_init 5 = .ok (.bipush 40, 2) := by decide +kernel
theorem d_Merge_init_7 : decode b_Merge_init 7 = .ok (.newarray .int, 2) := by decide +kernel
theorem d_Merge_init_9 : decode b_Merge_init 9 = .ok (.putfield 9, 3) := by decide +kernel
theorem d_Merge_init_12 : decode b_Merge_init 12 = .ok (.aload_n 0, 1) := by decide +kernel
theorem d_Merge_init_13 : decode b_Merge_init 13 = .ok (.iconst 0, 1) := by decide +kernel
theorem d_Merge_init_14 : decode b_Merge_init 14 = .ok (.putfield 15, 3) := by decide +kernel
theorem d_Merge_init_17 : decode b_Merge_init 17 = .ok (.aload_n 0, 1) := by decide +kernel
theorem d_Merge_init_18 : decode b_Merge_init 18 = .ok (.iconst 0, 1) := by decide +kernel
theorem d_Merge_init_19 : decode b_Merge_init 19 = .ok (.putfield 19, 3) := by decide +kernel
theorem d_Merge_init_22 : decode b_Merge_init 22 = .ok (.aload_n 0, 1) := by decide +kernel
theorem d_Merge_init_23 : decode b_Merge_init 23 = .ok (.iconst 0, 1) := by decide +kernel
theorem d_Merge_init_24 : decode b_Merge_init 24 = .ok (.putfield 22, 3) := by decide +kernel
theorem d_Merge_init_27 : decode b_Merge_init 27 = .ok (.return_, 1) := by decide +kernel
theorem d_Message_init_0 : decode b_Message_init 0 = .ok (.aload_n 0, 1) := by decide +kernel
theorem d_Message_init_1 : decode b_Message_init 1 = .ok (.invokespecial 3, 3) := by decide +kernel
theorem d_Message_init_4 : decode b_Message_init 4 = .ok (.aload_n 0, 1) := by decide +kernel
theorem d_Message_init_5 : decode b_Message_init 5 = .ok (.new 9, 3) := by decide +kernel
theorem d_Message_init_8 : decode b_Message_init 8 = .ok (.dup, 1) := by decide +kernel
theorem d_Message_init_9 : decode b_Message_init 9 = .ok (.invokespecial 11, 3) := by decide +kernel
theorem d_Message_init_12 : decode b_Message_init 12 = .ok (.putfield 12, 3) := by decide +kernel
theorem d_Message_init_15 : decode b_Message_init 15 = .ok (.aload_n 0, 1) := by decide +kernel
theorem d_Message_init_16 : decode b_Message_init 16 = .ok (.iconst 0, 1) := by decide +kernel
theorem d_Message_init_17 : decode b_Message_init 17 = .ok (.putfield 18, 3) := by decide +kernel
theorem d_Message_init_20 : decode b_Message_init 20 = .ok (.aload_n 0, 1) := by decide +kernel
theorem d_Message_init_21 : decode b_Message_init 21 = .ok (.iconst 0, 1) := by decide +kernel
theorem d_Message_init_22 : decode b_Message_init 22 = .ok (.putfield 22, 3) := by decide +kernel
theorem d_Message_init_25 : decode b_Message_init 25 = .ok (.aload_n 0, 1) := by decide +kernel
theorem d_Message_init_26 : decode b_Message_init 26 = .ok (.iconst 0, 1) := by decide +kernel
theorem d_Message_init_27 : decode b_Message_init 27 = .ok (.putfield 26, 3) := by decide +kernel
theorem d_Message_init_30 : decode b_Message_init 30 = .ok (.aload_n 0, 1) := by decide +kernel
theorem d_Message_init_31 : decode b_Message_init 31 = .ok (.lconst 0, 1) := by decide +kernel
theorem d_Message_init_32 : decode b_Message_init 32 = .ok (.putfield 29, 3) := by decide +kernel
theorem d_Message_init_35 : decode b_Message_init 35 = .ok (.return_, 1) := by decide +kernel
theorem d_OctetRow_init_0 : decode b_OctetRow_init 0 = .ok (.aload_n 0, 1) := by decide +kernel
theorem d_OctetRow_init_1 : decode b_OctetRow_init 1 = .ok (.invokespecial 3, 3) := by decide +kernel
theorem d_OctetRow_init_4 : decode b_OctetRow_init 4 = .ok (.aload_n 0, 1) := by decide +kernel
theorem d_OctetRow_init_5 : decode b_OctetRow_init 5 = .ok (.sipush 442, 3) := by decide +kernel
theorem d_OctetRow_init_8 : decode b_OctetRow_init 8 = .ok (.newarray .int, 2) := by decide +kernel
theorem d_OctetRow_init_10 : decode b_OctetRow_init 10 = .ok (.putfield 11, 3) := by decide +kernel
theorem d_OctetRow_init_13 : decode b_OctetRow_init 13 = .ok (.aload_n 0, 1) := by decide +kernel
theorem d_OctetRow_init_14 : decode b_OctetRow_init 14 = .ok (.iconst 0, 1) := by decide +kernel
theorem d_OctetRow_init_15 : decode b_OctetRow_init 15 = .ok (.putfield 15, 3) := by decide +kernel
theorem d_OctetRow_init_18 : decode b_OctetRow_init 18 = .ok (.return_, 1) := by decide +kernel
theorem d_Site_init_0 : decode b_Site_init 0 = .ok (.aload_n 0, 1) := by decide +kernel
theorem d_Site_init_1 : decode b_Site_init 1 = .ok (.invokespecial 3, 3) := by decide +kernel
theorem d_Site_init_4 : decode b_Site_init 4 = .ok (.aload_n 0, 1) := by decide +kernel
theorem d_Site_init_5 : decode b_Site_init 5 = .ok (.iconst 3, 1) := by decide +kernel
theorem d_Site_init_6 : decode b_Site_init 6 = .ok (.newarray .long, 2) := by decide +kernel
theorem d_Site_init_8 : decode b_Site_init 8 = .ok (.putfield 9, 3) := by decide +kernel
theorem d_Site_init_11 : decode b_Site_init 11 = .ok (.aload_n 0, 1) := by decide +kernel
theorem d_Site_init_12 : decode b_Site_init 12 = .ok (.new 15, 3) := by decide +kernel
theorem d_Site_init_15 : decode b_Site_init 15 = .ok (.dup, 1) := by decide +kernel
theorem d_Site_init_16 : decode b_Site_init 16 = .ok (.invokespecial 17, 3) := by decide +kernel
theorem d_Site_init_19 : decode b_Site_init 19 = .ok (.putfield 18, 3) := by decide +kernel
theorem d_Site_init_22 : decode b_Site_init 22 = .ok (.aload_n 0, 1) := by decide +kernel
theorem d_Site_init_23 : decode b_Site_init 23 = .ok (.lconst 0, 1) := by decide +kernel
theorem d_Site_init_24 : decode b_Site_init 24 = .ok (.putfield 22, 3) := by decide +kernel
theorem d_Site_init_27 : decode b_Site_init 27 = .ok (.return_, 1) := by decide +kernel
end
section
abbrev xS : Type := (Nat → Nat → Int32) × (Nat → Nat → Int64) × (Nat → Int32) × (Nat → Int64)
def xs_I (u : xS) (k : Nat) : Nat → Int32 := u.1 k
def xs_L (u : xS) (k : Nat) : Nat → Int64 := u.2.1 k
def xs_i (u : xS) (k : Nat) : Int32 := u.2.2.1 k
def xs_l (u : xS) (k : Nat) : Int64 := u.2.2.2 k
def xs_sI (u : xS) (k j : Nat) (v : Int32) : xS := (fun q => if q = k then upd (u.1 k) j v else u.1 q, u.2)
def xs_sL (u : xS) (k j : Nat) (v : Int64) : xS := (u.1, fun q => if q = k then vp_updL (u.2.1 k) j v else u.2.1 q, u.2.2)
def xs_si (u : xS) (k : Nat) (v : Int32) : xS := (u.1, u.2.1, fun q => if q = k then v else u.2.2.1 q, u.2.2.2)
def xs_sl (u : xS) (k : Nat) (v : Int64) : xS := (u.1, u.2.1, u.2.2.1, fun q => if q = k then v else u.2.2.2 q)
def xFU : Nat := 200
abbrev xin (i : Int32) (n : Nat) : Prop := ¬ (i < 0 ∨ n ≤ i.toNatClampNeg)
def xg {β : Type} (c : Prop) [Decidable c] (k : Option β) : Option β := if c then k else none
def xb1 {α β : Type} (o : Option α) (k : α → Option β) : Option β := match o with
  | none => none
  | some a => k a
def xb2 {α β : Type} (o : Option (α × xS)) (k : α → xS → Option β) : Option β := match o with
  | none => none
  | some (a, u) => k a u
def xlt {α β : Type} (a : α) (k : α → Option β) : Option β := k a
theorem xlt_some {α β : Type} {a : α} {k : α → Option β} {b : β} (h : xlt a k = some b) : ∃ x, x = a ∧ k x = some b := ⟨a, rfl, h⟩
def xShl (x : Int64) (y : Int32) : Int64 := x <<< (y.toInt64 &&& 63)
def xUshr (x : Int64) (y : Int32) : Int64 := (x.toUInt64 >>> (y.toInt64.toUInt64 &&& Int64.toUInt64 63)).toInt64
theorem xin_lt {i : Int32} {n : Nat} (h : xin i n) : i.toNatClampNeg < n := Nat.not_le.mp fun q => h (Or.inr q)
theorem xg_some {β : Type} {c : Prop} [Decidable c] {k : Option β} {b : β} (h : xg c k = some b) : c ∧ k = some b := by
  unfold xg at h
  by_cases hc : c
  · rw [if_pos hc] at h
    exact ⟨hc, h⟩
  · rw [if_neg hc] at h
    cases h
theorem xb1_some {α β : Type} {o : Option α} {k : α → Option β} {b : β} (h : xb1 o k = some b) : ∃ a, o = some a ∧ k a = some b := by
  cases o with
  | none => cases h
  | some a => exact ⟨a, rfl, h⟩
theorem xb2_some {α β : Type} {o : Option (α × xS)} {k : α → xS → Option β} {b : β} (h : xb2 o k = some b) : ∃ a u, o = some (a, u) ∧ k a u = some b := by
  cases o with
  | none => cases h
  | some q =>
    obtain ⟨a, u⟩ := q
    exact ⟨a, u, rfl, h⟩
theorem xi_pos {β : Type} {c : Prop} [Decidable c] {a b : Option β} {r : β} (hc : c) (h : (if c then a else b) = some r) : a = some r := by
  rw [if_pos hc] at h
  exact h
theorem xi_neg {β : Type} {c : Prop} [Decidable c] {a b : Option β} {r : β} (hc : ¬ c) (h : (if c then a else b) = some r) : b = some r := by
  rw [if_neg hc] at h
  exact h
theorem xnar {v : Int32} (h : v = 0 ∨ v = 1) : narrow .boolean (.int v) = .int v := by
  rcases h with rfl | rfl <;> rfl
theorem xcmp0 {x y : Int64} : lg_cmp x y = 0 ↔ x = y := by
  unfold lg_cmp
  by_cases h1 : x > y
  · rw [if_pos h1]
    exact ⟨fun h => absurd h (by decide), fun h => by subst h; exact absurd h1 (by simp)⟩
  · rw [if_neg h1]
    by_cases h2 : x = y
    · rw [if_pos h2]
      exact ⟨fun _ => h2, fun _ => rfl⟩
    · rw [if_neg h2]
      exact ⟨fun h => absurd h (by decide), fun h => absurd h h2⟩
def xN : Nat → Prop := fun _ => False
def xA (ad : Nat → Nat) (N : Nat) : Nat → Prop := fun q => ∃ k, k < N ∧ q = ad k
def xR (D : va_G) (cl : List vw_C) (tys : List (ClassId × FieldType)) (ws : va_W) (U : State) : Prop := va_P D cl ws U.heap ∧ va_K D cl tys U ∧ xNw U
theorem xp_conv {D : va_G} {cl : List vw_C} {w w2 : va_W} {H : Heap} (h : w = w2) (hP : va_P D cl w H) : va_P D cl w2 H := h ▸ hP
theorem xp_heap {D : va_G} {cl : List vw_C} {w : va_W} {H H2 : Heap} (h : H2 = H) (hP : va_P D cl w H) : va_P D cl w H2 := by
  subst h
  exact hP
theorem xP_kept {D : va_G} {cl : List vw_C} {ws : va_W} {H H1 : Heap} (hP : va_P D cl ws H) (hk : ∀ q : Nat, q < H.size → H1[q]? = H[q]?) : va_P D cl ws H1 := fun k q hq => (hP k q hq).kept (hk q.1 (hP k q hq).lt)
theorem xR_blind {D : va_G} {cl : List vw_C} {tys : List (ClassId × FieldType)} {ws : va_W} {av : List Value} : FrameBlind (va_Pc av (xR D cl tys ws)) := fun a U g mk q => ⟨q.1, q.2.1, va_K.moved (u := U) (U := U.calling g mk a) (Vm.Alike.refl U.vm) q.2.2.1, xNw_same (u := U) (U := U.calling g mk a) rfl q.2.2.2⟩
theorem xpreS {D : va_G} {cl : List vw_C} {tys : List (ClassId × FieldType)} {ws : va_W} {av : List Value} {s : State} {H : Heap} (hP : va_P D cl ws H) (hK : va_K D cl tys s) (hN : xNw s) : PreS s H (va_Pc av (xR D cl tys ws)) av := ⟨xR_blind, fun U hU hW => ⟨rfl, by rw [hU]; exact hP, va_K.moved hW.alike hK, xNw_warm hW hN⟩⟩
theorem xpreS0 {av : List Value} {s : State} {H : Heap} : PreS s H (va_Pc av (fun _ => True)) av := ⟨fun _ _ _ _ q => q, fun _ _ _ => ⟨rfl, trivial⟩⟩
theorem xpreV {D : va_G} {cl : List vw_C} {tys : List (ClassId × FieldType)} {ws : va_W} {As : List Value} {s : State} {H : Heap} {b q0 ci N : Nat} {C : String} {T : u_T} {fs : List Value} (hP : va_P D cl ws H) (hK : va_K D cl tys s) (hN : xNw s) (hc : cl[ci]? = some (C, T, N)) (he : ws[q0]? = some (b, .inr (ci, fs))) : PreV s H C b (va_Pc (.ref b :: As) (xR D cl tys ws)) As := ⟨xR_blind, va_recv hK hP hc he, fun U hU hW => ⟨rfl, by rw [hU]; exact hP, va_K.moved hW.alike hK, xNw_warm hW hN⟩⟩
section XW
variable {p : Program} {l : Launch} {e : Env} {R : Room} {s : State} {m : MethodId} {args : Array Value} {below : List Frame} {meth : Method} {c : Code} {H : Heap} {locs : List Loc} {cells slots : Nat} {Q : State → Prop}
variable {cc : ByteArray} {pc : Nat} {ls : Array Slot} {rest st0 : List Value} {a : Array Value} {D : va_G} {cl : List vw_C} {tys : List (ClassId × FieldType)} {ws : va_W} {A0 A1 : Nat → Prop} {H0 : Heap}
theorem xl_cmp_eq (hexec : p.tables.exec = Jvm.exec) (hb : c.code = cc) {x y : Int64} {off : Int} {tgt : Nat} (h1 : decode cc pc = .ok (.lcmp, 1)) (h2 : decode cc (pc + 1) = .ok (.ifCond .eq off, 3)) (ht : ((pc + 1 : Nat) : Int) + off = (tgt : Int))
    (kt : x = y → W p l e R s m args below meth c H locs cells slots Q (F0 m tgt ls rest)) (kf : ¬ x = y → W p l e R s m args below meth c H locs cells slots Q (F0 m (pc + 1 + 3) ls rest)) : W p l e R s m args below meth c H locs cells slots Q (F0 m pc ls (.long y :: .long x :: rest)) :=
  W.lcmp hexec hb h1 (lv_if_eq hexec hb h2 ht (fun h => kt (xcmp0.mp h)) (fun h => kf (fun q => h (xcmp0.mpr q))))
theorem xl_cmp_ne (hexec : p.tables.exec = Jvm.exec) (hb : c.code = cc) {x y : Int64} {off : Int} {tgt : Nat} (h1 : decode cc pc = .ok (.lcmp, 1)) (h2 : decode cc (pc + 1) = .ok (.ifCond .ne off, 3)) (ht : ((pc + 1 : Nat) : Int) + off = (tgt : Int))
    (kt : ¬ x = y → W p l e R s m args below meth c H locs cells slots Q (F0 m tgt ls rest)) (kf : x = y → W p l e R s m args below meth c H locs cells slots Q (F0 m (pc + 1 + 3) ls rest)) : W p l e R s m args below meth c H locs cells slots Q (F0 m pc ls (.long y :: .long x :: rest)) :=
  W.lcmp hexec hb h1 (lv_if_ne hexec hb h2 ht (fun h => kt (fun q => h (xcmp0.mpr q))) (fun h => kf (xcmp0.mp h)))
theorem xc_i {r : Int32} (hr : va_Run p l e R s m args below meth c H locs cells slots 0 0 (F0 m pc ls st0) rest (va_Qi (fun r9 (_ : Unit) => r9 = r) (fun _ _ => True) xN a) xN) (hP : va_P D cl ws H) (hS : va_S A0 H0 H locs)
    (kk : ∀ (H1 : Heap) (locs1 : List Loc), va_P D cl ws H1 → va_S A0 H0 H1 locs1 → W p l e R s m args below meth c H1 locs1 cells slots Q (F0 m (pc + 3) ls (.int r :: rest))) : W p l e R s m args below meth c H locs cells slots Q (F0 m pc ls st0) :=
  va_calli hr hS (fun _ _ h => h.elim) (fun _ h => h.elim) (fun _ _ _ H1 locs1 _ _ h _ _ hk hS1 => by subst h; exact kk H1 locs1 (xP_kept hP (fun q hq => hk q hq (fun z => z))) hS1)
theorem xc_i0 {r : Int32} (hr : va_Run p l e R s m args below meth c H locs cells slots 0 0 (F0 m pc ls st0) rest (va_Qi (fun r9 (_ : Unit) => r9 = r) (fun _ _ => True) xN a) xN) (hS : va_S A0 H0 H locs)
    (kk : ∀ (H1 : Heap) (locs1 : List Loc), va_S A0 H0 H1 locs1 → W p l e R s m args below meth c H1 locs1 cells slots Q (F0 m (pc + 3) ls (.int r :: rest))) : W p l e R s m args below meth c H locs cells slots Q (F0 m pc ls st0) :=
  va_calli hr hS (fun _ _ h => h.elim) (fun _ h => h.elim) (fun _ _ _ H1 locs1 _ _ h _ _ _ hS1 => by subst h; exact kk H1 locs1 hS1)
theorem xc_l {r : Int64} (hr : va_Run p l e R s m args below meth c H locs cells slots 0 0 (F0 m pc ls st0) rest (va_Ql (fun r9 (_ : Unit) => r9 = r) (fun _ _ => True) xN a) xN) (hP : va_P D cl ws H) (hS : va_S A0 H0 H locs)
    (kk : ∀ (H1 : Heap) (locs1 : List Loc), va_P D cl ws H1 → va_S A0 H0 H1 locs1 → W p l e R s m args below meth c H1 locs1 cells slots Q (F0 m (pc + 3) ls (.long r :: rest))) : W p l e R s m args below meth c H locs cells slots Q (F0 m pc ls st0) :=
  va_calll hr hS (fun _ _ h => h.elim) (fun _ h => h.elim) (fun _ _ _ H1 locs1 _ _ h _ _ hk hS1 => by subst h; exact kk H1 locs1 (xP_kept hP (fun q hq => hk q hq (fun z => z))) hS1)
theorem xc_l0 {r : Int64} (hr : va_Run p l e R s m args below meth c H locs cells slots 0 0 (F0 m pc ls st0) rest (va_Ql (fun r9 (_ : Unit) => r9 = r) (fun _ _ => True) xN a) xN) (hS : va_S A0 H0 H locs)
    (kk : ∀ (H1 : Heap) (locs1 : List Loc), va_S A0 H0 H1 locs1 → W p l e R s m args below meth c H1 locs1 cells slots Q (F0 m (pc + 3) ls (.long r :: rest))) : W p l e R s m args below meth c H locs cells slots Q (F0 m pc ls st0) :=
  va_calll hr hS (fun _ _ h => h.elim) (fun _ h => h.elim) (fun _ _ _ H1 locs1 _ _ h _ _ _ hS1 => by subst h; exact kk H1 locs1 hS1)
theorem xc_iw {r : Int32} {u1 : xS} {Wd : xS → va_W} (hr : va_Run p l e R s m args below meth c H locs cells slots 0 0 (F0 m pc ls st0) rest (va_Qi (fun r9 (u9 : xS) => r9 = r ∧ u9 = u1) (fun u9 t => va_P D cl (Wd u9) t.heap) A1 a) A1) (hS : va_S A0 H0 H locs) (hA : ∀ q, A1 q → A0 q)
    (kk : ∀ (H1 : Heap) (locs1 : List Loc), va_P D cl (Wd u1) H1 → va_S A0 H0 H1 locs1 → W p l e R s m args below meth c H1 locs1 cells slots Q (F0 m (pc + 3) ls (.int r :: rest))) : W p l e R s m args below meth c H locs cells slots Q (F0 m pc ls st0) :=
  va_calli hr hS (fun q _ h => hA q h) hA (fun _ _ t H1 locs1 ht _ h hB _ _ hS1 => by
    obtain ⟨rfl, rfl⟩ := h
    exact kk H1 locs1 (by rw [← ht]; exact hB) hS1)
theorem xc_lw {r : Int64} {u1 : xS} {Wd : xS → va_W} (hr : va_Run p l e R s m args below meth c H locs cells slots 0 0 (F0 m pc ls st0) rest (va_Ql (fun r9 (u9 : xS) => r9 = r ∧ u9 = u1) (fun u9 t => va_P D cl (Wd u9) t.heap) A1 a) A1) (hS : va_S A0 H0 H locs) (hA : ∀ q, A1 q → A0 q)
    (kk : ∀ (H1 : Heap) (locs1 : List Loc), va_P D cl (Wd u1) H1 → va_S A0 H0 H1 locs1 → W p l e R s m args below meth c H1 locs1 cells slots Q (F0 m (pc + 3) ls (.long r :: rest))) : W p l e R s m args below meth c H locs cells slots Q (F0 m pc ls st0) :=
  va_calll hr hS (fun q _ h => hA q h) hA (fun _ _ t H1 locs1 ht _ h hB _ _ hS1 => by
    obtain ⟨rfl, rfl⟩ := h
    exact kk H1 locs1 (by rw [← ht]; exact hB) hS1)
theorem xc_vw {u1 : xS} {Wd : xS → va_W} (hr : va_Run p l e R s m args below meth c H locs cells slots 0 0 (F0 m pc ls st0) rest (va_Qv (fun (u9 : xS) => u9 = u1) (fun u9 t => va_P D cl (Wd u9) t.heap) A1 a) A1) (hS : va_S A0 H0 H locs) (hA : ∀ q, A1 q → A0 q)
    (kk : ∀ (H1 : Heap) (locs1 : List Loc), va_P D cl (Wd u1) H1 → va_S A0 H0 H1 locs1 → W p l e R s m args below meth c H1 locs1 cells slots Q (F0 m (pc + 3) ls rest)) : W p l e R s m args below meth c H locs cells slots Q (F0 m pc ls st0) :=
  va_callv hr hS (fun q _ h => hA q h) hA (fun _ t H1 locs1 ht _ h hB _ _ hS1 => by
    subst h
    exact kk H1 locs1 (by rw [← ht]; exact hB) hS1)
end XW
abbrev xrm (f lo : Nat) : Room := { frames := f, cells := 0, slots := 0, locals := lo }
theorem xm_pui {l : Launch} {y : MethodName} {ws ws' : List Cond} {rm : Room} {cc : ByteArray} {maxL : Nat} {av : List Value} {r : Int32} (hy : plainName y.cls = true) (hw : ws = Cond.code y cc maxL (some .int) :: ws') (hav : (lg_sl av).length ≤ maxL)
    (body : ∀ (p : Program) (e : Env) (s : State) (m : MethodId) (args : Array Value) (below : List Frame) (meth : Method) (c : Code) (Q : State → Prop) (ls : Array Slot), p.tables.exec = Jvm.exec → c.code = cc → c.maxLocals = maxL → (∀ w ∈ ws, w.before args s = true) → s.vm.findClass y.cls = some m.cls → lv_has ls maxL (lv_args 0 av) → (∀ {v : Int32} {H : Heap} {locs : List Loc} {ls1 : Array Slot} {pc : Nat}, some v = some r → va_S xN s.heap H locs → decode cc pc = .ok (.ireturn, 1) → W p l e rm s m args below meth c H locs 0 0 Q (F0 m pc ls1 [.int v])) → W p l e rm s m args below meth c s.heap [] 0 0 Q (F0 m 0 ls [])) :
    Met l y ws rm (va_Pc av (fun _ => True)) (va_Qi (fun r9 (_ : Unit) => r9 = r) (fun _ _ => True) xN) 0 0 xN := by
  refine Met.ofW (cc := cc) (maxL := maxL) (ret := (some .int)) hy hw ?_
  intro p e s m args below meth c s₁ B hml hv
  obtain ⟨rfl, hv⟩ := hv
  have hl := lv_entry av (n := maxL) hav
  rw [lg_entry_eq]
  generalize (lg_sl av ++ List.replicate (maxL - (lg_sl av).length) Slot.unset).toArray = ls at hl ⊢
  exact body p e s m av.toArray below meth c _ ls B.exec B.bytes hml (atoms_spec (ws := ws) B.pre) (findClass_of_methodNamed B.named) hl (fun {v} {H} {locs} {ls1} {pc} h hS hd => W.iret (v := v) B.exec B.bytes B.returns (fun t ht hW => ⟨⟨v, (), rfl, Option.some.inj h, trivial⟩, hS.F ht⟩) hS.2.2 hd B.notSynchronized)
theorem xm_puz {l : Launch} {y : MethodName} {ws ws' : List Cond} {rm : Room} {cc : ByteArray} {maxL : Nat} {av : List Value} {r : Int32} (hy : plainName y.cls = true) (hw : ws = Cond.code y cc maxL (some .boolean) :: ws') (hav : (lg_sl av).length ≤ maxL)
    (body : ∀ (p : Program) (e : Env) (s : State) (m : MethodId) (args : Array Value) (below : List Frame) (meth : Method) (c : Code) (Q : State → Prop) (ls : Array Slot), p.tables.exec = Jvm.exec → c.code = cc → c.maxLocals = maxL → (∀ w ∈ ws, w.before args s = true) → s.vm.findClass y.cls = some m.cls → lv_has ls maxL (lv_args 0 av) → (∀ {v : Int32} {H : Heap} {locs : List Loc} {ls1 : Array Slot} {pc : Nat}, some v = some r → narrow .boolean (.int v) = .int v → va_S xN s.heap H locs → decode cc pc = .ok (.ireturn, 1) → W p l e rm s m args below meth c H locs 0 0 Q (F0 m pc ls1 [.int v])) → W p l e rm s m args below meth c s.heap [] 0 0 Q (F0 m 0 ls [])) :
    Met l y ws rm (va_Pc av (fun _ => True)) (va_Qi (fun r9 (_ : Unit) => r9 = r) (fun _ _ => True) xN) 0 0 xN := by
  refine Met.ofW (cc := cc) (maxL := maxL) (ret := (some .boolean)) hy hw ?_
  intro p e s m args below meth c s₁ B hml hv
  obtain ⟨rfl, hv⟩ := hv
  have hl := lv_entry av (n := maxL) hav
  rw [lg_entry_eq]
  generalize (lg_sl av ++ List.replicate (maxL - (lg_sl av).length) Slot.unset).toArray = ls at hl ⊢
  exact body p e s m av.toArray below meth c _ ls B.exec B.bytes hml (atoms_spec (ws := ws) B.pre) (findClass_of_methodNamed B.named) hl (fun {v} {H} {locs} {ls1} {pc} h hn hS hd => W.zret (v := v) B.exec B.bytes B.returns hn (fun t ht hW => ⟨⟨v, (), rfl, Option.some.inj h, trivial⟩, hS.F ht⟩) hS.2.2 hd B.notSynchronized)
theorem xm_puj {l : Launch} {y : MethodName} {ws ws' : List Cond} {rm : Room} {cc : ByteArray} {maxL : Nat} {av : List Value} {r : Int64} (hy : plainName y.cls = true) (hw : ws = Cond.code y cc maxL (some .long) :: ws') (hav : (lg_sl av).length ≤ maxL)
    (body : ∀ (p : Program) (e : Env) (s : State) (m : MethodId) (args : Array Value) (below : List Frame) (meth : Method) (c : Code) (Q : State → Prop) (ls : Array Slot), p.tables.exec = Jvm.exec → c.code = cc → c.maxLocals = maxL → (∀ w ∈ ws, w.before args s = true) → s.vm.findClass y.cls = some m.cls → lv_has ls maxL (lv_args 0 av) → (∀ {v : Int64} {H : Heap} {locs : List Loc} {ls1 : Array Slot} {pc : Nat}, some v = some r → va_S xN s.heap H locs → decode cc pc = .ok (.lreturn, 1) → W p l e rm s m args below meth c H locs 0 0 Q (F0 m pc ls1 [.long v])) → W p l e rm s m args below meth c s.heap [] 0 0 Q (F0 m 0 ls [])) :
    Met l y ws rm (va_Pc av (fun _ => True)) (va_Ql (fun r9 (_ : Unit) => r9 = r) (fun _ _ => True) xN) 0 0 xN := by
  refine Met.ofW (cc := cc) (maxL := maxL) (ret := (some .long)) hy hw ?_
  intro p e s m args below meth c s₁ B hml hv
  obtain ⟨rfl, hv⟩ := hv
  have hl := lv_entry av (n := maxL) hav
  rw [lg_entry_eq]
  generalize (lg_sl av ++ List.replicate (maxL - (lg_sl av).length) Slot.unset).toArray = ls at hl ⊢
  exact body p e s m av.toArray below meth c _ ls B.exec B.bytes hml (atoms_spec (ws := ws) B.pre) (findClass_of_methodNamed B.named) hl (fun {v} {H} {locs} {ls1} {pc} h hS hd => W.lret (v := v) B.exec B.bytes B.returns (fun t ht hW => ⟨⟨v, (), rfl, Option.some.inj h, trivial⟩, hS.F ht⟩) hS.2.2 hd B.notSynchronized)
theorem xm_roi {l : Launch} {y : MethodName} {ws ws' : List Cond} {rm : Room} {cc : ByteArray} {maxL : Nat} {av : List Value} {D : va_G} {cl : List vw_C} {tys : List (ClassId × FieldType)} {wd : va_W} {r : Int32} (hy : plainName y.cls = true) (hw : ws = Cond.code y cc maxL (some .int) :: ws') (hav : (lg_sl av).length ≤ maxL)
    (body : ∀ (p : Program) (e : Env) (s : State) (m : MethodId) (args : Array Value) (below : List Frame) (meth : Method) (c : Code) (Q : State → Prop) (ls : Array Slot), p.tables.exec = Jvm.exec → c.code = cc → c.maxLocals = maxL → (∀ w ∈ ws, w.before args s = true) → s.vm.findClass y.cls = some m.cls → va_K D cl tys s → xNw s → va_P D cl wd s.heap → lv_has ls maxL (lv_args 0 av) → (∀ {v : Int32} {H : Heap} {locs : List Loc} {ls1 : Array Slot} {pc : Nat}, some v = some r → va_S xN s.heap H locs → decode cc pc = .ok (.ireturn, 1) → W p l e rm s m args below meth c H locs 0 0 Q (F0 m pc ls1 [.int v])) → W p l e rm s m args below meth c s.heap [] 0 0 Q (F0 m 0 ls [])) :
    Met l y ws rm (va_Pc av (xR D cl tys wd)) (va_Qi (fun r9 (_ : Unit) => r9 = r) (fun _ _ => True) xN) 0 0 xN := by
  refine Met.ofW (cc := cc) (maxL := maxL) (ret := (some .int)) hy hw ?_
  intro p e s m args below meth c s₁ B hml hv
  obtain ⟨rfl, hv⟩ := hv
  obtain ⟨hP, hK, hN⟩ := hv
  have hl := lv_entry av (n := maxL) hav
  rw [lg_entry_eq]
  generalize (lg_sl av ++ List.replicate (maxL - (lg_sl av).length) Slot.unset).toArray = ls at hl ⊢
  exact body p e s m av.toArray below meth c _ ls B.exec B.bytes hml (atoms_spec (ws := ws) B.pre) (findClass_of_methodNamed B.named) hK hN hP hl (fun {v} {H} {locs} {ls1} {pc} h hS hd => W.iret (v := v) B.exec B.bytes B.returns (fun t ht hW => ⟨⟨v, (), rfl, Option.some.inj h, trivial⟩, hS.F ht⟩) hS.2.2 hd B.notSynchronized)
theorem xm_roz {l : Launch} {y : MethodName} {ws ws' : List Cond} {rm : Room} {cc : ByteArray} {maxL : Nat} {av : List Value} {D : va_G} {cl : List vw_C} {tys : List (ClassId × FieldType)} {wd : va_W} {r : Int32} (hy : plainName y.cls = true) (hw : ws = Cond.code y cc maxL (some .boolean) :: ws') (hav : (lg_sl av).length ≤ maxL)
    (body : ∀ (p : Program) (e : Env) (s : State) (m : MethodId) (args : Array Value) (below : List Frame) (meth : Method) (c : Code) (Q : State → Prop) (ls : Array Slot), p.tables.exec = Jvm.exec → c.code = cc → c.maxLocals = maxL → (∀ w ∈ ws, w.before args s = true) → s.vm.findClass y.cls = some m.cls → va_K D cl tys s → xNw s → va_P D cl wd s.heap → lv_has ls maxL (lv_args 0 av) → (∀ {v : Int32} {H : Heap} {locs : List Loc} {ls1 : Array Slot} {pc : Nat}, some v = some r → narrow .boolean (.int v) = .int v → va_S xN s.heap H locs → decode cc pc = .ok (.ireturn, 1) → W p l e rm s m args below meth c H locs 0 0 Q (F0 m pc ls1 [.int v])) → W p l e rm s m args below meth c s.heap [] 0 0 Q (F0 m 0 ls [])) :
    Met l y ws rm (va_Pc av (xR D cl tys wd)) (va_Qi (fun r9 (_ : Unit) => r9 = r) (fun _ _ => True) xN) 0 0 xN := by
  refine Met.ofW (cc := cc) (maxL := maxL) (ret := (some .boolean)) hy hw ?_
  intro p e s m args below meth c s₁ B hml hv
  obtain ⟨rfl, hv⟩ := hv
  obtain ⟨hP, hK, hN⟩ := hv
  have hl := lv_entry av (n := maxL) hav
  rw [lg_entry_eq]
  generalize (lg_sl av ++ List.replicate (maxL - (lg_sl av).length) Slot.unset).toArray = ls at hl ⊢
  exact body p e s m av.toArray below meth c _ ls B.exec B.bytes hml (atoms_spec (ws := ws) B.pre) (findClass_of_methodNamed B.named) hK hN hP hl (fun {v} {H} {locs} {ls1} {pc} h hn hS hd => W.zret (v := v) B.exec B.bytes B.returns hn (fun t ht hW => ⟨⟨v, (), rfl, Option.some.inj h, trivial⟩, hS.F ht⟩) hS.2.2 hd B.notSynchronized)
theorem xm_roj {l : Launch} {y : MethodName} {ws ws' : List Cond} {rm : Room} {cc : ByteArray} {maxL : Nat} {av : List Value} {D : va_G} {cl : List vw_C} {tys : List (ClassId × FieldType)} {wd : va_W} {r : Int64} (hy : plainName y.cls = true) (hw : ws = Cond.code y cc maxL (some .long) :: ws') (hav : (lg_sl av).length ≤ maxL)
    (body : ∀ (p : Program) (e : Env) (s : State) (m : MethodId) (args : Array Value) (below : List Frame) (meth : Method) (c : Code) (Q : State → Prop) (ls : Array Slot), p.tables.exec = Jvm.exec → c.code = cc → c.maxLocals = maxL → (∀ w ∈ ws, w.before args s = true) → s.vm.findClass y.cls = some m.cls → va_K D cl tys s → xNw s → va_P D cl wd s.heap → lv_has ls maxL (lv_args 0 av) → (∀ {v : Int64} {H : Heap} {locs : List Loc} {ls1 : Array Slot} {pc : Nat}, some v = some r → va_S xN s.heap H locs → decode cc pc = .ok (.lreturn, 1) → W p l e rm s m args below meth c H locs 0 0 Q (F0 m pc ls1 [.long v])) → W p l e rm s m args below meth c s.heap [] 0 0 Q (F0 m 0 ls [])) :
    Met l y ws rm (va_Pc av (xR D cl tys wd)) (va_Ql (fun r9 (_ : Unit) => r9 = r) (fun _ _ => True) xN) 0 0 xN := by
  refine Met.ofW (cc := cc) (maxL := maxL) (ret := (some .long)) hy hw ?_
  intro p e s m args below meth c s₁ B hml hv
  obtain ⟨rfl, hv⟩ := hv
  obtain ⟨hP, hK, hN⟩ := hv
  have hl := lv_entry av (n := maxL) hav
  rw [lg_entry_eq]
  generalize (lg_sl av ++ List.replicate (maxL - (lg_sl av).length) Slot.unset).toArray = ls at hl ⊢
  exact body p e s m av.toArray below meth c _ ls B.exec B.bytes hml (atoms_spec (ws := ws) B.pre) (findClass_of_methodNamed B.named) hK hN hP hl (fun {v} {H} {locs} {ls1} {pc} h hS hd => W.lret (v := v) B.exec B.bytes B.returns (fun t ht hW => ⟨⟨v, (), rfl, Option.some.inj h, trivial⟩, hS.F ht⟩) hS.2.2 hd B.notSynchronized)
theorem xm_rwi {l : Launch} {y : MethodName} {ws ws' : List Cond} {rm : Room} {cc : ByteArray} {maxL : Nat} {av : List Value} {D : va_G} {cl : List vw_C} {tys : List (ClassId × FieldType)} {Wd : xS → va_W} {u u1 : xS} {A : Nat → Prop} {r : Int32} (hy : plainName y.cls = true) (hw : ws = Cond.code y cc maxL (some .int) :: ws') (hav : (lg_sl av).length ≤ maxL)
    (body : ∀ (p : Program) (e : Env) (s : State) (m : MethodId) (args : Array Value) (below : List Frame) (meth : Method) (c : Code) (Q : State → Prop) (ls : Array Slot), p.tables.exec = Jvm.exec → c.code = cc → c.maxLocals = maxL → (∀ w ∈ ws, w.before args s = true) → s.vm.findClass y.cls = some m.cls → va_K D cl tys s → xNw s → va_P D cl (Wd u) s.heap → lv_has ls maxL (lv_args 0 av) → (∀ {v : Int32} {u2 : xS} {H : Heap} {locs : List Loc} {ls1 : Array Slot} {pc : Nat}, some (v, u2) = some (r, u1) → va_P D cl (Wd u2) H → va_S A s.heap H locs → decode cc pc = .ok (.ireturn, 1) → W p l e rm s m args below meth c H locs 0 0 Q (F0 m pc ls1 [.int v])) → W p l e rm s m args below meth c s.heap [] 0 0 Q (F0 m 0 ls [])) :
    Met l y ws rm (va_Pc av (xR D cl tys (Wd u))) (va_Qi (fun r9 (u9 : xS) => r9 = r ∧ u9 = u1) (fun u9 t => va_P D cl (Wd u9) t.heap) A) 0 0 A := by
  refine Met.ofW (cc := cc) (maxL := maxL) (ret := (some .int)) hy hw ?_
  intro p e s m args below meth c s₁ B hml hv
  obtain ⟨rfl, hv⟩ := hv
  obtain ⟨hP, hK, hN⟩ := hv
  have hl := lv_entry av (n := maxL) hav
  rw [lg_entry_eq]
  generalize (lg_sl av ++ List.replicate (maxL - (lg_sl av).length) Slot.unset).toArray = ls at hl ⊢
  exact body p e s m av.toArray below meth c _ ls B.exec B.bytes hml (atoms_spec (ws := ws) B.pre) (findClass_of_methodNamed B.named) hK hN hP hl (fun {v} {u2} {H} {locs} {ls1} {pc} h hP2 hS hd => W.iret (v := v) B.exec B.bytes B.returns (fun t ht hW => ⟨⟨v, u2, rfl, Prod.mk.inj (Option.some.inj h), xp_heap ht hP2⟩, hS.F ht⟩) hS.2.2 hd B.notSynchronized)
theorem xm_rwz {l : Launch} {y : MethodName} {ws ws' : List Cond} {rm : Room} {cc : ByteArray} {maxL : Nat} {av : List Value} {D : va_G} {cl : List vw_C} {tys : List (ClassId × FieldType)} {Wd : xS → va_W} {u u1 : xS} {A : Nat → Prop} {r : Int32} (hy : plainName y.cls = true) (hw : ws = Cond.code y cc maxL (some .boolean) :: ws') (hav : (lg_sl av).length ≤ maxL)
    (body : ∀ (p : Program) (e : Env) (s : State) (m : MethodId) (args : Array Value) (below : List Frame) (meth : Method) (c : Code) (Q : State → Prop) (ls : Array Slot), p.tables.exec = Jvm.exec → c.code = cc → c.maxLocals = maxL → (∀ w ∈ ws, w.before args s = true) → s.vm.findClass y.cls = some m.cls → va_K D cl tys s → xNw s → va_P D cl (Wd u) s.heap → lv_has ls maxL (lv_args 0 av) → (∀ {v : Int32} {u2 : xS} {H : Heap} {locs : List Loc} {ls1 : Array Slot} {pc : Nat}, some (v, u2) = some (r, u1) → narrow .boolean (.int v) = .int v → va_P D cl (Wd u2) H → va_S A s.heap H locs → decode cc pc = .ok (.ireturn, 1) → W p l e rm s m args below meth c H locs 0 0 Q (F0 m pc ls1 [.int v])) → W p l e rm s m args below meth c s.heap [] 0 0 Q (F0 m 0 ls [])) :
    Met l y ws rm (va_Pc av (xR D cl tys (Wd u))) (va_Qi (fun r9 (u9 : xS) => r9 = r ∧ u9 = u1) (fun u9 t => va_P D cl (Wd u9) t.heap) A) 0 0 A := by
  refine Met.ofW (cc := cc) (maxL := maxL) (ret := (some .boolean)) hy hw ?_
  intro p e s m args below meth c s₁ B hml hv
  obtain ⟨rfl, hv⟩ := hv
  obtain ⟨hP, hK, hN⟩ := hv
  have hl := lv_entry av (n := maxL) hav
  rw [lg_entry_eq]
  generalize (lg_sl av ++ List.replicate (maxL - (lg_sl av).length) Slot.unset).toArray = ls at hl ⊢
  exact body p e s m av.toArray below meth c _ ls B.exec B.bytes hml (atoms_spec (ws := ws) B.pre) (findClass_of_methodNamed B.named) hK hN hP hl (fun {v} {u2} {H} {locs} {ls1} {pc} h hn hP2 hS hd => W.zret (v := v) B.exec B.bytes B.returns hn (fun t ht hW => ⟨⟨v, u2, rfl, Prod.mk.inj (Option.some.inj h), xp_heap ht hP2⟩, hS.F ht⟩) hS.2.2 hd B.notSynchronized)
theorem xm_rwj {l : Launch} {y : MethodName} {ws ws' : List Cond} {rm : Room} {cc : ByteArray} {maxL : Nat} {av : List Value} {D : va_G} {cl : List vw_C} {tys : List (ClassId × FieldType)} {Wd : xS → va_W} {u u1 : xS} {A : Nat → Prop} {r : Int64} (hy : plainName y.cls = true) (hw : ws = Cond.code y cc maxL (some .long) :: ws') (hav : (lg_sl av).length ≤ maxL)
    (body : ∀ (p : Program) (e : Env) (s : State) (m : MethodId) (args : Array Value) (below : List Frame) (meth : Method) (c : Code) (Q : State → Prop) (ls : Array Slot), p.tables.exec = Jvm.exec → c.code = cc → c.maxLocals = maxL → (∀ w ∈ ws, w.before args s = true) → s.vm.findClass y.cls = some m.cls → va_K D cl tys s → xNw s → va_P D cl (Wd u) s.heap → lv_has ls maxL (lv_args 0 av) → (∀ {v : Int64} {u2 : xS} {H : Heap} {locs : List Loc} {ls1 : Array Slot} {pc : Nat}, some (v, u2) = some (r, u1) → va_P D cl (Wd u2) H → va_S A s.heap H locs → decode cc pc = .ok (.lreturn, 1) → W p l e rm s m args below meth c H locs 0 0 Q (F0 m pc ls1 [.long v])) → W p l e rm s m args below meth c s.heap [] 0 0 Q (F0 m 0 ls [])) :
    Met l y ws rm (va_Pc av (xR D cl tys (Wd u))) (va_Ql (fun r9 (u9 : xS) => r9 = r ∧ u9 = u1) (fun u9 t => va_P D cl (Wd u9) t.heap) A) 0 0 A := by
  refine Met.ofW (cc := cc) (maxL := maxL) (ret := (some .long)) hy hw ?_
  intro p e s m args below meth c s₁ B hml hv
  obtain ⟨rfl, hv⟩ := hv
  obtain ⟨hP, hK, hN⟩ := hv
  have hl := lv_entry av (n := maxL) hav
  rw [lg_entry_eq]
  generalize (lg_sl av ++ List.replicate (maxL - (lg_sl av).length) Slot.unset).toArray = ls at hl ⊢
  exact body p e s m av.toArray below meth c _ ls B.exec B.bytes hml (atoms_spec (ws := ws) B.pre) (findClass_of_methodNamed B.named) hK hN hP hl (fun {v} {u2} {H} {locs} {ls1} {pc} h hP2 hS hd => W.lret (v := v) B.exec B.bytes B.returns (fun t ht hW => ⟨⟨v, u2, rfl, Prod.mk.inj (Option.some.inj h), xp_heap ht hP2⟩, hS.F ht⟩) hS.2.2 hd B.notSynchronized)
theorem xm_rwv {l : Launch} {y : MethodName} {ws ws' : List Cond} {rm : Room} {cc : ByteArray} {maxL : Nat} {av : List Value} {D : va_G} {cl : List vw_C} {tys : List (ClassId × FieldType)} {Wd : xS → va_W} {u u1 : xS} {A : Nat → Prop} (hy : plainName y.cls = true) (hw : ws = Cond.code y cc maxL none :: ws') (hav : (lg_sl av).length ≤ maxL)
    (body : ∀ (p : Program) (e : Env) (s : State) (m : MethodId) (args : Array Value) (below : List Frame) (meth : Method) (c : Code) (Q : State → Prop) (ls : Array Slot), p.tables.exec = Jvm.exec → c.code = cc → c.maxLocals = maxL → (∀ w ∈ ws, w.before args s = true) → s.vm.findClass y.cls = some m.cls → va_K D cl tys s → xNw s → va_P D cl (Wd u) s.heap → lv_has ls maxL (lv_args 0 av) → (∀ {u2 : xS} {H : Heap} {locs : List Loc} {ls1 : Array Slot} {pc : Nat}, some u2 = some u1 → va_P D cl (Wd u2) H → va_S A s.heap H locs → decode cc pc = .ok (.return_, 1) → W p l e rm s m args below meth c H locs 0 0 Q (F0 m pc ls1 [])) → W p l e rm s m args below meth c s.heap [] 0 0 Q (F0 m 0 ls [])) :
    Met l y ws rm (va_Pc av (xR D cl tys (Wd u))) (va_Qv (fun (u9 : xS) => u9 = u1) (fun u9 t => va_P D cl (Wd u9) t.heap) A) 0 0 A := by
  refine Met.ofW (cc := cc) (maxL := maxL) (ret := none) hy hw ?_
  intro p e s m args below meth c s₁ B hml hv
  obtain ⟨rfl, hv⟩ := hv
  obtain ⟨hP, hK, hN⟩ := hv
  have hl := lv_entry av (n := maxL) hav
  rw [lg_entry_eq]
  generalize (lg_sl av ++ List.replicate (maxL - (lg_sl av).length) Slot.unset).toArray = ls at hl ⊢
  exact body p e s m av.toArray below meth c _ ls B.exec B.bytes hml (atoms_spec (ws := ws) B.pre) (findClass_of_methodNamed B.named) hK hN hP hl (fun {u2} {H} {locs} {ls1} {pc} h hP2 hS hd => W.vret B.exec B.bytes B.returns (fun t ht hW => ⟨⟨u2, rfl, Option.some.inj h, xp_heap ht hP2⟩, hS.F ht⟩) hS.2.2 hd B.notSynchronized)
end
section
def cW (dT : Nat → ClassId) (ad : Nat → Nat) (u : xS) : va_W := [
  (ad 0, .inr (7, [.ref (ad 1), .ref (ad 10), .ref (ad 16), .ref (ad 18), .ref (ad 31)])),
  (ad 1, .inr (1, [.ref (ad 2), .ref (ad 3), .ref (ad 4), .ref (ad 5), .ref (ad 6), .ref (ad 7), .ref (ad 8), .ref (ad 9), .int (xs_i u 0)])),
  (ad 2, .inl (dT 0, 40, .inl (xs_I u 0))),
  (ad 3, .inl (dT 0, 40, .inl (xs_I u 1))),
  (ad 4, .inl (dT 0, 40, .inl (xs_I u 2))),
  (ad 5, .inl (dT 0, 40, .inl (xs_I u 3))),
  (ad 6, .inl (dT 1, 40, .inr (.inl (xs_L u 0)))),
  (ad 7, .inl (dT 1, 40, .inr (.inl (xs_L u 1)))),
  (ad 8, .inl (dT 0, 120, .inl (xs_I u 4))),
  (ad 9, .inl (dT 0, 3, .inl (xs_I u 5))),
  (ad 10, .inr (0, [.ref (ad 11), .ref (ad 12), .ref (ad 13), .ref (ad 14), .ref (ad 15), .long (xs_l u 0), .long (xs_l u 1), .int (xs_i u 1)])),
  (ad 11, .inl (dT 0, 40, .inl (xs_I u 6))),
  (ad 12, .inl (dT 0, 40, .inl (xs_I u 7))),
  (ad 13, .inl (dT 2, 40, .inl (xs_I u 8))),
  (ad 14, .inl (dT 1, 40, .inr (.inl (xs_L u 2)))),
  (ad 15, .inl (dT 0, 40, .inl (xs_I u 9))),
  (ad 16, .inr (2, [.ref (ad 17), .int (xs_i u 2)])),
  (ad 17, .inl (dT 0, 40, .inl (xs_I u 10))),
  (ad 18, .inl (dT 3, 3, .inr (.inr (.inr (.inr (fun k => some (ad (19 + 4 * k)))))))),
  (ad 19, .inr (6, [.ref (ad 20), .ref (ad 21), .long (xs_l u 2)])),
  (ad 20, .inl (dT 1, 3, .inr (.inl (xs_L u 3)))),
  (ad 21, .inr (3, [.ref (ad 22), .int (xs_i u 3), .int (xs_i u 6), .int (xs_i u 9)])),
  (ad 22, .inl (dT 0, 40, .inl (xs_I u 11))),
  (ad 23, .inr (6, [.ref (ad 24), .ref (ad 25), .long (xs_l u 3)])),
  (ad 24, .inl (dT 1, 3, .inr (.inl (xs_L u 4)))),
  (ad 25, .inr (3, [.ref (ad 26), .int (xs_i u 4), .int (xs_i u 7), .int (xs_i u 10)])),
  (ad 26, .inl (dT 0, 40, .inl (xs_I u 12))),
  (ad 27, .inr (6, [.ref (ad 28), .ref (ad 29), .long (xs_l u 4)])),
  (ad 28, .inl (dT 1, 3, .inr (.inl (xs_L u 5)))),
  (ad 29, .inr (3, [.ref (ad 30), .int (xs_i u 5), .int (xs_i u 8), .int (xs_i u 11)])),
  (ad 30, .inl (dT 0, 40, .inl (xs_I u 13))),
  (ad 31, .inl (dT 4, 6, .inr (.inr (.inr (.inr (fun k => some (ad (32 + 3 * k)))))))),
  (ad 32, .inr (4, [.ref (ad 33), .int (xs_i u 12), .int (xs_i u 18), .int (xs_i u 24), .long (xs_l u 5)])),
  (ad 33, .inr (5, [.ref (ad 34), .int (xs_i u 30)])),
  (ad 34, .inl (dT 0, 442, .inl (xs_I u 14))),
  (ad 35, .inr (4, [.ref (ad 36), .int (xs_i u 13), .int (xs_i u 19), .int (xs_i u 25), .long (xs_l u 6)])),
  (ad 36, .inr (5, [.ref (ad 37), .int (xs_i u 31)])),
  (ad 37, .inl (dT 0, 442, .inl (xs_I u 15))),
  (ad 38, .inr (4, [.ref (ad 39), .int (xs_i u 14), .int (xs_i u 20), .int (xs_i u 26), .long (xs_l u 7)])),
  (ad 39, .inr (5, [.ref (ad 40), .int (xs_i u 32)])),
  (ad 40, .inl (dT 0, 442, .inl (xs_I u 16))),
  (ad 41, .inr (4, [.ref (ad 42), .int (xs_i u 15), .int (xs_i u 21), .int (xs_i u 27), .long (xs_l u 8)])),
  (ad 42, .inr (5, [.ref (ad 43), .int (xs_i u 33)])),
  (ad 43, .inl (dT 0, 442, .inl (xs_I u 17))),
  (ad 44, .inr (4, [.ref (ad 45), .int (xs_i u 16), .int (xs_i u 22), .int (xs_i u 28), .long (xs_l u 9)])),
  (ad 45, .inr (5, [.ref (ad 46), .int (xs_i u 34)])),
  (ad 46, .inl (dT 0, 442, .inl (xs_I u 18))),
  (ad 47, .inr (4, [.ref (ad 48), .int (xs_i u 17), .int (xs_i u 23), .int (xs_i u 29), .long (xs_l u 10)])),
  (ad 48, .inr (5, [.ref (ad 49), .int (xs_i u 35)])),
  (ad 49, .inl (dT 0, 442, .inl (xs_I u 19)))]
theorem cW_E {dT : Nat → ClassId} {ad : Nat → Nat} {u : xS} : (cW dT ad u)[0]? = some (ad 0, .inr (7, [.ref (ad 1), .ref (ad 10), .ref (ad 16), .ref (ad 18), .ref (ad 31)])) := rfl
theorem cW_H {dT : Nat → ClassId} {ad : Nat → Nat} {u : xS} : (cW dT ad u)[1]? = some (ad 1, .inr (1, [.ref (ad 2), .ref (ad 3), .ref (ad 4), .ref (ad 5), .ref (ad 6), .ref (ad 7), .ref (ad 8), .ref (ad 9), .int (xs_i u 0)])) := rfl
theorem cW_f_H_count {dT : Nat → ClassId} {ad : Nat → Nat} {u : xS} {v : Int32} : (cW dT ad u).set 1 (ad 1, .inr (1, [.ref (ad 2), .ref (ad 3), .ref (ad 4), .ref (ad 5), .ref (ad 6), .ref (ad 7), .ref (ad 8), .ref (ad 9), .int v])) = cW dT ad (xs_si u 0 v) := rfl
theorem cW_H_sites {dT : Nat → ClassId} {ad : Nat → Nat} {u : xS} : (cW dT ad u)[2]? = some (ad 2, .inl (dT 0, 40, .inl (xs_I u 0))) := rfl
theorem cW_s_H_sites {dT : Nat → ClassId} {ad : Nat → Nat} {u : xS} {q : Nat} {v : Int32} : (cW dT ad u).set 2 (ad 2, .inl (dT 0, 40, .inl (upd (xs_I u 0) q v))) = cW dT ad (xs_sI u 0 q v) := rfl
theorem cW_H_numbers {dT : Nat → ClassId} {ad : Nat → Nat} {u : xS} : (cW dT ad u)[3]? = some (ad 3, .inl (dT 0, 40, .inl (xs_I u 1))) := rfl
theorem cW_s_H_numbers {dT : Nat → ClassId} {ad : Nat → Nat} {u : xS} {q : Nat} {v : Int32} : (cW dT ad u).set 3 (ad 3, .inl (dT 0, 40, .inl (upd (xs_I u 1) q v))) = cW dT ad (xs_sI u 1 q v) := rfl
theorem cW_H_indices {dT : Nat → ClassId} {ad : Nat → Nat} {u : xS} : (cW dT ad u)[4]? = some (ad 4, .inl (dT 0, 40, .inl (xs_I u 2))) := rfl
theorem cW_s_H_indices {dT : Nat → ClassId} {ad : Nat → Nat} {u : xS} {q : Nat} {v : Int32} : (cW dT ad u).set 4 (ad 4, .inl (dT 0, 40, .inl (upd (xs_I u 2) q v))) = cW dT ad (xs_sI u 2 q v) := rfl
theorem cW_H_characters {dT : Nat → ClassId} {ad : Nat → Nat} {u : xS} : (cW dT ad u)[5]? = some (ad 5, .inl (dT 0, 40, .inl (xs_I u 3))) := rfl
theorem cW_s_H_characters {dT : Nat → ClassId} {ad : Nat → Nat} {u : xS} {q : Nat} {v : Int32} : (cW dT ad u).set 5 (ad 5, .inl (dT 0, 40, .inl (upd (xs_I u 3) q v))) = cW dT ad (xs_sI u 3 q v) := rfl
theorem cW_H_parents {dT : Nat → ClassId} {ad : Nat → Nat} {u : xS} : (cW dT ad u)[6]? = some (ad 6, .inl (dT 1, 40, .inr (.inl (xs_L u 0)))) := rfl
theorem cW_s_H_parents {dT : Nat → ClassId} {ad : Nat → Nat} {u : xS} {q : Nat} {v : Int64} : (cW dT ad u).set 6 (ad 6, .inl (dT 1, 40, .inr (.inl (vp_updL (xs_L u 0) q v)))) = cW dT ad (xs_sL u 0 q v) := rfl
theorem cW_H_ancestors {dT : Nat → ClassId} {ad : Nat → Nat} {u : xS} : (cW dT ad u)[7]? = some (ad 7, .inl (dT 1, 40, .inr (.inl (xs_L u 1)))) := rfl
theorem cW_s_H_ancestors {dT : Nat → ClassId} {ad : Nat → Nat} {u : xS} {q : Nat} {v : Int64} : (cW dT ad u).set 7 (ad 7, .inl (dT 1, 40, .inr (.inl (vp_updL (xs_L u 1) q v)))) = cW dT ad (xs_sL u 1 q v) := rfl
theorem cW_H_slots {dT : Nat → ClassId} {ad : Nat → Nat} {u : xS} : (cW dT ad u)[8]? = some (ad 8, .inl (dT 0, 120, .inl (xs_I u 4))) := rfl
theorem cW_s_H_slots {dT : Nat → ClassId} {ad : Nat → Nat} {u : xS} {q : Nat} {v : Int32} : (cW dT ad u).set 8 (ad 8, .inl (dT 0, 120, .inl (upd (xs_I u 4) q v))) = cW dT ad (xs_sI u 4 q v) := rfl
theorem cW_H_made {dT : Nat → ClassId} {ad : Nat → Nat} {u : xS} : (cW dT ad u)[9]? = some (ad 9, .inl (dT 0, 3, .inl (xs_I u 5))) := rfl
theorem cW_s_H_made {dT : Nat → ClassId} {ad : Nat → Nat} {u : xS} {q : Nat} {v : Int32} : (cW dT ad u).set 9 (ad 9, .inl (dT 0, 3, .inl (upd (xs_I u 5) q v))) = cW dT ad (xs_sI u 5 q v) := rfl
theorem cW_L {dT : Nat → ClassId} {ad : Nat → Nat} {u : xS} : (cW dT ad u)[10]? = some (ad 10, .inr (0, [.ref (ad 11), .ref (ad 12), .ref (ad 13), .ref (ad 14), .ref (ad 15), .long (xs_l u 0), .long (xs_l u 1), .int (xs_i u 1)])) := rfl
theorem cW_f_L_deletes {dT : Nat → ClassId} {ad : Nat → Nat} {u : xS} {v : Int64} : (cW dT ad u).set 10 (ad 10, .inr (0, [.ref (ad 11), .ref (ad 12), .ref (ad 13), .ref (ad 14), .ref (ad 15), .long v, .long (xs_l u 1), .int (xs_i u 1)])) = cW dT ad (xs_sl u 0 v) := rfl
theorem cW_f_L_inserts {dT : Nat → ClassId} {ad : Nat → Nat} {u : xS} {v : Int64} : (cW dT ad u).set 10 (ad 10, .inr (0, [.ref (ad 11), .ref (ad 12), .ref (ad 13), .ref (ad 14), .ref (ad 15), .long (xs_l u 0), .long v, .int (xs_i u 1)])) = cW dT ad (xs_sl u 1 v) := rfl
theorem cW_f_L_count {dT : Nat → ClassId} {ad : Nat → Nat} {u : xS} {v : Int32} : (cW dT ad u).set 10 (ad 10, .inr (0, [.ref (ad 11), .ref (ad 12), .ref (ad 13), .ref (ad 14), .ref (ad 15), .long (xs_l u 0), .long (xs_l u 1), .int v])) = cW dT ad (xs_si u 1 v) := rfl
theorem cW_L_order {dT : Nat → ClassId} {ad : Nat → Nat} {u : xS} : (cW dT ad u)[11]? = some (ad 11, .inl (dT 0, 40, .inl (xs_I u 6))) := rfl
theorem cW_s_L_order {dT : Nat → ClassId} {ad : Nat → Nat} {u : xS} {q : Nat} {v : Int32} : (cW dT ad u).set 11 (ad 11, .inl (dT 0, 40, .inl (upd (xs_I u 6) q v))) = cW dT ad (xs_sI u 6 q v) := rfl
theorem cW_L_holders {dT : Nat → ClassId} {ad : Nat → Nat} {u : xS} : (cW dT ad u)[12]? = some (ad 12, .inl (dT 0, 40, .inl (xs_I u 7))) := rfl
theorem cW_s_L_holders {dT : Nat → ClassId} {ad : Nat → Nat} {u : xS} {q : Nat} {v : Int32} : (cW dT ad u).set 12 (ad 12, .inl (dT 0, 40, .inl (upd (xs_I u 7) q v))) = cW dT ad (xs_sI u 7 q v) := rfl
theorem cW_L_onTheRight {dT : Nat → ClassId} {ad : Nat → Nat} {u : xS} : (cW dT ad u)[13]? = some (ad 13, .inl (dT 2, 40, .inl (xs_I u 8))) := rfl
theorem cW_s_L_onTheRight {dT : Nat → ClassId} {ad : Nat → Nat} {u : xS} {q : Nat} {v : Int32} : (cW dT ad u).set 13 (ad 13, .inl (dT 2, 40, .inl (upd (xs_I u 8) q v))) = cW dT ad (xs_sI u 8 q v) := rfl
theorem cW_L_chains {dT : Nat → ClassId} {ad : Nat → Nat} {u : xS} : (cW dT ad u)[14]? = some (ad 14, .inl (dT 1, 40, .inr (.inl (xs_L u 2)))) := rfl
theorem cW_s_L_chains {dT : Nat → ClassId} {ad : Nat → Nat} {u : xS} {q : Nat} {v : Int64} : (cW dT ad u).set 14 (ad 14, .inl (dT 1, 40, .inr (.inl (vp_updL (xs_L u 2) q v)))) = cW dT ad (xs_sL u 2 q v) := rfl
theorem cW_L_taken {dT : Nat → ClassId} {ad : Nat → Nat} {u : xS} : (cW dT ad u)[15]? = some (ad 15, .inl (dT 0, 40, .inl (xs_I u 9))) := rfl
theorem cW_s_L_taken {dT : Nat → ClassId} {ad : Nat → Nat} {u : xS} {q : Nat} {v : Int32} : (cW dT ad u).set 15 (ad 15, .inl (dT 0, 40, .inl (upd (xs_I u 9) q v))) = cW dT ad (xs_sI u 9 q v) := rfl
theorem cW_N {dT : Nat → ClassId} {ad : Nat → Nat} {u : xS} : (cW dT ad u)[16]? = some (ad 16, .inr (2, [.ref (ad 17), .int (xs_i u 2)])) := rfl
theorem cW_f_N_count {dT : Nat → ClassId} {ad : Nat → Nat} {u : xS} {v : Int32} : (cW dT ad u).set 16 (ad 16, .inr (2, [.ref (ad 17), .int v])) = cW dT ad (xs_si u 2 v) := rfl
theorem cW_N_slots {dT : Nat → ClassId} {ad : Nat → Nat} {u : xS} : (cW dT ad u)[17]? = some (ad 17, .inl (dT 0, 40, .inl (xs_I u 10))) := rfl
theorem cW_s_N_slots {dT : Nat → ClassId} {ad : Nat → Nat} {u : xS} {q : Nat} {v : Int32} : (cW dT ad u).set 17 (ad 17, .inl (dT 0, 40, .inl (upd (xs_I u 10) q v))) = cW dT ad (xs_sI u 10 q v) := rfl
theorem cW_Ss {dT : Nat → ClassId} {ad : Nat → Nat} {u : xS} : (cW dT ad u)[18]? = some (ad 18, .inl (dT 3, 3, .inr (.inr (.inr (.inr (fun k => some (ad (19 + 4 * k)))))))) := rfl
theorem cW_S {dT : Nat → ClassId} {ad : Nat → Nat} {u : xS} {j : Nat} (hj : j < 3) : (cW dT ad u)[(19 + 4 * j)]? = some (ad (19 + 4 * j), .inr (6, [.ref (ad (20 + 4 * j)), .ref (ad (21 + 4 * j)), .long (xs_l u (2 + j))])) := by
  match j, hj with
  | 0, _ => rfl
  | 1, _ => rfl
  | 2, _ => rfl
  | j + 3, h => exact absurd h (by omega)
theorem cW_f_S_graph {dT : Nat → ClassId} {ad : Nat → Nat} {u : xS} {j : Nat} (hj : j < 3) {v : Int64} : (cW dT ad u).set (19 + 4 * j) (ad (19 + 4 * j), .inr (6, [.ref (ad (20 + 4 * j)), .ref (ad (21 + 4 * j)), .long v])) = cW dT ad (xs_sl u (2 + j) v) := by
  match j, hj with
  | 0, _ => rfl
  | 1, _ => rfl
  | 2, _ => rfl
  | j + 3, h => exact absurd h (by omega)
theorem cW_S_beliefs {dT : Nat → ClassId} {ad : Nat → Nat} {u : xS} {j : Nat} (hj : j < 3) : (cW dT ad u)[(20 + 4 * j)]? = some (ad (20 + 4 * j), .inl (dT 1, 3, .inr (.inl (xs_L u (3 + j))))) := by
  match j, hj with
  | 0, _ => rfl
  | 1, _ => rfl
  | 2, _ => rfl
  | j + 3, h => exact absurd h (by omega)
theorem cW_s_S_beliefs {dT : Nat → ClassId} {ad : Nat → Nat} {u : xS} {j : Nat} (hj : j < 3) {q : Nat} {v : Int64} : (cW dT ad u).set (20 + 4 * j) (ad (20 + 4 * j), .inl (dT 1, 3, .inr (.inl (vp_updL (xs_L u (3 + j)) q v)))) = cW dT ad (xs_sL u (3 + j) q v) := by
  match j, hj with
  | 0, _ => rfl
  | 1, _ => rfl
  | 2, _ => rfl
  | j + 3, h => exact absurd h (by omega)
theorem cW_G {dT : Nat → ClassId} {ad : Nat → Nat} {u : xS} {j : Nat} (hj : j < 3) : (cW dT ad u)[(21 + 4 * j)]? = some (ad (21 + 4 * j), .inr (3, [.ref (ad (22 + 4 * j)), .int (xs_i u (3 + j)), .int (xs_i u (6 + j)), .int (xs_i u (9 + j))])) := by
  match j, hj with
  | 0, _ => rfl
  | 1, _ => rfl
  | 2, _ => rfl
  | j + 3, h => exact absurd h (by omega)
theorem cW_f_G_applied {dT : Nat → ClassId} {ad : Nat → Nat} {u : xS} {j : Nat} (hj : j < 3) {v : Int32} : (cW dT ad u).set (21 + 4 * j) (ad (21 + 4 * j), .inr (3, [.ref (ad (22 + 4 * j)), .int v, .int (xs_i u (6 + j)), .int (xs_i u (9 + j))])) = cW dT ad (xs_si u (3 + j) v) := by
  match j, hj with
  | 0, _ => rfl
  | 1, _ => rfl
  | 2, _ => rfl
  | j + 3, h => exact absurd h (by omega)
theorem cW_f_G_replayed {dT : Nat → ClassId} {ad : Nat → Nat} {u : xS} {j : Nat} (hj : j < 3) {v : Int32} : (cW dT ad u).set (21 + 4 * j) (ad (21 + 4 * j), .inr (3, [.ref (ad (22 + 4 * j)), .int (xs_i u (3 + j)), .int v, .int (xs_i u (9 + j))])) = cW dT ad (xs_si u (6 + j) v) := by
  match j, hj with
  | 0, _ => rfl
  | 1, _ => rfl
  | 2, _ => rfl
  | j + 3, h => exact absurd h (by omega)
theorem cW_f_G_moves {dT : Nat → ClassId} {ad : Nat → Nat} {u : xS} {j : Nat} (hj : j < 3) {v : Int32} : (cW dT ad u).set (21 + 4 * j) (ad (21 + 4 * j), .inr (3, [.ref (ad (22 + 4 * j)), .int (xs_i u (3 + j)), .int (xs_i u (6 + j)), .int v])) = cW dT ad (xs_si u (9 + j) v) := by
  match j, hj with
  | 0, _ => rfl
  | 1, _ => rfl
  | 2, _ => rfl
  | j + 3, h => exact absurd h (by omega)
theorem cW_G_operations {dT : Nat → ClassId} {ad : Nat → Nat} {u : xS} {j : Nat} (hj : j < 3) : (cW dT ad u)[(22 + 4 * j)]? = some (ad (22 + 4 * j), .inl (dT 0, 40, .inl (xs_I u (11 + j)))) := by
  match j, hj with
  | 0, _ => rfl
  | 1, _ => rfl
  | 2, _ => rfl
  | j + 3, h => exact absurd h (by omega)
theorem cW_s_G_operations {dT : Nat → ClassId} {ad : Nat → Nat} {u : xS} {j : Nat} (hj : j < 3) {q : Nat} {v : Int32} : (cW dT ad u).set (22 + 4 * j) (ad (22 + 4 * j), .inl (dT 0, 40, .inl (upd (xs_I u (11 + j)) q v))) = cW dT ad (xs_sI u (11 + j) q v) := by
  match j, hj with
  | 0, _ => rfl
  | 1, _ => rfl
  | 2, _ => rfl
  | j + 3, h => exact absurd h (by omega)
theorem cW_Ms {dT : Nat → ClassId} {ad : Nat → Nat} {u : xS} : (cW dT ad u)[31]? = some (ad 31, .inl (dT 4, 6, .inr (.inr (.inr (.inr (fun k => some (ad (32 + 3 * k)))))))) := rfl
theorem cW_M {dT : Nat → ClassId} {ad : Nat → Nat} {u : xS} {j : Nat} (hj : j < 6) : (cW dT ad u)[(32 + 3 * j)]? = some (ad (32 + 3 * j), .inr (4, [.ref (ad (33 + 3 * j)), .int (xs_i u (12 + j)), .int (xs_i u (18 + j)), .int (xs_i u (24 + j)), .long (xs_l u (5 + j))])) := by
  match j, hj with
  | 0, _ => rfl
  | 1, _ => rfl
  | 2, _ => rfl
  | 3, _ => rfl
  | 4, _ => rfl
  | 5, _ => rfl
  | j + 6, h => exact absurd h (by omega)
theorem cW_f_M_underWay {dT : Nat → ClassId} {ad : Nat → Nat} {u : xS} {j : Nat} (hj : j < 6) {v : Int32} : (cW dT ad u).set (32 + 3 * j) (ad (32 + 3 * j), .inr (4, [.ref (ad (33 + 3 * j)), .int v, .int (xs_i u (18 + j)), .int (xs_i u (24 + j)), .long (xs_l u (5 + j))])) = cW dT ad (xs_si u (12 + j) v) := by
  match j, hj with
  | 0, _ => rfl
  | 1, _ => rfl
  | 2, _ => rfl
  | 3, _ => rfl
  | 4, _ => rfl
  | 5, _ => rfl
  | j + 6, h => exact absurd h (by omega)
theorem cW_f_M_carried {dT : Nat → ClassId} {ad : Nat → Nat} {u : xS} {j : Nat} (hj : j < 6) {v : Int64} : (cW dT ad u).set (32 + 3 * j) (ad (32 + 3 * j), .inr (4, [.ref (ad (33 + 3 * j)), .int (xs_i u (12 + j)), .int (xs_i u (18 + j)), .int (xs_i u (24 + j)), .long v])) = cW dT ad (xs_sl u (5 + j) v) := by
  match j, hj with
  | 0, _ => rfl
  | 1, _ => rfl
  | 2, _ => rfl
  | 3, _ => rfl
  | 4, _ => rfl
  | 5, _ => rfl
  | j + 6, h => exact absurd h (by omega)
theorem cW_f_M_from {dT : Nat → ClassId} {ad : Nat → Nat} {u : xS} {j : Nat} (hj : j < 6) {v : Int32} : (cW dT ad u).set (32 + 3 * j) (ad (32 + 3 * j), .inr (4, [.ref (ad (33 + 3 * j)), .int (xs_i u (12 + j)), .int v, .int (xs_i u (24 + j)), .long (xs_l u (5 + j))])) = cW dT ad (xs_si u (18 + j) v) := by
  match j, hj with
  | 0, _ => rfl
  | 1, _ => rfl
  | 2, _ => rfl
  | 3, _ => rfl
  | 4, _ => rfl
  | 5, _ => rfl
  | j + 6, h => exact absurd h (by omega)
theorem cW_f_M_to {dT : Nat → ClassId} {ad : Nat → Nat} {u : xS} {j : Nat} (hj : j < 6) {v : Int32} : (cW dT ad u).set (32 + 3 * j) (ad (32 + 3 * j), .inr (4, [.ref (ad (33 + 3 * j)), .int (xs_i u (12 + j)), .int (xs_i u (18 + j)), .int v, .long (xs_l u (5 + j))])) = cW dT ad (xs_si u (24 + j) v) := by
  match j, hj with
  | 0, _ => rfl
  | 1, _ => rfl
  | 2, _ => rfl
  | 3, _ => rfl
  | 4, _ => rfl
  | 5, _ => rfl
  | j + 6, h => exact absurd h (by omega)
theorem cW_O {dT : Nat → ClassId} {ad : Nat → Nat} {u : xS} {j : Nat} (hj : j < 6) : (cW dT ad u)[(33 + 3 * j)]? = some (ad (33 + 3 * j), .inr (5, [.ref (ad (34 + 3 * j)), .int (xs_i u (30 + j))])) := by
  match j, hj with
  | 0, _ => rfl
  | 1, _ => rfl
  | 2, _ => rfl
  | 3, _ => rfl
  | 4, _ => rfl
  | 5, _ => rfl
  | j + 6, h => exact absurd h (by omega)
theorem cW_f_O_count {dT : Nat → ClassId} {ad : Nat → Nat} {u : xS} {j : Nat} (hj : j < 6) {v : Int32} : (cW dT ad u).set (33 + 3 * j) (ad (33 + 3 * j), .inr (5, [.ref (ad (34 + 3 * j)), .int v])) = cW dT ad (xs_si u (30 + j) v) := by
  match j, hj with
  | 0, _ => rfl
  | 1, _ => rfl
  | 2, _ => rfl
  | 3, _ => rfl
  | 4, _ => rfl
  | 5, _ => rfl
  | j + 6, h => exact absurd h (by omega)
theorem cW_O_row {dT : Nat → ClassId} {ad : Nat → Nat} {u : xS} {j : Nat} (hj : j < 6) : (cW dT ad u)[(34 + 3 * j)]? = some (ad (34 + 3 * j), .inl (dT 0, 442, .inl (xs_I u (14 + j)))) := by
  match j, hj with
  | 0, _ => rfl
  | 1, _ => rfl
  | 2, _ => rfl
  | 3, _ => rfl
  | 4, _ => rfl
  | 5, _ => rfl
  | j + 6, h => exact absurd h (by omega)
theorem cW_s_O_row {dT : Nat → ClassId} {ad : Nat → Nat} {u : xS} {j : Nat} (hj : j < 6) {q : Nat} {v : Int32} : (cW dT ad u).set (34 + 3 * j) (ad (34 + 3 * j), .inl (dT 0, 442, .inl (upd (xs_I u (14 + j)) q v))) = cW dT ad (xs_sI u (14 + j) q v) := by
  match j, hj with
  | 0, _ => rfl
  | 1, _ => rfl
  | 2, _ => rfl
  | 3, _ => rfl
  | 4, _ => rfl
  | 5, _ => rfl
  | j + 6, h => exact absurd h (by omega)
def mW (dT : Nat → ClassId) (ad : Nat → Nat) (u : xS) : va_W := [
  (ad 0, .inr (8, [.int (xs_i u 0), .ref (ad 1), .ref (ad 2), .ref (ad 3), .ref (ad 4), .ref (ad 5), .ref (ad 6), .ref (ad 7), .ref (ad 8), .ref (ad 9), .ref (ad 10), .ref (ad 11), .int (xs_i u 1), .ref (ad 12), .ref (ad 13), .ref (ad 14), .ref (ad 15), .ref (ad 16), .ref (ad 17), .ref (ad 18), .ref (ad 19), .ref (ad 20), .ref (ad 21), .int (xs_i u 2), .ref (ad 22), .int (xs_i u 3)])),
  (ad 1, .inl (dT 0, 40, .inl (xs_I u 0))),
  (ad 2, .inl (dT 0, 40, .inl (xs_I u 1))),
  (ad 3, .inl (dT 2, 40, .inl (xs_I u 2))),
  (ad 4, .inl (dT 0, 40, .inl (xs_I u 3))),
  (ad 5, .inl (dT 0, 40, .inl (xs_I u 4))),
  (ad 6, .inl (dT 1, 40, .inr (.inl (xs_L u 0)))),
  (ad 7, .inl (dT 1, 40, .inr (.inl (xs_L u 1)))),
  (ad 8, .inl (dT 0, 41, .inl (xs_I u 5))),
  (ad 9, .inl (dT 2, 41, .inl (xs_I u 6))),
  (ad 10, .inl (dT 0, 41, .inl (xs_I u 7))),
  (ad 11, .inl (dT 0, 40, .inl (xs_I u 8))),
  (ad 12, .inl (dT 1, 3, .inr (.inl (xs_L u 2)))),
  (ad 13, .inl (dT 1, 9, .inr (.inl (xs_L u 3)))),
  (ad 14, .inl (dT 1, 6, .inr (.inl (xs_L u 4)))),
  (ad 15, .inl (dT 0, 6, .inl (xs_I u 9))),
  (ad 16, .inl (dT 0, 6, .inl (xs_I u 10))),
  (ad 17, .inl (dT 0, 3, .inl (xs_I u 11))),
  (ad 18, .inl (dT 0, 3, .inl (xs_I u 12))),
  (ad 19, .inl (dT 0, 3, .inl (xs_I u 13))),
  (ad 20, .inl (dT 0, 120, .inl (xs_I u 14))),
  (ad 21, .inl (dT 0, 40, .inl (xs_I u 15))),
  (ad 22, .inl (dT 0, 460, .inl (xs_I u 16)))]
theorem mW_X {dT : Nat → ClassId} {ad : Nat → Nat} {u : xS} : (mW dT ad u)[0]? = some (ad 0, .inr (8, [.int (xs_i u 0), .ref (ad 1), .ref (ad 2), .ref (ad 3), .ref (ad 4), .ref (ad 5), .ref (ad 6), .ref (ad 7), .ref (ad 8), .ref (ad 9), .ref (ad 10), .ref (ad 11), .int (xs_i u 1), .ref (ad 12), .ref (ad 13), .ref (ad 14), .ref (ad 15), .ref (ad 16), .ref (ad 17), .ref (ad 18), .ref (ad 19), .ref (ad 20), .ref (ad 21), .int (xs_i u 2), .ref (ad 22), .int (xs_i u 3)])) := rfl
theorem mW_f_X_made {dT : Nat → ClassId} {ad : Nat → Nat} {u : xS} {v : Int32} : (mW dT ad u).set 0 (ad 0, .inr (8, [.int v, .ref (ad 1), .ref (ad 2), .ref (ad 3), .ref (ad 4), .ref (ad 5), .ref (ad 6), .ref (ad 7), .ref (ad 8), .ref (ad 9), .ref (ad 10), .ref (ad 11), .int (xs_i u 1), .ref (ad 12), .ref (ad 13), .ref (ad 14), .ref (ad 15), .ref (ad 16), .ref (ad 17), .ref (ad 18), .ref (ad 19), .ref (ad 20), .ref (ad 21), .int (xs_i u 2), .ref (ad 22), .int (xs_i u 3)])) = mW dT ad (xs_si u 0 v) := rfl
theorem mW_f_X_chars {dT : Nat → ClassId} {ad : Nat → Nat} {u : xS} {v : Int32} : (mW dT ad u).set 0 (ad 0, .inr (8, [.int (xs_i u 0), .ref (ad 1), .ref (ad 2), .ref (ad 3), .ref (ad 4), .ref (ad 5), .ref (ad 6), .ref (ad 7), .ref (ad 8), .ref (ad 9), .ref (ad 10), .ref (ad 11), .int v, .ref (ad 12), .ref (ad 13), .ref (ad 14), .ref (ad 15), .ref (ad 16), .ref (ad 17), .ref (ad 18), .ref (ad 19), .ref (ad 20), .ref (ad 21), .int (xs_i u 2), .ref (ad 22), .int (xs_i u 3)])) = mW dT ad (xs_si u 1 v) := rfl
theorem mW_f_X_turns {dT : Nat → ClassId} {ad : Nat → Nat} {u : xS} {v : Int32} : (mW dT ad u).set 0 (ad 0, .inr (8, [.int (xs_i u 0), .ref (ad 1), .ref (ad 2), .ref (ad 3), .ref (ad 4), .ref (ad 5), .ref (ad 6), .ref (ad 7), .ref (ad 8), .ref (ad 9), .ref (ad 10), .ref (ad 11), .int (xs_i u 1), .ref (ad 12), .ref (ad 13), .ref (ad 14), .ref (ad 15), .ref (ad 16), .ref (ad 17), .ref (ad 18), .ref (ad 19), .ref (ad 20), .ref (ad 21), .int v, .ref (ad 22), .int (xs_i u 3)])) = mW dT ad (xs_si u 2 v) := rfl
theorem mW_f_X_size {dT : Nat → ClassId} {ad : Nat → Nat} {u : xS} {v : Int32} : (mW dT ad u).set 0 (ad 0, .inr (8, [.int (xs_i u 0), .ref (ad 1), .ref (ad 2), .ref (ad 3), .ref (ad 4), .ref (ad 5), .ref (ad 6), .ref (ad 7), .ref (ad 8), .ref (ad 9), .ref (ad 10), .ref (ad 11), .int (xs_i u 1), .ref (ad 12), .ref (ad 13), .ref (ad 14), .ref (ad 15), .ref (ad 16), .ref (ad 17), .ref (ad 18), .ref (ad 19), .ref (ad 20), .ref (ad 21), .int (xs_i u 2), .ref (ad 22), .int v])) = mW dT ad (xs_si u 3 v) := rfl
theorem mW_X_site {dT : Nat → ClassId} {ad : Nat → Nat} {u : xS} : (mW dT ad u)[1]? = some (ad 1, .inl (dT 0, 40, .inl (xs_I u 0))) := rfl
theorem mW_s_X_site {dT : Nat → ClassId} {ad : Nat → Nat} {u : xS} {q : Nat} {v : Int32} : (mW dT ad u).set 1 (ad 1, .inl (dT 0, 40, .inl (upd (xs_I u 0) q v))) = mW dT ad (xs_sI u 0 q v) := rfl
theorem mW_X_number {dT : Nat → ClassId} {ad : Nat → Nat} {u : xS} : (mW dT ad u)[2]? = some (ad 2, .inl (dT 0, 40, .inl (xs_I u 1))) := rfl
theorem mW_s_X_number {dT : Nat → ClassId} {ad : Nat → Nat} {u : xS} {q : Nat} {v : Int32} : (mW dT ad u).set 2 (ad 2, .inl (dT 0, 40, .inl (upd (xs_I u 1) q v))) = mW dT ad (xs_sI u 1 q v) := rfl
theorem mW_X_inserts {dT : Nat → ClassId} {ad : Nat → Nat} {u : xS} : (mW dT ad u)[3]? = some (ad 3, .inl (dT 2, 40, .inl (xs_I u 2))) := rfl
theorem mW_s_X_inserts {dT : Nat → ClassId} {ad : Nat → Nat} {u : xS} {q : Nat} {v : Int32} : (mW dT ad u).set 3 (ad 3, .inl (dT 2, 40, .inl (upd (xs_I u 2) q v))) = mW dT ad (xs_sI u 2 q v) := rfl
theorem mW_X_index {dT : Nat → ClassId} {ad : Nat → Nat} {u : xS} : (mW dT ad u)[4]? = some (ad 4, .inl (dT 0, 40, .inl (xs_I u 3))) := rfl
theorem mW_s_X_index {dT : Nat → ClassId} {ad : Nat → Nat} {u : xS} {q : Nat} {v : Int32} : (mW dT ad u).set 4 (ad 4, .inl (dT 0, 40, .inl (upd (xs_I u 3) q v))) = mW dT ad (xs_sI u 3 q v) := rfl
theorem mW_X_letter {dT : Nat → ClassId} {ad : Nat → Nat} {u : xS} : (mW dT ad u)[5]? = some (ad 5, .inl (dT 0, 40, .inl (xs_I u 4))) := rfl
theorem mW_s_X_letter {dT : Nat → ClassId} {ad : Nat → Nat} {u : xS} {q : Nat} {v : Int32} : (mW dT ad u).set 5 (ad 5, .inl (dT 0, 40, .inl (upd (xs_I u 4) q v))) = mW dT ad (xs_sI u 4 q v) := rfl
theorem mW_X_earlier {dT : Nat → ClassId} {ad : Nat → Nat} {u : xS} : (mW dT ad u)[6]? = some (ad 6, .inl (dT 1, 40, .inr (.inl (xs_L u 0)))) := rfl
theorem mW_s_X_earlier {dT : Nat → ClassId} {ad : Nat → Nat} {u : xS} {q : Nat} {v : Int64} : (mW dT ad u).set 6 (ad 6, .inl (dT 1, 40, .inr (.inl (vp_updL (xs_L u 0) q v)))) = mW dT ad (xs_sL u 0 q v) := rfl
theorem mW_X_parents {dT : Nat → ClassId} {ad : Nat → Nat} {u : xS} : (mW dT ad u)[7]? = some (ad 7, .inl (dT 1, 40, .inr (.inl (xs_L u 1)))) := rfl
theorem mW_s_X_parents {dT : Nat → ClassId} {ad : Nat → Nat} {u : xS} {q : Nat} {v : Int64} : (mW dT ad u).set 7 (ad 7, .inl (dT 1, 40, .inr (.inl (vp_updL (xs_L u 1) q v)))) = mW dT ad (xs_sL u 1 q v) := rfl
theorem mW_X_place {dT : Nat → ClassId} {ad : Nat → Nat} {u : xS} : (mW dT ad u)[8]? = some (ad 8, .inl (dT 0, 41, .inl (xs_I u 5))) := rfl
theorem mW_s_X_place {dT : Nat → ClassId} {ad : Nat → Nat} {u : xS} {q : Nat} {v : Int32} : (mW dT ad u).set 8 (ad 8, .inl (dT 0, 41, .inl (upd (xs_I u 5) q v))) = mW dT ad (xs_sI u 5 q v) := rfl
theorem mW_X_right {dT : Nat → ClassId} {ad : Nat → Nat} {u : xS} : (mW dT ad u)[9]? = some (ad 9, .inl (dT 2, 41, .inl (xs_I u 6))) := rfl
theorem mW_s_X_right {dT : Nat → ClassId} {ad : Nat → Nat} {u : xS} {q : Nat} {v : Int32} : (mW dT ad u).set 9 (ad 9, .inl (dT 2, 41, .inl (upd (xs_I u 6) q v))) = mW dT ad (xs_sI u 6 q v) := rfl
theorem mW_X_depth {dT : Nat → ClassId} {ad : Nat → Nat} {u : xS} : (mW dT ad u)[10]? = some (ad 10, .inl (dT 0, 41, .inl (xs_I u 7))) := rfl
theorem mW_s_X_depth {dT : Nat → ClassId} {ad : Nat → Nat} {u : xS} {q : Nat} {v : Int32} : (mW dT ad u).set 10 (ad 10, .inl (dT 0, 41, .inl (upd (xs_I u 7) q v))) = mW dT ad (xs_sI u 7 q v) := rfl
theorem mW_X_row {dT : Nat → ClassId} {ad : Nat → Nat} {u : xS} : (mW dT ad u)[11]? = some (ad 11, .inl (dT 0, 40, .inl (xs_I u 8))) := rfl
theorem mW_s_X_row {dT : Nat → ClassId} {ad : Nat → Nat} {u : xS} {q : Nat} {v : Int32} : (mW dT ad u).set 11 (ad 11, .inl (dT 0, 40, .inl (upd (xs_I u 8) q v))) = mW dT ad (xs_sI u 8 q v) := rfl
theorem mW_X_graph {dT : Nat → ClassId} {ad : Nat → Nat} {u : xS} : (mW dT ad u)[12]? = some (ad 12, .inl (dT 1, 3, .inr (.inl (xs_L u 2)))) := rfl
theorem mW_s_X_graph {dT : Nat → ClassId} {ad : Nat → Nat} {u : xS} {q : Nat} {v : Int64} : (mW dT ad u).set 12 (ad 12, .inl (dT 1, 3, .inr (.inl (vp_updL (xs_L u 2) q v)))) = mW dT ad (xs_sL u 2 q v) := rfl
theorem mW_X_thought {dT : Nat → ClassId} {ad : Nat → Nat} {u : xS} : (mW dT ad u)[13]? = some (ad 13, .inl (dT 1, 9, .inr (.inl (xs_L u 3)))) := rfl
theorem mW_s_X_thought {dT : Nat → ClassId} {ad : Nat → Nat} {u : xS} {q : Nat} {v : Int64} : (mW dT ad u).set 13 (ad 13, .inl (dT 1, 9, .inr (.inl (vp_updL (xs_L u 3) q v)))) = mW dT ad (xs_sL u 3 q v) := rfl
theorem mW_X_load {dT : Nat → ClassId} {ad : Nat → Nat} {u : xS} : (mW dT ad u)[14]? = some (ad 14, .inl (dT 1, 6, .inr (.inl (xs_L u 4)))) := rfl
theorem mW_s_X_load {dT : Nat → ClassId} {ad : Nat → Nat} {u : xS} {q : Nat} {v : Int64} : (mW dT ad u).set 14 (ad 14, .inl (dT 1, 6, .inr (.inl (vp_updL (xs_L u 4) q v)))) = mW dT ad (xs_sL u 4 q v) := rfl
theorem mW_X_sender {dT : Nat → ClassId} {ad : Nat → Nat} {u : xS} : (mW dT ad u)[15]? = some (ad 15, .inl (dT 0, 6, .inl (xs_I u 9))) := rfl
theorem mW_s_X_sender {dT : Nat → ClassId} {ad : Nat → Nat} {u : xS} {q : Nat} {v : Int32} : (mW dT ad u).set 15 (ad 15, .inl (dT 0, 6, .inl (upd (xs_I u 9) q v))) = mW dT ad (xs_sI u 9 q v) := rfl
theorem mW_X_receiver {dT : Nat → ClassId} {ad : Nat → Nat} {u : xS} : (mW dT ad u)[16]? = some (ad 16, .inl (dT 0, 6, .inl (xs_I u 10))) := rfl
theorem mW_s_X_receiver {dT : Nat → ClassId} {ad : Nat → Nat} {u : xS} {q : Nat} {v : Int32} : (mW dT ad u).set 16 (ad 16, .inl (dT 0, 6, .inl (upd (xs_I u 10) q v))) = mW dT ad (xs_sI u 10 q v) := rfl
theorem mW_X_again {dT : Nat → ClassId} {ad : Nat → Nat} {u : xS} : (mW dT ad u)[17]? = some (ad 17, .inl (dT 0, 3, .inl (xs_I u 11))) := rfl
theorem mW_s_X_again {dT : Nat → ClassId} {ad : Nat → Nat} {u : xS} {q : Nat} {v : Int32} : (mW dT ad u).set 17 (ad 17, .inl (dT 0, 3, .inl (upd (xs_I u 11) q v))) = mW dT ad (xs_sI u 11 q v) := rfl
theorem mW_X_shifts {dT : Nat → ClassId} {ad : Nat → Nat} {u : xS} : (mW dT ad u)[18]? = some (ad 18, .inl (dT 0, 3, .inl (xs_I u 12))) := rfl
theorem mW_s_X_shifts {dT : Nat → ClassId} {ad : Nat → Nat} {u : xS} {q : Nat} {v : Int32} : (mW dT ad u).set 18 (ad 18, .inl (dT 0, 3, .inl (upd (xs_I u 12) q v))) = mW dT ad (xs_sI u 12 q v) := rfl
theorem mW_X_dones {dT : Nat → ClassId} {ad : Nat → Nat} {u : xS} : (mW dT ad u)[19]? = some (ad 19, .inl (dT 0, 3, .inl (xs_I u 13))) := rfl
theorem mW_s_X_dones {dT : Nat → ClassId} {ad : Nat → Nat} {u : xS} {q : Nat} {v : Int32} : (mW dT ad u).set 19 (ad 19, .inl (dT 0, 3, .inl (upd (xs_I u 13) q v))) = mW dT ad (xs_sI u 13 q v) := rfl
theorem mW_X_did {dT : Nat → ClassId} {ad : Nat → Nat} {u : xS} : (mW dT ad u)[20]? = some (ad 20, .inl (dT 0, 120, .inl (xs_I u 14))) := rfl
theorem mW_s_X_did {dT : Nat → ClassId} {ad : Nat → Nat} {u : xS} {q : Nat} {v : Int32} : (mW dT ad u).set 20 (ad 20, .inl (dT 0, 120, .inl (upd (xs_I u 14) q v))) = mW dT ad (xs_sI u 14 q v) := rfl
theorem mW_X_turn {dT : Nat → ClassId} {ad : Nat → Nat} {u : xS} : (mW dT ad u)[21]? = some (ad 21, .inl (dT 0, 40, .inl (xs_I u 15))) := rfl
theorem mW_s_X_turn {dT : Nat → ClassId} {ad : Nat → Nat} {u : xS} {q : Nat} {v : Int32} : (mW dT ad u).set 21 (ad 21, .inl (dT 0, 40, .inl (upd (xs_I u 15) q v))) = mW dT ad (xs_sI u 15 q v) := rfl
theorem mW_X_out {dT : Nat → ClassId} {ad : Nat → Nat} {u : xS} : (mW dT ad u)[22]? = some (ad 22, .inl (dT 0, 460, .inl (xs_I u 16))) := rfl
theorem mW_s_X_out {dT : Nat → ClassId} {ad : Nat → Nat} {u : xS} {q : Nat} {v : Int32} : (mW dT ad u).set 22 (ad 22, .inl (dT 0, 460, .inl (upd (xs_I u 16) q v))) = mW dT ad (xs_sI u 16 q v) := rfl
end
section
def m_Text_isSite (a0 : Int32) : Option Int32 :=
  (if a0 < 0 then
    some (0 : Int32)
  else
    (if (3 : Int32) ≤ a0 then
      some (0 : Int32)
    else
      some (1 : Int32)))
def m_History_isFull (u : xS) : Option Int32 :=
  (if (xs_i u 0) < (40 : Int32) then
    some (0 : Int32)
  else
    some (1 : Int32))
def m_Text_bit (a0 : Int32) : Option Int64 :=
  some (xShl (1 : Int64) a0)
def m_Text_has (a0 : Int64) (a2 : Int32) : Option Int32 :=
  (if a2 < 0 then
    some (0 : Int32)
  else
    xb1 (m_Text_bit a2) fun r6 =>
    (if (a0 &&& r6) = (0 : Int64) then
      some (0 : Int32)
    else
      some (1 : Int32)))
def m_CharacterList_shownIn_s5 (k5 : Int64 → Int64 → Int32 → xS → Option Int64) (b1 : Int64) (b3 : Int64) (b5 : Int32) (u : xS) : Option Int64 :=
  (if (40 : Int32) ≤ b5 then
    some ((b1 &&& (xs_l u 1)) &&& (b3 ^^^ (-1 : Int64)))
  else
    xb1 (m_Text_has (b1 &&& (xs_l u 0)) b5) fun r20 =>
    (if r20 = 0 then
      k5 b1 b3 (b5 + (1 : Int32)) u
    else
      xg (xin b5 40) <|
      xb1 (m_Text_bit (xs_I u 9 b5.toNatClampNeg)) fun r34 =>
      k5 b1 (b3 ||| r34) (b5 + (1 : Int32)) u))
def m_CharacterList_shownIn_l5 : Nat → Int64 → Int64 → Int32 → xS → Option Int64
  | 0, _, _, _, _ => none
  | n + 1, b1, b3, b5, u => m_CharacterList_shownIn_s5 (m_CharacterList_shownIn_l5 n) b1 b3 b5 u
def m_CharacterList_shownIn (a1 : Int64) (u : xS) : Option Int64 :=
  m_CharacterList_shownIn_l5 xFU a1 (0 : Int64) (0 : Int32) u
def m_Long_bitCount (a0 : Int64) : Option Int32 :=
  some (((((((((((a0 - ((xUshr a0 (1 : Int32)) &&& (6148914691236517205 : Int64))) &&& (3689348814741910323 : Int64)) + ((xUshr (a0 - ((xUshr a0 (1 : Int32)) &&& (6148914691236517205 : Int64))) (2 : Int32)) &&& (3689348814741910323 : Int64))) + (xUshr (((a0 - ((xUshr a0 (1 : Int32)) &&& (6148914691236517205 : Int64))) &&& (3689348814741910323 : Int64)) + ((xUshr (a0 - ((xUshr a0 (1 : Int32)) &&& (6148914691236517205 : Int64))) (2 : Int32)) &&& (3689348814741910323 : Int64))) (4 : Int32))) &&& (1085102592571150095 : Int64)) + (xUshr (((((a0 - ((xUshr a0 (1 : Int32)) &&& (6148914691236517205 : Int64))) &&& (3689348814741910323 : Int64)) + ((xUshr (a0 - ((xUshr a0 (1 : Int32)) &&& (6148914691236517205 : Int64))) (2 : Int32)) &&& (3689348814741910323 : Int64))) + (xUshr (((a0 - ((xUshr a0 (1 : Int32)) &&& (6148914691236517205 : Int64))) &&& (3689348814741910323 : Int64)) + ((xUshr (a0 - ((xUshr a0 (1 : Int32)) &&& (6148914691236517205 : Int64))) (2 : Int32)) &&& (3689348814741910323 : Int64))) (4 : Int32))) &&& (1085102592571150095 : Int64)) (8 : Int32))) + (xUshr ((((((a0 - ((xUshr a0 (1 : Int32)) &&& (6148914691236517205 : Int64))) &&& (3689348814741910323 : Int64)) + ((xUshr (a0 - ((xUshr a0 (1 : Int32)) &&& (6148914691236517205 : Int64))) (2 : Int32)) &&& (3689348814741910323 : Int64))) + (xUshr (((a0 - ((xUshr a0 (1 : Int32)) &&& (6148914691236517205 : Int64))) &&& (3689348814741910323 : Int64)) + ((xUshr (a0 - ((xUshr a0 (1 : Int32)) &&& (6148914691236517205 : Int64))) (2 : Int32)) &&& (3689348814741910323 : Int64))) (4 : Int32))) &&& (1085102592571150095 : Int64)) + (xUshr (((((a0 - ((xUshr a0 (1 : Int32)) &&& (6148914691236517205 : Int64))) &&& (3689348814741910323 : Int64)) + ((xUshr (a0 - ((xUshr a0 (1 : Int32)) &&& (6148914691236517205 : Int64))) (2 : Int32)) &&& (3689348814741910323 : Int64))) + (xUshr (((a0 - ((xUshr a0 (1 : Int32)) &&& (6148914691236517205 : Int64))) &&& (3689348814741910323 : Int64)) + ((xUshr (a0 - ((xUshr a0 (1 : Int32)) &&& (6148914691236517205 : Int64))) (2 : Int32)) &&& (3689348814741910323 : Int64))) (4 : Int32))) &&& (1085102592571150095 : Int64)) (8 : Int32))) (16 : Int32))) + (xUshr (((((((a0 - ((xUshr a0 (1 : Int32)) &&& (6148914691236517205 : Int64))) &&& (3689348814741910323 : Int64)) + ((xUshr (a0 - ((xUshr a0 (1 : Int32)) &&& (6148914691236517205 : Int64))) (2 : Int32)) &&& (3689348814741910323 : Int64))) + (xUshr (((a0 - ((xUshr a0 (1 : Int32)) &&& (6148914691236517205 : Int64))) &&& (3689348814741910323 : Int64)) + ((xUshr (a0 - ((xUshr a0 (1 : Int32)) &&& (6148914691236517205 : Int64))) (2 : Int32)) &&& (3689348814741910323 : Int64))) (4 : Int32))) &&& (1085102592571150095 : Int64)) + (xUshr (((((a0 - ((xUshr a0 (1 : Int32)) &&& (6148914691236517205 : Int64))) &&& (3689348814741910323 : Int64)) + ((xUshr (a0 - ((xUshr a0 (1 : Int32)) &&& (6148914691236517205 : Int64))) (2 : Int32)) &&& (3689348814741910323 : Int64))) + (xUshr (((a0 - ((xUshr a0 (1 : Int32)) &&& (6148914691236517205 : Int64))) &&& (3689348814741910323 : Int64)) + ((xUshr (a0 - ((xUshr a0 (1 : Int32)) &&& (6148914691236517205 : Int64))) (2 : Int32)) &&& (3689348814741910323 : Int64))) (4 : Int32))) &&& (1085102592571150095 : Int64)) (8 : Int32))) + (xUshr ((((((a0 - ((xUshr a0 (1 : Int32)) &&& (6148914691236517205 : Int64))) &&& (3689348814741910323 : Int64)) + ((xUshr (a0 - ((xUshr a0 (1 : Int32)) &&& (6148914691236517205 : Int64))) (2 : Int32)) &&& (3689348814741910323 : Int64))) + (xUshr (((a0 - ((xUshr a0 (1 : Int32)) &&& (6148914691236517205 : Int64))) &&& (3689348814741910323 : Int64)) + ((xUshr (a0 - ((xUshr a0 (1 : Int32)) &&& (6148914691236517205 : Int64))) (2 : Int32)) &&& (3689348814741910323 : Int64))) (4 : Int32))) &&& (1085102592571150095 : Int64)) + (xUshr (((((a0 - ((xUshr a0 (1 : Int32)) &&& (6148914691236517205 : Int64))) &&& (3689348814741910323 : Int64)) + ((xUshr (a0 - ((xUshr a0 (1 : Int32)) &&& (6148914691236517205 : Int64))) (2 : Int32)) &&& (3689348814741910323 : Int64))) + (xUshr (((a0 - ((xUshr a0 (1 : Int32)) &&& (6148914691236517205 : Int64))) &&& (3689348814741910323 : Int64)) + ((xUshr (a0 - ((xUshr a0 (1 : Int32)) &&& (6148914691236517205 : Int64))) (2 : Int32)) &&& (3689348814741910323 : Int64))) (4 : Int32))) &&& (1085102592571150095 : Int64)) (8 : Int32))) (16 : Int32))) (32 : Int32)))).toInt32) &&& (127 : Int32))
def m_CharacterList_shownAt_s6 (k6 : Int64 → Int32 → Int32 → Int32 → xS → Option Int32) (b1 : Int64) (b3 : Int32) (b4 : Int32) (b5 : Int32) (u : xS) : Option Int32 :=
  (if (xs_i u 1) ≤ b5 then
    some (-1 : Int32)
  else
    xg (xin b5 40) <|
    xb1 (m_Text_has b1 (xs_I u 6 b5.toNatClampNeg)) fun r23 =>
    (if r23 = 0 then
      k6 b1 b3 b4 (b5 + (1 : Int32)) u
    else
      (if b4 = b3 then
        some (xs_I u 6 b5.toNatClampNeg)
      else
        k6 b1 b3 (b4 + (1 : Int32)) (b5 + (1 : Int32)) u)))
def m_CharacterList_shownAt_l6 : Nat → Int64 → Int32 → Int32 → Int32 → xS → Option Int32
  | 0, _, _, _, _, _ => none
  | n + 1, b1, b3, b4, b5, u => m_CharacterList_shownAt_s6 (m_CharacterList_shownAt_l6 n) b1 b3 b4 b5 u
def m_CharacterList_shownAt (a1 : Int64) (a3 : Int32) (u : xS) : Option Int32 :=
  m_CharacterList_shownAt_l6 xFU a1 a3 (0 : Int32) (0 : Int32) u
def m_History_parentsOfAll_s5 (k5 : Int64 → Int64 → Int32 → xS → Option Int64) (b1 : Int64) (b3 : Int64) (b5 : Int32) (u : xS) : Option Int64 :=
  (if (xs_i u 0) ≤ b5 then
    some b3
  else
    xb1 (m_Text_has b1 b5) fun r17 =>
    (if r17 = 0 then
      k5 b1 b3 (b5 + (1 : Int32)) u
    else
      xg (xin b5 40) <|
      k5 b1 (b3 ||| (xs_L u 0 b5.toNatClampNeg)) (b5 + (1 : Int32)) u))
def m_History_parentsOfAll_l5 : Nat → Int64 → Int64 → Int32 → xS → Option Int64
  | 0, _, _, _, _ => none
  | n + 1, b1, b3, b5, u => m_History_parentsOfAll_s5 (m_History_parentsOfAll_l5 n) b1 b3 b5 u
def m_History_parentsOfAll (a1 : Int64) (u : xS) : Option Int64 :=
  m_History_parentsOfAll_l5 xFU a1 (0 : Int64) (0 : Int32) u
def m_History_headsOf (a1 : Int64) (u : xS) : Option Int64 :=
  xb1 (m_History_parentsOfAll a1 u) fun r3 =>
  some (a1 &&& (r3 ^^^ (-1 : Int64)))
def m_History_record (a1 : Int32) (a2 : Int32) (a3 : Int32) (a4 : Int64) (u : xS) : Option (Int32 × xS) :=
  xg (xin (xs_i u 0) 40) <|
  xlt (xs_sI u 0 (xs_i u 0).toNatClampNeg a1) fun w13 =>
  xg (xin a1 3) <|
  xlt (xs_sI w13 1 (xs_i u 0).toNatClampNeg (xs_I w13 5 a1.toNatClampNeg)) fun w26 =>
  xlt (xs_sI w26 2 (xs_i u 0).toNatClampNeg a2) fun w34 =>
  xlt (xs_sI w34 3 (xs_i u 0).toNatClampNeg a3) fun w42 =>
  xb1 (m_History_headsOf a4 w42) fun r52 =>
  xlt (xs_sL w42 0 (xs_i u 0).toNatClampNeg r52) fun w55 =>
  xlt (xs_sL w55 1 (xs_i u 0).toNatClampNeg a4) fun w64 =>
  xg (xin ((a1 * (40 : Int32)) + (xs_I w64 5 a1.toNatClampNeg)) 120) <|
  xlt (xs_sI w64 4 ((a1 * (40 : Int32)) + (xs_I w64 5 a1.toNatClampNeg)).toNatClampNeg (xs_i u 0)) fun w82 =>
  xlt (xs_sI w82 5 a1.toNatClampNeg ((xs_I w82 5 a1.toNatClampNeg) + (1 : Int32))) fun w92 =>
  xlt (xs_si w92 0 ((xs_i w92 0) + (1 : Int32))) fun w100 =>
  some ((xs_i u 0), w100)
def m_CharacterList_childrenOf_s5 (k5 : Int32 → Int32 → Int64 → Int32 → xS → Option Int64) (b1 : Int32) (b2 : Int32) (b3 : Int64) (b5 : Int32) (u : xS) : Option Int64 :=
  (if (xs_i u 1) ≤ b5 then
    some b3
  else
    xg (xin b5 40) <|
    xg (xin (xs_I u 6 b5.toNatClampNeg) 40) <|
    (if (xs_I u 7 (xs_I u 6 b5.toNatClampNeg).toNatClampNeg) = b1 then
      (if (xs_I u 8 (xs_I u 6 b5.toNatClampNeg).toNatClampNeg) = b2 then
        xb1 (m_Text_bit (xs_I u 6 b5.toNatClampNeg)) fun r48 =>
        k5 b1 b2 (b3 ||| r48) (b5 + (1 : Int32)) u
      else
        k5 b1 b2 b3 (b5 + (1 : Int32)) u)
    else
      k5 b1 b2 b3 (b5 + (1 : Int32)) u))
def m_CharacterList_childrenOf_l5 : Nat → Int32 → Int32 → Int64 → Int32 → xS → Option Int64
  | 0, _, _, _, _, _ => none
  | n + 1, b1, b2, b3, b5, u => m_CharacterList_childrenOf_s5 (m_CharacterList_childrenOf_l5 n) b1 b2 b3 b5 u
def m_CharacterList_childrenOf (a1 : Int32) (a2 : Int32) (u : xS) : Option Int64 :=
  m_CharacterList_childrenOf_l5 xFU a1 a2 (0 : Int64) (0 : Int32) u
def m_CharacterList_nextBehind_b51 (k15 : Int32 → Int64 → Int32 → Int32 → xS → Option Int32) (b1 : Int32) (b2 : Int64) (b4 : Int32) (b5 : Int32) (u : xS) : Option Int32 :=
  (if b4 = 0 then
    xg (xin b5 40) <|
    (if (xs_I u 6 b5.toNatClampNeg) = b1 then
      k15 b1 b2 (1 : Int32) (b5 + (1 : Int32)) u
    else
      k15 b1 b2 (0 : Int32) (b5 + (1 : Int32)) u)
  else
    k15 b1 b2 (1 : Int32) (b5 + (1 : Int32)) u)
def m_CharacterList_nextBehind_s15 (k15 : Int32 → Int64 → Int32 → Int32 → xS → Option Int32) (b1 : Int32) (b2 : Int64) (b4 : Int32) (b5 : Int32) (u : xS) : Option Int32 :=
  (if (xs_i u 1) ≤ b5 then
    some (-1 : Int32)
  else
    (if b4 = 0 then
      m_CharacterList_nextBehind_b51 k15 b1 b2 b4 b5 u
    else
      xg (xin b5 40) <|
      xb1 (m_Text_has b2 (xs_I u 6 b5.toNatClampNeg)) fun r37 =>
      (if r37 = 0 then
        m_CharacterList_nextBehind_b51 k15 b1 b2 b4 b5 u
      else
        some (xs_I u 6 b5.toNatClampNeg))))
def m_CharacterList_nextBehind_l15 : Nat → Int32 → Int64 → Int32 → Int32 → xS → Option Int32
  | 0, _, _, _, _, _ => none
  | n + 1, b1, b2, b4, b5, u => m_CharacterList_nextBehind_s15 (m_CharacterList_nextBehind_l15 n) b1 b2 b4 b5 u
def m_CharacterList_nextBehind (a1 : Int32) (a2 : Int64) (u : xS) : Option Int32 :=
  (if a1 = (-1 : Int32) then
    m_CharacterList_nextBehind_l15 xFU a1 a2 (1 : Int32) (0 : Int32) u
  else
    m_CharacterList_nextBehind_l15 xFU a1 a2 (0 : Int32) (0 : Int32) u)
def m_History_comesBefore (a1 : Int32) (a2 : Int32) (u : xS) : Option Int32 :=
  xg (xin a1 40) <|
  xg (xin a2 40) <|
  (if (xs_I u 0 a1.toNatClampNeg) = (xs_I u 0 a2.toNatClampNeg) then
    (if (xs_I u 1 a2.toNatClampNeg) ≤ (xs_I u 1 a1.toNatClampNeg) then
      some (0 : Int32)
    else
      some (1 : Int32))
  else
    (if (xs_I u 0 a2.toNatClampNeg) ≤ (xs_I u 0 a1.toNatClampNeg) then
      some (0 : Int32)
    else
      some (1 : Int32)))
def m_CharacterList_nearerSiblings_s15 (k15 : Int32 → Int32 → Int64 → Int64 → Int32 → xS → Option Int64) (b2 : Int32) (b4 : Int32) (b5 : Int64) (b7 : Int64) (b9 : Int32) (u : xS) : Option Int64 :=
  (if (xs_i u 1) ≤ b9 then
    some b7
  else
    xg (xin b9 40) <|
    xb1 (m_Text_has b5 (xs_I u 6 b9.toNatClampNeg)) fun r37 =>
    (if r37 = 0 then
      k15 b2 b4 b5 b7 (b9 + (1 : Int32)) u
    else
      xb1 (m_History_comesBefore (xs_I u 6 b9.toNatClampNeg) b2 u) fun r47 =>
      (if r47 = b4 then
        xb1 (m_Text_bit (xs_I u 6 b9.toNatClampNeg)) fun r59 =>
        k15 b2 b4 b5 (b7 ||| r59) (b9 + (1 : Int32)) u
      else
        k15 b2 b4 b5 b7 (b9 + (1 : Int32)) u)))
def m_CharacterList_nearerSiblings_l15 : Nat → Int32 → Int32 → Int64 → Int64 → Int32 → xS → Option Int64
  | 0, _, _, _, _, _, _ => none
  | n + 1, b2, b4, b5, b7, b9, u => m_CharacterList_nearerSiblings_s15 (m_CharacterList_nearerSiblings_l15 n) b2 b4 b5 b7 b9 u
def m_CharacterList_nearerSiblings (a2 : Int32) (a3 : Int32) (a4 : Int32) (u : xS) : Option Int64 :=
  xb1 (m_CharacterList_childrenOf a3 a4 u) fun r4 =>
  m_CharacterList_nearerSiblings_l15 xFU a2 a4 r4 (0 : Int64) (0 : Int32) u
def m_CharacterList_rightPosition_s16 (k16 : Int32 → Int64 → Int32 → xS → Option Int32) (b3 : Int32) (b4 : Int64) (b6 : Int32) (u : xS) : Option Int32 :=
  (if b6 ≤ 0 then
    some b6
  else
    xg (xin (b6 - (1 : Int32)) 40) <|
    (if (xs_I u 6 (b6 - (1 : Int32)).toNatClampNeg) = b3 then
      some b6
    else
      xg (xin (xs_I u 6 (b6 - (1 : Int32)).toNatClampNeg) 40) <|
      (if ((xs_L u 2 (xs_I u 6 (b6 - (1 : Int32)).toNatClampNeg).toNatClampNeg) &&& b4) = (0 : Int64) then
        k16 b3 b4 (b6 + (-1 : Int32)) u
      else
        some b6)))
def m_CharacterList_rightPosition_l16 : Nat → Int32 → Int64 → Int32 → xS → Option Int32
  | 0, _, _, _, _ => none
  | n + 1, b3, b4, b6, u => m_CharacterList_rightPosition_s16 (m_CharacterList_rightPosition_l16 n) b3 b4 b6 u
def m_CharacterList_rightPosition (a2 : Int32) (a3 : Int32) (u : xS) : Option Int32 :=
  xb1 (m_CharacterList_nearerSiblings a2 a3 (1 : Int32) u) fun r5 =>
  m_CharacterList_rightPosition_l16 xFU a3 r5 (xs_i u 1) u
def m_CharacterList_leftPosition_s13 (k13 : Int32 → Int64 → Int32 → xS → Option Int32) (b3 : Int32) (b4 : Int64) (b6 : Int32) (u : xS) : Option Int32 :=
  (if (xs_i u 1) ≤ b6 then
    some b6
  else
    xg (xin b6 40) <|
    (if (xs_I u 6 b6.toNatClampNeg) = b3 then
      some b6
    else
      xg (xin (xs_I u 6 b6.toNatClampNeg) 40) <|
      (if ((xs_L u 2 (xs_I u 6 b6.toNatClampNeg).toNatClampNeg) &&& b4) = (0 : Int64) then
        k13 b3 b4 (b6 + (1 : Int32)) u
      else
        some b6)))
def m_CharacterList_leftPosition_l13 : Nat → Int32 → Int64 → Int32 → xS → Option Int32
  | 0, _, _, _, _ => none
  | n + 1, b3, b4, b6, u => m_CharacterList_leftPosition_s13 (m_CharacterList_leftPosition_l13 n) b3 b4 b6 u
def m_CharacterList_leftPosition (a2 : Int32) (a3 : Int32) (u : xS) : Option Int32 :=
  xb1 (m_CharacterList_nearerSiblings a2 a3 (0 : Int32) u) fun r5 =>
  m_CharacterList_leftPosition_l13 xFU a3 r5 (0 : Int32) u
def m_CharacterList_putBehind_s115 (k115 : Int32 → Int32 → Int32 → xS → Option xS) (b2 : Int32) (b8 : Int32) (b9 : Int32) (u : xS) : Option xS :=
  (if b9 ≤ b8 then
    xg (xin b8 40) <|
    xlt (xs_sI u 6 b8.toNatClampNeg b2) fun w151 =>
    xb1 (m_Text_bit b2) fun r158 =>
    xlt (xs_sl w151 1 ((xs_l w151 1) ||| r158)) fun w162 =>
    xlt (xs_si w162 1 ((xs_i w162 1) + (1 : Int32))) fun w172 =>
    some w172
  else
    xg (xin (b9 - (1 : Int32)) 40) <|
    xg (xin b9 40) <|
    xlt (xs_sI u 6 b9.toNatClampNeg (xs_I u 6 (b9 - (1 : Int32)).toNatClampNeg)) fun w137 =>
    k115 b2 b8 (b9 + (-1 : Int32)) w137)
def m_CharacterList_putBehind_l115 : Nat → Int32 → Int32 → Int32 → xS → Option xS
  | 0, _, _, _, _ => none
  | n + 1, b2, b8, b9, u => m_CharacterList_putBehind_s115 (m_CharacterList_putBehind_l115 n) b2 b8 b9 u
def m_CharacterList_putBehind_b81 (b2 : Int32) (b6 : Int32) (b7 : Int32) (t0 : Int64) (t1 : Int64) (t2 : Int32) (u : xS) : Option xS :=
  xg (xin t2 40) <|
  xlt (xs_sL u 2 t2.toNatClampNeg (t1 ||| t0)) fun w82 =>
  (if b6 = 0 then
    xb1 (m_CharacterList_leftPosition b2 b7 w82) fun r104 =>
    m_CharacterList_putBehind_l115 xFU b2 r104 (xs_i w82 1) w82
  else
    xb1 (m_CharacterList_rightPosition b2 b7 w82) fun r93 =>
    m_CharacterList_putBehind_l115 xFU b2 r93 (xs_i w82 1) w82)
def m_CharacterList_putBehind_b37 (b2 : Int32) (b6 : Int32) (t0 : Int32) (u : xS) : Option xS :=
  xg (xin b2 40) <|
  xlt (xs_sI u 7 b2.toNatClampNeg t0) fun w46 =>
  xlt (xs_sI w46 8 b2.toNatClampNeg (vp_nar .boolean b6)) fun w54 =>
  xb1 (m_Text_bit b2) fun r61 =>
  (if t0 = (-1 : Int32) then
    m_CharacterList_putBehind_b81 b2 b6 t0 (0 : Int64) r61 b2 w54
  else
    xg (xin t0 40) <|
    m_CharacterList_putBehind_b81 b2 b6 t0 (xs_L w54 2 t0.toNatClampNeg) r61 b2 w54)
def m_CharacterList_putBehind_b19 (b2 : Int32) (b3 : Int32) (b4 : Int64) (t0 : Int32) (u : xS) : Option xS :=
  (if t0 = 0 then
    xb1 (m_CharacterList_nextBehind b3 b4 u) fun r34 =>
    m_CharacterList_putBehind_b37 b2 t0 r34 u
  else
    m_CharacterList_putBehind_b37 b2 t0 b3 u)
def m_CharacterList_putBehind (a2 : Int32) (a3 : Int32) (a4 : Int64) (u : xS) : Option xS :=
  xb1 (m_CharacterList_childrenOf a3 (1 : Int32) u) fun r3 =>
  (if (r3 &&& a4) = (0 : Int64) then
    m_CharacterList_putBehind_b19 a2 a3 a4 (1 : Int32) u
  else
    m_CharacterList_putBehind_b19 a2 a3 a4 (0 : Int32) u)
def m_History_numberOf (a1 : Int32) (u : xS) : Option Int32 :=
  xg (xin a1 40) <|
  some (xs_I u 1 a1.toNatClampNeg)
def m_Text_insert_b92 (b1 : Int32) (b2 : Int32) (b3 : Int32) (b4 : Int64) (t0 : Int32) (u : xS) : Option (Int32 × xS) :=
  xb2 (m_History_record b1 b2 b3 b4 u) fun r103 u103 =>
  xb1 (m_CharacterList_putBehind r103 t0 b4 u103) fun u122 =>
  xg (xin b1 3) <|
  xb1 (m_Text_bit r103) fun r135 =>
  xlt (xs_sl u122 (2 + (b1.toNatClampNeg)) (b4 ||| r135)) fun w139 =>
  xb1 (m_History_numberOf r103 w139) fun r148 =>
  some (r148, w139)
def m_Text_insert (a1 : Int32) (a2 : Int32) (a3 : Int32) (u : xS) : Option (Int32 × xS) :=
  xb1 (m_Text_isSite a1) fun r1 =>
  (if r1 = 0 then
    some ((-1000 : Int32), u)
  else
    (if a3 < (32 : Int32) then
      some ((-1000 : Int32), u)
    else
      (if (126 : Int32) < a3 then
        some ((-1000 : Int32), u)
      else
        xb1 (m_History_isFull u) fun r23 =>
        (if r23 = 0 then
          xg (xin a1 3) <|
          xb1 (m_CharacterList_shownIn (xs_l u (2 + (a1.toNatClampNeg))) u) fun r50 =>
          (if a2 < 0 then
            some ((-1000 : Int32), u)
          else
            xb1 (m_Long_bitCount r50) fun r62 =>
            (if a2 ≤ r62 then
              (if a2 = 0 then
                m_Text_insert_b92 a1 a2 a3 (xs_l u (2 + (a1.toNatClampNeg))) (-1 : Int32) u
              else
                xb1 (m_CharacterList_shownAt r50 (a2 - (1 : Int32)) u) fun r89 =>
                m_Text_insert_b92 a1 a2 a3 (xs_l u (2 + (a1.toNatClampNeg))) r89 u)
            else
              some ((-1000 : Int32), u)))
        else
          some ((-1000 : Int32), u)))))
def m_CharacterList_hide (a1 : Int32) (a2 : Int32) (u : xS) : Option xS :=
  xg (xin a1 40) <|
  xlt (xs_sI u 9 a1.toNatClampNeg a2) fun w6 =>
  xb1 (m_Text_bit a1) fun r13 =>
  xlt (xs_sl w6 0 ((xs_l w6 0) ||| r13)) fun w17 =>
  some w17
def m_Text_delete (a1 : Int32) (a2 : Int32) (u : xS) : Option (Int32 × xS) :=
  xb1 (m_Text_isSite a1) fun r1 =>
  (if r1 = 0 then
    some ((-1000 : Int32), u)
  else
    xb1 (m_History_isFull u) fun r11 =>
    (if r11 = 0 then
      xg (xin a1 3) <|
      xb1 (m_CharacterList_shownIn (xs_l u (2 + (a1.toNatClampNeg))) u) fun r40 =>
      xb1 (m_CharacterList_shownAt r40 a2 u) fun r44 =>
      (if r44 = (-1 : Int32) then
        some ((-1000 : Int32), u)
      else
        xb2 (m_History_record a1 a2 (-1 : Int32) (xs_l u (2 + (a1.toNatClampNeg))) u) fun r67 u67 =>
        xb1 (m_CharacterList_hide r67 r44 u67) fun u80 =>
        xb1 (m_Text_bit r67) fun r92 =>
        xlt (xs_sl u80 (2 + (a1.toNatClampNeg)) ((xs_l u (2 + (a1.toNatClampNeg))) ||| r92)) fun w96 =>
        xb1 (m_History_numberOf r67 w96) fun r105 =>
        some (r105, w96))
    else
      some ((-1000 : Int32), u)))
def m_Text_length (a1 : Int32) (u : xS) : Option Int32 :=
  xb1 (m_Text_isSite a1) fun r1 =>
  (if r1 = 0 then
    some (-1000 : Int32)
  else
    xg (xin a1 3) <|
    xb1 (m_CharacterList_shownIn (xs_l u (2 + (a1.toNatClampNeg))) u) fun r20 =>
    xb1 (m_Long_bitCount r20) fun r23 =>
    some r23)
def m_History_characterOf (a1 : Int32) (u : xS) : Option Int32 :=
  xg (xin a1 40) <|
  some (xs_I u 3 a1.toNatClampNeg)
def m_Text_at (a1 : Int32) (a2 : Int32) (u : xS) : Option Int32 :=
  xb1 (m_Text_isSite a1) fun r1 =>
  (if r1 = 0 then
    some (-1000 : Int32)
  else
    xg (xin a1 3) <|
    xb1 (m_CharacterList_shownIn (xs_l u (2 + (a1.toNatClampNeg))) u) fun r28 =>
    xb1 (m_CharacterList_shownAt r28 a2 u) fun r32 =>
    (if r32 = (-1 : Int32) then
      some (-1000 : Int32)
    else
      xb1 (m_History_characterOf r32 u) fun r52 =>
      some r52))
def m_Text_areTwoSites (a0 : Int32) (a1 : Int32) : Option Int32 :=
  xb1 (m_Text_isSite a0) fun r1 =>
  (if r1 = 0 then
    some (0 : Int32)
  else
    xb1 (m_Text_isSite a1) fun r8 =>
    (if r8 = 0 then
      some (0 : Int32)
    else
      (if a0 = a1 then
        some (0 : Int32)
      else
        some (1 : Int32))))
def m_Text_freeNumber_s2 (k2 : Int32 → xS → Option Int32) (b1 : Int32) (u : xS) : Option Int32 :=
  (if (6 : Int32) ≤ b1 then
    some b1
  else
    xg (xin b1 6) <|
    (if (xs_i u (12 + (b1.toNatClampNeg))) = 0 then
      some b1
    else
      k2 (b1 + (1 : Int32)) u))
def m_Text_freeNumber_l2 : Nat → Int32 → xS → Option Int32
  | 0, _, _ => none
  | n + 1, b1, u => m_Text_freeNumber_s2 (m_Text_freeNumber_l2 n) b1 u
def m_Text_freeNumber (u : xS) : Option Int32 :=
  m_Text_freeNumber_l2 xFU (0 : Int32) u
def m_History_leastOf_s5 (k5 : Int64 → Int32 → Int32 → xS → Option Int32) (b1 : Int64) (b3 : Int32) (b4 : Int32) (u : xS) : Option Int32 :=
  (if (xs_i u 0) ≤ b4 then
    some b3
  else
    xb1 (m_Text_has b1 b4) fun r17 =>
    (if r17 = 0 then
      k5 b1 b3 (b4 + (1 : Int32)) u
    else
      (if b3 = (-1 : Int32) then
        k5 b1 b4 (b4 + (1 : Int32)) u
      else
        xb1 (m_History_comesBefore b4 b3 u) fun r32 =>
        (if r32 = 0 then
          k5 b1 b3 (b4 + (1 : Int32)) u
        else
          k5 b1 b4 (b4 + (1 : Int32)) u))))
def m_History_leastOf_l5 : Nat → Int64 → Int32 → Int32 → xS → Option Int32
  | 0, _, _, _, _ => none
  | n + 1, b1, b3, b4, u => m_History_leastOf_s5 (m_History_leastOf_l5 n) b1 b3 b4 u
def m_History_leastOf (a1 : Int64) (u : xS) : Option Int32 :=
  m_History_leastOf_l5 xFU a1 (-1 : Int32) (0 : Int32) u
def m_History_nextOf_b96 (t0 : Int64) (u : xS) : Option Int32 :=
  xb1 (m_History_leastOf t0 u) fun r96 =>
  some r96
def m_History_nextOf_s9 (k9 : Int64 → Int32 → Int64 → Int64 → Int32 → xS → Option Int32) (b1 : Int64) (b3 : Int32) (b4 : Int64) (b6 : Int64) (b8 : Int32) (u : xS) : Option Int32 :=
  (if (xs_i u 0) ≤ b8 then
    (if b6 = (0 : Int64) then
      m_History_nextOf_b96 b4 u
    else
      m_History_nextOf_b96 b6 u)
  else
    xb1 (m_Text_has b1 b8) fun r21 =>
    (if r21 = 0 then
      k9 b1 b3 b4 b6 (b8 + (1 : Int32)) u
    else
      xg (xin b8 40) <|
      (if ((xs_L u 0 b8.toNatClampNeg) &&& b1) = (0 : Int64) then
        xb1 (m_Text_bit b8) fun r45 =>
        xb1 (m_Text_has (xs_L u 0 b8.toNatClampNeg) b3) fun r59 =>
        (if r59 = 0 then
          k9 b1 b3 (b4 ||| r45) b6 (b8 + (1 : Int32)) u
        else
          xb1 (m_Text_bit b8) fun r69 =>
          k9 b1 b3 (b4 ||| r45) (b6 ||| r69) (b8 + (1 : Int32)) u)
      else
        k9 b1 b3 b4 b6 (b8 + (1 : Int32)) u)))
def m_History_nextOf_l9 : Nat → Int64 → Int32 → Int64 → Int64 → Int32 → xS → Option Int32
  | 0, _, _, _, _, _, _ => none
  | n + 1, b1, b3, b4, b6, b8, u => m_History_nextOf_s9 (m_History_nextOf_l9 n) b1 b3 b4 b6 b8 u
def m_History_nextOf (a1 : Int64) (a3 : Int32) (u : xS) : Option Int32 :=
  m_History_nextOf_l9 xFU a1 a3 (0 : Int64) (0 : Int64) (0 : Int32) u
def m_Line_arrange_s17 (k17 : Int64 → Int32 → xS → Option xS) (b4 : Int64) (b6 : Int32) (u : xS) : Option xS :=
  (if (40 : Int32) ≤ (xs_i u 2) then
    some u
  else
    (if b6 = (-1 : Int32) then
      some u
    else
      xg (xin (xs_i u 2) 40) <|
      xlt (xs_sI u 10 (xs_i u 2).toNatClampNeg b6) fun w42 =>
      xlt (xs_si w42 2 ((xs_i w42 2) + (1 : Int32))) fun w50 =>
      xb1 (m_Text_bit b6) fun r57 =>
      xb1 (m_History_nextOf (b4 &&& (r57 ^^^ (-1 : Int64))) b6 w50) fun r72 =>
      k17 (b4 &&& (r57 ^^^ (-1 : Int64))) r72 w50))
def m_Line_arrange_l17 : Nat → Int64 → Int32 → xS → Option xS
  | 0, _, _, _ => none
  | n + 1, b4, b6, u => m_Line_arrange_s17 (m_Line_arrange_l17 n) b4 b6 u
def m_Line_arrange (a2 : Int64) (u : xS) : Option xS :=
  xb1 (m_History_nextOf a2 (-1 : Int32) u) fun r7 =>
  xlt (xs_si u 2 (0 : Int32)) fun w14 =>
  m_Line_arrange_l17 xFU a2 r7 w14
def m_Message_start (j : Nat) (a1 : Int32) (a2 : Int32) (a3 : Int64) (u : xS) : Option xS :=
  xlt (xs_si u (12 + j) (1 : Int32)) fun w2 =>
  xlt (xs_si w2 (18 + j) a1) fun w7 =>
  xlt (xs_si w7 (24 + j) a2) fun w12 =>
  xlt (xs_sl w12 (5 + j) a3) fun w17 =>
  some w17
def m_OctetRow_clear (j : Nat) (u : xS) : Option xS :=
  xlt (xs_si u (30 + j) (0 : Int32)) fun w2 =>
  some w2
def m_Line_size (u : xS) : Option Int32 :=
  some (xs_i u 2)
def m_OctetRow_add (j : Nat) (a1 : Int32) (u : xS) : Option xS :=
  (if (442 : Int32) ≤ (xs_i u (30 + j)) then
    some u
  else
    xg (xin (xs_i u (30 + j)) 442) <|
    xlt (xs_sI u (14 + j) (xs_i u (30 + j)).toNatClampNeg a1) fun w19 =>
    xlt (xs_si w19 (30 + j) ((xs_i w19 (30 + j)) + (1 : Int32))) fun w27 =>
    some w27)
def m_OctetRow_put_b38 (j : Nat) (b2 : Int32) (u : xS) : Option xS :=
  xb1 (m_OctetRow_add j b2 u) fun u40 =>
  some u40
def m_OctetRow_put_s4 (k4 : Nat → Int32 → Int32 → xS → Option xS) (j : Nat) (b2 : Int32) (b3 : Int32) (u : xS) : Option xS :=
  (if (5 : Int32) ≤ b3 then
    m_OctetRow_put_b38 j b2 u
  else
    (if b2 ≤ (127 : Int32) then
      m_OctetRow_put_b38 j b2 u
    else
      xb1 (m_OctetRow_add j ((128 : Int32) + (b2 &&& (127 : Int32))) u) fun u24 =>
      k4 j (b2 >>> ((7 : Int32) &&& 31)) (b3 + (1 : Int32)) u24))
def m_OctetRow_put_l4 : Nat → Nat → Int32 → Int32 → xS → Option xS
  | 0, _, _, _, _ => none
  | n + 1, j, b2, b3, u => m_OctetRow_put_s4 (m_OctetRow_put_l4 n) j b2 b3 u
def m_OctetRow_put (j : Nat) (a1 : Int32) (u : xS) : Option xS :=
  m_OctetRow_put_l4 xFU j a1 (1 : Int32) u
def m_Line_get (a1 : Int32) (u : xS) : Option Int32 :=
  xg (xin a1 40) <|
  some (xs_I u 10 a1.toNatClampNeg)
def m_History_siteOf (a1 : Int32) (u : xS) : Option Int32 :=
  xg (xin a1 40) <|
  some (xs_I u 0 a1.toNatClampNeg)
def m_Message_writeSites_b49 (k5 : Nat → Int32 → Int32 → xS → Option xS) (j : Nat) (b3 : Int32) (b4 : Int32) (b5 : Int32) (u : xS) : Option xS :=
  xb1 (m_OctetRow_put j b5 u) fun u55 =>
  xb1 (m_Line_get b3 u55) fun r65 =>
  xb1 (m_History_numberOf r65 u55) fun r68 =>
  xb1 (m_OctetRow_put j r68 u55) fun u71 =>
  xb1 (m_OctetRow_put j (b4 - b3) u71) fun u82 =>
  k5 j b4 (b4 + (1 : Int32)) u82
def m_Message_writeSites_s5 (k5 : Nat → Int32 → Int32 → xS → Option xS) (j : Nat) (b3 : Int32) (b4 : Int32) (u : xS) : Option xS :=
  xb1 (m_Line_size u) fun r8 =>
  (if r8 < b4 then
    some u
  else
    xb1 (m_Line_get b3 u) fun r17 =>
    xb1 (m_History_siteOf r17 u) fun r20 =>
    xb1 (m_Line_size u) fun r28 =>
    (if b4 = r28 then
      m_Message_writeSites_b49 k5 j b3 b4 r20 u
    else
      xb1 (m_Line_get b4 u) fun r38 =>
      xb1 (m_History_siteOf r38 u) fun r41 =>
      (if r41 = r20 then
        k5 j b3 (b4 + (1 : Int32)) u
      else
        m_Message_writeSites_b49 k5 j b3 b4 r20 u)))
def m_Message_writeSites_l5 : Nat → Nat → Int32 → Int32 → xS → Option xS
  | 0, _, _, _, _ => none
  | n + 1, j, b3, b4, u => m_Message_writeSites_s5 (m_Message_writeSites_l5 n) j b3 b4 u
def m_Message_writeSites (j : Nat) (u : xS) : Option xS :=
  m_Message_writeSites_l5 xFU j (0 : Int32) (1 : Int32) u
def m_History_isInsert (a1 : Int32) (u : xS) : Option Int32 :=
  xg (xin a1 40) <|
  (if (xs_I u 3 a1.toNatClampNeg) = (-1 : Int32) then
    some (0 : Int32)
  else
    some (1 : Int32))
def m_Message_writeKinds_s8 (k8 : Nat → Int32 → Int32 → Int32 → xS → Option xS) (j : Nat) (b3 : Int32) (b4 : Int32) (b5 : Int32) (u : xS) : Option xS :=
  xb1 (m_Line_size u) fun r11 =>
  (if r11 ≤ b5 then
    xb1 (m_OctetRow_put j b4 u) fun u68 =>
    some u68
  else
    xb1 (m_Line_get b5 u) fun r21 =>
    xb1 (m_History_isInsert r21 u) fun r24 =>
    (if r24 = b3 then
      k8 j b3 (b4 + (1 : Int32)) (b5 + (1 : Int32)) u
    else
      xb1 (m_OctetRow_put j b4 u) fun u37 =>
      (if b3 = 0 then
        k8 j (1 : Int32) ((0 : Int32) + (1 : Int32)) (b5 + (1 : Int32)) u37
      else
        k8 j (0 : Int32) ((0 : Int32) + (1 : Int32)) (b5 + (1 : Int32)) u37)))
def m_Message_writeKinds_l8 : Nat → Nat → Int32 → Int32 → Int32 → xS → Option xS
  | 0, _, _, _, _, _ => none
  | n + 1, j, b3, b4, b5, u => m_Message_writeKinds_s8 (m_Message_writeKinds_l8 n) j b3 b4 b5 u
def m_Message_writeKinds (j : Nat) (u : xS) : Option xS :=
  m_Message_writeKinds_l8 xFU j (1 : Int32) (0 : Int32) (0 : Int32) u
def m_History_indexOf (a1 : Int32) (u : xS) : Option Int32 :=
  xg (xin a1 40) <|
  some (xs_I u 2 a1.toNatClampNeg)
def m_OctetRow_putSigned_b17 (j : Nat) (t0 : Int32) (u : xS) : Option xS :=
  xb1 (m_OctetRow_put j t0 u) fun u17 =>
  some u17
def m_OctetRow_putSigned (j : Nat) (a1 : Int32) (u : xS) : Option xS :=
  (if 0 ≤ a1 then
    m_OctetRow_putSigned_b17 j ((2 : Int32) * a1) u
  else
    m_OctetRow_putSigned_b17 j (((-2 : Int32) * a1) - (1 : Int32)) u)
def m_Message_writeIndices_s5 (k5 : Nat → Int32 → Int32 → xS → Option xS) (j : Nat) (b3 : Int32) (b4 : Int32) (u : xS) : Option xS :=
  xb1 (m_Line_size u) fun r8 =>
  (if r8 ≤ b4 then
    some u
  else
    xb1 (m_Line_get b4 u) fun r18 =>
    xb1 (m_History_indexOf r18 u) fun r21 =>
    xb1 (m_OctetRow_putSigned j (r21 - b3) u) fun u34 =>
    k5 j r21 (b4 + (1 : Int32)) u34)
def m_Message_writeIndices_l5 : Nat → Nat → Int32 → Int32 → xS → Option xS
  | 0, _, _, _, _ => none
  | n + 1, j, b3, b4, u => m_Message_writeIndices_s5 (m_Message_writeIndices_l5 n) j b3 b4 u
def m_Message_writeIndices (j : Nat) (u : xS) : Option xS :=
  m_Message_writeIndices_l5 xFU j (0 : Int32) (0 : Int32) u
def m_Message_writeCharacters_s5 (k5 : Nat → Int32 → Int32 → xS → Option xS) (j : Nat) (b3 : Int32) (b4 : Int32) (u : xS) : Option xS :=
  xb1 (m_Line_size u) fun r8 =>
  (if r8 ≤ b4 then
    some u
  else
    xb1 (m_Line_get b4 u) fun r18 =>
    xb1 (m_History_isInsert r18 u) fun r21 =>
    (if r21 = 0 then
      k5 j b3 (b4 + (1 : Int32)) u
    else
      xb1 (m_Line_get b4 u) fun r31 =>
      xb1 (m_History_characterOf r31 u) fun r34 =>
      xb1 (m_OctetRow_putSigned j (r34 - b3) u) fun u47 =>
      k5 j r34 (b4 + (1 : Int32)) u47))
def m_Message_writeCharacters_l5 : Nat → Nat → Int32 → Int32 → xS → Option xS
  | 0, _, _, _, _ => none
  | n + 1, j, b3, b4, u => m_Message_writeCharacters_s5 (m_Message_writeCharacters_l5 n) j b3 b4 u
def m_Message_writeCharacters (j : Nat) (u : xS) : Option xS :=
  m_Message_writeCharacters_l5 xFU j (0 : Int32) (0 : Int32) u
def m_History_parentsOf (a1 : Int32) (u : xS) : Option Int64 :=
  xg (xin a1 40) <|
  some (xs_L u 0 a1.toNatClampNeg)
def m_History_codeOf (a1 : Int32) (u : xS) : Option Int32 :=
  xg (xin a1 40) <|
  some ((xs_I u 0 a1.toNatClampNeg) + ((3 : Int32) * (xs_I u 1 a1.toNatClampNeg)))
def m_Message_writeParentList_s31 (k31 : Nat → Int32 → Int64 → Int32 → Int32 → xS → Option xS) (j : Nat) (b4 : Int32) (b5 : Int64) (b7 : Int32) (b8 : Int32) (u : xS) : Option xS :=
  (if b4 ≤ b8 then
    some u
  else
    (if b7 = (-1 : Int32) then
      some u
    else
      xb1 (m_History_codeOf b7 u) fun r51 =>
      xb1 (m_OctetRow_put j r51 u) fun u54 =>
      xb1 (m_Text_bit b7) fun r61 =>
      xb1 (m_History_leastOf (b5 &&& (r61 ^^^ (-1 : Int64))) u54) fun r74 =>
      k31 j b4 (b5 &&& (r61 ^^^ (-1 : Int64))) r74 (b8 + (1 : Int32)) u54))
def m_Message_writeParentList_l31 : Nat → Nat → Int32 → Int64 → Int32 → Int32 → xS → Option xS
  | 0, _, _, _, _, _, _ => none
  | n + 1, j, b4, b5, b7, b8, u => m_Message_writeParentList_s31 (m_Message_writeParentList_l31 n) j b4 b5 b7 b8 u
def m_Message_writeParentList (j : Nat) (a2 : Int64) (u : xS) : Option xS :=
  xb1 (m_Long_bitCount a2) fun r1 =>
  xb1 (m_History_leastOf a2 u) fun r12 =>
  xb1 (m_OctetRow_put j ((1 : Int32) + r1) u) fun u25 =>
  m_Message_writeParentList_l31 xFU j r1 a2 r12 (0 : Int32) u25
def m_Message_writeParents_b52 (k2 : Nat → Int32 → xS → Option xS) (j : Nat) (b3 : Int32) (b4 : Int64) (u : xS) : Option xS :=
  xb1 (m_Message_writeParentList j b4 u) fun u56 =>
  k2 j (b3 + (1 : Int32)) u56
def m_Message_writeParents_s2 (k2 : Nat → Int32 → xS → Option xS) (j : Nat) (b3 : Int32) (u : xS) : Option xS :=
  xb1 (m_Line_size u) fun r4 =>
  (if r4 ≤ b3 then
    some u
  else
    xb1 (m_Line_get b3 u) fun r13 =>
    xb1 (m_History_parentsOf r13 u) fun r16 =>
    (if b3 ≤ 0 then
      m_Message_writeParents_b52 k2 j b3 r16 u
    else
      xb1 (m_Line_get (b3 - (1 : Int32)) u) fun r31 =>
      xb1 (m_Text_bit r31) fun r34 =>
      (if r16 = r34 then
        xb1 (m_OctetRow_put j (0 : Int32) u) fun u46 =>
        k2 j (b3 + (1 : Int32)) u46
      else
        m_Message_writeParents_b52 k2 j b3 r16 u)))
def m_Message_writeParents_l2 : Nat → Nat → Int32 → xS → Option xS
  | 0, _, _, _ => none
  | n + 1, j, b3, u => m_Message_writeParents_s2 (m_Message_writeParents_l2 n) j b3 u
def m_Message_writeParents (j : Nat) (u : xS) : Option xS :=
  m_Message_writeParents_l2 xFU j (0 : Int32) u
def m_Message_write (j : Nat) (u : xS) : Option xS :=
  xb1 (m_OctetRow_clear j u) fun u4 =>
  xb1 (m_Line_size u4) fun r12 =>
  xb1 (m_OctetRow_put j r12 u4) fun u15 =>
  xb1 (m_Message_writeSites j u15) fun u21 =>
  xb1 (m_Message_writeKinds j u21) fun u27 =>
  xb1 (m_Message_writeIndices j u27) fun u33 =>
  xb1 (m_Message_writeCharacters j u33) fun u39 =>
  xb1 (m_Message_writeParents j u39) fun u45 =>
  some u45
def m_Text_send (a1 : Int32) (a2 : Int32) (u : xS) : Option (Int32 × xS) :=
  xb1 (m_Text_areTwoSites a1 a2) fun r2 =>
  (if r2 = 0 then
    some ((-1000 : Int32), u)
  else
    xg (xin a1 3) <|
    xg (xin a2 3) <|
    xb1 (m_Text_freeNumber u) fun r37 =>
    (if ((xs_l u (2 + (a1.toNatClampNeg))) &&& ((xs_L u (3 + (a1.toNatClampNeg)) a2.toNatClampNeg) ^^^ (-1 : Int64))) = (0 : Int64) then
      some ((-1000 : Int32), u)
    else
      (if r37 = (6 : Int32) then
        some ((-1000 : Int32), u)
      else
        xb1 (m_Line_arrange ((xs_l u (2 + (a1.toNatClampNeg))) &&& ((xs_L u (3 + (a1.toNatClampNeg)) a2.toNatClampNeg) ^^^ (-1 : Int64))) u) fun u70 =>
        xg (xin r37 6) <|
        xb1 (m_Message_start (r37.toNatClampNeg) a1 a2 ((xs_l u (2 + (a1.toNatClampNeg))) &&& ((xs_L u (3 + (a1.toNatClampNeg)) a2.toNatClampNeg) ^^^ (-1 : Int64))) u70) fun u84 =>
        xb1 (m_Message_write (r37.toNatClampNeg) u84) fun u102 =>
        xlt (xs_sL u102 (3 + (a1.toNatClampNeg)) a2.toNatClampNeg (xs_l u102 (2 + (a1.toNatClampNeg)))) fun w114 =>
        some (r37, w114))))
def m_Text_isUnderWay (a1 : Int32) (u : xS) : Option Int32 :=
  (if a1 < 0 then
    some (0 : Int32)
  else
    (if (6 : Int32) ≤ a1 then
      some (0 : Int32)
    else
      xg (xin a1 6) <|
      (if (xs_i u (12 + (a1.toNatClampNeg))) = 0 then
        some (0 : Int32)
      else
        some (1 : Int32))))
def m_History_withAncestors_s5 (k5 : Int64 → Int64 → Int32 → xS → Option Int64) (b1 : Int64) (b3 : Int64) (b5 : Int32) (u : xS) : Option Int64 :=
  (if (xs_i u 0) ≤ b5 then
    some b3
  else
    xb1 (m_Text_has b1 b5) fun r17 =>
    (if r17 = 0 then
      k5 b1 b3 (b5 + (1 : Int32)) u
    else
      xg (xin b5 40) <|
      k5 b1 (b3 ||| (xs_L u 1 b5.toNatClampNeg)) (b5 + (1 : Int32)) u))
def m_History_withAncestors_l5 : Nat → Int64 → Int64 → Int32 → xS → Option Int64
  | 0, _, _, _, _ => none
  | n + 1, b1, b3, b5, u => m_History_withAncestors_s5 (m_History_withAncestors_l5 n) b1 b3 b5 u
def m_History_withAncestors (a1 : Int64) (u : xS) : Option Int64 :=
  m_History_withAncestors_l5 xFU a1 a1 (0 : Int32) u
def m_History_upTo (a1 : Int32) (u : xS) : Option Int64 :=
  (if a1 = (-1 : Int32) then
    some (0 : Int64)
  else
    xg (xin a1 40) <|
    xb1 (m_Text_bit a1) fun r16 =>
    some ((xs_L u 1 a1.toNatClampNeg) ||| r16))
def m_History_descendantsOf_s8 (k8 : Int32 → Int64 → Int64 → Int32 → xS → Option Int64) (b1 : Int32) (b2 : Int64) (b4 : Int64) (b6 : Int32) (u : xS) : Option Int64 :=
  (if (xs_i u 0) ≤ b6 then
    some b4
  else
    xb1 (m_Text_has b2 b6) fun r20 =>
    (if r20 = 0 then
      k8 b1 b2 b4 (b6 + (1 : Int32)) u
    else
      xg (xin b6 40) <|
      xb1 (m_Text_has (xs_L u 1 b6.toNatClampNeg) b1) fun r34 =>
      (if r34 = 0 then
        k8 b1 b2 b4 (b6 + (1 : Int32)) u
      else
        xb1 (m_Text_bit b6) fun r44 =>
        k8 b1 b2 (b4 ||| r44) (b6 + (1 : Int32)) u)))
def m_History_descendantsOf_l8 : Nat → Int32 → Int64 → Int64 → Int32 → xS → Option Int64
  | 0, _, _, _, _, _ => none
  | n + 1, b1, b2, b4, b6, u => m_History_descendantsOf_s8 (m_History_descendantsOf_l8 n) b1 b2 b4 b6 u
def m_History_descendantsOf (a1 : Int32) (a2 : Int64) (u : xS) : Option Int64 :=
  m_History_descendantsOf_l8 xFU a1 a2 (0 : Int64) (a1 + (1 : Int32)) u
def m_History_isCritical (a1 : Int32) (a2 : Int64) (u : xS) : Option Int32 :=
  xb1 (m_History_upTo a1 u) fun r3 =>
  xb1 (m_History_descendantsOf a1 a2 u) fun r9 =>
  (if (a2 &&& ((r3 ||| r9) ^^^ (-1 : Int64))) = (0 : Int64) then
    some (1 : Int32)
  else
    some (0 : Int32))
def m_History_lastCritical_s8 (k8 : Int64 → Int64 → Int32 → xS → Option Int32) (b1 : Int64) (b3 : Int64) (b5 : Int32) (u : xS) : Option Int32 :=
  (if b5 < 0 then
    some (-1 : Int32)
  else
    xb1 (m_Text_has b3 b5) fun r16 =>
    (if r16 = 0 then
      k8 b1 b3 (b5 + (-1 : Int32)) u
    else
      xb1 (m_History_isCritical b5 b1 u) fun r26 =>
      (if r26 = 0 then
        k8 b1 b3 (b5 + (-1 : Int32)) u
      else
        some b5)))
def m_History_lastCritical_l8 : Nat → Int64 → Int64 → Int32 → xS → Option Int32
  | 0, _, _, _, _ => none
  | n + 1, b1, b3, b5, u => m_History_lastCritical_s8 (m_History_lastCritical_l8 n) b1 b3 b5 u
def m_History_lastCritical (a1 : Int64) (a3 : Int64) (u : xS) : Option Int32 :=
  m_History_lastCritical_l8 xFU a1 a3 ((xs_i u 0) - (1 : Int32)) u
def m_History_ancestorsOf (a1 : Int32) (u : xS) : Option Int64 :=
  xg (xin a1 40) <|
  some (xs_L u 1 a1.toNatClampNeg)
def m_Merge_passThrough_s6 (k6 : Nat → Int64 → Int32 → xS → Option (Int64 × xS)) (j : Nat) (b5 : Int64) (b7 : Int32) (u : xS) : Option (Int64 × xS) :=
  xb1 (m_Line_size u) fun r9 =>
  (if r9 ≤ b7 then
    some (b5, u)
  else
    xb1 (m_Line_get b7 u) fun r18 =>
    xb1 (m_History_ancestorsOf r18 u) fun r33 =>
    xb1 (m_Long_bitCount (b5 ^^^ r33)) fun r37 =>
    xlt (xs_si u (9 + j) ((xs_i u (9 + j)) + r37)) fun w41 =>
    xb1 (m_History_upTo r18 w41) fun r47 =>
    k6 j r47 (b7 + (1 : Int32)) w41)
def m_Merge_passThrough_l6 : Nat → Nat → Int64 → Int32 → xS → Option (Int64 × xS)
  | 0, _, _, _, _ => none
  | n + 1, j, b5, b7, u => m_Merge_passThrough_s6 (m_Merge_passThrough_l6 n) j b5 b7 u
def m_Merge_passThrough (j : Nat) (a3 : Int64) (u : xS) : Option (Int64 × xS) :=
  m_Merge_passThrough_l6 xFU j a3 (0 : Int32) u
def m_CharacterList_indexIn_s6 (k6 : Int64 → Int32 → Int32 → Int32 → xS → Option Int32) (b1 : Int64) (b3 : Int32) (b4 : Int32) (b5 : Int32) (u : xS) : Option Int32 :=
  (if (xs_i u 1) ≤ b5 then
    some b4
  else
    xg (xin b5 40) <|
    (if (xs_I u 6 b5.toNatClampNeg) = b3 then
      some b4
    else
      xb1 (m_Text_has b1 (xs_I u 6 b5.toNatClampNeg)) fun r34 =>
      (if r34 = 0 then
        k6 b1 b3 b4 (b5 + (1 : Int32)) u
      else
        k6 b1 b3 (b4 + (1 : Int32)) (b5 + (1 : Int32)) u)))
def m_CharacterList_indexIn_l6 : Nat → Int64 → Int32 → Int32 → Int32 → xS → Option Int32
  | 0, _, _, _, _, _ => none
  | n + 1, b1, b3, b4, b5, u => m_CharacterList_indexIn_s6 (m_CharacterList_indexIn_l6 n) b1 b3 b4 b5 u
def m_CharacterList_indexIn (a1 : Int64) (a3 : Int32) (u : xS) : Option Int32 :=
  m_CharacterList_indexIn_l6 xFU a1 a3 (0 : Int32) (0 : Int32) u
def m_CharacterList_takenBy (a1 : Int32) (u : xS) : Option Int32 :=
  xg (xin a1 40) <|
  some (xs_I u 9 a1.toNatClampNeg)
def m_Merge_removal (a1 : Int64) (a3 : Int32) (u : xS) : Option Int32 :=
  xb1 (m_CharacterList_shownIn a1 u) fun r2 =>
  xb1 (m_Text_has r2 a3) fun r10 =>
  (if r10 = 0 then
    some (1000 : Int32)
  else
    xb1 (m_CharacterList_indexIn r2 a3 u) fun r21 =>
    some ((-1 : Int32) - r21))
def m_Merge_applyAll_b74 (k15 : Nat → Int64 → Int32 → xS → Option xS) (j : Nat) (b6 : Int64) (b8 : Int32) (b9 : Int32) (t0 : Int32) (t1 : Int32) (u : xS) : Option xS :=
  xg (xin t1 40) <|
  xlt (xs_sI u (11 + j) t1.toNatClampNeg t0) fun w74 =>
  xb1 (m_Text_bit b9) fun r79 =>
  k15 j (b6 ||| r79) (b8 + (1 : Int32)) w74
def m_Merge_applyAll_s15 (k15 : Nat → Int64 → Int32 → xS → Option xS) (j : Nat) (b6 : Int64) (b8 : Int32) (u : xS) : Option xS :=
  (if (xs_i u (3 + j)) ≤ b8 then
    some u
  else
    xb1 (m_Line_get b8 u) fun r27 =>
    xb1 (m_History_isInsert r27 u) fun r41 =>
    (if r41 = 0 then
      xb1 (m_CharacterList_takenBy r27 u) fun r68 =>
      xb1 (m_Merge_removal b6 r68 u) fun r71 =>
      m_Merge_applyAll_b74 k15 j b6 b8 r27 r71 b8 u
    else
      xb1 (m_CharacterList_shownIn b6 u) fun r51 =>
      xb1 (m_CharacterList_indexIn r51 r27 u) fun r56 =>
      m_Merge_applyAll_b74 k15 j b6 b8 r27 r56 b8 u))
def m_Merge_applyAll_l15 : Nat → Nat → Int64 → Int32 → xS → Option xS
  | 0, _, _, _, _ => none
  | n + 1, j, b6, b8, u => m_Merge_applyAll_s15 (m_Merge_applyAll_l15 n) j b6 b8 u
def m_Merge_applyAll (j : Nat) (a4 : Int64) (u : xS) : Option xS :=
  xb1 (m_Line_size u) fun r6 =>
  xlt (xs_si u (3 + j) r6) fun w9 =>
  m_Merge_applyAll_l15 xFU j a4 (0 : Int32) w9
def m_Merge_perform (j : Nat) (a4 : Int64) (a6 : Int64) (u : xS) : Option xS :=
  xb1 (m_History_lastCritical (a4 ||| a6) a4 u) fun r9 =>
  xb1 (m_History_upTo r9 u) fun r12 =>
  xlt (xs_si u (9 + j) (0 : Int32)) fun w30 =>
  xb1 (m_Long_bitCount (a4 &&& (r12 ^^^ (-1 : Int64)))) fun r36 =>
  xlt (xs_si w30 (6 + j) r36) fun w39 =>
  xb1 (m_Line_arrange (a4 &&& (r12 ^^^ (-1 : Int64))) w39) fun u46 =>
  xb2 (m_Merge_passThrough j r12 u46) fun r54 u54 =>
  xb1 (m_Line_arrange a6 u54) fun u63 =>
  xb2 (m_Merge_passThrough j r54 u63) fun r71 u71 =>
  xb1 (m_Merge_applyAll j a4 u71) fun u81 =>
  some u81
def m_Text_deliver_b138 (b8 : Int64) (u : xS) : Option (Int32 × xS) :=
  xb1 (m_Long_bitCount b8) fun r140 =>
  some (r140, u)
def m_Text_deliver (a1 : Int32) (u : xS) : Option (Int32 × xS) :=
  xb1 (m_Text_isUnderWay a1 u) fun r2 =>
  (if r2 = 0 then
    some ((-1000 : Int32), u)
  else
    xg (xin a1 6) <|
    xg (xin (xs_i u (24 + (a1.toNatClampNeg))) 3) <|
    xb1 (m_History_parentsOfAll (xs_l u (5 + (a1.toNatClampNeg))) u) fun r47 =>
    (if (r47 &&& (((xs_l u (5 + (a1.toNatClampNeg))) ||| (xs_l u (2 + ((xs_i u (24 + (a1.toNatClampNeg))).toNatClampNeg)))) ^^^ (-1 : Int64))) = (0 : Int64) then
      xg (xin (xs_i u (18 + (a1.toNatClampNeg))) 3) <|
      xb1 (m_History_withAncestors (xs_l u (5 + (a1.toNatClampNeg))) u) fun r82 =>
      xlt (xs_sL u (3 + ((xs_i u (24 + (a1.toNatClampNeg))).toNatClampNeg)) (xs_i u (18 + (a1.toNatClampNeg))).toNatClampNeg ((xs_L u (3 + ((xs_i u (24 + (a1.toNatClampNeg))).toNatClampNeg)) (xs_i u (18 + (a1.toNatClampNeg))).toNatClampNeg) ||| r82)) fun w86 =>
      (if ((xs_l u (5 + (a1.toNatClampNeg))) &&& ((xs_l u (2 + ((xs_i u (24 + (a1.toNatClampNeg))).toNatClampNeg))) ^^^ (-1 : Int64))) = (0 : Int64) then
        m_Text_deliver_b138 ((xs_l u (5 + (a1.toNatClampNeg))) &&& ((xs_l u (2 + ((xs_i u (24 + (a1.toNatClampNeg))).toNatClampNeg))) ^^^ (-1 : Int64))) w86
      else
        xb1 (m_Merge_perform ((xs_i u (24 + (a1.toNatClampNeg))).toNatClampNeg) (xs_l u (2 + ((xs_i u (24 + (a1.toNatClampNeg))).toNatClampNeg))) ((xs_l u (5 + (a1.toNatClampNeg))) &&& ((xs_l u (2 + ((xs_i u (24 + (a1.toNatClampNeg))).toNatClampNeg))) ^^^ (-1 : Int64))) w86) fun u125 =>
        xlt (xs_sl u125 (2 + ((xs_i u (24 + (a1.toNatClampNeg))).toNatClampNeg)) ((xs_l u (2 + ((xs_i u (24 + (a1.toNatClampNeg))).toNatClampNeg))) ||| ((xs_l u (5 + (a1.toNatClampNeg))) &&& ((xs_l u (2 + ((xs_i u (24 + (a1.toNatClampNeg))).toNatClampNeg))) ^^^ (-1 : Int64))))) fun w135 =>
        m_Text_deliver_b138 ((xs_l u (5 + (a1.toNatClampNeg))) &&& ((xs_l u (2 + ((xs_i u (24 + (a1.toNatClampNeg))).toNatClampNeg))) ^^^ (-1 : Int64))) w135)
    else
      some ((-1 : Int32), u)))
def m_Text_discard (a1 : Int32) (u : xS) : Option (Int32 × xS) :=
  xb1 (m_Text_isUnderWay a1 u) fun r2 =>
  (if r2 = 0 then
    some ((0 : Int32), u)
  else
    xg (xin a1 6) <|
    xlt (xs_si u (12 + (a1.toNatClampNeg)) (0 : Int32)) fun w17 =>
    some ((1 : Int32), w17))
def m_Text_hear (a1 : Int32) (a2 : Int32) (u : xS) : Option (Int32 × xS) :=
  xb1 (m_Text_areTwoSites a1 a2) fun r2 =>
  (if r2 = 0 then
    some ((-1000 : Int32), u)
  else
    xg (xin a1 3) <|
    xg (xin a2 3) <|
    xb1 (m_History_headsOf (xs_l u (2 + (a2.toNatClampNeg))) u) fun r32 =>
    xb1 (m_History_withAncestors (r32 &&& (xs_l u (2 + (a1.toNatClampNeg)))) u) fun r53 =>
    xlt (xs_sL u (3 + (a1.toNatClampNeg)) a2.toNatClampNeg r53) fun w56 =>
    xb1 (m_Long_bitCount (xs_L w56 (3 + (a1.toNatClampNeg)) a2.toNatClampNeg)) fun r63 =>
    some (r63, w56))
def m_Text_believed (a1 : Int32) (a2 : Int32) (u : xS) : Option Int32 :=
  xb1 (m_Text_areTwoSites a1 a2) fun r2 =>
  (if r2 = 0 then
    some (-1000 : Int32)
  else
    xg (xin a1 3) <|
    xg (xin a2 3) <|
    xb1 (m_Long_bitCount (xs_L u (3 + (a1.toNatClampNeg)) a2.toNatClampNeg)) fun r19 =>
    some r19)
def m_OctetRow_size (j : Nat) (u : xS) : Option Int32 :=
  some (xs_i u (30 + j))
def m_Text_octets (a1 : Int32) (u : xS) : Option Int32 :=
  xb1 (m_Text_isUnderWay a1 u) fun r2 =>
  (if r2 = 0 then
    some (-1000 : Int32)
  else
    xg (xin a1 6) <|
    xb1 (m_OctetRow_size (a1.toNatClampNeg) u) fun r17 =>
    some r17)
def m_OctetRow_get (j : Nat) (a1 : Int32) (u : xS) : Option Int32 :=
  (if a1 < 0 then
    some (-1000 : Int32)
  else
    (if (xs_i u (30 + j)) ≤ a1 then
      some (-1000 : Int32)
    else
      xg (xin a1 442) <|
      some (xs_I u (14 + j) a1.toNatClampNeg)))
def m_Text_octet (a1 : Int32) (a2 : Int32) (u : xS) : Option Int32 :=
  xb1 (m_Text_isUnderWay a1 u) fun r2 =>
  (if r2 = 0 then
    some (-1000 : Int32)
  else
    xg (xin a1 6) <|
    xb1 (m_OctetRow_get (a1.toNatClampNeg) a2 u) fun r18 =>
    some r18)
def m_Text_events (a1 : Int32) (u : xS) : Option Int32 :=
  xb1 (m_Text_isSite a1) fun r1 =>
  (if r1 = 0 then
    some (-1000 : Int32)
  else
    xg (xin a1 3) <|
    xb1 (m_Long_bitCount (xs_l u (2 + (a1.toNatClampNeg)))) fun r16 =>
    some r16)
def m_Text_heads (a1 : Int32) (u : xS) : Option Int32 :=
  xb1 (m_Text_isSite a1) fun r1 =>
  (if r1 = 0 then
    some (-1000 : Int32)
  else
    xg (xin a1 3) <|
    xb1 (m_History_headsOf (xs_l u (2 + (a1.toNatClampNeg))) u) fun r20 =>
    xb1 (m_Long_bitCount r20) fun r23 =>
    some r23)
def m_Text_head_b85 (b5 : Int32) (u : xS) : Option Int32 :=
  (if b5 = (-1 : Int32) then
    some (-1000 : Int32)
  else
    xb1 (m_History_codeOf b5 u) fun r103 =>
    some r103)
def m_Text_head_s45 (k45 : Int32 → Int64 → Int32 → Int32 → xS → Option Int32) (b2 : Int32) (b3 : Int64) (b5 : Int32) (b6 : Int32) (u : xS) : Option Int32 :=
  (if b2 ≤ b6 then
    m_Text_head_b85 b5 u
  else
    (if b5 = (-1 : Int32) then
      m_Text_head_b85 b5 u
    else
      xb1 (m_Text_bit b5) fun r60 =>
      xb1 (m_History_leastOf (b3 &&& (r60 ^^^ (-1 : Int64))) u) fun r74 =>
      k45 b2 (b3 &&& (r60 ^^^ (-1 : Int64))) r74 (b6 + (1 : Int32)) u))
def m_Text_head_l45 : Nat → Int32 → Int64 → Int32 → Int32 → xS → Option Int32
  | 0, _, _, _, _, _ => none
  | n + 1, b2, b3, b5, b6, u => m_Text_head_s45 (m_Text_head_l45 n) b2 b3 b5 b6 u
def m_Text_head (a1 : Int32) (a2 : Int32) (u : xS) : Option Int32 :=
  xb1 (m_Text_isSite a1) fun r1 =>
  (if r1 = 0 then
    some (-1000 : Int32)
  else
    (if 0 ≤ a2 then
      xg (xin a1 3) <|
      xb1 (m_History_headsOf (xs_l u (2 + (a1.toNatClampNeg))) u) fun r28 =>
      xb1 (m_History_leastOf r28 u) fun r37 =>
      m_Text_head_l45 xFU a2 r28 r37 (0 : Int32) u
    else
      some (-1000 : Int32)))
def m_History_wasMade (a1 : Int32) (a2 : Int32) (u : xS) : Option Int32 :=
  xb1 (m_Text_isSite a1) fun r1 =>
  (if r1 = 0 then
    some (0 : Int32)
  else
    (if a2 < 0 then
      some (0 : Int32)
    else
      xg (xin a1 3) <|
      (if (xs_I u 5 a1.toNatClampNeg) ≤ a2 then
        some (0 : Int32)
      else
        some (1 : Int32))))
def m_History_slotOf (a1 : Int32) (a2 : Int32) (u : xS) : Option Int32 :=
  xg (xin ((a1 * (40 : Int32)) + a2) 120) <|
  some (xs_I u 4 ((a1 * (40 : Int32)) + a2).toNatClampNeg)
def m_Text_ancestor (a1 : Int32) (a2 : Int32) (a3 : Int32) (a4 : Int32) (u : xS) : Option Int32 :=
  xb1 (m_History_wasMade a1 a2 u) fun r6 =>
  (if r6 = 0 then
    some (-1000 : Int32)
  else
    xb1 (m_History_wasMade a3 a4 u) fun r19 =>
    (if r19 = 0 then
      some (-1000 : Int32)
    else
      xb1 (m_History_slotOf a3 a4 u) fun r40 =>
      xb1 (m_History_ancestorsOf r40 u) fun r43 =>
      xb1 (m_History_slotOf a1 a2 u) fun r52 =>
      xb1 (m_Text_has r43 r52) fun r55 =>
      (if r55 = 0 then
        some (0 : Int32)
      else
        some (1 : Int32))))
def m_Text_critical (a1 : Int32) (u : xS) : Option Int32 :=
  xb1 (m_Text_isSite a1) fun r1 =>
  (if r1 = 0 then
    some (-1000 : Int32)
  else
    xg (xin a1 3) <|
    xb1 (m_History_lastCritical (xs_l u (2 + (a1.toNatClampNeg))) (xs_l u (2 + (a1.toNatClampNeg))) u) fun r31 =>
    xb1 (m_History_upTo r31 u) fun r34 =>
    xb1 (m_Long_bitCount r34) fun r37 =>
    some r37)
def m_Text_replayed (a1 : Int32) (u : xS) : Option Int32 :=
  xb1 (m_Text_isSite a1) fun r1 =>
  (if r1 = 0 then
    some (-1000 : Int32)
  else
    xg (xin a1 3) <|
    some (xs_i u (6 + (a1.toNatClampNeg))))
def m_Text_moves (a1 : Int32) (u : xS) : Option Int32 :=
  xb1 (m_Text_isSite a1) fun r1 =>
  (if r1 = 0 then
    some (-1000 : Int32)
  else
    xg (xin a1 3) <|
    some (xs_i u (9 + (a1.toNatClampNeg))))
def m_Text_operation (a1 : Int32) (a2 : Int32) (u : xS) : Option Int32 :=
  xb1 (m_Text_isSite a1) fun r1 =>
  (if r1 = 0 then
    some (-1000 : Int32)
  else
    (if a2 < 0 then
      some (-1000 : Int32)
    else
      xg (xin a1 3) <|
      (if a2 < (xs_i u (3 + (a1.toNatClampNeg))) then
        xg (xin a2 40) <|
        some (xs_I u (11 + (a1.toNatClampNeg)) a2.toNatClampNeg)
      else
        some (-1000 : Int32))))
def m_Model_in (a0 : Int64) (a2 : Int32) : Option Int32 :=
  (if ((xUshr a0 a2) &&& (1 : Int64)) = (0 : Int64) then
    some (0 : Int32)
  else
    some (1 : Int32))
def m_Model_one (a0 : Int32) : Option Int64 :=
  some (xShl (1 : Int64) a0)
def m_Model_many_s4 (k4 : Int64 → Int32 → Int32 → Option Int32) (b0 : Int64) (b2 : Int32) (b3 : Int32) : Option Int32 :=
  (if (40 : Int32) ≤ b3 then
    some b2
  else
    xb1 (m_Model_in b0 b3) fun r13 =>
    (if r13 = 0 then
      k4 b0 (b2 + (0 : Int32)) (b3 + (1 : Int32))
    else
      k4 b0 (b2 + (1 : Int32)) (b3 + (1 : Int32))))
def m_Model_many_l4 : Nat → Int64 → Int32 → Int32 → Option Int32
  | 0, _, _, _ => none
  | n + 1, b0, b2, b3 => m_Model_many_s4 (m_Model_many_l4 n) b0 b2 b3
def m_Model_many (a0 : Int64) : Option Int32 :=
  m_Model_many_l4 xFU a0 (0 : Int32) (0 : Int32)
def m_Model_wrong (a0 : Int32) : Option Int32 :=
  (if a0 < 0 then
    some (1 : Int32)
  else
    (if a0 ≤ (2 : Int32) then
      some (0 : Int32)
    else
      some (1 : Int32)))
def m_Model_wrongPair (a0 : Int32) (a1 : Int32) : Option Int32 :=
  xb1 (m_Model_wrong a0) fun r1 =>
  (if r1 = 0 then
    xb1 (m_Model_wrong a1) fun r8 =>
    (if r8 = 0 then
      (if a0 = a1 then
        some (1 : Int32)
      else
        some (0 : Int32))
    else
      some (1 : Int32))
  else
    some (1 : Int32))
def m_Model_hidden_s5 (k5 : Int64 → Int64 → Int32 → xS → Option Int64) (b1 : Int64) (b3 : Int64) (b5 : Int32) (u : xS) : Option Int64 :=
  (if (xs_i u 0) ≤ b5 then
    some b3
  else
    xb1 (m_Model_in b1 b5) fun r17 =>
    (if r17 = 0 then
      k5 b1 b3 (b5 + (1 : Int32)) u
    else
      xg (xin b5 40) <|
      (if (xs_I u 2 b5.toNatClampNeg) = 0 then
        xg (xin b5 41) <|
        xb1 (m_Model_one (xs_I u 5 b5.toNatClampNeg)) fun r41 =>
        k5 b1 (b3 ||| r41) (b5 + (1 : Int32)) u
      else
        k5 b1 b3 (b5 + (1 : Int32)) u)))
def m_Model_hidden_l5 : Nat → Int64 → Int64 → Int32 → xS → Option Int64
  | 0, _, _, _, _ => none
  | n + 1, b1, b3, b5, u => m_Model_hidden_s5 (m_Model_hidden_l5 n) b1 b3 b5 u
def m_Model_hidden (a1 : Int64) (u : xS) : Option Int64 :=
  m_Model_hidden_l5 xFU a1 (0 : Int64) (0 : Int32) u
def m_Model_shownAt_s13 (k13 : Int64 → Int32 → Int64 → Int32 → Int32 → xS → Option Int32) (b1 : Int64) (b3 : Int32) (b4 : Int64) (b6 : Int32) (b7 : Int32) (u : xS) : Option Int32 :=
  (if (xs_i u 1) ≤ b7 then
    some (-1 : Int32)
  else
    xg (xin b7 40) <|
    xb1 (m_Model_in b1 (xs_I u 8 b7.toNatClampNeg)) fun r34 =>
    (if r34 = 0 then
      k13 b1 b3 b4 b6 (b7 + (1 : Int32)) u
    else
      xb1 (m_Model_in b4 (xs_I u 8 b7.toNatClampNeg)) fun r44 =>
      (if r44 = 0 then
        (if b6 = b3 then
          some (xs_I u 8 b7.toNatClampNeg)
        else
          k13 b1 b3 b4 (b6 + (1 : Int32)) (b7 + (1 : Int32)) u)
      else
        k13 b1 b3 b4 b6 (b7 + (1 : Int32)) u)))
def m_Model_shownAt_l13 : Nat → Int64 → Int32 → Int64 → Int32 → Int32 → xS → Option Int32
  | 0, _, _, _, _, _, _ => none
  | n + 1, b1, b3, b4, b6, b7, u => m_Model_shownAt_s13 (m_Model_shownAt_l13 n) b1 b3 b4 b6 b7 u
def m_Model_shownAt (a1 : Int64) (a3 : Int32) (u : xS) : Option Int32 :=
  xb1 (m_Model_hidden a1 u) fun r2 =>
  m_Model_shownAt_l13 xFU a1 a3 r2 (0 : Int32) (0 : Int32) u
def m_Model_shownBefore_s13 (k13 : Int64 → Int32 → Int64 → Int32 → Int32 → xS → Option Int32) (b1 : Int64) (b3 : Int32) (b4 : Int64) (b6 : Int32) (b7 : Int32) (u : xS) : Option Int32 :=
  (if (xs_i u 1) ≤ b7 then
    some b6
  else
    xg (xin b7 40) <|
    (if (xs_I u 8 b7.toNatClampNeg) = b3 then
      some b6
    else
      xb1 (m_Model_in b1 (xs_I u 8 b7.toNatClampNeg)) fun r47 =>
      (if r47 = 0 then
        k13 b1 b3 b4 (b6 + (0 : Int32)) (b7 + (1 : Int32)) u
      else
        xb1 (m_Model_in b4 (xs_I u 8 b7.toNatClampNeg)) fun r57 =>
        (if r57 = 0 then
          k13 b1 b3 b4 (b6 + (1 : Int32)) (b7 + (1 : Int32)) u
        else
          k13 b1 b3 b4 (b6 + (0 : Int32)) (b7 + (1 : Int32)) u))))
def m_Model_shownBefore_l13 : Nat → Int64 → Int32 → Int64 → Int32 → Int32 → xS → Option Int32
  | 0, _, _, _, _, _, _ => none
  | n + 1, b1, b3, b4, b6, b7, u => m_Model_shownBefore_s13 (m_Model_shownBefore_l13 n) b1 b3 b4 b6 b7 u
def m_Model_shownBefore (a1 : Int64) (a3 : Int32) (u : xS) : Option Int32 :=
  xb1 (m_Model_hidden a1 u) fun r2 =>
  m_Model_shownBefore_l13 xFU a1 a3 r2 (0 : Int32) (0 : Int32) u
def m_Model_behind_b52 (k16 : Int64 → Int32 → Int32 → Int32 → xS → Option Int32) (b1 : Int64) (b3 : Int32) (b4 : Int32) (b5 : Int32) (u : xS) : Option Int32 :=
  (if b4 = 0 then
    xg (xin b5 40) <|
    (if (xs_I u 8 b5.toNatClampNeg) = b3 then
      k16 b1 b3 (1 : Int32) (b5 + (1 : Int32)) u
    else
      k16 b1 b3 (0 : Int32) (b5 + (1 : Int32)) u)
  else
    k16 b1 b3 (1 : Int32) (b5 + (1 : Int32)) u)
def m_Model_behind_s16 (k16 : Int64 → Int32 → Int32 → Int32 → xS → Option Int32) (b1 : Int64) (b3 : Int32) (b4 : Int32) (b5 : Int32) (u : xS) : Option Int32 :=
  (if (xs_i u 1) ≤ b5 then
    some (40 : Int32)
  else
    (if b4 = 0 then
      m_Model_behind_b52 k16 b1 b3 b4 b5 u
    else
      xg (xin b5 40) <|
      xb1 (m_Model_in b1 (xs_I u 8 b5.toNatClampNeg)) fun r38 =>
      (if r38 = 0 then
        m_Model_behind_b52 k16 b1 b3 b4 b5 u
      else
        some (xs_I u 8 b5.toNatClampNeg))))
def m_Model_behind_l16 : Nat → Int64 → Int32 → Int32 → Int32 → xS → Option Int32
  | 0, _, _, _, _, _ => none
  | n + 1, b1, b3, b4, b5, u => m_Model_behind_s16 (m_Model_behind_l16 n) b1 b3 b4 b5 u
def m_Model_behind (a1 : Int64) (a3 : Int32) (u : xS) : Option Int32 :=
  (if a3 = (40 : Int32) then
    m_Model_behind_l16 xFU a1 a3 (1 : Int32) (0 : Int32) u
  else
    m_Model_behind_l16 xFU a1 a3 (0 : Int32) (0 : Int32) u)
def m_Model_lower (a1 : Int32) (a2 : Int32) (u : xS) : Option Int32 :=
  xg (xin a1 40) <|
  xg (xin a2 40) <|
  (if (xs_I u 0 a1.toNatClampNeg) = (xs_I u 0 a2.toNatClampNeg) then
    (if (xs_I u 1 a2.toNatClampNeg) ≤ (xs_I u 1 a1.toNatClampNeg) then
      some (0 : Int32)
    else
      some (1 : Int32))
  else
    (if (xs_I u 0 a2.toNatClampNeg) ≤ (xs_I u 0 a1.toNatClampNeg) then
      some (0 : Int32)
    else
      some (1 : Int32)))
def m_Model_stands_b75 (b5 : Int32) (b6 : Int32) (u : xS) : Option Int32 :=
  (if 0 ≤ b5 then
    (if 0 ≤ b6 then
      xg (xin b5 41) <|
      xg (xin b6 41) <|
      (if (xs_I u 6 b5.toNatClampNeg) = (xs_I u 6 b6.toNatClampNeg) then
        xb1 (m_Model_lower b5 b6 u) fun r141 =>
        xg (r141 = 0 ∨ r141 = 1) <|
        some r141
      else
        xg ((xs_I u 6 b6.toNatClampNeg) = 0 ∨ (xs_I u 6 b6.toNatClampNeg) = 1) <|
        some (xs_I u 6 b6.toNatClampNeg))
    else
      xg (xin b5 41) <|
      (if (xs_I u 6 b5.toNatClampNeg) = 0 then
        some (1 : Int32)
      else
        some (0 : Int32)))
  else
    xg (xin b6 41) <|
    xg ((xs_I u 6 b6.toNatClampNeg) = 0 ∨ (xs_I u 6 b6.toNatClampNeg) = 1) <|
    some (xs_I u 6 b6.toNatClampNeg))
def m_Model_stands_s14 (k14 : Int32 → Int32 → Int32 → Int32 → Int32 → xS → Option Int32) (b3 : Int32) (b4 : Int32) (b5 : Int32) (b6 : Int32) (b7 : Int32) (u : xS) : Option Int32 :=
  (if (90 : Int32) ≤ b7 then
    m_Model_stands_b75 b5 b6 u
  else
    (if b3 = b4 then
      m_Model_stands_b75 b5 b6 u
    else
      xg (xin b3 41) <|
      xg (xin b4 41) <|
      (if (xs_I u 7 b3.toNatClampNeg) < (xs_I u 7 b4.toNatClampNeg) then
        k14 b3 (xs_I u 5 b4.toNatClampNeg) b5 b4 (b7 + (1 : Int32)) u
      else
        k14 (xs_I u 5 b3.toNatClampNeg) b4 b3 b6 (b7 + (1 : Int32)) u)))
def m_Model_stands_l14 : Nat → Int32 → Int32 → Int32 → Int32 → Int32 → xS → Option Int32
  | 0, _, _, _, _, _, _ => none
  | n + 1, b3, b4, b5, b6, b7, u => m_Model_stands_s14 (m_Model_stands_l14 n) b3 b4 b5 b6 b7 u
def m_Model_stands (a1 : Int32) (a2 : Int32) (u : xS) : Option Int32 :=
  m_Model_stands_l14 xFU a1 a2 (-1 : Int32) (-1 : Int32) (0 : Int32) u
def m_Model_intoRow_s35 (k35 : Int32 → Int32 → Int32 → xS → Option xS) (b1 : Int32) (b2 : Int32) (b3 : Int32) (u : xS) : Option xS :=
  (if b3 ≤ b2 then
    xg (xin b2 40) <|
    xlt (xs_sI u 8 b2.toNatClampNeg b1) fun w66 =>
    xlt (xs_si w66 1 ((xs_i w66 1) + (1 : Int32))) fun w74 =>
    some w74
  else
    xg (xin (b3 - (1 : Int32)) 40) <|
    xg (xin b3 40) <|
    xlt (xs_sI u 8 b3.toNatClampNeg (xs_I u 8 (b3 - (1 : Int32)).toNatClampNeg)) fun w53 =>
    k35 b1 b2 (b3 + (-1 : Int32)) w53)
def m_Model_intoRow_l35 : Nat → Int32 → Int32 → Int32 → xS → Option xS
  | 0, _, _, _, _ => none
  | n + 1, b1, b2, b3, u => m_Model_intoRow_s35 (m_Model_intoRow_l35 n) b1 b2 b3 u
def m_Model_intoRow_s2 (k2 : Int32 → Int32 → xS → Option xS) (b1 : Int32) (b2 : Int32) (u : xS) : Option xS :=
  (if (xs_i u 1) ≤ b2 then
    m_Model_intoRow_l35 xFU b1 b2 (xs_i u 1) u
  else
    xg (xin b2 40) <|
    xb1 (m_Model_stands (xs_I u 8 b2.toNatClampNeg) b1 u) fun r18 =>
    (if r18 = 0 then
      m_Model_intoRow_l35 xFU b1 b2 (xs_i u 1) u
    else
      k2 b1 (b2 + (1 : Int32)) u))
def m_Model_intoRow_l2 : Nat → Int32 → Int32 → xS → Option xS
  | 0, _, _, _ => none
  | n + 1, b1, b2, u => m_Model_intoRow_s2 (m_Model_intoRow_l2 n) b1 b2 u
def m_Model_intoRow (a1 : Int32) (u : xS) : Option xS :=
  m_Model_intoRow_l2 xFU a1 (0 : Int32) u
def m_Model_tips_s5 (k5 : Int64 → Int64 → Int32 → xS → Option Int64) (b1 : Int64) (b3 : Int64) (b5 : Int32) (u : xS) : Option Int64 :=
  (if (xs_i u 0) ≤ b5 then
    some (b1 &&& (b3 ^^^ (-1 : Int64)))
  else
    xb1 (m_Model_in b1 b5) fun r18 =>
    (if r18 = 0 then
      k5 b1 (b3 ||| (0 : Int64)) (b5 + (1 : Int32)) u
    else
      xg (xin b5 40) <|
      k5 b1 (b3 ||| (xs_L u 0 b5.toNatClampNeg)) (b5 + (1 : Int32)) u))
def m_Model_tips_l5 : Nat → Int64 → Int64 → Int32 → xS → Option Int64
  | 0, _, _, _, _ => none
  | n + 1, b1, b3, b5, u => m_Model_tips_s5 (m_Model_tips_l5 n) b1 b3 b5 u
def m_Model_tips (a1 : Int64) (u : xS) : Option Int64 :=
  m_Model_tips_l5 xFU a1 (0 : Int64) (0 : Int32) u
def m_Model_event_s12 (k12 : Int32 → Int32 → Int32 → Int32 → Int32 → Int32 → xS → Option (Int32 × xS)) (b1 : Int32) (b2 : Int32) (b3 : Int32) (b4 : Int32) (b5 : Int32) (b6 : Int32) (u : xS) : Option (Int32 × xS) :=
  (if (xs_i u 0) ≤ b6 then
    xg (xin b4 40) <|
    xlt (xs_sI u 0 b4.toNatClampNeg b1) fun w55 =>
    xlt (xs_sI w55 1 b4.toNatClampNeg b5) fun w64 =>
    xlt (xs_sI w64 2 b4.toNatClampNeg (vp_nar .boolean b2)) fun w72 =>
    xlt (xs_sI w72 3 b4.toNatClampNeg b3) fun w80 =>
    xg (xin b1 3) <|
    xlt (xs_sL w80 0 b4.toNatClampNeg (xs_L w80 2 b1.toNatClampNeg)) fun w93 =>
    xb1 (m_Model_tips (xs_L w93 2 b1.toNatClampNeg) w93) fun r107 =>
    xlt (xs_sL w93 1 b4.toNatClampNeg r107) fun w110 =>
    xb1 (m_Model_one b4) fun r120 =>
    xlt (xs_sL w110 2 b1.toNatClampNeg ((xs_L w110 2 b1.toNatClampNeg) ||| r120)) fun w124 =>
    xlt (xs_si w124 0 ((xs_i w124 0) + (1 : Int32))) fun w132 =>
    some (b4, w132)
  else
    xg (xin b6 40) <|
    (if (xs_I u 0 b6.toNatClampNeg) = b1 then
      k12 b1 b2 b3 b4 (b5 + (1 : Int32)) (b6 + (1 : Int32)) u
    else
      k12 b1 b2 b3 b4 (b5 + (0 : Int32)) (b6 + (1 : Int32)) u))
def m_Model_event_l12 : Nat → Int32 → Int32 → Int32 → Int32 → Int32 → Int32 → xS → Option (Int32 × xS)
  | 0, _, _, _, _, _, _, _ => none
  | n + 1, b1, b2, b3, b4, b5, b6, u => m_Model_event_s12 (m_Model_event_l12 n) b1 b2 b3 b4 b5 b6 u
def m_Model_event (a1 : Int32) (a2 : Int32) (a3 : Int32) (u : xS) : Option (Int32 × xS) :=
  m_Model_event_l12 xFU a1 a2 a3 (xs_i u 0) (0 : Int32) (0 : Int32) u
def m_Model_length (a1 : Int32) (u : xS) : Option Int32 :=
  xb1 (m_Model_wrong a1) fun r1 =>
  (if r1 = 0 then
    xg (xin a1 3) <|
    xb1 (m_Model_shownBefore (xs_L u 2 a1.toNatClampNeg) (-1 : Int32) u) fun r21 =>
    some r21
  else
    some (-1000 : Int32))
def m_Model_insert_b157 (b1 : Int32) (b2 : Int32) (b3 : Int32) (b7 : Int32) (t0 : Int32) (u : xS) : Option (Int32 × xS) :=
  xb2 (m_Model_event b1 (1 : Int32) b2 u) fun r163 u163 =>
  xg (xin r163 40) <|
  xlt (xs_sI u163 4 r163.toNatClampNeg b3) fun w175 =>
  xg (xin r163 41) <|
  xlt (xs_sI w175 5 r163.toNatClampNeg t0) fun w184 =>
  xlt (xs_sI w184 6 r163.toNatClampNeg (vp_nar .boolean b7)) fun w193 =>
  xg (xin t0 41) <|
  xlt (xs_sI w193 7 r163.toNatClampNeg ((xs_I w193 7 t0.toNatClampNeg) + (1 : Int32))) fun w209 =>
  xb1 (m_Model_intoRow r163 w209) fun u213 =>
  some ((xs_I u213 1 r163.toNatClampNeg), u213)
def m_Model_insert_s79 (k79 : Int32 → Int32 → Int32 → Int64 → Int32 → Int32 → Int32 → xS → Option (Int32 × xS)) (b1 : Int32) (b2 : Int32) (b3 : Int32) (b4 : Int64) (b6 : Int32) (b7 : Int32) (b8 : Int32) (u : xS) : Option (Int32 × xS) :=
  (if (xs_i u 0) ≤ b8 then
    (if b7 = 0 then
      xb1 (m_Model_behind b4 b6 u) fun r154 =>
      m_Model_insert_b157 b1 b2 b3 b7 r154 u
    else
      m_Model_insert_b157 b1 b2 b3 b7 b6 u)
  else
    xb1 (m_Model_in b4 b8) fun r92 =>
    (if r92 = 0 then
      k79 b1 b2 b3 b4 b6 b7 (b8 + (1 : Int32)) u
    else
      xg (xin b8 40) <|
      (if (xs_I u 2 b8.toNatClampNeg) = 0 then
        k79 b1 b2 b3 b4 b6 b7 (b8 + (1 : Int32)) u
      else
        xg (xin b8 41) <|
        (if (xs_I u 6 b8.toNatClampNeg) = 0 then
          k79 b1 b2 b3 b4 b6 b7 (b8 + (1 : Int32)) u
        else
          (if (xs_I u 5 b8.toNatClampNeg) = b6 then
            k79 b1 b2 b3 b4 b6 (0 : Int32) (b8 + (1 : Int32)) u
          else
            k79 b1 b2 b3 b4 b6 b7 (b8 + (1 : Int32)) u)))))
def m_Model_insert_l79 : Nat → Int32 → Int32 → Int32 → Int64 → Int32 → Int32 → Int32 → xS → Option (Int32 × xS)
  | 0, _, _, _, _, _, _, _, _ => none
  | n + 1, b1, b2, b3, b4, b6, b7, b8, u => m_Model_insert_s79 (m_Model_insert_l79 n) b1 b2 b3 b4 b6 b7 b8 u
def m_Model_insert (a1 : Int32) (a2 : Int32) (a3 : Int32) (u : xS) : Option (Int32 × xS) :=
  xb1 (m_Model_wrong a1) fun r1 =>
  (if r1 = 0 then
    (if a3 < (32 : Int32) then
      some ((-1000 : Int32), u)
    else
      (if (126 : Int32) < a3 then
        some ((-1000 : Int32), u)
      else
        (if (40 : Int32) ≤ (xs_i u 0) then
          some ((-1000 : Int32), u)
        else
          (if a2 < 0 then
            some ((-1000 : Int32), u)
          else
            xb1 (m_Model_length a1 u) fun r35 =>
            (if a2 ≤ r35 then
              xg (xin a1 3) <|
              (if a2 = 0 then
                m_Model_insert_l79 xFU a1 a2 a3 (xs_L u 2 a1.toNatClampNeg) (40 : Int32) (1 : Int32) (0 : Int32) u
              else
                xb1 (m_Model_shownAt (xs_L u 2 a1.toNatClampNeg) (a2 - (1 : Int32)) u) fun r68 =>
                m_Model_insert_l79 xFU a1 a2 a3 (xs_L u 2 a1.toNatClampNeg) r68 (1 : Int32) (0 : Int32) u)
            else
              some ((-1000 : Int32), u))))))
  else
    some ((-1000 : Int32), u))
def m_Model_delete (a1 : Int32) (a2 : Int32) (u : xS) : Option (Int32 × xS) :=
  xb1 (m_Model_wrong a1) fun r1 =>
  (if r1 = 0 then
    (if (40 : Int32) ≤ (xs_i u 0) then
      some ((-1000 : Int32), u)
    else
      (if a2 < 0 then
        some ((-1000 : Int32), u)
      else
        xb1 (m_Model_length a1 u) fun r23 =>
        (if a2 < r23 then
          xg (xin a1 3) <|
          xb1 (m_Model_shownAt (xs_L u 2 a1.toNatClampNeg) a2 u) fun r41 =>
          xb2 (m_Model_event a1 (0 : Int32) a2 u) fun r49 u49 =>
          xg (xin r49 41) <|
          xlt (xs_sI u49 5 r49.toNatClampNeg r41) fun w61 =>
          xg (xin r49 40) <|
          some ((xs_I w61 1 r49.toNatClampNeg), w61)
        else
          some ((-1000 : Int32), u))))
  else
    some ((-1000 : Int32), u))
def m_Model_at (a1 : Int32) (a2 : Int32) (u : xS) : Option Int32 :=
  xb1 (m_Model_wrong a1) fun r1 =>
  (if r1 = 0 then
    (if a2 < 0 then
      some (-1000 : Int32)
    else
      xb1 (m_Model_length a1 u) fun r14 =>
      (if a2 < r14 then
        xg (xin a1 3) <|
        xb1 (m_Model_shownAt (xs_L u 2 a1.toNatClampNeg) a2 u) fun r32 =>
        xg (xin r32 40) <|
        some (xs_I u 4 r32.toNatClampNeg)
      else
        some (-1000 : Int32)))
  else
    some (-1000 : Int32))
def m_Model_can (a1 : Int64) (a3 : Int64) (a5 : Int32) (u : xS) : Option Int32 :=
  xb1 (m_Model_in a1 a5) fun r3 =>
  (if r3 = 0 then
    some (0 : Int32)
  else
    xb1 (m_Model_in a3 a5) fun r12 =>
    (if r12 = 0 then
      xg (xin a5 40) <|
      (if (((xs_L u 1 a5.toNatClampNeg) &&& a1) &&& (a3 ^^^ (-1 : Int64))) = (0 : Int64) then
        some (1 : Int32)
      else
        some (0 : Int32))
    else
      some (0 : Int32)))
def m_Model_nextOf_b70 (k6 : Int64 → Int64 → Int32 → Int32 → Int32 → xS → Option Int32) (k15 : Int64 → Int64 → Int32 → Int32 → Int32 → Int32 → xS → Option Int32) (b1 : Int64) (b3 : Int64) (b5 : Int32) (b6 : Int32) (b7 : Int32) (b8 : Int32) (u : xS) : Option Int32 :=
  (if 0 ≤ b6 then
    k15 b1 b3 b5 b6 b7 (b8 + (1 : Int32)) u
  else
    k15 b1 b3 b5 b8 b7 (b8 + (1 : Int32)) u)
def m_Model_nextOf_s15 (k6 : Int64 → Int64 → Int32 → Int32 → Int32 → xS → Option Int32) (k15 : Int64 → Int64 → Int32 → Int32 → Int32 → Int32 → xS → Option Int32) (b1 : Int64) (b3 : Int64) (b5 : Int32) (b6 : Int32) (b7 : Int32) (b8 : Int32) (u : xS) : Option Int32 :=
  (if (xs_i u 0) ≤ b8 then
    k6 b1 b3 b5 b6 (b7 + (1 : Int32)) u
  else
    xg (xin b8 40) <|
    (if (xs_I u 0 b8.toNatClampNeg) = b7 then
      xb1 (m_Model_can b1 b3 b8 u) fun r41 =>
      (if r41 = 0 then
        k15 b1 b3 b5 b6 b7 (b8 + (1 : Int32)) u
      else
        (if b5 < 0 then
          m_Model_nextOf_b70 k6 k15 b1 b3 b5 b6 b7 b8 u
        else
          xb1 (m_Model_in (xs_L u 1 b8.toNatClampNeg) b5) fun r61 =>
          (if r61 = 0 then
            m_Model_nextOf_b70 k6 k15 b1 b3 b5 b6 b7 b8 u
          else
            some b8)))
    else
      k15 b1 b3 b5 b6 b7 (b8 + (1 : Int32)) u))
def m_Model_nextOf_l15 (k6 : Int64 → Int64 → Int32 → Int32 → Int32 → xS → Option Int32) : Nat → Int64 → Int64 → Int32 → Int32 → Int32 → Int32 → xS → Option Int32
  | 0, _, _, _, _, _, _, _ => none
  | n + 1, b1, b3, b5, b6, b7, b8, u => m_Model_nextOf_s15 k6 (m_Model_nextOf_l15 k6 n) b1 b3 b5 b6 b7 b8 u
def m_Model_nextOf_s6 (k6 : Int64 → Int64 → Int32 → Int32 → Int32 → xS → Option Int32) (b1 : Int64) (b3 : Int64) (b5 : Int32) (b6 : Int32) (b7 : Int32) (u : xS) : Option Int32 :=
  (if (3 : Int32) ≤ b7 then
    some b6
  else
    m_Model_nextOf_l15 k6 xFU b1 b3 b5 b6 b7 (0 : Int32) u)
def m_Model_nextOf_l6 : Nat → Int64 → Int64 → Int32 → Int32 → Int32 → xS → Option Int32
  | 0, _, _, _, _, _, _ => none
  | n + 1, b1, b3, b5, b6, b7, u => m_Model_nextOf_s6 (m_Model_nextOf_l6 n) b1 b3 b5 b6 b7 u
def m_Model_nextOf (a1 : Int64) (a3 : Int64) (a5 : Int32) (u : xS) : Option Int32 :=
  m_Model_nextOf_l6 xFU a1 a3 a5 (-1 : Int32) (0 : Int32) u
def m_Model_order_s13 (k13 : Int64 → Int64 → Int32 → Int32 → xS → Option xS) (b1 : Int64) (b3 : Int64) (b5 : Int32) (b6 : Int32) (u : xS) : Option xS :=
  (if (40 : Int32) ≤ b6 then
    some u
  else
    (if b3 = b1 then
      some u
    else
      xb1 (m_Model_nextOf b1 b3 b5 u) fun r31 =>
      xb1 (m_Model_one r31) fun r39 =>
      xg (xin (xs_i u 2) 40) <|
      xlt (xs_sI u 15 (xs_i u 2).toNatClampNeg r31) fun w54 =>
      xlt (xs_si w54 2 ((xs_i w54 2) + (1 : Int32))) fun w62 =>
      k13 b1 (b3 ||| r39) r31 (b6 + (1 : Int32)) w62))
def m_Model_order_l13 : Nat → Int64 → Int64 → Int32 → Int32 → xS → Option xS
  | 0, _, _, _, _, _ => none
  | n + 1, b1, b3, b5, b6, u => m_Model_order_s13 (m_Model_order_l13 n) b1 b3 b5 b6 u
def m_Model_order (a1 : Int64) (u : xS) : Option xS :=
  xlt (xs_si u 2 (0 : Int32)) fun w2 =>
  m_Model_order_l13 xFU a1 (0 : Int64) (-1 : Int32) (0 : Int32) w2
def m_Model_send_b62 (b1 : Int32) (b2 : Int32) (b3 : Int64) (b5 : Int32) (u : xS) : Option (Int32 × xS) :=
  (if b5 = (6 : Int32) then
    some ((-1000 : Int32), u)
  else
    (if b3 = (0 : Int64) then
      some ((-1000 : Int32), u)
    else
      xg (xin b5 6) <|
      xlt (xs_sL u 4 b5.toNatClampNeg b3) fun w86 =>
      xlt (xs_sI w86 9 b5.toNatClampNeg b1) fun w94 =>
      xlt (xs_sI w94 10 b5.toNatClampNeg b2) fun w102 =>
      xg (xin (((3 : Int32) * b1) + b2) 9) <|
      xg (xin b1 3) <|
      xlt (xs_sL w102 3 (((3 : Int32) * b1) + b2).toNatClampNeg ((xs_L w102 3 (((3 : Int32) * b1) + b2).toNatClampNeg) ||| (xs_L w102 2 b1.toNatClampNeg))) fun w121 =>
      some (b5, w121)))
def m_Model_send_s37 (k37 : Int32 → Int32 → Int64 → Int32 → xS → Option (Int32 × xS)) (b1 : Int32) (b2 : Int32) (b3 : Int64) (b5 : Int32) (u : xS) : Option (Int32 × xS) :=
  (if (6 : Int32) ≤ b5 then
    m_Model_send_b62 b1 b2 b3 b5 u
  else
    xg (xin b5 6) <|
    (if (xs_L u 4 b5.toNatClampNeg) = (0 : Int64) then
      m_Model_send_b62 b1 b2 b3 b5 u
    else
      k37 b1 b2 b3 (b5 + (1 : Int32)) u))
def m_Model_send_l37 : Nat → Int32 → Int32 → Int64 → Int32 → xS → Option (Int32 × xS)
  | 0, _, _, _, _, _ => none
  | n + 1, b1, b2, b3, b5, u => m_Model_send_s37 (m_Model_send_l37 n) b1 b2 b3 b5 u
def m_Model_send (a1 : Int32) (a2 : Int32) (u : xS) : Option (Int32 × xS) :=
  xb1 (m_Model_wrongPair a1 a2) fun r2 =>
  (if r2 = 0 then
    xg (xin a1 3) <|
    xg (xin (((3 : Int32) * a1) + a2) 9) <|
    m_Model_send_l37 xFU a1 a2 ((xs_L u 2 a1.toNatClampNeg) &&& ((xs_L u 3 (((3 : Int32) * a1) + a2).toNatClampNeg) ^^^ (-1 : Int64))) (0 : Int32) u
  else
    some ((-1000 : Int32), u))
def m_Model_none (a1 : Int32) (u : xS) : Option Int32 :=
  (if a1 < 0 then
    some (1 : Int32)
  else
    (if (5 : Int32) < a1 then
      some (1 : Int32)
    else
      xg (xin a1 6) <|
      (if (xs_L u 4 a1.toNatClampNeg) = (0 : Int64) then
        some (1 : Int32)
      else
        some (0 : Int32))))
def m_Model_discard (a1 : Int32) (u : xS) : Option (Int32 × xS) :=
  xb1 (m_Model_none a1 u) fun r2 =>
  (if r2 = 0 then
    xg (xin a1 6) <|
    xlt (xs_sL u 4 a1.toNatClampNeg (0 : Int64)) fun w16 =>
    some ((1 : Int32), w16)
  else
    some ((0 : Int32), u))
def m_Model_whole_s5 (k5 : Int64 → Int64 → Int32 → xS → Option Int64) (b1 : Int64) (b3 : Int64) (b5 : Int32) (u : xS) : Option Int64 :=
  (if (xs_i u 0) ≤ b5 then
    some b3
  else
    xb1 (m_Model_in b1 b5) fun r18 =>
    (if r18 = 0 then
      k5 b1 (b3 ||| (0 : Int64)) (b5 + (1 : Int32)) u
    else
      xg (xin b5 40) <|
      k5 b1 (b3 ||| (xs_L u 0 b5.toNatClampNeg)) (b5 + (1 : Int32)) u))
def m_Model_whole_l5 : Nat → Int64 → Int64 → Int32 → xS → Option Int64
  | 0, _, _, _, _ => none
  | n + 1, b1, b3, b5, u => m_Model_whole_s5 (m_Model_whole_l5 n) b1 b3 b5 u
def m_Model_whole (a1 : Int64) (u : xS) : Option Int64 :=
  m_Model_whole_l5 xFU a1 a1 (0 : Int32) u
def m_Model_believed (a1 : Int32) (a2 : Int32) (u : xS) : Option Int32 :=
  xb1 (m_Model_wrongPair a1 a2) fun r2 =>
  (if r2 = 0 then
    xg (xin (((3 : Int32) * a1) + a2) 9) <|
    xb1 (m_Model_many (xs_L u 3 (((3 : Int32) * a1) + a2).toNatClampNeg)) fun r24 =>
    some r24
  else
    some (-1000 : Int32))
def m_Model_hear (a1 : Int32) (a2 : Int32) (u : xS) : Option (Int32 × xS) :=
  xb1 (m_Model_wrongPair a1 a2) fun r2 =>
  (if r2 = 0 then
    xg (xin a2 3) <|
    xb1 (m_Model_tips (xs_L u 2 a2.toNatClampNeg) u) fun r19 =>
    xg (xin a1 3) <|
    xb1 (m_Model_whole (r19 &&& (xs_L u 2 a1.toNatClampNeg)) u) fun r41 =>
    xg (xin (((3 : Int32) * a1) + a2) 9) <|
    xlt (xs_sL u 3 (((3 : Int32) * a1) + a2).toNatClampNeg r41) fun w44 =>
    xb1 (m_Model_believed a1 a2 w44) fun r48 =>
    some (r48, w44)
  else
    some ((-1000 : Int32), u))
def m_Model_isCritical_s3 (k3 : Int64 → Int32 → Int32 → xS → Option Int32) (b1 : Int64) (b3 : Int32) (b4 : Int32) (u : xS) : Option Int32 :=
  (if (xs_i u 0) ≤ b4 then
    some (1 : Int32)
  else
    xb1 (m_Model_in b1 b4) fun r15 =>
    (if r15 = 0 then
      k3 b1 b3 (b4 + (1 : Int32)) u
    else
      (if b4 = b3 then
        k3 b1 b3 (b4 + (1 : Int32)) u
      else
        xg (xin b3 40) <|
        xb1 (m_Model_in (xs_L u 0 b3.toNatClampNeg) b4) fun r35 =>
        (if r35 = 0 then
          xg (xin b4 40) <|
          xb1 (m_Model_in (xs_L u 0 b4.toNatClampNeg) b3) fun r49 =>
          (if r49 = 0 then
            some (0 : Int32)
          else
            k3 b1 b3 (b4 + (1 : Int32)) u)
        else
          k3 b1 b3 (b4 + (1 : Int32)) u))))
def m_Model_isCritical_l3 : Nat → Int64 → Int32 → Int32 → xS → Option Int32
  | 0, _, _, _, _ => none
  | n + 1, b1, b3, b4, u => m_Model_isCritical_s3 (m_Model_isCritical_l3 n) b1 b3 b4 u
def m_Model_isCritical (a1 : Int64) (a3 : Int32) (u : xS) : Option Int32 :=
  m_Model_isCritical_l3 xFU a1 a3 (0 : Int32) u
def m_Model_top_s6 (k6 : Int64 → Int64 → Int32 → Int32 → xS → Option Int32) (b1 : Int64) (b3 : Int64) (b5 : Int32) (b6 : Int32) (u : xS) : Option Int32 :=
  (if (xs_i u 0) ≤ b6 then
    some b5
  else
    xb1 (m_Model_in b3 b6) fun r18 =>
    (if r18 = 0 then
      k6 b1 b3 b5 (b6 + (1 : Int32)) u
    else
      xb1 (m_Model_isCritical b1 b6 u) fun r28 =>
      (if r28 = 0 then
        k6 b1 b3 b5 (b6 + (1 : Int32)) u
      else
        (if b5 < 0 then
          k6 b1 b3 b6 (b6 + (1 : Int32)) u
        else
          xg (xin b6 40) <|
          xb1 (m_Model_many (xs_L u 0 b6.toNatClampNeg)) fun r46 =>
          xg (xin b5 40) <|
          xb1 (m_Model_many (xs_L u 0 b5.toNatClampNeg)) fun r56 =>
          (if r46 ≤ r56 then
            k6 b1 b3 b5 (b6 + (1 : Int32)) u
          else
            k6 b1 b3 b6 (b6 + (1 : Int32)) u)))))
def m_Model_top_l6 : Nat → Int64 → Int64 → Int32 → Int32 → xS → Option Int32
  | 0, _, _, _, _, _ => none
  | n + 1, b1, b3, b5, b6, u => m_Model_top_s6 (m_Model_top_l6 n) b1 b3 b5 b6 u
def m_Model_top (a1 : Int64) (a3 : Int64) (u : xS) : Option Int32 :=
  m_Model_top_l6 xFU a1 a3 (-1 : Int32) (0 : Int32) u
def m_Model_effect (a1 : Int64) (a3 : Int32) (u : xS) : Option Int32 :=
  xg (xin a3 40) <|
  (if (xs_I u 2 a3.toNatClampNeg) = 0 then
    xg (xin a3 41) <|
    xb1 (m_Model_hidden a1 u) fun r26 =>
    xb1 (m_Model_in r26 (xs_I u 5 a3.toNatClampNeg)) fun r35 =>
    (if r35 = 0 then
      xb1 (m_Model_shownBefore a1 (xs_I u 5 a3.toNatClampNeg) u) fun r52 =>
      some ((-1 : Int32) - r52)
    else
      some (1000 : Int32))
  else
    xb1 (m_Model_shownBefore a1 a3 u) fun r12 =>
    some r12)
def m_Model_merge_s146 (k146 : Int32 → Int32 → Int64 → Int64 → Int32 → xS → Option xS) (b1 : Int32) (b9 : Int32) (b10 : Int64) (b12 : Int64) (b14 : Int32) (u : xS) : Option xS :=
  (if (xs_i u 2) ≤ b14 then
    xg (xin b1 3) <|
    xlt (xs_sI u 12 b1.toNatClampNeg b9) fun w240 =>
    xlt (xs_sI w240 13 b1.toNatClampNeg (xs_i w240 2)) fun w250 =>
    xlt (xs_sL w250 2 b1.toNatClampNeg b12) fun w258 =>
    some w258
  else
    xg (xin b14 40) <|
    xg (xin (xs_I u 15 b14.toNatClampNeg) 40) <|
    xb1 (m_Model_many (b10 ^^^ (xs_L u 0 (xs_I u 15 b14.toNatClampNeg).toNatClampNeg))) fun r176 =>
    xb1 (m_Model_one (xs_I u 15 b14.toNatClampNeg)) fun r191 =>
    xb1 (m_Model_effect b12 (xs_I u 15 b14.toNatClampNeg) u) fun r213 =>
    xg (xin (((40 : Int32) * b1) + b14) 120) <|
    xlt (xs_sI u 14 (((40 : Int32) * b1) + b14).toNatClampNeg r213) fun w216 =>
    xb1 (m_Model_one (xs_I u 15 b14.toNatClampNeg)) fun r221 =>
    k146 b1 (b9 + r176) ((xs_L u 0 (xs_I u 15 b14.toNatClampNeg).toNatClampNeg) ||| r191) (b12 ||| r221) (b14 + (1 : Int32)) w216)
def m_Model_merge_l146 : Nat → Int32 → Int32 → Int64 → Int64 → Int32 → xS → Option xS
  | 0, _, _, _, _, _, _ => none
  | n + 1, b1, b9, b10, b12, b14, u => m_Model_merge_s146 (m_Model_merge_l146 n) b1 b9 b10 b12 b14 u
def m_Model_merge_s77 (k77 : Int32 → Int64 → Int64 → Int32 → Int64 → Int32 → xS → Option xS) (b1 : Int32) (b2 : Int64) (b4 : Int64) (b9 : Int32) (b10 : Int64) (b12 : Int32) (u : xS) : Option xS :=
  (if (xs_i u 2) ≤ b12 then
    xb1 (m_Model_order b2 u) fun u136 =>
    m_Model_merge_l146 xFU b1 b9 b10 b4 (0 : Int32) u136
  else
    xg (xin b12 40) <|
    xg (xin (xs_I u 15 b12.toNatClampNeg) 40) <|
    xb1 (m_Model_many (b10 ^^^ (xs_L u 0 (xs_I u 15 b12.toNatClampNeg).toNatClampNeg))) fun r107 =>
    xb1 (m_Model_one (xs_I u 15 b12.toNatClampNeg)) fun r122 =>
    k77 b1 b2 b4 (b9 + r107) ((xs_L u 0 (xs_I u 15 b12.toNatClampNeg).toNatClampNeg) ||| r122) (b12 + (1 : Int32)) u)
def m_Model_merge_l77 : Nat → Int32 → Int64 → Int64 → Int32 → Int64 → Int32 → xS → Option xS
  | 0, _, _, _, _, _, _, _ => none
  | n + 1, b1, b2, b4, b9, b10, b12, u => m_Model_merge_s77 (m_Model_merge_l77 n) b1 b2 b4 b9 b10 b12 u
def m_Model_merge_b42 (b1 : Int32) (b2 : Int64) (b4 : Int64) (t0 : Int64) (u : xS) : Option xS :=
  xb1 (m_Model_order (b4 &&& (t0 ^^^ (-1 : Int64))) u) fun u54 =>
  xg (xin b1 3) <|
  xlt (xs_sI u54 11 b1.toNatClampNeg (xs_i u54 2)) fun w66 =>
  m_Model_merge_l77 xFU b1 b2 b4 (0 : Int32) t0 (0 : Int32) w66
def m_Model_merge (a1 : Int32) (a2 : Int64) (u : xS) : Option xS :=
  xg (xin a1 3) <|
  xb1 (m_Model_top ((xs_L u 2 a1.toNatClampNeg) ||| a2) (xs_L u 2 a1.toNatClampNeg) u) fun r15 =>
  (if 0 ≤ r15 then
    xg (xin r15 40) <|
    xb1 (m_Model_one r15) fun r38 =>
    m_Model_merge_b42 a1 a2 (xs_L u 2 a1.toNatClampNeg) ((xs_L u 0 r15.toNatClampNeg) ||| r38) u
  else
    m_Model_merge_b42 a1 a2 (xs_L u 2 a1.toNatClampNeg) (0 : Int64) u)
def m_Model_deliver_b131 (b5 : Int64) (u : xS) : Option (Int32 × xS) :=
  xb1 (m_Model_many b5) fun r133 =>
  some (r133, u)
def m_Model_deliver_s29 (k29 : Int32 → Int32 → Int64 → Int32 → xS → Option (Int32 × xS)) (b1 : Int32) (b2 : Int32) (b3 : Int64) (b5 : Int32) (u : xS) : Option (Int32 × xS) :=
  (if (xs_i u 0) ≤ b5 then
    xg (xin b1 6) <|
    xg (xin (((3 : Int32) * b2) + (xs_I u 9 b1.toNatClampNeg)) 9) <|
    xb1 (m_Model_whole b3 u) fun r98 =>
    xlt (xs_sL u 3 (((3 : Int32) * b2) + (xs_I u 9 b1.toNatClampNeg)).toNatClampNeg ((xs_L u 3 (((3 : Int32) * b2) + (xs_I u 9 b1.toNatClampNeg)).toNatClampNeg) ||| r98)) fun w102 =>
    xg (xin b2 3) <|
    (if (b3 &&& ((xs_L w102 2 b2.toNatClampNeg) ^^^ (-1 : Int64))) = (0 : Int64) then
      m_Model_deliver_b131 (b3 &&& ((xs_L w102 2 b2.toNatClampNeg) ^^^ (-1 : Int64))) w102
    else
      xb1 (m_Model_merge b2 (b3 &&& ((xs_L w102 2 b2.toNatClampNeg) ^^^ (-1 : Int64))) w102) fun u128 =>
      m_Model_deliver_b131 (b3 &&& ((xs_L w102 2 b2.toNatClampNeg) ^^^ (-1 : Int64))) u128)
  else
    xb1 (m_Model_in b3 b5) fun r41 =>
    (if r41 = 0 then
      k29 b1 b2 b3 (b5 + (1 : Int32)) u
    else
      xg (xin b5 40) <|
      xg (xin b2 3) <|
      (if ((xs_L u 1 b5.toNatClampNeg) &&& ((b3 ||| (xs_L u 2 b2.toNatClampNeg)) ^^^ (-1 : Int64))) = (0 : Int64) then
        k29 b1 b2 b3 (b5 + (1 : Int32)) u
      else
        some ((-1 : Int32), u))))
def m_Model_deliver_l29 : Nat → Int32 → Int32 → Int64 → Int32 → xS → Option (Int32 × xS)
  | 0, _, _, _, _, _ => none
  | n + 1, b1, b2, b3, b5, u => m_Model_deliver_s29 (m_Model_deliver_l29 n) b1 b2 b3 b5 u
def m_Model_deliver (a1 : Int32) (u : xS) : Option (Int32 × xS) :=
  xb1 (m_Model_none a1 u) fun r2 =>
  (if r2 = 0 then
    xg (xin a1 6) <|
    m_Model_deliver_l29 xFU a1 (xs_I u 10 a1.toNatClampNeg) (xs_L u 4 a1.toNatClampNeg) (0 : Int32) u
  else
    some ((-1000 : Int32), u))
def m_Model_put_b55 (b2 : Int32) (u : xS) : Option xS :=
  xg (xin (xs_i u 3) 460) <|
  xlt (xs_sI u 16 (xs_i u 3).toNatClampNeg b2) fun w64 =>
  xlt (xs_si w64 3 ((xs_i w64 3) + (1 : Int32))) fun w72 =>
  some w72
def m_Model_put_s4 (k4 : Int32 → Int32 → xS → Option xS) (b2 : Int32) (b3 : Int32) (u : xS) : Option xS :=
  (if (5 : Int32) ≤ b3 then
    m_Model_put_b55 b2 u
  else
    (if b2 ≤ (127 : Int32) then
      m_Model_put_b55 b2 u
    else
      xg (xin (xs_i u 3) 460) <|
      xlt (xs_sI u 16 (xs_i u 3).toNatClampNeg ((b2 - b2 / (128 : Int32) * (128 : Int32)) + (128 : Int32))) fun w32 =>
      xlt (xs_si w32 3 ((xs_i w32 3) + (1 : Int32))) fun w40 =>
      k4 (b2 / (128 : Int32)) (b3 + (1 : Int32)) w40))
def m_Model_put_l4 : Nat → Int32 → Int32 → xS → Option xS
  | 0, _, _, _ => none
  | n + 1, b2, b3, u => m_Model_put_s4 (m_Model_put_l4 n) b2 b3 u
def m_Model_put (a1 : Int32) (u : xS) : Option xS :=
  m_Model_put_l4 xFU a1 (0 : Int32) u
def m_Model_putSigned_b17 (t0 : Int32) (u : xS) : Option xS :=
  xb1 (m_Model_put t0 u) fun u17 =>
  some u17
def m_Model_putSigned (a1 : Int32) (u : xS) : Option xS :=
  (if 0 ≤ a1 then
    m_Model_putSigned_b17 ((2 : Int32) * a1) u
  else
    m_Model_putSigned_b17 (((-2 : Int32) * a1) - (1 : Int32)) u)
def m_Model_putRuns_b139 (k93 : Int32 → Int32 → xS → Option xS) (b2 : Int32) (b3 : Int32) (b4 : Int32) (u : xS) : Option xS :=
  xb1 (m_Model_put b4 u) fun u142 =>
  (if b2 = 0 then
    k93 (1 : Int32) (b3 + b4) u142
  else
    k93 (0 : Int32) (b3 + b4) u142)
def m_Model_putRuns_s104 (k93 : Int32 → Int32 → xS → Option xS) (k104 : Int32 → Int32 → Int32 → xS → Option xS) (b2 : Int32) (b3 : Int32) (b4 : Int32) (u : xS) : Option xS :=
  (if (xs_i u 2) ≤ (b3 + b4) then
    m_Model_putRuns_b139 k93 b2 b3 b4 u
  else
    xg (xin (b3 + b4) 40) <|
    xg (xin (xs_I u 15 (b3 + b4).toNatClampNeg) 40) <|
    (if (xs_I u 2 (xs_I u 15 (b3 + b4).toNatClampNeg).toNatClampNeg) = b2 then
      k104 b2 b3 (b4 + (1 : Int32)) u
    else
      m_Model_putRuns_b139 k93 b2 b3 b4 u))
def m_Model_putRuns_l104 (k93 : Int32 → Int32 → xS → Option xS) : Nat → Int32 → Int32 → Int32 → xS → Option xS
  | 0, _, _, _, _ => none
  | n + 1, b2, b3, b4, u => m_Model_putRuns_s104 k93 (m_Model_putRuns_l104 k93 n) b2 b3 b4 u
def m_Model_putRuns_s93 (k93 : Int32 → Int32 → xS → Option xS) (b2 : Int32) (b3 : Int32) (u : xS) : Option xS :=
  (if (xs_i u 2) ≤ b3 then
    some u
  else
    m_Model_putRuns_l104 k93 xFU b2 b3 (0 : Int32) u)
def m_Model_putRuns_l93 : Nat → Int32 → Int32 → xS → Option xS
  | 0, _, _, _ => none
  | n + 1, b2, b3, u => m_Model_putRuns_s93 (m_Model_putRuns_l93 n) b2 b3 u
def m_Model_putRuns_b57 (k2 : Int32 → xS → Option xS) (b1 : Int32) (b2 : Int32) (b3 : Int32) (u : xS) : Option xS :=
  xg (xin b2 40) <|
  xb1 (m_Model_put (xs_I u 0 b2.toNatClampNeg) u) fun u64 =>
  xb1 (m_Model_put (xs_I u64 1 b2.toNatClampNeg) u64) fun u74 =>
  xb1 (m_Model_put b3 u74) fun u79 =>
  k2 (b1 + b3) u79
def m_Model_putRuns_s19 (k2 : Int32 → xS → Option xS) (k19 : Int32 → Int32 → Int32 → xS → Option xS) (b1 : Int32) (b2 : Int32) (b3 : Int32) (u : xS) : Option xS :=
  (if (xs_i u 2) ≤ (b1 + b3) then
    m_Model_putRuns_b57 k2 b1 b2 b3 u
  else
    xg (xin (b1 + b3) 40) <|
    xg (xin (xs_I u 15 (b1 + b3).toNatClampNeg) 40) <|
    xg (xin b2 40) <|
    (if (xs_I u 0 (xs_I u 15 (b1 + b3).toNatClampNeg).toNatClampNeg) = (xs_I u 0 b2.toNatClampNeg) then
      k19 b1 b2 (b3 + (1 : Int32)) u
    else
      m_Model_putRuns_b57 k2 b1 b2 b3 u))
def m_Model_putRuns_l19 (k2 : Int32 → xS → Option xS) : Nat → Int32 → Int32 → Int32 → xS → Option xS
  | 0, _, _, _, _ => none
  | n + 1, b1, b2, b3, u => m_Model_putRuns_s19 k2 (m_Model_putRuns_l19 k2 n) b1 b2 b3 u
def m_Model_putRuns_s2 (k2 : Int32 → xS → Option xS) (b1 : Int32) (u : xS) : Option xS :=
  (if (xs_i u 2) ≤ b1 then
    m_Model_putRuns_l93 xFU (1 : Int32) (0 : Int32) u
  else
    xg (xin b1 40) <|
    m_Model_putRuns_l19 k2 xFU b1 (xs_I u 15 b1.toNatClampNeg) (1 : Int32) u)
def m_Model_putRuns_l2 : Nat → Int32 → xS → Option xS
  | 0, _, _ => none
  | n + 1, b1, u => m_Model_putRuns_s2 (m_Model_putRuns_l2 n) b1 u
def m_Model_putRuns (u : xS) : Option xS :=
  m_Model_putRuns_l2 xFU (0 : Int32) u
def m_Model_putParents_s63 (k55 : Int32 → Int32 → xS → Option xS) (k63 : Int32 → Int32 → Int32 → xS → Option xS) (b2 : Int32) (b3 : Int32) (b4 : Int32) (u : xS) : Option xS :=
  (if (xs_i u 0) ≤ b4 then
    k55 b2 (b3 + (1 : Int32)) u
  else
    xg (xin b4 40) <|
    (if (xs_I u 0 b4.toNatClampNeg) = b3 then
      xg (xin b2 40) <|
      xb1 (m_Model_in (xs_L u 1 b2.toNatClampNeg) b4) fun r91 =>
      (if r91 = 0 then
        k63 b2 b3 (b4 + (1 : Int32)) u
      else
        xb1 (m_Model_put (b3 + ((3 : Int32) * (xs_I u 1 b4.toNatClampNeg))) u) fun u109 =>
        k63 b2 b3 (b4 + (1 : Int32)) u109)
    else
      k63 b2 b3 (b4 + (1 : Int32)) u))
def m_Model_putParents_l63 (k55 : Int32 → Int32 → xS → Option xS) : Nat → Int32 → Int32 → Int32 → xS → Option xS
  | 0, _, _, _, _ => none
  | n + 1, b2, b3, b4, u => m_Model_putParents_s63 k55 (m_Model_putParents_l63 k55 n) b2 b3 b4 u
def m_Model_putParents_s55 (k55 : Int32 → Int32 → xS → Option xS) (b2 : Int32) (b3 : Int32) (u : xS) : Option xS :=
  (if (3 : Int32) ≤ b3 then
    some u
  else
    m_Model_putParents_l63 k55 xFU b2 b3 (0 : Int32) u)
def m_Model_putParents_l55 : Nat → Int32 → Int32 → xS → Option xS
  | 0, _, _, _ => none
  | n + 1, b2, b3, u => m_Model_putParents_s55 (m_Model_putParents_l55 n) b2 b3 u
def m_Model_putParents_b38 (b2 : Int32) (u : xS) : Option xS :=
  xg (xin b2 40) <|
  xb1 (m_Model_many (xs_L u 1 b2.toNatClampNeg)) fun r46 =>
  xb1 (m_Model_put ((1 : Int32) + r46) u) fun u50 =>
  m_Model_putParents_l55 xFU b2 (0 : Int32) u50
def m_Model_putParents (a1 : Int32) (u : xS) : Option xS :=
  xg (xin a1 40) <|
  (if a1 ≤ 0 then
    m_Model_putParents_b38 (xs_I u 15 a1.toNatClampNeg) u
  else
    xg (xin (xs_I u 15 a1.toNatClampNeg) 40) <|
    xg (xin (a1 - (1 : Int32)) 40) <|
    xb1 (m_Model_one (xs_I u 15 (a1 - (1 : Int32)).toNatClampNeg)) fun r25 =>
    (if (xs_L u 1 (xs_I u 15 a1.toNatClampNeg).toNatClampNeg) = r25 then
      xb1 (m_Model_put (0 : Int32) u) fun u34 =>
      some u34
    else
      m_Model_putParents_b38 (xs_I u 15 a1.toNatClampNeg) u))
def m_Model_write_s137 (k137 : Int32 → xS → Option xS) (b3 : Int32) (u : xS) : Option xS :=
  (if (xs_i u 2) ≤ b3 then
    some u
  else
    xb1 (m_Model_putParents b3 u) fun u147 =>
    k137 (b3 + (1 : Int32)) u147)
def m_Model_write_l137 : Nat → Int32 → xS → Option xS
  | 0, _, _ => none
  | n + 1, b3, u => m_Model_write_s137 (m_Model_write_l137 n) b3 u
def m_Model_write_s78 (k78 : Int32 → Int32 → xS → Option xS) (b2 : Int32) (b3 : Int32) (u : xS) : Option xS :=
  (if (xs_i u 2) ≤ b3 then
    m_Model_write_l137 xFU (0 : Int32) u
  else
    xg (xin b3 40) <|
    xg (xin (xs_I u 15 b3.toNatClampNeg) 40) <|
    (if (xs_I u 2 (xs_I u 15 b3.toNatClampNeg).toNatClampNeg) = 0 then
      k78 b2 (b3 + (1 : Int32)) u
    else
      xb1 (m_Model_putSigned ((xs_I u 4 (xs_I u 15 b3.toNatClampNeg).toNatClampNeg) - b2) u) fun u114 =>
      xg (xin (xs_I u114 15 b3.toNatClampNeg) 40) <|
      k78 (xs_I u114 4 (xs_I u114 15 b3.toNatClampNeg).toNatClampNeg) (b3 + (1 : Int32)) u114))
def m_Model_write_l78 : Nat → Int32 → Int32 → xS → Option xS
  | 0, _, _, _ => none
  | n + 1, b2, b3, u => m_Model_write_s78 (m_Model_write_l78 n) b2 b3 u
def m_Model_write_s31 (k31 : Int32 → Int32 → xS → Option xS) (b2 : Int32) (b3 : Int32) (u : xS) : Option xS :=
  (if (xs_i u 2) ≤ b3 then
    m_Model_write_l78 xFU (0 : Int32) (0 : Int32) u
  else
    xg (xin b3 40) <|
    xg (xin (xs_I u 15 b3.toNatClampNeg) 40) <|
    xb1 (m_Model_putSigned ((xs_I u 3 (xs_I u 15 b3.toNatClampNeg).toNatClampNeg) - b2) u) fun u53 =>
    xg (xin (xs_I u53 15 b3.toNatClampNeg) 40) <|
    k31 (xs_I u53 3 (xs_I u53 15 b3.toNatClampNeg).toNatClampNeg) (b3 + (1 : Int32)) u53)
def m_Model_write_l31 : Nat → Int32 → Int32 → xS → Option xS
  | 0, _, _, _ => none
  | n + 1, b2, b3, u => m_Model_write_s31 (m_Model_write_l31 n) b2 b3 u
def m_Model_write (a1 : Int32) (u : xS) : Option xS :=
  xg (xin a1 6) <|
  xb1 (m_Model_order (xs_L u 4 a1.toNatClampNeg) u) fun u7 =>
  xlt (xs_si u7 3 (0 : Int32)) fun w12 =>
  xb1 (m_Model_put (xs_i w12 2) w12) fun u20 =>
  xb1 (m_Model_putRuns u20) fun u24 =>
  m_Model_write_l31 xFU (0 : Int32) (0 : Int32) u24
def m_Model_octets (a1 : Int32) (u : xS) : Option (Int32 × xS) :=
  xb1 (m_Model_none a1 u) fun r2 =>
  (if r2 = 0 then
    xb1 (m_Model_write a1 u) fun u14 =>
    some ((xs_i u14 3), u14)
  else
    some ((-1000 : Int32), u))
def m_Model_octet (a1 : Int32) (a2 : Int32) (u : xS) : Option (Int32 × xS) :=
  xb1 (m_Model_none a1 u) fun r2 =>
  (if r2 = 0 then
    xb1 (m_Model_write a1 u) fun u14 =>
    (if a2 < 0 then
      some ((-1000 : Int32), u14)
    else
      (if a2 < (xs_i u14 3) then
        xg (xin a2 460) <|
        some ((xs_I u14 16 a2.toNatClampNeg), u14)
      else
        some ((-1000 : Int32), u14)))
  else
    some ((-1000 : Int32), u))
def m_Model_events (a1 : Int32) (u : xS) : Option Int32 :=
  xb1 (m_Model_wrong a1) fun r1 =>
  (if r1 = 0 then
    xg (xin a1 3) <|
    xb1 (m_Model_many (xs_L u 2 a1.toNatClampNeg)) fun r19 =>
    some r19
  else
    some (-1000 : Int32))
def m_Model_heads (a1 : Int32) (u : xS) : Option Int32 :=
  xb1 (m_Model_wrong a1) fun r1 =>
  (if r1 = 0 then
    xg (xin a1 3) <|
    xb1 (m_Model_tips (xs_L u 2 a1.toNatClampNeg) u) fun r20 =>
    xb1 (m_Model_many r20) fun r23 =>
    some r23
  else
    some (-1000 : Int32))
def m_Model_head_s41 (k32 : Int32 → Int64 → Int32 → Int32 → xS → Option Int32) (k41 : Int32 → Int64 → Int32 → Int32 → Int32 → xS → Option Int32) (b2 : Int32) (b3 : Int64) (b5 : Int32) (b6 : Int32) (b7 : Int32) (u : xS) : Option Int32 :=
  (if (xs_i u 0) ≤ b7 then
    k32 b2 b3 b5 (b6 + (1 : Int32)) u
  else
    xg (xin b7 40) <|
    (if (xs_I u 0 b7.toNatClampNeg) = b6 then
      xb1 (m_Model_in b3 b7) fun r65 =>
      (if r65 = 0 then
        k41 b2 b3 b5 b6 (b7 + (1 : Int32)) u
      else
        (if b5 = b2 then
          some (b6 + ((3 : Int32) * (xs_I u 1 b7.toNatClampNeg)))
        else
          k41 b2 b3 (b5 + (1 : Int32)) b6 (b7 + (1 : Int32)) u))
    else
      k41 b2 b3 b5 b6 (b7 + (1 : Int32)) u))
def m_Model_head_l41 (k32 : Int32 → Int64 → Int32 → Int32 → xS → Option Int32) : Nat → Int32 → Int64 → Int32 → Int32 → Int32 → xS → Option Int32
  | 0, _, _, _, _, _, _ => none
  | n + 1, b2, b3, b5, b6, b7, u => m_Model_head_s41 k32 (m_Model_head_l41 k32 n) b2 b3 b5 b6 b7 u
def m_Model_head_s32 (k32 : Int32 → Int64 → Int32 → Int32 → xS → Option Int32) (b2 : Int32) (b3 : Int64) (b5 : Int32) (b6 : Int32) (u : xS) : Option Int32 :=
  (if (3 : Int32) ≤ b6 then
    some (-1000 : Int32)
  else
    m_Model_head_l41 k32 xFU b2 b3 b5 b6 (0 : Int32) u)
def m_Model_head_l32 : Nat → Int32 → Int64 → Int32 → Int32 → xS → Option Int32
  | 0, _, _, _, _, _ => none
  | n + 1, b2, b3, b5, b6, u => m_Model_head_s32 (m_Model_head_l32 n) b2 b3 b5 b6 u
def m_Model_head (a1 : Int32) (a2 : Int32) (u : xS) : Option Int32 :=
  xb1 (m_Model_wrong a1) fun r1 =>
  (if r1 = 0 then
    (if 0 ≤ a2 then
      xg (xin a1 3) <|
      xb1 (m_Model_tips (xs_L u 2 a1.toNatClampNeg) u) fun r22 =>
      m_Model_head_l32 xFU a2 r22 (0 : Int32) (0 : Int32) u
    else
      some (-1000 : Int32))
  else
    some (-1000 : Int32))
def m_Model_find_s2 (k2 : Int32 → Int32 → Int32 → xS → Option Int32) (b1 : Int32) (b2 : Int32) (b3 : Int32) (u : xS) : Option Int32 :=
  (if (xs_i u 0) ≤ b3 then
    some (-1 : Int32)
  else
    xg (xin b3 40) <|
    (if (xs_I u 0 b3.toNatClampNeg) = b1 then
      (if (xs_I u 1 b3.toNatClampNeg) = b2 then
        some b3
      else
        k2 b1 b2 (b3 + (1 : Int32)) u)
    else
      k2 b1 b2 (b3 + (1 : Int32)) u))
def m_Model_find_l2 : Nat → Int32 → Int32 → Int32 → xS → Option Int32
  | 0, _, _, _, _ => none
  | n + 1, b1, b2, b3, u => m_Model_find_s2 (m_Model_find_l2 n) b1 b2 b3 u
def m_Model_find (a1 : Int32) (a2 : Int32) (u : xS) : Option Int32 :=
  m_Model_find_l2 xFU a1 a2 (0 : Int32) u
def m_Model_ancestor (a1 : Int32) (a2 : Int32) (a3 : Int32) (a4 : Int32) (u : xS) : Option Int32 :=
  xb1 (m_Model_find a1 a2 u) fun r3 =>
  xb1 (m_Model_find a3 a4 u) fun r12 =>
  (if r3 < 0 then
    some (-1000 : Int32)
  else
    (if 0 ≤ r12 then
      xg (xin r12 40) <|
      xb1 (m_Model_in (xs_L u 0 r12.toNatClampNeg) r3) fun r40 =>
      (if r40 = 0 then
        some (0 : Int32)
      else
        some (1 : Int32))
    else
      some (-1000 : Int32)))
def m_Model_critical (a1 : Int32) (u : xS) : Option Int32 :=
  xb1 (m_Model_wrong a1) fun r1 =>
  (if r1 = 0 then
    xg (xin a1 3) <|
    xb1 (m_Model_top (xs_L u 2 a1.toNatClampNeg) (xs_L u 2 a1.toNatClampNeg) u) fun r24 =>
    (if 0 ≤ r24 then
      xg (xin r24 40) <|
      xb1 (m_Model_many (xs_L u 0 r24.toNatClampNeg)) fun r43 =>
      some ((1 : Int32) + r43)
    else
      some (0 : Int32))
  else
    some (-1000 : Int32))
def m_Model_replayed (a1 : Int32) (u : xS) : Option Int32 :=
  xb1 (m_Model_wrong a1) fun r1 =>
  (if r1 = 0 then
    xg (xin a1 3) <|
    some (xs_I u 11 a1.toNatClampNeg)
  else
    some (-1000 : Int32))
def m_Model_moves (a1 : Int32) (u : xS) : Option Int32 :=
  xb1 (m_Model_wrong a1) fun r1 =>
  (if r1 = 0 then
    xg (xin a1 3) <|
    some (xs_I u 12 a1.toNatClampNeg)
  else
    some (-1000 : Int32))
def m_Model_operation (a1 : Int32) (a2 : Int32) (u : xS) : Option Int32 :=
  xb1 (m_Model_wrong a1) fun r1 =>
  (if r1 = 0 then
    (if a2 < 0 then
      some (-1000 : Int32)
    else
      xg (xin a1 3) <|
      (if a2 < (xs_I u 13 a1.toNatClampNeg) then
        xg (xin (((40 : Int32) * a1) + a2) 120) <|
        some (xs_I u 14 (((40 : Int32) * a1) + a2).toNatClampNeg)
      else
        some (-1000 : Int32)))
  else
    some (-1000 : Int32))
end
section
set_option maxHeartbeats 4000000 in
set_option maxRecDepth 100000 in
theorem c_Text_isSite (l : Launch) (a0 : Int32) (out : Int32) (hm : m_Text_isSite a0 = some out) : Met l y_Text_isSite (Cond.code y_Text_isSite b_Text_isSite 1 (some .boolean) :: xG) (xrm 0 0) (va_Pc [.int a0] (fun _ => True)) (va_Qi (fun r9 (_ : Unit) => r9 = out) (fun _ _ => True) xN) 0 0 xN := by
  refine xm_puz (cc := b_Text_isSite) (maxL := 1) (by decide) rfl (Nat.le_of_ble_eq_true rfl) ?_
  intro p e s m args below meth c Q ls hx hb hml hts hown hl hret
  have hT : ∀ w ∈ xG, w.before args s = true := fun w h => hts w (List.mem_cons_of_mem _ h)
  have hown : s.vm.findClass "EventGraphText" = some m.cls := hown
  have hl : lv_has ls 1 [(0, .int a0)] := hl
  have hS : va_S xN s.heap s.heap [] := va_S.rf
  unfold m_Text_isSite at hm
  refine lv_iload_n hx hb d_Text_isSite_0 rfl (lv_at hl 0 rfl) ?_
  refine lv_if_lt (tgt := 13) hx hb d_Text_isSite_1 rfl (fun h => ?_) (fun h => ?_)
  · replace hm := xi_pos h hm
    refine lv_iconst (v := (0 : Int32)) hx hb d_Text_isSite_13 (by decide) ?_
    exact hret hm rfl hS d_Text_isSite_14
  · replace hm := xi_neg h hm
    refine lv_iload_n hx hb d_Text_isSite_4 rfl (lv_at hl 0 rfl) ?_
    refine lv_iconst (v := (3 : Int32)) hx hb d_Text_isSite_5 (by decide) ?_
    refine lv_icmp_ge (tgt := 13) hx hb d_Text_isSite_6 rfl (fun h => ?_) (fun h => ?_)
    · replace hm := xi_pos h hm
      refine lv_iconst (v := (0 : Int32)) hx hb d_Text_isSite_13 (by decide) ?_
      exact hret hm rfl hS d_Text_isSite_14
    · replace hm := xi_neg h hm
      refine lv_iconst (v := (1 : Int32)) hx hb d_Text_isSite_9 (by decide) ?_
      refine lv_goto (tgt := 14) hx hb d_Text_isSite_10 rfl ?_
      exact hret hm rfl hS d_Text_isSite_14
set_option maxHeartbeats 4000000 in
set_option maxRecDepth 100000 in
theorem c_History_isFull (l : Launch) (dC : Nat → ClassId) (dI : Nat → Nat → Nat) (dT : Nat → ClassId) (ad : Nat → Nat) (u : xS) (out : Int32) (hm : m_History_isFull u = some out) : Met l y_History_isFull (Cond.code y_History_isFull b_History_isFull 1 (some .boolean) :: xG) (xrm 0 0) (va_Pc [.ref (ad 1)] (xR (dC, dI) xCl (xT dT) (cW dT ad u))) (va_Qi (fun r9 (_ : Unit) => r9 = out) (fun _ _ => True) xN) 0 0 xN := by
  refine xm_roz (cc := b_History_isFull) (maxL := 1) (by decide) rfl (Nat.le_of_ble_eq_true rfl) ?_
  intro p e s m args below meth c Q ls hx hb hml hts hown hK hN hP hl hret
  have hT : ∀ w ∈ xG, w.before args s = true := fun w h => hts w (List.mem_cons_of_mem _ h)
  have hown : s.vm.findClass "EventGraphText$History" = some m.cls := hown
  have hl : lv_has ls 1 [(0, .ref (ad 1))] := hl
  have hS : va_S xN s.heap s.heap [] := va_S.rf
  unfold m_History_isFull at hm
  refine lv_aload_n hx hb d_History_isFull_0 rfl (lv_at hl 0 rfl) ?_
  refine va_get (D := (dC, dI)) (ci := 1) (v := .int (xs_i u 0)) (C := "EventGraphText$History") (T := T_History) (N := 9) hx hb hT hin_History hown hK hP 1 cW_H rfl 8 (by decide) (hT _ wd_33) (fun _ h9 => h9) rfl d_History_isFull_1 ?_
  refine lv_bipush (v := (40 : Int32)) hx hb d_History_isFull_4 (by decide) ?_
  refine lv_icmp_lt (tgt := 13) hx hb d_History_isFull_6 rfl (fun h => ?_) (fun h => ?_)
  · replace hm := xi_pos h hm
    refine lv_iconst (v := (0 : Int32)) hx hb d_History_isFull_13 (by decide) ?_
    exact hret hm rfl hS d_History_isFull_14
  · replace hm := xi_neg h hm
    refine lv_iconst (v := (1 : Int32)) hx hb d_History_isFull_9 (by decide) ?_
    refine lv_goto (tgt := 14) hx hb d_History_isFull_10 rfl ?_
    exact hret hm rfl hS d_History_isFull_14
set_option maxHeartbeats 4000000 in
set_option maxRecDepth 100000 in
theorem c_Text_bit (l : Launch) (a0 : Int32) (out : Int64) (hm : m_Text_bit a0 = some out) : Met l y_Text_bit (Cond.code y_Text_bit b_Text_bit 1 (some .long) :: xG) (xrm 0 0) (va_Pc [.int a0] (fun _ => True)) (va_Ql (fun r9 (_ : Unit) => r9 = out) (fun _ _ => True) xN) 0 0 xN := by
  refine xm_puj (cc := b_Text_bit) (maxL := 1) (by decide) rfl (Nat.le_of_ble_eq_true rfl) ?_
  intro p e s m args below meth c Q ls hx hb hml hts hown hl hret
  have hT : ∀ w ∈ xG, w.before args s = true := fun w h => hts w (List.mem_cons_of_mem _ h)
  have hown : s.vm.findClass "EventGraphText" = some m.cls := hown
  have hl : lv_has ls 1 [(0, .int a0)] := hl
  have hS : va_S xN s.heap s.heap [] := va_S.rf
  unfold m_Text_bit at hm
  refine lv_lconst (v := (1 : Int64)) hx hb d_Text_bit_0 (by decide) ?_
  refine lv_iload_n hx hb d_Text_bit_1 rfl (lv_at hl 0 rfl) ?_
  refine lv_lshl (v := (xShl (1 : Int64) a0)) hx hb d_Text_bit_2 rfl ?_
  exact hret hm hS d_Text_bit_3
set_option maxHeartbeats 4000000 in
set_option maxRecDepth 100000 in
theorem c_Text_has (l : Launch) (a0 : Int64) (a2 : Int32) (out : Int32) (hm : m_Text_has a0 a2 = some out) : Met l y_Text_has (Cond.code y_Text_has b_Text_has 3 (some .boolean) :: xG) (xrm 1 20) (va_Pc [.long a0, .int a2] (fun _ => True)) (va_Qi (fun r9 (_ : Unit) => r9 = out) (fun _ _ => True) xN) 0 0 xN := by
  refine xm_puz (cc := b_Text_has) (maxL := 3) (by decide) rfl (Nat.le_of_ble_eq_true rfl) ?_
  intro p e s m args below meth c Q ls hx hb hml hts hown hl hret
  have hT : ∀ w ∈ xG, w.before args s = true := fun w h => hts w (List.mem_cons_of_mem _ h)
  have hown : s.vm.findClass "EventGraphText" = some m.cls := hown
  have hl : lv_has ls 3 [(0, .long a0), (2, .int a2)] := hl
  have hS : va_S xN s.heap s.heap [] := va_S.rf
  unfold m_Text_has at hm
  refine lv_iload_n hx hb d_Text_has_0 rfl (lv_at hl 1 rfl) ?_
  refine lv_if_lt (tgt := 19) hx hb d_Text_has_1 rfl (fun h => ?_) (fun h => ?_)
  · replace hm := xi_pos h hm
    refine lv_iconst (v := (0 : Int32)) hx hb d_Text_has_19 (by decide) ?_
    exact hret hm rfl hS d_Text_has_20
  · replace hm := xi_neg h hm
    refine lv_lload_n hx hb d_Text_has_4 rfl (lv_at hl 0 rfl) ?_
    refine lv_iload_n hx hb d_Text_has_5 rfl (lv_at hl 1 rfl) ?_
    obtain ⟨r6, h6, hm⟩ := xb1_some hm
    refine xc_l0 (va_runS (As := [.int a2]) (rest := [.long a0]) ⟨hx, hb, hml, hown, hts⟩ (c_Text_bit l a2 r6 h6) (va_cwS 1 hts (xgS wd_218 wd_219 wd_1 wd_220) rfl rfl rfl pd_Text_bit.2 ⟨Nat.le_of_ble_eq_true rfl, Nat.le_of_ble_eq_true rfl⟩) xpreS0 rfl rfl hl.1 rfl (lv_room (Nat.le_of_ble_eq_true rfl)) d_Text_has_6 ⟨Nat.le_of_ble_eq_true rfl, Nat.le_of_ble_eq_true rfl⟩) hS (fun H locs hS => ?_)
    refine lv_land hx hb d_Text_has_9 ?_
    refine lv_lconst (v := (0 : Int64)) hx hb d_Text_has_10 (by decide) ?_
    refine xl_cmp_eq (tgt := 19) hx hb d_Text_has_11 d_Text_has_12 rfl (fun h => ?_) (fun h => ?_)
    · replace hm := xi_pos h hm
      refine lv_iconst (v := (0 : Int32)) hx hb d_Text_has_19 (by decide) ?_
      exact hret hm rfl hS d_Text_has_20
    · replace hm := xi_neg h hm
      refine lv_iconst (v := (1 : Int32)) hx hb d_Text_has_15 (by decide) ?_
      refine lv_goto (tgt := 20) hx hb d_Text_has_16 rfl ?_
      exact hret hm rfl hS d_Text_has_20
set_option maxHeartbeats 4000000 in
set_option maxRecDepth 100000 in
theorem c_CharacterList_shownIn (l : Launch) (dC : Nat → ClassId) (dI : Nat → Nat → Nat) (dT : Nat → ClassId) (ad : Nat → Nat) (a1 : Int64) (u : xS) (out : Int64) (hm : m_CharacterList_shownIn a1 u = some out) : Met l y_CharacterList_shownIn (Cond.code y_CharacterList_shownIn b_CharacterList_shownIn 6 (some .long) :: xG) (xrm 2 42) (va_Pc [.ref (ad 10), .long a1] (xR (dC, dI) xCl (xT dT) (cW dT ad u))) (va_Ql (fun r9 (_ : Unit) => r9 = out) (fun _ _ => True) xN) 0 0 xN := by
  refine xm_roj (cc := b_CharacterList_shownIn) (maxL := 6) (by decide) rfl (Nat.le_of_ble_eq_true rfl) ?_
  intro p e s m args below meth c Q ls hx hb hml hts hown hK hN hP hl hret
  have hT : ∀ w ∈ xG, w.before args s = true := fun w h => hts w (List.mem_cons_of_mem _ h)
  have hown : s.vm.findClass "EventGraphText$CharacterList" = some m.cls := hown
  have hl : lv_has ls 6 [(0, .ref (ad 10)), (1, .long a1)] := hl
  have hS : va_S xN s.heap s.heap [] := va_S.rf
  have hs5 : ∀ (k5 : Int64 → Int64 → Int32 → xS → Option Int64) (hk5 : ∀ (b1 : Int64) (b3 : Int64) (b5 : Int32) (H : Heap) (locs : List Loc) (ls : Array Slot), lv_has ls 6 [(0, .ref (ad 10)), (1, .long b1), (3, .long b3), (5, .int b5)] → va_P (dC, dI) xCl (cW dT ad u) H → va_S xN s.heap H locs → k5 b1 b3 b5 u = some out → W p l e (xrm 2 42) s m args below meth c H locs 0 0 Q (F0 m 5 ls [])), ∀ (b1 : Int64) (b3 : Int64) (b5 : Int32) (H : Heap) (locs : List Loc) (ls : Array Slot), lv_has ls 6 [(0, .ref (ad 10)), (1, .long b1), (3, .long b3), (5, .int b5)] → va_P (dC, dI) xCl (cW dT ad u) H → va_S xN s.heap H locs → m_CharacterList_shownIn_s5 k5 b1 b3 b5 u = some out → W p l e (xrm 2 42) s m args below meth c H locs 0 0 Q (F0 m 5 ls []) := by
    intro k5 hk5 b1 b3 b5 H locs ls hl hP hS hm
    unfold m_CharacterList_shownIn_s5 at hm
    refine lv_iload hx hb d_CharacterList_shownIn_5 (lv_at hl 3 rfl) ?_
    refine lv_bipush (v := (40 : Int32)) hx hb d_CharacterList_shownIn_7 (by decide) ?_
    refine lv_icmp_ge (tgt := 45) hx hb d_CharacterList_shownIn_9 rfl (fun h => ?_) (fun h => ?_)
    · replace hm := xi_pos h hm
      refine lv_lload_n hx hb d_CharacterList_shownIn_45 rfl (lv_at hl 1 rfl) ?_
      refine lv_aload_n hx hb d_CharacterList_shownIn_46 rfl (lv_at hl 0 rfl) ?_
      refine va_get (D := (dC, dI)) (ci := 0) (v := .long (xs_l u 1)) (C := "EventGraphText$CharacterList") (T := T_CharacterList) (N := 8) hx hb hT hin_CharacterList hown hK hP 10 cW_L rfl 6 (by decide) (hT _ wd_67) (fun _ h9 => h9) rfl d_CharacterList_shownIn_47 ?_
      refine lv_land hx hb d_CharacterList_shownIn_50 ?_
      refine lv_lload_n hx hb d_CharacterList_shownIn_51 rfl (lv_at hl 2 rfl) ?_
      refine lv_ldc2 (v := (-1 : Int64)) hx hb hown (hT _ wd_222) d_CharacterList_shownIn_52 ?_
      refine lv_lxor hx hb d_CharacterList_shownIn_55 ?_
      refine lv_land hx hb d_CharacterList_shownIn_56 ?_
      exact hret hm hS d_CharacterList_shownIn_57
    · replace hm := xi_neg h hm
      refine lv_lload_n hx hb d_CharacterList_shownIn_12 rfl (lv_at hl 1 rfl) ?_
      refine lv_aload_n hx hb d_CharacterList_shownIn_13 rfl (lv_at hl 0 rfl) ?_
      refine va_get (D := (dC, dI)) (ci := 0) (v := .long (xs_l u 0)) (C := "EventGraphText$CharacterList") (T := T_CharacterList) (N := 8) hx hb hT hin_CharacterList hown hK hP 10 cW_L rfl 5 (by decide) (hT _ wd_66) (fun _ h9 => h9) rfl d_CharacterList_shownIn_14 ?_
      refine lv_land hx hb d_CharacterList_shownIn_17 ?_
      refine lv_iload hx hb d_CharacterList_shownIn_18 (lv_at hl 3 rfl) ?_
      obtain ⟨r20, h20, hm⟩ := xb1_some hm
      refine xc_i (va_runSN (As := [.long (b1 &&& (xs_l u 0)), .int b5]) (rest := []) ⟨hx, hb, hml, hown, hts⟩ (c_Text_has l (b1 &&& (xs_l u 0)) b5 r20 h20) ⟨va_cnB 2 hts (xg0 wd_217) rfl rfl rfl (nmm_7 hN) (hT _ wd_1) pd_Text_has.2 ⟨Nat.le_of_ble_eq_true rfl, Nat.le_of_ble_eq_true rfl⟩, hT _ wd_216, trivial⟩ xpreS0 rfl rfl hl.1 rfl (lv_room (Nat.le_of_ble_eq_true rfl)) d_CharacterList_shownIn_20 ⟨Nat.le_of_ble_eq_true rfl, Nat.le_of_ble_eq_true rfl⟩) hP hS (fun H locs hP hS => ?_)
      refine lv_if_eq (tgt := 39) hx hb d_CharacterList_shownIn_23 rfl (fun h => ?_) (fun h => ?_)
      · replace hm := xi_pos h hm
        refine lv_iinc (k := 3) (v := (b5 + (1 : Int32))) (lv' := [(5, .int (b5 + (1 : Int32))), (0, .ref (ad 10)), (1, .long b1), (3, .long b3)]) hx hb d_CharacterList_shownIn_39 hl rfl rfl (Nat.le_of_ble_eq_true rfl) rfl (fun ls hl => ?_)
        refine lv_goto (tgt := 5) hx hb d_CharacterList_shownIn_42 rfl ?_
        exact hk5 b1 b3 (b5 + (1 : Int32)) _ _ _ (lv_sub hl [1, 2, 3, 0] rfl) hP hS hm
      · replace hm := xi_neg h hm
        refine lv_lload_n hx hb d_CharacterList_shownIn_26 rfl (lv_at hl 2 rfl) ?_
        refine lv_aload_n hx hb d_CharacterList_shownIn_27 rfl (lv_at hl 0 rfl) ?_
        refine va_get (D := (dC, dI)) (ci := 0) (v := .ref (ad 15)) (C := "EventGraphText$CharacterList") (T := T_CharacterList) (N := 8) hx hb hT hin_CharacterList hown hK hP 10 cW_L rfl 4 (by decide) (hT _ wd_65) (fun _ h9 => h9) rfl d_CharacterList_shownIn_28 ?_
        refine lv_iload hx hb d_CharacterList_shownIn_31 (lv_at hl 3 rfl) ?_
        obtain ⟨g1, hm⟩ := xg_some hm
        refine va_iald hx hb hK hP 15 0 cW_L_taken rfl g1 d_CharacterList_shownIn_33 ?_
        obtain ⟨r34, h34, hm⟩ := xb1_some hm
        refine xc_l (va_runSN (As := [.int (xs_I u 9 b5.toNatClampNeg)]) (rest := [.long b3]) ⟨hx, hb, hml, hown, hts⟩ (c_Text_bit l (xs_I u 9 b5.toNatClampNeg) r34 h34) ⟨va_cnB 1 hts (xg0 wd_220) rfl rfl rfl (nmm_8 hN) (hT _ wd_1) pd_Text_bit.2 ⟨Nat.le_of_ble_eq_true rfl, Nat.le_of_ble_eq_true rfl⟩, hT _ wd_219, trivial⟩ xpreS0 rfl rfl hl.1 rfl (lv_room (Nat.le_of_ble_eq_true rfl)) d_CharacterList_shownIn_34 ⟨Nat.le_of_ble_eq_true rfl, Nat.le_of_ble_eq_true rfl⟩) hP hS (fun H locs hP hS => ?_)
        refine lv_lor hx hb d_CharacterList_shownIn_37 ?_
        refine lv_lstore_n (lv' := [(3, .long (b3 ||| r34)), (0, .ref (ad 10)), (1, .long b1), (5, .int b5)]) hx hb d_CharacterList_shownIn_38 rfl hl (Nat.le_of_ble_eq_true rfl) rfl (fun ls hl => ?_)
        refine lv_iinc (k := 3) (v := (b5 + (1 : Int32))) (lv' := [(5, .int (b5 + (1 : Int32))), (3, .long (b3 ||| r34)), (0, .ref (ad 10)), (1, .long b1)]) hx hb d_CharacterList_shownIn_39 hl rfl rfl (Nat.le_of_ble_eq_true rfl) rfl (fun ls hl => ?_)
        refine lv_goto (tgt := 5) hx hb d_CharacterList_shownIn_42 rfl ?_
        exact hk5 b1 (b3 ||| r34) (b5 + (1 : Int32)) _ _ _ (lv_sub hl [2, 3, 1, 0] rfl) hP hS hm
  have hl5 : ∀ (fu : Nat), ∀ (b1 : Int64) (b3 : Int64) (b5 : Int32) (H : Heap) (locs : List Loc) (ls : Array Slot), lv_has ls 6 [(0, .ref (ad 10)), (1, .long b1), (3, .long b3), (5, .int b5)] → va_P (dC, dI) xCl (cW dT ad u) H → va_S xN s.heap H locs → m_CharacterList_shownIn_l5 fu b1 b3 b5 u = some out → W p l e (xrm 2 42) s m args below meth c H locs 0 0 Q (F0 m 5 ls []) := by
    intro fu
    induction fu with
    | zero => intro b1 b3 b5 H locs ls hl hP hS hm; exact absurd hm (fun z => by cases z)
    | succ n ih => intro b1 b3 b5 H locs ls hl hP hS hm; exact hs5 (m_CharacterList_shownIn_l5 n) ih b1 b3 b5 H locs ls hl hP hS hm
  unfold m_CharacterList_shownIn at hm
  refine lv_lconst (v := (0 : Int64)) hx hb d_CharacterList_shownIn_0 (by decide) ?_
  refine lv_lstore_n (lv' := [(3, .long (0 : Int64)), (0, .ref (ad 10)), (1, .long a1)]) hx hb d_CharacterList_shownIn_1 rfl hl (Nat.le_of_ble_eq_true rfl) rfl (fun ls hl => ?_)
  refine lv_iconst (v := (0 : Int32)) hx hb d_CharacterList_shownIn_2 (by decide) ?_
  refine lv_istore (lv' := [(5, .int (0 : Int32)), (3, .long (0 : Int64)), (0, .ref (ad 10)), (1, .long a1)]) hx hb d_CharacterList_shownIn_3 hl (Nat.le_of_ble_eq_true rfl) rfl (fun ls hl => ?_)
  exact hl5 xFU a1 (0 : Int64) (0 : Int32) _ _ _ (lv_sub hl [2, 3, 1, 0] rfl) hP hS hm
set_option maxHeartbeats 4000000 in
set_option maxRecDepth 100000 in
theorem c_Long_bitCount (l : Launch) (a0 : Int64) (out : Int32) (hm : m_Long_bitCount a0 = some out) : Met l y_Long_bitCount (Cond.code y_Long_bitCount b_Long_bitCount 2 (some .int) :: xG) (xrm 0 0) (va_Pc [.long a0] (fun _ => True)) (va_Qi (fun r9 (_ : Unit) => r9 = out) (fun _ _ => True) xN) 0 0 xN := by
  refine xm_pui (cc := b_Long_bitCount) (maxL := 2) (by decide) rfl (Nat.le_of_ble_eq_true rfl) ?_
  intro p e s m args below meth c Q ls hx hb hml hts hown hl hret
  have hT : ∀ w ∈ xG, w.before args s = true := fun w h => hts w (List.mem_cons_of_mem _ h)
  have hown : s.vm.findClass "java/lang/Long" = some m.cls := hown
  have hl : lv_has ls 2 [(0, .long a0)] := hl
  have hS : va_S xN s.heap s.heap [] := va_S.rf
  unfold m_Long_bitCount at hm
  refine lv_lload_n hx hb d_Long_bitCount_0 rfl (lv_at hl 0 rfl) ?_
  refine lv_lload_n hx hb d_Long_bitCount_1 rfl (lv_at hl 0 rfl) ?_
  refine lv_iconst (v := (1 : Int32)) hx hb d_Long_bitCount_2 (by decide) ?_
  refine lv_lushr (v := (xUshr a0 (1 : Int32))) hx hb d_Long_bitCount_3 rfl ?_
  refine lv_ldc2 (v := (6148914691236517205 : Int64)) hx hb hown (hT _ wd_226) d_Long_bitCount_4 ?_
  refine lv_land hx hb d_Long_bitCount_7 ?_
  refine lv_lsub hx hb d_Long_bitCount_8 ?_
  refine lv_lstore_n (lv' := [(0, .long (a0 - ((xUshr a0 (1 : Int32)) &&& (6148914691236517205 : Int64))))]) hx hb d_Long_bitCount_9 rfl hl (Nat.le_of_ble_eq_true rfl) rfl (fun ls hl => ?_)
  refine lv_lload_n hx hb d_Long_bitCount_10 rfl (lv_at hl 0 rfl) ?_
  refine lv_ldc2 (v := (3689348814741910323 : Int64)) hx hb hown (hT _ wd_227) d_Long_bitCount_11 ?_
  refine lv_land hx hb d_Long_bitCount_14 ?_
  refine lv_lload_n hx hb d_Long_bitCount_15 rfl (lv_at hl 0 rfl) ?_
  refine lv_iconst (v := (2 : Int32)) hx hb d_Long_bitCount_16 (by decide) ?_
  refine lv_lushr (v := (xUshr (a0 - ((xUshr a0 (1 : Int32)) &&& (6148914691236517205 : Int64))) (2 : Int32))) hx hb d_Long_bitCount_17 rfl ?_
  refine lv_ldc2 (v := (3689348814741910323 : Int64)) hx hb hown (hT _ wd_227) d_Long_bitCount_18 ?_
  refine lv_land hx hb d_Long_bitCount_21 ?_
  refine lv_ladd hx hb d_Long_bitCount_22 ?_
  refine lv_lstore_n (lv' := [(0, .long (((a0 - ((xUshr a0 (1 : Int32)) &&& (6148914691236517205 : Int64))) &&& (3689348814741910323 : Int64)) + ((xUshr (a0 - ((xUshr a0 (1 : Int32)) &&& (6148914691236517205 : Int64))) (2 : Int32)) &&& (3689348814741910323 : Int64))))]) hx hb d_Long_bitCount_23 rfl hl (Nat.le_of_ble_eq_true rfl) rfl (fun ls hl => ?_)
  refine lv_lload_n hx hb d_Long_bitCount_24 rfl (lv_at hl 0 rfl) ?_
  refine lv_lload_n hx hb d_Long_bitCount_25 rfl (lv_at hl 0 rfl) ?_
  refine lv_iconst (v := (4 : Int32)) hx hb d_Long_bitCount_26 (by decide) ?_
  refine lv_lushr (v := (xUshr (((a0 - ((xUshr a0 (1 : Int32)) &&& (6148914691236517205 : Int64))) &&& (3689348814741910323 : Int64)) + ((xUshr (a0 - ((xUshr a0 (1 : Int32)) &&& (6148914691236517205 : Int64))) (2 : Int32)) &&& (3689348814741910323 : Int64))) (4 : Int32))) hx hb d_Long_bitCount_27 rfl ?_
  refine lv_ladd hx hb d_Long_bitCount_28 ?_
  refine lv_ldc2 (v := (1085102592571150095 : Int64)) hx hb hown (hT _ wd_228) d_Long_bitCount_29 ?_
  refine lv_land hx hb d_Long_bitCount_32 ?_
  refine lv_lstore_n (lv' := [(0, .long (((((a0 - ((xUshr a0 (1 : Int32)) &&& (6148914691236517205 : Int64))) &&& (3689348814741910323 : Int64)) + ((xUshr (a0 - ((xUshr a0 (1 : Int32)) &&& (6148914691236517205 : Int64))) (2 : Int32)) &&& (3689348814741910323 : Int64))) + (xUshr (((a0 - ((xUshr a0 (1 : Int32)) &&& (6148914691236517205 : Int64))) &&& (3689348814741910323 : Int64)) + ((xUshr (a0 - ((xUshr a0 (1 : Int32)) &&& (6148914691236517205 : Int64))) (2 : Int32)) &&& (3689348814741910323 : Int64))) (4 : Int32))) &&& (1085102592571150095 : Int64)))]) hx hb d_Long_bitCount_33 rfl hl (Nat.le_of_ble_eq_true rfl) rfl (fun ls hl => ?_)
  refine lv_lload_n hx hb d_Long_bitCount_34 rfl (lv_at hl 0 rfl) ?_
  refine lv_lload_n hx hb d_Long_bitCount_35 rfl (lv_at hl 0 rfl) ?_
  refine lv_bipush (v := (8 : Int32)) hx hb d_Long_bitCount_36 (by decide) ?_
  refine lv_lushr (v := (xUshr (((((a0 - ((xUshr a0 (1 : Int32)) &&& (6148914691236517205 : Int64))) &&& (3689348814741910323 : Int64)) + ((xUshr (a0 - ((xUshr a0 (1 : Int32)) &&& (6148914691236517205 : Int64))) (2 : Int32)) &&& (3689348814741910323 : Int64))) + (xUshr (((a0 - ((xUshr a0 (1 : Int32)) &&& (6148914691236517205 : Int64))) &&& (3689348814741910323 : Int64)) + ((xUshr (a0 - ((xUshr a0 (1 : Int32)) &&& (6148914691236517205 : Int64))) (2 : Int32)) &&& (3689348814741910323 : Int64))) (4 : Int32))) &&& (1085102592571150095 : Int64)) (8 : Int32))) hx hb d_Long_bitCount_38 rfl ?_
  refine lv_ladd hx hb d_Long_bitCount_39 ?_
  refine lv_lstore_n (lv' := [(0, .long ((((((a0 - ((xUshr a0 (1 : Int32)) &&& (6148914691236517205 : Int64))) &&& (3689348814741910323 : Int64)) + ((xUshr (a0 - ((xUshr a0 (1 : Int32)) &&& (6148914691236517205 : Int64))) (2 : Int32)) &&& (3689348814741910323 : Int64))) + (xUshr (((a0 - ((xUshr a0 (1 : Int32)) &&& (6148914691236517205 : Int64))) &&& (3689348814741910323 : Int64)) + ((xUshr (a0 - ((xUshr a0 (1 : Int32)) &&& (6148914691236517205 : Int64))) (2 : Int32)) &&& (3689348814741910323 : Int64))) (4 : Int32))) &&& (1085102592571150095 : Int64)) + (xUshr (((((a0 - ((xUshr a0 (1 : Int32)) &&& (6148914691236517205 : Int64))) &&& (3689348814741910323 : Int64)) + ((xUshr (a0 - ((xUshr a0 (1 : Int32)) &&& (6148914691236517205 : Int64))) (2 : Int32)) &&& (3689348814741910323 : Int64))) + (xUshr (((a0 - ((xUshr a0 (1 : Int32)) &&& (6148914691236517205 : Int64))) &&& (3689348814741910323 : Int64)) + ((xUshr (a0 - ((xUshr a0 (1 : Int32)) &&& (6148914691236517205 : Int64))) (2 : Int32)) &&& (3689348814741910323 : Int64))) (4 : Int32))) &&& (1085102592571150095 : Int64)) (8 : Int32))))]) hx hb d_Long_bitCount_40 rfl hl (Nat.le_of_ble_eq_true rfl) rfl (fun ls hl => ?_)
  refine lv_lload_n hx hb d_Long_bitCount_41 rfl (lv_at hl 0 rfl) ?_
  refine lv_lload_n hx hb d_Long_bitCount_42 rfl (lv_at hl 0 rfl) ?_
  refine lv_bipush (v := (16 : Int32)) hx hb d_Long_bitCount_43 (by decide) ?_
  refine lv_lushr (v := (xUshr ((((((a0 - ((xUshr a0 (1 : Int32)) &&& (6148914691236517205 : Int64))) &&& (3689348814741910323 : Int64)) + ((xUshr (a0 - ((xUshr a0 (1 : Int32)) &&& (6148914691236517205 : Int64))) (2 : Int32)) &&& (3689348814741910323 : Int64))) + (xUshr (((a0 - ((xUshr a0 (1 : Int32)) &&& (6148914691236517205 : Int64))) &&& (3689348814741910323 : Int64)) + ((xUshr (a0 - ((xUshr a0 (1 : Int32)) &&& (6148914691236517205 : Int64))) (2 : Int32)) &&& (3689348814741910323 : Int64))) (4 : Int32))) &&& (1085102592571150095 : Int64)) + (xUshr (((((a0 - ((xUshr a0 (1 : Int32)) &&& (6148914691236517205 : Int64))) &&& (3689348814741910323 : Int64)) + ((xUshr (a0 - ((xUshr a0 (1 : Int32)) &&& (6148914691236517205 : Int64))) (2 : Int32)) &&& (3689348814741910323 : Int64))) + (xUshr (((a0 - ((xUshr a0 (1 : Int32)) &&& (6148914691236517205 : Int64))) &&& (3689348814741910323 : Int64)) + ((xUshr (a0 - ((xUshr a0 (1 : Int32)) &&& (6148914691236517205 : Int64))) (2 : Int32)) &&& (3689348814741910323 : Int64))) (4 : Int32))) &&& (1085102592571150095 : Int64)) (8 : Int32))) (16 : Int32))) hx hb d_Long_bitCount_45 rfl ?_
  refine lv_ladd hx hb d_Long_bitCount_46 ?_
  refine lv_lstore_n (lv' := [(0, .long (((((((a0 - ((xUshr a0 (1 : Int32)) &&& (6148914691236517205 : Int64))) &&& (3689348814741910323 : Int64)) + ((xUshr (a0 - ((xUshr a0 (1 : Int32)) &&& (6148914691236517205 : Int64))) (2 : Int32)) &&& (3689348814741910323 : Int64))) + (xUshr (((a0 - ((xUshr a0 (1 : Int32)) &&& (6148914691236517205 : Int64))) &&& (3689348814741910323 : Int64)) + ((xUshr (a0 - ((xUshr a0 (1 : Int32)) &&& (6148914691236517205 : Int64))) (2 : Int32)) &&& (3689348814741910323 : Int64))) (4 : Int32))) &&& (1085102592571150095 : Int64)) + (xUshr (((((a0 - ((xUshr a0 (1 : Int32)) &&& (6148914691236517205 : Int64))) &&& (3689348814741910323 : Int64)) + ((xUshr (a0 - ((xUshr a0 (1 : Int32)) &&& (6148914691236517205 : Int64))) (2 : Int32)) &&& (3689348814741910323 : Int64))) + (xUshr (((a0 - ((xUshr a0 (1 : Int32)) &&& (6148914691236517205 : Int64))) &&& (3689348814741910323 : Int64)) + ((xUshr (a0 - ((xUshr a0 (1 : Int32)) &&& (6148914691236517205 : Int64))) (2 : Int32)) &&& (3689348814741910323 : Int64))) (4 : Int32))) &&& (1085102592571150095 : Int64)) (8 : Int32))) + (xUshr ((((((a0 - ((xUshr a0 (1 : Int32)) &&& (6148914691236517205 : Int64))) &&& (3689348814741910323 : Int64)) + ((xUshr (a0 - ((xUshr a0 (1 : Int32)) &&& (6148914691236517205 : Int64))) (2 : Int32)) &&& (3689348814741910323 : Int64))) + (xUshr (((a0 - ((xUshr a0 (1 : Int32)) &&& (6148914691236517205 : Int64))) &&& (3689348814741910323 : Int64)) + ((xUshr (a0 - ((xUshr a0 (1 : Int32)) &&& (6148914691236517205 : Int64))) (2 : Int32)) &&& (3689348814741910323 : Int64))) (4 : Int32))) &&& (1085102592571150095 : Int64)) + (xUshr (((((a0 - ((xUshr a0 (1 : Int32)) &&& (6148914691236517205 : Int64))) &&& (3689348814741910323 : Int64)) + ((xUshr (a0 - ((xUshr a0 (1 : Int32)) &&& (6148914691236517205 : Int64))) (2 : Int32)) &&& (3689348814741910323 : Int64))) + (xUshr (((a0 - ((xUshr a0 (1 : Int32)) &&& (6148914691236517205 : Int64))) &&& (3689348814741910323 : Int64)) + ((xUshr (a0 - ((xUshr a0 (1 : Int32)) &&& (6148914691236517205 : Int64))) (2 : Int32)) &&& (3689348814741910323 : Int64))) (4 : Int32))) &&& (1085102592571150095 : Int64)) (8 : Int32))) (16 : Int32))))]) hx hb d_Long_bitCount_47 rfl hl (Nat.le_of_ble_eq_true rfl) rfl (fun ls hl => ?_)
  refine lv_lload_n hx hb d_Long_bitCount_48 rfl (lv_at hl 0 rfl) ?_
  refine lv_lload_n hx hb d_Long_bitCount_49 rfl (lv_at hl 0 rfl) ?_
  refine lv_bipush (v := (32 : Int32)) hx hb d_Long_bitCount_50 (by decide) ?_
  refine lv_lushr (v := (xUshr (((((((a0 - ((xUshr a0 (1 : Int32)) &&& (6148914691236517205 : Int64))) &&& (3689348814741910323 : Int64)) + ((xUshr (a0 - ((xUshr a0 (1 : Int32)) &&& (6148914691236517205 : Int64))) (2 : Int32)) &&& (3689348814741910323 : Int64))) + (xUshr (((a0 - ((xUshr a0 (1 : Int32)) &&& (6148914691236517205 : Int64))) &&& (3689348814741910323 : Int64)) + ((xUshr (a0 - ((xUshr a0 (1 : Int32)) &&& (6148914691236517205 : Int64))) (2 : Int32)) &&& (3689348814741910323 : Int64))) (4 : Int32))) &&& (1085102592571150095 : Int64)) + (xUshr (((((a0 - ((xUshr a0 (1 : Int32)) &&& (6148914691236517205 : Int64))) &&& (3689348814741910323 : Int64)) + ((xUshr (a0 - ((xUshr a0 (1 : Int32)) &&& (6148914691236517205 : Int64))) (2 : Int32)) &&& (3689348814741910323 : Int64))) + (xUshr (((a0 - ((xUshr a0 (1 : Int32)) &&& (6148914691236517205 : Int64))) &&& (3689348814741910323 : Int64)) + ((xUshr (a0 - ((xUshr a0 (1 : Int32)) &&& (6148914691236517205 : Int64))) (2 : Int32)) &&& (3689348814741910323 : Int64))) (4 : Int32))) &&& (1085102592571150095 : Int64)) (8 : Int32))) + (xUshr ((((((a0 - ((xUshr a0 (1 : Int32)) &&& (6148914691236517205 : Int64))) &&& (3689348814741910323 : Int64)) + ((xUshr (a0 - ((xUshr a0 (1 : Int32)) &&& (6148914691236517205 : Int64))) (2 : Int32)) &&& (3689348814741910323 : Int64))) + (xUshr (((a0 - ((xUshr a0 (1 : Int32)) &&& (6148914691236517205 : Int64))) &&& (3689348814741910323 : Int64)) + ((xUshr (a0 - ((xUshr a0 (1 : Int32)) &&& (6148914691236517205 : Int64))) (2 : Int32)) &&& (3689348814741910323 : Int64))) (4 : Int32))) &&& (1085102592571150095 : Int64)) + (xUshr (((((a0 - ((xUshr a0 (1 : Int32)) &&& (6148914691236517205 : Int64))) &&& (3689348814741910323 : Int64)) + ((xUshr (a0 - ((xUshr a0 (1 : Int32)) &&& (6148914691236517205 : Int64))) (2 : Int32)) &&& (3689348814741910323 : Int64))) + (xUshr (((a0 - ((xUshr a0 (1 : Int32)) &&& (6148914691236517205 : Int64))) &&& (3689348814741910323 : Int64)) + ((xUshr (a0 - ((xUshr a0 (1 : Int32)) &&& (6148914691236517205 : Int64))) (2 : Int32)) &&& (3689348814741910323 : Int64))) (4 : Int32))) &&& (1085102592571150095 : Int64)) (8 : Int32))) (16 : Int32))) (32 : Int32))) hx hb d_Long_bitCount_52 rfl ?_
  refine lv_ladd hx hb d_Long_bitCount_53 ?_
  refine lv_lstore_n (lv' := [(0, .long ((((((((a0 - ((xUshr a0 (1 : Int32)) &&& (6148914691236517205 : Int64))) &&& (3689348814741910323 : Int64)) + ((xUshr (a0 - ((xUshr a0 (1 : Int32)) &&& (6148914691236517205 : Int64))) (2 : Int32)) &&& (3689348814741910323 : Int64))) + (xUshr (((a0 - ((xUshr a0 (1 : Int32)) &&& (6148914691236517205 : Int64))) &&& (3689348814741910323 : Int64)) + ((xUshr (a0 - ((xUshr a0 (1 : Int32)) &&& (6148914691236517205 : Int64))) (2 : Int32)) &&& (3689348814741910323 : Int64))) (4 : Int32))) &&& (1085102592571150095 : Int64)) + (xUshr (((((a0 - ((xUshr a0 (1 : Int32)) &&& (6148914691236517205 : Int64))) &&& (3689348814741910323 : Int64)) + ((xUshr (a0 - ((xUshr a0 (1 : Int32)) &&& (6148914691236517205 : Int64))) (2 : Int32)) &&& (3689348814741910323 : Int64))) + (xUshr (((a0 - ((xUshr a0 (1 : Int32)) &&& (6148914691236517205 : Int64))) &&& (3689348814741910323 : Int64)) + ((xUshr (a0 - ((xUshr a0 (1 : Int32)) &&& (6148914691236517205 : Int64))) (2 : Int32)) &&& (3689348814741910323 : Int64))) (4 : Int32))) &&& (1085102592571150095 : Int64)) (8 : Int32))) + (xUshr ((((((a0 - ((xUshr a0 (1 : Int32)) &&& (6148914691236517205 : Int64))) &&& (3689348814741910323 : Int64)) + ((xUshr (a0 - ((xUshr a0 (1 : Int32)) &&& (6148914691236517205 : Int64))) (2 : Int32)) &&& (3689348814741910323 : Int64))) + (xUshr (((a0 - ((xUshr a0 (1 : Int32)) &&& (6148914691236517205 : Int64))) &&& (3689348814741910323 : Int64)) + ((xUshr (a0 - ((xUshr a0 (1 : Int32)) &&& (6148914691236517205 : Int64))) (2 : Int32)) &&& (3689348814741910323 : Int64))) (4 : Int32))) &&& (1085102592571150095 : Int64)) + (xUshr (((((a0 - ((xUshr a0 (1 : Int32)) &&& (6148914691236517205 : Int64))) &&& (3689348814741910323 : Int64)) + ((xUshr (a0 - ((xUshr a0 (1 : Int32)) &&& (6148914691236517205 : Int64))) (2 : Int32)) &&& (3689348814741910323 : Int64))) + (xUshr (((a0 - ((xUshr a0 (1 : Int32)) &&& (6148914691236517205 : Int64))) &&& (3689348814741910323 : Int64)) + ((xUshr (a0 - ((xUshr a0 (1 : Int32)) &&& (6148914691236517205 : Int64))) (2 : Int32)) &&& (3689348814741910323 : Int64))) (4 : Int32))) &&& (1085102592571150095 : Int64)) (8 : Int32))) (16 : Int32))) + (xUshr (((((((a0 - ((xUshr a0 (1 : Int32)) &&& (6148914691236517205 : Int64))) &&& (3689348814741910323 : Int64)) + ((xUshr (a0 - ((xUshr a0 (1 : Int32)) &&& (6148914691236517205 : Int64))) (2 : Int32)) &&& (3689348814741910323 : Int64))) + (xUshr (((a0 - ((xUshr a0 (1 : Int32)) &&& (6148914691236517205 : Int64))) &&& (3689348814741910323 : Int64)) + ((xUshr (a0 - ((xUshr a0 (1 : Int32)) &&& (6148914691236517205 : Int64))) (2 : Int32)) &&& (3689348814741910323 : Int64))) (4 : Int32))) &&& (1085102592571150095 : Int64)) + (xUshr (((((a0 - ((xUshr a0 (1 : Int32)) &&& (6148914691236517205 : Int64))) &&& (3689348814741910323 : Int64)) + ((xUshr (a0 - ((xUshr a0 (1 : Int32)) &&& (6148914691236517205 : Int64))) (2 : Int32)) &&& (3689348814741910323 : Int64))) + (xUshr (((a0 - ((xUshr a0 (1 : Int32)) &&& (6148914691236517205 : Int64))) &&& (3689348814741910323 : Int64)) + ((xUshr (a0 - ((xUshr a0 (1 : Int32)) &&& (6148914691236517205 : Int64))) (2 : Int32)) &&& (3689348814741910323 : Int64))) (4 : Int32))) &&& (1085102592571150095 : Int64)) (8 : Int32))) + (xUshr ((((((a0 - ((xUshr a0 (1 : Int32)) &&& (6148914691236517205 : Int64))) &&& (3689348814741910323 : Int64)) + ((xUshr (a0 - ((xUshr a0 (1 : Int32)) &&& (6148914691236517205 : Int64))) (2 : Int32)) &&& (3689348814741910323 : Int64))) + (xUshr (((a0 - ((xUshr a0 (1 : Int32)) &&& (6148914691236517205 : Int64))) &&& (3689348814741910323 : Int64)) + ((xUshr (a0 - ((xUshr a0 (1 : Int32)) &&& (6148914691236517205 : Int64))) (2 : Int32)) &&& (3689348814741910323 : Int64))) (4 : Int32))) &&& (1085102592571150095 : Int64)) + (xUshr (((((a0 - ((xUshr a0 (1 : Int32)) &&& (6148914691236517205 : Int64))) &&& (3689348814741910323 : Int64)) + ((xUshr (a0 - ((xUshr a0 (1 : Int32)) &&& (6148914691236517205 : Int64))) (2 : Int32)) &&& (3689348814741910323 : Int64))) + (xUshr (((a0 - ((xUshr a0 (1 : Int32)) &&& (6148914691236517205 : Int64))) &&& (3689348814741910323 : Int64)) + ((xUshr (a0 - ((xUshr a0 (1 : Int32)) &&& (6148914691236517205 : Int64))) (2 : Int32)) &&& (3689348814741910323 : Int64))) (4 : Int32))) &&& (1085102592571150095 : Int64)) (8 : Int32))) (16 : Int32))) (32 : Int32))))]) hx hb d_Long_bitCount_54 rfl hl (Nat.le_of_ble_eq_true rfl) rfl (fun ls hl => ?_)
  refine lv_lload_n hx hb d_Long_bitCount_55 rfl (lv_at hl 0 rfl) ?_
  refine lv_l2i (v := ((((((((((a0 - ((xUshr a0 (1 : Int32)) &&& (6148914691236517205 : Int64))) &&& (3689348814741910323 : Int64)) + ((xUshr (a0 - ((xUshr a0 (1 : Int32)) &&& (6148914691236517205 : Int64))) (2 : Int32)) &&& (3689348814741910323 : Int64))) + (xUshr (((a0 - ((xUshr a0 (1 : Int32)) &&& (6148914691236517205 : Int64))) &&& (3689348814741910323 : Int64)) + ((xUshr (a0 - ((xUshr a0 (1 : Int32)) &&& (6148914691236517205 : Int64))) (2 : Int32)) &&& (3689348814741910323 : Int64))) (4 : Int32))) &&& (1085102592571150095 : Int64)) + (xUshr (((((a0 - ((xUshr a0 (1 : Int32)) &&& (6148914691236517205 : Int64))) &&& (3689348814741910323 : Int64)) + ((xUshr (a0 - ((xUshr a0 (1 : Int32)) &&& (6148914691236517205 : Int64))) (2 : Int32)) &&& (3689348814741910323 : Int64))) + (xUshr (((a0 - ((xUshr a0 (1 : Int32)) &&& (6148914691236517205 : Int64))) &&& (3689348814741910323 : Int64)) + ((xUshr (a0 - ((xUshr a0 (1 : Int32)) &&& (6148914691236517205 : Int64))) (2 : Int32)) &&& (3689348814741910323 : Int64))) (4 : Int32))) &&& (1085102592571150095 : Int64)) (8 : Int32))) + (xUshr ((((((a0 - ((xUshr a0 (1 : Int32)) &&& (6148914691236517205 : Int64))) &&& (3689348814741910323 : Int64)) + ((xUshr (a0 - ((xUshr a0 (1 : Int32)) &&& (6148914691236517205 : Int64))) (2 : Int32)) &&& (3689348814741910323 : Int64))) + (xUshr (((a0 - ((xUshr a0 (1 : Int32)) &&& (6148914691236517205 : Int64))) &&& (3689348814741910323 : Int64)) + ((xUshr (a0 - ((xUshr a0 (1 : Int32)) &&& (6148914691236517205 : Int64))) (2 : Int32)) &&& (3689348814741910323 : Int64))) (4 : Int32))) &&& (1085102592571150095 : Int64)) + (xUshr (((((a0 - ((xUshr a0 (1 : Int32)) &&& (6148914691236517205 : Int64))) &&& (3689348814741910323 : Int64)) + ((xUshr (a0 - ((xUshr a0 (1 : Int32)) &&& (6148914691236517205 : Int64))) (2 : Int32)) &&& (3689348814741910323 : Int64))) + (xUshr (((a0 - ((xUshr a0 (1 : Int32)) &&& (6148914691236517205 : Int64))) &&& (3689348814741910323 : Int64)) + ((xUshr (a0 - ((xUshr a0 (1 : Int32)) &&& (6148914691236517205 : Int64))) (2 : Int32)) &&& (3689348814741910323 : Int64))) (4 : Int32))) &&& (1085102592571150095 : Int64)) (8 : Int32))) (16 : Int32))) + (xUshr (((((((a0 - ((xUshr a0 (1 : Int32)) &&& (6148914691236517205 : Int64))) &&& (3689348814741910323 : Int64)) + ((xUshr (a0 - ((xUshr a0 (1 : Int32)) &&& (6148914691236517205 : Int64))) (2 : Int32)) &&& (3689348814741910323 : Int64))) + (xUshr (((a0 - ((xUshr a0 (1 : Int32)) &&& (6148914691236517205 : Int64))) &&& (3689348814741910323 : Int64)) + ((xUshr (a0 - ((xUshr a0 (1 : Int32)) &&& (6148914691236517205 : Int64))) (2 : Int32)) &&& (3689348814741910323 : Int64))) (4 : Int32))) &&& (1085102592571150095 : Int64)) + (xUshr (((((a0 - ((xUshr a0 (1 : Int32)) &&& (6148914691236517205 : Int64))) &&& (3689348814741910323 : Int64)) + ((xUshr (a0 - ((xUshr a0 (1 : Int32)) &&& (6148914691236517205 : Int64))) (2 : Int32)) &&& (3689348814741910323 : Int64))) + (xUshr (((a0 - ((xUshr a0 (1 : Int32)) &&& (6148914691236517205 : Int64))) &&& (3689348814741910323 : Int64)) + ((xUshr (a0 - ((xUshr a0 (1 : Int32)) &&& (6148914691236517205 : Int64))) (2 : Int32)) &&& (3689348814741910323 : Int64))) (4 : Int32))) &&& (1085102592571150095 : Int64)) (8 : Int32))) + (xUshr ((((((a0 - ((xUshr a0 (1 : Int32)) &&& (6148914691236517205 : Int64))) &&& (3689348814741910323 : Int64)) + ((xUshr (a0 - ((xUshr a0 (1 : Int32)) &&& (6148914691236517205 : Int64))) (2 : Int32)) &&& (3689348814741910323 : Int64))) + (xUshr (((a0 - ((xUshr a0 (1 : Int32)) &&& (6148914691236517205 : Int64))) &&& (3689348814741910323 : Int64)) + ((xUshr (a0 - ((xUshr a0 (1 : Int32)) &&& (6148914691236517205 : Int64))) (2 : Int32)) &&& (3689348814741910323 : Int64))) (4 : Int32))) &&& (1085102592571150095 : Int64)) + (xUshr (((((a0 - ((xUshr a0 (1 : Int32)) &&& (6148914691236517205 : Int64))) &&& (3689348814741910323 : Int64)) + ((xUshr (a0 - ((xUshr a0 (1 : Int32)) &&& (6148914691236517205 : Int64))) (2 : Int32)) &&& (3689348814741910323 : Int64))) + (xUshr (((a0 - ((xUshr a0 (1 : Int32)) &&& (6148914691236517205 : Int64))) &&& (3689348814741910323 : Int64)) + ((xUshr (a0 - ((xUshr a0 (1 : Int32)) &&& (6148914691236517205 : Int64))) (2 : Int32)) &&& (3689348814741910323 : Int64))) (4 : Int32))) &&& (1085102592571150095 : Int64)) (8 : Int32))) (16 : Int32))) (32 : Int32)))).toInt32)) hx hb d_Long_bitCount_56 rfl ?_
  refine lv_bipush (v := (127 : Int32)) hx hb d_Long_bitCount_57 (by decide) ?_
  refine lv_iand hx hb d_Long_bitCount_59 ?_
  exact hret hm hS d_Long_bitCount_60
set_option maxHeartbeats 4000000 in
set_option maxRecDepth 100000 in
theorem c_CharacterList_shownAt (l : Launch) (dC : Nat → ClassId) (dI : Nat → Nat → Nat) (dT : Nat → ClassId) (ad : Nat → Nat) (a1 : Int64) (a3 : Int32) (u : xS) (out : Int32) (hm : m_CharacterList_shownAt a1 a3 u = some out) : Met l y_CharacterList_shownAt (Cond.code y_CharacterList_shownAt b_CharacterList_shownAt 6 (some .int) :: xG) (xrm 2 42) (va_Pc [.ref (ad 10), .long a1, .int a3] (xR (dC, dI) xCl (xT dT) (cW dT ad u))) (va_Qi (fun r9 (_ : Unit) => r9 = out) (fun _ _ => True) xN) 0 0 xN := by
  refine xm_roi (cc := b_CharacterList_shownAt) (maxL := 6) (by decide) rfl (Nat.le_of_ble_eq_true rfl) ?_
  intro p e s m args below meth c Q ls hx hb hml hts hown hK hN hP hl hret
  have hT : ∀ w ∈ xG, w.before args s = true := fun w h => hts w (List.mem_cons_of_mem _ h)
  have hown : s.vm.findClass "EventGraphText$CharacterList" = some m.cls := hown
  have hl : lv_has ls 6 [(0, .ref (ad 10)), (1, .long a1), (3, .int a3)] := hl
  have hS : va_S xN s.heap s.heap [] := va_S.rf
  have hs6 : ∀ (k6 : Int64 → Int32 → Int32 → Int32 → xS → Option Int32) (hk6 : ∀ (b1 : Int64) (b3 : Int32) (b4 : Int32) (b5 : Int32) (H : Heap) (locs : List Loc) (ls : Array Slot), lv_has ls 6 [(0, .ref (ad 10)), (1, .long b1), (3, .int b3), (4, .int b4), (5, .int b5)] → va_P (dC, dI) xCl (cW dT ad u) H → va_S xN s.heap H locs → k6 b1 b3 b4 b5 u = some out → W p l e (xrm 2 42) s m args below meth c H locs 0 0 Q (F0 m 6 ls [])), ∀ (b1 : Int64) (b3 : Int32) (b4 : Int32) (b5 : Int32) (H : Heap) (locs : List Loc) (ls : Array Slot), lv_has ls 6 [(0, .ref (ad 10)), (1, .long b1), (3, .int b3), (4, .int b4), (5, .int b5)] → va_P (dC, dI) xCl (cW dT ad u) H → va_S xN s.heap H locs → m_CharacterList_shownAt_s6 k6 b1 b3 b4 b5 u = some out → W p l e (xrm 2 42) s m args below meth c H locs 0 0 Q (F0 m 6 ls []) := by
    intro k6 hk6 b1 b3 b4 b5 H locs ls hl hP hS hm
    unfold m_CharacterList_shownAt_s6 at hm
    refine lv_iload hx hb d_CharacterList_shownAt_6 (lv_at hl 4 rfl) ?_
    refine lv_aload_n hx hb d_CharacterList_shownAt_8 rfl (lv_at hl 0 rfl) ?_
    refine va_get (D := (dC, dI)) (ci := 0) (v := .int (xs_i u 1)) (C := "EventGraphText$CharacterList") (T := T_CharacterList) (N := 8) hx hb hT hin_CharacterList hown hK hP 10 cW_L rfl 7 (by decide) (hT _ wd_68) (fun _ h9 => h9) rfl d_CharacterList_shownAt_9 ?_
    refine lv_icmp_ge (tgt := 52) hx hb d_CharacterList_shownAt_12 rfl (fun h => ?_) (fun h => ?_)
    · replace hm := xi_pos h hm
      refine lv_iconst (v := (-1 : Int32)) hx hb d_CharacterList_shownAt_52 (by decide) ?_
      exact hret hm hS d_CharacterList_shownAt_53
    · replace hm := xi_neg h hm
      refine lv_lload_n hx hb d_CharacterList_shownAt_15 rfl (lv_at hl 1 rfl) ?_
      refine lv_aload_n hx hb d_CharacterList_shownAt_16 rfl (lv_at hl 0 rfl) ?_
      refine va_get (D := (dC, dI)) (ci := 0) (v := .ref (ad 11)) (C := "EventGraphText$CharacterList") (T := T_CharacterList) (N := 8) hx hb hT hin_CharacterList hown hK hP 10 cW_L rfl 0 (by decide) (hT _ wd_61) (fun _ h9 => h9) rfl d_CharacterList_shownAt_17 ?_
      refine lv_iload hx hb d_CharacterList_shownAt_20 (lv_at hl 4 rfl) ?_
      obtain ⟨g1, hm⟩ := xg_some hm
      refine va_iald hx hb hK hP 11 0 cW_L_order rfl g1 d_CharacterList_shownAt_22 ?_
      obtain ⟨r23, h23, hm⟩ := xb1_some hm
      refine xc_i (va_runSN (As := [.long b1, .int (xs_I u 6 b5.toNatClampNeg)]) (rest := []) ⟨hx, hb, hml, hown, hts⟩ (c_Text_has l b1 (xs_I u 6 b5.toNatClampNeg) r23 h23) ⟨va_cnB 2 hts (xg0 wd_217) rfl rfl rfl (nmm_7 hN) (hT _ wd_1) pd_Text_has.2 ⟨Nat.le_of_ble_eq_true rfl, Nat.le_of_ble_eq_true rfl⟩, hT _ wd_216, trivial⟩ xpreS0 rfl rfl hl.1 rfl (lv_room (Nat.le_of_ble_eq_true rfl)) d_CharacterList_shownAt_23 ⟨Nat.le_of_ble_eq_true rfl, Nat.le_of_ble_eq_true rfl⟩) hP hS (fun H locs hP hS => ?_)
      refine lv_if_eq (tgt := 46) hx hb d_CharacterList_shownAt_26 rfl (fun h => ?_) (fun h => ?_)
      · replace hm := xi_pos h hm
        refine lv_iinc (k := 4) (v := (b5 + (1 : Int32))) (lv' := [(5, .int (b5 + (1 : Int32))), (0, .ref (ad 10)), (1, .long b1), (3, .int b3), (4, .int b4)]) hx hb d_CharacterList_shownAt_46 hl rfl rfl (Nat.le_of_ble_eq_true rfl) rfl (fun ls hl => ?_)
        refine lv_goto (tgt := 6) hx hb d_CharacterList_shownAt_49 rfl ?_
        exact hk6 b1 b3 b4 (b5 + (1 : Int32)) _ _ _ (lv_sub hl [1, 2, 3, 4, 0] rfl) hP hS hm
      · replace hm := xi_neg h hm
        refine lv_iload hx hb d_CharacterList_shownAt_29 (lv_at hl 3 rfl) ?_
        refine lv_iload_n hx hb d_CharacterList_shownAt_31 rfl (lv_at hl 2 rfl) ?_
        refine lv_icmp_ne (tgt := 43) hx hb d_CharacterList_shownAt_32 rfl (fun h => ?_) (fun h => ?_)
        · replace hm := xi_neg h hm
          refine lv_iinc (k := 3) (v := (b4 + (1 : Int32))) (lv' := [(4, .int (b4 + (1 : Int32))), (0, .ref (ad 10)), (1, .long b1), (3, .int b3), (5, .int b5)]) hx hb d_CharacterList_shownAt_43 hl rfl rfl (Nat.le_of_ble_eq_true rfl) rfl (fun ls hl => ?_)
          refine lv_iinc (k := 4) (v := (b5 + (1 : Int32))) (lv' := [(5, .int (b5 + (1 : Int32))), (4, .int (b4 + (1 : Int32))), (0, .ref (ad 10)), (1, .long b1), (3, .int b3)]) hx hb d_CharacterList_shownAt_46 hl rfl rfl (Nat.le_of_ble_eq_true rfl) rfl (fun ls hl => ?_)
          refine lv_goto (tgt := 6) hx hb d_CharacterList_shownAt_49 rfl ?_
          exact hk6 b1 b3 (b4 + (1 : Int32)) (b5 + (1 : Int32)) _ _ _ (lv_sub hl [2, 3, 4, 1, 0] rfl) hP hS hm
        · replace hm := xi_pos h hm
          refine lv_aload_n hx hb d_CharacterList_shownAt_35 rfl (lv_at hl 0 rfl) ?_
          refine va_get (D := (dC, dI)) (ci := 0) (v := .ref (ad 11)) (C := "EventGraphText$CharacterList") (T := T_CharacterList) (N := 8) hx hb hT hin_CharacterList hown hK hP 10 cW_L rfl 0 (by decide) (hT _ wd_61) (fun _ h9 => h9) rfl d_CharacterList_shownAt_36 ?_
          refine lv_iload hx hb d_CharacterList_shownAt_39 (lv_at hl 4 rfl) ?_
          refine va_iald hx hb hK hP 11 0 cW_L_order rfl g1 d_CharacterList_shownAt_41 ?_
          exact hret hm hS d_CharacterList_shownAt_42
  have hl6 : ∀ (fu : Nat), ∀ (b1 : Int64) (b3 : Int32) (b4 : Int32) (b5 : Int32) (H : Heap) (locs : List Loc) (ls : Array Slot), lv_has ls 6 [(0, .ref (ad 10)), (1, .long b1), (3, .int b3), (4, .int b4), (5, .int b5)] → va_P (dC, dI) xCl (cW dT ad u) H → va_S xN s.heap H locs → m_CharacterList_shownAt_l6 fu b1 b3 b4 b5 u = some out → W p l e (xrm 2 42) s m args below meth c H locs 0 0 Q (F0 m 6 ls []) := by
    intro fu
    induction fu with
    | zero => intro b1 b3 b4 b5 H locs ls hl hP hS hm; exact absurd hm (fun z => by cases z)
    | succ n ih => intro b1 b3 b4 b5 H locs ls hl hP hS hm; exact hs6 (m_CharacterList_shownAt_l6 n) ih b1 b3 b4 b5 H locs ls hl hP hS hm
  unfold m_CharacterList_shownAt at hm
  refine lv_iconst (v := (0 : Int32)) hx hb d_CharacterList_shownAt_0 (by decide) ?_
  refine lv_istore (lv' := [(4, .int (0 : Int32)), (0, .ref (ad 10)), (1, .long a1), (3, .int a3)]) hx hb d_CharacterList_shownAt_1 hl (Nat.le_of_ble_eq_true rfl) rfl (fun ls hl => ?_)
  refine lv_iconst (v := (0 : Int32)) hx hb d_CharacterList_shownAt_3 (by decide) ?_
  refine lv_istore (lv' := [(5, .int (0 : Int32)), (4, .int (0 : Int32)), (0, .ref (ad 10)), (1, .long a1), (3, .int a3)]) hx hb d_CharacterList_shownAt_4 hl (Nat.le_of_ble_eq_true rfl) rfl (fun ls hl => ?_)
  exact hl6 xFU a1 a3 (0 : Int32) (0 : Int32) _ _ _ (lv_sub hl [2, 3, 4, 1, 0] rfl) hP hS hm
set_option maxHeartbeats 4000000 in
set_option maxRecDepth 100000 in
theorem c_History_parentsOfAll (l : Launch) (dC : Nat → ClassId) (dI : Nat → Nat → Nat) (dT : Nat → ClassId) (ad : Nat → Nat) (a1 : Int64) (u : xS) (out : Int64) (hm : m_History_parentsOfAll a1 u = some out) : Met l y_History_parentsOfAll (Cond.code y_History_parentsOfAll b_History_parentsOfAll 6 (some .long) :: xG) (xrm 2 42) (va_Pc [.ref (ad 1), .long a1] (xR (dC, dI) xCl (xT dT) (cW dT ad u))) (va_Ql (fun r9 (_ : Unit) => r9 = out) (fun _ _ => True) xN) 0 0 xN := by
  refine xm_roj (cc := b_History_parentsOfAll) (maxL := 6) (by decide) rfl (Nat.le_of_ble_eq_true rfl) ?_
  intro p e s m args below meth c Q ls hx hb hml hts hown hK hN hP hl hret
  have hT : ∀ w ∈ xG, w.before args s = true := fun w h => hts w (List.mem_cons_of_mem _ h)
  have hown : s.vm.findClass "EventGraphText$History" = some m.cls := hown
  have hl : lv_has ls 6 [(0, .ref (ad 1)), (1, .long a1)] := hl
  have hS : va_S xN s.heap s.heap [] := va_S.rf
  have hs5 : ∀ (k5 : Int64 → Int64 → Int32 → xS → Option Int64) (hk5 : ∀ (b1 : Int64) (b3 : Int64) (b5 : Int32) (H : Heap) (locs : List Loc) (ls : Array Slot), lv_has ls 6 [(0, .ref (ad 1)), (1, .long b1), (3, .long b3), (5, .int b5)] → va_P (dC, dI) xCl (cW dT ad u) H → va_S xN s.heap H locs → k5 b1 b3 b5 u = some out → W p l e (xrm 2 42) s m args below meth c H locs 0 0 Q (F0 m 5 ls [])), ∀ (b1 : Int64) (b3 : Int64) (b5 : Int32) (H : Heap) (locs : List Loc) (ls : Array Slot), lv_has ls 6 [(0, .ref (ad 1)), (1, .long b1), (3, .long b3), (5, .int b5)] → va_P (dC, dI) xCl (cW dT ad u) H → va_S xN s.heap H locs → m_History_parentsOfAll_s5 k5 b1 b3 b5 u = some out → W p l e (xrm 2 42) s m args below meth c H locs 0 0 Q (F0 m 5 ls []) := by
    intro k5 hk5 b1 b3 b5 H locs ls hl hP hS hm
    unfold m_History_parentsOfAll_s5 at hm
    refine lv_iload hx hb d_History_parentsOfAll_5 (lv_at hl 3 rfl) ?_
    refine lv_aload_n hx hb d_History_parentsOfAll_7 rfl (lv_at hl 0 rfl) ?_
    refine va_get (D := (dC, dI)) (ci := 1) (v := .int (xs_i u 0)) (C := "EventGraphText$History") (T := T_History) (N := 9) hx hb hT hin_History hown hK hP 1 cW_H rfl 8 (by decide) (hT _ wd_33) (fun _ h9 => h9) rfl d_History_parentsOfAll_8 ?_
    refine lv_icmp_ge (tgt := 39) hx hb d_History_parentsOfAll_11 rfl (fun h => ?_) (fun h => ?_)
    · replace hm := xi_pos h hm
      refine lv_lload_n hx hb d_History_parentsOfAll_39 rfl (lv_at hl 2 rfl) ?_
      exact hret hm hS d_History_parentsOfAll_40
    · replace hm := xi_neg h hm
      refine lv_lload_n hx hb d_History_parentsOfAll_14 rfl (lv_at hl 1 rfl) ?_
      refine lv_iload hx hb d_History_parentsOfAll_15 (lv_at hl 3 rfl) ?_
      obtain ⟨r17, h17, hm⟩ := xb1_some hm
      refine xc_i (va_runSN (As := [.long b1, .int b5]) (rest := []) ⟨hx, hb, hml, hown, hts⟩ (c_Text_has l b1 b5 r17 h17) ⟨va_cnB 2 hts (xg0 wd_217) rfl rfl rfl (nmm_9 hN) (hT _ wd_1) pd_Text_has.2 ⟨Nat.le_of_ble_eq_true rfl, Nat.le_of_ble_eq_true rfl⟩, hT _ wd_216, trivial⟩ xpreS0 rfl rfl hl.1 rfl (lv_room (Nat.le_of_ble_eq_true rfl)) d_History_parentsOfAll_17 ⟨Nat.le_of_ble_eq_true rfl, Nat.le_of_ble_eq_true rfl⟩) hP hS (fun H locs hP hS => ?_)
      refine lv_if_eq (tgt := 33) hx hb d_History_parentsOfAll_20 rfl (fun h => ?_) (fun h => ?_)
      · replace hm := xi_pos h hm
        refine lv_iinc (k := 3) (v := (b5 + (1 : Int32))) (lv' := [(5, .int (b5 + (1 : Int32))), (0, .ref (ad 1)), (1, .long b1), (3, .long b3)]) hx hb d_History_parentsOfAll_33 hl rfl rfl (Nat.le_of_ble_eq_true rfl) rfl (fun ls hl => ?_)
        refine lv_goto (tgt := 5) hx hb d_History_parentsOfAll_36 rfl ?_
        exact hk5 b1 b3 (b5 + (1 : Int32)) _ _ _ (lv_sub hl [1, 2, 3, 0] rfl) hP hS hm
      · replace hm := xi_neg h hm
        refine lv_lload_n hx hb d_History_parentsOfAll_23 rfl (lv_at hl 2 rfl) ?_
        refine lv_aload_n hx hb d_History_parentsOfAll_24 rfl (lv_at hl 0 rfl) ?_
        refine va_get (D := (dC, dI)) (ci := 1) (v := .ref (ad 6)) (C := "EventGraphText$History") (T := T_History) (N := 9) hx hb hT hin_History hown hK hP 1 cW_H rfl 4 (by decide) (hT _ wd_29) (fun _ h9 => h9) rfl d_History_parentsOfAll_25 ?_
        refine lv_iload hx hb d_History_parentsOfAll_28 (lv_at hl 3 rfl) ?_
        obtain ⟨g1, hm⟩ := xg_some hm
        refine va_lald hx hb hK hP 6 1 cW_H_parents rfl g1 d_History_parentsOfAll_30 ?_
        refine lv_lor hx hb d_History_parentsOfAll_31 ?_
        refine lv_lstore_n (lv' := [(3, .long (b3 ||| (xs_L u 0 b5.toNatClampNeg))), (0, .ref (ad 1)), (1, .long b1), (5, .int b5)]) hx hb d_History_parentsOfAll_32 rfl hl (Nat.le_of_ble_eq_true rfl) rfl (fun ls hl => ?_)
        refine lv_iinc (k := 3) (v := (b5 + (1 : Int32))) (lv' := [(5, .int (b5 + (1 : Int32))), (3, .long (b3 ||| (xs_L u 0 b5.toNatClampNeg))), (0, .ref (ad 1)), (1, .long b1)]) hx hb d_History_parentsOfAll_33 hl rfl rfl (Nat.le_of_ble_eq_true rfl) rfl (fun ls hl => ?_)
        refine lv_goto (tgt := 5) hx hb d_History_parentsOfAll_36 rfl ?_
        exact hk5 b1 (b3 ||| (xs_L u 0 b5.toNatClampNeg)) (b5 + (1 : Int32)) _ _ _ (lv_sub hl [2, 3, 1, 0] rfl) hP hS hm
  have hl5 : ∀ (fu : Nat), ∀ (b1 : Int64) (b3 : Int64) (b5 : Int32) (H : Heap) (locs : List Loc) (ls : Array Slot), lv_has ls 6 [(0, .ref (ad 1)), (1, .long b1), (3, .long b3), (5, .int b5)] → va_P (dC, dI) xCl (cW dT ad u) H → va_S xN s.heap H locs → m_History_parentsOfAll_l5 fu b1 b3 b5 u = some out → W p l e (xrm 2 42) s m args below meth c H locs 0 0 Q (F0 m 5 ls []) := by
    intro fu
    induction fu with
    | zero => intro b1 b3 b5 H locs ls hl hP hS hm; exact absurd hm (fun z => by cases z)
    | succ n ih => intro b1 b3 b5 H locs ls hl hP hS hm; exact hs5 (m_History_parentsOfAll_l5 n) ih b1 b3 b5 H locs ls hl hP hS hm
  unfold m_History_parentsOfAll at hm
  refine lv_lconst (v := (0 : Int64)) hx hb d_History_parentsOfAll_0 (by decide) ?_
  refine lv_lstore_n (lv' := [(3, .long (0 : Int64)), (0, .ref (ad 1)), (1, .long a1)]) hx hb d_History_parentsOfAll_1 rfl hl (Nat.le_of_ble_eq_true rfl) rfl (fun ls hl => ?_)
  refine lv_iconst (v := (0 : Int32)) hx hb d_History_parentsOfAll_2 (by decide) ?_
  refine lv_istore (lv' := [(5, .int (0 : Int32)), (3, .long (0 : Int64)), (0, .ref (ad 1)), (1, .long a1)]) hx hb d_History_parentsOfAll_3 hl (Nat.le_of_ble_eq_true rfl) rfl (fun ls hl => ?_)
  exact hl5 xFU a1 (0 : Int64) (0 : Int32) _ _ _ (lv_sub hl [2, 3, 1, 0] rfl) hP hS hm
set_option maxHeartbeats 4000000 in
set_option maxRecDepth 100000 in
theorem c_History_headsOf (l : Launch) (dC : Nat → ClassId) (dI : Nat → Nat → Nat) (dT : Nat → ClassId) (ad : Nat → Nat) (a1 : Int64) (u : xS) (out : Int64) (hm : m_History_headsOf a1 u = some out) : Met l y_History_headsOf (Cond.code y_History_headsOf b_History_headsOf 3 (some .long) :: xG) (xrm 3 67) (va_Pc [.ref (ad 1), .long a1] (xR (dC, dI) xCl (xT dT) (cW dT ad u))) (va_Ql (fun r9 (_ : Unit) => r9 = out) (fun _ _ => True) xN) 0 0 xN := by
  refine xm_roj (cc := b_History_headsOf) (maxL := 3) (by decide) rfl (Nat.le_of_ble_eq_true rfl) ?_
  intro p e s m args below meth c Q ls hx hb hml hts hown hK hN hP hl hret
  have hT : ∀ w ∈ xG, w.before args s = true := fun w h => hts w (List.mem_cons_of_mem _ h)
  have hown : s.vm.findClass "EventGraphText$History" = some m.cls := hown
  have hl : lv_has ls 3 [(0, .ref (ad 1)), (1, .long a1)] := hl
  have hS : va_S xN s.heap s.heap [] := va_S.rf
  unfold m_History_headsOf at hm
  refine lv_lload_n hx hb d_History_headsOf_0 rfl (lv_at hl 1 rfl) ?_
  refine lv_aload_n hx hb d_History_headsOf_1 rfl (lv_at hl 0 rfl) ?_
  refine lv_lload_n hx hb d_History_headsOf_2 rfl (lv_at hl 1 rfl) ?_
  obtain ⟨r3, h3, hm⟩ := xb1_some hm
  refine xc_l (va_runV (C := "EventGraphText$History") (As := [.long a1]) (rest := [.long a1]) ⟨hx, hb, hml, hown, hts⟩ (c_History_parentsOfAll l dC dI dT ad a1 u r3 h3) (cwV 1 hts (xgV wd_241 wd_242 wd_243 wd_2 wd_244) rfl rfl rfl pd_History_parentsOfAll ⟨Nat.le_of_ble_eq_true rfl, Nat.le_of_ble_eq_true rfl⟩) (xpreV (C := "EventGraphText$History") (T := T_History) (N := 9) hP hK hN rfl cW_H) rfl rfl hl.1 rfl (lv_room (Nat.le_of_ble_eq_true rfl)) d_History_headsOf_3 ⟨Nat.le_of_ble_eq_true rfl, Nat.le_of_ble_eq_true rfl⟩) hP hS (fun H locs hP hS => ?_)
  refine lv_ldc2 (v := (-1 : Int64)) hx hb hown (hT _ wd_246) d_History_headsOf_6 ?_
  refine lv_lxor hx hb d_History_headsOf_9 ?_
  refine lv_land hx hb d_History_headsOf_10 ?_
  exact hret hm hS d_History_headsOf_11
set_option maxHeartbeats 4000000 in
set_option maxRecDepth 100000 in
theorem c_History_record (l : Launch) (dC : Nat → ClassId) (dI : Nat → Nat → Nat) (dT : Nat → ClassId) (ad : Nat → Nat) (hD : ∀ u, va_D (xA ad 50) (cW dT ad u)) (a1 : Int32) (a2 : Int32) (a3 : Int32) (a4 : Int64) (u : xS) (out : Int32) (u1 : xS) (hm : m_History_record a1 a2 a3 a4 u = some (out, u1)) : Met l y_History_record (Cond.code y_History_record b_History_record 7 (some .int) :: xG) (xrm 4 89) (va_Pc [.ref (ad 1), .int a1, .int a2, .int a3, .long a4] (xR (dC, dI) xCl (xT dT) (cW dT ad u))) (va_Qi (fun r9 (u9 : xS) => r9 = out ∧ u9 = u1) (fun u9 t => va_P (dC, dI) xCl (cW dT ad u9) t.heap) (xA ad 50)) 0 0 (xA ad 50) := by
  refine xm_rwi (Wd := cW dT ad) (cc := b_History_record) (maxL := 7) (by decide) rfl (Nat.le_of_ble_eq_true rfl) ?_
  intro p e s m args below meth c Q ls hx hb hml hts hown hK hN hP hl hret
  have hT : ∀ w ∈ xG, w.before args s = true := fun w h => hts w (List.mem_cons_of_mem _ h)
  have hown : s.vm.findClass "EventGraphText$History" = some m.cls := hown
  have hl : lv_has ls 7 [(0, .ref (ad 1)), (1, .int a1), (2, .int a2), (3, .int a3), (4, .long a4)] := hl
  have hS : va_S (xA ad 50) s.heap s.heap [] := va_S.rf
  unfold m_History_record at hm
  refine lv_aload_n hx hb d_History_record_0 rfl (lv_at hl 0 rfl) ?_
  refine va_get (D := (dC, dI)) (ci := 1) (v := .int (xs_i u 0)) (C := "EventGraphText$History") (T := T_History) (N := 9) hx hb hT hin_History hown hK hP 1 cW_H rfl 8 (by decide) (hT _ wd_33) (fun _ h9 => h9) rfl d_History_record_1 ?_
  refine lv_istore (lv' := [(6, .int (xs_i u 0)), (0, .ref (ad 1)), (1, .int a1), (2, .int a2), (3, .int a3), (4, .long a4)]) hx hb d_History_record_4 hl (Nat.le_of_ble_eq_true rfl) rfl (fun ls hl => ?_)
  refine lv_aload_n hx hb d_History_record_6 rfl (lv_at hl 1 rfl) ?_
  refine va_get (D := (dC, dI)) (ci := 1) (v := .ref (ad 2)) (C := "EventGraphText$History") (T := T_History) (N := 9) hx hb hT hin_History hown hK hP 1 cW_H rfl 0 (by decide) (hT _ wd_25) (fun _ h9 => h9) rfl d_History_record_7 ?_
  refine lv_iload hx hb d_History_record_10 (lv_at hl 0 rfl) ?_
  refine lv_iload_n hx hb d_History_record_12 rfl (lv_at hl 2 rfl) ?_
  obtain ⟨g1, hm⟩ := xg_some hm
  obtain ⟨w13, hw13, hm⟩ := xlt_some hm
  refine va_iast hx hb hK hP (hD _) hS 2 0 cW_H_sites rfl g1 d_History_record_13 (fun H locs hP _ hS => ?_)
  replace hP : va_P (dC, dI) xCl (cW dT ad w13) H := xp_conv ((cW_s_H_sites).trans (congrArg (cW dT ad) hw13.symm)) hP
  refine lv_aload_n hx hb d_History_record_14 rfl (lv_at hl 1 rfl) ?_
  refine va_get (D := (dC, dI)) (ci := 1) (v := .ref (ad 3)) (C := "EventGraphText$History") (T := T_History) (N := 9) hx hb hT hin_History hown hK hP 1 cW_H rfl 1 (by decide) (hT _ wd_26) (fun _ h9 => h9) rfl d_History_record_15 ?_
  refine lv_iload hx hb d_History_record_18 (lv_at hl 0 rfl) ?_
  refine lv_aload_n hx hb d_History_record_20 rfl (lv_at hl 1 rfl) ?_
  refine va_get (D := (dC, dI)) (ci := 1) (v := .ref (ad 9)) (C := "EventGraphText$History") (T := T_History) (N := 9) hx hb hT hin_History hown hK hP 1 cW_H rfl 7 (by decide) (hT _ wd_32) (fun _ h9 => h9) rfl d_History_record_21 ?_
  refine lv_iload_n hx hb d_History_record_24 rfl (lv_at hl 2 rfl) ?_
  obtain ⟨g2, hm⟩ := xg_some hm
  refine va_iald hx hb hK hP 9 0 cW_H_made rfl g2 d_History_record_25 ?_
  obtain ⟨w26, hw26, hm⟩ := xlt_some hm
  refine va_iast hx hb hK hP (hD _) hS 3 0 cW_H_numbers rfl g1 d_History_record_26 (fun H locs hP _ hS => ?_)
  replace hP : va_P (dC, dI) xCl (cW dT ad w26) H := xp_conv ((cW_s_H_numbers).trans (congrArg (cW dT ad) hw26.symm)) hP
  refine lv_aload_n hx hb d_History_record_27 rfl (lv_at hl 1 rfl) ?_
  refine va_get (D := (dC, dI)) (ci := 1) (v := .ref (ad 4)) (C := "EventGraphText$History") (T := T_History) (N := 9) hx hb hT hin_History hown hK hP 1 cW_H rfl 2 (by decide) (hT _ wd_27) (fun _ h9 => h9) rfl d_History_record_28 ?_
  refine lv_iload hx hb d_History_record_31 (lv_at hl 0 rfl) ?_
  refine lv_iload_n hx hb d_History_record_33 rfl (lv_at hl 3 rfl) ?_
  obtain ⟨w34, hw34, hm⟩ := xlt_some hm
  refine va_iast hx hb hK hP (hD _) hS 4 0 cW_H_indices rfl g1 d_History_record_34 (fun H locs hP _ hS => ?_)
  replace hP : va_P (dC, dI) xCl (cW dT ad w34) H := xp_conv ((cW_s_H_indices).trans (congrArg (cW dT ad) hw34.symm)) hP
  refine lv_aload_n hx hb d_History_record_35 rfl (lv_at hl 1 rfl) ?_
  refine va_get (D := (dC, dI)) (ci := 1) (v := .ref (ad 5)) (C := "EventGraphText$History") (T := T_History) (N := 9) hx hb hT hin_History hown hK hP 1 cW_H rfl 3 (by decide) (hT _ wd_28) (fun _ h9 => h9) rfl d_History_record_36 ?_
  refine lv_iload hx hb d_History_record_39 (lv_at hl 0 rfl) ?_
  refine lv_iload_n hx hb d_History_record_41 rfl (lv_at hl 4 rfl) ?_
  obtain ⟨w42, hw42, hm⟩ := xlt_some hm
  refine va_iast hx hb hK hP (hD _) hS 5 0 cW_H_characters rfl g1 d_History_record_42 (fun H locs hP _ hS => ?_)
  replace hP : va_P (dC, dI) xCl (cW dT ad w42) H := xp_conv ((cW_s_H_characters).trans (congrArg (cW dT ad) hw42.symm)) hP
  refine lv_aload_n hx hb d_History_record_43 rfl (lv_at hl 1 rfl) ?_
  refine va_get (D := (dC, dI)) (ci := 1) (v := .ref (ad 6)) (C := "EventGraphText$History") (T := T_History) (N := 9) hx hb hT hin_History hown hK hP 1 cW_H rfl 4 (by decide) (hT _ wd_29) (fun _ h9 => h9) rfl d_History_record_44 ?_
  refine lv_iload hx hb d_History_record_47 (lv_at hl 0 rfl) ?_
  refine lv_aload_n hx hb d_History_record_49 rfl (lv_at hl 1 rfl) ?_
  refine lv_lload hx hb d_History_record_50 (lv_at hl 5 rfl) ?_
  obtain ⟨r52, h52, hm⟩ := xb1_some hm
  refine xc_l (va_runV (C := "EventGraphText$History") (As := [.long a4]) (rest := [.int (xs_i u 0), .ref (ad 6)]) ⟨hx, hb, hml, hown, hts⟩ (c_History_headsOf l dC dI dT ad a4 w42 r52 h52) (cwV 1 hts (xgV wd_237 wd_238 wd_239 wd_2 wd_240) rfl rfl rfl pd_History_headsOf ⟨Nat.le_of_ble_eq_true rfl, Nat.le_of_ble_eq_true rfl⟩) (xpreV (C := "EventGraphText$History") (T := T_History) (N := 9) hP hK hN rfl cW_H) rfl rfl hl.1 rfl (lv_room (Nat.le_of_ble_eq_true rfl)) d_History_record_52 ⟨Nat.le_of_ble_eq_true rfl, Nat.le_of_ble_eq_true rfl⟩) hP hS (fun H locs hP hS => ?_)
  obtain ⟨w55, hw55, hm⟩ := xlt_some hm
  refine va_last hx hb hK hP (hD _) hS 6 1 cW_H_parents rfl g1 d_History_record_55 (fun H locs hP _ hS => ?_)
  replace hP : va_P (dC, dI) xCl (cW dT ad w55) H := xp_conv ((cW_s_H_parents).trans (congrArg (cW dT ad) hw55.symm)) hP
  refine lv_aload_n hx hb d_History_record_56 rfl (lv_at hl 1 rfl) ?_
  refine va_get (D := (dC, dI)) (ci := 1) (v := .ref (ad 7)) (C := "EventGraphText$History") (T := T_History) (N := 9) hx hb hT hin_History hown hK hP 1 cW_H rfl 5 (by decide) (hT _ wd_30) (fun _ h9 => h9) rfl d_History_record_57 ?_
  refine lv_iload hx hb d_History_record_60 (lv_at hl 0 rfl) ?_
  refine lv_lload hx hb d_History_record_62 (lv_at hl 5 rfl) ?_
  obtain ⟨w64, hw64, hm⟩ := xlt_some hm
  refine va_last hx hb hK hP (hD _) hS 7 1 cW_H_ancestors rfl g1 d_History_record_64 (fun H locs hP _ hS => ?_)
  replace hP : va_P (dC, dI) xCl (cW dT ad w64) H := xp_conv ((cW_s_H_ancestors).trans (congrArg (cW dT ad) hw64.symm)) hP
  refine lv_aload_n hx hb d_History_record_65 rfl (lv_at hl 1 rfl) ?_
  refine va_get (D := (dC, dI)) (ci := 1) (v := .ref (ad 8)) (C := "EventGraphText$History") (T := T_History) (N := 9) hx hb hT hin_History hown hK hP 1 cW_H rfl 6 (by decide) (hT _ wd_31) (fun _ h9 => h9) rfl d_History_record_66 ?_
  refine lv_iload_n hx hb d_History_record_69 rfl (lv_at hl 2 rfl) ?_
  refine lv_bipush (v := (40 : Int32)) hx hb d_History_record_70 (by decide) ?_
  refine lv_imul hx hb d_History_record_72 ?_
  refine lv_aload_n hx hb d_History_record_73 rfl (lv_at hl 1 rfl) ?_
  refine va_get (D := (dC, dI)) (ci := 1) (v := .ref (ad 9)) (C := "EventGraphText$History") (T := T_History) (N := 9) hx hb hT hin_History hown hK hP 1 cW_H rfl 7 (by decide) (hT _ wd_32) (fun _ h9 => h9) rfl d_History_record_74 ?_
  refine lv_iload_n hx hb d_History_record_77 rfl (lv_at hl 2 rfl) ?_
  refine va_iald hx hb hK hP 9 0 cW_H_made rfl g2 d_History_record_78 ?_
  refine lv_iadd hx hb d_History_record_79 ?_
  refine lv_iload hx hb d_History_record_80 (lv_at hl 0 rfl) ?_
  obtain ⟨g3, hm⟩ := xg_some hm
  obtain ⟨w82, hw82, hm⟩ := xlt_some hm
  refine va_iast hx hb hK hP (hD _) hS 8 0 cW_H_slots rfl g3 d_History_record_82 (fun H locs hP _ hS => ?_)
  replace hP : va_P (dC, dI) xCl (cW dT ad w82) H := xp_conv ((cW_s_H_slots).trans (congrArg (cW dT ad) hw82.symm)) hP
  refine lv_aload_n hx hb d_History_record_83 rfl (lv_at hl 1 rfl) ?_
  refine va_get (D := (dC, dI)) (ci := 1) (v := .ref (ad 9)) (C := "EventGraphText$History") (T := T_History) (N := 9) hx hb hT hin_History hown hK hP 1 cW_H rfl 7 (by decide) (hT _ wd_32) (fun _ h9 => h9) rfl d_History_record_84 ?_
  refine lv_iload_n hx hb d_History_record_87 rfl (lv_at hl 2 rfl) ?_
  refine lv_dup2_11 hx hb d_History_record_88 rfl rfl ?_
  refine va_iald hx hb hK hP 9 0 cW_H_made rfl g2 d_History_record_89 ?_
  refine lv_iconst (v := (1 : Int32)) hx hb d_History_record_90 (by decide) ?_
  refine lv_iadd hx hb d_History_record_91 ?_
  obtain ⟨w92, hw92, hm⟩ := xlt_some hm
  refine va_iast hx hb hK hP (hD _) hS 9 0 cW_H_made rfl g2 d_History_record_92 (fun H locs hP _ hS => ?_)
  replace hP : va_P (dC, dI) xCl (cW dT ad w92) H := xp_conv ((cW_s_H_made).trans (congrArg (cW dT ad) hw92.symm)) hP
  refine lv_aload_n hx hb d_History_record_93 rfl (lv_at hl 1 rfl) ?_
  refine lv_dup hx hb d_History_record_94 rfl ?_
  refine va_get (D := (dC, dI)) (ci := 1) (v := .int (xs_i w92 0)) (C := "EventGraphText$History") (T := T_History) (N := 9) hx hb hT hin_History hown hK hP 1 cW_H rfl 8 (by decide) (hT _ wd_33) (fun _ h9 => h9) rfl d_History_record_95 ?_
  refine lv_iconst (v := (1 : Int32)) hx hb d_History_record_98 (by decide) ?_
  refine lv_iadd hx hb d_History_record_99 ?_
  obtain ⟨w100, hw100, hm⟩ := xlt_some hm
  refine va_put (D := (dC, dI)) (ci := 1) (v := .int ((xs_i w92 0) + (1 : Int32))) (ty := .int) (C := "EventGraphText$History") (T := T_History) (N := 9) hx hb hT hin_History ty_History tyok_History nm_History hown hK hP (hD _) hS 1 cW_H rfl 8 (by decide) (hT _ wd_33) (fun _ h9 => h9) rfl (by decide +kernel) rfl rfl (Nat.le_of_ble_eq_true rfl) d_History_record_100 (fun H locs hP _ hS => ?_)
  replace hP : va_P (dC, dI) xCl (cW dT ad w100) H := xp_conv ((cW_f_H_count).trans (congrArg (cW dT ad) hw100.symm)) hP
  refine lv_iload hx hb d_History_record_103 (lv_at hl 0 rfl) ?_
  exact hret hm hP hS d_History_record_105
end
