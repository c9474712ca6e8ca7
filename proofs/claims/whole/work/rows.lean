section
-- ===== PART A: goes FIRST, ahead of the names: the tables' words, and 'selects' of the private methods out of them =====
/-- a private method of a class that the tables say can be made, by its rows of tables_1 -/
def lw_okq (q : MethodName × Nat) : Prop := (q.1.cls ≠ "java/lang/invoke/MethodHandle" ∧ q.1.cls ≠ "java/lang/invoke/VarHandle") ∧ Cond.instantiable q.1.cls q.2 ∈ tables_1 ∧ Cond.privateMethod q.1 ∈ tables_1 ∧ Cond.instanceMethod q.1 ∈ tables_1
theorem lw_p0 : lw_okq (⟨"SetFamilies", "mixMembers", "(JLSetFamilies$Family;)J"⟩, 12) := ⟨⟨by decide +kernel, by decide +kernel⟩, List.mem_of_getElem? (i := 25) (by decide +kernel), List.mem_of_getElem? (i := 259) (by decide +kernel), List.mem_of_getElem? (i := 260) (by decide +kernel)⟩
theorem lw_p1 : lw_okq (⟨"SetFamilies", "mixProperties", "(JLSetFamilies$Family;)J"⟩, 12) := ⟨⟨by decide +kernel, by decide +kernel⟩, List.mem_of_getElem? (i := 25) (by decide +kernel), List.mem_of_getElem? (i := 286) (by decide +kernel), List.mem_of_getElem? (i := 287) (by decide +kernel)⟩
theorem lw_p2 : lw_okq (⟨"SetFamilies", "hasProperty", "(LSetFamilies$Family;I)Z"⟩, 12) := ⟨⟨by decide +kernel, by decide +kernel⟩, List.mem_of_getElem? (i := 25) (by decide +kernel), List.mem_of_getElem? (i := 290) (by decide +kernel), List.mem_of_getElem? (i := 291) (by decide +kernel)⟩
theorem lw_p3 : lw_okq (⟨"SetFamilies", "firstDisjointPair", "(LSetFamilies$Family;LSetFamilies$Family;)I"⟩, 12) := ⟨⟨by decide +kernel, by decide +kernel⟩, List.mem_of_getElem? (i := 25) (by decide +kernel), List.mem_of_getElem? (i := 332) (by decide +kernel), List.mem_of_getElem? (i := 333) (by decide +kernel)⟩
theorem lw_p4 : lw_okq (⟨"SetFamilies$Family", "exchange", "(I)V"⟩, 2) := ⟨⟨by decide +kernel, by decide +kernel⟩, List.mem_of_getElem? (i := 57) (by decide +kernel), List.mem_of_getElem? (i := 342) (by decide +kernel), List.mem_of_getElem? (i := 343) (by decide +kernel)⟩
theorem lw_p5 : lw_okq (⟨"SetFamilies$Compression", "layExchanged", "(LSetFamilies$Family;LSetFamilies$Family;II)V"⟩, 4) := ⟨⟨by decide +kernel, by decide +kernel⟩, List.mem_of_getElem? (i := 130) (by decide +kernel), List.mem_of_getElem? (i := 414) (by decide +kernel), List.mem_of_getElem? (i := 415) (by decide +kernel)⟩
theorem lw_p6 : lw_okq (⟨"SetFamilies", "weightOf", "(LSetFamilies$Family;Z)J"⟩, 12) := ⟨⟨by decide +kernel, by decide +kernel⟩, List.mem_of_getElem? (i := 25) (by decide +kernel), List.mem_of_getElem? (i := 423) (by decide +kernel), List.mem_of_getElem? (i := 424) (by decide +kernel)⟩
theorem lw_p7 : lw_okq (⟨"SetFamilies", "mixStructure", "(JLSetFamilies$Family;)J"⟩, 12) := ⟨⟨by decide +kernel, by decide +kernel⟩, List.mem_of_getElem? (i := 25) (by decide +kernel), List.mem_of_getElem? (i := 452) (by decide +kernel), List.mem_of_getElem? (i := 453) (by decide +kernel)⟩
theorem lw_p8 : lw_okq (⟨"SetFamilies$Shattering", "layTrace", "(LSetFamilies$Family;I)LSetFamilies$Family;"⟩, 2) := ⟨⟨by decide +kernel, by decide +kernel⟩, List.mem_of_getElem? (i := 151) (by decide +kernel), List.mem_of_getElem? (i := 466) (by decide +kernel), List.mem_of_getElem? (i := 467) (by decide +kernel)⟩
theorem lw_p9 : lw_okq (⟨"SetFamilies$SunflowerSearch", "layLink", "(LSetFamilies$Family;I)LSetFamilies$Family;"⟩, 6) := ⟨⟨by decide +kernel, by decide +kernel⟩, List.mem_of_getElem? (i := 166) (by decide +kernel), List.mem_of_getElem? (i := 492) (by decide +kernel), List.mem_of_getElem? (i := 493) (by decide +kernel)⟩
theorem lw_p10 : lw_okq (⟨"SetFamilies$SunflowerSearch", "hasDisjointSets", "(LSetFamilies$Family;)Z"⟩, 6) := ⟨⟨by decide +kernel, by decide +kernel⟩, List.mem_of_getElem? (i := 166) (by decide +kernel), List.mem_of_getElem? (i := 503) (by decide +kernel), List.mem_of_getElem? (i := 504) (by decide +kernel)⟩
theorem lw_p11 : lw_okq (⟨"SetFamilies$SunflowerSearch", "hasPair", "(III)Z"⟩, 6) := ⟨⟨by decide +kernel, by decide +kernel⟩, List.mem_of_getElem? (i := 166) (by decide +kernel), List.mem_of_getElem? (i := 511) (by decide +kernel), List.mem_of_getElem? (i := 512) (by decide +kernel)⟩
theorem lw_p12 : lw_okq (⟨"SetFamilies$SunflowerSearch", "hasOne", "(III)Z"⟩, 6) := ⟨⟨by decide +kernel, by decide +kernel⟩, List.mem_of_getElem? (i := 166) (by decide +kernel), List.mem_of_getElem? (i := 515) (by decide +kernel), List.mem_of_getElem? (i := 516) (by decide +kernel)⟩
theorem lw_p13 : lw_okq (⟨"SetFamilies$SunflowerSearch", "hasTriple", "(I)Z"⟩, 6) := ⟨⟨by decide +kernel, by decide +kernel⟩, List.mem_of_getElem? (i := 166) (by decide +kernel), List.mem_of_getElem? (i := 519) (by decide +kernel), List.mem_of_getElem? (i := 520) (by decide +kernel)⟩
theorem lw_p14 : lw_okq (⟨"SetFamilies$PairCounts", "countAbove", "(LSetFamilies$Family;)V"⟩, 3) := ⟨⟨by decide +kernel, by decide +kernel⟩, List.mem_of_getElem? (i := 193) (by decide +kernel), List.mem_of_getElem? (i := 528) (by decide +kernel), List.mem_of_getElem? (i := 529) (by decide +kernel)⟩
theorem lw_p15 : lw_okq (⟨"SetFamilies$PairCounts", "countCommonSubsets", "()V"⟩, 3) := ⟨⟨by decide +kernel, by decide +kernel⟩, List.mem_of_getElem? (i := 193) (by decide +kernel), List.mem_of_getElem? (i := 534) (by decide +kernel), List.mem_of_getElem? (i := 535) (by decide +kernel)⟩
def lw_privs_1 : List (MethodName × Nat) := [(⟨"SetFamilies", "mixMembers", "(JLSetFamilies$Family;)J"⟩, 12), (⟨"SetFamilies", "mixProperties", "(JLSetFamilies$Family;)J"⟩, 12), (⟨"SetFamilies", "hasProperty", "(LSetFamilies$Family;I)Z"⟩, 12), (⟨"SetFamilies", "firstDisjointPair", "(LSetFamilies$Family;LSetFamilies$Family;)I"⟩, 12), (⟨"SetFamilies$Family", "exchange", "(I)V"⟩, 2), (⟨"SetFamilies$Compression", "layExchanged", "(LSetFamilies$Family;LSetFamilies$Family;II)V"⟩, 4), (⟨"SetFamilies", "weightOf", "(LSetFamilies$Family;Z)J"⟩, 12), (⟨"SetFamilies", "mixStructure", "(JLSetFamilies$Family;)J"⟩, 12), (⟨"SetFamilies$Shattering", "layTrace", "(LSetFamilies$Family;I)LSetFamilies$Family;"⟩, 2), (⟨"SetFamilies$SunflowerSearch", "layLink", "(LSetFamilies$Family;I)LSetFamilies$Family;"⟩, 6), (⟨"SetFamilies$SunflowerSearch", "hasDisjointSets", "(LSetFamilies$Family;)Z"⟩, 6), (⟨"SetFamilies$SunflowerSearch", "hasPair", "(III)Z"⟩, 6), (⟨"SetFamilies$SunflowerSearch", "hasOne", "(III)Z"⟩, 6), (⟨"SetFamilies$SunflowerSearch", "hasTriple", "(I)Z"⟩, 6), (⟨"SetFamilies$PairCounts", "countAbove", "(LSetFamilies$Family;)V"⟩, 3), (⟨"SetFamilies$PairCounts", "countCommonSubsets", "()V"⟩, 3)]
theorem lw_r1 : ∀ q ∈ lw_privs_1, lw_okq q := List.forall_mem_cons.mpr ⟨lw_p0, List.forall_mem_cons.mpr ⟨lw_p1, List.forall_mem_cons.mpr ⟨lw_p2, List.forall_mem_cons.mpr ⟨lw_p3, List.forall_mem_cons.mpr ⟨lw_p4, List.forall_mem_cons.mpr ⟨lw_p5, List.forall_mem_cons.mpr ⟨lw_p6, List.forall_mem_cons.mpr ⟨lw_p7, List.forall_mem_cons.mpr ⟨lw_p8, List.forall_mem_cons.mpr ⟨lw_p9, List.forall_mem_cons.mpr ⟨lw_p10, List.forall_mem_cons.mpr ⟨lw_p11, List.forall_mem_cons.mpr ⟨lw_p12, List.forall_mem_cons.mpr ⟨lw_p13, List.forall_mem_cons.mpr ⟨lw_p14, List.forall_mem_cons.mpr ⟨lw_p15, fun _ h => absurd h List.not_mem_nil⟩⟩⟩⟩⟩⟩⟩⟩⟩⟩⟩⟩⟩⟩⟩⟩
theorem lw_p16 : lw_okq (⟨"SetFamilies", "excessOf", "(LSetFamilies$Family;I)I"⟩, 12) := ⟨⟨by decide +kernel, by decide +kernel⟩, List.mem_of_getElem? (i := 25) (by decide +kernel), List.mem_of_getElem? (i := 546) (by decide +kernel), List.mem_of_getElem? (i := 547) (by decide +kernel)⟩
theorem lw_p17 : lw_okq (⟨"java/lang/Throwable", "fillInStackTrace", "(I)Ljava/lang/Throwable;"⟩, 6) := ⟨⟨by decide +kernel, by decide +kernel⟩, List.mem_of_getElem? (i := 610) (by decide +kernel), List.mem_of_getElem? (i := 608) (by decide +kernel), List.mem_of_getElem? (i := 609) (by decide +kernel)⟩
theorem lw_p18 : lw_okq (⟨"SetFamilies", "checkSet", "(I)V"⟩, 12) := ⟨⟨by decide +kernel, by decide +kernel⟩, List.mem_of_getElem? (i := 25) (by decide +kernel), List.mem_of_getElem? (i := 677) (by decide +kernel), List.mem_of_getElem? (i := 678) (by decide +kernel)⟩
theorem lw_p19 : lw_okq (⟨"SetFamilies", "checkElement", "(I)V"⟩, 12) := ⟨⟨by decide +kernel, by decide +kernel⟩, List.mem_of_getElem? (i := 25) (by decide +kernel), List.mem_of_getElem? (i := 727) (by decide +kernel), List.mem_of_getElem? (i := 728) (by decide +kernel)⟩
theorem lw_p20 : lw_okq (⟨"SetFamilies", "lay", "(I)I"⟩, 12) := ⟨⟨by decide +kernel, by decide +kernel⟩, List.mem_of_getElem? (i := 25) (by decide +kernel), List.mem_of_getElem? (i := 749) (by decide +kernel), List.mem_of_getElem? (i := 750) (by decide +kernel)⟩
theorem lw_p21 : lw_okq (⟨"SetFamilies$Derivation", "layMaximal", "(LSetFamilies$Family;LSetFamilies$Family;)V"⟩, 4) := ⟨⟨by decide +kernel, by decide +kernel⟩, List.mem_of_getElem? (i := 109) (by decide +kernel), List.mem_of_getElem? (i := 770) (by decide +kernel), List.mem_of_getElem? (i := 771) (by decide +kernel)⟩
theorem lw_p22 : lw_okq (⟨"SetFamilies$Derivation", "layBlocker", "(LSetFamilies$Family;LSetFamilies$Family;)V"⟩, 4) := ⟨⟨by decide +kernel, by decide +kernel⟩, List.mem_of_getElem? (i := 109) (by decide +kernel), List.mem_of_getElem? (i := 774) (by decide +kernel), List.mem_of_getElem? (i := 775) (by decide +kernel)⟩
theorem lw_p23 : lw_okq (⟨"SetFamilies$Compression", "replaceOnce", "(LSetFamilies$Family;)I"⟩, 4) := ⟨⟨by decide +kernel, by decide +kernel⟩, List.mem_of_getElem? (i := 130) (by decide +kernel), List.mem_of_getElem? (i := 804) (by decide +kernel), List.mem_of_getElem? (i := 805) (by decide +kernel)⟩
theorem lw_p24 : lw_okq (⟨"SetFamiliesModel", "note", "()V"⟩, 15) := ⟨⟨by decide +kernel, by decide +kernel⟩, List.mem_of_getElem? (i := 973) (by decide +kernel), List.mem_of_getElem? (i := 1041) (by decide +kernel), List.mem_of_getElem? (i := 1042) (by decide +kernel)⟩
theorem lw_p25 : lw_okq (⟨"SetFamiliesModel", "changes", "(IIZ)Z"⟩, 15) := ⟨⟨by decide +kernel, by decide +kernel⟩, List.mem_of_getElem? (i := 973) (by decide +kernel), List.mem_of_getElem? (i := 1049) (by decide +kernel), List.mem_of_getElem? (i := 1050) (by decide +kernel)⟩
theorem lw_p26 : lw_okq (⟨"SetFamiliesModel", "isCode", "(I)Z"⟩, 15) := ⟨⟨by decide +kernel, by decide +kernel⟩, List.mem_of_getElem? (i := 973) (by decide +kernel), List.mem_of_getElem? (i := 1056) (by decide +kernel), List.mem_of_getElem? (i := 1057) (by decide +kernel)⟩
theorem lw_p27 : lw_okq (⟨"SetFamiliesModel", "codes", "()I"⟩, 15) := ⟨⟨by decide +kernel, by decide +kernel⟩, List.mem_of_getElem? (i := 973) (by decide +kernel), List.mem_of_getElem? (i := 1060) (by decide +kernel), List.mem_of_getElem? (i := 1061) (by decide +kernel)⟩
theorem lw_p28 : lw_okq (⟨"SetFamiliesModel", "mayGo", "(ZZ)Z"⟩, 15) := ⟨⟨by decide +kernel, by decide +kernel⟩, List.mem_of_getElem? (i := 973) (by decide +kernel), List.mem_of_getElem? (i := 1064) (by decide +kernel), List.mem_of_getElem? (i := 1065) (by decide +kernel)⟩
theorem lw_p29 : lw_okq (⟨"SetFamiliesModel", "sizeOf", "(II)I"⟩, 15) := ⟨⟨by decide +kernel, by decide +kernel⟩, List.mem_of_getElem? (i := 973) (by decide +kernel), List.mem_of_getElem? (i := 1080) (by decide +kernel), List.mem_of_getElem? (i := 1081) (by decide +kernel)⟩
theorem lw_p30 : lw_okq (⟨"SetFamiliesModel", "isElement", "(I)Z"⟩, 15) := ⟨⟨by decide +kernel, by decide +kernel⟩, List.mem_of_getElem? (i := 973) (by decide +kernel), List.mem_of_getElem? (i := 1095) (by decide +kernel), List.mem_of_getElem? (i := 1096) (by decide +kernel)⟩
theorem lw_p31 : lw_okq (⟨"SetFamiliesModel", "degreeOf", "(II)I"⟩, 15) := ⟨⟨by decide +kernel, by decide +kernel⟩, List.mem_of_getElem? (i := 973) (by decide +kernel), List.mem_of_getElem? (i := 1099) (by decide +kernel), List.mem_of_getElem? (i := 1100) (by decide +kernel)⟩
def lw_privs_2 : List (MethodName × Nat) := [(⟨"SetFamilies", "excessOf", "(LSetFamilies$Family;I)I"⟩, 12), (⟨"java/lang/Throwable", "fillInStackTrace", "(I)Ljava/lang/Throwable;"⟩, 6), (⟨"SetFamilies", "checkSet", "(I)V"⟩, 12), (⟨"SetFamilies", "checkElement", "(I)V"⟩, 12), (⟨"SetFamilies", "lay", "(I)I"⟩, 12), (⟨"SetFamilies$Derivation", "layMaximal", "(LSetFamilies$Family;LSetFamilies$Family;)V"⟩, 4), (⟨"SetFamilies$Derivation", "layBlocker", "(LSetFamilies$Family;LSetFamilies$Family;)V"⟩, 4), (⟨"SetFamilies$Compression", "replaceOnce", "(LSetFamilies$Family;)I"⟩, 4), (⟨"SetFamiliesModel", "note", "()V"⟩, 15), (⟨"SetFamiliesModel", "changes", "(IIZ)Z"⟩, 15), (⟨"SetFamiliesModel", "isCode", "(I)Z"⟩, 15), (⟨"SetFamiliesModel", "codes", "()I"⟩, 15), (⟨"SetFamiliesModel", "mayGo", "(ZZ)Z"⟩, 15), (⟨"SetFamiliesModel", "sizeOf", "(II)I"⟩, 15), (⟨"SetFamiliesModel", "isElement", "(I)Z"⟩, 15), (⟨"SetFamiliesModel", "degreeOf", "(II)I"⟩, 15)]
theorem lw_r2 : ∀ q ∈ lw_privs_2, lw_okq q := List.forall_mem_cons.mpr ⟨lw_p16, List.forall_mem_cons.mpr ⟨lw_p17, List.forall_mem_cons.mpr ⟨lw_p18, List.forall_mem_cons.mpr ⟨lw_p19, List.forall_mem_cons.mpr ⟨lw_p20, List.forall_mem_cons.mpr ⟨lw_p21, List.forall_mem_cons.mpr ⟨lw_p22, List.forall_mem_cons.mpr ⟨lw_p23, List.forall_mem_cons.mpr ⟨lw_p24, List.forall_mem_cons.mpr ⟨lw_p25, List.forall_mem_cons.mpr ⟨lw_p26, List.forall_mem_cons.mpr ⟨lw_p27, List.forall_mem_cons.mpr ⟨lw_p28, List.forall_mem_cons.mpr ⟨lw_p29, List.forall_mem_cons.mpr ⟨lw_p30, List.forall_mem_cons.mpr ⟨lw_p31, fun _ h => absurd h List.not_mem_nil⟩⟩⟩⟩⟩⟩⟩⟩⟩⟩⟩⟩⟩⟩⟩⟩
theorem lw_p32 : lw_okq (⟨"SetFamiliesModel", "lays", "(I)I"⟩, 15) := ⟨⟨by decide +kernel, by decide +kernel⟩, List.mem_of_getElem? (i := 973) (by decide +kernel), List.mem_of_getElem? (i := 1107) (by decide +kernel), List.mem_of_getElem? (i := 1108) (by decide +kernel)⟩
theorem lw_p33 : lw_okq (⟨"SetFamiliesModel", "empties", "()V"⟩, 15) := ⟨⟨by decide +kernel, by decide +kernel⟩, List.mem_of_getElem? (i := 973) (by decide +kernel), List.mem_of_getElem? (i := 1115) (by decide +kernel), List.mem_of_getElem? (i := 1116) (by decide +kernel)⟩
theorem lw_p34 : lw_okq (⟨"SetFamiliesModel", "shadow", "(IZ)V"⟩, 15) := ⟨⟨by decide +kernel, by decide +kernel⟩, List.mem_of_getElem? (i := 973) (by decide +kernel), List.mem_of_getElem? (i := 1119) (by decide +kernel), List.mem_of_getElem? (i := 1120) (by decide +kernel)⟩
theorem lw_p35 : lw_okq (⟨"SetFamiliesModel", "closes", "(IZ)V"⟩, 15) := ⟨⟨by decide +kernel, by decide +kernel⟩, List.mem_of_getElem? (i := 973) (by decide +kernel), List.mem_of_getElem? (i := 1123) (by decide +kernel), List.mem_of_getElem? (i := 1124) (by decide +kernel)⟩
theorem lw_p36 : lw_okq (⟨"SetFamiliesModel", "isDerived", "(III)Z"⟩, 15) := ⟨⟨by decide +kernel, by decide +kernel⟩, List.mem_of_getElem? (i := 973) (by decide +kernel), List.mem_of_getElem? (i := 1127) (by decide +kernel), List.mem_of_getElem? (i := 1128) (by decide +kernel)⟩
theorem lw_p37 : lw_okq (⟨"SetFamiliesModel", "hasBelow", "(IIZZ)Z"⟩, 15) := ⟨⟨by decide +kernel, by decide +kernel⟩, List.mem_of_getElem? (i := 973) (by decide +kernel), List.mem_of_getElem? (i := 1131) (by decide +kernel), List.mem_of_getElem? (i := 1132) (by decide +kernel)⟩
theorem lw_p38 : lw_okq (⟨"SetFamiliesModel", "blocks", "(II)Z"⟩, 15) := ⟨⟨by decide +kernel, by decide +kernel⟩, List.mem_of_getElem? (i := 973) (by decide +kernel), List.mem_of_getElem? (i := 1135) (by decide +kernel), List.mem_of_getElem? (i := 1136) (by decide +kernel)⟩
theorem lw_p39 : lw_okq (⟨"SetFamiliesModel", "hits", "(II)Z"⟩, 15) := ⟨⟨by decide +kernel, by decide +kernel⟩, List.mem_of_getElem? (i := 973) (by decide +kernel), List.mem_of_getElem? (i := 1139) (by decide +kernel), List.mem_of_getElem? (i := 1140) (by decide +kernel)⟩
theorem lw_p40 : lw_okq (⟨"SetFamiliesModel", "compresses", "(III)I"⟩, 15) := ⟨⟨by decide +kernel, by decide +kernel⟩, List.mem_of_getElem? (i := 973) (by decide +kernel), List.mem_of_getElem? (i := 1147) (by decide +kernel), List.mem_of_getElem? (i := 1148) (by decide +kernel)⟩
theorem lw_p41 : lw_okq (⟨"SetFamiliesModel", "excessOf", "(II)I"⟩, 15) := ⟨⟨by decide +kernel, by decide +kernel⟩, List.mem_of_getElem? (i := 973) (by decide +kernel), List.mem_of_getElem? (i := 1193) (by decide +kernel), List.mem_of_getElem? (i := 1194) (by decide +kernel)⟩
theorem lw_p42 : lw_okq (⟨"SetFamiliesModel", "holds", "(II)Z"⟩, 15) := ⟨⟨by decide +kernel, by decide +kernel⟩, List.mem_of_getElem? (i := 973) (by decide +kernel), List.mem_of_getElem? (i := 1201) (by decide +kernel), List.mem_of_getElem? (i := 1202) (by decide +kernel)⟩
theorem lw_p43 : lw_okq (⟨"SetFamiliesModel", "areBad", "(IIII)Z"⟩, 15) := ⟨⟨by decide +kernel, by decide +kernel⟩, List.mem_of_getElem? (i := 973) (by decide +kernel), List.mem_of_getElem? (i := 1205) (by decide +kernel), List.mem_of_getElem? (i := 1206) (by decide +kernel)⟩
theorem lw_p44 : lw_okq (⟨"SetFamiliesModel", "isBad", "(III)Z"⟩, 15) := ⟨⟨by decide +kernel, by decide +kernel⟩, List.mem_of_getElem? (i := 973) (by decide +kernel), List.mem_of_getElem? (i := 1209) (by decide +kernel), List.mem_of_getElem? (i := 1210) (by decide +kernel)⟩
theorem lw_p45 : lw_okq (⟨"SetFamiliesModel", "weighs", "(I)V"⟩, 15) := ⟨⟨by decide +kernel, by decide +kernel⟩, List.mem_of_getElem? (i := 973) (by decide +kernel), List.mem_of_getElem? (i := 1217) (by decide +kernel), List.mem_of_getElem? (i := 1218) (by decide +kernel)⟩
theorem lw_p46 : lw_okq (⟨"SetFamiliesModel", "firstShattered", "(I)I"⟩, 15) := ⟨⟨by decide +kernel, by decide +kernel⟩, List.mem_of_getElem? (i := 973) (by decide +kernel), List.mem_of_getElem? (i := 1228) (by decide +kernel), List.mem_of_getElem? (i := 1229) (by decide +kernel)⟩
theorem lw_p47 : lw_okq (⟨"SetFamiliesModel", "shatters", "(II)Z"⟩, 15) := ⟨⟨by decide +kernel, by decide +kernel⟩, List.mem_of_getElem? (i := 973) (by decide +kernel), List.mem_of_getElem? (i := 1232) (by decide +kernel), List.mem_of_getElem? (i := 1233) (by decide +kernel)⟩
def lw_privs_3 : List (MethodName × Nat) := [(⟨"SetFamiliesModel", "lays", "(I)I"⟩, 15), (⟨"SetFamiliesModel", "empties", "()V"⟩, 15), (⟨"SetFamiliesModel", "shadow", "(IZ)V"⟩, 15), (⟨"SetFamiliesModel", "closes", "(IZ)V"⟩, 15), (⟨"SetFamiliesModel", "isDerived", "(III)Z"⟩, 15), (⟨"SetFamiliesModel", "hasBelow", "(IIZZ)Z"⟩, 15), (⟨"SetFamiliesModel", "blocks", "(II)Z"⟩, 15), (⟨"SetFamiliesModel", "hits", "(II)Z"⟩, 15), (⟨"SetFamiliesModel", "compresses", "(III)I"⟩, 15), (⟨"SetFamiliesModel", "excessOf", "(II)I"⟩, 15), (⟨"SetFamiliesModel", "holds", "(II)Z"⟩, 15), (⟨"SetFamiliesModel", "areBad", "(IIII)Z"⟩, 15), (⟨"SetFamiliesModel", "isBad", "(III)Z"⟩, 15), (⟨"SetFamiliesModel", "weighs", "(I)V"⟩, 15), (⟨"SetFamiliesModel", "firstShattered", "(I)I"⟩, 15), (⟨"SetFamiliesModel", "shatters", "(II)Z"⟩, 15)]
theorem lw_r3 : ∀ q ∈ lw_privs_3, lw_okq q := List.forall_mem_cons.mpr ⟨lw_p32, List.forall_mem_cons.mpr ⟨lw_p33, List.forall_mem_cons.mpr ⟨lw_p34, List.forall_mem_cons.mpr ⟨lw_p35, List.forall_mem_cons.mpr ⟨lw_p36, List.forall_mem_cons.mpr ⟨lw_p37, List.forall_mem_cons.mpr ⟨lw_p38, List.forall_mem_cons.mpr ⟨lw_p39, List.forall_mem_cons.mpr ⟨lw_p40, List.forall_mem_cons.mpr ⟨lw_p41, List.forall_mem_cons.mpr ⟨lw_p42, List.forall_mem_cons.mpr ⟨lw_p43, List.forall_mem_cons.mpr ⟨lw_p44, List.forall_mem_cons.mpr ⟨lw_p45, List.forall_mem_cons.mpr ⟨lw_p46, List.forall_mem_cons.mpr ⟨lw_p47, fun _ h => absurd h List.not_mem_nil⟩⟩⟩⟩⟩⟩⟩⟩⟩⟩⟩⟩⟩⟩⟩⟩
theorem lw_p48 : lw_okq (⟨"SetFamiliesModel", "firstCrossing", "(II)I"⟩, 15) := ⟨⟨by decide +kernel, by decide +kernel⟩, List.mem_of_getElem? (i := 973) (by decide +kernel), List.mem_of_getElem? (i := 1244) (by decide +kernel), List.mem_of_getElem? (i := 1245) (by decide +kernel)⟩
theorem lw_p49 : lw_okq (⟨"SetFamiliesModel", "leastCore", "(I)I"⟩, 15) := ⟨⟨by decide +kernel, by decide +kernel⟩, List.mem_of_getElem? (i := 973) (by decide +kernel), List.mem_of_getElem? (i := 1252) (by decide +kernel), List.mem_of_getElem? (i := 1253) (by decide +kernel)⟩
theorem lw_p50 : lw_okq (⟨"SetFamiliesModel", "isCore", "(II)Z"⟩, 15) := ⟨⟨by decide +kernel, by decide +kernel⟩, List.mem_of_getElem? (i := 973) (by decide +kernel), List.mem_of_getElem? (i := 1256) (by decide +kernel), List.mem_of_getElem? (i := 1257) (by decide +kernel)⟩
theorem lw_p51 : lw_okq (⟨"SetFamiliesModel", "countsPairs", "(I)V"⟩, 15) := ⟨⟨by decide +kernel, by decide +kernel⟩, List.mem_of_getElem? (i := 973) (by decide +kernel), List.mem_of_getElem? (i := 1264) (by decide +kernel), List.mem_of_getElem? (i := 1265) (by decide +kernel)⟩
theorem lw_p52 : lw_okq (⟨"SetFamiliesModel", "mixes", "(J)V"⟩, 15) := ⟨⟨by decide +kernel, by decide +kernel⟩, List.mem_of_getElem? (i := 973) (by decide +kernel), List.mem_of_getElem? (i := 1285) (by decide +kernel), List.mem_of_getElem? (i := 1286) (by decide +kernel)⟩
theorem lw_p53 : lw_okq (⟨"SetFamiliesModel", "mixesFamily", "(I)V"⟩, 15) := ⟨⟨by decide +kernel, by decide +kernel⟩, List.mem_of_getElem? (i := 973) (by decide +kernel), List.mem_of_getElem? (i := 1290) (by decide +kernel), List.mem_of_getElem? (i := 1291) (by decide +kernel)⟩
def lw_privs_4 : List (MethodName × Nat) := [(⟨"SetFamiliesModel", "firstCrossing", "(II)I"⟩, 15), (⟨"SetFamiliesModel", "leastCore", "(I)I"⟩, 15), (⟨"SetFamiliesModel", "isCore", "(II)Z"⟩, 15), (⟨"SetFamiliesModel", "countsPairs", "(I)V"⟩, 15), (⟨"SetFamiliesModel", "mixes", "(J)V"⟩, 15), (⟨"SetFamiliesModel", "mixesFamily", "(I)V"⟩, 15)]
theorem lw_r4 : ∀ q ∈ lw_privs_4, lw_okq q := List.forall_mem_cons.mpr ⟨lw_p48, List.forall_mem_cons.mpr ⟨lw_p49, List.forall_mem_cons.mpr ⟨lw_p50, List.forall_mem_cons.mpr ⟨lw_p51, List.forall_mem_cons.mpr ⟨lw_p52, List.forall_mem_cons.mpr ⟨lw_p53, fun _ h => absurd h List.not_mem_nil⟩⟩⟩⟩⟩⟩
def lw_privs : List (MethodName × Nat) := lw_privs_1 ++ (lw_privs_2 ++ (lw_privs_3 ++ (lw_privs_4)))
def lw_tbl : List Cond := k2_sels lw_privs ++ tables_1
theorem lw_privs_ok : ∀ q ∈ lw_privs, lw_okq q := by
  show ∀ q ∈ lw_privs_1 ++ (lw_privs_2 ++ (lw_privs_3 ++ (lw_privs_4))), lw_okq q
  exact List.forall_mem_append.mpr ⟨lw_r1, List.forall_mem_append.mpr ⟨lw_r2, List.forall_mem_append.mpr ⟨lw_r3, lw_r4⟩⟩⟩
end
section
def RX0 : String := "SetFamilies$Colex"
def TX0 : u_T := fun k => match k with
  | _ => ("", "", "", false)
def tyX0 : Nat → FieldType := fun k => match k with
  | _ => .int
abbrev wsX00 : List Cond := u_ws RX0 TX0 0
theorem nmX0 : ∀ a, a < 0 → ∀ b, b < 0 → a ≠ b → (TX0 a).2.1 ≠ (TX0 b).2.1 := by decide +kernel
theorem tyX0_ok : ∀ k, k < 0 → parseFieldDescriptor (TX0 k).2.2.1 = some (tyX0 k) := by decide +kernel
abbrev cX0_binomial : ByteArray := prog_2_method_2_code
def yX0_binomial : MethodName := ⟨RX0, "binomial", "(II)J"⟩
abbrev cX0_rankOf : ByteArray := prog_2_method_3_code
def yX0_rankOf : MethodName := ⟨RX0, "rankOf", "(I)I"⟩
abbrev cX0_setOf : ByteArray := prog_2_method_4_code
def yX0_setOf : MethodName := ⟨RX0, "setOf", "(II)I"⟩
abbrev cX0_cascadeNumber : ByteArray := prog_2_method_5_code
def yX0_cascadeNumber : MethodName := ⟨RX0, "cascadeNumber", "(III)I"⟩
abbrev cX0_leastShadow : ByteArray := prog_2_method_6_code
def yX0_leastShadow : MethodName := ⟨RX0, "leastShadow", "(II)I"⟩
abbrev cX0_greatestDivisor : ByteArray := prog_2_method_7_code
def yX0_greatestDivisor : MethodName := ⟨RX0, "greatestDivisor", "(JJ)J"⟩
abbrev cX0_greatestTop : ByteArray := prog_2_method_8_code
def yX0_greatestTop : MethodName := ⟨RX0, "greatestTop", "(II)I"⟩
def RX1 : String := "SetFamilies$Compression"
def TX1 : u_T := fun k => match k with
  | 0 => ("SetFamilies$Compression", "ground", "LSetFamilies$Ground;", true)
  | 1 => ("SetFamilies$Compression", "between", "LSetFamilies$Family;", true)
  | 2 => ("SetFamilies$Compression", "arriving", "LSetFamilies$Family;", true)
  | _ => ("SetFamilies$Compression", "leaving", "LSetFamilies$Family;", true)
def tyX1 : Nat → FieldType := fun k => match k with
  | 0 => .object "SetFamilies$Ground"
  | 1 => .object "SetFamilies$Family"
  | 2 => .object "SetFamilies$Family"
  | _ => .object "SetFamilies$Family"
abbrev wsX10 : List Cond := u_ws RX1 TX1 4
theorem nmX1 : ∀ a, a < 4 → ∀ b, b < 4 → a ≠ b → (TX1 a).2.1 ≠ (TX1 b).2.1 := by decide +kernel
theorem tyX1_ok : ∀ k, k < 4 → parseFieldDescriptor (TX1 k).2.2.1 = some (tyX1 k) := by decide +kernel
abbrev cX1_init : ByteArray := prog_3_method_1_code
def yX1_init : MethodName := ⟨RX1, "<init>", "(LSetFamilies$Ground;)V"⟩
abbrev cX1_replace : ByteArray := prog_3_method_2_code
def yX1_replace : MethodName := ⟨RX1, "replace", "(LSetFamilies$Family;II)I"⟩
abbrev cX1_replaceAll : ByteArray := prog_3_method_3_code
def yX1_replaceAll : MethodName := ⟨RX1, "replaceAll", "(LSetFamilies$Family;)I"⟩
abbrev cX1_changesNothing : ByteArray := prog_3_method_4_code
def yX1_changesNothing : MethodName := ⟨RX1, "changesNothing", "(LSetFamilies$Family;)Z"⟩
abbrev cX1_replaceOnce : ByteArray := prog_3_method_5_code
def yX1_replaceOnce : MethodName := ⟨RX1, "replaceOnce", "(LSetFamilies$Family;)I"⟩
abbrev cX1_layExchanged : ByteArray := prog_3_method_6_code
def yX1_layExchanged : MethodName := ⟨RX1, "layExchanged", "(LSetFamilies$Family;LSetFamilies$Family;II)V"⟩
def RX2 : String := "SetFamilies$Derivation"
def TX2 : u_T := fun k => match k with
  | 0 => ("SetFamilies$Derivation", "ground", "LSetFamilies$Ground;", true)
  | 1 => ("SetFamilies$Derivation", "bound", "LSetFamilies$Family;", true)
  | 2 => ("SetFamilies$Derivation", "part", "LSetFamilies$Family;", true)
  | _ => ("SetFamilies$Derivation", "turned", "LSetFamilies$Family;", true)
def tyX2 : Nat → FieldType := fun k => match k with
  | 0 => .object "SetFamilies$Ground"
  | 1 => .object "SetFamilies$Family"
  | 2 => .object "SetFamilies$Family"
  | _ => .object "SetFamilies$Family"
abbrev wsX20 : List Cond := u_ws RX2 TX2 4
theorem nmX2 : ∀ a, a < 4 → ∀ b, b < 4 → a ≠ b → (TX2 a).2.1 ≠ (TX2 b).2.1 := by decide +kernel
theorem tyX2_ok : ∀ k, k < 4 → parseFieldDescriptor (TX2 k).2.2.1 = some (tyX2 k) := by decide +kernel
abbrev cX2_init : ByteArray := prog_4_method_1_code
def yX2_init : MethodName := ⟨RX2, "<init>", "(LSetFamilies$Ground;)V"⟩
abbrev cX2_lay : ByteArray := prog_4_method_2_code
def yX2_lay : MethodName := ⟨RX2, "lay", "(LSetFamilies$Family;ILSetFamilies$Family;)V"⟩
abbrev cX2_layMinimal : ByteArray := prog_4_method_3_code
def yX2_layMinimal : MethodName := ⟨RX2, "layMinimal", "(LSetFamilies$Family;LSetFamilies$Family;)V"⟩
abbrev cX2_layUnions : ByteArray := prog_4_method_4_code
def yX2_layUnions : MethodName := ⟨RX2, "layUnions", "(LSetFamilies$Family;LSetFamilies$Family;)V"⟩
abbrev cX2_layIntersections : ByteArray := prog_4_method_5_code
def yX2_layIntersections : MethodName := ⟨RX2, "layIntersections", "(LSetFamilies$Family;LSetFamilies$Family;)V"⟩
abbrev cX2_layMaximal : ByteArray := prog_4_method_6_code
def yX2_layMaximal : MethodName := ⟨RX2, "layMaximal", "(LSetFamilies$Family;LSetFamilies$Family;)V"⟩
abbrev cX2_layBlocker : ByteArray := prog_4_method_7_code
def yX2_layBlocker : MethodName := ⟨RX2, "layBlocker", "(LSetFamilies$Family;LSetFamilies$Family;)V"⟩
def RX3 : String := "SetFamilies$Family"
def TX3 : u_T := fun k => match k with
  | 0 => ("SetFamilies$Family", "ground", "LSetFamilies$Ground;", true)
  | _ => ("SetFamilies$Family", "words", "[J", true)
def tyX3 : Nat → FieldType := fun k => match k with
  | 0 => .object "SetFamilies$Ground"
  | _ => .array .long
abbrev wsX30 : List Cond := u_ws RX3 TX3 2
theorem nmX3 : ∀ a, a < 2 → ∀ b, b < 2 → a ≠ b → (TX3 a).2.1 ≠ (TX3 b).2.1 := by decide +kernel
theorem tyX3_ok : ∀ k, k < 2 → parseFieldDescriptor (TX3 k).2.2.1 = some (tyX3 k) := by decide +kernel
abbrev cX3_init : ByteArray := prog_5_method_1_code
def yX3_init : MethodName := ⟨RX3, "<init>", "(LSetFamilies$Ground;)V"⟩
abbrev cX3_clear : ByteArray := prog_5_method_2_code
def yX3_clear : MethodName := ⟨RX3, "clear", "()V"⟩
abbrev cX3_copy : ByteArray := prog_5_method_3_code
def yX3_copy : MethodName := ⟨RX3, "copy", "(LSetFamilies$Family;)V"⟩
abbrev cX3_contains : ByteArray := prog_5_method_4_code
def yX3_contains : MethodName := ⟨RX3, "contains", "(I)Z"⟩
abbrev cX3_put : ByteArray := prog_5_method_5_code
def yX3_put : MethodName := ⟨RX3, "put", "(I)V"⟩
abbrev cX3_drop : ByteArray := prog_5_method_6_code
def yX3_drop : MethodName := ⟨RX3, "drop", "(I)V"⟩
abbrev cX3_count : ByteArray := prog_5_method_7_code
def yX3_count : MethodName := ⟨RX3, "count", "()I"⟩
abbrev cX3_countOfSize : ByteArray := prog_5_method_8_code
def yX3_countOfSize : MethodName := ⟨RX3, "countOfSize", "(I)I"⟩
abbrev cX3_countHolding : ByteArray := prog_5_method_9_code
def yX3_countHolding : MethodName := ⟨RX3, "countHolding", "(I)I"⟩
abbrev cX3_atIndex : ByteArray := prog_5_method_10_code
def yX3_atIndex : MethodName := ⟨RX3, "atIndex", "(I)I"⟩
abbrev cX3_listInto : ByteArray := prog_5_method_11_code
def yX3_listInto : MethodName := ⟨RX3, "listInto", "([I)I"⟩
abbrev cX3_sameAs : ByteArray := prog_5_method_12_code
def yX3_sameAs : MethodName := ⟨RX3, "sameAs", "(LSetFamilies$Family;)Z"⟩
abbrev cX3_join : ByteArray := prog_5_method_13_code
def yX3_join : MethodName := ⟨RX3, "join", "(LSetFamilies$Family;)V"⟩
abbrev cX3_meet : ByteArray := prog_5_method_14_code
def yX3_meet : MethodName := ⟨RX3, "meet", "(LSetFamilies$Family;)V"⟩
abbrev cX3_subtract : ByteArray := prog_5_method_15_code
def yX3_subtract : MethodName := ⟨RX3, "subtract", "(LSetFamilies$Family;)V"⟩
abbrev cX3_differ : ByteArray := prog_5_method_16_code
def yX3_differ : MethodName := ⟨RX3, "differ", "(LSetFamilies$Family;)V"⟩
abbrev cX3_invert : ByteArray := prog_5_method_17_code
def yX3_invert : MethodName := ⟨RX3, "invert", "()V"⟩
abbrev cX3_keepOfSize : ByteArray := prog_5_method_18_code
def yX3_keepOfSize : MethodName := ⟨RX3, "keepOfSize", "(I)V"⟩
abbrev cX3_keepLacking : ByteArray := prog_5_method_19_code
def yX3_keepLacking : MethodName := ⟨RX3, "keepLacking", "(I)V"⟩
abbrev cX3_keepHolding : ByteArray := prog_5_method_20_code
def yX3_keepHolding : MethodName := ⟨RX3, "keepHolding", "(I)V"⟩
abbrev cX3_joinLowered : ByteArray := prog_5_method_21_code
def yX3_joinLowered : MethodName := ⟨RX3, "joinLowered", "(LSetFamilies$Family;I)V"⟩
abbrev cX3_joinRaised : ByteArray := prog_5_method_22_code
def yX3_joinRaised : MethodName := ⟨RX3, "joinRaised", "(LSetFamilies$Family;I)V"⟩
abbrev cX3_forget : ByteArray := prog_5_method_23_code
def yX3_forget : MethodName := ⟨RX3, "forget", "(I)V"⟩
abbrev cX3_closeUpwards : ByteArray := prog_5_method_24_code
def yX3_closeUpwards : MethodName := ⟨RX3, "closeUpwards", "()V"⟩
abbrev cX3_closeDownwards : ByteArray := prog_5_method_25_code
def yX3_closeDownwards : MethodName := ⟨RX3, "closeDownwards", "()V"⟩
abbrev cX3_becomeShadow : ByteArray := prog_5_method_26_code
def yX3_becomeShadow : MethodName := ⟨RX3, "becomeShadow", "(LSetFamilies$Family;)V"⟩
abbrev cX3_becomeUpperShadow : ByteArray := prog_5_method_27_code
def yX3_becomeUpperShadow : MethodName := ⟨RX3, "becomeUpperShadow", "(LSetFamilies$Family;)V"⟩
abbrev cX3_mirror : ByteArray := prog_5_method_28_code
def yX3_mirror : MethodName := ⟨RX3, "mirror", "()V"⟩
abbrev cX3_exchange : ByteArray := prog_5_method_29_code
def yX3_exchange : MethodName := ⟨RX3, "exchange", "(I)V"⟩
abbrev cX3_lowestBit : ByteArray := prog_5_method_30_code
def yX3_lowestBit : MethodName := ⟨RX3, "lowestBit", "(J)I"⟩
abbrev cX3_bitAt : ByteArray := prog_5_method_31_code
def yX3_bitAt : MethodName := ⟨RX3, "bitAt", "(JI)I"⟩
abbrev cX3_wordOf : ByteArray := prog_5_method_32_code
def yX3_wordOf : MethodName := ⟨RX3, "wordOf", "(I)I"⟩
abbrev cX3_bitOf : ByteArray := prog_5_method_33_code
def yX3_bitOf : MethodName := ⟨RX3, "bitOf", "(I)J"⟩
abbrev cX3_lacking : ByteArray := prog_5_method_34_code
def yX3_lacking : MethodName := ⟨RX3, "lacking", "(II)J"⟩
abbrev cX3_ofSize : ByteArray := prog_5_method_35_code
def yX3_ofSize : MethodName := ⟨RX3, "ofSize", "(II)J"⟩
def RX4 : String := "SetFamilies$Ground"
def TX4 : u_T := fun k => match k with
  | 0 => ("SetFamilies$Ground", "elements", "I", false)
  | _ => ("SetFamilies$Ground", "words", "I", false)
def tyX4 : Nat → FieldType := fun k => match k with
  | 0 => .int
  | _ => .int
abbrev wsX40 : List Cond := u_ws RX4 TX4 2
theorem nmX4 : ∀ a, a < 2 → ∀ b, b < 2 → a ≠ b → (TX4 a).2.1 ≠ (TX4 b).2.1 := by decide +kernel
theorem tyX4_ok : ∀ k, k < 2 → parseFieldDescriptor (TX4 k).2.2.1 = some (tyX4 k) := by decide +kernel
abbrev cX4_init : ByteArray := prog_6_method_1_code
def yX4_init : MethodName := ⟨RX4, "<init>", "(I)V"⟩
abbrev cX4_become : ByteArray := prog_6_method_2_code
def yX4_become : MethodName := ⟨RX4, "become", "(I)V"⟩
abbrev cX4_everything : ByteArray := prog_6_method_3_code
def yX4_everything : MethodName := ⟨RX4, "everything", "()I"⟩
abbrev cX4_wordsFor : ByteArray := prog_6_method_4_code
def yX4_wordsFor : MethodName := ⟨RX4, "wordsFor", "(I)I"⟩
def RX5 : String := "SetFamilies$History"
def TX5 : u_T := fun k => match k with
  | 0 => ("SetFamilies$History", "depth", "I", false)
  | 1 => ("SetFamilies$History", "newest", "I", false)
  | 2 => ("SetFamilies$History", "elements", "[I", true)
  | _ => ("SetFamilies$History", "saved", "[LSetFamilies$Family;", true)
def tyX5 : Nat → FieldType := fun k => match k with
  | 0 => .int
  | 1 => .int
  | 2 => .array .int
  | _ => .array (.object "SetFamilies$Family")
abbrev wsX50 : List Cond := u_ws RX5 TX5 4
theorem nmX5 : ∀ a, a < 4 → ∀ b, b < 4 → a ≠ b → (TX5 a).2.1 ≠ (TX5 b).2.1 := by decide +kernel
theorem tyX5_ok : ∀ k, k < 4 → parseFieldDescriptor (TX5 k).2.2.1 = some (tyX5 k) := by decide +kernel
abbrev cX5_init : ByteArray := prog_7_method_1_code
def yX5_init : MethodName := ⟨RX5, "<init>", "(LSetFamilies$Ground;)V"⟩
abbrev cX5_save : ByteArray := prog_7_method_2_code
def yX5_save : MethodName := ⟨RX5, "save", "(LSetFamilies$Ground;[LSetFamilies$Family;)V"⟩
abbrev cX5_restore : ByteArray := prog_7_method_3_code
def yX5_restore : MethodName := ⟨RX5, "restore", "(LSetFamilies$Ground;[LSetFamilies$Family;)V"⟩
def RX6 : String := "SetFamilies$PairCounts"
def TX6 : u_T := fun k => match k with
  | 0 => ("SetFamilies$PairCounts", "ground", "LSetFamilies$Ground;", true)
  | 1 => ("SetFamilies$PairCounts", "above", "[I", true)
  | _ => ("SetFamilies$PairCounts", "counts", "[J", true)
def tyX6 : Nat → FieldType := fun k => match k with
  | 0 => .object "SetFamilies$Ground"
  | 1 => .array .int
  | _ => .array .long
abbrev wsX60 : List Cond := u_ws RX6 TX6 3
theorem nmX6 : ∀ a, a < 3 → ∀ b, b < 3 → a ≠ b → (TX6 a).2.1 ≠ (TX6 b).2.1 := by decide +kernel
theorem tyX6_ok : ∀ k, k < 3 → parseFieldDescriptor (TX6 k).2.2.1 = some (tyX6 k) := by decide +kernel
abbrev cX6_init : ByteArray := prog_8_method_1_code
def yX6_init : MethodName := ⟨RX6, "<init>", "(LSetFamilies$Ground;)V"⟩
abbrev cX6_withCommon : ByteArray := prog_8_method_2_code
def yX6_withCommon : MethodName := ⟨RX6, "withCommon", "(I)I"⟩
abbrev cX6_countAll : ByteArray := prog_8_method_3_code
def yX6_countAll : MethodName := ⟨RX6, "countAll", "(LSetFamilies$Family;)V"⟩
abbrev cX6_countAbove : ByteArray := prog_8_method_4_code
def yX6_countAbove : MethodName := ⟨RX6, "countAbove", "(LSetFamilies$Family;)V"⟩
abbrev cX6_countCommonSubsets : ByteArray := prog_8_method_5_code
def yX6_countCommonSubsets : MethodName := ⟨RX6, "countCommonSubsets", "()V"⟩
def RX7 : String := "SetFamilies$Shattering"
def TX7 : u_T := fun k => match k with
  | 0 => ("SetFamilies$Shattering", "ground", "LSetFamilies$Ground;", true)
  | _ => ("SetFamilies$Shattering", "traces", "[LSetFamilies$Family;", true)
def tyX7 : Nat → FieldType := fun k => match k with
  | 0 => .object "SetFamilies$Ground"
  | _ => .array (.object "SetFamilies$Family")
abbrev wsX70 : List Cond := u_ws RX7 TX7 2
theorem nmX7 : ∀ a, a < 2 → ∀ b, b < 2 → a ≠ b → (TX7 a).2.1 ≠ (TX7 b).2.1 := by decide +kernel
theorem tyX7_ok : ∀ k, k < 2 → parseFieldDescriptor (TX7 k).2.2.1 = some (tyX7 k) := by decide +kernel
abbrev cX7_init : ByteArray := prog_9_method_1_code
def yX7_init : MethodName := ⟨RX7, "<init>", "(LSetFamilies$Ground;)V"⟩
abbrev cX7_firstLargest : ByteArray := prog_9_method_2_code
def yX7_firstLargest : MethodName := ⟨RX7, "firstLargest", "(LSetFamilies$Family;)I"⟩
abbrev cX7_layTrace : ByteArray := prog_9_method_3_code
def yX7_layTrace : MethodName := ⟨RX7, "layTrace", "(LSetFamilies$Family;I)LSetFamilies$Family;"⟩
def RX8 : String := "SetFamilies$SunflowerSearch"
def TX8 : u_T := fun k => match k with
  | 0 => ("SetFamilies$SunflowerSearch", "ground", "LSetFamilies$Ground;", true)
  | 1 => ("SetFamilies$SunflowerSearch", "derivation", "LSetFamilies$Derivation;", true)
  | 2 => ("SetFamilies$SunflowerSearch", "links", "[LSetFamilies$Family;", true)
  | 3 => ("SetFamilies$SunflowerSearch", "rest", "LSetFamilies$Family;", true)
  | 4 => ("SetFamilies$SunflowerSearch", "petals", "LSetFamilies$Family;", true)
  | _ => ("SetFamilies$SunflowerSearch", "codes", "[I", true)
def tyX8 : Nat → FieldType := fun k => match k with
  | 0 => .object "SetFamilies$Ground"
  | 1 => .object "SetFamilies$Derivation"
  | 2 => .array (.object "SetFamilies$Family")
  | 3 => .object "SetFamilies$Family"
  | 4 => .object "SetFamilies$Family"
  | _ => .array .int
abbrev wsX80 : List Cond := u_ws RX8 TX8 6
theorem nmX8 : ∀ a, a < 6 → ∀ b, b < 6 → a ≠ b → (TX8 a).2.1 ≠ (TX8 b).2.1 := by decide +kernel
theorem tyX8_ok : ∀ k, k < 6 → parseFieldDescriptor (TX8 k).2.2.1 = some (tyX8 k) := by decide +kernel
abbrev cX8_init : ByteArray := prog_10_method_1_code
def yX8_init : MethodName := ⟨RX8, "<init>", "(LSetFamilies$Ground;LSetFamilies$Derivation;)V"⟩
abbrev cX8_leastCore : ByteArray := prog_10_method_2_code
def yX8_leastCore : MethodName := ⟨RX8, "leastCore", "(LSetFamilies$Family;)I"⟩
abbrev cX8_layLink : ByteArray := prog_10_method_3_code
def yX8_layLink : MethodName := ⟨RX8, "layLink", "(LSetFamilies$Family;I)LSetFamilies$Family;"⟩
abbrev cX8_hasDisjointSets : ByteArray := prog_10_method_4_code
def yX8_hasDisjointSets : MethodName := ⟨RX8, "hasDisjointSets", "(LSetFamilies$Family;)Z"⟩
abbrev cX8_hasTriple : ByteArray := prog_10_method_5_code
def yX8_hasTriple : MethodName := ⟨RX8, "hasTriple", "(I)Z"⟩
abbrev cX8_hasPair : ByteArray := prog_10_method_6_code
def yX8_hasPair : MethodName := ⟨RX8, "hasPair", "(III)Z"⟩
abbrev cX8_hasOne : ByteArray := prog_10_method_7_code
def yX8_hasOne : MethodName := ⟨RX8, "hasOne", "(III)Z"⟩
def RX9 : String := "SetFamilies$Text"
def TX9 : u_T := fun k => match k with
  | 0 => ("SetFamilies$Text", "length", "I", false)
  | _ => ("SetFamilies$Text", "bytes", "[B", true)
def tyX9 : Nat → FieldType := fun k => match k with
  | 0 => .int
  | _ => .array .byte
abbrev wsX90 : List Cond := u_ws RX9 TX9 2
theorem nmX9 : ∀ a, a < 2 → ∀ b, b < 2 → a ≠ b → (TX9 a).2.1 ≠ (TX9 b).2.1 := by decide +kernel
theorem tyX9_ok : ∀ k, k < 2 → parseFieldDescriptor (TX9 k).2.2.1 = some (tyX9 k) := by decide +kernel
abbrev cX9_init : ByteArray := prog_11_method_1_code
def yX9_init : MethodName := ⟨RX9, "<init>", "()V"⟩
abbrev cX9_append : ByteArray := prog_11_method_2_code
def yX9_append : MethodName := ⟨RX9, "append", "(I)V"⟩
abbrev cX9_parse : ByteArray := prog_11_method_3_code
def yX9_parse : MethodName := ⟨RX9, "parse", "(LSetFamilies$Family;I)I"⟩
def RX10 : String := "SetFamilies"
def TX10 : u_T := fun k => match k with
  | 0 => ("SetFamilies", "ground", "LSetFamilies$Ground;", true)
  | 1 => ("SetFamilies", "families", "[LSetFamilies$Family;", true)
  | 2 => ("SetFamilies", "history", "LSetFamilies$History;", true)
  | 3 => ("SetFamilies", "text", "LSetFamilies$Text;", true)
  | 4 => ("SetFamilies", "derivation", "LSetFamilies$Derivation;", true)
  | 5 => ("SetFamilies", "compression", "LSetFamilies$Compression;", true)
  | 6 => ("SetFamilies", "shattering", "LSetFamilies$Shattering;", true)
  | 7 => ("SetFamilies", "sunflowers", "LSetFamilies$SunflowerSearch;", true)
  | 8 => ("SetFamilies", "pairCounts", "LSetFamilies$PairCounts;", true)
  | 9 => ("SetFamilies", "members", "[I", true)
  | 10 => ("SetFamilies", "result", "LSetFamilies$Family;", true)
  | _ => ("SetFamilies", "helper", "LSetFamilies$Family;", true)
def tyX10 : Nat → FieldType := fun k => match k with
  | 0 => .object "SetFamilies$Ground"
  | 1 => .array (.object "SetFamilies$Family")
  | 2 => .object "SetFamilies$History"
  | 3 => .object "SetFamilies$Text"
  | 4 => .object "SetFamilies$Derivation"
  | 5 => .object "SetFamilies$Compression"
  | 6 => .object "SetFamilies$Shattering"
  | 7 => .object "SetFamilies$SunflowerSearch"
  | 8 => .object "SetFamilies$PairCounts"
  | 9 => .array .int
  | 10 => .object "SetFamilies$Family"
  | _ => .object "SetFamilies$Family"
abbrev wsX100 : List Cond := u_ws RX10 TX10 12
theorem nmX10 : ∀ a, a < 12 → ∀ b, b < 12 → a ≠ b → (TX10 a).2.1 ≠ (TX10 b).2.1 := by decide +kernel
theorem tyX10_ok : ∀ k, k < 12 → parseFieldDescriptor (TX10 k).2.2.1 = some (tyX10 k) := by decide +kernel
abbrev cX10_init : ByteArray := prog_1_method_1_code
def yX10_init : MethodName := ⟨RX10, "<init>", "()V"⟩
abbrev cX10_setGround : ByteArray := prog_1_method_2_code
def yX10_setGround : MethodName := ⟨RX10, "setGround", "(I)I"⟩
abbrev cX10_add : ByteArray := prog_1_method_3_code
def yX10_add : MethodName := ⟨RX10, "add", "(II)Z"⟩
abbrev cX10_remove : ByteArray := prog_1_method_4_code
def yX10_remove : MethodName := ⟨RX10, "remove", "(II)Z"⟩
abbrev cX10_has : ByteArray := prog_1_method_5_code
def yX10_has : MethodName := ⟨RX10, "has", "(II)Z"⟩
abbrev cX10_size : ByteArray := prog_1_method_6_code
def yX10_size : MethodName := ⟨RX10, "size", "(II)I"⟩
abbrev cX10_get : ByteArray := prog_1_method_7_code
def yX10_get : MethodName := ⟨RX10, "get", "(II)I"⟩
abbrev cX10_degree : ByteArray := prog_1_method_8_code
def yX10_degree : MethodName := ⟨RX10, "degree", "(II)I"⟩
abbrev cX10_combine : ByteArray := prog_1_method_9_code
def yX10_combine : MethodName := ⟨RX10, "combine", "(IIII)I"⟩
abbrev cX10_derive : ByteArray := prog_1_method_10_code
def yX10_derive : MethodName := ⟨RX10, "derive", "(III)I"⟩
abbrev cX10_compress : ByteArray := prog_1_method_11_code
def yX10_compress : MethodName := ⟨RX10, "compress", "(III)I"⟩
abbrev cX10_shift : ByteArray := prog_1_method_12_code
def yX10_shift : MethodName := ⟨RX10, "shift", "(I)I"⟩
abbrev cX10_trace : ByteArray := prog_1_method_13_code
def yX10_trace : MethodName := ⟨RX10, "trace", "(III)I"⟩
abbrev cX10_segment : ByteArray := prog_1_method_14_code
def yX10_segment : MethodName := ⟨RX10, "segment", "(III)I"⟩
abbrev cX10_rank : ByteArray := prog_1_method_15_code
def yX10_rank : MethodName := ⟨RX10, "rank", "(I)I"⟩
abbrev cX10_unrank : ByteArray := prog_1_method_16_code
def yX10_unrank : MethodName := ⟨RX10, "unrank", "(II)I"⟩
abbrev cX10_cascade : ByteArray := prog_1_method_17_code
def yX10_cascade : MethodName := ⟨RX10, "cascade", "(III)I"⟩
abbrev cX10_shadowBound : ByteArray := prog_1_method_18_code
def yX10_shadowBound : MethodName := ⟨RX10, "shadowBound", "(II)I"⟩
abbrev cX10_excess : ByteArray := prog_1_method_19_code
def yX10_excess : MethodName := ⟨RX10, "excess", "(II)I"⟩
abbrev cX10_is : ByteArray := prog_1_method_20_code
def yX10_is : MethodName := ⟨RX10, "is", "(II)Z"⟩
abbrev cX10_weight : ByteArray := prog_1_method_21_code
def yX10_weight : MethodName := ⟨RX10, "weight", "(IZ)J"⟩
abbrev cX10_dimension : ByteArray := prog_1_method_22_code
def yX10_dimension : MethodName := ⟨RX10, "dimension", "(I)I"⟩
abbrev cX10_shattered : ByteArray := prog_1_method_23_code
def yX10_shattered : MethodName := ⟨RX10, "shattered", "(I)I"⟩
abbrev cX10_crossing : ByteArray := prog_1_method_24_code
def yX10_crossing : MethodName := ⟨RX10, "crossing", "(II)I"⟩
abbrev cX10_sunflower : ByteArray := prog_1_method_25_code
def yX10_sunflower : MethodName := ⟨RX10, "sunflower", "(I)I"⟩
abbrev cX10_pairs : ByteArray := prog_1_method_26_code
def yX10_pairs : MethodName := ⟨RX10, "pairs", "(II)I"⟩
abbrev cX10_type : ByteArray := prog_1_method_27_code
def yX10_type : MethodName := ⟨RX10, "type", "(I)I"⟩
abbrev cX10_clearText : ByteArray := prog_1_method_28_code
def yX10_clearText : MethodName := ⟨RX10, "clearText", "()I"⟩
abbrev cX10_read : ByteArray := prog_1_method_29_code
def yX10_read : MethodName := ⟨RX10, "read", "(I)I"⟩
abbrev cX10_undo : ByteArray := prog_1_method_30_code
def yX10_undo : MethodName := ⟨RX10, "undo", "()I"⟩
abbrev cX10_digest : ByteArray := prog_1_method_31_code
def yX10_digest : MethodName := ⟨RX10, "digest", "()J"⟩
abbrev cX10_checkFamily : ByteArray := prog_1_method_32_code
def yX10_checkFamily : MethodName := ⟨RX10, "checkFamily", "(I)V"⟩
abbrev cX10_checkRange : ByteArray := prog_1_method_33_code
def yX10_checkRange : MethodName := ⟨RX10, "checkRange", "(III)V"⟩
abbrev cX10_checkNotNegative : ByteArray := prog_1_method_34_code
def yX10_checkNotNegative : MethodName := ⟨RX10, "checkNotNegative", "(I)V"⟩
abbrev cX10_checkSet : ByteArray := prog_1_method_35_code
def yX10_checkSet : MethodName := ⟨RX10, "checkSet", "(I)V"⟩
abbrev cX10_checkElement : ByteArray := prog_1_method_36_code
def yX10_checkElement : MethodName := ⟨RX10, "checkElement", "(I)V"⟩
abbrev cX10_holds : ByteArray := prog_1_method_37_code
def yX10_holds : MethodName := ⟨RX10, "holds", "(II)Z"⟩
abbrev cX10_branchEnd : ByteArray := prog_1_method_38_code
def yX10_branchEnd : MethodName := ⟨RX10, "branchEnd", "(II)I"⟩
abbrev cX10_sizeOrNone : ByteArray := prog_1_method_39_code
def yX10_sizeOrNone : MethodName := ⟨RX10, "sizeOrNone", "(I)I"⟩
abbrev cX10_lay : ByteArray := prog_1_method_40_code
def yX10_lay : MethodName := ⟨RX10, "lay", "(I)I"⟩
abbrev cX10_combineInto : ByteArray := prog_1_method_41_code
def yX10_combineInto : MethodName := ⟨RX10, "combineInto", "(LSetFamilies$Family;ILSetFamilies$Family;LSetFamilies$Family;)V"⟩
abbrev cX10_excessOf : ByteArray := prog_1_method_42_code
def yX10_excessOf : MethodName := ⟨RX10, "excessOf", "(LSetFamilies$Family;I)I"⟩
abbrev cX10_hasProperty : ByteArray := prog_1_method_43_code
def yX10_hasProperty : MethodName := ⟨RX10, "hasProperty", "(LSetFamilies$Family;I)Z"⟩
abbrev cX10_weightOf : ByteArray := prog_1_method_44_code
def yX10_weightOf : MethodName := ⟨RX10, "weightOf", "(LSetFamilies$Family;Z)J"⟩
abbrev cX10_firstDisjointPair : ByteArray := prog_1_method_45_code
def yX10_firstDisjointPair : MethodName := ⟨RX10, "firstDisjointPair", "(LSetFamilies$Family;LSetFamilies$Family;)I"⟩
abbrev cX10_mix : ByteArray := prog_1_method_46_code
def yX10_mix : MethodName := ⟨RX10, "mix", "(JJ)J"⟩
abbrev cX10_mixMembers : ByteArray := prog_1_method_47_code
def yX10_mixMembers : MethodName := ⟨RX10, "mixMembers", "(JLSetFamilies$Family;)J"⟩
abbrev cX10_mixProperties : ByteArray := prog_1_method_48_code
def yX10_mixProperties : MethodName := ⟨RX10, "mixProperties", "(JLSetFamilies$Family;)J"⟩
abbrev cX10_mixStructure : ByteArray := prog_1_method_49_code
def yX10_mixStructure : MethodName := ⟨RX10, "mixStructure", "(JLSetFamilies$Family;)J"⟩
def RX11 : String := "SetFamiliesModel"
def TX11 : u_T := fun k => match k with
  | 0 => ("SetFamiliesModel", "thrown", "I", false)
  | 1 => ("SetFamiliesModel", "n", "I", false)
  | 2 => ("SetFamiliesModel", "f", "[Z", true)
  | 3 => ("SetFamiliesModel", "past", "[Z", true)
  | 4 => ("SetFamiliesModel", "pastN", "[I", true)
  | 5 => ("SetFamiliesModel", "pasts", "I", false)
  | 6 => ("SetFamiliesModel", "text", "[B", true)
  | 7 => ("SetFamiliesModel", "typed", "I", false)
  | 8 => ("SetFamiliesModel", "out", "[Z", true)
  | 9 => ("SetFamiliesModel", "up", "J", false)
  | 10 => ("SetFamiliesModel", "down", "J", false)
  | 11 => ("SetFamiliesModel", "met", "[I", true)
  | 12 => ("SetFamiliesModel", "meetings", "I", false)
  | 13 => ("SetFamiliesModel", "common", "[I", true)
  | _ => ("SetFamiliesModel", "hash", "J", false)
def tyX11 : Nat → FieldType := fun k => match k with
  | 0 => .int
  | 1 => .int
  | 2 => .array .boolean
  | 3 => .array .boolean
  | 4 => .array .int
  | 5 => .int
  | 6 => .array .byte
  | 7 => .int
  | 8 => .array .boolean
  | 9 => .long
  | 10 => .long
  | 11 => .array .int
  | 12 => .int
  | 13 => .array .int
  | _ => .long
abbrev wsX110 : List Cond := u_ws RX11 TX11 15
theorem nmX11 : ∀ a, a < 15 → ∀ b, b < 15 → a ≠ b → (TX11 a).2.1 ≠ (TX11 b).2.1 := by decide +kernel
theorem tyX11_ok : ∀ k, k < 15 → parseFieldDescriptor (TX11 k).2.2.1 = some (tyX11 k) := by decide +kernel
abbrev cX11_init : ByteArray := prog_13_method_1_code
def yX11_init : MethodName := ⟨RX11, "<init>", "()V"⟩
abbrev cX11_thrown : ByteArray := prog_13_method_2_code
def yX11_thrown : MethodName := ⟨RX11, "thrown", "()I"⟩
abbrev cX11_in : ByteArray := prog_13_method_3_code
def yX11_in : MethodName := ⟨RX11, "in", "(III)Z"⟩
abbrev cX11_codes : ByteArray := prog_13_method_4_code
def yX11_codes : MethodName := ⟨RX11, "codes", "()I"⟩
abbrev cX11_bits : ByteArray := prog_13_method_5_code
def yX11_bits : MethodName := ⟨RX11, "bits", "(I)I"⟩
abbrev cX11_note : ByteArray := prog_13_method_6_code
def yX11_note : MethodName := ⟨RX11, "note", "()V"⟩
abbrev cX11_undo : ByteArray := prog_13_method_7_code
def yX11_undo : MethodName := ⟨RX11, "undo", "()I"⟩
abbrev cX11_isPlace : ByteArray := prog_13_method_8_code
def yX11_isPlace : MethodName := ⟨RX11, "isPlace", "(I)Z"⟩
abbrev cX11_mayGo : ByteArray := prog_13_method_9_code
def yX11_mayGo : MethodName := ⟨RX11, "mayGo", "(ZZ)Z"⟩
abbrev cX11_isCode : ByteArray := prog_13_method_10_code
def yX11_isCode : MethodName := ⟨RX11, "isCode", "(I)Z"⟩
abbrev cX11_isElement : ByteArray := prog_13_method_11_code
def yX11_isElement : MethodName := ⟨RX11, "isElement", "(I)Z"⟩
abbrev cX11_sizeOf : ByteArray := prog_13_method_12_code
def yX11_sizeOf : MethodName := ⟨RX11, "sizeOf", "(II)I"⟩
abbrev cX11_setGround : ByteArray := prog_13_method_13_code
def yX11_setGround : MethodName := ⟨RX11, "setGround", "(I)I"⟩
abbrev cX11_changes : ByteArray := prog_13_method_14_code
def yX11_changes : MethodName := ⟨RX11, "changes", "(IIZ)Z"⟩
abbrev cX11_add : ByteArray := prog_13_method_15_code
def yX11_add : MethodName := ⟨RX11, "add", "(II)Z"⟩
abbrev cX11_remove : ByteArray := prog_13_method_16_code
def yX11_remove : MethodName := ⟨RX11, "remove", "(II)Z"⟩
abbrev cX11_has : ByteArray := prog_13_method_17_code
def yX11_has : MethodName := ⟨RX11, "has", "(II)Z"⟩
abbrev cX11_size : ByteArray := prog_13_method_18_code
def yX11_size : MethodName := ⟨RX11, "size", "(II)I"⟩
abbrev cX11_get : ByteArray := prog_13_method_19_code
def yX11_get : MethodName := ⟨RX11, "get", "(II)I"⟩
abbrev cX11_degreeOf : ByteArray := prog_13_method_20_code
def yX11_degreeOf : MethodName := ⟨RX11, "degreeOf", "(II)I"⟩
abbrev cX11_degree : ByteArray := prog_13_method_21_code
def yX11_degree : MethodName := ⟨RX11, "degree", "(II)I"⟩
abbrev cX11_empties : ByteArray := prog_13_method_22_code
def yX11_empties : MethodName := ⟨RX11, "empties", "()V"⟩
abbrev cX11_lays : ByteArray := prog_13_method_23_code
def yX11_lays : MethodName := ⟨RX11, "lays", "(I)I"⟩
abbrev cX11_combine : ByteArray := prog_13_method_24_code
def yX11_combine : MethodName := ⟨RX11, "combine", "(IIII)I"⟩
abbrev cX11_shadow : ByteArray := prog_13_method_25_code
def yX11_shadow : MethodName := ⟨RX11, "shadow", "(IZ)V"⟩
abbrev cX11_hasBelow : ByteArray := prog_13_method_26_code
def yX11_hasBelow : MethodName := ⟨RX11, "hasBelow", "(IIZZ)Z"⟩
abbrev cX11_hits : ByteArray := prog_13_method_27_code
def yX11_hits : MethodName := ⟨RX11, "hits", "(II)Z"⟩
abbrev cX11_blocks : ByteArray := prog_13_method_28_code
def yX11_blocks : MethodName := ⟨RX11, "blocks", "(II)Z"⟩
abbrev cX11_closes : ByteArray := prog_13_method_29_code
def yX11_closes : MethodName := ⟨RX11, "closes", "(IZ)V"⟩
abbrev cX11_isDerived : ByteArray := prog_13_method_30_code
def yX11_isDerived : MethodName := ⟨RX11, "isDerived", "(III)Z"⟩
abbrev cX11_derive : ByteArray := prog_13_method_31_code
def yX11_derive : MethodName := ⟨RX11, "derive", "(III)I"⟩
abbrev cX11_compresses : ByteArray := prog_13_method_32_code
def yX11_compresses : MethodName := ⟨RX11, "compresses", "(III)I"⟩
abbrev cX11_compress : ByteArray := prog_13_method_33_code
def yX11_compress : MethodName := ⟨RX11, "compress", "(III)I"⟩
abbrev cX11_shift : ByteArray := prog_13_method_34_code
def yX11_shift : MethodName := ⟨RX11, "shift", "(I)I"⟩
abbrev cX11_trace : ByteArray := prog_13_method_35_code
def yX11_trace : MethodName := ⟨RX11, "trace", "(III)I"⟩
abbrev cX11_over : ByteArray := prog_13_method_36_code
def yX11_over : MethodName := ⟨RX11, "over", "(II)J"⟩
abbrev cX11_segment : ByteArray := prog_13_method_37_code
def yX11_segment : MethodName := ⟨RX11, "segment", "(III)I"⟩
abbrev cX11_rank : ByteArray := prog_13_method_38_code
def yX11_rank : MethodName := ⟨RX11, "rank", "(I)I"⟩
abbrev cX11_unrank : ByteArray := prog_13_method_39_code
def yX11_unrank : MethodName := ⟨RX11, "unrank", "(II)I"⟩
abbrev cX11_greatest : ByteArray := prog_13_method_40_code
def yX11_greatest : MethodName := ⟨RX11, "greatest", "(II)I"⟩
abbrev cX11_cascade : ByteArray := prog_13_method_41_code
def yX11_cascade : MethodName := ⟨RX11, "cascade", "(III)I"⟩
abbrev cX11_bound : ByteArray := prog_13_method_42_code
def yX11_bound : MethodName := ⟨RX11, "bound", "(II)I"⟩
abbrev cX11_shadowBound : ByteArray := prog_13_method_43_code
def yX11_shadowBound : MethodName := ⟨RX11, "shadowBound", "(II)I"⟩
abbrev cX11_excessOf : ByteArray := prog_13_method_44_code
def yX11_excessOf : MethodName := ⟨RX11, "excessOf", "(II)I"⟩
abbrev cX11_excess : ByteArray := prog_13_method_45_code
def yX11_excess : MethodName := ⟨RX11, "excess", "(II)I"⟩
abbrev cX11_areBad : ByteArray := prog_13_method_46_code
def yX11_areBad : MethodName := ⟨RX11, "areBad", "(IIII)Z"⟩
abbrev cX11_isBad : ByteArray := prog_13_method_47_code
def yX11_isBad : MethodName := ⟨RX11, "isBad", "(III)Z"⟩
abbrev cX11_holds : ByteArray := prog_13_method_48_code
def yX11_holds : MethodName := ⟨RX11, "holds", "(II)Z"⟩
abbrev cX11_is : ByteArray := prog_13_method_49_code
def yX11_is : MethodName := ⟨RX11, "is", "(II)Z"⟩
abbrev cX11_divisor : ByteArray := prog_13_method_50_code
def yX11_divisor : MethodName := ⟨RX11, "divisor", "(JJ)J"⟩
abbrev cX11_weighs : ByteArray := prog_13_method_51_code
def yX11_weighs : MethodName := ⟨RX11, "weighs", "(I)V"⟩
abbrev cX11_weight : ByteArray := prog_13_method_52_code
def yX11_weight : MethodName := ⟨RX11, "weight", "(IZ)J"⟩
abbrev cX11_shatters : ByteArray := prog_13_method_53_code
def yX11_shatters : MethodName := ⟨RX11, "shatters", "(II)Z"⟩
abbrev cX11_firstShattered : ByteArray := prog_13_method_54_code
def yX11_firstShattered : MethodName := ⟨RX11, "firstShattered", "(I)I"⟩
abbrev cX11_dimension : ByteArray := prog_13_method_55_code
def yX11_dimension : MethodName := ⟨RX11, "dimension", "(I)I"⟩
abbrev cX11_shattered : ByteArray := prog_13_method_56_code
def yX11_shattered : MethodName := ⟨RX11, "shattered", "(I)I"⟩
abbrev cX11_firstCrossing : ByteArray := prog_13_method_57_code
def yX11_firstCrossing : MethodName := ⟨RX11, "firstCrossing", "(II)I"⟩
abbrev cX11_crossing : ByteArray := prog_13_method_58_code
def yX11_crossing : MethodName := ⟨RX11, "crossing", "(II)I"⟩
abbrev cX11_isCore : ByteArray := prog_13_method_59_code
def yX11_isCore : MethodName := ⟨RX11, "isCore", "(II)Z"⟩
abbrev cX11_leastCore : ByteArray := prog_13_method_60_code
def yX11_leastCore : MethodName := ⟨RX11, "leastCore", "(I)I"⟩
abbrev cX11_sunflower : ByteArray := prog_13_method_61_code
def yX11_sunflower : MethodName := ⟨RX11, "sunflower", "(I)I"⟩
abbrev cX11_countsPairs : ByteArray := prog_13_method_62_code
def yX11_countsPairs : MethodName := ⟨RX11, "countsPairs", "(I)V"⟩
abbrev cX11_pairs : ByteArray := prog_13_method_63_code
def yX11_pairs : MethodName := ⟨RX11, "pairs", "(II)I"⟩
abbrev cX11_type : ByteArray := prog_13_method_64_code
def yX11_type : MethodName := ⟨RX11, "type", "(I)I"⟩
abbrev cX11_clearText : ByteArray := prog_13_method_65_code
def yX11_clearText : MethodName := ⟨RX11, "clearText", "()I"⟩
abbrev cX11_read : ByteArray := prog_13_method_66_code
def yX11_read : MethodName := ⟨RX11, "read", "(I)I"⟩
abbrev cX11_mixes : ByteArray := prog_13_method_67_code
def yX11_mixes : MethodName := ⟨RX11, "mixes", "(J)V"⟩
abbrev cX11_mixesFamily : ByteArray := prog_13_method_68_code
def yX11_mixesFamily : MethodName := ⟨RX11, "mixesFamily", "(I)V"⟩
abbrev cX11_digest : ByteArray := prog_13_method_69_code
def yX11_digest : MethodName := ⟨RX11, "digest", "()J"⟩
def RJx145de : String := "java/io/Serializable"
def TJx145de : u_T := fun k => match k with
  | _ => ("", "", "", false)
def tyJx145de : Nat → FieldType := fun k => match k with
  | _ => .int
abbrev wsJx145de0 : List Cond := u_ws RJx145de TJx145de 0
theorem nmJx145de : ∀ a, a < 0 → ∀ b, b < 0 → a ≠ b → (TJx145de a).2.1 ≠ (TJx145de b).2.1 := by decide +kernel
theorem tyJx145de_ok : ∀ k, k < 0 → parseFieldDescriptor (TJx145de k).2.2.1 = some (tyJx145de k) := by decide +kernel
def RJ6 : String := "java/lang/Integer"
def TJ6 : u_T := fun k => match k with
  | _ => ("", "", "", false)
def tyJ6 : Nat → FieldType := fun k => match k with
  | _ => .int
abbrev wsJ60 : List Cond := u_ws RJ6 TJ6 0
theorem nmJ6 : ∀ a, a < 0 → ∀ b, b < 0 → a ≠ b → (TJ6 a).2.1 ≠ (TJ6 b).2.1 := by decide +kernel
theorem tyJ6_ok : ∀ k, k < 0 → parseFieldDescriptor (TJ6 k).2.2.1 = some (tyJ6 k) := by decide +kernel
abbrev cJ6_bitCount_0f7a4 : ByteArray := prog_18_method_49_code
def yJ6_bitCount_0f7a4 : MethodName := ⟨RJ6, "bitCount", "(I)I"⟩
def RJ13 : String := "java/lang/Long"
def TJ13 : u_T := fun k => match k with
  | _ => ("", "", "", false)
def tyJ13 : Nat → FieldType := fun k => match k with
  | _ => .int
abbrev wsJ130 : List Cond := u_ws RJ13 TJ13 0
theorem nmJ13 : ∀ a, a < 0 → ∀ b, b < 0 → a ≠ b → (TJ13 a).2.1 ≠ (TJ13 b).2.1 := by decide +kernel
theorem tyJ13_ok : ∀ k, k < 0 → parseFieldDescriptor (TJ13 k).2.2.1 = some (tyJ13 k) := by decide +kernel
abbrev cJ13_bitCount_95d88 : ByteArray := prog_19_method_50_code
def yJ13_bitCount_95d88 : MethodName := ⟨RJ13, "bitCount", "(J)I"⟩
def RJ9 : String := "java/lang/Math"
def TJ9 : u_T := fun k => match k with
  | _ => ("", "", "", false)
def tyJ9 : Nat → FieldType := fun k => match k with
  | _ => .int
abbrev wsJ90 : List Cond := u_ws RJ9 TJ9 0
theorem nmJ9 : ∀ a, a < 0 → ∀ b, b < 0 → a ≠ b → (TJ9 a).2.1 ≠ (TJ9 b).2.1 := by decide +kernel
theorem tyJ9_ok : ∀ k, k < 0 → parseFieldDescriptor (TJ9 k).2.2.1 = some (tyJ9 k) := by decide +kernel
abbrev cJ9_max_f86c9 : ByteArray := prog_20_method_66_code
def yJ9_max_f86c9 : MethodName := ⟨RJ9, "max", "(JJ)J"⟩
abbrev cJ9_min_7cf53 : ByteArray := prog_20_method_69_code
def yJ9_min_7cf53 : MethodName := ⟨RJ9, "min", "(II)I"⟩
def RJ0 : String := "java/lang/String"
def TJ0 : u_T := fun k => match k with
  | _ => ("", "", "", false)
def tyJ0 : Nat → FieldType := fun k => match k with
  | _ => .int
abbrev wsJ00 : List Cond := u_ws RJ0 TJ0 0
theorem nmJ0 : ∀ a, a < 0 → ∀ b, b < 0 → a ≠ b → (TJ0 a).2.1 ≠ (TJ0 b).2.1 := by decide +kernel
theorem tyJ0_ok : ∀ k, k < 0 → parseFieldDescriptor (TJ0 k).2.2.1 = some (tyJ0 k) := by decide +kernel
def RJ10 : String := "java/lang/System"
def TJ10 : u_T := fun k => match k with
  | _ => ("", "", "", false)
def tyJ10 : Nat → FieldType := fun k => match k with
  | _ => .int
abbrev wsJ100 : List Cond := u_ws RJ10 TJ10 0
theorem nmJ10 : ∀ a, a < 0 → ∀ b, b < 0 → a ≠ b → (TJ10 a).2.1 ≠ (TJ10 b).2.1 := by decide +kernel
theorem tyJ10_ok : ∀ k, k < 0 → parseFieldDescriptor (TJ10 k).2.2.1 = some (tyJ10 k) := by decide +kernel
def RJ7 : String := "java/util/Arrays"
def TJ7 : u_T := fun k => match k with
  | _ => ("", "", "", false)
def tyJ7 : Nat → FieldType := fun k => match k with
  | _ => .int
abbrev wsJ70 : List Cond := u_ws RJ7 TJ7 0
theorem nmJ7 : ∀ a, a < 0 → ∀ b, b < 0 → a ≠ b → (TJ7 a).2.1 ≠ (TJ7 b).2.1 := by decide +kernel
theorem tyJ7_ok : ∀ k, k < 0 → parseFieldDescriptor (TJ7 k).2.2.1 = some (tyJ7 k) := by decide +kernel
abbrev cJ7_fill_d0a16 : ByteArray := prog_25_method_101_code
def yJ7_fill_d0a16 : MethodName := ⟨RJ7, "fill", "([JJ)V"⟩
def RL : String := "SetFamiliesLaw"
abbrev cL_setGround : ByteArray := method_3_code
def yL_setGround : MethodName := ⟨RL, "setGround", "(LSetFamilies;I[J)I"⟩
abbrev cL_add : ByteArray := method_4_code
def yL_add : MethodName := ⟨RL, "add", "(LSetFamilies;II[J)I"⟩
abbrev cL_remove : ByteArray := method_5_code
def yL_remove : MethodName := ⟨RL, "remove", "(LSetFamilies;II[J)I"⟩
abbrev cL_has : ByteArray := method_6_code
def yL_has : MethodName := ⟨RL, "has", "(LSetFamilies;II[J)I"⟩
abbrev cL_size : ByteArray := method_7_code
def yL_size : MethodName := ⟨RL, "size", "(LSetFamilies;II[J)I"⟩
abbrev cL_get : ByteArray := method_8_code
def yL_get : MethodName := ⟨RL, "get", "(LSetFamilies;II[J)I"⟩
abbrev cL_degree : ByteArray := method_9_code
def yL_degree : MethodName := ⟨RL, "degree", "(LSetFamilies;II[J)I"⟩
abbrev cL_combine : ByteArray := method_10_code
def yL_combine : MethodName := ⟨RL, "combine", "(LSetFamilies;IIII[J)I"⟩
abbrev cL_derive : ByteArray := method_11_code
def yL_derive : MethodName := ⟨RL, "derive", "(LSetFamilies;III[J)I"⟩
abbrev cL_compress : ByteArray := method_12_code
def yL_compress : MethodName := ⟨RL, "compress", "(LSetFamilies;III[J)I"⟩
abbrev cL_shift : ByteArray := method_13_code
def yL_shift : MethodName := ⟨RL, "shift", "(LSetFamilies;I[J)I"⟩
abbrev cL_trace : ByteArray := method_14_code
def yL_trace : MethodName := ⟨RL, "trace", "(LSetFamilies;III[J)I"⟩
abbrev cL_segment : ByteArray := method_15_code
def yL_segment : MethodName := ⟨RL, "segment", "(LSetFamilies;III[J)I"⟩
abbrev cL_rank : ByteArray := method_16_code
def yL_rank : MethodName := ⟨RL, "rank", "(LSetFamilies;I[J)I"⟩
abbrev cL_unrank : ByteArray := method_17_code
def yL_unrank : MethodName := ⟨RL, "unrank", "(LSetFamilies;II[J)I"⟩
abbrev cL_cascade : ByteArray := method_18_code
def yL_cascade : MethodName := ⟨RL, "cascade", "(LSetFamilies;III[J)I"⟩
abbrev cL_shadowBound : ByteArray := method_19_code
def yL_shadowBound : MethodName := ⟨RL, "shadowBound", "(LSetFamilies;II[J)I"⟩
abbrev cL_excess : ByteArray := method_20_code
def yL_excess : MethodName := ⟨RL, "excess", "(LSetFamilies;II[J)I"⟩
abbrev cL_is : ByteArray := method_21_code
def yL_is : MethodName := ⟨RL, "is", "(LSetFamilies;II[J)I"⟩
abbrev cL_weight : ByteArray := method_22_code
def yL_weight : MethodName := ⟨RL, "weight", "(LSetFamilies;IZ[J)I"⟩
abbrev cL_dimension : ByteArray := method_23_code
def yL_dimension : MethodName := ⟨RL, "dimension", "(LSetFamilies;I[J)I"⟩
abbrev cL_shattered : ByteArray := method_24_code
def yL_shattered : MethodName := ⟨RL, "shattered", "(LSetFamilies;I[J)I"⟩
abbrev cL_crossing : ByteArray := method_25_code
def yL_crossing : MethodName := ⟨RL, "crossing", "(LSetFamilies;II[J)I"⟩
abbrev cL_sunflower : ByteArray := method_26_code
def yL_sunflower : MethodName := ⟨RL, "sunflower", "(LSetFamilies;I[J)I"⟩
abbrev cL_pairs : ByteArray := method_27_code
def yL_pairs : MethodName := ⟨RL, "pairs", "(LSetFamilies;II[J)I"⟩
abbrev cL_type : ByteArray := method_28_code
def yL_type : MethodName := ⟨RL, "type", "(LSetFamilies;I[J)I"⟩
abbrev cL_read : ByteArray := method_29_code
def yL_read : MethodName := ⟨RL, "read", "(LSetFamilies;I[J)I"⟩
abbrev cL_undo : ByteArray := method_30_code
def yL_undo : MethodName := ⟨RL, "undo", "(LSetFamilies;[J)I"⟩
abbrev cL_law : ByteArray := code
def yL_law : MethodName := ⟨RL, "law", "([I)Z"⟩
abbrev vwCl : List vw_C := [(RX1, TX1, 4), (RX2, TX2, 4), (RX3, TX3, 2), (RX4, TX4, 2), (RX5, TX5, 4), (RX6, TX6, 3), (RX7, TX7, 2), (RX8, TX8, 6), (RX9, TX9, 2), (RX10, TX10, 12), (RX11, TX11, 15)]
end
section
def gw : List Cond := lw_tbl.filter goodWord
theorem gw_1 {w : Cond} (h : w ∈ tables_1_1) (g : goodWord w = true) : w ∈ gw := List.mem_filter.mpr ⟨List.mem_append_right _ (show w ∈ tables_1 from List.mem_append_left _ h), g⟩
theorem gw_2 {w : Cond} (h : w ∈ tables_1_2) (g : goodWord w = true) : w ∈ gw := List.mem_filter.mpr ⟨List.mem_append_right _ (show w ∈ tables_1 from List.mem_append_right _ (List.mem_append_left _ h)), g⟩
theorem gw_3 {w : Cond} (h : w ∈ tables_1_3) (g : goodWord w = true) : w ∈ gw := List.mem_filter.mpr ⟨List.mem_append_right _ (show w ∈ tables_1 from List.mem_append_right _ (List.mem_append_right _ (List.mem_append_left _ h))), g⟩
theorem gw_4 {w : Cond} (h : w ∈ tables_1_4) (g : goodWord w = true) : w ∈ gw := List.mem_filter.mpr ⟨List.mem_append_right _ (show w ∈ tables_1 from List.mem_append_right _ (List.mem_append_right _ (List.mem_append_right _ (List.mem_append_left _ h)))), g⟩
theorem gw_5 {w : Cond} (h : w ∈ tables_1_5) (g : goodWord w = true) : w ∈ gw := List.mem_filter.mpr ⟨List.mem_append_right _ (show w ∈ tables_1 from List.mem_append_right _ (List.mem_append_right _ (List.mem_append_right _ (List.mem_append_right _ (List.mem_append_left _ h))))), g⟩
theorem gw_6 {w : Cond} (h : w ∈ tables_1_6) (g : goodWord w = true) : w ∈ gw := List.mem_filter.mpr ⟨List.mem_append_right _ (show w ∈ tables_1 from List.mem_append_right _ (List.mem_append_right _ (List.mem_append_right _ (List.mem_append_right _ (List.mem_append_right _ (h)))))), g⟩
theorem hw_1_0 : (Jvm.Cond.initialized "SetFamiliesLaw") ∈ gw := gw_1 (List.mem_of_getElem? (i := 0) rfl) rfl
theorem hw_1_1 : (Jvm.Cond.initialized "SetFamilies") ∈ gw := gw_1 (List.mem_of_getElem? (i := 1) rfl) rfl
theorem hw_1_2 : (Jvm.Cond.initialized "SetFamilies$Ground") ∈ gw := gw_1 (List.mem_of_getElem? (i := 2) rfl) rfl
theorem hw_1_3 : (Jvm.Cond.initialized "SetFamilies$Family") ∈ gw := gw_1 (List.mem_of_getElem? (i := 3) rfl) rfl
theorem hw_1_4 : (Jvm.Cond.initialized "SetFamilies$History") ∈ gw := gw_1 (List.mem_of_getElem? (i := 4) rfl) rfl
theorem hw_1_5 : (Jvm.Cond.initialized "SetFamilies$Text") ∈ gw := gw_1 (List.mem_of_getElem? (i := 5) rfl) rfl
theorem hw_1_6 : (Jvm.Cond.initialized "SetFamilies$Derivation") ∈ gw := gw_1 (List.mem_of_getElem? (i := 6) rfl) rfl
theorem hw_1_7 : (Jvm.Cond.initialized "SetFamilies$Compression") ∈ gw := gw_1 (List.mem_of_getElem? (i := 7) rfl) rfl
theorem hw_1_8 : (Jvm.Cond.initialized "SetFamilies$Shattering") ∈ gw := gw_1 (List.mem_of_getElem? (i := 8) rfl) rfl
theorem hw_1_9 : (Jvm.Cond.initialized "SetFamilies$SunflowerSearch") ∈ gw := gw_1 (List.mem_of_getElem? (i := 9) rfl) rfl
theorem hw_1_10 : (Jvm.Cond.initialized "SetFamilies$PairCounts") ∈ gw := gw_1 (List.mem_of_getElem? (i := 10) rfl) rfl
theorem hw_1_11 : (Jvm.Cond.initialized "SetFamiliesModel") ∈ gw := gw_1 (List.mem_of_getElem? (i := 11) rfl) rfl
theorem hw_1_12 : (Jvm.Cond.initialized "java/lang/Throwable") ∈ gw := gw_1 (List.mem_of_getElem? (i := 12) rfl) rfl
theorem hw_1_13 : (Jvm.Cond.initialized "java/lang/Exception") ∈ gw := gw_1 (List.mem_of_getElem? (i := 13) rfl) rfl
theorem hw_1_14 : (Jvm.Cond.initialized "java/lang/RuntimeException") ∈ gw := gw_1 (List.mem_of_getElem? (i := 14) rfl) rfl
theorem hw_1_15 : (Jvm.Cond.initialized "java/lang/IllegalArgumentException") ∈ gw := gw_1 (List.mem_of_getElem? (i := 15) rfl) rfl
theorem hw_1_16 : (Jvm.Cond.initialized "java/lang/System") ∈ gw := gw_1 (List.mem_of_getElem? (i := 16) rfl) rfl
theorem hw_1_17 : (Jvm.Cond.initialized "java/lang/Math") ∈ gw := gw_1 (List.mem_of_getElem? (i := 17) rfl) rfl
theorem hw_1_18 : (Jvm.Cond.initialized "java/util/Arrays") ∈ gw := gw_1 (List.mem_of_getElem? (i := 18) rfl) rfl
theorem hw_1_19 : (Jvm.Cond.initialized "java/lang/IndexOutOfBoundsException") ∈ gw := gw_1 (List.mem_of_getElem? (i := 19) rfl) rfl
theorem hw_1_20 : (Jvm.Cond.initialized "java/lang/Long") ∈ gw := gw_1 (List.mem_of_getElem? (i := 20) rfl) rfl
theorem hw_1_21 : (Jvm.Cond.initialized "java/lang/Integer") ∈ gw := gw_1 (List.mem_of_getElem? (i := 21) rfl) rfl
theorem hw_1_22 : (Jvm.Cond.initialized "SetFamilies$Colex") ∈ gw := gw_1 (List.mem_of_getElem? (i := 22) rfl) rfl
theorem hw_1_23 : (Jvm.Cond.initialized "java/lang/IllegalStateException") ∈ gw := gw_1 (List.mem_of_getElem? (i := 23) rfl) rfl
theorem hw_1_24 : (Jvm.Cond.classLink "SetFamiliesLaw" (8 : Nat) "SetFamilies") ∈ gw := gw_1 (List.mem_of_getElem? (i := 24) rfl) rfl
theorem hw_1_25 : (Jvm.Cond.instantiable "SetFamilies" (12 : Nat)) ∈ gw := gw_1 (List.mem_of_getElem? (i := 25) rfl) rfl
theorem hw_1_26 : (Jvm.Cond.methodLink "SetFamiliesLaw" (106 : Nat) ({ cls := "SetFamilies", name := "<init>", desc := "()V" } : Jvm.MethodName)) ∈ gw := gw_1 (List.mem_of_getElem? (i := 26) rfl) rfl
theorem hw_1_27 : (Jvm.Cond.instanceMethod ({ cls := "SetFamilies", name := "<init>", desc := "()V" } : Jvm.MethodName)) ∈ gw := gw_1 (List.mem_of_getElem? (i := 27) rfl) rfl
theorem hw_1_28 : (Jvm.Cond.code ({ cls := "SetFamilies", name := "<init>", desc := "()V" } : Jvm.MethodName) prog_1_method_1_code (2 : Nat) (Option.none : Option Jvm.ClassFile.FieldType)) ∈ gw := gw_1 (List.mem_of_getElem? (i := 28) rfl) rfl
theorem hw_1_29 : (Jvm.Cond.methodLink "SetFamilies" (3 : Nat) ({ cls := "java/lang/Object", name := "<init>", desc := "()V" } : Jvm.MethodName)) ∈ gw := gw_1 (List.mem_of_getElem? (i := 29) rfl) rfl
theorem hw_1_30 : (Jvm.Cond.instanceMethod ({ cls := "java/lang/Object", name := "<init>", desc := "()V" } : Jvm.MethodName)) ∈ gw := gw_1 (List.mem_of_getElem? (i := 30) rfl) rfl
theorem hw_1_31 : (Jvm.Cond.code ({ cls := "java/lang/Object", name := "<init>", desc := "()V" } : Jvm.MethodName) object_method_1_code (1 : Nat) (Option.none : Option Jvm.ClassFile.FieldType)) ∈ gw := gw_1 (List.mem_of_getElem? (i := 31) rfl) rfl
theorem hw_1_32 : (Jvm.Cond.classLink "SetFamilies" (9 : Nat) "SetFamilies$Ground") ∈ gw := gw_1 (List.mem_of_getElem? (i := 32) rfl) rfl
theorem hw_1_33 : (Jvm.Cond.instantiable "SetFamilies$Ground" (2 : Nat)) ∈ gw := gw_1 (List.mem_of_getElem? (i := 33) rfl) rfl
theorem hw_1_34 : (Jvm.Cond.methodLink "SetFamilies" (11 : Nat) ({ cls := "SetFamilies$Ground", name := "<init>", desc := "(I)V" } : Jvm.MethodName)) ∈ gw := gw_1 (List.mem_of_getElem? (i := 34) rfl) rfl
theorem hw_1_35 : (Jvm.Cond.instanceMethod ({ cls := "SetFamilies$Ground", name := "<init>", desc := "(I)V" } : Jvm.MethodName)) ∈ gw := gw_1 (List.mem_of_getElem? (i := 35) rfl) rfl
theorem hw_1_36 : (Jvm.Cond.code ({ cls := "SetFamilies$Ground", name := "<init>", desc := "(I)V" } : Jvm.MethodName) prog_6_method_1_code (2 : Nat) (Option.none : Option Jvm.ClassFile.FieldType)) ∈ gw := gw_1 (List.mem_of_getElem? (i := 36) rfl) rfl
theorem hw_1_37 : (Jvm.Cond.methodLink "SetFamilies$Ground" (1 : Nat) ({ cls := "java/lang/Object", name := "<init>", desc := "()V" } : Jvm.MethodName)) ∈ gw := gw_1 (List.mem_of_getElem? (i := 37) rfl) rfl
theorem hw_1_38 : (Jvm.Cond.methodLink "SetFamilies$Ground" (13 : Nat) ({ cls := "SetFamilies$Ground", name := "wordsFor", desc := "(I)I" } : Jvm.MethodName)) ∈ gw := gw_1 (List.mem_of_getElem? (i := 38) rfl) rfl
theorem hw_1_39 : (Jvm.Cond.static ({ cls := "SetFamilies$Ground", name := "wordsFor", desc := "(I)I" } : Jvm.MethodName)) ∈ gw := gw_1 (List.mem_of_getElem? (i := 39) rfl) rfl
theorem hw_1_40 : (Jvm.Cond.code ({ cls := "SetFamilies$Ground", name := "wordsFor", desc := "(I)I" } : Jvm.MethodName) prog_6_method_4_code (1 : Nat) (Option.some Jvm.ClassFile.FieldType.int)) ∈ gw := gw_1 (List.mem_of_getElem? (i := 40) rfl) rfl
theorem hw_1_41 : (Jvm.Cond.fieldLink "SetFamilies$Ground" (7 : Nat) "SetFamilies$Ground" "elements" "I") ∈ gw := gw_1 (List.mem_of_getElem? (i := 41) rfl) rfl
theorem hw_1_42 : (Jvm.Cond.fieldLink "SetFamilies" (93 : Nat) "SetFamilies$Ground" "elements" "I") ∈ gw := gw_1 (List.mem_of_getElem? (i := 42) rfl) rfl
theorem hw_1_43 : (Jvm.Cond.fieldLink "SetFamilies$History" (28 : Nat) "SetFamilies$Ground" "elements" "I") ∈ gw := gw_1 (List.mem_of_getElem? (i := 43) rfl) rfl
theorem hw_1_44 : (Jvm.Cond.fieldLink "SetFamilies$PairCounts" (30 : Nat) "SetFamilies$Ground" "elements" "I") ∈ gw := gw_1 (List.mem_of_getElem? (i := 44) rfl) rfl
theorem hw_1_45 : (Jvm.Cond.fieldLink "SetFamilies$Compression" (48 : Nat) "SetFamilies$Ground" "elements" "I") ∈ gw := gw_1 (List.mem_of_getElem? (i := 45) rfl) rfl
theorem hw_1_46 : (Jvm.Cond.fieldLink "SetFamilies$Derivation" (74 : Nat) "SetFamilies$Ground" "elements" "I") ∈ gw := gw_1 (List.mem_of_getElem? (i := 46) rfl) rfl
theorem hw_1_47 : (Jvm.Cond.fieldLink "SetFamilies$Family" (66 : Nat) "SetFamilies$Ground" "elements" "I") ∈ gw := gw_1 (List.mem_of_getElem? (i := 47) rfl) rfl
theorem hw_1_48 : (Jvm.Cond.fieldLink "SetFamilies$Ground" (17 : Nat) "SetFamilies$Ground" "words" "I") ∈ gw := gw_1 (List.mem_of_getElem? (i := 48) rfl) rfl
theorem hw_1_49 : (Jvm.Cond.fieldLink "SetFamilies$Family" (41 : Nat) "SetFamilies$Ground" "words" "I") ∈ gw := gw_1 (List.mem_of_getElem? (i := 49) rfl) rfl
theorem hw_1_50 : (Jvm.Cond.lays "SetFamilies$Ground" "SetFamilies$Ground" "elements" "I") ∈ gw := gw_1 (List.mem_of_getElem? (i := 50) rfl) rfl
theorem hw_1_52 : (Jvm.Cond.lays "SetFamilies$Ground" "SetFamilies$Ground" "words" "I") ∈ gw := gw_1 (List.mem_of_getElem? (i := 52) rfl) rfl
theorem hw_1_55 : (Jvm.Cond.classLink "SetFamilies" (18 : Nat) "SetFamilies$Family") ∈ gw := gw_1 (List.mem_of_getElem? (i := 55) rfl) rfl
theorem hw_1_57 : (Jvm.Cond.instantiable "SetFamilies$Family" (2 : Nat)) ∈ gw := gw_1 (List.mem_of_getElem? (i := 57) rfl) rfl
theorem hw_1_58 : (Jvm.Cond.methodLink "SetFamilies" (24 : Nat) ({ cls := "SetFamilies$Family", name := "<init>", desc := "(LSetFamilies$Ground;)V" } : Jvm.MethodName)) ∈ gw := gw_1 (List.mem_of_getElem? (i := 58) rfl) rfl
theorem hw_1_59 : (Jvm.Cond.instanceMethod ({ cls := "SetFamilies$Family", name := "<init>", desc := "(LSetFamilies$Ground;)V" } : Jvm.MethodName)) ∈ gw := gw_1 (List.mem_of_getElem? (i := 59) rfl) rfl
theorem hw_1_60 : (Jvm.Cond.code ({ cls := "SetFamilies$Family", name := "<init>", desc := "(LSetFamilies$Ground;)V" } : Jvm.MethodName) prog_5_method_1_code (2 : Nat) (Option.none : Option Jvm.ClassFile.FieldType)) ∈ gw := gw_1 (List.mem_of_getElem? (i := 60) rfl) rfl
theorem hw_1_61 : (Jvm.Cond.methodLink "SetFamilies$Family" (5 : Nat) ({ cls := "java/lang/Object", name := "<init>", desc := "()V" } : Jvm.MethodName)) ∈ gw := gw_1 (List.mem_of_getElem? (i := 61) rfl) rfl
theorem hw_1_62 : (Jvm.Cond.fieldLink "SetFamilies$Family" (11 : Nat) "SetFamilies$Family" "ground" "LSetFamilies$Ground;") ∈ gw := gw_1 (List.mem_of_getElem? (i := 62) rfl) rfl
theorem hw_1_63 : (Jvm.Cond.fieldLink "SetFamilies$Family" (15 : Nat) "SetFamilies$Family" "words" "[J") ∈ gw := gw_1 (List.mem_of_getElem? (i := 63) rfl) rfl
theorem hw_1_64 : (Jvm.Cond.laysFinal "SetFamilies$Family" "SetFamilies$Family" "ground" "LSetFamilies$Ground;") ∈ gw := gw_1 (List.mem_of_getElem? (i := 64) rfl) rfl
theorem hw_1_66 : (Jvm.Cond.laysFinal "SetFamilies$Family" "SetFamilies$Family" "words" "[J") ∈ gw := gw_1 (List.mem_of_getElem? (i := 66) rfl) rfl
theorem hw_1_69 : (Jvm.Cond.arrayClass Jvm.ClassFile.FieldType.long) ∈ gw := gw_1 (List.mem_of_getElem? (i := 69) rfl) rfl
theorem hw_1_70 : (Jvm.Cond.classLink "SetFamilies" (27 : Nat) "SetFamilies$History") ∈ gw := gw_1 (List.mem_of_getElem? (i := 70) rfl) rfl
theorem hw_1_71 : (Jvm.Cond.instantiable "SetFamilies$History" (4 : Nat)) ∈ gw := gw_1 (List.mem_of_getElem? (i := 71) rfl) rfl
theorem hw_1_72 : (Jvm.Cond.methodLink "SetFamilies" (29 : Nat) ({ cls := "SetFamilies$History", name := "<init>", desc := "(LSetFamilies$Ground;)V" } : Jvm.MethodName)) ∈ gw := gw_1 (List.mem_of_getElem? (i := 72) rfl) rfl
theorem hw_1_73 : (Jvm.Cond.instanceMethod ({ cls := "SetFamilies$History", name := "<init>", desc := "(LSetFamilies$Ground;)V" } : Jvm.MethodName)) ∈ gw := gw_1 (List.mem_of_getElem? (i := 73) rfl) rfl
theorem hw_1_74 : (Jvm.Cond.code ({ cls := "SetFamilies$History", name := "<init>", desc := "(LSetFamilies$Ground;)V" } : Jvm.MethodName) prog_7_method_1_code (3 : Nat) (Option.none : Option Jvm.ClassFile.FieldType)) ∈ gw := gw_1 (List.mem_of_getElem? (i := 74) rfl) rfl
theorem hw_1_75 : (Jvm.Cond.methodLink "SetFamilies$History" (3 : Nat) ({ cls := "java/lang/Object", name := "<init>", desc := "()V" } : Jvm.MethodName)) ∈ gw := gw_1 (List.mem_of_getElem? (i := 75) rfl) rfl
theorem hw_1_76 : (Jvm.Cond.classLink "SetFamilies$History" (15 : Nat) "SetFamilies$Family") ∈ gw := gw_1 (List.mem_of_getElem? (i := 76) rfl) rfl
theorem hw_1_77 : (Jvm.Cond.methodLink "SetFamilies$History" (21 : Nat) ({ cls := "SetFamilies$Family", name := "<init>", desc := "(LSetFamilies$Ground;)V" } : Jvm.MethodName)) ∈ gw := gw_1 (List.mem_of_getElem? (i := 77) rfl) rfl
theorem hw_1_78 : (Jvm.Cond.fieldLink "SetFamilies$History" (36 : Nat) "SetFamilies$History" "depth" "I") ∈ gw := gw_1 (List.mem_of_getElem? (i := 78) rfl) rfl
theorem hw_1_79 : (Jvm.Cond.fieldLink "SetFamilies" (253 : Nat) "SetFamilies$History" "depth" "I") ∈ gw := gw_1 (List.mem_of_getElem? (i := 79) rfl) rfl
theorem hw_1_80 : (Jvm.Cond.fieldLink "SetFamilies$History" (24 : Nat) "SetFamilies$History" "newest" "I") ∈ gw := gw_1 (List.mem_of_getElem? (i := 80) rfl) rfl
theorem hw_1_81 : (Jvm.Cond.fieldLink "SetFamilies$History" (11 : Nat) "SetFamilies$History" "elements" "[I") ∈ gw := gw_1 (List.mem_of_getElem? (i := 81) rfl) rfl
theorem hw_1_82 : (Jvm.Cond.fieldLink "SetFamilies$History" (17 : Nat) "SetFamilies$History" "saved" "[LSetFamilies$Family;") ∈ gw := gw_1 (List.mem_of_getElem? (i := 82) rfl) rfl
theorem hw_1_83 : (Jvm.Cond.lays "SetFamilies$History" "SetFamilies$History" "depth" "I") ∈ gw := gw_1 (List.mem_of_getElem? (i := 83) rfl) rfl
theorem hw_1_85 : (Jvm.Cond.lays "SetFamilies$History" "SetFamilies$History" "newest" "I") ∈ gw := gw_1 (List.mem_of_getElem? (i := 85) rfl) rfl
theorem hw_1_87 : (Jvm.Cond.laysFinal "SetFamilies$History" "SetFamilies$History" "elements" "[I") ∈ gw := gw_1 (List.mem_of_getElem? (i := 87) rfl) rfl
theorem hw_1_89 : (Jvm.Cond.laysFinal "SetFamilies$History" "SetFamilies$History" "saved" "[LSetFamilies$Family;") ∈ gw := gw_1 (List.mem_of_getElem? (i := 89) rfl) rfl
theorem hw_1_92 : (Jvm.Cond.arrayClass Jvm.ClassFile.FieldType.int) ∈ gw := gw_1 (List.mem_of_getElem? (i := 92) rfl) rfl
theorem hw_1_93 : (Jvm.Cond.classLink "SetFamilies" (34 : Nat) "SetFamilies$Text") ∈ gw := gw_1 (List.mem_of_getElem? (i := 93) rfl) rfl
theorem hw_1_94 : (Jvm.Cond.instantiable "SetFamilies$Text" (2 : Nat)) ∈ gw := gw_1 (List.mem_of_getElem? (i := 94) rfl) rfl
theorem hw_1_95 : (Jvm.Cond.methodLink "SetFamilies" (36 : Nat) ({ cls := "SetFamilies$Text", name := "<init>", desc := "()V" } : Jvm.MethodName)) ∈ gw := gw_1 (List.mem_of_getElem? (i := 95) rfl) rfl
theorem hw_1_96 : (Jvm.Cond.instanceMethod ({ cls := "SetFamilies$Text", name := "<init>", desc := "()V" } : Jvm.MethodName)) ∈ gw := gw_1 (List.mem_of_getElem? (i := 96) rfl) rfl
theorem hw_1_97 : (Jvm.Cond.code ({ cls := "SetFamilies$Text", name := "<init>", desc := "()V" } : Jvm.MethodName) prog_11_method_1_code (1 : Nat) (Option.none : Option Jvm.ClassFile.FieldType)) ∈ gw := gw_1 (List.mem_of_getElem? (i := 97) rfl) rfl
theorem hw_1_98 : (Jvm.Cond.methodLink "SetFamilies$Text" (3 : Nat) ({ cls := "java/lang/Object", name := "<init>", desc := "()V" } : Jvm.MethodName)) ∈ gw := gw_1 (List.mem_of_getElem? (i := 98) rfl) rfl
theorem hw_1_99 : (Jvm.Cond.fieldLink "SetFamilies$Text" (15 : Nat) "SetFamilies$Text" "length" "I") ∈ gw := gw_1 (List.mem_of_getElem? (i := 99) rfl) rfl
theorem hw_1_100 : (Jvm.Cond.fieldLink "SetFamilies" (239 : Nat) "SetFamilies$Text" "length" "I") ∈ gw := gw_1 (List.mem_of_getElem? (i := 100) rfl) rfl
theorem hw_1_101 : (Jvm.Cond.fieldLink "SetFamilies$Text" (9 : Nat) "SetFamilies$Text" "bytes" "[B") ∈ gw := gw_1 (List.mem_of_getElem? (i := 101) rfl) rfl
theorem hw_1_102 : (Jvm.Cond.lays "SetFamilies$Text" "SetFamilies$Text" "length" "I") ∈ gw := gw_1 (List.mem_of_getElem? (i := 102) rfl) rfl
theorem hw_1_104 : (Jvm.Cond.laysFinal "SetFamilies$Text" "SetFamilies$Text" "bytes" "[B") ∈ gw := gw_1 (List.mem_of_getElem? (i := 104) rfl) rfl
theorem hw_1_107 : (Jvm.Cond.arrayClass Jvm.ClassFile.FieldType.byte) ∈ gw := gw_1 (List.mem_of_getElem? (i := 107) rfl) rfl
theorem hw_1_108 : (Jvm.Cond.classLink "SetFamilies" (41 : Nat) "SetFamilies$Derivation") ∈ gw := gw_1 (List.mem_of_getElem? (i := 108) rfl) rfl
theorem hw_1_109 : (Jvm.Cond.instantiable "SetFamilies$Derivation" (4 : Nat)) ∈ gw := gw_1 (List.mem_of_getElem? (i := 109) rfl) rfl
theorem hw_1_110 : (Jvm.Cond.methodLink "SetFamilies" (43 : Nat) ({ cls := "SetFamilies$Derivation", name := "<init>", desc := "(LSetFamilies$Ground;)V" } : Jvm.MethodName)) ∈ gw := gw_1 (List.mem_of_getElem? (i := 110) rfl) rfl
theorem hw_1_111 : (Jvm.Cond.instanceMethod ({ cls := "SetFamilies$Derivation", name := "<init>", desc := "(LSetFamilies$Ground;)V" } : Jvm.MethodName)) ∈ gw := gw_1 (List.mem_of_getElem? (i := 111) rfl) rfl
theorem hw_1_112 : (Jvm.Cond.code ({ cls := "SetFamilies$Derivation", name := "<init>", desc := "(LSetFamilies$Ground;)V" } : Jvm.MethodName) prog_4_method_1_code (2 : Nat) (Option.none : Option Jvm.ClassFile.FieldType)) ∈ gw := gw_1 (List.mem_of_getElem? (i := 112) rfl) rfl
theorem hw_1_113 : (Jvm.Cond.methodLink "SetFamilies$Derivation" (3 : Nat) ({ cls := "java/lang/Object", name := "<init>", desc := "()V" } : Jvm.MethodName)) ∈ gw := gw_1 (List.mem_of_getElem? (i := 113) rfl) rfl
theorem hw_1_114 : (Jvm.Cond.classLink "SetFamilies$Derivation" (15 : Nat) "SetFamilies$Family") ∈ gw := gw_1 (List.mem_of_getElem? (i := 114) rfl) rfl
theorem hw_1_115 : (Jvm.Cond.methodLink "SetFamilies$Derivation" (17 : Nat) ({ cls := "SetFamilies$Family", name := "<init>", desc := "(LSetFamilies$Ground;)V" } : Jvm.MethodName)) ∈ gw := gw_1 (List.mem_of_getElem? (i := 115) rfl) rfl
theorem hw_1_116 : (Jvm.Cond.fieldLink "SetFamilies$Derivation" (9 : Nat) "SetFamilies$Derivation" "ground" "LSetFamilies$Ground;") ∈ gw := gw_1 (List.mem_of_getElem? (i := 116) rfl) rfl
theorem hw_1_117 : (Jvm.Cond.fieldLink "SetFamilies$Derivation" (20 : Nat) "SetFamilies$Derivation" "bound" "LSetFamilies$Family;") ∈ gw := gw_1 (List.mem_of_getElem? (i := 117) rfl) rfl
theorem hw_1_118 : (Jvm.Cond.fieldLink "SetFamilies$Derivation" (24 : Nat) "SetFamilies$Derivation" "part" "LSetFamilies$Family;") ∈ gw := gw_1 (List.mem_of_getElem? (i := 118) rfl) rfl
theorem hw_1_119 : (Jvm.Cond.fieldLink "SetFamilies$Derivation" (27 : Nat) "SetFamilies$Derivation" "turned" "LSetFamilies$Family;") ∈ gw := gw_1 (List.mem_of_getElem? (i := 119) rfl) rfl
theorem hw_1_120 : (Jvm.Cond.laysFinal "SetFamilies$Derivation" "SetFamilies$Derivation" "ground" "LSetFamilies$Ground;") ∈ gw := gw_1 (List.mem_of_getElem? (i := 120) rfl) rfl
theorem hw_1_122 : (Jvm.Cond.laysFinal "SetFamilies$Derivation" "SetFamilies$Derivation" "bound" "LSetFamilies$Family;") ∈ gw := gw_1 (List.mem_of_getElem? (i := 122) rfl) rfl
theorem hw_1_124 : (Jvm.Cond.laysFinal "SetFamilies$Derivation" "SetFamilies$Derivation" "part" "LSetFamilies$Family;") ∈ gw := gw_1 (List.mem_of_getElem? (i := 124) rfl) rfl
theorem hw_1_126 : (Jvm.Cond.laysFinal "SetFamilies$Derivation" "SetFamilies$Derivation" "turned" "LSetFamilies$Family;") ∈ gw := gw_1 (List.mem_of_getElem? (i := 126) rfl) rfl
theorem hw_1_129 : (Jvm.Cond.classLink "SetFamilies" (48 : Nat) "SetFamilies$Compression") ∈ gw := gw_1 (List.mem_of_getElem? (i := 129) rfl) rfl
theorem hw_1_130 : (Jvm.Cond.instantiable "SetFamilies$Compression" (4 : Nat)) ∈ gw := gw_1 (List.mem_of_getElem? (i := 130) rfl) rfl
theorem hw_1_131 : (Jvm.Cond.methodLink "SetFamilies" (50 : Nat) ({ cls := "SetFamilies$Compression", name := "<init>", desc := "(LSetFamilies$Ground;)V" } : Jvm.MethodName)) ∈ gw := gw_1 (List.mem_of_getElem? (i := 131) rfl) rfl
theorem hw_1_132 : (Jvm.Cond.instanceMethod ({ cls := "SetFamilies$Compression", name := "<init>", desc := "(LSetFamilies$Ground;)V" } : Jvm.MethodName)) ∈ gw := gw_1 (List.mem_of_getElem? (i := 132) rfl) rfl
theorem hw_1_133 : (Jvm.Cond.code ({ cls := "SetFamilies$Compression", name := "<init>", desc := "(LSetFamilies$Ground;)V" } : Jvm.MethodName) prog_3_method_1_code (2 : Nat) (Option.none : Option Jvm.ClassFile.FieldType)) ∈ gw := gw_1 (List.mem_of_getElem? (i := 133) rfl) rfl
theorem hw_1_134 : (Jvm.Cond.methodLink "SetFamilies$Compression" (1 : Nat) ({ cls := "java/lang/Object", name := "<init>", desc := "()V" } : Jvm.MethodName)) ∈ gw := gw_1 (List.mem_of_getElem? (i := 134) rfl) rfl
theorem hw_1_135 : (Jvm.Cond.classLink "SetFamilies$Compression" (13 : Nat) "SetFamilies$Family") ∈ gw := gw_1 (List.mem_of_getElem? (i := 135) rfl) rfl
theorem hw_1_136 : (Jvm.Cond.methodLink "SetFamilies$Compression" (15 : Nat) ({ cls := "SetFamilies$Family", name := "<init>", desc := "(LSetFamilies$Ground;)V" } : Jvm.MethodName)) ∈ gw := gw_1 (List.mem_of_getElem? (i := 136) rfl) rfl
theorem hw_1_137 : (Jvm.Cond.fieldLink "SetFamilies$Compression" (7 : Nat) "SetFamilies$Compression" "ground" "LSetFamilies$Ground;") ∈ gw := gw_1 (List.mem_of_getElem? (i := 137) rfl) rfl
theorem hw_1_138 : (Jvm.Cond.fieldLink "SetFamilies$Compression" (18 : Nat) "SetFamilies$Compression" "between" "LSetFamilies$Family;") ∈ gw := gw_1 (List.mem_of_getElem? (i := 138) rfl) rfl
theorem hw_1_139 : (Jvm.Cond.fieldLink "SetFamilies$Compression" (22 : Nat) "SetFamilies$Compression" "arriving" "LSetFamilies$Family;") ∈ gw := gw_1 (List.mem_of_getElem? (i := 139) rfl) rfl
theorem hw_1_140 : (Jvm.Cond.fieldLink "SetFamilies$Compression" (25 : Nat) "SetFamilies$Compression" "leaving" "LSetFamilies$Family;") ∈ gw := gw_1 (List.mem_of_getElem? (i := 140) rfl) rfl
theorem hw_1_141 : (Jvm.Cond.laysFinal "SetFamilies$Compression" "SetFamilies$Compression" "ground" "LSetFamilies$Ground;") ∈ gw := gw_1 (List.mem_of_getElem? (i := 141) rfl) rfl
theorem hw_1_143 : (Jvm.Cond.laysFinal "SetFamilies$Compression" "SetFamilies$Compression" "between" "LSetFamilies$Family;") ∈ gw := gw_1 (List.mem_of_getElem? (i := 143) rfl) rfl
theorem hw_1_145 : (Jvm.Cond.laysFinal "SetFamilies$Compression" "SetFamilies$Compression" "arriving" "LSetFamilies$Family;") ∈ gw := gw_1 (List.mem_of_getElem? (i := 145) rfl) rfl
theorem hw_1_147 : (Jvm.Cond.laysFinal "SetFamilies$Compression" "SetFamilies$Compression" "leaving" "LSetFamilies$Family;") ∈ gw := gw_1 (List.mem_of_getElem? (i := 147) rfl) rfl
theorem hw_1_150 : (Jvm.Cond.classLink "SetFamilies" (55 : Nat) "SetFamilies$Shattering") ∈ gw := gw_1 (List.mem_of_getElem? (i := 150) rfl) rfl
theorem hw_1_151 : (Jvm.Cond.instantiable "SetFamilies$Shattering" (2 : Nat)) ∈ gw := gw_1 (List.mem_of_getElem? (i := 151) rfl) rfl
theorem hw_1_152 : (Jvm.Cond.methodLink "SetFamilies" (57 : Nat) ({ cls := "SetFamilies$Shattering", name := "<init>", desc := "(LSetFamilies$Ground;)V" } : Jvm.MethodName)) ∈ gw := gw_1 (List.mem_of_getElem? (i := 152) rfl) rfl
theorem hw_1_153 : (Jvm.Cond.instanceMethod ({ cls := "SetFamilies$Shattering", name := "<init>", desc := "(LSetFamilies$Ground;)V" } : Jvm.MethodName)) ∈ gw := gw_1 (List.mem_of_getElem? (i := 153) rfl) rfl
theorem hw_1_154 : (Jvm.Cond.code ({ cls := "SetFamilies$Shattering", name := "<init>", desc := "(LSetFamilies$Ground;)V" } : Jvm.MethodName) prog_9_method_1_code (3 : Nat) (Option.none : Option Jvm.ClassFile.FieldType)) ∈ gw := gw_1 (List.mem_of_getElem? (i := 154) rfl) rfl
theorem hw_1_155 : (Jvm.Cond.methodLink "SetFamilies$Shattering" (3 : Nat) ({ cls := "java/lang/Object", name := "<init>", desc := "()V" } : Jvm.MethodName)) ∈ gw := gw_1 (List.mem_of_getElem? (i := 155) rfl) rfl
theorem hw_1_156 : (Jvm.Cond.classLink "SetFamilies$Shattering" (15 : Nat) "SetFamilies$Family") ∈ gw := gw_1 (List.mem_of_getElem? (i := 156) rfl) rfl
theorem hw_1_157 : (Jvm.Cond.methodLink "SetFamilies$Shattering" (21 : Nat) ({ cls := "SetFamilies$Family", name := "<init>", desc := "(LSetFamilies$Ground;)V" } : Jvm.MethodName)) ∈ gw := gw_1 (List.mem_of_getElem? (i := 157) rfl) rfl
theorem hw_1_158 : (Jvm.Cond.fieldLink "SetFamilies$Shattering" (9 : Nat) "SetFamilies$Shattering" "ground" "LSetFamilies$Ground;") ∈ gw := gw_1 (List.mem_of_getElem? (i := 158) rfl) rfl
theorem hw_1_159 : (Jvm.Cond.fieldLink "SetFamilies$Shattering" (17 : Nat) "SetFamilies$Shattering" "traces" "[LSetFamilies$Family;") ∈ gw := gw_1 (List.mem_of_getElem? (i := 159) rfl) rfl
theorem hw_1_160 : (Jvm.Cond.laysFinal "SetFamilies$Shattering" "SetFamilies$Shattering" "ground" "LSetFamilies$Ground;") ∈ gw := gw_1 (List.mem_of_getElem? (i := 160) rfl) rfl
theorem hw_1_162 : (Jvm.Cond.laysFinal "SetFamilies$Shattering" "SetFamilies$Shattering" "traces" "[LSetFamilies$Family;") ∈ gw := gw_1 (List.mem_of_getElem? (i := 162) rfl) rfl
theorem hw_1_165 : (Jvm.Cond.classLink "SetFamilies" (62 : Nat) "SetFamilies$SunflowerSearch") ∈ gw := gw_1 (List.mem_of_getElem? (i := 165) rfl) rfl
theorem hw_1_166 : (Jvm.Cond.instantiable "SetFamilies$SunflowerSearch" (6 : Nat)) ∈ gw := gw_1 (List.mem_of_getElem? (i := 166) rfl) rfl
theorem hw_1_167 : (Jvm.Cond.methodLink "SetFamilies" (64 : Nat) ({ cls := "SetFamilies$SunflowerSearch", name := "<init>", desc := "(LSetFamilies$Ground;LSetFamilies$Derivation;)V" } : Jvm.MethodName)) ∈ gw := gw_1 (List.mem_of_getElem? (i := 167) rfl) rfl
theorem hw_1_168 : (Jvm.Cond.instanceMethod ({ cls := "SetFamilies$SunflowerSearch", name := "<init>", desc := "(LSetFamilies$Ground;LSetFamilies$Derivation;)V" } : Jvm.MethodName)) ∈ gw := gw_1 (List.mem_of_getElem? (i := 168) rfl) rfl
theorem hw_1_169 : (Jvm.Cond.code ({ cls := "SetFamilies$SunflowerSearch", name := "<init>", desc := "(LSetFamilies$Ground;LSetFamilies$Derivation;)V" } : Jvm.MethodName) prog_10_method_1_code (4 : Nat) (Option.none : Option Jvm.ClassFile.FieldType)) ∈ gw := gw_1 (List.mem_of_getElem? (i := 169) rfl) rfl
theorem hw_1_170 : (Jvm.Cond.methodLink "SetFamilies$SunflowerSearch" (3 : Nat) ({ cls := "java/lang/Object", name := "<init>", desc := "()V" } : Jvm.MethodName)) ∈ gw := gw_1 (List.mem_of_getElem? (i := 170) rfl) rfl
theorem hw_1_171 : (Jvm.Cond.classLink "SetFamilies$SunflowerSearch" (19 : Nat) "SetFamilies$Family") ∈ gw := gw_1 (List.mem_of_getElem? (i := 171) rfl) rfl
theorem hw_1_172 : (Jvm.Cond.methodLink "SetFamilies$SunflowerSearch" (25 : Nat) ({ cls := "SetFamilies$Family", name := "<init>", desc := "(LSetFamilies$Ground;)V" } : Jvm.MethodName)) ∈ gw := gw_1 (List.mem_of_getElem? (i := 172) rfl) rfl
theorem hw_1_173 : (Jvm.Cond.fieldLink "SetFamilies$SunflowerSearch" (9 : Nat) "SetFamilies$SunflowerSearch" "ground" "LSetFamilies$Ground;") ∈ gw := gw_1 (List.mem_of_getElem? (i := 173) rfl) rfl
theorem hw_1_174 : (Jvm.Cond.fieldLink "SetFamilies$SunflowerSearch" (15 : Nat) "SetFamilies$SunflowerSearch" "derivation" "LSetFamilies$Derivation;") ∈ gw := gw_1 (List.mem_of_getElem? (i := 174) rfl) rfl
theorem hw_1_175 : (Jvm.Cond.fieldLink "SetFamilies$SunflowerSearch" (21 : Nat) "SetFamilies$SunflowerSearch" "links" "[LSetFamilies$Family;") ∈ gw := gw_1 (List.mem_of_getElem? (i := 175) rfl) rfl
theorem hw_1_176 : (Jvm.Cond.fieldLink "SetFamilies$SunflowerSearch" (28 : Nat) "SetFamilies$SunflowerSearch" "rest" "LSetFamilies$Family;") ∈ gw := gw_1 (List.mem_of_getElem? (i := 176) rfl) rfl
theorem hw_1_177 : (Jvm.Cond.fieldLink "SetFamilies$SunflowerSearch" (32 : Nat) "SetFamilies$SunflowerSearch" "petals" "LSetFamilies$Family;") ∈ gw := gw_1 (List.mem_of_getElem? (i := 177) rfl) rfl
theorem hw_1_178 : (Jvm.Cond.fieldLink "SetFamilies$SunflowerSearch" (35 : Nat) "SetFamilies$SunflowerSearch" "codes" "[I") ∈ gw := gw_1 (List.mem_of_getElem? (i := 178) rfl) rfl
theorem hw_1_179 : (Jvm.Cond.laysFinal "SetFamilies$SunflowerSearch" "SetFamilies$SunflowerSearch" "ground" "LSetFamilies$Ground;") ∈ gw := gw_1 (List.mem_of_getElem? (i := 179) rfl) rfl
theorem hw_1_181 : (Jvm.Cond.laysFinal "SetFamilies$SunflowerSearch" "SetFamilies$SunflowerSearch" "derivation" "LSetFamilies$Derivation;") ∈ gw := gw_1 (List.mem_of_getElem? (i := 181) rfl) rfl
theorem hw_1_183 : (Jvm.Cond.laysFinal "SetFamilies$SunflowerSearch" "SetFamilies$SunflowerSearch" "links" "[LSetFamilies$Family;") ∈ gw := gw_1 (List.mem_of_getElem? (i := 183) rfl) rfl
theorem hw_1_185 : (Jvm.Cond.laysFinal "SetFamilies$SunflowerSearch" "SetFamilies$SunflowerSearch" "rest" "LSetFamilies$Family;") ∈ gw := gw_1 (List.mem_of_getElem? (i := 185) rfl) rfl
theorem hw_1_187 : (Jvm.Cond.laysFinal "SetFamilies$SunflowerSearch" "SetFamilies$SunflowerSearch" "petals" "LSetFamilies$Family;") ∈ gw := gw_1 (List.mem_of_getElem? (i := 187) rfl) rfl
theorem hw_1_189 : (Jvm.Cond.laysFinal "SetFamilies$SunflowerSearch" "SetFamilies$SunflowerSearch" "codes" "[I") ∈ gw := gw_1 (List.mem_of_getElem? (i := 189) rfl) rfl
theorem hw_1_192 : (Jvm.Cond.classLink "SetFamilies" (71 : Nat) "SetFamilies$PairCounts") ∈ gw := gw_1 (List.mem_of_getElem? (i := 192) rfl) rfl
theorem hw_1_193 : (Jvm.Cond.instantiable "SetFamilies$PairCounts" (3 : Nat)) ∈ gw := gw_1 (List.mem_of_getElem? (i := 193) rfl) rfl
theorem hw_1_194 : (Jvm.Cond.methodLink "SetFamilies" (73 : Nat) ({ cls := "SetFamilies$PairCounts", name := "<init>", desc := "(LSetFamilies$Ground;)V" } : Jvm.MethodName)) ∈ gw := gw_1 (List.mem_of_getElem? (i := 194) rfl) rfl
theorem hw_1_195 : (Jvm.Cond.instanceMethod ({ cls := "SetFamilies$PairCounts", name := "<init>", desc := "(LSetFamilies$Ground;)V" } : Jvm.MethodName)) ∈ gw := gw_1 (List.mem_of_getElem? (i := 195) rfl) rfl
theorem hw_1_196 : (Jvm.Cond.code ({ cls := "SetFamilies$PairCounts", name := "<init>", desc := "(LSetFamilies$Ground;)V" } : Jvm.MethodName) prog_8_method_1_code (2 : Nat) (Option.none : Option Jvm.ClassFile.FieldType)) ∈ gw := gw_1 (List.mem_of_getElem? (i := 196) rfl) rfl
theorem hw_1_197 : (Jvm.Cond.methodLink "SetFamilies$PairCounts" (3 : Nat) ({ cls := "java/lang/Object", name := "<init>", desc := "()V" } : Jvm.MethodName)) ∈ gw := gw_1 (List.mem_of_getElem? (i := 197) rfl) rfl
theorem hw_1_198 : (Jvm.Cond.fieldLink "SetFamilies$PairCounts" (9 : Nat) "SetFamilies$PairCounts" "ground" "LSetFamilies$Ground;") ∈ gw := gw_1 (List.mem_of_getElem? (i := 198) rfl) rfl
theorem hw_1_199 : (Jvm.Cond.fieldLink "SetFamilies$PairCounts" (15 : Nat) "SetFamilies$PairCounts" "above" "[I") ∈ gw := gw_1 (List.mem_of_getElem? (i := 199) rfl) rfl
theorem hw_1_200 : (Jvm.Cond.fieldLink "SetFamilies$PairCounts" (19 : Nat) "SetFamilies$PairCounts" "counts" "[J") ∈ gw := gw_1 (List.mem_of_getElem? (i := 200) rfl) rfl
theorem hw_1_201 : (Jvm.Cond.laysFinal "SetFamilies$PairCounts" "SetFamilies$PairCounts" "ground" "LSetFamilies$Ground;") ∈ gw := gw_1 (List.mem_of_getElem? (i := 201) rfl) rfl
theorem hw_1_203 : (Jvm.Cond.laysFinal "SetFamilies$PairCounts" "SetFamilies$PairCounts" "above" "[I") ∈ gw := gw_1 (List.mem_of_getElem? (i := 203) rfl) rfl
theorem hw_1_205 : (Jvm.Cond.laysFinal "SetFamilies$PairCounts" "SetFamilies$PairCounts" "counts" "[J") ∈ gw := gw_1 (List.mem_of_getElem? (i := 205) rfl) rfl
theorem hw_1_208 : (Jvm.Cond.fieldLink "SetFamilies" (14 : Nat) "SetFamilies" "ground" "LSetFamilies$Ground;") ∈ gw := gw_1 (List.mem_of_getElem? (i := 208) rfl) rfl
theorem hw_1_209 : (Jvm.Cond.fieldLink "SetFamilies" (20 : Nat) "SetFamilies" "families" "[LSetFamilies$Family;") ∈ gw := gw_1 (List.mem_of_getElem? (i := 209) rfl) rfl
theorem hw_1_210 : (Jvm.Cond.fieldLink "SetFamilies" (30 : Nat) "SetFamilies" "history" "LSetFamilies$History;") ∈ gw := gw_1 (List.mem_of_getElem? (i := 210) rfl) rfl
theorem hw_1_211 : (Jvm.Cond.fieldLink "SetFamilies" (37 : Nat) "SetFamilies" "text" "LSetFamilies$Text;") ∈ gw := gw_1 (List.mem_of_getElem? (i := 211) rfl) rfl
theorem hw_1_212 : (Jvm.Cond.fieldLink "SetFamilies" (44 : Nat) "SetFamilies" "derivation" "LSetFamilies$Derivation;") ∈ gw := gw_1 (List.mem_of_getElem? (i := 212) rfl) rfl
theorem hw_1_213 : (Jvm.Cond.fieldLink "SetFamilies" (51 : Nat) "SetFamilies" "compression" "LSetFamilies$Compression;") ∈ gw := gw_1 (List.mem_of_getElem? (i := 213) rfl) rfl
theorem hw_1_214 : (Jvm.Cond.fieldLink "SetFamilies" (58 : Nat) "SetFamilies" "shattering" "LSetFamilies$Shattering;") ∈ gw := gw_1 (List.mem_of_getElem? (i := 214) rfl) rfl
theorem hw_1_215 : (Jvm.Cond.fieldLink "SetFamilies" (67 : Nat) "SetFamilies" "sunflowers" "LSetFamilies$SunflowerSearch;") ∈ gw := gw_1 (List.mem_of_getElem? (i := 215) rfl) rfl
theorem hw_1_216 : (Jvm.Cond.fieldLink "SetFamilies" (74 : Nat) "SetFamilies" "pairCounts" "LSetFamilies$PairCounts;") ∈ gw := gw_1 (List.mem_of_getElem? (i := 216) rfl) rfl
theorem hw_1_217 : (Jvm.Cond.fieldLink "SetFamilies" (78 : Nat) "SetFamilies" "members" "[I") ∈ gw := gw_1 (List.mem_of_getElem? (i := 217) rfl) rfl
theorem hw_1_218 : (Jvm.Cond.fieldLink "SetFamilies" (82 : Nat) "SetFamilies" "result" "LSetFamilies$Family;") ∈ gw := gw_1 (List.mem_of_getElem? (i := 218) rfl) rfl
theorem hw_1_219 : (Jvm.Cond.fieldLink "SetFamilies" (86 : Nat) "SetFamilies" "helper" "LSetFamilies$Family;") ∈ gw := gw_1 (List.mem_of_getElem? (i := 219) rfl) rfl
theorem hw_1_220 : (Jvm.Cond.laysFinal "SetFamilies" "SetFamilies" "ground" "LSetFamilies$Ground;") ∈ gw := gw_1 (List.mem_of_getElem? (i := 220) rfl) rfl
theorem hw_1_222 : (Jvm.Cond.laysFinal "SetFamilies" "SetFamilies" "families" "[LSetFamilies$Family;") ∈ gw := gw_1 (List.mem_of_getElem? (i := 222) rfl) rfl
theorem hw_1_224 : (Jvm.Cond.laysFinal "SetFamilies" "SetFamilies" "history" "LSetFamilies$History;") ∈ gw := gw_1 (List.mem_of_getElem? (i := 224) rfl) rfl
theorem hw_1_226 : (Jvm.Cond.laysFinal "SetFamilies" "SetFamilies" "text" "LSetFamilies$Text;") ∈ gw := gw_1 (List.mem_of_getElem? (i := 226) rfl) rfl
theorem hw_1_228 : (Jvm.Cond.laysFinal "SetFamilies" "SetFamilies" "derivation" "LSetFamilies$Derivation;") ∈ gw := gw_1 (List.mem_of_getElem? (i := 228) rfl) rfl
theorem hw_1_230 : (Jvm.Cond.laysFinal "SetFamilies" "SetFamilies" "compression" "LSetFamilies$Compression;") ∈ gw := gw_1 (List.mem_of_getElem? (i := 230) rfl) rfl
theorem hw_1_232 : (Jvm.Cond.laysFinal "SetFamilies" "SetFamilies" "shattering" "LSetFamilies$Shattering;") ∈ gw := gw_1 (List.mem_of_getElem? (i := 232) rfl) rfl
theorem hw_1_234 : (Jvm.Cond.laysFinal "SetFamilies" "SetFamilies" "sunflowers" "LSetFamilies$SunflowerSearch;") ∈ gw := gw_1 (List.mem_of_getElem? (i := 234) rfl) rfl
theorem hw_1_236 : (Jvm.Cond.laysFinal "SetFamilies" "SetFamilies" "pairCounts" "LSetFamilies$PairCounts;") ∈ gw := gw_1 (List.mem_of_getElem? (i := 236) rfl) rfl
theorem hw_1_238 : (Jvm.Cond.laysFinal "SetFamilies" "SetFamilies" "members" "[I") ∈ gw := gw_1 (List.mem_of_getElem? (i := 238) rfl) rfl
theorem hw_2_0 : (Jvm.Cond.laysFinal "SetFamilies" "SetFamilies" "result" "LSetFamilies$Family;") ∈ gw := gw_2 (List.mem_of_getElem? (i := 0) rfl) rfl
theorem hw_2_2 : (Jvm.Cond.laysFinal "SetFamilies" "SetFamilies" "helper" "LSetFamilies$Family;") ∈ gw := gw_2 (List.mem_of_getElem? (i := 2) rfl) rfl
theorem hw_2_5 : (Jvm.Cond.methodLink "SetFamiliesLaw" (198 : Nat) ({ cls := "SetFamilies", name := "clearText", desc := "()I" } : Jvm.MethodName)) ∈ gw := gw_2 (List.mem_of_getElem? (i := 5) rfl) rfl
theorem hw_2_6 : (Jvm.Cond.instanceMethod ({ cls := "SetFamilies", name := "clearText", desc := "()I" } : Jvm.MethodName)) ∈ gw := gw_2 (List.mem_of_getElem? (i := 6) rfl) rfl
theorem hw_2_7 : (Jvm.Cond.selects "SetFamilies" ({ cls := "SetFamilies", name := "clearText", desc := "()I" } : Jvm.MethodName) ({ cls := "SetFamilies", name := "clearText", desc := "()I" } : Jvm.MethodName)) ∈ gw := gw_2 (List.mem_of_getElem? (i := 7) rfl) rfl
theorem hw_2_8 : (Jvm.Cond.code ({ cls := "SetFamilies", name := "clearText", desc := "()I" } : Jvm.MethodName) prog_1_method_28_code (2 : Nat) (Option.some Jvm.ClassFile.FieldType.int)) ∈ gw := gw_2 (List.mem_of_getElem? (i := 8) rfl) rfl
theorem hw_2_9 : (Jvm.Cond.methodLink "SetFamiliesLaw" (209 : Nat) ({ cls := "SetFamilies", name := "digest", desc := "()J" } : Jvm.MethodName)) ∈ gw := gw_2 (List.mem_of_getElem? (i := 9) rfl) rfl
theorem hw_2_10 : (Jvm.Cond.instanceMethod ({ cls := "SetFamilies", name := "digest", desc := "()J" } : Jvm.MethodName)) ∈ gw := gw_2 (List.mem_of_getElem? (i := 10) rfl) rfl
theorem hw_2_11 : (Jvm.Cond.selects "SetFamilies" ({ cls := "SetFamilies", name := "digest", desc := "()J" } : Jvm.MethodName) ({ cls := "SetFamilies", name := "digest", desc := "()J" } : Jvm.MethodName)) ∈ gw := gw_2 (List.mem_of_getElem? (i := 11) rfl) rfl
theorem hw_2_12 : (Jvm.Cond.code ({ cls := "SetFamilies", name := "digest", desc := "()J" } : Jvm.MethodName) prog_1_method_31_code (5 : Nat) (Option.some Jvm.ClassFile.FieldType.long)) ∈ gw := gw_2 (List.mem_of_getElem? (i := 12) rfl) rfl
theorem hw_2_13 : (Jvm.Cond.constantLong "SetFamilies" (261 : Nat) (18454 : Int64)) ∈ gw := gw_2 (List.mem_of_getElem? (i := 13) rfl) rfl
theorem hw_2_14 : (Jvm.Cond.methodLink "SetFamilies" (263 : Nat) ({ cls := "SetFamilies", name := "mix", desc := "(JJ)J" } : Jvm.MethodName)) ∈ gw := gw_2 (List.mem_of_getElem? (i := 14) rfl) rfl
theorem hw_2_15 : (Jvm.Cond.static ({ cls := "SetFamilies", name := "mix", desc := "(JJ)J" } : Jvm.MethodName)) ∈ gw := gw_2 (List.mem_of_getElem? (i := 15) rfl) rfl
theorem hw_2_16 : (Jvm.Cond.code ({ cls := "SetFamilies", name := "mix", desc := "(JJ)J" } : Jvm.MethodName) prog_1_method_46_code (4 : Nat) (Option.some Jvm.ClassFile.FieldType.long)) ∈ gw := gw_2 (List.mem_of_getElem? (i := 16) rfl) rfl
theorem hw_2_17 : (Jvm.Cond.constantLong "SetFamilies" (340 : Nat) (31 : Int64)) ∈ gw := gw_2 (List.mem_of_getElem? (i := 17) rfl) rfl
theorem hw_2_18 : (Jvm.Cond.methodLink "SetFamilies" (267 : Nat) ({ cls := "SetFamilies", name := "mixMembers", desc := "(JLSetFamilies$Family;)J" } : Jvm.MethodName)) ∈ gw := gw_2 (List.mem_of_getElem? (i := 18) rfl) rfl
theorem hw_2_20 : (Jvm.Cond.instanceMethod ({ cls := "SetFamilies", name := "mixMembers", desc := "(JLSetFamilies$Family;)J" } : Jvm.MethodName)) ∈ gw := gw_2 (List.mem_of_getElem? (i := 20) rfl) rfl
theorem hw_2_21 : (Jvm.Cond.code ({ cls := "SetFamilies", name := "mixMembers", desc := "(JLSetFamilies$Family;)J" } : Jvm.MethodName) prog_1_method_47_code (8 : Nat) (Option.some Jvm.ClassFile.FieldType.long)) ∈ gw := gw_2 (List.mem_of_getElem? (i := 21) rfl) rfl
theorem hw_2_22 : (Jvm.Cond.methodLink "SetFamilies" (342 : Nat) ({ cls := "SetFamilies$Family", name := "listInto", desc := "([I)I" } : Jvm.MethodName)) ∈ gw := gw_2 (List.mem_of_getElem? (i := 22) rfl) rfl
theorem hw_2_23 : (Jvm.Cond.instanceMethod ({ cls := "SetFamilies$Family", name := "listInto", desc := "([I)I" } : Jvm.MethodName)) ∈ gw := gw_2 (List.mem_of_getElem? (i := 23) rfl) rfl
theorem hw_2_24 : (Jvm.Cond.selects "SetFamilies$Family" ({ cls := "SetFamilies$Family", name := "listInto", desc := "([I)I" } : Jvm.MethodName) ({ cls := "SetFamilies$Family", name := "listInto", desc := "([I)I" } : Jvm.MethodName)) ∈ gw := gw_2 (List.mem_of_getElem? (i := 24) rfl) rfl
theorem hw_2_25 : (Jvm.Cond.code ({ cls := "SetFamilies$Family", name := "listInto", desc := "([I)I" } : Jvm.MethodName) prog_5_method_11_code (7 : Nat) (Option.some Jvm.ClassFile.FieldType.int)) ∈ gw := gw_2 (List.mem_of_getElem? (i := 25) rfl) rfl
theorem hw_2_26 : (Jvm.Cond.methodLink "SetFamilies$Family" (46 : Nat) ({ cls := "java/lang/Long", name := "bitCount", desc := "(J)I" } : Jvm.MethodName)) ∈ gw := gw_2 (List.mem_of_getElem? (i := 26) rfl) rfl
theorem hw_2_27 : (Jvm.Cond.static ({ cls := "java/lang/Long", name := "bitCount", desc := "(J)I" } : Jvm.MethodName)) ∈ gw := gw_2 (List.mem_of_getElem? (i := 27) rfl) rfl
theorem hw_2_28 : (Jvm.Cond.code ({ cls := "java/lang/Long", name := "bitCount", desc := "(J)I" } : Jvm.MethodName) prog_19_method_50_code (2 : Nat) (Option.some Jvm.ClassFile.FieldType.int)) ∈ gw := gw_2 (List.mem_of_getElem? (i := 28) rfl) rfl
theorem hw_2_29 : (Jvm.Cond.constantLong "java/lang/Long" (314 : Nat) (6148914691236517205 : Int64)) ∈ gw := gw_2 (List.mem_of_getElem? (i := 29) rfl) rfl
theorem hw_2_30 : (Jvm.Cond.constantLong "java/lang/Long" (316 : Nat) (3689348814741910323 : Int64)) ∈ gw := gw_2 (List.mem_of_getElem? (i := 30) rfl) rfl
theorem hw_2_31 : (Jvm.Cond.constantLong "java/lang/Long" (318 : Nat) (1085102592571150095 : Int64)) ∈ gw := gw_2 (List.mem_of_getElem? (i := 31) rfl) rfl
theorem hw_2_32 : (Jvm.Cond.methodLink "SetFamilies$Family" (63 : Nat) ({ cls := "SetFamilies$Family", name := "lowestBit", desc := "(J)I" } : Jvm.MethodName)) ∈ gw := gw_2 (List.mem_of_getElem? (i := 32) rfl) rfl
theorem hw_2_33 : (Jvm.Cond.static ({ cls := "SetFamilies$Family", name := "lowestBit", desc := "(J)I" } : Jvm.MethodName)) ∈ gw := gw_2 (List.mem_of_getElem? (i := 33) rfl) rfl
theorem hw_2_34 : (Jvm.Cond.code ({ cls := "SetFamilies$Family", name := "lowestBit", desc := "(J)I" } : Jvm.MethodName) prog_5_method_30_code (2 : Nat) (Option.some Jvm.ClassFile.FieldType.int)) ∈ gw := gw_2 (List.mem_of_getElem? (i := 34) rfl) rfl
theorem hw_2_35 : (Jvm.Cond.methodLink "SetFamilies" (140 : Nat) ({ cls := "SetFamilies$Family", name := "countHolding", desc := "(I)I" } : Jvm.MethodName)) ∈ gw := gw_2 (List.mem_of_getElem? (i := 35) rfl) rfl
theorem hw_2_36 : (Jvm.Cond.instanceMethod ({ cls := "SetFamilies$Family", name := "countHolding", desc := "(I)I" } : Jvm.MethodName)) ∈ gw := gw_2 (List.mem_of_getElem? (i := 36) rfl) rfl
theorem hw_2_37 : (Jvm.Cond.selects "SetFamilies$Family" ({ cls := "SetFamilies$Family", name := "countHolding", desc := "(I)I" } : Jvm.MethodName) ({ cls := "SetFamilies$Family", name := "countHolding", desc := "(I)I" } : Jvm.MethodName)) ∈ gw := gw_2 (List.mem_of_getElem? (i := 37) rfl) rfl
theorem hw_2_38 : (Jvm.Cond.code ({ cls := "SetFamilies$Family", name := "countHolding", desc := "(I)I" } : Jvm.MethodName) prog_5_method_9_code (4 : Nat) (Option.some Jvm.ClassFile.FieldType.int)) ∈ gw := gw_2 (List.mem_of_getElem? (i := 38) rfl) rfl
theorem hw_2_39 : (Jvm.Cond.methodLink "SetFamilies$Family" (56 : Nat) ({ cls := "SetFamilies$Family", name := "lacking", desc := "(II)J" } : Jvm.MethodName)) ∈ gw := gw_2 (List.mem_of_getElem? (i := 39) rfl) rfl
theorem hw_2_40 : (Jvm.Cond.static ({ cls := "SetFamilies$Family", name := "lacking", desc := "(II)J" } : Jvm.MethodName)) ∈ gw := gw_2 (List.mem_of_getElem? (i := 40) rfl) rfl
theorem hw_2_41 : (Jvm.Cond.code ({ cls := "SetFamilies$Family", name := "lacking", desc := "(II)J" } : Jvm.MethodName) prog_5_method_34_code (2 : Nat) (Option.some Jvm.ClassFile.FieldType.long)) ∈ gw := gw_2 (List.mem_of_getElem? (i := 41) rfl) rfl
theorem hw_2_42 : (Jvm.Cond.fieldLink "SetFamilies$Family" (69 : Nat) "SetFamilies$Family" "LACKING" "[J") ∈ gw := gw_2 (List.mem_of_getElem? (i := 42) rfl) rfl
theorem hw_2_44 : (Jvm.Cond.constantLong "SetFamilies$Family" (39 : Nat) (-1 : Int64)) ∈ gw := gw_2 (List.mem_of_getElem? (i := 44) rfl) rfl
theorem hw_2_45 : (Jvm.Cond.methodLink "SetFamilies" (271 : Nat) ({ cls := "SetFamilies", name := "mixProperties", desc := "(JLSetFamilies$Family;)J" } : Jvm.MethodName)) ∈ gw := gw_2 (List.mem_of_getElem? (i := 45) rfl) rfl
theorem hw_2_47 : (Jvm.Cond.instanceMethod ({ cls := "SetFamilies", name := "mixProperties", desc := "(JLSetFamilies$Family;)J" } : Jvm.MethodName)) ∈ gw := gw_2 (List.mem_of_getElem? (i := 47) rfl) rfl
theorem hw_2_48 : (Jvm.Cond.code ({ cls := "SetFamilies", name := "mixProperties", desc := "(JLSetFamilies$Family;)J" } : Jvm.MethodName) prog_1_method_48_code (7 : Nat) (Option.some Jvm.ClassFile.FieldType.long)) ∈ gw := gw_2 (List.mem_of_getElem? (i := 48) rfl) rfl
theorem hw_2_49 : (Jvm.Cond.methodLink "SetFamilies" (212 : Nat) ({ cls := "SetFamilies", name := "hasProperty", desc := "(LSetFamilies$Family;I)Z" } : Jvm.MethodName)) ∈ gw := gw_2 (List.mem_of_getElem? (i := 49) rfl) rfl
theorem hw_2_51 : (Jvm.Cond.instanceMethod ({ cls := "SetFamilies", name := "hasProperty", desc := "(LSetFamilies$Family;I)Z" } : Jvm.MethodName)) ∈ gw := gw_2 (List.mem_of_getElem? (i := 51) rfl) rfl
theorem hw_2_52 : (Jvm.Cond.code ({ cls := "SetFamilies", name := "hasProperty", desc := "(LSetFamilies$Family;I)Z" } : Jvm.MethodName) prog_1_method_43_code (3 : Nat) (Option.some Jvm.ClassFile.FieldType.boolean)) ∈ gw := gw_2 (List.mem_of_getElem? (i := 52) rfl) rfl
theorem hw_2_53 : (Jvm.Cond.methodLink "SetFamilies" (304 : Nat) ({ cls := "SetFamilies$Derivation", name := "layMinimal", desc := "(LSetFamilies$Family;LSetFamilies$Family;)V" } : Jvm.MethodName)) ∈ gw := gw_2 (List.mem_of_getElem? (i := 53) rfl) rfl
theorem hw_2_54 : (Jvm.Cond.instanceMethod ({ cls := "SetFamilies$Derivation", name := "layMinimal", desc := "(LSetFamilies$Family;LSetFamilies$Family;)V" } : Jvm.MethodName)) ∈ gw := gw_2 (List.mem_of_getElem? (i := 54) rfl) rfl
theorem hw_2_55 : (Jvm.Cond.selects "SetFamilies$Derivation" ({ cls := "SetFamilies$Derivation", name := "layMinimal", desc := "(LSetFamilies$Family;LSetFamilies$Family;)V" } : Jvm.MethodName) ({ cls := "SetFamilies$Derivation", name := "layMinimal", desc := "(LSetFamilies$Family;LSetFamilies$Family;)V" } : Jvm.MethodName)) ∈ gw := gw_2 (List.mem_of_getElem? (i := 55) rfl) rfl
theorem hw_2_56 : (Jvm.Cond.code ({ cls := "SetFamilies$Derivation", name := "layMinimal", desc := "(LSetFamilies$Family;LSetFamilies$Family;)V" } : Jvm.MethodName) prog_4_method_3_code (3 : Nat) (Option.none : Option Jvm.ClassFile.FieldType)) ∈ gw := gw_2 (List.mem_of_getElem? (i := 56) rfl) rfl
theorem hw_2_57 : (Jvm.Cond.methodLink "SetFamilies$Derivation" (34 : Nat) ({ cls := "SetFamilies$Family", name := "becomeUpperShadow", desc := "(LSetFamilies$Family;)V" } : Jvm.MethodName)) ∈ gw := gw_2 (List.mem_of_getElem? (i := 57) rfl) rfl
theorem hw_2_58 : (Jvm.Cond.instanceMethod ({ cls := "SetFamilies$Family", name := "becomeUpperShadow", desc := "(LSetFamilies$Family;)V" } : Jvm.MethodName)) ∈ gw := gw_2 (List.mem_of_getElem? (i := 58) rfl) rfl
theorem hw_2_59 : (Jvm.Cond.selects "SetFamilies$Family" ({ cls := "SetFamilies$Family", name := "becomeUpperShadow", desc := "(LSetFamilies$Family;)V" } : Jvm.MethodName) ({ cls := "SetFamilies$Family", name := "becomeUpperShadow", desc := "(LSetFamilies$Family;)V" } : Jvm.MethodName)) ∈ gw := gw_2 (List.mem_of_getElem? (i := 59) rfl) rfl
theorem hw_2_60 : (Jvm.Cond.code ({ cls := "SetFamilies$Family", name := "becomeUpperShadow", desc := "(LSetFamilies$Family;)V" } : Jvm.MethodName) prog_5_method_27_code (3 : Nat) (Option.none : Option Jvm.ClassFile.FieldType)) ∈ gw := gw_2 (List.mem_of_getElem? (i := 60) rfl) rfl
theorem hw_2_61 : (Jvm.Cond.methodLink "SetFamilies$Family" (83 : Nat) ({ cls := "SetFamilies$Family", name := "clear", desc := "()V" } : Jvm.MethodName)) ∈ gw := gw_2 (List.mem_of_getElem? (i := 61) rfl) rfl
theorem hw_2_62 : (Jvm.Cond.instanceMethod ({ cls := "SetFamilies$Family", name := "clear", desc := "()V" } : Jvm.MethodName)) ∈ gw := gw_2 (List.mem_of_getElem? (i := 62) rfl) rfl
theorem hw_2_63 : (Jvm.Cond.selects "SetFamilies$Family" ({ cls := "SetFamilies$Family", name := "clear", desc := "()V" } : Jvm.MethodName) ({ cls := "SetFamilies$Family", name := "clear", desc := "()V" } : Jvm.MethodName)) ∈ gw := gw_2 (List.mem_of_getElem? (i := 63) rfl) rfl
theorem hw_2_64 : (Jvm.Cond.code ({ cls := "SetFamilies$Family", name := "clear", desc := "()V" } : Jvm.MethodName) prog_5_method_2_code (1 : Nat) (Option.none : Option Jvm.ClassFile.FieldType)) ∈ gw := gw_2 (List.mem_of_getElem? (i := 64) rfl) rfl
theorem hw_2_65 : (Jvm.Cond.methodLink "SetFamilies$Family" (19 : Nat) ({ cls := "java/util/Arrays", name := "fill", desc := "([JJ)V" } : Jvm.MethodName)) ∈ gw := gw_2 (List.mem_of_getElem? (i := 65) rfl) rfl
theorem hw_2_66 : (Jvm.Cond.static ({ cls := "java/util/Arrays", name := "fill", desc := "([JJ)V" } : Jvm.MethodName)) ∈ gw := gw_2 (List.mem_of_getElem? (i := 66) rfl) rfl
theorem hw_2_67 : (Jvm.Cond.code ({ cls := "java/util/Arrays", name := "fill", desc := "([JJ)V" } : Jvm.MethodName) prog_25_method_101_code (5 : Nat) (Option.none : Option Jvm.ClassFile.FieldType)) ∈ gw := gw_2 (List.mem_of_getElem? (i := 67) rfl) rfl
theorem hw_2_68 : (Jvm.Cond.methodLink "SetFamilies$Family" (80 : Nat) ({ cls := "SetFamilies$Family", name := "joinRaised", desc := "(LSetFamilies$Family;I)V" } : Jvm.MethodName)) ∈ gw := gw_2 (List.mem_of_getElem? (i := 68) rfl) rfl
theorem hw_2_69 : (Jvm.Cond.instanceMethod ({ cls := "SetFamilies$Family", name := "joinRaised", desc := "(LSetFamilies$Family;I)V" } : Jvm.MethodName)) ∈ gw := gw_2 (List.mem_of_getElem? (i := 69) rfl) rfl
theorem hw_2_70 : (Jvm.Cond.selects "SetFamilies$Family" ({ cls := "SetFamilies$Family", name := "joinRaised", desc := "(LSetFamilies$Family;I)V" } : Jvm.MethodName) ({ cls := "SetFamilies$Family", name := "joinRaised", desc := "(LSetFamilies$Family;I)V" } : Jvm.MethodName)) ∈ gw := gw_2 (List.mem_of_getElem? (i := 70) rfl) rfl
theorem hw_2_71 : (Jvm.Cond.code ({ cls := "SetFamilies$Family", name := "joinRaised", desc := "(LSetFamilies$Family;I)V" } : Jvm.MethodName) prog_5_method_22_code (6 : Nat) (Option.none : Option Jvm.ClassFile.FieldType)) ∈ gw := gw_2 (List.mem_of_getElem? (i := 71) rfl) rfl
theorem hw_2_72 : (Jvm.Cond.methodLink "SetFamilies$Derivation" (43 : Nat) ({ cls := "SetFamilies$Family", name := "closeUpwards", desc := "()V" } : Jvm.MethodName)) ∈ gw := gw_2 (List.mem_of_getElem? (i := 72) rfl) rfl
theorem hw_2_73 : (Jvm.Cond.instanceMethod ({ cls := "SetFamilies$Family", name := "closeUpwards", desc := "()V" } : Jvm.MethodName)) ∈ gw := gw_2 (List.mem_of_getElem? (i := 73) rfl) rfl
theorem hw_2_74 : (Jvm.Cond.selects "SetFamilies$Family" ({ cls := "SetFamilies$Family", name := "closeUpwards", desc := "()V" } : Jvm.MethodName) ({ cls := "SetFamilies$Family", name := "closeUpwards", desc := "()V" } : Jvm.MethodName)) ∈ gw := gw_2 (List.mem_of_getElem? (i := 74) rfl) rfl
theorem hw_2_75 : (Jvm.Cond.code ({ cls := "SetFamilies$Family", name := "closeUpwards", desc := "()V" } : Jvm.MethodName) prog_5_method_24_code (2 : Nat) (Option.none : Option Jvm.ClassFile.FieldType)) ∈ gw := gw_2 (List.mem_of_getElem? (i := 75) rfl) rfl
theorem hw_2_76 : (Jvm.Cond.methodLink "SetFamilies$Derivation" (37 : Nat) ({ cls := "SetFamilies$Family", name := "copy", desc := "(LSetFamilies$Family;)V" } : Jvm.MethodName)) ∈ gw := gw_2 (List.mem_of_getElem? (i := 76) rfl) rfl
theorem hw_2_77 : (Jvm.Cond.instanceMethod ({ cls := "SetFamilies$Family", name := "copy", desc := "(LSetFamilies$Family;)V" } : Jvm.MethodName)) ∈ gw := gw_2 (List.mem_of_getElem? (i := 77) rfl) rfl
theorem hw_2_78 : (Jvm.Cond.selects "SetFamilies$Family" ({ cls := "SetFamilies$Family", name := "copy", desc := "(LSetFamilies$Family;)V" } : Jvm.MethodName) ({ cls := "SetFamilies$Family", name := "copy", desc := "(LSetFamilies$Family;)V" } : Jvm.MethodName)) ∈ gw := gw_2 (List.mem_of_getElem? (i := 78) rfl) rfl
theorem hw_2_79 : (Jvm.Cond.code ({ cls := "SetFamilies$Family", name := "copy", desc := "(LSetFamilies$Family;)V" } : Jvm.MethodName) prog_5_method_3_code (2 : Nat) (Option.none : Option Jvm.ClassFile.FieldType)) ∈ gw := gw_2 (List.mem_of_getElem? (i := 79) rfl) rfl
theorem hw_2_80 : (Jvm.Cond.methodLink "SetFamilies$Family" (25 : Nat) ({ cls := "java/lang/System", name := "arraycopy", desc := "(Ljava/lang/Object;ILjava/lang/Object;II)V" } : Jvm.MethodName)) ∈ gw := gw_2 (List.mem_of_getElem? (i := 80) rfl) rfl
theorem hw_2_81 : (Jvm.Cond.static ({ cls := "java/lang/System", name := "arraycopy", desc := "(Ljava/lang/Object;ILjava/lang/Object;II)V" } : Jvm.MethodName)) ∈ gw := gw_2 (List.mem_of_getElem? (i := 81) rfl) rfl
theorem hw_2_82 : (Jvm.Cond.native ({ cls := "java/lang/System", name := "arraycopy", desc := "(Ljava/lang/Object;ILjava/lang/Object;II)V" } : Jvm.MethodName)) ∈ gw := gw_2 (List.mem_of_getElem? (i := 82) rfl) rfl
theorem hw_2_83 : (Jvm.Cond.methodLink "SetFamilies$Derivation" (65 : Nat) ({ cls := "SetFamilies$Family", name := "subtract", desc := "(LSetFamilies$Family;)V" } : Jvm.MethodName)) ∈ gw := gw_2 (List.mem_of_getElem? (i := 83) rfl) rfl
theorem hw_2_84 : (Jvm.Cond.instanceMethod ({ cls := "SetFamilies$Family", name := "subtract", desc := "(LSetFamilies$Family;)V" } : Jvm.MethodName)) ∈ gw := gw_2 (List.mem_of_getElem? (i := 84) rfl) rfl
theorem hw_2_85 : (Jvm.Cond.selects "SetFamilies$Family" ({ cls := "SetFamilies$Family", name := "subtract", desc := "(LSetFamilies$Family;)V" } : Jvm.MethodName) ({ cls := "SetFamilies$Family", name := "subtract", desc := "(LSetFamilies$Family;)V" } : Jvm.MethodName)) ∈ gw := gw_2 (List.mem_of_getElem? (i := 85) rfl) rfl
theorem hw_2_86 : (Jvm.Cond.code ({ cls := "SetFamilies$Family", name := "subtract", desc := "(LSetFamilies$Family;)V" } : Jvm.MethodName) prog_5_method_15_code (3 : Nat) (Option.none : Option Jvm.ClassFile.FieldType)) ∈ gw := gw_2 (List.mem_of_getElem? (i := 86) rfl) rfl
theorem hw_2_87 : (Jvm.Cond.methodLink "SetFamilies" (308 : Nat) ({ cls := "SetFamilies$Family", name := "sameAs", desc := "(LSetFamilies$Family;)Z" } : Jvm.MethodName)) ∈ gw := gw_2 (List.mem_of_getElem? (i := 87) rfl) rfl
theorem hw_2_88 : (Jvm.Cond.instanceMethod ({ cls := "SetFamilies$Family", name := "sameAs", desc := "(LSetFamilies$Family;)Z" } : Jvm.MethodName)) ∈ gw := gw_2 (List.mem_of_getElem? (i := 88) rfl) rfl
theorem hw_2_89 : (Jvm.Cond.selects "SetFamilies$Family" ({ cls := "SetFamilies$Family", name := "sameAs", desc := "(LSetFamilies$Family;)Z" } : Jvm.MethodName) ({ cls := "SetFamilies$Family", name := "sameAs", desc := "(LSetFamilies$Family;)Z" } : Jvm.MethodName)) ∈ gw := gw_2 (List.mem_of_getElem? (i := 89) rfl) rfl
theorem hw_2_90 : (Jvm.Cond.code ({ cls := "SetFamilies$Family", name := "sameAs", desc := "(LSetFamilies$Family;)Z" } : Jvm.MethodName) prog_5_method_12_code (3 : Nat) (Option.some Jvm.ClassFile.FieldType.boolean)) ∈ gw := gw_2 (List.mem_of_getElem? (i := 90) rfl) rfl
theorem hw_2_91 : (Jvm.Cond.methodLink "SetFamilies" (226 : Nat) ({ cls := "SetFamilies", name := "firstDisjointPair", desc := "(LSetFamilies$Family;LSetFamilies$Family;)I" } : Jvm.MethodName)) ∈ gw := gw_2 (List.mem_of_getElem? (i := 91) rfl) rfl
theorem hw_2_93 : (Jvm.Cond.instanceMethod ({ cls := "SetFamilies", name := "firstDisjointPair", desc := "(LSetFamilies$Family;LSetFamilies$Family;)I" } : Jvm.MethodName)) ∈ gw := gw_2 (List.mem_of_getElem? (i := 93) rfl) rfl
theorem hw_2_94 : (Jvm.Cond.code ({ cls := "SetFamilies", name := "firstDisjointPair", desc := "(LSetFamilies$Family;LSetFamilies$Family;)I" } : Jvm.MethodName) prog_1_method_45_code (5 : Nat) (Option.some Jvm.ClassFile.FieldType.int)) ∈ gw := gw_2 (List.mem_of_getElem? (i := 94) rfl) rfl
theorem hw_2_95 : (Jvm.Cond.methodLink "SetFamilies" (168 : Nat) ({ cls := "SetFamilies$Family", name := "copy", desc := "(LSetFamilies$Family;)V" } : Jvm.MethodName)) ∈ gw := gw_2 (List.mem_of_getElem? (i := 95) rfl) rfl
theorem hw_2_96 : (Jvm.Cond.methodLink "SetFamilies" (331 : Nat) ({ cls := "SetFamilies$Family", name := "closeUpwards", desc := "()V" } : Jvm.MethodName)) ∈ gw := gw_2 (List.mem_of_getElem? (i := 96) rfl) rfl
theorem hw_2_97 : (Jvm.Cond.methodLink "SetFamilies" (334 : Nat) ({ cls := "SetFamilies$Family", name := "mirror", desc := "()V" } : Jvm.MethodName)) ∈ gw := gw_2 (List.mem_of_getElem? (i := 97) rfl) rfl
theorem hw_2_98 : (Jvm.Cond.instanceMethod ({ cls := "SetFamilies$Family", name := "mirror", desc := "()V" } : Jvm.MethodName)) ∈ gw := gw_2 (List.mem_of_getElem? (i := 98) rfl) rfl
theorem hw_2_99 : (Jvm.Cond.selects "SetFamilies$Family" ({ cls := "SetFamilies$Family", name := "mirror", desc := "()V" } : Jvm.MethodName) ({ cls := "SetFamilies$Family", name := "mirror", desc := "()V" } : Jvm.MethodName)) ∈ gw := gw_2 (List.mem_of_getElem? (i := 99) rfl) rfl
theorem hw_2_100 : (Jvm.Cond.code ({ cls := "SetFamilies$Family", name := "mirror", desc := "()V" } : Jvm.MethodName) prog_5_method_28_code (2 : Nat) (Option.none : Option Jvm.ClassFile.FieldType)) ∈ gw := gw_2 (List.mem_of_getElem? (i := 100) rfl) rfl
theorem hw_2_101 : (Jvm.Cond.methodLink "SetFamilies$Family" (86 : Nat) ({ cls := "SetFamilies$Family", name := "exchange", desc := "(I)V" } : Jvm.MethodName)) ∈ gw := gw_2 (List.mem_of_getElem? (i := 101) rfl) rfl
theorem hw_2_103 : (Jvm.Cond.instanceMethod ({ cls := "SetFamilies$Family", name := "exchange", desc := "(I)V" } : Jvm.MethodName)) ∈ gw := gw_2 (List.mem_of_getElem? (i := 103) rfl) rfl
theorem hw_2_104 : (Jvm.Cond.code ({ cls := "SetFamilies$Family", name := "exchange", desc := "(I)V" } : Jvm.MethodName) prog_5_method_29_code (6 : Nat) (Option.none : Option Jvm.ClassFile.FieldType)) ∈ gw := gw_2 (List.mem_of_getElem? (i := 104) rfl) rfl
theorem hw_2_105 : (Jvm.Cond.methodLink "SetFamilies" (289 : Nat) ({ cls := "SetFamilies$Family", name := "meet", desc := "(LSetFamilies$Family;)V" } : Jvm.MethodName)) ∈ gw := gw_2 (List.mem_of_getElem? (i := 105) rfl) rfl
theorem hw_2_106 : (Jvm.Cond.instanceMethod ({ cls := "SetFamilies$Family", name := "meet", desc := "(LSetFamilies$Family;)V" } : Jvm.MethodName)) ∈ gw := gw_2 (List.mem_of_getElem? (i := 106) rfl) rfl
theorem hw_2_107 : (Jvm.Cond.selects "SetFamilies$Family" ({ cls := "SetFamilies$Family", name := "meet", desc := "(LSetFamilies$Family;)V" } : Jvm.MethodName) ({ cls := "SetFamilies$Family", name := "meet", desc := "(LSetFamilies$Family;)V" } : Jvm.MethodName)) ∈ gw := gw_2 (List.mem_of_getElem? (i := 107) rfl) rfl
theorem hw_2_108 : (Jvm.Cond.code ({ cls := "SetFamilies$Family", name := "meet", desc := "(LSetFamilies$Family;)V" } : Jvm.MethodName) prog_5_method_14_code (3 : Nat) (Option.none : Option Jvm.ClassFile.FieldType)) ∈ gw := gw_2 (List.mem_of_getElem? (i := 108) rfl) rfl
theorem hw_2_109 : (Jvm.Cond.methodLink "SetFamilies" (134 : Nat) ({ cls := "SetFamilies$Family", name := "atIndex", desc := "(I)I" } : Jvm.MethodName)) ∈ gw := gw_2 (List.mem_of_getElem? (i := 109) rfl) rfl
theorem hw_2_110 : (Jvm.Cond.instanceMethod ({ cls := "SetFamilies$Family", name := "atIndex", desc := "(I)I" } : Jvm.MethodName)) ∈ gw := gw_2 (List.mem_of_getElem? (i := 110) rfl) rfl
theorem hw_2_111 : (Jvm.Cond.selects "SetFamilies$Family" ({ cls := "SetFamilies$Family", name := "atIndex", desc := "(I)I" } : Jvm.MethodName) ({ cls := "SetFamilies$Family", name := "atIndex", desc := "(I)I" } : Jvm.MethodName)) ∈ gw := gw_2 (List.mem_of_getElem? (i := 111) rfl) rfl
theorem hw_2_112 : (Jvm.Cond.code ({ cls := "SetFamilies$Family", name := "atIndex", desc := "(I)I" } : Jvm.MethodName) prog_5_method_10_code (5 : Nat) (Option.some Jvm.ClassFile.FieldType.int)) ∈ gw := gw_2 (List.mem_of_getElem? (i := 112) rfl) rfl
theorem hw_2_113 : (Jvm.Cond.methodLink "SetFamilies$Family" (59 : Nat) ({ cls := "SetFamilies$Family", name := "bitAt", desc := "(JI)I" } : Jvm.MethodName)) ∈ gw := gw_2 (List.mem_of_getElem? (i := 113) rfl) rfl
theorem hw_2_114 : (Jvm.Cond.static ({ cls := "SetFamilies$Family", name := "bitAt", desc := "(JI)I" } : Jvm.MethodName)) ∈ gw := gw_2 (List.mem_of_getElem? (i := 114) rfl) rfl
theorem hw_2_115 : (Jvm.Cond.code ({ cls := "SetFamilies$Family", name := "bitAt", desc := "(JI)I" } : Jvm.MethodName) prog_5_method_31_code (6 : Nat) (Option.some Jvm.ClassFile.FieldType.int)) ∈ gw := gw_2 (List.mem_of_getElem? (i := 115) rfl) rfl
theorem hw_2_116 : (Jvm.Cond.methodLink "SetFamilies" (172 : Nat) ({ cls := "SetFamilies", name := "holds", desc := "(II)Z" } : Jvm.MethodName)) ∈ gw := gw_2 (List.mem_of_getElem? (i := 116) rfl) rfl
theorem hw_2_117 : (Jvm.Cond.static ({ cls := "SetFamilies", name := "holds", desc := "(II)Z" } : Jvm.MethodName)) ∈ gw := gw_2 (List.mem_of_getElem? (i := 117) rfl) rfl
theorem hw_2_118 : (Jvm.Cond.code ({ cls := "SetFamilies", name := "holds", desc := "(II)Z" } : Jvm.MethodName) prog_1_method_37_code (2 : Nat) (Option.some Jvm.ClassFile.FieldType.boolean)) ∈ gw := gw_2 (List.mem_of_getElem? (i := 118) rfl) rfl
theorem hw_2_119 : (Jvm.Cond.methodLink "SetFamilies" (337 : Nat) ({ cls := "SetFamilies$Family", name := "keepLacking", desc := "(I)V" } : Jvm.MethodName)) ∈ gw := gw_2 (List.mem_of_getElem? (i := 119) rfl) rfl
theorem hw_2_120 : (Jvm.Cond.instanceMethod ({ cls := "SetFamilies$Family", name := "keepLacking", desc := "(I)V" } : Jvm.MethodName)) ∈ gw := gw_2 (List.mem_of_getElem? (i := 120) rfl) rfl
theorem hw_2_121 : (Jvm.Cond.selects "SetFamilies$Family" ({ cls := "SetFamilies$Family", name := "keepLacking", desc := "(I)V" } : Jvm.MethodName) ({ cls := "SetFamilies$Family", name := "keepLacking", desc := "(I)V" } : Jvm.MethodName)) ∈ gw := gw_2 (List.mem_of_getElem? (i := 121) rfl) rfl
theorem hw_2_122 : (Jvm.Cond.code ({ cls := "SetFamilies$Family", name := "keepLacking", desc := "(I)V" } : Jvm.MethodName) prog_5_method_19_code (3 : Nat) (Option.none : Option Jvm.ClassFile.FieldType)) ∈ gw := gw_2 (List.mem_of_getElem? (i := 122) rfl) rfl
theorem hw_2_123 : (Jvm.Cond.methodLink "SetFamilies" (312 : Nat) ({ cls := "SetFamilies$Derivation", name := "layUnions", desc := "(LSetFamilies$Family;LSetFamilies$Family;)V" } : Jvm.MethodName)) ∈ gw := gw_2 (List.mem_of_getElem? (i := 123) rfl) rfl
theorem hw_2_124 : (Jvm.Cond.instanceMethod ({ cls := "SetFamilies$Derivation", name := "layUnions", desc := "(LSetFamilies$Family;LSetFamilies$Family;)V" } : Jvm.MethodName)) ∈ gw := gw_2 (List.mem_of_getElem? (i := 124) rfl) rfl
theorem hw_2_125 : (Jvm.Cond.selects "SetFamilies$Derivation" ({ cls := "SetFamilies$Derivation", name := "layUnions", desc := "(LSetFamilies$Family;LSetFamilies$Family;)V" } : Jvm.MethodName) ({ cls := "SetFamilies$Derivation", name := "layUnions", desc := "(LSetFamilies$Family;LSetFamilies$Family;)V" } : Jvm.MethodName)) ∈ gw := gw_2 (List.mem_of_getElem? (i := 125) rfl) rfl
theorem hw_2_126 : (Jvm.Cond.code ({ cls := "SetFamilies$Derivation", name := "layUnions", desc := "(LSetFamilies$Family;LSetFamilies$Family;)V" } : Jvm.MethodName) prog_4_method_4_code (4 : Nat) (Option.none : Option Jvm.ClassFile.FieldType)) ∈ gw := gw_2 (List.mem_of_getElem? (i := 126) rfl) rfl
theorem hw_2_127 : (Jvm.Cond.methodLink "SetFamilies$Derivation" (68 : Nat) ({ cls := "SetFamilies$Family", name := "clear", desc := "()V" } : Jvm.MethodName)) ∈ gw := gw_2 (List.mem_of_getElem? (i := 127) rfl) rfl
theorem hw_2_128 : (Jvm.Cond.methodLink "SetFamilies$Derivation" (71 : Nat) ({ cls := "SetFamilies$Family", name := "invert", desc := "()V" } : Jvm.MethodName)) ∈ gw := gw_2 (List.mem_of_getElem? (i := 128) rfl) rfl
theorem hw_2_129 : (Jvm.Cond.instanceMethod ({ cls := "SetFamilies$Family", name := "invert", desc := "()V" } : Jvm.MethodName)) ∈ gw := gw_2 (List.mem_of_getElem? (i := 129) rfl) rfl
theorem hw_2_130 : (Jvm.Cond.selects "SetFamilies$Family" ({ cls := "SetFamilies$Family", name := "invert", desc := "()V" } : Jvm.MethodName) ({ cls := "SetFamilies$Family", name := "invert", desc := "()V" } : Jvm.MethodName)) ∈ gw := gw_2 (List.mem_of_getElem? (i := 130) rfl) rfl
theorem hw_2_131 : (Jvm.Cond.code ({ cls := "SetFamilies$Family", name := "invert", desc := "()V" } : Jvm.MethodName) prog_5_method_17_code (4 : Nat) (Option.none : Option Jvm.ClassFile.FieldType)) ∈ gw := gw_2 (List.mem_of_getElem? (i := 131) rfl) rfl
theorem hw_2_132 : (Jvm.Cond.methodLink "SetFamilies$Derivation" (80 : Nat) ({ cls := "SetFamilies$Family", name := "keepHolding", desc := "(I)V" } : Jvm.MethodName)) ∈ gw := gw_2 (List.mem_of_getElem? (i := 132) rfl) rfl
theorem hw_2_133 : (Jvm.Cond.instanceMethod ({ cls := "SetFamilies$Family", name := "keepHolding", desc := "(I)V" } : Jvm.MethodName)) ∈ gw := gw_2 (List.mem_of_getElem? (i := 133) rfl) rfl
theorem hw_2_134 : (Jvm.Cond.selects "SetFamilies$Family" ({ cls := "SetFamilies$Family", name := "keepHolding", desc := "(I)V" } : Jvm.MethodName) ({ cls := "SetFamilies$Family", name := "keepHolding", desc := "(I)V" } : Jvm.MethodName)) ∈ gw := gw_2 (List.mem_of_getElem? (i := 134) rfl) rfl
theorem hw_2_135 : (Jvm.Cond.code ({ cls := "SetFamilies$Family", name := "keepHolding", desc := "(I)V" } : Jvm.MethodName) prog_5_method_20_code (3 : Nat) (Option.none : Option Jvm.ClassFile.FieldType)) ∈ gw := gw_2 (List.mem_of_getElem? (i := 135) rfl) rfl
theorem hw_2_136 : (Jvm.Cond.methodLink "SetFamilies$Derivation" (84 : Nat) ({ cls := "SetFamilies$Family", name := "contains", desc := "(I)Z" } : Jvm.MethodName)) ∈ gw := gw_2 (List.mem_of_getElem? (i := 136) rfl) rfl
theorem hw_2_137 : (Jvm.Cond.instanceMethod ({ cls := "SetFamilies$Family", name := "contains", desc := "(I)Z" } : Jvm.MethodName)) ∈ gw := gw_2 (List.mem_of_getElem? (i := 137) rfl) rfl
theorem hw_2_138 : (Jvm.Cond.selects "SetFamilies$Family" ({ cls := "SetFamilies$Family", name := "contains", desc := "(I)Z" } : Jvm.MethodName) ({ cls := "SetFamilies$Family", name := "contains", desc := "(I)Z" } : Jvm.MethodName)) ∈ gw := gw_2 (List.mem_of_getElem? (i := 138) rfl) rfl
theorem hw_2_139 : (Jvm.Cond.code ({ cls := "SetFamilies$Family", name := "contains", desc := "(I)Z" } : Jvm.MethodName) prog_5_method_4_code (2 : Nat) (Option.some Jvm.ClassFile.FieldType.boolean)) ∈ gw := gw_2 (List.mem_of_getElem? (i := 139) rfl) rfl
theorem hw_2_140 : (Jvm.Cond.methodLink "SetFamilies$Family" (31 : Nat) ({ cls := "SetFamilies$Family", name := "wordOf", desc := "(I)I" } : Jvm.MethodName)) ∈ gw := gw_2 (List.mem_of_getElem? (i := 140) rfl) rfl
theorem hw_2_141 : (Jvm.Cond.static ({ cls := "SetFamilies$Family", name := "wordOf", desc := "(I)I" } : Jvm.MethodName)) ∈ gw := gw_2 (List.mem_of_getElem? (i := 141) rfl) rfl
theorem hw_2_142 : (Jvm.Cond.code ({ cls := "SetFamilies$Family", name := "wordOf", desc := "(I)I" } : Jvm.MethodName) prog_5_method_32_code (1 : Nat) (Option.some Jvm.ClassFile.FieldType.int)) ∈ gw := gw_2 (List.mem_of_getElem? (i := 142) rfl) rfl
theorem hw_2_143 : (Jvm.Cond.methodLink "SetFamilies$Family" (35 : Nat) ({ cls := "SetFamilies$Family", name := "bitOf", desc := "(I)J" } : Jvm.MethodName)) ∈ gw := gw_2 (List.mem_of_getElem? (i := 143) rfl) rfl
theorem hw_2_144 : (Jvm.Cond.static ({ cls := "SetFamilies$Family", name := "bitOf", desc := "(I)J" } : Jvm.MethodName)) ∈ gw := gw_2 (List.mem_of_getElem? (i := 144) rfl) rfl
theorem hw_2_145 : (Jvm.Cond.code ({ cls := "SetFamilies$Family", name := "bitOf", desc := "(I)J" } : Jvm.MethodName) prog_5_method_33_code (1 : Nat) (Option.some Jvm.ClassFile.FieldType.long)) ∈ gw := gw_2 (List.mem_of_getElem? (i := 145) rfl) rfl
theorem hw_2_146 : (Jvm.Cond.methodLink "SetFamilies$Derivation" (88 : Nat) ({ cls := "SetFamilies$Family", name := "drop", desc := "(I)V" } : Jvm.MethodName)) ∈ gw := gw_2 (List.mem_of_getElem? (i := 146) rfl) rfl
theorem hw_2_147 : (Jvm.Cond.instanceMethod ({ cls := "SetFamilies$Family", name := "drop", desc := "(I)V" } : Jvm.MethodName)) ∈ gw := gw_2 (List.mem_of_getElem? (i := 147) rfl) rfl
theorem hw_2_148 : (Jvm.Cond.selects "SetFamilies$Family" ({ cls := "SetFamilies$Family", name := "drop", desc := "(I)V" } : Jvm.MethodName) ({ cls := "SetFamilies$Family", name := "drop", desc := "(I)V" } : Jvm.MethodName)) ∈ gw := gw_2 (List.mem_of_getElem? (i := 148) rfl) rfl
theorem hw_2_149 : (Jvm.Cond.code ({ cls := "SetFamilies$Family", name := "drop", desc := "(I)V" } : Jvm.MethodName) prog_5_method_6_code (2 : Nat) (Option.none : Option Jvm.ClassFile.FieldType)) ∈ gw := gw_2 (List.mem_of_getElem? (i := 149) rfl) rfl
theorem hw_2_150 : (Jvm.Cond.methodLink "SetFamilies" (315 : Nat) ({ cls := "SetFamilies$Derivation", name := "layIntersections", desc := "(LSetFamilies$Family;LSetFamilies$Family;)V" } : Jvm.MethodName)) ∈ gw := gw_2 (List.mem_of_getElem? (i := 150) rfl) rfl
theorem hw_2_151 : (Jvm.Cond.instanceMethod ({ cls := "SetFamilies$Derivation", name := "layIntersections", desc := "(LSetFamilies$Family;LSetFamilies$Family;)V" } : Jvm.MethodName)) ∈ gw := gw_2 (List.mem_of_getElem? (i := 151) rfl) rfl
theorem hw_2_152 : (Jvm.Cond.selects "SetFamilies$Derivation" ({ cls := "SetFamilies$Derivation", name := "layIntersections", desc := "(LSetFamilies$Family;LSetFamilies$Family;)V" } : Jvm.MethodName) ({ cls := "SetFamilies$Derivation", name := "layIntersections", desc := "(LSetFamilies$Family;LSetFamilies$Family;)V" } : Jvm.MethodName)) ∈ gw := gw_2 (List.mem_of_getElem? (i := 152) rfl) rfl
theorem hw_2_153 : (Jvm.Cond.code ({ cls := "SetFamilies$Derivation", name := "layIntersections", desc := "(LSetFamilies$Family;LSetFamilies$Family;)V" } : Jvm.MethodName) prog_4_method_5_code (3 : Nat) (Option.none : Option Jvm.ClassFile.FieldType)) ∈ gw := gw_2 (List.mem_of_getElem? (i := 153) rfl) rfl
theorem hw_2_154 : (Jvm.Cond.methodLink "SetFamilies$Derivation" (53 : Nat) ({ cls := "SetFamilies$Family", name := "mirror", desc := "()V" } : Jvm.MethodName)) ∈ gw := gw_2 (List.mem_of_getElem? (i := 154) rfl) rfl
theorem hw_2_155 : (Jvm.Cond.methodLink "SetFamilies$Derivation" (59 : Nat) ({ cls := "SetFamilies$Derivation", name := "layUnions", desc := "(LSetFamilies$Family;LSetFamilies$Family;)V" } : Jvm.MethodName)) ∈ gw := gw_2 (List.mem_of_getElem? (i := 155) rfl) rfl
theorem hw_2_156 : (Jvm.Cond.methodLink "SetFamilies" (301 : Nat) ({ cls := "SetFamilies$Family", name := "becomeShadow", desc := "(LSetFamilies$Family;)V" } : Jvm.MethodName)) ∈ gw := gw_2 (List.mem_of_getElem? (i := 156) rfl) rfl
theorem hw_2_157 : (Jvm.Cond.instanceMethod ({ cls := "SetFamilies$Family", name := "becomeShadow", desc := "(LSetFamilies$Family;)V" } : Jvm.MethodName)) ∈ gw := gw_2 (List.mem_of_getElem? (i := 157) rfl) rfl
theorem hw_2_158 : (Jvm.Cond.selects "SetFamilies$Family" ({ cls := "SetFamilies$Family", name := "becomeShadow", desc := "(LSetFamilies$Family;)V" } : Jvm.MethodName) ({ cls := "SetFamilies$Family", name := "becomeShadow", desc := "(LSetFamilies$Family;)V" } : Jvm.MethodName)) ∈ gw := gw_2 (List.mem_of_getElem? (i := 158) rfl) rfl
theorem hw_2_159 : (Jvm.Cond.code ({ cls := "SetFamilies$Family", name := "becomeShadow", desc := "(LSetFamilies$Family;)V" } : Jvm.MethodName) prog_5_method_26_code (3 : Nat) (Option.none : Option Jvm.ClassFile.FieldType)) ∈ gw := gw_2 (List.mem_of_getElem? (i := 159) rfl) rfl
theorem hw_2_160 : (Jvm.Cond.methodLink "SetFamilies$Family" (72 : Nat) ({ cls := "SetFamilies$Family", name := "joinLowered", desc := "(LSetFamilies$Family;I)V" } : Jvm.MethodName)) ∈ gw := gw_2 (List.mem_of_getElem? (i := 160) rfl) rfl
theorem hw_2_161 : (Jvm.Cond.instanceMethod ({ cls := "SetFamilies$Family", name := "joinLowered", desc := "(LSetFamilies$Family;I)V" } : Jvm.MethodName)) ∈ gw := gw_2 (List.mem_of_getElem? (i := 161) rfl) rfl
theorem hw_2_162 : (Jvm.Cond.selects "SetFamilies$Family" ({ cls := "SetFamilies$Family", name := "joinLowered", desc := "(LSetFamilies$Family;I)V" } : Jvm.MethodName) ({ cls := "SetFamilies$Family", name := "joinLowered", desc := "(LSetFamilies$Family;I)V" } : Jvm.MethodName)) ∈ gw := gw_2 (List.mem_of_getElem? (i := 162) rfl) rfl
theorem hw_2_163 : (Jvm.Cond.code ({ cls := "SetFamilies$Family", name := "joinLowered", desc := "(LSetFamilies$Family;I)V" } : Jvm.MethodName) prog_5_method_21_code (6 : Nat) (Option.none : Option Jvm.ClassFile.FieldType)) ∈ gw := gw_2 (List.mem_of_getElem? (i := 163) rfl) rfl
theorem hw_2_164 : (Jvm.Cond.methodLink "SetFamilies" (292 : Nat) ({ cls := "SetFamilies$Family", name := "subtract", desc := "(LSetFamilies$Family;)V" } : Jvm.MethodName)) ∈ gw := gw_2 (List.mem_of_getElem? (i := 164) rfl) rfl
theorem hw_2_165 : (Jvm.Cond.methodLink "SetFamilies" (123 : Nat) ({ cls := "SetFamilies$Family", name := "count", desc := "()I" } : Jvm.MethodName)) ∈ gw := gw_2 (List.mem_of_getElem? (i := 165) rfl) rfl
theorem hw_2_166 : (Jvm.Cond.instanceMethod ({ cls := "SetFamilies$Family", name := "count", desc := "()I" } : Jvm.MethodName)) ∈ gw := gw_2 (List.mem_of_getElem? (i := 166) rfl) rfl
theorem hw_2_167 : (Jvm.Cond.selects "SetFamilies$Family" ({ cls := "SetFamilies$Family", name := "count", desc := "()I" } : Jvm.MethodName) ({ cls := "SetFamilies$Family", name := "count", desc := "()I" } : Jvm.MethodName)) ∈ gw := gw_2 (List.mem_of_getElem? (i := 167) rfl) rfl
theorem hw_2_168 : (Jvm.Cond.code ({ cls := "SetFamilies$Family", name := "count", desc := "()I" } : Jvm.MethodName) prog_5_method_7_code (3 : Nat) (Option.some Jvm.ClassFile.FieldType.int)) ∈ gw := gw_2 (List.mem_of_getElem? (i := 168) rfl) rfl
theorem hw_2_169 : (Jvm.Cond.methodLink "SetFamilies" (318 : Nat) ({ cls := "SetFamilies$Compression", name := "changesNothing", desc := "(LSetFamilies$Family;)Z" } : Jvm.MethodName)) ∈ gw := gw_2 (List.mem_of_getElem? (i := 169) rfl) rfl
theorem hw_2_170 : (Jvm.Cond.instanceMethod ({ cls := "SetFamilies$Compression", name := "changesNothing", desc := "(LSetFamilies$Family;)Z" } : Jvm.MethodName)) ∈ gw := gw_2 (List.mem_of_getElem? (i := 170) rfl) rfl
theorem hw_2_171 : (Jvm.Cond.selects "SetFamilies$Compression" ({ cls := "SetFamilies$Compression", name := "changesNothing", desc := "(LSetFamilies$Family;)Z" } : Jvm.MethodName) ({ cls := "SetFamilies$Compression", name := "changesNothing", desc := "(LSetFamilies$Family;)Z" } : Jvm.MethodName)) ∈ gw := gw_2 (List.mem_of_getElem? (i := 171) rfl) rfl
theorem hw_2_172 : (Jvm.Cond.code ({ cls := "SetFamilies$Compression", name := "changesNothing", desc := "(LSetFamilies$Family;)Z" } : Jvm.MethodName) prog_3_method_4_code (4 : Nat) (Option.some Jvm.ClassFile.FieldType.boolean)) ∈ gw := gw_2 (List.mem_of_getElem? (i := 172) rfl) rfl
theorem hw_2_173 : (Jvm.Cond.methodLink "SetFamilies$Compression" (28 : Nat) ({ cls := "SetFamilies$Compression", name := "layExchanged", desc := "(LSetFamilies$Family;LSetFamilies$Family;II)V" } : Jvm.MethodName)) ∈ gw := gw_2 (List.mem_of_getElem? (i := 173) rfl) rfl
theorem hw_2_175 : (Jvm.Cond.instanceMethod ({ cls := "SetFamilies$Compression", name := "layExchanged", desc := "(LSetFamilies$Family;LSetFamilies$Family;II)V" } : Jvm.MethodName)) ∈ gw := gw_2 (List.mem_of_getElem? (i := 175) rfl) rfl
theorem hw_2_176 : (Jvm.Cond.code ({ cls := "SetFamilies$Compression", name := "layExchanged", desc := "(LSetFamilies$Family;LSetFamilies$Family;II)V" } : Jvm.MethodName) prog_3_method_6_code (5 : Nat) (Option.none : Option Jvm.ClassFile.FieldType)) ∈ gw := gw_2 (List.mem_of_getElem? (i := 176) rfl) rfl
theorem hw_2_177 : (Jvm.Cond.methodLink "SetFamilies$Compression" (58 : Nat) ({ cls := "SetFamilies$Family", name := "clear", desc := "()V" } : Jvm.MethodName)) ∈ gw := gw_2 (List.mem_of_getElem? (i := 177) rfl) rfl
theorem hw_2_178 : (Jvm.Cond.methodLink "SetFamilies$Compression" (61 : Nat) ({ cls := "SetFamilies$Family", name := "joinLowered", desc := "(LSetFamilies$Family;I)V" } : Jvm.MethodName)) ∈ gw := gw_2 (List.mem_of_getElem? (i := 178) rfl) rfl
theorem hw_2_179 : (Jvm.Cond.methodLink "SetFamilies$Compression" (65 : Nat) ({ cls := "SetFamilies$Family", name := "joinRaised", desc := "(LSetFamilies$Family;I)V" } : Jvm.MethodName)) ∈ gw := gw_2 (List.mem_of_getElem? (i := 179) rfl) rfl
theorem hw_2_180 : (Jvm.Cond.methodLink "SetFamilies$Compression" (32 : Nat) ({ cls := "SetFamilies$Family", name := "subtract", desc := "(LSetFamilies$Family;)V" } : Jvm.MethodName)) ∈ gw := gw_2 (List.mem_of_getElem? (i := 180) rfl) rfl
theorem hw_2_181 : (Jvm.Cond.methodLink "SetFamilies$Compression" (39 : Nat) ({ cls := "SetFamilies$Family", name := "count", desc := "()I" } : Jvm.MethodName)) ∈ gw := gw_2 (List.mem_of_getElem? (i := 181) rfl) rfl
theorem hw_2_182 : (Jvm.Cond.methodLink "SetFamilies" (216 : Nat) ({ cls := "SetFamilies", name := "weightOf", desc := "(LSetFamilies$Family;Z)J" } : Jvm.MethodName)) ∈ gw := gw_2 (List.mem_of_getElem? (i := 182) rfl) rfl
theorem hw_2_184 : (Jvm.Cond.instanceMethod ({ cls := "SetFamilies", name := "weightOf", desc := "(LSetFamilies$Family;Z)J" } : Jvm.MethodName)) ∈ gw := gw_2 (List.mem_of_getElem? (i := 184) rfl) rfl
theorem hw_2_185 : (Jvm.Cond.code ({ cls := "SetFamilies", name := "weightOf", desc := "(LSetFamilies$Family;Z)J" } : Jvm.MethodName) prog_1_method_44_code (8 : Nat) (Option.some Jvm.ClassFile.FieldType.long)) ∈ gw := gw_2 (List.mem_of_getElem? (i := 185) rfl) rfl
theorem hw_2_186 : (Jvm.Cond.methodLink "SetFamilies" (179 : Nat) ({ cls := "SetFamilies$Colex", name := "binomial", desc := "(II)J" } : Jvm.MethodName)) ∈ gw := gw_2 (List.mem_of_getElem? (i := 186) rfl) rfl
theorem hw_2_187 : (Jvm.Cond.static ({ cls := "SetFamilies$Colex", name := "binomial", desc := "(II)J" } : Jvm.MethodName)) ∈ gw := gw_2 (List.mem_of_getElem? (i := 187) rfl) rfl
theorem hw_2_188 : (Jvm.Cond.code ({ cls := "SetFamilies$Colex", name := "binomial", desc := "(II)J" } : Jvm.MethodName) prog_2_method_2_code (5 : Nat) (Option.some Jvm.ClassFile.FieldType.long)) ∈ gw := gw_2 (List.mem_of_getElem? (i := 188) rfl) rfl
theorem hw_2_189 : (Jvm.Cond.methodLink "SetFamilies" (321 : Nat) ({ cls := "java/lang/Math", name := "max", desc := "(JJ)J" } : Jvm.MethodName)) ∈ gw := gw_2 (List.mem_of_getElem? (i := 189) rfl) rfl
theorem hw_2_190 : (Jvm.Cond.static ({ cls := "java/lang/Math", name := "max", desc := "(JJ)J" } : Jvm.MethodName)) ∈ gw := gw_2 (List.mem_of_getElem? (i := 190) rfl) rfl
theorem hw_2_191 : (Jvm.Cond.code ({ cls := "java/lang/Math", name := "max", desc := "(JJ)J" } : Jvm.MethodName) prog_20_method_66_code (4 : Nat) (Option.some Jvm.ClassFile.FieldType.long)) ∈ gw := gw_2 (List.mem_of_getElem? (i := 191) rfl) rfl
theorem hw_2_192 : (Jvm.Cond.methodLink "SetFamilies" (127 : Nat) ({ cls := "SetFamilies$Family", name := "countOfSize", desc := "(I)I" } : Jvm.MethodName)) ∈ gw := gw_2 (List.mem_of_getElem? (i := 192) rfl) rfl
theorem hw_2_193 : (Jvm.Cond.instanceMethod ({ cls := "SetFamilies$Family", name := "countOfSize", desc := "(I)I" } : Jvm.MethodName)) ∈ gw := gw_2 (List.mem_of_getElem? (i := 193) rfl) rfl
theorem hw_2_194 : (Jvm.Cond.selects "SetFamilies$Family" ({ cls := "SetFamilies$Family", name := "countOfSize", desc := "(I)I" } : Jvm.MethodName) ({ cls := "SetFamilies$Family", name := "countOfSize", desc := "(I)I" } : Jvm.MethodName)) ∈ gw := gw_2 (List.mem_of_getElem? (i := 194) rfl) rfl
theorem hw_2_195 : (Jvm.Cond.code ({ cls := "SetFamilies$Family", name := "countOfSize", desc := "(I)I" } : Jvm.MethodName) prog_5_method_8_code (4 : Nat) (Option.some Jvm.ClassFile.FieldType.int)) ∈ gw := gw_2 (List.mem_of_getElem? (i := 195) rfl) rfl
theorem hw_2_196 : (Jvm.Cond.methodLink "SetFamilies$Family" (52 : Nat) ({ cls := "SetFamilies$Family", name := "ofSize", desc := "(II)J" } : Jvm.MethodName)) ∈ gw := gw_2 (List.mem_of_getElem? (i := 196) rfl) rfl
theorem hw_2_197 : (Jvm.Cond.static ({ cls := "SetFamilies$Family", name := "ofSize", desc := "(II)J" } : Jvm.MethodName)) ∈ gw := gw_2 (List.mem_of_getElem? (i := 197) rfl) rfl
theorem hw_2_198 : (Jvm.Cond.code ({ cls := "SetFamilies$Family", name := "ofSize", desc := "(II)J" } : Jvm.MethodName) prog_5_method_35_code (3 : Nat) (Option.some Jvm.ClassFile.FieldType.long)) ∈ gw := gw_2 (List.mem_of_getElem? (i := 198) rfl) rfl
theorem hw_2_199 : (Jvm.Cond.methodLink "SetFamilies$Family" (89 : Nat) ({ cls := "java/lang/Integer", name := "bitCount", desc := "(I)I" } : Jvm.MethodName)) ∈ gw := gw_2 (List.mem_of_getElem? (i := 199) rfl) rfl
theorem hw_2_200 : (Jvm.Cond.static ({ cls := "java/lang/Integer", name := "bitCount", desc := "(I)I" } : Jvm.MethodName)) ∈ gw := gw_2 (List.mem_of_getElem? (i := 200) rfl) rfl
theorem hw_2_201 : (Jvm.Cond.code ({ cls := "java/lang/Integer", name := "bitCount", desc := "(I)I" } : Jvm.MethodName) prog_18_method_49_code (1 : Nat) (Option.some Jvm.ClassFile.FieldType.int)) ∈ gw := gw_2 (List.mem_of_getElem? (i := 201) rfl) rfl
theorem hw_2_202 : (Jvm.Cond.constant "java/lang/Integer" (265 : Nat) (1431655765 : Int32)) ∈ gw := gw_2 (List.mem_of_getElem? (i := 202) rfl) rfl
theorem hw_2_203 : (Jvm.Cond.constant "java/lang/Integer" (266 : Nat) (858993459 : Int32)) ∈ gw := gw_2 (List.mem_of_getElem? (i := 203) rfl) rfl
theorem hw_2_204 : (Jvm.Cond.constant "java/lang/Integer" (267 : Nat) (252645135 : Int32)) ∈ gw := gw_2 (List.mem_of_getElem? (i := 204) rfl) rfl
theorem hw_2_205 : (Jvm.Cond.fieldLink "SetFamilies$Family" (93 : Nat) "SetFamilies$Family" "OF_SIZE" "[J") ∈ gw := gw_2 (List.mem_of_getElem? (i := 205) rfl) rfl
theorem hw_2_207 : (Jvm.Cond.constantLong "SetFamilies" (326 : Nat) (2520 : Int64)) ∈ gw := gw_2 (List.mem_of_getElem? (i := 207) rfl) rfl
theorem hw_2_208 : (Jvm.Cond.methodLink "SetFamilies" (328 : Nat) ({ cls := "SetFamilies$Colex", name := "greatestDivisor", desc := "(JJ)J" } : Jvm.MethodName)) ∈ gw := gw_2 (List.mem_of_getElem? (i := 208) rfl) rfl
theorem hw_2_209 : (Jvm.Cond.static ({ cls := "SetFamilies$Colex", name := "greatestDivisor", desc := "(JJ)J" } : Jvm.MethodName)) ∈ gw := gw_2 (List.mem_of_getElem? (i := 209) rfl) rfl
theorem hw_2_210 : (Jvm.Cond.code ({ cls := "SetFamilies$Colex", name := "greatestDivisor", desc := "(JJ)J" } : Jvm.MethodName) prog_2_method_7_code (11 : Nat) (Option.some Jvm.ClassFile.FieldType.long)) ∈ gw := gw_2 (List.mem_of_getElem? (i := 210) rfl) rfl
theorem hw_2_211 : (Jvm.Cond.methodLink "SetFamilies" (274 : Nat) ({ cls := "SetFamilies", name := "mixStructure", desc := "(JLSetFamilies$Family;)J" } : Jvm.MethodName)) ∈ gw := gw_2 (List.mem_of_getElem? (i := 211) rfl) rfl
theorem hw_2_213 : (Jvm.Cond.instanceMethod ({ cls := "SetFamilies", name := "mixStructure", desc := "(JLSetFamilies$Family;)J" } : Jvm.MethodName)) ∈ gw := gw_2 (List.mem_of_getElem? (i := 213) rfl) rfl
theorem hw_2_214 : (Jvm.Cond.code ({ cls := "SetFamilies", name := "mixStructure", desc := "(JLSetFamilies$Family;)J" } : Jvm.MethodName) prog_1_method_49_code (8 : Nat) (Option.some Jvm.ClassFile.FieldType.long)) ∈ gw := gw_2 (List.mem_of_getElem? (i := 214) rfl) rfl
theorem hw_2_215 : (Jvm.Cond.methodLink "SetFamilies" (220 : Nat) ({ cls := "SetFamilies$Shattering", name := "firstLargest", desc := "(LSetFamilies$Family;)I" } : Jvm.MethodName)) ∈ gw := gw_2 (List.mem_of_getElem? (i := 215) rfl) rfl
theorem hw_2_216 : (Jvm.Cond.instanceMethod ({ cls := "SetFamilies$Shattering", name := "firstLargest", desc := "(LSetFamilies$Family;)I" } : Jvm.MethodName)) ∈ gw := gw_2 (List.mem_of_getElem? (i := 216) rfl) rfl
theorem hw_2_217 : (Jvm.Cond.selects "SetFamilies$Shattering" ({ cls := "SetFamilies$Shattering", name := "firstLargest", desc := "(LSetFamilies$Family;)I" } : Jvm.MethodName) ({ cls := "SetFamilies$Shattering", name := "firstLargest", desc := "(LSetFamilies$Family;)I" } : Jvm.MethodName)) ∈ gw := gw_2 (List.mem_of_getElem? (i := 217) rfl) rfl
theorem hw_2_218 : (Jvm.Cond.code ({ cls := "SetFamilies$Shattering", name := "firstLargest", desc := "(LSetFamilies$Family;)I" } : Jvm.MethodName) prog_9_method_2_code (9 : Nat) (Option.some Jvm.ClassFile.FieldType.int)) ∈ gw := gw_2 (List.mem_of_getElem? (i := 218) rfl) rfl
theorem hw_2_219 : (Jvm.Cond.methodLink "SetFamilies$Shattering" (24 : Nat) ({ cls := "SetFamilies$Family", name := "count", desc := "()I" } : Jvm.MethodName)) ∈ gw := gw_2 (List.mem_of_getElem? (i := 219) rfl) rfl
theorem hw_2_220 : (Jvm.Cond.methodLink "SetFamilies$Shattering" (28 : Nat) ({ cls := "SetFamilies$Ground", name := "everything", desc := "()I" } : Jvm.MethodName)) ∈ gw := gw_2 (List.mem_of_getElem? (i := 220) rfl) rfl
theorem hw_2_221 : (Jvm.Cond.instanceMethod ({ cls := "SetFamilies$Ground", name := "everything", desc := "()I" } : Jvm.MethodName)) ∈ gw := gw_2 (List.mem_of_getElem? (i := 221) rfl) rfl
theorem hw_2_222 : (Jvm.Cond.selects "SetFamilies$Ground" ({ cls := "SetFamilies$Ground", name := "everything", desc := "()I" } : Jvm.MethodName) ({ cls := "SetFamilies$Ground", name := "everything", desc := "()I" } : Jvm.MethodName)) ∈ gw := gw_2 (List.mem_of_getElem? (i := 222) rfl) rfl
theorem hw_2_223 : (Jvm.Cond.code ({ cls := "SetFamilies$Ground", name := "everything", desc := "()I" } : Jvm.MethodName) prog_6_method_3_code (1 : Nat) (Option.some Jvm.ClassFile.FieldType.int)) ∈ gw := gw_2 (List.mem_of_getElem? (i := 223) rfl) rfl
theorem hw_2_224 : (Jvm.Cond.methodLink "SetFamilies$Shattering" (33 : Nat) ({ cls := "java/lang/Integer", name := "bitCount", desc := "(I)I" } : Jvm.MethodName)) ∈ gw := gw_2 (List.mem_of_getElem? (i := 224) rfl) rfl
theorem hw_2_225 : (Jvm.Cond.methodLink "SetFamilies$Shattering" (39 : Nat) ({ cls := "SetFamilies$Shattering", name := "layTrace", desc := "(LSetFamilies$Family;I)LSetFamilies$Family;" } : Jvm.MethodName)) ∈ gw := gw_2 (List.mem_of_getElem? (i := 225) rfl) rfl
theorem hw_2_227 : (Jvm.Cond.instanceMethod ({ cls := "SetFamilies$Shattering", name := "layTrace", desc := "(LSetFamilies$Family;I)LSetFamilies$Family;" } : Jvm.MethodName)) ∈ gw := gw_2 (List.mem_of_getElem? (i := 227) rfl) rfl
theorem hw_2_228 : (Jvm.Cond.code ({ cls := "SetFamilies$Shattering", name := "layTrace", desc := "(LSetFamilies$Family;I)LSetFamilies$Family;" } : Jvm.MethodName) prog_9_method_3_code (5 : Nat) (Option.some (Jvm.ClassFile.FieldType.object "SetFamilies$Family"))) ∈ gw := gw_2 (List.mem_of_getElem? (i := 228) rfl) rfl
theorem hw_2_229 : (Jvm.Cond.methodLink "SetFamilies$Shattering" (47 : Nat) ({ cls := "java/lang/Math", name := "min", desc := "(II)I" } : Jvm.MethodName)) ∈ gw := gw_2 (List.mem_of_getElem? (i := 229) rfl) rfl
theorem hw_2_230 : (Jvm.Cond.static ({ cls := "java/lang/Math", name := "min", desc := "(II)I" } : Jvm.MethodName)) ∈ gw := gw_2 (List.mem_of_getElem? (i := 230) rfl) rfl
theorem hw_2_231 : (Jvm.Cond.code ({ cls := "java/lang/Math", name := "min", desc := "(II)I" } : Jvm.MethodName) prog_20_method_69_code (2 : Nat) (Option.some Jvm.ClassFile.FieldType.int)) ∈ gw := gw_2 (List.mem_of_getElem? (i := 231) rfl) rfl
theorem hw_2_232 : (Jvm.Cond.methodLink "SetFamilies$Shattering" (52 : Nat) ({ cls := "SetFamilies$Family", name := "copy", desc := "(LSetFamilies$Family;)V" } : Jvm.MethodName)) ∈ gw := gw_2 (List.mem_of_getElem? (i := 232) rfl) rfl
theorem hw_2_233 : (Jvm.Cond.methodLink "SetFamilies$Shattering" (56 : Nat) ({ cls := "SetFamilies$Family", name := "lowestBit", desc := "(J)I" } : Jvm.MethodName)) ∈ gw := gw_2 (List.mem_of_getElem? (i := 233) rfl) rfl
theorem hw_2_234 : (Jvm.Cond.methodLink "SetFamilies$Shattering" (60 : Nat) ({ cls := "SetFamilies$Family", name := "forget", desc := "(I)V" } : Jvm.MethodName)) ∈ gw := gw_2 (List.mem_of_getElem? (i := 234) rfl) rfl
theorem hw_2_235 : (Jvm.Cond.instanceMethod ({ cls := "SetFamilies$Family", name := "forget", desc := "(I)V" } : Jvm.MethodName)) ∈ gw := gw_2 (List.mem_of_getElem? (i := 235) rfl) rfl
theorem hw_2_236 : (Jvm.Cond.selects "SetFamilies$Family" ({ cls := "SetFamilies$Family", name := "forget", desc := "(I)V" } : Jvm.MethodName) ({ cls := "SetFamilies$Family", name := "forget", desc := "(I)V" } : Jvm.MethodName)) ∈ gw := gw_2 (List.mem_of_getElem? (i := 236) rfl) rfl
theorem hw_2_237 : (Jvm.Cond.code ({ cls := "SetFamilies$Family", name := "forget", desc := "(I)V" } : Jvm.MethodName) prog_5_method_23_code (2 : Nat) (Option.none : Option Jvm.ClassFile.FieldType)) ∈ gw := gw_2 (List.mem_of_getElem? (i := 237) rfl) rfl
theorem hw_2_238 : (Jvm.Cond.methodLink "SetFamilies$Family" (76 : Nat) ({ cls := "SetFamilies$Family", name := "keepLacking", desc := "(I)V" } : Jvm.MethodName)) ∈ gw := gw_2 (List.mem_of_getElem? (i := 238) rfl) rfl
theorem hw_3_0 : (Jvm.Cond.static ({ cls := "SetFamilies", name := "branchEnd", desc := "(II)I" } : Jvm.MethodName)) ∈ gw := gw_3 (List.mem_of_getElem? (i := 0) rfl) rfl
theorem hw_3_1 : (Jvm.Cond.code ({ cls := "SetFamilies", name := "branchEnd", desc := "(II)I" } : Jvm.MethodName) prog_1_method_38_code (2 : Nat) (Option.some Jvm.ClassFile.FieldType.int)) ∈ gw := gw_3 (List.mem_of_getElem? (i := 1) rfl) rfl
theorem hw_3_2 : (Jvm.Cond.methodLink "SetFamilies" (223 : Nat) ({ cls := "SetFamilies", name := "sizeOrNone", desc := "(I)I" } : Jvm.MethodName)) ∈ gw := gw_3 (List.mem_of_getElem? (i := 2) rfl) rfl
theorem hw_3_3 : (Jvm.Cond.static ({ cls := "SetFamilies", name := "sizeOrNone", desc := "(I)I" } : Jvm.MethodName)) ∈ gw := gw_3 (List.mem_of_getElem? (i := 3) rfl) rfl
theorem hw_3_4 : (Jvm.Cond.code ({ cls := "SetFamilies", name := "sizeOrNone", desc := "(I)I" } : Jvm.MethodName) prog_1_method_39_code (1 : Nat) (Option.some Jvm.ClassFile.FieldType.int)) ∈ gw := gw_3 (List.mem_of_getElem? (i := 4) rfl) rfl
theorem hw_3_5 : (Jvm.Cond.methodLink "SetFamilies" (188 : Nat) ({ cls := "java/lang/Integer", name := "bitCount", desc := "(I)I" } : Jvm.MethodName)) ∈ gw := gw_3 (List.mem_of_getElem? (i := 5) rfl) rfl
theorem hw_3_6 : (Jvm.Cond.methodLink "SetFamilies" (230 : Nat) ({ cls := "SetFamilies$SunflowerSearch", name := "leastCore", desc := "(LSetFamilies$Family;)I" } : Jvm.MethodName)) ∈ gw := gw_3 (List.mem_of_getElem? (i := 6) rfl) rfl
theorem hw_3_7 : (Jvm.Cond.instanceMethod ({ cls := "SetFamilies$SunflowerSearch", name := "leastCore", desc := "(LSetFamilies$Family;)I" } : Jvm.MethodName)) ∈ gw := gw_3 (List.mem_of_getElem? (i := 7) rfl) rfl
theorem hw_3_8 : (Jvm.Cond.selects "SetFamilies$SunflowerSearch" ({ cls := "SetFamilies$SunflowerSearch", name := "leastCore", desc := "(LSetFamilies$Family;)I" } : Jvm.MethodName) ({ cls := "SetFamilies$SunflowerSearch", name := "leastCore", desc := "(LSetFamilies$Family;)I" } : Jvm.MethodName)) ∈ gw := gw_3 (List.mem_of_getElem? (i := 8) rfl) rfl
theorem hw_3_9 : (Jvm.Cond.code ({ cls := "SetFamilies$SunflowerSearch", name := "leastCore", desc := "(LSetFamilies$Family;)I" } : Jvm.MethodName) prog_10_method_2_code (7 : Nat) (Option.some Jvm.ClassFile.FieldType.int)) ∈ gw := gw_3 (List.mem_of_getElem? (i := 9) rfl) rfl
theorem hw_3_10 : (Jvm.Cond.methodLink "SetFamilies$SunflowerSearch" (39 : Nat) ({ cls := "SetFamilies$Ground", name := "everything", desc := "()I" } : Jvm.MethodName)) ∈ gw := gw_3 (List.mem_of_getElem? (i := 10) rfl) rfl
theorem hw_3_11 : (Jvm.Cond.methodLink "SetFamilies$SunflowerSearch" (45 : Nat) ({ cls := "SetFamilies$SunflowerSearch", name := "layLink", desc := "(LSetFamilies$Family;I)LSetFamilies$Family;" } : Jvm.MethodName)) ∈ gw := gw_3 (List.mem_of_getElem? (i := 11) rfl) rfl
theorem hw_3_13 : (Jvm.Cond.instanceMethod ({ cls := "SetFamilies$SunflowerSearch", name := "layLink", desc := "(LSetFamilies$Family;I)LSetFamilies$Family;" } : Jvm.MethodName)) ∈ gw := gw_3 (List.mem_of_getElem? (i := 13) rfl) rfl
theorem hw_3_14 : (Jvm.Cond.code ({ cls := "SetFamilies$SunflowerSearch", name := "layLink", desc := "(LSetFamilies$Family;I)LSetFamilies$Family;" } : Jvm.MethodName) prog_10_method_3_code (5 : Nat) (Option.some (Jvm.ClassFile.FieldType.object "SetFamilies$Family"))) ∈ gw := gw_3 (List.mem_of_getElem? (i := 14) rfl) rfl
theorem hw_3_15 : (Jvm.Cond.methodLink "SetFamilies$SunflowerSearch" (60 : Nat) ({ cls := "java/lang/Integer", name := "bitCount", desc := "(I)I" } : Jvm.MethodName)) ∈ gw := gw_3 (List.mem_of_getElem? (i := 15) rfl) rfl
theorem hw_3_16 : (Jvm.Cond.methodLink "SetFamilies$SunflowerSearch" (66 : Nat) ({ cls := "java/lang/Math", name := "min", desc := "(II)I" } : Jvm.MethodName)) ∈ gw := gw_3 (List.mem_of_getElem? (i := 16) rfl) rfl
theorem hw_3_17 : (Jvm.Cond.methodLink "SetFamilies$SunflowerSearch" (71 : Nat) ({ cls := "SetFamilies$Family", name := "copy", desc := "(LSetFamilies$Family;)V" } : Jvm.MethodName)) ∈ gw := gw_3 (List.mem_of_getElem? (i := 17) rfl) rfl
theorem hw_3_18 : (Jvm.Cond.methodLink "SetFamilies$SunflowerSearch" (75 : Nat) ({ cls := "SetFamilies$Family", name := "clear", desc := "()V" } : Jvm.MethodName)) ∈ gw := gw_3 (List.mem_of_getElem? (i := 18) rfl) rfl
theorem hw_3_19 : (Jvm.Cond.methodLink "SetFamilies$SunflowerSearch" (78 : Nat) ({ cls := "SetFamilies$Family", name := "lowestBit", desc := "(J)I" } : Jvm.MethodName)) ∈ gw := gw_3 (List.mem_of_getElem? (i := 19) rfl) rfl
theorem hw_3_20 : (Jvm.Cond.methodLink "SetFamilies$SunflowerSearch" (82 : Nat) ({ cls := "SetFamilies$Family", name := "joinLowered", desc := "(LSetFamilies$Family;I)V" } : Jvm.MethodName)) ∈ gw := gw_3 (List.mem_of_getElem? (i := 20) rfl) rfl
theorem hw_3_21 : (Jvm.Cond.methodLink "SetFamilies$SunflowerSearch" (49 : Nat) ({ cls := "SetFamilies$Family", name := "count", desc := "()I" } : Jvm.MethodName)) ∈ gw := gw_3 (List.mem_of_getElem? (i := 21) rfl) rfl
theorem hw_3_22 : (Jvm.Cond.methodLink "SetFamilies$SunflowerSearch" (52 : Nat) ({ cls := "SetFamilies$SunflowerSearch", name := "hasDisjointSets", desc := "(LSetFamilies$Family;)Z" } : Jvm.MethodName)) ∈ gw := gw_3 (List.mem_of_getElem? (i := 22) rfl) rfl
theorem hw_3_24 : (Jvm.Cond.instanceMethod ({ cls := "SetFamilies$SunflowerSearch", name := "hasDisjointSets", desc := "(LSetFamilies$Family;)Z" } : Jvm.MethodName)) ∈ gw := gw_3 (List.mem_of_getElem? (i := 24) rfl) rfl
theorem hw_3_25 : (Jvm.Cond.code ({ cls := "SetFamilies$SunflowerSearch", name := "hasDisjointSets", desc := "(LSetFamilies$Family;)Z" } : Jvm.MethodName) prog_10_method_4_code (3 : Nat) (Option.some Jvm.ClassFile.FieldType.boolean)) ∈ gw := gw_3 (List.mem_of_getElem? (i := 25) rfl) rfl
theorem hw_3_26 : (Jvm.Cond.methodLink "SetFamilies$SunflowerSearch" (86 : Nat) ({ cls := "SetFamilies$Family", name := "drop", desc := "(I)V" } : Jvm.MethodName)) ∈ gw := gw_3 (List.mem_of_getElem? (i := 26) rfl) rfl
theorem hw_3_27 : (Jvm.Cond.methodLink "SetFamilies$SunflowerSearch" (90 : Nat) ({ cls := "SetFamilies$Derivation", name := "layMinimal", desc := "(LSetFamilies$Family;LSetFamilies$Family;)V" } : Jvm.MethodName)) ∈ gw := gw_3 (List.mem_of_getElem? (i := 27) rfl) rfl
theorem hw_3_28 : (Jvm.Cond.methodLink "SetFamilies$SunflowerSearch" (96 : Nat) ({ cls := "SetFamilies$Family", name := "listInto", desc := "([I)I" } : Jvm.MethodName)) ∈ gw := gw_3 (List.mem_of_getElem? (i := 28) rfl) rfl
theorem hw_3_29 : (Jvm.Cond.methodLink "SetFamilies$SunflowerSearch" (100 : Nat) ({ cls := "SetFamilies$Family", name := "contains", desc := "(I)Z" } : Jvm.MethodName)) ∈ gw := gw_3 (List.mem_of_getElem? (i := 29) rfl) rfl
theorem hw_3_30 : (Jvm.Cond.methodLink "SetFamilies$SunflowerSearch" (104 : Nat) ({ cls := "SetFamilies$SunflowerSearch", name := "hasPair", desc := "(III)Z" } : Jvm.MethodName)) ∈ gw := gw_3 (List.mem_of_getElem? (i := 30) rfl) rfl
theorem hw_3_32 : (Jvm.Cond.instanceMethod ({ cls := "SetFamilies$SunflowerSearch", name := "hasPair", desc := "(III)Z" } : Jvm.MethodName)) ∈ gw := gw_3 (List.mem_of_getElem? (i := 32) rfl) rfl
theorem hw_3_33 : (Jvm.Cond.code ({ cls := "SetFamilies$SunflowerSearch", name := "hasPair", desc := "(III)Z" } : Jvm.MethodName) prog_10_method_6_code (5 : Nat) (Option.some Jvm.ClassFile.FieldType.boolean)) ∈ gw := gw_3 (List.mem_of_getElem? (i := 33) rfl) rfl
theorem hw_3_34 : (Jvm.Cond.methodLink "SetFamilies$SunflowerSearch" (111 : Nat) ({ cls := "SetFamilies$SunflowerSearch", name := "hasOne", desc := "(III)Z" } : Jvm.MethodName)) ∈ gw := gw_3 (List.mem_of_getElem? (i := 34) rfl) rfl
theorem hw_3_36 : (Jvm.Cond.instanceMethod ({ cls := "SetFamilies$SunflowerSearch", name := "hasOne", desc := "(III)Z" } : Jvm.MethodName)) ∈ gw := gw_3 (List.mem_of_getElem? (i := 36) rfl) rfl
theorem hw_3_37 : (Jvm.Cond.code ({ cls := "SetFamilies$SunflowerSearch", name := "hasOne", desc := "(III)Z" } : Jvm.MethodName) prog_10_method_7_code (5 : Nat) (Option.some Jvm.ClassFile.FieldType.boolean)) ∈ gw := gw_3 (List.mem_of_getElem? (i := 37) rfl) rfl
theorem hw_3_38 : (Jvm.Cond.methodLink "SetFamilies$SunflowerSearch" (108 : Nat) ({ cls := "SetFamilies$SunflowerSearch", name := "hasTriple", desc := "(I)Z" } : Jvm.MethodName)) ∈ gw := gw_3 (List.mem_of_getElem? (i := 38) rfl) rfl
theorem hw_3_40 : (Jvm.Cond.instanceMethod ({ cls := "SetFamilies$SunflowerSearch", name := "hasTriple", desc := "(I)Z" } : Jvm.MethodName)) ∈ gw := gw_3 (List.mem_of_getElem? (i := 40) rfl) rfl
theorem hw_3_41 : (Jvm.Cond.code ({ cls := "SetFamilies$SunflowerSearch", name := "hasTriple", desc := "(I)Z" } : Jvm.MethodName) prog_10_method_5_code (3 : Nat) (Option.some Jvm.ClassFile.FieldType.boolean)) ∈ gw := gw_3 (List.mem_of_getElem? (i := 41) rfl) rfl
theorem hw_3_43 : (Jvm.Cond.methodLink "SetFamilies" (233 : Nat) ({ cls := "SetFamilies$PairCounts", name := "countAll", desc := "(LSetFamilies$Family;)V" } : Jvm.MethodName)) ∈ gw := gw_3 (List.mem_of_getElem? (i := 43) rfl) rfl
theorem hw_3_44 : (Jvm.Cond.instanceMethod ({ cls := "SetFamilies$PairCounts", name := "countAll", desc := "(LSetFamilies$Family;)V" } : Jvm.MethodName)) ∈ gw := gw_3 (List.mem_of_getElem? (i := 44) rfl) rfl
theorem hw_3_45 : (Jvm.Cond.selects "SetFamilies$PairCounts" ({ cls := "SetFamilies$PairCounts", name := "countAll", desc := "(LSetFamilies$Family;)V" } : Jvm.MethodName) ({ cls := "SetFamilies$PairCounts", name := "countAll", desc := "(LSetFamilies$Family;)V" } : Jvm.MethodName)) ∈ gw := gw_3 (List.mem_of_getElem? (i := 45) rfl) rfl
theorem hw_3_46 : (Jvm.Cond.code ({ cls := "SetFamilies$PairCounts", name := "countAll", desc := "(LSetFamilies$Family;)V" } : Jvm.MethodName) prog_8_method_3_code (4 : Nat) (Option.none : Option Jvm.ClassFile.FieldType)) ∈ gw := gw_3 (List.mem_of_getElem? (i := 46) rfl) rfl
theorem hw_3_47 : (Jvm.Cond.methodLink "SetFamilies$PairCounts" (23 : Nat) ({ cls := "SetFamilies$PairCounts", name := "countAbove", desc := "(LSetFamilies$Family;)V" } : Jvm.MethodName)) ∈ gw := gw_3 (List.mem_of_getElem? (i := 47) rfl) rfl
theorem hw_3_49 : (Jvm.Cond.instanceMethod ({ cls := "SetFamilies$PairCounts", name := "countAbove", desc := "(LSetFamilies$Family;)V" } : Jvm.MethodName)) ∈ gw := gw_3 (List.mem_of_getElem? (i := 49) rfl) rfl
theorem hw_3_50 : (Jvm.Cond.code ({ cls := "SetFamilies$PairCounts", name := "countAbove", desc := "(LSetFamilies$Family;)V" } : Jvm.MethodName) prog_8_method_4_code (6 : Nat) (Option.none : Option Jvm.ClassFile.FieldType)) ∈ gw := gw_3 (List.mem_of_getElem? (i := 50) rfl) rfl
theorem hw_3_51 : (Jvm.Cond.methodLink "SetFamilies$PairCounts" (42 : Nat) ({ cls := "SetFamilies$Ground", name := "everything", desc := "()I" } : Jvm.MethodName)) ∈ gw := gw_3 (List.mem_of_getElem? (i := 51) rfl) rfl
theorem hw_3_52 : (Jvm.Cond.methodLink "SetFamilies$PairCounts" (46 : Nat) ({ cls := "SetFamilies$Family", name := "contains", desc := "(I)Z" } : Jvm.MethodName)) ∈ gw := gw_3 (List.mem_of_getElem? (i := 52) rfl) rfl
theorem hw_3_53 : (Jvm.Cond.methodLink "SetFamilies$PairCounts" (27 : Nat) ({ cls := "SetFamilies$PairCounts", name := "countCommonSubsets", desc := "()V" } : Jvm.MethodName)) ∈ gw := gw_3 (List.mem_of_getElem? (i := 53) rfl) rfl
theorem hw_3_55 : (Jvm.Cond.instanceMethod ({ cls := "SetFamilies$PairCounts", name := "countCommonSubsets", desc := "()V" } : Jvm.MethodName)) ∈ gw := gw_3 (List.mem_of_getElem? (i := 55) rfl) rfl
theorem hw_3_56 : (Jvm.Cond.code ({ cls := "SetFamilies$PairCounts", name := "countCommonSubsets", desc := "()V" } : Jvm.MethodName) prog_8_method_5_code (4 : Nat) (Option.none : Option Jvm.ClassFile.FieldType)) ∈ gw := gw_3 (List.mem_of_getElem? (i := 56) rfl) rfl
theorem hw_3_57 : (Jvm.Cond.methodLink "SetFamilies$PairCounts" (52 : Nat) ({ cls := "java/util/Arrays", name := "fill", desc := "([JJ)V" } : Jvm.MethodName)) ∈ gw := gw_3 (List.mem_of_getElem? (i := 57) rfl) rfl
theorem hw_3_58 : (Jvm.Cond.methodLink "SetFamilies$PairCounts" (58 : Nat) ({ cls := "java/lang/Integer", name := "bitCount", desc := "(I)I" } : Jvm.MethodName)) ∈ gw := gw_3 (List.mem_of_getElem? (i := 58) rfl) rfl
theorem hw_3_59 : (Jvm.Cond.constantLong "SetFamilies$PairCounts" (64 : Nat) (2 : Int64)) ∈ gw := gw_3 (List.mem_of_getElem? (i := 59) rfl) rfl
theorem hw_3_60 : (Jvm.Cond.methodLink "SetFamilies$PairCounts" (36 : Nat) ({ cls := "SetFamilies$Colex", name := "binomial", desc := "(II)J" } : Jvm.MethodName)) ∈ gw := gw_3 (List.mem_of_getElem? (i := 60) rfl) rfl
theorem hw_3_61 : (Jvm.Cond.methodLink "SetFamilies" (236 : Nat) ({ cls := "SetFamilies$PairCounts", name := "withCommon", desc := "(I)I" } : Jvm.MethodName)) ∈ gw := gw_3 (List.mem_of_getElem? (i := 61) rfl) rfl
theorem hw_3_62 : (Jvm.Cond.instanceMethod ({ cls := "SetFamilies$PairCounts", name := "withCommon", desc := "(I)I" } : Jvm.MethodName)) ∈ gw := gw_3 (List.mem_of_getElem? (i := 62) rfl) rfl
theorem hw_3_63 : (Jvm.Cond.selects "SetFamilies$PairCounts" ({ cls := "SetFamilies$PairCounts", name := "withCommon", desc := "(I)I" } : Jvm.MethodName) ({ cls := "SetFamilies$PairCounts", name := "withCommon", desc := "(I)I" } : Jvm.MethodName)) ∈ gw := gw_3 (List.mem_of_getElem? (i := 63) rfl) rfl
theorem hw_3_64 : (Jvm.Cond.code ({ cls := "SetFamilies$PairCounts", name := "withCommon", desc := "(I)I" } : Jvm.MethodName) prog_8_method_2_code (2 : Nat) (Option.some Jvm.ClassFile.FieldType.int)) ∈ gw := gw_3 (List.mem_of_getElem? (i := 64) rfl) rfl
theorem hw_3_65 : (Jvm.Cond.methodLink "SetFamilies" (208 : Nat) ({ cls := "SetFamilies", name := "excessOf", desc := "(LSetFamilies$Family;I)I" } : Jvm.MethodName)) ∈ gw := gw_3 (List.mem_of_getElem? (i := 65) rfl) rfl
theorem hw_3_67 : (Jvm.Cond.instanceMethod ({ cls := "SetFamilies", name := "excessOf", desc := "(LSetFamilies$Family;I)I" } : Jvm.MethodName)) ∈ gw := gw_3 (List.mem_of_getElem? (i := 67) rfl) rfl
theorem hw_3_68 : (Jvm.Cond.code ({ cls := "SetFamilies", name := "excessOf", desc := "(LSetFamilies$Family;I)I" } : Jvm.MethodName) prog_1_method_42_code (3 : Nat) (Option.some Jvm.ClassFile.FieldType.int)) ∈ gw := gw_3 (List.mem_of_getElem? (i := 68) rfl) rfl
theorem hw_3_69 : (Jvm.Cond.methodLink "SetFamilies" (298 : Nat) ({ cls := "SetFamilies$Family", name := "keepOfSize", desc := "(I)V" } : Jvm.MethodName)) ∈ gw := gw_3 (List.mem_of_getElem? (i := 69) rfl) rfl
theorem hw_3_70 : (Jvm.Cond.instanceMethod ({ cls := "SetFamilies$Family", name := "keepOfSize", desc := "(I)V" } : Jvm.MethodName)) ∈ gw := gw_3 (List.mem_of_getElem? (i := 70) rfl) rfl
theorem hw_3_71 : (Jvm.Cond.selects "SetFamilies$Family" ({ cls := "SetFamilies$Family", name := "keepOfSize", desc := "(I)V" } : Jvm.MethodName) ({ cls := "SetFamilies$Family", name := "keepOfSize", desc := "(I)V" } : Jvm.MethodName)) ∈ gw := gw_3 (List.mem_of_getElem? (i := 71) rfl) rfl
theorem hw_3_72 : (Jvm.Cond.code ({ cls := "SetFamilies$Family", name := "keepOfSize", desc := "(I)V" } : Jvm.MethodName) prog_5_method_18_code (3 : Nat) (Option.none : Option Jvm.ClassFile.FieldType)) ∈ gw := gw_3 (List.mem_of_getElem? (i := 72) rfl) rfl
theorem hw_3_73 : (Jvm.Cond.methodLink "SetFamilies" (205 : Nat) ({ cls := "SetFamilies$Colex", name := "leastShadow", desc := "(II)I" } : Jvm.MethodName)) ∈ gw := gw_3 (List.mem_of_getElem? (i := 73) rfl) rfl
theorem hw_3_74 : (Jvm.Cond.static ({ cls := "SetFamilies$Colex", name := "leastShadow", desc := "(II)I" } : Jvm.MethodName)) ∈ gw := gw_3 (List.mem_of_getElem? (i := 74) rfl) rfl
theorem hw_3_75 : (Jvm.Cond.code ({ cls := "SetFamilies$Colex", name := "leastShadow", desc := "(II)I" } : Jvm.MethodName) prog_2_method_6_code (7 : Nat) (Option.some Jvm.ClassFile.FieldType.int)) ∈ gw := gw_3 (List.mem_of_getElem? (i := 75) rfl) rfl
theorem hw_3_76 : (Jvm.Cond.methodLink "SetFamilies$Colex" (19 : Nat) ({ cls := "SetFamilies$Colex", name := "greatestTop", desc := "(II)I" } : Jvm.MethodName)) ∈ gw := gw_3 (List.mem_of_getElem? (i := 76) rfl) rfl
theorem hw_3_77 : (Jvm.Cond.static ({ cls := "SetFamilies$Colex", name := "greatestTop", desc := "(II)I" } : Jvm.MethodName)) ∈ gw := gw_3 (List.mem_of_getElem? (i := 77) rfl) rfl
theorem hw_3_78 : (Jvm.Cond.code ({ cls := "SetFamilies$Colex", name := "greatestTop", desc := "(II)I" } : Jvm.MethodName) prog_2_method_8_code (3 : Nat) (Option.some Jvm.ClassFile.FieldType.int)) ∈ gw := gw_3 (List.mem_of_getElem? (i := 78) rfl) rfl
theorem hw_3_79 : (Jvm.Cond.methodLink "SetFamilies$Colex" (13 : Nat) ({ cls := "SetFamilies$Colex", name := "binomial", desc := "(II)J" } : Jvm.MethodName)) ∈ gw := gw_3 (List.mem_of_getElem? (i := 79) rfl) rfl
theorem hw_3_80 : (Jvm.Cond.methodLink "SetFamiliesLaw" (110 : Nat) ({ cls := "SetFamiliesLaw", name := "setGround", desc := "(LSetFamilies;I[J)I" } : Jvm.MethodName)) ∈ gw := gw_3 (List.mem_of_getElem? (i := 80) rfl) rfl
theorem hw_3_81 : (Jvm.Cond.static ({ cls := "SetFamiliesLaw", name := "setGround", desc := "(LSetFamilies;I[J)I" } : Jvm.MethodName)) ∈ gw := gw_3 (List.mem_of_getElem? (i := 81) rfl) rfl
theorem hw_3_83 : (Jvm.Cond.classLink "SetFamiliesLaw" (13 : Nat) "java/lang/IllegalArgumentException") ∈ gw := gw_3 (List.mem_of_getElem? (i := 83) rfl) rfl
theorem hw_3_84 : (Jvm.Cond.methodLink "SetFamiliesLaw" (7 : Nat) ({ cls := "SetFamilies", name := "setGround", desc := "(I)I" } : Jvm.MethodName)) ∈ gw := gw_3 (List.mem_of_getElem? (i := 84) rfl) rfl
theorem hw_3_85 : (Jvm.Cond.instanceMethod ({ cls := "SetFamilies", name := "setGround", desc := "(I)I" } : Jvm.MethodName)) ∈ gw := gw_3 (List.mem_of_getElem? (i := 85) rfl) rfl
theorem hw_3_86 : (Jvm.Cond.selects "SetFamilies" ({ cls := "SetFamilies", name := "setGround", desc := "(I)I" } : Jvm.MethodName) ({ cls := "SetFamilies", name := "setGround", desc := "(I)I" } : Jvm.MethodName)) ∈ gw := gw_3 (List.mem_of_getElem? (i := 86) rfl) rfl
theorem hw_3_87 : (Jvm.Cond.code ({ cls := "SetFamilies", name := "setGround", desc := "(I)I" } : Jvm.MethodName) prog_1_method_2_code (4 : Nat) (Option.some Jvm.ClassFile.FieldType.int)) ∈ gw := gw_3 (List.mem_of_getElem? (i := 87) rfl) rfl
theorem hw_3_88 : (Jvm.Cond.methodLink "SetFamilies" (89 : Nat) ({ cls := "SetFamilies", name := "checkRange", desc := "(III)V" } : Jvm.MethodName)) ∈ gw := gw_3 (List.mem_of_getElem? (i := 88) rfl) rfl
theorem hw_3_89 : (Jvm.Cond.static ({ cls := "SetFamilies", name := "checkRange", desc := "(III)V" } : Jvm.MethodName)) ∈ gw := gw_3 (List.mem_of_getElem? (i := 89) rfl) rfl
theorem hw_3_90 : (Jvm.Cond.code ({ cls := "SetFamilies", name := "checkRange", desc := "(III)V" } : Jvm.MethodName) prog_1_method_33_code (3 : Nat) (Option.none : Option Jvm.ClassFile.FieldType)) ∈ gw := gw_3 (List.mem_of_getElem? (i := 90) rfl) rfl
theorem hw_3_91 : (Jvm.Cond.classLink "SetFamilies" (153 : Nat) "java/lang/IllegalArgumentException") ∈ gw := gw_3 (List.mem_of_getElem? (i := 91) rfl) rfl
theorem hw_3_92 : (Jvm.Cond.instantiable "java/lang/IllegalArgumentException" (6 : Nat)) ∈ gw := gw_3 (List.mem_of_getElem? (i := 92) rfl) rfl
theorem hw_3_100 : (Jvm.Cond.selects "java/lang/IllegalArgumentException" ({ cls := "java/lang/Throwable", name := "fillInStackTrace", desc := "(I)Ljava/lang/Throwable;" } : Jvm.MethodName) ({ cls := "java/lang/Throwable", name := "fillInStackTrace", desc := "(I)Ljava/lang/Throwable;" } : Jvm.MethodName)) ∈ gw := gw_3 (List.mem_of_getElem? (i := 100) rfl) rfl
theorem hw_3_101 : (Jvm.Cond.selects "java/lang/IllegalArgumentException" ({ cls := "java/lang/Throwable", name := "fillInStackTrace", desc := "()Ljava/lang/Throwable;" } : Jvm.MethodName) ({ cls := "java/lang/Throwable", name := "fillInStackTrace", desc := "()Ljava/lang/Throwable;" } : Jvm.MethodName)) ∈ gw := gw_3 (List.mem_of_getElem? (i := 101) rfl) rfl
theorem hw_3_102 : (Jvm.Cond.lays "java/lang/IllegalArgumentException" "java/lang/Throwable" "cause" "Ljava/lang/Throwable;") ∈ gw := gw_3 (List.mem_of_getElem? (i := 102) rfl) rfl
theorem hw_3_103 : (Jvm.Cond.lays "java/lang/Throwable" "java/lang/Throwable" "cause" "Ljava/lang/Throwable;") ∈ gw := gw_3 (List.mem_of_getElem? (i := 103) rfl) rfl
theorem hw_3_104 : (Jvm.Cond.lays "java/lang/IllegalArgumentException" "java/lang/Throwable" "stackTrace" "[Ljava/lang/StackTraceElement;") ∈ gw := gw_3 (List.mem_of_getElem? (i := 104) rfl) rfl
theorem hw_3_105 : (Jvm.Cond.lays "java/lang/Throwable" "java/lang/Throwable" "stackTrace" "[Ljava/lang/StackTraceElement;") ∈ gw := gw_3 (List.mem_of_getElem? (i := 105) rfl) rfl
theorem hw_3_106 : (Jvm.Cond.lays "java/lang/IllegalArgumentException" "java/lang/Throwable" "suppressedExceptions" "Ljava/util/List;") ∈ gw := gw_3 (List.mem_of_getElem? (i := 106) rfl) rfl
theorem hw_3_107 : (Jvm.Cond.lays "java/lang/Throwable" "java/lang/Throwable" "suppressedExceptions" "Ljava/util/List;") ∈ gw := gw_3 (List.mem_of_getElem? (i := 107) rfl) rfl
theorem hw_3_108 : (Jvm.Cond.lays "java/lang/IllegalArgumentException" "java/lang/Throwable" "detailMessage" "Ljava/lang/String;") ∈ gw := gw_3 (List.mem_of_getElem? (i := 108) rfl) rfl
theorem hw_3_109 : (Jvm.Cond.lays "java/lang/Throwable" "java/lang/Throwable" "detailMessage" "Ljava/lang/String;") ∈ gw := gw_3 (List.mem_of_getElem? (i := 109) rfl) rfl
theorem hw_3_110 : (Jvm.Cond.lays "java/lang/IllegalArgumentException" "java/lang/Throwable" "backtrace" "Ljava/lang/Object;") ∈ gw := gw_3 (List.mem_of_getElem? (i := 110) rfl) rfl
theorem hw_3_111 : (Jvm.Cond.lays "java/lang/Throwable" "java/lang/Throwable" "backtrace" "Ljava/lang/Object;") ∈ gw := gw_3 (List.mem_of_getElem? (i := 111) rfl) rfl
theorem hw_3_112 : (Jvm.Cond.fieldLink "java/lang/Throwable" (198 : Nat) "java/lang/Throwable" "backtrace" "Ljava/lang/Object;") ∈ gw := gw_3 (List.mem_of_getElem? (i := 112) rfl) rfl
theorem hw_3_114 : (Jvm.Cond.instanceMethod ({ cls := "java/lang/Throwable", name := "<init>", desc := "()V" } : Jvm.MethodName)) ∈ gw := gw_3 (List.mem_of_getElem? (i := 114) rfl) rfl
theorem hw_3_115 : (Jvm.Cond.code ({ cls := "java/lang/Throwable", name := "<init>", desc := "()V" } : Jvm.MethodName) prog_24_method_1_code (1 : Nat) (Option.none : Option Jvm.ClassFile.FieldType)) ∈ gw := gw_3 (List.mem_of_getElem? (i := 115) rfl) rfl
theorem hw_3_116 : (Jvm.Cond.methodLink "java/lang/Throwable" (1 : Nat) ({ cls := "java/lang/Object", name := "<init>", desc := "()V" } : Jvm.MethodName)) ∈ gw := gw_3 (List.mem_of_getElem? (i := 116) rfl) rfl
theorem hw_3_117 : (Jvm.Cond.fieldLink "java/lang/Throwable" (13 : Nat) "java/lang/Throwable" "UNASSIGNED_STACK" "[Ljava/lang/StackTraceElement;") ∈ gw := gw_3 (List.mem_of_getElem? (i := 117) rfl) rfl
theorem hw_3_119 : (Jvm.Cond.fieldLink "java/lang/Throwable" (20 : Nat) "java/lang/Throwable" "SUPPRESSED_SENTINEL" "Ljava/util/List;") ∈ gw := gw_3 (List.mem_of_getElem? (i := 119) rfl) rfl
theorem hw_3_121 : (Jvm.Cond.methodLink "java/lang/Throwable" (27 : Nat) ({ cls := "java/lang/Throwable", name := "fillInStackTrace", desc := "()Ljava/lang/Throwable;" } : Jvm.MethodName)) ∈ gw := gw_3 (List.mem_of_getElem? (i := 121) rfl) rfl
theorem hw_3_122 : (Jvm.Cond.instanceMethod ({ cls := "java/lang/Throwable", name := "fillInStackTrace", desc := "()Ljava/lang/Throwable;" } : Jvm.MethodName)) ∈ gw := gw_3 (List.mem_of_getElem? (i := 122) rfl) rfl
theorem hw_3_124 : (Jvm.Cond.selects "java/lang/IllegalStateException" ({ cls := "java/lang/Throwable", name := "fillInStackTrace", desc := "()Ljava/lang/Throwable;" } : Jvm.MethodName) ({ cls := "java/lang/Throwable", name := "fillInStackTrace", desc := "()Ljava/lang/Throwable;" } : Jvm.MethodName)) ∈ gw := gw_3 (List.mem_of_getElem? (i := 124) rfl) rfl
theorem hw_3_125 : (Jvm.Cond.selects "java/lang/IndexOutOfBoundsException" ({ cls := "java/lang/Throwable", name := "fillInStackTrace", desc := "()Ljava/lang/Throwable;" } : Jvm.MethodName) ({ cls := "java/lang/Throwable", name := "fillInStackTrace", desc := "()Ljava/lang/Throwable;" } : Jvm.MethodName)) ∈ gw := gw_3 (List.mem_of_getElem? (i := 125) rfl) rfl
theorem hw_3_127 : (Jvm.Cond.methodLink "java/lang/Throwable" (202 : Nat) ({ cls := "java/lang/Throwable", name := "fillInStackTrace", desc := "(I)Ljava/lang/Throwable;" } : Jvm.MethodName)) ∈ gw := gw_3 (List.mem_of_getElem? (i := 127) rfl) rfl
theorem hw_3_129 : (Jvm.Cond.instanceMethod ({ cls := "java/lang/Throwable", name := "fillInStackTrace", desc := "(I)Ljava/lang/Throwable;" } : Jvm.MethodName)) ∈ gw := gw_3 (List.mem_of_getElem? (i := 129) rfl) rfl
theorem hw_3_130 : (Jvm.Cond.instantiable "java/lang/Throwable" (6 : Nat)) ∈ gw := gw_3 (List.mem_of_getElem? (i := 130) rfl) rfl
theorem hw_3_131 : (Jvm.Cond.native ({ cls := "java/lang/Throwable", name := "fillInStackTrace", desc := "(I)Ljava/lang/Throwable;" } : Jvm.MethodName)) ∈ gw := gw_3 (List.mem_of_getElem? (i := 131) rfl) rfl
theorem hw_3_133 : (Jvm.Cond.methodLink "SetFamilies" (157 : Nat) ({ cls := "java/lang/IllegalArgumentException", name := "<init>", desc := "(Ljava/lang/String;)V" } : Jvm.MethodName)) ∈ gw := gw_3 (List.mem_of_getElem? (i := 133) rfl) rfl
theorem hw_3_134 : (Jvm.Cond.instanceMethod ({ cls := "java/lang/IllegalArgumentException", name := "<init>", desc := "(Ljava/lang/String;)V" } : Jvm.MethodName)) ∈ gw := gw_3 (List.mem_of_getElem? (i := 134) rfl) rfl
theorem hw_3_135 : (Jvm.Cond.code ({ cls := "java/lang/IllegalArgumentException", name := "<init>", desc := "(Ljava/lang/String;)V" } : Jvm.MethodName) prog_15_method_2_code (2 : Nat) (Option.none : Option Jvm.ClassFile.FieldType)) ∈ gw := gw_3 (List.mem_of_getElem? (i := 135) rfl) rfl
theorem hw_3_136 : (Jvm.Cond.methodLink "java/lang/IllegalArgumentException" (7 : Nat) ({ cls := "java/lang/RuntimeException", name := "<init>", desc := "(Ljava/lang/String;)V" } : Jvm.MethodName)) ∈ gw := gw_3 (List.mem_of_getElem? (i := 136) rfl) rfl
theorem hw_3_137 : (Jvm.Cond.instanceMethod ({ cls := "java/lang/RuntimeException", name := "<init>", desc := "(Ljava/lang/String;)V" } : Jvm.MethodName)) ∈ gw := gw_3 (List.mem_of_getElem? (i := 137) rfl) rfl
theorem hw_3_138 : (Jvm.Cond.code ({ cls := "java/lang/RuntimeException", name := "<init>", desc := "(Ljava/lang/String;)V" } : Jvm.MethodName) prog_21_method_2_code (2 : Nat) (Option.none : Option Jvm.ClassFile.FieldType)) ∈ gw := gw_3 (List.mem_of_getElem? (i := 138) rfl) rfl
theorem hw_3_139 : (Jvm.Cond.methodLink "java/lang/RuntimeException" (7 : Nat) ({ cls := "java/lang/Exception", name := "<init>", desc := "(Ljava/lang/String;)V" } : Jvm.MethodName)) ∈ gw := gw_3 (List.mem_of_getElem? (i := 139) rfl) rfl
theorem hw_3_140 : (Jvm.Cond.instanceMethod ({ cls := "java/lang/Exception", name := "<init>", desc := "(Ljava/lang/String;)V" } : Jvm.MethodName)) ∈ gw := gw_3 (List.mem_of_getElem? (i := 140) rfl) rfl
theorem hw_3_141 : (Jvm.Cond.code ({ cls := "java/lang/Exception", name := "<init>", desc := "(Ljava/lang/String;)V" } : Jvm.MethodName) prog_14_method_2_code (2 : Nat) (Option.none : Option Jvm.ClassFile.FieldType)) ∈ gw := gw_3 (List.mem_of_getElem? (i := 141) rfl) rfl
theorem hw_3_142 : (Jvm.Cond.methodLink "java/lang/Exception" (7 : Nat) ({ cls := "java/lang/Throwable", name := "<init>", desc := "(Ljava/lang/String;)V" } : Jvm.MethodName)) ∈ gw := gw_3 (List.mem_of_getElem? (i := 142) rfl) rfl
theorem hw_3_143 : (Jvm.Cond.instanceMethod ({ cls := "java/lang/Throwable", name := "<init>", desc := "(Ljava/lang/String;)V" } : Jvm.MethodName)) ∈ gw := gw_3 (List.mem_of_getElem? (i := 143) rfl) rfl
theorem hw_3_144 : (Jvm.Cond.code ({ cls := "java/lang/Throwable", name := "<init>", desc := "(Ljava/lang/String;)V" } : Jvm.MethodName) prog_24_method_2_code (2 : Nat) (Option.none : Option Jvm.ClassFile.FieldType)) ∈ gw := gw_3 (List.mem_of_getElem? (i := 144) rfl) rfl
theorem hw_3_146 : (Jvm.Cond.fieldLink "java/lang/Throwable" (31 : Nat) "java/lang/Throwable" "detailMessage" "Ljava/lang/String;") ∈ gw := gw_3 (List.mem_of_getElem? (i := 146) rfl) rfl
theorem hw_3_147 : (Jvm.Cond.fieldLink "java/lang/Throwable" (7 : Nat) "java/lang/Throwable" "cause" "Ljava/lang/Throwable;") ∈ gw := gw_3 (List.mem_of_getElem? (i := 147) rfl) rfl
theorem hw_3_148 : (Jvm.Cond.fieldLink "java/lang/Throwable" (17 : Nat) "java/lang/Throwable" "stackTrace" "[Ljava/lang/StackTraceElement;") ∈ gw := gw_3 (List.mem_of_getElem? (i := 148) rfl) rfl
theorem hw_3_149 : (Jvm.Cond.fieldLink "java/lang/Throwable" (24 : Nat) "java/lang/Throwable" "suppressedExceptions" "Ljava/util/List;") ∈ gw := gw_3 (List.mem_of_getElem? (i := 149) rfl) rfl
theorem hw_3_154 : (Jvm.Cond.lays "java/lang/IllegalArgumentException" "java/lang/Throwable" "depth" "I") ∈ gw := gw_3 (List.mem_of_getElem? (i := 154) rfl) rfl
theorem hw_3_158 : (Jvm.Cond.methodLink "SetFamilies" (97 : Nat) ({ cls := "SetFamilies$History", name := "save", desc := "(LSetFamilies$Ground;[LSetFamilies$Family;)V" } : Jvm.MethodName)) ∈ gw := gw_3 (List.mem_of_getElem? (i := 158) rfl) rfl
theorem hw_3_159 : (Jvm.Cond.instanceMethod ({ cls := "SetFamilies$History", name := "save", desc := "(LSetFamilies$Ground;[LSetFamilies$Family;)V" } : Jvm.MethodName)) ∈ gw := gw_3 (List.mem_of_getElem? (i := 159) rfl) rfl
theorem hw_3_160 : (Jvm.Cond.selects "SetFamilies$History" ({ cls := "SetFamilies$History", name := "save", desc := "(LSetFamilies$Ground;[LSetFamilies$Family;)V" } : Jvm.MethodName) ({ cls := "SetFamilies$History", name := "save", desc := "(LSetFamilies$Ground;[LSetFamilies$Family;)V" } : Jvm.MethodName)) ∈ gw := gw_3 (List.mem_of_getElem? (i := 160) rfl) rfl
theorem hw_3_161 : (Jvm.Cond.code ({ cls := "SetFamilies$History", name := "save", desc := "(LSetFamilies$Ground;[LSetFamilies$Family;)V" } : Jvm.MethodName) prog_7_method_2_code (4 : Nat) (Option.none : Option Jvm.ClassFile.FieldType)) ∈ gw := gw_3 (List.mem_of_getElem? (i := 161) rfl) rfl
theorem hw_3_162 : (Jvm.Cond.methodLink "SetFamilies$History" (32 : Nat) ({ cls := "SetFamilies$Family", name := "copy", desc := "(LSetFamilies$Family;)V" } : Jvm.MethodName)) ∈ gw := gw_3 (List.mem_of_getElem? (i := 162) rfl) rfl
theorem hw_3_163 : (Jvm.Cond.methodLink "SetFamilies$History" (39 : Nat) ({ cls := "java/lang/Math", name := "min", desc := "(II)I" } : Jvm.MethodName)) ∈ gw := gw_3 (List.mem_of_getElem? (i := 163) rfl) rfl
theorem hw_3_164 : (Jvm.Cond.methodLink "SetFamilies" (101 : Nat) ({ cls := "SetFamilies$Ground", name := "become", desc := "(I)V" } : Jvm.MethodName)) ∈ gw := gw_3 (List.mem_of_getElem? (i := 164) rfl) rfl
theorem hw_3_165 : (Jvm.Cond.instanceMethod ({ cls := "SetFamilies$Ground", name := "become", desc := "(I)V" } : Jvm.MethodName)) ∈ gw := gw_3 (List.mem_of_getElem? (i := 165) rfl) rfl
theorem hw_3_166 : (Jvm.Cond.selects "SetFamilies$Ground" ({ cls := "SetFamilies$Ground", name := "become", desc := "(I)V" } : Jvm.MethodName) ({ cls := "SetFamilies$Ground", name := "become", desc := "(I)V" } : Jvm.MethodName)) ∈ gw := gw_3 (List.mem_of_getElem? (i := 166) rfl) rfl
theorem hw_3_167 : (Jvm.Cond.code ({ cls := "SetFamilies$Ground", name := "become", desc := "(I)V" } : Jvm.MethodName) prog_6_method_2_code (2 : Nat) (Option.none : Option Jvm.ClassFile.FieldType)) ∈ gw := gw_3 (List.mem_of_getElem? (i := 167) rfl) rfl
theorem hw_3_168 : (Jvm.Cond.methodLink "SetFamilies" (104 : Nat) ({ cls := "SetFamilies$Family", name := "clear", desc := "()V" } : Jvm.MethodName)) ∈ gw := gw_3 (List.mem_of_getElem? (i := 168) rfl) rfl
theorem hw_3_169 : (Jvm.Cond.methodLink "SetFamiliesLaw" (119 : Nat) ({ cls := "SetFamiliesLaw", name := "add", desc := "(LSetFamilies;II[J)I" } : Jvm.MethodName)) ∈ gw := gw_3 (List.mem_of_getElem? (i := 169) rfl) rfl
theorem hw_3_170 : (Jvm.Cond.static ({ cls := "SetFamiliesLaw", name := "add", desc := "(LSetFamilies;II[J)I" } : Jvm.MethodName)) ∈ gw := gw_3 (List.mem_of_getElem? (i := 170) rfl) rfl
theorem hw_3_172 : (Jvm.Cond.classLink "SetFamiliesLaw" (19 : Nat) "java/lang/IndexOutOfBoundsException") ∈ gw := gw_3 (List.mem_of_getElem? (i := 172) rfl) rfl
theorem hw_3_173 : (Jvm.Cond.methodLink "SetFamiliesLaw" (15 : Nat) ({ cls := "SetFamilies", name := "add", desc := "(II)Z" } : Jvm.MethodName)) ∈ gw := gw_3 (List.mem_of_getElem? (i := 173) rfl) rfl
theorem hw_3_174 : (Jvm.Cond.instanceMethod ({ cls := "SetFamilies", name := "add", desc := "(II)Z" } : Jvm.MethodName)) ∈ gw := gw_3 (List.mem_of_getElem? (i := 174) rfl) rfl
theorem hw_3_175 : (Jvm.Cond.selects "SetFamilies" ({ cls := "SetFamilies", name := "add", desc := "(II)Z" } : Jvm.MethodName) ({ cls := "SetFamilies", name := "add", desc := "(II)Z" } : Jvm.MethodName)) ∈ gw := gw_3 (List.mem_of_getElem? (i := 175) rfl) rfl
theorem hw_3_176 : (Jvm.Cond.code ({ cls := "SetFamilies", name := "add", desc := "(II)Z" } : Jvm.MethodName) prog_1_method_3_code (4 : Nat) (Option.some Jvm.ClassFile.FieldType.boolean)) ∈ gw := gw_3 (List.mem_of_getElem? (i := 176) rfl) rfl
theorem hw_3_177 : (Jvm.Cond.methodLink "SetFamilies" (107 : Nat) ({ cls := "SetFamilies", name := "checkFamily", desc := "(I)V" } : Jvm.MethodName)) ∈ gw := gw_3 (List.mem_of_getElem? (i := 177) rfl) rfl
theorem hw_3_178 : (Jvm.Cond.static ({ cls := "SetFamilies", name := "checkFamily", desc := "(I)V" } : Jvm.MethodName)) ∈ gw := gw_3 (List.mem_of_getElem? (i := 178) rfl) rfl
theorem hw_3_179 : (Jvm.Cond.code ({ cls := "SetFamilies", name := "checkFamily", desc := "(I)V" } : Jvm.MethodName) prog_1_method_32_code (1 : Nat) (Option.none : Option Jvm.ClassFile.FieldType)) ∈ gw := gw_3 (List.mem_of_getElem? (i := 179) rfl) rfl
theorem hw_3_180 : (Jvm.Cond.classLink "SetFamilies" (277 : Nat) "java/lang/IndexOutOfBoundsException") ∈ gw := gw_3 (List.mem_of_getElem? (i := 180) rfl) rfl
theorem hw_3_181 : (Jvm.Cond.instantiable "java/lang/IndexOutOfBoundsException" (6 : Nat)) ∈ gw := gw_3 (List.mem_of_getElem? (i := 181) rfl) rfl
theorem hw_3_183 : (Jvm.Cond.selects "java/lang/IndexOutOfBoundsException" ({ cls := "java/lang/Throwable", name := "fillInStackTrace", desc := "(I)Ljava/lang/Throwable;" } : Jvm.MethodName) ({ cls := "java/lang/Throwable", name := "fillInStackTrace", desc := "(I)Ljava/lang/Throwable;" } : Jvm.MethodName)) ∈ gw := gw_3 (List.mem_of_getElem? (i := 183) rfl) rfl
theorem hw_3_184 : (Jvm.Cond.lays "java/lang/IndexOutOfBoundsException" "java/lang/Throwable" "cause" "Ljava/lang/Throwable;") ∈ gw := gw_3 (List.mem_of_getElem? (i := 184) rfl) rfl
theorem hw_3_185 : (Jvm.Cond.lays "java/lang/IndexOutOfBoundsException" "java/lang/Throwable" "stackTrace" "[Ljava/lang/StackTraceElement;") ∈ gw := gw_3 (List.mem_of_getElem? (i := 185) rfl) rfl
theorem hw_3_186 : (Jvm.Cond.lays "java/lang/IndexOutOfBoundsException" "java/lang/Throwable" "suppressedExceptions" "Ljava/util/List;") ∈ gw := gw_3 (List.mem_of_getElem? (i := 186) rfl) rfl
theorem hw_3_187 : (Jvm.Cond.lays "java/lang/IndexOutOfBoundsException" "java/lang/Throwable" "detailMessage" "Ljava/lang/String;") ∈ gw := gw_3 (List.mem_of_getElem? (i := 187) rfl) rfl
theorem hw_3_188 : (Jvm.Cond.lays "java/lang/IndexOutOfBoundsException" "java/lang/Throwable" "backtrace" "Ljava/lang/Object;") ∈ gw := gw_3 (List.mem_of_getElem? (i := 188) rfl) rfl
theorem hw_3_190 : (Jvm.Cond.methodLink "SetFamilies" (281 : Nat) ({ cls := "java/lang/IndexOutOfBoundsException", name := "<init>", desc := "(Ljava/lang/String;)V" } : Jvm.MethodName)) ∈ gw := gw_3 (List.mem_of_getElem? (i := 190) rfl) rfl
theorem hw_3_191 : (Jvm.Cond.instanceMethod ({ cls := "java/lang/IndexOutOfBoundsException", name := "<init>", desc := "(Ljava/lang/String;)V" } : Jvm.MethodName)) ∈ gw := gw_3 (List.mem_of_getElem? (i := 191) rfl) rfl
theorem hw_3_192 : (Jvm.Cond.code ({ cls := "java/lang/IndexOutOfBoundsException", name := "<init>", desc := "(Ljava/lang/String;)V" } : Jvm.MethodName) prog_17_method_2_code (2 : Nat) (Option.none : Option Jvm.ClassFile.FieldType)) ∈ gw := gw_3 (List.mem_of_getElem? (i := 192) rfl) rfl
theorem hw_3_193 : (Jvm.Cond.methodLink "java/lang/IndexOutOfBoundsException" (7 : Nat) ({ cls := "java/lang/RuntimeException", name := "<init>", desc := "(Ljava/lang/String;)V" } : Jvm.MethodName)) ∈ gw := gw_3 (List.mem_of_getElem? (i := 193) rfl) rfl
theorem hw_3_194 : (Jvm.Cond.lays "java/lang/IndexOutOfBoundsException" "java/lang/Throwable" "depth" "I") ∈ gw := gw_3 (List.mem_of_getElem? (i := 194) rfl) rfl
theorem hw_3_196 : (Jvm.Cond.methodLink "SetFamilies" (110 : Nat) ({ cls := "SetFamilies", name := "checkSet", desc := "(I)V" } : Jvm.MethodName)) ∈ gw := gw_3 (List.mem_of_getElem? (i := 196) rfl) rfl
theorem hw_3_198 : (Jvm.Cond.instanceMethod ({ cls := "SetFamilies", name := "checkSet", desc := "(I)V" } : Jvm.MethodName)) ∈ gw := gw_3 (List.mem_of_getElem? (i := 198) rfl) rfl
theorem hw_3_199 : (Jvm.Cond.code ({ cls := "SetFamilies", name := "checkSet", desc := "(I)V" } : Jvm.MethodName) prog_1_method_35_code (2 : Nat) (Option.none : Option Jvm.ClassFile.FieldType)) ∈ gw := gw_3 (List.mem_of_getElem? (i := 199) rfl) rfl
theorem hw_3_200 : (Jvm.Cond.methodLink "SetFamilies" (185 : Nat) ({ cls := "SetFamilies$Ground", name := "everything", desc := "()I" } : Jvm.MethodName)) ∈ gw := gw_3 (List.mem_of_getElem? (i := 200) rfl) rfl
theorem hw_3_201 : (Jvm.Cond.methodLink "SetFamilies" (113 : Nat) ({ cls := "SetFamilies$Family", name := "contains", desc := "(I)Z" } : Jvm.MethodName)) ∈ gw := gw_3 (List.mem_of_getElem? (i := 201) rfl) rfl
theorem hw_3_202 : (Jvm.Cond.methodLink "SetFamilies" (117 : Nat) ({ cls := "SetFamilies$Family", name := "put", desc := "(I)V" } : Jvm.MethodName)) ∈ gw := gw_3 (List.mem_of_getElem? (i := 202) rfl) rfl
theorem hw_3_203 : (Jvm.Cond.instanceMethod ({ cls := "SetFamilies$Family", name := "put", desc := "(I)V" } : Jvm.MethodName)) ∈ gw := gw_3 (List.mem_of_getElem? (i := 203) rfl) rfl
theorem hw_3_204 : (Jvm.Cond.selects "SetFamilies$Family" ({ cls := "SetFamilies$Family", name := "put", desc := "(I)V" } : Jvm.MethodName) ({ cls := "SetFamilies$Family", name := "put", desc := "(I)V" } : Jvm.MethodName)) ∈ gw := gw_3 (List.mem_of_getElem? (i := 204) rfl) rfl
theorem hw_3_205 : (Jvm.Cond.code ({ cls := "SetFamilies$Family", name := "put", desc := "(I)V" } : Jvm.MethodName) prog_5_method_5_code (2 : Nat) (Option.none : Option Jvm.ClassFile.FieldType)) ∈ gw := gw_3 (List.mem_of_getElem? (i := 205) rfl) rfl
theorem hw_3_206 : (Jvm.Cond.methodLink "SetFamiliesLaw" (123 : Nat) ({ cls := "SetFamiliesLaw", name := "remove", desc := "(LSetFamilies;II[J)I" } : Jvm.MethodName)) ∈ gw := gw_3 (List.mem_of_getElem? (i := 206) rfl) rfl
theorem hw_3_207 : (Jvm.Cond.static ({ cls := "SetFamiliesLaw", name := "remove", desc := "(LSetFamilies;II[J)I" } : Jvm.MethodName)) ∈ gw := gw_3 (List.mem_of_getElem? (i := 207) rfl) rfl
theorem hw_3_209 : (Jvm.Cond.methodLink "SetFamiliesLaw" (21 : Nat) ({ cls := "SetFamilies", name := "remove", desc := "(II)Z" } : Jvm.MethodName)) ∈ gw := gw_3 (List.mem_of_getElem? (i := 209) rfl) rfl
theorem hw_3_210 : (Jvm.Cond.instanceMethod ({ cls := "SetFamilies", name := "remove", desc := "(II)Z" } : Jvm.MethodName)) ∈ gw := gw_3 (List.mem_of_getElem? (i := 210) rfl) rfl
theorem hw_3_211 : (Jvm.Cond.selects "SetFamilies" ({ cls := "SetFamilies", name := "remove", desc := "(II)Z" } : Jvm.MethodName) ({ cls := "SetFamilies", name := "remove", desc := "(II)Z" } : Jvm.MethodName)) ∈ gw := gw_3 (List.mem_of_getElem? (i := 211) rfl) rfl
theorem hw_3_212 : (Jvm.Cond.code ({ cls := "SetFamilies", name := "remove", desc := "(II)Z" } : Jvm.MethodName) prog_1_method_4_code (4 : Nat) (Option.some Jvm.ClassFile.FieldType.boolean)) ∈ gw := gw_3 (List.mem_of_getElem? (i := 212) rfl) rfl
theorem hw_3_213 : (Jvm.Cond.methodLink "SetFamilies" (120 : Nat) ({ cls := "SetFamilies$Family", name := "drop", desc := "(I)V" } : Jvm.MethodName)) ∈ gw := gw_3 (List.mem_of_getElem? (i := 213) rfl) rfl
theorem hw_3_214 : (Jvm.Cond.methodLink "SetFamiliesLaw" (126 : Nat) ({ cls := "SetFamiliesLaw", name := "has", desc := "(LSetFamilies;II[J)I" } : Jvm.MethodName)) ∈ gw := gw_3 (List.mem_of_getElem? (i := 214) rfl) rfl
theorem hw_3_215 : (Jvm.Cond.static ({ cls := "SetFamiliesLaw", name := "has", desc := "(LSetFamilies;II[J)I" } : Jvm.MethodName)) ∈ gw := gw_3 (List.mem_of_getElem? (i := 215) rfl) rfl
theorem hw_3_217 : (Jvm.Cond.methodLink "SetFamiliesLaw" (24 : Nat) ({ cls := "SetFamilies", name := "has", desc := "(II)Z" } : Jvm.MethodName)) ∈ gw := gw_3 (List.mem_of_getElem? (i := 217) rfl) rfl
theorem hw_3_218 : (Jvm.Cond.instanceMethod ({ cls := "SetFamilies", name := "has", desc := "(II)Z" } : Jvm.MethodName)) ∈ gw := gw_3 (List.mem_of_getElem? (i := 218) rfl) rfl
theorem hw_3_219 : (Jvm.Cond.selects "SetFamilies" ({ cls := "SetFamilies", name := "has", desc := "(II)Z" } : Jvm.MethodName) ({ cls := "SetFamilies", name := "has", desc := "(II)Z" } : Jvm.MethodName)) ∈ gw := gw_3 (List.mem_of_getElem? (i := 219) rfl) rfl
theorem hw_3_220 : (Jvm.Cond.code ({ cls := "SetFamilies", name := "has", desc := "(II)Z" } : Jvm.MethodName) prog_1_method_5_code (3 : Nat) (Option.some Jvm.ClassFile.FieldType.boolean)) ∈ gw := gw_3 (List.mem_of_getElem? (i := 220) rfl) rfl
theorem hw_3_221 : (Jvm.Cond.methodLink "SetFamiliesLaw" (129 : Nat) ({ cls := "SetFamiliesLaw", name := "size", desc := "(LSetFamilies;II[J)I" } : Jvm.MethodName)) ∈ gw := gw_3 (List.mem_of_getElem? (i := 221) rfl) rfl
theorem hw_3_222 : (Jvm.Cond.static ({ cls := "SetFamiliesLaw", name := "size", desc := "(LSetFamilies;II[J)I" } : Jvm.MethodName)) ∈ gw := gw_3 (List.mem_of_getElem? (i := 222) rfl) rfl
theorem hw_3_224 : (Jvm.Cond.methodLink "SetFamiliesLaw" (27 : Nat) ({ cls := "SetFamilies", name := "size", desc := "(II)I" } : Jvm.MethodName)) ∈ gw := gw_3 (List.mem_of_getElem? (i := 224) rfl) rfl
theorem hw_3_225 : (Jvm.Cond.instanceMethod ({ cls := "SetFamilies", name := "size", desc := "(II)I" } : Jvm.MethodName)) ∈ gw := gw_3 (List.mem_of_getElem? (i := 225) rfl) rfl
theorem hw_3_226 : (Jvm.Cond.selects "SetFamilies" ({ cls := "SetFamilies", name := "size", desc := "(II)I" } : Jvm.MethodName) ({ cls := "SetFamilies", name := "size", desc := "(II)I" } : Jvm.MethodName)) ∈ gw := gw_3 (List.mem_of_getElem? (i := 226) rfl) rfl
theorem hw_3_227 : (Jvm.Cond.code ({ cls := "SetFamilies", name := "size", desc := "(II)I" } : Jvm.MethodName) prog_1_method_6_code (3 : Nat) (Option.some Jvm.ClassFile.FieldType.int)) ∈ gw := gw_3 (List.mem_of_getElem? (i := 227) rfl) rfl
theorem hw_3_228 : (Jvm.Cond.methodLink "SetFamiliesLaw" (132 : Nat) ({ cls := "SetFamiliesLaw", name := "get", desc := "(LSetFamilies;II[J)I" } : Jvm.MethodName)) ∈ gw := gw_3 (List.mem_of_getElem? (i := 228) rfl) rfl
theorem hw_3_229 : (Jvm.Cond.static ({ cls := "SetFamiliesLaw", name := "get", desc := "(LSetFamilies;II[J)I" } : Jvm.MethodName)) ∈ gw := gw_3 (List.mem_of_getElem? (i := 229) rfl) rfl
theorem hw_3_231 : (Jvm.Cond.methodLink "SetFamiliesLaw" (31 : Nat) ({ cls := "SetFamilies", name := "get", desc := "(II)I" } : Jvm.MethodName)) ∈ gw := gw_3 (List.mem_of_getElem? (i := 231) rfl) rfl
theorem hw_3_232 : (Jvm.Cond.instanceMethod ({ cls := "SetFamilies", name := "get", desc := "(II)I" } : Jvm.MethodName)) ∈ gw := gw_3 (List.mem_of_getElem? (i := 232) rfl) rfl
theorem hw_3_233 : (Jvm.Cond.selects "SetFamilies" ({ cls := "SetFamilies", name := "get", desc := "(II)I" } : Jvm.MethodName) ({ cls := "SetFamilies", name := "get", desc := "(II)I" } : Jvm.MethodName)) ∈ gw := gw_3 (List.mem_of_getElem? (i := 233) rfl) rfl
theorem hw_3_234 : (Jvm.Cond.code ({ cls := "SetFamilies", name := "get", desc := "(II)I" } : Jvm.MethodName) prog_1_method_7_code (3 : Nat) (Option.some Jvm.ClassFile.FieldType.int)) ∈ gw := gw_3 (List.mem_of_getElem? (i := 234) rfl) rfl
theorem hw_3_235 : (Jvm.Cond.methodLink "SetFamilies" (131 : Nat) ({ cls := "SetFamilies", name := "checkNotNegative", desc := "(I)V" } : Jvm.MethodName)) ∈ gw := gw_3 (List.mem_of_getElem? (i := 235) rfl) rfl
theorem hw_3_236 : (Jvm.Cond.static ({ cls := "SetFamilies", name := "checkNotNegative", desc := "(I)V" } : Jvm.MethodName)) ∈ gw := gw_3 (List.mem_of_getElem? (i := 236) rfl) rfl
theorem hw_3_237 : (Jvm.Cond.code ({ cls := "SetFamilies", name := "checkNotNegative", desc := "(I)V" } : Jvm.MethodName) prog_1_method_34_code (1 : Nat) (Option.none : Option Jvm.ClassFile.FieldType)) ∈ gw := gw_3 (List.mem_of_getElem? (i := 237) rfl) rfl
theorem hw_3_239 : (Jvm.Cond.methodLink "SetFamiliesLaw" (135 : Nat) ({ cls := "SetFamiliesLaw", name := "degree", desc := "(LSetFamilies;II[J)I" } : Jvm.MethodName)) ∈ gw := gw_3 (List.mem_of_getElem? (i := 239) rfl) rfl
theorem hw_4_0 : (Jvm.Cond.static ({ cls := "SetFamiliesLaw", name := "degree", desc := "(LSetFamilies;II[J)I" } : Jvm.MethodName)) ∈ gw := gw_4 (List.mem_of_getElem? (i := 0) rfl) rfl
theorem hw_4_2 : (Jvm.Cond.methodLink "SetFamiliesLaw" (34 : Nat) ({ cls := "SetFamilies", name := "degree", desc := "(II)I" } : Jvm.MethodName)) ∈ gw := gw_4 (List.mem_of_getElem? (i := 2) rfl) rfl
theorem hw_4_3 : (Jvm.Cond.instanceMethod ({ cls := "SetFamilies", name := "degree", desc := "(II)I" } : Jvm.MethodName)) ∈ gw := gw_4 (List.mem_of_getElem? (i := 3) rfl) rfl
theorem hw_4_4 : (Jvm.Cond.selects "SetFamilies" ({ cls := "SetFamilies", name := "degree", desc := "(II)I" } : Jvm.MethodName) ({ cls := "SetFamilies", name := "degree", desc := "(II)I" } : Jvm.MethodName)) ∈ gw := gw_4 (List.mem_of_getElem? (i := 4) rfl) rfl
theorem hw_4_5 : (Jvm.Cond.code ({ cls := "SetFamilies", name := "degree", desc := "(II)I" } : Jvm.MethodName) prog_1_method_8_code (3 : Nat) (Option.some Jvm.ClassFile.FieldType.int)) ∈ gw := gw_4 (List.mem_of_getElem? (i := 5) rfl) rfl
theorem hw_4_6 : (Jvm.Cond.methodLink "SetFamilies" (137 : Nat) ({ cls := "SetFamilies", name := "checkElement", desc := "(I)V" } : Jvm.MethodName)) ∈ gw := gw_4 (List.mem_of_getElem? (i := 6) rfl) rfl
theorem hw_4_8 : (Jvm.Cond.instanceMethod ({ cls := "SetFamilies", name := "checkElement", desc := "(I)V" } : Jvm.MethodName)) ∈ gw := gw_4 (List.mem_of_getElem? (i := 8) rfl) rfl
theorem hw_4_9 : (Jvm.Cond.code ({ cls := "SetFamilies", name := "checkElement", desc := "(I)V" } : Jvm.MethodName) prog_1_method_36_code (2 : Nat) (Option.none : Option Jvm.ClassFile.FieldType)) ∈ gw := gw_4 (List.mem_of_getElem? (i := 9) rfl) rfl
theorem hw_4_10 : (Jvm.Cond.methodLink "SetFamiliesLaw" (138 : Nat) ({ cls := "SetFamiliesLaw", name := "combine", desc := "(LSetFamilies;IIII[J)I" } : Jvm.MethodName)) ∈ gw := gw_4 (List.mem_of_getElem? (i := 10) rfl) rfl
theorem hw_4_11 : (Jvm.Cond.static ({ cls := "SetFamiliesLaw", name := "combine", desc := "(LSetFamilies;IIII[J)I" } : Jvm.MethodName)) ∈ gw := gw_4 (List.mem_of_getElem? (i := 11) rfl) rfl
theorem hw_4_13 : (Jvm.Cond.methodLink "SetFamiliesLaw" (37 : Nat) ({ cls := "SetFamilies", name := "combine", desc := "(IIII)I" } : Jvm.MethodName)) ∈ gw := gw_4 (List.mem_of_getElem? (i := 13) rfl) rfl
theorem hw_4_14 : (Jvm.Cond.instanceMethod ({ cls := "SetFamilies", name := "combine", desc := "(IIII)I" } : Jvm.MethodName)) ∈ gw := gw_4 (List.mem_of_getElem? (i := 14) rfl) rfl
theorem hw_4_15 : (Jvm.Cond.selects "SetFamilies" ({ cls := "SetFamilies", name := "combine", desc := "(IIII)I" } : Jvm.MethodName) ({ cls := "SetFamilies", name := "combine", desc := "(IIII)I" } : Jvm.MethodName)) ∈ gw := gw_4 (List.mem_of_getElem? (i := 15) rfl) rfl
theorem hw_4_16 : (Jvm.Cond.code ({ cls := "SetFamilies", name := "combine", desc := "(IIII)I" } : Jvm.MethodName) prog_1_method_9_code (5 : Nat) (Option.some Jvm.ClassFile.FieldType.int)) ∈ gw := gw_4 (List.mem_of_getElem? (i := 16) rfl) rfl
theorem hw_4_17 : (Jvm.Cond.methodLink "SetFamilies" (143 : Nat) ({ cls := "SetFamilies", name := "combineInto", desc := "(LSetFamilies$Family;ILSetFamilies$Family;LSetFamilies$Family;)V" } : Jvm.MethodName)) ∈ gw := gw_4 (List.mem_of_getElem? (i := 17) rfl) rfl
theorem hw_4_18 : (Jvm.Cond.static ({ cls := "SetFamilies", name := "combineInto", desc := "(LSetFamilies$Family;ILSetFamilies$Family;LSetFamilies$Family;)V" } : Jvm.MethodName)) ∈ gw := gw_4 (List.mem_of_getElem? (i := 18) rfl) rfl
theorem hw_4_19 : (Jvm.Cond.code ({ cls := "SetFamilies", name := "combineInto", desc := "(LSetFamilies$Family;ILSetFamilies$Family;LSetFamilies$Family;)V" } : Jvm.MethodName) prog_1_method_41_code (4 : Nat) (Option.none : Option Jvm.ClassFile.FieldType)) ∈ gw := gw_4 (List.mem_of_getElem? (i := 19) rfl) rfl
theorem hw_4_20 : (Jvm.Cond.methodLink "SetFamilies" (286 : Nat) ({ cls := "SetFamilies$Family", name := "join", desc := "(LSetFamilies$Family;)V" } : Jvm.MethodName)) ∈ gw := gw_4 (List.mem_of_getElem? (i := 20) rfl) rfl
theorem hw_4_21 : (Jvm.Cond.instanceMethod ({ cls := "SetFamilies$Family", name := "join", desc := "(LSetFamilies$Family;)V" } : Jvm.MethodName)) ∈ gw := gw_4 (List.mem_of_getElem? (i := 21) rfl) rfl
theorem hw_4_22 : (Jvm.Cond.selects "SetFamilies$Family" ({ cls := "SetFamilies$Family", name := "join", desc := "(LSetFamilies$Family;)V" } : Jvm.MethodName) ({ cls := "SetFamilies$Family", name := "join", desc := "(LSetFamilies$Family;)V" } : Jvm.MethodName)) ∈ gw := gw_4 (List.mem_of_getElem? (i := 22) rfl) rfl
theorem hw_4_23 : (Jvm.Cond.code ({ cls := "SetFamilies$Family", name := "join", desc := "(LSetFamilies$Family;)V" } : Jvm.MethodName) prog_5_method_13_code (3 : Nat) (Option.none : Option Jvm.ClassFile.FieldType)) ∈ gw := gw_4 (List.mem_of_getElem? (i := 23) rfl) rfl
theorem hw_4_24 : (Jvm.Cond.methodLink "SetFamilies" (295 : Nat) ({ cls := "SetFamilies$Family", name := "differ", desc := "(LSetFamilies$Family;)V" } : Jvm.MethodName)) ∈ gw := gw_4 (List.mem_of_getElem? (i := 24) rfl) rfl
theorem hw_4_25 : (Jvm.Cond.instanceMethod ({ cls := "SetFamilies$Family", name := "differ", desc := "(LSetFamilies$Family;)V" } : Jvm.MethodName)) ∈ gw := gw_4 (List.mem_of_getElem? (i := 25) rfl) rfl
theorem hw_4_26 : (Jvm.Cond.selects "SetFamilies$Family" ({ cls := "SetFamilies$Family", name := "differ", desc := "(LSetFamilies$Family;)V" } : Jvm.MethodName) ({ cls := "SetFamilies$Family", name := "differ", desc := "(LSetFamilies$Family;)V" } : Jvm.MethodName)) ∈ gw := gw_4 (List.mem_of_getElem? (i := 26) rfl) rfl
theorem hw_4_27 : (Jvm.Cond.code ({ cls := "SetFamilies$Family", name := "differ", desc := "(LSetFamilies$Family;)V" } : Jvm.MethodName) prog_5_method_16_code (3 : Nat) (Option.none : Option Jvm.ClassFile.FieldType)) ∈ gw := gw_4 (List.mem_of_getElem? (i := 27) rfl) rfl
theorem hw_4_28 : (Jvm.Cond.methodLink "SetFamilies" (147 : Nat) ({ cls := "SetFamilies", name := "lay", desc := "(I)I" } : Jvm.MethodName)) ∈ gw := gw_4 (List.mem_of_getElem? (i := 28) rfl) rfl
theorem hw_4_30 : (Jvm.Cond.instanceMethod ({ cls := "SetFamilies", name := "lay", desc := "(I)I" } : Jvm.MethodName)) ∈ gw := gw_4 (List.mem_of_getElem? (i := 30) rfl) rfl
theorem hw_4_31 : (Jvm.Cond.code ({ cls := "SetFamilies", name := "lay", desc := "(I)I" } : Jvm.MethodName) prog_1_method_40_code (2 : Nat) (Option.some Jvm.ClassFile.FieldType.int)) ∈ gw := gw_4 (List.mem_of_getElem? (i := 31) rfl) rfl
theorem hw_4_32 : (Jvm.Cond.methodLink "SetFamiliesLaw" (142 : Nat) ({ cls := "SetFamiliesLaw", name := "derive", desc := "(LSetFamilies;III[J)I" } : Jvm.MethodName)) ∈ gw := gw_4 (List.mem_of_getElem? (i := 32) rfl) rfl
theorem hw_4_33 : (Jvm.Cond.static ({ cls := "SetFamiliesLaw", name := "derive", desc := "(LSetFamilies;III[J)I" } : Jvm.MethodName)) ∈ gw := gw_4 (List.mem_of_getElem? (i := 33) rfl) rfl
theorem hw_4_35 : (Jvm.Cond.methodLink "SetFamiliesLaw" (41 : Nat) ({ cls := "SetFamilies", name := "derive", desc := "(III)I" } : Jvm.MethodName)) ∈ gw := gw_4 (List.mem_of_getElem? (i := 35) rfl) rfl
theorem hw_4_36 : (Jvm.Cond.instanceMethod ({ cls := "SetFamilies", name := "derive", desc := "(III)I" } : Jvm.MethodName)) ∈ gw := gw_4 (List.mem_of_getElem? (i := 36) rfl) rfl
theorem hw_4_37 : (Jvm.Cond.selects "SetFamilies" ({ cls := "SetFamilies", name := "derive", desc := "(III)I" } : Jvm.MethodName) ({ cls := "SetFamilies", name := "derive", desc := "(III)I" } : Jvm.MethodName)) ∈ gw := gw_4 (List.mem_of_getElem? (i := 37) rfl) rfl
theorem hw_4_38 : (Jvm.Cond.code ({ cls := "SetFamilies", name := "derive", desc := "(III)I" } : Jvm.MethodName) prog_1_method_10_code (4 : Nat) (Option.some Jvm.ClassFile.FieldType.int)) ∈ gw := gw_4 (List.mem_of_getElem? (i := 38) rfl) rfl
theorem hw_4_39 : (Jvm.Cond.methodLink "SetFamilies" (150 : Nat) ({ cls := "SetFamilies$Derivation", name := "lay", desc := "(LSetFamilies$Family;ILSetFamilies$Family;)V" } : Jvm.MethodName)) ∈ gw := gw_4 (List.mem_of_getElem? (i := 39) rfl) rfl
theorem hw_4_40 : (Jvm.Cond.instanceMethod ({ cls := "SetFamilies$Derivation", name := "lay", desc := "(LSetFamilies$Family;ILSetFamilies$Family;)V" } : Jvm.MethodName)) ∈ gw := gw_4 (List.mem_of_getElem? (i := 40) rfl) rfl
theorem hw_4_41 : (Jvm.Cond.selects "SetFamilies$Derivation" ({ cls := "SetFamilies$Derivation", name := "lay", desc := "(LSetFamilies$Family;ILSetFamilies$Family;)V" } : Jvm.MethodName) ({ cls := "SetFamilies$Derivation", name := "lay", desc := "(LSetFamilies$Family;ILSetFamilies$Family;)V" } : Jvm.MethodName)) ∈ gw := gw_4 (List.mem_of_getElem? (i := 41) rfl) rfl
theorem hw_4_42 : (Jvm.Cond.code ({ cls := "SetFamilies$Derivation", name := "lay", desc := "(LSetFamilies$Family;ILSetFamilies$Family;)V" } : Jvm.MethodName) prog_4_method_2_code (4 : Nat) (Option.none : Option Jvm.ClassFile.FieldType)) ∈ gw := gw_4 (List.mem_of_getElem? (i := 42) rfl) rfl
theorem hw_4_43 : (Jvm.Cond.methodLink "SetFamilies$Derivation" (30 : Nat) ({ cls := "SetFamilies$Family", name := "becomeShadow", desc := "(LSetFamilies$Family;)V" } : Jvm.MethodName)) ∈ gw := gw_4 (List.mem_of_getElem? (i := 43) rfl) rfl
theorem hw_4_44 : (Jvm.Cond.methodLink "SetFamilies$Derivation" (40 : Nat) ({ cls := "SetFamilies$Family", name := "closeDownwards", desc := "()V" } : Jvm.MethodName)) ∈ gw := gw_4 (List.mem_of_getElem? (i := 44) rfl) rfl
theorem hw_4_45 : (Jvm.Cond.instanceMethod ({ cls := "SetFamilies$Family", name := "closeDownwards", desc := "()V" } : Jvm.MethodName)) ∈ gw := gw_4 (List.mem_of_getElem? (i := 45) rfl) rfl
theorem hw_4_46 : (Jvm.Cond.selects "SetFamilies$Family" ({ cls := "SetFamilies$Family", name := "closeDownwards", desc := "()V" } : Jvm.MethodName) ({ cls := "SetFamilies$Family", name := "closeDownwards", desc := "()V" } : Jvm.MethodName)) ∈ gw := gw_4 (List.mem_of_getElem? (i := 46) rfl) rfl
theorem hw_4_47 : (Jvm.Cond.code ({ cls := "SetFamilies$Family", name := "closeDownwards", desc := "()V" } : Jvm.MethodName) prog_5_method_25_code (2 : Nat) (Option.none : Option Jvm.ClassFile.FieldType)) ∈ gw := gw_4 (List.mem_of_getElem? (i := 47) rfl) rfl
theorem hw_4_48 : (Jvm.Cond.methodLink "SetFamilies$Derivation" (46 : Nat) ({ cls := "SetFamilies$Derivation", name := "layMinimal", desc := "(LSetFamilies$Family;LSetFamilies$Family;)V" } : Jvm.MethodName)) ∈ gw := gw_4 (List.mem_of_getElem? (i := 48) rfl) rfl
theorem hw_4_49 : (Jvm.Cond.methodLink "SetFamilies$Derivation" (50 : Nat) ({ cls := "SetFamilies$Derivation", name := "layMaximal", desc := "(LSetFamilies$Family;LSetFamilies$Family;)V" } : Jvm.MethodName)) ∈ gw := gw_4 (List.mem_of_getElem? (i := 49) rfl) rfl
theorem hw_4_51 : (Jvm.Cond.instanceMethod ({ cls := "SetFamilies$Derivation", name := "layMaximal", desc := "(LSetFamilies$Family;LSetFamilies$Family;)V" } : Jvm.MethodName)) ∈ gw := gw_4 (List.mem_of_getElem? (i := 51) rfl) rfl
theorem hw_4_52 : (Jvm.Cond.code ({ cls := "SetFamilies$Derivation", name := "layMaximal", desc := "(LSetFamilies$Family;LSetFamilies$Family;)V" } : Jvm.MethodName) prog_4_method_6_code (3 : Nat) (Option.none : Option Jvm.ClassFile.FieldType)) ∈ gw := gw_4 (List.mem_of_getElem? (i := 52) rfl) rfl
theorem hw_4_53 : (Jvm.Cond.methodLink "SetFamilies$Derivation" (56 : Nat) ({ cls := "SetFamilies$Derivation", name := "layBlocker", desc := "(LSetFamilies$Family;LSetFamilies$Family;)V" } : Jvm.MethodName)) ∈ gw := gw_4 (List.mem_of_getElem? (i := 53) rfl) rfl
theorem hw_4_55 : (Jvm.Cond.instanceMethod ({ cls := "SetFamilies$Derivation", name := "layBlocker", desc := "(LSetFamilies$Family;LSetFamilies$Family;)V" } : Jvm.MethodName)) ∈ gw := gw_4 (List.mem_of_getElem? (i := 55) rfl) rfl
theorem hw_4_56 : (Jvm.Cond.code ({ cls := "SetFamilies$Derivation", name := "layBlocker", desc := "(LSetFamilies$Family;LSetFamilies$Family;)V" } : Jvm.MethodName) prog_4_method_7_code (3 : Nat) (Option.none : Option Jvm.ClassFile.FieldType)) ∈ gw := gw_4 (List.mem_of_getElem? (i := 56) rfl) rfl
theorem hw_4_57 : (Jvm.Cond.methodLink "SetFamilies$Derivation" (62 : Nat) ({ cls := "SetFamilies$Derivation", name := "layIntersections", desc := "(LSetFamilies$Family;LSetFamilies$Family;)V" } : Jvm.MethodName)) ∈ gw := gw_4 (List.mem_of_getElem? (i := 57) rfl) rfl
theorem hw_4_58 : (Jvm.Cond.methodLink "SetFamiliesLaw" (146 : Nat) ({ cls := "SetFamiliesLaw", name := "compress", desc := "(LSetFamilies;III[J)I" } : Jvm.MethodName)) ∈ gw := gw_4 (List.mem_of_getElem? (i := 58) rfl) rfl
theorem hw_4_59 : (Jvm.Cond.static ({ cls := "SetFamiliesLaw", name := "compress", desc := "(LSetFamilies;III[J)I" } : Jvm.MethodName)) ∈ gw := gw_4 (List.mem_of_getElem? (i := 59) rfl) rfl
theorem hw_4_61 : (Jvm.Cond.methodLink "SetFamiliesLaw" (45 : Nat) ({ cls := "SetFamilies", name := "compress", desc := "(III)I" } : Jvm.MethodName)) ∈ gw := gw_4 (List.mem_of_getElem? (i := 61) rfl) rfl
theorem hw_4_62 : (Jvm.Cond.instanceMethod ({ cls := "SetFamilies", name := "compress", desc := "(III)I" } : Jvm.MethodName)) ∈ gw := gw_4 (List.mem_of_getElem? (i := 62) rfl) rfl
theorem hw_4_63 : (Jvm.Cond.selects "SetFamilies" ({ cls := "SetFamilies", name := "compress", desc := "(III)I" } : Jvm.MethodName) ({ cls := "SetFamilies", name := "compress", desc := "(III)I" } : Jvm.MethodName)) ∈ gw := gw_4 (List.mem_of_getElem? (i := 63) rfl) rfl
theorem hw_4_64 : (Jvm.Cond.code ({ cls := "SetFamilies", name := "compress", desc := "(III)I" } : Jvm.MethodName) prog_1_method_11_code (4 : Nat) (Option.some Jvm.ClassFile.FieldType.int)) ∈ gw := gw_4 (List.mem_of_getElem? (i := 64) rfl) rfl
theorem hw_4_66 : (Jvm.Cond.methodLink "SetFamilies" (160 : Nat) ({ cls := "SetFamilies$Compression", name := "replace", desc := "(LSetFamilies$Family;II)I" } : Jvm.MethodName)) ∈ gw := gw_4 (List.mem_of_getElem? (i := 66) rfl) rfl
theorem hw_4_67 : (Jvm.Cond.instanceMethod ({ cls := "SetFamilies$Compression", name := "replace", desc := "(LSetFamilies$Family;II)I" } : Jvm.MethodName)) ∈ gw := gw_4 (List.mem_of_getElem? (i := 67) rfl) rfl
theorem hw_4_68 : (Jvm.Cond.selects "SetFamilies$Compression" ({ cls := "SetFamilies$Compression", name := "replace", desc := "(LSetFamilies$Family;II)I" } : Jvm.MethodName) ({ cls := "SetFamilies$Compression", name := "replace", desc := "(LSetFamilies$Family;II)I" } : Jvm.MethodName)) ∈ gw := gw_4 (List.mem_of_getElem? (i := 68) rfl) rfl
theorem hw_4_69 : (Jvm.Cond.code ({ cls := "SetFamilies$Compression", name := "replace", desc := "(LSetFamilies$Family;II)I" } : Jvm.MethodName) prog_3_method_2_code (4 : Nat) (Option.some Jvm.ClassFile.FieldType.int)) ∈ gw := gw_4 (List.mem_of_getElem? (i := 69) rfl) rfl
theorem hw_4_70 : (Jvm.Cond.methodLink "SetFamilies$Compression" (36 : Nat) ({ cls := "SetFamilies$Family", name := "join", desc := "(LSetFamilies$Family;)V" } : Jvm.MethodName)) ∈ gw := gw_4 (List.mem_of_getElem? (i := 70) rfl) rfl
theorem hw_4_71 : (Jvm.Cond.methodLink "SetFamiliesLaw" (149 : Nat) ({ cls := "SetFamiliesLaw", name := "shift", desc := "(LSetFamilies;I[J)I" } : Jvm.MethodName)) ∈ gw := gw_4 (List.mem_of_getElem? (i := 71) rfl) rfl
theorem hw_4_72 : (Jvm.Cond.static ({ cls := "SetFamiliesLaw", name := "shift", desc := "(LSetFamilies;I[J)I" } : Jvm.MethodName)) ∈ gw := gw_4 (List.mem_of_getElem? (i := 72) rfl) rfl
theorem hw_4_74 : (Jvm.Cond.methodLink "SetFamiliesLaw" (48 : Nat) ({ cls := "SetFamilies", name := "shift", desc := "(I)I" } : Jvm.MethodName)) ∈ gw := gw_4 (List.mem_of_getElem? (i := 74) rfl) rfl
theorem hw_4_75 : (Jvm.Cond.instanceMethod ({ cls := "SetFamilies", name := "shift", desc := "(I)I" } : Jvm.MethodName)) ∈ gw := gw_4 (List.mem_of_getElem? (i := 75) rfl) rfl
theorem hw_4_76 : (Jvm.Cond.selects "SetFamilies" ({ cls := "SetFamilies", name := "shift", desc := "(I)I" } : Jvm.MethodName) ({ cls := "SetFamilies", name := "shift", desc := "(I)I" } : Jvm.MethodName)) ∈ gw := gw_4 (List.mem_of_getElem? (i := 76) rfl) rfl
theorem hw_4_77 : (Jvm.Cond.code ({ cls := "SetFamilies", name := "shift", desc := "(I)I" } : Jvm.MethodName) prog_1_method_12_code (2 : Nat) (Option.some Jvm.ClassFile.FieldType.int)) ∈ gw := gw_4 (List.mem_of_getElem? (i := 77) rfl) rfl
theorem hw_4_78 : (Jvm.Cond.methodLink "SetFamilies" (164 : Nat) ({ cls := "SetFamilies$Compression", name := "replaceAll", desc := "(LSetFamilies$Family;)I" } : Jvm.MethodName)) ∈ gw := gw_4 (List.mem_of_getElem? (i := 78) rfl) rfl
theorem hw_4_79 : (Jvm.Cond.instanceMethod ({ cls := "SetFamilies$Compression", name := "replaceAll", desc := "(LSetFamilies$Family;)I" } : Jvm.MethodName)) ∈ gw := gw_4 (List.mem_of_getElem? (i := 79) rfl) rfl
theorem hw_4_80 : (Jvm.Cond.selects "SetFamilies$Compression" ({ cls := "SetFamilies$Compression", name := "replaceAll", desc := "(LSetFamilies$Family;)I" } : Jvm.MethodName) ({ cls := "SetFamilies$Compression", name := "replaceAll", desc := "(LSetFamilies$Family;)I" } : Jvm.MethodName)) ∈ gw := gw_4 (List.mem_of_getElem? (i := 80) rfl) rfl
theorem hw_4_81 : (Jvm.Cond.code ({ cls := "SetFamilies$Compression", name := "replaceAll", desc := "(LSetFamilies$Family;)I" } : Jvm.MethodName) prog_3_method_3_code (5 : Nat) (Option.some Jvm.ClassFile.FieldType.int)) ∈ gw := gw_4 (List.mem_of_getElem? (i := 81) rfl) rfl
theorem hw_4_82 : (Jvm.Cond.constant "SetFamilies$Compression" (43 : Nat) (100000 : Int32)) ∈ gw := gw_4 (List.mem_of_getElem? (i := 82) rfl) rfl
theorem hw_4_83 : (Jvm.Cond.methodLink "SetFamilies$Compression" (44 : Nat) ({ cls := "SetFamilies$Compression", name := "replaceOnce", desc := "(LSetFamilies$Family;)I" } : Jvm.MethodName)) ∈ gw := gw_4 (List.mem_of_getElem? (i := 83) rfl) rfl
theorem hw_4_85 : (Jvm.Cond.instanceMethod ({ cls := "SetFamilies$Compression", name := "replaceOnce", desc := "(LSetFamilies$Family;)I" } : Jvm.MethodName)) ∈ gw := gw_4 (List.mem_of_getElem? (i := 85) rfl) rfl
theorem hw_4_86 : (Jvm.Cond.code ({ cls := "SetFamilies$Compression", name := "replaceOnce", desc := "(LSetFamilies$Family;)I" } : Jvm.MethodName) prog_3_method_5_code (5 : Nat) (Option.some Jvm.ClassFile.FieldType.int)) ∈ gw := gw_4 (List.mem_of_getElem? (i := 86) rfl) rfl
theorem hw_4_87 : (Jvm.Cond.methodLink "SetFamilies$Compression" (54 : Nat) ({ cls := "SetFamilies$Compression", name := "replace", desc := "(LSetFamilies$Family;II)I" } : Jvm.MethodName)) ∈ gw := gw_4 (List.mem_of_getElem? (i := 87) rfl) rfl
theorem hw_4_88 : (Jvm.Cond.methodLink "SetFamiliesLaw" (152 : Nat) ({ cls := "SetFamiliesLaw", name := "trace", desc := "(LSetFamilies;III[J)I" } : Jvm.MethodName)) ∈ gw := gw_4 (List.mem_of_getElem? (i := 88) rfl) rfl
theorem hw_4_89 : (Jvm.Cond.static ({ cls := "SetFamiliesLaw", name := "trace", desc := "(LSetFamilies;III[J)I" } : Jvm.MethodName)) ∈ gw := gw_4 (List.mem_of_getElem? (i := 89) rfl) rfl
theorem hw_4_91 : (Jvm.Cond.methodLink "SetFamiliesLaw" (51 : Nat) ({ cls := "SetFamilies", name := "trace", desc := "(III)I" } : Jvm.MethodName)) ∈ gw := gw_4 (List.mem_of_getElem? (i := 91) rfl) rfl
theorem hw_4_92 : (Jvm.Cond.instanceMethod ({ cls := "SetFamilies", name := "trace", desc := "(III)I" } : Jvm.MethodName)) ∈ gw := gw_4 (List.mem_of_getElem? (i := 92) rfl) rfl
theorem hw_4_93 : (Jvm.Cond.selects "SetFamilies" ({ cls := "SetFamilies", name := "trace", desc := "(III)I" } : Jvm.MethodName) ({ cls := "SetFamilies", name := "trace", desc := "(III)I" } : Jvm.MethodName)) ∈ gw := gw_4 (List.mem_of_getElem? (i := 93) rfl) rfl
theorem hw_4_94 : (Jvm.Cond.code ({ cls := "SetFamilies", name := "trace", desc := "(III)I" } : Jvm.MethodName) prog_1_method_13_code (5 : Nat) (Option.some Jvm.ClassFile.FieldType.int)) ∈ gw := gw_4 (List.mem_of_getElem? (i := 94) rfl) rfl
theorem hw_4_95 : (Jvm.Cond.methodLink "SetFamilies" (176 : Nat) ({ cls := "SetFamilies$Family", name := "forget", desc := "(I)V" } : Jvm.MethodName)) ∈ gw := gw_4 (List.mem_of_getElem? (i := 95) rfl) rfl
theorem hw_4_96 : (Jvm.Cond.methodLink "SetFamiliesLaw" (155 : Nat) ({ cls := "SetFamiliesLaw", name := "segment", desc := "(LSetFamilies;III[J)I" } : Jvm.MethodName)) ∈ gw := gw_4 (List.mem_of_getElem? (i := 96) rfl) rfl
theorem hw_4_97 : (Jvm.Cond.static ({ cls := "SetFamiliesLaw", name := "segment", desc := "(LSetFamilies;III[J)I" } : Jvm.MethodName)) ∈ gw := gw_4 (List.mem_of_getElem? (i := 97) rfl) rfl
theorem hw_4_99 : (Jvm.Cond.methodLink "SetFamiliesLaw" (54 : Nat) ({ cls := "SetFamilies", name := "segment", desc := "(III)I" } : Jvm.MethodName)) ∈ gw := gw_4 (List.mem_of_getElem? (i := 99) rfl) rfl
theorem hw_4_100 : (Jvm.Cond.instanceMethod ({ cls := "SetFamilies", name := "segment", desc := "(III)I" } : Jvm.MethodName)) ∈ gw := gw_4 (List.mem_of_getElem? (i := 100) rfl) rfl
theorem hw_4_101 : (Jvm.Cond.selects "SetFamilies" ({ cls := "SetFamilies", name := "segment", desc := "(III)I" } : Jvm.MethodName) ({ cls := "SetFamilies", name := "segment", desc := "(III)I" } : Jvm.MethodName)) ∈ gw := gw_4 (List.mem_of_getElem? (i := 101) rfl) rfl
theorem hw_4_102 : (Jvm.Cond.code ({ cls := "SetFamilies", name := "segment", desc := "(III)I" } : Jvm.MethodName) prog_1_method_14_code (7 : Nat) (Option.some Jvm.ClassFile.FieldType.int)) ∈ gw := gw_4 (List.mem_of_getElem? (i := 102) rfl) rfl
theorem hw_4_103 : (Jvm.Cond.methodLink "SetFamiliesLaw" (158 : Nat) ({ cls := "SetFamiliesLaw", name := "rank", desc := "(LSetFamilies;I[J)I" } : Jvm.MethodName)) ∈ gw := gw_4 (List.mem_of_getElem? (i := 103) rfl) rfl
theorem hw_4_104 : (Jvm.Cond.static ({ cls := "SetFamiliesLaw", name := "rank", desc := "(LSetFamilies;I[J)I" } : Jvm.MethodName)) ∈ gw := gw_4 (List.mem_of_getElem? (i := 104) rfl) rfl
theorem hw_4_106 : (Jvm.Cond.methodLink "SetFamiliesLaw" (57 : Nat) ({ cls := "SetFamilies", name := "rank", desc := "(I)I" } : Jvm.MethodName)) ∈ gw := gw_4 (List.mem_of_getElem? (i := 106) rfl) rfl
theorem hw_4_107 : (Jvm.Cond.instanceMethod ({ cls := "SetFamilies", name := "rank", desc := "(I)I" } : Jvm.MethodName)) ∈ gw := gw_4 (List.mem_of_getElem? (i := 107) rfl) rfl
theorem hw_4_108 : (Jvm.Cond.selects "SetFamilies" ({ cls := "SetFamilies", name := "rank", desc := "(I)I" } : Jvm.MethodName) ({ cls := "SetFamilies", name := "rank", desc := "(I)I" } : Jvm.MethodName)) ∈ gw := gw_4 (List.mem_of_getElem? (i := 108) rfl) rfl
theorem hw_4_109 : (Jvm.Cond.code ({ cls := "SetFamilies", name := "rank", desc := "(I)I" } : Jvm.MethodName) prog_1_method_15_code (2 : Nat) (Option.some Jvm.ClassFile.FieldType.int)) ∈ gw := gw_4 (List.mem_of_getElem? (i := 109) rfl) rfl
theorem hw_4_110 : (Jvm.Cond.methodLink "SetFamilies" (193 : Nat) ({ cls := "SetFamilies$Colex", name := "rankOf", desc := "(I)I" } : Jvm.MethodName)) ∈ gw := gw_4 (List.mem_of_getElem? (i := 110) rfl) rfl
theorem hw_4_111 : (Jvm.Cond.static ({ cls := "SetFamilies$Colex", name := "rankOf", desc := "(I)I" } : Jvm.MethodName)) ∈ gw := gw_4 (List.mem_of_getElem? (i := 111) rfl) rfl
theorem hw_4_112 : (Jvm.Cond.code ({ cls := "SetFamilies$Colex", name := "rankOf", desc := "(I)I" } : Jvm.MethodName) prog_2_method_3_code (5 : Nat) (Option.some Jvm.ClassFile.FieldType.int)) ∈ gw := gw_4 (List.mem_of_getElem? (i := 112) rfl) rfl
theorem hw_4_114 : (Jvm.Cond.methodLink "SetFamiliesLaw" (161 : Nat) ({ cls := "SetFamiliesLaw", name := "unrank", desc := "(LSetFamilies;II[J)I" } : Jvm.MethodName)) ∈ gw := gw_4 (List.mem_of_getElem? (i := 114) rfl) rfl
theorem hw_4_115 : (Jvm.Cond.static ({ cls := "SetFamiliesLaw", name := "unrank", desc := "(LSetFamilies;II[J)I" } : Jvm.MethodName)) ∈ gw := gw_4 (List.mem_of_getElem? (i := 115) rfl) rfl
theorem hw_4_117 : (Jvm.Cond.methodLink "SetFamiliesLaw" (60 : Nat) ({ cls := "SetFamilies", name := "unrank", desc := "(II)I" } : Jvm.MethodName)) ∈ gw := gw_4 (List.mem_of_getElem? (i := 117) rfl) rfl
theorem hw_4_118 : (Jvm.Cond.instanceMethod ({ cls := "SetFamilies", name := "unrank", desc := "(II)I" } : Jvm.MethodName)) ∈ gw := gw_4 (List.mem_of_getElem? (i := 118) rfl) rfl
theorem hw_4_119 : (Jvm.Cond.selects "SetFamilies" ({ cls := "SetFamilies", name := "unrank", desc := "(II)I" } : Jvm.MethodName) ({ cls := "SetFamilies", name := "unrank", desc := "(II)I" } : Jvm.MethodName)) ∈ gw := gw_4 (List.mem_of_getElem? (i := 119) rfl) rfl
theorem hw_4_120 : (Jvm.Cond.code ({ cls := "SetFamilies", name := "unrank", desc := "(II)I" } : Jvm.MethodName) prog_1_method_16_code (3 : Nat) (Option.some Jvm.ClassFile.FieldType.int)) ∈ gw := gw_4 (List.mem_of_getElem? (i := 120) rfl) rfl
theorem hw_4_121 : (Jvm.Cond.methodLink "SetFamilies" (196 : Nat) ({ cls := "SetFamilies$Colex", name := "setOf", desc := "(II)I" } : Jvm.MethodName)) ∈ gw := gw_4 (List.mem_of_getElem? (i := 121) rfl) rfl
theorem hw_4_122 : (Jvm.Cond.static ({ cls := "SetFamilies$Colex", name := "setOf", desc := "(II)I" } : Jvm.MethodName)) ∈ gw := gw_4 (List.mem_of_getElem? (i := 122) rfl) rfl
theorem hw_4_123 : (Jvm.Cond.code ({ cls := "SetFamilies$Colex", name := "setOf", desc := "(II)I" } : Jvm.MethodName) prog_2_method_4_code (9 : Nat) (Option.some Jvm.ClassFile.FieldType.int)) ∈ gw := gw_4 (List.mem_of_getElem? (i := 123) rfl) rfl
theorem hw_4_124 : (Jvm.Cond.methodLink "SetFamiliesLaw" (164 : Nat) ({ cls := "SetFamiliesLaw", name := "cascade", desc := "(LSetFamilies;III[J)I" } : Jvm.MethodName)) ∈ gw := gw_4 (List.mem_of_getElem? (i := 124) rfl) rfl
theorem hw_4_125 : (Jvm.Cond.static ({ cls := "SetFamiliesLaw", name := "cascade", desc := "(LSetFamilies;III[J)I" } : Jvm.MethodName)) ∈ gw := gw_4 (List.mem_of_getElem? (i := 125) rfl) rfl
theorem hw_4_127 : (Jvm.Cond.methodLink "SetFamiliesLaw" (63 : Nat) ({ cls := "SetFamilies", name := "cascade", desc := "(III)I" } : Jvm.MethodName)) ∈ gw := gw_4 (List.mem_of_getElem? (i := 127) rfl) rfl
theorem hw_4_128 : (Jvm.Cond.instanceMethod ({ cls := "SetFamilies", name := "cascade", desc := "(III)I" } : Jvm.MethodName)) ∈ gw := gw_4 (List.mem_of_getElem? (i := 128) rfl) rfl
theorem hw_4_129 : (Jvm.Cond.selects "SetFamilies" ({ cls := "SetFamilies", name := "cascade", desc := "(III)I" } : Jvm.MethodName) ({ cls := "SetFamilies", name := "cascade", desc := "(III)I" } : Jvm.MethodName)) ∈ gw := gw_4 (List.mem_of_getElem? (i := 129) rfl) rfl
theorem hw_4_130 : (Jvm.Cond.code ({ cls := "SetFamilies", name := "cascade", desc := "(III)I" } : Jvm.MethodName) prog_1_method_17_code (4 : Nat) (Option.some Jvm.ClassFile.FieldType.int)) ∈ gw := gw_4 (List.mem_of_getElem? (i := 130) rfl) rfl
theorem hw_4_131 : (Jvm.Cond.constant "SetFamilies" (200 : Nat) (1000000 : Int32)) ∈ gw := gw_4 (List.mem_of_getElem? (i := 131) rfl) rfl
theorem hw_4_132 : (Jvm.Cond.methodLink "SetFamilies" (201 : Nat) ({ cls := "SetFamilies$Colex", name := "cascadeNumber", desc := "(III)I" } : Jvm.MethodName)) ∈ gw := gw_4 (List.mem_of_getElem? (i := 132) rfl) rfl
theorem hw_4_133 : (Jvm.Cond.static ({ cls := "SetFamilies$Colex", name := "cascadeNumber", desc := "(III)I" } : Jvm.MethodName)) ∈ gw := gw_4 (List.mem_of_getElem? (i := 133) rfl) rfl
theorem hw_4_134 : (Jvm.Cond.code ({ cls := "SetFamilies$Colex", name := "cascadeNumber", desc := "(III)I" } : Jvm.MethodName) prog_2_method_5_code (6 : Nat) (Option.some Jvm.ClassFile.FieldType.int)) ∈ gw := gw_4 (List.mem_of_getElem? (i := 134) rfl) rfl
theorem hw_4_135 : (Jvm.Cond.methodLink "SetFamiliesLaw" (167 : Nat) ({ cls := "SetFamiliesLaw", name := "shadowBound", desc := "(LSetFamilies;II[J)I" } : Jvm.MethodName)) ∈ gw := gw_4 (List.mem_of_getElem? (i := 135) rfl) rfl
theorem hw_4_136 : (Jvm.Cond.static ({ cls := "SetFamiliesLaw", name := "shadowBound", desc := "(LSetFamilies;II[J)I" } : Jvm.MethodName)) ∈ gw := gw_4 (List.mem_of_getElem? (i := 136) rfl) rfl
theorem hw_4_138 : (Jvm.Cond.methodLink "SetFamiliesLaw" (66 : Nat) ({ cls := "SetFamilies", name := "shadowBound", desc := "(II)I" } : Jvm.MethodName)) ∈ gw := gw_4 (List.mem_of_getElem? (i := 138) rfl) rfl
theorem hw_4_139 : (Jvm.Cond.instanceMethod ({ cls := "SetFamilies", name := "shadowBound", desc := "(II)I" } : Jvm.MethodName)) ∈ gw := gw_4 (List.mem_of_getElem? (i := 139) rfl) rfl
theorem hw_4_140 : (Jvm.Cond.selects "SetFamilies" ({ cls := "SetFamilies", name := "shadowBound", desc := "(II)I" } : Jvm.MethodName) ({ cls := "SetFamilies", name := "shadowBound", desc := "(II)I" } : Jvm.MethodName)) ∈ gw := gw_4 (List.mem_of_getElem? (i := 140) rfl) rfl
theorem hw_4_141 : (Jvm.Cond.code ({ cls := "SetFamilies", name := "shadowBound", desc := "(II)I" } : Jvm.MethodName) prog_1_method_18_code (3 : Nat) (Option.some Jvm.ClassFile.FieldType.int)) ∈ gw := gw_4 (List.mem_of_getElem? (i := 141) rfl) rfl
theorem hw_4_142 : (Jvm.Cond.methodLink "SetFamiliesLaw" (170 : Nat) ({ cls := "SetFamiliesLaw", name := "excess", desc := "(LSetFamilies;II[J)I" } : Jvm.MethodName)) ∈ gw := gw_4 (List.mem_of_getElem? (i := 142) rfl) rfl
theorem hw_4_143 : (Jvm.Cond.static ({ cls := "SetFamiliesLaw", name := "excess", desc := "(LSetFamilies;II[J)I" } : Jvm.MethodName)) ∈ gw := gw_4 (List.mem_of_getElem? (i := 143) rfl) rfl
theorem hw_4_145 : (Jvm.Cond.methodLink "SetFamiliesLaw" (69 : Nat) ({ cls := "SetFamilies", name := "excess", desc := "(II)I" } : Jvm.MethodName)) ∈ gw := gw_4 (List.mem_of_getElem? (i := 145) rfl) rfl
theorem hw_4_146 : (Jvm.Cond.instanceMethod ({ cls := "SetFamilies", name := "excess", desc := "(II)I" } : Jvm.MethodName)) ∈ gw := gw_4 (List.mem_of_getElem? (i := 146) rfl) rfl
theorem hw_4_147 : (Jvm.Cond.selects "SetFamilies" ({ cls := "SetFamilies", name := "excess", desc := "(II)I" } : Jvm.MethodName) ({ cls := "SetFamilies", name := "excess", desc := "(II)I" } : Jvm.MethodName)) ∈ gw := gw_4 (List.mem_of_getElem? (i := 147) rfl) rfl
theorem hw_4_148 : (Jvm.Cond.code ({ cls := "SetFamilies", name := "excess", desc := "(II)I" } : Jvm.MethodName) prog_1_method_19_code (3 : Nat) (Option.some Jvm.ClassFile.FieldType.int)) ∈ gw := gw_4 (List.mem_of_getElem? (i := 148) rfl) rfl
theorem hw_4_149 : (Jvm.Cond.methodLink "SetFamiliesLaw" (173 : Nat) ({ cls := "SetFamiliesLaw", name := "is", desc := "(LSetFamilies;II[J)I" } : Jvm.MethodName)) ∈ gw := gw_4 (List.mem_of_getElem? (i := 149) rfl) rfl
theorem hw_4_150 : (Jvm.Cond.static ({ cls := "SetFamiliesLaw", name := "is", desc := "(LSetFamilies;II[J)I" } : Jvm.MethodName)) ∈ gw := gw_4 (List.mem_of_getElem? (i := 150) rfl) rfl
theorem hw_4_152 : (Jvm.Cond.methodLink "SetFamiliesLaw" (72 : Nat) ({ cls := "SetFamilies", name := "is", desc := "(II)Z" } : Jvm.MethodName)) ∈ gw := gw_4 (List.mem_of_getElem? (i := 152) rfl) rfl
theorem hw_4_153 : (Jvm.Cond.instanceMethod ({ cls := "SetFamilies", name := "is", desc := "(II)Z" } : Jvm.MethodName)) ∈ gw := gw_4 (List.mem_of_getElem? (i := 153) rfl) rfl
theorem hw_4_154 : (Jvm.Cond.selects "SetFamilies" ({ cls := "SetFamilies", name := "is", desc := "(II)Z" } : Jvm.MethodName) ({ cls := "SetFamilies", name := "is", desc := "(II)Z" } : Jvm.MethodName)) ∈ gw := gw_4 (List.mem_of_getElem? (i := 154) rfl) rfl
theorem hw_4_155 : (Jvm.Cond.code ({ cls := "SetFamilies", name := "is", desc := "(II)Z" } : Jvm.MethodName) prog_1_method_20_code (3 : Nat) (Option.some Jvm.ClassFile.FieldType.boolean)) ∈ gw := gw_4 (List.mem_of_getElem? (i := 155) rfl) rfl
theorem hw_4_156 : (Jvm.Cond.methodLink "SetFamiliesLaw" (176 : Nat) ({ cls := "SetFamiliesLaw", name := "weight", desc := "(LSetFamilies;IZ[J)I" } : Jvm.MethodName)) ∈ gw := gw_4 (List.mem_of_getElem? (i := 156) rfl) rfl
theorem hw_4_157 : (Jvm.Cond.static ({ cls := "SetFamiliesLaw", name := "weight", desc := "(LSetFamilies;IZ[J)I" } : Jvm.MethodName)) ∈ gw := gw_4 (List.mem_of_getElem? (i := 157) rfl) rfl
theorem hw_4_159 : (Jvm.Cond.methodLink "SetFamiliesLaw" (75 : Nat) ({ cls := "SetFamilies", name := "weight", desc := "(IZ)J" } : Jvm.MethodName)) ∈ gw := gw_4 (List.mem_of_getElem? (i := 159) rfl) rfl
theorem hw_4_160 : (Jvm.Cond.instanceMethod ({ cls := "SetFamilies", name := "weight", desc := "(IZ)J" } : Jvm.MethodName)) ∈ gw := gw_4 (List.mem_of_getElem? (i := 160) rfl) rfl
theorem hw_4_161 : (Jvm.Cond.selects "SetFamilies" ({ cls := "SetFamilies", name := "weight", desc := "(IZ)J" } : Jvm.MethodName) ({ cls := "SetFamilies", name := "weight", desc := "(IZ)J" } : Jvm.MethodName)) ∈ gw := gw_4 (List.mem_of_getElem? (i := 161) rfl) rfl
theorem hw_4_162 : (Jvm.Cond.code ({ cls := "SetFamilies", name := "weight", desc := "(IZ)J" } : Jvm.MethodName) prog_1_method_21_code (3 : Nat) (Option.some Jvm.ClassFile.FieldType.long)) ∈ gw := gw_4 (List.mem_of_getElem? (i := 162) rfl) rfl
theorem hw_4_163 : (Jvm.Cond.methodLink "SetFamiliesLaw" (180 : Nat) ({ cls := "SetFamiliesLaw", name := "dimension", desc := "(LSetFamilies;I[J)I" } : Jvm.MethodName)) ∈ gw := gw_4 (List.mem_of_getElem? (i := 163) rfl) rfl
theorem hw_4_164 : (Jvm.Cond.static ({ cls := "SetFamiliesLaw", name := "dimension", desc := "(LSetFamilies;I[J)I" } : Jvm.MethodName)) ∈ gw := gw_4 (List.mem_of_getElem? (i := 164) rfl) rfl
theorem hw_4_166 : (Jvm.Cond.methodLink "SetFamiliesLaw" (79 : Nat) ({ cls := "SetFamilies", name := "dimension", desc := "(I)I" } : Jvm.MethodName)) ∈ gw := gw_4 (List.mem_of_getElem? (i := 166) rfl) rfl
theorem hw_4_167 : (Jvm.Cond.instanceMethod ({ cls := "SetFamilies", name := "dimension", desc := "(I)I" } : Jvm.MethodName)) ∈ gw := gw_4 (List.mem_of_getElem? (i := 167) rfl) rfl
theorem hw_4_168 : (Jvm.Cond.selects "SetFamilies" ({ cls := "SetFamilies", name := "dimension", desc := "(I)I" } : Jvm.MethodName) ({ cls := "SetFamilies", name := "dimension", desc := "(I)I" } : Jvm.MethodName)) ∈ gw := gw_4 (List.mem_of_getElem? (i := 168) rfl) rfl
theorem hw_4_169 : (Jvm.Cond.code ({ cls := "SetFamilies", name := "dimension", desc := "(I)I" } : Jvm.MethodName) prog_1_method_22_code (2 : Nat) (Option.some Jvm.ClassFile.FieldType.int)) ∈ gw := gw_4 (List.mem_of_getElem? (i := 169) rfl) rfl
theorem hw_4_170 : (Jvm.Cond.methodLink "SetFamiliesLaw" (183 : Nat) ({ cls := "SetFamiliesLaw", name := "shattered", desc := "(LSetFamilies;I[J)I" } : Jvm.MethodName)) ∈ gw := gw_4 (List.mem_of_getElem? (i := 170) rfl) rfl
theorem hw_4_171 : (Jvm.Cond.static ({ cls := "SetFamiliesLaw", name := "shattered", desc := "(LSetFamilies;I[J)I" } : Jvm.MethodName)) ∈ gw := gw_4 (List.mem_of_getElem? (i := 171) rfl) rfl
theorem hw_4_173 : (Jvm.Cond.methodLink "SetFamiliesLaw" (82 : Nat) ({ cls := "SetFamilies", name := "shattered", desc := "(I)I" } : Jvm.MethodName)) ∈ gw := gw_4 (List.mem_of_getElem? (i := 173) rfl) rfl
theorem hw_4_174 : (Jvm.Cond.instanceMethod ({ cls := "SetFamilies", name := "shattered", desc := "(I)I" } : Jvm.MethodName)) ∈ gw := gw_4 (List.mem_of_getElem? (i := 174) rfl) rfl
theorem hw_4_175 : (Jvm.Cond.selects "SetFamilies" ({ cls := "SetFamilies", name := "shattered", desc := "(I)I" } : Jvm.MethodName) ({ cls := "SetFamilies", name := "shattered", desc := "(I)I" } : Jvm.MethodName)) ∈ gw := gw_4 (List.mem_of_getElem? (i := 175) rfl) rfl
theorem hw_4_176 : (Jvm.Cond.code ({ cls := "SetFamilies", name := "shattered", desc := "(I)I" } : Jvm.MethodName) prog_1_method_23_code (2 : Nat) (Option.some Jvm.ClassFile.FieldType.int)) ∈ gw := gw_4 (List.mem_of_getElem? (i := 176) rfl) rfl
theorem hw_4_177 : (Jvm.Cond.methodLink "SetFamiliesLaw" (186 : Nat) ({ cls := "SetFamiliesLaw", name := "crossing", desc := "(LSetFamilies;II[J)I" } : Jvm.MethodName)) ∈ gw := gw_4 (List.mem_of_getElem? (i := 177) rfl) rfl
theorem hw_4_178 : (Jvm.Cond.static ({ cls := "SetFamiliesLaw", name := "crossing", desc := "(LSetFamilies;II[J)I" } : Jvm.MethodName)) ∈ gw := gw_4 (List.mem_of_getElem? (i := 178) rfl) rfl
theorem hw_4_180 : (Jvm.Cond.methodLink "SetFamiliesLaw" (85 : Nat) ({ cls := "SetFamilies", name := "crossing", desc := "(II)I" } : Jvm.MethodName)) ∈ gw := gw_4 (List.mem_of_getElem? (i := 180) rfl) rfl
theorem hw_4_181 : (Jvm.Cond.instanceMethod ({ cls := "SetFamilies", name := "crossing", desc := "(II)I" } : Jvm.MethodName)) ∈ gw := gw_4 (List.mem_of_getElem? (i := 181) rfl) rfl
theorem hw_4_182 : (Jvm.Cond.selects "SetFamilies" ({ cls := "SetFamilies", name := "crossing", desc := "(II)I" } : Jvm.MethodName) ({ cls := "SetFamilies", name := "crossing", desc := "(II)I" } : Jvm.MethodName)) ∈ gw := gw_4 (List.mem_of_getElem? (i := 182) rfl) rfl
theorem hw_4_183 : (Jvm.Cond.code ({ cls := "SetFamilies", name := "crossing", desc := "(II)I" } : Jvm.MethodName) prog_1_method_24_code (3 : Nat) (Option.some Jvm.ClassFile.FieldType.int)) ∈ gw := gw_4 (List.mem_of_getElem? (i := 183) rfl) rfl
theorem hw_4_184 : (Jvm.Cond.methodLink "SetFamiliesLaw" (189 : Nat) ({ cls := "SetFamiliesLaw", name := "sunflower", desc := "(LSetFamilies;I[J)I" } : Jvm.MethodName)) ∈ gw := gw_4 (List.mem_of_getElem? (i := 184) rfl) rfl
theorem hw_4_185 : (Jvm.Cond.static ({ cls := "SetFamiliesLaw", name := "sunflower", desc := "(LSetFamilies;I[J)I" } : Jvm.MethodName)) ∈ gw := gw_4 (List.mem_of_getElem? (i := 185) rfl) rfl
theorem hw_4_187 : (Jvm.Cond.methodLink "SetFamiliesLaw" (88 : Nat) ({ cls := "SetFamilies", name := "sunflower", desc := "(I)I" } : Jvm.MethodName)) ∈ gw := gw_4 (List.mem_of_getElem? (i := 187) rfl) rfl
theorem hw_4_188 : (Jvm.Cond.instanceMethod ({ cls := "SetFamilies", name := "sunflower", desc := "(I)I" } : Jvm.MethodName)) ∈ gw := gw_4 (List.mem_of_getElem? (i := 188) rfl) rfl
theorem hw_4_189 : (Jvm.Cond.selects "SetFamilies" ({ cls := "SetFamilies", name := "sunflower", desc := "(I)I" } : Jvm.MethodName) ({ cls := "SetFamilies", name := "sunflower", desc := "(I)I" } : Jvm.MethodName)) ∈ gw := gw_4 (List.mem_of_getElem? (i := 189) rfl) rfl
theorem hw_4_190 : (Jvm.Cond.code ({ cls := "SetFamilies", name := "sunflower", desc := "(I)I" } : Jvm.MethodName) prog_1_method_25_code (2 : Nat) (Option.some Jvm.ClassFile.FieldType.int)) ∈ gw := gw_4 (List.mem_of_getElem? (i := 190) rfl) rfl
theorem hw_4_191 : (Jvm.Cond.methodLink "SetFamiliesLaw" (192 : Nat) ({ cls := "SetFamiliesLaw", name := "pairs", desc := "(LSetFamilies;II[J)I" } : Jvm.MethodName)) ∈ gw := gw_4 (List.mem_of_getElem? (i := 191) rfl) rfl
theorem hw_4_192 : (Jvm.Cond.static ({ cls := "SetFamiliesLaw", name := "pairs", desc := "(LSetFamilies;II[J)I" } : Jvm.MethodName)) ∈ gw := gw_4 (List.mem_of_getElem? (i := 192) rfl) rfl
theorem hw_4_194 : (Jvm.Cond.methodLink "SetFamiliesLaw" (91 : Nat) ({ cls := "SetFamilies", name := "pairs", desc := "(II)I" } : Jvm.MethodName)) ∈ gw := gw_4 (List.mem_of_getElem? (i := 194) rfl) rfl
theorem hw_4_195 : (Jvm.Cond.instanceMethod ({ cls := "SetFamilies", name := "pairs", desc := "(II)I" } : Jvm.MethodName)) ∈ gw := gw_4 (List.mem_of_getElem? (i := 195) rfl) rfl
theorem hw_4_196 : (Jvm.Cond.selects "SetFamilies" ({ cls := "SetFamilies", name := "pairs", desc := "(II)I" } : Jvm.MethodName) ({ cls := "SetFamilies", name := "pairs", desc := "(II)I" } : Jvm.MethodName)) ∈ gw := gw_4 (List.mem_of_getElem? (i := 196) rfl) rfl
theorem hw_4_197 : (Jvm.Cond.code ({ cls := "SetFamilies", name := "pairs", desc := "(II)I" } : Jvm.MethodName) prog_1_method_26_code (3 : Nat) (Option.some Jvm.ClassFile.FieldType.int)) ∈ gw := gw_4 (List.mem_of_getElem? (i := 197) rfl) rfl
theorem hw_4_198 : (Jvm.Cond.methodLink "SetFamiliesLaw" (195 : Nat) ({ cls := "SetFamiliesLaw", name := "type", desc := "(LSetFamilies;I[J)I" } : Jvm.MethodName)) ∈ gw := gw_4 (List.mem_of_getElem? (i := 198) rfl) rfl
theorem hw_4_199 : (Jvm.Cond.static ({ cls := "SetFamiliesLaw", name := "type", desc := "(LSetFamilies;I[J)I" } : Jvm.MethodName)) ∈ gw := gw_4 (List.mem_of_getElem? (i := 199) rfl) rfl
theorem hw_4_201 : (Jvm.Cond.classLink "SetFamiliesLaw" (97 : Nat) "java/lang/IllegalStateException") ∈ gw := gw_4 (List.mem_of_getElem? (i := 201) rfl) rfl
theorem hw_4_202 : (Jvm.Cond.methodLink "SetFamiliesLaw" (94 : Nat) ({ cls := "SetFamilies", name := "type", desc := "(I)I" } : Jvm.MethodName)) ∈ gw := gw_4 (List.mem_of_getElem? (i := 202) rfl) rfl
theorem hw_4_203 : (Jvm.Cond.instanceMethod ({ cls := "SetFamilies", name := "type", desc := "(I)I" } : Jvm.MethodName)) ∈ gw := gw_4 (List.mem_of_getElem? (i := 203) rfl) rfl
theorem hw_4_204 : (Jvm.Cond.selects "SetFamilies" ({ cls := "SetFamilies", name := "type", desc := "(I)I" } : Jvm.MethodName) ({ cls := "SetFamilies", name := "type", desc := "(I)I" } : Jvm.MethodName)) ∈ gw := gw_4 (List.mem_of_getElem? (i := 204) rfl) rfl
theorem hw_4_205 : (Jvm.Cond.code ({ cls := "SetFamilies", name := "type", desc := "(I)I" } : Jvm.MethodName) prog_1_method_27_code (2 : Nat) (Option.some Jvm.ClassFile.FieldType.int)) ∈ gw := gw_4 (List.mem_of_getElem? (i := 205) rfl) rfl
theorem hw_4_206 : (Jvm.Cond.classLink "SetFamilies" (242 : Nat) "java/lang/IllegalStateException") ∈ gw := gw_4 (List.mem_of_getElem? (i := 206) rfl) rfl
theorem hw_4_207 : (Jvm.Cond.instantiable "java/lang/IllegalStateException" (6 : Nat)) ∈ gw := gw_4 (List.mem_of_getElem? (i := 207) rfl) rfl
theorem hw_4_209 : (Jvm.Cond.selects "java/lang/IllegalStateException" ({ cls := "java/lang/Throwable", name := "fillInStackTrace", desc := "(I)Ljava/lang/Throwable;" } : Jvm.MethodName) ({ cls := "java/lang/Throwable", name := "fillInStackTrace", desc := "(I)Ljava/lang/Throwable;" } : Jvm.MethodName)) ∈ gw := gw_4 (List.mem_of_getElem? (i := 209) rfl) rfl
theorem hw_4_210 : (Jvm.Cond.lays "java/lang/IllegalStateException" "java/lang/Throwable" "cause" "Ljava/lang/Throwable;") ∈ gw := gw_4 (List.mem_of_getElem? (i := 210) rfl) rfl
theorem hw_4_211 : (Jvm.Cond.lays "java/lang/IllegalStateException" "java/lang/Throwable" "stackTrace" "[Ljava/lang/StackTraceElement;") ∈ gw := gw_4 (List.mem_of_getElem? (i := 211) rfl) rfl
theorem hw_4_212 : (Jvm.Cond.lays "java/lang/IllegalStateException" "java/lang/Throwable" "suppressedExceptions" "Ljava/util/List;") ∈ gw := gw_4 (List.mem_of_getElem? (i := 212) rfl) rfl
theorem hw_4_213 : (Jvm.Cond.lays "java/lang/IllegalStateException" "java/lang/Throwable" "detailMessage" "Ljava/lang/String;") ∈ gw := gw_4 (List.mem_of_getElem? (i := 213) rfl) rfl
theorem hw_4_214 : (Jvm.Cond.lays "java/lang/IllegalStateException" "java/lang/Throwable" "backtrace" "Ljava/lang/Object;") ∈ gw := gw_4 (List.mem_of_getElem? (i := 214) rfl) rfl
theorem hw_4_216 : (Jvm.Cond.methodLink "SetFamilies" (246 : Nat) ({ cls := "java/lang/IllegalStateException", name := "<init>", desc := "(Ljava/lang/String;)V" } : Jvm.MethodName)) ∈ gw := gw_4 (List.mem_of_getElem? (i := 216) rfl) rfl
theorem hw_4_217 : (Jvm.Cond.instanceMethod ({ cls := "java/lang/IllegalStateException", name := "<init>", desc := "(Ljava/lang/String;)V" } : Jvm.MethodName)) ∈ gw := gw_4 (List.mem_of_getElem? (i := 217) rfl) rfl
theorem hw_4_218 : (Jvm.Cond.code ({ cls := "java/lang/IllegalStateException", name := "<init>", desc := "(Ljava/lang/String;)V" } : Jvm.MethodName) prog_16_method_2_code (2 : Nat) (Option.none : Option Jvm.ClassFile.FieldType)) ∈ gw := gw_4 (List.mem_of_getElem? (i := 218) rfl) rfl
theorem hw_4_219 : (Jvm.Cond.methodLink "java/lang/IllegalStateException" (7 : Nat) ({ cls := "java/lang/RuntimeException", name := "<init>", desc := "(Ljava/lang/String;)V" } : Jvm.MethodName)) ∈ gw := gw_4 (List.mem_of_getElem? (i := 219) rfl) rfl
theorem hw_4_220 : (Jvm.Cond.lays "java/lang/IllegalStateException" "java/lang/Throwable" "depth" "I") ∈ gw := gw_4 (List.mem_of_getElem? (i := 220) rfl) rfl
theorem hw_4_222 : (Jvm.Cond.methodLink "SetFamilies" (247 : Nat) ({ cls := "SetFamilies$Text", name := "append", desc := "(I)V" } : Jvm.MethodName)) ∈ gw := gw_4 (List.mem_of_getElem? (i := 222) rfl) rfl
theorem hw_4_223 : (Jvm.Cond.instanceMethod ({ cls := "SetFamilies$Text", name := "append", desc := "(I)V" } : Jvm.MethodName)) ∈ gw := gw_4 (List.mem_of_getElem? (i := 223) rfl) rfl
theorem hw_4_224 : (Jvm.Cond.selects "SetFamilies$Text" ({ cls := "SetFamilies$Text", name := "append", desc := "(I)V" } : Jvm.MethodName) ({ cls := "SetFamilies$Text", name := "append", desc := "(I)V" } : Jvm.MethodName)) ∈ gw := gw_4 (List.mem_of_getElem? (i := 224) rfl) rfl
theorem hw_4_225 : (Jvm.Cond.code ({ cls := "SetFamilies$Text", name := "append", desc := "(I)V" } : Jvm.MethodName) prog_11_method_2_code (2 : Nat) (Option.none : Option Jvm.ClassFile.FieldType)) ∈ gw := gw_4 (List.mem_of_getElem? (i := 225) rfl) rfl
theorem hw_4_226 : (Jvm.Cond.methodLink "SetFamiliesLaw" (202 : Nat) ({ cls := "SetFamiliesLaw", name := "read", desc := "(LSetFamilies;I[J)I" } : Jvm.MethodName)) ∈ gw := gw_4 (List.mem_of_getElem? (i := 226) rfl) rfl
theorem hw_4_227 : (Jvm.Cond.static ({ cls := "SetFamiliesLaw", name := "read", desc := "(LSetFamilies;I[J)I" } : Jvm.MethodName)) ∈ gw := gw_4 (List.mem_of_getElem? (i := 227) rfl) rfl
theorem hw_4_229 : (Jvm.Cond.methodLink "SetFamiliesLaw" (99 : Nat) ({ cls := "SetFamilies", name := "read", desc := "(I)I" } : Jvm.MethodName)) ∈ gw := gw_4 (List.mem_of_getElem? (i := 229) rfl) rfl
theorem hw_4_230 : (Jvm.Cond.instanceMethod ({ cls := "SetFamilies", name := "read", desc := "(I)I" } : Jvm.MethodName)) ∈ gw := gw_4 (List.mem_of_getElem? (i := 230) rfl) rfl
theorem hw_4_231 : (Jvm.Cond.selects "SetFamilies" ({ cls := "SetFamilies", name := "read", desc := "(I)I" } : Jvm.MethodName) ({ cls := "SetFamilies", name := "read", desc := "(I)I" } : Jvm.MethodName)) ∈ gw := gw_4 (List.mem_of_getElem? (i := 231) rfl) rfl
theorem hw_4_232 : (Jvm.Cond.code ({ cls := "SetFamilies", name := "read", desc := "(I)I" } : Jvm.MethodName) prog_1_method_29_code (3 : Nat) (Option.some Jvm.ClassFile.FieldType.int)) ∈ gw := gw_4 (List.mem_of_getElem? (i := 232) rfl) rfl
theorem hw_4_233 : (Jvm.Cond.methodLink "SetFamilies" (250 : Nat) ({ cls := "SetFamilies$Text", name := "parse", desc := "(LSetFamilies$Family;I)I" } : Jvm.MethodName)) ∈ gw := gw_4 (List.mem_of_getElem? (i := 233) rfl) rfl
theorem hw_4_234 : (Jvm.Cond.instanceMethod ({ cls := "SetFamilies$Text", name := "parse", desc := "(LSetFamilies$Family;I)I" } : Jvm.MethodName)) ∈ gw := gw_4 (List.mem_of_getElem? (i := 234) rfl) rfl
theorem hw_4_235 : (Jvm.Cond.selects "SetFamilies$Text" ({ cls := "SetFamilies$Text", name := "parse", desc := "(LSetFamilies$Family;I)I" } : Jvm.MethodName) ({ cls := "SetFamilies$Text", name := "parse", desc := "(LSetFamilies$Family;I)I" } : Jvm.MethodName)) ∈ gw := gw_4 (List.mem_of_getElem? (i := 235) rfl) rfl
theorem hw_4_236 : (Jvm.Cond.code ({ cls := "SetFamilies$Text", name := "parse", desc := "(LSetFamilies$Family;I)I" } : Jvm.MethodName) prog_11_method_3_code (8 : Nat) (Option.some Jvm.ClassFile.FieldType.int)) ∈ gw := gw_4 (List.mem_of_getElem? (i := 236) rfl) rfl
theorem hw_4_237 : (Jvm.Cond.methodLink "SetFamilies$Text" (19 : Nat) ({ cls := "SetFamilies$Family", name := "clear", desc := "()V" } : Jvm.MethodName)) ∈ gw := gw_4 (List.mem_of_getElem? (i := 237) rfl) rfl
theorem hw_4_238 : (Jvm.Cond.methodLink "SetFamilies$Text" (24 : Nat) ({ cls := "SetFamilies$Family", name := "put", desc := "(I)V" } : Jvm.MethodName)) ∈ gw := gw_4 (List.mem_of_getElem? (i := 238) rfl) rfl
theorem hw_4_239 : (Jvm.Cond.methodLink "SetFamiliesLaw" (205 : Nat) ({ cls := "SetFamiliesLaw", name := "undo", desc := "(LSetFamilies;[J)I" } : Jvm.MethodName)) ∈ gw := gw_4 (List.mem_of_getElem? (i := 239) rfl) rfl
theorem hw_5_0 : (Jvm.Cond.static ({ cls := "SetFamiliesLaw", name := "undo", desc := "(LSetFamilies;[J)I" } : Jvm.MethodName)) ∈ gw := gw_5 (List.mem_of_getElem? (i := 0) rfl) rfl
theorem hw_5_2 : (Jvm.Cond.methodLink "SetFamiliesLaw" (102 : Nat) ({ cls := "SetFamilies", name := "undo", desc := "()I" } : Jvm.MethodName)) ∈ gw := gw_5 (List.mem_of_getElem? (i := 2) rfl) rfl
theorem hw_5_3 : (Jvm.Cond.instanceMethod ({ cls := "SetFamilies", name := "undo", desc := "()I" } : Jvm.MethodName)) ∈ gw := gw_5 (List.mem_of_getElem? (i := 3) rfl) rfl
theorem hw_5_4 : (Jvm.Cond.selects "SetFamilies" ({ cls := "SetFamilies", name := "undo", desc := "()I" } : Jvm.MethodName) ({ cls := "SetFamilies", name := "undo", desc := "()I" } : Jvm.MethodName)) ∈ gw := gw_5 (List.mem_of_getElem? (i := 4) rfl) rfl
theorem hw_5_5 : (Jvm.Cond.code ({ cls := "SetFamilies", name := "undo", desc := "()I" } : Jvm.MethodName) prog_1_method_30_code (1 : Nat) (Option.some Jvm.ClassFile.FieldType.int)) ∈ gw := gw_5 (List.mem_of_getElem? (i := 5) rfl) rfl
theorem hw_5_7 : (Jvm.Cond.methodLink "SetFamilies" (258 : Nat) ({ cls := "SetFamilies$History", name := "restore", desc := "(LSetFamilies$Ground;[LSetFamilies$Family;)V" } : Jvm.MethodName)) ∈ gw := gw_5 (List.mem_of_getElem? (i := 7) rfl) rfl
theorem hw_5_8 : (Jvm.Cond.instanceMethod ({ cls := "SetFamilies$History", name := "restore", desc := "(LSetFamilies$Ground;[LSetFamilies$Family;)V" } : Jvm.MethodName)) ∈ gw := gw_5 (List.mem_of_getElem? (i := 8) rfl) rfl
theorem hw_5_9 : (Jvm.Cond.selects "SetFamilies$History" ({ cls := "SetFamilies$History", name := "restore", desc := "(LSetFamilies$Ground;[LSetFamilies$Family;)V" } : Jvm.MethodName) ({ cls := "SetFamilies$History", name := "restore", desc := "(LSetFamilies$Ground;[LSetFamilies$Family;)V" } : Jvm.MethodName)) ∈ gw := gw_5 (List.mem_of_getElem? (i := 9) rfl) rfl
theorem hw_5_10 : (Jvm.Cond.code ({ cls := "SetFamilies$History", name := "restore", desc := "(LSetFamilies$Ground;[LSetFamilies$Family;)V" } : Jvm.MethodName) prog_7_method_3_code (4 : Nat) (Option.none : Option Jvm.ClassFile.FieldType)) ∈ gw := gw_5 (List.mem_of_getElem? (i := 10) rfl) rfl
theorem hw_5_11 : (Jvm.Cond.methodLink "SetFamilies$History" (45 : Nat) ({ cls := "SetFamilies$Ground", name := "become", desc := "(I)V" } : Jvm.MethodName)) ∈ gw := gw_5 (List.mem_of_getElem? (i := 11) rfl) rfl
theorem hw_5_12 : (Jvm.Cond.classLink "SetFamiliesLaw" (107 : Nat) "SetFamiliesModel") ∈ gw := gw_5 (List.mem_of_getElem? (i := 12) rfl) rfl
theorem hw_5_13 : (Jvm.Cond.instantiable "SetFamiliesModel" (15 : Nat)) ∈ gw := gw_5 (List.mem_of_getElem? (i := 13) rfl) rfl
theorem hw_5_14 : (Jvm.Cond.methodLink "SetFamiliesLaw" (109 : Nat) ({ cls := "SetFamiliesModel", name := "<init>", desc := "()V" } : Jvm.MethodName)) ∈ gw := gw_5 (List.mem_of_getElem? (i := 14) rfl) rfl
theorem hw_5_15 : (Jvm.Cond.instanceMethod ({ cls := "SetFamiliesModel", name := "<init>", desc := "()V" } : Jvm.MethodName)) ∈ gw := gw_5 (List.mem_of_getElem? (i := 15) rfl) rfl
theorem hw_5_16 : (Jvm.Cond.code ({ cls := "SetFamiliesModel", name := "<init>", desc := "()V" } : Jvm.MethodName) prog_13_method_1_code (1 : Nat) (Option.none : Option Jvm.ClassFile.FieldType)) ∈ gw := gw_5 (List.mem_of_getElem? (i := 16) rfl) rfl
theorem hw_5_17 : (Jvm.Cond.methodLink "SetFamiliesModel" (1 : Nat) ({ cls := "java/lang/Object", name := "<init>", desc := "()V" } : Jvm.MethodName)) ∈ gw := gw_5 (List.mem_of_getElem? (i := 17) rfl) rfl
theorem hw_5_18 : (Jvm.Cond.fieldLink "SetFamiliesModel" (37 : Nat) "SetFamiliesModel" "thrown" "I") ∈ gw := gw_5 (List.mem_of_getElem? (i := 18) rfl) rfl
theorem hw_5_19 : (Jvm.Cond.fieldLink "SetFamiliesModel" (7 : Nat) "SetFamiliesModel" "n" "I") ∈ gw := gw_5 (List.mem_of_getElem? (i := 19) rfl) rfl
theorem hw_5_20 : (Jvm.Cond.fieldLink "SetFamiliesModel" (13 : Nat) "SetFamiliesModel" "f" "[Z") ∈ gw := gw_5 (List.mem_of_getElem? (i := 20) rfl) rfl
theorem hw_5_21 : (Jvm.Cond.fieldLink "SetFamiliesModel" (17 : Nat) "SetFamiliesModel" "past" "[Z") ∈ gw := gw_5 (List.mem_of_getElem? (i := 21) rfl) rfl
theorem hw_5_22 : (Jvm.Cond.fieldLink "SetFamiliesModel" (20 : Nat) "SetFamiliesModel" "pastN" "[I") ∈ gw := gw_5 (List.mem_of_getElem? (i := 22) rfl) rfl
theorem hw_5_23 : (Jvm.Cond.fieldLink "SetFamiliesModel" (40 : Nat) "SetFamiliesModel" "pasts" "I") ∈ gw := gw_5 (List.mem_of_getElem? (i := 23) rfl) rfl
theorem hw_5_24 : (Jvm.Cond.fieldLink "SetFamiliesModel" (24 : Nat) "SetFamiliesModel" "text" "[B") ∈ gw := gw_5 (List.mem_of_getElem? (i := 24) rfl) rfl
theorem hw_5_25 : (Jvm.Cond.fieldLink "SetFamiliesModel" (174 : Nat) "SetFamiliesModel" "typed" "I") ∈ gw := gw_5 (List.mem_of_getElem? (i := 25) rfl) rfl
theorem hw_5_26 : (Jvm.Cond.fieldLink "SetFamiliesModel" (28 : Nat) "SetFamiliesModel" "out" "[Z") ∈ gw := gw_5 (List.mem_of_getElem? (i := 26) rfl) rfl
theorem hw_5_27 : (Jvm.Cond.fieldLink "SetFamiliesModel" (138 : Nat) "SetFamiliesModel" "up" "J") ∈ gw := gw_5 (List.mem_of_getElem? (i := 27) rfl) rfl
theorem hw_5_28 : (Jvm.Cond.fieldLink "SetFamiliesModel" (142 : Nat) "SetFamiliesModel" "down" "J") ∈ gw := gw_5 (List.mem_of_getElem? (i := 28) rfl) rfl
theorem hw_5_29 : (Jvm.Cond.fieldLink "SetFamiliesModel" (31 : Nat) "SetFamiliesModel" "met" "[I") ∈ gw := gw_5 (List.mem_of_getElem? (i := 29) rfl) rfl
theorem hw_5_30 : (Jvm.Cond.fieldLink "SetFamiliesModel" (153 : Nat) "SetFamiliesModel" "meetings" "I") ∈ gw := gw_5 (List.mem_of_getElem? (i := 30) rfl) rfl
theorem hw_5_31 : (Jvm.Cond.fieldLink "SetFamiliesModel" (34 : Nat) "SetFamiliesModel" "common" "[I") ∈ gw := gw_5 (List.mem_of_getElem? (i := 31) rfl) rfl
theorem hw_5_32 : (Jvm.Cond.fieldLink "SetFamiliesModel" (179 : Nat) "SetFamiliesModel" "hash" "J") ∈ gw := gw_5 (List.mem_of_getElem? (i := 32) rfl) rfl
theorem hw_5_33 : (Jvm.Cond.lays "SetFamiliesModel" "SetFamiliesModel" "thrown" "I") ∈ gw := gw_5 (List.mem_of_getElem? (i := 33) rfl) rfl
theorem hw_5_35 : (Jvm.Cond.lays "SetFamiliesModel" "SetFamiliesModel" "n" "I") ∈ gw := gw_5 (List.mem_of_getElem? (i := 35) rfl) rfl
theorem hw_5_37 : (Jvm.Cond.laysFinal "SetFamiliesModel" "SetFamiliesModel" "f" "[Z") ∈ gw := gw_5 (List.mem_of_getElem? (i := 37) rfl) rfl
theorem hw_5_39 : (Jvm.Cond.laysFinal "SetFamiliesModel" "SetFamiliesModel" "past" "[Z") ∈ gw := gw_5 (List.mem_of_getElem? (i := 39) rfl) rfl
theorem hw_5_41 : (Jvm.Cond.laysFinal "SetFamiliesModel" "SetFamiliesModel" "pastN" "[I") ∈ gw := gw_5 (List.mem_of_getElem? (i := 41) rfl) rfl
theorem hw_5_43 : (Jvm.Cond.lays "SetFamiliesModel" "SetFamiliesModel" "pasts" "I") ∈ gw := gw_5 (List.mem_of_getElem? (i := 43) rfl) rfl
theorem hw_5_45 : (Jvm.Cond.laysFinal "SetFamiliesModel" "SetFamiliesModel" "text" "[B") ∈ gw := gw_5 (List.mem_of_getElem? (i := 45) rfl) rfl
theorem hw_5_47 : (Jvm.Cond.lays "SetFamiliesModel" "SetFamiliesModel" "typed" "I") ∈ gw := gw_5 (List.mem_of_getElem? (i := 47) rfl) rfl
theorem hw_5_49 : (Jvm.Cond.laysFinal "SetFamiliesModel" "SetFamiliesModel" "out" "[Z") ∈ gw := gw_5 (List.mem_of_getElem? (i := 49) rfl) rfl
theorem hw_5_51 : (Jvm.Cond.lays "SetFamiliesModel" "SetFamiliesModel" "up" "J") ∈ gw := gw_5 (List.mem_of_getElem? (i := 51) rfl) rfl
theorem hw_5_53 : (Jvm.Cond.lays "SetFamiliesModel" "SetFamiliesModel" "down" "J") ∈ gw := gw_5 (List.mem_of_getElem? (i := 53) rfl) rfl
theorem hw_5_55 : (Jvm.Cond.laysFinal "SetFamiliesModel" "SetFamiliesModel" "met" "[I") ∈ gw := gw_5 (List.mem_of_getElem? (i := 55) rfl) rfl
theorem hw_5_57 : (Jvm.Cond.lays "SetFamiliesModel" "SetFamiliesModel" "meetings" "I") ∈ gw := gw_5 (List.mem_of_getElem? (i := 57) rfl) rfl
theorem hw_5_59 : (Jvm.Cond.laysFinal "SetFamiliesModel" "SetFamiliesModel" "common" "[I") ∈ gw := gw_5 (List.mem_of_getElem? (i := 59) rfl) rfl
theorem hw_5_61 : (Jvm.Cond.lays "SetFamiliesModel" "SetFamiliesModel" "hash" "J") ∈ gw := gw_5 (List.mem_of_getElem? (i := 61) rfl) rfl
theorem hw_5_64 : (Jvm.Cond.arrayClass Jvm.ClassFile.FieldType.boolean) ∈ gw := gw_5 (List.mem_of_getElem? (i := 64) rfl) rfl
theorem hw_5_65 : (Jvm.Cond.methodLink "SetFamiliesLaw" (116 : Nat) ({ cls := "SetFamiliesModel", name := "thrown", desc := "()I" } : Jvm.MethodName)) ∈ gw := gw_5 (List.mem_of_getElem? (i := 65) rfl) rfl
theorem hw_5_66 : (Jvm.Cond.instanceMethod ({ cls := "SetFamiliesModel", name := "thrown", desc := "()I" } : Jvm.MethodName)) ∈ gw := gw_5 (List.mem_of_getElem? (i := 66) rfl) rfl
theorem hw_5_67 : (Jvm.Cond.selects "SetFamiliesModel" ({ cls := "SetFamiliesModel", name := "thrown", desc := "()I" } : Jvm.MethodName) ({ cls := "SetFamiliesModel", name := "thrown", desc := "()I" } : Jvm.MethodName)) ∈ gw := gw_5 (List.mem_of_getElem? (i := 67) rfl) rfl
theorem hw_5_68 : (Jvm.Cond.code ({ cls := "SetFamiliesModel", name := "thrown", desc := "()I" } : Jvm.MethodName) prog_13_method_2_code (1 : Nat) (Option.some Jvm.ClassFile.FieldType.int)) ∈ gw := gw_5 (List.mem_of_getElem? (i := 68) rfl) rfl
theorem hw_5_69 : (Jvm.Cond.methodLink "SetFamiliesLaw" (208 : Nat) ({ cls := "SetFamiliesModel", name := "undo", desc := "()I" } : Jvm.MethodName)) ∈ gw := gw_5 (List.mem_of_getElem? (i := 69) rfl) rfl
theorem hw_5_70 : (Jvm.Cond.instanceMethod ({ cls := "SetFamiliesModel", name := "undo", desc := "()I" } : Jvm.MethodName)) ∈ gw := gw_5 (List.mem_of_getElem? (i := 70) rfl) rfl
theorem hw_5_71 : (Jvm.Cond.selects "SetFamiliesModel" ({ cls := "SetFamiliesModel", name := "undo", desc := "()I" } : Jvm.MethodName) ({ cls := "SetFamiliesModel", name := "undo", desc := "()I" } : Jvm.MethodName)) ∈ gw := gw_5 (List.mem_of_getElem? (i := 71) rfl) rfl
theorem hw_5_72 : (Jvm.Cond.code ({ cls := "SetFamiliesModel", name := "undo", desc := "()I" } : Jvm.MethodName) prog_13_method_7_code (2 : Nat) (Option.some Jvm.ClassFile.FieldType.int)) ∈ gw := gw_5 (List.mem_of_getElem? (i := 72) rfl) rfl
theorem hw_5_73 : (Jvm.Cond.methodLink "SetFamiliesLaw" (115 : Nat) ({ cls := "SetFamiliesModel", name := "setGround", desc := "(I)I" } : Jvm.MethodName)) ∈ gw := gw_5 (List.mem_of_getElem? (i := 73) rfl) rfl
theorem hw_5_74 : (Jvm.Cond.instanceMethod ({ cls := "SetFamiliesModel", name := "setGround", desc := "(I)I" } : Jvm.MethodName)) ∈ gw := gw_5 (List.mem_of_getElem? (i := 74) rfl) rfl
theorem hw_5_75 : (Jvm.Cond.selects "SetFamiliesModel" ({ cls := "SetFamiliesModel", name := "setGround", desc := "(I)I" } : Jvm.MethodName) ({ cls := "SetFamiliesModel", name := "setGround", desc := "(I)I" } : Jvm.MethodName)) ∈ gw := gw_5 (List.mem_of_getElem? (i := 75) rfl) rfl
theorem hw_5_76 : (Jvm.Cond.code ({ cls := "SetFamiliesModel", name := "setGround", desc := "(I)I" } : Jvm.MethodName) prog_13_method_13_code (4 : Nat) (Option.some Jvm.ClassFile.FieldType.int)) ∈ gw := gw_5 (List.mem_of_getElem? (i := 76) rfl) rfl
theorem hw_5_77 : (Jvm.Cond.methodLink "SetFamiliesModel" (43 : Nat) ({ cls := "SetFamiliesModel", name := "in", desc := "(III)Z" } : Jvm.MethodName)) ∈ gw := gw_5 (List.mem_of_getElem? (i := 77) rfl) rfl
theorem hw_5_78 : (Jvm.Cond.static ({ cls := "SetFamiliesModel", name := "in", desc := "(III)Z" } : Jvm.MethodName)) ∈ gw := gw_5 (List.mem_of_getElem? (i := 78) rfl) rfl
theorem hw_5_79 : (Jvm.Cond.code ({ cls := "SetFamiliesModel", name := "in", desc := "(III)Z" } : Jvm.MethodName) prog_13_method_3_code (3 : Nat) (Option.some Jvm.ClassFile.FieldType.boolean)) ∈ gw := gw_5 (List.mem_of_getElem? (i := 79) rfl) rfl
theorem hw_5_80 : (Jvm.Cond.methodLink "SetFamiliesModel" (55 : Nat) ({ cls := "SetFamiliesModel", name := "note", desc := "()V" } : Jvm.MethodName)) ∈ gw := gw_5 (List.mem_of_getElem? (i := 80) rfl) rfl
theorem hw_5_82 : (Jvm.Cond.instanceMethod ({ cls := "SetFamiliesModel", name := "note", desc := "()V" } : Jvm.MethodName)) ∈ gw := gw_5 (List.mem_of_getElem? (i := 82) rfl) rfl
theorem hw_5_83 : (Jvm.Cond.code ({ cls := "SetFamiliesModel", name := "note", desc := "()V" } : Jvm.MethodName) prog_13_method_6_code (2 : Nat) (Option.none : Option Jvm.ClassFile.FieldType)) ∈ gw := gw_5 (List.mem_of_getElem? (i := 83) rfl) rfl
theorem hw_5_84 : (Jvm.Cond.methodLink "SetFamiliesLaw" (122 : Nat) ({ cls := "SetFamiliesModel", name := "add", desc := "(II)Z" } : Jvm.MethodName)) ∈ gw := gw_5 (List.mem_of_getElem? (i := 84) rfl) rfl
theorem hw_5_85 : (Jvm.Cond.instanceMethod ({ cls := "SetFamiliesModel", name := "add", desc := "(II)Z" } : Jvm.MethodName)) ∈ gw := gw_5 (List.mem_of_getElem? (i := 85) rfl) rfl
theorem hw_5_86 : (Jvm.Cond.selects "SetFamiliesModel" ({ cls := "SetFamiliesModel", name := "add", desc := "(II)Z" } : Jvm.MethodName) ({ cls := "SetFamiliesModel", name := "add", desc := "(II)Z" } : Jvm.MethodName)) ∈ gw := gw_5 (List.mem_of_getElem? (i := 86) rfl) rfl
theorem hw_5_87 : (Jvm.Cond.code ({ cls := "SetFamiliesModel", name := "add", desc := "(II)Z" } : Jvm.MethodName) prog_13_method_15_code (3 : Nat) (Option.some Jvm.ClassFile.FieldType.boolean)) ∈ gw := gw_5 (List.mem_of_getElem? (i := 87) rfl) rfl
theorem hw_5_88 : (Jvm.Cond.methodLink "SetFamiliesModel" (69 : Nat) ({ cls := "SetFamiliesModel", name := "changes", desc := "(IIZ)Z" } : Jvm.MethodName)) ∈ gw := gw_5 (List.mem_of_getElem? (i := 88) rfl) rfl
theorem hw_5_90 : (Jvm.Cond.instanceMethod ({ cls := "SetFamiliesModel", name := "changes", desc := "(IIZ)Z" } : Jvm.MethodName)) ∈ gw := gw_5 (List.mem_of_getElem? (i := 90) rfl) rfl
theorem hw_5_91 : (Jvm.Cond.code ({ cls := "SetFamiliesModel", name := "changes", desc := "(IIZ)Z" } : Jvm.MethodName) prog_13_method_14_code (5 : Nat) (Option.some Jvm.ClassFile.FieldType.boolean)) ∈ gw := gw_5 (List.mem_of_getElem? (i := 91) rfl) rfl
theorem hw_5_92 : (Jvm.Cond.methodLink "SetFamiliesModel" (58 : Nat) ({ cls := "SetFamiliesModel", name := "isPlace", desc := "(I)Z" } : Jvm.MethodName)) ∈ gw := gw_5 (List.mem_of_getElem? (i := 92) rfl) rfl
theorem hw_5_93 : (Jvm.Cond.static ({ cls := "SetFamiliesModel", name := "isPlace", desc := "(I)Z" } : Jvm.MethodName)) ∈ gw := gw_5 (List.mem_of_getElem? (i := 93) rfl) rfl
theorem hw_5_94 : (Jvm.Cond.code ({ cls := "SetFamiliesModel", name := "isPlace", desc := "(I)Z" } : Jvm.MethodName) prog_13_method_8_code (1 : Nat) (Option.some Jvm.ClassFile.FieldType.boolean)) ∈ gw := gw_5 (List.mem_of_getElem? (i := 94) rfl) rfl
theorem hw_5_95 : (Jvm.Cond.methodLink "SetFamiliesModel" (62 : Nat) ({ cls := "SetFamiliesModel", name := "isCode", desc := "(I)Z" } : Jvm.MethodName)) ∈ gw := gw_5 (List.mem_of_getElem? (i := 95) rfl) rfl
theorem hw_5_97 : (Jvm.Cond.instanceMethod ({ cls := "SetFamiliesModel", name := "isCode", desc := "(I)Z" } : Jvm.MethodName)) ∈ gw := gw_5 (List.mem_of_getElem? (i := 97) rfl) rfl
theorem hw_5_98 : (Jvm.Cond.code ({ cls := "SetFamiliesModel", name := "isCode", desc := "(I)Z" } : Jvm.MethodName) prog_13_method_10_code (2 : Nat) (Option.some Jvm.ClassFile.FieldType.boolean)) ∈ gw := gw_5 (List.mem_of_getElem? (i := 98) rfl) rfl
theorem hw_5_99 : (Jvm.Cond.methodLink "SetFamiliesModel" (47 : Nat) ({ cls := "SetFamiliesModel", name := "codes", desc := "()I" } : Jvm.MethodName)) ∈ gw := gw_5 (List.mem_of_getElem? (i := 99) rfl) rfl
theorem hw_5_101 : (Jvm.Cond.instanceMethod ({ cls := "SetFamiliesModel", name := "codes", desc := "()I" } : Jvm.MethodName)) ∈ gw := gw_5 (List.mem_of_getElem? (i := 101) rfl) rfl
theorem hw_5_102 : (Jvm.Cond.code ({ cls := "SetFamiliesModel", name := "codes", desc := "()I" } : Jvm.MethodName) prog_13_method_4_code (1 : Nat) (Option.some Jvm.ClassFile.FieldType.int)) ∈ gw := gw_5 (List.mem_of_getElem? (i := 102) rfl) rfl
theorem hw_5_103 : (Jvm.Cond.methodLink "SetFamiliesModel" (65 : Nat) ({ cls := "SetFamiliesModel", name := "mayGo", desc := "(ZZ)Z" } : Jvm.MethodName)) ∈ gw := gw_5 (List.mem_of_getElem? (i := 103) rfl) rfl
theorem hw_5_105 : (Jvm.Cond.instanceMethod ({ cls := "SetFamiliesModel", name := "mayGo", desc := "(ZZ)Z" } : Jvm.MethodName)) ∈ gw := gw_5 (List.mem_of_getElem? (i := 105) rfl) rfl
theorem hw_5_106 : (Jvm.Cond.code ({ cls := "SetFamiliesModel", name := "mayGo", desc := "(ZZ)Z" } : Jvm.MethodName) prog_13_method_9_code (3 : Nat) (Option.some Jvm.ClassFile.FieldType.boolean)) ∈ gw := gw_5 (List.mem_of_getElem? (i := 106) rfl) rfl
theorem hw_5_107 : (Jvm.Cond.methodLink "SetFamiliesLaw" (125 : Nat) ({ cls := "SetFamiliesModel", name := "remove", desc := "(II)Z" } : Jvm.MethodName)) ∈ gw := gw_5 (List.mem_of_getElem? (i := 107) rfl) rfl
theorem hw_5_108 : (Jvm.Cond.instanceMethod ({ cls := "SetFamiliesModel", name := "remove", desc := "(II)Z" } : Jvm.MethodName)) ∈ gw := gw_5 (List.mem_of_getElem? (i := 108) rfl) rfl
theorem hw_5_109 : (Jvm.Cond.selects "SetFamiliesModel" ({ cls := "SetFamiliesModel", name := "remove", desc := "(II)Z" } : Jvm.MethodName) ({ cls := "SetFamiliesModel", name := "remove", desc := "(II)Z" } : Jvm.MethodName)) ∈ gw := gw_5 (List.mem_of_getElem? (i := 109) rfl) rfl
theorem hw_5_110 : (Jvm.Cond.code ({ cls := "SetFamiliesModel", name := "remove", desc := "(II)Z" } : Jvm.MethodName) prog_13_method_16_code (3 : Nat) (Option.some Jvm.ClassFile.FieldType.boolean)) ∈ gw := gw_5 (List.mem_of_getElem? (i := 110) rfl) rfl
theorem hw_5_111 : (Jvm.Cond.methodLink "SetFamiliesLaw" (128 : Nat) ({ cls := "SetFamiliesModel", name := "has", desc := "(II)Z" } : Jvm.MethodName)) ∈ gw := gw_5 (List.mem_of_getElem? (i := 111) rfl) rfl
theorem hw_5_112 : (Jvm.Cond.instanceMethod ({ cls := "SetFamiliesModel", name := "has", desc := "(II)Z" } : Jvm.MethodName)) ∈ gw := gw_5 (List.mem_of_getElem? (i := 112) rfl) rfl
theorem hw_5_113 : (Jvm.Cond.selects "SetFamiliesModel" ({ cls := "SetFamiliesModel", name := "has", desc := "(II)Z" } : Jvm.MethodName) ({ cls := "SetFamiliesModel", name := "has", desc := "(II)Z" } : Jvm.MethodName)) ∈ gw := gw_5 (List.mem_of_getElem? (i := 113) rfl) rfl
theorem hw_5_114 : (Jvm.Cond.code ({ cls := "SetFamiliesModel", name := "has", desc := "(II)Z" } : Jvm.MethodName) prog_13_method_17_code (3 : Nat) (Option.some Jvm.ClassFile.FieldType.boolean)) ∈ gw := gw_5 (List.mem_of_getElem? (i := 114) rfl) rfl
theorem hw_5_115 : (Jvm.Cond.methodLink "SetFamiliesLaw" (131 : Nat) ({ cls := "SetFamiliesModel", name := "size", desc := "(II)I" } : Jvm.MethodName)) ∈ gw := gw_5 (List.mem_of_getElem? (i := 115) rfl) rfl
theorem hw_5_116 : (Jvm.Cond.instanceMethod ({ cls := "SetFamiliesModel", name := "size", desc := "(II)I" } : Jvm.MethodName)) ∈ gw := gw_5 (List.mem_of_getElem? (i := 116) rfl) rfl
theorem hw_5_117 : (Jvm.Cond.selects "SetFamiliesModel" ({ cls := "SetFamiliesModel", name := "size", desc := "(II)I" } : Jvm.MethodName) ({ cls := "SetFamiliesModel", name := "size", desc := "(II)I" } : Jvm.MethodName)) ∈ gw := gw_5 (List.mem_of_getElem? (i := 117) rfl) rfl
theorem hw_5_118 : (Jvm.Cond.code ({ cls := "SetFamiliesModel", name := "size", desc := "(II)I" } : Jvm.MethodName) prog_13_method_18_code (3 : Nat) (Option.some Jvm.ClassFile.FieldType.int)) ∈ gw := gw_5 (List.mem_of_getElem? (i := 118) rfl) rfl
theorem hw_5_119 : (Jvm.Cond.methodLink "SetFamiliesModel" (73 : Nat) ({ cls := "SetFamiliesModel", name := "sizeOf", desc := "(II)I" } : Jvm.MethodName)) ∈ gw := gw_5 (List.mem_of_getElem? (i := 119) rfl) rfl
theorem hw_5_121 : (Jvm.Cond.instanceMethod ({ cls := "SetFamiliesModel", name := "sizeOf", desc := "(II)I" } : Jvm.MethodName)) ∈ gw := gw_5 (List.mem_of_getElem? (i := 121) rfl) rfl
theorem hw_5_122 : (Jvm.Cond.code ({ cls := "SetFamiliesModel", name := "sizeOf", desc := "(II)I" } : Jvm.MethodName) prog_13_method_12_code (5 : Nat) (Option.some Jvm.ClassFile.FieldType.int)) ∈ gw := gw_5 (List.mem_of_getElem? (i := 122) rfl) rfl
theorem hw_5_123 : (Jvm.Cond.methodLink "SetFamiliesModel" (51 : Nat) ({ cls := "SetFamiliesModel", name := "bits", desc := "(I)I" } : Jvm.MethodName)) ∈ gw := gw_5 (List.mem_of_getElem? (i := 123) rfl) rfl
theorem hw_5_124 : (Jvm.Cond.static ({ cls := "SetFamiliesModel", name := "bits", desc := "(I)I" } : Jvm.MethodName)) ∈ gw := gw_5 (List.mem_of_getElem? (i := 124) rfl) rfl
theorem hw_5_125 : (Jvm.Cond.code ({ cls := "SetFamiliesModel", name := "bits", desc := "(I)I" } : Jvm.MethodName) prog_13_method_5_code (3 : Nat) (Option.some Jvm.ClassFile.FieldType.int)) ∈ gw := gw_5 (List.mem_of_getElem? (i := 125) rfl) rfl
theorem hw_5_126 : (Jvm.Cond.methodLink "SetFamiliesLaw" (134 : Nat) ({ cls := "SetFamiliesModel", name := "get", desc := "(II)I" } : Jvm.MethodName)) ∈ gw := gw_5 (List.mem_of_getElem? (i := 126) rfl) rfl
theorem hw_5_127 : (Jvm.Cond.instanceMethod ({ cls := "SetFamiliesModel", name := "get", desc := "(II)I" } : Jvm.MethodName)) ∈ gw := gw_5 (List.mem_of_getElem? (i := 127) rfl) rfl
theorem hw_5_128 : (Jvm.Cond.selects "SetFamiliesModel" ({ cls := "SetFamiliesModel", name := "get", desc := "(II)I" } : Jvm.MethodName) ({ cls := "SetFamiliesModel", name := "get", desc := "(II)I" } : Jvm.MethodName)) ∈ gw := gw_5 (List.mem_of_getElem? (i := 128) rfl) rfl
theorem hw_5_129 : (Jvm.Cond.code ({ cls := "SetFamiliesModel", name := "get", desc := "(II)I" } : Jvm.MethodName) prog_13_method_19_code (5 : Nat) (Option.some Jvm.ClassFile.FieldType.int)) ∈ gw := gw_5 (List.mem_of_getElem? (i := 129) rfl) rfl
theorem hw_5_130 : (Jvm.Cond.methodLink "SetFamiliesLaw" (137 : Nat) ({ cls := "SetFamiliesModel", name := "degree", desc := "(II)I" } : Jvm.MethodName)) ∈ gw := gw_5 (List.mem_of_getElem? (i := 130) rfl) rfl
theorem hw_5_131 : (Jvm.Cond.instanceMethod ({ cls := "SetFamiliesModel", name := "degree", desc := "(II)I" } : Jvm.MethodName)) ∈ gw := gw_5 (List.mem_of_getElem? (i := 131) rfl) rfl
theorem hw_5_132 : (Jvm.Cond.selects "SetFamiliesModel" ({ cls := "SetFamiliesModel", name := "degree", desc := "(II)I" } : Jvm.MethodName) ({ cls := "SetFamiliesModel", name := "degree", desc := "(II)I" } : Jvm.MethodName)) ∈ gw := gw_5 (List.mem_of_getElem? (i := 132) rfl) rfl
theorem hw_5_133 : (Jvm.Cond.code ({ cls := "SetFamiliesModel", name := "degree", desc := "(II)I" } : Jvm.MethodName) prog_13_method_21_code (3 : Nat) (Option.some Jvm.ClassFile.FieldType.int)) ∈ gw := gw_5 (List.mem_of_getElem? (i := 133) rfl) rfl
theorem hw_5_134 : (Jvm.Cond.methodLink "SetFamiliesModel" (77 : Nat) ({ cls := "SetFamiliesModel", name := "isElement", desc := "(I)Z" } : Jvm.MethodName)) ∈ gw := gw_5 (List.mem_of_getElem? (i := 134) rfl) rfl
theorem hw_5_136 : (Jvm.Cond.instanceMethod ({ cls := "SetFamiliesModel", name := "isElement", desc := "(I)Z" } : Jvm.MethodName)) ∈ gw := gw_5 (List.mem_of_getElem? (i := 136) rfl) rfl
theorem hw_5_137 : (Jvm.Cond.code ({ cls := "SetFamiliesModel", name := "isElement", desc := "(I)Z" } : Jvm.MethodName) prog_13_method_11_code (2 : Nat) (Option.some Jvm.ClassFile.FieldType.boolean)) ∈ gw := gw_5 (List.mem_of_getElem? (i := 137) rfl) rfl
theorem hw_5_138 : (Jvm.Cond.methodLink "SetFamiliesModel" (80 : Nat) ({ cls := "SetFamiliesModel", name := "degreeOf", desc := "(II)I" } : Jvm.MethodName)) ∈ gw := gw_5 (List.mem_of_getElem? (i := 138) rfl) rfl
theorem hw_5_140 : (Jvm.Cond.instanceMethod ({ cls := "SetFamiliesModel", name := "degreeOf", desc := "(II)I" } : Jvm.MethodName)) ∈ gw := gw_5 (List.mem_of_getElem? (i := 140) rfl) rfl
theorem hw_5_141 : (Jvm.Cond.code ({ cls := "SetFamiliesModel", name := "degreeOf", desc := "(II)I" } : Jvm.MethodName) prog_13_method_20_code (5 : Nat) (Option.some Jvm.ClassFile.FieldType.int)) ∈ gw := gw_5 (List.mem_of_getElem? (i := 141) rfl) rfl
theorem hw_5_142 : (Jvm.Cond.methodLink "SetFamiliesLaw" (141 : Nat) ({ cls := "SetFamiliesModel", name := "combine", desc := "(IIII)I" } : Jvm.MethodName)) ∈ gw := gw_5 (List.mem_of_getElem? (i := 142) rfl) rfl
theorem hw_5_143 : (Jvm.Cond.instanceMethod ({ cls := "SetFamiliesModel", name := "combine", desc := "(IIII)I" } : Jvm.MethodName)) ∈ gw := gw_5 (List.mem_of_getElem? (i := 143) rfl) rfl
theorem hw_5_144 : (Jvm.Cond.selects "SetFamiliesModel" ({ cls := "SetFamiliesModel", name := "combine", desc := "(IIII)I" } : Jvm.MethodName) ({ cls := "SetFamiliesModel", name := "combine", desc := "(IIII)I" } : Jvm.MethodName)) ∈ gw := gw_5 (List.mem_of_getElem? (i := 144) rfl) rfl
theorem hw_5_145 : (Jvm.Cond.code ({ cls := "SetFamiliesModel", name := "combine", desc := "(IIII)I" } : Jvm.MethodName) prog_13_method_24_code (8 : Nat) (Option.some Jvm.ClassFile.FieldType.int)) ∈ gw := gw_5 (List.mem_of_getElem? (i := 145) rfl) rfl
theorem hw_5_146 : (Jvm.Cond.methodLink "SetFamiliesModel" (83 : Nat) ({ cls := "SetFamiliesModel", name := "lays", desc := "(I)I" } : Jvm.MethodName)) ∈ gw := gw_5 (List.mem_of_getElem? (i := 146) rfl) rfl
theorem hw_5_148 : (Jvm.Cond.instanceMethod ({ cls := "SetFamiliesModel", name := "lays", desc := "(I)I" } : Jvm.MethodName)) ∈ gw := gw_5 (List.mem_of_getElem? (i := 148) rfl) rfl
theorem hw_5_149 : (Jvm.Cond.code ({ cls := "SetFamiliesModel", name := "lays", desc := "(I)I" } : Jvm.MethodName) prog_13_method_23_code (3 : Nat) (Option.some Jvm.ClassFile.FieldType.int)) ∈ gw := gw_5 (List.mem_of_getElem? (i := 149) rfl) rfl
theorem hw_5_150 : (Jvm.Cond.methodLink "SetFamiliesLaw" (145 : Nat) ({ cls := "SetFamiliesModel", name := "derive", desc := "(III)I" } : Jvm.MethodName)) ∈ gw := gw_5 (List.mem_of_getElem? (i := 150) rfl) rfl
theorem hw_5_151 : (Jvm.Cond.instanceMethod ({ cls := "SetFamiliesModel", name := "derive", desc := "(III)I" } : Jvm.MethodName)) ∈ gw := gw_5 (List.mem_of_getElem? (i := 151) rfl) rfl
theorem hw_5_152 : (Jvm.Cond.selects "SetFamiliesModel" ({ cls := "SetFamiliesModel", name := "derive", desc := "(III)I" } : Jvm.MethodName) ({ cls := "SetFamiliesModel", name := "derive", desc := "(III)I" } : Jvm.MethodName)) ∈ gw := gw_5 (List.mem_of_getElem? (i := 152) rfl) rfl
theorem hw_5_153 : (Jvm.Cond.code ({ cls := "SetFamiliesModel", name := "derive", desc := "(III)I" } : Jvm.MethodName) prog_13_method_31_code (5 : Nat) (Option.some Jvm.ClassFile.FieldType.int)) ∈ gw := gw_5 (List.mem_of_getElem? (i := 153) rfl) rfl
theorem hw_5_154 : (Jvm.Cond.methodLink "SetFamiliesModel" (97 : Nat) ({ cls := "SetFamiliesModel", name := "empties", desc := "()V" } : Jvm.MethodName)) ∈ gw := gw_5 (List.mem_of_getElem? (i := 154) rfl) rfl
theorem hw_5_156 : (Jvm.Cond.instanceMethod ({ cls := "SetFamiliesModel", name := "empties", desc := "()V" } : Jvm.MethodName)) ∈ gw := gw_5 (List.mem_of_getElem? (i := 156) rfl) rfl
theorem hw_5_157 : (Jvm.Cond.code ({ cls := "SetFamiliesModel", name := "empties", desc := "()V" } : Jvm.MethodName) prog_13_method_22_code (2 : Nat) (Option.none : Option Jvm.ClassFile.FieldType)) ∈ gw := gw_5 (List.mem_of_getElem? (i := 157) rfl) rfl
theorem hw_5_158 : (Jvm.Cond.methodLink "SetFamiliesModel" (100 : Nat) ({ cls := "SetFamiliesModel", name := "shadow", desc := "(IZ)V" } : Jvm.MethodName)) ∈ gw := gw_5 (List.mem_of_getElem? (i := 158) rfl) rfl
theorem hw_5_160 : (Jvm.Cond.instanceMethod ({ cls := "SetFamiliesModel", name := "shadow", desc := "(IZ)V" } : Jvm.MethodName)) ∈ gw := gw_5 (List.mem_of_getElem? (i := 160) rfl) rfl
theorem hw_5_161 : (Jvm.Cond.code ({ cls := "SetFamiliesModel", name := "shadow", desc := "(IZ)V" } : Jvm.MethodName) prog_13_method_25_code (6 : Nat) (Option.none : Option Jvm.ClassFile.FieldType)) ∈ gw := gw_5 (List.mem_of_getElem? (i := 161) rfl) rfl
theorem hw_5_162 : (Jvm.Cond.methodLink "SetFamiliesModel" (104 : Nat) ({ cls := "SetFamiliesModel", name := "closes", desc := "(IZ)V" } : Jvm.MethodName)) ∈ gw := gw_5 (List.mem_of_getElem? (i := 162) rfl) rfl
theorem hw_5_164 : (Jvm.Cond.instanceMethod ({ cls := "SetFamiliesModel", name := "closes", desc := "(IZ)V" } : Jvm.MethodName)) ∈ gw := gw_5 (List.mem_of_getElem? (i := 164) rfl) rfl
theorem hw_5_165 : (Jvm.Cond.code ({ cls := "SetFamiliesModel", name := "closes", desc := "(IZ)V" } : Jvm.MethodName) prog_13_method_29_code (7 : Nat) (Option.none : Option Jvm.ClassFile.FieldType)) ∈ gw := gw_5 (List.mem_of_getElem? (i := 165) rfl) rfl
theorem hw_5_166 : (Jvm.Cond.methodLink "SetFamiliesModel" (107 : Nat) ({ cls := "SetFamiliesModel", name := "isDerived", desc := "(III)Z" } : Jvm.MethodName)) ∈ gw := gw_5 (List.mem_of_getElem? (i := 166) rfl) rfl
theorem hw_5_168 : (Jvm.Cond.instanceMethod ({ cls := "SetFamiliesModel", name := "isDerived", desc := "(III)Z" } : Jvm.MethodName)) ∈ gw := gw_5 (List.mem_of_getElem? (i := 168) rfl) rfl
theorem hw_5_169 : (Jvm.Cond.code ({ cls := "SetFamiliesModel", name := "isDerived", desc := "(III)Z" } : Jvm.MethodName) prog_13_method_30_code (4 : Nat) (Option.some Jvm.ClassFile.FieldType.boolean)) ∈ gw := gw_5 (List.mem_of_getElem? (i := 169) rfl) rfl
theorem hw_5_170 : (Jvm.Cond.methodLink "SetFamiliesModel" (90 : Nat) ({ cls := "SetFamiliesModel", name := "hasBelow", desc := "(IIZZ)Z" } : Jvm.MethodName)) ∈ gw := gw_5 (List.mem_of_getElem? (i := 170) rfl) rfl
theorem hw_5_172 : (Jvm.Cond.instanceMethod ({ cls := "SetFamiliesModel", name := "hasBelow", desc := "(IIZZ)Z" } : Jvm.MethodName)) ∈ gw := gw_5 (List.mem_of_getElem? (i := 172) rfl) rfl
theorem hw_5_173 : (Jvm.Cond.code ({ cls := "SetFamiliesModel", name := "hasBelow", desc := "(IIZZ)Z" } : Jvm.MethodName) prog_13_method_26_code (8 : Nat) (Option.some Jvm.ClassFile.FieldType.boolean)) ∈ gw := gw_5 (List.mem_of_getElem? (i := 173) rfl) rfl
theorem hw_5_174 : (Jvm.Cond.methodLink "SetFamiliesModel" (94 : Nat) ({ cls := "SetFamiliesModel", name := "blocks", desc := "(II)Z" } : Jvm.MethodName)) ∈ gw := gw_5 (List.mem_of_getElem? (i := 174) rfl) rfl
theorem hw_5_176 : (Jvm.Cond.instanceMethod ({ cls := "SetFamiliesModel", name := "blocks", desc := "(II)Z" } : Jvm.MethodName)) ∈ gw := gw_5 (List.mem_of_getElem? (i := 176) rfl) rfl
theorem hw_5_177 : (Jvm.Cond.code ({ cls := "SetFamiliesModel", name := "blocks", desc := "(II)Z" } : Jvm.MethodName) prog_13_method_28_code (5 : Nat) (Option.some Jvm.ClassFile.FieldType.boolean)) ∈ gw := gw_5 (List.mem_of_getElem? (i := 177) rfl) rfl
theorem hw_5_178 : (Jvm.Cond.methodLink "SetFamiliesModel" (86 : Nat) ({ cls := "SetFamiliesModel", name := "hits", desc := "(II)Z" } : Jvm.MethodName)) ∈ gw := gw_5 (List.mem_of_getElem? (i := 178) rfl) rfl
theorem hw_5_180 : (Jvm.Cond.instanceMethod ({ cls := "SetFamiliesModel", name := "hits", desc := "(II)Z" } : Jvm.MethodName)) ∈ gw := gw_5 (List.mem_of_getElem? (i := 180) rfl) rfl
theorem hw_5_181 : (Jvm.Cond.code ({ cls := "SetFamiliesModel", name := "hits", desc := "(II)Z" } : Jvm.MethodName) prog_13_method_27_code (5 : Nat) (Option.some Jvm.ClassFile.FieldType.boolean)) ∈ gw := gw_5 (List.mem_of_getElem? (i := 181) rfl) rfl
theorem hw_5_182 : (Jvm.Cond.methodLink "SetFamiliesLaw" (148 : Nat) ({ cls := "SetFamiliesModel", name := "compress", desc := "(III)I" } : Jvm.MethodName)) ∈ gw := gw_5 (List.mem_of_getElem? (i := 182) rfl) rfl
theorem hw_5_183 : (Jvm.Cond.instanceMethod ({ cls := "SetFamiliesModel", name := "compress", desc := "(III)I" } : Jvm.MethodName)) ∈ gw := gw_5 (List.mem_of_getElem? (i := 183) rfl) rfl
theorem hw_5_184 : (Jvm.Cond.selects "SetFamiliesModel" ({ cls := "SetFamiliesModel", name := "compress", desc := "(III)I" } : Jvm.MethodName) ({ cls := "SetFamiliesModel", name := "compress", desc := "(III)I" } : Jvm.MethodName)) ∈ gw := gw_5 (List.mem_of_getElem? (i := 184) rfl) rfl
theorem hw_5_185 : (Jvm.Cond.code ({ cls := "SetFamiliesModel", name := "compress", desc := "(III)I" } : Jvm.MethodName) prog_13_method_33_code (4 : Nat) (Option.some Jvm.ClassFile.FieldType.int)) ∈ gw := gw_5 (List.mem_of_getElem? (i := 185) rfl) rfl
theorem hw_5_186 : (Jvm.Cond.methodLink "SetFamiliesModel" (110 : Nat) ({ cls := "SetFamiliesModel", name := "compresses", desc := "(III)I" } : Jvm.MethodName)) ∈ gw := gw_5 (List.mem_of_getElem? (i := 186) rfl) rfl
theorem hw_5_188 : (Jvm.Cond.instanceMethod ({ cls := "SetFamiliesModel", name := "compresses", desc := "(III)I" } : Jvm.MethodName)) ∈ gw := gw_5 (List.mem_of_getElem? (i := 188) rfl) rfl
theorem hw_5_189 : (Jvm.Cond.code ({ cls := "SetFamiliesModel", name := "compresses", desc := "(III)I" } : Jvm.MethodName) prog_13_method_32_code (8 : Nat) (Option.some Jvm.ClassFile.FieldType.int)) ∈ gw := gw_5 (List.mem_of_getElem? (i := 189) rfl) rfl
theorem hw_5_190 : (Jvm.Cond.methodLink "SetFamiliesLaw" (151 : Nat) ({ cls := "SetFamiliesModel", name := "shift", desc := "(I)I" } : Jvm.MethodName)) ∈ gw := gw_5 (List.mem_of_getElem? (i := 190) rfl) rfl
theorem hw_5_191 : (Jvm.Cond.instanceMethod ({ cls := "SetFamiliesModel", name := "shift", desc := "(I)I" } : Jvm.MethodName)) ∈ gw := gw_5 (List.mem_of_getElem? (i := 191) rfl) rfl
theorem hw_5_192 : (Jvm.Cond.selects "SetFamiliesModel" ({ cls := "SetFamiliesModel", name := "shift", desc := "(I)I" } : Jvm.MethodName) ({ cls := "SetFamiliesModel", name := "shift", desc := "(I)I" } : Jvm.MethodName)) ∈ gw := gw_5 (List.mem_of_getElem? (i := 192) rfl) rfl
theorem hw_5_193 : (Jvm.Cond.code ({ cls := "SetFamiliesModel", name := "shift", desc := "(I)I" } : Jvm.MethodName) prog_13_method_34_code (7 : Nat) (Option.some Jvm.ClassFile.FieldType.int)) ∈ gw := gw_5 (List.mem_of_getElem? (i := 193) rfl) rfl
theorem hw_5_194 : (Jvm.Cond.methodLink "SetFamiliesLaw" (154 : Nat) ({ cls := "SetFamiliesModel", name := "trace", desc := "(III)I" } : Jvm.MethodName)) ∈ gw := gw_5 (List.mem_of_getElem? (i := 194) rfl) rfl
theorem hw_5_195 : (Jvm.Cond.instanceMethod ({ cls := "SetFamiliesModel", name := "trace", desc := "(III)I" } : Jvm.MethodName)) ∈ gw := gw_5 (List.mem_of_getElem? (i := 195) rfl) rfl
theorem hw_5_196 : (Jvm.Cond.selects "SetFamiliesModel" ({ cls := "SetFamiliesModel", name := "trace", desc := "(III)I" } : Jvm.MethodName) ({ cls := "SetFamiliesModel", name := "trace", desc := "(III)I" } : Jvm.MethodName)) ∈ gw := gw_5 (List.mem_of_getElem? (i := 196) rfl) rfl
theorem hw_5_197 : (Jvm.Cond.code ({ cls := "SetFamiliesModel", name := "trace", desc := "(III)I" } : Jvm.MethodName) prog_13_method_35_code (5 : Nat) (Option.some Jvm.ClassFile.FieldType.int)) ∈ gw := gw_5 (List.mem_of_getElem? (i := 197) rfl) rfl
theorem hw_5_198 : (Jvm.Cond.methodLink "SetFamiliesLaw" (157 : Nat) ({ cls := "SetFamiliesModel", name := "segment", desc := "(III)I" } : Jvm.MethodName)) ∈ gw := gw_5 (List.mem_of_getElem? (i := 198) rfl) rfl
theorem hw_5_199 : (Jvm.Cond.instanceMethod ({ cls := "SetFamiliesModel", name := "segment", desc := "(III)I" } : Jvm.MethodName)) ∈ gw := gw_5 (List.mem_of_getElem? (i := 199) rfl) rfl
theorem hw_5_200 : (Jvm.Cond.selects "SetFamiliesModel" ({ cls := "SetFamiliesModel", name := "segment", desc := "(III)I" } : Jvm.MethodName) ({ cls := "SetFamiliesModel", name := "segment", desc := "(III)I" } : Jvm.MethodName)) ∈ gw := gw_5 (List.mem_of_getElem? (i := 200) rfl) rfl
theorem hw_5_201 : (Jvm.Cond.code ({ cls := "SetFamiliesModel", name := "segment", desc := "(III)I" } : Jvm.MethodName) prog_13_method_37_code (7 : Nat) (Option.some Jvm.ClassFile.FieldType.int)) ∈ gw := gw_5 (List.mem_of_getElem? (i := 201) rfl) rfl
theorem hw_5_202 : (Jvm.Cond.methodLink "SetFamiliesModel" (114 : Nat) ({ cls := "SetFamiliesModel", name := "over", desc := "(II)J" } : Jvm.MethodName)) ∈ gw := gw_5 (List.mem_of_getElem? (i := 202) rfl) rfl
theorem hw_5_203 : (Jvm.Cond.static ({ cls := "SetFamiliesModel", name := "over", desc := "(II)J" } : Jvm.MethodName)) ∈ gw := gw_5 (List.mem_of_getElem? (i := 203) rfl) rfl
theorem hw_5_204 : (Jvm.Cond.code ({ cls := "SetFamiliesModel", name := "over", desc := "(II)J" } : Jvm.MethodName) prog_13_method_36_code (5 : Nat) (Option.some Jvm.ClassFile.FieldType.long)) ∈ gw := gw_5 (List.mem_of_getElem? (i := 204) rfl) rfl
theorem hw_5_205 : (Jvm.Cond.methodLink "SetFamiliesLaw" (160 : Nat) ({ cls := "SetFamiliesModel", name := "rank", desc := "(I)I" } : Jvm.MethodName)) ∈ gw := gw_5 (List.mem_of_getElem? (i := 205) rfl) rfl
theorem hw_5_206 : (Jvm.Cond.instanceMethod ({ cls := "SetFamiliesModel", name := "rank", desc := "(I)I" } : Jvm.MethodName)) ∈ gw := gw_5 (List.mem_of_getElem? (i := 206) rfl) rfl
theorem hw_5_207 : (Jvm.Cond.selects "SetFamiliesModel" ({ cls := "SetFamiliesModel", name := "rank", desc := "(I)I" } : Jvm.MethodName) ({ cls := "SetFamiliesModel", name := "rank", desc := "(I)I" } : Jvm.MethodName)) ∈ gw := gw_5 (List.mem_of_getElem? (i := 207) rfl) rfl
theorem hw_5_208 : (Jvm.Cond.code ({ cls := "SetFamiliesModel", name := "rank", desc := "(I)I" } : Jvm.MethodName) prog_13_method_38_code (5 : Nat) (Option.some Jvm.ClassFile.FieldType.int)) ∈ gw := gw_5 (List.mem_of_getElem? (i := 208) rfl) rfl
theorem hw_5_209 : (Jvm.Cond.methodLink "SetFamiliesLaw" (163 : Nat) ({ cls := "SetFamiliesModel", name := "unrank", desc := "(II)I" } : Jvm.MethodName)) ∈ gw := gw_5 (List.mem_of_getElem? (i := 209) rfl) rfl
theorem hw_5_210 : (Jvm.Cond.instanceMethod ({ cls := "SetFamiliesModel", name := "unrank", desc := "(II)I" } : Jvm.MethodName)) ∈ gw := gw_5 (List.mem_of_getElem? (i := 210) rfl) rfl
theorem hw_5_211 : (Jvm.Cond.selects "SetFamiliesModel" ({ cls := "SetFamiliesModel", name := "unrank", desc := "(II)I" } : Jvm.MethodName) ({ cls := "SetFamiliesModel", name := "unrank", desc := "(II)I" } : Jvm.MethodName)) ∈ gw := gw_5 (List.mem_of_getElem? (i := 211) rfl) rfl
theorem hw_5_212 : (Jvm.Cond.code ({ cls := "SetFamiliesModel", name := "unrank", desc := "(II)I" } : Jvm.MethodName) prog_13_method_39_code (5 : Nat) (Option.some Jvm.ClassFile.FieldType.int)) ∈ gw := gw_5 (List.mem_of_getElem? (i := 212) rfl) rfl
theorem hw_5_213 : (Jvm.Cond.methodLink "SetFamiliesLaw" (166 : Nat) ({ cls := "SetFamiliesModel", name := "cascade", desc := "(III)I" } : Jvm.MethodName)) ∈ gw := gw_5 (List.mem_of_getElem? (i := 213) rfl) rfl
theorem hw_5_214 : (Jvm.Cond.instanceMethod ({ cls := "SetFamiliesModel", name := "cascade", desc := "(III)I" } : Jvm.MethodName)) ∈ gw := gw_5 (List.mem_of_getElem? (i := 214) rfl) rfl
theorem hw_5_215 : (Jvm.Cond.selects "SetFamiliesModel" ({ cls := "SetFamiliesModel", name := "cascade", desc := "(III)I" } : Jvm.MethodName) ({ cls := "SetFamiliesModel", name := "cascade", desc := "(III)I" } : Jvm.MethodName)) ∈ gw := gw_5 (List.mem_of_getElem? (i := 215) rfl) rfl
theorem hw_5_216 : (Jvm.Cond.code ({ cls := "SetFamiliesModel", name := "cascade", desc := "(III)I" } : Jvm.MethodName) prog_13_method_41_code (8 : Nat) (Option.some Jvm.ClassFile.FieldType.int)) ∈ gw := gw_5 (List.mem_of_getElem? (i := 216) rfl) rfl
theorem hw_5_217 : (Jvm.Cond.constant "SetFamiliesModel" (118 : Nat) (1000000 : Int32)) ∈ gw := gw_5 (List.mem_of_getElem? (i := 217) rfl) rfl
theorem hw_5_218 : (Jvm.Cond.methodLink "SetFamiliesModel" (119 : Nat) ({ cls := "SetFamiliesModel", name := "greatest", desc := "(II)I" } : Jvm.MethodName)) ∈ gw := gw_5 (List.mem_of_getElem? (i := 218) rfl) rfl
theorem hw_5_219 : (Jvm.Cond.static ({ cls := "SetFamiliesModel", name := "greatest", desc := "(II)I" } : Jvm.MethodName)) ∈ gw := gw_5 (List.mem_of_getElem? (i := 219) rfl) rfl
theorem hw_5_220 : (Jvm.Cond.code ({ cls := "SetFamiliesModel", name := "greatest", desc := "(II)I" } : Jvm.MethodName) prog_13_method_40_code (3 : Nat) (Option.some Jvm.ClassFile.FieldType.int)) ∈ gw := gw_5 (List.mem_of_getElem? (i := 220) rfl) rfl
theorem hw_5_221 : (Jvm.Cond.methodLink "SetFamiliesLaw" (169 : Nat) ({ cls := "SetFamiliesModel", name := "shadowBound", desc := "(II)I" } : Jvm.MethodName)) ∈ gw := gw_5 (List.mem_of_getElem? (i := 221) rfl) rfl
theorem hw_5_222 : (Jvm.Cond.instanceMethod ({ cls := "SetFamiliesModel", name := "shadowBound", desc := "(II)I" } : Jvm.MethodName)) ∈ gw := gw_5 (List.mem_of_getElem? (i := 222) rfl) rfl
theorem hw_5_223 : (Jvm.Cond.selects "SetFamiliesModel" ({ cls := "SetFamiliesModel", name := "shadowBound", desc := "(II)I" } : Jvm.MethodName) ({ cls := "SetFamiliesModel", name := "shadowBound", desc := "(II)I" } : Jvm.MethodName)) ∈ gw := gw_5 (List.mem_of_getElem? (i := 223) rfl) rfl
theorem hw_5_224 : (Jvm.Cond.code ({ cls := "SetFamiliesModel", name := "shadowBound", desc := "(II)I" } : Jvm.MethodName) prog_13_method_43_code (3 : Nat) (Option.some Jvm.ClassFile.FieldType.int)) ∈ gw := gw_5 (List.mem_of_getElem? (i := 224) rfl) rfl
theorem hw_5_225 : (Jvm.Cond.methodLink "SetFamiliesModel" (122 : Nat) ({ cls := "SetFamiliesModel", name := "bound", desc := "(II)I" } : Jvm.MethodName)) ∈ gw := gw_5 (List.mem_of_getElem? (i := 225) rfl) rfl
theorem hw_5_226 : (Jvm.Cond.static ({ cls := "SetFamiliesModel", name := "bound", desc := "(II)I" } : Jvm.MethodName)) ∈ gw := gw_5 (List.mem_of_getElem? (i := 226) rfl) rfl
theorem hw_5_227 : (Jvm.Cond.code ({ cls := "SetFamiliesModel", name := "bound", desc := "(II)I" } : Jvm.MethodName) prog_13_method_42_code (6 : Nat) (Option.some Jvm.ClassFile.FieldType.int)) ∈ gw := gw_5 (List.mem_of_getElem? (i := 227) rfl) rfl
theorem hw_5_228 : (Jvm.Cond.methodLink "SetFamiliesLaw" (172 : Nat) ({ cls := "SetFamiliesModel", name := "excess", desc := "(II)I" } : Jvm.MethodName)) ∈ gw := gw_5 (List.mem_of_getElem? (i := 228) rfl) rfl
theorem hw_5_229 : (Jvm.Cond.instanceMethod ({ cls := "SetFamiliesModel", name := "excess", desc := "(II)I" } : Jvm.MethodName)) ∈ gw := gw_5 (List.mem_of_getElem? (i := 229) rfl) rfl
theorem hw_5_230 : (Jvm.Cond.selects "SetFamiliesModel" ({ cls := "SetFamiliesModel", name := "excess", desc := "(II)I" } : Jvm.MethodName) ({ cls := "SetFamiliesModel", name := "excess", desc := "(II)I" } : Jvm.MethodName)) ∈ gw := gw_5 (List.mem_of_getElem? (i := 230) rfl) rfl
theorem hw_5_231 : (Jvm.Cond.code ({ cls := "SetFamiliesModel", name := "excess", desc := "(II)I" } : Jvm.MethodName) prog_13_method_45_code (3 : Nat) (Option.some Jvm.ClassFile.FieldType.int)) ∈ gw := gw_5 (List.mem_of_getElem? (i := 231) rfl) rfl
theorem hw_5_232 : (Jvm.Cond.methodLink "SetFamiliesModel" (125 : Nat) ({ cls := "SetFamiliesModel", name := "excessOf", desc := "(II)I" } : Jvm.MethodName)) ∈ gw := gw_5 (List.mem_of_getElem? (i := 232) rfl) rfl
theorem hw_5_234 : (Jvm.Cond.instanceMethod ({ cls := "SetFamiliesModel", name := "excessOf", desc := "(II)I" } : Jvm.MethodName)) ∈ gw := gw_5 (List.mem_of_getElem? (i := 234) rfl) rfl
theorem hw_5_235 : (Jvm.Cond.code ({ cls := "SetFamiliesModel", name := "excessOf", desc := "(II)I" } : Jvm.MethodName) prog_13_method_44_code (7 : Nat) (Option.some Jvm.ClassFile.FieldType.int)) ∈ gw := gw_5 (List.mem_of_getElem? (i := 235) rfl) rfl
theorem hw_5_236 : (Jvm.Cond.methodLink "SetFamiliesLaw" (175 : Nat) ({ cls := "SetFamiliesModel", name := "is", desc := "(II)Z" } : Jvm.MethodName)) ∈ gw := gw_5 (List.mem_of_getElem? (i := 236) rfl) rfl
theorem hw_5_237 : (Jvm.Cond.instanceMethod ({ cls := "SetFamiliesModel", name := "is", desc := "(II)Z" } : Jvm.MethodName)) ∈ gw := gw_5 (List.mem_of_getElem? (i := 237) rfl) rfl
theorem hw_5_238 : (Jvm.Cond.selects "SetFamiliesModel" ({ cls := "SetFamiliesModel", name := "is", desc := "(II)Z" } : Jvm.MethodName) ({ cls := "SetFamiliesModel", name := "is", desc := "(II)Z" } : Jvm.MethodName)) ∈ gw := gw_5 (List.mem_of_getElem? (i := 238) rfl) rfl
theorem hw_5_239 : (Jvm.Cond.code ({ cls := "SetFamiliesModel", name := "is", desc := "(II)Z" } : Jvm.MethodName) prog_13_method_49_code (3 : Nat) (Option.some Jvm.ClassFile.FieldType.boolean)) ∈ gw := gw_5 (List.mem_of_getElem? (i := 239) rfl) rfl
theorem hw_6_0 : (Jvm.Cond.methodLink "SetFamiliesModel" (135 : Nat) ({ cls := "SetFamiliesModel", name := "holds", desc := "(II)Z" } : Jvm.MethodName)) ∈ gw := gw_6 (List.mem_of_getElem? (i := 0) rfl) rfl
theorem hw_6_2 : (Jvm.Cond.instanceMethod ({ cls := "SetFamiliesModel", name := "holds", desc := "(II)Z" } : Jvm.MethodName)) ∈ gw := gw_6 (List.mem_of_getElem? (i := 2) rfl) rfl
theorem hw_6_3 : (Jvm.Cond.code ({ cls := "SetFamiliesModel", name := "holds", desc := "(II)Z" } : Jvm.MethodName) prog_13_method_48_code (6 : Nat) (Option.some Jvm.ClassFile.FieldType.boolean)) ∈ gw := gw_6 (List.mem_of_getElem? (i := 3) rfl) rfl
theorem hw_6_4 : (Jvm.Cond.methodLink "SetFamiliesModel" (128 : Nat) ({ cls := "SetFamiliesModel", name := "areBad", desc := "(IIII)Z" } : Jvm.MethodName)) ∈ gw := gw_6 (List.mem_of_getElem? (i := 4) rfl) rfl
theorem hw_6_6 : (Jvm.Cond.instanceMethod ({ cls := "SetFamiliesModel", name := "areBad", desc := "(IIII)Z" } : Jvm.MethodName)) ∈ gw := gw_6 (List.mem_of_getElem? (i := 6) rfl) rfl
theorem hw_6_7 : (Jvm.Cond.code ({ cls := "SetFamiliesModel", name := "areBad", desc := "(IIII)Z" } : Jvm.MethodName) prog_13_method_46_code (5 : Nat) (Option.some Jvm.ClassFile.FieldType.boolean)) ∈ gw := gw_6 (List.mem_of_getElem? (i := 7) rfl) rfl
theorem hw_6_8 : (Jvm.Cond.methodLink "SetFamiliesModel" (132 : Nat) ({ cls := "SetFamiliesModel", name := "isBad", desc := "(III)Z" } : Jvm.MethodName)) ∈ gw := gw_6 (List.mem_of_getElem? (i := 8) rfl) rfl
theorem hw_6_10 : (Jvm.Cond.instanceMethod ({ cls := "SetFamiliesModel", name := "isBad", desc := "(III)Z" } : Jvm.MethodName)) ∈ gw := gw_6 (List.mem_of_getElem? (i := 10) rfl) rfl
theorem hw_6_11 : (Jvm.Cond.code ({ cls := "SetFamiliesModel", name := "isBad", desc := "(III)Z" } : Jvm.MethodName) prog_13_method_47_code (8 : Nat) (Option.some Jvm.ClassFile.FieldType.boolean)) ∈ gw := gw_6 (List.mem_of_getElem? (i := 11) rfl) rfl
theorem hw_6_12 : (Jvm.Cond.methodLink "SetFamiliesLaw" (179 : Nat) ({ cls := "SetFamiliesModel", name := "weight", desc := "(IZ)J" } : Jvm.MethodName)) ∈ gw := gw_6 (List.mem_of_getElem? (i := 12) rfl) rfl
theorem hw_6_13 : (Jvm.Cond.instanceMethod ({ cls := "SetFamiliesModel", name := "weight", desc := "(IZ)J" } : Jvm.MethodName)) ∈ gw := gw_6 (List.mem_of_getElem? (i := 13) rfl) rfl
theorem hw_6_14 : (Jvm.Cond.selects "SetFamiliesModel" ({ cls := "SetFamiliesModel", name := "weight", desc := "(IZ)J" } : Jvm.MethodName) ({ cls := "SetFamiliesModel", name := "weight", desc := "(IZ)J" } : Jvm.MethodName)) ∈ gw := gw_6 (List.mem_of_getElem? (i := 14) rfl) rfl
theorem hw_6_15 : (Jvm.Cond.code ({ cls := "SetFamiliesModel", name := "weight", desc := "(IZ)J" } : Jvm.MethodName) prog_13_method_52_code (3 : Nat) (Option.some Jvm.ClassFile.FieldType.long)) ∈ gw := gw_6 (List.mem_of_getElem? (i := 15) rfl) rfl
theorem hw_6_16 : (Jvm.Cond.methodLink "SetFamiliesModel" (149 : Nat) ({ cls := "SetFamiliesModel", name := "weighs", desc := "(I)V" } : Jvm.MethodName)) ∈ gw := gw_6 (List.mem_of_getElem? (i := 16) rfl) rfl
theorem hw_6_18 : (Jvm.Cond.instanceMethod ({ cls := "SetFamiliesModel", name := "weighs", desc := "(I)V" } : Jvm.MethodName)) ∈ gw := gw_6 (List.mem_of_getElem? (i := 18) rfl) rfl
theorem hw_6_19 : (Jvm.Cond.code ({ cls := "SetFamiliesModel", name := "weighs", desc := "(I)V" } : Jvm.MethodName) prog_13_method_51_code (7 : Nat) (Option.none : Option Jvm.ClassFile.FieldType)) ∈ gw := gw_6 (List.mem_of_getElem? (i := 19) rfl) rfl
theorem hw_6_20 : (Jvm.Cond.methodLink "SetFamiliesModel" (145 : Nat) ({ cls := "SetFamiliesModel", name := "divisor", desc := "(JJ)J" } : Jvm.MethodName)) ∈ gw := gw_6 (List.mem_of_getElem? (i := 20) rfl) rfl
theorem hw_6_21 : (Jvm.Cond.static ({ cls := "SetFamiliesModel", name := "divisor", desc := "(JJ)J" } : Jvm.MethodName)) ∈ gw := gw_6 (List.mem_of_getElem? (i := 21) rfl) rfl
theorem hw_6_22 : (Jvm.Cond.code ({ cls := "SetFamiliesModel", name := "divisor", desc := "(JJ)J" } : Jvm.MethodName) prog_13_method_50_code (10 : Nat) (Option.some Jvm.ClassFile.FieldType.long)) ∈ gw := gw_6 (List.mem_of_getElem? (i := 22) rfl) rfl
theorem hw_6_23 : (Jvm.Cond.methodLink "SetFamiliesLaw" (182 : Nat) ({ cls := "SetFamiliesModel", name := "dimension", desc := "(I)I" } : Jvm.MethodName)) ∈ gw := gw_6 (List.mem_of_getElem? (i := 23) rfl) rfl
theorem hw_6_24 : (Jvm.Cond.instanceMethod ({ cls := "SetFamiliesModel", name := "dimension", desc := "(I)I" } : Jvm.MethodName)) ∈ gw := gw_6 (List.mem_of_getElem? (i := 24) rfl) rfl
theorem hw_6_25 : (Jvm.Cond.selects "SetFamiliesModel" ({ cls := "SetFamiliesModel", name := "dimension", desc := "(I)I" } : Jvm.MethodName) ({ cls := "SetFamiliesModel", name := "dimension", desc := "(I)I" } : Jvm.MethodName)) ∈ gw := gw_6 (List.mem_of_getElem? (i := 25) rfl) rfl
theorem hw_6_26 : (Jvm.Cond.code ({ cls := "SetFamiliesModel", name := "dimension", desc := "(I)I" } : Jvm.MethodName) prog_13_method_55_code (3 : Nat) (Option.some Jvm.ClassFile.FieldType.int)) ∈ gw := gw_6 (List.mem_of_getElem? (i := 26) rfl) rfl
theorem hw_6_27 : (Jvm.Cond.methodLink "SetFamiliesModel" (159 : Nat) ({ cls := "SetFamiliesModel", name := "firstShattered", desc := "(I)I" } : Jvm.MethodName)) ∈ gw := gw_6 (List.mem_of_getElem? (i := 27) rfl) rfl
theorem hw_6_29 : (Jvm.Cond.instanceMethod ({ cls := "SetFamiliesModel", name := "firstShattered", desc := "(I)I" } : Jvm.MethodName)) ∈ gw := gw_6 (List.mem_of_getElem? (i := 29) rfl) rfl
theorem hw_6_30 : (Jvm.Cond.code ({ cls := "SetFamiliesModel", name := "firstShattered", desc := "(I)I" } : Jvm.MethodName) prog_13_method_54_code (4 : Nat) (Option.some Jvm.ClassFile.FieldType.int)) ∈ gw := gw_6 (List.mem_of_getElem? (i := 30) rfl) rfl
theorem hw_6_31 : (Jvm.Cond.methodLink "SetFamiliesModel" (156 : Nat) ({ cls := "SetFamiliesModel", name := "shatters", desc := "(II)Z" } : Jvm.MethodName)) ∈ gw := gw_6 (List.mem_of_getElem? (i := 31) rfl) rfl
theorem hw_6_33 : (Jvm.Cond.instanceMethod ({ cls := "SetFamiliesModel", name := "shatters", desc := "(II)Z" } : Jvm.MethodName)) ∈ gw := gw_6 (List.mem_of_getElem? (i := 33) rfl) rfl
theorem hw_6_34 : (Jvm.Cond.code ({ cls := "SetFamiliesModel", name := "shatters", desc := "(II)Z" } : Jvm.MethodName) prog_13_method_53_code (5 : Nat) (Option.some Jvm.ClassFile.FieldType.boolean)) ∈ gw := gw_6 (List.mem_of_getElem? (i := 34) rfl) rfl
theorem hw_6_35 : (Jvm.Cond.methodLink "SetFamiliesLaw" (185 : Nat) ({ cls := "SetFamiliesModel", name := "shattered", desc := "(I)I" } : Jvm.MethodName)) ∈ gw := gw_6 (List.mem_of_getElem? (i := 35) rfl) rfl
theorem hw_6_36 : (Jvm.Cond.instanceMethod ({ cls := "SetFamiliesModel", name := "shattered", desc := "(I)I" } : Jvm.MethodName)) ∈ gw := gw_6 (List.mem_of_getElem? (i := 36) rfl) rfl
theorem hw_6_37 : (Jvm.Cond.selects "SetFamiliesModel" ({ cls := "SetFamiliesModel", name := "shattered", desc := "(I)I" } : Jvm.MethodName) ({ cls := "SetFamiliesModel", name := "shattered", desc := "(I)I" } : Jvm.MethodName)) ∈ gw := gw_6 (List.mem_of_getElem? (i := 37) rfl) rfl
theorem hw_6_38 : (Jvm.Cond.code ({ cls := "SetFamiliesModel", name := "shattered", desc := "(I)I" } : Jvm.MethodName) prog_13_method_56_code (2 : Nat) (Option.some Jvm.ClassFile.FieldType.int)) ∈ gw := gw_6 (List.mem_of_getElem? (i := 38) rfl) rfl
theorem hw_6_39 : (Jvm.Cond.methodLink "SetFamiliesLaw" (188 : Nat) ({ cls := "SetFamiliesModel", name := "crossing", desc := "(II)I" } : Jvm.MethodName)) ∈ gw := gw_6 (List.mem_of_getElem? (i := 39) rfl) rfl
theorem hw_6_40 : (Jvm.Cond.instanceMethod ({ cls := "SetFamiliesModel", name := "crossing", desc := "(II)I" } : Jvm.MethodName)) ∈ gw := gw_6 (List.mem_of_getElem? (i := 40) rfl) rfl
theorem hw_6_41 : (Jvm.Cond.selects "SetFamiliesModel" ({ cls := "SetFamiliesModel", name := "crossing", desc := "(II)I" } : Jvm.MethodName) ({ cls := "SetFamiliesModel", name := "crossing", desc := "(II)I" } : Jvm.MethodName)) ∈ gw := gw_6 (List.mem_of_getElem? (i := 41) rfl) rfl
theorem hw_6_42 : (Jvm.Cond.code ({ cls := "SetFamiliesModel", name := "crossing", desc := "(II)I" } : Jvm.MethodName) prog_13_method_58_code (3 : Nat) (Option.some Jvm.ClassFile.FieldType.int)) ∈ gw := gw_6 (List.mem_of_getElem? (i := 42) rfl) rfl
theorem hw_6_43 : (Jvm.Cond.methodLink "SetFamiliesModel" (162 : Nat) ({ cls := "SetFamiliesModel", name := "firstCrossing", desc := "(II)I" } : Jvm.MethodName)) ∈ gw := gw_6 (List.mem_of_getElem? (i := 43) rfl) rfl
theorem hw_6_45 : (Jvm.Cond.instanceMethod ({ cls := "SetFamiliesModel", name := "firstCrossing", desc := "(II)I" } : Jvm.MethodName)) ∈ gw := gw_6 (List.mem_of_getElem? (i := 45) rfl) rfl
theorem hw_6_46 : (Jvm.Cond.code ({ cls := "SetFamiliesModel", name := "firstCrossing", desc := "(II)I" } : Jvm.MethodName) prog_13_method_57_code (5 : Nat) (Option.some Jvm.ClassFile.FieldType.int)) ∈ gw := gw_6 (List.mem_of_getElem? (i := 46) rfl) rfl
theorem hw_6_47 : (Jvm.Cond.methodLink "SetFamiliesLaw" (191 : Nat) ({ cls := "SetFamiliesModel", name := "sunflower", desc := "(I)I" } : Jvm.MethodName)) ∈ gw := gw_6 (List.mem_of_getElem? (i := 47) rfl) rfl
theorem hw_6_48 : (Jvm.Cond.instanceMethod ({ cls := "SetFamiliesModel", name := "sunflower", desc := "(I)I" } : Jvm.MethodName)) ∈ gw := gw_6 (List.mem_of_getElem? (i := 48) rfl) rfl
theorem hw_6_49 : (Jvm.Cond.selects "SetFamiliesModel" ({ cls := "SetFamiliesModel", name := "sunflower", desc := "(I)I" } : Jvm.MethodName) ({ cls := "SetFamiliesModel", name := "sunflower", desc := "(I)I" } : Jvm.MethodName)) ∈ gw := gw_6 (List.mem_of_getElem? (i := 49) rfl) rfl
theorem hw_6_50 : (Jvm.Cond.code ({ cls := "SetFamiliesModel", name := "sunflower", desc := "(I)I" } : Jvm.MethodName) prog_13_method_61_code (2 : Nat) (Option.some Jvm.ClassFile.FieldType.int)) ∈ gw := gw_6 (List.mem_of_getElem? (i := 50) rfl) rfl
theorem hw_6_51 : (Jvm.Cond.methodLink "SetFamiliesModel" (168 : Nat) ({ cls := "SetFamiliesModel", name := "leastCore", desc := "(I)I" } : Jvm.MethodName)) ∈ gw := gw_6 (List.mem_of_getElem? (i := 51) rfl) rfl
theorem hw_6_53 : (Jvm.Cond.instanceMethod ({ cls := "SetFamiliesModel", name := "leastCore", desc := "(I)I" } : Jvm.MethodName)) ∈ gw := gw_6 (List.mem_of_getElem? (i := 53) rfl) rfl
theorem hw_6_54 : (Jvm.Cond.code ({ cls := "SetFamiliesModel", name := "leastCore", desc := "(I)I" } : Jvm.MethodName) prog_13_method_60_code (3 : Nat) (Option.some Jvm.ClassFile.FieldType.int)) ∈ gw := gw_6 (List.mem_of_getElem? (i := 54) rfl) rfl
theorem hw_6_55 : (Jvm.Cond.methodLink "SetFamiliesModel" (165 : Nat) ({ cls := "SetFamiliesModel", name := "isCore", desc := "(II)Z" } : Jvm.MethodName)) ∈ gw := gw_6 (List.mem_of_getElem? (i := 55) rfl) rfl
theorem hw_6_57 : (Jvm.Cond.instanceMethod ({ cls := "SetFamiliesModel", name := "isCore", desc := "(II)Z" } : Jvm.MethodName)) ∈ gw := gw_6 (List.mem_of_getElem? (i := 57) rfl) rfl
theorem hw_6_58 : (Jvm.Cond.code ({ cls := "SetFamiliesModel", name := "isCore", desc := "(II)Z" } : Jvm.MethodName) prog_13_method_59_code (11 : Nat) (Option.some Jvm.ClassFile.FieldType.boolean)) ∈ gw := gw_6 (List.mem_of_getElem? (i := 58) rfl) rfl
theorem hw_6_59 : (Jvm.Cond.methodLink "SetFamiliesLaw" (194 : Nat) ({ cls := "SetFamiliesModel", name := "pairs", desc := "(II)I" } : Jvm.MethodName)) ∈ gw := gw_6 (List.mem_of_getElem? (i := 59) rfl) rfl
theorem hw_6_60 : (Jvm.Cond.instanceMethod ({ cls := "SetFamiliesModel", name := "pairs", desc := "(II)I" } : Jvm.MethodName)) ∈ gw := gw_6 (List.mem_of_getElem? (i := 60) rfl) rfl
theorem hw_6_61 : (Jvm.Cond.selects "SetFamiliesModel" ({ cls := "SetFamiliesModel", name := "pairs", desc := "(II)I" } : Jvm.MethodName) ({ cls := "SetFamiliesModel", name := "pairs", desc := "(II)I" } : Jvm.MethodName)) ∈ gw := gw_6 (List.mem_of_getElem? (i := 61) rfl) rfl
theorem hw_6_62 : (Jvm.Cond.code ({ cls := "SetFamiliesModel", name := "pairs", desc := "(II)I" } : Jvm.MethodName) prog_13_method_63_code (3 : Nat) (Option.some Jvm.ClassFile.FieldType.int)) ∈ gw := gw_6 (List.mem_of_getElem? (i := 62) rfl) rfl
theorem hw_6_63 : (Jvm.Cond.methodLink "SetFamiliesModel" (171 : Nat) ({ cls := "SetFamiliesModel", name := "countsPairs", desc := "(I)V" } : Jvm.MethodName)) ∈ gw := gw_6 (List.mem_of_getElem? (i := 63) rfl) rfl
theorem hw_6_65 : (Jvm.Cond.instanceMethod ({ cls := "SetFamiliesModel", name := "countsPairs", desc := "(I)V" } : Jvm.MethodName)) ∈ gw := gw_6 (List.mem_of_getElem? (i := 65) rfl) rfl
theorem hw_6_66 : (Jvm.Cond.code ({ cls := "SetFamiliesModel", name := "countsPairs", desc := "(I)V" } : Jvm.MethodName) prog_13_method_62_code (4 : Nat) (Option.none : Option Jvm.ClassFile.FieldType)) ∈ gw := gw_6 (List.mem_of_getElem? (i := 66) rfl) rfl
theorem hw_6_67 : (Jvm.Cond.methodLink "SetFamiliesLaw" (197 : Nat) ({ cls := "SetFamiliesModel", name := "type", desc := "(I)I" } : Jvm.MethodName)) ∈ gw := gw_6 (List.mem_of_getElem? (i := 67) rfl) rfl
theorem hw_6_68 : (Jvm.Cond.instanceMethod ({ cls := "SetFamiliesModel", name := "type", desc := "(I)I" } : Jvm.MethodName)) ∈ gw := gw_6 (List.mem_of_getElem? (i := 68) rfl) rfl
theorem hw_6_69 : (Jvm.Cond.selects "SetFamiliesModel" ({ cls := "SetFamiliesModel", name := "type", desc := "(I)I" } : Jvm.MethodName) ({ cls := "SetFamiliesModel", name := "type", desc := "(I)I" } : Jvm.MethodName)) ∈ gw := gw_6 (List.mem_of_getElem? (i := 69) rfl) rfl
theorem hw_6_70 : (Jvm.Cond.code ({ cls := "SetFamiliesModel", name := "type", desc := "(I)I" } : Jvm.MethodName) prog_13_method_64_code (2 : Nat) (Option.some Jvm.ClassFile.FieldType.int)) ∈ gw := gw_6 (List.mem_of_getElem? (i := 70) rfl) rfl
theorem hw_6_71 : (Jvm.Cond.methodLink "SetFamiliesLaw" (201 : Nat) ({ cls := "SetFamiliesModel", name := "clearText", desc := "()I" } : Jvm.MethodName)) ∈ gw := gw_6 (List.mem_of_getElem? (i := 71) rfl) rfl
theorem hw_6_72 : (Jvm.Cond.instanceMethod ({ cls := "SetFamiliesModel", name := "clearText", desc := "()I" } : Jvm.MethodName)) ∈ gw := gw_6 (List.mem_of_getElem? (i := 72) rfl) rfl
theorem hw_6_73 : (Jvm.Cond.selects "SetFamiliesModel" ({ cls := "SetFamiliesModel", name := "clearText", desc := "()I" } : Jvm.MethodName) ({ cls := "SetFamiliesModel", name := "clearText", desc := "()I" } : Jvm.MethodName)) ∈ gw := gw_6 (List.mem_of_getElem? (i := 73) rfl) rfl
theorem hw_6_74 : (Jvm.Cond.code ({ cls := "SetFamiliesModel", name := "clearText", desc := "()I" } : Jvm.MethodName) prog_13_method_65_code (2 : Nat) (Option.some Jvm.ClassFile.FieldType.int)) ∈ gw := gw_6 (List.mem_of_getElem? (i := 74) rfl) rfl
theorem hw_6_75 : (Jvm.Cond.methodLink "SetFamiliesLaw" (204 : Nat) ({ cls := "SetFamiliesModel", name := "read", desc := "(I)I" } : Jvm.MethodName)) ∈ gw := gw_6 (List.mem_of_getElem? (i := 75) rfl) rfl
theorem hw_6_76 : (Jvm.Cond.instanceMethod ({ cls := "SetFamiliesModel", name := "read", desc := "(I)I" } : Jvm.MethodName)) ∈ gw := gw_6 (List.mem_of_getElem? (i := 76) rfl) rfl
theorem hw_6_77 : (Jvm.Cond.selects "SetFamiliesModel" ({ cls := "SetFamiliesModel", name := "read", desc := "(I)I" } : Jvm.MethodName) ({ cls := "SetFamiliesModel", name := "read", desc := "(I)I" } : Jvm.MethodName)) ∈ gw := gw_6 (List.mem_of_getElem? (i := 77) rfl) rfl
theorem hw_6_78 : (Jvm.Cond.code ({ cls := "SetFamiliesModel", name := "read", desc := "(I)I" } : Jvm.MethodName) prog_13_method_66_code (6 : Nat) (Option.some Jvm.ClassFile.FieldType.int)) ∈ gw := gw_6 (List.mem_of_getElem? (i := 78) rfl) rfl
theorem hw_6_79 : (Jvm.Cond.methodLink "SetFamiliesLaw" (213 : Nat) ({ cls := "SetFamiliesModel", name := "digest", desc := "()J" } : Jvm.MethodName)) ∈ gw := gw_6 (List.mem_of_getElem? (i := 79) rfl) rfl
theorem hw_6_80 : (Jvm.Cond.instanceMethod ({ cls := "SetFamiliesModel", name := "digest", desc := "()J" } : Jvm.MethodName)) ∈ gw := gw_6 (List.mem_of_getElem? (i := 80) rfl) rfl
theorem hw_6_81 : (Jvm.Cond.selects "SetFamiliesModel" ({ cls := "SetFamiliesModel", name := "digest", desc := "()J" } : Jvm.MethodName) ({ cls := "SetFamiliesModel", name := "digest", desc := "()J" } : Jvm.MethodName)) ∈ gw := gw_6 (List.mem_of_getElem? (i := 81) rfl) rfl
theorem hw_6_82 : (Jvm.Cond.code ({ cls := "SetFamiliesModel", name := "digest", desc := "()J" } : Jvm.MethodName) prog_13_method_69_code (3 : Nat) (Option.some Jvm.ClassFile.FieldType.long)) ∈ gw := gw_6 (List.mem_of_getElem? (i := 82) rfl) rfl
theorem hw_6_83 : (Jvm.Cond.constantLong "SetFamiliesModel" (188 : Nat) (18454 : Int64)) ∈ gw := gw_6 (List.mem_of_getElem? (i := 83) rfl) rfl
theorem hw_6_84 : (Jvm.Cond.methodLink "SetFamiliesModel" (182 : Nat) ({ cls := "SetFamiliesModel", name := "mixes", desc := "(J)V" } : Jvm.MethodName)) ∈ gw := gw_6 (List.mem_of_getElem? (i := 84) rfl) rfl
theorem hw_6_86 : (Jvm.Cond.instanceMethod ({ cls := "SetFamiliesModel", name := "mixes", desc := "(J)V" } : Jvm.MethodName)) ∈ gw := gw_6 (List.mem_of_getElem? (i := 86) rfl) rfl
theorem hw_6_87 : (Jvm.Cond.code ({ cls := "SetFamiliesModel", name := "mixes", desc := "(J)V" } : Jvm.MethodName) prog_13_method_67_code (3 : Nat) (Option.none : Option Jvm.ClassFile.FieldType)) ∈ gw := gw_6 (List.mem_of_getElem? (i := 87) rfl) rfl
theorem hw_6_88 : (Jvm.Cond.constantLong "SetFamiliesModel" (177 : Nat) (31 : Int64)) ∈ gw := gw_6 (List.mem_of_getElem? (i := 88) rfl) rfl
theorem hw_6_89 : (Jvm.Cond.methodLink "SetFamiliesModel" (190 : Nat) ({ cls := "SetFamiliesModel", name := "mixesFamily", desc := "(I)V" } : Jvm.MethodName)) ∈ gw := gw_6 (List.mem_of_getElem? (i := 89) rfl) rfl
theorem hw_6_91 : (Jvm.Cond.instanceMethod ({ cls := "SetFamiliesModel", name := "mixesFamily", desc := "(I)V" } : Jvm.MethodName)) ∈ gw := gw_6 (List.mem_of_getElem? (i := 91) rfl) rfl
theorem hw_6_92 : (Jvm.Cond.code ({ cls := "SetFamiliesModel", name := "mixesFamily", desc := "(I)V" } : Jvm.MethodName) prog_13_method_68_code (4 : Nat) (Option.none : Option Jvm.ClassFile.FieldType)) ∈ gw := gw_6 (List.mem_of_getElem? (i := 92) rfl) rfl
theorem hw_6_93 : (Jvm.Cond.constantLong "SetFamiliesModel" (186 : Nat) (-1 : Int64)) ∈ gw := gw_6 (List.mem_of_getElem? (i := 93) rfl) rfl
theorem gp_1 {q : MethodName × Nat} (h : q ∈ lw_privs_1) : Cond.selects q.1.cls q.1 q.1 ∈ gw := List.mem_filter.mpr ⟨List.mem_append_left _ (List.mem_map.mpr ⟨q, (show q ∈ lw_privs from List.mem_append_left _ h), rfl⟩), rfl⟩
theorem gp_2 {q : MethodName × Nat} (h : q ∈ lw_privs_2) : Cond.selects q.1.cls q.1 q.1 ∈ gw := List.mem_filter.mpr ⟨List.mem_append_left _ (List.mem_map.mpr ⟨q, (show q ∈ lw_privs from List.mem_append_right _ (List.mem_append_left _ h)), rfl⟩), rfl⟩
theorem gp_3 {q : MethodName × Nat} (h : q ∈ lw_privs_3) : Cond.selects q.1.cls q.1 q.1 ∈ gw := List.mem_filter.mpr ⟨List.mem_append_left _ (List.mem_map.mpr ⟨q, (show q ∈ lw_privs from List.mem_append_right _ (List.mem_append_right _ (List.mem_append_left _ h))), rfl⟩), rfl⟩
theorem gp_4 {q : MethodName × Nat} (h : q ∈ lw_privs_4) : Cond.selects q.1.cls q.1 q.1 ∈ gw := List.mem_filter.mpr ⟨List.mem_append_left _ (List.mem_map.mpr ⟨q, (show q ∈ lw_privs from List.mem_append_right _ (List.mem_append_right _ (List.mem_append_right _ (h)))), rfl⟩), rfl⟩
theorem hp_1_0 : (Jvm.Cond.selects "SetFamilies" ({ cls := "SetFamilies", name := "mixMembers", desc := "(JLSetFamilies$Family;)J" } : Jvm.MethodName) ({ cls := "SetFamilies", name := "mixMembers", desc := "(JLSetFamilies$Family;)J" } : Jvm.MethodName)) ∈ gw := gp_1 (List.mem_of_getElem? (i := 0) rfl)
theorem hp_1_1 : (Jvm.Cond.selects "SetFamilies" ({ cls := "SetFamilies", name := "mixProperties", desc := "(JLSetFamilies$Family;)J" } : Jvm.MethodName) ({ cls := "SetFamilies", name := "mixProperties", desc := "(JLSetFamilies$Family;)J" } : Jvm.MethodName)) ∈ gw := gp_1 (List.mem_of_getElem? (i := 1) rfl)
theorem hp_1_2 : (Jvm.Cond.selects "SetFamilies" ({ cls := "SetFamilies", name := "hasProperty", desc := "(LSetFamilies$Family;I)Z" } : Jvm.MethodName) ({ cls := "SetFamilies", name := "hasProperty", desc := "(LSetFamilies$Family;I)Z" } : Jvm.MethodName)) ∈ gw := gp_1 (List.mem_of_getElem? (i := 2) rfl)
theorem hp_1_3 : (Jvm.Cond.selects "SetFamilies" ({ cls := "SetFamilies", name := "firstDisjointPair", desc := "(LSetFamilies$Family;LSetFamilies$Family;)I" } : Jvm.MethodName) ({ cls := "SetFamilies", name := "firstDisjointPair", desc := "(LSetFamilies$Family;LSetFamilies$Family;)I" } : Jvm.MethodName)) ∈ gw := gp_1 (List.mem_of_getElem? (i := 3) rfl)
theorem hp_1_4 : (Jvm.Cond.selects "SetFamilies$Family" ({ cls := "SetFamilies$Family", name := "exchange", desc := "(I)V" } : Jvm.MethodName) ({ cls := "SetFamilies$Family", name := "exchange", desc := "(I)V" } : Jvm.MethodName)) ∈ gw := gp_1 (List.mem_of_getElem? (i := 4) rfl)
theorem hp_1_5 : (Jvm.Cond.selects "SetFamilies$Compression" ({ cls := "SetFamilies$Compression", name := "layExchanged", desc := "(LSetFamilies$Family;LSetFamilies$Family;II)V" } : Jvm.MethodName) ({ cls := "SetFamilies$Compression", name := "layExchanged", desc := "(LSetFamilies$Family;LSetFamilies$Family;II)V" } : Jvm.MethodName)) ∈ gw := gp_1 (List.mem_of_getElem? (i := 5) rfl)
theorem hp_1_6 : (Jvm.Cond.selects "SetFamilies" ({ cls := "SetFamilies", name := "weightOf", desc := "(LSetFamilies$Family;Z)J" } : Jvm.MethodName) ({ cls := "SetFamilies", name := "weightOf", desc := "(LSetFamilies$Family;Z)J" } : Jvm.MethodName)) ∈ gw := gp_1 (List.mem_of_getElem? (i := 6) rfl)
theorem hp_1_7 : (Jvm.Cond.selects "SetFamilies" ({ cls := "SetFamilies", name := "mixStructure", desc := "(JLSetFamilies$Family;)J" } : Jvm.MethodName) ({ cls := "SetFamilies", name := "mixStructure", desc := "(JLSetFamilies$Family;)J" } : Jvm.MethodName)) ∈ gw := gp_1 (List.mem_of_getElem? (i := 7) rfl)
theorem hp_1_8 : (Jvm.Cond.selects "SetFamilies$Shattering" ({ cls := "SetFamilies$Shattering", name := "layTrace", desc := "(LSetFamilies$Family;I)LSetFamilies$Family;" } : Jvm.MethodName) ({ cls := "SetFamilies$Shattering", name := "layTrace", desc := "(LSetFamilies$Family;I)LSetFamilies$Family;" } : Jvm.MethodName)) ∈ gw := gp_1 (List.mem_of_getElem? (i := 8) rfl)
theorem hp_1_9 : (Jvm.Cond.selects "SetFamilies$SunflowerSearch" ({ cls := "SetFamilies$SunflowerSearch", name := "layLink", desc := "(LSetFamilies$Family;I)LSetFamilies$Family;" } : Jvm.MethodName) ({ cls := "SetFamilies$SunflowerSearch", name := "layLink", desc := "(LSetFamilies$Family;I)LSetFamilies$Family;" } : Jvm.MethodName)) ∈ gw := gp_1 (List.mem_of_getElem? (i := 9) rfl)
theorem hp_1_10 : (Jvm.Cond.selects "SetFamilies$SunflowerSearch" ({ cls := "SetFamilies$SunflowerSearch", name := "hasDisjointSets", desc := "(LSetFamilies$Family;)Z" } : Jvm.MethodName) ({ cls := "SetFamilies$SunflowerSearch", name := "hasDisjointSets", desc := "(LSetFamilies$Family;)Z" } : Jvm.MethodName)) ∈ gw := gp_1 (List.mem_of_getElem? (i := 10) rfl)
theorem hp_1_11 : (Jvm.Cond.selects "SetFamilies$SunflowerSearch" ({ cls := "SetFamilies$SunflowerSearch", name := "hasPair", desc := "(III)Z" } : Jvm.MethodName) ({ cls := "SetFamilies$SunflowerSearch", name := "hasPair", desc := "(III)Z" } : Jvm.MethodName)) ∈ gw := gp_1 (List.mem_of_getElem? (i := 11) rfl)
theorem hp_1_12 : (Jvm.Cond.selects "SetFamilies$SunflowerSearch" ({ cls := "SetFamilies$SunflowerSearch", name := "hasOne", desc := "(III)Z" } : Jvm.MethodName) ({ cls := "SetFamilies$SunflowerSearch", name := "hasOne", desc := "(III)Z" } : Jvm.MethodName)) ∈ gw := gp_1 (List.mem_of_getElem? (i := 12) rfl)
theorem hp_1_13 : (Jvm.Cond.selects "SetFamilies$SunflowerSearch" ({ cls := "SetFamilies$SunflowerSearch", name := "hasTriple", desc := "(I)Z" } : Jvm.MethodName) ({ cls := "SetFamilies$SunflowerSearch", name := "hasTriple", desc := "(I)Z" } : Jvm.MethodName)) ∈ gw := gp_1 (List.mem_of_getElem? (i := 13) rfl)
theorem hp_1_14 : (Jvm.Cond.selects "SetFamilies$PairCounts" ({ cls := "SetFamilies$PairCounts", name := "countAbove", desc := "(LSetFamilies$Family;)V" } : Jvm.MethodName) ({ cls := "SetFamilies$PairCounts", name := "countAbove", desc := "(LSetFamilies$Family;)V" } : Jvm.MethodName)) ∈ gw := gp_1 (List.mem_of_getElem? (i := 14) rfl)
theorem hp_1_15 : (Jvm.Cond.selects "SetFamilies$PairCounts" ({ cls := "SetFamilies$PairCounts", name := "countCommonSubsets", desc := "()V" } : Jvm.MethodName) ({ cls := "SetFamilies$PairCounts", name := "countCommonSubsets", desc := "()V" } : Jvm.MethodName)) ∈ gw := gp_1 (List.mem_of_getElem? (i := 15) rfl)
theorem hp_2_0 : (Jvm.Cond.selects "SetFamilies" ({ cls := "SetFamilies", name := "excessOf", desc := "(LSetFamilies$Family;I)I" } : Jvm.MethodName) ({ cls := "SetFamilies", name := "excessOf", desc := "(LSetFamilies$Family;I)I" } : Jvm.MethodName)) ∈ gw := gp_2 (List.mem_of_getElem? (i := 0) rfl)
theorem hp_2_1 : (Jvm.Cond.selects "java/lang/Throwable" ({ cls := "java/lang/Throwable", name := "fillInStackTrace", desc := "(I)Ljava/lang/Throwable;" } : Jvm.MethodName) ({ cls := "java/lang/Throwable", name := "fillInStackTrace", desc := "(I)Ljava/lang/Throwable;" } : Jvm.MethodName)) ∈ gw := gp_2 (List.mem_of_getElem? (i := 1) rfl)
theorem hp_2_2 : (Jvm.Cond.selects "SetFamilies" ({ cls := "SetFamilies", name := "checkSet", desc := "(I)V" } : Jvm.MethodName) ({ cls := "SetFamilies", name := "checkSet", desc := "(I)V" } : Jvm.MethodName)) ∈ gw := gp_2 (List.mem_of_getElem? (i := 2) rfl)
theorem hp_2_3 : (Jvm.Cond.selects "SetFamilies" ({ cls := "SetFamilies", name := "checkElement", desc := "(I)V" } : Jvm.MethodName) ({ cls := "SetFamilies", name := "checkElement", desc := "(I)V" } : Jvm.MethodName)) ∈ gw := gp_2 (List.mem_of_getElem? (i := 3) rfl)
theorem hp_2_4 : (Jvm.Cond.selects "SetFamilies" ({ cls := "SetFamilies", name := "lay", desc := "(I)I" } : Jvm.MethodName) ({ cls := "SetFamilies", name := "lay", desc := "(I)I" } : Jvm.MethodName)) ∈ gw := gp_2 (List.mem_of_getElem? (i := 4) rfl)
theorem hp_2_5 : (Jvm.Cond.selects "SetFamilies$Derivation" ({ cls := "SetFamilies$Derivation", name := "layMaximal", desc := "(LSetFamilies$Family;LSetFamilies$Family;)V" } : Jvm.MethodName) ({ cls := "SetFamilies$Derivation", name := "layMaximal", desc := "(LSetFamilies$Family;LSetFamilies$Family;)V" } : Jvm.MethodName)) ∈ gw := gp_2 (List.mem_of_getElem? (i := 5) rfl)
theorem hp_2_6 : (Jvm.Cond.selects "SetFamilies$Derivation" ({ cls := "SetFamilies$Derivation", name := "layBlocker", desc := "(LSetFamilies$Family;LSetFamilies$Family;)V" } : Jvm.MethodName) ({ cls := "SetFamilies$Derivation", name := "layBlocker", desc := "(LSetFamilies$Family;LSetFamilies$Family;)V" } : Jvm.MethodName)) ∈ gw := gp_2 (List.mem_of_getElem? (i := 6) rfl)
theorem hp_2_7 : (Jvm.Cond.selects "SetFamilies$Compression" ({ cls := "SetFamilies$Compression", name := "replaceOnce", desc := "(LSetFamilies$Family;)I" } : Jvm.MethodName) ({ cls := "SetFamilies$Compression", name := "replaceOnce", desc := "(LSetFamilies$Family;)I" } : Jvm.MethodName)) ∈ gw := gp_2 (List.mem_of_getElem? (i := 7) rfl)
theorem hp_2_8 : (Jvm.Cond.selects "SetFamiliesModel" ({ cls := "SetFamiliesModel", name := "note", desc := "()V" } : Jvm.MethodName) ({ cls := "SetFamiliesModel", name := "note", desc := "()V" } : Jvm.MethodName)) ∈ gw := gp_2 (List.mem_of_getElem? (i := 8) rfl)
theorem hp_2_9 : (Jvm.Cond.selects "SetFamiliesModel" ({ cls := "SetFamiliesModel", name := "changes", desc := "(IIZ)Z" } : Jvm.MethodName) ({ cls := "SetFamiliesModel", name := "changes", desc := "(IIZ)Z" } : Jvm.MethodName)) ∈ gw := gp_2 (List.mem_of_getElem? (i := 9) rfl)
theorem hp_2_10 : (Jvm.Cond.selects "SetFamiliesModel" ({ cls := "SetFamiliesModel", name := "isCode", desc := "(I)Z" } : Jvm.MethodName) ({ cls := "SetFamiliesModel", name := "isCode", desc := "(I)Z" } : Jvm.MethodName)) ∈ gw := gp_2 (List.mem_of_getElem? (i := 10) rfl)
theorem hp_2_11 : (Jvm.Cond.selects "SetFamiliesModel" ({ cls := "SetFamiliesModel", name := "codes", desc := "()I" } : Jvm.MethodName) ({ cls := "SetFamiliesModel", name := "codes", desc := "()I" } : Jvm.MethodName)) ∈ gw := gp_2 (List.mem_of_getElem? (i := 11) rfl)
theorem hp_2_12 : (Jvm.Cond.selects "SetFamiliesModel" ({ cls := "SetFamiliesModel", name := "mayGo", desc := "(ZZ)Z" } : Jvm.MethodName) ({ cls := "SetFamiliesModel", name := "mayGo", desc := "(ZZ)Z" } : Jvm.MethodName)) ∈ gw := gp_2 (List.mem_of_getElem? (i := 12) rfl)
theorem hp_2_13 : (Jvm.Cond.selects "SetFamiliesModel" ({ cls := "SetFamiliesModel", name := "sizeOf", desc := "(II)I" } : Jvm.MethodName) ({ cls := "SetFamiliesModel", name := "sizeOf", desc := "(II)I" } : Jvm.MethodName)) ∈ gw := gp_2 (List.mem_of_getElem? (i := 13) rfl)
theorem hp_2_14 : (Jvm.Cond.selects "SetFamiliesModel" ({ cls := "SetFamiliesModel", name := "isElement", desc := "(I)Z" } : Jvm.MethodName) ({ cls := "SetFamiliesModel", name := "isElement", desc := "(I)Z" } : Jvm.MethodName)) ∈ gw := gp_2 (List.mem_of_getElem? (i := 14) rfl)
theorem hp_2_15 : (Jvm.Cond.selects "SetFamiliesModel" ({ cls := "SetFamiliesModel", name := "degreeOf", desc := "(II)I" } : Jvm.MethodName) ({ cls := "SetFamiliesModel", name := "degreeOf", desc := "(II)I" } : Jvm.MethodName)) ∈ gw := gp_2 (List.mem_of_getElem? (i := 15) rfl)
theorem hp_3_0 : (Jvm.Cond.selects "SetFamiliesModel" ({ cls := "SetFamiliesModel", name := "lays", desc := "(I)I" } : Jvm.MethodName) ({ cls := "SetFamiliesModel", name := "lays", desc := "(I)I" } : Jvm.MethodName)) ∈ gw := gp_3 (List.mem_of_getElem? (i := 0) rfl)
theorem hp_3_1 : (Jvm.Cond.selects "SetFamiliesModel" ({ cls := "SetFamiliesModel", name := "empties", desc := "()V" } : Jvm.MethodName) ({ cls := "SetFamiliesModel", name := "empties", desc := "()V" } : Jvm.MethodName)) ∈ gw := gp_3 (List.mem_of_getElem? (i := 1) rfl)
theorem hp_3_2 : (Jvm.Cond.selects "SetFamiliesModel" ({ cls := "SetFamiliesModel", name := "shadow", desc := "(IZ)V" } : Jvm.MethodName) ({ cls := "SetFamiliesModel", name := "shadow", desc := "(IZ)V" } : Jvm.MethodName)) ∈ gw := gp_3 (List.mem_of_getElem? (i := 2) rfl)
theorem hp_3_3 : (Jvm.Cond.selects "SetFamiliesModel" ({ cls := "SetFamiliesModel", name := "closes", desc := "(IZ)V" } : Jvm.MethodName) ({ cls := "SetFamiliesModel", name := "closes", desc := "(IZ)V" } : Jvm.MethodName)) ∈ gw := gp_3 (List.mem_of_getElem? (i := 3) rfl)
theorem hp_3_4 : (Jvm.Cond.selects "SetFamiliesModel" ({ cls := "SetFamiliesModel", name := "isDerived", desc := "(III)Z" } : Jvm.MethodName) ({ cls := "SetFamiliesModel", name := "isDerived", desc := "(III)Z" } : Jvm.MethodName)) ∈ gw := gp_3 (List.mem_of_getElem? (i := 4) rfl)
theorem hp_3_5 : (Jvm.Cond.selects "SetFamiliesModel" ({ cls := "SetFamiliesModel", name := "hasBelow", desc := "(IIZZ)Z" } : Jvm.MethodName) ({ cls := "SetFamiliesModel", name := "hasBelow", desc := "(IIZZ)Z" } : Jvm.MethodName)) ∈ gw := gp_3 (List.mem_of_getElem? (i := 5) rfl)
theorem hp_3_6 : (Jvm.Cond.selects "SetFamiliesModel" ({ cls := "SetFamiliesModel", name := "blocks", desc := "(II)Z" } : Jvm.MethodName) ({ cls := "SetFamiliesModel", name := "blocks", desc := "(II)Z" } : Jvm.MethodName)) ∈ gw := gp_3 (List.mem_of_getElem? (i := 6) rfl)
theorem hp_3_7 : (Jvm.Cond.selects "SetFamiliesModel" ({ cls := "SetFamiliesModel", name := "hits", desc := "(II)Z" } : Jvm.MethodName) ({ cls := "SetFamiliesModel", name := "hits", desc := "(II)Z" } : Jvm.MethodName)) ∈ gw := gp_3 (List.mem_of_getElem? (i := 7) rfl)
theorem hp_3_8 : (Jvm.Cond.selects "SetFamiliesModel" ({ cls := "SetFamiliesModel", name := "compresses", desc := "(III)I" } : Jvm.MethodName) ({ cls := "SetFamiliesModel", name := "compresses", desc := "(III)I" } : Jvm.MethodName)) ∈ gw := gp_3 (List.mem_of_getElem? (i := 8) rfl)
theorem hp_3_9 : (Jvm.Cond.selects "SetFamiliesModel" ({ cls := "SetFamiliesModel", name := "excessOf", desc := "(II)I" } : Jvm.MethodName) ({ cls := "SetFamiliesModel", name := "excessOf", desc := "(II)I" } : Jvm.MethodName)) ∈ gw := gp_3 (List.mem_of_getElem? (i := 9) rfl)
theorem hp_3_10 : (Jvm.Cond.selects "SetFamiliesModel" ({ cls := "SetFamiliesModel", name := "holds", desc := "(II)Z" } : Jvm.MethodName) ({ cls := "SetFamiliesModel", name := "holds", desc := "(II)Z" } : Jvm.MethodName)) ∈ gw := gp_3 (List.mem_of_getElem? (i := 10) rfl)
theorem hp_3_11 : (Jvm.Cond.selects "SetFamiliesModel" ({ cls := "SetFamiliesModel", name := "areBad", desc := "(IIII)Z" } : Jvm.MethodName) ({ cls := "SetFamiliesModel", name := "areBad", desc := "(IIII)Z" } : Jvm.MethodName)) ∈ gw := gp_3 (List.mem_of_getElem? (i := 11) rfl)
theorem hp_3_12 : (Jvm.Cond.selects "SetFamiliesModel" ({ cls := "SetFamiliesModel", name := "isBad", desc := "(III)Z" } : Jvm.MethodName) ({ cls := "SetFamiliesModel", name := "isBad", desc := "(III)Z" } : Jvm.MethodName)) ∈ gw := gp_3 (List.mem_of_getElem? (i := 12) rfl)
theorem hp_3_13 : (Jvm.Cond.selects "SetFamiliesModel" ({ cls := "SetFamiliesModel", name := "weighs", desc := "(I)V" } : Jvm.MethodName) ({ cls := "SetFamiliesModel", name := "weighs", desc := "(I)V" } : Jvm.MethodName)) ∈ gw := gp_3 (List.mem_of_getElem? (i := 13) rfl)
theorem hp_3_14 : (Jvm.Cond.selects "SetFamiliesModel" ({ cls := "SetFamiliesModel", name := "firstShattered", desc := "(I)I" } : Jvm.MethodName) ({ cls := "SetFamiliesModel", name := "firstShattered", desc := "(I)I" } : Jvm.MethodName)) ∈ gw := gp_3 (List.mem_of_getElem? (i := 14) rfl)
theorem hp_3_15 : (Jvm.Cond.selects "SetFamiliesModel" ({ cls := "SetFamiliesModel", name := "shatters", desc := "(II)Z" } : Jvm.MethodName) ({ cls := "SetFamiliesModel", name := "shatters", desc := "(II)Z" } : Jvm.MethodName)) ∈ gw := gp_3 (List.mem_of_getElem? (i := 15) rfl)
theorem hp_4_0 : (Jvm.Cond.selects "SetFamiliesModel" ({ cls := "SetFamiliesModel", name := "firstCrossing", desc := "(II)I" } : Jvm.MethodName) ({ cls := "SetFamiliesModel", name := "firstCrossing", desc := "(II)I" } : Jvm.MethodName)) ∈ gw := gp_4 (List.mem_of_getElem? (i := 0) rfl)
theorem hp_4_1 : (Jvm.Cond.selects "SetFamiliesModel" ({ cls := "SetFamiliesModel", name := "leastCore", desc := "(I)I" } : Jvm.MethodName) ({ cls := "SetFamiliesModel", name := "leastCore", desc := "(I)I" } : Jvm.MethodName)) ∈ gw := gp_4 (List.mem_of_getElem? (i := 1) rfl)
theorem hp_4_2 : (Jvm.Cond.selects "SetFamiliesModel" ({ cls := "SetFamiliesModel", name := "isCore", desc := "(II)Z" } : Jvm.MethodName) ({ cls := "SetFamiliesModel", name := "isCore", desc := "(II)Z" } : Jvm.MethodName)) ∈ gw := gp_4 (List.mem_of_getElem? (i := 2) rfl)
theorem hp_4_3 : (Jvm.Cond.selects "SetFamiliesModel" ({ cls := "SetFamiliesModel", name := "countsPairs", desc := "(I)V" } : Jvm.MethodName) ({ cls := "SetFamiliesModel", name := "countsPairs", desc := "(I)V" } : Jvm.MethodName)) ∈ gw := gp_4 (List.mem_of_getElem? (i := 3) rfl)
theorem hp_4_4 : (Jvm.Cond.selects "SetFamiliesModel" ({ cls := "SetFamiliesModel", name := "mixes", desc := "(J)V" } : Jvm.MethodName) ({ cls := "SetFamiliesModel", name := "mixes", desc := "(J)V" } : Jvm.MethodName)) ∈ gw := gp_4 (List.mem_of_getElem? (i := 4) rfl)
theorem hp_4_5 : (Jvm.Cond.selects "SetFamiliesModel" ({ cls := "SetFamiliesModel", name := "mixesFamily", desc := "(I)V" } : Jvm.MethodName) ({ cls := "SetFamiliesModel", name := "mixesFamily", desc := "(I)V" } : Jvm.MethodName)) ∈ gw := gp_4 (List.mem_of_getElem? (i := 5) rfl)
end
section
/-! typed memory: int fields, long fields, int rows, long rows -/
abbrev Mm : Type := (Nat → Int32) × (Nat → Int64) × (Nat → Nat → Int32) × (Nat → Nat → Int64)
def gI (μ : Mm) (k : Nat) : Int32 := μ.1 k
def gL (μ : Mm) (k : Nat) : Int64 := μ.2.1 k
def gA (μ : Mm) (k : Nat) : Nat → Int32 := μ.2.2.1 k
def gJ (μ : Mm) (k : Nat) : Nat → Int64 := μ.2.2.2 k
def sI (μ : Mm) (k : Nat) (v : Int32) : Mm := (va_up μ.1 k v, μ.2.1, μ.2.2.1, μ.2.2.2)
def sL (μ : Mm) (k : Nat) (v : Int64) : Mm := (μ.1, va_up μ.2.1 k v, μ.2.2.1, μ.2.2.2)
def sA (μ : Mm) (k : Nat) (v : Nat → Int32) : Mm := (μ.1, μ.2.1, va_up μ.2.2.1 k v, μ.2.2.2)
def sJ (μ : Mm) (k : Nat) (v : Nat → Int64) : Mm := (μ.1, μ.2.1, μ.2.2.1, va_up μ.2.2.2 k v)
theorem up_s {α : Type} (f : Nat → α) (k : Nat) (v : α) : va_up f k v k = v := by simp [va_up]
theorem up_n {α : Type} (f : Nat → α) {k j : Nat} (v : α) (h : j ≠ k) : va_up f k v j = f j := by simp [va_up, h]
theorem up_i {α : Type} (f : Nat → α) (k : Nat) : va_up f k (f k) = f := by funext j; by_cases h : j = k <;> simp [va_up, h]
theorem up_u {α : Type} (f : Nat → α) (k : Nat) (v w : α) : va_up (va_up f k v) k w = va_up f k w := by funext j; by_cases h : j = k <;> simp [va_up, h]
theorem up_c {α : Type} (f : Nat → α) {k j : Nat} (v w : α) (h : k ≠ j) : va_up (va_up f k v) j w = va_up (va_up f j w) k v := by
  funext i; by_cases h1 : i = k
  · subst h1; simp [va_up, h]
  · by_cases h2 : i = j
    · subst h2; simp [va_up, h1]
    · simp [va_up, h1, h2]

theorem gI_s (μ : Mm) (k : Nat) (v : Int32) : gI (sI μ k v) k = v := up_s _ k v
theorem gI_n (μ : Mm) {k j : Nat} (v : Int32) (h : j ≠ k) : gI (sI μ k v) j = gI μ j := up_n _ v h
theorem sI_i (μ : Mm) (k : Nat) : sI μ k (gI μ k) = μ := by simp only [sI, gI, up_i]
theorem sI_u (μ : Mm) (k : Nat) (v w : Int32) : sI (sI μ k v) k w = sI μ k w := by simp only [sI, up_u]
theorem sI_c (μ : Mm) {k j : Nat} (v w : Int32) (h : k ≠ j) : sI (sI μ k v) j w = sI (sI μ j w) k v := by simp only [sI]; rw [up_c _ v w h]
theorem gI_L (μ : Mm) (k j : Nat) (v : Int64) : gI (sL μ k v) j = gI μ j := rfl
theorem gI_A (μ : Mm) (k j : Nat) (v : Nat → Int32) : gI (sA μ k v) j = gI μ j := rfl
theorem gI_J (μ : Mm) (k j : Nat) (v : Nat → Int64) : gI (sJ μ k v) j = gI μ j := rfl
theorem gL_s (μ : Mm) (k : Nat) (v : Int64) : gL (sL μ k v) k = v := up_s _ k v
theorem gL_n (μ : Mm) {k j : Nat} (v : Int64) (h : j ≠ k) : gL (sL μ k v) j = gL μ j := up_n _ v h
theorem sL_i (μ : Mm) (k : Nat) : sL μ k (gL μ k) = μ := by simp only [sL, gL, up_i]
theorem sL_u (μ : Mm) (k : Nat) (v w : Int64) : sL (sL μ k v) k w = sL μ k w := by simp only [sL, up_u]
theorem sL_c (μ : Mm) {k j : Nat} (v w : Int64) (h : k ≠ j) : sL (sL μ k v) j w = sL (sL μ j w) k v := by simp only [sL]; rw [up_c _ v w h]
theorem gL_I (μ : Mm) (k j : Nat) (v : Int32) : gL (sI μ k v) j = gL μ j := rfl
theorem gL_A (μ : Mm) (k j : Nat) (v : Nat → Int32) : gL (sA μ k v) j = gL μ j := rfl
theorem gL_J (μ : Mm) (k j : Nat) (v : Nat → Int64) : gL (sJ μ k v) j = gL μ j := rfl
theorem gA_s (μ : Mm) (k : Nat) (v : Nat → Int32) : gA (sA μ k v) k = v := up_s _ k v
theorem gA_n (μ : Mm) {k j : Nat} (v : Nat → Int32) (h : j ≠ k) : gA (sA μ k v) j = gA μ j := up_n _ v h
theorem sA_i (μ : Mm) (k : Nat) : sA μ k (gA μ k) = μ := by simp only [sA, gA, up_i]
theorem sA_u (μ : Mm) (k : Nat) (v w : Nat → Int32) : sA (sA μ k v) k w = sA μ k w := by simp only [sA, up_u]
theorem sA_c (μ : Mm) {k j : Nat} (v w : Nat → Int32) (h : k ≠ j) : sA (sA μ k v) j w = sA (sA μ j w) k v := by simp only [sA]; rw [up_c _ v w h]
theorem gA_I (μ : Mm) (k j : Nat) (v : Int32) : gA (sI μ k v) j = gA μ j := rfl
theorem gA_L (μ : Mm) (k j : Nat) (v : Int64) : gA (sL μ k v) j = gA μ j := rfl
theorem gA_J (μ : Mm) (k j : Nat) (v : Nat → Int64) : gA (sJ μ k v) j = gA μ j := rfl
theorem gJ_s (μ : Mm) (k : Nat) (v : Nat → Int64) : gJ (sJ μ k v) k = v := up_s _ k v
theorem gJ_n (μ : Mm) {k j : Nat} (v : Nat → Int64) (h : j ≠ k) : gJ (sJ μ k v) j = gJ μ j := up_n _ v h
theorem sJ_i (μ : Mm) (k : Nat) : sJ μ k (gJ μ k) = μ := by simp only [sJ, gJ, up_i]
theorem sJ_u (μ : Mm) (k : Nat) (v w : Nat → Int64) : sJ (sJ μ k v) k w = sJ μ k w := by simp only [sJ, up_u]
theorem sJ_c (μ : Mm) {k j : Nat} (v w : Nat → Int64) (h : k ≠ j) : sJ (sJ μ k v) j w = sJ (sJ μ j w) k v := by simp only [sJ]; rw [up_c _ v w h]
theorem gJ_I (μ : Mm) (k j : Nat) (v : Int32) : gJ (sI μ k v) j = gJ μ j := rfl
theorem gJ_L (μ : Mm) (k j : Nat) (v : Int64) : gJ (sL μ k v) j = gJ μ j := rfl
theorem gJ_A (μ : Mm) (k j : Nat) (v : Nat → Int32) : gJ (sA μ k v) j = gJ μ j := rfl
theorem sL_I (μ : Mm) (k j : Nat) (v : Int32) (x : Int64) : sL (sI μ k v) j x = sI (sL μ j x) k v := rfl
theorem sA_I (μ : Mm) (k j : Nat) (v : Int32) (x : Nat → Int32) : sA (sI μ k v) j x = sI (sA μ j x) k v := rfl
theorem sA_L (μ : Mm) (k j : Nat) (v : Int64) (x : Nat → Int32) : sA (sL μ k v) j x = sL (sA μ j x) k v := rfl
theorem sJ_I (μ : Mm) (k j : Nat) (v : Int32) (x : Nat → Int64) : sJ (sI μ k v) j x = sI (sJ μ j x) k v := rfl
theorem sJ_L (μ : Mm) (k j : Nat) (v : Int64) (x : Nat → Int64) : sJ (sL μ k v) j x = sL (sJ μ j x) k v := rfl
theorem sJ_A (μ : Mm) (k j : Nat) (v : Nat → Int32) (x : Nat → Int64) : sJ (sA μ k v) j x = sA (sJ μ j x) k v := rfl
/-! layout: the classes' numbers, the array classes, the addresses, the two static rows -/
abbrev Gd : Type := va_G × (Nat → ClassId) × (Nat → Nat) × Nat × Nat
abbrev cy (g : Gd) (k : Nat) : ClassId := g.2.1 k
abbrev ad (g : Gd) (k : Nat) : Nat := g.2.2.1 k
def fo (i : Nat) : Nat := 28 + 2 * i
def fw (i : Nat) : Nat := 29 + 2 * i
abbrev rf (g : Gd) (k : Nat) : Value := .ref (ad g k)
abbrev jR (g : Gd) (n : Nat) (f : Nat → Int64) : va_E := .inl (cy g 2, n, .inr (.inl f))
abbrev iR (g : Gd) (t n : Nat) (f : Nat → Int32) : va_E := .inl (cy g t, n, .inl f)
abbrev aR (g : Gd) (n b : Nat) : va_E := .inl (cy g 4, n, .inr (.inr (.inr (.inr (fun i => some (ad g (fo (b + i))))))))
def WF (g : Gd) (μ : Mm) (k : Nat) : va_E := match k with
  | 0 => .inr (9, [rf g 1, rf g 2, rf g 3, rf g 6, rf g 8, rf g 9, rf g 10, rf g 12, rf g 15, rf g 18, rf g (fo 50), rf g (fo 51)])
  | 1 => .inr (3, [.int (gI μ 0), .int (gI μ 1)])
  | 2 => aR g 4 0
  | 3 => .inr (4, [.int (gI μ 2), .int (gI μ 3), rf g 4, rf g 5])
  | 4 => iR g 1 4 (gA μ 0)
  | 5 => aR g 16 4
  | 6 => .inr (8, [.int (gI μ 4), rf g 7])
  | 7 => iR g 0 120 (gA μ 1)
  | 8 => .inr (1, [rf g 1, rf g (fo 20), rf g (fo 21), rf g (fo 22)])
  | 9 => .inr (0, [rf g 1, rf g (fo 23), rf g (fo 24), rf g (fo 25)])
  | 10 => .inr (6, [rf g 1, rf g 11])
  | 11 => aR g 11 26
  | 12 => .inr (7, [rf g 1, rf g 8, rf g 13, rf g (fo 48), rf g (fo 49), rf g 14])
  | 13 => aR g 11 37
  | 14 => iR g 1 1024 (gA μ 2)
  | 15 => .inr (5, [rf g 1, rf g 16, rf g 17])
  | 16 => iR g 1 1024 (gA μ 3)
  | 17 => jR g 11 (gJ μ 52)
  | 18 => iR g 1 1024 (gA μ 4)
  | 19 => .inr (10, [.int (gI μ 5), .int (gI μ 6), rf g 20, rf g 21, rf g 22, .int (gI μ 7), rf g 23, .int (gI μ 8), rf g 24, .long (gL μ 0), .long (gL μ 1), rf g 25, .int (gI μ 9), rf g 26, .long (gL μ 2)])
  | 20 => iR g 3 4096 (gA μ 5)
  | 21 => iR g 3 16384 (gA μ 6)
  | 22 => iR g 1 4 (gA μ 7)
  | 23 => iR g 0 120 (gA μ 8)
  | 24 => iR g 3 1024 (gA μ 9)
  | 25 => iR g 1 1024 (gA μ 10)
  | 26 => iR g 1 11 (gA μ 11)
  | 27 => jR g 1 (gJ μ 53)
  | n + 28 => if n % 2 = 0 then .inr (2, [rf g 1, .ref (ad g (n + 29))]) else jR g 16 (gJ μ (n / 2))
theorem WF_fo (g : Gd) (μ : Mm) (i : Nat) : WF g μ (fo i) = .inr (2, [rf g 1, rf g (fw i)]) := by
  have h : fo i = 2 * i + 28 := by unfold fo; omega
  have h2 : fw i = 2 * i + 29 := by unfold fw; omega
  rw [h, h2]
  show (if (2 * i) % 2 = 0 then _ else _) = _
  rw [if_pos (by omega)]
theorem WF_fw (g : Gd) (μ : Mm) (i : Nat) : WF g μ (fw i) = jR g 16 (gJ μ i) := by
  have h : fw i = (2 * i + 1) + 28 := by unfold fw; omega
  rw [h]
  show (if (2 * i + 1) % 2 = 0 then _ else _) = _
  rw [if_neg (by omega), show (2 * i + 1) / 2 = i by omega]
def wd (g : Gd) (μ : Mm) : va_W := (List.range 132).map (fun k => (ad g k, WF g μ k))
theorem wd_get (g : Gd) (μ : Mm) {k : Nat} (h : k < 132) : (wd g μ)[k]? = some (ad g k, WF g μ k) := by
  simp [wd, List.getElem?_range h]
theorem wd_at {g : Gd} {μ : Mm} {k : Nat} {e : va_E} (h : k < 132) (he : WF g μ k = e) : (wd g μ)[k]? = some (ad g k, e) := by rw [wd_get g μ h, he]
theorem wd_inv {g : Gd} {μ : Mm} {k : Nat} {q : Nat × va_E} (h : (wd g μ)[k]? = some q) : k < 132 ∧ q = (ad g k, WF g μ k) := by
  have hk : k < 132 := by
    have := (List.getElem?_eq_some_iff.mp h).1
    simpa [wd] using this
  rw [wd_get g μ hk] at h
  exact ⟨hk, (Option.some.inj h).symm⟩
theorem wd_set {g : Gd} {μ μ' : Mm} {k : Nat} {e : va_E} (h : k < 132) (he : WF g μ' k = e) (hn : ∀ j, j < 132 → j ≠ k → WF g μ' j = WF g μ j) : (wd g μ).set k (ad g k, e) = wd g μ' := by
  apply List.ext_getElem?
  intro j
  by_cases hj : j < 132
  · rw [wd_get g μ' hj]
    by_cases hjk : k = j
    · subst hjk
      rw [List.getElem?_set_self (by simpa [wd] using h), he]
    · rw [List.getElem?_set_ne hjk, wd_get g μ hj, hn j hj (fun q => hjk q.symm)]
  · rw [List.getElem?_eq_none (by simp [wd]; omega), List.getElem?_eq_none (by simp [wd]; omega)]
theorem wd_D {A : Nat → Prop} {g : Gd} {μ : Mm} (μ' : Mm) (h : va_D A (wd g μ)) : va_D A (wd g μ') := by
  refine ⟨fun i j p q hp hq he => ?_, fun k q hk => ?_⟩
  · obtain ⟨hi, rfl⟩ := wd_inv hp
    obtain ⟨hj, rfl⟩ := wd_inv hq
    exact h.1 i j _ _ (wd_get g μ hi) (wd_get g μ hj) he
  · obtain ⟨hi, rfl⟩ := wd_inv hk
    exact (h.2 k _ (wd_get g μ hi) :)
def vA (g : Gd) (sz : Nat) : Nat → Prop := fun q => (∃ k, k < 132 ∧ q = ad g k) ∨ sz ≤ q
theorem vA_D {A : Nat → Prop} {g : Gd} {μ : Mm} {sz : Nat} (h : va_D A (wd g μ)) : va_D (vA g sz) (wd g μ) := by
  refine ⟨h.1, fun k q hk => ?_⟩
  obtain ⟨hi, rfl⟩ := wd_inv hk
  exact Or.inl ⟨k, hi, rfl⟩
theorem vA_free {A : Nat → Prop} {g : Gd} {μ : Mm} {H0 H : Heap} {locs : List Loc} (hD : va_D A (wd g μ)) (hS : va_S A H0 H locs) (hA : ∀ q, H0.size ≤ q → A q) : ∀ q, vA g H.size q → A q := by
  intro q h
  rcases h with ⟨k, hk, rfl⟩ | h
  · exact hD.2 k _ (wd_get g μ hk)
  · exact hA q (Nat.le_trans hS.1 h)
abbrev tys (g : Gd) : List (ClassId × FieldType) := [(cy g 0, .byte), (cy g 1, .int), (cy g 2, .long), (cy g 3, .boolean), (cy g 4, .object "SetFamilies$Family")]
def lackT (j : Nat) : Int64 := ([0x5555555555555555, 0x3333333333333333, 0x0F0F0F0F0F0F0F0F, 0x00FF00FF00FF00FF, 0x0000FFFF0000FFFF, 0x00000000FFFFFFFF] : List Int64).getD j 0
def sizeT (j : Nat) : Int64 := ([0x0000000000000001, 0x0000000100010116, 0x0001011601161668, 0x0116166816686880, 0x1668688068808000, 0x6880800080000000, 0x8000000000000000] : List Int64).getD j 0
abbrev nwB : MethodName := ⟨"SetFamilies", "branchEnd", "(II)I"⟩
abbrev nwH : MethodName := ⟨"SetFamilies", "holds", "(II)Z"⟩
/-- what is given of the statics, and three links between nest mates -/
def Sta (g : Gd) (A : Nat → Prop) (U : State) (H : Heap) : Prop :=
  va_Z "SetFamilies$Family" "LACKING" "[J" (.ref g.2.2.2.1) A U H ∧ va_T .long g.2.2.2.1 6 (fun j => .long (lackT j)) A U H ∧
  va_Z "SetFamilies$Family" "OF_SIZE" "[J" (.ref g.2.2.2.2) A U H ∧ va_T .long g.2.2.2.2 7 (fun j => .long (sizeT j)) A U H ∧
  va_Nw (.methodLinkNest "SetFamilies$Shattering" 43 nwB "SetFamilies") U ∧ va_Nw (.methodLinkNest "SetFamilies$SunflowerSearch" 56 nwB "SetFamilies") U ∧ va_Nw (.methodLinkNest "SetFamilies$Colex" 9 nwH "SetFamilies") U
theorem Sta.to {g : Gd} {A B : Nat → Prop} {s U : State} {H : Heap} {locs : List Loc} (h : Sta g A s s.heap) (hS : va_S A s.heap H locs) (hU : U.heap = H) (hW : s.WarmedH U.vm) (hB : ∀ q, B q → A q) : Sta g B U U.heap := by
  obtain ⟨h1, h2, h3, h4, h5, h6, h7⟩ := h
  rw [hU]
  exact ⟨va_Z.moved hW.alike ((h1.kept hS.2.1).narrow hB), va_T.moved hW.alike ((h2.kept hS.2.1).narrow hB), va_Z.moved hW.alike ((h3.kept hS.2.1).narrow hB), va_T.moved hW.alike ((h4.kept hS.2.1).narrow hB), va_Nw.warmM hW h5, va_Nw.warmM hW h6, va_Nw.warmM hW h7⟩
theorem Sta.blind {g : Gd} {A : Nat → Prop} {U V : State} (hh : V.heap = U.heap) (hv : V.vm = U.vm) (h : Sta g A U U.heap) : Sta g A V V.heap := by
  obtain ⟨h1, h2, h3, h4, h5, h6, h7⟩ := h
  rw [hh]
  have hq : U.vm.Alike V.vm := by rw [hv]; exact Vm.Alike.refl U.vm
  exact ⟨va_Z.moved hq h1, va_T.moved hq h2, va_Z.moved hq h3, va_T.moved hq h4, va_Nw.same rfl hv.symm h5, va_Nw.same rfl hv.symm h6, va_Nw.same rfl hv.symm h7⟩
/-! the machine, bundled -/
abbrev Zt : Type := Program × Launch × Env × Room × State × MethodId × Array Value × List Frame × Method × Code × (State → Prop)
abbrev zp (z : Zt) := z.1
abbrev zl (z : Zt) := z.2.1
abbrev ze (z : Zt) := z.2.2.1
abbrev zR (z : Zt) := z.2.2.2.1
abbrev zs (z : Zt) := z.2.2.2.2.1
abbrev zm (z : Zt) := z.2.2.2.2.2.1
abbrev za (z : Zt) := z.2.2.2.2.2.2.1
abbrev zb (z : Zt) := z.2.2.2.2.2.2.2.1
abbrev zM (z : Zt) := z.2.2.2.2.2.2.2.2.1
abbrev zc (z : Zt) := z.2.2.2.2.2.2.2.2.2.1
abbrev zQ (z : Zt) := z.2.2.2.2.2.2.2.2.2.2
/-- the machine goes on well from pc, with these locals and this stack, over every heap that holds the cells ws -/
def G (z : Zt) (D : va_G) (A : Nat → Prop) (nL : Nat) (ws : va_W) (ce sl pc : Nat) (lv : List (Nat × Value)) (st : List Value) : Prop :=
  ∀ (H : Heap) (locs : List Loc) (ls : Array Slot), va_P D vwCl ws H → va_D A ws → va_S A (zs z).heap H locs → lv_has ls nL lv →
    W (zp z) (zl z) (ze z) (zR z) (zs z) (zm z) (za z) (zb z) (zM z) (zc z) H locs ce sl (zQ z) (F0 (zm z) pc ls st)
/-- what stands all through a method -/
def Cx (z : Zt) (A : Nat → Prop) (l : Launch) (rm : Room) (cc : ByteArray) (nL : Nat) (own : String) : Prop :=
  (zp z).tables.exec = Jvm.exec ∧ (zc z).code = cc ∧ (zc z).maxLocals = nL ∧ (zs z).vm.findClass own = some (zm z).cls ∧ (∀ w ∈ gw, w.before (za z) (zs z) = true) ∧ (∀ q, (zs z).heap.size ≤ q → A q) ∧ (zM z).locks = false ∧ zl z = l ∧ zR z = rm
def Kx (z : Zt) (g : Gd) (A : Nat → Prop) : Prop := va_K g.1 vwCl (tys g) (zs z) ∧ Sta g A (zs z) (zs z).heap
section BASE
variable {z : Zt} {D : va_G} {A : Nat → Prop} {nL : Nat} {ws : va_W} {ce sl pc : Nat} {lv : List (Nat × Value)} {st : List Value} {l : Launch} {rm : Room} {cc : ByteArray} {own : String} {g : Gd} {μ μ' : Mm}
theorem Cx.hx (C : Cx z A l rm cc nL own) : (zp z).tables.exec = Jvm.exec := C.1
theorem Cx.hb (C : Cx z A l rm cc nL own) : (zc z).code = cc := C.2.1
theorem Cx.hml (C : Cx z A l rm cc nL own) : (zc z).maxLocals = nL := C.2.2.1
theorem Cx.hown (C : Cx z A l rm cc nL own) : (zs z).vm.findClass own = some (zm z).cls := C.2.2.2.1
theorem Cx.hts (C : Cx z A l rm cc nL own) : ∀ w ∈ gw, w.before (za z) (zs z) = true := C.2.2.2.2.1
theorem Cx.hA (C : Cx z A l rm cc nL own) : ∀ q, (zs z).heap.size ≤ q → A q := C.2.2.2.2.2.1
theorem Cx.hlk (C : Cx z A l rm cc nL own) : (zM z).locks = false := C.2.2.2.2.2.2.1
theorem Cx.hl (C : Cx z A l rm cc nL own) : zl z = l := C.2.2.2.2.2.2.2.1
theorem Cx.hR (C : Cx z A l rm cc nL own) : zR z = rm := C.2.2.2.2.2.2.2.2
theorem G_sub {lv' : List (Nat × Value)} (ks : List Nat) (h : lv_pick lv ks = lv') (K : G z D A nL ws ce sl pc lv' st) : G z D A nL ws ce sl pc lv st := fun H locs ls hP hD hS hl => K H locs ls hP hD hS (lv_sub hl ks h)
theorem G_top {x y : Int32} (h : x = y) (K : G z D A nL ws ce sl pc lv (.int y :: st)) : G z D A nL ws ce sl pc lv (.int x :: st) := h ▸ K
theorem G_topl {x y : Int64} (h : x = y) (K : G z D A nL ws ce sl pc lv (.long y :: st)) : G z D A nL ws ce sl pc lv (.long x :: st) := h ▸ K
theorem G_st {st' : List Value} (h : st = st') (K : G z D A nL ws ce sl pc lv st') : G z D A nL ws ce sl pc lv st := h ▸ K
theorem G_lv {lv' : List (Nat × Value)} (h : lv = lv') (K : G z D A nL ws ce sl pc lv' st) : G z D A nL ws ce sl pc lv st := h ▸ K
theorem G_mem (h : μ = μ') (K : G z D A nL (wd g μ') ce sl pc lv st) : G z D A nL (wd g μ) ce sl pc lv st := h ▸ K
theorem r_iadd (C : Cx z A l rm cc nL own) {x y v : Int32} (hd : decode cc pc = .ok (.iadd, 1)) (hv : x + y = v) (K : G z D A nL ws ce sl (pc + 1) lv (.int v :: st)) : G z D A nL ws ce sl pc lv (.int y :: .int x :: st) := fun H locs ls hP hD hS hl => lv_iadd C.hx C.hb hd (by rw [hv]; exact K H locs ls hP hD hS hl)
theorem r_isub (C : Cx z A l rm cc nL own) {x y v : Int32} (hd : decode cc pc = .ok (.isub, 1)) (hv : x - y = v) (K : G z D A nL ws ce sl (pc + 1) lv (.int v :: st)) : G z D A nL ws ce sl pc lv (.int y :: .int x :: st) := fun H locs ls hP hD hS hl => lv_isub C.hx C.hb hd (by rw [hv]; exact K H locs ls hP hD hS hl)
theorem r_imul (C : Cx z A l rm cc nL own) {x y v : Int32} (hd : decode cc pc = .ok (.imul, 1)) (hv : x * y = v) (K : G z D A nL ws ce sl (pc + 1) lv (.int v :: st)) : G z D A nL ws ce sl pc lv (.int y :: .int x :: st) := fun H locs ls hP hD hS hl => lv_imul C.hx C.hb hd (by rw [hv]; exact K H locs ls hP hD hS hl)
theorem r_iand (C : Cx z A l rm cc nL own) {x y v : Int32} (hd : decode cc pc = .ok (.iand, 1)) (hv : x &&& y = v) (K : G z D A nL ws ce sl (pc + 1) lv (.int v :: st)) : G z D A nL ws ce sl pc lv (.int y :: .int x :: st) := fun H locs ls hP hD hS hl => lv_iand C.hx C.hb hd (by rw [hv]; exact K H locs ls hP hD hS hl)
theorem r_ior (C : Cx z A l rm cc nL own) {x y v : Int32} (hd : decode cc pc = .ok (.ior, 1)) (hv : x ||| y = v) (K : G z D A nL ws ce sl (pc + 1) lv (.int v :: st)) : G z D A nL ws ce sl pc lv (.int y :: .int x :: st) := fun H locs ls hP hD hS hl => lv_ior C.hx C.hb hd (by rw [hv]; exact K H locs ls hP hD hS hl)
theorem r_ixor (C : Cx z A l rm cc nL own) {x y v : Int32} (hd : decode cc pc = .ok (.ixor, 1)) (hv : x ^^^ y = v) (K : G z D A nL ws ce sl (pc + 1) lv (.int v :: st)) : G z D A nL ws ce sl pc lv (.int y :: .int x :: st) := fun H locs ls hP hD hS hl => lv_ixor C.hx C.hb hd (by rw [hv]; exact K H locs ls hP hD hS hl)
theorem r_ladd (C : Cx z A l rm cc nL own) {x y v : Int64} (hd : decode cc pc = .ok (.ladd, 1)) (hv : x + y = v) (K : G z D A nL ws ce sl (pc + 1) lv (.long v :: st)) : G z D A nL ws ce sl pc lv (.long y :: .long x :: st) := fun H locs ls hP hD hS hl => lv_ladd C.hx C.hb hd (by rw [hv]; exact K H locs ls hP hD hS hl)
theorem r_lsub (C : Cx z A l rm cc nL own) {x y v : Int64} (hd : decode cc pc = .ok (.lsub, 1)) (hv : x - y = v) (K : G z D A nL ws ce sl (pc + 1) lv (.long v :: st)) : G z D A nL ws ce sl pc lv (.long y :: .long x :: st) := fun H locs ls hP hD hS hl => lv_lsub C.hx C.hb hd (by rw [hv]; exact K H locs ls hP hD hS hl)
theorem r_lmul (C : Cx z A l rm cc nL own) {x y v : Int64} (hd : decode cc pc = .ok (.lmul, 1)) (hv : x * y = v) (K : G z D A nL ws ce sl (pc + 1) lv (.long v :: st)) : G z D A nL ws ce sl pc lv (.long y :: .long x :: st) := fun H locs ls hP hD hS hl => lv_lmul C.hx C.hb hd (by rw [hv]; exact K H locs ls hP hD hS hl)
theorem r_land (C : Cx z A l rm cc nL own) {x y v : Int64} (hd : decode cc pc = .ok (.land, 1)) (hv : x &&& y = v) (K : G z D A nL ws ce sl (pc + 1) lv (.long v :: st)) : G z D A nL ws ce sl pc lv (.long y :: .long x :: st) := fun H locs ls hP hD hS hl => lv_land C.hx C.hb hd (by rw [hv]; exact K H locs ls hP hD hS hl)
theorem r_lor (C : Cx z A l rm cc nL own) {x y v : Int64} (hd : decode cc pc = .ok (.lor, 1)) (hv : x ||| y = v) (K : G z D A nL ws ce sl (pc + 1) lv (.long v :: st)) : G z D A nL ws ce sl pc lv (.long y :: .long x :: st) := fun H locs ls hP hD hS hl => lv_lor C.hx C.hb hd (by rw [hv]; exact K H locs ls hP hD hS hl)
theorem r_lxor (C : Cx z A l rm cc nL own) {x y v : Int64} (hd : decode cc pc = .ok (.lxor, 1)) (hv : x ^^^ y = v) (K : G z D A nL ws ce sl (pc + 1) lv (.long v :: st)) : G z D A nL ws ce sl pc lv (.long y :: .long x :: st) := fun H locs ls hP hD hS hl => lv_lxor C.hx C.hb hd (by rw [hv]; exact K H locs ls hP hD hS hl)
theorem r_ishl (C : Cx z A l rm cc nL own) {x y v : Int32} (hd : decode cc pc = .ok (.ishl, 1)) (hv : x <<< (y &&& 31) = v) (K : G z D A nL ws ce sl (pc + 1) lv (.int v :: st)) : G z D A nL ws ce sl pc lv (.int y :: .int x :: st) := fun H locs ls hP hD hS hl => lv_ishl C.hx C.hb hd (by rw [hv]; exact K H locs ls hP hD hS hl)
theorem r_ishr (C : Cx z A l rm cc nL own) {x y v : Int32} (hd : decode cc pc = .ok (.ishr, 1)) (hv : x >>> (y &&& 31) = v) (K : G z D A nL ws ce sl (pc + 1) lv (.int v :: st)) : G z D A nL ws ce sl pc lv (.int y :: .int x :: st) := fun H locs ls hP hD hS hl => lv_ishr C.hx C.hb hd (by rw [hv]; exact K H locs ls hP hD hS hl)
theorem r_idiv (C : Cx z A l rm cc nL own) {x y v : Int32} (hd : decode cc pc = .ok (.idiv, 1)) (hne : ¬ y = 0) (hv : x / y = v) (K : G z D A nL ws ce sl (pc + 1) lv (.int v :: st)) : G z D A nL ws ce sl pc lv (.int y :: .int x :: st) := fun H locs ls hP hD hS hl => lv_idiv C.hx C.hb hd hne (by rw [hv]; exact K H locs ls hP hD hS hl)
theorem r_irem (C : Cx z A l rm cc nL own) {x y v : Int32} (hd : decode cc pc = .ok (.irem, 1)) (hne : ¬ y = 0) (hv : x - x / y * y = v) (K : G z D A nL ws ce sl (pc + 1) lv (.int v :: st)) : G z D A nL ws ce sl pc lv (.int y :: .int x :: st) := fun H locs ls hP hD hS hl => lv_irem C.hx C.hb hd hne (by rw [hv]; exact K H locs ls hP hD hS hl)
theorem r_ldiv (C : Cx z A l rm cc nL own) {x y v : Int64} (hd : decode cc pc = .ok (.ldiv, 1)) (hne : ¬ y = 0) (hv : x / y = v) (K : G z D A nL ws ce sl (pc + 1) lv (.long v :: st)) : G z D A nL ws ce sl pc lv (.long y :: .long x :: st) := fun H locs ls hP hD hS hl => lv_ldiv C.hx C.hb hd hne (by rw [hv]; exact K H locs ls hP hD hS hl)
theorem r_lrem (C : Cx z A l rm cc nL own) {x y v : Int64} (hd : decode cc pc = .ok (.lrem, 1)) (hne : ¬ y = 0) (hv : x - x / y * y = v) (K : G z D A nL ws ce sl (pc + 1) lv (.long v :: st)) : G z D A nL ws ce sl pc lv (.long y :: .long x :: st) := fun H locs ls hP hD hS hl => lv_lrem C.hx C.hb hd hne (by rw [hv]; exact K H locs ls hP hD hS hl)
theorem r_ineg (C : Cx z A l rm cc nL own) {x v : Int32} (hd : decode cc pc = .ok (.ineg, 1)) (hv : -x = v) (K : G z D A nL ws ce sl (pc + 1) lv (.int v :: st)) : G z D A nL ws ce sl pc lv (.int x :: st) := fun H locs ls hP hD hS hl => lv_ineg C.hx C.hb hd (by rw [hv]; exact K H locs ls hP hD hS hl)
theorem r_lneg (C : Cx z A l rm cc nL own) {x v : Int64} (hd : decode cc pc = .ok (.lneg, 1)) (hv : -x = v) (K : G z D A nL ws ce sl (pc + 1) lv (.long v :: st)) : G z D A nL ws ce sl pc lv (.long x :: st) := fun H locs ls hP hD hS hl => lv_lneg C.hx C.hb hd (by rw [hv]; exact K H locs ls hP hD hS hl)
theorem r_iushr (C : Cx z A l rm cc nL own) {x y v : Int32} (hd : decode cc pc = .ok (.iushr, 1)) (hv : (x.toUInt32 >>> (y.toUInt32 &&& Int32.toUInt32 31)).toInt32 = v) (K : G z D A nL ws ce sl (pc + 1) lv (.int v :: st)) : G z D A nL ws ce sl pc lv (.int y :: .int x :: st) := fun H locs ls hP hD hS hl => lv_iushr C.hx C.hb hd hv (K H locs ls hP hD hS hl)
theorem r_lushr (C : Cx z A l rm cc nL own) {x v : Int64} {y : Int32} (hd : decode cc pc = .ok (.lushr, 1)) (hv : (x.toUInt64 >>> (y.toInt64.toUInt64 &&& Int64.toUInt64 63)).toInt64 = v) (K : G z D A nL ws ce sl (pc + 1) lv (.long v :: st)) : G z D A nL ws ce sl pc lv (.int y :: .long x :: st) := fun H locs ls hP hD hS hl => lv_lushr C.hx C.hb hd hv (K H locs ls hP hD hS hl)
theorem r_lshl (C : Cx z A l rm cc nL own) {x v : Int64} {y : Int32} (hd : decode cc pc = .ok (.lshl, 1)) (hv : x <<< (y.toInt64 &&& 63) = v) (K : G z D A nL ws ce sl (pc + 1) lv (.long v :: st)) : G z D A nL ws ce sl pc lv (.int y :: .long x :: st) := fun H locs ls hP hD hS hl => lv_lshl C.hx C.hb hd hv (K H locs ls hP hD hS hl)
theorem r_lshr (C : Cx z A l rm cc nL own) {x v : Int64} {y : Int32} (hd : decode cc pc = .ok (.lshr, 1)) (hv : x >>> (y.toInt64 &&& 63) = v) (K : G z D A nL ws ce sl (pc + 1) lv (.long v :: st)) : G z D A nL ws ce sl pc lv (.int y :: .long x :: st) := fun H locs ls hP hD hS hl => lv_lshr C.hx C.hb hd hv (K H locs ls hP hD hS hl)
theorem r_i2l (C : Cx z A l rm cc nL own) {x : Int32} {v : Int64} (hd : decode cc pc = .ok (.i2l, 1)) (hv : x.toInt64 = v) (K : G z D A nL ws ce sl (pc + 1) lv (.long v :: st)) : G z D A nL ws ce sl pc lv (.int x :: st) := fun H locs ls hP hD hS hl => lv_i2l C.hx C.hb hd hv (K H locs ls hP hD hS hl)
theorem r_l2i (C : Cx z A l rm cc nL own) {x : Int64} {v : Int32} (hd : decode cc pc = .ok (.l2i, 1)) (hv : x.toInt32 = v) (K : G z D A nL ws ce sl (pc + 1) lv (.int v :: st)) : G z D A nL ws ce sl pc lv (.long x :: st) := fun H locs ls hP hD hS hl => lv_l2i C.hx C.hb hd hv (K H locs ls hP hD hS hl)
theorem r_i2b (C : Cx z A l rm cc nL own) {x v : Int32} (hd : decode cc pc = .ok (.i2b, 1)) (hv : x.toInt8.toInt32 = v) (K : G z D A nL ws ce sl (pc + 1) lv (.int v :: st)) : G z D A nL ws ce sl pc lv (.int x :: st) := fun H locs ls hP hD hS hl => lv_i2b C.hx C.hb hd hv (K H locs ls hP hD hS hl)
theorem r_lcmp (C : Cx z A l rm cc nL own) {x y : Int64} (hd : decode cc pc = .ok (.lcmp, 1)) (K : G z D A nL ws ce sl (pc + 1) lv (.int (lg_cmp x y) :: st)) : G z D A nL ws ce sl pc lv (.long y :: .long x :: st) := fun H locs ls hP hD hS hl => W.lcmp C.hx C.hb hd (K H locs ls hP hD hS hl)
theorem r_iconst (C : Cx z A l rm cc nL own) {n : Int} {v : Int32} (hd : decode cc pc = .ok (.iconst n, 1)) (hv : Int32.ofInt n = v) (K : G z D A nL ws ce sl (pc + 1) lv (.int v :: st)) : G z D A nL ws ce sl pc lv (st) := fun H locs ls hP hD hS hl => lv_iconst C.hx C.hb hd hv (K H locs ls hP hD hS hl)
theorem r_bipush (C : Cx z A l rm cc nL own) {n : Int} {v : Int32} (hd : decode cc pc = .ok (.bipush n, 2)) (hv : (Int8.ofInt n).toInt32 = v) (K : G z D A nL ws ce sl (pc + 2) lv (.int v :: st)) : G z D A nL ws ce sl pc lv (st) := fun H locs ls hP hD hS hl => lv_bipush C.hx C.hb hd hv (K H locs ls hP hD hS hl)
theorem r_sipush (C : Cx z A l rm cc nL own) {n : Int} {v : Int32} (hd : decode cc pc = .ok (.sipush n, 3)) (hv : (Int16.ofInt n).toInt32 = v) (K : G z D A nL ws ce sl (pc + 3) lv (.int v :: st)) : G z D A nL ws ce sl pc lv (st) := fun H locs ls hP hD hS hl => lv_sipush C.hx C.hb hd hv (K H locs ls hP hD hS hl)
theorem r_lconst (C : Cx z A l rm cc nL own) {n : Fin 2} {v : Int64} (hd : decode cc pc = .ok (.lconst n, 1)) (hv : Int64.ofNat (n : Nat) = v) (K : G z D A nL ws ce sl (pc + 1) lv (.long v :: st)) : G z D A nL ws ce sl pc lv (st) := fun H locs ls hP hD hS hl => lv_lconst C.hx C.hb hd hv (K H locs ls hP hD hS hl)
theorem r_ldc (C : Cx z A l rm cc nL own) {i : Nat} {v : Int32} (hd : decode cc pc = .ok (.ldc i, 2)) (hw : Cond.constant own i v ∈ gw) (K : G z D A nL ws ce sl (pc + 2) lv (.int v :: st)) : G z D A nL ws ce sl pc lv (st) := fun H locs ls hP hD hS hl => lv_ldc C.hx C.hb C.hown (C.hts _ hw) hd (K H locs ls hP hD hS hl)
theorem r_ldcw (C : Cx z A l rm cc nL own) {i : Nat} {v : Int32} (hd : decode cc pc = .ok (.ldc_w i, 3)) (hw : Cond.constant own i v ∈ gw) (K : G z D A nL ws ce sl (pc + 3) lv (.int v :: st)) : G z D A nL ws ce sl pc lv (st) := fun H locs ls hP hD hS hl => lv_ldcw C.hx C.hb C.hown (C.hts _ hw) hd (K H locs ls hP hD hS hl)
theorem r_ldc2 (C : Cx z A l rm cc nL own) {i : Nat} {v : Int64} (hd : decode cc pc = .ok (.ldc2_w i, 3)) (hw : Cond.constantLong own i v ∈ gw) (K : G z D A nL ws ce sl (pc + 3) lv (.long v :: st)) : G z D A nL ws ce sl pc lv (st) := fun H locs ls hP hD hS hl => lv_ldc2 C.hx C.hb C.hown (C.hts _ hw) hd (K H locs ls hP hD hS hl)
theorem r_iload_n (C : Cx z A l rm cc nL own) {n : Fin 4} {x : Int32} (hd : decode cc pc = .ok (.iload_n n, 1)) (k : Nat) (hk : lv[k]? = some ((n : Nat), .int x)) (K : G z D A nL ws ce sl (pc + 1) lv (.int x :: st)) : G z D A nL ws ce sl pc lv st := fun H locs ls hP hD hS hl => lv_iload_n C.hx C.hb hd rfl (lv_at hl k hk) (K H locs ls hP hD hS hl)
theorem r_iload (C : Cx z A l rm cc nL own) {n : Nat} {x : Int32} (hd : decode cc pc = .ok (.iload n, 2)) (k : Nat) (hk : lv[k]? = some (n, .int x)) (K : G z D A nL ws ce sl (pc + 2) lv (.int x :: st)) : G z D A nL ws ce sl pc lv st := fun H locs ls hP hD hS hl => lv_iload C.hx C.hb hd (lv_at hl k hk) (K H locs ls hP hD hS hl)
theorem r_istore_n (C : Cx z A l rm cc nL own) {n : Fin 4} {x : Int32} {lv' : List (Nat × Value)} (i : Nat) (hd : decode cc pc = .ok (.istore_n n, 1)) (hi : (n : Nat) = i) (hn : i < nL) (hl : (i, Value.int x) :: lv.filter (fun q => !(q.1 == i) && !(q.1 + 1 == i && q.2.category == 2)) = lv') (K : G z D A nL ws ce sl (pc + 1) lv' st) : G z D A nL ws ce sl pc lv (.int x :: st) := fun H locs ls hP hD hS hl1 => lv_istore_n C.hx C.hb hd hi hl1 hn hl (fun ls2 h2 => K H locs ls2 hP hD hS h2)
theorem r_istore (C : Cx z A l rm cc nL own) {x : Int32} {lv' : List (Nat × Value)} (i : Nat) (hd : decode cc pc = .ok (.istore i, 2)) (hn : i < nL) (hl : (i, Value.int x) :: lv.filter (fun q => !(q.1 == i) && !(q.1 + 1 == i && q.2.category == 2)) = lv') (K : G z D A nL ws ce sl (pc + 2) lv' st) : G z D A nL ws ce sl pc lv (.int x :: st) := fun H locs ls hP hD hS hl1 => lv_istore C.hx C.hb hd hl1 hn hl (fun ls2 h2 => K H locs ls2 hP hD hS h2)
theorem r_lload_n (C : Cx z A l rm cc nL own) {n : Fin 4} {x : Int64} (hd : decode cc pc = .ok (.lload_n n, 1)) (k : Nat) (hk : lv[k]? = some ((n : Nat), .long x)) (K : G z D A nL ws ce sl (pc + 1) lv (.long x :: st)) : G z D A nL ws ce sl pc lv st := fun H locs ls hP hD hS hl => lv_lload_n C.hx C.hb hd rfl (lv_at hl k hk) (K H locs ls hP hD hS hl)
theorem r_lload (C : Cx z A l rm cc nL own) {n : Nat} {x : Int64} (hd : decode cc pc = .ok (.lload n, 2)) (k : Nat) (hk : lv[k]? = some (n, .long x)) (K : G z D A nL ws ce sl (pc + 2) lv (.long x :: st)) : G z D A nL ws ce sl pc lv st := fun H locs ls hP hD hS hl => lv_lload C.hx C.hb hd (lv_at hl k hk) (K H locs ls hP hD hS hl)
theorem r_lstore_n (C : Cx z A l rm cc nL own) {n : Fin 4} {x : Int64} {lv' : List (Nat × Value)} (i : Nat) (hd : decode cc pc = .ok (.lstore_n n, 1)) (hi : (n : Nat) = i) (hn : i + 1 < nL) (hl : (i, Value.long x) :: lv.filter (fun q => !(q.1 == i) && (!(q.1 == i + 1) && !(q.1 + 1 == i && q.2.category == 2))) = lv') (K : G z D A nL ws ce sl (pc + 1) lv' st) : G z D A nL ws ce sl pc lv (.long x :: st) := fun H locs ls hP hD hS hl1 => lv_lstore_n C.hx C.hb hd hi hl1 hn hl (fun ls2 h2 => K H locs ls2 hP hD hS h2)
theorem r_lstore (C : Cx z A l rm cc nL own) {x : Int64} {lv' : List (Nat × Value)} (i : Nat) (hd : decode cc pc = .ok (.lstore i, 2)) (hn : i + 1 < nL) (hl : (i, Value.long x) :: lv.filter (fun q => !(q.1 == i) && (!(q.1 == i + 1) && !(q.1 + 1 == i && q.2.category == 2))) = lv') (K : G z D A nL ws ce sl (pc + 2) lv' st) : G z D A nL ws ce sl pc lv (.long x :: st) := fun H locs ls hP hD hS hl1 => lv_lstore C.hx C.hb hd hl1 hn hl (fun ls2 h2 => K H locs ls2 hP hD hS h2)
theorem r_aload_n (C : Cx z A l rm cc nL own) {n : Fin 4} {x : Nat} (hd : decode cc pc = .ok (.aload_n n, 1)) (k : Nat) (hk : lv[k]? = some ((n : Nat), .ref x)) (K : G z D A nL ws ce sl (pc + 1) lv (.ref x :: st)) : G z D A nL ws ce sl pc lv st := fun H locs ls hP hD hS hl => lv_aload_n C.hx C.hb hd rfl (lv_at hl k hk) (K H locs ls hP hD hS hl)
theorem r_aload (C : Cx z A l rm cc nL own) {n : Nat} {x : Nat} (hd : decode cc pc = .ok (.aload n, 2)) (k : Nat) (hk : lv[k]? = some (n, .ref x)) (K : G z D A nL ws ce sl (pc + 2) lv (.ref x :: st)) : G z D A nL ws ce sl pc lv st := fun H locs ls hP hD hS hl => lv_aload C.hx C.hb hd (lv_at hl k hk) (K H locs ls hP hD hS hl)
theorem r_astore_n (C : Cx z A l rm cc nL own) {n : Fin 4} {x : Nat} {lv' : List (Nat × Value)} (i : Nat) (hd : decode cc pc = .ok (.astore_n n, 1)) (hi : (n : Nat) = i) (hn : i < nL) (hl : (i, Value.ref x) :: lv.filter (fun q => !(q.1 == i) && !(q.1 + 1 == i && q.2.category == 2)) = lv') (K : G z D A nL ws ce sl (pc + 1) lv' st) : G z D A nL ws ce sl pc lv (.ref x :: st) := fun H locs ls hP hD hS hl1 => lv_astore_n C.hx C.hb hd hi hl1 hn hl (fun ls2 h2 => K H locs ls2 hP hD hS h2)
theorem r_astore (C : Cx z A l rm cc nL own) {x : Nat} {lv' : List (Nat × Value)} (i : Nat) (hd : decode cc pc = .ok (.astore i, 2)) (hn : i < nL) (hl : (i, Value.ref x) :: lv.filter (fun q => !(q.1 == i) && !(q.1 + 1 == i && q.2.category == 2)) = lv') (K : G z D A nL ws ce sl (pc + 2) lv' st) : G z D A nL ws ce sl pc lv (.ref x :: st) := fun H locs ls hP hD hS hl1 => lv_astore C.hx C.hb hd hl1 hn hl (fun ls2 h2 => K H locs ls2 hP hD hS h2)
theorem r_iinc (C : Cx z A l rm cc nL own) {n : Int} {x v : Int32} {lv' : List (Nat × Value)} (i k : Nat) (hd : decode cc pc = .ok (.iinc i n, 3)) (hk : lv[k]? = some (i, .int x)) (hv : x + Int32.ofInt n = v) (hn : i < nL) (hl : (i, Value.int v) :: lv.filter (fun q => !(q.1 == i) && !(q.1 + 1 == i && q.2.category == 2)) = lv') (K : G z D A nL ws ce sl (pc + 3) lv' st) : G z D A nL ws ce sl pc lv st := fun H locs ls hP hD hS hl1 => lv_iinc C.hx C.hb hd hl1 hk hv hn hl (fun ls2 h2 => K H locs ls2 hP hD hS h2)
theorem r_dup (C : Cx z A l rm cc nL own) {va : Value} (hd : decode cc pc = .ok (.dup, 1)) (hc : va.category = 1) (K : G z D A nL ws ce sl (pc + 1) lv (va :: va :: st)) : G z D A nL ws ce sl pc lv (va :: st) := fun H locs ls hP hD hS hl => lv_dup C.hx C.hb hd hc (K H locs ls hP hD hS hl)
theorem r_dup2l (C : Cx z A l rm cc nL own) {va : Value} (hd : decode cc pc = .ok (.dup2, 1)) (hc : va.category = 2) (K : G z D A nL ws ce sl (pc + 1) lv (va :: va :: st)) : G z D A nL ws ce sl pc lv (va :: st) := fun H locs ls hP hD hS hl => lv_dup2_2 C.hx C.hb hd hc (K H locs ls hP hD hS hl)
theorem r_dup2 (C : Cx z A l rm cc nL own) {va vb : Value} (hd : decode cc pc = .ok (.dup2, 1)) (hc : va.category = 1) (hc2 : vb.category = 1) (K : G z D A nL ws ce sl (pc + 1) lv (va :: vb :: va :: vb :: st)) : G z D A nL ws ce sl pc lv (va :: vb :: st) := fun H locs ls hP hD hS hl => lv_dup2_11 C.hx C.hb hd hc hc2 (K H locs ls hP hD hS hl)
theorem r_dup_x1 (C : Cx z A l rm cc nL own) {va vb : Value} (hd : decode cc pc = .ok (.dup_x1, 1)) (hc : va.category = 1) (hc2 : vb.category = 1) (K : G z D A nL ws ce sl (pc + 1) lv (va :: vb :: va :: st)) : G z D A nL ws ce sl pc lv (va :: vb :: st) := fun H locs ls hP hD hS hl => lv_dup_x1 C.hx C.hb hd hc hc2 (K H locs ls hP hD hS hl)
theorem r_dup_x2 (C : Cx z A l rm cc nL own) {va vb vd : Value} (hd : decode cc pc = .ok (.dup_x2, 1)) (hc : va.category = 1) (hc2 : vb.category = 1) (hc3 : vd.category = 1) (K : G z D A nL ws ce sl (pc + 1) lv (va :: vb :: vd :: va :: st)) : G z D A nL ws ce sl pc lv (va :: vb :: vd :: st) := fun H locs ls hP hD hS hl => lv_dup_x2 C.hx C.hb hd hc hc2 hc3 (K H locs ls hP hD hS hl)
theorem r_pop (C : Cx z A l rm cc nL own) {va : Value} (hd : decode cc pc = .ok (.pop, 1)) (hc : va.category = 1) (K : G z D A nL ws ce sl (pc + 1) lv (st)) : G z D A nL ws ce sl pc lv (va :: st) := fun H locs ls hP hD hS hl => lv_pop C.hx C.hb hd hc (K H locs ls hP hD hS hl)
theorem r_pop2l (C : Cx z A l rm cc nL own) {va : Value} (hd : decode cc pc = .ok (.pop2, 1)) (hc : va.category = 2) (K : G z D A nL ws ce sl (pc + 1) lv (st)) : G z D A nL ws ce sl pc lv (va :: st) := fun H locs ls hP hD hS hl => lv_pop2_2 C.hx C.hb hd hc (K H locs ls hP hD hS hl)
theorem r_goto (C : Cx z A l rm cc nL own) {off : Int} (tgt : Nat) (hd : decode cc pc = .ok (.goto off, 3)) (ht : (pc : Int) + off = (tgt : Int)) (K : G z D A nL ws ce sl tgt lv st) : G z D A nL ws ce sl pc lv st := fun H locs ls hP hD hS hl => lv_goto C.hx C.hb hd ht (K H locs ls hP hD hS hl)
theorem r_if_eq (C : Cx z A l rm cc nL own) {x : Int32} {P : Prop} {off : Int} (tgt : Nat) (hd : decode cc pc = .ok (.ifCond .eq off, 3)) (ht : (pc : Int) + off = (tgt : Int)) (hc : (x = 0) ↔ P) (kt : P → G z D A nL ws ce sl tgt lv st) (kf : ¬ P → G z D A nL ws ce sl (pc + 3) lv st) : G z D A nL ws ce sl pc lv (.int x :: st) := fun H locs ls hP hD hS hl => lv_if_eq C.hx C.hb hd ht (fun h => kt (hc.mp h) H locs ls hP hD hS hl) (fun h => kf (fun q => h (hc.mpr q)) H locs ls hP hD hS hl)
theorem r_icmp_eq (C : Cx z A l rm cc nL own) {x y : Int32} {P : Prop} {off : Int} (tgt : Nat) (hd : decode cc pc = .ok (.if_icmp .eq off, 3)) (ht : (pc : Int) + off = (tgt : Int)) (hc : (x = y) ↔ P) (kt : P → G z D A nL ws ce sl tgt lv st) (kf : ¬ P → G z D A nL ws ce sl (pc + 3) lv st) : G z D A nL ws ce sl pc lv (.int y :: .int x :: st) := fun H locs ls hP hD hS hl => lv_icmp_eq C.hx C.hb hd ht (fun h => kt (hc.mp h) H locs ls hP hD hS hl) (fun h => kf (fun q => h (hc.mpr q)) H locs ls hP hD hS hl)
theorem r_if_ne (C : Cx z A l rm cc nL own) {x : Int32} {P : Prop} {off : Int} (tgt : Nat) (hd : decode cc pc = .ok (.ifCond .ne off, 3)) (ht : (pc : Int) + off = (tgt : Int)) (hc : (¬ x = 0) ↔ P) (kt : P → G z D A nL ws ce sl tgt lv st) (kf : ¬ P → G z D A nL ws ce sl (pc + 3) lv st) : G z D A nL ws ce sl pc lv (.int x :: st) := fun H locs ls hP hD hS hl => lv_if_ne C.hx C.hb hd ht (fun h => kt (hc.mp h) H locs ls hP hD hS hl) (fun h => kf (fun q => hc.mpr q h) H locs ls hP hD hS hl)
theorem r_icmp_ne (C : Cx z A l rm cc nL own) {x y : Int32} {P : Prop} {off : Int} (tgt : Nat) (hd : decode cc pc = .ok (.if_icmp .ne off, 3)) (ht : (pc : Int) + off = (tgt : Int)) (hc : (¬ x = y) ↔ P) (kt : P → G z D A nL ws ce sl tgt lv st) (kf : ¬ P → G z D A nL ws ce sl (pc + 3) lv st) : G z D A nL ws ce sl pc lv (.int y :: .int x :: st) := fun H locs ls hP hD hS hl => lv_icmp_ne C.hx C.hb hd ht (fun h => kt (hc.mp h) H locs ls hP hD hS hl) (fun h => kf (fun q => hc.mpr q h) H locs ls hP hD hS hl)
theorem r_if_lt (C : Cx z A l rm cc nL own) {x : Int32} {P : Prop} {off : Int} (tgt : Nat) (hd : decode cc pc = .ok (.ifCond .lt off, 3)) (ht : (pc : Int) + off = (tgt : Int)) (hc : (x < 0) ↔ P) (kt : P → G z D A nL ws ce sl tgt lv st) (kf : ¬ P → G z D A nL ws ce sl (pc + 3) lv st) : G z D A nL ws ce sl pc lv (.int x :: st) := fun H locs ls hP hD hS hl => lv_if_lt C.hx C.hb hd ht (fun h => kt (hc.mp h) H locs ls hP hD hS hl) (fun h => kf (fun q => h (hc.mpr q)) H locs ls hP hD hS hl)
theorem r_icmp_lt (C : Cx z A l rm cc nL own) {x y : Int32} {P : Prop} {off : Int} (tgt : Nat) (hd : decode cc pc = .ok (.if_icmp .lt off, 3)) (ht : (pc : Int) + off = (tgt : Int)) (hc : (x < y) ↔ P) (kt : P → G z D A nL ws ce sl tgt lv st) (kf : ¬ P → G z D A nL ws ce sl (pc + 3) lv st) : G z D A nL ws ce sl pc lv (.int y :: .int x :: st) := fun H locs ls hP hD hS hl => lv_icmp_lt C.hx C.hb hd ht (fun h => kt (hc.mp h) H locs ls hP hD hS hl) (fun h => kf (fun q => h (hc.mpr q)) H locs ls hP hD hS hl)
theorem r_if_ge (C : Cx z A l rm cc nL own) {x : Int32} {P : Prop} {off : Int} (tgt : Nat) (hd : decode cc pc = .ok (.ifCond .ge off, 3)) (ht : (pc : Int) + off = (tgt : Int)) (hc : (0 ≤ x) ↔ P) (kt : P → G z D A nL ws ce sl tgt lv st) (kf : ¬ P → G z D A nL ws ce sl (pc + 3) lv st) : G z D A nL ws ce sl pc lv (.int x :: st) := fun H locs ls hP hD hS hl => lv_if_ge C.hx C.hb hd ht (fun h => kt (hc.mp h) H locs ls hP hD hS hl) (fun h => kf (fun q => h (hc.mpr q)) H locs ls hP hD hS hl)
theorem r_icmp_ge (C : Cx z A l rm cc nL own) {x y : Int32} {P : Prop} {off : Int} (tgt : Nat) (hd : decode cc pc = .ok (.if_icmp .ge off, 3)) (ht : (pc : Int) + off = (tgt : Int)) (hc : (y ≤ x) ↔ P) (kt : P → G z D A nL ws ce sl tgt lv st) (kf : ¬ P → G z D A nL ws ce sl (pc + 3) lv st) : G z D A nL ws ce sl pc lv (.int y :: .int x :: st) := fun H locs ls hP hD hS hl => lv_icmp_ge C.hx C.hb hd ht (fun h => kt (hc.mp h) H locs ls hP hD hS hl) (fun h => kf (fun q => h (hc.mpr q)) H locs ls hP hD hS hl)
theorem r_if_gt (C : Cx z A l rm cc nL own) {x : Int32} {P : Prop} {off : Int} (tgt : Nat) (hd : decode cc pc = .ok (.ifCond .gt off, 3)) (ht : (pc : Int) + off = (tgt : Int)) (hc : (0 < x) ↔ P) (kt : P → G z D A nL ws ce sl tgt lv st) (kf : ¬ P → G z D A nL ws ce sl (pc + 3) lv st) : G z D A nL ws ce sl pc lv (.int x :: st) := fun H locs ls hP hD hS hl => lv_if_gt C.hx C.hb hd ht (fun h => kt (hc.mp h) H locs ls hP hD hS hl) (fun h => kf (fun q => h (hc.mpr q)) H locs ls hP hD hS hl)
theorem r_icmp_gt (C : Cx z A l rm cc nL own) {x y : Int32} {P : Prop} {off : Int} (tgt : Nat) (hd : decode cc pc = .ok (.if_icmp .gt off, 3)) (ht : (pc : Int) + off = (tgt : Int)) (hc : (y < x) ↔ P) (kt : P → G z D A nL ws ce sl tgt lv st) (kf : ¬ P → G z D A nL ws ce sl (pc + 3) lv st) : G z D A nL ws ce sl pc lv (.int y :: .int x :: st) := fun H locs ls hP hD hS hl => lv_icmp_gt C.hx C.hb hd ht (fun h => kt (hc.mp h) H locs ls hP hD hS hl) (fun h => kf (fun q => h (hc.mpr q)) H locs ls hP hD hS hl)
theorem r_if_le (C : Cx z A l rm cc nL own) {x : Int32} {P : Prop} {off : Int} (tgt : Nat) (hd : decode cc pc = .ok (.ifCond .le off, 3)) (ht : (pc : Int) + off = (tgt : Int)) (hc : (x ≤ 0) ↔ P) (kt : P → G z D A nL ws ce sl tgt lv st) (kf : ¬ P → G z D A nL ws ce sl (pc + 3) lv st) : G z D A nL ws ce sl pc lv (.int x :: st) := fun H locs ls hP hD hS hl => lv_if_le C.hx C.hb hd ht (fun h => kt (hc.mp h) H locs ls hP hD hS hl) (fun h => kf (fun q => h (hc.mpr q)) H locs ls hP hD hS hl)
theorem r_icmp_le (C : Cx z A l rm cc nL own) {x y : Int32} {P : Prop} {off : Int} (tgt : Nat) (hd : decode cc pc = .ok (.if_icmp .le off, 3)) (ht : (pc : Int) + off = (tgt : Int)) (hc : (x ≤ y) ↔ P) (kt : P → G z D A nL ws ce sl tgt lv st) (kf : ¬ P → G z D A nL ws ce sl (pc + 3) lv st) : G z D A nL ws ce sl pc lv (.int y :: .int x :: st) := fun H locs ls hP hD hS hl => lv_icmp_le C.hx C.hb hd ht (fun h => kt (hc.mp h) H locs ls hP hD hS hl) (fun h => kf (fun q => h (hc.mpr q)) H locs ls hP hD hS hl)
end BASE
end
section
section ROWS
variable {z : Zt} {D : va_G} {A : Nat → Prop} {nL : Nat} {ws : va_W} {ce sl pc : Nat} {lv : List (Nat × Value)} {st : List Value} {l : Launch} {rm : Room} {cc : ByteArray} {own : String} {g : Gd} {μ μ' : Mm}
theorem r_get (C : Cx z A l rm cc nL own) (X : Kx z g A) {k ci n i : Nat} {T : u_T} {N : Nat} {R : String} {fs : List Value} {v : Value} (hk : k < 132) (he : WF g μ k = .inr (ci, fs)) (hc : vwCl[ci]? = some (R, T, N)) (hin : ∀ w ∈ u_ws R T N, w ∈ gw) (hn : n < N) (hT : (T n).1 = R) (hw : Cond.fieldLink own i R (T n).2.1 (T n).2.2.1 ∈ gw) (hv : fs[n]? = some v) (hd : decode cc pc = .ok (.getfield i, 3)) (K : G z g.1 A nL (wd g μ) ce sl (pc + 3) lv (v :: st)) : G z g.1 A nL (wd g μ) ce sl pc lv (.ref (ad g k) :: st) :=
  fun H locs ls hP hD hS hl => va_get C.hx C.hb C.hts hin C.hown X.1 hP k (wd_at hk he) hc n hn (C.hts _ hw) (fun x h => by rw [hT] at h; exact h) hv hd (K H locs ls hP hD hS hl)
theorem r_put (C : Cx z A l rm cc nL own) (X : Kx z g A) {k ci n i : Nat} {T : u_T} {N : Nat} {R : String} {fs : List Value} {v : Value} {ty : FieldType} {ty0 : Nat → FieldType} (hk : k < 132) (he : WF g μ k = .inr (ci, fs)) (hc : vwCl[ci]? = some (R, T, N)) (hin : ∀ w ∈ u_ws R T N, w ∈ gw) (hty : ∀ k, k < N → parseFieldDescriptor (T k).2.2.1 = some (ty0 k)) (hnm : ∀ a, a < N → ∀ b, b < N → a ≠ b → (T a).2.1 ≠ (T b).2.1) (hn : n < N) (hT : (T n).1 = R) (hw : Cond.fieldLink own i R (T n).2.1 (T n).2.2.1 ∈ gw) (hfin : (T n).2.2.2 = false) (hpd : parseFieldDescriptor (T n).2.2.1 = some ty) (hnr : narrow ty v = v) (hfit : fits ty v = true) (hlen : n < fs.length) (hd : decode cc pc = .ok (.putfield i, 3)) (he' : WF g μ' k = .inr (ci, fs.set n v)) (hne : ∀ j, j < 132 → j ≠ k → WF g μ' j = WF g μ j) (K : G z g.1 A nL (wd g μ') ce sl (pc + 3) lv st) : G z g.1 A nL (wd g μ) ce sl pc lv (v :: .ref (ad g k) :: st) :=
  fun H locs ls hP hD hS hl => va_put C.hx C.hb C.hts hin ty0 hty hnm C.hown X.1 hP hD hS k (wd_at hk he) hc n hn (C.hts _ hw) (fun x h => by rw [hT] at h; exact h) hfin hpd hnr hfit hlen hd (fun H1 locs1 hP1 hD1 hS1 => by rw [wd_set hk he' hne] at hP1 hD1; exact K H1 locs1 ls hP1 hD1 hS1 hl)
theorem r_iald (C : Cx z A l rm cc nL own) (X : Kx z g A) {k n j : Nat} {f : Nat → Int32} {v : Int32} (hk : k < 132) (he : WF g μ k = iR g 1 n f) (hj : j < n) (hb31 : n < 2 ^ 31) (hv : f j = v) (hd : decode cc pc = .ok (.iaload, 1)) (K : G z g.1 A nL (wd g μ) ce sl (pc + 1) lv (.int v :: st)) : G z g.1 A nL (wd g μ) ce sl pc lv (.int (nI j) :: .ref (ad g k) :: st) :=
  fun H locs ls hP hD hS hl => va_iald C.hx C.hb X.1 hP k 1 (wd_at hk he) rfl (vp_in_nI hj hb31) hd (by rw [nI_clamp (Nat.lt_trans hj hb31), hv]; exact K H locs ls hP hD hS hl)
theorem r_bald (C : Cx z A l rm cc nL own) (X : Kx z g A) {k n j : Nat} {f : Nat → Int32} {v : Int32} (hk : k < 132) (he : WF g μ k = iR g 0 n f) (hj : j < n) (hb31 : n < 2 ^ 31) (hv : f j = v) (hd : decode cc pc = .ok (.baload, 1)) (K : G z g.1 A nL (wd g μ) ce sl (pc + 1) lv (.int v :: st)) : G z g.1 A nL (wd g μ) ce sl pc lv (.int (nI j) :: .ref (ad g k) :: st) :=
  fun H locs ls hP hD hS hl => va_bald C.hx C.hb X.1 hP k 0 (wd_at hk he) rfl (vp_in_nI hj hb31) hd (by rw [nI_clamp (Nat.lt_trans hj hb31), hv]; exact K H locs ls hP hD hS hl)
theorem r_zald (C : Cx z A l rm cc nL own) (X : Kx z g A) {k n j : Nat} {f : Nat → Int32} {v : Int32} (hk : k < 132) (he : WF g μ k = iR g 3 n f) (hj : j < n) (hb31 : n < 2 ^ 31) (hv : f j = v) (hd : decode cc pc = .ok (.baload, 1)) (K : G z g.1 A nL (wd g μ) ce sl (pc + 1) lv (.int v :: st)) : G z g.1 A nL (wd g μ) ce sl pc lv (.int (nI j) :: .ref (ad g k) :: st) :=
  fun H locs ls hP hD hS hl => va_zald C.hx C.hb X.1 hP k 3 (wd_at hk he) rfl (vp_in_nI hj hb31) hd (by rw [nI_clamp (Nat.lt_trans hj hb31), hv]; exact K H locs ls hP hD hS hl)
theorem r_lald (C : Cx z A l rm cc nL own) (X : Kx z g A) {k n j : Nat} {f : Nat → Int64} {v : Int64} (hk : k < 132) (he : WF g μ k = jR g n f) (hj : j < n) (hb31 : n < 2 ^ 31) (hv : f j = v) (hd : decode cc pc = .ok (.laload, 1)) (K : G z g.1 A nL (wd g μ) ce sl (pc + 1) lv (.long v :: st)) : G z g.1 A nL (wd g μ) ce sl pc lv (.int (nI j) :: .ref (ad g k) :: st) :=
  fun H locs ls hP hD hS hl => va_lald C.hx C.hb X.1 hP k 2 (wd_at hk he) rfl (vp_in_nI hj hb31) hd (by rw [nI_clamp (Nat.lt_trans hj hb31), hv]; exact K H locs ls hP hD hS hl)
theorem r_aald (C : Cx z A l rm cc nL own) (X : Kx z g A) {k n b j : Nat} (hk : k < 132) (he : WF g μ k = aR g n b) (hj : j < n) (hb31 : n < 2 ^ 31) (hd : decode cc pc = .ok (.aaload, 1)) (K : G z g.1 A nL (wd g μ) ce sl (pc + 1) lv (.ref (ad g (fo (b + j))) :: st)) : G z g.1 A nL (wd g μ) ce sl pc lv (.int (nI j) :: .ref (ad g k) :: st) :=
  fun H locs ls hP hD hS hl => va_aldq C.hx C.hb X.1 hP k 4 (wd_at hk he) rfl (vp_in_nI hj hb31) hd (by rw [nI_clamp (Nat.lt_trans hj hb31)]; exact K H locs ls hP hD hS hl)
theorem r_alen (C : Cx z A l rm cc nL own) (X : Kx z g A) {k t n : Nat} {ty : FieldType} {x : vp_A} {cA : ClassId} (hk : k < 132) (he : WF g μ k = .inl (cA, x)) (ht : (tys g)[t]? = some (cA, ty)) (hx : x.1 = n) (hd : decode cc pc = .ok (.arraylength, 1)) (K : G z g.1 A nL (wd g μ) ce sl (pc + 1) lv (.int (nI n) :: st)) : G z g.1 A nL (wd g μ) ce sl pc lv (.ref (ad g k) :: st) :=
  fun H locs ls hP hD hS hl => va_alen C.hx C.hb X.1 hP k t (wd_at hk he) ht (by rw [hx]; rfl) hd (K H locs ls hP hD hS hl)
theorem r_iast (C : Cx z A l rm cc nL own) (X : Kx z g A) {k n j : Nat} {f f' : Nat → Int32} {x : Int32} (hk : k < 132) (he : WF g μ k = iR g 1 n f) (hj : j < n) (hb31 : n < 2 ^ 31) (hf : upd f j (x) = f') (hd : decode cc pc = .ok (.iastore, 1)) (he' : WF g μ' k = iR g 1 n f') (hne : ∀ i, i < 132 → i ≠ k → WF g μ' i = WF g μ i) (K : G z g.1 A nL (wd g μ') ce sl (pc + 1) lv st) : G z g.1 A nL (wd g μ) ce sl pc lv (.int x :: .int (nI j) :: .ref (ad g k) :: st) :=
  fun H locs ls hP hD hS hl => va_iast C.hx C.hb X.1 hP hD hS k 1 (wd_at hk he) rfl (vp_in_nI hj hb31) hd (fun H1 locs1 hP1 hD1 hS1 => by rw [nI_clamp (Nat.lt_trans hj hb31), hf] at hP1 hD1; rw [wd_set hk he' hne] at hP1 hD1; exact K H1 locs1 ls hP1 hD1 hS1 hl)
theorem r_bast (C : Cx z A l rm cc nL own) (X : Kx z g A) {k n j : Nat} {f f' : Nat → Int32} {x : Int32} (hk : k < 132) (he : WF g μ k = iR g 0 n f) (hj : j < n) (hb31 : n < 2 ^ 31) (hf : upd f j (vp_nar .byte x) = f') (hd : decode cc pc = .ok (.bastore, 1)) (he' : WF g μ' k = iR g 0 n f') (hne : ∀ i, i < 132 → i ≠ k → WF g μ' i = WF g μ i) (K : G z g.1 A nL (wd g μ') ce sl (pc + 1) lv st) : G z g.1 A nL (wd g μ) ce sl pc lv (.int x :: .int (nI j) :: .ref (ad g k) :: st) :=
  fun H locs ls hP hD hS hl => va_bast C.hx C.hb X.1 hP hD hS k 0 (wd_at hk he) rfl (vp_in_nI hj hb31) hd (fun H1 locs1 hP1 hD1 hS1 => by rw [nI_clamp (Nat.lt_trans hj hb31), hf] at hP1 hD1; rw [wd_set hk he' hne] at hP1 hD1; exact K H1 locs1 ls hP1 hD1 hS1 hl)
theorem r_zast (C : Cx z A l rm cc nL own) (X : Kx z g A) {k n j : Nat} {f f' : Nat → Int32} {x : Int32} (hk : k < 132) (he : WF g μ k = iR g 3 n f) (hj : j < n) (hb31 : n < 2 ^ 31) (hf : upd f j (vp_nar .boolean x) = f') (hd : decode cc pc = .ok (.bastore, 1)) (he' : WF g μ' k = iR g 3 n f') (hne : ∀ i, i < 132 → i ≠ k → WF g μ' i = WF g μ i) (K : G z g.1 A nL (wd g μ') ce sl (pc + 1) lv st) : G z g.1 A nL (wd g μ) ce sl pc lv (.int x :: .int (nI j) :: .ref (ad g k) :: st) :=
  fun H locs ls hP hD hS hl => va_zast C.hx C.hb X.1 hP hD hS k 3 (wd_at hk he) rfl (vp_in_nI hj hb31) hd (fun H1 locs1 hP1 hD1 hS1 => by rw [nI_clamp (Nat.lt_trans hj hb31), hf] at hP1 hD1; rw [wd_set hk he' hne] at hP1 hD1; exact K H1 locs1 ls hP1 hD1 hS1 hl)
theorem r_last (C : Cx z A l rm cc nL own) (X : Kx z g A) {k n j : Nat} {f f' : Nat → Int64} {x : Int64} (hk : k < 132) (he : WF g μ k = jR g n f) (hj : j < n) (hb31 : n < 2 ^ 31) (hf : vp_updL f j x = f') (hd : decode cc pc = .ok (.lastore, 1)) (he' : WF g μ' k = jR g n f') (hne : ∀ i, i < 132 → i ≠ k → WF g μ' i = WF g μ i) (K : G z g.1 A nL (wd g μ') ce sl (pc + 1) lv st) : G z g.1 A nL (wd g μ) ce sl pc lv (.long x :: .int (nI j) :: .ref (ad g k) :: st) :=
  fun H locs ls hP hD hS hl => va_last C.hx C.hb X.1 hP hD hS k 2 (wd_at hk he) rfl (vp_in_nI hj hb31) hd (fun H1 locs1 hP1 hD1 hS1 => by rw [nI_clamp (Nat.lt_trans hj hb31), hf] at hP1 hD1; rw [wd_set hk he' hne] at hP1 hD1; exact K H1 locs1 ls hP1 hD1 hS1 hl)
/-! the memory's changes leave the other cells -/
theorem WF_sJ_fw (g : Gd) (μ : Mm) (i : Nat) (f : Nat → Int64) : WF g (sJ μ i f) (fw i) = jR g 16 f := by rw [WF_fw, gJ_s]
theorem WF_sJ_ne (g : Gd) (μ : Mm) {i : Nat} (hi : i < 52) (f : Nat → Int64) : ∀ j, j < 132 → j ≠ fw i → WF g (sJ μ i f) j = WF g μ j := by
  intro j hj hn
  unfold fw at hn
  match j, hn with
  | 0, _ | 1, _ | 2, _ | 3, _ | 4, _ | 5, _ | 6, _ | 7, _ | 8, _ | 9, _ | 10, _ | 11, _ | 12, _ | 13, _ | 14, _ | 15, _ | 16, _ | 18, _ | 19, _ | 20, _ | 21, _ | 22, _ | 23, _ | 24, _ | 25, _ | 26, _ => rfl
  | 17, _ => show jR g 11 _ = jR g 11 _; rw [gJ_n μ f (by omega)]
  | 27, _ => show jR g 1 _ = jR g 1 _; rw [gJ_n μ f (by omega)]
  | n + 28, hn =>
    show (if n % 2 = 0 then _ else _) = (if n % 2 = 0 then _ else _)
    by_cases h : n % 2 = 0
    · rw [if_pos h, if_pos h]
    · rw [if_neg h, if_neg h, gJ_n μ f (by omega)]

theorem WF_sJ52_ne (g : Gd) (μ : Mm) (f : Nat → Int64) : ∀ j, j < 132 → j ≠ 17 → WF g (sJ μ 52 f) j = WF g μ j := by
  intro j hj hn
  match j, hn with
  | 0, _ | 1, _ | 2, _ | 3, _ | 4, _ | 5, _ | 6, _ | 7, _ | 8, _ | 9, _ | 10, _ | 11, _ | 12, _ | 13, _ | 14, _ | 15, _ | 16, _ | 18, _ | 19, _ | 20, _ | 21, _ | 22, _ | 23, _ | 24, _ | 25, _ | 26, _ => rfl
  | 17, hn => exact absurd rfl hn
  | 27, _ => rfl
  | n + 28, hn =>
    show (if n % 2 = 0 then _ else _) = (if n % 2 = 0 then _ else _)
    by_cases h : n % 2 = 0
    · rw [if_pos h, if_pos h]
    · rw [if_neg h, if_neg h, gJ_n μ f (by omega)]
theorem WF_sJ53_ne (g : Gd) (μ : Mm) (f : Nat → Int64) : ∀ j, j < 132 → j ≠ 27 → WF g (sJ μ 53 f) j = WF g μ j := by
  intro j hj hn
  match j, hn with
  | 0, _ | 1, _ | 2, _ | 3, _ | 4, _ | 5, _ | 6, _ | 7, _ | 8, _ | 9, _ | 10, _ | 11, _ | 12, _ | 13, _ | 14, _ | 15, _ | 16, _ | 18, _ | 19, _ | 20, _ | 21, _ | 22, _ | 23, _ | 24, _ | 25, _ | 26, _ => rfl
  | 27, hn => exact absurd rfl hn
  | 17, _ => rfl
  | n + 28, hn =>
    show (if n % 2 = 0 then _ else _) = (if n % 2 = 0 then _ else _)
    by_cases h : n % 2 = 0
    · rw [if_pos h, if_pos h]
    · rw [if_neg h, if_neg h, gJ_n μ f (by omega)]
theorem WF_sA0_ne (g : Gd) (μ : Mm) (f : Nat → Int32) : ∀ j, j < 132 → j ≠ 4 → WF g (sA μ 0 f) j = WF g μ j := by
  intro j hj hn
  match j, hn with
  | 0, _ | 1, _ | 2, _ | 3, _ | 5, _ | 6, _ | 7, _ | 8, _ | 9, _ | 10, _ | 11, _ | 12, _ | 13, _ | 14, _ | 15, _ | 16, _ | 17, _ | 18, _ | 19, _ | 20, _ | 21, _ | 22, _ | 23, _ | 24, _ | 25, _ | 26, _ | 27, _ => rfl
  | 4, hn => exact absurd rfl hn
  | n + 28, hn => rfl
theorem WF_sA1_ne (g : Gd) (μ : Mm) (f : Nat → Int32) : ∀ j, j < 132 → j ≠ 7 → WF g (sA μ 1 f) j = WF g μ j := by
  intro j hj hn
  match j, hn with
  | 0, _ | 1, _ | 2, _ | 3, _ | 4, _ | 5, _ | 6, _ | 8, _ | 9, _ | 10, _ | 11, _ | 12, _ | 13, _ | 14, _ | 15, _ | 16, _ | 17, _ | 18, _ | 19, _ | 20, _ | 21, _ | 22, _ | 23, _ | 24, _ | 25, _ | 26, _ | 27, _ => rfl
  | 7, hn => exact absurd rfl hn
  | n + 28, hn => rfl
theorem WF_sA2_ne (g : Gd) (μ : Mm) (f : Nat → Int32) : ∀ j, j < 132 → j ≠ 14 → WF g (sA μ 2 f) j = WF g μ j := by
  intro j hj hn
  match j, hn with
  | 0, _ | 1, _ | 2, _ | 3, _ | 4, _ | 5, _ | 6, _ | 7, _ | 8, _ | 9, _ | 10, _ | 11, _ | 12, _ | 13, _ | 15, _ | 16, _ | 17, _ | 18, _ | 19, _ | 20, _ | 21, _ | 22, _ | 23, _ | 24, _ | 25, _ | 26, _ | 27, _ => rfl
  | 14, hn => exact absurd rfl hn
  | n + 28, hn => rfl
theorem WF_sA3_ne (g : Gd) (μ : Mm) (f : Nat → Int32) : ∀ j, j < 132 → j ≠ 16 → WF g (sA μ 3 f) j = WF g μ j := by
  intro j hj hn
  match j, hn with
  | 0, _ | 1, _ | 2, _ | 3, _ | 4, _ | 5, _ | 6, _ | 7, _ | 8, _ | 9, _ | 10, _ | 11, _ | 12, _ | 13, _ | 14, _ | 15, _ | 17, _ | 18, _ | 19, _ | 20, _ | 21, _ | 22, _ | 23, _ | 24, _ | 25, _ | 26, _ | 27, _ => rfl
  | 16, hn => exact absurd rfl hn
  | n + 28, hn => rfl
theorem WF_sA4_ne (g : Gd) (μ : Mm) (f : Nat → Int32) : ∀ j, j < 132 → j ≠ 18 → WF g (sA μ 4 f) j = WF g μ j := by
  intro j hj hn
  match j, hn with
  | 0, _ | 1, _ | 2, _ | 3, _ | 4, _ | 5, _ | 6, _ | 7, _ | 8, _ | 9, _ | 10, _ | 11, _ | 12, _ | 13, _ | 14, _ | 15, _ | 16, _ | 17, _ | 19, _ | 20, _ | 21, _ | 22, _ | 23, _ | 24, _ | 25, _ | 26, _ | 27, _ => rfl
  | 18, hn => exact absurd rfl hn
  | n + 28, hn => rfl
theorem WF_sA5_ne (g : Gd) (μ : Mm) (f : Nat → Int32) : ∀ j, j < 132 → j ≠ 20 → WF g (sA μ 5 f) j = WF g μ j := by
  intro j hj hn
  match j, hn with
  | 0, _ | 1, _ | 2, _ | 3, _ | 4, _ | 5, _ | 6, _ | 7, _ | 8, _ | 9, _ | 10, _ | 11, _ | 12, _ | 13, _ | 14, _ | 15, _ | 16, _ | 17, _ | 18, _ | 19, _ | 21, _ | 22, _ | 23, _ | 24, _ | 25, _ | 26, _ | 27, _ => rfl
  | 20, hn => exact absurd rfl hn
  | n + 28, hn => rfl
theorem WF_sA6_ne (g : Gd) (μ : Mm) (f : Nat → Int32) : ∀ j, j < 132 → j ≠ 21 → WF g (sA μ 6 f) j = WF g μ j := by
  intro j hj hn
  match j, hn with
  | 0, _ | 1, _ | 2, _ | 3, _ | 4, _ | 5, _ | 6, _ | 7, _ | 8, _ | 9, _ | 10, _ | 11, _ | 12, _ | 13, _ | 14, _ | 15, _ | 16, _ | 17, _ | 18, _ | 19, _ | 20, _ | 22, _ | 23, _ | 24, _ | 25, _ | 26, _ | 27, _ => rfl
  | 21, hn => exact absurd rfl hn
  | n + 28, hn => rfl
theorem WF_sA7_ne (g : Gd) (μ : Mm) (f : Nat → Int32) : ∀ j, j < 132 → j ≠ 22 → WF g (sA μ 7 f) j = WF g μ j := by
  intro j hj hn
  match j, hn with
  | 0, _ | 1, _ | 2, _ | 3, _ | 4, _ | 5, _ | 6, _ | 7, _ | 8, _ | 9, _ | 10, _ | 11, _ | 12, _ | 13, _ | 14, _ | 15, _ | 16, _ | 17, _ | 18, _ | 19, _ | 20, _ | 21, _ | 23, _ | 24, _ | 25, _ | 26, _ | 27, _ => rfl
  | 22, hn => exact absurd rfl hn
  | n + 28, hn => rfl
theorem WF_sA8_ne (g : Gd) (μ : Mm) (f : Nat → Int32) : ∀ j, j < 132 → j ≠ 23 → WF g (sA μ 8 f) j = WF g μ j := by
  intro j hj hn
  match j, hn with
  | 0, _ | 1, _ | 2, _ | 3, _ | 4, _ | 5, _ | 6, _ | 7, _ | 8, _ | 9, _ | 10, _ | 11, _ | 12, _ | 13, _ | 14, _ | 15, _ | 16, _ | 17, _ | 18, _ | 19, _ | 20, _ | 21, _ | 22, _ | 24, _ | 25, _ | 26, _ | 27, _ => rfl
  | 23, hn => exact absurd rfl hn
  | n + 28, hn => rfl
theorem WF_sA9_ne (g : Gd) (μ : Mm) (f : Nat → Int32) : ∀ j, j < 132 → j ≠ 24 → WF g (sA μ 9 f) j = WF g μ j := by
  intro j hj hn
  match j, hn with
  | 0, _ | 1, _ | 2, _ | 3, _ | 4, _ | 5, _ | 6, _ | 7, _ | 8, _ | 9, _ | 10, _ | 11, _ | 12, _ | 13, _ | 14, _ | 15, _ | 16, _ | 17, _ | 18, _ | 19, _ | 20, _ | 21, _ | 22, _ | 23, _ | 25, _ | 26, _ | 27, _ => rfl
  | 24, hn => exact absurd rfl hn
  | n + 28, hn => rfl
theorem WF_sA10_ne (g : Gd) (μ : Mm) (f : Nat → Int32) : ∀ j, j < 132 → j ≠ 25 → WF g (sA μ 10 f) j = WF g μ j := by
  intro j hj hn
  match j, hn with
  | 0, _ | 1, _ | 2, _ | 3, _ | 4, _ | 5, _ | 6, _ | 7, _ | 8, _ | 9, _ | 10, _ | 11, _ | 12, _ | 13, _ | 14, _ | 15, _ | 16, _ | 17, _ | 18, _ | 19, _ | 20, _ | 21, _ | 22, _ | 23, _ | 24, _ | 26, _ | 27, _ => rfl
  | 25, hn => exact absurd rfl hn
  | n + 28, hn => rfl
theorem WF_sA11_ne (g : Gd) (μ : Mm) (f : Nat → Int32) : ∀ j, j < 132 → j ≠ 26 → WF g (sA μ 11 f) j = WF g μ j := by
  intro j hj hn
  match j, hn with
  | 0, _ | 1, _ | 2, _ | 3, _ | 4, _ | 5, _ | 6, _ | 7, _ | 8, _ | 9, _ | 10, _ | 11, _ | 12, _ | 13, _ | 14, _ | 15, _ | 16, _ | 17, _ | 18, _ | 19, _ | 20, _ | 21, _ | 22, _ | 23, _ | 24, _ | 25, _ | 27, _ => rfl
  | 26, hn => exact absurd rfl hn
  | n + 28, hn => rfl
theorem WF_sI0_ne (g : Gd) (μ : Mm) (f : Int32) : ∀ j, j < 132 → j ≠ 1 → WF g (sI μ 0 f) j = WF g μ j := by
  intro j hj hn
  match j, hn with
  | 0, _ | 2, _ | 3, _ | 4, _ | 5, _ | 6, _ | 7, _ | 8, _ | 9, _ | 10, _ | 11, _ | 12, _ | 13, _ | 14, _ | 15, _ | 16, _ | 17, _ | 18, _ | 19, _ | 20, _ | 21, _ | 22, _ | 23, _ | 24, _ | 25, _ | 26, _ | 27, _ => rfl
  | 1, hn => exact absurd rfl hn
  | n + 28, hn => rfl
theorem WF_sI1_ne (g : Gd) (μ : Mm) (f : Int32) : ∀ j, j < 132 → j ≠ 1 → WF g (sI μ 1 f) j = WF g μ j := by
  intro j hj hn
  match j, hn with
  | 0, _ | 2, _ | 3, _ | 4, _ | 5, _ | 6, _ | 7, _ | 8, _ | 9, _ | 10, _ | 11, _ | 12, _ | 13, _ | 14, _ | 15, _ | 16, _ | 17, _ | 18, _ | 19, _ | 20, _ | 21, _ | 22, _ | 23, _ | 24, _ | 25, _ | 26, _ | 27, _ => rfl
  | 1, hn => exact absurd rfl hn
  | n + 28, hn => rfl
theorem WF_sI2_ne (g : Gd) (μ : Mm) (f : Int32) : ∀ j, j < 132 → j ≠ 3 → WF g (sI μ 2 f) j = WF g μ j := by
  intro j hj hn
  match j, hn with
  | 0, _ | 1, _ | 2, _ | 4, _ | 5, _ | 6, _ | 7, _ | 8, _ | 9, _ | 10, _ | 11, _ | 12, _ | 13, _ | 14, _ | 15, _ | 16, _ | 17, _ | 18, _ | 19, _ | 20, _ | 21, _ | 22, _ | 23, _ | 24, _ | 25, _ | 26, _ | 27, _ => rfl
  | 3, hn => exact absurd rfl hn
  | n + 28, hn => rfl
theorem WF_sI3_ne (g : Gd) (μ : Mm) (f : Int32) : ∀ j, j < 132 → j ≠ 3 → WF g (sI μ 3 f) j = WF g μ j := by
  intro j hj hn
  match j, hn with
  | 0, _ | 1, _ | 2, _ | 4, _ | 5, _ | 6, _ | 7, _ | 8, _ | 9, _ | 10, _ | 11, _ | 12, _ | 13, _ | 14, _ | 15, _ | 16, _ | 17, _ | 18, _ | 19, _ | 20, _ | 21, _ | 22, _ | 23, _ | 24, _ | 25, _ | 26, _ | 27, _ => rfl
  | 3, hn => exact absurd rfl hn
  | n + 28, hn => rfl
theorem WF_sI4_ne (g : Gd) (μ : Mm) (f : Int32) : ∀ j, j < 132 → j ≠ 6 → WF g (sI μ 4 f) j = WF g μ j := by
  intro j hj hn
  match j, hn with
  | 0, _ | 1, _ | 2, _ | 3, _ | 4, _ | 5, _ | 7, _ | 8, _ | 9, _ | 10, _ | 11, _ | 12, _ | 13, _ | 14, _ | 15, _ | 16, _ | 17, _ | 18, _ | 19, _ | 20, _ | 21, _ | 22, _ | 23, _ | 24, _ | 25, _ | 26, _ | 27, _ => rfl
  | 6, hn => exact absurd rfl hn
  | n + 28, hn => rfl
theorem WF_sI5_ne (g : Gd) (μ : Mm) (f : Int32) : ∀ j, j < 132 → j ≠ 19 → WF g (sI μ 5 f) j = WF g μ j := by
  intro j hj hn
  match j, hn with
  | 0, _ | 1, _ | 2, _ | 3, _ | 4, _ | 5, _ | 6, _ | 7, _ | 8, _ | 9, _ | 10, _ | 11, _ | 12, _ | 13, _ | 14, _ | 15, _ | 16, _ | 17, _ | 18, _ | 20, _ | 21, _ | 22, _ | 23, _ | 24, _ | 25, _ | 26, _ | 27, _ => rfl
  | 19, hn => exact absurd rfl hn
  | n + 28, hn => rfl
theorem WF_sI6_ne (g : Gd) (μ : Mm) (f : Int32) : ∀ j, j < 132 → j ≠ 19 → WF g (sI μ 6 f) j = WF g μ j := by
  intro j hj hn
  match j, hn with
  | 0, _ | 1, _ | 2, _ | 3, _ | 4, _ | 5, _ | 6, _ | 7, _ | 8, _ | 9, _ | 10, _ | 11, _ | 12, _ | 13, _ | 14, _ | 15, _ | 16, _ | 17, _ | 18, _ | 20, _ | 21, _ | 22, _ | 23, _ | 24, _ | 25, _ | 26, _ | 27, _ => rfl
  | 19, hn => exact absurd rfl hn
  | n + 28, hn => rfl
theorem WF_sI7_ne (g : Gd) (μ : Mm) (f : Int32) : ∀ j, j < 132 → j ≠ 19 → WF g (sI μ 7 f) j = WF g μ j := by
  intro j hj hn
  match j, hn with
  | 0, _ | 1, _ | 2, _ | 3, _ | 4, _ | 5, _ | 6, _ | 7, _ | 8, _ | 9, _ | 10, _ | 11, _ | 12, _ | 13, _ | 14, _ | 15, _ | 16, _ | 17, _ | 18, _ | 20, _ | 21, _ | 22, _ | 23, _ | 24, _ | 25, _ | 26, _ | 27, _ => rfl
  | 19, hn => exact absurd rfl hn
  | n + 28, hn => rfl
theorem WF_sI8_ne (g : Gd) (μ : Mm) (f : Int32) : ∀ j, j < 132 → j ≠ 19 → WF g (sI μ 8 f) j = WF g μ j := by
  intro j hj hn
  match j, hn with
  | 0, _ | 1, _ | 2, _ | 3, _ | 4, _ | 5, _ | 6, _ | 7, _ | 8, _ | 9, _ | 10, _ | 11, _ | 12, _ | 13, _ | 14, _ | 15, _ | 16, _ | 17, _ | 18, _ | 20, _ | 21, _ | 22, _ | 23, _ | 24, _ | 25, _ | 26, _ | 27, _ => rfl
  | 19, hn => exact absurd rfl hn
  | n + 28, hn => rfl
theorem WF_sI9_ne (g : Gd) (μ : Mm) (f : Int32) : ∀ j, j < 132 → j ≠ 19 → WF g (sI μ 9 f) j = WF g μ j := by
  intro j hj hn
  match j, hn with
  | 0, _ | 1, _ | 2, _ | 3, _ | 4, _ | 5, _ | 6, _ | 7, _ | 8, _ | 9, _ | 10, _ | 11, _ | 12, _ | 13, _ | 14, _ | 15, _ | 16, _ | 17, _ | 18, _ | 20, _ | 21, _ | 22, _ | 23, _ | 24, _ | 25, _ | 26, _ | 27, _ => rfl
  | 19, hn => exact absurd rfl hn
  | n + 28, hn => rfl
theorem WF_sL0_ne (g : Gd) (μ : Mm) (f : Int64) : ∀ j, j < 132 → j ≠ 19 → WF g (sL μ 0 f) j = WF g μ j := by
  intro j hj hn
  match j, hn with
  | 0, _ | 1, _ | 2, _ | 3, _ | 4, _ | 5, _ | 6, _ | 7, _ | 8, _ | 9, _ | 10, _ | 11, _ | 12, _ | 13, _ | 14, _ | 15, _ | 16, _ | 17, _ | 18, _ | 20, _ | 21, _ | 22, _ | 23, _ | 24, _ | 25, _ | 26, _ | 27, _ => rfl
  | 19, hn => exact absurd rfl hn
  | n + 28, hn => rfl
theorem WF_sL1_ne (g : Gd) (μ : Mm) (f : Int64) : ∀ j, j < 132 → j ≠ 19 → WF g (sL μ 1 f) j = WF g μ j := by
  intro j hj hn
  match j, hn with
  | 0, _ | 1, _ | 2, _ | 3, _ | 4, _ | 5, _ | 6, _ | 7, _ | 8, _ | 9, _ | 10, _ | 11, _ | 12, _ | 13, _ | 14, _ | 15, _ | 16, _ | 17, _ | 18, _ | 20, _ | 21, _ | 22, _ | 23, _ | 24, _ | 25, _ | 26, _ | 27, _ => rfl
  | 19, hn => exact absurd rfl hn
  | n + 28, hn => rfl
theorem WF_sL2_ne (g : Gd) (μ : Mm) (f : Int64) : ∀ j, j < 132 → j ≠ 19 → WF g (sL μ 2 f) j = WF g μ j := by
  intro j hj hn
  match j, hn with
  | 0, _ | 1, _ | 2, _ | 3, _ | 4, _ | 5, _ | 6, _ | 7, _ | 8, _ | 9, _ | 10, _ | 11, _ | 12, _ | 13, _ | 14, _ | 15, _ | 16, _ | 17, _ | 18, _ | 20, _ | 21, _ | 22, _ | 23, _ | 24, _ | 25, _ | 26, _ | 27, _ => rfl
  | 19, hn => exact absurd rfl hn
  | n + 28, hn => rfl
/-! statics -/
theorem r_gLack (C : Cx z A l rm cc nL own) (X : Kx z g A) {i : Nat} (hw : Cond.fieldLink own i "SetFamilies$Family" "LACKING" "[J" ∈ gw) (hd : decode cc pc = .ok (.getstatic i, 3)) (K : G z g.1 A nL (wd g μ) ce sl (pc + 3) lv (.ref g.2.2.2.1 :: st)) : G z g.1 A nL (wd g μ) ce sl pc lv st :=
  fun H locs ls hP hD hS hl => va_gets C.hx C.hb X.2.1 hS C.hown (C.hts _ hw) (fun _ h => h) hd (K H locs ls hP hD hS hl)
theorem r_gSize (C : Cx z A l rm cc nL own) (X : Kx z g A) {i : Nat} (hw : Cond.fieldLink own i "SetFamilies$Family" "OF_SIZE" "[J" ∈ gw) (hd : decode cc pc = .ok (.getstatic i, 3)) (K : G z g.1 A nL (wd g μ) ce sl (pc + 3) lv (.ref g.2.2.2.2 :: st)) : G z g.1 A nL (wd g μ) ce sl pc lv st :=
  fun H locs ls hP hD hS hl => va_gets C.hx C.hb X.2.2.2.1 hS C.hown (C.hts _ hw) (fun _ h => h) hd (K H locs ls hP hD hS hl)
theorem r_lLack (C : Cx z A l rm cc nL own) (X : Kx z g A) {j : Nat} (hj : j < 6) (hd : decode cc pc = .ok (.laload, 1)) (K : G z g.1 A nL (wd g μ) ce sl (pc + 1) lv (.long (lackT j) :: st)) : G z g.1 A nL (wd g μ) ce sl pc lv (.int (nI j) :: .ref g.2.2.2.1 :: st) :=
  fun H locs ls hP hD hS hl => va_tl C.hx C.hb X.2.2.1 hS (vp_in_nI hj (by omega)) (by rw [nI_clamp (by omega)]) hd (K H locs ls hP hD hS hl)
theorem r_lSize (C : Cx z A l rm cc nL own) (X : Kx z g A) {j : Nat} (hj : j < 7) (hd : decode cc pc = .ok (.laload, 1)) (K : G z g.1 A nL (wd g μ) ce sl (pc + 1) lv (.long (sizeT j) :: st)) : G z g.1 A nL (wd g μ) ce sl pc lv (.int (nI j) :: .ref g.2.2.2.2 :: st) :=
  fun H locs ls hP hD hS hl => va_tl C.hx C.hb X.2.2.2.2.1 hS (vp_in_nI hj (by omega)) (by rw [nI_clamp (by omega)]) hd (K H locs ls hP hD hS hl)
theorem r_nLack (C : Cx z A l rm cc nL own) (X : Kx z g A) (hd : decode cc pc = .ok (.arraylength, 1)) (K : G z g.1 A nL (wd g μ) ce sl (pc + 1) lv (.int (nI 6) :: st)) : G z g.1 A nL (wd g μ) ce sl pc lv (.ref g.2.2.2.1 :: st) :=
  fun H locs ls hP hD hS hl => va_tlen C.hx C.hb X.2.2.1 hS rfl hd (K H locs ls hP hD hS hl)
theorem r_nSize (C : Cx z A l rm cc nL own) (X : Kx z g A) (hd : decode cc pc = .ok (.arraylength, 1)) (K : G z g.1 A nL (wd g μ) ce sl (pc + 1) lv (.int (nI 7) :: st)) : G z g.1 A nL (wd g μ) ce sl pc lv (.ref g.2.2.2.2 :: st) :=
  fun H locs ls hP hD hS hl => va_tlen C.hx C.hb X.2.2.2.2.1 hS rfl hd (K H locs ls hP hD hS hl)
/-! contracts: over the memory (Ct), over nothing (Cp) -/
def Qd (g : Gd) (rv : Option Value) (μ' : Mm) (sz : Nat) : Array Value → State → Outcome → State → Prop := fun _ st oc t => oc = .returned rv ∧ va_P g.1 vwCl (wd g μ') t.heap ∧ va_F (vA g sz) st t
def Pd (g : Gd) (μ : Mm) (sz : Nat) (U : State) : Prop := U.heap.size = sz ∧ va_P g.1 vwCl (wd g μ) U.heap ∧ va_D (fun _ => True) (wd g μ) ∧ va_K g.1 vwCl (tys g) U ∧ Sta g (vA g sz) U U.heap
def Ct (l : Launch) (y : MethodName) (cc : ByteArray) (nL : Nat) (rt : Option FieldType) (rm : Room) (g : Gd) (avs : List Value) (μ : Mm) (rv : Option Value) (μ' : Mm) : Prop :=
  ∀ sz : Nat, Met l y (Cond.code y cc nL rt :: gw) rm (va_Pc avs (Pd g μ sz)) (Qd g rv μ' sz) 0 0 (vA g sz)
def Qp (rv : Option Value) (sz : Nat) : Array Value → State → Outcome → State → Prop := fun _ st oc t => oc = .returned rv ∧ va_F (fun q => sz ≤ q) st t
def Cp (l : Launch) (y : MethodName) (cc : ByteArray) (nL : Nat) (rt : Option FieldType) (rm : Room) (avs : List Value) (rv : Option Value) : Prop :=
  ∀ sz : Nat, Met l y (Cond.code y cc nL rt :: gw) rm (va_Pc avs (fun U => U.heap.size = sz)) (Qp rv sz) 0 0 (fun q => sz ≤ q)
/-- a room without cells -/
abbrev rmk (f lo : Nat) : Room := { frames := f, cells := 0, slots := 0, locals := lo }
/-- how a method of this memory ends -/
def Rx (z : Zt) (g : Gd) (A : Nat → Prop) (rt : Option FieldType) (rv : Option Value) (μ' : Mm) : Prop := (zM z).sig.returnType = rt ∧ A = vA g (zs z).heap.size ∧ zQ z = MQ (zb z) (Qd g rv μ' (zs z).heap.size) (za z) (zs z) 0 0 (vA g (zs z).heap.size)
def Rp (z : Zt) (A : Nat → Prop) (rt : Option FieldType) (rv : Option Value) : Prop := (zM z).sig.returnType = rt ∧ A = (fun q => (zs z).heap.size ≤ q) ∧ zQ z = MQ (zb z) (Qp rv (zs z).heap.size) (za z) (zs z) 0 0 (fun q => (zs z).heap.size ≤ q)
theorem Ct.of {y : MethodName} {rt : Option FieldType} {f lo : Nat} {avs : List Value} {rv : Option Value} (hy : plainName y.cls = true) (hn : (lg_sl avs).length ≤ nL) (body : ∀ (z : Zt) (A : Nat → Prop), Cx z A l (rmk f lo) cc nL y.cls → Kx z g A → Rx z g A rt rv μ' → G z g.1 A nL (wd g μ) 0 0 0 (lv_args 0 avs) []) : Ct l y cc nL rt (rmk f lo) g avs μ rv μ' := by
  intro sz
  refine Met.ofW (cc := cc) (maxL := nL) (ret := rt) hy rfl ?_
  intro p e s m args below meth c s₁ B hml hv
  obtain ⟨rfl, rfl, hP, hD, hK, hSt⟩ := hv
  have hts := atoms_spec (ws := Cond.code y cc nL rt :: gw) B.pre
  have K := body (p, l, e, rmk f lo, s, m, avs.toArray, below, meth, c, MQ below (Qd g rv μ' s.heap.size) avs.toArray s 0 0 (vA g s.heap.size)) (vA g s.heap.size)
    ⟨B.exec, B.bytes, hml, findClass_of_methodNamed B.named, fun w h => hts w (List.mem_cons_of_mem _ h), fun q h => Or.inr h, B.notSynchronized, rfl, rfl⟩ ⟨hK, hSt⟩ ⟨B.returns, rfl, rfl⟩
  rw [lg_entry_eq]
  exact K s.heap [] _ hP (vA_D hD) va_S.rf (lv_entry avs hn)
theorem Cp.of {y : MethodName} {rt : Option FieldType} {f lo : Nat} {avs : List Value} {rv : Option Value} (hy : plainName y.cls = true) (hn : (lg_sl avs).length ≤ nL) (body : ∀ (z : Zt) (A : Nat → Prop), Cx z A l (rmk f lo) cc nL y.cls → Rp z A rt rv → G z D A nL [] 0 0 0 (lv_args 0 avs) []) : Cp l y cc nL rt (rmk f lo) avs rv := by
  intro sz
  refine Met.ofW (cc := cc) (maxL := nL) (ret := rt) hy rfl ?_
  intro p e s m args below meth c s₁ B hml hv
  obtain ⟨rfl, rfl⟩ := hv
  have hts := atoms_spec (ws := Cond.code y cc nL rt :: gw) B.pre
  have K := body (p, l, e, rmk f lo, s, m, avs.toArray, below, meth, c, MQ below (Qp rv s.heap.size) avs.toArray s 0 0 (fun q => s.heap.size ≤ q)) (fun q => s.heap.size ≤ q)
    ⟨B.exec, B.bytes, hml, findClass_of_methodNamed B.named, fun w h => hts w (List.mem_cons_of_mem _ h), fun q h => h, B.notSynchronized, rfl, rfl⟩ ⟨B.returns, rfl, rfl⟩
  rw [lg_entry_eq]
  exact K s.heap [] _ (fun k q h => by simp at h) ⟨fun i j p q h => by simp at h, fun k q h => by simp at h⟩ va_S.rf (lv_entry avs hn)
theorem r_iret (C : Cx z A l rm cc nL own) {x : Int32} (hd : decode cc pc = .ok (.ireturn, 1)) (Rr : Rx z g A (some .int) (some (.int x)) μ) : G z g.1 A nL (wd g μ) 0 0 pc lv [.int x] := by
  intro H locs ls hP hD hS hl
  rw [Rr.2.2]
  have hS2 := hS
  rw [Rr.2.1] at hS2
  exact W.iret C.hx C.hb Rr.1 (fun t ht hW => ⟨rfl, by rw [ht]; exact hP, hS2.F ht⟩) hS2.2.2 hd C.hlk
theorem p_iret (C : Cx z A l rm cc nL own) {x : Int32} (hd : decode cc pc = .ok (.ireturn, 1)) (Rr : Rp z A (some .int) (some (.int x))) : G z D A nL ws 0 0 pc lv [.int x] := by
  intro H locs ls hP hD hS hl
  rw [Rr.2.2]
  have hS2 := hS
  rw [Rr.2.1] at hS2
  exact W.iret C.hx C.hb Rr.1 (fun t ht hW => ⟨rfl, hS2.F ht⟩) hS2.2.2 hd C.hlk
theorem r_zret (C : Cx z A l rm cc nL own) {x : Int32} (hd : decode cc pc = .ok (.ireturn, 1)) (hnr : narrow .boolean (.int x) = .int x) (Rr : Rx z g A (some .boolean) (some (.int x)) μ) : G z g.1 A nL (wd g μ) 0 0 pc lv [.int x] := by
  intro H locs ls hP hD hS hl
  rw [Rr.2.2]
  have hS2 := hS
  rw [Rr.2.1] at hS2
  exact W.zret C.hx C.hb Rr.1 hnr (fun t ht hW => ⟨rfl, by rw [ht]; exact hP, hS2.F ht⟩) hS2.2.2 hd C.hlk
theorem p_zret (C : Cx z A l rm cc nL own) {x : Int32} (hd : decode cc pc = .ok (.ireturn, 1)) (hnr : narrow .boolean (.int x) = .int x) (Rr : Rp z A (some .boolean) (some (.int x))) : G z D A nL ws 0 0 pc lv [.int x] := by
  intro H locs ls hP hD hS hl
  rw [Rr.2.2]
  have hS2 := hS
  rw [Rr.2.1] at hS2
  exact W.zret C.hx C.hb Rr.1 hnr (fun t ht hW => ⟨rfl, hS2.F ht⟩) hS2.2.2 hd C.hlk
theorem r_lret (C : Cx z A l rm cc nL own) {x : Int64} (hd : decode cc pc = .ok (.lreturn, 1)) (Rr : Rx z g A (some .long) (some (.long x)) μ) : G z g.1 A nL (wd g μ) 0 0 pc lv [.long x] := by
  intro H locs ls hP hD hS hl
  rw [Rr.2.2]
  have hS2 := hS
  rw [Rr.2.1] at hS2
  exact W.lret C.hx C.hb Rr.1 (fun t ht hW => ⟨rfl, by rw [ht]; exact hP, hS2.F ht⟩) hS2.2.2 hd C.hlk
theorem p_lret (C : Cx z A l rm cc nL own) {x : Int64} (hd : decode cc pc = .ok (.lreturn, 1)) (Rr : Rp z A (some .long) (some (.long x))) : G z D A nL ws 0 0 pc lv [.long x] := by
  intro H locs ls hP hD hS hl
  rw [Rr.2.2]
  have hS2 := hS
  rw [Rr.2.1] at hS2
  exact W.lret C.hx C.hb Rr.1 (fun t ht hW => ⟨rfl, hS2.F ht⟩) hS2.2.2 hd C.hlk
theorem r_vret (C : Cx z A l rm cc nL own) (hd : decode cc pc = .ok (.return_, 1)) (Rr : Rx z g A none none μ) : G z g.1 A nL (wd g μ) 0 0 pc lv [] := by
  intro H locs ls hP hD hS hl
  rw [Rr.2.2]
  have hS2 := hS
  rw [Rr.2.1] at hS2
  exact W.vret C.hx C.hb Rr.1 (fun t ht hW => ⟨rfl, by rw [ht]; exact hP, hS2.F ht⟩) hS2.2.2 hd C.hlk
theorem p_vret (C : Cx z A l rm cc nL own) (hd : decode cc pc = .ok (.return_, 1)) (Rr : Rp z A none none) : G z D A nL ws 0 0 pc lv [] := by
  intro H locs ls hP hD hS hl
  rw [Rr.2.2]
  have hS2 := hS
  rw [Rr.2.1] at hS2
  exact W.vret C.hx C.hb Rr.1 (fun t ht hW => ⟨rfl, hS2.F ht⟩) hS2.2.2 hd C.hlk
theorem r_aret (C : Cx z A l rm cc nL own) {x : Nat} {nm : String} (hd : decode cc pc = .ok (.areturn, 1)) (Rr : Rx z g A (some (.object nm)) (some (.ref x)) μ) : G z g.1 A nL (wd g μ) 0 0 pc lv [.ref x] := by
  intro H locs ls hP hD hS hl
  rw [Rr.2.2]
  have hS2 := hS
  rw [Rr.2.1] at hS2
  exact W.aret C.hx C.hb Rr.1 (Or.inl ⟨nm, rfl⟩) (Or.inr ⟨x, rfl⟩) (fun t ht hW => ⟨rfl, by rw [ht]; exact hP, hS2.F ht⟩) hS2.2.2 hd C.hlk
/-- the answer of any kind of call, over any cells -/
theorem G_run {Qc : State → Outcome → State → Prop} {free : Nat → Prop} {rest st0 : List Value} {rv : Option Value} {ws' : va_W}
    (hr : ∀ (H : Heap) (locs : List Loc) (ls : Array Slot), va_P D vwCl ws H → va_D A ws → va_S A (zs z).heap H locs → lv_has ls nL lv → va_Run (zp z) (zl z) (ze z) (zR z) (zs z) (zm z) (za z) (zb z) (zM z) (zc z) H locs ce sl 0 0 (F0 (zm z) pc ls st0) rest Qc free ∧ (∀ q, free q → A q) ∧ (∀ s0 o t, s0.heap = H → Qc s0 o t → o = .returned rv ∧ va_P D vwCl ws' t.heap ∧ H.size ≤ t.heap.size ∧ ∀ q, q < H.size → ¬ A q → t.heap[q]? = H[q]?))
    (hD' : va_D A ws → va_D A ws') (K : G z D A nL ws' ce sl (pc + 3) lv (rv.toList ++ rest)) : G z D A nL ws ce sl pc lv st0 := by
  intro H locs ls hP hD hS hl
  obtain ⟨hR, hfr, hq⟩ := hr H locs ls hP hD hS hl
  intro T hT X
  obtain ⟨v, st₀, t, T', L, h0, X', hL, e1, e2, hQ, sp⟩ := hR T hT X
  obtain ⟨hv, hP', hz, hk⟩ := hq st₀ _ t h0 hQ
  cases hv
  obtain ⟨t2, a1, b1⟩ := K T'.heap (locs ++ L) ls (by rw [e1]; exact hP') (hD' hD) ⟨Nat.le_trans hS.1 (by rw [e1]; exact hz), fun q h1 h2 => by rw [e1, hk q (Nat.lt_of_lt_of_le h1 hS.1) h2]; exact hS.2.1 q h1 h2, fun q hq => by
      rcases List.mem_append.mp hq with h | h
      · exact hS.2.2 q h
      · exact hfr _ (hL q h)⟩ hl T' rfl X'
  exact ⟨t2, sp t2 a1, b1⟩
/-! calls -/
theorem gw_gi {ws : List Cond} (h : ∀ w ∈ ws, w ∈ gw) : GoodIn gw ws := fun w hw => ⟨h w hw, good_of_word (List.mem_filter.mp (h w hw)).2⟩
def MI (y : MethodName) (cc : ByteArray) (nL : Nat) (rt : Option FieldType) (n : Nat) : Prop := Cond.code y cc nL rt ∈ gw ∧ Cond.initialized y.cls ∈ gw ∧ y.cls ≠ "java/lang/invoke/MethodHandle" ∧ y.cls ≠ "java/lang/invoke/VarHandle" ∧ (parseMethodDescriptor y.desc).map (fun d => d.parameters.length) = some n
def MV (y : MethodName) : Prop := Cond.instanceMethod y ∈ gw ∧ Cond.selects y.cls y y ∈ gw
theorem gw_cons {c : Cond} (h : c ∈ gw) : GoodIn gw (c :: gw) := gw_gi (fun w hw => by rcases List.mem_cons.mp hw with rfl | h1; exact h; exact h1)
theorem Pd_blind {avs : List Value} {sz : Nat} : FrameBlind (va_Pc avs (Pd g μ sz)) := by
  intro a U fr mk h
  obtain ⟨h1, h2, h3, h4, h5, h6⟩ := h
  exact ⟨h1, h2, h3, h4, va_K.moved (u := U) (U := U.calling fr mk a) (Vm.Alike.refl U.vm) h5, Sta.blind (U := U) (V := U.calling fr mk a) rfl rfl h6⟩
theorem Pd_at {H : Heap} {locs : List Loc} (C : Cx z A l rm cc nL own) (X : Kx z g A) (hP : va_P g.1 vwCl (wd g μ) H) (hD : va_D A (wd g μ)) (hS : va_S A (zs z).heap H locs) : ∀ U : State, U.heap = H → (zs z).WarmedH U.vm → Pd g μ H.size U :=
  fun U hU hW => ⟨by rw [hU], by rw [hU]; exact hP, hD.weaken (fun _ _ _ _ => trivial), va_K.moved hW.alike X.1, X.2.to hS hU hW (vA_free hD hS C.hA)⟩
theorem Qd_out {H : Heap} {locs : List Loc} {rv : Option Value} (C : Cx z A l rm cc nL own) (hD : va_D A (wd g μ)) (hS : va_S A (zs z).heap H locs) {a : Array Value} : ∀ s0 o t, s0.heap = H → Qd g rv μ' H.size a s0 o t → o = .returned rv ∧ va_P g.1 vwCl (wd g μ') t.heap ∧ H.size ≤ t.heap.size ∧ ∀ q, q < H.size → ¬ A q → t.heap[q]? = H[q]? := by
  intro s0 o t h0 h
  obtain ⟨h1, h2, h3, h4⟩ := h
  rw [h0] at h3 h4
  exact ⟨h1, h2, h3, fun q hq hn => h4 q hq (fun hv => hn (vA_free hD hS C.hA q hv))⟩
theorem r_callV (C : Cx z A l rm cc nL own) (X : Kx z g A) {y : MethodName} {cc' : ByteArray} {nL' n idx k ci N : Nat} {T : u_T} {rt : Option FieldType} {rm' : Room} {As rest st0 st1 : List Value} {rv : Option Value} {fs : List Value} (M : MI y cc' nL' rt n) (V : MV y) (hM : Ct l y cc' nL' rt rm' g (.ref (ad g k) :: As) μ rv μ') (hlk : Cond.methodLink own idx y ∈ gw) (hk : k < 132) (he : WF g μ k = .inr (ci, fs)) (hc : vwCl[ci]? = some (y.cls, T, N)) (hn : As.length = n) (hR : rm'.frames + 1 ≤ rm.frames ∧ 8 + (nL' + 11) + rm'.locals ≤ rm.locals ∧ rm'.cells = 0 ∧ rm'.slots = 0 ∧ ce ≤ rm.cells ∧ sl ≤ rm.slots) (hst : st0 = As.reverse ++ .ref (ad g k) :: rest) (hW : (rest.map fun v => v.category).sum ≤ 8) (hd : decode cc pc = .ok (.invokevirtual idx, 3)) (hst1 : rv.toList ++ rest = st1) (K : G z g.1 A nL (wd g μ') ce sl (pc + 3) lv st1) : G z g.1 A nL (wd g μ) ce sl pc lv st0 := by
  subst hst1
  refine G_run (rest := rest) (Qc := fun s0 o t => ∃ q, q = s0.heap.size ∧ Qd g rv μ' q (Value.ref (ad g k) :: As).toArray s0 o t) (free := fun q => A q) (fun H locs ls hP hD hS hl => ⟨?_, fun q h => h, fun s0 o t h0 h => ?_⟩) (wd_D μ') K
  · obtain ⟨hR1, hR2, hc1, hc2, hc3, hc4⟩ := hR
    rw [← C.hR] at hR1 hR2 hc3 hc4
    have hb := callB_of (R := zR z) (s := zs z) (args := za z) (own := own) (index := idx) n C.hts (gw_cons M.1) rfl hc1 hc2 (C.hts _ M.2.1) (C.hts _ hlk) M.2.2 ⟨hR1, hR2⟩
    have hr := va_runV (p := zp z) (l := zl z) (e := ze z) (R := zR z) (s := zs z) (m := zm z) (args := za z) (below := zb z) (meth := zM z) (c := zc z) (H := H) (locs := locs) (cells := ce) (slots := sl) (g := F0 (zm z) pc ls st0) (Ts := gw) (As := As) (rest := rest) (b := ad g k) (C := y.cls) ⟨C.hx, C.hb, C.hml, C.hown, C.hts⟩ (by rw [C.hl]; exact hM H.size) ⟨hb, C.hts _ V.1, C.hts _ V.2⟩ ⟨Pd_blind, va_recv X.1 hP hc (wd_at hk he), fun U hU hw => ⟨rfl, Pd_at C X hP hD hS U hU hw⟩⟩ rfl hn hl.1 hst (lv_room hW) hd ⟨hc3, hc4⟩
    intro T0 hT X0
    obtain ⟨v, st₀, t, T', L, h0, X', hL, e1, e2, hQ, sp⟩ := hr T0 hT X0
    exact ⟨v, st₀, t, T', L, h0, X', fun q hq => vA_free hD hS C.hA _ (hL q hq), e1, e2, ⟨H.size, by rw [h0], hQ⟩, sp⟩
  · obtain ⟨q, rfl, h⟩ := h
    rw [h0] at h
    exact Qd_out C hD hS s0 o t h0 h
theorem r_callS (C : Cx z A l rm cc nL own) (X : Kx z g A) {y : MethodName} {cc' : ByteArray} {nL' n idx : Nat} {rt : Option FieldType} {rm' : Room} {As rest st0 st1 : List Value} {rv : Option Value} (M : MI y cc' nL' rt n) (V : Cond.static y ∈ gw) (hM : Ct l y cc' nL' rt rm' g As μ rv μ') (hlk : Cond.methodLink own idx y ∈ gw) (hn : As.length = n) (hR : rm'.frames + 1 ≤ rm.frames ∧ 8 + (nL' + 11) + rm'.locals ≤ rm.locals ∧ rm'.cells = 0 ∧ rm'.slots = 0 ∧ ce ≤ rm.cells ∧ sl ≤ rm.slots) (hst : st0 = As.reverse ++ rest) (hW : (rest.map fun v => v.category).sum ≤ 8) (hd : decode cc pc = .ok (.invokestatic idx, 3)) (hst1 : rv.toList ++ rest = st1) (K : G z g.1 A nL (wd g μ') ce sl (pc + 3) lv st1) : G z g.1 A nL (wd g μ) ce sl pc lv st0 := by
  subst hst1
  refine G_run (rest := rest) (Qc := fun s0 o t => ∃ q, q = s0.heap.size ∧ Qd g rv μ' q As.toArray s0 o t) (free := fun q => A q) (fun H locs ls hP hD hS hl => ⟨?_, fun q h => h, fun s0 o t h0 h => ?_⟩) (wd_D μ') K
  · obtain ⟨hR1, hR2, hc1, hc2, hc3, hc4⟩ := hR
    rw [← C.hR] at hR1 hR2 hc3 hc4
    have hb := callB_of (R := zR z) (s := zs z) (args := za z) (own := own) (index := idx) n C.hts (gw_cons M.1) rfl hc1 hc2 (C.hts _ M.2.1) (C.hts _ hlk) M.2.2 ⟨hR1, hR2⟩
    have hr := va_runS (p := zp z) (l := zl z) (e := ze z) (R := zR z) (s := zs z) (m := zm z) (args := za z) (below := zb z) (meth := zM z) (c := zc z) (H := H) (locs := locs) (cells := ce) (slots := sl) (g := F0 (zm z) pc ls st0) (Ts := gw) (As := As) (rest := rest) ⟨C.hx, C.hb, C.hml, C.hown, C.hts⟩ (by rw [C.hl]; exact hM H.size) ⟨hb, C.hts _ V⟩ ⟨Pd_blind, fun U hU hw => ⟨rfl, Pd_at C X hP hD hS U hU hw⟩⟩ rfl hn hl.1 hst (lv_room hW) hd ⟨hc3, hc4⟩
    intro T0 hT X0
    obtain ⟨v, st₀, t, T', L, h0, X', hL, e1, e2, hQ, sp⟩ := hr T0 hT X0
    exact ⟨v, st₀, t, T', L, h0, X', fun q hq => vA_free hD hS C.hA _ (hL q hq), e1, e2, ⟨H.size, by rw [h0], hQ⟩, sp⟩
  · obtain ⟨q, rfl, h⟩ := h
    rw [h0] at h
    exact Qd_out C hD hS s0 o t h0 h
theorem P_same {H H1 : Heap} (hP : va_P D vwCl ws H) (h : ∀ q, q < H.size → H1[q]? = H[q]?) : va_P D vwCl ws H1 := fun k q hk => (hP k q hk).kept (h _ (hP k q hk).lt)
/-- a static method that touches no heap; by a plain link, or by one between nest mates -/
theorem r_callP (C : Cx z A l rm cc nL own) {y : MethodName} {cc' : ByteArray} {nL' n idx : Nat} {rt : Option FieldType} {rm' : Room} {As rest st0 st1 : List Value} {rv : Option Value} (M : MI y cc' nL' rt n) (V : Cond.static y ∈ gw) (hM : Cp l y cc' nL' rt rm' As rv) (hlk : Cond.methodLink own idx y ∈ gw) (hn : As.length = n) (hR : rm'.frames + 1 ≤ rm.frames ∧ 8 + (nL' + 11) + rm'.locals ≤ rm.locals ∧ rm'.cells = 0 ∧ rm'.slots = 0 ∧ ce ≤ rm.cells ∧ sl ≤ rm.slots) (hst : st0 = As.reverse ++ rest) (hW : (rest.map fun v => v.category).sum ≤ 8) (hd : decode cc pc = .ok (.invokestatic idx, 3)) (hst1 : rv.toList ++ rest = st1) (K : G z D A nL ws ce sl (pc + 3) lv st1) : G z D A nL ws ce sl pc lv st0 := by
  subst hst1
  refine G_run (rest := rest) (Qc := fun s0 o t => Qp rv s0.heap.size As.toArray s0 o t) (free := fun q => A q) (fun H locs ls hP hD hS hl => ⟨?_, fun q h => h, fun s0 o t h0 h => ?_⟩) id K
  · obtain ⟨hR1, hR2, hc1, hc2, hc3, hc4⟩ := hR
    rw [← C.hR] at hR1 hR2 hc3 hc4
    have hb := callB_of (R := zR z) (s := zs z) (args := za z) (own := own) (index := idx) n C.hts (gw_cons M.1) rfl hc1 hc2 (C.hts _ M.2.1) (C.hts _ hlk) M.2.2 ⟨hR1, hR2⟩
    have hr := va_runS (p := zp z) (l := zl z) (e := ze z) (R := zR z) (s := zs z) (m := zm z) (args := za z) (below := zb z) (meth := zM z) (c := zc z) (H := H) (locs := locs) (cells := ce) (slots := sl) (g := F0 (zm z) pc ls st0) (Ts := gw) (As := As) (rest := rest) (Pc := va_Pc As (fun U => U.heap.size = H.size)) ⟨C.hx, C.hb, C.hml, C.hown, C.hts⟩ (by rw [C.hl]; exact hM H.size) ⟨hb, C.hts _ V⟩ ⟨fun a U fr mk h => h, fun U hU hw => ⟨rfl, (show U.heap.size = H.size by rw [hU])⟩⟩ rfl hn hl.1 hst (lv_room hW) hd ⟨hc3, hc4⟩
    intro T0 hT X0
    obtain ⟨v, st₀, t, T', L, h0, X', hL, e1, e2, hQ, sp⟩ := hr T0 hT X0
    exact ⟨v, st₀, t, T', L, h0, X', fun q hq => C.hA _ (Nat.le_trans hS.1 (hL q hq)), e1, e2, (show Qp rv st₀.heap.size As.toArray st₀ _ t by rw [h0]; exact hQ), sp⟩
  · obtain ⟨h1, h2, h3⟩ := h
    rw [h0] at h2 h3
    exact ⟨h1, P_same hP (fun q hq => h3 q hq (Nat.not_le.mpr hq)), h2, fun q hq _ => h3 q hq (Nat.not_le.mpr hq)⟩
theorem r_callPN (C : Cx z A l rm cc nL own) {y : MethodName} {cc' : ByteArray} {nL' n idx : Nat} {rt : Option FieldType} {rm' : Room} {As rest st0 st1 : List Value} {rv : Option Value} {host : String} (M : MI y cc' nL' rt n) (V : Cond.static y ∈ gw) (hM : Cp l y cc' nL' rt rm' As rv) (hlk : va_Nw (.methodLinkNest own idx y host) (zs z)) (hn : As.length = n) (hR : rm'.frames + 1 ≤ rm.frames ∧ 8 + (nL' + 11) + rm'.locals ≤ rm.locals ∧ rm'.cells = 0 ∧ rm'.slots = 0 ∧ ce ≤ rm.cells ∧ sl ≤ rm.slots) (hst : st0 = As.reverse ++ rest) (hW : (rest.map fun v => v.category).sum ≤ 8) (hd : decode cc pc = .ok (.invokestatic idx, 3)) (hst1 : rv.toList ++ rest = st1) (K : G z D A nL ws ce sl (pc + 3) lv st1) : G z D A nL ws ce sl pc lv st0 := by
  subst hst1
  refine G_run (rest := rest) (Qc := fun s0 o t => Qp rv s0.heap.size As.toArray s0 o t) (free := fun q => A q) (fun H locs ls hP hD hS hl => ⟨?_, fun q h => h, fun s0 o t h0 h => ?_⟩) id K
  · obtain ⟨hR1, hR2, hc1, hc2, hc3, hc4⟩ := hR
    rw [← C.hR] at hR1 hR2 hc3 hc4
    have hb := va_cnB (R := zR z) (s := zs z) (args := za z) (own := own) (index := idx) n C.hts (gw_cons M.1) rfl hc1 hc2 hlk (C.hts _ M.2.1) M.2.2 ⟨hR1, hR2⟩
    have hr := va_runSN (cc := cc) (nL := nL) (own := own) (y := y) (host := host) (bytes := cc') (maxL := nL') (ret := rt) (rm := rm') (mc := 0) (ms := 0) (n := n) (index := idx) (p := zp z) (l := zl z) (e := ze z) (R := zR z) (s := zs z) (m := zm z) (args := za z) (below := zb z) (meth := zM z) (c := zc z) (H := H) (locs := locs) (cells := ce) (slots := sl) (g := F0 (zm z) pc ls st0) (Ts := gw) (As := As) (rest := rest) (Pc := va_Pc As (fun U => U.heap.size = H.size)) ⟨C.hx, C.hb, C.hml, C.hown, C.hts⟩ (by rw [C.hl]; exact hM H.size) ⟨hb, C.hts _ V, trivial⟩ ⟨fun a U fr mk h => h, fun U hU hw => ⟨rfl, (show U.heap.size = H.size by rw [hU])⟩⟩ rfl hn hl.1 hst (lv_room hW) hd ⟨hc3, hc4⟩
    intro T0 hT X0
    obtain ⟨v, st₀, t, T', L, h0, X', hL, e1, e2, hQ, sp⟩ := hr T0 hT X0
    exact ⟨v, st₀, t, T', L, h0, X', fun q hq => C.hA _ (Nat.le_trans hS.1 (hL q hq)), e1, e2, (show Qp rv st₀.heap.size As.toArray st₀ _ t by rw [h0]; exact hQ), sp⟩
  · obtain ⟨h1, h2, h3⟩ := h
    rw [h0] at h2 h3
    exact ⟨h1, P_same hP (fun q hq => h3 q hq (Nat.not_le.mpr hq)), h2, fun q hq _ => h3 q hq (Nat.not_le.mpr hq)⟩
end ROWS
end
