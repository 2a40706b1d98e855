section
/-- a private method of a class that the tables say can be made, by its rows of tables_1 -/
def lw_okq (q : MethodName × Nat) : Prop := (q.1.cls ≠ "java/lang/invoke/MethodHandle" ∧ q.1.cls ≠ "java/lang/invoke/VarHandle") ∧ Cond.instantiable q.1.cls q.2 ∈ tables_1 ∧ Cond.privateMethod q.1 ∈ tables_1 ∧ Cond.instanceMethod q.1 ∈ tables_1
theorem lw_p0 : lw_okq (⟨"DustYards$Tape", "readWord", "()V"⟩, 6) := ⟨⟨by decide +kernel, by decide +kernel⟩, List.mem_of_getElem? (i := 106) (by decide +kernel), List.mem_of_getElem? (i := 408) (by decide +kernel), List.mem_of_getElem? (i := 409) (by decide +kernel)⟩
theorem lw_p1 : lw_okq (⟨"DustYards$Tape", "isWord", "(Ljava/lang/String;)Z"⟩, 6) := ⟨⟨by decide +kernel, by decide +kernel⟩, List.mem_of_getElem? (i := 106) (by decide +kernel), List.mem_of_getElem? (i := 413) (by decide +kernel), List.mem_of_getElem? (i := 414) (by decide +kernel)⟩
theorem lw_p2 : lw_okq (⟨"DustYards$Tape", "readNumber", "()V"⟩, 6) := ⟨⟨by decide +kernel, by decide +kernel⟩, List.mem_of_getElem? (i := 106) (by decide +kernel), List.mem_of_getElem? (i := 433) (by decide +kernel), List.mem_of_getElem? (i := 434) (by decide +kernel)⟩
theorem lw_p3 : lw_okq (⟨"DustYards$Text", "readEither", "(LDustYards$Tape;I)Z"⟩, 3) := ⟨⟨by decide +kernel, by decide +kernel⟩, List.mem_of_getElem? (i := 142) (by decide +kernel), List.mem_of_getElem? (i := 444) (by decide +kernel), List.mem_of_getElem? (i := 445) (by decide +kernel)⟩
theorem lw_p4 : lw_okq (⟨"DustYards$Text", "readBoth", "(LDustYards$Tape;I)Z"⟩, 3) := ⟨⟨by decide +kernel, by decide +kernel⟩, List.mem_of_getElem? (i := 142) (by decide +kernel), List.mem_of_getElem? (i := 448) (by decide +kernel), List.mem_of_getElem? (i := 449) (by decide +kernel)⟩
theorem lw_p5 : lw_okq (⟨"DustYards$Text", "readNot", "(LDustYards$Tape;I)Z"⟩, 3) := ⟨⟨by decide +kernel, by decide +kernel⟩, List.mem_of_getElem? (i := 142) (by decide +kernel), List.mem_of_getElem? (i := 452) (by decide +kernel), List.mem_of_getElem? (i := 453) (by decide +kernel)⟩
theorem lw_p6 : lw_okq (⟨"DustYards$Text", "readCompared", "(LDustYards$Tape;I)Z"⟩, 3) := ⟨⟨by decide +kernel, by decide +kernel⟩, List.mem_of_getElem? (i := 142) (by decide +kernel), List.mem_of_getElem? (i := 456) (by decide +kernel), List.mem_of_getElem? (i := 457) (by decide +kernel)⟩
theorem lw_p7 : lw_okq (⟨"DustYards$Text", "readSum", "(LDustYards$Tape;I)Z"⟩, 3) := ⟨⟨by decide +kernel, by decide +kernel⟩, List.mem_of_getElem? (i := 142) (by decide +kernel), List.mem_of_getElem? (i := 460) (by decide +kernel), List.mem_of_getElem? (i := 461) (by decide +kernel)⟩
theorem lw_p8 : lw_okq (⟨"DustYards$Text", "readTerm", "(LDustYards$Tape;I)Z"⟩, 3) := ⟨⟨by decide +kernel, by decide +kernel⟩, List.mem_of_getElem? (i := 142) (by decide +kernel), List.mem_of_getElem? (i := 464) (by decide +kernel), List.mem_of_getElem? (i := 465) (by decide +kernel)⟩
theorem lw_p9 : lw_okq (⟨"DustYards$Text", "readOne", "(LDustYards$Tape;I)Z"⟩, 3) := ⟨⟨by decide +kernel, by decide +kernel⟩, List.mem_of_getElem? (i := 142) (by decide +kernel), List.mem_of_getElem? (i := 468) (by decide +kernel), List.mem_of_getElem? (i := 469) (by decide +kernel)⟩
theorem lw_p10 : lw_okq (⟨"DustYards$Text", "readNegated", "(LDustYards$Tape;I)Z"⟩, 3) := ⟨⟨by decide +kernel, by decide +kernel⟩, List.mem_of_getElem? (i := 142) (by decide +kernel), List.mem_of_getElem? (i := 472) (by decide +kernel), List.mem_of_getElem? (i := 473) (by decide +kernel)⟩
theorem lw_p11 : lw_okq (⟨"DustYards$Text", "add", "(I)V"⟩, 3) := ⟨⟨by decide +kernel, by decide +kernel⟩, List.mem_of_getElem? (i := 142) (by decide +kernel), List.mem_of_getElem? (i := 477) (by decide +kernel), List.mem_of_getElem? (i := 478) (by decide +kernel)⟩
theorem lw_p12 : lw_okq (⟨"DustYards$Text", "readBracket", "(LDustYards$Tape;I)Z"⟩, 3) := ⟨⟨by decide +kernel, by decide +kernel⟩, List.mem_of_getElem? (i := 142) (by decide +kernel), List.mem_of_getElem? (i := 481) (by decide +kernel), List.mem_of_getElem? (i := 482) (by decide +kernel)⟩
theorem lw_p13 : lw_okq (⟨"DustYards", "bringToStore", "(I)V"⟩, 18) := ⟨⟨by decide +kernel, by decide +kernel⟩, List.mem_of_getElem? (i := 23) (by decide +kernel), List.mem_of_getElem? (i := 605) (by decide +kernel), List.mem_of_getElem? (i := 606) (by decide +kernel)⟩
theorem lw_p14 : lw_okq (⟨"DustYards", "partFor", "(II)I"⟩, 18) := ⟨⟨by decide +kernel, by decide +kernel⟩, List.mem_of_getElem? (i := 23) (by decide +kernel), List.mem_of_getElem? (i := 685) (by decide +kernel), List.mem_of_getElem? (i := 686) (by decide +kernel)⟩
theorem lw_p15 : lw_okq (⟨"DustYards", "ownerOf", "(I)I"⟩, 18) := ⟨⟨by decide +kernel, by decide +kernel⟩, List.mem_of_getElem? (i := 23) (by decide +kernel), List.mem_of_getElem? (i := 732) (by decide +kernel), List.mem_of_getElem? (i := 733) (by decide +kernel)⟩
def lw_privs_1 : List (MethodName × Nat) := [(⟨"DustYards$Tape", "readWord", "()V"⟩, 6), (⟨"DustYards$Tape", "isWord", "(Ljava/lang/String;)Z"⟩, 6), (⟨"DustYards$Tape", "readNumber", "()V"⟩, 6), (⟨"DustYards$Text", "readEither", "(LDustYards$Tape;I)Z"⟩, 3), (⟨"DustYards$Text", "readBoth", "(LDustYards$Tape;I)Z"⟩, 3), (⟨"DustYards$Text", "readNot", "(LDustYards$Tape;I)Z"⟩, 3), (⟨"DustYards$Text", "readCompared", "(LDustYards$Tape;I)Z"⟩, 3), (⟨"DustYards$Text", "readSum", "(LDustYards$Tape;I)Z"⟩, 3), (⟨"DustYards$Text", "readTerm", "(LDustYards$Tape;I)Z"⟩, 3), (⟨"DustYards$Text", "readOne", "(LDustYards$Tape;I)Z"⟩, 3), (⟨"DustYards$Text", "readNegated", "(LDustYards$Tape;I)Z"⟩, 3), (⟨"DustYards$Text", "add", "(I)V"⟩, 3), (⟨"DustYards$Text", "readBracket", "(LDustYards$Tape;I)Z"⟩, 3), (⟨"DustYards", "bringToStore", "(I)V"⟩, 18), (⟨"DustYards", "partFor", "(II)I"⟩, 18), (⟨"DustYards", "ownerOf", "(I)I"⟩, 18)]
theorem lw_r1 : ∀ q ∈ lw_privs_1, lw_okq q := List.forall_mem_cons.mpr ⟨lw_p0, List.forall_mem_cons.mpr ⟨lw_p1, List.forall_mem_cons.mpr ⟨lw_p2, List.forall_mem_cons.mpr ⟨lw_p3, List.forall_mem_cons.mpr ⟨lw_p4, List.forall_mem_cons.mpr ⟨lw_p5, List.forall_mem_cons.mpr ⟨lw_p6, List.forall_mem_cons.mpr ⟨lw_p7, List.forall_mem_cons.mpr ⟨lw_p8, List.forall_mem_cons.mpr ⟨lw_p9, List.forall_mem_cons.mpr ⟨lw_p10, List.forall_mem_cons.mpr ⟨lw_p11, List.forall_mem_cons.mpr ⟨lw_p12, List.forall_mem_cons.mpr ⟨lw_p13, List.forall_mem_cons.mpr ⟨lw_p14, List.forall_mem_cons.mpr ⟨lw_p15, fun _ h => absurd h List.not_mem_nil⟩⟩⟩⟩⟩⟩⟩⟩⟩⟩⟩⟩⟩⟩⟩⟩
theorem lw_p16 : lw_okq (⟨"DustYards", "holderOf", "(I)I"⟩, 18) := ⟨⟨by decide +kernel, by decide +kernel⟩, List.mem_of_getElem? (i := 23) (by decide +kernel), List.mem_of_getElem? (i := 743) (by decide +kernel), List.mem_of_getElem? (i := 744) (by decide +kernel)⟩
theorem lw_p17 : lw_okq (⟨"DustYards$Doors", "filled", "(II)I"⟩, 10) := ⟨⟨by decide +kernel, by decide +kernel⟩, List.mem_of_getElem? (i := 202) (by decide +kernel), List.mem_of_getElem? (i := 775) (by decide +kernel), List.mem_of_getElem? (i := 776) (by decide +kernel)⟩
theorem lw_p18 : lw_okq (⟨"DustYards", "worthBy", "(IIII)J"⟩, 18) := ⟨⟨by decide +kernel, by decide +kernel⟩, List.mem_of_getElem? (i := 23) (by decide +kernel), List.mem_of_getElem? (i := 794) (by decide +kernel), List.mem_of_getElem? (i := 795) (by decide +kernel)⟩
theorem lw_p19 : lw_okq (⟨"DustYards$Hands", "layFrom", "(III)V"⟩, 6) := ⟨⟨by decide +kernel, by decide +kernel⟩, List.mem_of_getElem? (i := 243) (by decide +kernel), List.mem_of_getElem? (i := 820) (by decide +kernel), List.mem_of_getElem? (i := 821) (by decide +kernel)⟩
theorem lw_p20 : lw_okq (⟨"DustYards$Buyers", "dearest", "(I)I"⟩, 5) := ⟨⟨by decide +kernel, by decide +kernel⟩, List.mem_of_getElem? (i := 288) (by decide +kernel), List.mem_of_getElem? (i := 871) (by decide +kernel), List.mem_of_getElem? (i := 872) (by decide +kernel)⟩
theorem lw_p21 : lw_okq (⟨"DustYards", "takePrices", "(IILDustYards$Sheet;II)I"⟩, 18) := ⟨⟨by decide +kernel, by decide +kernel⟩, List.mem_of_getElem? (i := 23) (by decide +kernel), List.mem_of_getElem? (i := 922) (by decide +kernel), List.mem_of_getElem? (i := 923) (by decide +kernel)⟩
theorem lw_p22 : lw_okq (⟨"DustYardsModel", "isCart", "(I)Z"⟩, 81) := ⟨⟨by decide +kernel, by decide +kernel⟩, List.mem_of_getElem? (i := 965) (by decide +kernel), List.mem_of_getElem? (i := 963) (by decide +kernel), List.mem_of_getElem? (i := 964) (by decide +kernel)⟩
theorem lw_p23 : lw_okq (⟨"DustYardsModel", "waste", "(I)I"⟩, 81) := ⟨⟨by decide +kernel, by decide +kernel⟩, List.mem_of_getElem? (i := 965) (by decide +kernel), List.mem_of_getElem? (i := 969) (by decide +kernel), List.mem_of_getElem? (i := 970) (by decide +kernel)⟩
theorem lw_p24 : lw_okq (⟨"DustYardsModel", "has", "(III)I"⟩, 81) := ⟨⟨by decide +kernel, by decide +kernel⟩, List.mem_of_getElem? (i := 965) (by decide +kernel), List.mem_of_getElem? (i := 973) (by decide +kernel), List.mem_of_getElem? (i := 974) (by decide +kernel)⟩
theorem lw_p25 : lw_okq (⟨"DustYardsModel", "shortBy", "(I)I"⟩, 81) := ⟨⟨by decide +kernel, by decide +kernel⟩, List.mem_of_getElem? (i := 965) (by decide +kernel), List.mem_of_getElem? (i := 977) (by decide +kernel), List.mem_of_getElem? (i := 978) (by decide +kernel)⟩
theorem lw_p26 : lw_okq (⟨"DustYardsModel", "priceAsKnown", "(III)I"⟩, 81) := ⟨⟨by decide +kernel, by decide +kernel⟩, List.mem_of_getElem? (i := 965) (by decide +kernel), List.mem_of_getElem? (i := 1007) (by decide +kernel), List.mem_of_getElem? (i := 1008) (by decide +kernel)⟩
theorem lw_p27 : lw_okq (⟨"DustYardsModel", "readAll", "(I)I"⟩, 81) := ⟨⟨by decide +kernel, by decide +kernel⟩, List.mem_of_getElem? (i := 965) (by decide +kernel), List.mem_of_getElem? (i := 1033) (by decide +kernel), List.mem_of_getElem? (i := 1034) (by decide +kernel)⟩
theorem lw_p28 : lw_okq (⟨"DustYardsModel", "next", "()V"⟩, 81) := ⟨⟨by decide +kernel, by decide +kernel⟩, List.mem_of_getElem? (i := 965) (by decide +kernel), List.mem_of_getElem? (i := 1037) (by decide +kernel), List.mem_of_getElem? (i := 1038) (by decide +kernel)⟩
theorem lw_p29 : lw_okq (⟨"DustYardsModel", "isLetter", "(I)Z"⟩, 81) := ⟨⟨by decide +kernel, by decide +kernel⟩, List.mem_of_getElem? (i := 965) (by decide +kernel), List.mem_of_getElem? (i := 1041) (by decide +kernel), List.mem_of_getElem? (i := 1042) (by decide +kernel)⟩
theorem lw_p30 : lw_okq (⟨"DustYardsModel", "readWord", "()V"⟩, 81) := ⟨⟨by decide +kernel, by decide +kernel⟩, List.mem_of_getElem? (i := 965) (by decide +kernel), List.mem_of_getElem? (i := 1045) (by decide +kernel), List.mem_of_getElem? (i := 1046) (by decide +kernel)⟩
theorem lw_p31 : lw_okq (⟨"DustYardsModel", "isDigit", "(I)Z"⟩, 81) := ⟨⟨by decide +kernel, by decide +kernel⟩, List.mem_of_getElem? (i := 965) (by decide +kernel), List.mem_of_getElem? (i := 1049) (by decide +kernel), List.mem_of_getElem? (i := 1050) (by decide +kernel)⟩
def lw_privs_2 : List (MethodName × Nat) := [(⟨"DustYards", "holderOf", "(I)I"⟩, 18), (⟨"DustYards$Doors", "filled", "(II)I"⟩, 10), (⟨"DustYards", "worthBy", "(IIII)J"⟩, 18), (⟨"DustYards$Hands", "layFrom", "(III)V"⟩, 6), (⟨"DustYards$Buyers", "dearest", "(I)I"⟩, 5), (⟨"DustYards", "takePrices", "(IILDustYards$Sheet;II)I"⟩, 18), (⟨"DustYardsModel", "isCart", "(I)Z"⟩, 81), (⟨"DustYardsModel", "waste", "(I)I"⟩, 81), (⟨"DustYardsModel", "has", "(III)I"⟩, 81), (⟨"DustYardsModel", "shortBy", "(I)I"⟩, 81), (⟨"DustYardsModel", "priceAsKnown", "(III)I"⟩, 81), (⟨"DustYardsModel", "readAll", "(I)I"⟩, 81), (⟨"DustYardsModel", "next", "()V"⟩, 81), (⟨"DustYardsModel", "isLetter", "(I)Z"⟩, 81), (⟨"DustYardsModel", "readWord", "()V"⟩, 81), (⟨"DustYardsModel", "isDigit", "(I)Z"⟩, 81)]
theorem lw_r2 : ∀ q ∈ lw_privs_2, lw_okq q := List.forall_mem_cons.mpr ⟨lw_p16, List.forall_mem_cons.mpr ⟨lw_p17, List.forall_mem_cons.mpr ⟨lw_p18, List.forall_mem_cons.mpr ⟨lw_p19, List.forall_mem_cons.mpr ⟨lw_p20, List.forall_mem_cons.mpr ⟨lw_p21, List.forall_mem_cons.mpr ⟨lw_p22, List.forall_mem_cons.mpr ⟨lw_p23, List.forall_mem_cons.mpr ⟨lw_p24, List.forall_mem_cons.mpr ⟨lw_p25, List.forall_mem_cons.mpr ⟨lw_p26, List.forall_mem_cons.mpr ⟨lw_p27, List.forall_mem_cons.mpr ⟨lw_p28, List.forall_mem_cons.mpr ⟨lw_p29, List.forall_mem_cons.mpr ⟨lw_p30, List.forall_mem_cons.mpr ⟨lw_p31, fun _ h => absurd h List.not_mem_nil⟩⟩⟩⟩⟩⟩⟩⟩⟩⟩⟩⟩⟩⟩⟩⟩
theorem lw_p32 : lw_okq (⟨"DustYardsModel", "readNumber", "()V"⟩, 81) := ⟨⟨by decide +kernel, by decide +kernel⟩, List.mem_of_getElem? (i := 965) (by decide +kernel), List.mem_of_getElem? (i := 1053) (by decide +kernel), List.mem_of_getElem? (i := 1054) (by decide +kernel)⟩
theorem lw_p33 : lw_okq (⟨"DustYardsModel", "isKey", "(I)Z"⟩, 81) := ⟨⟨by decide +kernel, by decide +kernel⟩, List.mem_of_getElem? (i := 965) (by decide +kernel), List.mem_of_getElem? (i := 1057) (by decide +kernel), List.mem_of_getElem? (i := 1058) (by decide +kernel)⟩
theorem lw_p34 : lw_okq (⟨"DustYardsModel", "readE", "(I)Z"⟩, 81) := ⟨⟨by decide +kernel, by decide +kernel⟩, List.mem_of_getElem? (i := 965) (by decide +kernel), List.mem_of_getElem? (i := 1061) (by decide +kernel), List.mem_of_getElem? (i := 1062) (by decide +kernel)⟩
theorem lw_p35 : lw_okq (⟨"DustYardsModel", "emit", "(I)V"⟩, 81) := ⟨⟨by decide +kernel, by decide +kernel⟩, List.mem_of_getElem? (i := 965) (by decide +kernel), List.mem_of_getElem? (i := 1065) (by decide +kernel), List.mem_of_getElem? (i := 1066) (by decide +kernel)⟩
theorem lw_p36 : lw_okq (⟨"DustYardsModel", "doAll", "(I)V"⟩, 81) := ⟨⟨by decide +kernel, by decide +kernel⟩, List.mem_of_getElem? (i := 965) (by decide +kernel), List.mem_of_getElem? (i := 1069) (by decide +kernel), List.mem_of_getElem? (i := 1070) (by decide +kernel)⟩
theorem lw_p37 : lw_okq (⟨"DustYardsModel", "isSign", "(I)Z"⟩, 81) := ⟨⟨by decide +kernel, by decide +kernel⟩, List.mem_of_getElem? (i := 965) (by decide +kernel), List.mem_of_getElem? (i := 1076) (by decide +kernel), List.mem_of_getElem? (i := 1077) (by decide +kernel)⟩
theorem lw_p38 : lw_okq (⟨"DustYardsModel", "ahead", "(Z)Z"⟩, 81) := ⟨⟨by decide +kernel, by decide +kernel⟩, List.mem_of_getElem? (i := 965) (by decide +kernel), List.mem_of_getElem? (i := 1080) (by decide +kernel), List.mem_of_getElem? (i := 1081) (by decide +kernel)⟩
theorem lw_p39 : lw_okq (⟨"DustYardsModel", "await", "(I)V"⟩, 81) := ⟨⟨by decide +kernel, by decide +kernel⟩, List.mem_of_getElem? (i := 965) (by decide +kernel), List.mem_of_getElem? (i := 1084) (by decide +kernel), List.mem_of_getElem? (i := 1085) (by decide +kernel)⟩
theorem lw_p40 : lw_okq (⟨"DustYardsModel", "between", "()Z"⟩, 81) := ⟨⟨by decide +kernel, by decide +kernel⟩, List.mem_of_getElem? (i := 965) (by decide +kernel), List.mem_of_getElem? (i := 1088) (by decide +kernel), List.mem_of_getElem? (i := 1089) (by decide +kernel)⟩
theorem lw_p41 : lw_okq (⟨"DustYardsModel", "closes", "()Z"⟩, 81) := ⟨⟨by decide +kernel, by decide +kernel⟩, List.mem_of_getElem? (i := 965) (by decide +kernel), List.mem_of_getElem? (i := 1092) (by decide +kernel), List.mem_of_getElem? (i := 1093) (by decide +kernel)⟩
theorem lw_p42 : lw_okq (⟨"DustYardsModel", "textFor", "(II)I"⟩, 81) := ⟨⟨by decide +kernel, by decide +kernel⟩, List.mem_of_getElem? (i := 965) (by decide +kernel), List.mem_of_getElem? (i := 1354) (by decide +kernel), List.mem_of_getElem? (i := 1355) (by decide +kernel)⟩
theorem lw_p43 : lw_okq (⟨"DustYardsModel", "worthOf", "(II)I"⟩, 81) := ⟨⟨by decide +kernel, by decide +kernel⟩, List.mem_of_getElem? (i := 965) (by decide +kernel), List.mem_of_getElem? (i := 1363) (by decide +kernel), List.mem_of_getElem? (i := 1364) (by decide +kernel)⟩
theorem lw_p44 : lw_okq (⟨"DustYardsModel", "nameOf", "(II)I"⟩, 81) := ⟨⟨by decide +kernel, by decide +kernel⟩, List.mem_of_getElem? (i := 965) (by decide +kernel), List.mem_of_getElem? (i := 1367) (by decide +kernel), List.mem_of_getElem? (i := 1368) (by decide +kernel)⟩
theorem lw_p45 : lw_okq (⟨"DustYardsModel", "missedIn", "(II)I"⟩, 81) := ⟨⟨by decide +kernel, by decide +kernel⟩, List.mem_of_getElem? (i := 965) (by decide +kernel), List.mem_of_getElem? (i := 1371) (by decide +kernel), List.mem_of_getElem? (i := 1372) (by decide +kernel)⟩
theorem lw_p46 : lw_okq (⟨"DustYardsModel", "isOf", "(IIII)Z"⟩, 81) := ⟨⟨by decide +kernel, by decide +kernel⟩, List.mem_of_getElem? (i := 965) (by decide +kernel), List.mem_of_getElem? (i := 1386) (by decide +kernel), List.mem_of_getElem? (i := 1387) (by decide +kernel)⟩
theorem lw_p47 : lw_okq (⟨"DustYardsModel", "ownerOf", "(I)I"⟩, 81) := ⟨⟨by decide +kernel, by decide +kernel⟩, List.mem_of_getElem? (i := 965) (by decide +kernel), List.mem_of_getElem? (i := 1400) (by decide +kernel), List.mem_of_getElem? (i := 1401) (by decide +kernel)⟩
def lw_privs_3 : List (MethodName × Nat) := [(⟨"DustYardsModel", "readNumber", "()V"⟩, 81), (⟨"DustYardsModel", "isKey", "(I)Z"⟩, 81), (⟨"DustYardsModel", "readE", "(I)Z"⟩, 81), (⟨"DustYardsModel", "emit", "(I)V"⟩, 81), (⟨"DustYardsModel", "doAll", "(I)V"⟩, 81), (⟨"DustYardsModel", "isSign", "(I)Z"⟩, 81), (⟨"DustYardsModel", "ahead", "(Z)Z"⟩, 81), (⟨"DustYardsModel", "await", "(I)V"⟩, 81), (⟨"DustYardsModel", "between", "()Z"⟩, 81), (⟨"DustYardsModel", "closes", "()Z"⟩, 81), (⟨"DustYardsModel", "textFor", "(II)I"⟩, 81), (⟨"DustYardsModel", "worthOf", "(II)I"⟩, 81), (⟨"DustYardsModel", "nameOf", "(II)I"⟩, 81), (⟨"DustYardsModel", "missedIn", "(II)I"⟩, 81), (⟨"DustYardsModel", "isOf", "(IIII)Z"⟩, 81), (⟨"DustYardsModel", "ownerOf", "(I)I"⟩, 81)]
theorem lw_r3 : ∀ q ∈ lw_privs_3, lw_okq q := List.forall_mem_cons.mpr ⟨lw_p32, List.forall_mem_cons.mpr ⟨lw_p33, List.forall_mem_cons.mpr ⟨lw_p34, List.forall_mem_cons.mpr ⟨lw_p35, List.forall_mem_cons.mpr ⟨lw_p36, List.forall_mem_cons.mpr ⟨lw_p37, List.forall_mem_cons.mpr ⟨lw_p38, List.forall_mem_cons.mpr ⟨lw_p39, List.forall_mem_cons.mpr ⟨lw_p40, List.forall_mem_cons.mpr ⟨lw_p41, List.forall_mem_cons.mpr ⟨lw_p42, List.forall_mem_cons.mpr ⟨lw_p43, List.forall_mem_cons.mpr ⟨lw_p44, List.forall_mem_cons.mpr ⟨lw_p45, List.forall_mem_cons.mpr ⟨lw_p46, List.forall_mem_cons.mpr ⟨lw_p47, fun _ h => absurd h List.not_mem_nil⟩⟩⟩⟩⟩⟩⟩⟩⟩⟩⟩⟩⟩⟩⟩⟩
theorem lw_p48 : lw_okq (⟨"DustYardsModel", "choose", "(I)I"⟩, 81) := ⟨⟨by decide +kernel, by decide +kernel⟩, List.mem_of_getElem? (i := 965) (by decide +kernel), List.mem_of_getElem? (i := 1422) (by decide +kernel), List.mem_of_getElem? (i := 1423) (by decide +kernel)⟩
theorem lw_p49 : lw_okq (⟨"DustYardsModel", "fewestCarts", "(II)I"⟩, 81) := ⟨⟨by decide +kernel, by decide +kernel⟩, List.mem_of_getElem? (i := 965) (by decide +kernel), List.mem_of_getElem? (i := 1426) (by decide +kernel), List.mem_of_getElem? (i := 1427) (by decide +kernel)⟩
theorem lw_p50 : lw_okq (⟨"DustYardsModel", "weighSets", "(I)V"⟩, 81) := ⟨⟨by decide +kernel, by decide +kernel⟩, List.mem_of_getElem? (i := 965) (by decide +kernel), List.mem_of_getElem? (i := 1430) (by decide +kernel), List.mem_of_getElem? (i := 1431) (by decide +kernel)⟩
theorem lw_p51 : lw_okq (⟨"DustYardsModel", "worthBy", "(IIII)J"⟩, 81) := ⟨⟨by decide +kernel, by decide +kernel⟩, List.mem_of_getElem? (i := 965) (by decide +kernel), List.mem_of_getElem? (i := 1442) (by decide +kernel), List.mem_of_getElem? (i := 1443) (by decide +kernel)⟩
theorem lw_p52 : lw_okq (⟨"DustYardsModel", "layAll", "(I)I"⟩, 81) := ⟨⟨by decide +kernel, by decide +kernel⟩, List.mem_of_getElem? (i := 965) (by decide +kernel), List.mem_of_getElem? (i := 1455) (by decide +kernel), List.mem_of_getElem? (i := 1456) (by decide +kernel)⟩
theorem lw_p53 : lw_okq (⟨"DustYardsModel", "layFrom", "(IIII)V"⟩, 81) := ⟨⟨by decide +kernel, by decide +kernel⟩, List.mem_of_getElem? (i := 965) (by decide +kernel), List.mem_of_getElem? (i := 1459) (by decide +kernel), List.mem_of_getElem? (i := 1460) (by decide +kernel)⟩
theorem lw_p54 : lw_okq (⟨"DustYardsModel", "bestTide", "(I)I"⟩, 81) := ⟨⟨by decide +kernel, by decide +kernel⟩, List.mem_of_getElem? (i := 965) (by decide +kernel), List.mem_of_getElem? (i := 1471) (by decide +kernel), List.mem_of_getElem? (i := 1472) (by decide +kernel)⟩
theorem lw_p55 : lw_okq (⟨"DustYardsModel", "sumOf", "([II)I"⟩, 81) := ⟨⟨by decide +kernel, by decide +kernel⟩, List.mem_of_getElem? (i := 965) (by decide +kernel), List.mem_of_getElem? (i := 1475) (by decide +kernel), List.mem_of_getElem? (i := 1476) (by decide +kernel)⟩
theorem lw_p56 : lw_okq (⟨"DustYardsModel", "part", "()V"⟩, 81) := ⟨⟨by decide +kernel, by decide +kernel⟩, List.mem_of_getElem? (i := 965) (by decide +kernel), List.mem_of_getElem? (i := 1491) (by decide +kernel), List.mem_of_getElem? (i := 1492) (by decide +kernel)⟩
theorem lw_p57 : lw_okq (⟨"DustYardsModel", "nextBuyer", "()I"⟩, 81) := ⟨⟨by decide +kernel, by decide +kernel⟩, List.mem_of_getElem? (i := 965) (by decide +kernel), List.mem_of_getElem? (i := 1495) (by decide +kernel), List.mem_of_getElem? (i := 1496) (by decide +kernel)⟩
def lw_privs_4 : List (MethodName × Nat) := [(⟨"DustYardsModel", "choose", "(I)I"⟩, 81), (⟨"DustYardsModel", "fewestCarts", "(II)I"⟩, 81), (⟨"DustYardsModel", "weighSets", "(I)V"⟩, 81), (⟨"DustYardsModel", "worthBy", "(IIII)J"⟩, 81), (⟨"DustYardsModel", "layAll", "(I)I"⟩, 81), (⟨"DustYardsModel", "layFrom", "(IIII)V"⟩, 81), (⟨"DustYardsModel", "bestTide", "(I)I"⟩, 81), (⟨"DustYardsModel", "sumOf", "([II)I"⟩, 81), (⟨"DustYardsModel", "part", "()V"⟩, 81), (⟨"DustYardsModel", "nextBuyer", "()I"⟩, 81)]
theorem lw_r4 : ∀ q ∈ lw_privs_4, lw_okq q := List.forall_mem_cons.mpr ⟨lw_p48, List.forall_mem_cons.mpr ⟨lw_p49, List.forall_mem_cons.mpr ⟨lw_p50, List.forall_mem_cons.mpr ⟨lw_p51, List.forall_mem_cons.mpr ⟨lw_p52, List.forall_mem_cons.mpr ⟨lw_p53, List.forall_mem_cons.mpr ⟨lw_p54, List.forall_mem_cons.mpr ⟨lw_p55, List.forall_mem_cons.mpr ⟨lw_p56, List.forall_mem_cons.mpr ⟨lw_p57, fun _ h => absurd h List.not_mem_nil⟩⟩⟩⟩⟩⟩⟩⟩⟩⟩
def lw_privs : List (MethodName × Nat) := lw_privs_1 ++ (lw_privs_2 ++ (lw_privs_3 ++ (lw_privs_4)))
def lw_tbl : List Cond := k2_sels lw_privs ++ tables_1
theorem lw_privs_ok : ∀ q ∈ lw_privs, lw_okq q := by
  show ∀ q ∈ lw_privs_1 ++ (lw_privs_2 ++ (lw_privs_3 ++ (lw_privs_4))), lw_okq q
  exact List.forall_mem_append.mpr ⟨lw_r1, List.forall_mem_append.mpr ⟨lw_r2, List.forall_mem_append.mpr ⟨lw_r3, lw_r4⟩⟩⟩
end
section
/-! the tables of my own machine, printed by program: classes and fields -/
def z_own : List String := ["DustYards$Barges", "DustYards$Buyers", "DustYards$Carts", "DustYards$Contracts", "DustYards$Doors", "DustYards$Finds", "DustYards$Hands", "DustYards$Prices", "DustYards$Sheet", "DustYards$Tape", "DustYards$Text", "DustYards", "DustYardsModel", "java/lang/Integer", "java/lang/Math", "java/lang/String", "java/lang/StringLatin1", "java/lang/StringUTF16", "java/util/Arrays", "jdk/internal/util/Preconditions", "DustYardsLaw"]
def z_ow (k : Nat) : String := z_own.getD k ""
def z_T (l : List (String × String × String × Bool)) : u_T := fun k => l.getD k ("", "", "", false)
def z_F0 : List (String × String × String × Bool) := [("DustYards$Barges", "weight", "[I", true), ("DustYards$Barges", "freight", "[I", true), ("DustYards$Barges", "number", "I", false)]
def z_F1 : List (String × String × String × Bool) := [("DustYards$Buyers", "need", "[I", true), ("DustYards$Buyers", "pence", "[I", true), ("DustYards$Buyers", "stopped", "[Z", true), ("DustYards$Buyers", "share", "[I", true), ("DustYards$Buyers", "number", "I", false)]
def z_F2 : List (String × String × String × Bool) := [("DustYards$Carts", "kind", "[I", true), ("DustYards$Carts", "parish", "[I", true), ("DustYards$Carts", "heap", "[I", true), ("DustYards$Carts", "day", "[I", true), ("DustYards$Carts", "weight", "[I", true), ("DustYards$Carts", "water", "[I", true), ("DustYards$Carts", "eye", "[I", true), ("DustYards$Carts", "dryAtFirst", "[I", true), ("DustYards$Carts", "dry", "[I", true), ("DustYards$Carts", "sifted", "[Z", true), ("DustYards$Carts", "number", "I", false)]
def z_F3 : List (String × String × String × Bool) := [("DustYards$Contracts", "texts", "[LDustYards$Text;", true), ("DustYards$Contracts", "parish", "[I", true), ("DustYards$Contracts", "from", "[I", true), ("DustYards$Contracts", "chosen", "[I", true), ("DustYards$Contracts", "textNumber", "I", false), ("DustYards$Contracts", "number", "I", false)]
def z_F4 : List (String × String × String × Bool) := [("DustYards$Doors", "parish", "[I", true), ("DustYards$Doors", "pounds", "[I", true), ("DustYards$Doors", "weekday", "[I", true), ("DustYards$Doors", "yards", "[I", true), ("DustYards$Doors", "missed", "[I", true), ("DustYards$Doors", "missedIn", "[I", true), ("DustYards$Doors", "asked", "[I", true), ("DustYards$Doors", "least", "[I", true), ("DustYards$Doors", "number", "I", false), ("DustYards$Doors", "missedNumber", "I", false)]
def z_F5 : List (String × String × String × Bool) := [("DustYards$Finds", "cart", "[I", true), ("DustYards$Finds", "hand", "[I", true), ("DustYards$Finds", "worth", "[I", true), ("DustYards$Finds", "number", "I", false)]
def z_F6 : List (String × String × String × Bool) := [("DustYards$Hands", "win", "[I", true), ("DustYards$Hands", "called", "[I", true), ("DustYards$Hands", "heapOf", "[I", true), ("DustYards$Hands", "bestHeap", "[I", true), ("DustYards$Hands", "calledNumber", "I", false), ("DustYards$Hands", "most", "I", false)]
def z_F7 : List (String × String × String × Bool) := [("DustYards$Prices", "sort", "[I", true), ("DustYards$Prices", "day", "[I", true), ("DustYards$Prices", "pence", "[I", true), ("DustYards$Prices", "toldIn", "[I", true), ("DustYards$Prices", "number", "I", false)]
def z_F8 : List (String × String × String × Bool) := [("DustYards$Sheet", "items", "[I", true), ("DustYards$Sheet", "sort", "I", false), ("DustYards$Sheet", "size", "I", false)]
def z_F9 : List (String × String × String × Bool) := [("DustYards$Tape", "bytes", "[I", true), ("DustYards$Tape", "size", "I", false), ("DustYards$Tape", "start", "I", false), ("DustYards$Tape", "next", "I", false), ("DustYards$Tape", "token", "I", false), ("DustYards$Tape", "number", "I", false)]
def z_F10 : List (String × String × String × Bool) := [("DustYards$Text", "steps", "[I", true), ("DustYards$Text", "ends", "[I", true), ("DustYards$Text", "size", "I", false)]
def z_F11 : List (String × String × String × Bool) := [("DustYards", "carts", "LDustYards$Carts;", true), ("DustYards", "store", "[I", true), ("DustYards", "told", "LDustYards$Prices;", true), ("DustYards", "tape", "LDustYards$Tape;", true), ("DustYards", "contracts", "LDustYards$Contracts;", true), ("DustYards", "named", "[I", true), ("DustYards", "stack", "[I", true), ("DustYards", "found", "LDustYards$Finds;", true), ("DustYards", "doors", "LDustYards$Doors;", true), ("DustYards", "rowBreeze", "[I", true), ("DustYards", "rowSoil", "[I", true), ("DustYards", "hands", "LDustYards$Hands;", true), ("DustYards", "barges", "LDustYards$Barges;", true), ("DustYards", "buyers", "LDustYards$Buyers;", true), ("DustYards", "sheets", "[LDustYards$Sheet;", true), ("DustYards", "rowNumber", "I", false), ("DustYards", "day", "I", false), ("DustYards", "soldFor", "I", false)]
def z_F12 : List (String × String × String × Bool) := [("DustYardsModel", "today", "I", false), ("DustYardsModel", "shares", "[I", true), ("DustYardsModel", "eyes", "[I", true), ("DustYardsModel", "carts", "I", false), ("DustYardsModel", "kindOf", "[I", true), ("DustYardsModel", "parishOf", "[I", true), ("DustYardsModel", "heapOf", "[I", true), ("DustYardsModel", "weight", "[I", true), ("DustYardsModel", "water", "[I", true), ("DustYardsModel", "byEye", "[I", true), ("DustYardsModel", "cameIn", "[I", true), ("DustYardsModel", "dry", "[I", true), ("DustYardsModel", "dryFirst", "[I", true), ("DustYardsModel", "isSifted", "[Z", true), ("DustYardsModel", "stock", "[I", true), ("DustYardsModel", "pence", "I", false), ("DustYardsModel", "prices", "I", false), ("DustYardsModel", "priceSort", "[I", true), ("DustYardsModel", "priceDay", "[I", true), ("DustYardsModel", "pricePence", "[I", true), ("DustYardsModel", "toldIn", "[I", true), ("DustYardsModel", "tape", "[B", true), ("DustYardsModel", "taped", "I", false), ("DustYardsModel", "texts", "I", false), ("DustYardsModel", "codes", "[I", true), ("DustYardsModel", "codeMany", "[I", true), ("DustYardsModel", "at", "I", false), ("DustYardsModel", "token", "I", false), ("DustYardsModel", "worth", "I", false), ("DustYardsModel", "place", "I", false), ("DustYardsModel", "letters", "[C", true), ("DustYardsModel", "begins", "[I", true), ("DustYardsModel", "waits", "[I", true), ("DustYardsModel", "waiting", "I", false), ("DustYardsModel", "open", "I", false), ("DustYardsModel", "depth", "I", false), ("DustYardsModel", "compared", "[Z", true), ("DustYardsModel", "codeAt", "I", false), ("DustYardsModel", "made", "I", false), ("DustYardsModel", "stack", "[I", true), ("DustYardsModel", "contracts", "I", false), ("DustYardsModel", "contractParish", "[I", true), ("DustYardsModel", "contractFrom", "[I", true), ("DustYardsModel", "contractText", "[I", true), ("DustYardsModel", "finds", "I", false), ("DustYardsModel", "findCart", "[I", true), ("DustYardsModel", "findHand", "[I", true), ("DustYardsModel", "findWorth", "[I", true), ("DustYardsModel", "doors", "I", false), ("DustYardsModel", "doorParish", "[I", true), ("DustYardsModel", "doorPounds", "[I", true), ("DustYardsModel", "doorDay", "[I", true), ("DustYardsModel", "doorYards", "[I", true), ("DustYardsModel", "missed", "I", false), ("DustYardsModel", "missedDoor", "[I", true), ("DustYardsModel", "missedDay", "[I", true), ("DustYardsModel", "chosen", "[I", true), ("DustYardsModel", "pounds", "[I", true), ("DustYardsModel", "fewest", "[I", true), ("DustYardsModel", "rows", "I", false), ("DustYardsModel", "rowBreeze", "[I", true), ("DustYardsModel", "rowSoil", "[I", true), ("DustYardsModel", "wins", "[I", true), ("DustYardsModel", "laidHand", "[I", true), ("DustYardsModel", "laidBest", "[I", true), ("DustYardsModel", "laidNow", "[I", true), ("DustYardsModel", "laidMost", "I", false), ("DustYardsModel", "barges", "I", false), ("DustYardsModel", "bargeWeight", "[I", true), ("DustYardsModel", "freight", "[I", true), ("DustYardsModel", "carried", "[I", true), ("DustYardsModel", "brought", "[I", true), ("DustYardsModel", "buyers", "I", false), ("DustYardsModel", "need", "[I", true), ("DustYardsModel", "gives", "[I", true), ("DustYardsModel", "stops", "[I", true), ("DustYardsModel", "gets", "[I", true), ("DustYardsModel", "sorts", "[I", true), ("DustYardsModel", "sizes", "[I", true), ("DustYardsModel", "items", "[I", true), ("DustYardsModel", "moved", "[I", true)]
def z_cls : List vw_C := [("DustYards$Barges", z_T z_F0, 3), ("DustYards$Buyers", z_T z_F1, 5), ("DustYards$Carts", z_T z_F2, 11), ("DustYards$Contracts", z_T z_F3, 6), ("DustYards$Doors", z_T z_F4, 10), ("DustYards$Finds", z_T z_F5, 4), ("DustYards$Hands", z_T z_F6, 6), ("DustYards$Prices", z_T z_F7, 5), ("DustYards$Sheet", z_T z_F8, 3), ("DustYards$Tape", z_T z_F9, 6), ("DustYards$Text", z_T z_F10, 3), ("DustYards", z_T z_F11, 18), ("DustYardsModel", z_T z_F12, 81)]
def z_ft : List (List FieldType) := [[.array .int, .array .int, .int], [.array .int, .array .int, .array .boolean, .array .int, .int], [.array .int, .array .int, .array .int, .array .int, .array .int, .array .int, .array .int, .array .int, .array .int, .array .boolean, .int], [.array (.object "DustYards$Text"), .array .int, .array .int, .array .int, .int, .int], [.array .int, .array .int, .array .int, .array .int, .array .int, .array .int, .array .int, .array .int, .int, .int], [.array .int, .array .int, .array .int, .int], [.array .int, .array .int, .array .int, .array .int, .int, .int], [.array .int, .array .int, .array .int, .array .int, .int], [.array .int, .int, .int], [.array .int, .int, .int, .int, .int, .int], [.array .int, .array .int, .int], [.object "DustYards$Carts", .array .int, .object "DustYards$Prices", .object "DustYards$Tape", .object "DustYards$Contracts", .array .int, .array .int, .object "DustYards$Finds", .object "DustYards$Doors", .array .int, .array .int, .object "DustYards$Hands", .object "DustYards$Barges", .object "DustYards$Buyers", .array (.object "DustYards$Sheet"), .int, .int, .int], [.int, .array .int, .array .int, .int, .array .int, .array .int, .array .int, .array .int, .array .int, .array .int, .array .int, .array .int, .array .int, .array .boolean, .array .int, .int, .int, .array .int, .array .int, .array .int, .array .int, .array .byte, .int, .int, .array .int, .array .int, .int, .int, .int, .int, .array .char, .array .int, .array .int, .int, .int, .int, .array .boolean, .int, .int, .array .int, .int, .array .int, .array .int, .array .int, .int, .array .int, .array .int, .array .int, .int, .array .int, .array .int, .array .int, .array .int, .int, .array .int, .array .int, .array .int, .array .int, .array .int, .int, .array .int, .array .int, .array .int, .array .int, .array .int, .array .int, .int, .int, .array .int, .array .int, .array .int, .array .int, .int, .array .int, .array .int, .array .int, .array .int, .array .int, .array .int, .array .int, .array .int]]
def z_fty (ci k : Nat) : FieldType := (z_ft.getD ci []).getD k .int
/-- what a new object holds: an int field none, a reference some none -/
def z_df (ci : Nat) : List (Option (Option Nat)) := (z_ft.getD ci []).map fun t => if t = .int then none else some none
def z_tbl : List Cond := lw_tbl.filter goodWord
theorem z_in {w : Cond} (h : w ∈ lw_tbl) (g : goodWord w = true) : w ∈ z_tbl := List.mem_filter.mpr ⟨h, g⟩
theorem z_of1 {w : Cond} (h : w ∈ tables_1) : w ∈ lw_tbl := List.mem_append_right _ h
theorem z_s1 {w : Cond} (h : w ∈ tables_1_1) : w ∈ lw_tbl := z_of1 (List.mem_append_left _ h)
theorem z_s2 {w : Cond} (h : w ∈ tables_1_2) : w ∈ lw_tbl := z_of1 (List.mem_append_right _ (List.mem_append_left _ h))
theorem z_s3 {w : Cond} (h : w ∈ tables_1_3) : w ∈ lw_tbl := z_of1 (List.mem_append_right _ (List.mem_append_right _ (List.mem_append_left _ h)))
theorem z_s4 {w : Cond} (h : w ∈ tables_1_4) : w ∈ lw_tbl := z_of1 (List.mem_append_right _ (List.mem_append_right _ (List.mem_append_right _ (List.mem_append_left _ h))))
theorem z_s5 {w : Cond} (h : w ∈ tables_1_5) : w ∈ lw_tbl := z_of1 (List.mem_append_right _ (List.mem_append_right _ (List.mem_append_right _ (List.mem_append_right _ (List.mem_append_left _ h)))))
theorem z_s6 {w : Cond} (h : w ∈ tables_1_6) : w ∈ lw_tbl := z_of1 (List.mem_append_right _ (List.mem_append_right _ (List.mem_append_right _ (List.mem_append_right _ (List.mem_append_right _ (List.mem_append_left _ h))))))
theorem z_s7 {w : Cond} (h : w ∈ tables_1_7) : w ∈ lw_tbl := z_of1 (List.mem_append_right _ (List.mem_append_right _ (List.mem_append_right _ (List.mem_append_right _ (List.mem_append_right _ (List.mem_append_right _ (h)))))))
set_option maxRecDepth 100000 in
theorem z_lay0 : ∀ w ∈ u_ws "DustYards$Barges" (z_T z_F0) 3, w ∈ lw_tbl := by
  have h : (u_ws "DustYards$Barges" (z_T z_F0) 3).map some = ([280, 282, 284] : List Nat).map fun i => tables_1[i]? := by decide +kernel
  intro w hw
  have h1 : some w ∈ (u_ws "DustYards$Barges" (z_T z_F0) 3).map some := List.mem_map.mpr ⟨w, hw, rfl⟩
  rw [h] at h1
  obtain ⟨j, -, hj⟩ := List.mem_map.mp h1
  exact z_of1 (List.mem_of_getElem? hj)
set_option maxRecDepth 100000 in
theorem z_lay1 : ∀ w ∈ u_ws "DustYards$Buyers" (z_T z_F1) 5, w ∈ lw_tbl := by
  have h : (u_ws "DustYards$Buyers" (z_T z_F1) 5).map some = ([301, 303, 305, 307, 309] : List Nat).map fun i => tables_1[i]? := by decide +kernel
  intro w hw
  have h1 : some w ∈ (u_ws "DustYards$Buyers" (z_T z_F1) 5).map some := List.mem_map.mpr ⟨w, hw, rfl⟩
  rw [h] at h1
  obtain ⟨j, -, hj⟩ := List.mem_map.mp h1
  exact z_of1 (List.mem_of_getElem? hj)
set_option maxRecDepth 100000 in
theorem z_lay2 : ∀ w ∈ u_ws "DustYards$Carts" (z_T z_F2) 11, w ∈ lw_tbl := by
  have h : (u_ws "DustYards$Carts" (z_T z_F2) 11).map some = ([57, 59, 61, 63, 65, 67, 69, 71, 73, 75, 77] : List Nat).map fun i => tables_1[i]? := by decide +kernel
  intro w hw
  have h1 : some w ∈ (u_ws "DustYards$Carts" (z_T z_F2) 11).map some := List.mem_map.mpr ⟨w, hw, rfl⟩
  rw [h] at h1
  obtain ⟨j, -, hj⟩ := List.mem_map.mp h1
  exact z_of1 (List.mem_of_getElem? hj)
set_option maxRecDepth 100000 in
theorem z_lay3 : ∀ w ∈ u_ws "DustYards$Contracts" (z_T z_F3) 6, w ∈ lw_tbl := by
  have h : (u_ws "DustYards$Contracts" (z_T z_F3) 6).map some = ([165, 167, 169, 171, 173, 175] : List Nat).map fun i => tables_1[i]? := by decide +kernel
  intro w hw
  have h1 : some w ∈ (u_ws "DustYards$Contracts" (z_T z_F3) 6).map some := List.mem_map.mpr ⟨w, hw, rfl⟩
  rw [h] at h1
  obtain ⟨j, -, hj⟩ := List.mem_map.mp h1
  exact z_of1 (List.mem_of_getElem? hj)
set_option maxRecDepth 100000 in
theorem z_lay4 : ∀ w ∈ u_ws "DustYards$Doors" (z_T z_F4) 10, w ∈ lw_tbl := by
  have h : (u_ws "DustYards$Doors" (z_T z_F4) 10).map some = ([221, 223, 225, 227, 229, 231, 233, 235, 237, 239] : List Nat).map fun i => tables_1[i]? := by decide +kernel
  intro w hw
  have h1 : some w ∈ (u_ws "DustYards$Doors" (z_T z_F4) 10).map some := List.mem_map.mpr ⟨w, hw, rfl⟩
  rw [h] at h1
  obtain ⟨j, -, hj⟩ := List.mem_map.mp h1
  exact z_of1 (List.mem_of_getElem? hj)
set_option maxRecDepth 100000 in
theorem z_lay5 : ∀ w ∈ u_ws "DustYards$Finds" (z_T z_F5) 4, w ∈ lw_tbl := by
  have h : (u_ws "DustYards$Finds" (z_T z_F5) 4).map some = ([192, 194, 196, 198] : List Nat).map fun i => tables_1[i]? := by decide +kernel
  intro w hw
  have h1 : some w ∈ (u_ws "DustYards$Finds" (z_T z_F5) 4).map some := List.mem_map.mpr ⟨w, hw, rfl⟩
  rw [h] at h1
  obtain ⟨j, -, hj⟩ := List.mem_map.mp h1
  exact z_of1 (List.mem_of_getElem? hj)
set_option maxRecDepth 100000 in
theorem z_lay6 : ∀ w ∈ u_ws "DustYards$Hands" (z_T z_F6) 6, w ∈ lw_tbl := by
  have h : (u_ws "DustYards$Hands" (z_T z_F6) 6).map some = ([256, 258, 260, 262, 264, 266] : List Nat).map fun i => tables_1[i]? := by decide +kernel
  intro w hw
  have h1 : some w ∈ (u_ws "DustYards$Hands" (z_T z_F6) 6).map some := List.mem_map.mpr ⟨w, hw, rfl⟩
  rw [h] at h1
  obtain ⟨j, -, hj⟩ := List.mem_map.mp h1
  exact z_of1 (List.mem_of_getElem? hj)
set_option maxRecDepth 100000 in
theorem z_lay7 : ∀ w ∈ u_ws "DustYards$Prices" (z_T z_F7) 5, w ∈ lw_tbl := by
  have h : (u_ws "DustYards$Prices" (z_T z_F7) 5).map some = ([94, 96, 98, 100, 102] : List Nat).map fun i => tables_1[i]? := by decide +kernel
  intro w hw
  have h1 : some w ∈ (u_ws "DustYards$Prices" (z_T z_F7) 5).map some := List.mem_map.mpr ⟨w, hw, rfl⟩
  rw [h] at h1
  obtain ⟨j, -, hj⟩ := List.mem_map.mp h1
  exact z_of1 (List.mem_of_getElem? hj)
set_option maxRecDepth 100000 in
theorem z_lay8 : ∀ w ∈ u_ws "DustYards$Sheet" (z_T z_F8) 3, w ∈ lw_tbl := by
  have h : (u_ws "DustYards$Sheet" (z_T z_F8) 3).map some = ([325, 327, 329] : List Nat).map fun i => tables_1[i]? := by decide +kernel
  intro w hw
  have h1 : some w ∈ (u_ws "DustYards$Sheet" (z_T z_F8) 3).map some := List.mem_map.mpr ⟨w, hw, rfl⟩
  rw [h] at h1
  obtain ⟨j, -, hj⟩ := List.mem_map.mp h1
  exact z_of1 (List.mem_of_getElem? hj)
set_option maxRecDepth 100000 in
theorem z_lay9 : ∀ w ∈ u_ws "DustYards$Tape" (z_T z_F9) 6, w ∈ lw_tbl := by
  have h : (u_ws "DustYards$Tape" (z_T z_F9) 6).map some = ([121, 123, 125, 127, 129, 131] : List Nat).map fun i => tables_1[i]? := by decide +kernel
  intro w hw
  have h1 : some w ∈ (u_ws "DustYards$Tape" (z_T z_F9) 6).map some := List.mem_map.mpr ⟨w, hw, rfl⟩
  rw [h] at h1
  obtain ⟨j, -, hj⟩ := List.mem_map.mp h1
  exact z_of1 (List.mem_of_getElem? hj)
set_option maxRecDepth 100000 in
theorem z_lay10 : ∀ w ∈ u_ws "DustYards$Text" (z_T z_F10) 3, w ∈ lw_tbl := by
  have h : (u_ws "DustYards$Text" (z_T z_F10) 3).map some = ([150, 152, 154] : List Nat).map fun i => tables_1[i]? := by decide +kernel
  intro w hw
  have h1 : some w ∈ (u_ws "DustYards$Text" (z_T z_F10) 3).map some := List.mem_map.mpr ⟨w, hw, rfl⟩
  rw [h] at h1
  obtain ⟨j, -, hj⟩ := List.mem_map.mp h1
  exact z_of1 (List.mem_of_getElem? hj)
set_option maxRecDepth 100000 in
theorem z_lay11 : ∀ w ∈ u_ws "DustYards" (z_T z_F11) 18, w ∈ lw_tbl := by
  have h : (u_ws "DustYards" (z_T z_F11) 18).map some = ([506, 508, 510, 512, 514, 516, 518, 520, 522, 524, 526, 528, 530, 532, 534, 536, 538, 540] : List Nat).map fun i => tables_1[i]? := by decide +kernel
  intro w hw
  have h1 : some w ∈ (u_ws "DustYards" (z_T z_F11) 18).map some := List.mem_map.mpr ⟨w, hw, rfl⟩
  rw [h] at h1
  obtain ⟨j, -, hj⟩ := List.mem_map.mp h1
  exact z_of1 (List.mem_of_getElem? hj)
set_option maxRecDepth 100000 in
theorem z_lay12 : ∀ w ∈ u_ws "DustYardsModel" (z_T z_F12) 81, w ∈ lw_tbl := by
  have h : (u_ws "DustYardsModel" (z_T z_F12) 81).map some = ([1181, 1183, 1185, 1187, 1189, 1191, 1193, 1195, 1197, 1199, 1201, 1203, 1205, 1207, 1209, 1211, 1213, 1215, 1217, 1219, 1221, 1223, 1225, 1227, 1229, 1231, 1233, 1235, 1237, 1239, 1241, 1243, 1245, 1247, 1249, 1251, 1253, 1255, 1257, 1259, 1261, 1263, 1265, 1267, 1269, 1271, 1273, 1275, 1277, 1279, 1281, 1283, 1285, 1287, 1289, 1291, 1293, 1295, 1297, 1299, 1301, 1303, 1305, 1307, 1309, 1311, 1313, 1315, 1317, 1319, 1321, 1323, 1325, 1327, 1329, 1331, 1333, 1335, 1337, 1339, 1341] : List Nat).map fun i => tables_1[i]? := by decide +kernel
  intro w hw
  have h1 : some w ∈ (u_ws "DustYardsModel" (z_T z_F12) 81).map some := List.mem_map.mpr ⟨w, hw, rfl⟩
  rw [h] at h1
  obtain ⟨j, -, hj⟩ := List.mem_map.mp h1
  exact z_of1 (List.mem_of_getElem? hj)
def z_okT (t : FieldType) : Bool := match t with
  | .object _ => true
  | .array _ => true
  | _ => false
def z_okC (ci : Nat) (q : vw_C) : Prop := (∀ w ∈ u_ws q.1 q.2.1 q.2.2, w ∈ z_tbl) ∧ (∀ a, a < q.2.2 → ∀ b, b < q.2.2 → a ≠ b → (q.2.1 a).2.1 ≠ (q.2.1 b).2.1) ∧ (∀ k, k < q.2.2 → parseFieldDescriptor (q.2.1 k).2.2.1 = some (z_fty ci k)) ∧ Cond.instantiable q.1 q.2.2 ∈ z_tbl ∧ Cond.initialized q.1 ∈ z_tbl ∧ (∀ k, k < q.2.2 → (q.2.1 k).1 = q.1) ∧ (z_df ci).length = q.2.2 ∧ (∀ k, k < q.2.2 → (z_fty ci k = .int ∧ (q.2.1 k).2.2.2 = false ∧ (z_df ci)[k]? = some none) ∨ (z_okT (z_fty ci k) = true ∧ (q.2.1 k).2.2.2 = true ∧ (z_df ci)[k]? = some (some none)))
set_option maxRecDepth 100000 in
theorem z_okC0 : z_okC 0 ("DustYards$Barges", z_T z_F0, 3) := ⟨fun w hw => z_in (z_lay0 w hw) (List.all_eq_true.mp (show (u_ws "DustYards$Barges" (z_T z_F0) 3).all goodWord = true by decide +kernel) w hw), by decide +kernel, by decide +kernel, z_in (z_s2 (List.mem_of_getElem? (i := 30) (by decide +kernel))) (by decide +kernel), z_in (z_s1 (List.mem_of_getElem? (i := 10) (by decide +kernel))) (by decide +kernel), by decide +kernel, by decide +kernel, by decide +kernel⟩
set_option maxRecDepth 100000 in
theorem z_okC1 : z_okC 1 ("DustYards$Buyers", z_T z_F1, 5) := ⟨fun w hw => z_in (z_lay1 w hw) (List.all_eq_true.mp (show (u_ws "DustYards$Buyers" (z_T z_F1) 5).all goodWord = true by decide +kernel) w hw), by decide +kernel, by decide +kernel, z_in (z_s2 (List.mem_of_getElem? (i := 48) (by decide +kernel))) (by decide +kernel), z_in (z_s1 (List.mem_of_getElem? (i := 11) (by decide +kernel))) (by decide +kernel), by decide +kernel, by decide +kernel, by decide +kernel⟩
set_option maxRecDepth 100000 in
theorem z_okC2 : z_okC 2 ("DustYards$Carts", z_T z_F2, 11) := ⟨fun w hw => z_in (z_lay2 w hw) (List.all_eq_true.mp (show (u_ws "DustYards$Carts" (z_T z_F2) 11).all goodWord = true by decide +kernel) w hw), by decide +kernel, by decide +kernel, z_in (z_s1 (List.mem_of_getElem? (i := 31) (by decide +kernel))) (by decide +kernel), z_in (z_s1 (List.mem_of_getElem? (i := 2) (by decide +kernel))) (by decide +kernel), by decide +kernel, by decide +kernel, by decide +kernel⟩
set_option maxRecDepth 100000 in
theorem z_okC3 : z_okC 3 ("DustYards$Contracts", z_T z_F3, 6) := ⟨fun w hw => z_in (z_lay3 w hw) (List.all_eq_true.mp (show (u_ws "DustYards$Contracts" (z_T z_F3) 6).all goodWord = true by decide +kernel) w hw), by decide +kernel, by decide +kernel, z_in (z_s1 (List.mem_of_getElem? (i := 135) (by decide +kernel))) (by decide +kernel), z_in (z_s1 (List.mem_of_getElem? (i := 5) (by decide +kernel))) (by decide +kernel), by decide +kernel, by decide +kernel, by decide +kernel⟩
set_option maxRecDepth 100000 in
theorem z_okC4 : z_okC 4 ("DustYards$Doors", z_T z_F4, 10) := ⟨fun w hw => z_in (z_lay4 w hw) (List.all_eq_true.mp (show (u_ws "DustYards$Doors" (z_T z_F4) 10).all goodWord = true by decide +kernel) w hw), by decide +kernel, by decide +kernel, z_in (z_s1 (List.mem_of_getElem? (i := 202) (by decide +kernel))) (by decide +kernel), z_in (z_s1 (List.mem_of_getElem? (i := 8) (by decide +kernel))) (by decide +kernel), by decide +kernel, by decide +kernel, by decide +kernel⟩
set_option maxRecDepth 100000 in
theorem z_okC5 : z_okC 5 ("DustYards$Finds", z_T z_F5, 4) := ⟨fun w hw => z_in (z_lay5 w hw) (List.all_eq_true.mp (show (u_ws "DustYards$Finds" (z_T z_F5) 4).all goodWord = true by decide +kernel) w hw), by decide +kernel, by decide +kernel, z_in (z_s1 (List.mem_of_getElem? (i := 179) (by decide +kernel))) (by decide +kernel), z_in (z_s1 (List.mem_of_getElem? (i := 7) (by decide +kernel))) (by decide +kernel), by decide +kernel, by decide +kernel, by decide +kernel⟩
set_option maxRecDepth 100000 in
theorem z_okC6 : z_okC 6 ("DustYards$Hands", z_T z_F6, 6) := ⟨fun w hw => z_in (z_lay6 w hw) (List.all_eq_true.mp (show (u_ws "DustYards$Hands" (z_T z_F6) 6).all goodWord = true by decide +kernel) w hw), by decide +kernel, by decide +kernel, z_in (z_s2 (List.mem_of_getElem? (i := 3) (by decide +kernel))) (by decide +kernel), z_in (z_s1 (List.mem_of_getElem? (i := 9) (by decide +kernel))) (by decide +kernel), by decide +kernel, by decide +kernel, by decide +kernel⟩
set_option maxRecDepth 100000 in
theorem z_okC7 : z_okC 7 ("DustYards$Prices", z_T z_F7, 5) := ⟨fun w hw => z_in (z_lay7 w hw) (List.all_eq_true.mp (show (u_ws "DustYards$Prices" (z_T z_F7) 5).all goodWord = true by decide +kernel) w hw), by decide +kernel, by decide +kernel, z_in (z_s1 (List.mem_of_getElem? (i := 83) (by decide +kernel))) (by decide +kernel), z_in (z_s1 (List.mem_of_getElem? (i := 3) (by decide +kernel))) (by decide +kernel), by decide +kernel, by decide +kernel, by decide +kernel⟩
set_option maxRecDepth 100000 in
theorem z_okC8 : z_okC 8 ("DustYards$Sheet", z_T z_F8, 3) := ⟨fun w hw => z_in (z_lay8 w hw) (List.all_eq_true.mp (show (u_ws "DustYards$Sheet" (z_T z_F8) 3).all goodWord = true by decide +kernel) w hw), by decide +kernel, by decide +kernel, z_in (z_s2 (List.mem_of_getElem? (i := 74) (by decide +kernel))) (by decide +kernel), z_in (z_s1 (List.mem_of_getElem? (i := 12) (by decide +kernel))) (by decide +kernel), by decide +kernel, by decide +kernel, by decide +kernel⟩
set_option maxRecDepth 100000 in
theorem z_okC9 : z_okC 9 ("DustYards$Tape", z_T z_F9, 6) := ⟨fun w hw => z_in (z_lay9 w hw) (List.all_eq_true.mp (show (u_ws "DustYards$Tape" (z_T z_F9) 6).all goodWord = true by decide +kernel) w hw), by decide +kernel, by decide +kernel, z_in (z_s1 (List.mem_of_getElem? (i := 106) (by decide +kernel))) (by decide +kernel), z_in (z_s1 (List.mem_of_getElem? (i := 4) (by decide +kernel))) (by decide +kernel), by decide +kernel, by decide +kernel, by decide +kernel⟩
set_option maxRecDepth 100000 in
theorem z_okC10 : z_okC 10 ("DustYards$Text", z_T z_F10, 3) := ⟨fun w hw => z_in (z_lay10 w hw) (List.all_eq_true.mp (show (u_ws "DustYards$Text" (z_T z_F10) 3).all goodWord = true by decide +kernel) w hw), by decide +kernel, by decide +kernel, z_in (z_s1 (List.mem_of_getElem? (i := 142) (by decide +kernel))) (by decide +kernel), z_in (z_s1 (List.mem_of_getElem? (i := 6) (by decide +kernel))) (by decide +kernel), by decide +kernel, by decide +kernel, by decide +kernel⟩
set_option maxRecDepth 100000 in
theorem z_okC11 : z_okC 11 ("DustYards", z_T z_F11, 18) := ⟨fun w hw => z_in (z_lay11 w hw) (List.all_eq_true.mp (show (u_ws "DustYards" (z_T z_F11) 18).all goodWord = true by decide +kernel) w hw), by decide +kernel, by decide +kernel, z_in (z_s1 (List.mem_of_getElem? (i := 23) (by decide +kernel))) (by decide +kernel), z_in (z_s1 (List.mem_of_getElem? (i := 1) (by decide +kernel))) (by decide +kernel), by decide +kernel, by decide +kernel, by decide +kernel⟩
set_option maxRecDepth 100000 in
theorem z_okC12 : z_okC 12 ("DustYardsModel", z_T z_F12, 81) := ⟨fun w hw => z_in (z_lay12 w hw) (List.all_eq_true.mp (show (u_ws "DustYardsModel" (z_T z_F12) 81).all goodWord = true by decide +kernel) w hw), by decide +kernel, by decide +kernel, z_in (z_s5 (List.mem_of_getElem? (i := 5) (by decide +kernel))) (by decide +kernel), z_in (z_s1 (List.mem_of_getElem? (i := 17) (by decide +kernel))) (by decide +kernel), by decide +kernel, by decide +kernel, by decide +kernel⟩
theorem z_cls_ok {ci : Nat} {q : vw_C} (h : z_cls[ci]? = some q) : z_okC ci q := by
  match ci, h with
  | 0, h => cases h; exact z_okC0
  | 1, h => cases h; exact z_okC1
  | 2, h => cases h; exact z_okC2
  | 3, h => cases h; exact z_okC3
  | 4, h => cases h; exact z_okC4
  | 5, h => cases h; exact z_okC5
  | 6, h => cases h; exact z_okC6
  | 7, h => cases h; exact z_okC7
  | 8, h => cases h; exact z_okC8
  | 9, h => cases h; exact z_okC9
  | 10, h => cases h; exact z_okC10
  | 11, h => cases h; exact z_okC11
  | 12, h => cases h; exact z_okC12
  | k + 13, h => simp [z_cls] at h
theorem z_nm {ci : Nat} {q : vw_C} (h : z_cls[ci]? = some q) : q.1 = z_ow ci := by
  match ci, h with
  | 0, h => cases h; rfl
  | 1, h => cases h; rfl
  | 2, h => cases h; rfl
  | 3, h => cases h; rfl
  | 4, h => cases h; rfl
  | 5, h => cases h; rfl
  | 6, h => cases h; rfl
  | 7, h => cases h; rfl
  | 8, h => cases h; rfl
  | 9, h => cases h; rfl
  | 10, h => cases h; rfl
  | 11, h => cases h; rfl
  | 12, h => cases h; rfl
  | k + 13, h => simp [z_cls] at h
end
section
/-- a method: its name, its bytes, its places for locals, what it answers, its class, its instructions -/
abbrev zM : Type := MethodName × ByteArray × Nat × Option FieldType × Nat × List (Nat × Instr × Nat)
def z_okM (e : zM) : Prop := Cond.code e.1 e.2.1 e.2.2.1 e.2.2.2.1 ∈ z_tbl ∧ (∀ q ∈ e.2.2.2.2.2, decode e.2.1 q.1 = .ok q.2) ∧ e.2.2.1 ≤ 21 ∧ e.1.cls = z_ow e.2.2.2.2.1 ∧ Cond.initialized e.1.cls ∈ z_tbl ∧ (e.1.cls ≠ "java/lang/invoke/MethodHandle" ∧ e.1.cls ≠ "java/lang/invoke/VarHandle") ∧ plainFor e.1 = true
def z_i0_0 : List (Nat × Instr × Nat) := [(0, .new 7, 3), (3, .dup, 1), (4, .invokespecial 9, 3), (7, .astore_n 1, 1), (8, .new 10, 3), (11, .dup, 1), (12, .invokespecial 12, 3), (15, .astore_n 2, 1), (16, .iconst 0, 1), (17, .istore_n 3, 1), (18, .iload_n 3, 1), (19, .aload_n 0, 1), (20, .arraylength, 1), (21, .bipush 7, 2), (23, .isub, 1), (24, .if_icmp .gt 1578, 3), (27, .aload_n 0, 1), (28, .iload_n 3, 1), (29, .iaload, 1), (30, .bipush 63, 2), (32, .iand, 1), (33, .tableswitch 1563 0 36 #[163, 186, 261, 294, 327, 360, 383, 406, 439, 482, 525, 588, 601, 644, 677, 711, 755, 798, 821, 845, 898, 921, 964, 997, 1051, 1094, 1127, 1160, 1193, 1226, 1259, 1283, 1306, 1349, 1392, 1455, 1530], 163), (196, .aload_n 1, 1), (197, .aload_n 0, 1), (198, .iload_n 3, 1), (199, .iconst 1, 1), (200, .iadd, 1), (201, .iaload, 1), (202, .invokevirtual 13, 3), (205, .aload_n 2, 1), (206, .aload_n 0, 1), (207, .iload_n 3, 1), (208, .iconst 1, 1), (209, .iadd, 1), (210, .iaload, 1), (211, .invokevirtual 17, 3), (214, .if_icmp .eq 1382, 3), (217, .iconst 0, 1), (218, .ireturn, 1), (219, .aload_n 1, 1), (220, .aload_n 0, 1), (221, .iload_n 3, 1), (222, .iconst 1, 1), (223, .iadd, 1), (224, .iaload, 1), (225, .aload_n 0, 1), (226, .iload_n 3, 1), (227, .iconst 2, 1), (228, .iadd, 1), (229, .iaload, 1), (230, .aload_n 0, 1), (231, .iload_n 3, 1), (232, .iconst 3, 1), (233, .iadd, 1), (234, .iaload, 1), (235, .aload_n 0, 1), (236, .iload_n 3, 1), (237, .iconst 4, 1), (238, .iadd, 1), (239, .iaload, 1)]
def z_i0_1 : List (Nat × Instr × Nat) := [(240, .aload_n 0, 1), (241, .iload_n 3, 1), (242, .iconst 5, 1), (243, .iadd, 1), (244, .iaload, 1), (245, .aload_n 0, 1), (246, .iload_n 3, 1), (247, .bipush 6, 2), (249, .iadd, 1), (250, .iaload, 1), (251, .invokevirtual 18, 3), (254, .aload_n 2, 1), (255, .aload_n 0, 1), (256, .iload_n 3, 1), (257, .iconst 1, 1), (258, .iadd, 1), (259, .iaload, 1), (260, .aload_n 0, 1), (261, .iload_n 3, 1), (262, .iconst 2, 1), (263, .iadd, 1), (264, .iaload, 1), (265, .aload_n 0, 1), (266, .iload_n 3, 1), (267, .iconst 3, 1), (268, .iadd, 1), (269, .iaload, 1), (270, .aload_n 0, 1), (271, .iload_n 3, 1), (272, .iconst 4, 1), (273, .iadd, 1), (274, .iaload, 1), (275, .aload_n 0, 1), (276, .iload_n 3, 1), (277, .iconst 5, 1), (278, .iadd, 1), (279, .iaload, 1), (280, .aload_n 0, 1), (281, .iload_n 3, 1), (282, .bipush 6, 2), (284, .iadd, 1), (285, .iaload, 1), (286, .invokevirtual 22, 3), (289, .if_icmp .eq 1307, 3), (292, .iconst 0, 1), (293, .ireturn, 1), (294, .aload_n 1, 1), (295, .aload_n 0, 1), (296, .iload_n 3, 1), (297, .iconst 1, 1), (298, .iadd, 1), (299, .iaload, 1), (300, .aload_n 0, 1), (301, .iload_n 3, 1), (302, .iconst 2, 1), (303, .iadd, 1), (304, .iaload, 1), (305, .invokevirtual 23, 3), (308, .aload_n 2, 1), (309, .aload_n 0, 1)]
def z_i0_2 : List (Nat × Instr × Nat) := [(310, .iload_n 3, 1), (311, .iconst 1, 1), (312, .iadd, 1), (313, .iaload, 1), (314, .aload_n 0, 1), (315, .iload_n 3, 1), (316, .iconst 2, 1), (317, .iadd, 1), (318, .iaload, 1), (319, .invokevirtual 27, 3), (322, .if_icmp .eq 1274, 3), (325, .iconst 0, 1), (326, .ireturn, 1), (327, .aload_n 1, 1), (328, .aload_n 0, 1), (329, .iload_n 3, 1), (330, .iconst 1, 1), (331, .iadd, 1), (332, .iaload, 1), (333, .aload_n 0, 1), (334, .iload_n 3, 1), (335, .iconst 2, 1), (336, .iadd, 1), (337, .iaload, 1), (338, .invokevirtual 28, 3), (341, .aload_n 2, 1), (342, .aload_n 0, 1), (343, .iload_n 3, 1), (344, .iconst 1, 1), (345, .iadd, 1), (346, .iaload, 1), (347, .aload_n 0, 1), (348, .iload_n 3, 1), (349, .iconst 2, 1), (350, .iadd, 1), (351, .iaload, 1), (352, .invokevirtual 31, 3), (355, .if_icmp .eq 1241, 3), (358, .iconst 0, 1), (359, .ireturn, 1), (360, .aload_n 1, 1), (361, .aload_n 0, 1), (362, .iload_n 3, 1), (363, .iconst 1, 1), (364, .iadd, 1), (365, .iaload, 1), (366, .aload_n 0, 1), (367, .iload_n 3, 1), (368, .iconst 2, 1), (369, .iadd, 1), (370, .iaload, 1), (371, .invokevirtual 32, 3), (374, .aload_n 2, 1), (375, .aload_n 0, 1), (376, .iload_n 3, 1), (377, .iconst 1, 1), (378, .iadd, 1), (379, .iaload, 1), (380, .aload_n 0, 1), (381, .iload_n 3, 1)]
def z_i0_3 : List (Nat × Instr × Nat) := [(382, .iconst 2, 1), (383, .iadd, 1), (384, .iaload, 1), (385, .invokevirtual 35, 3), (388, .if_icmp .eq 1208, 3), (391, .iconst 0, 1), (392, .ireturn, 1), (393, .aload_n 1, 1), (394, .aload_n 0, 1), (395, .iload_n 3, 1), (396, .iconst 1, 1), (397, .iadd, 1), (398, .iaload, 1), (399, .invokevirtual 36, 3), (402, .aload_n 2, 1), (403, .aload_n 0, 1), (404, .iload_n 3, 1), (405, .iconst 1, 1), (406, .iadd, 1), (407, .iaload, 1), (408, .invokevirtual 39, 3), (411, .if_icmp .eq 1185, 3), (414, .iconst 0, 1), (415, .ireturn, 1), (416, .aload_n 1, 1), (417, .aload_n 0, 1), (418, .iload_n 3, 1), (419, .iconst 1, 1), (420, .iadd, 1), (421, .iaload, 1), (422, .invokevirtual 40, 3), (425, .aload_n 2, 1), (426, .aload_n 0, 1), (427, .iload_n 3, 1), (428, .iconst 1, 1), (429, .iadd, 1), (430, .iaload, 1), (431, .invokevirtual 43, 3), (434, .if_icmp .eq 1162, 3), (437, .iconst 0, 1), (438, .ireturn, 1), (439, .aload_n 1, 1), (440, .aload_n 0, 1), (441, .iload_n 3, 1), (442, .iconst 1, 1), (443, .iadd, 1), (444, .iaload, 1), (445, .aload_n 0, 1), (446, .iload_n 3, 1), (447, .iconst 2, 1), (448, .iadd, 1), (449, .iaload, 1), (450, .invokevirtual 44, 3), (453, .aload_n 2, 1), (454, .aload_n 0, 1), (455, .iload_n 3, 1), (456, .iconst 1, 1), (457, .iadd, 1), (458, .iaload, 1), (459, .aload_n 0, 1)]
def z_i0_4 : List (Nat × Instr × Nat) := [(460, .iload_n 3, 1), (461, .iconst 2, 1), (462, .iadd, 1), (463, .iaload, 1), (464, .invokevirtual 47, 3), (467, .if_icmp .eq 1129, 3), (470, .iconst 0, 1), (471, .ireturn, 1), (472, .aload_n 1, 1), (473, .aload_n 0, 1), (474, .iload_n 3, 1), (475, .iconst 1, 1), (476, .iadd, 1), (477, .iaload, 1), (478, .aload_n 0, 1), (479, .iload_n 3, 1), (480, .iconst 2, 1), (481, .iadd, 1), (482, .iaload, 1), (483, .aload_n 0, 1), (484, .iload_n 3, 1), (485, .iconst 3, 1), (486, .iadd, 1), (487, .iaload, 1), (488, .invokevirtual 48, 3), (491, .aload_n 2, 1), (492, .aload_n 0, 1), (493, .iload_n 3, 1), (494, .iconst 1, 1), (495, .iadd, 1), (496, .iaload, 1), (497, .aload_n 0, 1), (498, .iload_n 3, 1), (499, .iconst 2, 1), (500, .iadd, 1), (501, .iaload, 1), (502, .aload_n 0, 1), (503, .iload_n 3, 1), (504, .iconst 3, 1), (505, .iadd, 1), (506, .iaload, 1), (507, .invokevirtual 52, 3), (510, .if_icmp .eq 1086, 3), (513, .iconst 0, 1), (514, .ireturn, 1), (515, .aload_n 1, 1), (516, .aload_n 0, 1), (517, .iload_n 3, 1), (518, .iconst 1, 1), (519, .iadd, 1), (520, .iaload, 1), (521, .aload_n 0, 1), (522, .iload_n 3, 1), (523, .iconst 2, 1), (524, .iadd, 1), (525, .iaload, 1), (526, .aload_n 0, 1), (527, .iload_n 3, 1), (528, .iconst 3, 1), (529, .iadd, 1)]
def z_i0_5 : List (Nat × Instr × Nat) := [(530, .iaload, 1), (531, .invokevirtual 53, 3), (534, .aload_n 2, 1), (535, .aload_n 0, 1), (536, .iload_n 3, 1), (537, .iconst 1, 1), (538, .iadd, 1), (539, .iaload, 1), (540, .aload_n 0, 1), (541, .iload_n 3, 1), (542, .iconst 2, 1), (543, .iadd, 1), (544, .iaload, 1), (545, .aload_n 0, 1), (546, .iload_n 3, 1), (547, .iconst 3, 1), (548, .iadd, 1), (549, .iaload, 1), (550, .invokevirtual 56, 3), (553, .if_icmp .eq 1043, 3), (556, .iconst 0, 1), (557, .ireturn, 1), (558, .aload_n 1, 1), (559, .aload_n 0, 1), (560, .iload_n 3, 1), (561, .iconst 1, 1), (562, .iadd, 1), (563, .iaload, 1), (564, .aload_n 0, 1), (565, .iload_n 3, 1), (566, .iconst 2, 1), (567, .iadd, 1), (568, .iaload, 1), (569, .i2l, 1), (570, .bipush 32, 2), (572, .lshl, 1), (573, .aload_n 0, 1), (574, .iload_n 3, 1), (575, .iconst 3, 1), (576, .iadd, 1), (577, .iaload, 1), (578, .i2l, 1), (579, .ldc2_w 57, 3), (582, .land, 1), (583, .lor, 1), (584, .invokevirtual 59, 3), (587, .aload_n 2, 1), (588, .aload_n 0, 1), (589, .iload_n 3, 1), (590, .iconst 1, 1), (591, .iadd, 1), (592, .iaload, 1), (593, .aload_n 0, 1), (594, .iload_n 3, 1), (595, .iconst 2, 1), (596, .iadd, 1), (597, .iaload, 1), (598, .i2l, 1), (599, .bipush 32, 2), (601, .lshl, 1)]
def z_i0_6 : List (Nat × Instr × Nat) := [(602, .aload_n 0, 1), (603, .iload_n 3, 1), (604, .iconst 3, 1), (605, .iadd, 1), (606, .iaload, 1), (607, .i2l, 1), (608, .ldc2_w 57, 3), (611, .land, 1), (612, .lor, 1), (613, .invokevirtual 63, 3), (616, .if_icmp .eq 980, 3), (619, .iconst 0, 1), (620, .ireturn, 1), (621, .aload_n 1, 1), (622, .invokevirtual 64, 3), (625, .aload_n 2, 1), (626, .invokevirtual 68, 3), (629, .if_icmp .eq 967, 3), (632, .iconst 0, 1), (633, .ireturn, 1), (634, .aload_n 1, 1), (635, .aload_n 0, 1), (636, .iload_n 3, 1), (637, .iconst 1, 1), (638, .iadd, 1), (639, .iaload, 1), (640, .aload_n 0, 1), (641, .iload_n 3, 1), (642, .iconst 2, 1), (643, .iadd, 1), (644, .iaload, 1), (645, .aload_n 0, 1), (646, .iload_n 3, 1), (647, .iconst 3, 1), (648, .iadd, 1), (649, .iaload, 1), (650, .invokevirtual 69, 3), (653, .aload_n 2, 1), (654, .aload_n 0, 1), (655, .iload_n 3, 1), (656, .iconst 1, 1), (657, .iadd, 1), (658, .iaload, 1), (659, .aload_n 0, 1), (660, .iload_n 3, 1), (661, .iconst 2, 1), (662, .iadd, 1), (663, .iaload, 1), (664, .aload_n 0, 1), (665, .iload_n 3, 1), (666, .iconst 3, 1), (667, .iadd, 1), (668, .iaload, 1), (669, .invokevirtual 72, 3), (672, .if_icmp .eq 924, 3), (675, .iconst 0, 1), (676, .ireturn, 1), (677, .aload_n 1, 1), (678, .aload_n 0, 1), (679, .iload_n 3, 1)]
def z_i0_7 : List (Nat × Instr × Nat) := [(680, .iconst 1, 1), (681, .iadd, 1), (682, .iaload, 1), (683, .aload_n 0, 1), (684, .iload_n 3, 1), (685, .iconst 2, 1), (686, .iadd, 1), (687, .iaload, 1), (688, .invokevirtual 73, 3), (691, .aload_n 2, 1), (692, .aload_n 0, 1), (693, .iload_n 3, 1), (694, .iconst 1, 1), (695, .iadd, 1), (696, .iaload, 1), (697, .aload_n 0, 1), (698, .iload_n 3, 1), (699, .iconst 2, 1), (700, .iadd, 1), (701, .iaload, 1), (702, .invokevirtual 76, 3), (705, .if_icmp .eq 891, 3), (708, .iconst 0, 1), (709, .ireturn, 1), (710, .aload_n 1, 1), (711, .aload_n 0, 1), (712, .iload_n 3, 1), (713, .iconst 1, 1), (714, .iadd, 1), (715, .iaload, 1), (716, .aload_n 0, 1), (717, .iload_n 3, 1), (718, .iconst 2, 1), (719, .iadd, 1), (720, .iaload, 1), (721, .invokevirtual 77, 3), (724, .aload_n 2, 1), (725, .aload_n 0, 1), (726, .iload_n 3, 1), (727, .iconst 1, 1), (728, .iadd, 1), (729, .iaload, 1), (730, .aload_n 0, 1), (731, .iload_n 3, 1), (732, .iconst 2, 1), (733, .iadd, 1), (734, .iaload, 1), (735, .invokevirtual 81, 3), (738, .lcmp, 1), (739, .ifCond .eq 857, 3), (742, .iconst 0, 1), (743, .ireturn, 1), (744, .aload_n 1, 1), (745, .aload_n 0, 1), (746, .iload_n 3, 1), (747, .iconst 1, 1), (748, .iadd, 1), (749, .iaload, 1), (750, .aload_n 0, 1), (751, .iload_n 3, 1)]
def z_i0_8 : List (Nat × Instr × Nat) := [(752, .iconst 2, 1), (753, .iadd, 1), (754, .iaload, 1), (755, .aload_n 0, 1), (756, .iload_n 3, 1), (757, .iconst 3, 1), (758, .iadd, 1), (759, .iaload, 1), (760, .invokevirtual 82, 3), (763, .aload_n 2, 1), (764, .aload_n 0, 1), (765, .iload_n 3, 1), (766, .iconst 1, 1), (767, .iadd, 1), (768, .iaload, 1), (769, .aload_n 0, 1), (770, .iload_n 3, 1), (771, .iconst 2, 1), (772, .iadd, 1), (773, .iaload, 1), (774, .aload_n 0, 1), (775, .iload_n 3, 1), (776, .iconst 3, 1), (777, .iadd, 1), (778, .iaload, 1), (779, .invokevirtual 86, 3), (782, .lcmp, 1), (783, .ifCond .eq 813, 3), (786, .iconst 0, 1), (787, .ireturn, 1), (788, .aload_n 1, 1), (789, .aload_n 0, 1), (790, .iload_n 3, 1), (791, .iconst 1, 1), (792, .iadd, 1), (793, .iaload, 1), (794, .aload_n 0, 1), (795, .iload_n 3, 1), (796, .iconst 2, 1), (797, .iadd, 1), (798, .iaload, 1), (799, .aload_n 0, 1), (800, .iload_n 3, 1), (801, .iconst 3, 1), (802, .iadd, 1), (803, .iaload, 1), (804, .invokevirtual 87, 3), (807, .aload_n 2, 1), (808, .aload_n 0, 1), (809, .iload_n 3, 1), (810, .iconst 1, 1), (811, .iadd, 1), (812, .iaload, 1), (813, .aload_n 0, 1), (814, .iload_n 3, 1), (815, .iconst 2, 1), (816, .iadd, 1), (817, .iaload, 1), (818, .aload_n 0, 1), (819, .iload_n 3, 1)]
def z_i0_9 : List (Nat × Instr × Nat) := [(820, .iconst 3, 1), (821, .iadd, 1), (822, .iaload, 1), (823, .invokevirtual 90, 3), (826, .if_icmp .eq 770, 3), (829, .iconst 0, 1), (830, .ireturn, 1), (831, .aload_n 1, 1), (832, .aload_n 0, 1), (833, .iload_n 3, 1), (834, .iconst 1, 1), (835, .iadd, 1), (836, .iaload, 1), (837, .invokevirtual 91, 3), (840, .aload_n 2, 1), (841, .aload_n 0, 1), (842, .iload_n 3, 1), (843, .iconst 1, 1), (844, .iadd, 1), (845, .iaload, 1), (846, .invokevirtual 94, 3), (849, .if_icmp .eq 747, 3), (852, .iconst 0, 1), (853, .ireturn, 1), (854, .aload_n 1, 1), (855, .aload_n 0, 1), (856, .iload_n 3, 1), (857, .iconst 1, 1), (858, .iadd, 1), (859, .iaload, 1), (860, .invokevirtual 95, 3), (863, .aload_n 2, 1), (864, .aload_n 0, 1), (865, .iload_n 3, 1), (866, .iconst 1, 1), (867, .iadd, 1), (868, .iaload, 1), (869, .invokevirtual 99, 3), (872, .lcmp, 1), (873, .ifCond .eq 723, 3), (876, .iconst 0, 1), (877, .ireturn, 1), (878, .aload_n 1, 1), (879, .aload_n 0, 1), (880, .iload_n 3, 1), (881, .iconst 1, 1), (882, .iadd, 1), (883, .iaload, 1), (884, .aload_n 0, 1), (885, .iload_n 3, 1), (886, .iconst 2, 1), (887, .iadd, 1), (888, .iaload, 1), (889, .aload_n 0, 1), (890, .iload_n 3, 1), (891, .iconst 3, 1), (892, .iadd, 1), (893, .iaload, 1), (894, .aload_n 0, 1), (895, .iload_n 3, 1)]
def z_i0_10 : List (Nat × Instr × Nat) := [(896, .iconst 4, 1), (897, .iadd, 1), (898, .iaload, 1), (899, .invokevirtual 100, 3), (902, .aload_n 2, 1), (903, .aload_n 0, 1), (904, .iload_n 3, 1), (905, .iconst 1, 1), (906, .iadd, 1), (907, .iaload, 1), (908, .aload_n 0, 1), (909, .iload_n 3, 1), (910, .iconst 2, 1), (911, .iadd, 1), (912, .iaload, 1), (913, .aload_n 0, 1), (914, .iload_n 3, 1), (915, .iconst 3, 1), (916, .iadd, 1), (917, .iaload, 1), (918, .aload_n 0, 1), (919, .iload_n 3, 1), (920, .iconst 4, 1), (921, .iadd, 1), (922, .iaload, 1), (923, .invokevirtual 104, 3), (926, .if_icmp .eq 670, 3), (929, .iconst 0, 1), (930, .ireturn, 1), (931, .aload_n 1, 1), (932, .aload_n 0, 1), (933, .iload_n 3, 1), (934, .iconst 1, 1), (935, .iadd, 1), (936, .iaload, 1), (937, .invokevirtual 105, 3), (940, .aload_n 2, 1), (941, .aload_n 0, 1), (942, .iload_n 3, 1), (943, .iconst 1, 1), (944, .iadd, 1), (945, .iaload, 1), (946, .invokevirtual 108, 3), (949, .if_icmp .eq 647, 3), (952, .iconst 0, 1), (953, .ireturn, 1), (954, .aload_n 1, 1), (955, .aload_n 0, 1), (956, .iload_n 3, 1), (957, .iconst 1, 1), (958, .iadd, 1), (959, .iaload, 1), (960, .aload_n 0, 1), (961, .iload_n 3, 1), (962, .iconst 2, 1), (963, .iadd, 1), (964, .iaload, 1), (965, .aload_n 0, 1), (966, .iload_n 3, 1), (967, .iconst 3, 1)]
def z_i0_11 : List (Nat × Instr × Nat) := [(968, .iadd, 1), (969, .iaload, 1), (970, .invokevirtual 109, 3), (973, .aload_n 2, 1), (974, .aload_n 0, 1), (975, .iload_n 3, 1), (976, .iconst 1, 1), (977, .iadd, 1), (978, .iaload, 1), (979, .aload_n 0, 1), (980, .iload_n 3, 1), (981, .iconst 2, 1), (982, .iadd, 1), (983, .iaload, 1), (984, .aload_n 0, 1), (985, .iload_n 3, 1), (986, .iconst 3, 1), (987, .iadd, 1), (988, .iaload, 1), (989, .invokevirtual 112, 3), (992, .if_icmp .eq 604, 3), (995, .iconst 0, 1), (996, .ireturn, 1), (997, .aload_n 1, 1), (998, .aload_n 0, 1), (999, .iload_n 3, 1), (1000, .iconst 1, 1), (1001, .iadd, 1), (1002, .iaload, 1), (1003, .aload_n 0, 1), (1004, .iload_n 3, 1), (1005, .iconst 2, 1), (1006, .iadd, 1), (1007, .iaload, 1), (1008, .invokevirtual 113, 3), (1011, .aload_n 2, 1), (1012, .aload_n 0, 1), (1013, .iload_n 3, 1), (1014, .iconst 1, 1), (1015, .iadd, 1), (1016, .iaload, 1), (1017, .aload_n 0, 1), (1018, .iload_n 3, 1), (1019, .iconst 2, 1), (1020, .iadd, 1), (1021, .iaload, 1), (1022, .invokevirtual 116, 3), (1025, .if_icmp .eq 571, 3), (1028, .iconst 0, 1), (1029, .ireturn, 1), (1030, .aload_n 1, 1), (1031, .aload_n 0, 1), (1032, .iload_n 3, 1), (1033, .iconst 1, 1), (1034, .iadd, 1), (1035, .iaload, 1), (1036, .aload_n 0, 1), (1037, .iload_n 3, 1), (1038, .iconst 2, 1), (1039, .iadd, 1)]
def z_i0_12 : List (Nat × Instr × Nat) := [(1040, .iaload, 1), (1041, .aload_n 0, 1), (1042, .iload_n 3, 1), (1043, .iconst 3, 1), (1044, .iadd, 1), (1045, .iaload, 1), (1046, .aload_n 0, 1), (1047, .iload_n 3, 1), (1048, .iconst 4, 1), (1049, .iadd, 1), (1050, .iaload, 1), (1051, .invokevirtual 117, 3), (1054, .aload_n 2, 1), (1055, .aload_n 0, 1), (1056, .iload_n 3, 1), (1057, .iconst 1, 1), (1058, .iadd, 1), (1059, .iaload, 1), (1060, .aload_n 0, 1), (1061, .iload_n 3, 1), (1062, .iconst 2, 1), (1063, .iadd, 1), (1064, .iaload, 1), (1065, .aload_n 0, 1), (1066, .iload_n 3, 1), (1067, .iconst 3, 1), (1068, .iadd, 1), (1069, .iaload, 1), (1070, .aload_n 0, 1), (1071, .iload_n 3, 1), (1072, .iconst 4, 1), (1073, .iadd, 1), (1074, .iaload, 1), (1075, .invokevirtual 121, 3), (1078, .lcmp, 1), (1079, .ifCond .eq 517, 3), (1082, .iconst 0, 1), (1083, .ireturn, 1), (1084, .aload_n 1, 1), (1085, .aload_n 0, 1), (1086, .iload_n 3, 1), (1087, .iconst 1, 1), (1088, .iadd, 1), (1089, .iaload, 1), (1090, .aload_n 0, 1), (1091, .iload_n 3, 1), (1092, .iconst 2, 1), (1093, .iadd, 1), (1094, .iaload, 1), (1095, .aload_n 0, 1), (1096, .iload_n 3, 1), (1097, .iconst 3, 1), (1098, .iadd, 1), (1099, .iaload, 1), (1100, .invokevirtual 122, 3), (1103, .aload_n 2, 1), (1104, .aload_n 0, 1), (1105, .iload_n 3, 1), (1106, .iconst 1, 1), (1107, .iadd, 1)]
def z_i0_13 : List (Nat × Instr × Nat) := [(1108, .iaload, 1), (1109, .aload_n 0, 1), (1110, .iload_n 3, 1), (1111, .iconst 2, 1), (1112, .iadd, 1), (1113, .iaload, 1), (1114, .aload_n 0, 1), (1115, .iload_n 3, 1), (1116, .iconst 3, 1), (1117, .iadd, 1), (1118, .iaload, 1), (1119, .invokevirtual 125, 3), (1122, .if_icmp .eq 474, 3), (1125, .iconst 0, 1), (1126, .ireturn, 1), (1127, .aload_n 1, 1), (1128, .aload_n 0, 1), (1129, .iload_n 3, 1), (1130, .iconst 1, 1), (1131, .iadd, 1), (1132, .iaload, 1), (1133, .aload_n 0, 1), (1134, .iload_n 3, 1), (1135, .iconst 2, 1), (1136, .iadd, 1), (1137, .iaload, 1), (1138, .invokevirtual 126, 3), (1141, .aload_n 2, 1), (1142, .aload_n 0, 1), (1143, .iload_n 3, 1), (1144, .iconst 1, 1), (1145, .iadd, 1), (1146, .iaload, 1), (1147, .aload_n 0, 1), (1148, .iload_n 3, 1), (1149, .iconst 2, 1), (1150, .iadd, 1), (1151, .iaload, 1), (1152, .invokevirtual 129, 3), (1155, .if_icmp .eq 441, 3), (1158, .iconst 0, 1), (1159, .ireturn, 1), (1160, .aload_n 1, 1), (1161, .aload_n 0, 1), (1162, .iload_n 3, 1), (1163, .iconst 1, 1), (1164, .iadd, 1), (1165, .iaload, 1), (1166, .aload_n 0, 1), (1167, .iload_n 3, 1), (1168, .iconst 2, 1), (1169, .iadd, 1), (1170, .iaload, 1), (1171, .invokevirtual 130, 3), (1174, .aload_n 2, 1), (1175, .aload_n 0, 1), (1176, .iload_n 3, 1), (1177, .iconst 1, 1), (1178, .iadd, 1), (1179, .iaload, 1)]
def z_i0_14 : List (Nat × Instr × Nat) := [(1180, .aload_n 0, 1), (1181, .iload_n 3, 1), (1182, .iconst 2, 1), (1183, .iadd, 1), (1184, .iaload, 1), (1185, .invokevirtual 133, 3), (1188, .if_icmp .eq 408, 3), (1191, .iconst 0, 1), (1192, .ireturn, 1), (1193, .aload_n 1, 1), (1194, .aload_n 0, 1), (1195, .iload_n 3, 1), (1196, .iconst 1, 1), (1197, .iadd, 1), (1198, .iaload, 1), (1199, .aload_n 0, 1), (1200, .iload_n 3, 1), (1201, .iconst 2, 1), (1202, .iadd, 1), (1203, .iaload, 1), (1204, .invokevirtual 134, 3), (1207, .aload_n 2, 1), (1208, .aload_n 0, 1), (1209, .iload_n 3, 1), (1210, .iconst 1, 1), (1211, .iadd, 1), (1212, .iaload, 1), (1213, .aload_n 0, 1), (1214, .iload_n 3, 1), (1215, .iconst 2, 1), (1216, .iadd, 1), (1217, .iaload, 1), (1218, .invokevirtual 137, 3), (1221, .if_icmp .eq 375, 3), (1224, .iconst 0, 1), (1225, .ireturn, 1), (1226, .aload_n 1, 1), (1227, .aload_n 0, 1), (1228, .iload_n 3, 1), (1229, .iconst 1, 1), (1230, .iadd, 1), (1231, .iaload, 1), (1232, .aload_n 0, 1), (1233, .iload_n 3, 1), (1234, .iconst 2, 1), (1235, .iadd, 1), (1236, .iaload, 1), (1237, .invokevirtual 138, 3), (1240, .aload_n 2, 1), (1241, .aload_n 0, 1), (1242, .iload_n 3, 1), (1243, .iconst 1, 1), (1244, .iadd, 1), (1245, .iaload, 1), (1246, .aload_n 0, 1), (1247, .iload_n 3, 1), (1248, .iconst 2, 1), (1249, .iadd, 1), (1250, .iaload, 1), (1251, .invokevirtual 141, 3)]
def z_i0_15 : List (Nat × Instr × Nat) := [(1254, .if_icmp .eq 342, 3), (1257, .iconst 0, 1), (1258, .ireturn, 1), (1259, .aload_n 1, 1), (1260, .aload_n 0, 1), (1261, .iload_n 3, 1), (1262, .iconst 1, 1), (1263, .iadd, 1), (1264, .iaload, 1), (1265, .aload_n 0, 1), (1266, .iload_n 3, 1), (1267, .iconst 2, 1), (1268, .iadd, 1), (1269, .iaload, 1), (1270, .invokevirtual 142, 3), (1273, .aload_n 2, 1), (1274, .aload_n 0, 1), (1275, .iload_n 3, 1), (1276, .iconst 1, 1), (1277, .iadd, 1), (1278, .iaload, 1), (1279, .aload_n 0, 1), (1280, .iload_n 3, 1), (1281, .iconst 2, 1), (1282, .iadd, 1), (1283, .iaload, 1), (1284, .invokevirtual 145, 3), (1287, .if_icmp .eq 309, 3), (1290, .iconst 0, 1), (1291, .ireturn, 1), (1292, .aload_n 1, 1), (1293, .aload_n 0, 1), (1294, .iload_n 3, 1), (1295, .iconst 1, 1), (1296, .iadd, 1), (1297, .iaload, 1), (1298, .invokevirtual 146, 3), (1301, .aload_n 2, 1), (1302, .aload_n 0, 1), (1303, .iload_n 3, 1), (1304, .iconst 1, 1), (1305, .iadd, 1), (1306, .iaload, 1), (1307, .invokevirtual 149, 3), (1310, .lcmp, 1), (1311, .ifCond .eq 285, 3), (1314, .iconst 0, 1), (1315, .ireturn, 1), (1316, .aload_n 1, 1), (1317, .aload_n 0, 1), (1318, .iload_n 3, 1), (1319, .iconst 1, 1), (1320, .iadd, 1), (1321, .iaload, 1), (1322, .invokevirtual 150, 3), (1325, .aload_n 2, 1), (1326, .aload_n 0, 1), (1327, .iload_n 3, 1), (1328, .iconst 1, 1), (1329, .iadd, 1)]
def z_i0_16 : List (Nat × Instr × Nat) := [(1330, .iaload, 1), (1331, .invokevirtual 153, 3), (1334, .if_icmp .eq 262, 3), (1337, .iconst 0, 1), (1338, .ireturn, 1), (1339, .aload_n 1, 1), (1340, .aload_n 0, 1), (1341, .iload_n 3, 1), (1342, .iconst 1, 1), (1343, .iadd, 1), (1344, .iaload, 1), (1345, .aload_n 0, 1), (1346, .iload_n 3, 1), (1347, .iconst 2, 1), (1348, .iadd, 1), (1349, .iaload, 1), (1350, .aload_n 0, 1), (1351, .iload_n 3, 1), (1352, .iconst 3, 1), (1353, .iadd, 1), (1354, .iaload, 1), (1355, .invokevirtual 154, 3), (1358, .aload_n 2, 1), (1359, .aload_n 0, 1), (1360, .iload_n 3, 1), (1361, .iconst 1, 1), (1362, .iadd, 1), (1363, .iaload, 1), (1364, .aload_n 0, 1), (1365, .iload_n 3, 1), (1366, .iconst 2, 1), (1367, .iadd, 1), (1368, .iaload, 1), (1369, .aload_n 0, 1), (1370, .iload_n 3, 1), (1371, .iconst 3, 1), (1372, .iadd, 1), (1373, .iaload, 1), (1374, .invokevirtual 157, 3), (1377, .if_icmp .eq 219, 3), (1380, .iconst 0, 1), (1381, .ireturn, 1), (1382, .aload_n 1, 1), (1383, .aload_n 0, 1), (1384, .iload_n 3, 1), (1385, .iconst 1, 1), (1386, .iadd, 1), (1387, .iaload, 1), (1388, .aload_n 0, 1), (1389, .iload_n 3, 1), (1390, .iconst 2, 1), (1391, .iadd, 1), (1392, .iaload, 1), (1393, .aload_n 0, 1), (1394, .iload_n 3, 1), (1395, .iconst 3, 1), (1396, .iadd, 1), (1397, .iaload, 1), (1398, .invokevirtual 158, 3), (1401, .aload_n 2, 1)]
def z_i0_17 : List (Nat × Instr × Nat) := [(1402, .aload_n 0, 1), (1403, .iload_n 3, 1), (1404, .iconst 1, 1), (1405, .iadd, 1), (1406, .iaload, 1), (1407, .aload_n 0, 1), (1408, .iload_n 3, 1), (1409, .iconst 2, 1), (1410, .iadd, 1), (1411, .iaload, 1), (1412, .aload_n 0, 1), (1413, .iload_n 3, 1), (1414, .iconst 3, 1), (1415, .iadd, 1), (1416, .iaload, 1), (1417, .invokevirtual 161, 3), (1420, .if_icmp .eq 176, 3), (1423, .iconst 0, 1), (1424, .ireturn, 1), (1425, .aload_n 1, 1), (1426, .aload_n 0, 1), (1427, .iload_n 3, 1), (1428, .iconst 1, 1), (1429, .iadd, 1), (1430, .iaload, 1), (1431, .aload_n 0, 1), (1432, .iload_n 3, 1), (1433, .iconst 2, 1), (1434, .iadd, 1), (1435, .iaload, 1), (1436, .aload_n 0, 1), (1437, .iload_n 3, 1), (1438, .iconst 3, 1), (1439, .iadd, 1), (1440, .iaload, 1), (1441, .aload_n 0, 1), (1442, .iload_n 3, 1), (1443, .iconst 4, 1), (1444, .iadd, 1), (1445, .iaload, 1), (1446, .aload_n 0, 1), (1447, .iload_n 3, 1), (1448, .iconst 5, 1), (1449, .iadd, 1), (1450, .iaload, 1), (1451, .invokevirtual 162, 3), (1454, .aload_n 2, 1), (1455, .aload_n 0, 1), (1456, .iload_n 3, 1), (1457, .iconst 1, 1), (1458, .iadd, 1), (1459, .iaload, 1), (1460, .aload_n 0, 1), (1461, .iload_n 3, 1), (1462, .iconst 2, 1), (1463, .iadd, 1), (1464, .iaload, 1), (1465, .aload_n 0, 1), (1466, .iload_n 3, 1), (1467, .iconst 3, 1)]
def z_i0_18 : List (Nat × Instr × Nat) := [(1468, .iadd, 1), (1469, .iaload, 1), (1470, .aload_n 0, 1), (1471, .iload_n 3, 1), (1472, .iconst 4, 1), (1473, .iadd, 1), (1474, .iaload, 1), (1475, .aload_n 0, 1), (1476, .iload_n 3, 1), (1477, .iconst 5, 1), (1478, .iadd, 1), (1479, .iaload, 1), (1480, .invokevirtual 166, 3), (1483, .if_icmp .eq 113, 3), (1486, .iconst 0, 1), (1487, .ireturn, 1), (1488, .aload_n 1, 1), (1489, .aload_n 0, 1), (1490, .iload_n 3, 1), (1491, .iconst 1, 1), (1492, .iadd, 1), (1493, .iaload, 1), (1494, .aload_n 0, 1), (1495, .iload_n 3, 1), (1496, .iconst 2, 1), (1497, .iadd, 1), (1498, .iaload, 1), (1499, .aload_n 0, 1), (1500, .iload_n 3, 1), (1501, .iconst 3, 1), (1502, .iadd, 1), (1503, .iaload, 1), (1504, .aload_n 0, 1), (1505, .iload_n 3, 1), (1506, .iconst 4, 1), (1507, .iadd, 1), (1508, .iaload, 1), (1509, .aload_n 0, 1), (1510, .iload_n 3, 1), (1511, .iconst 5, 1), (1512, .iadd, 1), (1513, .iaload, 1), (1514, .aload_n 0, 1), (1515, .iload_n 3, 1), (1516, .bipush 6, 2), (1518, .iadd, 1), (1519, .iaload, 1), (1520, .invokevirtual 167, 3), (1523, .aload_n 2, 1), (1524, .aload_n 0, 1), (1525, .iload_n 3, 1), (1526, .iconst 1, 1), (1527, .iadd, 1), (1528, .iaload, 1), (1529, .aload_n 0, 1), (1530, .iload_n 3, 1), (1531, .iconst 2, 1), (1532, .iadd, 1), (1533, .iaload, 1), (1534, .aload_n 0, 1)]
def z_i0_19 : List (Nat × Instr × Nat) := [(1535, .iload_n 3, 1), (1536, .iconst 3, 1), (1537, .iadd, 1), (1538, .iaload, 1), (1539, .aload_n 0, 1), (1540, .iload_n 3, 1), (1541, .iconst 4, 1), (1542, .iadd, 1), (1543, .iaload, 1), (1544, .aload_n 0, 1), (1545, .iload_n 3, 1), (1546, .iconst 5, 1), (1547, .iadd, 1), (1548, .iaload, 1), (1549, .aload_n 0, 1), (1550, .iload_n 3, 1), (1551, .bipush 6, 2), (1553, .iadd, 1), (1554, .iaload, 1), (1555, .invokevirtual 170, 3), (1558, .if_icmp .eq 38, 3), (1561, .iconst 0, 1), (1562, .ireturn, 1), (1563, .aload_n 1, 1), (1564, .aload_n 0, 1), (1565, .iload_n 3, 1), (1566, .iconst 1, 1), (1567, .iadd, 1), (1568, .iaload, 1), (1569, .aload_n 0, 1), (1570, .iload_n 3, 1), (1571, .iconst 2, 1), (1572, .iadd, 1), (1573, .iaload, 1), (1574, .invokevirtual 171, 3), (1577, .aload_n 2, 1), (1578, .aload_n 0, 1), (1579, .iload_n 3, 1), (1580, .iconst 1, 1), (1581, .iadd, 1), (1582, .iaload, 1), (1583, .aload_n 0, 1), (1584, .iload_n 3, 1), (1585, .iconst 2, 1), (1586, .iadd, 1), (1587, .iaload, 1), (1588, .invokevirtual 174, 3), (1591, .if_icmp .eq 5, 3), (1594, .iconst 0, 1), (1595, .ireturn, 1), (1596, .iinc 3 7, 3), (1599, .goto (-1581), 3), (1602, .iconst 1, 1), (1603, .ireturn, 1)]
def z_m0 : zM := (⟨"DustYardsLaw", "law", "([I)Z"⟩, code, 4, (some .boolean), 20, z_i0_0 ++ (z_i0_1 ++ (z_i0_2 ++ (z_i0_3 ++ (z_i0_4 ++ (z_i0_5 ++ (z_i0_6 ++ (z_i0_7 ++ (z_i0_8 ++ (z_i0_9 ++ (z_i0_10 ++ (z_i0_11 ++ (z_i0_12 ++ (z_i0_13 ++ (z_i0_14 ++ (z_i0_15 ++ (z_i0_16 ++ (z_i0_17 ++ (z_i0_18 ++ z_i0_19)))))))))))))))))))
set_option maxRecDepth 100000 in
theorem z_d0_0 : ∀ q ∈ z_i0_0, decode code q.1 = .ok q.2 := by decide +kernel
set_option maxRecDepth 100000 in
theorem z_d0_1 : ∀ q ∈ z_i0_1, decode code q.1 = .ok q.2 := by decide +kernel
set_option maxRecDepth 100000 in
theorem z_d0_2 : ∀ q ∈ z_i0_2, decode code q.1 = .ok q.2 := by decide +kernel
set_option maxRecDepth 100000 in
theorem z_d0_3 : ∀ q ∈ z_i0_3, decode code q.1 = .ok q.2 := by decide +kernel
set_option maxRecDepth 100000 in
theorem z_d0_4 : ∀ q ∈ z_i0_4, decode code q.1 = .ok q.2 := by decide +kernel
set_option maxRecDepth 100000 in
theorem z_d0_5 : ∀ q ∈ z_i0_5, decode code q.1 = .ok q.2 := by decide +kernel
set_option maxRecDepth 100000 in
theorem z_d0_6 : ∀ q ∈ z_i0_6, decode code q.1 = .ok q.2 := by decide +kernel
set_option maxRecDepth 100000 in
theorem z_d0_7 : ∀ q ∈ z_i0_7, decode code q.1 = .ok q.2 := by decide +kernel
set_option maxRecDepth 100000 in
theorem z_d0_8 : ∀ q ∈ z_i0_8, decode code q.1 = .ok q.2 := by decide +kernel
set_option maxRecDepth 100000 in
theorem z_d0_9 : ∀ q ∈ z_i0_9, decode code q.1 = .ok q.2 := by decide +kernel
set_option maxRecDepth 100000 in
theorem z_d0_10 : ∀ q ∈ z_i0_10, decode code q.1 = .ok q.2 := by decide +kernel
set_option maxRecDepth 100000 in
theorem z_d0_11 : ∀ q ∈ z_i0_11, decode code q.1 = .ok q.2 := by decide +kernel
set_option maxRecDepth 100000 in
theorem z_d0_12 : ∀ q ∈ z_i0_12, decode code q.1 = .ok q.2 := by decide +kernel
set_option maxRecDepth 100000 in
theorem z_d0_13 : ∀ q ∈ z_i0_13, decode code q.1 = .ok q.2 := by decide +kernel
set_option maxRecDepth 100000 in
theorem z_d0_14 : ∀ q ∈ z_i0_14, decode code q.1 = .ok q.2 := by decide +kernel
set_option maxRecDepth 100000 in
theorem z_d0_15 : ∀ q ∈ z_i0_15, decode code q.1 = .ok q.2 := by decide +kernel
set_option maxRecDepth 100000 in
theorem z_d0_16 : ∀ q ∈ z_i0_16, decode code q.1 = .ok q.2 := by decide +kernel
set_option maxRecDepth 100000 in
theorem z_d0_17 : ∀ q ∈ z_i0_17, decode code q.1 = .ok q.2 := by decide +kernel
set_option maxRecDepth 100000 in
theorem z_d0_18 : ∀ q ∈ z_i0_18, decode code q.1 = .ok q.2 := by decide +kernel
set_option maxRecDepth 100000 in
theorem z_d0_19 : ∀ q ∈ z_i0_19, decode code q.1 = .ok q.2 := by decide +kernel
theorem z_dlaw : ∀ q ∈ z_m0.2.2.2.2.2, decode code q.1 = .ok q.2 := List.forall_mem_append.mpr ⟨z_d0_0, List.forall_mem_append.mpr ⟨z_d0_1, List.forall_mem_append.mpr ⟨z_d0_2, List.forall_mem_append.mpr ⟨z_d0_3, List.forall_mem_append.mpr ⟨z_d0_4, List.forall_mem_append.mpr ⟨z_d0_5, List.forall_mem_append.mpr ⟨z_d0_6, List.forall_mem_append.mpr ⟨z_d0_7, List.forall_mem_append.mpr ⟨z_d0_8, List.forall_mem_append.mpr ⟨z_d0_9, List.forall_mem_append.mpr ⟨z_d0_10, List.forall_mem_append.mpr ⟨z_d0_11, List.forall_mem_append.mpr ⟨z_d0_12, List.forall_mem_append.mpr ⟨z_d0_13, List.forall_mem_append.mpr ⟨z_d0_14, List.forall_mem_append.mpr ⟨z_d0_15, List.forall_mem_append.mpr ⟨z_d0_16, List.forall_mem_append.mpr ⟨z_d0_17, List.forall_mem_append.mpr ⟨z_d0_18, z_d0_19⟩⟩⟩⟩⟩⟩⟩⟩⟩⟩⟩⟩⟩⟩⟩⟩⟩⟩⟩
def z_i1_0 : List (Nat × Instr × Nat) := [(0, .aload_n 0, 1), (1, .invokespecial 3, 3), (4, .aload_n 0, 1), (5, .bipush 8, 2), (7, .newarray .int, 2), (9, .putfield 9, 3), (12, .aload_n 0, 1), (13, .bipush 8, 2), (15, .newarray .int, 2), (17, .putfield 15, 3), (20, .return_, 1)]
def z_m1 : zM := (⟨"DustYards$Barges", "<init>", "()V"⟩, prog_2_method_1_code, 1, none, 0, z_i1_0)
set_option maxRecDepth 100000 in
theorem z_d1_0 : ∀ q ∈ z_i1_0, decode prog_2_method_1_code q.1 = .ok q.2 := by decide +kernel
set_option maxRecDepth 100000 in
theorem z_ok1 : z_okM z_m1 := ⟨z_in (z_s2 (List.mem_of_getElem? (i := 33) rfl)) rfl, z_d1_0, by decide +kernel, by decide +kernel, z_in (z_s1 (List.mem_of_getElem? (i := 10) (by decide +kernel))) (by decide +kernel), by decide +kernel, plainFor_of_name (by decide +kernel)⟩
def z_i2_0 : List (Nat × Instr × Nat) := [(0, .aload_n 0, 1), (1, .getfield 9, 3), (4, .aload_n 0, 1), (5, .getfield 18, 3), (8, .iload_n 1, 1), (9, .iastore, 1), (10, .aload_n 0, 1), (11, .getfield 15, 3), (14, .aload_n 0, 1), (15, .getfield 18, 3), (18, .iload_n 2, 1), (19, .iastore, 1), (20, .aload_n 0, 1), (21, .dup, 1), (22, .getfield 18, 3), (25, .iconst 1, 1), (26, .iadd, 1), (27, .putfield 18, 3), (30, .aload_n 0, 1), (31, .getfield 18, 3), (34, .iconst 1, 1), (35, .isub, 1), (36, .ireturn, 1)]
def z_m2 : zM := (⟨"DustYards$Barges", "put", "(II)I"⟩, prog_2_method_2_code, 3, (some .int), 0, z_i2_0)
set_option maxRecDepth 100000 in
theorem z_d2_0 : ∀ q ∈ z_i2_0, decode prog_2_method_2_code q.1 = .ok q.2 := by decide +kernel
set_option maxRecDepth 100000 in
theorem z_ok2 : z_okM z_m2 := ⟨z_in (z_s4 (List.mem_of_getElem? (i := 113) rfl)) rfl, z_d2_0, by decide +kernel, by decide +kernel, z_in (z_s1 (List.mem_of_getElem? (i := 10) (by decide +kernel))) (by decide +kernel), by decide +kernel, plainFor_of_name (by decide +kernel)⟩
def z_i3_0 : List (Nat × Instr × Nat) := [(0, .iconst 0, 1), (1, .istore_n 2, 1), (2, .iconst 0, 1), (3, .istore_n 3, 1), (4, .iconst 0, 1), (5, .istore 4, 2), (7, .iconst 1, 1), (8, .istore 5, 2), (10, .iload 5, 2), (12, .iconst 1, 1), (13, .aload_n 0, 1), (14, .getfield 18, 3), (17, .ishl, 1), (18, .if_icmp .ge 69, 3), (21, .aload_n 0, 1), (22, .aload_n 0, 1), (23, .getfield 9, 3), (26, .iload 5, 2), (28, .invokevirtual 22, 3), (31, .istore 6, 2), (33, .aload_n 0, 1), (34, .aload_n 0, 1), (35, .getfield 15, 3), (38, .iload 5, 2), (40, .invokevirtual 22, 3), (43, .istore 7, 2), (45, .iload 6, 2), (47, .iload_n 1, 1), (48, .if_icmp .gt 33, 3), (51, .iload 7, 2), (53, .iload 4, 2), (55, .if_icmp .gt 16, 3), (58, .iload 7, 2), (60, .iload 4, 2), (62, .if_icmp .ne 19, 3), (65, .iload 6, 2), (67, .iload_n 3, 1), (68, .if_icmp .ge 13, 3), (71, .iload 5, 2), (73, .istore_n 2, 1), (74, .iload 6, 2), (76, .istore_n 3, 1), (77, .iload 7, 2), (79, .istore 4, 2), (81, .iinc 5 1, 3), (84, .goto (-74), 3), (87, .iload_n 2, 1), (88, .ireturn, 1)]
def z_m3 : zM := (⟨"DustYards$Barges", "bestSet", "(I)I"⟩, prog_2_method_3_code, 8, (some .int), 0, z_i3_0)
set_option maxRecDepth 100000 in
theorem z_d3_0 : ∀ q ∈ z_i3_0, decode prog_2_method_3_code q.1 = .ok q.2 := by decide +kernel
set_option maxRecDepth 100000 in
theorem z_ok3 : z_okM z_m3 := ⟨z_in (z_s4 (List.mem_of_getElem? (i := 121) rfl)) rfl, z_d3_0, by decide +kernel, by decide +kernel, z_in (z_s1 (List.mem_of_getElem? (i := 10) (by decide +kernel))) (by decide +kernel), by decide +kernel, plainFor_of_name (by decide +kernel)⟩
def z_i4_0 : List (Nat × Instr × Nat) := [(0, .iconst 0, 1), (1, .istore_n 3, 1), (2, .iconst 0, 1), (3, .istore 4, 2), (5, .iload 4, 2), (7, .aload_n 0, 1), (8, .getfield 18, 3), (11, .if_icmp .ge 30, 3), (14, .iload_n 3, 1), (15, .iload_n 2, 1), (16, .iload 4, 2), (18, .ishr, 1), (19, .iconst 1, 1), (20, .iand, 1), (21, .iconst 1, 1), (22, .if_icmp .ne 10, 3), (25, .aload_n 1, 1), (26, .iload 4, 2), (28, .iaload, 1), (29, .goto 4, 3), (32, .iconst 0, 1), (33, .iadd, 1), (34, .istore_n 3, 1), (35, .iinc 4 1, 3), (38, .goto (-33), 3), (41, .iload_n 3, 1), (42, .ireturn, 1)]
def z_m4 : zM := (⟨"DustYards$Barges", "together", "([II)I"⟩, prog_2_method_4_code, 5, (some .int), 0, z_i4_0)
set_option maxRecDepth 100000 in
theorem z_d4_0 : ∀ q ∈ z_i4_0, decode prog_2_method_4_code q.1 = .ok q.2 := by decide +kernel
set_option maxRecDepth 100000 in
theorem z_ok4 : z_okM z_m4 := ⟨z_in (z_s4 (List.mem_of_getElem? (i := 125) rfl)) rfl, z_d4_0, by decide +kernel, by decide +kernel, z_in (z_s1 (List.mem_of_getElem? (i := 10) (by decide +kernel))) (by decide +kernel), by decide +kernel, plainFor_of_name (by decide +kernel)⟩
def z_i5_0 : List (Nat × Instr × Nat) := [(0, .aload_n 0, 1), (1, .invokespecial 3, 3), (4, .aload_n 0, 1), (5, .bipush 6, 2), (7, .newarray .int, 2), (9, .putfield 9, 3), (12, .aload_n 0, 1), (13, .bipush 6, 2), (15, .newarray .int, 2), (17, .putfield 15, 3), (20, .aload_n 0, 1), (21, .bipush 6, 2), (23, .newarray .boolean, 2), (25, .putfield 18, 3), (28, .aload_n 0, 1), (29, .bipush 6, 2), (31, .newarray .int, 2), (33, .putfield 22, 3), (36, .return_, 1)]
def z_m5 : zM := (⟨"DustYards$Buyers", "<init>", "()V"⟩, prog_3_method_1_code, 1, none, 1, z_i5_0)
set_option maxRecDepth 100000 in
theorem z_d5_0 : ∀ q ∈ z_i5_0, decode prog_3_method_1_code q.1 = .ok q.2 := by decide +kernel
set_option maxRecDepth 100000 in
theorem z_ok5 : z_okM z_m5 := ⟨z_in (z_s2 (List.mem_of_getElem? (i := 51) rfl)) rfl, z_d5_0, by decide +kernel, by decide +kernel, z_in (z_s1 (List.mem_of_getElem? (i := 11) (by decide +kernel))) (by decide +kernel), by decide +kernel, plainFor_of_name (by decide +kernel)⟩
def z_i6_0 : List (Nat × Instr × Nat) := [(0, .aload_n 0, 1), (1, .getfield 9, 3), (4, .aload_n 0, 1), (5, .getfield 25, 3), (8, .iload_n 1, 1), (9, .iastore, 1), (10, .aload_n 0, 1), (11, .getfield 15, 3), (14, .aload_n 0, 1), (15, .getfield 25, 3), (18, .iload_n 2, 1), (19, .iastore, 1), (20, .aload_n 0, 1), (21, .dup, 1), (22, .getfield 25, 3), (25, .iconst 1, 1), (26, .iadd, 1), (27, .putfield 25, 3), (30, .aload_n 0, 1), (31, .getfield 25, 3), (34, .iconst 1, 1), (35, .isub, 1), (36, .ireturn, 1)]
def z_m6 : zM := (⟨"DustYards$Buyers", "put", "(II)I"⟩, prog_3_method_2_code, 3, (some .int), 1, z_i6_0)
set_option maxRecDepth 100000 in
theorem z_d6_0 : ∀ q ∈ z_i6_0, decode prog_3_method_2_code q.1 = .ok q.2 := by decide +kernel
set_option maxRecDepth 100000 in
theorem z_ok6 : z_okM z_m6 := ⟨z_in (z_s4 (List.mem_of_getElem? (i := 134) rfl)) rfl, z_d6_0, by decide +kernel, by decide +kernel, z_in (z_s1 (List.mem_of_getElem? (i := 11) (by decide +kernel))) (by decide +kernel), by decide +kernel, plainFor_of_name (by decide +kernel)⟩
def z_i7_0 : List (Nat × Instr × Nat) := [(0, .aload_n 0, 1), (1, .getfield 22, 3), (4, .iconst 0, 1), (5, .invokestatic 29, 3), (8, .iload_n 1, 1), (9, .istore_n 2, 1), (10, .iconst 0, 1), (11, .istore_n 3, 1), (12, .iconst 0, 1), (13, .istore 4, 2), (15, .iload 4, 2), (17, .aload_n 0, 1), (18, .getfield 25, 3), (21, .if_icmp .ge 58, 3), (24, .aload_n 0, 1), (25, .iload_n 3, 1), (26, .invokevirtual 35, 3), (29, .istore 5, 2), (31, .iload 5, 2), (33, .iconst (-1), 1), (34, .if_icmp .ne 4, 3), (37, .return_, 1), (38, .iload_n 3, 1), (39, .iconst 1, 1), (40, .iload 5, 2), (42, .ishl, 1), (43, .ior, 1), (44, .istore_n 3, 1), (45, .aload_n 0, 1), (46, .getfield 22, 3), (49, .iload 5, 2), (51, .iload_n 2, 1), (52, .aload_n 0, 1), (53, .getfield 9, 3), (56, .iload 5, 2), (58, .iaload, 1), (59, .invokestatic 39, 3), (62, .iastore, 1), (63, .iload_n 2, 1), (64, .aload_n 0, 1), (65, .getfield 22, 3), (68, .iload 5, 2), (70, .iaload, 1), (71, .isub, 1), (72, .istore_n 2, 1), (73, .iinc 4 1, 3), (76, .goto (-61), 3), (79, .return_, 1)]
def z_m7 : zM := (⟨"DustYards$Buyers", "part", "(I)V"⟩, prog_3_method_3_code, 6, none, 1, z_i7_0)
set_option maxRecDepth 100000 in
theorem z_d7_0 : ∀ q ∈ z_i7_0, decode prog_3_method_3_code q.1 = .ok q.2 := by decide +kernel
set_option maxRecDepth 100000 in
theorem z_ok7 : z_okM z_m7 := ⟨z_in (z_s4 (List.mem_of_getElem? (i := 146) rfl)) rfl, z_d7_0, by decide +kernel, by decide +kernel, z_in (z_s1 (List.mem_of_getElem? (i := 11) (by decide +kernel))) (by decide +kernel), by decide +kernel, plainFor_of_name (by decide +kernel)⟩
def z_i8_0 : List (Nat × Instr × Nat) := [(0, .iconst (-1), 1), (1, .istore_n 2, 1), (2, .iconst 0, 1), (3, .istore_n 3, 1), (4, .iload_n 3, 1), (5, .aload_n 0, 1), (6, .getfield 25, 3), (9, .if_icmp .ge 60, 3), (12, .aload_n 0, 1), (13, .getfield 18, 3), (16, .iload_n 3, 1), (17, .baload, 1), (18, .ifCond .ne 15, 3), (21, .iload_n 1, 1), (22, .iload_n 3, 1), (23, .ishr, 1), (24, .iconst 1, 1), (25, .iand, 1), (26, .ifCond .ne 7, 3), (29, .iconst 1, 1), (30, .goto 4, 3), (33, .iconst 0, 1), (34, .istore 4, 2), (36, .iload 4, 2), (38, .ifCond .eq 25, 3), (41, .iload_n 2, 1), (42, .iconst (-1), 1), (43, .if_icmp .eq 18, 3), (46, .aload_n 0, 1), (47, .getfield 15, 3), (50, .iload_n 3, 1), (51, .iaload, 1), (52, .aload_n 0, 1), (53, .getfield 15, 3), (56, .iload_n 2, 1), (57, .iaload, 1), (58, .if_icmp .le 5, 3), (61, .iload_n 3, 1), (62, .istore_n 2, 1), (63, .iinc 3 1, 3), (66, .goto (-62), 3), (69, .iload_n 2, 1), (70, .ireturn, 1)]
def z_m8 : zM := (⟨"DustYards$Buyers", "dearest", "(I)I"⟩, prog_3_method_4_code, 5, (some .int), 1, z_i8_0)
set_option maxRecDepth 100000 in
theorem z_d8_0 : ∀ q ∈ z_i8_0, decode prog_3_method_4_code q.1 = .ok q.2 := by decide +kernel
set_option maxRecDepth 100000 in
theorem z_ok8 : z_okM z_m8 := ⟨z_in (z_s4 (List.mem_of_getElem? (i := 153) rfl)) rfl, z_d8_0, by decide +kernel, by decide +kernel, z_in (z_s1 (List.mem_of_getElem? (i := 11) (by decide +kernel))) (by decide +kernel), by decide +kernel, plainFor_of_name (by decide +kernel)⟩
def z_i9_0 : List (Nat × Instr × Nat) := [(0, .lconst 0, 1), (1, .lstore_n 1, 1), (2, .iconst 0, 1), (3, .istore_n 3, 1), (4, .iload_n 3, 1), (5, .aload_n 0, 1), (6, .getfield 25, 3), (9, .if_icmp .ge 28, 3), (12, .lload_n 1, 1), (13, .aload_n 0, 1), (14, .getfield 22, 3), (17, .iload_n 3, 1), (18, .iaload, 1), (19, .aload_n 0, 1), (20, .getfield 15, 3), (23, .iload_n 3, 1), (24, .iaload, 1), (25, .invokestatic 45, 3), (28, .i2l, 1), (29, .ladd, 1), (30, .lstore_n 1, 1), (31, .iinc 3 1, 3), (34, .goto (-30), 3), (37, .lload_n 1, 1), (38, .lreturn, 1)]
def z_m9 : zM := (⟨"DustYards$Buyers", "allPence", "()J"⟩, prog_3_method_5_code, 4, (some .long), 1, z_i9_0)
set_option maxRecDepth 100000 in
theorem z_d9_0 : ∀ q ∈ z_i9_0, decode prog_3_method_5_code q.1 = .ok q.2 := by decide +kernel
set_option maxRecDepth 100000 in
theorem z_ok9 : z_okM z_m9 := ⟨z_in (z_s4 (List.mem_of_getElem? (i := 158) rfl)) rfl, z_d9_0, by decide +kernel, by decide +kernel, z_in (z_s1 (List.mem_of_getElem? (i := 11) (by decide +kernel))) (by decide +kernel), by decide +kernel, plainFor_of_name (by decide +kernel)⟩
def z_i10_0 : List (Nat × Instr × Nat) := [(0, .aload_n 0, 1), (1, .invokespecial 3, 3), (4, .aload_n 0, 1), (5, .bipush 40, 2), (7, .newarray .int, 2), (9, .putfield 9, 3), (12, .aload_n 0, 1), (13, .bipush 40, 2), (15, .newarray .int, 2), (17, .putfield 15, 3), (20, .aload_n 0, 1), (21, .bipush 40, 2), (23, .newarray .int, 2), (25, .putfield 18, 3), (28, .aload_n 0, 1), (29, .bipush 40, 2), (31, .newarray .int, 2), (33, .putfield 21, 3), (36, .aload_n 0, 1), (37, .bipush 40, 2), (39, .newarray .int, 2), (41, .putfield 24, 3), (44, .aload_n 0, 1), (45, .bipush 40, 2), (47, .newarray .int, 2), (49, .putfield 27, 3), (52, .aload_n 0, 1), (53, .bipush 40, 2), (55, .newarray .int, 2), (57, .putfield 30, 3), (60, .aload_n 0, 1), (61, .bipush 40, 2), (63, .newarray .int, 2), (65, .putfield 33, 3), (68, .aload_n 0, 1), (69, .bipush 40, 2), (71, .newarray .int, 2), (73, .putfield 36, 3), (76, .aload_n 0, 1), (77, .bipush 40, 2), (79, .newarray .boolean, 2), (81, .putfield 39, 3), (84, .return_, 1)]
def z_m10 : zM := (⟨"DustYards$Carts", "<init>", "()V"⟩, prog_4_method_1_code, 1, none, 2, z_i10_0)
set_option maxRecDepth 100000 in
theorem z_d10_0 : ∀ q ∈ z_i10_0, decode prog_4_method_1_code q.1 = .ok q.2 := by decide +kernel
set_option maxRecDepth 100000 in
theorem z_ok10 : z_okM z_m10 := ⟨z_in (z_s1 (List.mem_of_getElem? (i := 34) rfl)) rfl, z_d10_0, by decide +kernel, by decide +kernel, z_in (z_s1 (List.mem_of_getElem? (i := 2) (by decide +kernel))) (by decide +kernel), by decide +kernel, plainFor_of_name (by decide +kernel)⟩
def z_i11_0 : List (Nat × Instr × Nat) := [(0, .iload_n 1, 1), (1, .iconst 0, 1), (2, .aload_n 0, 1), (3, .getfield 43, 3), (6, .iconst 1, 1), (7, .isub, 1), (8, .invokestatic 47, 3), (11, .ireturn, 1)]
def z_m11 : zM := (⟨"DustYards$Carts", "has", "(I)Z"⟩, prog_4_method_2_code, 2, (some .boolean), 2, z_i11_0)
set_option maxRecDepth 100000 in
theorem z_d11_0 : ∀ q ∈ z_i11_0, decode prog_4_method_2_code q.1 = .ok q.2 := by decide +kernel
set_option maxRecDepth 100000 in
theorem z_ok11 : z_okM z_m11 := ⟨z_in (z_s3 (List.mem_of_getElem? (i := 96) rfl)) rfl, z_d11_0, by decide +kernel, by decide +kernel, z_in (z_s1 (List.mem_of_getElem? (i := 2) (by decide +kernel))) (by decide +kernel), by decide +kernel, plainFor_of_name (by decide +kernel)⟩
def z_i12_0 : List (Nat × Instr × Nat) := [(0, .aload_n 0, 1), (1, .getfield 43, 3), (4, .istore 5, 2), (6, .aload_n 0, 1), (7, .getfield 9, 3), (10, .iload 5, 2), (12, .iload_n 1, 1), (13, .iastore, 1), (14, .aload_n 0, 1), (15, .getfield 15, 3), (18, .iload 5, 2), (20, .iload_n 2, 1), (21, .iastore, 1), (22, .aload_n 0, 1), (23, .getfield 18, 3), (26, .iload 5, 2), (28, .iload_n 3, 1), (29, .iastore, 1), (30, .aload_n 0, 1), (31, .getfield 21, 3), (34, .iload 5, 2), (36, .iload 4, 2), (38, .iastore, 1), (39, .aload_n 0, 1), (40, .dup, 1), (41, .getfield 43, 3), (44, .iconst 1, 1), (45, .iadd, 1), (46, .putfield 43, 3), (49, .iload 5, 2), (51, .ireturn, 1)]
def z_m12 : zM := (⟨"DustYards$Carts", "come", "(IIII)I"⟩, prog_4_method_3_code, 6, (some .int), 2, z_i12_0)
set_option maxRecDepth 100000 in
theorem z_d12_0 : ∀ q ∈ z_i12_0, decode prog_4_method_3_code q.1 = .ok q.2 := by decide +kernel
set_option maxRecDepth 100000 in
theorem z_ok12 : z_okM z_m12 := ⟨z_in (z_s3 (List.mem_of_getElem? (i := 84) rfl)) rfl, z_d12_0, by decide +kernel, by decide +kernel, z_in (z_s1 (List.mem_of_getElem? (i := 2) (by decide +kernel))) (by decide +kernel), by decide +kernel, plainFor_of_name (by decide +kernel)⟩
def z_i13_0 : List (Nat × Instr × Nat) := [(0, .aload_n 0, 1), (1, .getfield 24, 3), (4, .iload_n 1, 1), (5, .iload_n 2, 1), (6, .iastore, 1), (7, .aload_n 0, 1), (8, .getfield 27, 3), (11, .iload_n 1, 1), (12, .iload_n 3, 1), (13, .iastore, 1), (14, .aload_n 0, 1), (15, .getfield 30, 3), (18, .iload_n 1, 1), (19, .iload 4, 2), (21, .iastore, 1), (22, .aload_n 0, 1), (23, .getfield 33, 3), (26, .iload_n 1, 1), (27, .iload_n 2, 1), (28, .iload_n 2, 1), (29, .iload_n 3, 1), (30, .imul, 1), (31, .bipush 100, 2), (33, .idiv, 1), (34, .isub, 1), (35, .iastore, 1), (36, .aload_n 0, 1), (37, .getfield 36, 3), (40, .iload_n 1, 1), (41, .aload_n 0, 1), (42, .getfield 33, 3), (45, .iload_n 1, 1), (46, .iaload, 1), (47, .iastore, 1), (48, .return_, 1)]
def z_m13 : zM := (⟨"DustYards$Carts", "weigh", "(IIII)V"⟩, prog_4_method_4_code, 5, none, 2, z_i13_0)
set_option maxRecDepth 100000 in
theorem z_d13_0 : ∀ q ∈ z_i13_0, decode prog_4_method_4_code q.1 = .ok q.2 := by decide +kernel
set_option maxRecDepth 100000 in
theorem z_ok13 : z_okM z_m13 := ⟨z_in (z_s3 (List.mem_of_getElem? (i := 88) rfl)) rfl, z_d13_0, by decide +kernel, by decide +kernel, z_in (z_s1 (List.mem_of_getElem? (i := 2) (by decide +kernel))) (by decide +kernel), by decide +kernel, plainFor_of_name (by decide +kernel)⟩
def z_i14_0 : List (Nat × Instr × Nat) := [(0, .aload_n 0, 1), (1, .getfield 18, 3), (4, .iload_n 1, 1), (5, .iaload, 1), (6, .iload_n 2, 1), (7, .if_icmp .ne 16, 3), (10, .aload_n 0, 1), (11, .getfield 39, 3), (14, .iload_n 1, 1), (15, .baload, 1), (16, .ifCond .ne 7, 3), (19, .iconst 1, 1), (20, .goto 4, 3), (23, .iconst 0, 1), (24, .ireturn, 1)]
def z_m14 : zM := (⟨"DustYards$Carts", "liesOn", "(II)Z"⟩, prog_4_method_5_code, 3, (some .boolean), 2, z_i14_0)
set_option maxRecDepth 100000 in
theorem z_d14_0 : ∀ q ∈ z_i14_0, decode prog_4_method_5_code q.1 = .ok q.2 := by decide +kernel
set_option maxRecDepth 100000 in
theorem z_ok14 : z_okM z_m14 := ⟨z_in (z_s3 (List.mem_of_getElem? (i := 123) rfl)) rfl, z_d14_0, by decide +kernel, by decide +kernel, z_in (z_s1 (List.mem_of_getElem? (i := 2) (by decide +kernel))) (by decide +kernel), by decide +kernel, plainFor_of_name (by decide +kernel)⟩
def z_i15_0 : List (Nat × Instr × Nat) := [(0, .aload_n 0, 1), (1, .getfield 15, 3), (4, .iload_n 1, 1), (5, .iaload, 1), (6, .iload_n 2, 1), (7, .if_icmp .ne 22, 3), (10, .aload_n 0, 1), (11, .getfield 21, 3), (14, .iload_n 1, 1), (15, .iaload, 1), (16, .iload_n 3, 1), (17, .iload 4, 2), (19, .invokestatic 47, 3), (22, .ifCond .eq 7, 3), (25, .iconst 1, 1), (26, .goto 4, 3), (29, .iconst 0, 1), (30, .ireturn, 1)]
def z_m15 : zM := (⟨"DustYards$Carts", "cameIn", "(IIII)Z"⟩, prog_4_method_6_code, 5, (some .boolean), 2, z_i15_0)
set_option maxRecDepth 100000 in
theorem z_d15_0 : ∀ q ∈ z_i15_0, decode prog_4_method_6_code q.1 = .ok q.2 := by decide +kernel
set_option maxRecDepth 100000 in
theorem z_ok15 : z_okM z_m15 := ⟨z_in (z_s3 (List.mem_of_getElem? (i := 232) rfl)) rfl, z_d15_0, by decide +kernel, by decide +kernel, z_in (z_s1 (List.mem_of_getElem? (i := 2) (by decide +kernel))) (by decide +kernel), by decide +kernel, plainFor_of_name (by decide +kernel)⟩
def z_i16_0 : List (Nat × Instr × Nat) := [(0, .iload_n 3, 1), (1, .getstatic 51, 3), (4, .aload_n 0, 1), (5, .getfield 9, 3), (8, .iload_n 1, 1), (9, .iaload, 1), (10, .iconst 4, 1), (11, .imul, 1), (12, .iload_n 2, 1), (13, .iadd, 1), (14, .iaload, 1), (15, .imul, 1), (16, .bipush 100, 2), (18, .idiv, 1), (19, .ireturn, 1)]
def z_m16 : zM := (⟨"DustYards$Carts", "ofSort", "(III)I"⟩, prog_4_method_7_code, 4, (some .int), 2, z_i16_0)
set_option maxRecDepth 100000 in
theorem z_d16_0 : ∀ q ∈ z_i16_0, decode prog_4_method_7_code q.1 = .ok q.2 := by decide +kernel
set_option maxRecDepth 100000 in
theorem z_ok16 : z_okM z_m16 := ⟨z_in (z_s3 (List.mem_of_getElem? (i := 101) rfl)) rfl, z_d16_0, by decide +kernel, by decide +kernel, z_in (z_s1 (List.mem_of_getElem? (i := 2) (by decide +kernel))) (by decide +kernel), by decide +kernel, plainFor_of_name (by decide +kernel)⟩
def z_i17_0 : List (Nat × Instr × Nat) := [(0, .aload_n 0, 1), (1, .getfield 36, 3), (4, .iload_n 1, 1), (5, .iaload, 1), (6, .istore_n 2, 1), (7, .iconst 0, 1), (8, .istore_n 3, 1), (9, .iload_n 3, 1), (10, .iconst 4, 1), (11, .if_icmp .ge 24, 3), (14, .iload_n 2, 1), (15, .aload_n 0, 1), (16, .iload_n 1, 1), (17, .iload_n 3, 1), (18, .aload_n 0, 1), (19, .getfield 36, 3), (22, .iload_n 1, 1), (23, .iaload, 1), (24, .invokevirtual 54, 3), (27, .isub, 1), (28, .istore_n 2, 1), (29, .iinc 3 1, 3), (32, .goto (-23), 3), (35, .iload_n 2, 1), (36, .ireturn, 1)]
def z_m17 : zM := (⟨"DustYards$Carts", "waste", "(I)I"⟩, prog_4_method_8_code, 4, (some .int), 2, z_i17_0)
set_option maxRecDepth 100000 in
theorem z_d17_0 : ∀ q ∈ z_i17_0, decode prog_4_method_8_code q.1 = .ok q.2 := by decide +kernel
set_option maxRecDepth 100000 in
theorem z_ok17 : z_okM z_m17 := ⟨z_in (z_s3 (List.mem_of_getElem? (i := 107) rfl)) rfl, z_d17_0, by decide +kernel, by decide +kernel, z_in (z_s1 (List.mem_of_getElem? (i := 2) (by decide +kernel))) (by decide +kernel), by decide +kernel, plainFor_of_name (by decide +kernel)⟩
def z_i18_0 : List (Nat × Instr × Nat) := [(0, .aload_n 0, 1), (1, .getfield 30, 3), (4, .iload_n 1, 1), (5, .iaload, 1), (6, .aload_n 0, 1), (7, .getfield 24, 3), (10, .iload_n 1, 1), (11, .iaload, 1), (12, .isub, 1), (13, .istore_n 2, 1), (14, .iload_n 2, 1), (15, .aload_n 0, 1), (16, .getfield 30, 3), (19, .iload_n 1, 1), (20, .iaload, 1), (21, .getstatic 58, 3), (24, .aload_n 0, 1), (25, .getfield 9, 3), (28, .iload_n 1, 1), (29, .iaload, 1), (30, .iaload, 1), (31, .imul, 1), (32, .bipush 100, 2), (34, .idiv, 1), (35, .if_icmp .le 7, 3), (38, .iload_n 2, 1), (39, .goto 4, 3), (42, .iconst 0, 1), (43, .ireturn, 1)]
def z_m18 : zM := (⟨"DustYards$Carts", "shortBy", "(I)I"⟩, prog_4_method_9_code, 3, (some .int), 2, z_i18_0)
set_option maxRecDepth 100000 in
theorem z_d18_0 : ∀ q ∈ z_i18_0, decode prog_4_method_9_code q.1 = .ok q.2 := by decide +kernel
set_option maxRecDepth 100000 in
theorem z_ok18 : z_okM z_m18 := ⟨z_in (z_s3 (List.mem_of_getElem? (i := 112) rfl)) rfl, z_d18_0, by decide +kernel, by decide +kernel, z_in (z_s1 (List.mem_of_getElem? (i := 2) (by decide +kernel))) (by decide +kernel), by decide +kernel, plainFor_of_name (by decide +kernel)⟩
def z_i19_0 : List (Nat × Instr × Nat) := [(0, .aload_n 0, 1), (1, .getfield 9, 3), (4, .iload_n 1, 1), (5, .iaload, 1), (6, .istore_n 3, 1), (7, .iconst 0, 1), (8, .istore 4, 2), (10, .iload 4, 2), (12, .bipush 6, 2), (14, .if_icmp .ge 27, 3), (17, .iload_n 3, 1), (18, .iconst (-1), 1), (19, .if_icmp .eq 22, 3), (22, .iload_n 3, 1), (23, .iload_n 2, 1), (24, .if_icmp .ne 5, 3), (27, .iconst 1, 1), (28, .ireturn, 1), (29, .getstatic 61, 3), (32, .iload_n 3, 1), (33, .iaload, 1), (34, .istore_n 3, 1), (35, .iinc 4 1, 3), (38, .goto (-28), 3), (41, .iconst 0, 1), (42, .ireturn, 1)]
def z_m19 : zM := (⟨"DustYards$Carts", "isOfKind", "(II)Z"⟩, prog_4_method_10_code, 5, (some .boolean), 2, z_i19_0)
set_option maxRecDepth 100000 in
theorem z_d19_0 : ∀ q ∈ z_i19_0, decode prog_4_method_10_code q.1 = .ok q.2 := by decide +kernel
set_option maxRecDepth 100000 in
theorem z_ok19 : z_okM z_m19 := ⟨z_in (z_s4 (List.mem_of_getElem? (i := 213) rfl)) rfl, z_d19_0, by decide +kernel, by decide +kernel, z_in (z_s1 (List.mem_of_getElem? (i := 2) (by decide +kernel))) (by decide +kernel), by decide +kernel, plainFor_of_name (by decide +kernel)⟩
def z_i20_0 : List (Nat × Instr × Nat) := [(0, .iconst 0, 1), (1, .istore_n 3, 1), (2, .iconst 0, 1), (3, .istore 4, 2), (5, .iload 4, 2), (7, .aload_n 0, 1), (8, .getfield 43, 3), (11, .if_icmp .ge 50, 3), (14, .aload_n 0, 1), (15, .iload 4, 2), (17, .iload_n 1, 1), (18, .invokevirtual 64, 3), (21, .ifCond .eq 34, 3), (24, .aload_n 0, 1), (25, .getfield 36, 3), (28, .iload 4, 2), (30, .iaload, 1), (31, .iload_n 2, 1), (32, .imul, 1), (33, .bipush 100, 2), (35, .idiv, 1), (36, .istore 5, 2), (38, .aload_n 0, 1), (39, .getfield 36, 3), (42, .iload 4, 2), (44, .dup2, 1), (45, .iaload, 1), (46, .iload 5, 2), (48, .isub, 1), (49, .iastore, 1), (50, .iload_n 3, 1), (51, .iload 5, 2), (53, .iadd, 1), (54, .istore_n 3, 1), (55, .iinc 4 1, 3), (58, .goto (-53), 3), (61, .iload_n 3, 1), (62, .ireturn, 1)]
def z_m20 : zM := (⟨"DustYards$Carts", "burn", "(II)I"⟩, prog_4_method_11_code, 6, (some .int), 2, z_i20_0)
set_option maxRecDepth 100000 in
theorem z_d20_0 : ∀ q ∈ z_i20_0, decode prog_4_method_11_code q.1 = .ok q.2 := by decide +kernel
set_option maxRecDepth 100000 in
theorem z_ok20 : z_okM z_m20 := ⟨z_in (z_s3 (List.mem_of_getElem? (i := 135) rfl)) rfl, z_d20_0, by decide +kernel, by decide +kernel, z_in (z_s1 (List.mem_of_getElem? (i := 2) (by decide +kernel))) (by decide +kernel), by decide +kernel, plainFor_of_name (by decide +kernel)⟩
def z_i21_0 : List (Nat × Instr × Nat) := [(0, .iconst 0, 1), (1, .istore_n 2, 1), (2, .iconst 0, 1), (3, .istore_n 3, 1), (4, .iload_n 3, 1), (5, .aload_n 0, 1), (6, .getfield 43, 3), (9, .if_icmp .ge 31, 3), (12, .iload_n 2, 1), (13, .aload_n 0, 1), (14, .iload_n 3, 1), (15, .iload_n 1, 1), (16, .invokevirtual 64, 3), (19, .ifCond .eq 12, 3), (22, .aload_n 0, 1), (23, .getfield 36, 3), (26, .iload_n 3, 1), (27, .iaload, 1), (28, .goto 4, 3), (31, .iconst 0, 1), (32, .iadd, 1), (33, .istore_n 2, 1), (34, .iinc 3 1, 3), (37, .goto (-33), 3), (40, .iload_n 2, 1), (41, .ireturn, 1)]
def z_m21 : zM := (⟨"DustYards$Carts", "dryOn", "(I)I"⟩, prog_4_method_12_code, 4, (some .int), 2, z_i21_0)
set_option maxRecDepth 100000 in
theorem z_d21_0 : ∀ q ∈ z_i21_0, decode prog_4_method_12_code q.1 = .ok q.2 := by decide +kernel
set_option maxRecDepth 100000 in
theorem z_ok21 : z_okM z_m21 := ⟨z_in (z_s3 (List.mem_of_getElem? (i := 144) rfl)) rfl, z_d21_0, by decide +kernel, by decide +kernel, z_in (z_s1 (List.mem_of_getElem? (i := 2) (by decide +kernel))) (by decide +kernel), by decide +kernel, plainFor_of_name (by decide +kernel)⟩
def z_i22_0 : List (Nat × Instr × Nat) := [(0, .aload_n 0, 1), (1, .invokespecial 3, 3), (4, .aload_n 0, 1), (5, .bipush 6, 2), (7, .anewarray 9, 3), (10, .putfield 11, 3), (13, .aload_n 0, 1), (14, .bipush 20, 2), (16, .newarray .int, 2), (18, .putfield 17, 3), (21, .aload_n 0, 1), (22, .bipush 20, 2), (24, .newarray .int, 2), (26, .putfield 21, 3), (29, .aload_n 0, 1), (30, .bipush 20, 2), (32, .newarray .int, 2), (34, .putfield 24, 3), (37, .iconst 0, 1), (38, .istore_n 1, 1), (39, .iload_n 1, 1), (40, .bipush 6, 2), (42, .if_icmp .ge 22, 3), (45, .aload_n 0, 1), (46, .getfield 11, 3), (49, .iload_n 1, 1), (50, .new 9, 3), (53, .dup, 1), (54, .invokespecial 27, 3), (57, .aastore, 1), (58, .iinc 1 1, 3), (61, .goto (-22), 3), (64, .return_, 1)]
def z_m22 : zM := (⟨"DustYards$Contracts", "<init>", "()V"⟩, prog_5_method_1_code, 2, none, 3, z_i22_0)
set_option maxRecDepth 100000 in
theorem z_d22_0 : ∀ q ∈ z_i22_0, decode prog_5_method_1_code q.1 = .ok q.2 := by decide +kernel
set_option maxRecDepth 100000 in
theorem z_ok22 : z_okM z_m22 := ⟨z_in (z_s1 (List.mem_of_getElem? (i := 138) rfl)) rfl, z_d22_0, by decide +kernel, by decide +kernel, z_in (z_s1 (List.mem_of_getElem? (i := 5) (by decide +kernel))) (by decide +kernel), by decide +kernel, plainFor_of_name (by decide +kernel)⟩
def z_i23_0 : List (Nat × Instr × Nat) := [(0, .aload_n 0, 1), (1, .getfield 17, 3), (4, .aload_n 0, 1), (5, .getfield 28, 3), (8, .iload_n 1, 1), (9, .iastore, 1), (10, .aload_n 0, 1), (11, .getfield 21, 3), (14, .aload_n 0, 1), (15, .getfield 28, 3), (18, .iload_n 2, 1), (19, .iastore, 1), (20, .aload_n 0, 1), (21, .getfield 24, 3), (24, .aload_n 0, 1), (25, .getfield 28, 3), (28, .iload_n 3, 1), (29, .iastore, 1), (30, .aload_n 0, 1), (31, .dup, 1), (32, .getfield 28, 3), (35, .iconst 1, 1), (36, .iadd, 1), (37, .putfield 28, 3), (40, .aload_n 0, 1), (41, .getfield 28, 3), (44, .ireturn, 1)]
def z_m23 : zM := (⟨"DustYards$Contracts", "agree", "(III)I"⟩, prog_5_method_2_code, 4, (some .int), 3, z_i23_0)
set_option maxRecDepth 100000 in
theorem z_d23_0 : ∀ q ∈ z_i23_0, decode prog_5_method_2_code q.1 = .ok q.2 := by decide +kernel
set_option maxRecDepth 100000 in
theorem z_ok23 : z_okM z_m23 := ⟨z_in (z_s3 (List.mem_of_getElem? (i := 190) rfl)) rfl, z_d23_0, by decide +kernel, by decide +kernel, z_in (z_s1 (List.mem_of_getElem? (i := 5) (by decide +kernel))) (by decide +kernel), by decide +kernel, plainFor_of_name (by decide +kernel)⟩
def z_i24_0 : List (Nat × Instr × Nat) := [(0, .iconst (-1), 1), (1, .istore_n 3, 1), (2, .iconst 0, 1), (3, .istore 4, 2), (5, .iload 4, 2), (7, .aload_n 0, 1), (8, .getfield 28, 3), (11, .if_icmp .ge 58, 3), (14, .aload_n 0, 1), (15, .getfield 17, 3), (18, .iload 4, 2), (20, .iaload, 1), (21, .iload_n 1, 1), (22, .if_icmp .ne 41, 3), (25, .aload_n 0, 1), (26, .getfield 21, 3), (29, .iload 4, 2), (31, .iaload, 1), (32, .iload_n 2, 1), (33, .if_icmp .le 6, 3), (36, .goto 27, 3), (39, .iload_n 3, 1), (40, .iconst (-1), 1), (41, .if_icmp .eq 19, 3), (44, .aload_n 0, 1), (45, .getfield 21, 3), (48, .iload 4, 2), (50, .iaload, 1), (51, .aload_n 0, 1), (52, .getfield 21, 3), (55, .iload_n 3, 1), (56, .iaload, 1), (57, .if_icmp .lt 6, 3), (60, .iload 4, 2), (62, .istore_n 3, 1), (63, .iinc 4 1, 3), (66, .goto (-61), 3), (69, .iload_n 3, 1), (70, .iconst (-1), 1), (71, .if_icmp .ne 7, 3), (74, .iconst 0, 1), (75, .goto 9, 3), (78, .aload_n 0, 1), (79, .getfield 24, 3), (82, .iload_n 3, 1), (83, .iaload, 1), (84, .ireturn, 1)]
def z_m24 : zM := (⟨"DustYards$Contracts", "inForce", "(II)I"⟩, prog_5_method_3_code, 5, (some .int), 3, z_i24_0)
set_option maxRecDepth 100000 in
theorem z_d24_0 : ∀ q ∈ z_i24_0, decode prog_5_method_3_code q.1 = .ok q.2 := by decide +kernel
set_option maxRecDepth 100000 in
theorem z_ok24 : z_okM z_m24 := ⟨z_in (z_s3 (List.mem_of_getElem? (i := 198) rfl)) rfl, z_d24_0, by decide +kernel, by decide +kernel, z_in (z_s1 (List.mem_of_getElem? (i := 5) (by decide +kernel))) (by decide +kernel), by decide +kernel, plainFor_of_name (by decide +kernel)⟩
def z_i25_0 : List (Nat × Instr × Nat) := [(0, .aload_n 0, 1), (1, .invokespecial 3, 3), (4, .aload_n 0, 1), (5, .bipush 12, 2), (7, .newarray .int, 2), (9, .putfield 9, 3), (12, .aload_n 0, 1), (13, .bipush 12, 2), (15, .newarray .int, 2), (17, .putfield 15, 3), (20, .aload_n 0, 1), (21, .bipush 12, 2), (23, .newarray .int, 2), (25, .putfield 18, 3), (28, .aload_n 0, 1), (29, .bipush 12, 2), (31, .newarray .int, 2), (33, .putfield 21, 3), (36, .aload_n 0, 1), (37, .bipush 60, 2), (39, .newarray .int, 2), (41, .putfield 24, 3), (44, .aload_n 0, 1), (45, .bipush 60, 2), (47, .newarray .int, 2), (49, .putfield 27, 3), (52, .aload_n 0, 1), (53, .bipush 8, 2), (55, .newarray .int, 2), (57, .putfield 30, 3), (60, .aload_n 0, 1), (61, .sipush 256, 3), (64, .newarray .int, 2), (66, .putfield 33, 3), (69, .return_, 1)]
def z_m25 : zM := (⟨"DustYards$Doors", "<init>", "()V"⟩, prog_6_method_1_code, 1, none, 4, z_i25_0)
set_option maxRecDepth 100000 in
theorem z_d25_0 : ∀ q ∈ z_i25_0, decode prog_6_method_1_code q.1 = .ok q.2 := by decide +kernel
set_option maxRecDepth 100000 in
theorem z_ok25 : z_okM z_m25 := ⟨z_in (z_s1 (List.mem_of_getElem? (i := 205) rfl)) rfl, z_d25_0, by decide +kernel, by decide +kernel, z_in (z_s1 (List.mem_of_getElem? (i := 8) (by decide +kernel))) (by decide +kernel), by decide +kernel, plainFor_of_name (by decide +kernel)⟩
def z_i26_0 : List (Nat × Instr × Nat) := [(0, .aload_n 0, 1), (1, .getfield 9, 3), (4, .aload_n 0, 1), (5, .getfield 36, 3), (8, .iload_n 1, 1), (9, .iastore, 1), (10, .aload_n 0, 1), (11, .getfield 15, 3), (14, .aload_n 0, 1), (15, .getfield 36, 3), (18, .iload_n 2, 1), (19, .iastore, 1), (20, .aload_n 0, 1), (21, .getfield 18, 3), (24, .aload_n 0, 1), (25, .getfield 36, 3), (28, .iload_n 3, 1), (29, .iastore, 1), (30, .aload_n 0, 1), (31, .getfield 21, 3), (34, .aload_n 0, 1), (35, .getfield 36, 3), (38, .iload 4, 2), (40, .iastore, 1), (41, .aload_n 0, 1), (42, .dup, 1), (43, .getfield 36, 3), (46, .iconst 1, 1), (47, .iadd, 1), (48, .putfield 36, 3), (51, .aload_n 0, 1), (52, .getfield 36, 3), (55, .iconst 1, 1), (56, .isub, 1), (57, .ireturn, 1)]
def z_m26 : zM := (⟨"DustYards$Doors", "put", "(IIII)I"⟩, prog_6_method_2_code, 5, (some .int), 4, z_i26_0)
set_option maxRecDepth 100000 in
theorem z_d26_0 : ∀ q ∈ z_i26_0, decode prog_6_method_2_code q.1 = .ok q.2 := by decide +kernel
set_option maxRecDepth 100000 in
theorem z_ok26 : z_okM z_m26 := ⟨z_in (z_s4 (List.mem_of_getElem? (i := 33) rfl)) rfl, z_d26_0, by decide +kernel, by decide +kernel, z_in (z_s1 (List.mem_of_getElem? (i := 8) (by decide +kernel))) (by decide +kernel), by decide +kernel, plainFor_of_name (by decide +kernel)⟩
def z_i27_0 : List (Nat × Instr × Nat) := [(0, .iconst 0, 1), (1, .istore_n 3, 1), (2, .iload_n 3, 1), (3, .aload_n 0, 1), (4, .getfield 40, 3), (7, .if_icmp .ge 31, 3), (10, .aload_n 0, 1), (11, .getfield 24, 3), (14, .iload_n 3, 1), (15, .iaload, 1), (16, .iload_n 1, 1), (17, .if_icmp .ne 15, 3), (20, .aload_n 0, 1), (21, .getfield 27, 3), (24, .iload_n 3, 1), (25, .iaload, 1), (26, .iload_n 2, 1), (27, .if_icmp .ne 5, 3), (30, .iconst 1, 1), (31, .ireturn, 1), (32, .iinc 3 1, 3), (35, .goto (-33), 3), (38, .iconst 0, 1), (39, .ireturn, 1)]
def z_m27 : zM := (⟨"DustYards$Doors", "wasMissed", "(II)Z"⟩, prog_6_method_3_code, 4, (some .boolean), 4, z_i27_0)
set_option maxRecDepth 100000 in
theorem z_d27_0 : ∀ q ∈ z_i27_0, decode prog_6_method_3_code q.1 = .ok q.2 := by decide +kernel
set_option maxRecDepth 100000 in
theorem z_ok27 : z_okM z_m27 := ⟨z_in (z_s4 (List.mem_of_getElem? (i := 41) rfl)) rfl, z_d27_0, by decide +kernel, by decide +kernel, z_in (z_s1 (List.mem_of_getElem? (i := 8) (by decide +kernel))) (by decide +kernel), by decide +kernel, plainFor_of_name (by decide +kernel)⟩
def z_i28_0 : List (Nat × Instr × Nat) := [(0, .aload_n 0, 1), (1, .getfield 24, 3), (4, .aload_n 0, 1), (5, .getfield 40, 3), (8, .iload_n 1, 1), (9, .iastore, 1), (10, .aload_n 0, 1), (11, .getfield 27, 3), (14, .aload_n 0, 1), (15, .getfield 40, 3), (18, .iload_n 2, 1), (19, .iastore, 1), (20, .aload_n 0, 1), (21, .dup, 1), (22, .getfield 40, 3), (25, .iconst 1, 1), (26, .iadd, 1), (27, .putfield 40, 3), (30, .return_, 1)]
def z_m28 : zM := (⟨"DustYards$Doors", "putMissed", "(II)V"⟩, prog_6_method_4_code, 3, none, 4, z_i28_0)
set_option maxRecDepth 100000 in
theorem z_d28_0 : ∀ q ∈ z_i28_0, decode prog_6_method_4_code q.1 = .ok q.2 := by decide +kernel
set_option maxRecDepth 100000 in
theorem z_ok28 : z_okM z_m28 := ⟨z_in (z_s4 (List.mem_of_getElem? (i := 45) rfl)) rfl, z_d28_0, by decide +kernel, by decide +kernel, z_in (z_s1 (List.mem_of_getElem? (i := 8) (by decide +kernel))) (by decide +kernel), by decide +kernel, plainFor_of_name (by decide +kernel)⟩
def z_i29_0 : List (Nat × Instr × Nat) := [(0, .iconst 0, 1), (1, .istore_n 3, 1), (2, .iconst 0, 1), (3, .istore 4, 2), (5, .iload 4, 2), (7, .aload_n 0, 1), (8, .getfield 40, 3), (11, .if_icmp .ge 39, 3), (14, .aload_n 0, 1), (15, .getfield 27, 3), (18, .iload 4, 2), (20, .iaload, 1), (21, .iload_n 2, 1), (22, .if_icmp .ne 22, 3), (25, .aload_n 0, 1), (26, .getfield 9, 3), (29, .aload_n 0, 1), (30, .getfield 24, 3), (33, .iload 4, 2), (35, .iaload, 1), (36, .iaload, 1), (37, .iload_n 1, 1), (38, .if_icmp .ne 6, 3), (41, .iinc 3 1, 3), (44, .iinc 4 1, 3), (47, .goto (-42), 3), (50, .iload_n 3, 1), (51, .ireturn, 1)]
def z_m29 : zM := (⟨"DustYards$Doors", "missedOf", "(II)I"⟩, prog_6_method_5_code, 5, (some .int), 4, z_i29_0)
set_option maxRecDepth 100000 in
theorem z_d29_0 : ∀ q ∈ z_i29_0, decode prog_6_method_5_code q.1 = .ok q.2 := by decide +kernel
set_option maxRecDepth 100000 in
theorem z_ok29 : z_okM z_m29 := ⟨z_in (z_s3 (List.mem_of_getElem? (i := 211) rfl)) rfl, z_d29_0, by decide +kernel, by decide +kernel, z_in (z_s1 (List.mem_of_getElem? (i := 8) (by decide +kernel))) (by decide +kernel), by decide +kernel, plainFor_of_name (by decide +kernel)⟩
def z_i30_0 : List (Nat × Instr × Nat) := [(0, .iconst 0, 1), (1, .istore 4, 2), (3, .iconst 1, 1), (4, .istore 5, 2), (6, .iconst 0, 1), (7, .istore 6, 2), (9, .iload 6, 2), (11, .aload_n 0, 1), (12, .getfield 36, 3), (15, .if_icmp .ge 86, 3), (18, .aload_n 0, 1), (19, .getfield 18, 3), (22, .iload 6, 2), (24, .iaload, 1), (25, .iload_n 1, 1), (26, .if_icmp .eq 6, 3), (29, .goto 66, 3), (32, .iload 4, 2), (34, .bipush 8, 2), (36, .if_icmp .lt 6, 3), (39, .bipush (-3), 2), (41, .ireturn, 1), (42, .aload_n 0, 1), (43, .getfield 30, 3), (46, .iload 4, 2), (48, .aload_n 0, 1), (49, .getfield 15, 3), (52, .iload 6, 2), (54, .iaload, 1), (55, .iastore, 1), (56, .iinc 4 1, 3), (59, .iload 5, 2), (61, .ifCond .eq 31, 3), (64, .aload_n 0, 1), (65, .getfield 15, 3), (68, .iload 6, 2), (70, .iaload, 1), (71, .iload_n 2, 1), (72, .if_icmp .gt 20, 3), (75, .iconst 2, 1), (76, .aload_n 0, 1), (77, .getfield 21, 3), (80, .iload 6, 2), (82, .iaload, 1), (83, .imul, 1), (84, .iload_n 3, 1), (85, .if_icmp .gt 7, 3), (88, .iconst 1, 1), (89, .goto 4, 3), (92, .iconst 0, 1), (93, .istore 5, 2), (95, .iinc 6 1, 3), (98, .goto (-89), 3), (101, .iload 5, 2), (103, .ifCond .ne 5, 3), (106, .iconst (-1), 1), (107, .ireturn, 1), (108, .iload 4, 2), (110, .ifCond .ne 7, 3), (113, .iconst 0, 1)]
def z_i30_1 : List (Nat × Instr × Nat) := [(114, .goto 16, 3), (117, .aload_n 0, 1), (118, .iload 4, 2), (120, .iload_n 2, 1), (121, .invokevirtual 43, 3), (124, .sipush 10000, 3), (127, .idiv, 1), (128, .iconst 1, 1), (129, .iadd, 1), (130, .ireturn, 1)]
def z_m30 : zM := (⟨"DustYards$Doors", "fewestCarts", "(III)I"⟩, prog_6_method_6_code, 7, (some .int), 4, z_i30_0 ++ z_i30_1)
set_option maxRecDepth 100000 in
theorem z_d30_0 : ∀ q ∈ z_i30_0, decode prog_6_method_6_code q.1 = .ok q.2 := by decide +kernel
set_option maxRecDepth 100000 in
theorem z_d30_1 : ∀ q ∈ z_i30_1, decode prog_6_method_6_code q.1 = .ok q.2 := by decide +kernel
set_option maxRecDepth 100000 in
theorem z_ok30 : z_okM z_m30 := ⟨z_in (z_s4 (List.mem_of_getElem? (i := 53) rfl)) rfl, List.forall_mem_append.mpr ⟨z_d30_0, z_d30_1⟩, by decide +kernel, by decide +kernel, z_in (z_s1 (List.mem_of_getElem? (i := 8) (by decide +kernel))) (by decide +kernel), by decide +kernel, plainFor_of_name (by decide +kernel)⟩
def z_i31_0 : List (Nat × Instr × Nat) := [(0, .iconst 1, 1), (1, .iload_n 1, 1), (2, .ishl, 1), (3, .istore_n 3, 1), (4, .aload_n 0, 1), (5, .getfield 33, 3), (8, .iconst 0, 1), (9, .iconst 0, 1), (10, .iastore, 1), (11, .iconst 1, 1), (12, .istore 4, 2), (14, .iload 4, 2), (16, .iload_n 3, 1), (17, .if_icmp .ge 78, 3), (20, .ldc 49, 2), (22, .istore 5, 2), (24, .iconst 0, 1), (25, .istore 6, 2), (27, .iload 6, 2), (29, .iload_n 1, 1), (30, .if_icmp .ge 50, 3), (33, .iload 4, 2), (35, .iload 6, 2), (37, .ishr, 1), (38, .iconst 1, 1), (39, .iand, 1), (40, .iconst 1, 1), (41, .if_icmp .ne 33, 3), (44, .iload 5, 2), (46, .aload_n 0, 1), (47, .getfield 33, 3), (50, .iload 4, 2), (52, .iconst 1, 1), (53, .iload 6, 2), (55, .ishl, 1), (56, .ixor, 1), (57, .iaload, 1), (58, .aload_n 0, 1), (59, .getfield 30, 3), (62, .iload 6, 2), (64, .iaload, 1), (65, .iload_n 2, 1), (66, .invokestatic 50, 3), (69, .invokestatic 54, 3), (72, .istore 5, 2), (74, .iinc 6 1, 3), (77, .goto (-50), 3), (80, .aload_n 0, 1), (81, .getfield 33, 3), (84, .iload 4, 2), (86, .iload 5, 2), (88, .iastore, 1), (89, .iinc 4 1, 3), (92, .goto (-78), 3), (95, .aload_n 0, 1), (96, .getfield 33, 3), (99, .iload_n 3, 1), (100, .iconst 1, 1), (101, .isub, 1), (102, .iaload, 1)]
def z_i31_1 : List (Nat × Instr × Nat) := [(103, .ireturn, 1)]
def z_m31 : zM := (⟨"DustYards$Doors", "filled", "(II)I"⟩, prog_6_method_7_code, 7, (some .int), 4, z_i31_0 ++ z_i31_1)
set_option maxRecDepth 100000 in
theorem z_d31_0 : ∀ q ∈ z_i31_0, decode prog_6_method_7_code q.1 = .ok q.2 := by decide +kernel
set_option maxRecDepth 100000 in
theorem z_d31_1 : ∀ q ∈ z_i31_1, decode prog_6_method_7_code q.1 = .ok q.2 := by decide +kernel
set_option maxRecDepth 100000 in
theorem z_ok31 : z_okM z_m31 := ⟨z_in (z_s4 (List.mem_of_getElem? (i := 57) rfl)) rfl, List.forall_mem_append.mpr ⟨z_d31_0, z_d31_1⟩, by decide +kernel, by decide +kernel, z_in (z_s1 (List.mem_of_getElem? (i := 8) (by decide +kernel))) (by decide +kernel), by decide +kernel, plainFor_of_name (by decide +kernel)⟩
def z_i32_0 : List (Nat × Instr × Nat) := [(0, .iload_n 0, 1), (1, .sipush 10000, 3), (4, .irem, 1), (5, .istore_n 3, 1), (6, .iload_n 3, 1), (7, .iload_n 1, 1), (8, .iadd, 1), (9, .iload_n 2, 1), (10, .if_icmp .gt 9, 3), (13, .iload_n 0, 1), (14, .iload_n 1, 1), (15, .iadd, 1), (16, .goto 12, 3), (19, .iload_n 0, 1), (20, .iload_n 3, 1), (21, .isub, 1), (22, .sipush 10000, 3), (25, .iadd, 1), (26, .iload_n 1, 1), (27, .iadd, 1), (28, .ireturn, 1)]
def z_m32 : zM := (⟨"DustYards$Doors", "loaded", "(III)I"⟩, prog_6_method_8_code, 4, (some .int), 4, z_i32_0)
set_option maxRecDepth 100000 in
theorem z_d32_0 : ∀ q ∈ z_i32_0, decode prog_6_method_8_code q.1 = .ok q.2 := by decide +kernel
set_option maxRecDepth 100000 in
theorem z_ok32 : z_okM z_m32 := ⟨z_in (z_s4 (List.mem_of_getElem? (i := 61) rfl)) rfl, z_d32_0, by decide +kernel, by decide +kernel, z_in (z_s1 (List.mem_of_getElem? (i := 8) (by decide +kernel))) (by decide +kernel), by decide +kernel, plainFor_of_name (by decide +kernel)⟩
def z_i33_0 : List (Nat × Instr × Nat) := [(0, .aload_n 0, 1), (1, .invokespecial 3, 3), (4, .aload_n 0, 1), (5, .bipush 20, 2), (7, .newarray .int, 2), (9, .putfield 9, 3), (12, .aload_n 0, 1), (13, .bipush 20, 2), (15, .newarray .int, 2), (17, .putfield 15, 3), (20, .aload_n 0, 1), (21, .bipush 20, 2), (23, .newarray .int, 2), (25, .putfield 18, 3), (28, .return_, 1)]
def z_m33 : zM := (⟨"DustYards$Finds", "<init>", "()V"⟩, prog_7_method_1_code, 1, none, 5, z_i33_0)
set_option maxRecDepth 100000 in
theorem z_d33_0 : ∀ q ∈ z_i33_0, decode prog_7_method_1_code q.1 = .ok q.2 := by decide +kernel
set_option maxRecDepth 100000 in
theorem z_ok33 : z_okM z_m33 := ⟨z_in (z_s1 (List.mem_of_getElem? (i := 182) rfl)) rfl, z_d33_0, by decide +kernel, by decide +kernel, z_in (z_s1 (List.mem_of_getElem? (i := 7) (by decide +kernel))) (by decide +kernel), by decide +kernel, plainFor_of_name (by decide +kernel)⟩
def z_i34_0 : List (Nat × Instr × Nat) := [(0, .aload_n 0, 1), (1, .getfield 9, 3), (4, .aload_n 0, 1), (5, .getfield 21, 3), (8, .iload_n 1, 1), (9, .iastore, 1), (10, .aload_n 0, 1), (11, .getfield 15, 3), (14, .aload_n 0, 1), (15, .getfield 21, 3), (18, .iload_n 2, 1), (19, .iastore, 1), (20, .aload_n 0, 1), (21, .getfield 18, 3), (24, .aload_n 0, 1), (25, .getfield 21, 3), (28, .iload_n 3, 1), (29, .iastore, 1), (30, .aload_n 0, 1), (31, .dup, 1), (32, .getfield 21, 3), (35, .iconst 1, 1), (36, .iadd, 1), (37, .putfield 21, 3), (40, .aload_n 0, 1), (41, .getfield 21, 3), (44, .iconst 1, 1), (45, .isub, 1), (46, .ireturn, 1)]
def z_m34 : zM := (⟨"DustYards$Finds", "put", "(III)I"⟩, prog_7_method_2_code, 4, (some .int), 5, z_i34_0)
set_option maxRecDepth 100000 in
theorem z_d34_0 : ∀ q ∈ z_i34_0, decode prog_7_method_2_code q.1 = .ok q.2 := by decide +kernel
set_option maxRecDepth 100000 in
theorem z_ok34 : z_okM z_m34 := ⟨z_in (z_s4 (List.mem_of_getElem? (i := 6) rfl)) rfl, z_d34_0, by decide +kernel, by decide +kernel, z_in (z_s1 (List.mem_of_getElem? (i := 7) (by decide +kernel))) (by decide +kernel), by decide +kernel, plainFor_of_name (by decide +kernel)⟩
def z_i35_0 : List (Nat × Instr × Nat) := [(0, .aload_n 0, 1), (1, .invokespecial 3, 3), (4, .aload_n 0, 1), (5, .bipush 50, 2), (7, .newarray .int, 2), (9, .putfield 9, 3), (12, .aload_n 0, 1), (13, .iconst 5, 1), (14, .newarray .int, 2), (16, .putfield 15, 3), (19, .aload_n 0, 1), (20, .iconst 5, 1), (21, .newarray .int, 2), (23, .putfield 18, 3), (26, .aload_n 0, 1), (27, .iconst 5, 1), (28, .newarray .int, 2), (30, .putfield 21, 3), (33, .return_, 1)]
def z_m35 : zM := (⟨"DustYards$Hands", "<init>", "()V"⟩, prog_8_method_1_code, 1, none, 6, z_i35_0)
set_option maxRecDepth 100000 in
theorem z_d35_0 : ∀ q ∈ z_i35_0, decode prog_8_method_1_code q.1 = .ok q.2 := by decide +kernel
set_option maxRecDepth 100000 in
theorem z_ok35 : z_okM z_m35 := ⟨z_in (z_s2 (List.mem_of_getElem? (i := 6) rfl)) rfl, z_d35_0, by decide +kernel, by decide +kernel, z_in (z_s1 (List.mem_of_getElem? (i := 9) (by decide +kernel))) (by decide +kernel), by decide +kernel, plainFor_of_name (by decide +kernel)⟩
def z_i36_0 : List (Nat × Instr × Nat) := [(0, .aload_n 0, 1), (1, .getfield 9, 3), (4, .iload_n 1, 1), (5, .iconst 5, 1), (6, .imul, 1), (7, .iload_n 2, 1), (8, .iadd, 1), (9, .iaload, 1), (10, .istore 4, 2), (12, .aload_n 0, 1), (13, .getfield 9, 3), (16, .iload_n 1, 1), (17, .iconst 5, 1), (18, .imul, 1), (19, .iload_n 2, 1), (20, .iadd, 1), (21, .iload_n 3, 1), (22, .iastore, 1), (23, .iload 4, 2), (25, .ireturn, 1)]
def z_m36 : zM := (⟨"DustYards$Hands", "setWin", "(III)I"⟩, prog_8_method_2_code, 5, (some .int), 6, z_i36_0)
set_option maxRecDepth 100000 in
theorem z_d36_0 : ∀ q ∈ z_i36_0, decode prog_8_method_2_code q.1 = .ok q.2 := by decide +kernel
set_option maxRecDepth 100000 in
theorem z_ok36 : z_okM z_m36 := ⟨z_in (z_s4 (List.mem_of_getElem? (i := 84) rfl)) rfl, z_d36_0, by decide +kernel, by decide +kernel, z_in (z_s1 (List.mem_of_getElem? (i := 9) (by decide +kernel))) (by decide +kernel), by decide +kernel, plainFor_of_name (by decide +kernel)⟩
def z_i37_0 : List (Nat × Instr × Nat) := [(0, .aload_n 0, 1), (1, .iconst 0, 1), (2, .putfield 24, 3), (5, .iconst 0, 1), (6, .istore_n 2, 1), (7, .iload_n 2, 1), (8, .bipush 10, 2), (10, .if_icmp .ge 46, 3), (13, .iload_n 1, 1), (14, .iload_n 2, 1), (15, .ishr, 1), (16, .iconst 1, 1), (17, .iand, 1), (18, .iconst 1, 1), (19, .if_icmp .ne 31, 3), (22, .aload_n 0, 1), (23, .getfield 24, 3), (26, .iconst 5, 1), (27, .if_icmp .ge 23, 3), (30, .aload_n 0, 1), (31, .getfield 15, 3), (34, .aload_n 0, 1), (35, .getfield 24, 3), (38, .iload_n 2, 1), (39, .iastore, 1), (40, .aload_n 0, 1), (41, .dup, 1), (42, .getfield 24, 3), (45, .iconst 1, 1), (46, .iadd, 1), (47, .putfield 24, 3), (50, .iinc 2 1, 3), (53, .goto (-46), 3), (56, .aload_n 0, 1), (57, .iconst (-1), 1), (58, .putfield 28, 3), (61, .aload_n 0, 1), (62, .iconst 0, 1), (63, .iconst 0, 1), (64, .iconst 0, 1), (65, .invokevirtual 31, 3), (68, .return_, 1)]
def z_m37 : zM := (⟨"DustYards$Hands", "layAll", "(I)V"⟩, prog_8_method_3_code, 3, none, 6, z_i37_0)
set_option maxRecDepth 100000 in
theorem z_d37_0 : ∀ q ∈ z_i37_0, decode prog_8_method_3_code q.1 = .ok q.2 := by decide +kernel
set_option maxRecDepth 100000 in
theorem z_ok37 : z_okM z_m37 := ⟨z_in (z_s4 (List.mem_of_getElem? (i := 98) rfl)) rfl, z_d37_0, by decide +kernel, by decide +kernel, z_in (z_s1 (List.mem_of_getElem? (i := 9) (by decide +kernel))) (by decide +kernel), by decide +kernel, plainFor_of_name (by decide +kernel)⟩
def z_i38_0 : List (Nat × Instr × Nat) := [(0, .iload_n 1, 1), (1, .aload_n 0, 1), (2, .getfield 24, 3), (5, .if_icmp .lt 34, 3), (8, .iload_n 3, 1), (9, .aload_n 0, 1), (10, .getfield 28, 3), (13, .if_icmp .le 25, 3), (16, .aload_n 0, 1), (17, .iload_n 3, 1), (18, .putfield 28, 3), (21, .aload_n 0, 1), (22, .getfield 18, 3), (25, .iconst 0, 1), (26, .aload_n 0, 1), (27, .getfield 21, 3), (30, .iconst 0, 1), (31, .aload_n 0, 1), (32, .getfield 24, 3), (35, .invokestatic 35, 3), (38, .return_, 1), (39, .iconst 0, 1), (40, .istore 4, 2), (42, .iload 4, 2), (44, .iconst 5, 1), (45, .if_icmp .ge 57, 3), (48, .iload_n 2, 1), (49, .iload 4, 2), (51, .ishr, 1), (52, .iconst 1, 1), (53, .iand, 1), (54, .ifCond .ne 42, 3), (57, .aload_n 0, 1), (58, .getfield 18, 3), (61, .iload_n 1, 1), (62, .iload 4, 2), (64, .iastore, 1), (65, .aload_n 0, 1), (66, .iload_n 1, 1), (67, .iconst 1, 1), (68, .iadd, 1), (69, .iload_n 2, 1), (70, .iconst 1, 1), (71, .iload 4, 2), (73, .ishl, 1), (74, .ior, 1), (75, .iload_n 3, 1), (76, .aload_n 0, 1), (77, .getfield 9, 3), (80, .aload_n 0, 1), (81, .getfield 15, 3), (84, .iload_n 1, 1), (85, .iaload, 1), (86, .iconst 5, 1), (87, .imul, 1), (88, .iload 4, 2), (90, .iadd, 1), (91, .iaload, 1), (92, .iadd, 1), (93, .invokevirtual 31, 3)]
def z_i38_1 : List (Nat × Instr × Nat) := [(96, .iinc 4 1, 3), (99, .goto (-57), 3), (102, .return_, 1)]
def z_m38 : zM := (⟨"DustYards$Hands", "layFrom", "(III)V"⟩, prog_8_method_4_code, 5, none, 6, z_i38_0 ++ z_i38_1)
set_option maxRecDepth 100000 in
theorem z_d38_0 : ∀ q ∈ z_i38_0, decode prog_8_method_4_code q.1 = .ok q.2 := by decide +kernel
set_option maxRecDepth 100000 in
theorem z_d38_1 : ∀ q ∈ z_i38_1, decode prog_8_method_4_code q.1 = .ok q.2 := by decide +kernel
set_option maxRecDepth 100000 in
theorem z_ok38 : z_okM z_m38 := ⟨z_in (z_s4 (List.mem_of_getElem? (i := 102) rfl)) rfl, List.forall_mem_append.mpr ⟨z_d38_0, z_d38_1⟩, by decide +kernel, by decide +kernel, z_in (z_s1 (List.mem_of_getElem? (i := 9) (by decide +kernel))) (by decide +kernel), by decide +kernel, plainFor_of_name (by decide +kernel)⟩
def z_i39_0 : List (Nat × Instr × Nat) := [(0, .aload_n 0, 1), (1, .invokespecial 3, 3), (4, .aload_n 0, 1), (5, .bipush 40, 2), (7, .newarray .int, 2), (9, .putfield 9, 3), (12, .aload_n 0, 1), (13, .bipush 40, 2), (15, .newarray .int, 2), (17, .putfield 15, 3), (20, .aload_n 0, 1), (21, .bipush 40, 2), (23, .newarray .int, 2), (25, .putfield 18, 3), (28, .aload_n 0, 1), (29, .bipush 40, 2), (31, .newarray .int, 2), (33, .putfield 21, 3), (36, .return_, 1)]
def z_m39 : zM := (⟨"DustYards$Prices", "<init>", "()V"⟩, prog_9_method_1_code, 1, none, 7, z_i39_0)
set_option maxRecDepth 100000 in
theorem z_d39_0 : ∀ q ∈ z_i39_0, decode prog_9_method_1_code q.1 = .ok q.2 := by decide +kernel
set_option maxRecDepth 100000 in
theorem z_ok39 : z_okM z_m39 := ⟨z_in (z_s1 (List.mem_of_getElem? (i := 86) rfl)) rfl, z_d39_0, by decide +kernel, by decide +kernel, z_in (z_s1 (List.mem_of_getElem? (i := 3) (by decide +kernel))) (by decide +kernel), by decide +kernel, plainFor_of_name (by decide +kernel)⟩
def z_i40_0 : List (Nat × Instr × Nat) := [(0, .aload_n 0, 1), (1, .getfield 9, 3), (4, .aload_n 0, 1), (5, .getfield 24, 3), (8, .iload_n 1, 1), (9, .iastore, 1), (10, .aload_n 0, 1), (11, .getfield 15, 3), (14, .aload_n 0, 1), (15, .getfield 24, 3), (18, .iload_n 2, 1), (19, .iastore, 1), (20, .aload_n 0, 1), (21, .getfield 18, 3), (24, .aload_n 0, 1), (25, .getfield 24, 3), (28, .iload_n 3, 1), (29, .iastore, 1), (30, .aload_n 0, 1), (31, .getfield 21, 3), (34, .aload_n 0, 1), (35, .getfield 24, 3), (38, .iload 4, 2), (40, .iastore, 1), (41, .aload_n 0, 1), (42, .dup, 1), (43, .getfield 24, 3), (46, .iconst 1, 1), (47, .iadd, 1), (48, .putfield 24, 3), (51, .aload_n 0, 1), (52, .getfield 24, 3), (55, .ireturn, 1)]
def z_m40 : zM := (⟨"DustYards$Prices", "tell", "(IIII)I"⟩, prog_9_method_2_code, 5, (some .int), 7, z_i40_0)
set_option maxRecDepth 100000 in
theorem z_d40_0 : ∀ q ∈ z_i40_0, decode prog_9_method_2_code q.1 = .ok q.2 := by decide +kernel
set_option maxRecDepth 100000 in
theorem z_ok40 : z_okM z_m40 := ⟨z_in (z_s3 (List.mem_of_getElem? (i := 173) rfl)) rfl, z_d40_0, by decide +kernel, by decide +kernel, z_in (z_s1 (List.mem_of_getElem? (i := 3) (by decide +kernel))) (by decide +kernel), by decide +kernel, plainFor_of_name (by decide +kernel)⟩
end
section
def z_i41_0 : List (Nat × Instr × Nat) := [(0, .iconst (-1), 1), (1, .istore 4, 2), (3, .iconst 0, 1), (4, .istore 5, 2), (6, .iload 5, 2), (8, .aload_n 0, 1), (9, .getfield 24, 3), (12, .if_icmp .ge 72, 3), (15, .aload_n 0, 1), (16, .getfield 9, 3), (19, .iload 5, 2), (21, .iaload, 1), (22, .iload_n 1, 1), (23, .if_icmp .ne 55, 3), (26, .aload_n 0, 1), (27, .getfield 15, 3), (30, .iload 5, 2), (32, .iaload, 1), (33, .iload_n 2, 1), (34, .if_icmp .gt 44, 3), (37, .aload_n 0, 1), (38, .getfield 21, 3), (41, .iload 5, 2), (43, .iaload, 1), (44, .iload_n 3, 1), (45, .if_icmp .le 6, 3), (48, .goto 30, 3), (51, .iload 4, 2), (53, .iconst (-1), 1), (54, .if_icmp .eq 20, 3), (57, .aload_n 0, 1), (58, .getfield 15, 3), (61, .iload 5, 2), (63, .iaload, 1), (64, .aload_n 0, 1), (65, .getfield 15, 3), (68, .iload 4, 2), (70, .iaload, 1), (71, .if_icmp .lt 7, 3), (74, .iload 5, 2), (76, .istore 4, 2), (78, .iinc 5 1, 3), (81, .goto (-75), 3), (84, .iload 4, 2), (86, .iconst (-1), 1), (87, .if_icmp .ne 7, 3), (90, .iconst 0, 1), (91, .goto 10, 3), (94, .aload_n 0, 1), (95, .getfield 18, 3), (98, .iload 4, 2), (100, .iaload, 1), (101, .ireturn, 1)]
def z_m41 : zM := (⟨"DustYards$Prices", "known", "(III)I"⟩, prog_9_method_3_code, 6, (some .int), 7, z_i41_0)
set_option maxRecDepth 100000 in
theorem z_d41_0 : ∀ q ∈ z_i41_0, decode prog_9_method_3_code q.1 = .ok q.2 := by decide +kernel
set_option maxRecDepth 100000 in
theorem z_ok41 : z_okM z_m41 := ⟨z_in (z_s3 (List.mem_of_getElem? (i := 159) rfl)) rfl, z_d41_0, by decide +kernel, by decide +kernel, z_in (z_s1 (List.mem_of_getElem? (i := 3) (by decide +kernel))) (by decide +kernel), by decide +kernel, plainFor_of_name (by decide +kernel)⟩
def z_i42_0 : List (Nat × Instr × Nat) := [(0, .aload_n 0, 1), (1, .invokespecial 3, 3), (4, .aload_n 0, 1), (5, .bipush 40, 2), (7, .newarray .int, 2), (9, .putfield 9, 3), (12, .aload_n 0, 1), (13, .iconst (-1), 1), (14, .putfield 15, 3), (17, .return_, 1)]
def z_m42 : zM := (⟨"DustYards$Sheet", "<init>", "()V"⟩, prog_10_method_1_code, 1, none, 8, z_i42_0)
set_option maxRecDepth 100000 in
theorem z_d42_0 : ∀ q ∈ z_i42_0, decode prog_10_method_1_code q.1 = .ok q.2 := by decide +kernel
set_option maxRecDepth 100000 in
theorem z_ok42 : z_okM z_m42 := ⟨z_in (z_s2 (List.mem_of_getElem? (i := 77) rfl)) rfl, z_d42_0, by decide +kernel, by decide +kernel, z_in (z_s1 (List.mem_of_getElem? (i := 12) (by decide +kernel))) (by decide +kernel), by decide +kernel, plainFor_of_name (by decide +kernel)⟩
def z_i43_0 : List (Nat × Instr × Nat) := [(0, .aload_n 0, 1), (1, .getfield 15, 3), (4, .iconst (-1), 1), (5, .if_icmp .ne 7, 3), (8, .iconst 1, 1), (9, .goto 4, 3), (12, .iconst 0, 1), (13, .ireturn, 1)]
def z_m43 : zM := (⟨"DustYards$Sheet", "isMissing", "()Z"⟩, prog_10_method_2_code, 1, (some .boolean), 8, z_i43_0)
set_option maxRecDepth 100000 in
theorem z_d43_0 : ∀ q ∈ z_i43_0, decode prog_10_method_2_code q.1 = .ok q.2 := by decide +kernel
set_option maxRecDepth 100000 in
theorem z_ok43 : z_okM z_m43 := ⟨z_in (z_s4 (List.mem_of_getElem? (i := 183) rfl)) rfl, z_d43_0, by decide +kernel, by decide +kernel, z_in (z_s1 (List.mem_of_getElem? (i := 12) (by decide +kernel))) (by decide +kernel), by decide +kernel, plainFor_of_name (by decide +kernel)⟩
def z_i44_0 : List (Nat × Instr × Nat) := [(0, .aload_n 0, 1), (1, .iload_n 1, 1), (2, .putfield 15, 3), (5, .aload_n 0, 1), (6, .iload_n 2, 1), (7, .putfield 19, 3), (10, .aload_n 0, 1), (11, .getfield 9, 3), (14, .iconst 0, 1), (15, .invokestatic 22, 3), (18, .return_, 1)]
def z_m44 : zM := (⟨"DustYards$Sheet", "become", "(II)V"⟩, prog_10_method_3_code, 3, none, 8, z_i44_0)
set_option maxRecDepth 100000 in
theorem z_d44_0 : ∀ q ∈ z_i44_0, decode prog_10_method_3_code q.1 = .ok q.2 := by decide +kernel
set_option maxRecDepth 100000 in
theorem z_ok44 : z_okM z_m44 := ⟨z_in (z_s4 (List.mem_of_getElem? (i := 174) rfl)) rfl, z_d44_0, by decide +kernel, by decide +kernel, z_in (z_s1 (List.mem_of_getElem? (i := 12) (by decide +kernel))) (by decide +kernel), by decide +kernel, plainFor_of_name (by decide +kernel)⟩
def z_i45_0 : List (Nat × Instr × Nat) := [(0, .aload_n 0, 1), (1, .getfield 9, 3), (4, .iload_n 1, 1), (5, .aload_n 0, 1), (6, .getfield 15, 3), (9, .ifCond .ne 8, 3), (12, .iload_n 2, 1), (13, .i2b, 1), (14, .goto 17, 3), (17, .aload_n 0, 1), (18, .getfield 15, 3), (21, .iconst 1, 1), (22, .if_icmp .ne 8, 3), (25, .iload_n 2, 1), (26, .i2s, 1), (27, .goto 4, 3), (30, .iload_n 2, 1), (31, .iastore, 1), (32, .return_, 1)]
def z_m45 : zM := (⟨"DustYards$Sheet", "write", "(II)V"⟩, prog_10_method_4_code, 3, none, 8, z_i45_0)
set_option maxRecDepth 100000 in
theorem z_d45_0 : ∀ q ∈ z_i45_0, decode prog_10_method_4_code q.1 = .ok q.2 := by decide +kernel
set_option maxRecDepth 100000 in
theorem z_ok45 : z_okM z_m45 := ⟨z_in (z_s4 (List.mem_of_getElem? (i := 187) rfl)) rfl, z_d45_0, by decide +kernel, by decide +kernel, z_in (z_s1 (List.mem_of_getElem? (i := 12) (by decide +kernel))) (by decide +kernel), by decide +kernel, plainFor_of_name (by decide +kernel)⟩
def z_i46_0 : List (Nat × Instr × Nat) := [(0, .iload_n 1, 1), (1, .ifCond .lt 21, 3), (4, .iload_n 2, 1), (5, .ifCond .lt 17, 3), (8, .iload_n 1, 1), (9, .aload_n 0, 1), (10, .getfield 19, 3), (13, .iload_n 2, 1), (14, .isub, 1), (15, .if_icmp .gt 7, 3), (18, .iconst 1, 1), (19, .goto 4, 3), (22, .iconst 0, 1), (23, .ireturn, 1)]
def z_m46 : zM := (⟨"DustYards$Sheet", "holds", "(II)Z"⟩, prog_10_method_5_code, 3, (some .boolean), 8, z_i46_0)
set_option maxRecDepth 100000 in
theorem z_d46_0 : ∀ q ∈ z_i46_0, decode prog_10_method_5_code q.1 = .ok q.2 := by decide +kernel
set_option maxRecDepth 100000 in
theorem z_ok46 : z_okM z_m46 := ⟨z_in (z_s4 (List.mem_of_getElem? (i := 195) rfl)) rfl, z_d46_0, by decide +kernel, by decide +kernel, z_in (z_s1 (List.mem_of_getElem? (i := 12) (by decide +kernel))) (by decide +kernel), by decide +kernel, plainFor_of_name (by decide +kernel)⟩
def z_i47_0 : List (Nat × Instr × Nat) := [(0, .aload_n 0, 1), (1, .invokespecial 3, 3), (4, .aload_n 0, 1), (5, .sipush 160, 3), (8, .newarray .int, 2), (10, .putfield 9, 3), (13, .return_, 1)]
def z_m47 : zM := (⟨"DustYards$Tape", "<init>", "()V"⟩, prog_11_method_1_code, 1, none, 9, z_i47_0)
set_option maxRecDepth 100000 in
theorem z_d47_0 : ∀ q ∈ z_i47_0, decode prog_11_method_1_code q.1 = .ok q.2 := by decide +kernel
set_option maxRecDepth 100000 in
theorem z_ok47 : z_okM z_m47 := ⟨z_in (z_s1 (List.mem_of_getElem? (i := 109) rfl)) rfl, z_d47_0, by decide +kernel, by decide +kernel, z_in (z_s1 (List.mem_of_getElem? (i := 4) (by decide +kernel))) (by decide +kernel), by decide +kernel, plainFor_of_name (by decide +kernel)⟩
def z_i48_0 : List (Nat × Instr × Nat) := [(0, .aload_n 0, 1), (1, .getfield 15, 3), (4, .sipush 160, 3), (7, .if_icmp .ge 23, 3), (10, .aload_n 0, 1), (11, .getfield 9, 3), (14, .aload_n 0, 1), (15, .getfield 15, 3), (18, .iload_n 1, 1), (19, .iastore, 1), (20, .aload_n 0, 1), (21, .dup, 1), (22, .getfield 15, 3), (25, .iconst 1, 1), (26, .iadd, 1), (27, .putfield 15, 3), (30, .return_, 1)]
def z_m48 : zM := (⟨"DustYards$Tape", "put", "(I)V"⟩, prog_11_method_2_code, 2, none, 9, z_i48_0)
set_option maxRecDepth 100000 in
theorem z_d48_0 : ∀ q ∈ z_i48_0, decode prog_11_method_2_code q.1 = .ok q.2 := by decide +kernel
set_option maxRecDepth 100000 in
theorem z_ok48 : z_okM z_m48 := ⟨z_in (z_s2 (List.mem_of_getElem? (i := 144) rfl)) rfl, z_d48_0, by decide +kernel, by decide +kernel, z_in (z_s1 (List.mem_of_getElem? (i := 4) (by decide +kernel))) (by decide +kernel), by decide +kernel, plainFor_of_name (by decide +kernel)⟩
def z_i49_0 : List (Nat × Instr × Nat) := [(0, .aload_n 0, 1), (1, .iconst 0, 1), (2, .putfield 15, 3), (5, .return_, 1)]
def z_m49 : zM := (⟨"DustYards$Tape", "empty", "()V"⟩, prog_11_method_3_code, 1, none, 9, z_i49_0)
set_option maxRecDepth 100000 in
theorem z_d49_0 : ∀ q ∈ z_i49_0, decode prog_11_method_3_code q.1 = .ok q.2 := by decide +kernel
set_option maxRecDepth 100000 in
theorem z_ok49 : z_okM z_m49 := ⟨z_in (z_s3 (List.mem_of_getElem? (i := 7) rfl)) rfl, z_d49_0, by decide +kernel, by decide +kernel, z_in (z_s1 (List.mem_of_getElem? (i := 4) (by decide +kernel))) (by decide +kernel), by decide +kernel, plainFor_of_name (by decide +kernel)⟩
def z_i50_0 : List (Nat × Instr × Nat) := [(0, .aload_n 0, 1), (1, .iconst 0, 1), (2, .putfield 19, 3), (5, .aload_n 0, 1), (6, .invokevirtual 22, 3), (9, .return_, 1)]
def z_m50 : zM := (⟨"DustYards$Tape", "rewind", "()V"⟩, prog_11_method_4_code, 1, none, 9, z_i50_0)
set_option maxRecDepth 100000 in
theorem z_d50_0 : ∀ q ∈ z_i50_0, decode prog_11_method_4_code q.1 = .ok q.2 := by decide +kernel
set_option maxRecDepth 100000 in
theorem z_ok50 : z_okM z_m50 := ⟨z_in (z_s2 (List.mem_of_getElem? (i := 156) rfl)) rfl, z_d50_0, by decide +kernel, by decide +kernel, z_in (z_s1 (List.mem_of_getElem? (i := 4) (by decide +kernel))) (by decide +kernel), by decide +kernel, plainFor_of_name (by decide +kernel)⟩
def z_i51_0 : List (Nat × Instr × Nat) := [(0, .aload_n 0, 1), (1, .getfield 25, 3), (4, .iload_n 1, 1), (5, .if_icmp .eq 5, 3), (8, .iconst 0, 1), (9, .ireturn, 1), (10, .aload_n 0, 1), (11, .invokevirtual 22, 3), (14, .iconst 1, 1), (15, .ireturn, 1)]
def z_m51 : zM := (⟨"DustYards$Tape", "accepts", "(I)Z"⟩, prog_11_method_5_code, 2, (some .boolean), 9, z_i51_0)
set_option maxRecDepth 100000 in
theorem z_d51_0 : ∀ q ∈ z_i51_0, decode prog_11_method_5_code q.1 = .ok q.2 := by decide +kernel
set_option maxRecDepth 100000 in
theorem z_ok51 : z_okM z_m51 := ⟨z_in (z_s2 (List.mem_of_getElem? (i := 202) rfl)) rfl, z_d51_0, by decide +kernel, by decide +kernel, z_in (z_s1 (List.mem_of_getElem? (i := 4) (by decide +kernel))) (by decide +kernel), by decide +kernel, plainFor_of_name (by decide +kernel)⟩
def z_i52_0 : List (Nat × Instr × Nat) := [(0, .aload_n 0, 1), (1, .aload_n 0, 1), (2, .getfield 19, 3), (5, .putfield 28, 3), (8, .aload_n 0, 1), (9, .getfield 28, 3), (12, .aload_n 0, 1), (13, .getfield 15, 3), (16, .if_icmp .ge 31, 3), (19, .aload_n 0, 1), (20, .getfield 9, 3), (23, .aload_n 0, 1), (24, .getfield 28, 3), (27, .iaload, 1), (28, .invokestatic 31, 3), (31, .ifCond .eq 16, 3), (34, .aload_n 0, 1), (35, .dup, 1), (36, .getfield 28, 3), (39, .iconst 1, 1), (40, .iadd, 1), (41, .putfield 28, 3), (44, .goto (-36), 3), (47, .aload_n 0, 1), (48, .aload_n 0, 1), (49, .getfield 28, 3), (52, .putfield 19, 3), (55, .aload_n 0, 1), (56, .getfield 28, 3), (59, .aload_n 0, 1), (60, .getfield 15, 3), (63, .if_icmp .lt 13, 3), (66, .aload_n 0, 1), (67, .sipush 256, 3), (70, .putfield 25, 3), (73, .goto 91, 3), (76, .aload_n 0, 1), (77, .getfield 9, 3), (80, .aload_n 0, 1), (81, .getfield 28, 3), (84, .iaload, 1), (85, .invokestatic 35, 3), (88, .ifCond .eq 10, 3), (91, .aload_n 0, 1), (92, .invokevirtual 38, 3), (95, .goto 69, 3), (98, .aload_n 0, 1), (99, .getfield 9, 3), (102, .aload_n 0, 1), (103, .getfield 28, 3), (106, .iaload, 1), (107, .invokestatic 41, 3), (110, .ifCond .eq 10, 3), (113, .aload_n 0, 1), (114, .invokevirtual 44, 3), (117, .goto 47, 3), (120, .aload_n 0, 1), (121, .aload_n 0, 1), (122, .getfield 28, 3), (125, .iconst 1, 1)]
def z_i52_1 : List (Nat × Instr × Nat) := [(126, .iadd, 1), (127, .putfield 19, 3), (130, .aload_n 0, 1), (131, .aload_n 0, 1), (132, .getfield 9, 3), (135, .aload_n 0, 1), (136, .getfield 28, 3), (139, .iaload, 1), (140, .invokestatic 47, 3), (143, .ifCond .eq 15, 3), (146, .aload_n 0, 1), (147, .getfield 9, 3), (150, .aload_n 0, 1), (151, .getfield 28, 3), (154, .iaload, 1), (155, .goto 6, 3), (158, .sipush 257, 3), (161, .putfield 25, 3), (164, .return_, 1)]
def z_m52 : zM := (⟨"DustYards$Tape", "advance", "()V"⟩, prog_11_method_6_code, 1, none, 9, z_i52_0 ++ z_i52_1)
set_option maxRecDepth 100000 in
theorem z_d52_0 : ∀ q ∈ z_i52_0, decode prog_11_method_6_code q.1 = .ok q.2 := by decide +kernel
set_option maxRecDepth 100000 in
theorem z_d52_1 : ∀ q ∈ z_i52_1, decode prog_11_method_6_code q.1 = .ok q.2 := by decide +kernel
set_option maxRecDepth 100000 in
theorem z_ok52 : z_okM z_m52 := ⟨z_in (z_s2 (List.mem_of_getElem? (i := 160) rfl)) rfl, List.forall_mem_append.mpr ⟨z_d52_0, z_d52_1⟩, by decide +kernel, by decide +kernel, z_in (z_s1 (List.mem_of_getElem? (i := 4) (by decide +kernel))) (by decide +kernel), by decide +kernel, plainFor_of_name (by decide +kernel)⟩
def z_i53_0 : List (Nat × Instr × Nat) := [(0, .aload_n 0, 1), (1, .getfield 19, 3), (4, .aload_n 0, 1), (5, .getfield 15, 3), (8, .if_icmp .ge 31, 3), (11, .aload_n 0, 1), (12, .getfield 9, 3), (15, .aload_n 0, 1), (16, .getfield 19, 3), (19, .iaload, 1), (20, .invokestatic 35, 3), (23, .ifCond .eq 16, 3), (26, .aload_n 0, 1), (27, .dup, 1), (28, .getfield 19, 3), (31, .iconst 1, 1), (32, .iadd, 1), (33, .putfield 19, 3), (36, .goto (-36), 3), (39, .aload_n 0, 1), (40, .aload_n 0, 1), (41, .ldc 50, 2), (43, .invokevirtual 52, 3), (46, .ifCond .eq 9, 3), (49, .sipush 260, 3), (52, .goto 171, 3), (55, .aload_n 0, 1), (56, .ldc 56, 2), (58, .invokevirtual 52, 3), (61, .ifCond .eq 9, 3), (64, .sipush 261, 3), (67, .goto 156, 3), (70, .aload_n 0, 1), (71, .ldc 58, 2), (73, .invokevirtual 52, 3), (76, .ifCond .eq 9, 3), (79, .sipush 262, 3), (82, .goto 141, 3), (85, .aload_n 0, 1), (86, .ldc 60, 2), (88, .invokevirtual 52, 3), (91, .ifCond .eq 9, 3), (94, .sipush 263, 3), (97, .goto 126, 3), (100, .aload_n 0, 1), (101, .ldc 62, 2), (103, .invokevirtual 52, 3), (106, .ifCond .eq 9, 3), (109, .sipush 264, 3), (112, .goto 111, 3), (115, .aload_n 0, 1), (116, .ldc 64, 2), (118, .invokevirtual 52, 3), (121, .ifCond .eq 9, 3), (124, .sipush 265, 3), (127, .goto 96, 3), (130, .aload_n 0, 1), (131, .ldc 66, 2), (133, .invokevirtual 52, 3), (136, .ifCond .eq 9, 3)]
def z_i53_1 : List (Nat × Instr × Nat) := [(139, .sipush 270, 3), (142, .goto 81, 3), (145, .aload_n 0, 1), (146, .ldc 68, 2), (148, .invokevirtual 52, 3), (151, .ifCond .eq 9, 3), (154, .sipush 271, 3), (157, .goto 66, 3), (160, .aload_n 0, 1), (161, .ldc 70, 2), (163, .invokevirtual 52, 3), (166, .ifCond .eq 9, 3), (169, .sipush 272, 3), (172, .goto 51, 3), (175, .aload_n 0, 1), (176, .ldc 72, 2), (178, .invokevirtual 52, 3), (181, .ifCond .eq 9, 3), (184, .sipush 273, 3), (187, .goto 36, 3), (190, .aload_n 0, 1), (191, .ldc 74, 2), (193, .invokevirtual 52, 3), (196, .ifCond .eq 9, 3), (199, .sipush 274, 3), (202, .goto 21, 3), (205, .aload_n 0, 1), (206, .ldc 76, 2), (208, .invokevirtual 52, 3), (211, .ifCond .eq 9, 3), (214, .sipush 275, 3), (217, .goto 6, 3), (220, .sipush 257, 3), (223, .putfield 25, 3), (226, .return_, 1)]
def z_m53 : zM := (⟨"DustYards$Tape", "readWord", "()V"⟩, prog_11_method_7_code, 1, none, 9, z_i53_0 ++ z_i53_1)
set_option maxRecDepth 100000 in
theorem z_d53_0 : ∀ q ∈ z_i53_0, decode prog_11_method_7_code q.1 = .ok q.2 := by decide +kernel
set_option maxRecDepth 100000 in
theorem z_d53_1 : ∀ q ∈ z_i53_1, decode prog_11_method_7_code q.1 = .ok q.2 := by decide +kernel
set_option maxRecDepth 100000 in
theorem z_ok53 : z_okM z_m53 := ⟨z_in (z_s2 (List.mem_of_getElem? (i := 170) rfl)) rfl, List.forall_mem_append.mpr ⟨z_d53_0, z_d53_1⟩, by decide +kernel, by decide +kernel, z_in (z_s1 (List.mem_of_getElem? (i := 4) (by decide +kernel))) (by decide +kernel), by decide +kernel, plainFor_of_name (by decide +kernel)⟩
def z_i54_0 : List (Nat × Instr × Nat) := [(0, .aload_n 0, 1), (1, .iconst 0, 1), (2, .putfield 78, 3), (5, .aload_n 0, 1), (6, .getfield 19, 3), (9, .aload_n 0, 1), (10, .getfield 15, 3), (13, .if_icmp .ge 55, 3), (16, .aload_n 0, 1), (17, .getfield 9, 3), (20, .aload_n 0, 1), (21, .getfield 19, 3), (24, .iaload, 1), (25, .invokestatic 41, 3), (28, .ifCond .eq 40, 3), (31, .aload_n 0, 1), (32, .aload_n 0, 1), (33, .getfield 78, 3), (36, .bipush 10, 2), (38, .imul, 1), (39, .aload_n 0, 1), (40, .getfield 9, 3), (43, .aload_n 0, 1), (44, .getfield 19, 3), (47, .iaload, 1), (48, .iadd, 1), (49, .bipush 48, 2), (51, .isub, 1), (52, .putfield 78, 3), (55, .aload_n 0, 1), (56, .dup, 1), (57, .getfield 19, 3), (60, .iconst 1, 1), (61, .iadd, 1), (62, .putfield 19, 3), (65, .goto (-60), 3), (68, .aload_n 0, 1), (69, .aload_n 0, 1), (70, .getfield 19, 3), (73, .aload_n 0, 1), (74, .getfield 28, 3), (77, .isub, 1), (78, .iconst 4, 1), (79, .if_icmp .le 9, 3), (82, .sipush 257, 3), (85, .goto 6, 3), (88, .sipush 258, 3), (91, .putfield 25, 3), (94, .return_, 1)]
def z_m54 : zM := (⟨"DustYards$Tape", "readNumber", "()V"⟩, prog_11_method_8_code, 1, none, 9, z_i54_0)
set_option maxRecDepth 100000 in
theorem z_d54_0 : ∀ q ∈ z_i54_0, decode prog_11_method_8_code q.1 = .ok q.2 := by decide +kernel
set_option maxRecDepth 100000 in
theorem z_ok54 : z_okM z_m54 := ⟨z_in (z_s2 (List.mem_of_getElem? (i := 195) rfl)) rfl, z_d54_0, by decide +kernel, by decide +kernel, z_in (z_s1 (List.mem_of_getElem? (i := 4) (by decide +kernel))) (by decide +kernel), by decide +kernel, plainFor_of_name (by decide +kernel)⟩
def z_i55_0 : List (Nat × Instr × Nat) := [(0, .aload_n 1, 1), (1, .invokevirtual 81, 3), (4, .aload_n 0, 1), (5, .getfield 19, 3), (8, .aload_n 0, 1), (9, .getfield 28, 3), (12, .isub, 1), (13, .if_icmp .eq 5, 3), (16, .iconst 0, 1), (17, .ireturn, 1), (18, .iconst 0, 1), (19, .istore_n 2, 1), (20, .iload_n 2, 1), (21, .aload_n 1, 1), (22, .invokevirtual 81, 3), (25, .if_icmp .ge 30, 3), (28, .aload_n 0, 1), (29, .getfield 9, 3), (32, .aload_n 0, 1), (33, .getfield 28, 3), (36, .iload_n 2, 1), (37, .iadd, 1), (38, .iaload, 1), (39, .aload_n 1, 1), (40, .iload_n 2, 1), (41, .invokevirtual 87, 3), (44, .if_icmp .eq 5, 3), (47, .iconst 0, 1), (48, .ireturn, 1), (49, .iinc 2 1, 3), (52, .goto (-32), 3), (55, .iconst 1, 1), (56, .ireturn, 1)]
def z_m55 : zM := (⟨"DustYards$Tape", "isWord", "(Ljava/lang/String;)Z"⟩, prog_11_method_9_code, 3, (some .boolean), 9, z_i55_0)
set_option maxRecDepth 100000 in
theorem z_d55_0 : ∀ q ∈ z_i55_0, decode prog_11_method_9_code q.1 = .ok q.2 := by decide +kernel
set_option maxRecDepth 100000 in
theorem z_ok55 : z_okM z_m55 := ⟨z_in (z_s2 (List.mem_of_getElem? (i := 175) rfl)) rfl, z_d55_0, by decide +kernel, by decide +kernel, z_in (z_s1 (List.mem_of_getElem? (i := 4) (by decide +kernel))) (by decide +kernel), by decide +kernel, plainFor_of_name (by decide +kernel)⟩
def z_i56_0 : List (Nat × Instr × Nat) := [(0, .iload_n 0, 1), (1, .bipush 32, 2), (3, .if_icmp .eq 9, 3), (6, .iload_n 0, 1), (7, .bipush 10, 2), (9, .if_icmp .ne 7, 3), (12, .iconst 1, 1), (13, .goto 4, 3), (16, .iconst 0, 1), (17, .ireturn, 1)]
def z_m56 : zM := (⟨"DustYards$Tape", "isBlank", "(I)Z"⟩, prog_11_method_10_code, 1, (some .boolean), 9, z_i56_0)
set_option maxRecDepth 100000 in
theorem z_d56_0 : ∀ q ∈ z_i56_0, decode prog_11_method_10_code q.1 = .ok q.2 := by decide +kernel
set_option maxRecDepth 100000 in
theorem z_ok56 : z_okM z_m56 := ⟨z_in (z_s2 (List.mem_of_getElem? (i := 163) rfl)) rfl, z_d56_0, by decide +kernel, by decide +kernel, z_in (z_s1 (List.mem_of_getElem? (i := 4) (by decide +kernel))) (by decide +kernel), by decide +kernel, plainFor_of_name (by decide +kernel)⟩
def z_i57_0 : List (Nat × Instr × Nat) := [(0, .iload_n 0, 1), (1, .bipush 97, 2), (3, .if_icmp .lt 13, 3), (6, .iload_n 0, 1), (7, .bipush 122, 2), (9, .if_icmp .gt 7, 3), (12, .iconst 1, 1), (13, .goto 4, 3), (16, .iconst 0, 1), (17, .ireturn, 1)]
def z_m57 : zM := (⟨"DustYards$Tape", "isLetter", "(I)Z"⟩, prog_11_method_11_code, 1, (some .boolean), 9, z_i57_0)
set_option maxRecDepth 100000 in
theorem z_d57_0 : ∀ q ∈ z_i57_0, decode prog_11_method_11_code q.1 = .ok q.2 := by decide +kernel
set_option maxRecDepth 100000 in
theorem z_ok57 : z_okM z_m57 := ⟨z_in (z_s2 (List.mem_of_getElem? (i := 166) rfl)) rfl, z_d57_0, by decide +kernel, by decide +kernel, z_in (z_s1 (List.mem_of_getElem? (i := 4) (by decide +kernel))) (by decide +kernel), by decide +kernel, plainFor_of_name (by decide +kernel)⟩
def z_i58_0 : List (Nat × Instr × Nat) := [(0, .iload_n 0, 1), (1, .bipush 48, 2), (3, .if_icmp .lt 13, 3), (6, .iload_n 0, 1), (7, .bipush 57, 2), (9, .if_icmp .gt 7, 3), (12, .iconst 1, 1), (13, .goto 4, 3), (16, .iconst 0, 1), (17, .ireturn, 1)]
def z_m58 : zM := (⟨"DustYards$Tape", "isDigit", "(I)Z"⟩, prog_11_method_12_code, 1, (some .boolean), 9, z_i58_0)
set_option maxRecDepth 100000 in
theorem z_d58_0 : ∀ q ∈ z_i58_0, decode prog_11_method_12_code q.1 = .ok q.2 := by decide +kernel
set_option maxRecDepth 100000 in
theorem z_ok58 : z_okM z_m58 := ⟨z_in (z_s2 (List.mem_of_getElem? (i := 191) rfl)) rfl, z_d58_0, by decide +kernel, by decide +kernel, z_in (z_s1 (List.mem_of_getElem? (i := 4) (by decide +kernel))) (by decide +kernel), by decide +kernel, plainFor_of_name (by decide +kernel)⟩
def z_i59_0 : List (Nat × Instr × Nat) := [(0, .iload_n 0, 1), (1, .tableswitch 105 40 61 #[103, 103, 103, 103, 105, 103, 105, 105, 105, 105, 105, 105, 105, 105, 105, 105, 105, 105, 105, 103, 103, 103], 103), (104, .iconst 1, 1), (105, .ireturn, 1), (106, .iconst 0, 1), (107, .ireturn, 1)]
def z_m59 : zM := (⟨"DustYards$Tape", "isSign", "(I)Z"⟩, prog_11_method_13_code, 1, (some .boolean), 9, z_i59_0)
set_option maxRecDepth 100000 in
theorem z_d59_0 : ∀ q ∈ z_i59_0, decode prog_11_method_13_code q.1 = .ok q.2 := by decide +kernel
set_option maxRecDepth 100000 in
theorem z_ok59 : z_okM z_m59 := ⟨z_in (z_s2 (List.mem_of_getElem? (i := 198) rfl)) rfl, z_d59_0, by decide +kernel, by decide +kernel, z_in (z_s1 (List.mem_of_getElem? (i := 4) (by decide +kernel))) (by decide +kernel), by decide +kernel, plainFor_of_name (by decide +kernel)⟩
def z_i60_0 : List (Nat × Instr × Nat) := [(0, .aload_n 0, 1), (1, .invokespecial 3, 3), (4, .aload_n 0, 1), (5, .sipush 160, 3), (8, .newarray .int, 2), (10, .putfield 9, 3), (13, .aload_n 0, 1), (14, .iconst 3, 1), (15, .newarray .int, 2), (17, .putfield 15, 3), (20, .return_, 1)]
def z_m60 : zM := (⟨"DustYards$Text", "<init>", "()V"⟩, prog_12_method_1_code, 1, none, 10, z_i60_0)
set_option maxRecDepth 100000 in
theorem z_d60_0 : ∀ q ∈ z_i60_0, decode prog_12_method_1_code q.1 = .ok q.2 := by decide +kernel
set_option maxRecDepth 100000 in
theorem z_ok60 : z_okM z_m60 := ⟨z_in (z_s1 (List.mem_of_getElem? (i := 145) rfl)) rfl, z_d60_0, by decide +kernel, by decide +kernel, z_in (z_s1 (List.mem_of_getElem? (i := 6) (by decide +kernel))) (by decide +kernel), by decide +kernel, plainFor_of_name (by decide +kernel)⟩
def z_i61_0 : List (Nat × Instr × Nat) := [(0, .aload_n 0, 1), (1, .iconst 0, 1), (2, .putfield 18, 3), (5, .aload_n 1, 1), (6, .invokevirtual 22, 3), (9, .iconst 0, 1), (10, .istore_n 2, 1), (11, .iload_n 2, 1), (12, .iconst 3, 1), (13, .if_icmp .ge 53, 3), (16, .aload_n 1, 1), (17, .sipush 260, 3), (20, .iload_n 2, 1), (21, .iadd, 1), (22, .invokevirtual 27, 3), (25, .ifCond .eq 12, 3), (28, .aload_n 0, 1), (29, .aload_n 1, 1), (30, .iconst 0, 1), (31, .invokevirtual 31, 3), (34, .ifCond .ne 5, 3), (37, .iconst 0, 1), (38, .ireturn, 1), (39, .aload_n 0, 1), (40, .getfield 15, 3), (43, .iload_n 2, 1), (44, .aload_n 0, 1), (45, .getfield 18, 3), (48, .iastore, 1), (49, .aload_n 1, 1), (50, .bipush 59, 2), (52, .invokevirtual 27, 3), (55, .ifCond .ne 5, 3), (58, .iconst 0, 1), (59, .ireturn, 1), (60, .iinc 2 1, 3), (63, .goto (-52), 3), (66, .aload_n 1, 1), (67, .getfield 35, 3), (70, .sipush 256, 3), (73, .if_icmp .ne 7, 3), (76, .iconst 1, 1), (77, .goto 4, 3), (80, .iconst 0, 1), (81, .ireturn, 1)]
def z_m61 : zM := (⟨"DustYards$Text", "readFrom", "(LDustYards$Tape;)Z"⟩, prog_12_method_2_code, 3, (some .boolean), 10, z_i61_0)
set_option maxRecDepth 100000 in
theorem z_d61_0 : ∀ q ∈ z_i61_0, decode prog_12_method_2_code q.1 = .ok q.2 := by decide +kernel
set_option maxRecDepth 100000 in
theorem z_ok61 : z_okM z_m61 := ⟨z_in (z_s2 (List.mem_of_getElem? (i := 152) rfl)) rfl, z_d61_0, by decide +kernel, by decide +kernel, z_in (z_s1 (List.mem_of_getElem? (i := 6) (by decide +kernel))) (by decide +kernel), by decide +kernel, plainFor_of_name (by decide +kernel)⟩
def z_i62_0 : List (Nat × Instr × Nat) := [(0, .aload_n 0, 1), (1, .getfield 18, 3), (4, .sipush 160, 3), (7, .if_icmp .ge 23, 3), (10, .aload_n 0, 1), (11, .getfield 9, 3), (14, .aload_n 0, 1), (15, .getfield 18, 3), (18, .iload_n 1, 1), (19, .iastore, 1), (20, .aload_n 0, 1), (21, .dup, 1), (22, .getfield 18, 3), (25, .iconst 1, 1), (26, .iadd, 1), (27, .putfield 18, 3), (30, .return_, 1)]
def z_m62 : zM := (⟨"DustYards$Text", "add", "(I)V"⟩, prog_12_method_3_code, 2, none, 10, z_i62_0)
set_option maxRecDepth 100000 in
theorem z_d62_0 : ∀ q ∈ z_i62_0, decode prog_12_method_3_code q.1 = .ok q.2 := by decide +kernel
set_option maxRecDepth 100000 in
theorem z_ok62 : z_okM z_m62 := ⟨z_in (z_s2 (List.mem_of_getElem? (i := 239) rfl)) rfl, z_d62_0, by decide +kernel, by decide +kernel, z_in (z_s1 (List.mem_of_getElem? (i := 6) (by decide +kernel))) (by decide +kernel), by decide +kernel, plainFor_of_name (by decide +kernel)⟩
def z_i63_0 : List (Nat × Instr × Nat) := [(0, .aload_n 0, 1), (1, .aload_n 1, 1), (2, .iload_n 2, 1), (3, .invokevirtual 38, 3), (6, .ifCond .ne 5, 3), (9, .iconst 0, 1), (10, .ireturn, 1), (11, .iconst 0, 1), (12, .istore_n 3, 1), (13, .iload_n 3, 1), (14, .sipush 160, 3), (17, .if_icmp .ge 40, 3), (20, .aload_n 1, 1), (21, .getfield 35, 3), (24, .sipush 263, 3), (27, .if_icmp .ne 30, 3), (30, .aload_n 1, 1), (31, .invokevirtual 41, 3), (34, .aload_n 0, 1), (35, .aload_n 1, 1), (36, .iload_n 2, 1), (37, .invokevirtual 38, 3), (40, .ifCond .ne 5, 3), (43, .iconst 0, 1), (44, .ireturn, 1), (45, .aload_n 0, 1), (46, .bipush (-9), 2), (48, .invokevirtual 44, 3), (51, .iinc 3 1, 3), (54, .goto (-41), 3), (57, .iconst 1, 1), (58, .ireturn, 1)]
def z_m63 : zM := (⟨"DustYards$Text", "readEither", "(LDustYards$Tape;I)Z"⟩, prog_12_method_4_code, 4, (some .boolean), 10, z_i63_0)
set_option maxRecDepth 100000 in
theorem z_d63_0 : ∀ q ∈ z_i63_0, decode prog_12_method_4_code q.1 = .ok q.2 := by decide +kernel
set_option maxRecDepth 100000 in
theorem z_ok63 : z_okM z_m63 := ⟨z_in (z_s2 (List.mem_of_getElem? (i := 206) rfl)) rfl, z_d63_0, by decide +kernel, by decide +kernel, z_in (z_s1 (List.mem_of_getElem? (i := 6) (by decide +kernel))) (by decide +kernel), by decide +kernel, plainFor_of_name (by decide +kernel)⟩
def z_i64_0 : List (Nat × Instr × Nat) := [(0, .aload_n 0, 1), (1, .aload_n 1, 1), (2, .iload_n 2, 1), (3, .invokevirtual 48, 3), (6, .ifCond .ne 5, 3), (9, .iconst 0, 1), (10, .ireturn, 1), (11, .iconst 0, 1), (12, .istore_n 3, 1), (13, .iload_n 3, 1), (14, .sipush 160, 3), (17, .if_icmp .ge 40, 3), (20, .aload_n 1, 1), (21, .getfield 35, 3), (24, .sipush 264, 3), (27, .if_icmp .ne 30, 3), (30, .aload_n 1, 1), (31, .invokevirtual 41, 3), (34, .aload_n 0, 1), (35, .aload_n 1, 1), (36, .iload_n 2, 1), (37, .invokevirtual 48, 3), (40, .ifCond .ne 5, 3), (43, .iconst 0, 1), (44, .ireturn, 1), (45, .aload_n 0, 1), (46, .bipush (-8), 2), (48, .invokevirtual 44, 3), (51, .iinc 3 1, 3), (54, .goto (-41), 3), (57, .iconst 1, 1), (58, .ireturn, 1)]
def z_m64 : zM := (⟨"DustYards$Text", "readBoth", "(LDustYards$Tape;I)Z"⟩, prog_12_method_5_code, 4, (some .boolean), 10, z_i64_0)
set_option maxRecDepth 100000 in
theorem z_d64_0 : ∀ q ∈ z_i64_0, decode prog_12_method_5_code q.1 = .ok q.2 := by decide +kernel
set_option maxRecDepth 100000 in
theorem z_ok64 : z_okM z_m64 := ⟨z_in (z_s2 (List.mem_of_getElem? (i := 210) rfl)) rfl, z_d64_0, by decide +kernel, by decide +kernel, z_in (z_s1 (List.mem_of_getElem? (i := 6) (by decide +kernel))) (by decide +kernel), by decide +kernel, plainFor_of_name (by decide +kernel)⟩
def z_i65_0 : List (Nat × Instr × Nat) := [(0, .aload_n 1, 1), (1, .getfield 35, 3), (4, .sipush 265, 3), (7, .if_icmp .eq 10, 3), (10, .aload_n 0, 1), (11, .aload_n 1, 1), (12, .iload_n 2, 1), (13, .invokevirtual 51, 3), (16, .ireturn, 1), (17, .iload_n 2, 1), (18, .iconst 5, 1), (19, .if_icmp .lt 5, 3), (22, .iconst 0, 1), (23, .ireturn, 1), (24, .aload_n 1, 1), (25, .invokevirtual 41, 3), (28, .aload_n 0, 1), (29, .aload_n 1, 1), (30, .iload_n 2, 1), (31, .iconst 1, 1), (32, .iadd, 1), (33, .invokevirtual 48, 3), (36, .ifCond .ne 5, 3), (39, .iconst 0, 1), (40, .ireturn, 1), (41, .aload_n 0, 1), (42, .bipush (-2), 2), (44, .invokevirtual 44, 3), (47, .iconst 1, 1), (48, .ireturn, 1)]
def z_m65 : zM := (⟨"DustYards$Text", "readNot", "(LDustYards$Tape;I)Z"⟩, prog_12_method_6_code, 3, (some .boolean), 10, z_i65_0)
set_option maxRecDepth 100000 in
theorem z_d65_0 : ∀ q ∈ z_i65_0, decode prog_12_method_6_code q.1 = .ok q.2 := by decide +kernel
set_option maxRecDepth 100000 in
theorem z_ok65 : z_okM z_m65 := ⟨z_in (z_s2 (List.mem_of_getElem? (i := 214) rfl)) rfl, z_d65_0, by decide +kernel, by decide +kernel, z_in (z_s1 (List.mem_of_getElem? (i := 6) (by decide +kernel))) (by decide +kernel), by decide +kernel, plainFor_of_name (by decide +kernel)⟩
def z_i66_0 : List (Nat × Instr × Nat) := [(0, .aload_n 0, 1), (1, .aload_n 1, 1), (2, .iload_n 2, 1), (3, .invokevirtual 54, 3), (6, .ifCond .ne 5, 3), (9, .iconst 0, 1), (10, .ireturn, 1), (11, .aload_n 1, 1), (12, .getfield 35, 3), (15, .istore_n 3, 1), (16, .iload_n 3, 1), (17, .bipush 60, 2), (19, .if_icmp .eq 11, 3), (22, .iload_n 3, 1), (23, .bipush 61, 2), (25, .if_icmp .eq 5, 3), (28, .iconst 1, 1), (29, .ireturn, 1), (30, .aload_n 1, 1), (31, .invokevirtual 41, 3), (34, .aload_n 0, 1), (35, .aload_n 1, 1), (36, .iload_n 2, 1), (37, .invokevirtual 54, 3), (40, .ifCond .ne 5, 3), (43, .iconst 0, 1), (44, .ireturn, 1), (45, .aload_n 0, 1), (46, .iload_n 3, 1), (47, .bipush 60, 2), (49, .if_icmp .ne 8, 3), (52, .bipush (-6), 2), (54, .goto 5, 3), (57, .bipush (-7), 2), (59, .invokevirtual 44, 3), (62, .iconst 1, 1), (63, .ireturn, 1)]
def z_m66 : zM := (⟨"DustYards$Text", "readCompared", "(LDustYards$Tape;I)Z"⟩, prog_12_method_7_code, 4, (some .boolean), 10, z_i66_0)
set_option maxRecDepth 100000 in
theorem z_d66_0 : ∀ q ∈ z_i66_0, decode prog_12_method_7_code q.1 = .ok q.2 := by decide +kernel
set_option maxRecDepth 100000 in
theorem z_ok66 : z_okM z_m66 := ⟨z_in (z_s2 (List.mem_of_getElem? (i := 218) rfl)) rfl, z_d66_0, by decide +kernel, by decide +kernel, z_in (z_s1 (List.mem_of_getElem? (i := 6) (by decide +kernel))) (by decide +kernel), by decide +kernel, plainFor_of_name (by decide +kernel)⟩
def z_i67_0 : List (Nat × Instr × Nat) := [(0, .aload_n 0, 1), (1, .aload_n 1, 1), (2, .iload_n 2, 1), (3, .invokevirtual 57, 3), (6, .ifCond .ne 5, 3), (9, .iconst 0, 1), (10, .ireturn, 1), (11, .iconst 0, 1), (12, .istore_n 3, 1), (13, .iload_n 3, 1), (14, .sipush 160, 3), (17, .if_icmp .ge 66, 3), (20, .aload_n 1, 1), (21, .getfield 35, 3), (24, .bipush 43, 2), (26, .if_icmp .eq 12, 3), (29, .aload_n 1, 1), (30, .getfield 35, 3), (33, .bipush 45, 2), (35, .if_icmp .ne 48, 3), (38, .aload_n 1, 1), (39, .getfield 35, 3), (42, .istore 4, 2), (44, .aload_n 1, 1), (45, .invokevirtual 41, 3), (48, .aload_n 0, 1), (49, .aload_n 1, 1), (50, .iload_n 2, 1), (51, .invokevirtual 57, 3), (54, .ifCond .ne 5, 3), (57, .iconst 0, 1), (58, .ireturn, 1), (59, .aload_n 0, 1), (60, .iload 4, 2), (62, .bipush 43, 2), (64, .if_icmp .ne 8, 3), (67, .bipush (-3), 2), (69, .goto 5, 3), (72, .bipush (-4), 2), (74, .invokevirtual 44, 3), (77, .iinc 3 1, 3), (80, .goto (-67), 3), (83, .iconst 1, 1), (84, .ireturn, 1)]
def z_m67 : zM := (⟨"DustYards$Text", "readSum", "(LDustYards$Tape;I)Z"⟩, prog_12_method_8_code, 5, (some .boolean), 10, z_i67_0)
set_option maxRecDepth 100000 in
theorem z_d67_0 : ∀ q ∈ z_i67_0, decode prog_12_method_8_code q.1 = .ok q.2 := by decide +kernel
set_option maxRecDepth 100000 in
theorem z_ok67 : z_okM z_m67 := ⟨z_in (z_s2 (List.mem_of_getElem? (i := 222) rfl)) rfl, z_d67_0, by decide +kernel, by decide +kernel, z_in (z_s1 (List.mem_of_getElem? (i := 6) (by decide +kernel))) (by decide +kernel), by decide +kernel, plainFor_of_name (by decide +kernel)⟩
def z_i68_0 : List (Nat × Instr × Nat) := [(0, .aload_n 0, 1), (1, .aload_n 1, 1), (2, .iload_n 2, 1), (3, .invokevirtual 60, 3), (6, .ifCond .ne 5, 3), (9, .iconst 0, 1), (10, .ireturn, 1), (11, .iconst 0, 1), (12, .istore_n 3, 1), (13, .iload_n 3, 1), (14, .sipush 160, 3), (17, .if_icmp .ge 39, 3), (20, .aload_n 1, 1), (21, .getfield 35, 3), (24, .bipush 42, 2), (26, .if_icmp .ne 30, 3), (29, .aload_n 1, 1), (30, .invokevirtual 41, 3), (33, .aload_n 0, 1), (34, .aload_n 1, 1), (35, .iload_n 2, 1), (36, .invokevirtual 60, 3), (39, .ifCond .ne 5, 3), (42, .iconst 0, 1), (43, .ireturn, 1), (44, .aload_n 0, 1), (45, .bipush (-5), 2), (47, .invokevirtual 44, 3), (50, .iinc 3 1, 3), (53, .goto (-40), 3), (56, .iconst 1, 1), (57, .ireturn, 1)]
def z_m68 : zM := (⟨"DustYards$Text", "readTerm", "(LDustYards$Tape;I)Z"⟩, prog_12_method_9_code, 4, (some .boolean), 10, z_i68_0)
set_option maxRecDepth 100000 in
theorem z_d68_0 : ∀ q ∈ z_i68_0, decode prog_12_method_9_code q.1 = .ok q.2 := by decide +kernel
set_option maxRecDepth 100000 in
theorem z_ok68 : z_okM z_m68 := ⟨z_in (z_s2 (List.mem_of_getElem? (i := 226) rfl)) rfl, z_d68_0, by decide +kernel, by decide +kernel, z_in (z_s1 (List.mem_of_getElem? (i := 6) (by decide +kernel))) (by decide +kernel), by decide +kernel, plainFor_of_name (by decide +kernel)⟩
def z_i69_0 : List (Nat × Instr × Nat) := [(0, .aload_n 1, 1), (1, .getfield 35, 3), (4, .istore_n 3, 1), (5, .iload_n 3, 1), (6, .bipush 45, 2), (8, .if_icmp .ne 25, 3), (11, .iload_n 2, 1), (12, .iconst 5, 1), (13, .if_icmp .ge 18, 3), (16, .aload_n 0, 1), (17, .aload_n 1, 1), (18, .iload_n 2, 1), (19, .iconst 1, 1), (20, .iadd, 1), (21, .invokevirtual 63, 3), (24, .ifCond .eq 7, 3), (27, .iconst 1, 1), (28, .goto 4, 3), (31, .iconst 0, 1), (32, .ireturn, 1), (33, .iload_n 3, 1), (34, .bipush 40, 2), (36, .if_icmp .ne 25, 3), (39, .iload_n 2, 1), (40, .iconst 5, 1), (41, .if_icmp .ge 18, 3), (44, .aload_n 0, 1), (45, .aload_n 1, 1), (46, .iload_n 2, 1), (47, .iconst 1, 1), (48, .iadd, 1), (49, .invokevirtual 66, 3), (52, .ifCond .eq 7, 3), (55, .iconst 1, 1), (56, .goto 4, 3), (59, .iconst 0, 1), (60, .ireturn, 1), (61, .iload_n 3, 1), (62, .sipush 258, 3), (65, .if_icmp .eq 12, 3), (68, .iload_n 3, 1), (69, .sipush 270, 3), (72, .if_icmp .ge 5, 3), (75, .iconst 0, 1), (76, .ireturn, 1), (77, .aload_n 0, 1), (78, .iload_n 3, 1), (79, .sipush 258, 3), (82, .if_icmp .ne 10, 3), (85, .aload_n 1, 1), (86, .getfield 69, 3), (89, .goto 11, 3), (92, .bipush (-10), 2), (94, .iload_n 3, 1), (95, .sipush 270, 3), (98, .isub, 1), (99, .isub, 1), (100, .invokevirtual 44, 3), (103, .aload_n 1, 1), (104, .invokevirtual 41, 3)]
def z_i69_1 : List (Nat × Instr × Nat) := [(107, .iconst 1, 1), (108, .ireturn, 1)]
def z_m69 : zM := (⟨"DustYards$Text", "readOne", "(LDustYards$Tape;I)Z"⟩, prog_12_method_10_code, 4, (some .boolean), 10, z_i69_0 ++ z_i69_1)
set_option maxRecDepth 100000 in
theorem z_d69_0 : ∀ q ∈ z_i69_0, decode prog_12_method_10_code q.1 = .ok q.2 := by decide +kernel
set_option maxRecDepth 100000 in
theorem z_d69_1 : ∀ q ∈ z_i69_1, decode prog_12_method_10_code q.1 = .ok q.2 := by decide +kernel
set_option maxRecDepth 100000 in
theorem z_ok69 : z_okM z_m69 := ⟨z_in (z_s2 (List.mem_of_getElem? (i := 230) rfl)) rfl, List.forall_mem_append.mpr ⟨z_d69_0, z_d69_1⟩, by decide +kernel, by decide +kernel, z_in (z_s1 (List.mem_of_getElem? (i := 6) (by decide +kernel))) (by decide +kernel), by decide +kernel, plainFor_of_name (by decide +kernel)⟩
def z_i70_0 : List (Nat × Instr × Nat) := [(0, .aload_n 1, 1), (1, .invokevirtual 41, 3), (4, .aload_n 0, 1), (5, .aload_n 1, 1), (6, .iload_n 2, 1), (7, .invokevirtual 60, 3), (10, .ifCond .ne 5, 3), (13, .iconst 0, 1), (14, .ireturn, 1), (15, .aload_n 0, 1), (16, .iconst (-1), 1), (17, .invokevirtual 44, 3), (20, .iconst 1, 1), (21, .ireturn, 1)]
def z_m70 : zM := (⟨"DustYards$Text", "readNegated", "(LDustYards$Tape;I)Z"⟩, prog_12_method_11_code, 3, (some .boolean), 10, z_i70_0)
set_option maxRecDepth 100000 in
theorem z_d70_0 : ∀ q ∈ z_i70_0, decode prog_12_method_11_code q.1 = .ok q.2 := by decide +kernel
set_option maxRecDepth 100000 in
theorem z_ok70 : z_okM z_m70 := ⟨z_in (z_s2 (List.mem_of_getElem? (i := 234) rfl)) rfl, z_d70_0, by decide +kernel, by decide +kernel, z_in (z_s1 (List.mem_of_getElem? (i := 6) (by decide +kernel))) (by decide +kernel), by decide +kernel, plainFor_of_name (by decide +kernel)⟩
def z_i71_0 : List (Nat × Instr × Nat) := [(0, .aload_n 1, 1), (1, .invokevirtual 41, 3), (4, .aload_n 0, 1), (5, .aload_n 1, 1), (6, .iload_n 2, 1), (7, .invokevirtual 31, 3), (10, .ifCond .eq 16, 3), (13, .aload_n 1, 1), (14, .bipush 41, 2), (16, .invokevirtual 27, 3), (19, .ifCond .eq 7, 3), (22, .iconst 1, 1), (23, .goto 4, 3), (26, .iconst 0, 1), (27, .ireturn, 1)]
def z_m71 : zM := (⟨"DustYards$Text", "readBracket", "(LDustYards$Tape;I)Z"⟩, prog_12_method_12_code, 3, (some .boolean), 10, z_i71_0)
set_option maxRecDepth 100000 in
theorem z_d71_0 : ∀ q ∈ z_i71_0, decode prog_12_method_12_code q.1 = .ok q.2 := by decide +kernel
set_option maxRecDepth 100000 in
theorem z_ok71 : z_okM z_m71 := ⟨z_in (z_s3 (List.mem_of_getElem? (i := 3) rfl)) rfl, z_d71_0, by decide +kernel, by decide +kernel, z_in (z_s1 (List.mem_of_getElem? (i := 6) (by decide +kernel))) (by decide +kernel), by decide +kernel, plainFor_of_name (by decide +kernel)⟩
def z_i72_0 : List (Nat × Instr × Nat) := [(0, .iconst 0, 1), (1, .istore 4, 2), (3, .iload_n 1, 1), (4, .ifCond .ne 7, 3), (7, .iconst 0, 1), (8, .goto 11, 3), (11, .aload_n 0, 1), (12, .getfield 15, 3), (15, .iload_n 1, 1), (16, .iconst 1, 1), (17, .isub, 1), (18, .iaload, 1), (19, .istore 5, 2), (21, .iload 5, 2), (23, .aload_n 0, 1), (24, .getfield 15, 3), (27, .iload_n 1, 1), (28, .iaload, 1), (29, .if_icmp .ge 161, 3), (32, .aload_n 0, 1), (33, .getfield 9, 3), (36, .iload 5, 2), (38, .iaload, 1), (39, .istore 6, 2), (41, .iload 6, 2), (43, .ifCond .ge 10, 3), (46, .iload 6, 2), (48, .bipush (-10), 2), (50, .if_icmp .gt 39, 3), (53, .iload 4, 2), (55, .aload_n 3, 1), (56, .arraylength, 1), (57, .if_icmp .lt 5, 3), (60, .iconst 0, 1), (61, .ireturn, 1), (62, .aload_n 3, 1), (63, .iload 4, 2), (65, .iload 6, 2), (67, .ifCond .lt 8, 3), (70, .iload 6, 2), (72, .goto 10, 3), (75, .aload_n 2, 1), (76, .bipush (-10), 2), (78, .iload 6, 2), (80, .isub, 1), (81, .iaload, 1), (82, .iastore, 1), (83, .iinc 4 1, 3), (86, .goto 98, 3), (89, .iload 6, 2), (91, .iconst (-1), 1), (92, .if_icmp .eq 10, 3), (95, .iload 6, 2), (97, .bipush (-2), 2), (99, .if_icmp .ne 53, 3), (102, .iload 4, 2), (104, .iconst 1, 1), (105, .if_icmp .ge 5, 3), (108, .iconst 0, 1), (109, .ireturn, 1)]
def z_i72_1 : List (Nat × Instr × Nat) := [(110, .aload_n 3, 1), (111, .iload 4, 2), (113, .iconst 1, 1), (114, .isub, 1), (115, .iload 6, 2), (117, .iconst (-1), 1), (118, .if_icmp .ne 13, 3), (121, .aload_n 3, 1), (122, .iload 4, 2), (124, .iconst 1, 1), (125, .isub, 1), (126, .iaload, 1), (127, .ineg, 1), (128, .goto 20, 3), (131, .aload_n 3, 1), (132, .iload 4, 2), (134, .iconst 1, 1), (135, .isub, 1), (136, .iaload, 1), (137, .ifCond .ne 7, 3), (140, .iconst 1, 1), (141, .goto 4, 3), (144, .iconst 0, 1), (145, .invokestatic 72, 3), (148, .iastore, 1), (149, .goto 35, 3), (152, .iload 4, 2), (154, .iconst 2, 1), (155, .if_icmp .ge 5, 3), (158, .iconst 0, 1), (159, .ireturn, 1), (160, .iinc 4 (-1), 3), (163, .aload_n 3, 1), (164, .iload 4, 2), (166, .iconst 1, 1), (167, .isub, 1), (168, .iload 6, 2), (170, .aload_n 3, 1), (171, .iload 4, 2), (173, .iconst 1, 1), (174, .isub, 1), (175, .iaload, 1), (176, .aload_n 3, 1), (177, .iload 4, 2), (179, .iaload, 1), (180, .invokestatic 76, 3), (183, .iastore, 1), (184, .iinc 5 1, 3), (187, .goto (-166), 3), (190, .iload 4, 2), (192, .iconst 1, 1), (193, .if_icmp .ne 9, 3), (196, .aload_n 3, 1), (197, .iconst 0, 1), (198, .iaload, 1), (199, .goto 4, 3), (202, .iconst 0, 1), (203, .ireturn, 1)]
def z_m72 : zM := (⟨"DustYards$Text", "worked", "(I[I[I)I"⟩, prog_12_method_13_code, 7, (some .int), 10, z_i72_0 ++ z_i72_1)
set_option maxRecDepth 100000 in
theorem z_d72_0 : ∀ q ∈ z_i72_0, decode prog_12_method_13_code q.1 = .ok q.2 := by decide +kernel
set_option maxRecDepth 100000 in
theorem z_d72_1 : ∀ q ∈ z_i72_1, decode prog_12_method_13_code q.1 = .ok q.2 := by decide +kernel
set_option maxRecDepth 100000 in
theorem z_ok72 : z_okM z_m72 := ⟨z_in (z_s3 (List.mem_of_getElem? (i := 215) rfl)) rfl, List.forall_mem_append.mpr ⟨z_d72_0, z_d72_1⟩, by decide +kernel, by decide +kernel, z_in (z_s1 (List.mem_of_getElem? (i := 6) (by decide +kernel))) (by decide +kernel), by decide +kernel, plainFor_of_name (by decide +kernel)⟩
def z_i73_0 : List (Nat × Instr × Nat) := [(0, .iload_n 0, 1), (1, .tableswitch 96 (-8) (-3) #[79, 65, 51, 47, 43, 39], 39), (40, .iload_n 1, 1), (41, .iload_n 2, 1), (42, .iadd, 1), (43, .ireturn, 1), (44, .iload_n 1, 1), (45, .iload_n 2, 1), (46, .isub, 1), (47, .ireturn, 1), (48, .iload_n 1, 1), (49, .iload_n 2, 1), (50, .imul, 1), (51, .ireturn, 1), (52, .iload_n 1, 1), (53, .iload_n 2, 1), (54, .if_icmp .ge 7, 3), (57, .iconst 1, 1), (58, .goto 4, 3), (61, .iconst 0, 1), (62, .invokestatic 72, 3), (65, .ireturn, 1), (66, .iload_n 1, 1), (67, .iload_n 2, 1), (68, .if_icmp .ne 7, 3), (71, .iconst 1, 1), (72, .goto 4, 3), (75, .iconst 0, 1), (76, .invokestatic 72, 3), (79, .ireturn, 1), (80, .iload_n 1, 1), (81, .ifCond .eq 11, 3), (84, .iload_n 2, 1), (85, .ifCond .eq 7, 3), (88, .iconst 1, 1), (89, .goto 4, 3), (92, .iconst 0, 1), (93, .invokestatic 72, 3), (96, .ireturn, 1), (97, .iload_n 1, 1), (98, .ifCond .ne 7, 3), (101, .iload_n 2, 1), (102, .ifCond .eq 7, 3), (105, .iconst 1, 1), (106, .goto 4, 3), (109, .iconst 0, 1), (110, .invokestatic 72, 3), (113, .ireturn, 1)]
def z_m73 : zM := (⟨"DustYards$Text", "joined", "(III)I"⟩, prog_12_method_14_code, 3, (some .int), 10, z_i73_0)
set_option maxRecDepth 100000 in
theorem z_d73_0 : ∀ q ∈ z_i73_0, decode prog_12_method_14_code q.1 = .ok q.2 := by decide +kernel
set_option maxRecDepth 100000 in
theorem z_ok73 : z_okM z_m73 := ⟨z_in (z_s3 (List.mem_of_getElem? (i := 221) rfl)) rfl, z_d73_0, by decide +kernel, by decide +kernel, z_in (z_s1 (List.mem_of_getElem? (i := 6) (by decide +kernel))) (by decide +kernel), by decide +kernel, plainFor_of_name (by decide +kernel)⟩
def z_i74_0 : List (Nat × Instr × Nat) := [(0, .iload_n 0, 1), (1, .ifCond .eq 7, 3), (4, .iconst 1, 1), (5, .goto 4, 3), (8, .iconst 0, 1), (9, .ireturn, 1)]
def z_m74 : zM := (⟨"DustYards$Text", "truth", "(Z)I"⟩, prog_12_method_15_code, 1, (some .int), 10, z_i74_0)
set_option maxRecDepth 100000 in
theorem z_d74_0 : ∀ q ∈ z_i74_0, decode prog_12_method_15_code q.1 = .ok q.2 := by decide +kernel
set_option maxRecDepth 100000 in
theorem z_ok74 : z_okM z_m74 := ⟨z_in (z_s3 (List.mem_of_getElem? (i := 218) rfl)) rfl, z_d74_0, by decide +kernel, by decide +kernel, z_in (z_s1 (List.mem_of_getElem? (i := 6) (by decide +kernel))) (by decide +kernel), by decide +kernel, plainFor_of_name (by decide +kernel)⟩
def z_i75_0 : List (Nat × Instr × Nat) := [(0, .aload_n 0, 1), (1, .invokespecial 1, 3), (4, .aload_n 0, 1), (5, .new 7, 3), (8, .dup, 1), (9, .invokespecial 9, 3), (12, .putfield 10, 3), (15, .aload_n 0, 1), (16, .bipush 6, 2), (18, .newarray .int, 2), (20, .putfield 16, 3), (23, .aload_n 0, 1), (24, .new 20, 3), (27, .dup, 1), (28, .invokespecial 22, 3), (31, .putfield 23, 3), (34, .aload_n 0, 1), (35, .new 27, 3), (38, .dup, 1), (39, .invokespecial 29, 3), (42, .putfield 30, 3), (45, .aload_n 0, 1), (46, .new 34, 3), (49, .dup, 1), (50, .invokespecial 36, 3), (53, .putfield 37, 3), (56, .aload_n 0, 1), (57, .bipush 6, 2), (59, .newarray .int, 2), (61, .putfield 41, 3), (64, .aload_n 0, 1), (65, .sipush 160, 3), (68, .newarray .int, 2), (70, .putfield 44, 3), (73, .aload_n 0, 1), (74, .new 47, 3), (77, .dup, 1), (78, .invokespecial 49, 3), (81, .putfield 50, 3), (84, .aload_n 0, 1), (85, .new 54, 3), (88, .dup, 1), (89, .invokespecial 56, 3), (92, .putfield 57, 3), (95, .aload_n 0, 1), (96, .iconst 5, 1), (97, .newarray .int, 2), (99, .putfield 61, 3), (102, .aload_n 0, 1), (103, .iconst 5, 1), (104, .newarray .int, 2), (106, .putfield 64, 3), (109, .aload_n 0, 1), (110, .new 67, 3), (113, .dup, 1), (114, .invokespecial 69, 3), (117, .putfield 70, 3), (120, .aload_n 0, 1), (121, .new 74, 3), (124, .dup, 1)]
def z_i75_1 : List (Nat × Instr × Nat) := [(125, .invokespecial 76, 3), (128, .putfield 77, 3), (131, .aload_n 0, 1), (132, .new 81, 3), (135, .dup, 1), (136, .invokespecial 83, 3), (139, .putfield 84, 3), (142, .aload_n 0, 1), (143, .iconst 4, 1), (144, .anewarray 88, 3), (147, .putfield 90, 3), (150, .iconst 0, 1), (151, .istore_n 1, 1), (152, .iload_n 1, 1), (153, .iconst 4, 1), (154, .if_icmp .ge 22, 3), (157, .aload_n 0, 1), (158, .getfield 90, 3), (161, .iload_n 1, 1), (162, .new 88, 3), (165, .dup, 1), (166, .invokespecial 94, 3), (169, .aastore, 1), (170, .iinc 1 1, 3), (173, .goto (-21), 3), (176, .iconst 0, 1), (177, .istore_n 1, 1), (178, .iload_n 1, 1), (179, .ldc 95, 2), (181, .invokevirtual 97, 3), (184, .if_icmp .ge 22, 3), (187, .aload_n 0, 1), (188, .getfield 30, 3), (191, .ldc 95, 2), (193, .iload_n 1, 1), (194, .invokevirtual 103, 3), (197, .invokevirtual 107, 3), (200, .iinc 1 1, 3), (203, .goto (-25), 3), (206, .aload_n 0, 1), (207, .invokevirtual 111, 3), (210, .pop, 1), (211, .return_, 1)]
def z_m75 : zM := (⟨"DustYards", "<init>", "()V"⟩, prog_1_method_1_code, 2, none, 11, z_i75_0 ++ z_i75_1)
set_option maxRecDepth 100000 in
theorem z_d75_0 : ∀ q ∈ z_i75_0, decode prog_1_method_1_code q.1 = .ok q.2 := by decide +kernel
set_option maxRecDepth 100000 in
theorem z_d75_1 : ∀ q ∈ z_i75_1, decode prog_1_method_1_code q.1 = .ok q.2 := by decide +kernel
set_option maxRecDepth 100000 in
theorem z_ok75 : z_okM z_m75 := ⟨z_in (z_s1 (List.mem_of_getElem? (i := 26) rfl)) rfl, List.forall_mem_append.mpr ⟨z_d75_0, z_d75_1⟩, by decide +kernel, by decide +kernel, z_in (z_s1 (List.mem_of_getElem? (i := 1) (by decide +kernel))) (by decide +kernel), by decide +kernel, plainFor_of_name (by decide +kernel)⟩
def z_i76_0 : List (Nat × Instr × Nat) := [(0, .iload_n 1, 1), (1, .iconst 1, 1), (2, .bipush 60, 2), (4, .invokestatic 114, 3), (7, .ifCond .ne 6, 3), (10, .bipush (-2), 2), (12, .ireturn, 1), (13, .aload_n 0, 1), (14, .getfield 118, 3), (17, .iload_n 1, 1), (18, .iadd, 1), (19, .sipush 399, 3), (22, .if_icmp .le 6, 3), (25, .bipush (-4), 2), (27, .ireturn, 1), (28, .aload_n 0, 1), (29, .dup, 1), (30, .getfield 118, 3), (33, .iload_n 1, 1), (34, .iadd, 1), (35, .putfield 118, 3), (38, .aload_n 0, 1), (39, .getfield 118, 3), (42, .ireturn, 1)]
def z_m76 : zM := (⟨"DustYards", "pass", "(I)I"⟩, prog_1_method_2_code, 2, (some .int), 11, z_i76_0)
set_option maxRecDepth 100000 in
theorem z_d76_0 : ∀ q ∈ z_i76_0, decode prog_1_method_2_code q.1 = .ok q.2 := by decide +kernel
set_option maxRecDepth 100000 in
theorem z_ok76 : z_okM z_m76 := ⟨z_in (z_s3 (List.mem_of_getElem? (i := 67) rfl)) rfl, z_d76_0, by decide +kernel, by decide +kernel, z_in (z_s1 (List.mem_of_getElem? (i := 1) (by decide +kernel))) (by decide +kernel), by decide +kernel, plainFor_of_name (by decide +kernel)⟩
def z_i77_0 : List (Nat × Instr × Nat) := [(0, .iload_n 1, 1), (1, .iconst 0, 1), (2, .iconst 5, 1), (3, .invokestatic 114, 3), (6, .ifCond .eq 17, 3), (9, .iload_n 2, 1), (10, .invokestatic 122, 3), (13, .ifCond .eq 10, 3), (16, .iload_n 3, 1), (17, .invokestatic 126, 3), (20, .ifCond .ne 6, 3), (23, .bipush (-2), 2), (25, .ireturn, 1), (26, .iload 4, 2), (28, .iconst 1, 1), (29, .sipush 9999, 3), (32, .invokestatic 114, 3), (35, .ifCond .eq 26, 3), (38, .iload 5, 2), (40, .iconst 0, 1), (41, .bipush 90, 2), (43, .invokestatic 114, 3), (46, .ifCond .eq 15, 3), (49, .iload 6, 2), (51, .iconst 0, 1), (52, .sipush 9999, 3), (55, .invokestatic 114, 3), (58, .ifCond .ne 6, 3), (61, .bipush (-2), 2), (63, .ireturn, 1), (64, .aload_n 0, 1), (65, .getfield 10, 3), (68, .getfield 129, 3), (71, .bipush 40, 2), (73, .if_icmp .lt 6, 3), (76, .bipush (-4), 2), (78, .ireturn, 1), (79, .aload_n 0, 1), (80, .getfield 10, 3), (83, .iload_n 1, 1), (84, .iload_n 2, 1), (85, .iload_n 3, 1), (86, .aload_n 0, 1), (87, .getfield 118, 3), (90, .invokevirtual 132, 3), (93, .istore 7, 2), (95, .aload_n 0, 1), (96, .getfield 10, 3), (99, .iload 7, 2), (101, .iload 4, 2), (103, .iload 5, 2), (105, .iload 6, 2), (107, .invokevirtual 136, 3), (110, .iload 7, 2), (112, .ireturn, 1)]
def z_m77 : zM := (⟨"DustYards", "cart", "(IIIIII)I"⟩, prog_1_method_3_code, 8, (some .int), 11, z_i77_0)
set_option maxRecDepth 100000 in
theorem z_d77_0 : ∀ q ∈ z_i77_0, decode prog_1_method_3_code q.1 = .ok q.2 := by decide +kernel
set_option maxRecDepth 100000 in
theorem z_ok77 : z_okM z_m77 := ⟨z_in (z_s3 (List.mem_of_getElem? (i := 74) rfl)) rfl, z_d77_0, by decide +kernel, by decide +kernel, z_in (z_s1 (List.mem_of_getElem? (i := 1) (by decide +kernel))) (by decide +kernel), by decide +kernel, plainFor_of_name (by decide +kernel)⟩
def z_i78_0 : List (Nat × Instr × Nat) := [(0, .aload_n 0, 1), (1, .getfield 10, 3), (4, .iload_n 1, 1), (5, .invokevirtual 140, 3), (8, .ifCond .ne 6, 3), (11, .bipush (-2), 2), (13, .ireturn, 1), (14, .iload_n 2, 1), (15, .tableswitch 182 0 12 #[65, 75, 85, 95, 105, 115, 115, 115, 115, 136, 145, 154, 164], 65), (80, .aload_n 0, 1), (81, .getfield 10, 3), (84, .getfield 143, 3), (87, .iload_n 1, 1), (88, .iaload, 1), (89, .ireturn, 1), (90, .aload_n 0, 1), (91, .getfield 10, 3), (94, .getfield 146, 3), (97, .iload_n 1, 1), (98, .iaload, 1), (99, .ireturn, 1), (100, .aload_n 0, 1), (101, .getfield 10, 3), (104, .getfield 149, 3), (107, .iload_n 1, 1), (108, .iaload, 1), (109, .ireturn, 1), (110, .aload_n 0, 1), (111, .getfield 10, 3), (114, .getfield 152, 3), (117, .iload_n 1, 1), (118, .iaload, 1), (119, .ireturn, 1), (120, .aload_n 0, 1), (121, .getfield 10, 3), (124, .getfield 155, 3), (127, .iload_n 1, 1), (128, .iaload, 1), (129, .ireturn, 1), (130, .aload_n 0, 1), (131, .getfield 10, 3), (134, .iload_n 1, 1), (135, .iload_n 2, 1), (136, .iconst 5, 1), (137, .isub, 1), (138, .aload_n 0, 1), (139, .getfield 10, 3), (142, .getfield 155, 3), (145, .iload_n 1, 1), (146, .iaload, 1), (147, .invokevirtual 158, 3), (150, .ireturn, 1), (151, .aload_n 0, 1), (152, .getfield 10, 3), (155, .iload_n 1, 1), (156, .invokevirtual 162, 3), (159, .ireturn, 1), (160, .aload_n 0, 1), (161, .getfield 10, 3), (164, .iload_n 1, 1)]
def z_i78_1 : List (Nat × Instr × Nat) := [(165, .invokevirtual 166, 3), (168, .ireturn, 1), (169, .aload_n 0, 1), (170, .getfield 10, 3), (173, .getfield 169, 3), (176, .iload_n 1, 1), (177, .iaload, 1), (178, .ireturn, 1), (179, .aload_n 0, 1), (180, .getfield 10, 3), (183, .getfield 171, 3), (186, .iload_n 1, 1), (187, .baload, 1), (188, .ifCond .eq 7, 3), (191, .iconst 1, 1), (192, .goto 4, 3), (195, .iconst 0, 1), (196, .ireturn, 1), (197, .bipush (-2), 2), (199, .ireturn, 1)]
def z_m78 : zM := (⟨"DustYards", "cartTold", "(II)I"⟩, prog_1_method_4_code, 3, (some .int), 11, z_i78_0 ++ z_i78_1)
set_option maxRecDepth 100000 in
theorem z_d78_0 : ∀ q ∈ z_i78_0, decode prog_1_method_4_code q.1 = .ok q.2 := by decide +kernel
set_option maxRecDepth 100000 in
theorem z_d78_1 : ∀ q ∈ z_i78_1, decode prog_1_method_4_code q.1 = .ok q.2 := by decide +kernel
set_option maxRecDepth 100000 in
theorem z_ok78 : z_okM z_m78 := ⟨z_in (z_s3 (List.mem_of_getElem? (i := 92) rfl)) rfl, List.forall_mem_append.mpr ⟨z_d78_0, z_d78_1⟩, by decide +kernel, by decide +kernel, z_in (z_s1 (List.mem_of_getElem? (i := 1) (by decide +kernel))) (by decide +kernel), by decide +kernel, plainFor_of_name (by decide +kernel)⟩
def z_i79_0 : List (Nat × Instr × Nat) := [(0, .iload_n 1, 1), (1, .invokestatic 126, 3), (4, .ifCond .eq 13, 3), (7, .iload_n 2, 1), (8, .iconst 0, 1), (9, .ldc 175, 2), (11, .invokestatic 114, 3), (14, .ifCond .ne 6, 3), (17, .bipush (-2), 2), (19, .ireturn, 1), (20, .iload_n 2, 1), (21, .istore_n 3, 1), (22, .iconst 0, 1), (23, .istore 4, 2), (25, .iconst 0, 1), (26, .istore 5, 2), (28, .iload 5, 2), (30, .aload_n 0, 1), (31, .getfield 10, 3), (34, .getfield 129, 3), (37, .if_icmp .ge 64, 3), (40, .aload_n 0, 1), (41, .getfield 10, 3), (44, .iload 5, 2), (46, .iload_n 1, 1), (47, .invokevirtual 176, 3), (50, .ifCond .ne 6, 3), (53, .goto 42, 3), (56, .aload_n 0, 1), (57, .getfield 10, 3), (60, .getfield 155, 3), (63, .iload 5, 2), (65, .iaload, 1), (66, .iload_n 3, 1), (67, .if_icmp .le 6, 3), (70, .goto 31, 3), (73, .iload_n 3, 1), (74, .aload_n 0, 1), (75, .getfield 10, 3), (78, .getfield 155, 3), (81, .iload 5, 2), (83, .iaload, 1), (84, .isub, 1), (85, .istore_n 3, 1), (86, .aload_n 0, 1), (87, .iload 5, 2), (89, .invokevirtual 180, 3), (92, .iinc 4 1, 3), (95, .iinc 5 1, 3), (98, .goto (-70), 3), (101, .iload 4, 2), (103, .ireturn, 1)]
def z_m79 : zM := (⟨"DustYards", "sift", "(II)I"⟩, prog_1_method_5_code, 6, (some .int), 11, z_i79_0)
set_option maxRecDepth 100000 in
theorem z_d79_0 : ∀ q ∈ z_i79_0, decode prog_1_method_5_code q.1 = .ok q.2 := by decide +kernel
set_option maxRecDepth 100000 in
theorem z_ok79 : z_okM z_m79 := ⟨z_in (z_s3 (List.mem_of_getElem? (i := 118) rfl)) rfl, z_d79_0, by decide +kernel, by decide +kernel, z_in (z_s1 (List.mem_of_getElem? (i := 1) (by decide +kernel))) (by decide +kernel), by decide +kernel, plainFor_of_name (by decide +kernel)⟩
def z_i80_0 : List (Nat × Instr × Nat) := [(0, .iconst 0, 1), (1, .istore_n 2, 1), (2, .iload_n 2, 1), (3, .iconst 4, 1), (4, .if_icmp .ge 36, 3), (7, .aload_n 0, 1), (8, .getfield 16, 3), (11, .iload_n 2, 1), (12, .dup2, 1), (13, .iaload, 1), (14, .aload_n 0, 1), (15, .getfield 10, 3), (18, .iload_n 1, 1), (19, .iload_n 2, 1), (20, .aload_n 0, 1), (21, .getfield 10, 3), (24, .getfield 155, 3), (27, .iload_n 1, 1), (28, .iaload, 1), (29, .invokevirtual 158, 3), (32, .iadd, 1), (33, .iastore, 1), (34, .iinc 2 1, 3), (37, .goto (-35), 3), (40, .aload_n 0, 1), (41, .getfield 16, 3), (44, .iconst 4, 1), (45, .dup2, 1), (46, .iaload, 1), (47, .aload_n 0, 1), (48, .getfield 10, 3), (51, .iload_n 1, 1), (52, .invokevirtual 162, 3), (55, .iadd, 1), (56, .iastore, 1), (57, .aload_n 0, 1), (58, .getfield 10, 3), (61, .getfield 171, 3), (64, .iload_n 1, 1), (65, .iconst 1, 1), (66, .bastore, 1), (67, .return_, 1)]
def z_m80 : zM := (⟨"DustYards", "bringToStore", "(I)V"⟩, prog_1_method_6_code, 3, none, 11, z_i80_0)
set_option maxRecDepth 100000 in
theorem z_d80_0 : ∀ q ∈ z_i80_0, decode prog_1_method_6_code q.1 = .ok q.2 := by decide +kernel
set_option maxRecDepth 100000 in
theorem z_ok80 : z_okM z_m80 := ⟨z_in (z_s3 (List.mem_of_getElem? (i := 127) rfl)) rfl, z_d80_0, by decide +kernel, by decide +kernel, z_in (z_s1 (List.mem_of_getElem? (i := 1) (by decide +kernel))) (by decide +kernel), by decide +kernel, plainFor_of_name (by decide +kernel)⟩
def z_i81_0 : List (Nat × Instr × Nat) := [(0, .iload_n 1, 1), (1, .invokestatic 126, 3), (4, .ifCond .eq 13, 3), (7, .iload_n 2, 1), (8, .iconst 0, 1), (9, .bipush 100, 2), (11, .invokestatic 114, 3), (14, .ifCond .ne 6, 3), (17, .bipush (-2), 2), (19, .ireturn, 1), (20, .aload_n 0, 1), (21, .getfield 10, 3), (24, .iload_n 1, 1), (25, .iload_n 2, 1), (26, .invokevirtual 183, 3), (29, .istore_n 3, 1), (30, .aload_n 0, 1), (31, .getfield 16, 3), (34, .iconst 5, 1), (35, .dup2, 1), (36, .iaload, 1), (37, .iload_n 3, 1), (38, .iadd, 1), (39, .iastore, 1), (40, .iload_n 3, 1), (41, .ireturn, 1)]
def z_m81 : zM := (⟨"DustYards", "fire", "(II)I"⟩, prog_1_method_7_code, 4, (some .int), 11, z_i81_0)
set_option maxRecDepth 100000 in
theorem z_d81_0 : ∀ q ∈ z_i81_0, decode prog_1_method_7_code q.1 = .ok q.2 := by decide +kernel
set_option maxRecDepth 100000 in
theorem z_ok81 : z_okM z_m81 := ⟨z_in (z_s3 (List.mem_of_getElem? (i := 131) rfl)) rfl, z_d81_0, by decide +kernel, by decide +kernel, z_in (z_s1 (List.mem_of_getElem? (i := 1) (by decide +kernel))) (by decide +kernel), by decide +kernel, plainFor_of_name (by decide +kernel)⟩
def z_i82_0 : List (Nat × Instr × Nat) := [(0, .iload_n 1, 1), (1, .invokestatic 126, 3), (4, .ifCond .eq 14, 3), (7, .aload_n 0, 1), (8, .getfield 10, 3), (11, .iload_n 1, 1), (12, .invokevirtual 187, 3), (15, .goto 5, 3), (18, .bipush (-2), 2), (20, .ireturn, 1)]
def z_m82 : zM := (⟨"DustYards", "lies", "(I)I"⟩, prog_1_method_8_code, 2, (some .int), 11, z_i82_0)
set_option maxRecDepth 100000 in
theorem z_d82_0 : ∀ q ∈ z_i82_0, decode prog_1_method_8_code q.1 = .ok q.2 := by decide +kernel
set_option maxRecDepth 100000 in
theorem z_ok82 : z_okM z_m82 := ⟨z_in (z_s3 (List.mem_of_getElem? (i := 140) rfl)) rfl, z_d82_0, by decide +kernel, by decide +kernel, z_in (z_s1 (List.mem_of_getElem? (i := 1) (by decide +kernel))) (by decide +kernel), by decide +kernel, plainFor_of_name (by decide +kernel)⟩
def z_i83_0 : List (Nat × Instr × Nat) := [(0, .iload_n 1, 1), (1, .iconst 0, 1), (2, .iconst 5, 1), (3, .invokestatic 114, 3), (6, .ifCond .eq 12, 3), (9, .aload_n 0, 1), (10, .getfield 16, 3), (13, .iload_n 1, 1), (14, .iaload, 1), (15, .goto 5, 3), (18, .bipush (-2), 2), (20, .ireturn, 1)]
def z_m83 : zM := (⟨"DustYards", "stock", "(I)I"⟩, prog_1_method_9_code, 2, (some .int), 11, z_i83_0)
set_option maxRecDepth 100000 in
theorem z_d83_0 : ∀ q ∈ z_i83_0, decode prog_1_method_9_code q.1 = .ok q.2 := by decide +kernel
set_option maxRecDepth 100000 in
theorem z_ok83 : z_okM z_m83 := ⟨z_in (z_s3 (List.mem_of_getElem? (i := 148) rfl)) rfl, z_d83_0, by decide +kernel, by decide +kernel, z_in (z_s1 (List.mem_of_getElem? (i := 1) (by decide +kernel))) (by decide +kernel), by decide +kernel, plainFor_of_name (by decide +kernel)⟩
def z_i84_0 : List (Nat × Instr × Nat) := [(0, .iload_n 1, 1), (1, .invokestatic 190, 3), (4, .ifCond .eq 13, 3), (7, .iload_n 2, 1), (8, .iconst 1, 1), (9, .ldc 175, 2), (11, .invokestatic 114, 3), (14, .ifCond .ne 6, 3), (17, .bipush (-2), 2), (19, .ireturn, 1), (20, .aload_n 0, 1), (21, .getfield 16, 3), (24, .iload_n 1, 1), (25, .iaload, 1), (26, .iload_n 2, 1), (27, .if_icmp .ge 6, 3), (30, .bipush (-3), 2), (32, .ireturn, 1), (33, .iload_n 2, 1), (34, .aload_n 0, 1), (35, .getfield 23, 3), (38, .iload_n 1, 1), (39, .aload_n 0, 1), (40, .getfield 118, 3), (43, .aload_n 0, 1), (44, .getfield 118, 3), (47, .invokevirtual 193, 3), (50, .invokestatic 196, 3), (53, .istore_n 3, 1), (54, .aload_n 0, 1), (55, .getfield 16, 3), (58, .iload_n 1, 1), (59, .dup2, 1), (60, .iaload, 1), (61, .iload_n 2, 1), (62, .isub, 1), (63, .iastore, 1), (64, .aload_n 0, 1), (65, .dup, 1), (66, .getfield 199, 3), (69, .iload_n 3, 1), (70, .iadd, 1), (71, .putfield 199, 3), (74, .iload_n 3, 1), (75, .ireturn, 1)]
def z_m84 : zM := (⟨"DustYards", "sell", "(II)I"⟩, prog_1_method_10_code, 4, (some .int), 11, z_i84_0)
set_option maxRecDepth 100000 in
theorem z_d84_0 : ∀ q ∈ z_i84_0, decode prog_1_method_10_code q.1 = .ok q.2 := by decide +kernel
set_option maxRecDepth 100000 in
theorem z_ok84 : z_okM z_m84 := ⟨z_in (z_s3 (List.mem_of_getElem? (i := 152) rfl)) rfl, z_d84_0, by decide +kernel, by decide +kernel, z_in (z_s1 (List.mem_of_getElem? (i := 1) (by decide +kernel))) (by decide +kernel), by decide +kernel, plainFor_of_name (by decide +kernel)⟩
def z_i85_0 : List (Nat × Instr × Nat) := [(0, .iload_n 1, 1), (1, .invokestatic 190, 3), (4, .ifCond .eq 21, 3), (7, .iload_n 2, 1), (8, .invokestatic 202, 3), (11, .ifCond .eq 14, 3), (14, .iload_n 3, 1), (15, .iconst 0, 1), (16, .sipush 999, 3), (19, .invokestatic 114, 3), (22, .ifCond .ne 6, 3), (25, .bipush (-2), 2), (27, .ireturn, 1), (28, .aload_n 0, 1), (29, .getfield 23, 3), (32, .getfield 205, 3), (35, .bipush 40, 2), (37, .if_icmp .lt 6, 3), (40, .bipush (-4), 2), (42, .ireturn, 1), (43, .aload_n 0, 1), (44, .getfield 23, 3), (47, .iload_n 1, 1), (48, .iload_n 2, 1), (49, .iload_n 3, 1), (50, .aload_n 0, 1), (51, .getfield 118, 3), (54, .invokevirtual 206, 3), (57, .ireturn, 1)]
def z_m85 : zM := (⟨"DustYards", "price", "(III)I"⟩, prog_1_method_11_code, 4, (some .int), 11, z_i85_0)
set_option maxRecDepth 100000 in
theorem z_d85_0 : ∀ q ∈ z_i85_0, decode prog_1_method_11_code q.1 = .ok q.2 := by decide +kernel
set_option maxRecDepth 100000 in
theorem z_ok85 : z_okM z_m85 := ⟨z_in (z_s3 (List.mem_of_getElem? (i := 166) rfl)) rfl, z_d85_0, by decide +kernel, by decide +kernel, z_in (z_s1 (List.mem_of_getElem? (i := 1) (by decide +kernel))) (by decide +kernel), by decide +kernel, plainFor_of_name (by decide +kernel)⟩
def z_i86_0 : List (Nat × Instr × Nat) := [(0, .iload_n 1, 1), (1, .invokestatic 190, 3), (4, .ifCond .eq 22, 3), (7, .iload_n 2, 1), (8, .invokestatic 202, 3), (11, .ifCond .eq 15, 3), (14, .iload_n 3, 1), (15, .iconst 0, 1), (16, .aload_n 0, 1), (17, .getfield 118, 3), (20, .invokestatic 114, 3), (23, .ifCond .ne 6, 3), (26, .bipush (-2), 2), (28, .ireturn, 1), (29, .aload_n 0, 1), (30, .getfield 23, 3), (33, .iload_n 1, 1), (34, .iload_n 2, 1), (35, .iload_n 3, 1), (36, .invokevirtual 193, 3), (39, .ireturn, 1)]
def z_m86 : zM := (⟨"DustYards", "priceOf", "(III)I"⟩, prog_1_method_12_code, 4, (some .int), 11, z_i86_0)
set_option maxRecDepth 100000 in
theorem z_d86_0 : ∀ q ∈ z_i86_0, decode prog_1_method_12_code q.1 = .ok q.2 := by decide +kernel
set_option maxRecDepth 100000 in
theorem z_ok86 : z_okM z_m86 := ⟨z_in (z_s3 (List.mem_of_getElem? (i := 177) rfl)) rfl, z_d86_0, by decide +kernel, by decide +kernel, z_in (z_s1 (List.mem_of_getElem? (i := 1) (by decide +kernel))) (by decide +kernel), by decide +kernel, plainFor_of_name (by decide +kernel)⟩
def z_i87_0 : List (Nat × Instr × Nat) := [(0, .iload_n 1, 1), (1, .iconst 1, 1), (2, .bipush 8, 2), (4, .invokestatic 114, 3), (7, .ifCond .ne 6, 3), (10, .bipush (-2), 2), (12, .ireturn, 1), (13, .aload_n 0, 1), (14, .getfield 30, 3), (17, .getfield 209, 3), (20, .iload_n 1, 1), (21, .iadd, 1), (22, .sipush 160, 3), (25, .if_icmp .le 6, 3), (28, .bipush (-4), 2), (30, .ireturn, 1), (31, .iconst 0, 1), (32, .istore 4, 2), (34, .iload 4, 2), (36, .iload_n 1, 1), (37, .if_icmp .ge 28, 3), (40, .aload_n 0, 1), (41, .getfield 30, 3), (44, .lload_n 2, 1), (45, .bipush 8, 2), (47, .iload 4, 2), (49, .imul, 1), (50, .lushr, 1), (51, .l2i, 1), (52, .sipush 255, 3), (55, .iand, 1), (56, .invokevirtual 107, 3), (59, .iinc 4 1, 3), (62, .goto (-28), 3), (65, .aload_n 0, 1), (66, .getfield 30, 3), (69, .getfield 209, 3), (72, .ireturn, 1)]
def z_m87 : zM := (⟨"DustYards", "feed", "(IJ)I"⟩, prog_1_method_13_code, 5, (some .int), 11, z_i87_0)
set_option maxRecDepth 100000 in
theorem z_d87_0 : ∀ q ∈ z_i87_0, decode prog_1_method_13_code q.1 = .ok q.2 := by decide +kernel
set_option maxRecDepth 100000 in
theorem z_ok87 : z_okM z_m87 := ⟨z_in (z_s3 (List.mem_of_getElem? (i := 181) rfl)) rfl, z_d87_0, by decide +kernel, by decide +kernel, z_in (z_s1 (List.mem_of_getElem? (i := 1) (by decide +kernel))) (by decide +kernel), by decide +kernel, plainFor_of_name (by decide +kernel)⟩
def z_i88_0 : List (Nat × Instr × Nat) := [(0, .aload_n 0, 1), (1, .getfield 37, 3), (4, .getfield 212, 3), (7, .bipush 6, 2), (9, .if_icmp .lt 6, 3), (12, .bipush (-4), 2), (14, .ireturn, 1), (15, .aload_n 0, 1), (16, .getfield 37, 3), (19, .getfield 215, 3), (22, .aload_n 0, 1), (23, .getfield 37, 3), (26, .getfield 212, 3), (29, .aaload, 1), (30, .aload_n 0, 1), (31, .getfield 30, 3), (34, .invokevirtual 219, 3), (37, .istore_n 1, 1), (38, .aload_n 0, 1), (39, .getfield 30, 3), (42, .invokevirtual 225, 3), (45, .iload_n 1, 1), (46, .ifCond .ne 14, 3), (49, .bipush (-100), 2), (51, .aload_n 0, 1), (52, .getfield 30, 3), (55, .getfield 228, 3), (58, .isub, 1), (59, .ireturn, 1), (60, .aload_n 0, 1), (61, .getfield 37, 3), (64, .dup, 1), (65, .getfield 212, 3), (68, .iconst 1, 1), (69, .iadd, 1), (70, .putfield 212, 3), (73, .aload_n 0, 1), (74, .getfield 37, 3), (77, .getfield 212, 3), (80, .iconst 1, 1), (81, .isub, 1), (82, .ireturn, 1)]
def z_m88 : zM := (⟨"DustYards", "text", "()I"⟩, prog_1_method_14_code, 2, (some .int), 11, z_i88_0)
set_option maxRecDepth 100000 in
theorem z_d88_0 : ∀ q ∈ z_i88_0, decode prog_1_method_14_code q.1 = .ok q.2 := by decide +kernel
set_option maxRecDepth 100000 in
theorem z_ok88 : z_okM z_m88 := ⟨z_in (z_s2 (List.mem_of_getElem? (i := 148) rfl)) rfl, z_d88_0, by decide +kernel, by decide +kernel, z_in (z_s1 (List.mem_of_getElem? (i := 1) (by decide +kernel))) (by decide +kernel), by decide +kernel, plainFor_of_name (by decide +kernel)⟩
def z_i89_0 : List (Nat × Instr × Nat) := [(0, .iload_n 1, 1), (1, .invokestatic 122, 3), (4, .ifCond .eq 27, 3), (7, .iload_n 2, 1), (8, .invokestatic 202, 3), (11, .ifCond .eq 20, 3), (14, .iload_n 3, 1), (15, .iconst 0, 1), (16, .aload_n 0, 1), (17, .getfield 37, 3), (20, .getfield 212, 3), (23, .iconst 1, 1), (24, .isub, 1), (25, .invokestatic 114, 3), (28, .ifCond .ne 6, 3), (31, .bipush (-2), 2), (33, .ireturn, 1), (34, .aload_n 0, 1), (35, .getfield 37, 3), (38, .getfield 231, 3), (41, .bipush 20, 2), (43, .if_icmp .lt 6, 3), (46, .bipush (-4), 2), (48, .ireturn, 1), (49, .aload_n 0, 1), (50, .getfield 37, 3), (53, .iload_n 1, 1), (54, .iload_n 2, 1), (55, .iload_n 3, 1), (56, .invokevirtual 232, 3), (59, .ireturn, 1)]
def z_m89 : zM := (⟨"DustYards", "contract", "(III)I"⟩, prog_1_method_15_code, 4, (some .int), 11, z_i89_0)
set_option maxRecDepth 100000 in
theorem z_d89_0 : ∀ q ∈ z_i89_0, decode prog_1_method_15_code q.1 = .ok q.2 := by decide +kernel
set_option maxRecDepth 100000 in
theorem z_ok89 : z_okM z_m89 := ⟨z_in (z_s3 (List.mem_of_getElem? (i := 186) rfl)) rfl, z_d89_0, by decide +kernel, by decide +kernel, z_in (z_s1 (List.mem_of_getElem? (i := 1) (by decide +kernel))) (by decide +kernel), by decide +kernel, plainFor_of_name (by decide +kernel)⟩
def z_i90_0 : List (Nat × Instr × Nat) := [(0, .iload_n 1, 1), (1, .invokestatic 122, 3), (4, .ifCond .eq 22, 3), (7, .iload_n 2, 1), (8, .invokestatic 202, 3), (11, .ifCond .eq 15, 3), (14, .aload_n 0, 1), (15, .getfield 37, 3), (18, .iload_n 1, 1), (19, .iload_n 2, 1), (20, .invokevirtual 235, 3), (23, .goto 5, 3), (26, .bipush (-2), 2), (28, .ireturn, 1)]
def z_m90 : zM := (⟨"DustYards", "contractOf", "(II)I"⟩, prog_1_method_16_code, 3, (some .int), 11, z_i90_0)
set_option maxRecDepth 100000 in
theorem z_d90_0 : ∀ q ∈ z_i90_0, decode prog_1_method_16_code q.1 = .ok q.2 := by decide +kernel
set_option maxRecDepth 100000 in
theorem z_ok90 : z_okM z_m90 := ⟨z_in (z_s3 (List.mem_of_getElem? (i := 194) rfl)) rfl, z_d90_0, by decide +kernel, by decide +kernel, z_in (z_s1 (List.mem_of_getElem? (i := 1) (by decide +kernel))) (by decide +kernel), by decide +kernel, plainFor_of_name (by decide +kernel)⟩
def z_i91_0 : List (Nat × Instr × Nat) := [(0, .aload_n 0, 1), (1, .getfield 10, 3), (4, .iload_n 1, 1), (5, .invokevirtual 140, 3), (8, .ifCond .eq 12, 3), (11, .iload_n 2, 1), (12, .iconst 0, 1), (13, .iconst 2, 1), (14, .invokestatic 114, 3), (17, .ifCond .ne 7, 3), (20, .ldc2_w 238, 3), (23, .lreturn, 1), (24, .aload_n 0, 1), (25, .iload_n 1, 1), (26, .iload_n 2, 1), (27, .invokevirtual 240, 3), (30, .i2l, 1), (31, .lreturn, 1)]
def z_m91 : zM := (⟨"DustYards", "says", "(II)J"⟩, prog_1_method_17_code, 3, (some .long), 11, z_i91_0)
set_option maxRecDepth 100000 in
theorem z_d91_0 : ∀ q ∈ z_i91_0, decode prog_1_method_17_code q.1 = .ok q.2 := by decide +kernel
set_option maxRecDepth 100000 in
theorem z_ok91 : z_okM z_m91 := ⟨z_in (z_s3 (List.mem_of_getElem? (i := 202) rfl)) rfl, z_d91_0, by decide +kernel, by decide +kernel, z_in (z_s1 (List.mem_of_getElem? (i := 1) (by decide +kernel))) (by decide +kernel), by decide +kernel, plainFor_of_name (by decide +kernel)⟩
def z_i92_0 : List (Nat × Instr × Nat) := [(0, .aload_n 0, 1), (1, .getfield 10, 3), (4, .getfield 146, 3), (7, .iload_n 1, 1), (8, .iaload, 1), (9, .istore_n 3, 1), (10, .aload_n 0, 1), (11, .getfield 10, 3), (14, .getfield 169, 3), (17, .iload_n 1, 1), (18, .iaload, 1), (19, .istore 4, 2), (21, .aload_n 0, 1), (22, .getfield 41, 3), (25, .iconst 0, 1), (26, .aload_n 0, 1), (27, .getfield 10, 3), (30, .getfield 152, 3), (33, .iload_n 1, 1), (34, .iaload, 1), (35, .iastore, 1), (36, .aload_n 0, 1), (37, .getfield 41, 3), (40, .iconst 1, 1), (41, .iload 4, 2), (43, .iastore, 1), (44, .aload_n 0, 1), (45, .getfield 41, 3), (48, .iconst 2, 1), (49, .aload_n 0, 1), (50, .getfield 10, 3), (53, .getfield 243, 3), (56, .iload_n 1, 1), (57, .iaload, 1), (58, .iastore, 1), (59, .aload_n 0, 1), (60, .getfield 41, 3), (63, .iconst 3, 1), (64, .aload_n 0, 1), (65, .getfield 10, 3), (68, .getfield 143, 3), (71, .iload_n 1, 1), (72, .iaload, 1), (73, .iastore, 1), (74, .aload_n 0, 1), (75, .getfield 41, 3), (78, .iconst 4, 1), (79, .aload_n 0, 1), (80, .getfield 57, 3), (83, .iload_n 3, 1), (84, .iload 4, 2), (86, .invokevirtual 246, 3), (89, .iastore, 1), (90, .aload_n 0, 1), (91, .getfield 41, 3), (94, .iconst 5, 1), (95, .aload_n 0, 1), (96, .getfield 23, 3), (99, .iconst 0, 1), (100, .iload 4, 2)]
def z_i92_1 : List (Nat × Instr × Nat) := [(102, .aload_n 0, 1), (103, .getfield 118, 3), (106, .invokevirtual 193, 3), (109, .iastore, 1), (110, .aload_n 0, 1), (111, .getfield 37, 3), (114, .getfield 215, 3), (117, .aload_n 0, 1), (118, .getfield 37, 3), (121, .iload_n 3, 1), (122, .iload 4, 2), (124, .invokevirtual 235, 3), (127, .aaload, 1), (128, .iload_n 2, 1), (129, .aload_n 0, 1), (130, .getfield 41, 3), (133, .aload_n 0, 1), (134, .getfield 44, 3), (137, .invokevirtual 249, 3), (140, .ireturn, 1)]
def z_m92 : zM := (⟨"DustYards", "partFor", "(II)I"⟩, prog_1_method_18_code, 5, (some .int), 11, z_i92_0 ++ z_i92_1)
set_option maxRecDepth 100000 in
theorem z_d92_0 : ∀ q ∈ z_i92_0, decode prog_1_method_18_code q.1 = .ok q.2 := by decide +kernel
set_option maxRecDepth 100000 in
theorem z_d92_1 : ∀ q ∈ z_i92_1, decode prog_1_method_18_code q.1 = .ok q.2 := by decide +kernel
set_option maxRecDepth 100000 in
theorem z_ok92 : z_okM z_m92 := ⟨z_in (z_s3 (List.mem_of_getElem? (i := 207) rfl)) rfl, List.forall_mem_append.mpr ⟨z_d92_0, z_d92_1⟩, by decide +kernel, by decide +kernel, z_in (z_s1 (List.mem_of_getElem? (i := 1) (by decide +kernel))) (by decide +kernel), by decide +kernel, plainFor_of_name (by decide +kernel)⟩
def z_i93_0 : List (Nat × Instr × Nat) := [(0, .iload_n 1, 1), (1, .invokestatic 122, 3), (4, .ifCond .eq 11, 3), (7, .iload_n 2, 1), (8, .iload_n 3, 1), (9, .invokestatic 253, 3), (12, .ifCond .ne 7, 3), (15, .ldc2_w 238, 3), (18, .lreturn, 1), (19, .lconst 0, 1), (20, .lstore 4, 2), (22, .iconst 0, 1), (23, .istore 6, 2), (25, .iload 6, 2), (27, .aload_n 0, 1), (28, .getfield 10, 3), (31, .getfield 129, 3), (34, .if_icmp .ge 54, 3), (37, .aload_n 0, 1), (38, .getfield 10, 3), (41, .iload 6, 2), (43, .iload_n 1, 1), (44, .iload_n 2, 1), (45, .iload_n 3, 1), (46, .invokevirtual 256, 3), (49, .ifCond .eq 33, 3), (52, .lload 4, 2), (54, .aload_n 0, 1), (55, .iload 6, 2), (57, .iconst 0, 1), (58, .invokevirtual 240, 3), (61, .i2l, 1), (62, .ladd, 1), (63, .lstore 4, 2), (65, .lload 4, 2), (67, .iconst 0, 1), (68, .aload_n 0, 1), (69, .iload 6, 2), (71, .iconst 1, 1), (72, .invokevirtual 240, 3), (75, .invokestatic 260, 3), (78, .i2l, 1), (79, .lsub, 1), (80, .lstore 4, 2), (82, .iinc 6 1, 3), (85, .goto (-60), 3), (88, .lload 4, 2), (90, .lreturn, 1)]
def z_m93 : zM := (⟨"DustYards", "owed", "(III)J"⟩, prog_1_method_19_code, 7, (some .long), 11, z_i93_0)
set_option maxRecDepth 100000 in
theorem z_d93_0 : ∀ q ∈ z_i93_0, decode prog_1_method_19_code q.1 = .ok q.2 := by decide +kernel
set_option maxRecDepth 100000 in
theorem z_ok93 : z_okM z_m93 := ⟨z_in (z_s3 (List.mem_of_getElem? (i := 225) rfl)) rfl, z_d93_0, by decide +kernel, by decide +kernel, z_in (z_s1 (List.mem_of_getElem? (i := 1) (by decide +kernel))) (by decide +kernel), by decide +kernel, plainFor_of_name (by decide +kernel)⟩
def z_i94_0 : List (Nat × Instr × Nat) := [(0, .aload_n 0, 1), (1, .getfield 10, 3), (4, .iload_n 1, 1), (5, .invokevirtual 140, 3), (8, .ifCond .eq 21, 3), (11, .iload_n 2, 1), (12, .invokestatic 265, 3), (15, .ifCond .eq 14, 3), (18, .iload_n 3, 1), (19, .iconst 0, 1), (20, .sipush 9999, 3), (23, .invokestatic 114, 3), (26, .ifCond .ne 6, 3), (29, .bipush (-2), 2), (31, .ireturn, 1), (32, .aload_n 0, 1), (33, .getfield 50, 3), (36, .getfield 268, 3), (39, .bipush 20, 2), (41, .if_icmp .lt 6, 3), (44, .bipush (-4), 2), (46, .ireturn, 1), (47, .aload_n 0, 1), (48, .getfield 50, 3), (51, .iload_n 1, 1), (52, .iload_n 2, 1), (53, .iload_n 3, 1), (54, .invokevirtual 269, 3), (57, .ireturn, 1)]
def z_m94 : zM := (⟨"DustYards", "find", "(III)I"⟩, prog_1_method_20_code, 4, (some .int), 11, z_i94_0)
set_option maxRecDepth 100000 in
theorem z_d94_0 : ∀ q ∈ z_i94_0, decode prog_1_method_20_code q.1 = .ok q.2 := by decide +kernel
set_option maxRecDepth 100000 in
theorem z_ok94 : z_okM z_m94 := ⟨z_in (z_s3 (List.mem_of_getElem? (i := 239) rfl)) rfl, z_d94_0, by decide +kernel, by decide +kernel, z_in (z_s1 (List.mem_of_getElem? (i := 1) (by decide +kernel))) (by decide +kernel), by decide +kernel, plainFor_of_name (by decide +kernel)⟩
def z_i95_0 : List (Nat × Instr × Nat) := [(0, .iload_n 1, 1), (1, .iconst 0, 1), (2, .aload_n 0, 1), (3, .getfield 50, 3), (6, .getfield 268, 3), (9, .iconst 1, 1), (10, .isub, 1), (11, .invokestatic 114, 3), (14, .ifCond .eq 11, 3), (17, .aload_n 0, 1), (18, .iload_n 1, 1), (19, .invokevirtual 271, 3), (22, .goto 5, 3), (25, .bipush (-2), 2), (27, .ireturn, 1)]
def z_m95 : zM := (⟨"DustYards", "whose", "(I)I"⟩, prog_1_method_21_code, 2, (some .int), 11, z_i95_0)
set_option maxRecDepth 100000 in
theorem z_d95_0 : ∀ q ∈ z_i95_0, decode prog_1_method_21_code q.1 = .ok q.2 := by decide +kernel
set_option maxRecDepth 100000 in
theorem z_ok95 : z_okM z_m95 := ⟨z_in (z_s4 (List.mem_of_getElem? (i := 10) rfl)) rfl, z_d95_0, by decide +kernel, by decide +kernel, z_in (z_s1 (List.mem_of_getElem? (i := 1) (by decide +kernel))) (by decide +kernel), by decide +kernel, plainFor_of_name (by decide +kernel)⟩
def z_i96_0 : List (Nat × Instr × Nat) := [(0, .aload_n 0, 1), (1, .aload_n 0, 1), (2, .getfield 50, 3), (5, .getfield 274, 3), (8, .iload_n 1, 1), (9, .iaload, 1), (10, .iconst 2, 1), (11, .invokevirtual 240, 3), (14, .iconst 3, 1), (15, .invokestatic 277, 3), (18, .ireturn, 1)]
def z_m96 : zM := (⟨"DustYards", "ownerOf", "(I)I"⟩, prog_1_method_22_code, 2, (some .int), 11, z_i96_0)
set_option maxRecDepth 100000 in
theorem z_d96_0 : ∀ q ∈ z_i96_0, decode prog_1_method_22_code q.1 = .ok q.2 := by decide +kernel
set_option maxRecDepth 100000 in
theorem z_ok96 : z_okM z_m96 := ⟨z_in (z_s4 (List.mem_of_getElem? (i := 14) rfl)) rfl, z_d96_0, by decide +kernel, by decide +kernel, z_in (z_s1 (List.mem_of_getElem? (i := 1) (by decide +kernel))) (by decide +kernel), by decide +kernel, plainFor_of_name (by decide +kernel)⟩
def z_i97_0 : List (Nat × Instr × Nat) := [(0, .iload_n 1, 1), (1, .iconst 0, 1), (2, .bipush 16, 2), (4, .invokestatic 114, 3), (7, .ifCond .ne 7, 3), (10, .ldc2_w 238, 3), (13, .lreturn, 1), (14, .lconst 0, 1), (15, .lstore_n 2, 1), (16, .iconst 0, 1), (17, .istore 4, 2), (19, .iload 4, 2), (21, .aload_n 0, 1), (22, .getfield 50, 3), (25, .getfield 268, 3), (28, .if_icmp .ge 33, 3), (31, .aload_n 0, 1), (32, .iload 4, 2), (34, .invokevirtual 280, 3), (37, .iload_n 1, 1), (38, .if_icmp .ne 17, 3), (41, .lload_n 2, 1), (42, .aload_n 0, 1), (43, .getfield 50, 3), (46, .getfield 283, 3), (49, .iload 4, 2), (51, .iaload, 1), (52, .i2l, 1), (53, .ladd, 1), (54, .lstore_n 2, 1), (55, .iinc 4 1, 3), (58, .goto (-39), 3), (61, .lload_n 2, 1), (62, .lreturn, 1)]
def z_m97 : zM := (⟨"DustYards", "finds", "(I)J"⟩, prog_1_method_23_code, 5, (some .long), 11, z_i97_0)
set_option maxRecDepth 100000 in
theorem z_d97_0 : ∀ q ∈ z_i97_0, decode prog_1_method_23_code q.1 = .ok q.2 := by decide +kernel
set_option maxRecDepth 100000 in
theorem z_ok97 : z_okM z_m97 := ⟨z_in (z_s4 (List.mem_of_getElem? (i := 21) rfl)) rfl, z_d97_0, by decide +kernel, by decide +kernel, z_in (z_s1 (List.mem_of_getElem? (i := 1) (by decide +kernel))) (by decide +kernel), by decide +kernel, plainFor_of_name (by decide +kernel)⟩
def z_i98_0 : List (Nat × Instr × Nat) := [(0, .aload_n 0, 1), (1, .iload_n 1, 1), (2, .invokevirtual 271, 3), (5, .istore_n 2, 1), (6, .iload_n 2, 1), (7, .ifCond .ne 13, 3), (10, .aload_n 0, 1), (11, .getfield 50, 3), (14, .getfield 286, 3), (17, .iload_n 1, 1), (18, .iaload, 1), (19, .ireturn, 1), (20, .iload_n 2, 1), (21, .iconst 1, 1), (22, .if_icmp .ne 8, 3), (25, .bipush 10, 2), (27, .goto 23, 3), (30, .bipush 11, 2), (32, .aload_n 0, 1), (33, .getfield 10, 3), (36, .getfield 146, 3), (39, .aload_n 0, 1), (40, .getfield 50, 3), (43, .getfield 274, 3), (46, .iload_n 1, 1), (47, .iaload, 1), (48, .iaload, 1), (49, .iadd, 1), (50, .ireturn, 1)]
def z_m98 : zM := (⟨"DustYards", "holderOf", "(I)I"⟩, prog_1_method_24_code, 3, (some .int), 11, z_i98_0)
set_option maxRecDepth 100000 in
theorem z_d98_0 : ∀ q ∈ z_i98_0, decode prog_1_method_24_code q.1 = .ok q.2 := by decide +kernel
set_option maxRecDepth 100000 in
theorem z_ok98 : z_okM z_m98 := ⟨z_in (z_s4 (List.mem_of_getElem? (i := 25) rfl)) rfl, z_d98_0, by decide +kernel, by decide +kernel, z_in (z_s1 (List.mem_of_getElem? (i := 1) (by decide +kernel))) (by decide +kernel), by decide +kernel, plainFor_of_name (by decide +kernel)⟩
def z_i99_0 : List (Nat × Instr × Nat) := [(0, .iload_n 1, 1), (1, .invokestatic 122, 3), (4, .ifCond .eq 14, 3), (7, .iload_n 2, 1), (8, .iconst 1, 1), (9, .sipush 999, 3), (12, .invokestatic 114, 3), (15, .ifCond .ne 6, 3), (18, .bipush (-2), 2), (20, .ireturn, 1), (21, .iload_n 3, 1), (22, .iconst 0, 1), (23, .iconst 5, 1), (24, .invokestatic 114, 3), (27, .ifCond .eq 15, 3), (30, .iload 4, 2), (32, .iconst 0, 1), (33, .sipush 9999, 3), (36, .invokestatic 114, 3), (39, .ifCond .ne 6, 3), (42, .bipush (-2), 2), (44, .ireturn, 1), (45, .aload_n 0, 1), (46, .getfield 57, 3), (49, .getfield 289, 3), (52, .bipush 12, 2), (54, .if_icmp .lt 6, 3), (57, .bipush (-4), 2), (59, .ireturn, 1), (60, .aload_n 0, 1), (61, .getfield 57, 3), (64, .iload_n 1, 1), (65, .iload_n 2, 1), (66, .iload_n 3, 1), (67, .iload 4, 2), (69, .invokevirtual 290, 3), (72, .ireturn, 1)]
def z_m99 : zM := (⟨"DustYards", "door", "(IIII)I"⟩, prog_1_method_25_code, 5, (some .int), 11, z_i99_0)
set_option maxRecDepth 100000 in
theorem z_d99_0 : ∀ q ∈ z_i99_0, decode prog_1_method_25_code q.1 = .ok q.2 := by decide +kernel
set_option maxRecDepth 100000 in
theorem z_ok99 : z_okM z_m99 := ⟨z_in (z_s4 (List.mem_of_getElem? (i := 29) rfl)) rfl, z_d99_0, by decide +kernel, by decide +kernel, z_in (z_s1 (List.mem_of_getElem? (i := 1) (by decide +kernel))) (by decide +kernel), by decide +kernel, plainFor_of_name (by decide +kernel)⟩
def z_i100_0 : List (Nat × Instr × Nat) := [(0, .iload_n 1, 1), (1, .iconst 0, 1), (2, .aload_n 0, 1), (3, .getfield 57, 3), (6, .getfield 289, 3), (9, .iconst 1, 1), (10, .isub, 1), (11, .invokestatic 114, 3), (14, .ifCond .ne 6, 3), (17, .bipush (-2), 2), (19, .ireturn, 1), (20, .aload_n 0, 1), (21, .getfield 57, 3), (24, .getfield 292, 3), (27, .iload_n 1, 1), (28, .iaload, 1), (29, .aload_n 0, 1), (30, .getfield 118, 3), (33, .bipush 6, 2), (35, .irem, 1), (36, .if_icmp .ne 18, 3), (39, .aload_n 0, 1), (40, .getfield 57, 3), (43, .iload_n 1, 1), (44, .aload_n 0, 1), (45, .getfield 118, 3), (48, .invokevirtual 295, 3), (51, .ifCond .eq 6, 3), (54, .bipush (-3), 2), (56, .ireturn, 1), (57, .aload_n 0, 1), (58, .getfield 57, 3), (61, .getfield 298, 3), (64, .bipush 60, 2), (66, .if_icmp .lt 6, 3), (69, .bipush (-4), 2), (71, .ireturn, 1), (72, .aload_n 0, 1), (73, .getfield 57, 3), (76, .iload_n 1, 1), (77, .aload_n 0, 1), (78, .getfield 118, 3), (81, .invokevirtual 301, 3), (84, .aload_n 0, 1), (85, .getfield 57, 3), (88, .aload_n 0, 1), (89, .getfield 57, 3), (92, .getfield 305, 3), (95, .iload_n 1, 1), (96, .iaload, 1), (97, .aload_n 0, 1), (98, .getfield 118, 3), (101, .invokevirtual 246, 3), (104, .ireturn, 1)]
def z_m100 : zM := (⟨"DustYards", "miss", "(I)I"⟩, prog_1_method_26_code, 2, (some .int), 11, z_i100_0)
set_option maxRecDepth 100000 in
theorem z_d100_0 : ∀ q ∈ z_i100_0, decode prog_1_method_26_code q.1 = .ok q.2 := by decide +kernel
set_option maxRecDepth 100000 in
theorem z_ok100 : z_okM z_m100 := ⟨z_in (z_s4 (List.mem_of_getElem? (i := 37) rfl)) rfl, z_d100_0, by decide +kernel, by decide +kernel, z_in (z_s1 (List.mem_of_getElem? (i := 1) (by decide +kernel))) (by decide +kernel), by decide +kernel, plainFor_of_name (by decide +kernel)⟩
def z_i101_0 : List (Nat × Instr × Nat) := [(0, .iload_n 1, 1), (1, .iconst 0, 1), (2, .iconst 5, 1), (3, .invokestatic 114, 3), (6, .ifCond .eq 14, 3), (9, .iload_n 2, 1), (10, .iconst 1, 1), (11, .sipush 9999, 3), (14, .invokestatic 114, 3), (17, .ifCond .ne 6, 3), (20, .bipush (-2), 2), (22, .ireturn, 1), (23, .iload_n 3, 1), (24, .iconst 0, 1), (25, .ldc 175, 2), (27, .invokestatic 114, 3), (30, .ifCond .eq 16, 3), (33, .aload_n 0, 1), (34, .getfield 57, 3), (37, .iload_n 1, 1), (38, .iload_n 2, 1), (39, .iload_n 3, 1), (40, .invokevirtual 306, 3), (43, .goto 5, 3), (46, .bipush (-2), 2), (48, .ireturn, 1)]
def z_m101 : zM := (⟨"DustYards", "rounds", "(III)I"⟩, prog_1_method_27_code, 4, (some .int), 11, z_i101_0)
set_option maxRecDepth 100000 in
theorem z_d101_0 : ∀ q ∈ z_i101_0, decode prog_1_method_27_code q.1 = .ok q.2 := by decide +kernel
set_option maxRecDepth 100000 in
theorem z_ok101 : z_okM z_m101 := ⟨z_in (z_s4 (List.mem_of_getElem? (i := 49) rfl)) rfl, z_d101_0, by decide +kernel, by decide +kernel, z_in (z_s1 (List.mem_of_getElem? (i := 1) (by decide +kernel))) (by decide +kernel), by decide +kernel, plainFor_of_name (by decide +kernel)⟩
def z_i102_0 : List (Nat × Instr × Nat) := [(0, .iload_n 1, 1), (1, .iconst 0, 1), (2, .sipush 999, 3), (5, .invokestatic 114, 3), (8, .ifCond .eq 14, 3), (11, .iload_n 2, 1), (12, .iconst 0, 1), (13, .sipush 999, 3), (16, .invokestatic 114, 3), (19, .ifCond .ne 6, 3), (22, .bipush (-2), 2), (24, .ireturn, 1), (25, .aload_n 0, 1), (26, .getfield 309, 3), (29, .iconst 5, 1), (30, .if_icmp .lt 6, 3), (33, .bipush (-4), 2), (35, .ireturn, 1), (36, .aload_n 0, 1), (37, .getfield 61, 3), (40, .aload_n 0, 1), (41, .getfield 309, 3), (44, .iload_n 1, 1), (45, .iastore, 1), (46, .aload_n 0, 1), (47, .getfield 64, 3), (50, .aload_n 0, 1), (51, .getfield 309, 3), (54, .iload_n 2, 1), (55, .iastore, 1), (56, .aload_n 0, 1), (57, .dup, 1), (58, .getfield 309, 3), (61, .iconst 1, 1), (62, .iadd, 1), (63, .putfield 309, 3), (66, .aload_n 0, 1), (67, .getfield 309, 3), (70, .iconst 1, 1), (71, .isub, 1), (72, .ireturn, 1)]
def z_m102 : zM := (⟨"DustYards", "row", "(II)I"⟩, prog_1_method_28_code, 3, (some .int), 11, z_i102_0)
set_option maxRecDepth 100000 in
theorem z_d102_0 : ∀ q ∈ z_i102_0, decode prog_1_method_28_code q.1 = .ok q.2 := by decide +kernel
set_option maxRecDepth 100000 in
theorem z_ok102 : z_okM z_m102 := ⟨z_in (z_s4 (List.mem_of_getElem? (i := 68) rfl)) rfl, z_d102_0, by decide +kernel, by decide +kernel, z_in (z_s1 (List.mem_of_getElem? (i := 1) (by decide +kernel))) (by decide +kernel), by decide +kernel, plainFor_of_name (by decide +kernel)⟩
def z_i103_0 : List (Nat × Instr × Nat) := [(0, .iload_n 1, 1), (1, .invokestatic 122, 3), (4, .ifCond .eq 26, 3), (7, .iload_n 2, 1), (8, .iload_n 3, 1), (9, .invokestatic 253, 3), (12, .ifCond .eq 18, 3), (15, .iload 4, 2), (17, .iconst (-1), 1), (18, .aload_n 0, 1), (19, .getfield 309, 3), (22, .iconst 1, 1), (23, .isub, 1), (24, .invokestatic 114, 3), (27, .ifCond .ne 7, 3), (30, .ldc2_w 238, 3), (33, .lreturn, 1), (34, .iload 4, 2), (36, .iconst (-1), 1), (37, .if_icmp .eq 13, 3), (40, .aload_n 0, 1), (41, .iload 4, 2), (43, .iload_n 1, 1), (44, .iload_n 2, 1), (45, .iload_n 3, 1), (46, .invokevirtual 312, 3), (49, .lreturn, 1), (50, .lconst 0, 1), (51, .lstore 5, 2), (53, .iconst 0, 1), (54, .istore 7, 2), (56, .iload 7, 2), (58, .aload_n 0, 1), (59, .getfield 309, 3), (62, .if_icmp .ge 37, 3), (65, .aload_n 0, 1), (66, .iload 7, 2), (68, .iload_n 1, 1), (69, .iload_n 2, 1), (70, .iload_n 3, 1), (71, .invokevirtual 312, 3), (74, .lstore 8, 2), (76, .iload 7, 2), (78, .ifCond .eq 11, 3), (81, .lload 8, 2), (83, .lload 5, 2), (85, .lcmp, 1), (86, .ifCond .ge 7, 3), (89, .lload 8, 2), (91, .lstore 5, 2), (93, .iinc 7 1, 3), (96, .goto (-40), 3), (99, .lload 5, 2), (101, .lreturn, 1)]
def z_m103 : zM := (⟨"DustYards", "bid", "(IIII)J"⟩, prog_1_method_29_code, 10, (some .long), 11, z_i103_0)
set_option maxRecDepth 100000 in
theorem z_d103_0 : ∀ q ∈ z_i103_0, decode prog_1_method_29_code q.1 = .ok q.2 := by decide +kernel
set_option maxRecDepth 100000 in
theorem z_ok103 : z_okM z_m103 := ⟨z_in (z_s4 (List.mem_of_getElem? (i := 72) rfl)) rfl, z_d103_0, by decide +kernel, by decide +kernel, z_in (z_s1 (List.mem_of_getElem? (i := 1) (by decide +kernel))) (by decide +kernel), by decide +kernel, plainFor_of_name (by decide +kernel)⟩
def z_i104_0 : List (Nat × Instr × Nat) := [(0, .lconst 0, 1), (1, .lstore 5, 2), (3, .iconst 0, 1), (4, .istore 7, 2), (6, .iload 7, 2), (8, .aload_n 0, 1), (9, .getfield 10, 3), (12, .getfield 129, 3), (15, .if_icmp .ge 91, 3), (18, .aload_n 0, 1), (19, .getfield 10, 3), (22, .iload 7, 2), (24, .iload_n 2, 1), (25, .iload_n 3, 1), (26, .iload 4, 2), (28, .invokevirtual 256, 3), (31, .ifCond .eq 69, 3), (34, .aload_n 0, 1), (35, .getfield 10, 3), (38, .getfield 316, 3), (41, .iload 7, 2), (43, .iaload, 1), (44, .istore 8, 2), (46, .lload 5, 2), (48, .aload_n 0, 1), (49, .getfield 10, 3), (52, .iload 7, 2), (54, .iconst 0, 1), (55, .iload 8, 2), (57, .invokevirtual 158, 3), (60, .aload_n 0, 1), (61, .getfield 61, 3), (64, .iload_n 1, 1), (65, .iaload, 1), (66, .invokestatic 196, 3), (69, .i2l, 1), (70, .ladd, 1), (71, .lstore 5, 2), (73, .lload 5, 2), (75, .aload_n 0, 1), (76, .getfield 10, 3), (79, .iload 7, 2), (81, .iconst 1, 1), (82, .iload 8, 2), (84, .invokevirtual 158, 3), (87, .aload_n 0, 1), (88, .getfield 64, 3), (91, .iload_n 1, 1), (92, .iaload, 1), (93, .invokestatic 196, 3), (96, .i2l, 1), (97, .ladd, 1), (98, .lstore 5, 2), (100, .iinc 7 1, 3), (103, .goto (-97), 3), (106, .lload 5, 2), (108, .lreturn, 1)]
def z_m104 : zM := (⟨"DustYards", "worthBy", "(IIII)J"⟩, prog_1_method_30_code, 9, (some .long), 11, z_i104_0)
set_option maxRecDepth 100000 in
theorem z_d104_0 : ∀ q ∈ z_i104_0, decode prog_1_method_30_code q.1 = .ok q.2 := by decide +kernel
set_option maxRecDepth 100000 in
theorem z_ok104 : z_okM z_m104 := ⟨z_in (z_s4 (List.mem_of_getElem? (i := 76) rfl)) rfl, z_d104_0, by decide +kernel, by decide +kernel, z_in (z_s1 (List.mem_of_getElem? (i := 1) (by decide +kernel))) (by decide +kernel), by decide +kernel, plainFor_of_name (by decide +kernel)⟩
def z_i105_0 : List (Nat × Instr × Nat) := [(0, .iload_n 1, 1), (1, .invokestatic 265, 3), (4, .ifCond .eq 21, 3), (7, .iload_n 2, 1), (8, .invokestatic 126, 3), (11, .ifCond .eq 14, 3), (14, .iload_n 3, 1), (15, .iconst 0, 1), (16, .sipush 999, 3), (19, .invokestatic 114, 3), (22, .ifCond .ne 6, 3), (25, .bipush (-2), 2), (27, .ireturn, 1), (28, .aload_n 0, 1), (29, .getfield 70, 3), (32, .iload_n 1, 1), (33, .iload_n 2, 1), (34, .iload_n 3, 1), (35, .invokevirtual 319, 3), (38, .ireturn, 1)]
def z_m105 : zM := (⟨"DustYards", "wins", "(III)I"⟩, prog_1_method_31_code, 4, (some .int), 11, z_i105_0)
set_option maxRecDepth 100000 in
theorem z_d105_0 : ∀ q ∈ z_i105_0, decode prog_1_method_31_code q.1 = .ok q.2 := by decide +kernel
set_option maxRecDepth 100000 in
theorem z_ok105 : z_okM z_m105 := ⟨z_in (z_s4 (List.mem_of_getElem? (i := 80) rfl)) rfl, z_d105_0, by decide +kernel, by decide +kernel, z_in (z_s1 (List.mem_of_getElem? (i := 1) (by decide +kernel))) (by decide +kernel), by decide +kernel, plainFor_of_name (by decide +kernel)⟩
def z_i106_0 : List (Nat × Instr × Nat) := [(0, .iload_n 1, 1), (1, .iconst 0, 1), (2, .sipush 1023, 3), (5, .invokestatic 114, 3), (8, .ifCond .eq 11, 3), (11, .iload_n 1, 1), (12, .invokestatic 322, 3), (15, .iconst 5, 1), (16, .if_icmp .le 6, 3), (19, .bipush (-2), 2), (21, .ireturn, 1), (22, .iload_n 2, 1), (23, .iconst (-1), 1), (24, .iload_n 1, 1), (25, .invokestatic 322, 3), (28, .iconst 1, 1), (29, .isub, 1), (30, .invokestatic 114, 3), (33, .ifCond .ne 5, 3), (36, .iconst (-1), 1), (37, .ireturn, 1), (38, .aload_n 0, 1), (39, .getfield 70, 3), (42, .iload_n 1, 1), (43, .invokevirtual 327, 3), (46, .iload_n 2, 1), (47, .iconst (-1), 1), (48, .if_icmp .ne 13, 3), (51, .aload_n 0, 1), (52, .getfield 70, 3), (55, .getfield 330, 3), (58, .goto 12, 3), (61, .aload_n 0, 1), (62, .getfield 70, 3), (65, .getfield 333, 3), (68, .iload_n 2, 1), (69, .iaload, 1), (70, .ireturn, 1)]
def z_m106 : zM := (⟨"DustYards", "laid", "(II)I"⟩, prog_1_method_32_code, 3, (some .int), 11, z_i106_0)
set_option maxRecDepth 100000 in
theorem z_d106_0 : ∀ q ∈ z_i106_0, decode prog_1_method_32_code q.1 = .ok q.2 := by decide +kernel
set_option maxRecDepth 100000 in
theorem z_ok106 : z_okM z_m106 := ⟨z_in (z_s4 (List.mem_of_getElem? (i := 88) rfl)) rfl, z_d106_0, by decide +kernel, by decide +kernel, z_in (z_s1 (List.mem_of_getElem? (i := 1) (by decide +kernel))) (by decide +kernel), by decide +kernel, plainFor_of_name (by decide +kernel)⟩
def z_i107_0 : List (Nat × Instr × Nat) := [(0, .iload_n 1, 1), (1, .iconst 1, 1), (2, .sipush 9999, 3), (5, .invokestatic 114, 3), (8, .ifCond .eq 14, 3), (11, .iload_n 2, 1), (12, .iconst 0, 1), (13, .sipush 9999, 3), (16, .invokestatic 114, 3), (19, .ifCond .ne 6, 3), (22, .bipush (-2), 2), (24, .ireturn, 1), (25, .aload_n 0, 1), (26, .getfield 77, 3), (29, .getfield 336, 3), (32, .bipush 8, 2), (34, .if_icmp .lt 8, 3), (37, .bipush (-4), 2), (39, .goto 12, 3), (42, .aload_n 0, 1), (43, .getfield 77, 3), (46, .iload_n 1, 1), (47, .iload_n 2, 1), (48, .invokevirtual 337, 3), (51, .ireturn, 1)]
def z_m107 : zM := (⟨"DustYards", "barge", "(II)I"⟩, prog_1_method_33_code, 3, (some .int), 11, z_i107_0)
set_option maxRecDepth 100000 in
theorem z_d107_0 : ∀ q ∈ z_i107_0, decode prog_1_method_33_code q.1 = .ok q.2 := by decide +kernel
set_option maxRecDepth 100000 in
theorem z_ok107 : z_okM z_m107 := ⟨z_in (z_s4 (List.mem_of_getElem? (i := 109) rfl)) rfl, z_d107_0, by decide +kernel, by decide +kernel, z_in (z_s1 (List.mem_of_getElem? (i := 1) (by decide +kernel))) (by decide +kernel), by decide +kernel, plainFor_of_name (by decide +kernel)⟩
def z_i108_0 : List (Nat × Instr × Nat) := [(0, .iload_n 1, 1), (1, .iconst 0, 1), (2, .ldc 175, 2), (4, .invokestatic 114, 3), (7, .ifCond .eq 12, 3), (10, .iload_n 2, 1), (11, .iconst 0, 1), (12, .iconst 1, 1), (13, .invokestatic 114, 3), (16, .ifCond .ne 6, 3), (19, .bipush (-2), 2), (21, .ireturn, 1), (22, .aload_n 0, 1), (23, .getfield 77, 3), (26, .iload_n 1, 1), (27, .invokevirtual 339, 3), (30, .istore_n 3, 1), (31, .iload_n 2, 1), (32, .ifCond .ne 7, 3), (35, .iload_n 3, 1), (36, .goto 18, 3), (39, .aload_n 0, 1), (40, .getfield 77, 3), (43, .aload_n 0, 1), (44, .getfield 77, 3), (47, .getfield 342, 3), (50, .iload_n 3, 1), (51, .invokevirtual 345, 3), (54, .ireturn, 1)]
def z_m108 : zM := (⟨"DustYards", "tide", "(II)I"⟩, prog_1_method_34_code, 4, (some .int), 11, z_i108_0)
set_option maxRecDepth 100000 in
theorem z_d108_0 : ∀ q ∈ z_i108_0, decode prog_1_method_34_code q.1 = .ok q.2 := by decide +kernel
set_option maxRecDepth 100000 in
theorem z_ok108 : z_okM z_m108 := ⟨z_in (z_s4 (List.mem_of_getElem? (i := 117) rfl)) rfl, z_d108_0, by decide +kernel, by decide +kernel, z_in (z_s1 (List.mem_of_getElem? (i := 1) (by decide +kernel))) (by decide +kernel), by decide +kernel, plainFor_of_name (by decide +kernel)⟩
def z_i109_0 : List (Nat × Instr × Nat) := [(0, .iload_n 1, 1), (1, .iconst 0, 1), (2, .sipush 9999, 3), (5, .invokestatic 114, 3), (8, .ifCond .eq 14, 3), (11, .iload_n 2, 1), (12, .iconst 0, 1), (13, .sipush 999, 3), (16, .invokestatic 114, 3), (19, .ifCond .ne 6, 3), (22, .bipush (-2), 2), (24, .ireturn, 1), (25, .aload_n 0, 1), (26, .getfield 84, 3), (29, .getfield 349, 3), (32, .bipush 6, 2), (34, .if_icmp .lt 8, 3), (37, .bipush (-4), 2), (39, .goto 12, 3), (42, .aload_n 0, 1), (43, .getfield 84, 3), (46, .iload_n 1, 1), (47, .iload_n 2, 1), (48, .invokevirtual 350, 3), (51, .ireturn, 1)]
def z_m109 : zM := (⟨"DustYards", "buyer", "(II)I"⟩, prog_1_method_35_code, 3, (some .int), 11, z_i109_0)
set_option maxRecDepth 100000 in
theorem z_d109_0 : ∀ q ∈ z_i109_0, decode prog_1_method_35_code q.1 = .ok q.2 := by decide +kernel
set_option maxRecDepth 100000 in
theorem z_ok109 : z_okM z_m109 := ⟨z_in (z_s4 (List.mem_of_getElem? (i := 130) rfl)) rfl, z_d109_0, by decide +kernel, by decide +kernel, z_in (z_s1 (List.mem_of_getElem? (i := 1) (by decide +kernel))) (by decide +kernel), by decide +kernel, plainFor_of_name (by decide +kernel)⟩
def z_i110_0 : List (Nat × Instr × Nat) := [(0, .iload_n 1, 1), (1, .iconst 0, 1), (2, .aload_n 0, 1), (3, .getfield 84, 3), (6, .getfield 349, 3), (9, .iconst 1, 1), (10, .isub, 1), (11, .invokestatic 114, 3), (14, .ifCond .eq 12, 3), (17, .iload_n 2, 1), (18, .iconst 0, 1), (19, .iconst 1, 1), (20, .invokestatic 114, 3), (23, .ifCond .ne 6, 3), (26, .bipush (-2), 2), (28, .ireturn, 1), (29, .aload_n 0, 1), (30, .getfield 84, 3), (33, .getfield 351, 3), (36, .iload_n 1, 1), (37, .baload, 1), (38, .ifCond .eq 7, 3), (41, .iconst 1, 1), (42, .goto 4, 3), (45, .iconst 0, 1), (46, .istore_n 3, 1), (47, .aload_n 0, 1), (48, .getfield 84, 3), (51, .getfield 351, 3), (54, .iload_n 1, 1), (55, .iload_n 2, 1), (56, .iconst 1, 1), (57, .if_icmp .ne 7, 3), (60, .iconst 1, 1), (61, .goto 4, 3), (64, .iconst 0, 1), (65, .bastore, 1), (66, .iload_n 3, 1), (67, .ireturn, 1)]
def z_m110 : zM := (⟨"DustYards", "stop", "(II)I"⟩, prog_1_method_36_code, 4, (some .int), 11, z_i110_0)
set_option maxRecDepth 100000 in
theorem z_d110_0 : ∀ q ∈ z_i110_0, decode prog_1_method_36_code q.1 = .ok q.2 := by decide +kernel
set_option maxRecDepth 100000 in
theorem z_ok110 : z_okM z_m110 := ⟨z_in (z_s4 (List.mem_of_getElem? (i := 138) rfl)) rfl, z_d110_0, by decide +kernel, by decide +kernel, z_in (z_s1 (List.mem_of_getElem? (i := 1) (by decide +kernel))) (by decide +kernel), by decide +kernel, plainFor_of_name (by decide +kernel)⟩
def z_i111_0 : List (Nat × Instr × Nat) := [(0, .iload_n 1, 1), (1, .iconst (-1), 1), (2, .aload_n 0, 1), (3, .getfield 84, 3), (6, .getfield 349, 3), (9, .iconst 1, 1), (10, .isub, 1), (11, .invokestatic 114, 3), (14, .ifCond .ne 7, 3), (17, .ldc2_w 238, 3), (20, .lreturn, 1), (21, .aload_n 0, 1), (22, .getfield 84, 3), (25, .aload_n 0, 1), (26, .getfield 16, 3), (29, .iconst 0, 1), (30, .iaload, 1), (31, .invokevirtual 354, 3), (34, .iload_n 1, 1), (35, .iconst (-1), 1), (36, .if_icmp .ne 13, 3), (39, .aload_n 0, 1), (40, .getfield 84, 3), (43, .invokevirtual 357, 3), (46, .goto 13, 3), (49, .aload_n 0, 1), (50, .getfield 84, 3), (53, .getfield 361, 3), (56, .iload_n 1, 1), (57, .iaload, 1), (58, .i2l, 1), (59, .lreturn, 1)]
def z_m111 : zM := (⟨"DustYards", "parted", "(I)J"⟩, prog_1_method_37_code, 2, (some .long), 11, z_i111_0)
set_option maxRecDepth 100000 in
theorem z_d111_0 : ∀ q ∈ z_i111_0, decode prog_1_method_37_code q.1 = .ok q.2 := by decide +kernel
set_option maxRecDepth 100000 in
theorem z_ok111 : z_okM z_m111 := ⟨z_in (z_s4 (List.mem_of_getElem? (i := 142) rfl)) rfl, z_d111_0, by decide +kernel, by decide +kernel, z_in (z_s1 (List.mem_of_getElem? (i := 1) (by decide +kernel))) (by decide +kernel), by decide +kernel, plainFor_of_name (by decide +kernel)⟩
def z_i112_0 : List (Nat × Instr × Nat) := [(0, .iload_n 1, 1), (1, .tableswitch 162 0 12 #[67, 72, 80, 88, 96, 104, 112, 120, 128, 136, 141, 149, 157], 67), (68, .aload_n 0, 1), (69, .getfield 118, 3), (72, .ireturn, 1), (73, .aload_n 0, 1), (74, .getfield 10, 3), (77, .getfield 129, 3), (80, .ireturn, 1), (81, .aload_n 0, 1), (82, .getfield 23, 3), (85, .getfield 205, 3), (88, .ireturn, 1), (89, .aload_n 0, 1), (90, .getfield 37, 3), (93, .getfield 212, 3), (96, .ireturn, 1), (97, .aload_n 0, 1), (98, .getfield 30, 3), (101, .getfield 209, 3), (104, .ireturn, 1), (105, .aload_n 0, 1), (106, .getfield 37, 3), (109, .getfield 231, 3), (112, .ireturn, 1), (113, .aload_n 0, 1), (114, .getfield 50, 3), (117, .getfield 268, 3), (120, .ireturn, 1), (121, .aload_n 0, 1), (122, .getfield 57, 3), (125, .getfield 289, 3), (128, .ireturn, 1), (129, .aload_n 0, 1), (130, .getfield 57, 3), (133, .getfield 298, 3), (136, .ireturn, 1), (137, .aload_n 0, 1), (138, .getfield 309, 3), (141, .ireturn, 1), (142, .aload_n 0, 1), (143, .getfield 77, 3), (146, .getfield 336, 3), (149, .ireturn, 1), (150, .aload_n 0, 1), (151, .getfield 84, 3), (154, .getfield 349, 3), (157, .ireturn, 1), (158, .aload_n 0, 1), (159, .getfield 199, 3), (162, .ireturn, 1), (163, .bipush (-2), 2), (165, .ireturn, 1)]
def z_m112 : zM := (⟨"DustYards", "count", "(I)I"⟩, prog_1_method_38_code, 2, (some .int), 11, z_i112_0)
set_option maxRecDepth 100000 in
theorem z_d112_0 : ∀ q ∈ z_i112_0, decode prog_1_method_38_code q.1 = .ok q.2 := by decide +kernel
set_option maxRecDepth 100000 in
theorem z_ok112 : z_okM z_m112 := ⟨z_in (z_s4 (List.mem_of_getElem? (i := 163) rfl)) rfl, z_d112_0, by decide +kernel, by decide +kernel, z_in (z_s1 (List.mem_of_getElem? (i := 1) (by decide +kernel))) (by decide +kernel), by decide +kernel, plainFor_of_name (by decide +kernel)⟩
end
section
def z_i113_0 : List (Nat × Instr × Nat) := [(0, .iload_n 1, 1), (1, .invokestatic 364, 3), (4, .ifCond .eq 12, 3), (7, .iload_n 2, 1), (8, .iconst (-1), 1), (9, .iconst 2, 1), (10, .invokestatic 114, 3), (13, .ifCond .ne 6, 3), (16, .bipush (-2), 2), (18, .ireturn, 1), (19, .iload_n 2, 1), (20, .iconst (-1), 1), (21, .if_icmp .ne 16, 3), (24, .aload_n 0, 1), (25, .getfield 90, 3), (28, .iload_n 1, 1), (29, .aaload, 1), (30, .iconst (-1), 1), (31, .iconst 0, 1), (32, .invokevirtual 367, 3), (35, .iconst 1, 1), (36, .ireturn, 1), (37, .iload_n 3, 1), (38, .bipush 40, 2), (40, .if_icmp .le 6, 3), (43, .bipush (-2), 2), (45, .ireturn, 1), (46, .iload_n 3, 1), (47, .ifCond .ge 6, 3), (50, .bipush (-14), 2), (52, .ireturn, 1), (53, .aload_n 0, 1), (54, .getfield 90, 3), (57, .iload_n 1, 1), (58, .aaload, 1), (59, .iload_n 2, 1), (60, .iload_n 3, 1), (61, .invokevirtual 367, 3), (64, .iconst 1, 1), (65, .ireturn, 1)]
def z_m113 : zM := (⟨"DustYards", "sheet", "(III)I"⟩, prog_1_method_39_code, 4, (some .int), 11, z_i113_0)
set_option maxRecDepth 100000 in
theorem z_d113_0 : ∀ q ∈ z_i113_0, decode prog_1_method_39_code q.1 = .ok q.2 := by decide +kernel
set_option maxRecDepth 100000 in
theorem z_ok113 : z_okM z_m113 := ⟨z_in (z_s4 (List.mem_of_getElem? (i := 167) rfl)) rfl, z_d113_0, by decide +kernel, by decide +kernel, z_in (z_s1 (List.mem_of_getElem? (i := 1) (by decide +kernel))) (by decide +kernel), by decide +kernel, plainFor_of_name (by decide +kernel)⟩
def z_i114_0 : List (Nat × Instr × Nat) := [(0, .iload_n 1, 1), (1, .invokestatic 364, 3), (4, .ifCond .ne 6, 3), (7, .bipush (-2), 2), (9, .ireturn, 1), (10, .aload_n 0, 1), (11, .getfield 90, 3), (14, .iload_n 1, 1), (15, .aaload, 1), (16, .astore 4, 2), (18, .aload 4, 2), (20, .invokevirtual 370, 3), (23, .ifCond .eq 6, 3), (26, .bipush (-11), 2), (28, .ireturn, 1), (29, .iload_n 2, 1), (30, .iconst 0, 1), (31, .aload 4, 2), (33, .getfield 374, 3), (36, .iconst 1, 1), (37, .isub, 1), (38, .invokestatic 114, 3), (41, .ifCond .ne 6, 3), (44, .bipush (-12), 2), (46, .ireturn, 1), (47, .aload 4, 2), (49, .iload_n 2, 1), (50, .iload_n 3, 1), (51, .invokevirtual 375, 3), (54, .iconst 1, 1), (55, .ireturn, 1)]
def z_m114 : zM := (⟨"DustYards", "cell", "(III)I"⟩, prog_1_method_40_code, 5, (some .int), 11, z_i114_0)
set_option maxRecDepth 100000 in
theorem z_d114_0 : ∀ q ∈ z_i114_0, decode prog_1_method_40_code q.1 = .ok q.2 := by decide +kernel
set_option maxRecDepth 100000 in
theorem z_ok114 : z_okM z_m114 := ⟨z_in (z_s4 (List.mem_of_getElem? (i := 179) rfl)) rfl, z_d114_0, by decide +kernel, by decide +kernel, z_in (z_s1 (List.mem_of_getElem? (i := 1) (by decide +kernel))) (by decide +kernel), by decide +kernel, plainFor_of_name (by decide +kernel)⟩
def z_i115_0 : List (Nat × Instr × Nat) := [(0, .iload_n 1, 1), (1, .invokestatic 364, 3), (4, .ifCond .eq 10, 3), (7, .iload_n 3, 1), (8, .invokestatic 364, 3), (11, .ifCond .ne 6, 3), (14, .bipush (-2), 2), (16, .ireturn, 1), (17, .aload_n 0, 1), (18, .getfield 90, 3), (21, .iload_n 1, 1), (22, .aaload, 1), (23, .astore 6, 2), (25, .aload_n 0, 1), (26, .getfield 90, 3), (29, .iload_n 3, 1), (30, .aaload, 1), (31, .astore 7, 2), (33, .aload 6, 2), (35, .invokevirtual 370, 3), (38, .ifCond .ne 11, 3), (41, .aload 7, 2), (43, .invokevirtual 370, 3), (46, .ifCond .eq 6, 3), (49, .bipush (-11), 2), (51, .ireturn, 1), (52, .aload 6, 2), (54, .getfield 378, 3), (57, .aload 7, 2), (59, .getfield 378, 3), (62, .if_icmp .eq 6, 3), (65, .bipush (-13), 2), (67, .ireturn, 1), (68, .aload 6, 2), (70, .iload_n 2, 1), (71, .iload 5, 2), (73, .invokevirtual 381, 3), (76, .ifCond .eq 15, 3), (79, .aload 7, 2), (81, .iload 4, 2), (83, .iload 5, 2), (85, .invokevirtual 381, 3), (88, .ifCond .ne 6, 3), (91, .bipush (-12), 2), (93, .ireturn, 1), (94, .aload 6, 2), (96, .getfield 384, 3), (99, .iload_n 2, 1), (100, .aload 7, 2), (102, .getfield 384, 3), (105, .iload 4, 2), (107, .iload 5, 2), (109, .invokestatic 387, 3), (112, .iload 5, 2), (114, .ireturn, 1)]
def z_m115 : zM := (⟨"DustYards", "copy", "(IIIII)I"⟩, prog_1_method_41_code, 8, (some .int), 11, z_i115_0)
set_option maxRecDepth 100000 in
theorem z_d115_0 : ∀ q ∈ z_i115_0, decode prog_1_method_41_code q.1 = .ok q.2 := by decide +kernel
set_option maxRecDepth 100000 in
theorem z_ok115 : z_okM z_m115 := ⟨z_in (z_s4 (List.mem_of_getElem? (i := 191) rfl)) rfl, z_d115_0, by decide +kernel, by decide +kernel, z_in (z_s1 (List.mem_of_getElem? (i := 1) (by decide +kernel))) (by decide +kernel), by decide +kernel, plainFor_of_name (by decide +kernel)⟩
def z_i116_0 : List (Nat × Instr × Nat) := [(0, .iload_n 1, 1), (1, .invokestatic 190, 3), (4, .ifCond .eq 17, 3), (7, .iload_n 2, 1), (8, .invokestatic 202, 3), (11, .ifCond .eq 10, 3), (14, .iload_n 3, 1), (15, .invokestatic 364, 3), (18, .ifCond .ne 6, 3), (21, .bipush (-2), 2), (23, .ireturn, 1), (24, .iload 4, 2), (26, .iconst 0, 1), (27, .iconst 2, 1), (28, .invokestatic 114, 3), (31, .ifCond .eq 14, 3), (34, .iload 6, 2), (36, .iconst 0, 1), (37, .bipush 40, 2), (39, .invokestatic 114, 3), (42, .ifCond .ne 6, 3), (45, .bipush (-2), 2), (47, .ireturn, 1), (48, .aload_n 0, 1), (49, .getfield 90, 3), (52, .iload_n 3, 1), (53, .aaload, 1), (54, .astore 7, 2), (56, .aload 7, 2), (58, .invokevirtual 370, 3), (61, .ifCond .ne 16, 3), (64, .aload 7, 2), (66, .getfield 378, 3), (69, .iload 4, 2), (71, .if_icmp .eq 6, 3), (74, .bipush (-13), 2), (76, .ireturn, 1), (77, .aload 7, 2), (79, .invokevirtual 370, 3), (82, .ifCond .eq 8, 3), (85, .bipush (-11), 2), (87, .goto 15, 3), (90, .aload_n 0, 1), (91, .iload_n 1, 1), (92, .iload_n 2, 1), (93, .aload 7, 2), (95, .iload 5, 2), (97, .iload 6, 2), (99, .invokevirtual 393, 3), (102, .ireturn, 1)]
def z_m116 : zM := (⟨"DustYards", "prices", "(IIIIII)I"⟩, prog_1_method_42_code, 8, (some .int), 11, z_i116_0)
set_option maxRecDepth 100000 in
theorem z_d116_0 : ∀ q ∈ z_i116_0, decode prog_1_method_42_code q.1 = .ok q.2 := by decide +kernel
set_option maxRecDepth 100000 in
theorem z_ok116 : z_okM z_m116 := ⟨z_in (z_s4 (List.mem_of_getElem? (i := 200) rfl)) rfl, z_d116_0, by decide +kernel, by decide +kernel, z_in (z_s1 (List.mem_of_getElem? (i := 1) (by decide +kernel))) (by decide +kernel), by decide +kernel, plainFor_of_name (by decide +kernel)⟩
def z_i117_0 : List (Nat × Instr × Nat) := [(0, .aload_n 0, 1), (1, .getfield 23, 3), (4, .getfield 205, 3), (7, .istore 6, 2), (9, .iconst 0, 1), (10, .istore 7, 2), (12, .iload 7, 2), (14, .iload 5, 2), (16, .if_icmp .ge 50, 3), (19, .iload 4, 2), (21, .iconst 0, 1), (22, .aload_n 3, 1), (23, .getfield 374, 3), (26, .iconst 1, 1), (27, .isub, 1), (28, .iload 7, 2), (30, .isub, 1), (31, .invokestatic 114, 3), (34, .ifCond .ne 6, 3), (37, .bipush (-12), 2), (39, .ireturn, 1), (40, .aload_n 0, 1), (41, .iload_n 1, 1), (42, .iload_n 2, 1), (43, .iload 7, 2), (45, .iadd, 1), (46, .aload_n 3, 1), (47, .getfield 384, 3), (50, .iload 4, 2), (52, .iload 7, 2), (54, .iadd, 1), (55, .iaload, 1), (56, .invokevirtual 397, 3), (59, .pop, 1), (60, .iinc 7 1, 3), (63, .goto (-51), 3), (66, .aload_n 0, 1), (67, .getfield 23, 3), (70, .getfield 205, 3), (73, .iload 6, 2), (75, .isub, 1), (76, .ireturn, 1)]
def z_m117 : zM := (⟨"DustYards", "takePrices", "(IILDustYards$Sheet;II)I"⟩, prog_1_method_43_code, 8, (some .int), 11, z_i117_0)
set_option maxRecDepth 100000 in
theorem z_d117_0 : ∀ q ∈ z_i117_0, decode prog_1_method_43_code q.1 = .ok q.2 := by decide +kernel
set_option maxRecDepth 100000 in
theorem z_ok117 : z_okM z_m117 := ⟨z_in (z_s4 (List.mem_of_getElem? (i := 204) rfl)) rfl, z_d117_0, by decide +kernel, by decide +kernel, z_in (z_s1 (List.mem_of_getElem? (i := 1) (by decide +kernel))) (by decide +kernel), by decide +kernel, plainFor_of_name (by decide +kernel)⟩
def z_i118_0 : List (Nat × Instr × Nat) := [(0, .iload_n 2, 1), (1, .iconst 0, 1), (2, .iconst 5, 1), (3, .invokestatic 114, 3), (6, .ifCond .ne 6, 3), (9, .bipush (-2), 2), (11, .ireturn, 1), (12, .aload_n 0, 1), (13, .getfield 10, 3), (16, .iload_n 1, 1), (17, .invokevirtual 140, 3), (20, .ifCond .ne 6, 3), (23, .bipush (-11), 2), (25, .ireturn, 1), (26, .aload_n 0, 1), (27, .getfield 10, 3), (30, .iload_n 1, 1), (31, .iload_n 2, 1), (32, .invokevirtual 400, 3), (35, .ifCond .eq 15, 3), (38, .aload_n 0, 1), (39, .getfield 10, 3), (42, .getfield 152, 3), (45, .iload_n 1, 1), (46, .iaload, 1), (47, .goto 5, 3), (50, .bipush (-13), 2), (52, .ireturn, 1)]
def z_m118 : zM := (⟨"DustYards", "taken", "(II)I"⟩, prog_1_method_44_code, 3, (some .int), 11, z_i118_0)
set_option maxRecDepth 100000 in
theorem z_d118_0 : ∀ q ∈ z_i118_0, decode prog_1_method_44_code q.1 = .ok q.2 := by decide +kernel
set_option maxRecDepth 100000 in
theorem z_ok118 : z_okM z_m118 := ⟨z_in (z_s4 (List.mem_of_getElem? (i := 209) rfl)) rfl, z_d118_0, by decide +kernel, by decide +kernel, z_in (z_s1 (List.mem_of_getElem? (i := 1) (by decide +kernel))) (by decide +kernel), by decide +kernel, plainFor_of_name (by decide +kernel)⟩
def z_i119_0 : List (Nat × Instr × Nat) := [(0, .iload_n 0, 1), (1, .iload_n 1, 1), (2, .if_icmp .lt 12, 3), (5, .iload_n 0, 1), (6, .iload_n 2, 1), (7, .if_icmp .gt 7, 3), (10, .iconst 1, 1), (11, .goto 4, 3), (14, .iconst 0, 1), (15, .ireturn, 1)]
def z_m119 : zM := (⟨"DustYards", "within", "(III)Z"⟩, prog_1_method_45_code, 3, (some .boolean), 11, z_i119_0)
set_option maxRecDepth 100000 in
theorem z_d119_0 : ∀ q ∈ z_i119_0, decode prog_1_method_45_code q.1 = .ok q.2 := by decide +kernel
set_option maxRecDepth 100000 in
theorem z_ok119 : z_okM z_m119 := ⟨z_in (z_s3 (List.mem_of_getElem? (i := 70) rfl)) rfl, z_d119_0, by decide +kernel, by decide +kernel, z_in (z_s1 (List.mem_of_getElem? (i := 1) (by decide +kernel))) (by decide +kernel), by decide +kernel, plainFor_of_name (by decide +kernel)⟩
def z_i120_0 : List (Nat × Instr × Nat) := [(0, .iload_n 0, 1), (1, .iconst 0, 1), (2, .iconst 5, 1), (3, .invokestatic 114, 3), (6, .ireturn, 1)]
def z_m120 : zM := (⟨"DustYards", "isParish", "(I)Z"⟩, prog_1_method_46_code, 1, (some .boolean), 11, z_i120_0)
set_option maxRecDepth 100000 in
theorem z_d120_0 : ∀ q ∈ z_i120_0, decode prog_1_method_46_code q.1 = .ok q.2 := by decide +kernel
set_option maxRecDepth 100000 in
theorem z_ok120 : z_okM z_m120 := ⟨z_in (z_s3 (List.mem_of_getElem? (i := 77) rfl)) rfl, z_d120_0, by decide +kernel, by decide +kernel, z_in (z_s1 (List.mem_of_getElem? (i := 1) (by decide +kernel))) (by decide +kernel), by decide +kernel, plainFor_of_name (by decide +kernel)⟩
def z_i121_0 : List (Nat × Instr × Nat) := [(0, .iload_n 0, 1), (1, .iconst 0, 1), (2, .iconst 4, 1), (3, .invokestatic 114, 3), (6, .ireturn, 1)]
def z_m121 : zM := (⟨"DustYards", "isHeap", "(I)Z"⟩, prog_1_method_47_code, 1, (some .boolean), 11, z_i121_0)
set_option maxRecDepth 100000 in
theorem z_d121_0 : ∀ q ∈ z_i121_0, decode prog_1_method_47_code q.1 = .ok q.2 := by decide +kernel
set_option maxRecDepth 100000 in
theorem z_ok121 : z_okM z_m121 := ⟨z_in (z_s3 (List.mem_of_getElem? (i := 80) rfl)) rfl, z_d121_0, by decide +kernel, by decide +kernel, z_in (z_s1 (List.mem_of_getElem? (i := 1) (by decide +kernel))) (by decide +kernel), by decide +kernel, plainFor_of_name (by decide +kernel)⟩
def z_i122_0 : List (Nat × Instr × Nat) := [(0, .iload_n 0, 1), (1, .iconst 0, 1), (2, .iconst 3, 1), (3, .invokestatic 114, 3), (6, .ireturn, 1)]
def z_m122 : zM := (⟨"DustYards", "isSort", "(I)Z"⟩, prog_1_method_48_code, 1, (some .boolean), 11, z_i122_0)
set_option maxRecDepth 100000 in
theorem z_d122_0 : ∀ q ∈ z_i122_0, decode prog_1_method_48_code q.1 = .ok q.2 := by decide +kernel
set_option maxRecDepth 100000 in
theorem z_ok122 : z_okM z_m122 := ⟨z_in (z_s3 (List.mem_of_getElem? (i := 155) rfl)) rfl, z_d122_0, by decide +kernel, by decide +kernel, z_in (z_s1 (List.mem_of_getElem? (i := 1) (by decide +kernel))) (by decide +kernel), by decide +kernel, plainFor_of_name (by decide +kernel)⟩
def z_i123_0 : List (Nat × Instr × Nat) := [(0, .iload_n 0, 1), (1, .iconst 0, 1), (2, .bipush 9, 2), (4, .invokestatic 114, 3), (7, .ireturn, 1)]
def z_m123 : zM := (⟨"DustYards", "isHand", "(I)Z"⟩, prog_1_method_49_code, 1, (some .boolean), 11, z_i123_0)
set_option maxRecDepth 100000 in
theorem z_d123_0 : ∀ q ∈ z_i123_0, decode prog_1_method_49_code q.1 = .ok q.2 := by decide +kernel
set_option maxRecDepth 100000 in
theorem z_ok123 : z_okM z_m123 := ⟨z_in (z_s4 (List.mem_of_getElem? (i := 2) rfl)) rfl, z_d123_0, by decide +kernel, by decide +kernel, z_in (z_s1 (List.mem_of_getElem? (i := 1) (by decide +kernel))) (by decide +kernel), by decide +kernel, plainFor_of_name (by decide +kernel)⟩
def z_i124_0 : List (Nat × Instr × Nat) := [(0, .iload_n 0, 1), (1, .iconst 0, 1), (2, .iconst 3, 1), (3, .invokestatic 114, 3), (6, .ireturn, 1)]
def z_m124 : zM := (⟨"DustYards", "isSheet", "(I)Z"⟩, prog_1_method_50_code, 1, (some .boolean), 11, z_i124_0)
set_option maxRecDepth 100000 in
theorem z_d124_0 : ∀ q ∈ z_i124_0, decode prog_1_method_50_code q.1 = .ok q.2 := by decide +kernel
set_option maxRecDepth 100000 in
theorem z_ok124 : z_okM z_m124 := ⟨z_in (z_s4 (List.mem_of_getElem? (i := 170) rfl)) rfl, z_d124_0, by decide +kernel, by decide +kernel, z_in (z_s1 (List.mem_of_getElem? (i := 1) (by decide +kernel))) (by decide +kernel), by decide +kernel, plainFor_of_name (by decide +kernel)⟩
def z_i125_0 : List (Nat × Instr × Nat) := [(0, .iload_n 0, 1), (1, .iconst 0, 1), (2, .sipush 399, 3), (5, .invokestatic 114, 3), (8, .ireturn, 1)]
def z_m125 : zM := (⟨"DustYards", "isDay", "(I)Z"⟩, prog_1_method_51_code, 1, (some .boolean), 11, z_i125_0)
set_option maxRecDepth 100000 in
theorem z_d125_0 : ∀ q ∈ z_i125_0, decode prog_1_method_51_code q.1 = .ok q.2 := by decide +kernel
set_option maxRecDepth 100000 in
theorem z_ok125 : z_okM z_m125 := ⟨z_in (z_s3 (List.mem_of_getElem? (i := 169) rfl)) rfl, z_d125_0, by decide +kernel, by decide +kernel, z_in (z_s1 (List.mem_of_getElem? (i := 1) (by decide +kernel))) (by decide +kernel), by decide +kernel, plainFor_of_name (by decide +kernel)⟩
def z_i126_0 : List (Nat × Instr × Nat) := [(0, .iload_n 0, 1), (1, .invokestatic 202, 3), (4, .ifCond .eq 19, 3), (7, .iload_n 1, 1), (8, .invokestatic 202, 3), (11, .ifCond .eq 12, 3), (14, .iload_n 0, 1), (15, .iload_n 1, 1), (16, .if_icmp .gt 7, 3), (19, .iconst 1, 1), (20, .goto 4, 3), (23, .iconst 0, 1), (24, .ireturn, 1)]
def z_m126 : zM := (⟨"DustYards", "areDays", "(II)Z"⟩, prog_1_method_52_code, 2, (some .boolean), 11, z_i126_0)
set_option maxRecDepth 100000 in
theorem z_d126_0 : ∀ q ∈ z_i126_0, decode prog_1_method_52_code q.1 = .ok q.2 := by decide +kernel
set_option maxRecDepth 100000 in
theorem z_ok126 : z_okM z_m126 := ⟨z_in (z_s3 (List.mem_of_getElem? (i := 228) rfl)) rfl, z_d126_0, by decide +kernel, by decide +kernel, z_in (z_s1 (List.mem_of_getElem? (i := 1) (by decide +kernel))) (by decide +kernel), by decide +kernel, plainFor_of_name (by decide +kernel)⟩
def z_i127_0 : List (Nat × Instr × Nat) := [(0, .iload_n 0, 1), (1, .iload_n 1, 1), (2, .imul, 1), (3, .bipush 100, 2), (5, .idiv, 1), (6, .ireturn, 1)]
def z_m127 : zM := (⟨"DustYards", "comesTo", "(II)I"⟩, prog_1_method_53_code, 2, (some .int), 11, z_i127_0)
set_option maxRecDepth 100000 in
theorem z_d127_0 : ∀ q ∈ z_i127_0, decode prog_1_method_53_code q.1 = .ok q.2 := by decide +kernel
set_option maxRecDepth 100000 in
theorem z_ok127 : z_okM z_m127 := ⟨z_in (z_s3 (List.mem_of_getElem? (i := 162) rfl)) rfl, z_d127_0, by decide +kernel, by decide +kernel, z_in (z_s1 (List.mem_of_getElem? (i := 1) (by decide +kernel))) (by decide +kernel), by decide +kernel, plainFor_of_name (by decide +kernel)⟩
def z_i128_0 : List (Nat × Instr × Nat) := [(0, .lload_n 0, 1), (1, .lload_n 2, 1), (2, .lcmp, 1), (3, .ifCond .lt 14, 3), (6, .lload_n 0, 1), (7, .lload 4, 2), (9, .lcmp, 1), (10, .ifCond .gt 7, 3), (13, .iconst 1, 1), (14, .goto 4, 3), (17, .iconst 0, 1), (18, .ireturn, 1)]
def z_m128 : zM := (⟨"DustYardsModel", "isIn", "(JJJ)Z"⟩, prog_14_method_1_code, 6, (some .boolean), 12, z_i128_0)
set_option maxRecDepth 100000 in
theorem z_d128_0 : ∀ q ∈ z_i128_0, decode prog_14_method_1_code q.1 = .ok q.2 := by decide +kernel
set_option maxRecDepth 100000 in
theorem z_ok128 : z_okM z_m128 := ⟨z_in (z_s4 (List.mem_of_getElem? (i := 223) rfl)) rfl, z_d128_0, by decide +kernel, by decide +kernel, z_in (z_s1 (List.mem_of_getElem? (i := 17) (by decide +kernel))) (by decide +kernel), by decide +kernel, plainFor_of_name (by decide +kernel)⟩
def z_i129_0 : List (Nat × Instr × Nat) := [(0, .iload_n 1, 1), (1, .i2l, 1), (2, .lconst 1, 1), (3, .ldc2_w 1, 3), (6, .invokestatic 3, 3), (9, .ifCond .ne 6, 3), (12, .bipush (-2), 2), (14, .ireturn, 1), (15, .aload_n 0, 1), (16, .getfield 9, 3), (19, .iload_n 1, 1), (20, .iadd, 1), (21, .sipush 399, 3), (24, .if_icmp .le 6, 3), (27, .bipush (-4), 2), (29, .ireturn, 1), (30, .aload_n 0, 1), (31, .dup, 1), (32, .getfield 9, 3), (35, .iload_n 1, 1), (36, .iadd, 1), (37, .putfield 9, 3), (40, .aload_n 0, 1), (41, .getfield 9, 3), (44, .ireturn, 1)]
def z_m129 : zM := (⟨"DustYardsModel", "pass", "(I)I"⟩, prog_14_method_2_code, 2, (some .int), 12, z_i129_0)
set_option maxRecDepth 100000 in
theorem z_d129_0 : ∀ q ∈ z_i129_0, decode prog_14_method_2_code q.1 = .ok q.2 := by decide +kernel
set_option maxRecDepth 100000 in
theorem z_ok129 : z_okM z_m129 := ⟨z_in (z_s4 (List.mem_of_getElem? (i := 219) rfl)) rfl, z_d129_0, by decide +kernel, by decide +kernel, z_in (z_s1 (List.mem_of_getElem? (i := 17) (by decide +kernel))) (by decide +kernel), by decide +kernel, plainFor_of_name (by decide +kernel)⟩
def z_i130_0 : List (Nat × Instr × Nat) := [(0, .iload_n 0, 1), (1, .i2l, 1), (2, .lconst 0, 1), (3, .ldc2_w 13, 3), (6, .invokestatic 3, 3), (9, .ireturn, 1)]
def z_m130 : zM := (⟨"DustYardsModel", "isDay", "(I)Z"⟩, prog_14_method_3_code, 1, (some .boolean), 12, z_i130_0)
set_option maxRecDepth 100000 in
theorem z_d130_0 : ∀ q ∈ z_i130_0, decode prog_14_method_3_code q.1 = .ok q.2 := by decide +kernel
set_option maxRecDepth 100000 in
theorem z_ok130 : z_okM z_m130 := ⟨z_in (z_s5 (List.mem_of_getElem? (i := 56) rfl)) rfl, z_d130_0, by decide +kernel, by decide +kernel, z_in (z_s1 (List.mem_of_getElem? (i := 17) (by decide +kernel))) (by decide +kernel), by decide +kernel, plainFor_of_name (by decide +kernel)⟩
def z_i131_0 : List (Nat × Instr × Nat) := [(0, .iload_n 0, 1), (1, .i2l, 1), (2, .lconst 0, 1), (3, .ldc2_w 15, 3), (6, .invokestatic 3, 3), (9, .ireturn, 1)]
def z_m131 : zM := (⟨"DustYardsModel", "isParish", "(I)Z"⟩, prog_14_method_4_code, 1, (some .boolean), 12, z_i131_0)
set_option maxRecDepth 100000 in
theorem z_d131_0 : ∀ q ∈ z_i131_0, decode prog_14_method_4_code q.1 = .ok q.2 := by decide +kernel
set_option maxRecDepth 100000 in
theorem z_ok131 : z_okM z_m131 := ⟨z_in (z_s4 (List.mem_of_getElem? (i := 231) rfl)) rfl, z_d131_0, by decide +kernel, by decide +kernel, z_in (z_s1 (List.mem_of_getElem? (i := 17) (by decide +kernel))) (by decide +kernel), by decide +kernel, plainFor_of_name (by decide +kernel)⟩
def z_i132_0 : List (Nat × Instr × Nat) := [(0, .iload_n 0, 1), (1, .i2l, 1), (2, .lconst 0, 1), (3, .ldc2_w 17, 3), (6, .invokestatic 3, 3), (9, .ireturn, 1)]
def z_m132 : zM := (⟨"DustYardsModel", "isHeap", "(I)Z"⟩, prog_14_method_5_code, 1, (some .boolean), 12, z_i132_0)
set_option maxRecDepth 100000 in
theorem z_d132_0 : ∀ q ∈ z_i132_0, decode prog_14_method_5_code q.1 = .ok q.2 := by decide +kernel
set_option maxRecDepth 100000 in
theorem z_ok132 : z_okM z_m132 := ⟨z_in (z_s4 (List.mem_of_getElem? (i := 234) rfl)) rfl, z_d132_0, by decide +kernel, by decide +kernel, z_in (z_s1 (List.mem_of_getElem? (i := 17) (by decide +kernel))) (by decide +kernel), by decide +kernel, plainFor_of_name (by decide +kernel)⟩
def z_i133_0 : List (Nat × Instr × Nat) := [(0, .iload_n 0, 1), (1, .i2l, 1), (2, .lconst 0, 1), (3, .ldc2_w 19, 3), (6, .invokestatic 3, 3), (9, .ireturn, 1)]
def z_m133 : zM := (⟨"DustYardsModel", "isSort", "(I)Z"⟩, prog_14_method_6_code, 1, (some .boolean), 12, z_i133_0)
set_option maxRecDepth 100000 in
theorem z_d133_0 : ∀ q ∈ z_i133_0, decode prog_14_method_6_code q.1 = .ok q.2 := by decide +kernel
set_option maxRecDepth 100000 in
theorem z_ok133 : z_okM z_m133 := ⟨z_in (z_s5 (List.mem_of_getElem? (i := 44) rfl)) rfl, z_d133_0, by decide +kernel, by decide +kernel, z_in (z_s1 (List.mem_of_getElem? (i := 17) (by decide +kernel))) (by decide +kernel), by decide +kernel, plainFor_of_name (by decide +kernel)⟩
def z_i134_0 : List (Nat × Instr × Nat) := [(0, .iload_n 1, 1), (1, .ifCond .lt 15, 3), (4, .iload_n 1, 1), (5, .aload_n 0, 1), (6, .getfield 21, 3), (9, .if_icmp .ge 7, 3), (12, .iconst 1, 1), (13, .goto 4, 3), (16, .iconst 0, 1), (17, .ireturn, 1)]
def z_m134 : zM := (⟨"DustYardsModel", "isCart", "(I)Z"⟩, prog_14_method_7_code, 2, (some .boolean), 12, z_i134_0)
set_option maxRecDepth 100000 in
theorem z_d134_0 : ∀ q ∈ z_i134_0, decode prog_14_method_7_code q.1 = .ok q.2 := by decide +kernel
set_option maxRecDepth 100000 in
theorem z_ok134 : z_okM z_m134 := ⟨z_in (z_s5 (List.mem_of_getElem? (i := 6) rfl)) rfl, z_d134_0, by decide +kernel, by decide +kernel, z_in (z_s1 (List.mem_of_getElem? (i := 17) (by decide +kernel))) (by decide +kernel), by decide +kernel, plainFor_of_name (by decide +kernel)⟩
def z_i135_0 : List (Nat × Instr × Nat) := [(0, .iload_n 1, 1), (1, .i2l, 1), (2, .lconst 0, 1), (3, .ldc2_w 15, 3), (6, .invokestatic 3, 3), (9, .ifCond .eq 56, 3), (12, .iload_n 2, 1), (13, .invokestatic 24, 3), (16, .ifCond .eq 49, 3), (19, .iload_n 3, 1), (20, .invokestatic 28, 3), (23, .ifCond .eq 42, 3), (26, .iload 4, 2), (28, .i2l, 1), (29, .lconst 1, 1), (30, .ldc2_w 31, 3), (33, .invokestatic 3, 3), (36, .ifCond .eq 29, 3), (39, .iload 5, 2), (41, .i2l, 1), (42, .lconst 0, 1), (43, .ldc2_w 33, 3), (46, .invokestatic 3, 3), (49, .ifCond .eq 16, 3), (52, .iload 6, 2), (54, .i2l, 1), (55, .lconst 0, 1), (56, .ldc2_w 31, 3), (59, .invokestatic 3, 3), (62, .ifCond .ne 6, 3), (65, .bipush (-2), 2), (67, .ireturn, 1), (68, .aload_n 0, 1), (69, .getfield 21, 3), (72, .bipush 40, 2), (74, .if_icmp .ne 6, 3), (77, .bipush (-4), 2), (79, .ireturn, 1), (80, .aload_n 0, 1), (81, .getfield 35, 3), (84, .aload_n 0, 1), (85, .getfield 21, 3), (88, .iload_n 1, 1), (89, .iastore, 1), (90, .aload_n 0, 1), (91, .getfield 39, 3), (94, .aload_n 0, 1), (95, .getfield 21, 3), (98, .iload_n 2, 1), (99, .iastore, 1), (100, .aload_n 0, 1), (101, .getfield 42, 3), (104, .aload_n 0, 1), (105, .getfield 21, 3), (108, .iload_n 3, 1), (109, .iastore, 1), (110, .aload_n 0, 1), (111, .getfield 45, 3), (114, .aload_n 0, 1), (115, .getfield 21, 3)]
def z_i135_1 : List (Nat × Instr × Nat) := [(118, .iload 4, 2), (120, .iastore, 1), (121, .aload_n 0, 1), (122, .getfield 48, 3), (125, .aload_n 0, 1), (126, .getfield 21, 3), (129, .iload 5, 2), (131, .iastore, 1), (132, .aload_n 0, 1), (133, .getfield 51, 3), (136, .aload_n 0, 1), (137, .getfield 21, 3), (140, .iload 6, 2), (142, .iastore, 1), (143, .aload_n 0, 1), (144, .getfield 54, 3), (147, .aload_n 0, 1), (148, .getfield 21, 3), (151, .aload_n 0, 1), (152, .getfield 9, 3), (155, .iastore, 1), (156, .aload_n 0, 1), (157, .getfield 57, 3), (160, .aload_n 0, 1), (161, .getfield 21, 3), (164, .iload 4, 2), (166, .iload 4, 2), (168, .iload 5, 2), (170, .imul, 1), (171, .bipush 100, 2), (173, .idiv, 1), (174, .isub, 1), (175, .iastore, 1), (176, .aload_n 0, 1), (177, .getfield 60, 3), (180, .aload_n 0, 1), (181, .getfield 21, 3), (184, .aload_n 0, 1), (185, .getfield 57, 3), (188, .aload_n 0, 1), (189, .getfield 21, 3), (192, .iaload, 1), (193, .iastore, 1), (194, .aload_n 0, 1), (195, .dup, 1), (196, .getfield 21, 3), (199, .iconst 1, 1), (200, .iadd, 1), (201, .putfield 21, 3), (204, .aload_n 0, 1), (205, .getfield 21, 3), (208, .iconst 1, 1), (209, .isub, 1), (210, .ireturn, 1)]
def z_m135 : zM := (⟨"DustYardsModel", "cart", "(IIIIII)I"⟩, prog_14_method_8_code, 7, (some .int), 12, z_i135_0 ++ z_i135_1)
set_option maxRecDepth 100000 in
theorem z_d135_0 : ∀ q ∈ z_i135_0, decode prog_14_method_8_code q.1 = .ok q.2 := by decide +kernel
set_option maxRecDepth 100000 in
theorem z_d135_1 : ∀ q ∈ z_i135_1, decode prog_14_method_8_code q.1 = .ok q.2 := by decide +kernel
set_option maxRecDepth 100000 in
theorem z_ok135 : z_okM z_m135 := ⟨z_in (z_s4 (List.mem_of_getElem? (i := 227) rfl)) rfl, List.forall_mem_append.mpr ⟨z_d135_0, z_d135_1⟩, by decide +kernel, by decide +kernel, z_in (z_s1 (List.mem_of_getElem? (i := 17) (by decide +kernel))) (by decide +kernel), by decide +kernel, plainFor_of_name (by decide +kernel)⟩
def z_i136_0 : List (Nat × Instr × Nat) := [(0, .iload_n 3, 1), (1, .aload_n 0, 1), (2, .getfield 63, 3), (5, .iconst 4, 1), (6, .aload_n 0, 1), (7, .getfield 35, 3), (10, .iload_n 1, 1), (11, .iaload, 1), (12, .imul, 1), (13, .iload_n 2, 1), (14, .iadd, 1), (15, .iaload, 1), (16, .imul, 1), (17, .bipush 100, 2), (19, .idiv, 1), (20, .ireturn, 1)]
def z_m136 : zM := (⟨"DustYardsModel", "has", "(III)I"⟩, prog_14_method_9_code, 4, (some .int), 12, z_i136_0)
set_option maxRecDepth 100000 in
theorem z_d136_0 : ∀ q ∈ z_i136_0, decode prog_14_method_9_code q.1 = .ok q.2 := by decide +kernel
set_option maxRecDepth 100000 in
theorem z_ok136 : z_okM z_m136 := ⟨z_in (z_s5 (List.mem_of_getElem? (i := 15) rfl)) rfl, z_d136_0, by decide +kernel, by decide +kernel, z_in (z_s1 (List.mem_of_getElem? (i := 17) (by decide +kernel))) (by decide +kernel), by decide +kernel, plainFor_of_name (by decide +kernel)⟩
def z_i137_0 : List (Nat × Instr × Nat) := [(0, .aload_n 0, 1), (1, .getfield 57, 3), (4, .iload_n 1, 1), (5, .iaload, 1), (6, .istore_n 2, 1), (7, .iconst 0, 1), (8, .istore_n 3, 1), (9, .iload_n 3, 1), (10, .iconst 4, 1), (11, .if_icmp .ge 24, 3), (14, .iload_n 2, 1), (15, .aload_n 0, 1), (16, .iload_n 1, 1), (17, .iload_n 3, 1), (18, .aload_n 0, 1), (19, .getfield 57, 3), (22, .iload_n 1, 1), (23, .iaload, 1), (24, .invokevirtual 66, 3), (27, .isub, 1), (28, .istore_n 2, 1), (29, .iinc 3 1, 3), (32, .goto (-23), 3), (35, .iload_n 2, 1), (36, .ireturn, 1)]
def z_m137 : zM := (⟨"DustYardsModel", "waste", "(I)I"⟩, prog_14_method_10_code, 4, (some .int), 12, z_i137_0)
set_option maxRecDepth 100000 in
theorem z_d137_0 : ∀ q ∈ z_i137_0, decode prog_14_method_10_code q.1 = .ok q.2 := by decide +kernel
set_option maxRecDepth 100000 in
theorem z_ok137 : z_okM z_m137 := ⟨z_in (z_s5 (List.mem_of_getElem? (i := 11) rfl)) rfl, z_d137_0, by decide +kernel, by decide +kernel, z_in (z_s1 (List.mem_of_getElem? (i := 17) (by decide +kernel))) (by decide +kernel), by decide +kernel, plainFor_of_name (by decide +kernel)⟩
def z_i138_0 : List (Nat × Instr × Nat) := [(0, .aload_n 0, 1), (1, .getfield 51, 3), (4, .iload_n 1, 1), (5, .iaload, 1), (6, .aload_n 0, 1), (7, .getfield 45, 3), (10, .iload_n 1, 1), (11, .iaload, 1), (12, .isub, 1), (13, .istore_n 2, 1), (14, .iload_n 2, 1), (15, .aload_n 0, 1), (16, .getfield 51, 3), (19, .iload_n 1, 1), (20, .iaload, 1), (21, .aload_n 0, 1), (22, .getfield 70, 3), (25, .aload_n 0, 1), (26, .getfield 35, 3), (29, .iload_n 1, 1), (30, .iaload, 1), (31, .iaload, 1), (32, .imul, 1), (33, .bipush 100, 2), (35, .idiv, 1), (36, .if_icmp .le 7, 3), (39, .iload_n 2, 1), (40, .goto 4, 3), (43, .iconst 0, 1), (44, .ireturn, 1)]
def z_m138 : zM := (⟨"DustYardsModel", "shortBy", "(I)I"⟩, prog_14_method_11_code, 3, (some .int), 12, z_i138_0)
set_option maxRecDepth 100000 in
theorem z_d138_0 : ∀ q ∈ z_i138_0, decode prog_14_method_11_code q.1 = .ok q.2 := by decide +kernel
set_option maxRecDepth 100000 in
theorem z_ok138 : z_okM z_m138 := ⟨z_in (z_s5 (List.mem_of_getElem? (i := 19) rfl)) rfl, z_d138_0, by decide +kernel, by decide +kernel, z_in (z_s1 (List.mem_of_getElem? (i := 17) (by decide +kernel))) (by decide +kernel), by decide +kernel, plainFor_of_name (by decide +kernel)⟩
def z_i139_0 : List (Nat × Instr × Nat) := [(0, .aload_n 0, 1), (1, .iload_n 1, 1), (2, .invokevirtual 73, 3), (5, .ifCond .eq 15, 3), (8, .iload_n 2, 1), (9, .i2l, 1), (10, .lconst 0, 1), (11, .ldc2_w 76, 3), (14, .invokestatic 3, 3), (17, .ifCond .ne 6, 3), (20, .bipush (-2), 2), (22, .ireturn, 1), (23, .iload_n 2, 1), (24, .tableswitch 137 0 12 #[68, 75, 82, 89, 96, 137, 137, 137, 137, 103, 109, 115, 122], 68), (92, .aload_n 0, 1), (93, .getfield 35, 3), (96, .iload_n 1, 1), (97, .iaload, 1), (98, .ireturn, 1), (99, .aload_n 0, 1), (100, .getfield 39, 3), (103, .iload_n 1, 1), (104, .iaload, 1), (105, .ireturn, 1), (106, .aload_n 0, 1), (107, .getfield 42, 3), (110, .iload_n 1, 1), (111, .iaload, 1), (112, .ireturn, 1), (113, .aload_n 0, 1), (114, .getfield 45, 3), (117, .iload_n 1, 1), (118, .iaload, 1), (119, .ireturn, 1), (120, .aload_n 0, 1), (121, .getfield 57, 3), (124, .iload_n 1, 1), (125, .iaload, 1), (126, .ireturn, 1), (127, .aload_n 0, 1), (128, .iload_n 1, 1), (129, .invokevirtual 78, 3), (132, .ireturn, 1), (133, .aload_n 0, 1), (134, .iload_n 1, 1), (135, .invokevirtual 82, 3), (138, .ireturn, 1), (139, .aload_n 0, 1), (140, .getfield 54, 3), (143, .iload_n 1, 1), (144, .iaload, 1), (145, .ireturn, 1), (146, .aload_n 0, 1), (147, .getfield 85, 3), (150, .iload_n 1, 1), (151, .baload, 1), (152, .ifCond .eq 7, 3), (155, .iconst 1, 1), (156, .goto 4, 3), (159, .iconst 0, 1)]
def z_i139_1 : List (Nat × Instr × Nat) := [(160, .ireturn, 1), (161, .aload_n 0, 1), (162, .iload_n 1, 1), (163, .iload_n 2, 1), (164, .iconst 5, 1), (165, .isub, 1), (166, .aload_n 0, 1), (167, .getfield 57, 3), (170, .iload_n 1, 1), (171, .iaload, 1), (172, .invokevirtual 66, 3), (175, .ireturn, 1)]
def z_m139 : zM := (⟨"DustYardsModel", "cartTold", "(II)I"⟩, prog_14_method_12_code, 3, (some .int), 12, z_i139_0 ++ z_i139_1)
set_option maxRecDepth 100000 in
theorem z_d139_0 : ∀ q ∈ z_i139_0, decode prog_14_method_12_code q.1 = .ok q.2 := by decide +kernel
set_option maxRecDepth 100000 in
theorem z_d139_1 : ∀ q ∈ z_i139_1, decode prog_14_method_12_code q.1 = .ok q.2 := by decide +kernel
set_option maxRecDepth 100000 in
theorem z_ok139 : z_okM z_m139 := ⟨z_in (z_s5 (List.mem_of_getElem? (i := 1) rfl)) rfl, List.forall_mem_append.mpr ⟨z_d139_0, z_d139_1⟩, by decide +kernel, by decide +kernel, z_in (z_s1 (List.mem_of_getElem? (i := 17) (by decide +kernel))) (by decide +kernel), by decide +kernel, plainFor_of_name (by decide +kernel)⟩
def z_i140_0 : List (Nat × Instr × Nat) := [(0, .iload_n 1, 1), (1, .invokestatic 28, 3), (4, .ifCond .eq 15, 3), (7, .iload_n 2, 1), (8, .i2l, 1), (9, .lconst 0, 1), (10, .ldc2_w 89, 3), (13, .invokestatic 3, 3), (16, .ifCond .ne 6, 3), (19, .bipush (-2), 2), (21, .ireturn, 1), (22, .iload_n 2, 1), (23, .istore_n 3, 1), (24, .iconst 0, 1), (25, .istore 4, 2), (27, .iconst 0, 1), (28, .istore 5, 2), (30, .iload 5, 2), (32, .aload_n 0, 1), (33, .getfield 21, 3), (36, .if_icmp .ge 123, 3), (39, .aload_n 0, 1), (40, .getfield 42, 3), (43, .iload 5, 2), (45, .iaload, 1), (46, .iload_n 1, 1), (47, .if_icmp .ne 106, 3), (50, .aload_n 0, 1), (51, .getfield 85, 3), (54, .iload 5, 2), (56, .baload, 1), (57, .ifCond .eq 6, 3), (60, .goto 93, 3), (63, .aload_n 0, 1), (64, .getfield 57, 3), (67, .iload 5, 2), (69, .iaload, 1), (70, .iload_n 3, 1), (71, .if_icmp .le 6, 3), (74, .iload 4, 2), (76, .ireturn, 1), (77, .iload_n 3, 1), (78, .aload_n 0, 1), (79, .getfield 57, 3), (82, .iload 5, 2), (84, .iaload, 1), (85, .isub, 1), (86, .istore_n 3, 1), (87, .aload_n 0, 1), (88, .getfield 85, 3), (91, .iload 5, 2), (93, .iconst 1, 1), (94, .bastore, 1), (95, .iconst 0, 1), (96, .istore 6, 2), (98, .iload 6, 2), (100, .iconst 4, 1), (101, .if_icmp .ge 34, 3), (104, .aload_n 0, 1), (105, .getfield 91, 3)]
def z_i140_1 : List (Nat × Instr × Nat) := [(108, .iload 6, 2), (110, .dup2, 1), (111, .iaload, 1), (112, .aload_n 0, 1), (113, .iload 5, 2), (115, .iload 6, 2), (117, .aload_n 0, 1), (118, .getfield 57, 3), (121, .iload 5, 2), (123, .iaload, 1), (124, .invokevirtual 66, 3), (127, .iadd, 1), (128, .iastore, 1), (129, .iinc 6 1, 3), (132, .goto (-34), 3), (135, .aload_n 0, 1), (136, .getfield 91, 3), (139, .iconst 4, 1), (140, .dup2, 1), (141, .iaload, 1), (142, .aload_n 0, 1), (143, .iload 5, 2), (145, .invokevirtual 78, 3), (148, .iadd, 1), (149, .iastore, 1), (150, .iinc 4 1, 3), (153, .iinc 5 1, 3), (156, .goto (-126), 3), (159, .iload 4, 2), (161, .ireturn, 1)]
def z_m140 : zM := (⟨"DustYardsModel", "sift", "(II)I"⟩, prog_14_method_13_code, 7, (some .int), 12, z_i140_0 ++ z_i140_1)
set_option maxRecDepth 100000 in
theorem z_d140_0 : ∀ q ∈ z_i140_0, decode prog_14_method_13_code q.1 = .ok q.2 := by decide +kernel
set_option maxRecDepth 100000 in
theorem z_d140_1 : ∀ q ∈ z_i140_1, decode prog_14_method_13_code q.1 = .ok q.2 := by decide +kernel
set_option maxRecDepth 100000 in
theorem z_ok140 : z_okM z_m140 := ⟨z_in (z_s5 (List.mem_of_getElem? (i := 23) rfl)) rfl, List.forall_mem_append.mpr ⟨z_d140_0, z_d140_1⟩, by decide +kernel, by decide +kernel, z_in (z_s1 (List.mem_of_getElem? (i := 17) (by decide +kernel))) (by decide +kernel), by decide +kernel, plainFor_of_name (by decide +kernel)⟩
def z_i141_0 : List (Nat × Instr × Nat) := [(0, .iload_n 1, 1), (1, .invokestatic 28, 3), (4, .ifCond .eq 15, 3), (7, .iload_n 2, 1), (8, .i2l, 1), (9, .lconst 0, 1), (10, .ldc2_w 94, 3), (13, .invokestatic 3, 3), (16, .ifCond .ne 6, 3), (19, .bipush (-2), 2), (21, .ireturn, 1), (22, .iconst 0, 1), (23, .istore_n 3, 1), (24, .iconst 0, 1), (25, .istore 4, 2), (27, .iload 4, 2), (29, .aload_n 0, 1), (30, .getfield 21, 3), (33, .if_icmp .ge 61, 3), (36, .aload_n 0, 1), (37, .getfield 42, 3), (40, .iload 4, 2), (42, .iaload, 1), (43, .iload_n 1, 1), (44, .if_icmp .ne 44, 3), (47, .aload_n 0, 1), (48, .getfield 85, 3), (51, .iload 4, 2), (53, .baload, 1), (54, .ifCond .ne 34, 3), (57, .aload_n 0, 1), (58, .getfield 57, 3), (61, .iload 4, 2), (63, .iaload, 1), (64, .iload_n 2, 1), (65, .imul, 1), (66, .bipush 100, 2), (68, .idiv, 1), (69, .istore 5, 2), (71, .aload_n 0, 1), (72, .getfield 57, 3), (75, .iload 4, 2), (77, .dup2, 1), (78, .iaload, 1), (79, .iload 5, 2), (81, .isub, 1), (82, .iastore, 1), (83, .iload_n 3, 1), (84, .iload 5, 2), (86, .iadd, 1), (87, .istore_n 3, 1), (88, .iinc 4 1, 3), (91, .goto (-64), 3), (94, .aload_n 0, 1), (95, .getfield 91, 3), (98, .iconst 5, 1), (99, .dup2, 1), (100, .iaload, 1), (101, .iload_n 3, 1), (102, .iadd, 1)]
def z_i141_1 : List (Nat × Instr × Nat) := [(103, .iastore, 1), (104, .iload_n 3, 1), (105, .ireturn, 1)]
def z_m141 : zM := (⟨"DustYardsModel", "fire", "(II)I"⟩, prog_14_method_14_code, 6, (some .int), 12, z_i141_0 ++ z_i141_1)
set_option maxRecDepth 100000 in
theorem z_d141_0 : ∀ q ∈ z_i141_0, decode prog_14_method_14_code q.1 = .ok q.2 := by decide +kernel
set_option maxRecDepth 100000 in
theorem z_d141_1 : ∀ q ∈ z_i141_1, decode prog_14_method_14_code q.1 = .ok q.2 := by decide +kernel
set_option maxRecDepth 100000 in
theorem z_ok141 : z_okM z_m141 := ⟨z_in (z_s5 (List.mem_of_getElem? (i := 28) rfl)) rfl, List.forall_mem_append.mpr ⟨z_d141_0, z_d141_1⟩, by decide +kernel, by decide +kernel, z_in (z_s1 (List.mem_of_getElem? (i := 17) (by decide +kernel))) (by decide +kernel), by decide +kernel, plainFor_of_name (by decide +kernel)⟩
def z_i142_0 : List (Nat × Instr × Nat) := [(0, .iload_n 1, 1), (1, .invokestatic 28, 3), (4, .ifCond .ne 6, 3), (7, .bipush (-2), 2), (9, .ireturn, 1), (10, .iconst 0, 1), (11, .istore_n 2, 1), (12, .iconst 0, 1), (13, .istore_n 3, 1), (14, .iload_n 3, 1), (15, .aload_n 0, 1), (16, .getfield 21, 3), (19, .if_icmp .ge 41, 3), (22, .iload_n 2, 1), (23, .aload_n 0, 1), (24, .getfield 42, 3), (27, .iload_n 3, 1), (28, .iaload, 1), (29, .iload_n 1, 1), (30, .if_icmp .ne 21, 3), (33, .aload_n 0, 1), (34, .getfield 85, 3), (37, .iload_n 3, 1), (38, .baload, 1), (39, .ifCond .ne 12, 3), (42, .aload_n 0, 1), (43, .getfield 57, 3), (46, .iload_n 3, 1), (47, .iaload, 1), (48, .goto 4, 3), (51, .iconst 0, 1), (52, .iadd, 1), (53, .istore_n 2, 1), (54, .iinc 3 1, 3), (57, .goto (-43), 3), (60, .iload_n 2, 1), (61, .ireturn, 1)]
def z_m142 : zM := (⟨"DustYardsModel", "lies", "(I)I"⟩, prog_14_method_15_code, 4, (some .int), 12, z_i142_0)
set_option maxRecDepth 100000 in
theorem z_d142_0 : ∀ q ∈ z_i142_0, decode prog_14_method_15_code q.1 = .ok q.2 := by decide +kernel
set_option maxRecDepth 100000 in
theorem z_ok142 : z_okM z_m142 := ⟨z_in (z_s5 (List.mem_of_getElem? (i := 33) rfl)) rfl, z_d142_0, by decide +kernel, by decide +kernel, z_in (z_s1 (List.mem_of_getElem? (i := 17) (by decide +kernel))) (by decide +kernel), by decide +kernel, plainFor_of_name (by decide +kernel)⟩
def z_i143_0 : List (Nat × Instr × Nat) := [(0, .iload_n 1, 1), (1, .i2l, 1), (2, .lconst 0, 1), (3, .ldc2_w 15, 3), (6, .invokestatic 3, 3), (9, .ifCond .eq 12, 3), (12, .aload_n 0, 1), (13, .getfield 91, 3), (16, .iload_n 1, 1), (17, .iaload, 1), (18, .goto 5, 3), (21, .bipush (-2), 2), (23, .ireturn, 1)]
def z_m143 : zM := (⟨"DustYardsModel", "stock", "(I)I"⟩, prog_14_method_16_code, 2, (some .int), 12, z_i143_0)
set_option maxRecDepth 100000 in
theorem z_d143_0 : ∀ q ∈ z_i143_0, decode prog_14_method_16_code q.1 = .ok q.2 := by decide +kernel
set_option maxRecDepth 100000 in
theorem z_ok143 : z_okM z_m143 := ⟨z_in (z_s5 (List.mem_of_getElem? (i := 37) rfl)) rfl, z_d143_0, by decide +kernel, by decide +kernel, z_in (z_s1 (List.mem_of_getElem? (i := 17) (by decide +kernel))) (by decide +kernel), by decide +kernel, plainFor_of_name (by decide +kernel)⟩
def z_i144_0 : List (Nat × Instr × Nat) := [(0, .iload_n 1, 1), (1, .invokestatic 96, 3), (4, .ifCond .eq 15, 3), (7, .iload_n 2, 1), (8, .i2l, 1), (9, .lconst 1, 1), (10, .ldc2_w 89, 3), (13, .invokestatic 3, 3), (16, .ifCond .ne 6, 3), (19, .bipush (-2), 2), (21, .ireturn, 1), (22, .iload_n 2, 1), (23, .aload_n 0, 1), (24, .getfield 91, 3), (27, .iload_n 1, 1), (28, .iaload, 1), (29, .if_icmp .le 6, 3), (32, .bipush (-3), 2), (34, .ireturn, 1), (35, .iload_n 2, 1), (36, .aload_n 0, 1), (37, .iload_n 1, 1), (38, .aload_n 0, 1), (39, .getfield 9, 3), (42, .aload_n 0, 1), (43, .getfield 9, 3), (46, .invokevirtual 99, 3), (49, .imul, 1), (50, .bipush 100, 2), (52, .idiv, 1), (53, .istore_n 3, 1), (54, .aload_n 0, 1), (55, .getfield 91, 3), (58, .iload_n 1, 1), (59, .dup2, 1), (60, .iaload, 1), (61, .iload_n 2, 1), (62, .isub, 1), (63, .iastore, 1), (64, .aload_n 0, 1), (65, .dup, 1), (66, .getfield 102, 3), (69, .iload_n 3, 1), (70, .iadd, 1), (71, .putfield 102, 3), (74, .iload_n 3, 1), (75, .ireturn, 1)]
def z_m144 : zM := (⟨"DustYardsModel", "sell", "(II)I"⟩, prog_14_method_17_code, 4, (some .int), 12, z_i144_0)
set_option maxRecDepth 100000 in
theorem z_d144_0 : ∀ q ∈ z_i144_0, decode prog_14_method_17_code q.1 = .ok q.2 := by decide +kernel
set_option maxRecDepth 100000 in
theorem z_ok144 : z_okM z_m144 := ⟨z_in (z_s5 (List.mem_of_getElem? (i := 41) rfl)) rfl, z_d144_0, by decide +kernel, by decide +kernel, z_in (z_s1 (List.mem_of_getElem? (i := 17) (by decide +kernel))) (by decide +kernel), by decide +kernel, plainFor_of_name (by decide +kernel)⟩
def z_i145_0 : List (Nat × Instr × Nat) := [(0, .iload_n 1, 1), (1, .invokestatic 96, 3), (4, .ifCond .eq 22, 3), (7, .iload_n 2, 1), (8, .invokestatic 105, 3), (11, .ifCond .eq 15, 3), (14, .iload_n 3, 1), (15, .i2l, 1), (16, .lconst 0, 1), (17, .ldc2_w 108, 3), (20, .invokestatic 3, 3), (23, .ifCond .ne 6, 3), (26, .bipush (-2), 2), (28, .ireturn, 1), (29, .aload_n 0, 1), (30, .getfield 110, 3), (33, .bipush 40, 2), (35, .if_icmp .ne 6, 3), (38, .bipush (-4), 2), (40, .ireturn, 1), (41, .aload_n 0, 1), (42, .getfield 113, 3), (45, .aload_n 0, 1), (46, .getfield 110, 3), (49, .iload_n 1, 1), (50, .iastore, 1), (51, .aload_n 0, 1), (52, .getfield 116, 3), (55, .aload_n 0, 1), (56, .getfield 110, 3), (59, .iload_n 2, 1), (60, .iastore, 1), (61, .aload_n 0, 1), (62, .getfield 119, 3), (65, .aload_n 0, 1), (66, .getfield 110, 3), (69, .iload_n 3, 1), (70, .iastore, 1), (71, .aload_n 0, 1), (72, .getfield 122, 3), (75, .aload_n 0, 1), (76, .getfield 110, 3), (79, .aload_n 0, 1), (80, .getfield 9, 3), (83, .iastore, 1), (84, .aload_n 0, 1), (85, .dup, 1), (86, .getfield 110, 3), (89, .iconst 1, 1), (90, .iadd, 1), (91, .putfield 110, 3), (94, .aload_n 0, 1), (95, .getfield 110, 3), (98, .ireturn, 1)]
def z_m145 : zM := (⟨"DustYardsModel", "price", "(III)I"⟩, prog_14_method_18_code, 4, (some .int), 12, z_i145_0)
set_option maxRecDepth 100000 in
theorem z_d145_0 : ∀ q ∈ z_i145_0, decode prog_14_method_18_code q.1 = .ok q.2 := by decide +kernel
set_option maxRecDepth 100000 in
theorem z_ok145 : z_okM z_m145 := ⟨z_in (z_s5 (List.mem_of_getElem? (i := 53) rfl)) rfl, z_d145_0, by decide +kernel, by decide +kernel, z_in (z_s1 (List.mem_of_getElem? (i := 17) (by decide +kernel))) (by decide +kernel), by decide +kernel, plainFor_of_name (by decide +kernel)⟩
def z_i146_0 : List (Nat × Instr × Nat) := [(0, .iconst (-1), 1), (1, .istore 4, 2), (3, .iconst 0, 1), (4, .istore 5, 2), (6, .iconst 0, 1), (7, .istore 6, 2), (9, .iload 6, 2), (11, .aload_n 0, 1), (12, .getfield 110, 3), (15, .if_icmp .ge 84, 3), (18, .aload_n 0, 1), (19, .getfield 113, 3), (22, .iload 6, 2), (24, .iaload, 1), (25, .iload_n 1, 1), (26, .if_icmp .ne 41, 3), (29, .aload_n 0, 1), (30, .getfield 122, 3), (33, .iload 6, 2), (35, .iaload, 1), (36, .iload_n 3, 1), (37, .if_icmp .gt 30, 3), (40, .aload_n 0, 1), (41, .getfield 116, 3), (44, .iload 6, 2), (46, .iaload, 1), (47, .iload_n 2, 1), (48, .if_icmp .gt 19, 3), (51, .aload_n 0, 1), (52, .getfield 116, 3), (55, .iload 6, 2), (57, .iaload, 1), (58, .iload 4, 2), (60, .if_icmp .lt 7, 3), (63, .iconst 1, 1), (64, .goto 4, 3), (67, .iconst 0, 1), (68, .istore 7, 2), (70, .iload 7, 2), (72, .ifCond .eq 21, 3), (75, .aload_n 0, 1), (76, .getfield 116, 3), (79, .iload 6, 2), (81, .iaload, 1), (82, .istore 4, 2), (84, .aload_n 0, 1), (85, .getfield 119, 3), (88, .iload 6, 2), (90, .iaload, 1), (91, .istore 5, 2), (93, .iinc 6 1, 3), (96, .goto (-87), 3), (99, .iload 5, 2), (101, .ireturn, 1)]
def z_m146 : zM := (⟨"DustYardsModel", "priceAsKnown", "(III)I"⟩, prog_14_method_19_code, 8, (some .int), 12, z_i146_0)
set_option maxRecDepth 100000 in
theorem z_d146_0 : ∀ q ∈ z_i146_0, decode prog_14_method_19_code q.1 = .ok q.2 := by decide +kernel
set_option maxRecDepth 100000 in
theorem z_ok146 : z_okM z_m146 := ⟨z_in (z_s5 (List.mem_of_getElem? (i := 49) rfl)) rfl, z_d146_0, by decide +kernel, by decide +kernel, z_in (z_s1 (List.mem_of_getElem? (i := 17) (by decide +kernel))) (by decide +kernel), by decide +kernel, plainFor_of_name (by decide +kernel)⟩
def z_i147_0 : List (Nat × Instr × Nat) := [(0, .iload_n 1, 1), (1, .invokestatic 96, 3), (4, .ifCond .eq 24, 3), (7, .iload_n 2, 1), (8, .invokestatic 105, 3), (11, .ifCond .eq 17, 3), (14, .iload_n 3, 1), (15, .i2l, 1), (16, .lconst 0, 1), (17, .aload_n 0, 1), (18, .getfield 9, 3), (21, .i2l, 1), (22, .invokestatic 3, 3), (25, .ifCond .ne 6, 3), (28, .bipush (-2), 2), (30, .ireturn, 1), (31, .aload_n 0, 1), (32, .iload_n 1, 1), (33, .iload_n 2, 1), (34, .iload_n 3, 1), (35, .invokevirtual 99, 3), (38, .ireturn, 1)]
def z_m147 : zM := (⟨"DustYardsModel", "priceOf", "(III)I"⟩, prog_14_method_20_code, 4, (some .int), 12, z_i147_0)
set_option maxRecDepth 100000 in
theorem z_d147_0 : ∀ q ∈ z_i147_0, decode prog_14_method_20_code q.1 = .ok q.2 := by decide +kernel
set_option maxRecDepth 100000 in
theorem z_ok147 : z_okM z_m147 := ⟨z_in (z_s5 (List.mem_of_getElem? (i := 62) rfl)) rfl, z_d147_0, by decide +kernel, by decide +kernel, z_in (z_s1 (List.mem_of_getElem? (i := 17) (by decide +kernel))) (by decide +kernel), by decide +kernel, plainFor_of_name (by decide +kernel)⟩
def z_i148_0 : List (Nat × Instr × Nat) := [(0, .iload_n 1, 1), (1, .i2l, 1), (2, .lconst 1, 1), (3, .ldc2_w 125, 3), (6, .invokestatic 3, 3), (9, .ifCond .ne 6, 3), (12, .bipush (-2), 2), (14, .ireturn, 1), (15, .aload_n 0, 1), (16, .getfield 127, 3), (19, .iload_n 1, 1), (20, .iadd, 1), (21, .sipush 160, 3), (24, .if_icmp .le 6, 3), (27, .bipush (-4), 2), (29, .ireturn, 1), (30, .iconst 0, 1), (31, .istore 4, 2), (33, .iload 4, 2), (35, .iload_n 1, 1), (36, .if_icmp .ge 37, 3), (39, .aload_n 0, 1), (40, .getfield 130, 3), (43, .aload_n 0, 1), (44, .getfield 127, 3), (47, .lload_n 2, 1), (48, .bipush 8, 2), (50, .iload 4, 2), (52, .imul, 1), (53, .lshr, 1), (54, .l2i, 1), (55, .i2b, 1), (56, .bastore, 1), (57, .aload_n 0, 1), (58, .dup, 1), (59, .getfield 127, 3), (62, .iconst 1, 1), (63, .iadd, 1), (64, .putfield 127, 3), (67, .iinc 4 1, 3), (70, .goto (-37), 3), (73, .aload_n 0, 1), (74, .getfield 127, 3), (77, .ireturn, 1)]
def z_m148 : zM := (⟨"DustYardsModel", "feed", "(IJ)I"⟩, prog_14_method_21_code, 5, (some .int), 12, z_i148_0)
set_option maxRecDepth 100000 in
theorem z_d148_0 : ∀ q ∈ z_i148_0, decode prog_14_method_21_code q.1 = .ok q.2 := by decide +kernel
set_option maxRecDepth 100000 in
theorem z_ok148 : z_okM z_m148 := ⟨z_in (z_s5 (List.mem_of_getElem? (i := 66) rfl)) rfl, z_d148_0, by decide +kernel, by decide +kernel, z_in (z_s1 (List.mem_of_getElem? (i := 17) (by decide +kernel))) (by decide +kernel), by decide +kernel, plainFor_of_name (by decide +kernel)⟩
def z_i149_0 : List (Nat × Instr × Nat) := [(0, .iload_n 1, 1), (1, .aload_n 0, 1), (2, .getfield 127, 3), (5, .if_icmp .ge 29, 3), (8, .aload_n 0, 1), (9, .getfield 130, 3), (12, .iload_n 1, 1), (13, .baload, 1), (14, .bipush 97, 2), (16, .if_icmp .lt 18, 3), (19, .aload_n 0, 1), (20, .getfield 130, 3), (23, .iload_n 1, 1), (24, .baload, 1), (25, .bipush 122, 2), (27, .if_icmp .gt 7, 3), (30, .iconst 1, 1), (31, .goto 4, 3), (34, .iconst 0, 1), (35, .ireturn, 1)]
def z_m149 : zM := (⟨"DustYardsModel", "isLetter", "(I)Z"⟩, prog_14_method_22_code, 2, (some .boolean), 12, z_i149_0)
set_option maxRecDepth 100000 in
theorem z_d149_0 : ∀ q ∈ z_i149_0, decode prog_14_method_22_code q.1 = .ok q.2 := by decide +kernel
set_option maxRecDepth 100000 in
theorem z_ok149 : z_okM z_m149 := ⟨z_in (z_s5 (List.mem_of_getElem? (i := 83) rfl)) rfl, z_d149_0, by decide +kernel, by decide +kernel, z_in (z_s1 (List.mem_of_getElem? (i := 17) (by decide +kernel))) (by decide +kernel), by decide +kernel, plainFor_of_name (by decide +kernel)⟩
def z_i150_0 : List (Nat × Instr × Nat) := [(0, .iload_n 1, 1), (1, .aload_n 0, 1), (2, .getfield 127, 3), (5, .if_icmp .ge 29, 3), (8, .aload_n 0, 1), (9, .getfield 130, 3), (12, .iload_n 1, 1), (13, .baload, 1), (14, .bipush 48, 2), (16, .if_icmp .lt 18, 3), (19, .aload_n 0, 1), (20, .getfield 130, 3), (23, .iload_n 1, 1), (24, .baload, 1), (25, .bipush 57, 2), (27, .if_icmp .gt 7, 3), (30, .iconst 1, 1), (31, .goto 4, 3), (34, .iconst 0, 1), (35, .ireturn, 1)]
def z_m150 : zM := (⟨"DustYardsModel", "isDigit", "(I)Z"⟩, prog_14_method_23_code, 2, (some .boolean), 12, z_i150_0)
set_option maxRecDepth 100000 in
theorem z_d150_0 : ∀ q ∈ z_i150_0, decode prog_14_method_23_code q.1 = .ok q.2 := by decide +kernel
set_option maxRecDepth 100000 in
theorem z_ok150 : z_okM z_m150 := ⟨z_in (z_s5 (List.mem_of_getElem? (i := 91) rfl)) rfl, z_d150_0, by decide +kernel, by decide +kernel, z_in (z_s1 (List.mem_of_getElem? (i := 17) (by decide +kernel))) (by decide +kernel), by decide +kernel, plainFor_of_name (by decide +kernel)⟩
def z_i151_0 : List (Nat × Instr × Nat) := [(0, .aload_n 0, 1), (1, .aload_n 0, 1), (2, .getfield 134, 3), (5, .invokevirtual 137, 3), (8, .ifCond .eq 16, 3), (11, .aload_n 0, 1), (12, .dup, 1), (13, .getfield 134, 3), (16, .iconst 1, 1), (17, .iadd, 1), (18, .putfield 134, 3), (21, .goto (-21), 3), (24, .aload_n 0, 1), (25, .iconst 5, 1), (26, .putfield 140, 3), (29, .iconst 0, 1), (30, .istore_n 1, 1), (31, .iload_n 1, 1), (32, .bipush 12, 2), (34, .if_icmp .ge 135, 3), (37, .aload_n 0, 1), (38, .getfield 143, 3), (41, .iload_n 1, 1), (42, .iconst 1, 1), (43, .iadd, 1), (44, .iaload, 1), (45, .aload_n 0, 1), (46, .getfield 143, 3), (49, .iload_n 1, 1), (50, .iaload, 1), (51, .isub, 1), (52, .istore_n 2, 1), (53, .iload_n 2, 1), (54, .aload_n 0, 1), (55, .getfield 134, 3), (58, .aload_n 0, 1), (59, .getfield 146, 3), (62, .isub, 1), (63, .if_icmp .ne 7, 3), (66, .iconst 1, 1), (67, .goto 4, 3), (70, .iconst 0, 1), (71, .istore_n 3, 1), (72, .iconst 0, 1), (73, .istore 4, 2), (75, .iload 4, 2), (77, .iload_n 2, 1), (78, .if_icmp .ge 48, 3), (81, .iload_n 3, 1), (82, .ifCond .eq 44, 3), (85, .aload_n 0, 1), (86, .getfield 130, 3), (89, .aload_n 0, 1), (90, .getfield 146, 3), (93, .iload 4, 2), (95, .iadd, 1), (96, .baload, 1), (97, .aload_n 0, 1), (98, .getfield 149, 3), (101, .aload_n 0, 1)]
def z_i151_1 : List (Nat × Instr × Nat) := [(102, .getfield 143, 3), (105, .iload_n 1, 1), (106, .iaload, 1), (107, .iload 4, 2), (109, .iadd, 1), (110, .caload, 1), (111, .if_icmp .ne 7, 3), (114, .iconst 1, 1), (115, .goto 4, 3), (118, .iconst 0, 1), (119, .istore_n 3, 1), (120, .iinc 4 1, 3), (123, .goto (-48), 3), (126, .iload_n 3, 1), (127, .ifCond .eq 36, 3), (130, .aload_n 0, 1), (131, .iload_n 1, 1), (132, .bipush 6, 2), (134, .if_icmp .ge 7, 3), (137, .iconst 2, 1), (138, .goto 4, 3), (141, .iconst 4, 1), (142, .putfield 140, 3), (145, .aload_n 0, 1), (146, .iload_n 1, 1), (147, .bipush 6, 2), (149, .if_icmp .ge 7, 3), (152, .iload_n 1, 1), (153, .goto 7, 3), (156, .iload_n 1, 1), (157, .bipush 6, 2), (159, .isub, 1), (160, .putfield 153, 3), (163, .iinc 1 1, 3), (166, .goto (-135), 3), (169, .return_, 1)]
def z_m151 : zM := (⟨"DustYardsModel", "readWord", "()V"⟩, prog_14_method_24_code, 5, none, 12, z_i151_0 ++ z_i151_1)
set_option maxRecDepth 100000 in
theorem z_d151_0 : ∀ q ∈ z_i151_0, decode prog_14_method_24_code q.1 = .ok q.2 := by decide +kernel
set_option maxRecDepth 100000 in
theorem z_d151_1 : ∀ q ∈ z_i151_1, decode prog_14_method_24_code q.1 = .ok q.2 := by decide +kernel
set_option maxRecDepth 100000 in
theorem z_ok151 : z_okM z_m151 := ⟨z_in (z_s5 (List.mem_of_getElem? (i := 87) rfl)) rfl, List.forall_mem_append.mpr ⟨z_d151_0, z_d151_1⟩, by decide +kernel, by decide +kernel, z_in (z_s1 (List.mem_of_getElem? (i := 17) (by decide +kernel))) (by decide +kernel), by decide +kernel, plainFor_of_name (by decide +kernel)⟩
def z_i152_0 : List (Nat × Instr × Nat) := [(0, .aload_n 0, 1), (1, .iconst 0, 1), (2, .putfield 153, 3), (5, .aload_n 0, 1), (6, .aload_n 0, 1), (7, .getfield 134, 3), (10, .invokevirtual 156, 3), (13, .ifCond .eq 60, 3), (16, .aload_n 0, 1), (17, .aload_n 0, 1), (18, .getfield 134, 3), (21, .aload_n 0, 1), (22, .getfield 146, 3), (25, .isub, 1), (26, .iconst 4, 1), (27, .if_icmp .ge 26, 3), (30, .bipush 10, 2), (32, .aload_n 0, 1), (33, .getfield 153, 3), (36, .imul, 1), (37, .aload_n 0, 1), (38, .getfield 130, 3), (41, .aload_n 0, 1), (42, .getfield 134, 3), (45, .baload, 1), (46, .iadd, 1), (47, .bipush 48, 2), (49, .isub, 1), (50, .goto 7, 3), (53, .aload_n 0, 1), (54, .getfield 153, 3), (57, .putfield 153, 3), (60, .aload_n 0, 1), (61, .dup, 1), (62, .getfield 134, 3), (65, .iconst 1, 1), (66, .iadd, 1), (67, .putfield 134, 3), (70, .goto (-65), 3), (73, .aload_n 0, 1), (74, .aload_n 0, 1), (75, .getfield 134, 3), (78, .aload_n 0, 1), (79, .getfield 146, 3), (82, .isub, 1), (83, .iconst 4, 1), (84, .if_icmp .le 7, 3), (87, .iconst 5, 1), (88, .goto 4, 3), (91, .iconst 1, 1), (92, .putfield 140, 3), (95, .return_, 1)]
def z_m152 : zM := (⟨"DustYardsModel", "readNumber", "()V"⟩, prog_14_method_25_code, 1, none, 12, z_i152_0)
set_option maxRecDepth 100000 in
theorem z_d152_0 : ∀ q ∈ z_i152_0, decode prog_14_method_25_code q.1 = .ok q.2 := by decide +kernel
set_option maxRecDepth 100000 in
theorem z_ok152 : z_okM z_m152 := ⟨z_in (z_s5 (List.mem_of_getElem? (i := 95) rfl)) rfl, z_d152_0, by decide +kernel, by decide +kernel, z_in (z_s1 (List.mem_of_getElem? (i := 17) (by decide +kernel))) (by decide +kernel), by decide +kernel, plainFor_of_name (by decide +kernel)⟩
def z_i153_0 : List (Nat × Instr × Nat) := [(0, .aload_n 0, 1), (1, .getfield 134, 3), (4, .aload_n 0, 1), (5, .getfield 127, 3), (8, .if_icmp .ge 44, 3), (11, .aload_n 0, 1), (12, .getfield 130, 3), (15, .aload_n 0, 1), (16, .getfield 134, 3), (19, .baload, 1), (20, .bipush 32, 2), (22, .if_icmp .eq 17, 3), (25, .aload_n 0, 1), (26, .getfield 130, 3), (29, .aload_n 0, 1), (30, .getfield 134, 3), (33, .baload, 1), (34, .bipush 10, 2), (36, .if_icmp .ne 16, 3), (39, .aload_n 0, 1), (40, .dup, 1), (41, .getfield 134, 3), (44, .iconst 1, 1), (45, .iadd, 1), (46, .putfield 134, 3), (49, .goto (-49), 3), (52, .aload_n 0, 1), (53, .aload_n 0, 1), (54, .getfield 134, 3), (57, .putfield 146, 3), (60, .aload_n 0, 1), (61, .getfield 134, 3), (64, .aload_n 0, 1), (65, .getfield 127, 3), (68, .if_icmp .ne 11, 3), (71, .aload_n 0, 1), (72, .iconst 0, 1), (73, .putfield 140, 3), (76, .goto 153, 3), (79, .aload_n 0, 1), (80, .aload_n 0, 1), (81, .getfield 134, 3), (84, .invokevirtual 137, 3), (87, .ifCond .eq 10, 3), (90, .aload_n 0, 1), (91, .invokevirtual 159, 3), (94, .goto 135, 3), (97, .aload_n 0, 1), (98, .aload_n 0, 1), (99, .getfield 134, 3), (102, .invokevirtual 156, 3), (105, .ifCond .eq 10, 3), (108, .aload_n 0, 1), (109, .invokevirtual 163, 3), (112, .goto 117, 3), (115, .aload_n 0, 1), (116, .aload_n 0, 1), (117, .getfield 130, 3), (120, .aload_n 0, 1), (121, .getfield 134, 3)]
def z_i153_1 : List (Nat × Instr × Nat) := [(124, .baload, 1), (125, .putfield 153, 3), (128, .aload_n 0, 1), (129, .getfield 153, 3), (132, .bipush 40, 2), (134, .if_icmp .eq 66, 3), (137, .aload_n 0, 1), (138, .getfield 153, 3), (141, .bipush 41, 2), (143, .if_icmp .eq 57, 3), (146, .aload_n 0, 1), (147, .getfield 153, 3), (150, .bipush 59, 2), (152, .if_icmp .eq 48, 3), (155, .aload_n 0, 1), (156, .getfield 153, 3), (159, .bipush 43, 2), (161, .if_icmp .eq 39, 3), (164, .aload_n 0, 1), (165, .getfield 153, 3), (168, .bipush 45, 2), (170, .if_icmp .eq 30, 3), (173, .aload_n 0, 1), (174, .getfield 153, 3), (177, .bipush 42, 2), (179, .if_icmp .eq 21, 3), (182, .aload_n 0, 1), (183, .getfield 153, 3), (186, .bipush 60, 2), (188, .if_icmp .eq 12, 3), (191, .aload_n 0, 1), (192, .getfield 153, 3), (195, .bipush 61, 2), (197, .if_icmp .ne 7, 3), (200, .iconst 1, 1), (201, .goto 4, 3), (204, .iconst 0, 1), (205, .istore_n 1, 1), (206, .aload_n 0, 1), (207, .iload_n 1, 1), (208, .ifCond .eq 7, 3), (211, .iconst 3, 1), (212, .goto 4, 3), (215, .iconst 5, 1), (216, .putfield 140, 3), (219, .aload_n 0, 1), (220, .dup, 1), (221, .getfield 134, 3), (224, .iconst 1, 1), (225, .iadd, 1), (226, .putfield 134, 3), (229, .return_, 1)]
def z_m153 : zM := (⟨"DustYardsModel", "next", "()V"⟩, prog_14_method_26_code, 2, none, 12, z_i153_0 ++ z_i153_1)
set_option maxRecDepth 100000 in
theorem z_d153_0 : ∀ q ∈ z_i153_0, decode prog_14_method_26_code q.1 = .ok q.2 := by decide +kernel
set_option maxRecDepth 100000 in
theorem z_d153_1 : ∀ q ∈ z_i153_1, decode prog_14_method_26_code q.1 = .ok q.2 := by decide +kernel
set_option maxRecDepth 100000 in
theorem z_ok153 : z_okM z_m153 := ⟨z_in (z_s5 (List.mem_of_getElem? (i := 79) rfl)) rfl, List.forall_mem_append.mpr ⟨z_d153_0, z_d153_1⟩, by decide +kernel, by decide +kernel, z_in (z_s1 (List.mem_of_getElem? (i := 17) (by decide +kernel))) (by decide +kernel), by decide +kernel, plainFor_of_name (by decide +kernel)⟩
def z_i154_0 : List (Nat × Instr × Nat) := [(0, .aload_n 0, 1), (1, .getfield 140, 3), (4, .iconst 3, 1), (5, .if_icmp .ne 15, 3), (8, .aload_n 0, 1), (9, .getfield 153, 3), (12, .iload_n 1, 1), (13, .if_icmp .ne 7, 3), (16, .iconst 1, 1), (17, .goto 4, 3), (20, .iconst 0, 1), (21, .ireturn, 1)]
def z_m154 : zM := (⟨"DustYardsModel", "isSign", "(I)Z"⟩, prog_14_method_27_code, 2, (some .boolean), 12, z_i154_0)
set_option maxRecDepth 100000 in
theorem z_d154_0 : ∀ q ∈ z_i154_0, decode prog_14_method_27_code q.1 = .ok q.2 := by decide +kernel
set_option maxRecDepth 100000 in
theorem z_ok154 : z_okM z_m154 := ⟨z_in (z_s5 (List.mem_of_getElem? (i := 118) rfl)) rfl, z_d154_0, by decide +kernel, by decide +kernel, z_in (z_s1 (List.mem_of_getElem? (i := 17) (by decide +kernel))) (by decide +kernel), by decide +kernel, plainFor_of_name (by decide +kernel)⟩
def z_i155_0 : List (Nat × Instr × Nat) := [(0, .aload_n 0, 1), (1, .getfield 140, 3), (4, .iconst 4, 1), (5, .if_icmp .ne 15, 3), (8, .aload_n 0, 1), (9, .getfield 153, 3), (12, .iload_n 1, 1), (13, .if_icmp .ne 7, 3), (16, .iconst 1, 1), (17, .goto 4, 3), (20, .iconst 0, 1), (21, .ireturn, 1)]
def z_m155 : zM := (⟨"DustYardsModel", "isKey", "(I)Z"⟩, prog_14_method_28_code, 2, (some .boolean), 12, z_i155_0)
set_option maxRecDepth 100000 in
theorem z_d155_0 : ∀ q ∈ z_i155_0, decode prog_14_method_28_code q.1 = .ok q.2 := by decide +kernel
set_option maxRecDepth 100000 in
theorem z_ok155 : z_okM z_m155 := ⟨z_in (z_s5 (List.mem_of_getElem? (i := 99) rfl)) rfl, z_d155_0, by decide +kernel, by decide +kernel, z_in (z_s1 (List.mem_of_getElem? (i := 17) (by decide +kernel))) (by decide +kernel), by decide +kernel, plainFor_of_name (by decide +kernel)⟩
def z_i156_0 : List (Nat × Instr × Nat) := [(0, .aload_n 0, 1), (1, .getfield 166, 3), (4, .aload_n 0, 1), (5, .getfield 169, 3), (8, .aload_n 0, 1), (9, .getfield 172, 3), (12, .iadd, 1), (13, .iload_n 1, 1), (14, .iastore, 1), (15, .aload_n 0, 1), (16, .dup, 1), (17, .getfield 172, 3), (20, .iconst 1, 1), (21, .iadd, 1), (22, .putfield 172, 3), (25, .return_, 1)]
def z_m156 : zM := (⟨"DustYardsModel", "emit", "(I)V"⟩, prog_14_method_29_code, 2, none, 12, z_i156_0)
set_option maxRecDepth 100000 in
theorem z_d156_0 : ∀ q ∈ z_i156_0, decode prog_14_method_29_code q.1 = .ok q.2 := by decide +kernel
set_option maxRecDepth 100000 in
theorem z_ok156 : z_okM z_m156 := ⟨z_in (z_s5 (List.mem_of_getElem? (i := 107) rfl)) rfl, z_d156_0, by decide +kernel, by decide +kernel, z_in (z_s1 (List.mem_of_getElem? (i := 17) (by decide +kernel))) (by decide +kernel), by decide +kernel, plainFor_of_name (by decide +kernel)⟩
def z_i157_0 : List (Nat × Instr × Nat) := [(0, .iload_n 0, 1), (1, .bipush 12, 2), (3, .if_icmp .ne 7, 3), (6, .iconst 1, 1), (7, .goto 78, 3), (10, .iload_n 0, 1), (11, .bipush 11, 2), (13, .if_icmp .ne 7, 3), (16, .iconst 2, 1), (17, .goto 68, 3), (20, .iload_n 0, 1), (21, .bipush 13, 2), (23, .if_icmp .ne 7, 3), (26, .iconst 3, 1), (27, .goto 58, 3), (30, .iload_n 0, 1), (31, .bipush 9, 2), (33, .if_icmp .eq 9, 3), (36, .iload_n 0, 1), (37, .bipush 10, 2), (39, .if_icmp .ne 7, 3), (42, .iconst 4, 1), (43, .goto 42, 3), (46, .iload_n 0, 1), (47, .bipush 6, 2), (49, .if_icmp .eq 9, 3), (52, .iload_n 0, 1), (53, .bipush 7, 2), (55, .if_icmp .ne 7, 3), (58, .iconst 5, 1), (59, .goto 26, 3), (62, .iload_n 0, 1), (63, .bipush 8, 2), (65, .if_icmp .ne 8, 3), (68, .bipush 6, 2), (70, .goto 15, 3), (73, .iload_n 0, 1), (74, .bipush 14, 2), (76, .if_icmp .ne 8, 3), (79, .bipush 7, 2), (81, .goto 4, 3), (84, .iconst 0, 1), (85, .ireturn, 1)]
def z_m157 : zM := (⟨"DustYardsModel", "rank", "(I)I"⟩, prog_14_method_30_code, 1, (some .int), 12, z_i157_0)
set_option maxRecDepth 100000 in
theorem z_d157_0 : ∀ q ∈ z_i157_0, decode prog_14_method_30_code q.1 = .ok q.2 := by decide +kernel
set_option maxRecDepth 100000 in
theorem z_ok157 : z_okM z_m157 := ⟨z_in (z_s5 (List.mem_of_getElem? (i := 114) rfl)) rfl, z_d157_0, by decide +kernel, by decide +kernel, z_in (z_s1 (List.mem_of_getElem? (i := 17) (by decide +kernel))) (by decide +kernel), by decide +kernel, plainFor_of_name (by decide +kernel)⟩
def z_i158_0 : List (Nat × Instr × Nat) := [(0, .aload_n 0, 1), (1, .getfield 175, 3), (4, .ifCond .le 105, 3), (7, .aload_n 0, 1), (8, .getfield 178, 3), (11, .aload_n 0, 1), (12, .getfield 175, 3), (15, .iconst 1, 1), (16, .isub, 1), (17, .iaload, 1), (18, .bipush 15, 2), (20, .if_icmp .eq 89, 3), (23, .aload_n 0, 1), (24, .getfield 178, 3), (27, .aload_n 0, 1), (28, .getfield 175, 3), (31, .iconst 1, 1), (32, .isub, 1), (33, .iaload, 1), (34, .invokestatic 181, 3), (37, .iload_n 1, 1), (38, .if_icmp .lt 71, 3), (41, .aload_n 0, 1), (42, .dup, 1), (43, .getfield 175, 3), (46, .iconst 1, 1), (47, .isub, 1), (48, .putfield 175, 3), (51, .aload_n 0, 1), (52, .dup, 1), (53, .getfield 184, 3), (56, .aload_n 0, 1), (57, .getfield 178, 3), (60, .aload_n 0, 1), (61, .getfield 175, 3), (64, .iaload, 1), (65, .bipush 13, 2), (67, .if_icmp .eq 17, 3), (70, .aload_n 0, 1), (71, .getfield 178, 3), (74, .aload_n 0, 1), (75, .getfield 175, 3), (78, .iaload, 1), (79, .bipush 14, 2), (81, .if_icmp .ne 7, 3), (84, .iconst 1, 1), (85, .goto 4, 3), (88, .iconst 0, 1), (89, .isub, 1), (90, .putfield 184, 3), (93, .aload_n 0, 1), (94, .aload_n 0, 1), (95, .getfield 178, 3), (98, .aload_n 0, 1), (99, .getfield 175, 3), (102, .iaload, 1), (103, .invokevirtual 187, 3), (106, .goto (-106), 3), (109, .return_, 1)]
def z_m158 : zM := (⟨"DustYardsModel", "doAll", "(I)V"⟩, prog_14_method_31_code, 2, none, 12, z_i158_0)
set_option maxRecDepth 100000 in
theorem z_d158_0 : ∀ q ∈ z_i158_0, decode prog_14_method_31_code q.1 = .ok q.2 := by decide +kernel
set_option maxRecDepth 100000 in
theorem z_ok158 : z_okM z_m158 := ⟨z_in (z_s5 (List.mem_of_getElem? (i := 111) rfl)) rfl, z_d158_0, by decide +kernel, by decide +kernel, z_in (z_s1 (List.mem_of_getElem? (i := 17) (by decide +kernel))) (by decide +kernel), by decide +kernel, plainFor_of_name (by decide +kernel)⟩
def z_i159_0 : List (Nat × Instr × Nat) := [(0, .aload_n 0, 1), (1, .getfield 178, 3), (4, .aload_n 0, 1), (5, .getfield 175, 3), (8, .iload_n 1, 1), (9, .iastore, 1), (10, .aload_n 0, 1), (11, .dup, 1), (12, .getfield 175, 3), (15, .iconst 1, 1), (16, .iadd, 1), (17, .putfield 175, 3), (20, .return_, 1)]
def z_m159 : zM := (⟨"DustYardsModel", "await", "(I)V"⟩, prog_14_method_32_code, 2, none, 12, z_i159_0)
set_option maxRecDepth 100000 in
theorem z_d159_0 : ∀ q ∈ z_i159_0, decode prog_14_method_32_code q.1 = .ok q.2 := by decide +kernel
set_option maxRecDepth 100000 in
theorem z_ok159 : z_okM z_m159 := ⟨z_in (z_s5 (List.mem_of_getElem? (i := 126) rfl)) rfl, z_d159_0, by decide +kernel, by decide +kernel, z_in (z_s1 (List.mem_of_getElem? (i := 17) (by decide +kernel))) (by decide +kernel), by decide +kernel, plainFor_of_name (by decide +kernel)⟩
def z_i160_0 : List (Nat × Instr × Nat) := [(0, .aload_n 0, 1), (1, .bipush 43, 2), (3, .invokevirtual 191, 3), (6, .ifCond .eq 8, 3), (9, .bipush 6, 2), (11, .goto 86, 3), (14, .aload_n 0, 1), (15, .bipush 45, 2), (17, .invokevirtual 191, 3), (20, .ifCond .eq 8, 3), (23, .bipush 7, 2), (25, .goto 72, 3), (28, .aload_n 0, 1), (29, .bipush 42, 2), (31, .invokevirtual 191, 3), (34, .ifCond .eq 8, 3), (37, .bipush 8, 2), (39, .goto 58, 3), (42, .aload_n 0, 1), (43, .bipush 60, 2), (45, .invokevirtual 191, 3), (48, .ifCond .eq 8, 3), (51, .bipush 9, 2), (53, .goto 44, 3), (56, .aload_n 0, 1), (57, .bipush 61, 2), (59, .invokevirtual 191, 3), (62, .ifCond .eq 8, 3), (65, .bipush 10, 2), (67, .goto 30, 3), (70, .aload_n 0, 1), (71, .iconst 4, 1), (72, .invokevirtual 194, 3), (75, .ifCond .eq 8, 3), (78, .bipush 11, 2), (80, .goto 17, 3), (83, .aload_n 0, 1), (84, .iconst 3, 1), (85, .invokevirtual 194, 3), (88, .ifCond .eq 8, 3), (91, .bipush 12, 2), (93, .goto 4, 3), (96, .iconst (-1), 1), (97, .istore_n 1, 1), (98, .iload_n 1, 1), (99, .iconst (-1), 1), (100, .if_icmp .eq 23, 3), (103, .iload_n 1, 1), (104, .invokestatic 181, 3), (107, .iconst 4, 1), (108, .if_icmp .ne 17, 3), (111, .aload_n 0, 1), (112, .getfield 197, 3), (115, .aload_n 0, 1), (116, .getfield 200, 3), (119, .baload, 1), (120, .ifCond .eq 5, 3), (123, .iconst 0, 1), (124, .ireturn, 1), (125, .aload_n 0, 1)]
def z_i160_1 : List (Nat × Instr × Nat) := [(126, .iload_n 1, 1), (127, .invokestatic 181, 3), (130, .invokevirtual 203, 3), (133, .aload_n 0, 1), (134, .iload_n 1, 1), (135, .invokevirtual 206, 3), (138, .aload_n 0, 1), (139, .getfield 197, 3), (142, .aload_n 0, 1), (143, .getfield 200, 3), (146, .iload_n 1, 1), (147, .invokestatic 181, 3), (150, .iconst 4, 1), (151, .if_icmp .eq 23, 3), (154, .iload_n 1, 1), (155, .invokestatic 181, 3), (158, .iconst 4, 1), (159, .if_icmp .le 19, 3), (162, .aload_n 0, 1), (163, .getfield 197, 3), (166, .aload_n 0, 1), (167, .getfield 200, 3), (170, .baload, 1), (171, .ifCond .eq 7, 3), (174, .iconst 1, 1), (175, .goto 4, 3), (178, .iconst 0, 1), (179, .bastore, 1), (180, .iconst 1, 1), (181, .ireturn, 1)]
def z_m160 : zM := (⟨"DustYardsModel", "between", "()Z"⟩, prog_14_method_33_code, 2, (some .boolean), 12, z_i160_0 ++ z_i160_1)
set_option maxRecDepth 100000 in
theorem z_d160_0 : ∀ q ∈ z_i160_0, decode prog_14_method_33_code q.1 = .ok q.2 := by decide +kernel
set_option maxRecDepth 100000 in
theorem z_d160_1 : ∀ q ∈ z_i160_1, decode prog_14_method_33_code q.1 = .ok q.2 := by decide +kernel
set_option maxRecDepth 100000 in
theorem z_ok160 : z_okM z_m160 := ⟨z_in (z_s5 (List.mem_of_getElem? (i := 130) rfl)) rfl, List.forall_mem_append.mpr ⟨z_d160_0, z_d160_1⟩, by decide +kernel, by decide +kernel, z_in (z_s1 (List.mem_of_getElem? (i := 17) (by decide +kernel))) (by decide +kernel), by decide +kernel, plainFor_of_name (by decide +kernel)⟩
def z_i161_0 : List (Nat × Instr × Nat) := [(0, .aload_n 0, 1), (1, .bipush 41, 2), (3, .invokevirtual 191, 3), (6, .ifCond .eq 10, 3), (9, .aload_n 0, 1), (10, .getfield 200, 3), (13, .ifCond .ne 5, 3), (16, .iconst 0, 1), (17, .ireturn, 1), (18, .aload_n 0, 1), (19, .iconst 1, 1), (20, .invokevirtual 203, 3), (23, .aload_n 0, 1), (24, .dup, 1), (25, .getfield 175, 3), (28, .iconst 1, 1), (29, .isub, 1), (30, .putfield 175, 3), (33, .aload_n 0, 1), (34, .dup, 1), (35, .getfield 200, 3), (38, .iconst 1, 1), (39, .isub, 1), (40, .putfield 200, 3), (43, .aload_n 0, 1), (44, .dup, 1), (45, .getfield 184, 3), (48, .iconst 1, 1), (49, .isub, 1), (50, .putfield 184, 3), (53, .aload_n 0, 1), (54, .bipush 7, 2), (56, .invokevirtual 203, 3), (59, .iconst 1, 1), (60, .ireturn, 1)]
def z_m161 : zM := (⟨"DustYardsModel", "closes", "()Z"⟩, prog_14_method_34_code, 1, (some .boolean), 12, z_i161_0)
set_option maxRecDepth 100000 in
theorem z_d161_0 : ∀ q ∈ z_i161_0, decode prog_14_method_34_code q.1 = .ok q.2 := by decide +kernel
set_option maxRecDepth 100000 in
theorem z_ok161 : z_okM z_m161 := ⟨z_in (z_s5 (List.mem_of_getElem? (i := 134) rfl)) rfl, z_d161_0, by decide +kernel, by decide +kernel, z_in (z_s1 (List.mem_of_getElem? (i := 17) (by decide +kernel))) (by decide +kernel), by decide +kernel, plainFor_of_name (by decide +kernel)⟩
def z_i162_0 : List (Nat × Instr × Nat) := [(0, .aload_n 0, 1), (1, .bipush 40, 2), (3, .invokevirtual 191, 3), (6, .ifCond .ne 24, 3), (9, .aload_n 0, 1), (10, .bipush 45, 2), (12, .invokevirtual 191, 3), (15, .ifCond .ne 15, 3), (18, .iload_n 1, 1), (19, .ifCond .eq 15, 3), (22, .aload_n 0, 1), (23, .iconst 5, 1), (24, .invokevirtual 194, 3), (27, .ifCond .eq 7, 3), (30, .iconst 1, 1), (31, .goto 4, 3), (34, .iconst 0, 1), (35, .istore_n 2, 1), (36, .iload_n 2, 1), (37, .ifCond .eq 11, 3), (40, .aload_n 0, 1), (41, .getfield 184, 3), (44, .iconst 5, 1), (45, .if_icmp .ne 5, 3), (48, .iconst 0, 1), (49, .ireturn, 1), (50, .aload_n 0, 1), (51, .dup, 1), (52, .getfield 184, 3), (55, .iconst 1, 1), (56, .iadd, 1), (57, .putfield 184, 3), (60, .aload_n 0, 1), (61, .bipush 40, 2), (63, .invokevirtual 191, 3), (66, .ifCond .eq 32, 3), (69, .aload_n 0, 1), (70, .bipush 15, 2), (72, .invokevirtual 206, 3), (75, .aload_n 0, 1), (76, .dup, 1), (77, .getfield 200, 3), (80, .iconst 1, 1), (81, .iadd, 1), (82, .putfield 200, 3), (85, .aload_n 0, 1), (86, .getfield 197, 3), (89, .aload_n 0, 1), (90, .getfield 200, 3), (93, .iconst 0, 1), (94, .bastore, 1), (95, .goto 22, 3), (98, .aload_n 0, 1), (99, .aload_n 0, 1), (100, .getfield 140, 3), (103, .iconst 4, 1), (104, .if_icmp .ne 8, 3), (107, .bipush 13, 2), (109, .goto 5, 3), (112, .bipush 14, 2)]
def z_i162_1 : List (Nat × Instr × Nat) := [(114, .invokevirtual 206, 3), (117, .iconst 1, 1), (118, .ireturn, 1)]
def z_m162 : zM := (⟨"DustYardsModel", "ahead", "(Z)Z"⟩, prog_14_method_35_code, 3, (some .boolean), 12, z_i162_0 ++ z_i162_1)
set_option maxRecDepth 100000 in
theorem z_d162_0 : ∀ q ∈ z_i162_0, decode prog_14_method_35_code q.1 = .ok q.2 := by decide +kernel
set_option maxRecDepth 100000 in
theorem z_d162_1 : ∀ q ∈ z_i162_1, decode prog_14_method_35_code q.1 = .ok q.2 := by decide +kernel
set_option maxRecDepth 100000 in
theorem z_ok162 : z_okM z_m162 := ⟨z_in (z_s5 (List.mem_of_getElem? (i := 122) rfl)) rfl, List.forall_mem_append.mpr ⟨z_d162_0, z_d162_1⟩, by decide +kernel, by decide +kernel, z_in (z_s1 (List.mem_of_getElem? (i := 17) (by decide +kernel))) (by decide +kernel), by decide +kernel, plainFor_of_name (by decide +kernel)⟩
def z_i163_0 : List (Nat × Instr × Nat) := [(0, .aload_n 0, 1), (1, .sipush 160, 3), (4, .iload_n 1, 1), (5, .imul, 1), (6, .putfield 169, 3), (9, .aload_n 0, 1), (10, .iconst 0, 1), (11, .putfield 172, 3), (14, .aload_n 0, 1), (15, .iconst 0, 1), (16, .putfield 175, 3), (19, .aload_n 0, 1), (20, .iconst 0, 1), (21, .putfield 184, 3), (24, .aload_n 0, 1), (25, .iconst 0, 1), (26, .putfield 200, 3), (29, .aload_n 0, 1), (30, .getfield 197, 3), (33, .iconst 0, 1), (34, .iconst 0, 1), (35, .bastore, 1), (36, .iconst 1, 1), (37, .istore_n 2, 1), (38, .iconst 1, 1), (39, .istore_n 3, 1), (40, .iload_n 2, 1), (41, .ifCond .eq 55, 3), (44, .aload_n 0, 1), (45, .getfield 140, 3), (48, .iconst 1, 1), (49, .if_icmp .eq 11, 3), (52, .aload_n 0, 1), (53, .getfield 140, 3), (56, .iconst 2, 1), (57, .if_icmp .ne 39, 3), (60, .aload_n 0, 1), (61, .aload_n 0, 1), (62, .getfield 140, 3), (65, .iconst 1, 1), (66, .if_icmp .ne 12, 3), (69, .iconst (-1), 1), (70, .aload_n 0, 1), (71, .getfield 153, 3), (74, .isub, 1), (75, .goto 7, 3), (78, .aload_n 0, 1), (79, .getfield 153, 3), (82, .invokevirtual 187, 3), (85, .aload_n 0, 1), (86, .bipush 7, 2), (88, .invokevirtual 203, 3), (91, .iconst 0, 1), (92, .istore_n 2, 1), (93, .goto 115, 3), (96, .iload_n 2, 1), (97, .ifCond .eq 35, 3), (100, .aload_n 0, 1), (101, .bipush 45, 2), (103, .invokevirtual 191, 3)]
def z_i163_1 : List (Nat × Instr × Nat) := [(106, .istore 4, 2), (108, .aload_n 0, 1), (109, .iload_n 3, 1), (110, .invokevirtual 209, 3), (113, .ifCond .ne 5, 3), (116, .iconst 0, 1), (117, .ireturn, 1), (118, .iload 4, 2), (120, .ifCond .ne 7, 3), (123, .iconst 1, 1), (124, .goto 4, 3), (127, .iconst 0, 1), (128, .istore_n 3, 1), (129, .goto 79, 3), (132, .aload_n 0, 1), (133, .bipush 59, 2), (135, .invokevirtual 191, 3), (138, .ifCond .eq 27, 3), (141, .aload_n 0, 1), (142, .getfield 200, 3), (145, .ifCond .ne 20, 3), (148, .aload_n 0, 1), (149, .iconst 1, 1), (150, .invokevirtual 203, 3), (153, .aload_n 0, 1), (154, .getfield 213, 3), (157, .iload_n 1, 1), (158, .aload_n 0, 1), (159, .getfield 172, 3), (162, .iastore, 1), (163, .iconst 1, 1), (164, .ireturn, 1), (165, .aload_n 0, 1), (166, .invokevirtual 216, 3), (169, .ifCond .eq 30, 3), (172, .iconst 1, 1), (173, .istore_n 2, 1), (174, .aload_n 0, 1), (175, .iconst 4, 1), (176, .invokevirtual 194, 3), (179, .ifCond .ne 11, 3), (182, .aload_n 0, 1), (183, .iconst 3, 1), (184, .invokevirtual 194, 3), (187, .ifCond .eq 7, 3), (190, .iconst 1, 1), (191, .goto 4, 3), (194, .iconst 0, 1), (195, .istore_n 3, 1), (196, .goto 12, 3), (199, .aload_n 0, 1), (200, .invokevirtual 220, 3), (203, .ifCond .ne 5, 3), (206, .iconst 0, 1), (207, .ireturn, 1), (208, .aload_n 0, 1), (209, .invokevirtual 223, 3), (212, .goto (-172), 3)]
def z_m163 : zM := (⟨"DustYardsModel", "readE", "(I)Z"⟩, prog_14_method_36_code, 5, (some .boolean), 12, z_i163_0 ++ z_i163_1)
set_option maxRecDepth 100000 in
theorem z_d163_0 : ∀ q ∈ z_i163_0, decode prog_14_method_36_code q.1 = .ok q.2 := by decide +kernel
set_option maxRecDepth 100000 in
theorem z_d163_1 : ∀ q ∈ z_i163_1, decode prog_14_method_36_code q.1 = .ok q.2 := by decide +kernel
set_option maxRecDepth 100000 in
theorem z_ok163 : z_okM z_m163 := ⟨z_in (z_s5 (List.mem_of_getElem? (i := 103) rfl)) rfl, List.forall_mem_append.mpr ⟨z_d163_0, z_d163_1⟩, by decide +kernel, by decide +kernel, z_in (z_s1 (List.mem_of_getElem? (i := 17) (by decide +kernel))) (by decide +kernel), by decide +kernel, plainFor_of_name (by decide +kernel)⟩
def z_i164_0 : List (Nat × Instr × Nat) := [(0, .aload_n 0, 1), (1, .iconst 0, 1), (2, .putfield 134, 3), (5, .iconst 0, 1), (6, .istore_n 2, 1), (7, .iload_n 2, 1), (8, .iconst 3, 1), (9, .if_icmp .ge 47, 3), (12, .aload_n 0, 1), (13, .invokevirtual 223, 3), (16, .aload_n 0, 1), (17, .iload_n 2, 1), (18, .invokevirtual 194, 3), (21, .ifCond .ne 8, 3), (24, .aload_n 0, 1), (25, .getfield 146, 3), (28, .ireturn, 1), (29, .aload_n 0, 1), (30, .invokevirtual 223, 3), (33, .aload_n 0, 1), (34, .iconst 3, 1), (35, .iload_n 1, 1), (36, .imul, 1), (37, .iload_n 2, 1), (38, .iadd, 1), (39, .invokevirtual 226, 3), (42, .ifCond .ne 8, 3), (45, .aload_n 0, 1), (46, .getfield 146, 3), (49, .ireturn, 1), (50, .iinc 2 1, 3), (53, .goto (-46), 3), (56, .aload_n 0, 1), (57, .invokevirtual 223, 3), (60, .aload_n 0, 1), (61, .getfield 140, 3), (64, .ifCond .ne 7, 3), (67, .iconst (-1), 1), (68, .goto 7, 3), (71, .aload_n 0, 1), (72, .getfield 146, 3), (75, .ireturn, 1)]
def z_m164 : zM := (⟨"DustYardsModel", "readAll", "(I)I"⟩, prog_14_method_37_code, 3, (some .int), 12, z_i164_0)
set_option maxRecDepth 100000 in
theorem z_d164_0 : ∀ q ∈ z_i164_0, decode prog_14_method_37_code q.1 = .ok q.2 := by decide +kernel
set_option maxRecDepth 100000 in
theorem z_ok164 : z_okM z_m164 := ⟨z_in (z_s5 (List.mem_of_getElem? (i := 75) rfl)) rfl, z_d164_0, by decide +kernel, by decide +kernel, z_in (z_s1 (List.mem_of_getElem? (i := 17) (by decide +kernel))) (by decide +kernel), by decide +kernel, plainFor_of_name (by decide +kernel)⟩
def z_i165_0 : List (Nat × Instr × Nat) := [(0, .aload_n 0, 1), (1, .getfield 229, 3), (4, .bipush 6, 2), (6, .if_icmp .ne 6, 3), (9, .bipush (-4), 2), (11, .ireturn, 1), (12, .aload_n 0, 1), (13, .aload_n 0, 1), (14, .getfield 229, 3), (17, .invokevirtual 232, 3), (20, .istore_n 1, 1), (21, .aload_n 0, 1), (22, .iconst 0, 1), (23, .putfield 127, 3), (26, .iload_n 1, 1), (27, .iconst (-1), 1), (28, .if_icmp .eq 8, 3), (31, .bipush (-100), 2), (33, .iload_n 1, 1), (34, .isub, 1), (35, .ireturn, 1), (36, .aload_n 0, 1), (37, .dup, 1), (38, .getfield 229, 3), (41, .iconst 1, 1), (42, .iadd, 1), (43, .putfield 229, 3), (46, .aload_n 0, 1), (47, .getfield 229, 3), (50, .iconst 1, 1), (51, .isub, 1), (52, .ireturn, 1)]
def z_m165 : zM := (⟨"DustYardsModel", "text", "()I"⟩, prog_14_method_38_code, 2, (some .int), 12, z_i165_0)
set_option maxRecDepth 100000 in
theorem z_d165_0 : ∀ q ∈ z_i165_0, decode prog_14_method_38_code q.1 = .ok q.2 := by decide +kernel
set_option maxRecDepth 100000 in
theorem z_ok165 : z_okM z_m165 := ⟨z_in (z_s5 (List.mem_of_getElem? (i := 71) rfl)) rfl, z_d165_0, by decide +kernel, by decide +kernel, z_in (z_s1 (List.mem_of_getElem? (i := 17) (by decide +kernel))) (by decide +kernel), by decide +kernel, plainFor_of_name (by decide +kernel)⟩
def z_i166_0 : List (Nat × Instr × Nat) := [(0, .iload_n 1, 1), (1, .tableswitch 80 0 4 #[35, 42, 49, 56, 63], 35), (36, .aload_n 0, 1), (37, .getfield 45, 3), (40, .iload_n 2, 1), (41, .iaload, 1), (42, .ireturn, 1), (43, .aload_n 0, 1), (44, .getfield 54, 3), (47, .iload_n 2, 1), (48, .iaload, 1), (49, .ireturn, 1), (50, .aload_n 0, 1), (51, .getfield 48, 3), (54, .iload_n 2, 1), (55, .iaload, 1), (56, .ireturn, 1), (57, .aload_n 0, 1), (58, .getfield 35, 3), (61, .iload_n 2, 1), (62, .iaload, 1), (63, .ireturn, 1), (64, .aload_n 0, 1), (65, .aload_n 0, 1), (66, .getfield 39, 3), (69, .iload_n 2, 1), (70, .iaload, 1), (71, .aload_n 0, 1), (72, .getfield 54, 3), (75, .iload_n 2, 1), (76, .iaload, 1), (77, .invokevirtual 235, 3), (80, .ireturn, 1), (81, .aload_n 0, 1), (82, .iconst 0, 1), (83, .aload_n 0, 1), (84, .getfield 54, 3), (87, .iload_n 2, 1), (88, .iaload, 1), (89, .aload_n 0, 1), (90, .getfield 9, 3), (93, .invokevirtual 99, 3), (96, .ireturn, 1)]
def z_m166 : zM := (⟨"DustYardsModel", "nameOf", "(II)I"⟩, prog_14_method_39_code, 3, (some .int), 12, z_i166_0)
set_option maxRecDepth 100000 in
theorem z_d166_0 : ∀ q ∈ z_i166_0, decode prog_14_method_39_code q.1 = .ok q.2 := by decide +kernel
set_option maxRecDepth 100000 in
theorem z_ok166 : z_okM z_m166 := ⟨z_in (z_s6 (List.mem_of_getElem? (i := 169) rfl)) rfl, z_d166_0, by decide +kernel, by decide +kernel, z_in (z_s1 (List.mem_of_getElem? (i := 17) (by decide +kernel))) (by decide +kernel), by decide +kernel, plainFor_of_name (by decide +kernel)⟩
def z_i167_0 : List (Nat × Instr × Nat) := [(0, .iload_n 0, 1), (1, .tableswitch 87 6 11 #[39, 43, 47, 51, 62, 73], 39), (40, .iload_n 1, 1), (41, .iload_n 2, 1), (42, .iadd, 1), (43, .ireturn, 1), (44, .iload_n 1, 1), (45, .iload_n 2, 1), (46, .isub, 1), (47, .ireturn, 1), (48, .iload_n 1, 1), (49, .iload_n 2, 1), (50, .imul, 1), (51, .ireturn, 1), (52, .iload_n 1, 1), (53, .iload_n 2, 1), (54, .if_icmp .ge 7, 3), (57, .iconst 1, 1), (58, .goto 4, 3), (61, .iconst 0, 1), (62, .ireturn, 1), (63, .iload_n 1, 1), (64, .iload_n 2, 1), (65, .if_icmp .ne 7, 3), (68, .iconst 1, 1), (69, .goto 4, 3), (72, .iconst 0, 1), (73, .ireturn, 1), (74, .iload_n 1, 1), (75, .ifCond .eq 11, 3), (78, .iload_n 2, 1), (79, .ifCond .eq 7, 3), (82, .iconst 1, 1), (83, .goto 4, 3), (86, .iconst 0, 1), (87, .ireturn, 1), (88, .iload_n 1, 1), (89, .ifCond .ne 7, 3), (92, .iload_n 2, 1), (93, .ifCond .eq 7, 3), (96, .iconst 1, 1), (97, .goto 4, 3), (100, .iconst 0, 1), (101, .ireturn, 1)]
def z_m167 : zM := (⟨"DustYardsModel", "done", "(III)I"⟩, prog_14_method_40_code, 3, (some .int), 12, z_i167_0)
set_option maxRecDepth 100000 in
theorem z_d167_0 : ∀ q ∈ z_i167_0, decode prog_14_method_40_code q.1 = .ok q.2 := by decide +kernel
set_option maxRecDepth 100000 in
theorem z_ok167 : z_okM z_m167 := ⟨z_in (z_s6 (List.mem_of_getElem? (i := 176) rfl)) rfl, z_d167_0, by decide +kernel, by decide +kernel, z_in (z_s1 (List.mem_of_getElem? (i := 17) (by decide +kernel))) (by decide +kernel), by decide +kernel, plainFor_of_name (by decide +kernel)⟩
def z_i168_0 : List (Nat × Instr × Nat) := [(0, .iconst 3, 1), (1, .aload_n 0, 1), (2, .aload_n 0, 1), (3, .getfield 39, 3), (6, .iload_n 2, 1), (7, .iaload, 1), (8, .aload_n 0, 1), (9, .getfield 54, 3), (12, .iload_n 2, 1), (13, .iaload, 1), (14, .invokevirtual 239, 3), (17, .imul, 1), (18, .iload_n 1, 1), (19, .iadd, 1), (20, .istore_n 3, 1), (21, .iconst 0, 1), (22, .istore 4, 2), (24, .iconst 0, 1), (25, .istore 5, 2), (27, .iload 5, 2), (29, .aload_n 0, 1), (30, .getfield 213, 3), (33, .iload_n 3, 1), (34, .iaload, 1), (35, .if_icmp .ge 171, 3), (38, .aload_n 0, 1), (39, .getfield 166, 3), (42, .sipush 160, 3), (45, .iload_n 3, 1), (46, .imul, 1), (47, .iload 5, 2), (49, .iadd, 1), (50, .iaload, 1), (51, .istore 6, 2), (53, .iload 6, 2), (55, .ifCond .ge 20, 3), (58, .aload_n 0, 1), (59, .getfield 242, 3), (62, .iload 4, 2), (64, .iconst (-1), 1), (65, .iload 6, 2), (67, .isub, 1), (68, .iastore, 1), (69, .iinc 4 1, 3), (72, .goto 128, 3), (75, .iload 6, 2), (77, .bipush 6, 2), (79, .if_icmp .ge 23, 3), (82, .aload_n 0, 1), (83, .getfield 242, 3), (86, .iload 4, 2), (88, .aload_n 0, 1), (89, .iload 6, 2), (91, .iload_n 2, 1), (92, .invokevirtual 245, 3), (95, .iastore, 1), (96, .iinc 4 1, 3), (99, .goto 101, 3), (102, .iload 6, 2), (104, .bipush 13, 2)]
def z_i168_1 : List (Nat × Instr × Nat) := [(106, .if_icmp .ne 32, 3), (109, .aload_n 0, 1), (110, .getfield 242, 3), (113, .iload 4, 2), (115, .iconst 1, 1), (116, .isub, 1), (117, .aload_n 0, 1), (118, .getfield 242, 3), (121, .iload 4, 2), (123, .iconst 1, 1), (124, .isub, 1), (125, .iaload, 1), (126, .ifCond .ne 7, 3), (129, .iconst 1, 1), (130, .goto 4, 3), (133, .iconst 0, 1), (134, .iastore, 1), (135, .goto 65, 3), (138, .iload 6, 2), (140, .bipush 14, 2), (142, .if_icmp .ne 25, 3), (145, .aload_n 0, 1), (146, .getfield 242, 3), (149, .iload 4, 2), (151, .iconst 1, 1), (152, .isub, 1), (153, .aload_n 0, 1), (154, .getfield 242, 3), (157, .iload 4, 2), (159, .iconst 1, 1), (160, .isub, 1), (161, .iaload, 1), (162, .ineg, 1), (163, .iastore, 1), (164, .goto 36, 3), (167, .iinc 4 (-1), 3), (170, .aload_n 0, 1), (171, .getfield 242, 3), (174, .iload 4, 2), (176, .iconst 1, 1), (177, .isub, 1), (178, .iload 6, 2), (180, .aload_n 0, 1), (181, .getfield 242, 3), (184, .iload 4, 2), (186, .iconst 1, 1), (187, .isub, 1), (188, .iaload, 1), (189, .aload_n 0, 1), (190, .getfield 242, 3), (193, .iload 4, 2), (195, .iaload, 1), (196, .invokestatic 248, 3), (199, .iastore, 1), (200, .iinc 5 1, 3), (203, .goto (-176), 3), (206, .aload_n 0, 1), (207, .getfield 242, 3), (210, .iconst 0, 1), (211, .iaload, 1)]
def z_i168_2 : List (Nat × Instr × Nat) := [(212, .ireturn, 1)]
def z_m168 : zM := (⟨"DustYardsModel", "worthOf", "(II)I"⟩, prog_14_method_41_code, 7, (some .int), 12, z_i168_0 ++ (z_i168_1 ++ z_i168_2))
set_option maxRecDepth 100000 in
theorem z_d168_0 : ∀ q ∈ z_i168_0, decode prog_14_method_41_code q.1 = .ok q.2 := by decide +kernel
set_option maxRecDepth 100000 in
theorem z_d168_1 : ∀ q ∈ z_i168_1, decode prog_14_method_41_code q.1 = .ok q.2 := by decide +kernel
set_option maxRecDepth 100000 in
theorem z_d168_2 : ∀ q ∈ z_i168_2, decode prog_14_method_41_code q.1 = .ok q.2 := by decide +kernel
set_option maxRecDepth 100000 in
theorem z_ok168 : z_okM z_m168 := ⟨z_in (z_s6 (List.mem_of_getElem? (i := 165) rfl)) rfl, List.forall_mem_append.mpr ⟨z_d168_0, List.forall_mem_append.mpr ⟨z_d168_1, z_d168_2⟩⟩, by decide +kernel, by decide +kernel, z_in (z_s1 (List.mem_of_getElem? (i := 17) (by decide +kernel))) (by decide +kernel), by decide +kernel, plainFor_of_name (by decide +kernel)⟩
def z_i169_0 : List (Nat × Instr × Nat) := [(0, .aload_n 0, 1), (1, .invokespecial 251, 3), (4, .aload_n 0, 1), (5, .bipush 24, 2), (7, .newarray .int, 2), (9, .dup, 1), (10, .iconst 0, 1), (11, .bipush 20, 2), (13, .iastore, 1), (14, .dup, 1), (15, .iconst 1, 1), (16, .bipush 40, 2), (18, .iastore, 1), (19, .dup, 1), (20, .iconst 2, 1), (21, .iconst 5, 1), (22, .iastore, 1), (23, .dup, 1), (24, .iconst 3, 1), (25, .iconst 3, 1), (26, .iastore, 1), (27, .dup, 1), (28, .iconst 4, 1), (29, .bipush 50, 2), (31, .iastore, 1), (32, .dup, 1), (33, .iconst 5, 1), (34, .bipush 40, 2), (36, .iastore, 1), (37, .dup, 1), (38, .bipush 6, 2), (40, .iconst 5, 1), (41, .iastore, 1), (42, .dup, 1), (43, .bipush 7, 2), (45, .iconst 3, 1), (46, .iastore, 1), (47, .dup, 1), (48, .bipush 8, 2), (50, .bipush 10, 2), (52, .iastore, 1), (53, .dup, 1), (54, .bipush 9, 2), (56, .bipush 50, 2), (58, .iastore, 1), (59, .dup, 1), (60, .bipush 10, 2), (62, .bipush 10, 2), (64, .iastore, 1), (65, .dup, 1), (66, .bipush 11, 2), (68, .iconst 3, 1), (69, .iastore, 1), (70, .dup, 1), (71, .bipush 12, 2), (73, .bipush 70, 2), (75, .iastore, 1), (76, .dup, 1), (77, .bipush 13, 2), (79, .bipush 20, 2)]
def z_i169_1 : List (Nat × Instr × Nat) := [(81, .iastore, 1), (82, .dup, 1), (83, .bipush 14, 2), (85, .iconst 0, 1), (86, .iastore, 1), (87, .dup, 1), (88, .bipush 15, 2), (90, .iconst 3, 1), (91, .iastore, 1), (92, .dup, 1), (93, .bipush 16, 2), (95, .bipush 10, 2), (97, .iastore, 1), (98, .dup, 1), (99, .bipush 17, 2), (101, .bipush 70, 2), (103, .iastore, 1), (104, .dup, 1), (105, .bipush 18, 2), (107, .bipush 20, 2), (109, .iastore, 1), (110, .dup, 1), (111, .bipush 19, 2), (113, .iconst 0, 1), (114, .iastore, 1), (115, .dup, 1), (116, .bipush 20, 2), (118, .bipush 10, 2), (120, .iastore, 1), (121, .dup, 1), (122, .bipush 21, 2), (124, .bipush 80, 2), (126, .iastore, 1), (127, .dup, 1), (128, .bipush 22, 2), (130, .iconst 5, 1), (131, .iastore, 1), (132, .dup, 1), (133, .bipush 23, 2), (135, .iconst 3, 1), (136, .iastore, 1), (137, .putfield 63, 3), (140, .aload_n 0, 1), (141, .bipush 6, 2), (143, .newarray .int, 2), (145, .dup, 1), (146, .iconst 0, 1), (147, .bipush 10, 2), (149, .iastore, 1), (150, .dup, 1), (151, .iconst 1, 1), (152, .iconst 5, 1), (153, .iastore, 1), (154, .dup, 1), (155, .iconst 2, 1), (156, .bipush 25, 2), (158, .iastore, 1), (159, .dup, 1), (160, .iconst 3, 1), (161, .iconst 5, 1)]
def z_i169_2 : List (Nat × Instr × Nat) := [(162, .iastore, 1), (163, .dup, 1), (164, .iconst 4, 1), (165, .bipush 30, 2), (167, .iastore, 1), (168, .dup, 1), (169, .iconst 5, 1), (170, .bipush 10, 2), (172, .iastore, 1), (173, .putfield 70, 3), (176, .aload_n 0, 1), (177, .bipush 40, 2), (179, .newarray .int, 2), (181, .putfield 35, 3), (184, .aload_n 0, 1), (185, .bipush 40, 2), (187, .newarray .int, 2), (189, .putfield 39, 3), (192, .aload_n 0, 1), (193, .bipush 40, 2), (195, .newarray .int, 2), (197, .putfield 42, 3), (200, .aload_n 0, 1), (201, .bipush 40, 2), (203, .newarray .int, 2), (205, .putfield 45, 3), (208, .aload_n 0, 1), (209, .bipush 40, 2), (211, .newarray .int, 2), (213, .putfield 48, 3), (216, .aload_n 0, 1), (217, .bipush 40, 2), (219, .newarray .int, 2), (221, .putfield 51, 3), (224, .aload_n 0, 1), (225, .bipush 40, 2), (227, .newarray .int, 2), (229, .putfield 54, 3), (232, .aload_n 0, 1), (233, .bipush 40, 2), (235, .newarray .int, 2), (237, .putfield 57, 3), (240, .aload_n 0, 1), (241, .bipush 40, 2), (243, .newarray .int, 2), (245, .putfield 60, 3), (248, .aload_n 0, 1), (249, .bipush 40, 2), (251, .newarray .boolean, 2), (253, .putfield 85, 3), (256, .aload_n 0, 1), (257, .bipush 6, 2), (259, .newarray .int, 2), (261, .putfield 91, 3), (264, .aload_n 0, 1), (265, .bipush 40, 2), (267, .newarray .int, 2), (269, .putfield 113, 3), (272, .aload_n 0, 1), (273, .bipush 40, 2)]
def z_i169_3 : List (Nat × Instr × Nat) := [(275, .newarray .int, 2), (277, .putfield 116, 3), (280, .aload_n 0, 1), (281, .bipush 40, 2), (283, .newarray .int, 2), (285, .putfield 119, 3), (288, .aload_n 0, 1), (289, .bipush 40, 2), (291, .newarray .int, 2), (293, .putfield 122, 3), (296, .aload_n 0, 1), (297, .sipush 160, 3), (300, .newarray .byte, 2), (302, .putfield 130, 3), (305, .aload_n 0, 1), (306, .sipush 2880, 3), (309, .newarray .int, 2), (311, .putfield 166, 3), (314, .aload_n 0, 1), (315, .bipush 18, 2), (317, .newarray .int, 2), (319, .putfield 213, 3), (322, .aload_n 0, 1), (323, .bipush 46, 2), (325, .newarray .char, 2), (327, .dup, 1), (328, .iconst 0, 1), (329, .bipush 119, 2), (331, .castore, 1), (332, .dup, 1), (333, .iconst 1, 1), (334, .bipush 101, 2), (336, .castore, 1), (337, .dup, 1), (338, .iconst 2, 1), (339, .bipush 105, 2), (341, .castore, 1), (342, .dup, 1), (343, .iconst 3, 1), (344, .bipush 103, 2), (346, .castore, 1), (347, .dup, 1), (348, .iconst 4, 1), (349, .bipush 104, 2), (351, .castore, 1), (352, .dup, 1), (353, .iconst 5, 1), (354, .bipush 116, 2), (356, .castore, 1), (357, .dup, 1), (358, .bipush 6, 2), (360, .bipush 100, 2), (362, .castore, 1), (363, .dup, 1), (364, .bipush 7, 2), (366, .bipush 97, 2), (368, .castore, 1), (369, .dup, 1), (370, .bipush 8, 2), (372, .bipush 121, 2)]
def z_i169_4 : List (Nat × Instr × Nat) := [(374, .castore, 1), (375, .dup, 1), (376, .bipush 9, 2), (378, .bipush 119, 2), (380, .castore, 1), (381, .dup, 1), (382, .bipush 10, 2), (384, .bipush 101, 2), (386, .castore, 1), (387, .dup, 1), (388, .bipush 11, 2), (390, .bipush 116, 2), (392, .castore, 1), (393, .dup, 1), (394, .bipush 12, 2), (396, .bipush 107, 2), (398, .castore, 1), (399, .dup, 1), (400, .bipush 13, 2), (402, .bipush 105, 2), (404, .castore, 1), (405, .dup, 1), (406, .bipush 14, 2), (408, .bipush 110, 2), (410, .castore, 1), (411, .dup, 1), (412, .bipush 15, 2), (414, .bipush 100, 2), (416, .castore, 1), (417, .dup, 1), (418, .bipush 16, 2), (420, .bipush 109, 2), (422, .castore, 1), (423, .dup, 1), (424, .bipush 17, 2), (426, .bipush 105, 2), (428, .castore, 1), (429, .dup, 1), (430, .bipush 18, 2), (432, .bipush 115, 2), (434, .castore, 1), (435, .dup, 1), (436, .bipush 19, 2), (438, .bipush 115, 2), (440, .castore, 1), (441, .dup, 1), (442, .bipush 20, 2), (444, .bipush 101, 2), (446, .castore, 1), (447, .dup, 1), (448, .bipush 21, 2), (450, .bipush 100, 2), (452, .castore, 1), (453, .dup, 1), (454, .bipush 22, 2), (456, .bipush 112, 2), (458, .castore, 1), (459, .dup, 1), (460, .bipush 23, 2), (462, .bipush 114, 2)]
def z_i169_5 : List (Nat × Instr × Nat) := [(464, .castore, 1), (465, .dup, 1), (466, .bipush 24, 2), (468, .bipush 105, 2), (470, .castore, 1), (471, .dup, 1), (472, .bipush 25, 2), (474, .bipush 99, 2), (476, .castore, 1), (477, .dup, 1), (478, .bipush 26, 2), (480, .bipush 101, 2), (482, .castore, 1), (483, .dup, 1), (484, .bipush 27, 2), (486, .bipush 112, 2), (488, .castore, 1), (489, .dup, 1), (490, .bipush 28, 2), (492, .bipush 97, 2), (494, .castore, 1), (495, .dup, 1), (496, .bipush 29, 2), (498, .bipush 121, 2), (500, .castore, 1), (501, .dup, 1), (502, .bipush 30, 2), (504, .bipush 102, 2), (506, .castore, 1), (507, .dup, 1), (508, .bipush 31, 2), (510, .bipush 105, 2), (512, .castore, 1), (513, .dup, 1), (514, .bipush 32, 2), (516, .bipush 110, 2), (518, .castore, 1), (519, .dup, 1), (520, .bipush 33, 2), (522, .bipush 101, 2), (524, .castore, 1), (525, .dup, 1), (526, .bipush 34, 2), (528, .bipush 102, 2), (530, .castore, 1), (531, .dup, 1), (532, .bipush 35, 2), (534, .bipush 105, 2), (536, .castore, 1), (537, .dup, 1), (538, .bipush 36, 2), (540, .bipush 110, 2), (542, .castore, 1), (543, .dup, 1), (544, .bipush 37, 2), (546, .bipush 100, 2), (548, .castore, 1), (549, .dup, 1), (550, .bipush 38, 2), (552, .bipush 111, 2)]
def z_i169_6 : List (Nat × Instr × Nat) := [(554, .castore, 1), (555, .dup, 1), (556, .bipush 39, 2), (558, .bipush 114, 2), (560, .castore, 1), (561, .dup, 1), (562, .bipush 40, 2), (564, .bipush 97, 2), (566, .castore, 1), (567, .dup, 1), (568, .bipush 41, 2), (570, .bipush 110, 2), (572, .castore, 1), (573, .dup, 1), (574, .bipush 42, 2), (576, .bipush 100, 2), (578, .castore, 1), (579, .dup, 1), (580, .bipush 43, 2), (582, .bipush 110, 2), (584, .castore, 1), (585, .dup, 1), (586, .bipush 44, 2), (588, .bipush 111, 2), (590, .castore, 1), (591, .dup, 1), (592, .bipush 45, 2), (594, .bipush 116, 2), (596, .castore, 1), (597, .putfield 149, 3), (600, .aload_n 0, 1), (601, .bipush 13, 2), (603, .newarray .int, 2), (605, .dup, 1), (606, .iconst 0, 1), (607, .iconst 0, 1), (608, .iastore, 1), (609, .dup, 1), (610, .iconst 1, 1), (611, .bipush 6, 2), (613, .iastore, 1), (614, .dup, 1), (615, .iconst 2, 1), (616, .bipush 9, 2), (618, .iastore, 1), (619, .dup, 1), (620, .iconst 3, 1), (621, .bipush 12, 2), (623, .iastore, 1), (624, .dup, 1), (625, .iconst 4, 1), (626, .bipush 16, 2), (628, .iastore, 1), (629, .dup, 1), (630, .iconst 5, 1), (631, .bipush 22, 2), (633, .iastore, 1), (634, .dup, 1), (635, .bipush 6, 2), (637, .bipush 27, 2)]
def z_i169_7 : List (Nat × Instr × Nat) := [(639, .iastore, 1), (640, .dup, 1), (641, .bipush 7, 2), (643, .bipush 30, 2), (645, .iastore, 1), (646, .dup, 1), (647, .bipush 8, 2), (649, .bipush 34, 2), (651, .iastore, 1), (652, .dup, 1), (653, .bipush 9, 2), (655, .bipush 38, 2), (657, .iastore, 1), (658, .dup, 1), (659, .bipush 10, 2), (661, .bipush 40, 2), (663, .iastore, 1), (664, .dup, 1), (665, .bipush 11, 2), (667, .bipush 43, 2), (669, .iastore, 1), (670, .dup, 1), (671, .bipush 12, 2), (673, .bipush 46, 2), (675, .iastore, 1), (676, .putfield 143, 3), (679, .aload_n 0, 1), (680, .sipush 170, 3), (683, .newarray .int, 2), (685, .putfield 178, 3), (688, .aload_n 0, 1), (689, .bipush 8, 2), (691, .newarray .boolean, 2), (693, .putfield 197, 3), (696, .aload_n 0, 1), (697, .sipush 170, 3), (700, .newarray .int, 2), (702, .putfield 242, 3), (705, .aload_n 0, 1), (706, .bipush 20, 2), (708, .newarray .int, 2), (710, .putfield 256, 3), (713, .aload_n 0, 1), (714, .bipush 20, 2), (716, .newarray .int, 2), (718, .putfield 259, 3), (721, .aload_n 0, 1), (722, .bipush 20, 2), (724, .newarray .int, 2), (726, .putfield 262, 3), (729, .aload_n 0, 1), (730, .bipush 20, 2), (732, .newarray .int, 2), (734, .putfield 265, 3), (737, .aload_n 0, 1), (738, .bipush 20, 2), (740, .newarray .int, 2), (742, .putfield 268, 3), (745, .aload_n 0, 1), (746, .bipush 20, 2)]
def z_i169_8 : List (Nat × Instr × Nat) := [(748, .newarray .int, 2), (750, .putfield 271, 3), (753, .aload_n 0, 1), (754, .bipush 12, 2), (756, .newarray .int, 2), (758, .putfield 274, 3), (761, .aload_n 0, 1), (762, .bipush 12, 2), (764, .newarray .int, 2), (766, .putfield 277, 3), (769, .aload_n 0, 1), (770, .bipush 12, 2), (772, .newarray .int, 2), (774, .putfield 280, 3), (777, .aload_n 0, 1), (778, .bipush 12, 2), (780, .newarray .int, 2), (782, .putfield 283, 3), (785, .aload_n 0, 1), (786, .bipush 60, 2), (788, .newarray .int, 2), (790, .putfield 286, 3), (793, .aload_n 0, 1), (794, .bipush 60, 2), (796, .newarray .int, 2), (798, .putfield 289, 3), (801, .aload_n 0, 1), (802, .bipush 8, 2), (804, .newarray .int, 2), (806, .putfield 292, 3), (809, .aload_n 0, 1), (810, .sipush 256, 3), (813, .newarray .int, 2), (815, .putfield 295, 3), (818, .aload_n 0, 1), (819, .sipush 256, 3), (822, .newarray .int, 2), (824, .putfield 298, 3), (827, .aload_n 0, 1), (828, .iconst 5, 1), (829, .newarray .int, 2), (831, .putfield 301, 3), (834, .aload_n 0, 1), (835, .iconst 5, 1), (836, .newarray .int, 2), (838, .putfield 304, 3), (841, .aload_n 0, 1), (842, .bipush 50, 2), (844, .newarray .int, 2), (846, .putfield 307, 3), (849, .aload_n 0, 1), (850, .iconst 5, 1), (851, .newarray .int, 2), (853, .putfield 310, 3), (856, .aload_n 0, 1), (857, .iconst 5, 1), (858, .newarray .int, 2), (860, .putfield 313, 3), (863, .aload_n 0, 1), (864, .iconst 5, 1)]
def z_i169_9 : List (Nat × Instr × Nat) := [(865, .newarray .int, 2), (867, .putfield 316, 3), (870, .aload_n 0, 1), (871, .bipush 8, 2), (873, .newarray .int, 2), (875, .putfield 319, 3), (878, .aload_n 0, 1), (879, .bipush 8, 2), (881, .newarray .int, 2), (883, .putfield 322, 3), (886, .aload_n 0, 1), (887, .sipush 256, 3), (890, .newarray .int, 2), (892, .putfield 325, 3), (895, .aload_n 0, 1), (896, .sipush 256, 3), (899, .newarray .int, 2), (901, .putfield 328, 3), (904, .aload_n 0, 1), (905, .bipush 6, 2), (907, .newarray .int, 2), (909, .putfield 331, 3), (912, .aload_n 0, 1), (913, .bipush 6, 2), (915, .newarray .int, 2), (917, .putfield 334, 3), (920, .aload_n 0, 1), (921, .bipush 6, 2), (923, .newarray .int, 2), (925, .putfield 337, 3), (928, .aload_n 0, 1), (929, .bipush 6, 2), (931, .newarray .int, 2), (933, .putfield 340, 3), (936, .aload_n 0, 1), (937, .iconst 4, 1), (938, .newarray .int, 2), (940, .dup, 1), (941, .iconst 0, 1), (942, .iconst (-1), 1), (943, .iastore, 1), (944, .dup, 1), (945, .iconst 1, 1), (946, .iconst (-1), 1), (947, .iastore, 1), (948, .dup, 1), (949, .iconst 2, 1), (950, .iconst (-1), 1), (951, .iastore, 1), (952, .dup, 1), (953, .iconst 3, 1), (954, .iconst (-1), 1), (955, .iastore, 1), (956, .putfield 343, 3), (959, .aload_n 0, 1), (960, .iconst 4, 1), (961, .newarray .int, 2), (963, .putfield 346, 3), (966, .aload_n 0, 1), (967, .sipush 160, 3)]
def z_i169_10 : List (Nat × Instr × Nat) := [(970, .newarray .int, 2), (972, .putfield 349, 3), (975, .aload_n 0, 1), (976, .bipush 40, 2), (978, .newarray .int, 2), (980, .putfield 352, 3), (983, .aload_n 0, 1), (984, .getfield 166, 3), (987, .iconst 0, 1), (988, .bipush (-4), 2), (990, .iastore, 1), (991, .aload_n 0, 1), (992, .getfield 166, 3), (995, .iconst 1, 1), (996, .iconst 0, 1), (997, .iastore, 1), (998, .aload_n 0, 1), (999, .getfield 166, 3), (1002, .iconst 2, 1), (1003, .bipush 7, 2), (1005, .iastore, 1), (1006, .aload_n 0, 1), (1007, .getfield 213, 3), (1010, .iconst 0, 1), (1011, .iconst 3, 1), (1012, .iastore, 1), (1013, .aload_n 0, 1), (1014, .getfield 166, 3), (1017, .sipush 160, 3), (1020, .iconst 4, 1), (1021, .iastore, 1), (1022, .aload_n 0, 1), (1023, .getfield 166, 3), (1026, .sipush 161, 3), (1029, .bipush (-6), 2), (1031, .iastore, 1), (1032, .aload_n 0, 1), (1033, .getfield 166, 3), (1036, .sipush 162, 3), (1039, .bipush 8, 2), (1041, .iastore, 1), (1042, .aload_n 0, 1), (1043, .getfield 213, 3), (1046, .iconst 1, 1), (1047, .iconst 3, 1), (1048, .iastore, 1), (1049, .aload_n 0, 1), (1050, .getfield 166, 3), (1053, .sipush 320, 3), (1056, .bipush (-2), 2), (1058, .iastore, 1), (1059, .aload_n 0, 1), (1060, .getfield 213, 3), (1063, .iconst 2, 1), (1064, .iconst 1, 1), (1065, .iastore, 1), (1066, .aload_n 0, 1), (1067, .iconst 1, 1), (1068, .putfield 229, 3), (1071, .return_, 1)]
def z_m169 : zM := (⟨"DustYardsModel", "<init>", "()V"⟩, prog_14_method_42_code, 1, none, 12, z_i169_0 ++ (z_i169_1 ++ (z_i169_2 ++ (z_i169_3 ++ (z_i169_4 ++ (z_i169_5 ++ (z_i169_6 ++ (z_i169_7 ++ (z_i169_8 ++ (z_i169_9 ++ z_i169_10))))))))))
set_option maxRecDepth 100000 in
theorem z_d169_0 : ∀ q ∈ z_i169_0, decode prog_14_method_42_code q.1 = .ok q.2 := by decide +kernel
set_option maxRecDepth 100000 in
theorem z_d169_1 : ∀ q ∈ z_i169_1, decode prog_14_method_42_code q.1 = .ok q.2 := by decide +kernel
set_option maxRecDepth 100000 in
theorem z_d169_2 : ∀ q ∈ z_i169_2, decode prog_14_method_42_code q.1 = .ok q.2 := by decide +kernel
set_option maxRecDepth 100000 in
theorem z_d169_3 : ∀ q ∈ z_i169_3, decode prog_14_method_42_code q.1 = .ok q.2 := by decide +kernel
set_option maxRecDepth 100000 in
theorem z_d169_4 : ∀ q ∈ z_i169_4, decode prog_14_method_42_code q.1 = .ok q.2 := by decide +kernel
set_option maxRecDepth 100000 in
theorem z_d169_5 : ∀ q ∈ z_i169_5, decode prog_14_method_42_code q.1 = .ok q.2 := by decide +kernel
set_option maxRecDepth 100000 in
theorem z_d169_6 : ∀ q ∈ z_i169_6, decode prog_14_method_42_code q.1 = .ok q.2 := by decide +kernel
set_option maxRecDepth 100000 in
theorem z_d169_7 : ∀ q ∈ z_i169_7, decode prog_14_method_42_code q.1 = .ok q.2 := by decide +kernel
set_option maxRecDepth 100000 in
theorem z_d169_8 : ∀ q ∈ z_i169_8, decode prog_14_method_42_code q.1 = .ok q.2 := by decide +kernel
set_option maxRecDepth 100000 in
theorem z_d169_9 : ∀ q ∈ z_i169_9, decode prog_14_method_42_code q.1 = .ok q.2 := by decide +kernel
set_option maxRecDepth 100000 in
theorem z_d169_10 : ∀ q ∈ z_i169_10, decode prog_14_method_42_code q.1 = .ok q.2 := by decide +kernel
set_option maxRecDepth 100000 in
theorem z_ok169 : z_okM z_m169 := ⟨z_in (z_s5 (List.mem_of_getElem? (i := 138) rfl)) rfl, List.forall_mem_append.mpr ⟨z_d169_0, List.forall_mem_append.mpr ⟨z_d169_1, List.forall_mem_append.mpr ⟨z_d169_2, List.forall_mem_append.mpr ⟨z_d169_3, List.forall_mem_append.mpr ⟨z_d169_4, List.forall_mem_append.mpr ⟨z_d169_5, List.forall_mem_append.mpr ⟨z_d169_6, List.forall_mem_append.mpr ⟨z_d169_7, List.forall_mem_append.mpr ⟨z_d169_8, List.forall_mem_append.mpr ⟨z_d169_9, z_d169_10⟩⟩⟩⟩⟩⟩⟩⟩⟩⟩, by decide +kernel, by decide +kernel, z_in (z_s1 (List.mem_of_getElem? (i := 17) (by decide +kernel))) (by decide +kernel), by decide +kernel, plainFor_of_name (by decide +kernel)⟩
end
section
def z_i170_0 : List (Nat × Instr × Nat) := [(0, .iload_n 1, 1), (1, .invokestatic 24, 3), (4, .ifCond .eq 26, 3), (7, .iload_n 2, 1), (8, .invokestatic 105, 3), (11, .ifCond .eq 19, 3), (14, .iload_n 3, 1), (15, .i2l, 1), (16, .lconst 0, 1), (17, .aload_n 0, 1), (18, .getfield 229, 3), (21, .iconst 1, 1), (22, .isub, 1), (23, .i2l, 1), (24, .invokestatic 3, 3), (27, .ifCond .ne 6, 3), (30, .bipush (-2), 2), (32, .ireturn, 1), (33, .aload_n 0, 1), (34, .getfield 355, 3), (37, .bipush 20, 2), (39, .if_icmp .ne 6, 3), (42, .bipush (-4), 2), (44, .ireturn, 1), (45, .aload_n 0, 1), (46, .getfield 256, 3), (49, .aload_n 0, 1), (50, .getfield 355, 3), (53, .iload_n 1, 1), (54, .iastore, 1), (55, .aload_n 0, 1), (56, .getfield 259, 3), (59, .aload_n 0, 1), (60, .getfield 355, 3), (63, .iload_n 2, 1), (64, .iastore, 1), (65, .aload_n 0, 1), (66, .getfield 262, 3), (69, .aload_n 0, 1), (70, .getfield 355, 3), (73, .iload_n 3, 1), (74, .iastore, 1), (75, .aload_n 0, 1), (76, .dup, 1), (77, .getfield 355, 3), (80, .iconst 1, 1), (81, .iadd, 1), (82, .putfield 355, 3), (85, .aload_n 0, 1), (86, .getfield 355, 3), (89, .ireturn, 1)]
def z_m170 : zM := (⟨"DustYardsModel", "contract", "(III)I"⟩, prog_14_method_43_code, 4, (some .int), 12, z_i170_0)
set_option maxRecDepth 100000 in
theorem z_d170_0 : ∀ q ∈ z_i170_0, decode prog_14_method_43_code q.1 = .ok q.2 := by decide +kernel
set_option maxRecDepth 100000 in
theorem z_ok170 : z_okM z_m170 := ⟨z_in (z_s6 (List.mem_of_getElem? (i := 148) rfl)) rfl, z_d170_0, by decide +kernel, by decide +kernel, z_in (z_s1 (List.mem_of_getElem? (i := 17) (by decide +kernel))) (by decide +kernel), by decide +kernel, plainFor_of_name (by decide +kernel)⟩
def z_i171_0 : List (Nat × Instr × Nat) := [(0, .iconst (-1), 1), (1, .istore_n 3, 1), (2, .iconst 0, 1), (3, .istore 4, 2), (5, .iconst 0, 1), (6, .istore 5, 2), (8, .iload 5, 2), (10, .aload_n 0, 1), (11, .getfield 355, 3), (14, .if_icmp .ge 59, 3), (17, .aload_n 0, 1), (18, .getfield 256, 3), (21, .iload 5, 2), (23, .iaload, 1), (24, .iload_n 1, 1), (25, .if_icmp .ne 42, 3), (28, .aload_n 0, 1), (29, .getfield 259, 3), (32, .iload 5, 2), (34, .iaload, 1), (35, .iload_n 2, 1), (36, .if_icmp .gt 31, 3), (39, .aload_n 0, 1), (40, .getfield 259, 3), (43, .iload 5, 2), (45, .iaload, 1), (46, .iload_n 3, 1), (47, .if_icmp .lt 20, 3), (50, .aload_n 0, 1), (51, .getfield 259, 3), (54, .iload 5, 2), (56, .iaload, 1), (57, .istore_n 3, 1), (58, .aload_n 0, 1), (59, .getfield 262, 3), (62, .iload 5, 2), (64, .iaload, 1), (65, .istore 4, 2), (67, .iinc 5 1, 3), (70, .goto (-62), 3), (73, .iload 4, 2), (75, .ireturn, 1)]
def z_m171 : zM := (⟨"DustYardsModel", "textFor", "(II)I"⟩, prog_14_method_44_code, 6, (some .int), 12, z_i171_0)
set_option maxRecDepth 100000 in
theorem z_d171_0 : ∀ q ∈ z_i171_0, decode prog_14_method_44_code q.1 = .ok q.2 := by decide +kernel
set_option maxRecDepth 100000 in
theorem z_ok171 : z_okM z_m171 := ⟨z_in (z_s6 (List.mem_of_getElem? (i := 156) rfl)) rfl, z_d171_0, by decide +kernel, by decide +kernel, z_in (z_s1 (List.mem_of_getElem? (i := 17) (by decide +kernel))) (by decide +kernel), by decide +kernel, plainFor_of_name (by decide +kernel)⟩
def z_i172_0 : List (Nat × Instr × Nat) := [(0, .iload_n 1, 1), (1, .invokestatic 24, 3), (4, .ifCond .eq 19, 3), (7, .iload_n 2, 1), (8, .invokestatic 105, 3), (11, .ifCond .eq 12, 3), (14, .aload_n 0, 1), (15, .iload_n 1, 1), (16, .iload_n 2, 1), (17, .invokevirtual 239, 3), (20, .goto 5, 3), (23, .bipush (-2), 2), (25, .ireturn, 1)]
def z_m172 : zM := (⟨"DustYardsModel", "contractOf", "(II)I"⟩, prog_14_method_45_code, 3, (some .int), 12, z_i172_0)
set_option maxRecDepth 100000 in
theorem z_d172_0 : ∀ q ∈ z_i172_0, decode prog_14_method_45_code q.1 = .ok q.2 := by decide +kernel
set_option maxRecDepth 100000 in
theorem z_ok172 : z_okM z_m172 := ⟨z_in (z_s6 (List.mem_of_getElem? (i := 152) rfl)) rfl, z_d172_0, by decide +kernel, by decide +kernel, z_in (z_s1 (List.mem_of_getElem? (i := 17) (by decide +kernel))) (by decide +kernel), by decide +kernel, plainFor_of_name (by decide +kernel)⟩
def z_i173_0 : List (Nat × Instr × Nat) := [(0, .aload_n 0, 1), (1, .iload_n 1, 1), (2, .invokevirtual 73, 3), (5, .ifCond .eq 25, 3), (8, .iload_n 2, 1), (9, .i2l, 1), (10, .lconst 0, 1), (11, .ldc2_w 358, 3), (14, .invokestatic 3, 3), (17, .ifCond .eq 13, 3), (20, .aload_n 0, 1), (21, .iload_n 2, 1), (22, .iload_n 1, 1), (23, .invokevirtual 360, 3), (26, .i2l, 1), (27, .goto 6, 3), (30, .ldc2_w 363, 3), (33, .lreturn, 1)]
def z_m173 : zM := (⟨"DustYardsModel", "says", "(II)J"⟩, prog_14_method_46_code, 3, (some .long), 12, z_i173_0)
set_option maxRecDepth 100000 in
theorem z_d173_0 : ∀ q ∈ z_i173_0, decode prog_14_method_46_code q.1 = .ok q.2 := by decide +kernel
set_option maxRecDepth 100000 in
theorem z_ok173 : z_okM z_m173 := ⟨z_in (z_s6 (List.mem_of_getElem? (i := 160) rfl)) rfl, z_d173_0, by decide +kernel, by decide +kernel, z_in (z_s1 (List.mem_of_getElem? (i := 17) (by decide +kernel))) (by decide +kernel), by decide +kernel, plainFor_of_name (by decide +kernel)⟩
def z_i174_0 : List (Nat × Instr × Nat) := [(0, .iload_n 0, 1), (1, .invokestatic 105, 3), (4, .ifCond .eq 19, 3), (7, .iload_n 1, 1), (8, .invokestatic 105, 3), (11, .ifCond .eq 12, 3), (14, .iload_n 0, 1), (15, .iload_n 1, 1), (16, .if_icmp .gt 7, 3), (19, .iconst 1, 1), (20, .goto 4, 3), (23, .iconst 0, 1), (24, .ireturn, 1)]
def z_m174 : zM := (⟨"DustYardsModel", "areDays", "(II)Z"⟩, prog_14_method_47_code, 2, (some .boolean), 12, z_i174_0)
set_option maxRecDepth 100000 in
theorem z_d174_0 : ∀ q ∈ z_i174_0, decode prog_14_method_47_code q.1 = .ok q.2 := by decide +kernel
set_option maxRecDepth 100000 in
theorem z_ok174 : z_okM z_m174 := ⟨z_in (z_s6 (List.mem_of_getElem? (i := 184) rfl)) rfl, z_d174_0, by decide +kernel, by decide +kernel, z_in (z_s1 (List.mem_of_getElem? (i := 17) (by decide +kernel))) (by decide +kernel), by decide +kernel, plainFor_of_name (by decide +kernel)⟩
def z_i175_0 : List (Nat × Instr × Nat) := [(0, .aload_n 0, 1), (1, .getfield 39, 3), (4, .iload_n 1, 1), (5, .iaload, 1), (6, .iload_n 2, 1), (7, .if_icmp .ne 28, 3), (10, .aload_n 0, 1), (11, .getfield 54, 3), (14, .iload_n 1, 1), (15, .iaload, 1), (16, .iload_n 3, 1), (17, .if_icmp .lt 18, 3), (20, .aload_n 0, 1), (21, .getfield 54, 3), (24, .iload_n 1, 1), (25, .iaload, 1), (26, .iload 4, 2), (28, .if_icmp .gt 7, 3), (31, .iconst 1, 1), (32, .goto 4, 3), (35, .iconst 0, 1), (36, .ireturn, 1)]
def z_m175 : zM := (⟨"DustYardsModel", "isOf", "(IIII)Z"⟩, prog_14_method_48_code, 5, (some .boolean), 12, z_i175_0)
set_option maxRecDepth 100000 in
theorem z_d175_0 : ∀ q ∈ z_i175_0, decode prog_14_method_48_code q.1 = .ok q.2 := by decide +kernel
set_option maxRecDepth 100000 in
theorem z_ok175 : z_okM z_m175 := ⟨z_in (z_s6 (List.mem_of_getElem? (i := 188) rfl)) rfl, z_d175_0, by decide +kernel, by decide +kernel, z_in (z_s1 (List.mem_of_getElem? (i := 17) (by decide +kernel))) (by decide +kernel), by decide +kernel, plainFor_of_name (by decide +kernel)⟩
def z_i176_0 : List (Nat × Instr × Nat) := [(0, .iload_n 1, 1), (1, .invokestatic 24, 3), (4, .ifCond .eq 11, 3), (7, .iload_n 2, 1), (8, .iload_n 3, 1), (9, .invokestatic 365, 3), (12, .ifCond .ne 7, 3), (15, .ldc2_w 363, 3), (18, .lreturn, 1), (19, .lconst 0, 1), (20, .lstore 4, 2), (22, .iconst 0, 1), (23, .istore 6, 2), (25, .iload 6, 2), (27, .aload_n 0, 1), (28, .getfield 21, 3), (31, .if_icmp .ge 51, 3), (34, .aload_n 0, 1), (35, .iload 6, 2), (37, .iload_n 1, 1), (38, .iload_n 2, 1), (39, .iload_n 3, 1), (40, .invokevirtual 369, 3), (43, .ifCond .eq 33, 3), (46, .lload 4, 2), (48, .aload_n 0, 1), (49, .iconst 0, 1), (50, .iload 6, 2), (52, .invokevirtual 360, 3), (55, .i2l, 1), (56, .ladd, 1), (57, .lstore 4, 2), (59, .lload 4, 2), (61, .iconst 0, 1), (62, .aload_n 0, 1), (63, .iconst 1, 1), (64, .iload 6, 2), (66, .invokevirtual 360, 3), (69, .invokestatic 373, 3), (72, .i2l, 1), (73, .lsub, 1), (74, .lstore 4, 2), (76, .iinc 6 1, 3), (79, .goto (-54), 3), (82, .lload 4, 2), (84, .lreturn, 1)]
def z_m176 : zM := (⟨"DustYardsModel", "owed", "(III)J"⟩, prog_14_method_49_code, 7, (some .long), 12, z_i176_0)
set_option maxRecDepth 100000 in
theorem z_d176_0 : ∀ q ∈ z_i176_0, decode prog_14_method_49_code q.1 = .ok q.2 := by decide +kernel
set_option maxRecDepth 100000 in
theorem z_ok176 : z_okM z_m176 := ⟨z_in (z_s6 (List.mem_of_getElem? (i := 181) rfl)) rfl, z_d176_0, by decide +kernel, by decide +kernel, z_in (z_s1 (List.mem_of_getElem? (i := 17) (by decide +kernel))) (by decide +kernel), by decide +kernel, plainFor_of_name (by decide +kernel)⟩
def z_i177_0 : List (Nat × Instr × Nat) := [(0, .aload_n 0, 1), (1, .iload_n 1, 1), (2, .invokevirtual 73, 3), (5, .ifCond .eq 27, 3), (8, .iload_n 2, 1), (9, .i2l, 1), (10, .lconst 0, 1), (11, .ldc2_w 378, 3), (14, .invokestatic 3, 3), (17, .ifCond .eq 15, 3), (20, .iload_n 3, 1), (21, .i2l, 1), (22, .lconst 0, 1), (23, .ldc2_w 31, 3), (26, .invokestatic 3, 3), (29, .ifCond .ne 6, 3), (32, .bipush (-2), 2), (34, .ireturn, 1), (35, .aload_n 0, 1), (36, .getfield 380, 3), (39, .bipush 20, 2), (41, .if_icmp .ne 6, 3), (44, .bipush (-4), 2), (46, .ireturn, 1), (47, .aload_n 0, 1), (48, .getfield 265, 3), (51, .aload_n 0, 1), (52, .getfield 380, 3), (55, .iload_n 1, 1), (56, .iastore, 1), (57, .aload_n 0, 1), (58, .getfield 268, 3), (61, .aload_n 0, 1), (62, .getfield 380, 3), (65, .iload_n 2, 1), (66, .iastore, 1), (67, .aload_n 0, 1), (68, .getfield 271, 3), (71, .aload_n 0, 1), (72, .getfield 380, 3), (75, .iload_n 3, 1), (76, .iastore, 1), (77, .aload_n 0, 1), (78, .dup, 1), (79, .getfield 380, 3), (82, .iconst 1, 1), (83, .iadd, 1), (84, .putfield 380, 3), (87, .aload_n 0, 1), (88, .getfield 380, 3), (91, .iconst 1, 1), (92, .isub, 1), (93, .ireturn, 1)]
def z_m177 : zM := (⟨"DustYardsModel", "find", "(III)I"⟩, prog_14_method_50_code, 4, (some .int), 12, z_i177_0)
set_option maxRecDepth 100000 in
theorem z_d177_0 : ∀ q ∈ z_i177_0, decode prog_14_method_50_code q.1 = .ok q.2 := by decide +kernel
set_option maxRecDepth 100000 in
theorem z_ok177 : z_okM z_m177 := ⟨z_in (z_s6 (List.mem_of_getElem? (i := 193) rfl)) rfl, z_d177_0, by decide +kernel, by decide +kernel, z_in (z_s1 (List.mem_of_getElem? (i := 17) (by decide +kernel))) (by decide +kernel), by decide +kernel, plainFor_of_name (by decide +kernel)⟩
def z_i178_0 : List (Nat × Instr × Nat) := [(0, .aload_n 0, 1), (1, .iconst 2, 1), (2, .aload_n 0, 1), (3, .getfield 265, 3), (6, .iload_n 1, 1), (7, .iaload, 1), (8, .invokevirtual 360, 3), (11, .iconst 3, 1), (12, .invokestatic 383, 3), (15, .ireturn, 1)]
def z_m178 : zM := (⟨"DustYardsModel", "ownerOf", "(I)I"⟩, prog_14_method_51_code, 2, (some .int), 12, z_i178_0)
set_option maxRecDepth 100000 in
theorem z_d178_0 : ∀ q ∈ z_i178_0, decode prog_14_method_51_code q.1 = .ok q.2 := by decide +kernel
set_option maxRecDepth 100000 in
theorem z_ok178 : z_okM z_m178 := ⟨z_in (z_s6 (List.mem_of_getElem? (i := 202) rfl)) rfl, z_d178_0, by decide +kernel, by decide +kernel, z_in (z_s1 (List.mem_of_getElem? (i := 17) (by decide +kernel))) (by decide +kernel), by decide +kernel, plainFor_of_name (by decide +kernel)⟩
def z_i179_0 : List (Nat × Instr × Nat) := [(0, .iload_n 1, 1), (1, .ifCond .lt 19, 3), (4, .iload_n 1, 1), (5, .aload_n 0, 1), (6, .getfield 380, 3), (9, .if_icmp .ge 11, 3), (12, .aload_n 0, 1), (13, .iload_n 1, 1), (14, .invokevirtual 386, 3), (17, .goto 5, 3), (20, .bipush (-2), 2), (22, .ireturn, 1)]
def z_m179 : zM := (⟨"DustYardsModel", "whose", "(I)I"⟩, prog_14_method_52_code, 2, (some .int), 12, z_i179_0)
set_option maxRecDepth 100000 in
theorem z_d179_0 : ∀ q ∈ z_i179_0, decode prog_14_method_52_code q.1 = .ok q.2 := by decide +kernel
set_option maxRecDepth 100000 in
theorem z_ok179 : z_okM z_m179 := ⟨z_in (z_s6 (List.mem_of_getElem? (i := 198) rfl)) rfl, z_d179_0, by decide +kernel, by decide +kernel, z_in (z_s1 (List.mem_of_getElem? (i := 17) (by decide +kernel))) (by decide +kernel), by decide +kernel, plainFor_of_name (by decide +kernel)⟩
def z_i180_0 : List (Nat × Instr × Nat) := [(0, .iload_n 1, 1), (1, .i2l, 1), (2, .lconst 0, 1), (3, .ldc2_w 389, 3), (6, .invokestatic 3, 3), (9, .ifCond .ne 7, 3), (12, .ldc2_w 363, 3), (15, .lreturn, 1), (16, .lconst 0, 1), (17, .lstore_n 2, 1), (18, .iconst 0, 1), (19, .istore 4, 2), (21, .iload 4, 2), (23, .aload_n 0, 1), (24, .getfield 380, 3), (27, .if_icmp .ge 107, 3), (30, .aload_n 0, 1), (31, .iload 4, 2), (33, .invokevirtual 386, 3), (36, .istore 5, 2), (38, .iload 5, 2), (40, .ifCond .ne 22, 3), (43, .iload_n 1, 1), (44, .aload_n 0, 1), (45, .getfield 268, 3), (48, .iload 4, 2), (50, .iaload, 1), (51, .if_icmp .ne 7, 3), (54, .iconst 1, 1), (55, .goto 51, 3), (58, .iconst 0, 1), (59, .goto 47, 3), (62, .iload 5, 2), (64, .iconst 1, 1), (65, .if_icmp .ne 17, 3), (68, .iload_n 1, 1), (69, .bipush 10, 2), (71, .if_icmp .ne 7, 3), (74, .iconst 1, 1), (75, .goto 31, 3), (78, .iconst 0, 1), (79, .goto 27, 3), (82, .iload_n 1, 1), (83, .bipush 11, 2), (85, .aload_n 0, 1), (86, .getfield 39, 3), (89, .aload_n 0, 1), (90, .getfield 265, 3), (93, .iload 4, 2), (95, .iaload, 1), (96, .iaload, 1), (97, .iadd, 1), (98, .if_icmp .ne 7, 3), (101, .iconst 1, 1), (102, .goto 4, 3), (105, .iconst 0, 1), (106, .istore 6, 2), (108, .lload_n 2, 1), (109, .iload 6, 2), (111, .ifCond .eq 14, 3)]
def z_i180_1 : List (Nat × Instr × Nat) := [(114, .aload_n 0, 1), (115, .getfield 271, 3), (118, .iload 4, 2), (120, .iaload, 1), (121, .i2l, 1), (122, .goto 4, 3), (125, .lconst 0, 1), (126, .ladd, 1), (127, .lstore_n 2, 1), (128, .iinc 4 1, 3), (131, .goto (-110), 3), (134, .lload_n 2, 1), (135, .lreturn, 1)]
def z_m180 : zM := (⟨"DustYardsModel", "finds", "(I)J"⟩, prog_14_method_53_code, 7, (some .long), 12, z_i180_0 ++ z_i180_1)
set_option maxRecDepth 100000 in
theorem z_d180_0 : ∀ q ∈ z_i180_0, decode prog_14_method_53_code q.1 = .ok q.2 := by decide +kernel
set_option maxRecDepth 100000 in
theorem z_d180_1 : ∀ q ∈ z_i180_1, decode prog_14_method_53_code q.1 = .ok q.2 := by decide +kernel
set_option maxRecDepth 100000 in
theorem z_ok180 : z_okM z_m180 := ⟨z_in (z_s6 (List.mem_of_getElem? (i := 207) rfl)) rfl, List.forall_mem_append.mpr ⟨z_d180_0, z_d180_1⟩, by decide +kernel, by decide +kernel, z_in (z_s1 (List.mem_of_getElem? (i := 17) (by decide +kernel))) (by decide +kernel), by decide +kernel, plainFor_of_name (by decide +kernel)⟩
def z_i181_0 : List (Nat × Instr × Nat) := [(0, .iload_n 1, 1), (1, .invokestatic 24, 3), (4, .ifCond .eq 40, 3), (7, .iload_n 2, 1), (8, .i2l, 1), (9, .lconst 1, 1), (10, .ldc2_w 108, 3), (13, .invokestatic 3, 3), (16, .ifCond .eq 28, 3), (19, .iload_n 3, 1), (20, .i2l, 1), (21, .lconst 0, 1), (22, .ldc2_w 15, 3), (25, .invokestatic 3, 3), (28, .ifCond .eq 16, 3), (31, .iload 4, 2), (33, .i2l, 1), (34, .lconst 0, 1), (35, .ldc2_w 31, 3), (38, .invokestatic 3, 3), (41, .ifCond .ne 6, 3), (44, .bipush (-2), 2), (46, .ireturn, 1), (47, .aload_n 0, 1), (48, .getfield 391, 3), (51, .bipush 12, 2), (53, .if_icmp .ne 6, 3), (56, .bipush (-4), 2), (58, .ireturn, 1), (59, .aload_n 0, 1), (60, .getfield 274, 3), (63, .aload_n 0, 1), (64, .getfield 391, 3), (67, .iload_n 1, 1), (68, .iastore, 1), (69, .aload_n 0, 1), (70, .getfield 277, 3), (73, .aload_n 0, 1), (74, .getfield 391, 3), (77, .iload_n 2, 1), (78, .iastore, 1), (79, .aload_n 0, 1), (80, .getfield 280, 3), (83, .aload_n 0, 1), (84, .getfield 391, 3), (87, .iload_n 3, 1), (88, .iastore, 1), (89, .aload_n 0, 1), (90, .getfield 283, 3), (93, .aload_n 0, 1), (94, .getfield 391, 3), (97, .iload 4, 2), (99, .iastore, 1), (100, .aload_n 0, 1), (101, .dup, 1), (102, .getfield 391, 3), (105, .iconst 1, 1), (106, .iadd, 1), (107, .putfield 391, 3), (110, .aload_n 0, 1)]
def z_i181_1 : List (Nat × Instr × Nat) := [(111, .getfield 391, 3), (114, .iconst 1, 1), (115, .isub, 1), (116, .ireturn, 1)]
def z_m181 : zM := (⟨"DustYardsModel", "door", "(IIII)I"⟩, prog_14_method_54_code, 5, (some .int), 12, z_i181_0 ++ z_i181_1)
set_option maxRecDepth 100000 in
theorem z_d181_0 : ∀ q ∈ z_i181_0, decode prog_14_method_54_code q.1 = .ok q.2 := by decide +kernel
set_option maxRecDepth 100000 in
theorem z_d181_1 : ∀ q ∈ z_i181_1, decode prog_14_method_54_code q.1 = .ok q.2 := by decide +kernel
set_option maxRecDepth 100000 in
theorem z_ok181 : z_okM z_m181 := ⟨z_in (z_s6 (List.mem_of_getElem? (i := 212) rfl)) rfl, List.forall_mem_append.mpr ⟨z_d181_0, z_d181_1⟩, by decide +kernel, by decide +kernel, z_in (z_s1 (List.mem_of_getElem? (i := 17) (by decide +kernel))) (by decide +kernel), by decide +kernel, plainFor_of_name (by decide +kernel)⟩
def z_i182_0 : List (Nat × Instr × Nat) := [(0, .iconst 0, 1), (1, .istore_n 3, 1), (2, .iconst 0, 1), (3, .istore 4, 2), (5, .iload 4, 2), (7, .aload_n 0, 1), (8, .getfield 394, 3), (11, .if_icmp .ge 44, 3), (14, .iload_n 3, 1), (15, .aload_n 0, 1), (16, .getfield 289, 3), (19, .iload 4, 2), (21, .iaload, 1), (22, .iload_n 2, 1), (23, .if_icmp .ne 23, 3), (26, .aload_n 0, 1), (27, .getfield 274, 3), (30, .aload_n 0, 1), (31, .getfield 286, 3), (34, .iload 4, 2), (36, .iaload, 1), (37, .iaload, 1), (38, .iload_n 1, 1), (39, .if_icmp .ne 7, 3), (42, .iconst 1, 1), (43, .goto 4, 3), (46, .iconst 0, 1), (47, .iadd, 1), (48, .istore_n 3, 1), (49, .iinc 4 1, 3), (52, .goto (-47), 3), (55, .iload_n 3, 1), (56, .ireturn, 1)]
def z_m182 : zM := (⟨"DustYardsModel", "missedIn", "(II)I"⟩, prog_14_method_55_code, 5, (some .int), 12, z_i182_0)
set_option maxRecDepth 100000 in
theorem z_d182_0 : ∀ q ∈ z_i182_0, decode prog_14_method_55_code q.1 = .ok q.2 := by decide +kernel
set_option maxRecDepth 100000 in
theorem z_ok182 : z_okM z_m182 := ⟨z_in (z_s6 (List.mem_of_getElem? (i := 173) rfl)) rfl, z_d182_0, by decide +kernel, by decide +kernel, z_in (z_s1 (List.mem_of_getElem? (i := 17) (by decide +kernel))) (by decide +kernel), by decide +kernel, plainFor_of_name (by decide +kernel)⟩
def z_i183_0 : List (Nat × Instr × Nat) := [(0, .iload_n 1, 1), (1, .ifCond .lt 11, 3), (4, .iload_n 1, 1), (5, .aload_n 0, 1), (6, .getfield 391, 3), (9, .if_icmp .lt 6, 3), (12, .bipush (-2), 2), (14, .ireturn, 1), (15, .aload_n 0, 1), (16, .getfield 280, 3), (19, .iload_n 1, 1), (20, .iaload, 1), (21, .aload_n 0, 1), (22, .getfield 9, 3), (25, .bipush 6, 2), (27, .irem, 1), (28, .if_icmp .eq 7, 3), (31, .iconst 1, 1), (32, .goto 4, 3), (35, .iconst 0, 1), (36, .istore_n 2, 1), (37, .iconst 0, 1), (38, .istore_n 3, 1), (39, .iload_n 3, 1), (40, .aload_n 0, 1), (41, .getfield 394, 3), (44, .if_icmp .ge 42, 3), (47, .iload_n 2, 1), (48, .ifCond .ne 26, 3), (51, .aload_n 0, 1), (52, .getfield 289, 3), (55, .iload_n 3, 1), (56, .iaload, 1), (57, .aload_n 0, 1), (58, .getfield 9, 3), (61, .if_icmp .ne 17, 3), (64, .aload_n 0, 1), (65, .getfield 286, 3), (68, .iload_n 3, 1), (69, .iaload, 1), (70, .iload_n 1, 1), (71, .if_icmp .ne 7, 3), (74, .iconst 1, 1), (75, .goto 4, 3), (78, .iconst 0, 1), (79, .istore_n 2, 1), (80, .iinc 3 1, 3), (83, .goto (-44), 3), (86, .iload_n 2, 1), (87, .ifCond .eq 6, 3), (90, .bipush (-3), 2), (92, .ireturn, 1), (93, .aload_n 0, 1), (94, .getfield 394, 3), (97, .bipush 60, 2), (99, .if_icmp .ne 6, 3), (102, .bipush (-4), 2), (104, .ireturn, 1), (105, .aload_n 0, 1), (106, .getfield 286, 3)]
def z_i183_1 : List (Nat × Instr × Nat) := [(109, .aload_n 0, 1), (110, .getfield 394, 3), (113, .iload_n 1, 1), (114, .iastore, 1), (115, .aload_n 0, 1), (116, .getfield 289, 3), (119, .aload_n 0, 1), (120, .getfield 394, 3), (123, .aload_n 0, 1), (124, .getfield 9, 3), (127, .iastore, 1), (128, .aload_n 0, 1), (129, .dup, 1), (130, .getfield 394, 3), (133, .iconst 1, 1), (134, .iadd, 1), (135, .putfield 394, 3), (138, .aload_n 0, 1), (139, .aload_n 0, 1), (140, .getfield 274, 3), (143, .iload_n 1, 1), (144, .iaload, 1), (145, .aload_n 0, 1), (146, .getfield 9, 3), (149, .invokevirtual 235, 3), (152, .ireturn, 1)]
def z_m183 : zM := (⟨"DustYardsModel", "miss", "(I)I"⟩, prog_14_method_56_code, 4, (some .int), 12, z_i183_0 ++ z_i183_1)
set_option maxRecDepth 100000 in
theorem z_d183_0 : ∀ q ∈ z_i183_0, decode prog_14_method_56_code q.1 = .ok q.2 := by decide +kernel
set_option maxRecDepth 100000 in
theorem z_d183_1 : ∀ q ∈ z_i183_1, decode prog_14_method_56_code q.1 = .ok q.2 := by decide +kernel
set_option maxRecDepth 100000 in
theorem z_ok183 : z_okM z_m183 := ⟨z_in (z_s6 (List.mem_of_getElem? (i := 216) rfl)) rfl, List.forall_mem_append.mpr ⟨z_d183_0, z_d183_1⟩, by decide +kernel, by decide +kernel, z_in (z_s1 (List.mem_of_getElem? (i := 17) (by decide +kernel))) (by decide +kernel), by decide +kernel, plainFor_of_name (by decide +kernel)⟩
def z_i184_0 : List (Nat × Instr × Nat) := [(0, .iconst 0, 1), (1, .istore_n 2, 1), (2, .iconst 0, 1), (3, .istore_n 3, 1), (4, .iload_n 3, 1), (5, .aload_n 0, 1), (6, .getfield 391, 3), (9, .if_icmp .ge 38, 3), (12, .aload_n 0, 1), (13, .getfield 280, 3), (16, .iload_n 3, 1), (17, .iaload, 1), (18, .iload_n 1, 1), (19, .if_icmp .ne 22, 3), (22, .iload_n 2, 1), (23, .bipush 8, 2), (25, .if_icmp .ne 6, 3), (28, .bipush 9, 2), (30, .ireturn, 1), (31, .aload_n 0, 1), (32, .getfield 292, 3), (35, .iload_n 2, 1), (36, .iload_n 3, 1), (37, .iastore, 1), (38, .iinc 2 1, 3), (41, .iinc 3 1, 3), (44, .goto (-40), 3), (47, .iload_n 2, 1), (48, .ireturn, 1)]
def z_m184 : zM := (⟨"DustYardsModel", "choose", "(I)I"⟩, prog_14_method_57_code, 4, (some .int), 12, z_i184_0)
set_option maxRecDepth 100000 in
theorem z_d184_0 : ∀ q ∈ z_i184_0, decode prog_14_method_57_code q.1 = .ok q.2 := by decide +kernel
set_option maxRecDepth 100000 in
theorem z_ok184 : z_okM z_m184 := ⟨z_in (z_s6 (List.mem_of_getElem? (i := 224) rfl)) rfl, z_d184_0, by decide +kernel, by decide +kernel, z_in (z_s1 (List.mem_of_getElem? (i := 17) (by decide +kernel))) (by decide +kernel), by decide +kernel, plainFor_of_name (by decide +kernel)⟩
def z_i185_0 : List (Nat × Instr × Nat) := [(0, .iconst 1, 1), (1, .istore_n 2, 1), (2, .iload_n 2, 1), (3, .iconst 1, 1), (4, .iload_n 1, 1), (5, .ishl, 1), (6, .if_icmp .ge 53, 3), (9, .iconst 0, 1), (10, .istore_n 3, 1), (11, .iload_n 2, 1), (12, .iload_n 3, 1), (13, .ishr, 1), (14, .iconst 1, 1), (15, .iand, 1), (16, .ifCond .ne 9, 3), (19, .iinc 3 1, 3), (22, .goto (-11), 3), (25, .aload_n 0, 1), (26, .getfield 295, 3), (29, .iload_n 2, 1), (30, .aload_n 0, 1), (31, .getfield 295, 3), (34, .iload_n 2, 1), (35, .iload_n 2, 1), (36, .iconst 1, 1), (37, .isub, 1), (38, .iand, 1), (39, .iaload, 1), (40, .aload_n 0, 1), (41, .getfield 277, 3), (44, .aload_n 0, 1), (45, .getfield 292, 3), (48, .iload_n 3, 1), (49, .iaload, 1), (50, .iaload, 1), (51, .iadd, 1), (52, .iastore, 1), (53, .iinc 2 1, 3), (56, .goto (-54), 3), (59, .return_, 1)]
def z_m185 : zM := (⟨"DustYardsModel", "weighSets", "(I)V"⟩, prog_14_method_58_code, 4, none, 12, z_i185_0)
set_option maxRecDepth 100000 in
theorem z_d185_0 : ∀ q ∈ z_i185_0, decode prog_14_method_58_code q.1 = .ok q.2 := by decide +kernel
set_option maxRecDepth 100000 in
theorem z_ok185 : z_okM z_m185 := ⟨z_in (z_s6 (List.mem_of_getElem? (i := 232) rfl)) rfl, z_d185_0, by decide +kernel, by decide +kernel, z_in (z_s1 (List.mem_of_getElem? (i := 17) (by decide +kernel))) (by decide +kernel), by decide +kernel, plainFor_of_name (by decide +kernel)⟩
def z_i186_0 : List (Nat × Instr × Nat) := [(0, .aload_n 0, 1), (1, .getfield 295, 3), (4, .iconst 0, 1), (5, .iconst 0, 1), (6, .iastore, 1), (7, .aload_n 0, 1), (8, .iload_n 1, 1), (9, .invokevirtual 397, 3), (12, .aload_n 0, 1), (13, .getfield 298, 3), (16, .iconst 0, 1), (17, .iconst 0, 1), (18, .iastore, 1), (19, .iconst 1, 1), (20, .istore_n 3, 1), (21, .iload_n 3, 1), (22, .iconst 1, 1), (23, .iload_n 1, 1), (24, .ishl, 1), (25, .if_icmp .ge 141, 3), (28, .aload_n 0, 1), (29, .getfield 298, 3), (32, .iload_n 3, 1), (33, .bipush 9, 2), (35, .iastore, 1), (36, .iload_n 3, 1), (37, .iload_n 3, 1), (38, .ineg, 1), (39, .iand, 1), (40, .istore 4, 2), (42, .iload_n 3, 1), (43, .iload 4, 2), (45, .iconst (-1), 1), (46, .ixor, 1), (47, .iand, 1), (48, .istore 5, 2), (50, .iload 5, 2), (52, .istore 6, 2), (54, .iload 6, 2), (56, .ifCond .lt 104, 3), (59, .iload 6, 2), (61, .iload 4, 2), (63, .ior, 1), (64, .istore 7, 2), (66, .aload_n 0, 1), (67, .getfield 295, 3), (70, .iload 7, 2), (72, .iaload, 1), (73, .iload_n 2, 1), (74, .if_icmp .gt 29, 3), (77, .aload_n 0, 1), (78, .getfield 298, 3), (81, .iload_n 3, 1), (82, .iload 7, 2), (84, .iconst (-1), 1), (85, .ixor, 1), (86, .iand, 1), (87, .iaload, 1), (88, .iconst 1, 1), (89, .iadd, 1)]
def z_i186_1 : List (Nat × Instr × Nat) := [(90, .aload_n 0, 1), (91, .getfield 298, 3), (94, .iload_n 3, 1), (95, .iaload, 1), (96, .if_icmp .ge 7, 3), (99, .iconst 1, 1), (100, .goto 4, 3), (103, .iconst 0, 1), (104, .istore 8, 2), (106, .aload_n 0, 1), (107, .getfield 298, 3), (110, .iload_n 3, 1), (111, .iload 8, 2), (113, .ifCond .eq 19, 3), (116, .aload_n 0, 1), (117, .getfield 298, 3), (120, .iload_n 3, 1), (121, .iload 7, 2), (123, .iconst (-1), 1), (124, .ixor, 1), (125, .iand, 1), (126, .iaload, 1), (127, .iconst 1, 1), (128, .iadd, 1), (129, .goto 9, 3), (132, .aload_n 0, 1), (133, .getfield 298, 3), (136, .iload_n 3, 1), (137, .iaload, 1), (138, .iastore, 1), (139, .iload 6, 2), (141, .ifCond .ne 7, 3), (144, .iconst (-1), 1), (145, .goto 10, 3), (148, .iload 6, 2), (150, .iconst 1, 1), (151, .isub, 1), (152, .iload 5, 2), (154, .iand, 1), (155, .istore 6, 2), (157, .goto (-103), 3), (160, .iinc 3 1, 3), (163, .goto (-142), 3), (166, .aload_n 0, 1), (167, .getfield 298, 3), (170, .iconst 1, 1), (171, .iload_n 1, 1), (172, .ishl, 1), (173, .iconst 1, 1), (174, .isub, 1), (175, .iaload, 1), (176, .ireturn, 1)]
def z_m186 : zM := (⟨"DustYardsModel", "fewestCarts", "(II)I"⟩, prog_14_method_59_code, 9, (some .int), 12, z_i186_0 ++ z_i186_1)
set_option maxRecDepth 100000 in
theorem z_d186_0 : ∀ q ∈ z_i186_0, decode prog_14_method_59_code q.1 = .ok q.2 := by decide +kernel
set_option maxRecDepth 100000 in
theorem z_d186_1 : ∀ q ∈ z_i186_1, decode prog_14_method_59_code q.1 = .ok q.2 := by decide +kernel
set_option maxRecDepth 100000 in
theorem z_ok186 : z_okM z_m186 := ⟨z_in (z_s6 (List.mem_of_getElem? (i := 228) rfl)) rfl, List.forall_mem_append.mpr ⟨z_d186_0, z_d186_1⟩, by decide +kernel, by decide +kernel, z_in (z_s1 (List.mem_of_getElem? (i := 17) (by decide +kernel))) (by decide +kernel), by decide +kernel, plainFor_of_name (by decide +kernel)⟩
def z_i187_0 : List (Nat × Instr × Nat) := [(0, .iload_n 1, 1), (1, .i2l, 1), (2, .lconst 0, 1), (3, .ldc2_w 15, 3), (6, .invokestatic 3, 3), (9, .ifCond .eq 27, 3), (12, .iload_n 2, 1), (13, .i2l, 1), (14, .lconst 1, 1), (15, .ldc2_w 31, 3), (18, .invokestatic 3, 3), (21, .ifCond .eq 15, 3), (24, .iload_n 3, 1), (25, .i2l, 1), (26, .lconst 0, 1), (27, .ldc2_w 89, 3), (30, .invokestatic 3, 3), (33, .ifCond .ne 6, 3), (36, .bipush (-2), 2), (38, .ireturn, 1), (39, .aload_n 0, 1), (40, .iload_n 1, 1), (41, .invokevirtual 400, 3), (44, .istore 4, 2), (46, .iload 4, 2), (48, .bipush 8, 2), (50, .if_icmp .le 6, 3), (53, .bipush (-3), 2), (55, .ireturn, 1), (56, .iconst 0, 1), (57, .istore 5, 2), (59, .iload 5, 2), (61, .iload 4, 2), (63, .if_icmp .ge 45, 3), (66, .aload_n 0, 1), (67, .getfield 277, 3), (70, .aload_n 0, 1), (71, .getfield 292, 3), (74, .iload 5, 2), (76, .iaload, 1), (77, .iaload, 1), (78, .iload_n 2, 1), (79, .if_icmp .gt 21, 3), (82, .iconst 2, 1), (83, .aload_n 0, 1), (84, .getfield 283, 3), (87, .aload_n 0, 1), (88, .getfield 292, 3), (91, .iload 5, 2), (93, .iaload, 1), (94, .iaload, 1), (95, .imul, 1), (96, .iload_n 3, 1), (97, .if_icmp .le 5, 3), (100, .iconst (-1), 1), (101, .ireturn, 1), (102, .iinc 5 1, 3), (105, .goto (-46), 3), (108, .aload_n 0, 1), (109, .iload 4, 2)]
def z_i187_1 : List (Nat × Instr × Nat) := [(111, .iload_n 2, 1), (112, .invokevirtual 403, 3), (115, .ireturn, 1)]
def z_m187 : zM := (⟨"DustYardsModel", "rounds", "(III)I"⟩, prog_14_method_60_code, 6, (some .int), 12, z_i187_0 ++ z_i187_1)
set_option maxRecDepth 100000 in
theorem z_d187_0 : ∀ q ∈ z_i187_0, decode prog_14_method_60_code q.1 = .ok q.2 := by decide +kernel
set_option maxRecDepth 100000 in
theorem z_d187_1 : ∀ q ∈ z_i187_1, decode prog_14_method_60_code q.1 = .ok q.2 := by decide +kernel
set_option maxRecDepth 100000 in
theorem z_ok187 : z_okM z_m187 := ⟨z_in (z_s6 (List.mem_of_getElem? (i := 220) rfl)) rfl, List.forall_mem_append.mpr ⟨z_d187_0, z_d187_1⟩, by decide +kernel, by decide +kernel, z_in (z_s1 (List.mem_of_getElem? (i := 17) (by decide +kernel))) (by decide +kernel), by decide +kernel, plainFor_of_name (by decide +kernel)⟩
def z_i188_0 : List (Nat × Instr × Nat) := [(0, .iload_n 1, 1), (1, .i2l, 1), (2, .lconst 0, 1), (3, .ldc2_w 108, 3), (6, .invokestatic 3, 3), (9, .ifCond .eq 15, 3), (12, .iload_n 2, 1), (13, .i2l, 1), (14, .lconst 0, 1), (15, .ldc2_w 108, 3), (18, .invokestatic 3, 3), (21, .ifCond .ne 6, 3), (24, .bipush (-2), 2), (26, .ireturn, 1), (27, .aload_n 0, 1), (28, .getfield 406, 3), (31, .iconst 5, 1), (32, .if_icmp .ne 6, 3), (35, .bipush (-4), 2), (37, .ireturn, 1), (38, .aload_n 0, 1), (39, .getfield 301, 3), (42, .aload_n 0, 1), (43, .getfield 406, 3), (46, .iload_n 1, 1), (47, .iastore, 1), (48, .aload_n 0, 1), (49, .getfield 304, 3), (52, .aload_n 0, 1), (53, .getfield 406, 3), (56, .iload_n 2, 1), (57, .iastore, 1), (58, .aload_n 0, 1), (59, .dup, 1), (60, .getfield 406, 3), (63, .iconst 1, 1), (64, .iadd, 1), (65, .putfield 406, 3), (68, .aload_n 0, 1), (69, .getfield 406, 3), (72, .iconst 1, 1), (73, .isub, 1), (74, .ireturn, 1)]
def z_m188 : zM := (⟨"DustYardsModel", "row", "(II)I"⟩, prog_14_method_61_code, 3, (some .int), 12, z_i188_0)
set_option maxRecDepth 100000 in
theorem z_d188_0 : ∀ q ∈ z_i188_0, decode prog_14_method_61_code q.1 = .ok q.2 := by decide +kernel
set_option maxRecDepth 100000 in
theorem z_ok188 : z_okM z_m188 := ⟨z_in (z_s6 (List.mem_of_getElem? (i := 236) rfl)) rfl, z_d188_0, by decide +kernel, by decide +kernel, z_in (z_s1 (List.mem_of_getElem? (i := 17) (by decide +kernel))) (by decide +kernel), by decide +kernel, plainFor_of_name (by decide +kernel)⟩
def z_i189_0 : List (Nat × Instr × Nat) := [(0, .lconst 0, 1), (1, .lstore 5, 2), (3, .iconst 0, 1), (4, .istore 7, 2), (6, .iload 7, 2), (8, .aload_n 0, 1), (9, .getfield 21, 3), (12, .if_icmp .ge 83, 3), (15, .aload_n 0, 1), (16, .iload 7, 2), (18, .iload_n 1, 1), (19, .iload_n 2, 1), (20, .iload_n 3, 1), (21, .invokevirtual 369, 3), (24, .ifCond .eq 65, 3), (27, .lload 5, 2), (29, .aload_n 0, 1), (30, .iload 7, 2), (32, .iconst 0, 1), (33, .aload_n 0, 1), (34, .getfield 60, 3), (37, .iload 7, 2), (39, .iaload, 1), (40, .invokevirtual 66, 3), (43, .aload_n 0, 1), (44, .getfield 301, 3), (47, .iload 4, 2), (49, .iaload, 1), (50, .imul, 1), (51, .bipush 100, 2), (53, .idiv, 1), (54, .i2l, 1), (55, .ladd, 1), (56, .lstore 5, 2), (58, .lload 5, 2), (60, .aload_n 0, 1), (61, .iload 7, 2), (63, .iconst 1, 1), (64, .aload_n 0, 1), (65, .getfield 60, 3), (68, .iload 7, 2), (70, .iaload, 1), (71, .invokevirtual 66, 3), (74, .aload_n 0, 1), (75, .getfield 304, 3), (78, .iload 4, 2), (80, .iaload, 1), (81, .imul, 1), (82, .bipush 100, 2), (84, .idiv, 1), (85, .i2l, 1), (86, .ladd, 1), (87, .lstore 5, 2), (89, .iinc 7 1, 3), (92, .goto (-86), 3), (95, .lload 5, 2), (97, .lreturn, 1)]
def z_m189 : zM := (⟨"DustYardsModel", "worthBy", "(IIII)J"⟩, prog_14_method_62_code, 8, (some .long), 12, z_i189_0)
set_option maxRecDepth 100000 in
theorem z_d189_0 : ∀ q ∈ z_i189_0, decode prog_14_method_62_code q.1 = .ok q.2 := by decide +kernel
set_option maxRecDepth 100000 in
theorem z_ok189 : z_okM z_m189 := ⟨z_in (z_s7 (List.mem_of_getElem? (i := 4) rfl)) rfl, z_d189_0, by decide +kernel, by decide +kernel, z_in (z_s1 (List.mem_of_getElem? (i := 17) (by decide +kernel))) (by decide +kernel), by decide +kernel, plainFor_of_name (by decide +kernel)⟩
def z_i190_0 : List (Nat × Instr × Nat) := [(0, .iload_n 1, 1), (1, .invokestatic 24, 3), (4, .ifCond .eq 26, 3), (7, .iload_n 2, 1), (8, .iload_n 3, 1), (9, .invokestatic 365, 3), (12, .ifCond .eq 18, 3), (15, .iload 4, 2), (17, .iconst (-1), 1), (18, .if_icmp .lt 12, 3), (21, .iload 4, 2), (23, .aload_n 0, 1), (24, .getfield 406, 3), (27, .if_icmp .lt 7, 3), (30, .ldc2_w 363, 3), (33, .lreturn, 1), (34, .iload 4, 2), (36, .iconst (-1), 1), (37, .if_icmp .eq 13, 3), (40, .aload_n 0, 1), (41, .iload_n 1, 1), (42, .iload_n 2, 1), (43, .iload_n 3, 1), (44, .iload 4, 2), (46, .invokevirtual 409, 3), (49, .lreturn, 1), (50, .lconst 0, 1), (51, .lstore 5, 2), (53, .iconst 0, 1), (54, .istore 7, 2), (56, .iload 7, 2), (58, .aload_n 0, 1), (59, .getfield 406, 3), (62, .if_icmp .ge 42, 3), (65, .aload_n 0, 1), (66, .iload_n 1, 1), (67, .iload_n 2, 1), (68, .iload_n 3, 1), (69, .iload 7, 2), (71, .invokevirtual 409, 3), (74, .lstore 8, 2), (76, .iload 7, 2), (78, .ifCond .eq 11, 3), (81, .lload 8, 2), (83, .lload 5, 2), (85, .lcmp, 1), (86, .ifCond .ge 8, 3), (89, .lload 8, 2), (91, .goto 5, 3), (94, .lload 5, 2), (96, .lstore 5, 2), (98, .iinc 7 1, 3), (101, .goto (-45), 3), (104, .lload 5, 2), (106, .lreturn, 1)]
def z_m190 : zM := (⟨"DustYardsModel", "bid", "(IIII)J"⟩, prog_14_method_63_code, 10, (some .long), 12, z_i190_0)
set_option maxRecDepth 100000 in
theorem z_d190_0 : ∀ q ∈ z_i190_0, decode prog_14_method_63_code q.1 = .ok q.2 := by decide +kernel
set_option maxRecDepth 100000 in
theorem z_ok190 : z_okM z_m190 := ⟨z_in (z_s7 (List.mem_of_getElem? (i := 0) rfl)) rfl, z_d190_0, by decide +kernel, by decide +kernel, z_in (z_s1 (List.mem_of_getElem? (i := 17) (by decide +kernel))) (by decide +kernel), by decide +kernel, plainFor_of_name (by decide +kernel)⟩
def z_i191_0 : List (Nat × Instr × Nat) := [(0, .iload_n 1, 1), (1, .i2l, 1), (2, .lconst 0, 1), (3, .ldc2_w 378, 3), (6, .invokestatic 3, 3), (9, .ifCond .eq 22, 3), (12, .iload_n 2, 1), (13, .invokestatic 28, 3), (16, .ifCond .eq 15, 3), (19, .iload_n 3, 1), (20, .i2l, 1), (21, .lconst 0, 1), (22, .ldc2_w 108, 3), (25, .invokestatic 3, 3), (28, .ifCond .ne 6, 3), (31, .bipush (-2), 2), (33, .ireturn, 1), (34, .aload_n 0, 1), (35, .getfield 307, 3), (38, .iconst 5, 1), (39, .iload_n 1, 1), (40, .imul, 1), (41, .iload_n 2, 1), (42, .iadd, 1), (43, .iaload, 1), (44, .istore 4, 2), (46, .aload_n 0, 1), (47, .getfield 307, 3), (50, .iconst 5, 1), (51, .iload_n 1, 1), (52, .imul, 1), (53, .iload_n 2, 1), (54, .iadd, 1), (55, .iload_n 3, 1), (56, .iastore, 1), (57, .iload 4, 2), (59, .ireturn, 1)]
def z_m191 : zM := (⟨"DustYardsModel", "wins", "(III)I"⟩, prog_14_method_64_code, 5, (some .int), 12, z_i191_0)
set_option maxRecDepth 100000 in
theorem z_d191_0 : ∀ q ∈ z_i191_0, decode prog_14_method_64_code q.1 = .ok q.2 := by decide +kernel
set_option maxRecDepth 100000 in
theorem z_ok191 : z_okM z_m191 := ⟨z_in (z_s7 (List.mem_of_getElem? (i := 8) rfl)) rfl, z_d191_0, by decide +kernel, by decide +kernel, z_in (z_s1 (List.mem_of_getElem? (i := 17) (by decide +kernel))) (by decide +kernel), by decide +kernel, plainFor_of_name (by decide +kernel)⟩
def z_i192_0 : List (Nat × Instr × Nat) := [(0, .iload_n 1, 1), (1, .iload_n 2, 1), (2, .if_icmp .ne 48, 3), (5, .iload 4, 2), (7, .aload_n 0, 1), (8, .getfield 413, 3), (11, .if_icmp .le 38, 3), (14, .aload_n 0, 1), (15, .iload 4, 2), (17, .putfield 413, 3), (20, .iconst 0, 1), (21, .istore 5, 2), (23, .iload 5, 2), (25, .iload_n 2, 1), (26, .if_icmp .ge 23, 3), (29, .aload_n 0, 1), (30, .getfield 313, 3), (33, .iload 5, 2), (35, .aload_n 0, 1), (36, .getfield 316, 3), (39, .iload 5, 2), (41, .iaload, 1), (42, .iastore, 1), (43, .iinc 5 1, 3), (46, .goto (-23), 3), (49, .return_, 1), (50, .iconst 0, 1), (51, .istore 5, 2), (53, .iload 5, 2), (55, .iconst 5, 1), (56, .if_icmp .ge 59, 3), (59, .iload_n 3, 1), (60, .iload 5, 2), (62, .ishr, 1), (63, .iconst 1, 1), (64, .iand, 1), (65, .ifCond .ne 44, 3), (68, .aload_n 0, 1), (69, .getfield 316, 3), (72, .iload_n 1, 1), (73, .iload 5, 2), (75, .iastore, 1), (76, .aload_n 0, 1), (77, .iload_n 1, 1), (78, .iconst 1, 1), (79, .iadd, 1), (80, .iload_n 2, 1), (81, .iload_n 3, 1), (82, .iconst 1, 1), (83, .iload 5, 2), (85, .ishl, 1), (86, .ior, 1), (87, .iload 4, 2), (89, .aload_n 0, 1), (90, .getfield 307, 3), (93, .iconst 5, 1), (94, .aload_n 0, 1), (95, .getfield 310, 3), (98, .iload_n 1, 1), (99, .iaload, 1)]
def z_i192_1 : List (Nat × Instr × Nat) := [(100, .imul, 1), (101, .iload 5, 2), (103, .iadd, 1), (104, .iaload, 1), (105, .iadd, 1), (106, .invokevirtual 416, 3), (109, .iinc 5 1, 3), (112, .goto (-59), 3), (115, .return_, 1)]
def z_m192 : zM := (⟨"DustYardsModel", "layFrom", "(IIII)V"⟩, prog_14_method_65_code, 6, none, 12, z_i192_0 ++ z_i192_1)
set_option maxRecDepth 100000 in
theorem z_d192_0 : ∀ q ∈ z_i192_0, decode prog_14_method_65_code q.1 = .ok q.2 := by decide +kernel
set_option maxRecDepth 100000 in
theorem z_d192_1 : ∀ q ∈ z_i192_1, decode prog_14_method_65_code q.1 = .ok q.2 := by decide +kernel
set_option maxRecDepth 100000 in
theorem z_ok192 : z_okM z_m192 := ⟨z_in (z_s7 (List.mem_of_getElem? (i := 21) rfl)) rfl, List.forall_mem_append.mpr ⟨z_d192_0, z_d192_1⟩, by decide +kernel, by decide +kernel, z_in (z_s1 (List.mem_of_getElem? (i := 17) (by decide +kernel))) (by decide +kernel), by decide +kernel, plainFor_of_name (by decide +kernel)⟩
def z_i193_0 : List (Nat × Instr × Nat) := [(0, .aload_n 0, 1), (1, .iconst (-1), 1), (2, .putfield 413, 3), (5, .aload_n 0, 1), (6, .iconst 0, 1), (7, .iload_n 1, 1), (8, .iconst 0, 1), (9, .iconst 0, 1), (10, .invokevirtual 416, 3), (13, .aload_n 0, 1), (14, .getfield 413, 3), (17, .ireturn, 1)]
def z_m193 : zM := (⟨"DustYardsModel", "layAll", "(I)I"⟩, prog_14_method_66_code, 2, (some .int), 12, z_i193_0)
set_option maxRecDepth 100000 in
theorem z_d193_0 : ∀ q ∈ z_i193_0, decode prog_14_method_66_code q.1 = .ok q.2 := by decide +kernel
set_option maxRecDepth 100000 in
theorem z_ok193 : z_okM z_m193 := ⟨z_in (z_s7 (List.mem_of_getElem? (i := 17) rfl)) rfl, z_d193_0, by decide +kernel, by decide +kernel, z_in (z_s1 (List.mem_of_getElem? (i := 17) (by decide +kernel))) (by decide +kernel), by decide +kernel, plainFor_of_name (by decide +kernel)⟩
def z_i194_0 : List (Nat × Instr × Nat) := [(0, .iload_n 1, 1), (1, .i2l, 1), (2, .lconst 0, 1), (3, .ldc2_w 420, 3), (6, .invokestatic 3, 3), (9, .ifCond .ne 6, 3), (12, .bipush (-2), 2), (14, .ireturn, 1), (15, .iconst 0, 1), (16, .istore_n 3, 1), (17, .iconst 0, 1), (18, .istore 4, 2), (20, .iload 4, 2), (22, .bipush 10, 2), (24, .if_icmp .ge 38, 3), (27, .iload_n 1, 1), (28, .iload 4, 2), (30, .ishr, 1), (31, .iconst 1, 1), (32, .iand, 1), (33, .iconst 1, 1), (34, .if_icmp .ne 22, 3), (37, .iload_n 3, 1), (38, .iconst 5, 1), (39, .if_icmp .ne 6, 3), (42, .bipush (-2), 2), (44, .ireturn, 1), (45, .aload_n 0, 1), (46, .getfield 310, 3), (49, .iload_n 3, 1), (50, .iload 4, 2), (52, .iastore, 1), (53, .iinc 3 1, 3), (56, .iinc 4 1, 3), (59, .goto (-39), 3), (62, .iload_n 2, 1), (63, .iconst (-1), 1), (64, .if_icmp .lt 8, 3), (67, .iload_n 2, 1), (68, .iload_n 3, 1), (69, .if_icmp .lt 5, 3), (72, .iconst (-1), 1), (73, .ireturn, 1), (74, .aload_n 0, 1), (75, .iload_n 3, 1), (76, .invokevirtual 422, 3), (79, .istore 4, 2), (81, .iload_n 2, 1), (82, .iconst (-1), 1), (83, .if_icmp .ne 8, 3), (86, .iload 4, 2), (88, .goto 9, 3), (91, .aload_n 0, 1), (92, .getfield 313, 3), (95, .iload_n 2, 1), (96, .iaload, 1), (97, .ireturn, 1)]
def z_m194 : zM := (⟨"DustYardsModel", "laid", "(II)I"⟩, prog_14_method_67_code, 5, (some .int), 12, z_i194_0)
set_option maxRecDepth 100000 in
theorem z_d194_0 : ∀ q ∈ z_i194_0, decode prog_14_method_67_code q.1 = .ok q.2 := by decide +kernel
set_option maxRecDepth 100000 in
theorem z_ok194 : z_okM z_m194 := ⟨z_in (z_s7 (List.mem_of_getElem? (i := 12) rfl)) rfl, z_d194_0, by decide +kernel, by decide +kernel, z_in (z_s1 (List.mem_of_getElem? (i := 17) (by decide +kernel))) (by decide +kernel), by decide +kernel, plainFor_of_name (by decide +kernel)⟩
def z_i195_0 : List (Nat × Instr × Nat) := [(0, .iload_n 1, 1), (1, .i2l, 1), (2, .lconst 1, 1), (3, .ldc2_w 31, 3), (6, .invokestatic 3, 3), (9, .ifCond .eq 15, 3), (12, .iload_n 2, 1), (13, .i2l, 1), (14, .lconst 0, 1), (15, .ldc2_w 31, 3), (18, .invokestatic 3, 3), (21, .ifCond .ne 6, 3), (24, .bipush (-2), 2), (26, .ireturn, 1), (27, .aload_n 0, 1), (28, .getfield 425, 3), (31, .bipush 8, 2), (33, .if_icmp .ne 6, 3), (36, .bipush (-4), 2), (38, .ireturn, 1), (39, .aload_n 0, 1), (40, .getfield 319, 3), (43, .aload_n 0, 1), (44, .getfield 425, 3), (47, .iload_n 1, 1), (48, .iastore, 1), (49, .aload_n 0, 1), (50, .getfield 322, 3), (53, .aload_n 0, 1), (54, .getfield 425, 3), (57, .iload_n 2, 1), (58, .iastore, 1), (59, .aload_n 0, 1), (60, .dup, 1), (61, .getfield 425, 3), (64, .iconst 1, 1), (65, .iadd, 1), (66, .putfield 425, 3), (69, .aload_n 0, 1), (70, .getfield 425, 3), (73, .iconst 1, 1), (74, .isub, 1), (75, .ireturn, 1)]
def z_m195 : zM := (⟨"DustYardsModel", "barge", "(II)I"⟩, prog_14_method_68_code, 3, (some .int), 12, z_i195_0)
set_option maxRecDepth 100000 in
theorem z_d195_0 : ∀ q ∈ z_i195_0, decode prog_14_method_68_code q.1 = .ok q.2 := by decide +kernel
set_option maxRecDepth 100000 in
theorem z_ok195 : z_okM z_m195 := ⟨z_in (z_s7 (List.mem_of_getElem? (i := 25) rfl)) rfl, z_d195_0, by decide +kernel, by decide +kernel, z_in (z_s1 (List.mem_of_getElem? (i := 17) (by decide +kernel))) (by decide +kernel), by decide +kernel, plainFor_of_name (by decide +kernel)⟩
def z_i196_0 : List (Nat × Instr × Nat) := [(0, .iconst 0, 1), (1, .istore_n 3, 1), (2, .iconst 0, 1), (3, .istore 4, 2), (5, .iload 4, 2), (7, .aload_n 0, 1), (8, .getfield 425, 3), (11, .if_icmp .ge 30, 3), (14, .iload_n 3, 1), (15, .iload_n 2, 1), (16, .iload 4, 2), (18, .ishr, 1), (19, .iconst 1, 1), (20, .iand, 1), (21, .iconst 1, 1), (22, .if_icmp .ne 10, 3), (25, .aload_n 1, 1), (26, .iload 4, 2), (28, .iaload, 1), (29, .goto 4, 3), (32, .iconst 0, 1), (33, .iadd, 1), (34, .istore_n 3, 1), (35, .iinc 4 1, 3), (38, .goto (-33), 3), (41, .iload_n 3, 1), (42, .ireturn, 1)]
def z_m196 : zM := (⟨"DustYardsModel", "sumOf", "([II)I"⟩, prog_14_method_69_code, 5, (some .int), 12, z_i196_0)
set_option maxRecDepth 100000 in
theorem z_d196_0 : ∀ q ∈ z_i196_0, decode prog_14_method_69_code q.1 = .ok q.2 := by decide +kernel
set_option maxRecDepth 100000 in
theorem z_ok196 : z_okM z_m196 := ⟨z_in (z_s7 (List.mem_of_getElem? (i := 37) rfl)) rfl, z_d196_0, by decide +kernel, by decide +kernel, z_in (z_s1 (List.mem_of_getElem? (i := 17) (by decide +kernel))) (by decide +kernel), by decide +kernel, plainFor_of_name (by decide +kernel)⟩
def z_i197_0 : List (Nat × Instr × Nat) := [(0, .iconst 0, 1), (1, .istore_n 2, 1), (2, .iconst 0, 1), (3, .istore_n 3, 1), (4, .iload_n 3, 1), (5, .aload_n 0, 1), (6, .getfield 425, 3), (9, .if_icmp .ge 78, 3), (12, .iconst 1, 1), (13, .iload_n 3, 1), (14, .ishl, 1), (15, .istore 4, 2), (17, .iload 4, 2), (19, .iconst 2, 1), (20, .iload_n 3, 1), (21, .ishl, 1), (22, .if_icmp .ge 59, 3), (25, .aload_n 0, 1), (26, .getfield 325, 3), (29, .iload 4, 2), (31, .aload_n 0, 1), (32, .getfield 325, 3), (35, .iload 4, 2), (37, .iconst 1, 1), (38, .iload_n 3, 1), (39, .ishl, 1), (40, .isub, 1), (41, .iaload, 1), (42, .aload_n 0, 1), (43, .getfield 319, 3), (46, .iload_n 3, 1), (47, .iaload, 1), (48, .iadd, 1), (49, .iastore, 1), (50, .aload_n 0, 1), (51, .getfield 328, 3), (54, .iload 4, 2), (56, .aload_n 0, 1), (57, .getfield 328, 3), (60, .iload 4, 2), (62, .iconst 1, 1), (63, .iload_n 3, 1), (64, .ishl, 1), (65, .isub, 1), (66, .iaload, 1), (67, .aload_n 0, 1), (68, .getfield 322, 3), (71, .iload_n 3, 1), (72, .iaload, 1), (73, .iadd, 1), (74, .iastore, 1), (75, .iinc 4 1, 3), (78, .goto (-61), 3), (81, .iinc 3 1, 3), (84, .goto (-80), 3), (87, .iconst 1, 1), (88, .istore_n 3, 1), (89, .iload_n 3, 1), (90, .iconst 1, 1), (91, .aload_n 0, 1)]
def z_i197_1 : List (Nat × Instr × Nat) := [(92, .getfield 425, 3), (95, .ishl, 1), (96, .if_icmp .ge 82, 3), (99, .aload_n 0, 1), (100, .getfield 328, 3), (103, .iload_n 3, 1), (104, .iaload, 1), (105, .aload_n 0, 1), (106, .getfield 328, 3), (109, .iload_n 2, 1), (110, .iaload, 1), (111, .if_icmp .gt 33, 3), (114, .aload_n 0, 1), (115, .getfield 328, 3), (118, .iload_n 3, 1), (119, .iaload, 1), (120, .aload_n 0, 1), (121, .getfield 328, 3), (124, .iload_n 2, 1), (125, .iaload, 1), (126, .if_icmp .ne 22, 3), (129, .aload_n 0, 1), (130, .getfield 325, 3), (133, .iload_n 3, 1), (134, .iaload, 1), (135, .aload_n 0, 1), (136, .getfield 325, 3), (139, .iload_n 2, 1), (140, .iaload, 1), (141, .if_icmp .ge 7, 3), (144, .iconst 1, 1), (145, .goto 4, 3), (148, .iconst 0, 1), (149, .istore 4, 2), (151, .aload_n 0, 1), (152, .getfield 325, 3), (155, .iload_n 3, 1), (156, .iaload, 1), (157, .iload_n 1, 1), (158, .if_icmp .gt 12, 3), (161, .iload 4, 2), (163, .ifCond .eq 7, 3), (166, .iload_n 3, 1), (167, .goto 4, 3), (170, .iload_n 2, 1), (171, .istore_n 2, 1), (172, .iinc 3 1, 3), (175, .goto (-86), 3), (178, .iload_n 2, 1), (179, .ireturn, 1)]
def z_m197 : zM := (⟨"DustYardsModel", "bestTide", "(I)I"⟩, prog_14_method_70_code, 5, (some .int), 12, z_i197_0 ++ z_i197_1)
set_option maxRecDepth 100000 in
theorem z_d197_0 : ∀ q ∈ z_i197_0, decode prog_14_method_70_code q.1 = .ok q.2 := by decide +kernel
set_option maxRecDepth 100000 in
theorem z_d197_1 : ∀ q ∈ z_i197_1, decode prog_14_method_70_code q.1 = .ok q.2 := by decide +kernel
set_option maxRecDepth 100000 in
theorem z_ok197 : z_okM z_m197 := ⟨z_in (z_s7 (List.mem_of_getElem? (i := 33) rfl)) rfl, List.forall_mem_append.mpr ⟨z_d197_0, z_d197_1⟩, by decide +kernel, by decide +kernel, z_in (z_s1 (List.mem_of_getElem? (i := 17) (by decide +kernel))) (by decide +kernel), by decide +kernel, plainFor_of_name (by decide +kernel)⟩
def z_i198_0 : List (Nat × Instr × Nat) := [(0, .iload_n 1, 1), (1, .i2l, 1), (2, .lconst 0, 1), (3, .ldc2_w 89, 3), (6, .invokestatic 3, 3), (9, .ifCond .eq 13, 3), (12, .iload_n 2, 1), (13, .i2l, 1), (14, .lconst 0, 1), (15, .lconst 1, 1), (16, .invokestatic 3, 3), (19, .ifCond .ne 6, 3), (22, .bipush (-2), 2), (24, .ireturn, 1), (25, .aload_n 0, 1), (26, .iload_n 1, 1), (27, .invokevirtual 428, 3), (30, .istore_n 3, 1), (31, .iload_n 2, 1), (32, .ifCond .ne 7, 3), (35, .iload_n 3, 1), (36, .goto 12, 3), (39, .aload_n 0, 1), (40, .aload_n 0, 1), (41, .getfield 322, 3), (44, .iload_n 3, 1), (45, .invokevirtual 431, 3), (48, .ireturn, 1)]
def z_m198 : zM := (⟨"DustYardsModel", "tide", "(II)I"⟩, prog_14_method_71_code, 4, (some .int), 12, z_i198_0)
set_option maxRecDepth 100000 in
theorem z_d198_0 : ∀ q ∈ z_i198_0, decode prog_14_method_71_code q.1 = .ok q.2 := by decide +kernel
set_option maxRecDepth 100000 in
theorem z_ok198 : z_okM z_m198 := ⟨z_in (z_s7 (List.mem_of_getElem? (i := 29) rfl)) rfl, z_d198_0, by decide +kernel, by decide +kernel, z_in (z_s1 (List.mem_of_getElem? (i := 17) (by decide +kernel))) (by decide +kernel), by decide +kernel, plainFor_of_name (by decide +kernel)⟩
def z_i199_0 : List (Nat × Instr × Nat) := [(0, .iload_n 1, 1), (1, .i2l, 1), (2, .lconst 0, 1), (3, .ldc2_w 31, 3), (6, .invokestatic 3, 3), (9, .ifCond .eq 15, 3), (12, .iload_n 2, 1), (13, .i2l, 1), (14, .lconst 0, 1), (15, .ldc2_w 108, 3), (18, .invokestatic 3, 3), (21, .ifCond .ne 6, 3), (24, .bipush (-2), 2), (26, .ireturn, 1), (27, .aload_n 0, 1), (28, .getfield 435, 3), (31, .bipush 6, 2), (33, .if_icmp .ne 6, 3), (36, .bipush (-4), 2), (38, .ireturn, 1), (39, .aload_n 0, 1), (40, .getfield 331, 3), (43, .aload_n 0, 1), (44, .getfield 435, 3), (47, .iload_n 1, 1), (48, .iastore, 1), (49, .aload_n 0, 1), (50, .getfield 334, 3), (53, .aload_n 0, 1), (54, .getfield 435, 3), (57, .iload_n 2, 1), (58, .iastore, 1), (59, .aload_n 0, 1), (60, .dup, 1), (61, .getfield 435, 3), (64, .iconst 1, 1), (65, .iadd, 1), (66, .putfield 435, 3), (69, .aload_n 0, 1), (70, .getfield 435, 3), (73, .iconst 1, 1), (74, .isub, 1), (75, .ireturn, 1)]
def z_m199 : zM := (⟨"DustYardsModel", "buyer", "(II)I"⟩, prog_14_method_72_code, 3, (some .int), 12, z_i199_0)
set_option maxRecDepth 100000 in
theorem z_d199_0 : ∀ q ∈ z_i199_0, decode prog_14_method_72_code q.1 = .ok q.2 := by decide +kernel
set_option maxRecDepth 100000 in
theorem z_ok199 : z_okM z_m199 := ⟨z_in (z_s7 (List.mem_of_getElem? (i := 41) rfl)) rfl, z_d199_0, by decide +kernel, by decide +kernel, z_in (z_s1 (List.mem_of_getElem? (i := 17) (by decide +kernel))) (by decide +kernel), by decide +kernel, plainFor_of_name (by decide +kernel)⟩
def z_i200_0 : List (Nat × Instr × Nat) := [(0, .iload_n 1, 1), (1, .ifCond .lt 21, 3), (4, .iload_n 1, 1), (5, .aload_n 0, 1), (6, .getfield 435, 3), (9, .if_icmp .ge 13, 3), (12, .iload_n 2, 1), (13, .i2l, 1), (14, .lconst 0, 1), (15, .lconst 1, 1), (16, .invokestatic 3, 3), (19, .ifCond .ne 6, 3), (22, .bipush (-2), 2), (24, .ireturn, 1), (25, .aload_n 0, 1), (26, .getfield 337, 3), (29, .iload_n 1, 1), (30, .iaload, 1), (31, .istore_n 3, 1), (32, .aload_n 0, 1), (33, .getfield 337, 3), (36, .iload_n 1, 1), (37, .iload_n 2, 1), (38, .iastore, 1), (39, .iload_n 3, 1), (40, .ireturn, 1)]
def z_m200 : zM := (⟨"DustYardsModel", "stop", "(II)I"⟩, prog_14_method_73_code, 4, (some .int), 12, z_i200_0)
set_option maxRecDepth 100000 in
theorem z_d200_0 : ∀ q ∈ z_i200_0, decode prog_14_method_73_code q.1 = .ok q.2 := by decide +kernel
set_option maxRecDepth 100000 in
theorem z_ok200 : z_okM z_m200 := ⟨z_in (z_s7 (List.mem_of_getElem? (i := 45) rfl)) rfl, z_d200_0, by decide +kernel, by decide +kernel, z_in (z_s1 (List.mem_of_getElem? (i := 17) (by decide +kernel))) (by decide +kernel), by decide +kernel, plainFor_of_name (by decide +kernel)⟩
def z_i201_0 : List (Nat × Instr × Nat) := [(0, .iconst (-1), 1), (1, .istore_n 1, 1), (2, .iconst 0, 1), (3, .istore_n 2, 1), (4, .iload_n 2, 1), (5, .aload_n 0, 1), (6, .getfield 435, 3), (9, .if_icmp .ge 54, 3), (12, .aload_n 0, 1), (13, .getfield 337, 3), (16, .iload_n 2, 1), (17, .iaload, 1), (18, .ifCond .ne 37, 3), (21, .aload_n 0, 1), (22, .getfield 340, 3), (25, .iload_n 2, 1), (26, .iaload, 1), (27, .iconst (-1), 1), (28, .if_icmp .ne 27, 3), (31, .iload_n 1, 1), (32, .iconst (-1), 1), (33, .if_icmp .eq 18, 3), (36, .aload_n 0, 1), (37, .getfield 334, 3), (40, .iload_n 2, 1), (41, .iaload, 1), (42, .aload_n 0, 1), (43, .getfield 334, 3), (46, .iload_n 1, 1), (47, .iaload, 1), (48, .if_icmp .le 7, 3), (51, .iload_n 2, 1), (52, .goto 4, 3), (55, .iload_n 1, 1), (56, .istore_n 1, 1), (57, .iinc 2 1, 3), (60, .goto (-56), 3), (63, .iload_n 1, 1), (64, .ireturn, 1)]
def z_m201 : zM := (⟨"DustYardsModel", "nextBuyer", "()I"⟩, prog_14_method_74_code, 3, (some .int), 12, z_i201_0)
set_option maxRecDepth 100000 in
theorem z_d201_0 : ∀ q ∈ z_i201_0, decode prog_14_method_74_code q.1 = .ok q.2 := by decide +kernel
set_option maxRecDepth 100000 in
theorem z_ok201 : z_okM z_m201 := ⟨z_in (z_s7 (List.mem_of_getElem? (i := 57) rfl)) rfl, z_d201_0, by decide +kernel, by decide +kernel, z_in (z_s1 (List.mem_of_getElem? (i := 17) (by decide +kernel))) (by decide +kernel), by decide +kernel, plainFor_of_name (by decide +kernel)⟩
def z_i202_0 : List (Nat × Instr × Nat) := [(0, .iconst 0, 1), (1, .istore_n 1, 1), (2, .iload_n 1, 1), (3, .aload_n 0, 1), (4, .getfield 435, 3), (7, .if_icmp .ge 16, 3), (10, .aload_n 0, 1), (11, .getfield 340, 3), (14, .iload_n 1, 1), (15, .iconst (-1), 1), (16, .iastore, 1), (17, .iinc 1 1, 3), (20, .goto (-18), 3), (23, .aload_n 0, 1), (24, .getfield 91, 3), (27, .iconst 0, 1), (28, .iaload, 1), (29, .istore_n 1, 1), (30, .aload_n 0, 1), (31, .invokevirtual 438, 3), (34, .istore_n 2, 1), (35, .iload_n 2, 1), (36, .iconst (-1), 1), (37, .if_icmp .eq 36, 3), (40, .aload_n 0, 1), (41, .getfield 340, 3), (44, .iload_n 2, 1), (45, .iload_n 1, 1), (46, .aload_n 0, 1), (47, .getfield 331, 3), (50, .iload_n 2, 1), (51, .iaload, 1), (52, .invokestatic 442, 3), (55, .iastore, 1), (56, .iload_n 1, 1), (57, .aload_n 0, 1), (58, .getfield 340, 3), (61, .iload_n 2, 1), (62, .iaload, 1), (63, .isub, 1), (64, .istore_n 1, 1), (65, .aload_n 0, 1), (66, .invokevirtual 438, 3), (69, .istore_n 2, 1), (70, .goto (-35), 3), (73, .return_, 1)]
def z_m202 : zM := (⟨"DustYardsModel", "part", "()V"⟩, prog_14_method_75_code, 3, none, 12, z_i202_0)
set_option maxRecDepth 100000 in
theorem z_d202_0 : ∀ q ∈ z_i202_0, decode prog_14_method_75_code q.1 = .ok q.2 := by decide +kernel
set_option maxRecDepth 100000 in
theorem z_ok202 : z_okM z_m202 := ⟨z_in (z_s7 (List.mem_of_getElem? (i := 53) rfl)) rfl, z_d202_0, by decide +kernel, by decide +kernel, z_in (z_s1 (List.mem_of_getElem? (i := 17) (by decide +kernel))) (by decide +kernel), by decide +kernel, plainFor_of_name (by decide +kernel)⟩
def z_i203_0 : List (Nat × Instr × Nat) := [(0, .iload_n 1, 1), (1, .iconst (-1), 1), (2, .if_icmp .lt 11, 3), (5, .iload_n 1, 1), (6, .aload_n 0, 1), (7, .getfield 435, 3), (10, .if_icmp .lt 7, 3), (13, .ldc2_w 363, 3), (16, .lreturn, 1), (17, .aload_n 0, 1), (18, .invokevirtual 445, 3), (21, .iload_n 1, 1), (22, .ifCond .lt 15, 3), (25, .iconst 0, 1), (26, .aload_n 0, 1), (27, .getfield 340, 3), (30, .iload_n 1, 1), (31, .iaload, 1), (32, .invokestatic 373, 3), (35, .i2l, 1), (36, .lreturn, 1), (37, .lconst 0, 1), (38, .lstore_n 2, 1), (39, .iconst 0, 1), (40, .istore 4, 2), (42, .iload 4, 2), (44, .aload_n 0, 1), (45, .getfield 435, 3), (48, .if_icmp .ge 35, 3), (51, .lload_n 2, 1), (52, .iconst 0, 1), (53, .aload_n 0, 1), (54, .getfield 340, 3), (57, .iload 4, 2), (59, .iaload, 1), (60, .invokestatic 373, 3), (63, .aload_n 0, 1), (64, .getfield 334, 3), (67, .iload 4, 2), (69, .iaload, 1), (70, .imul, 1), (71, .bipush 100, 2), (73, .idiv, 1), (74, .i2l, 1), (75, .ladd, 1), (76, .lstore_n 2, 1), (77, .iinc 4 1, 3), (80, .goto (-38), 3), (83, .lload_n 2, 1), (84, .lreturn, 1)]
def z_m203 : zM := (⟨"DustYardsModel", "parted", "(I)J"⟩, prog_14_method_76_code, 5, (some .long), 12, z_i203_0)
set_option maxRecDepth 100000 in
theorem z_d203_0 : ∀ q ∈ z_i203_0, decode prog_14_method_76_code q.1 = .ok q.2 := by decide +kernel
set_option maxRecDepth 100000 in
theorem z_ok203 : z_okM z_m203 := ⟨z_in (z_s7 (List.mem_of_getElem? (i := 49) rfl)) rfl, z_d203_0, by decide +kernel, by decide +kernel, z_in (z_s1 (List.mem_of_getElem? (i := 17) (by decide +kernel))) (by decide +kernel), by decide +kernel, plainFor_of_name (by decide +kernel)⟩
def z_i204_0 : List (Nat × Instr × Nat) := [(0, .iload_n 1, 1), (1, .tableswitch 132 0 12 #[67, 72, 77, 82, 87, 92, 97, 102, 107, 112, 117, 122, 127], 67), (68, .aload_n 0, 1), (69, .getfield 9, 3), (72, .ireturn, 1), (73, .aload_n 0, 1), (74, .getfield 21, 3), (77, .ireturn, 1), (78, .aload_n 0, 1), (79, .getfield 110, 3), (82, .ireturn, 1), (83, .aload_n 0, 1), (84, .getfield 229, 3), (87, .ireturn, 1), (88, .aload_n 0, 1), (89, .getfield 127, 3), (92, .ireturn, 1), (93, .aload_n 0, 1), (94, .getfield 355, 3), (97, .ireturn, 1), (98, .aload_n 0, 1), (99, .getfield 380, 3), (102, .ireturn, 1), (103, .aload_n 0, 1), (104, .getfield 391, 3), (107, .ireturn, 1), (108, .aload_n 0, 1), (109, .getfield 394, 3), (112, .ireturn, 1), (113, .aload_n 0, 1), (114, .getfield 406, 3), (117, .ireturn, 1), (118, .aload_n 0, 1), (119, .getfield 425, 3), (122, .ireturn, 1), (123, .aload_n 0, 1), (124, .getfield 435, 3), (127, .ireturn, 1), (128, .aload_n 0, 1), (129, .getfield 102, 3), (132, .ireturn, 1), (133, .bipush (-2), 2), (135, .ireturn, 1)]
def z_m204 : zM := (⟨"DustYardsModel", "count", "(I)I"⟩, prog_14_method_77_code, 2, (some .int), 12, z_i204_0)
set_option maxRecDepth 100000 in
theorem z_d204_0 : ∀ q ∈ z_i204_0, decode prog_14_method_77_code q.1 = .ok q.2 := by decide +kernel
set_option maxRecDepth 100000 in
theorem z_ok204 : z_okM z_m204 := ⟨z_in (z_s7 (List.mem_of_getElem? (i := 62) rfl)) rfl, z_d204_0, by decide +kernel, by decide +kernel, z_in (z_s1 (List.mem_of_getElem? (i := 17) (by decide +kernel))) (by decide +kernel), by decide +kernel, plainFor_of_name (by decide +kernel)⟩
def z_i205_0 : List (Nat × Instr × Nat) := [(0, .iload_n 0, 1), (1, .i2l, 1), (2, .lconst 0, 1), (3, .ldc2_w 19, 3), (6, .invokestatic 3, 3), (9, .ireturn, 1)]
def z_m205 : zM := (⟨"DustYardsModel", "isSheet", "(I)Z"⟩, prog_14_method_78_code, 1, (some .boolean), 12, z_i205_0)
set_option maxRecDepth 100000 in
theorem z_d205_0 : ∀ q ∈ z_i205_0, decode prog_14_method_78_code q.1 = .ok q.2 := by decide +kernel
set_option maxRecDepth 100000 in
theorem z_ok205 : z_okM z_m205 := ⟨z_in (z_s7 (List.mem_of_getElem? (i := 69) rfl)) rfl, z_d205_0, by decide +kernel, by decide +kernel, z_in (z_s1 (List.mem_of_getElem? (i := 17) (by decide +kernel))) (by decide +kernel), by decide +kernel, plainFor_of_name (by decide +kernel)⟩
def z_i206_0 : List (Nat × Instr × Nat) := [(0, .iload_n 1, 1), (1, .invokestatic 448, 3), (4, .ifCond .eq 27, 3), (7, .iload_n 2, 1), (8, .i2l, 1), (9, .ldc2_w 451, 3), (12, .ldc2_w 358, 3), (15, .invokestatic 3, 3), (18, .ifCond .eq 13, 3), (21, .iload_n 2, 1), (22, .ifCond .lt 12, 3), (25, .iload_n 3, 1), (26, .bipush 40, 2), (28, .if_icmp .le 6, 3), (31, .bipush (-2), 2), (33, .ireturn, 1), (34, .iload_n 2, 1), (35, .ifCond .lt 10, 3), (38, .iload_n 3, 1), (39, .ifCond .ge 6, 3), (42, .bipush (-14), 2), (44, .ireturn, 1), (45, .aload_n 0, 1), (46, .getfield 343, 3), (49, .iload_n 1, 1), (50, .iload_n 2, 1), (51, .iastore, 1), (52, .aload_n 0, 1), (53, .getfield 346, 3), (56, .iload_n 1, 1), (57, .iload_n 2, 1), (58, .ifCond .ge 7, 3), (61, .iconst 0, 1), (62, .goto 4, 3), (65, .iload_n 3, 1), (66, .iastore, 1), (67, .iconst 0, 1), (68, .istore 4, 2), (70, .iload 4, 2), (72, .bipush 40, 2), (74, .if_icmp .ge 22, 3), (77, .aload_n 0, 1), (78, .getfield 349, 3), (81, .bipush 40, 2), (83, .iload_n 1, 1), (84, .imul, 1), (85, .iload 4, 2), (87, .iadd, 1), (88, .iconst 0, 1), (89, .iastore, 1), (90, .iinc 4 1, 3), (93, .goto (-23), 3), (96, .iconst 1, 1), (97, .ireturn, 1)]
def z_m206 : zM := (⟨"DustYardsModel", "sheet", "(III)I"⟩, prog_14_method_79_code, 5, (some .int), 12, z_i206_0)
set_option maxRecDepth 100000 in
theorem z_d206_0 : ∀ q ∈ z_i206_0, decode prog_14_method_79_code q.1 = .ok q.2 := by decide +kernel
set_option maxRecDepth 100000 in
theorem z_ok206 : z_okM z_m206 := ⟨z_in (z_s7 (List.mem_of_getElem? (i := 66) rfl)) rfl, z_d206_0, by decide +kernel, by decide +kernel, z_in (z_s1 (List.mem_of_getElem? (i := 17) (by decide +kernel))) (by decide +kernel), by decide +kernel, plainFor_of_name (by decide +kernel)⟩
def z_i207_0 : List (Nat × Instr × Nat) := [(0, .iload_n 0, 1), (1, .ifCond .ne 8, 3), (4, .iload_n 1, 1), (5, .i2b, 1), (6, .goto 14, 3), (9, .iload_n 0, 1), (10, .iconst 1, 1), (11, .if_icmp .ne 8, 3), (14, .iload_n 1, 1), (15, .i2s, 1), (16, .goto 4, 3), (19, .iload_n 1, 1), (20, .ireturn, 1)]
def z_m207 : zM := (⟨"DustYardsModel", "cutTo", "(II)I"⟩, prog_14_method_80_code, 2, (some .int), 12, z_i207_0)
set_option maxRecDepth 100000 in
theorem z_d207_0 : ∀ q ∈ z_i207_0, decode prog_14_method_80_code q.1 = .ok q.2 := by decide +kernel
set_option maxRecDepth 100000 in
theorem z_ok207 : z_okM z_m207 := ⟨z_in (z_s7 (List.mem_of_getElem? (i := 77) rfl)) rfl, z_d207_0, by decide +kernel, by decide +kernel, z_in (z_s1 (List.mem_of_getElem? (i := 17) (by decide +kernel))) (by decide +kernel), by decide +kernel, plainFor_of_name (by decide +kernel)⟩
def z_i208_0 : List (Nat × Instr × Nat) := [(0, .iload_n 1, 1), (1, .invokestatic 448, 3), (4, .ifCond .ne 6, 3), (7, .bipush (-2), 2), (9, .ireturn, 1), (10, .aload_n 0, 1), (11, .getfield 343, 3), (14, .iload_n 1, 1), (15, .iaload, 1), (16, .ifCond .ge 6, 3), (19, .bipush (-11), 2), (21, .ireturn, 1), (22, .iload_n 2, 1), (23, .i2l, 1), (24, .lconst 0, 1), (25, .aload_n 0, 1), (26, .getfield 346, 3), (29, .iload_n 1, 1), (30, .iaload, 1), (31, .iconst 1, 1), (32, .isub, 1), (33, .i2l, 1), (34, .invokestatic 3, 3), (37, .ifCond .ne 6, 3), (40, .bipush (-12), 2), (42, .ireturn, 1), (43, .aload_n 0, 1), (44, .getfield 349, 3), (47, .bipush 40, 2), (49, .iload_n 1, 1), (50, .imul, 1), (51, .iload_n 2, 1), (52, .iadd, 1), (53, .aload_n 0, 1), (54, .getfield 343, 3), (57, .iload_n 1, 1), (58, .iaload, 1), (59, .iload_n 3, 1), (60, .invokestatic 453, 3), (63, .iastore, 1), (64, .iconst 1, 1), (65, .ireturn, 1)]
def z_m208 : zM := (⟨"DustYardsModel", "cell", "(III)I"⟩, prog_14_method_81_code, 4, (some .int), 12, z_i208_0)
set_option maxRecDepth 100000 in
theorem z_d208_0 : ∀ q ∈ z_i208_0, decode prog_14_method_81_code q.1 = .ok q.2 := by decide +kernel
set_option maxRecDepth 100000 in
theorem z_ok208 : z_okM z_m208 := ⟨z_in (z_s7 (List.mem_of_getElem? (i := 74) rfl)) rfl, z_d208_0, by decide +kernel, by decide +kernel, z_in (z_s1 (List.mem_of_getElem? (i := 17) (by decide +kernel))) (by decide +kernel), by decide +kernel, plainFor_of_name (by decide +kernel)⟩
def z_i209_0 : List (Nat × Instr × Nat) := [(0, .iload_n 1, 1), (1, .invokestatic 448, 3), (4, .ifCond .eq 10, 3), (7, .iload_n 3, 1), (8, .invokestatic 448, 3), (11, .ifCond .ne 6, 3), (14, .bipush (-2), 2), (16, .ireturn, 1), (17, .aload_n 0, 1), (18, .getfield 343, 3), (21, .iload_n 1, 1), (22, .iaload, 1), (23, .ifCond .lt 12, 3), (26, .aload_n 0, 1), (27, .getfield 343, 3), (30, .iload_n 3, 1), (31, .iaload, 1), (32, .ifCond .ge 6, 3), (35, .bipush (-11), 2), (37, .ireturn, 1), (38, .aload_n 0, 1), (39, .getfield 343, 3), (42, .iload_n 1, 1), (43, .iaload, 1), (44, .aload_n 0, 1), (45, .getfield 343, 3), (48, .iload_n 3, 1), (49, .iaload, 1), (50, .if_icmp .eq 6, 3), (53, .bipush (-13), 2), (55, .ireturn, 1), (56, .iload 5, 2), (58, .ifCond .lt 39, 3), (61, .iload_n 2, 1), (62, .ifCond .lt 35, 3), (65, .iload 4, 2), (67, .ifCond .lt 30, 3), (70, .iload 5, 2), (72, .aload_n 0, 1), (73, .getfield 346, 3), (76, .iload_n 1, 1), (77, .iaload, 1), (78, .iload_n 2, 1), (79, .isub, 1), (80, .if_icmp .gt 17, 3), (83, .iload 5, 2), (85, .aload_n 0, 1), (86, .getfield 346, 3), (89, .iload_n 3, 1), (90, .iaload, 1), (91, .iload 4, 2), (93, .isub, 1), (94, .if_icmp .le 6, 3), (97, .bipush (-12), 2), (99, .ireturn, 1), (100, .iconst 0, 1), (101, .istore 6, 2), (103, .iload 6, 2), (105, .iload 5, 2), (107, .if_icmp .ge 30, 3)]
def z_i209_1 : List (Nat × Instr × Nat) := [(110, .aload_n 0, 1), (111, .getfield 352, 3), (114, .iload 6, 2), (116, .aload_n 0, 1), (117, .getfield 349, 3), (120, .bipush 40, 2), (122, .iload_n 1, 1), (123, .imul, 1), (124, .iload_n 2, 1), (125, .iadd, 1), (126, .iload 6, 2), (128, .iadd, 1), (129, .iaload, 1), (130, .iastore, 1), (131, .iinc 6 1, 3), (134, .goto (-31), 3), (137, .iconst 0, 1), (138, .istore 6, 2), (140, .iload 6, 2), (142, .iload 5, 2), (144, .if_icmp .ge 31, 3), (147, .aload_n 0, 1), (148, .getfield 349, 3), (151, .bipush 40, 2), (153, .iload_n 3, 1), (154, .imul, 1), (155, .iload 4, 2), (157, .iadd, 1), (158, .iload 6, 2), (160, .iadd, 1), (161, .aload_n 0, 1), (162, .getfield 352, 3), (165, .iload 6, 2), (167, .iaload, 1), (168, .iastore, 1), (169, .iinc 6 1, 3), (172, .goto (-32), 3), (175, .iload 5, 2), (177, .ireturn, 1)]
def z_m209 : zM := (⟨"DustYardsModel", "copy", "(IIIII)I"⟩, prog_14_method_82_code, 7, (some .int), 12, z_i209_0 ++ z_i209_1)
set_option maxRecDepth 100000 in
theorem z_d209_0 : ∀ q ∈ z_i209_0, decode prog_14_method_82_code q.1 = .ok q.2 := by decide +kernel
set_option maxRecDepth 100000 in
theorem z_d209_1 : ∀ q ∈ z_i209_1, decode prog_14_method_82_code q.1 = .ok q.2 := by decide +kernel
set_option maxRecDepth 100000 in
theorem z_ok209 : z_okM z_m209 := ⟨z_in (z_s7 (List.mem_of_getElem? (i := 81) rfl)) rfl, List.forall_mem_append.mpr ⟨z_d209_0, z_d209_1⟩, by decide +kernel, by decide +kernel, z_in (z_s1 (List.mem_of_getElem? (i := 17) (by decide +kernel))) (by decide +kernel), by decide +kernel, plainFor_of_name (by decide +kernel)⟩
def z_i210_0 : List (Nat × Instr × Nat) := [(0, .iload_n 1, 1), (1, .invokestatic 96, 3), (4, .ifCond .eq 43, 3), (7, .iload_n 2, 1), (8, .invokestatic 105, 3), (11, .ifCond .eq 36, 3), (14, .iload_n 3, 1), (15, .invokestatic 448, 3), (18, .ifCond .eq 29, 3), (21, .iload 4, 2), (23, .i2l, 1), (24, .lconst 0, 1), (25, .ldc2_w 358, 3), (28, .invokestatic 3, 3), (31, .ifCond .eq 16, 3), (34, .iload 6, 2), (36, .i2l, 1), (37, .lconst 0, 1), (38, .ldc2_w 456, 3), (41, .invokestatic 3, 3), (44, .ifCond .ne 6, 3), (47, .bipush (-2), 2), (49, .ireturn, 1), (50, .aload_n 0, 1), (51, .getfield 343, 3), (54, .iload_n 3, 1), (55, .iaload, 1), (56, .ifCond .lt 17, 3), (59, .aload_n 0, 1), (60, .getfield 343, 3), (63, .iload_n 3, 1), (64, .iaload, 1), (65, .iload 4, 2), (67, .if_icmp .eq 6, 3), (70, .bipush (-13), 2), (72, .ireturn, 1), (73, .aload_n 0, 1), (74, .getfield 343, 3), (77, .iload_n 3, 1), (78, .iaload, 1), (79, .ifCond .ge 6, 3), (82, .bipush (-11), 2), (84, .ireturn, 1), (85, .iconst 0, 1), (86, .istore 7, 2), (88, .iconst 0, 1), (89, .istore 8, 2), (91, .iload 8, 2), (93, .iload 6, 2), (95, .if_icmp .ge 76, 3), (98, .iload 5, 2), (100, .i2l, 1), (101, .iload 8, 2), (103, .i2l, 1), (104, .ladd, 1), (105, .lstore 9, 2), (107, .lload 9, 2), (109, .lconst 0, 1), (110, .lcmp, 1), (111, .ifCond .lt 16, 3)]
def z_i210_1 : List (Nat × Instr × Nat) := [(114, .lload 9, 2), (116, .aload_n 0, 1), (117, .getfield 346, 3), (120, .iload_n 3, 1), (121, .iaload, 1), (122, .i2l, 1), (123, .lcmp, 1), (124, .ifCond .lt 6, 3), (127, .bipush (-12), 2), (129, .ireturn, 1), (130, .iload 7, 2), (132, .aload_n 0, 1), (133, .iload_n 1, 1), (134, .iload_n 2, 1), (135, .iload 8, 2), (137, .iadd, 1), (138, .aload_n 0, 1), (139, .getfield 349, 3), (142, .bipush 40, 2), (144, .iload_n 3, 1), (145, .imul, 1), (146, .lload 9, 2), (148, .l2i, 1), (149, .iadd, 1), (150, .iaload, 1), (151, .invokevirtual 458, 3), (154, .ifCond .lt 7, 3), (157, .iconst 1, 1), (158, .goto 4, 3), (161, .iconst 0, 1), (162, .iadd, 1), (163, .istore 7, 2), (165, .iinc 8 1, 3), (168, .goto (-77), 3), (171, .iload 7, 2), (173, .ireturn, 1)]
def z_m210 : zM := (⟨"DustYardsModel", "prices", "(IIIIII)I"⟩, prog_14_method_83_code, 11, (some .int), 12, z_i210_0 ++ z_i210_1)
set_option maxRecDepth 100000 in
theorem z_d210_0 : ∀ q ∈ z_i210_0, decode prog_14_method_83_code q.1 = .ok q.2 := by decide +kernel
set_option maxRecDepth 100000 in
theorem z_d210_1 : ∀ q ∈ z_i210_1, decode prog_14_method_83_code q.1 = .ok q.2 := by decide +kernel
set_option maxRecDepth 100000 in
theorem z_ok210 : z_okM z_m210 := ⟨z_in (z_s7 (List.mem_of_getElem? (i := 85) rfl)) rfl, List.forall_mem_append.mpr ⟨z_d210_0, z_d210_1⟩, by decide +kernel, by decide +kernel, z_in (z_s1 (List.mem_of_getElem? (i := 17) (by decide +kernel))) (by decide +kernel), by decide +kernel, plainFor_of_name (by decide +kernel)⟩
def z_i211_0 : List (Nat × Instr × Nat) := [(0, .iload_n 2, 1), (1, .i2l, 1), (2, .lconst 0, 1), (3, .ldc2_w 15, 3), (6, .invokestatic 3, 3), (9, .ifCond .ne 6, 3), (12, .bipush (-2), 2), (14, .ireturn, 1), (15, .aload_n 0, 1), (16, .iload_n 1, 1), (17, .invokevirtual 73, 3), (20, .ifCond .ne 6, 3), (23, .bipush (-11), 2), (25, .ireturn, 1), (26, .aload_n 0, 1), (27, .getfield 35, 3), (30, .iload_n 1, 1), (31, .iaload, 1), (32, .istore_n 3, 1), (33, .iload_n 2, 1), (34, .ifCond .eq 33, 3), (37, .iload_n 3, 1), (38, .iload_n 2, 1), (39, .if_icmp .eq 28, 3), (42, .iload_n 2, 1), (43, .iconst 1, 1), (44, .if_icmp .ne 13, 3), (47, .iload_n 3, 1), (48, .iconst 3, 1), (49, .if_icmp .eq 18, 3), (52, .iload_n 3, 1), (53, .iconst 5, 1), (54, .if_icmp .eq 13, 3), (57, .iload_n 2, 1), (58, .iconst 2, 1), (59, .if_icmp .ne 12, 3), (62, .iload_n 3, 1), (63, .iconst 4, 1), (64, .if_icmp .ne 7, 3), (67, .iconst 1, 1), (68, .goto 4, 3), (71, .iconst 0, 1), (72, .istore 4, 2), (74, .iload 4, 2), (76, .ifCond .eq 12, 3), (79, .aload_n 0, 1), (80, .getfield 45, 3), (83, .iload_n 1, 1), (84, .iaload, 1), (85, .goto 5, 3), (88, .bipush (-13), 2), (90, .ireturn, 1)]
def z_m211 : zM := (⟨"DustYardsModel", "taken", "(II)I"⟩, prog_14_method_84_code, 5, (some .int), 12, z_i211_0)
set_option maxRecDepth 100000 in
theorem z_d211_0 : ∀ q ∈ z_i211_0, decode prog_14_method_84_code q.1 = .ok q.2 := by decide +kernel
set_option maxRecDepth 100000 in
theorem z_ok211 : z_okM z_m211 := ⟨z_in (z_s7 (List.mem_of_getElem? (i := 91) rfl)) rfl, z_d211_0, by decide +kernel, by decide +kernel, z_in (z_s1 (List.mem_of_getElem? (i := 17) (by decide +kernel))) (by decide +kernel), by decide +kernel, plainFor_of_name (by decide +kernel)⟩
def z_i212_0 : List (Nat × Instr × Nat) := [(0, .iload_n 0, 1), (1, .iload_n 0, 1), (2, .iconst 1, 1), (3, .iushr, 1), (4, .ldc_w 265, 3), (7, .iand, 1), (8, .isub, 1), (9, .istore_n 0, 1), (10, .iload_n 0, 1), (11, .ldc_w 266, 3), (14, .iand, 1), (15, .iload_n 0, 1), (16, .iconst 2, 1), (17, .iushr, 1), (18, .ldc_w 266, 3), (21, .iand, 1), (22, .iadd, 1), (23, .istore_n 0, 1), (24, .iload_n 0, 1), (25, .iload_n 0, 1), (26, .iconst 4, 1), (27, .iushr, 1), (28, .iadd, 1), (29, .ldc_w 267, 3), (32, .iand, 1), (33, .istore_n 0, 1), (34, .iload_n 0, 1), (35, .iload_n 0, 1), (36, .bipush 8, 2), (38, .iushr, 1), (39, .iadd, 1), (40, .istore_n 0, 1), (41, .iload_n 0, 1), (42, .iload_n 0, 1), (43, .bipush 16, 2), (45, .iushr, 1), (46, .iadd, 1), (47, .istore_n 0, 1), (48, .iload_n 0, 1), (49, .bipush 63, 2), (51, .iand, 1), (52, .ireturn, 1)]
def z_m212 : zM := (⟨"java/lang/Integer", "bitCount", "(I)I"⟩, prog_15_method_49_code, 1, (some .int), 13, z_i212_0)
set_option maxRecDepth 100000 in
theorem z_d212_0 : ∀ q ∈ z_i212_0, decode prog_15_method_49_code q.1 = .ok q.2 := by decide +kernel
set_option maxRecDepth 100000 in
theorem z_ok212 : z_okM z_m212 := ⟨z_in (z_s4 (List.mem_of_getElem? (i := 91) rfl)) rfl, z_d212_0, by decide +kernel, by decide +kernel, z_in (z_s1 (List.mem_of_getElem? (i := 19) (by decide +kernel))) (by decide +kernel), by decide +kernel, plainFor_of_name (by decide +kernel)⟩
def z_i213_0 : List (Nat × Instr × Nat) := [(0, .iload_n 0, 1), (1, .iload_n 1, 1), (2, .irem, 1), (3, .istore_n 2, 1), (4, .iload_n 0, 1), (5, .iload_n 1, 1), (6, .ixor, 1), (7, .ifCond .ge 11, 3), (10, .iload_n 2, 1), (11, .ifCond .eq 7, 3), (14, .iload_n 2, 1), (15, .iload_n 1, 1), (16, .iadd, 1), (17, .ireturn, 1), (18, .iload_n 2, 1), (19, .ireturn, 1)]
def z_m213 : zM := (⟨"java/lang/Math", "floorMod", "(II)I"⟩, prog_16_method_50_code, 3, (some .int), 14, z_i213_0)
set_option maxRecDepth 100000 in
theorem z_d213_0 : ∀ q ∈ z_i213_0, decode prog_16_method_50_code q.1 = .ok q.2 := by decide +kernel
set_option maxRecDepth 100000 in
theorem z_ok213 : z_okM z_m213 := ⟨z_in (z_s4 (List.mem_of_getElem? (i := 17) rfl)) rfl, z_d213_0, by decide +kernel, by decide +kernel, z_in (z_s1 (List.mem_of_getElem? (i := 18) (by decide +kernel))) (by decide +kernel), by decide +kernel, by decide +kernel⟩
def z_i214_0 : List (Nat × Instr × Nat) := [(0, .iload_n 0, 1), (1, .iload_n 1, 1), (2, .if_icmp .lt 7, 3), (5, .iload_n 0, 1), (6, .goto 4, 3), (9, .iload_n 1, 1), (10, .ireturn, 1)]
def z_m214 : zM := (⟨"java/lang/Math", "max", "(II)I"⟩, prog_16_method_65_code, 2, (some .int), 14, z_i214_0)
set_option maxRecDepth 100000 in
theorem z_d214_0 : ∀ q ∈ z_i214_0, decode prog_16_method_65_code q.1 = .ok q.2 := by decide +kernel
set_option maxRecDepth 100000 in
theorem z_ok214 : z_okM z_m214 := ⟨z_in (z_s3 (List.mem_of_getElem? (i := 235) rfl)) rfl, z_d214_0, by decide +kernel, by decide +kernel, z_in (z_s1 (List.mem_of_getElem? (i := 18) (by decide +kernel))) (by decide +kernel), by decide +kernel, by decide +kernel⟩
def z_i215_0 : List (Nat × Instr × Nat) := [(0, .iload_n 0, 1), (1, .iload_n 1, 1), (2, .if_icmp .gt 7, 3), (5, .iload_n 0, 1), (6, .goto 4, 3), (9, .iload_n 1, 1), (10, .ireturn, 1)]
def z_m215 : zM := (⟨"java/lang/Math", "min", "(II)I"⟩, prog_16_method_69_code, 2, (some .int), 14, z_i215_0)
set_option maxRecDepth 100000 in
theorem z_d215_0 : ∀ q ∈ z_i215_0, decode prog_16_method_69_code q.1 = .ok q.2 := by decide +kernel
set_option maxRecDepth 100000 in
theorem z_ok215 : z_okM z_m215 := ⟨z_in (z_s4 (List.mem_of_getElem? (i := 64) rfl)) rfl, z_d215_0, by decide +kernel, by decide +kernel, z_in (z_s1 (List.mem_of_getElem? (i := 18) (by decide +kernel))) (by decide +kernel), by decide +kernel, by decide +kernel⟩
def z_i216_0 : List (Nat × Instr × Nat) := [(0, .aload_n 0, 1), (1, .getfield 9, 3), (4, .arraylength, 1), (5, .aload_n 0, 1), (6, .invokevirtual 335, 3), (9, .ishr, 1), (10, .ireturn, 1)]
def z_m216 : zM := (⟨"java/lang/String", "length", "()I"⟩, prog_17_method_54_code, 1, (some .int), 15, z_i216_0)
set_option maxRecDepth 100000 in
theorem z_d216_0 : ∀ q ∈ z_i216_0, decode prog_17_method_54_code q.1 = .ok q.2 := by decide +kernel
set_option maxRecDepth 100000 in
theorem z_ok216 : z_okM z_m216 := ⟨z_in (z_s2 (List.mem_of_getElem? (i := 96) rfl)) rfl, z_d216_0, by decide +kernel, by decide +kernel, z_in (z_s1 (List.mem_of_getElem? (i := 13) (by decide +kernel))) (by decide +kernel), by decide +kernel, plainFor_of_name (by decide +kernel)⟩
def z_i217_0 : List (Nat × Instr × Nat) := [(0, .aload_n 0, 1), (1, .invokevirtual 492, 3), (4, .ifCond .eq 12, 3), (7, .aload_n 0, 1), (8, .getfield 9, 3), (11, .iload_n 1, 1), (12, .invokestatic 495, 3), (15, .ireturn, 1), (16, .aload_n 0, 1), (17, .getfield 9, 3), (20, .iload_n 1, 1), (21, .invokestatic 498, 3), (24, .ireturn, 1)]
def z_m217 : zM := (⟨"java/lang/String", "charAt", "(I)C"⟩, prog_17_method_56_code, 2, (some .char), 15, z_i217_0)
set_option maxRecDepth 100000 in
theorem z_d217_0 : ∀ q ∈ z_i217_0, decode prog_17_method_56_code q.1 = .ok q.2 := by decide +kernel
set_option maxRecDepth 100000 in
theorem z_ok217 : z_okM z_m217 := ⟨z_in (z_s2 (List.mem_of_getElem? (i := 106) rfl)) rfl, z_d217_0, by decide +kernel, by decide +kernel, z_in (z_s1 (List.mem_of_getElem? (i := 13) (by decide +kernel))) (by decide +kernel), by decide +kernel, plainFor_of_name (by decide +kernel)⟩
def z_i218_0 : List (Nat × Instr × Nat) := [(0, .getstatic 38, 3), (3, .ifCond .eq 10, 3), (6, .aload_n 0, 1), (7, .getfield 15, 3), (10, .goto 4, 3), (13, .iconst 1, 1), (14, .ireturn, 1)]
def z_m218 : zM := (⟨"java/lang/String", "coder", "()B"⟩, prog_17_method_152_code, 1, (some .byte), 15, z_i218_0)
set_option maxRecDepth 100000 in
theorem z_d218_0 : ∀ q ∈ z_i218_0, decode prog_17_method_152_code q.1 = .ok q.2 := by decide +kernel
set_option maxRecDepth 100000 in
theorem z_ok218 : z_okM z_m218 := ⟨z_in (z_s2 (List.mem_of_getElem? (i := 100) rfl)) rfl, z_d218_0, by decide +kernel, by decide +kernel, z_in (z_s1 (List.mem_of_getElem? (i := 13) (by decide +kernel))) (by decide +kernel), by decide +kernel, plainFor_of_name (by decide +kernel)⟩
def z_i219_0 : List (Nat × Instr × Nat) := [(0, .getstatic 38, 3), (3, .ifCond .eq 14, 3), (6, .aload_n 0, 1), (7, .getfield 15, 3), (10, .ifCond .ne 7, 3), (13, .iconst 1, 1), (14, .goto 4, 3), (17, .iconst 0, 1), (18, .ireturn, 1)]
def z_m219 : zM := (⟨"java/lang/String", "isLatin1", "()Z"⟩, prog_17_method_154_code, 1, (some .boolean), 15, z_i219_0)
set_option maxRecDepth 100000 in
theorem z_d219_0 : ∀ q ∈ z_i219_0, decode prog_17_method_154_code q.1 = .ok q.2 := by decide +kernel
set_option maxRecDepth 100000 in
theorem z_ok219 : z_okM z_m219 := ⟨z_in (z_s2 (List.mem_of_getElem? (i := 110) rfl)) rfl, z_d219_0, by decide +kernel, by decide +kernel, z_in (z_s1 (List.mem_of_getElem? (i := 13) (by decide +kernel))) (by decide +kernel), by decide +kernel, plainFor_of_name (by decide +kernel)⟩
def z_i220_0 : List (Nat × Instr × Nat) := [(0, .iload_n 0, 1), (1, .iload_n 1, 1), (2, .getstatic 1053, 3), (5, .invokestatic 1059, 3), (8, .pop, 1), (9, .return_, 1)]
def z_m220 : zM := (⟨"java/lang/String", "checkIndex", "(II)V"⟩, prog_17_method_155_code, 2, none, 15, z_i220_0)
set_option maxRecDepth 100000 in
theorem z_d220_0 : ∀ q ∈ z_i220_0, decode prog_17_method_155_code q.1 = .ok q.2 := by decide +kernel
set_option maxRecDepth 100000 in
theorem z_ok220 : z_okM z_m220 := ⟨z_in (z_s2 (List.mem_of_getElem? (i := 116) rfl)) rfl, z_d220_0, by decide +kernel, by decide +kernel, z_in (z_s1 (List.mem_of_getElem? (i := 13) (by decide +kernel))) (by decide +kernel), by decide +kernel, plainFor_of_name (by decide +kernel)⟩
def z_i221_0 : List (Nat × Instr × Nat) := [(0, .iload_n 1, 1), (1, .aload_n 0, 1), (2, .arraylength, 1), (3, .invokestatic 9, 3), (6, .aload_n 0, 1), (7, .iload_n 1, 1), (8, .baload, 1), (9, .sipush 255, 3), (12, .iand, 1), (13, .i2c, 1), (14, .ireturn, 1)]
def z_m221 : zM := (⟨"java/lang/StringLatin1", "charAt", "([BI)C"⟩, prog_18_method_2_code, 2, (some .char), 16, z_i221_0)
set_option maxRecDepth 100000 in
theorem z_d221_0 : ∀ q ∈ z_i221_0, decode prog_18_method_2_code q.1 = .ok q.2 := by decide +kernel
set_option maxRecDepth 100000 in
theorem z_ok221 : z_okM z_m221 := ⟨z_in (z_s2 (List.mem_of_getElem? (i := 113) rfl)) rfl, z_d221_0, by decide +kernel, by decide +kernel, z_in (z_s1 (List.mem_of_getElem? (i := 14) (by decide +kernel))) (by decide +kernel), by decide +kernel, plainFor_of_name (by decide +kernel)⟩
def z_i222_0 : List (Nat × Instr × Nat) := [(0, .iconst 0, 1), (1, .istore_n 2, 1), (2, .aload_n 0, 1), (3, .arraylength, 1), (4, .istore_n 3, 1), (5, .iload_n 2, 1), (6, .iload_n 3, 1), (7, .if_icmp .ge 13, 3), (10, .aload_n 0, 1), (11, .iload_n 2, 1), (12, .iload_n 1, 1), (13, .iastore, 1), (14, .iinc 2 1, 3), (17, .goto (-12), 3), (20, .return_, 1)]
def z_m222 : zM := (⟨"java/util/Arrays", "fill", "([II)V"⟩, prog_21_method_103_code, 4, none, 18, z_i222_0)
set_option maxRecDepth 100000 in
theorem z_d222_0 : ∀ q ∈ z_i222_0, decode prog_21_method_103_code q.1 = .ok q.2 := by decide +kernel
set_option maxRecDepth 100000 in
theorem z_ok222 : z_okM z_m222 := ⟨z_in (z_s4 (List.mem_of_getElem? (i := 149) rfl)) rfl, z_d222_0, by decide +kernel, by decide +kernel, z_in (z_s1 (List.mem_of_getElem? (i := 21) (by decide +kernel))) (by decide +kernel), by decide +kernel, plainFor_of_name (by decide +kernel)⟩
def z_i223_0 : List (Nat × Instr × Nat) := [(0, .iload_n 0, 1), (1, .ifCond .lt 8, 3), (4, .iload_n 0, 1), (5, .iload_n 1, 1), (6, .if_icmp .lt 10, 3), (9, .aload_n 2, 1), (10, .iload_n 0, 1), (11, .iload_n 1, 1), (12, .invokestatic 95, 3), (15, .athrow, 1), (16, .iload_n 0, 1), (17, .ireturn, 1)]
def z_m223 : zM := (⟨"jdk/internal/util/Preconditions", "checkIndex", "(IILjava/util/function/BiFunction;)I"⟩, prog_22_method_11_code, 3, (some .int), 19, z_i223_0)
set_option maxRecDepth 100000 in
theorem z_d223_0 : ∀ q ∈ z_i223_0, decode prog_22_method_11_code q.1 = .ok q.2 := by decide +kernel
set_option maxRecDepth 100000 in
theorem z_ok223 : z_okM z_m223 := ⟨z_in (z_s2 (List.mem_of_getElem? (i := 121) rfl)) rfl, z_d223_0, by decide +kernel, by decide +kernel, z_in (z_s1 (List.mem_of_getElem? (i := 15) (by decide +kernel))) (by decide +kernel), by decide +kernel, plainFor_of_name (by decide +kernel)⟩
end
section
def z_M0 : List zM := [z_m0, z_m1, z_m2, z_m3, z_m4, z_m5, z_m6, z_m7, z_m8, z_m9, z_m10, z_m11, z_m12, z_m13, z_m14, z_m15, z_m16, z_m17, z_m18, z_m19, z_m20, z_m21, z_m22, z_m23, z_m24, z_m25, z_m26, z_m27, z_m28, z_m29, z_m30, z_m31]
def z_M1 : List zM := [z_m32, z_m33, z_m34, z_m35, z_m36, z_m37, z_m38, z_m39, z_m40, z_m41, z_m42, z_m43, z_m44, z_m45, z_m46, z_m47, z_m48, z_m49, z_m50, z_m51, z_m52, z_m53, z_m54, z_m55, z_m56, z_m57, z_m58, z_m59, z_m60, z_m61, z_m62, z_m63]
def z_M2 : List zM := [z_m64, z_m65, z_m66, z_m67, z_m68, z_m69, z_m70, z_m71, z_m72, z_m73, z_m74, z_m75, z_m76, z_m77, z_m78, z_m79, z_m80, z_m81, z_m82, z_m83, z_m84, z_m85, z_m86, z_m87, z_m88, z_m89, z_m90, z_m91, z_m92, z_m93, z_m94, z_m95]
def z_M3 : List zM := [z_m96, z_m97, z_m98, z_m99, z_m100, z_m101, z_m102, z_m103, z_m104, z_m105, z_m106, z_m107, z_m108, z_m109, z_m110, z_m111, z_m112, z_m113, z_m114, z_m115, z_m116, z_m117, z_m118, z_m119, z_m120, z_m121, z_m122, z_m123, z_m124, z_m125, z_m126, z_m127]
def z_M4 : List zM := [z_m128, z_m129, z_m130, z_m131, z_m132, z_m133, z_m134, z_m135, z_m136, z_m137, z_m138, z_m139, z_m140, z_m141, z_m142, z_m143, z_m144, z_m145, z_m146, z_m147, z_m148, z_m149, z_m150, z_m151, z_m152, z_m153, z_m154, z_m155, z_m156, z_m157, z_m158, z_m159]
def z_M5 : List zM := [z_m160, z_m161, z_m162, z_m163, z_m164, z_m165, z_m166, z_m167, z_m168, z_m169, z_m170, z_m171, z_m172, z_m173, z_m174, z_m175, z_m176, z_m177, z_m178, z_m179, z_m180, z_m181, z_m182, z_m183, z_m184, z_m185, z_m186, z_m187, z_m188, z_m189, z_m190, z_m191]
def z_M6 : List zM := [z_m192, z_m193, z_m194, z_m195, z_m196, z_m197, z_m198, z_m199, z_m200, z_m201, z_m202, z_m203, z_m204, z_m205, z_m206, z_m207, z_m208, z_m209, z_m210, z_m211, z_m212, z_m213, z_m214, z_m215, z_m216, z_m217, z_m218, z_m219, z_m220, z_m221, z_m222, z_m223]
def z_M : List zM := z_M0 ++ (z_M1 ++ (z_M2 ++ (z_M3 ++ (z_M4 ++ (z_M5 ++ (z_M6))))))
theorem z_okL0 : ∀ e ∈ z_M0.tail, z_okM e := List.forall_mem_cons.mpr ⟨z_ok1, List.forall_mem_cons.mpr ⟨z_ok2, List.forall_mem_cons.mpr ⟨z_ok3, List.forall_mem_cons.mpr ⟨z_ok4, List.forall_mem_cons.mpr ⟨z_ok5, List.forall_mem_cons.mpr ⟨z_ok6, List.forall_mem_cons.mpr ⟨z_ok7, List.forall_mem_cons.mpr ⟨z_ok8, List.forall_mem_cons.mpr ⟨z_ok9, List.forall_mem_cons.mpr ⟨z_ok10, List.forall_mem_cons.mpr ⟨z_ok11, List.forall_mem_cons.mpr ⟨z_ok12, List.forall_mem_cons.mpr ⟨z_ok13, List.forall_mem_cons.mpr ⟨z_ok14, List.forall_mem_cons.mpr ⟨z_ok15, List.forall_mem_cons.mpr ⟨z_ok16, List.forall_mem_cons.mpr ⟨z_ok17, List.forall_mem_cons.mpr ⟨z_ok18, List.forall_mem_cons.mpr ⟨z_ok19, List.forall_mem_cons.mpr ⟨z_ok20, List.forall_mem_cons.mpr ⟨z_ok21, List.forall_mem_cons.mpr ⟨z_ok22, List.forall_mem_cons.mpr ⟨z_ok23, List.forall_mem_cons.mpr ⟨z_ok24, List.forall_mem_cons.mpr ⟨z_ok25, List.forall_mem_cons.mpr ⟨z_ok26, List.forall_mem_cons.mpr ⟨z_ok27, List.forall_mem_cons.mpr ⟨z_ok28, List.forall_mem_cons.mpr ⟨z_ok29, List.forall_mem_cons.mpr ⟨z_ok30, List.forall_mem_cons.mpr ⟨z_ok31, fun _ h => absurd h List.not_mem_nil⟩⟩⟩⟩⟩⟩⟩⟩⟩⟩⟩⟩⟩⟩⟩⟩⟩⟩⟩⟩⟩⟩⟩⟩⟩⟩⟩⟩⟩⟩⟩
theorem z_okL1 : ∀ e ∈ z_M1, z_okM e := List.forall_mem_cons.mpr ⟨z_ok32, List.forall_mem_cons.mpr ⟨z_ok33, List.forall_mem_cons.mpr ⟨z_ok34, List.forall_mem_cons.mpr ⟨z_ok35, List.forall_mem_cons.mpr ⟨z_ok36, List.forall_mem_cons.mpr ⟨z_ok37, List.forall_mem_cons.mpr ⟨z_ok38, List.forall_mem_cons.mpr ⟨z_ok39, List.forall_mem_cons.mpr ⟨z_ok40, List.forall_mem_cons.mpr ⟨z_ok41, List.forall_mem_cons.mpr ⟨z_ok42, List.forall_mem_cons.mpr ⟨z_ok43, List.forall_mem_cons.mpr ⟨z_ok44, List.forall_mem_cons.mpr ⟨z_ok45, List.forall_mem_cons.mpr ⟨z_ok46, List.forall_mem_cons.mpr ⟨z_ok47, List.forall_mem_cons.mpr ⟨z_ok48, List.forall_mem_cons.mpr ⟨z_ok49, List.forall_mem_cons.mpr ⟨z_ok50, List.forall_mem_cons.mpr ⟨z_ok51, List.forall_mem_cons.mpr ⟨z_ok52, List.forall_mem_cons.mpr ⟨z_ok53, List.forall_mem_cons.mpr ⟨z_ok54, List.forall_mem_cons.mpr ⟨z_ok55, List.forall_mem_cons.mpr ⟨z_ok56, List.forall_mem_cons.mpr ⟨z_ok57, List.forall_mem_cons.mpr ⟨z_ok58, List.forall_mem_cons.mpr ⟨z_ok59, List.forall_mem_cons.mpr ⟨z_ok60, List.forall_mem_cons.mpr ⟨z_ok61, List.forall_mem_cons.mpr ⟨z_ok62, List.forall_mem_cons.mpr ⟨z_ok63, fun _ h => absurd h List.not_mem_nil⟩⟩⟩⟩⟩⟩⟩⟩⟩⟩⟩⟩⟩⟩⟩⟩⟩⟩⟩⟩⟩⟩⟩⟩⟩⟩⟩⟩⟩⟩⟩⟩
theorem z_okL2 : ∀ e ∈ z_M2, z_okM e := List.forall_mem_cons.mpr ⟨z_ok64, List.forall_mem_cons.mpr ⟨z_ok65, List.forall_mem_cons.mpr ⟨z_ok66, List.forall_mem_cons.mpr ⟨z_ok67, List.forall_mem_cons.mpr ⟨z_ok68, List.forall_mem_cons.mpr ⟨z_ok69, List.forall_mem_cons.mpr ⟨z_ok70, List.forall_mem_cons.mpr ⟨z_ok71, List.forall_mem_cons.mpr ⟨z_ok72, List.forall_mem_cons.mpr ⟨z_ok73, List.forall_mem_cons.mpr ⟨z_ok74, List.forall_mem_cons.mpr ⟨z_ok75, List.forall_mem_cons.mpr ⟨z_ok76, List.forall_mem_cons.mpr ⟨z_ok77, List.forall_mem_cons.mpr ⟨z_ok78, List.forall_mem_cons.mpr ⟨z_ok79, List.forall_mem_cons.mpr ⟨z_ok80, List.forall_mem_cons.mpr ⟨z_ok81, List.forall_mem_cons.mpr ⟨z_ok82, List.forall_mem_cons.mpr ⟨z_ok83, List.forall_mem_cons.mpr ⟨z_ok84, List.forall_mem_cons.mpr ⟨z_ok85, List.forall_mem_cons.mpr ⟨z_ok86, List.forall_mem_cons.mpr ⟨z_ok87, List.forall_mem_cons.mpr ⟨z_ok88, List.forall_mem_cons.mpr ⟨z_ok89, List.forall_mem_cons.mpr ⟨z_ok90, List.forall_mem_cons.mpr ⟨z_ok91, List.forall_mem_cons.mpr ⟨z_ok92, List.forall_mem_cons.mpr ⟨z_ok93, List.forall_mem_cons.mpr ⟨z_ok94, List.forall_mem_cons.mpr ⟨z_ok95, fun _ h => absurd h List.not_mem_nil⟩⟩⟩⟩⟩⟩⟩⟩⟩⟩⟩⟩⟩⟩⟩⟩⟩⟩⟩⟩⟩⟩⟩⟩⟩⟩⟩⟩⟩⟩⟩⟩
theorem z_okL3 : ∀ e ∈ z_M3, z_okM e := List.forall_mem_cons.mpr ⟨z_ok96, List.forall_mem_cons.mpr ⟨z_ok97, List.forall_mem_cons.mpr ⟨z_ok98, List.forall_mem_cons.mpr ⟨z_ok99, List.forall_mem_cons.mpr ⟨z_ok100, List.forall_mem_cons.mpr ⟨z_ok101, List.forall_mem_cons.mpr ⟨z_ok102, List.forall_mem_cons.mpr ⟨z_ok103, List.forall_mem_cons.mpr ⟨z_ok104, List.forall_mem_cons.mpr ⟨z_ok105, List.forall_mem_cons.mpr ⟨z_ok106, List.forall_mem_cons.mpr ⟨z_ok107, List.forall_mem_cons.mpr ⟨z_ok108, List.forall_mem_cons.mpr ⟨z_ok109, List.forall_mem_cons.mpr ⟨z_ok110, List.forall_mem_cons.mpr ⟨z_ok111, List.forall_mem_cons.mpr ⟨z_ok112, List.forall_mem_cons.mpr ⟨z_ok113, List.forall_mem_cons.mpr ⟨z_ok114, List.forall_mem_cons.mpr ⟨z_ok115, List.forall_mem_cons.mpr ⟨z_ok116, List.forall_mem_cons.mpr ⟨z_ok117, List.forall_mem_cons.mpr ⟨z_ok118, List.forall_mem_cons.mpr ⟨z_ok119, List.forall_mem_cons.mpr ⟨z_ok120, List.forall_mem_cons.mpr ⟨z_ok121, List.forall_mem_cons.mpr ⟨z_ok122, List.forall_mem_cons.mpr ⟨z_ok123, List.forall_mem_cons.mpr ⟨z_ok124, List.forall_mem_cons.mpr ⟨z_ok125, List.forall_mem_cons.mpr ⟨z_ok126, List.forall_mem_cons.mpr ⟨z_ok127, fun _ h => absurd h List.not_mem_nil⟩⟩⟩⟩⟩⟩⟩⟩⟩⟩⟩⟩⟩⟩⟩⟩⟩⟩⟩⟩⟩⟩⟩⟩⟩⟩⟩⟩⟩⟩⟩⟩
theorem z_okL4 : ∀ e ∈ z_M4, z_okM e := List.forall_mem_cons.mpr ⟨z_ok128, List.forall_mem_cons.mpr ⟨z_ok129, List.forall_mem_cons.mpr ⟨z_ok130, List.forall_mem_cons.mpr ⟨z_ok131, List.forall_mem_cons.mpr ⟨z_ok132, List.forall_mem_cons.mpr ⟨z_ok133, List.forall_mem_cons.mpr ⟨z_ok134, List.forall_mem_cons.mpr ⟨z_ok135, List.forall_mem_cons.mpr ⟨z_ok136, List.forall_mem_cons.mpr ⟨z_ok137, List.forall_mem_cons.mpr ⟨z_ok138, List.forall_mem_cons.mpr ⟨z_ok139, List.forall_mem_cons.mpr ⟨z_ok140, List.forall_mem_cons.mpr ⟨z_ok141, List.forall_mem_cons.mpr ⟨z_ok142, List.forall_mem_cons.mpr ⟨z_ok143, List.forall_mem_cons.mpr ⟨z_ok144, List.forall_mem_cons.mpr ⟨z_ok145, List.forall_mem_cons.mpr ⟨z_ok146, List.forall_mem_cons.mpr ⟨z_ok147, List.forall_mem_cons.mpr ⟨z_ok148, List.forall_mem_cons.mpr ⟨z_ok149, List.forall_mem_cons.mpr ⟨z_ok150, List.forall_mem_cons.mpr ⟨z_ok151, List.forall_mem_cons.mpr ⟨z_ok152, List.forall_mem_cons.mpr ⟨z_ok153, List.forall_mem_cons.mpr ⟨z_ok154, List.forall_mem_cons.mpr ⟨z_ok155, List.forall_mem_cons.mpr ⟨z_ok156, List.forall_mem_cons.mpr ⟨z_ok157, List.forall_mem_cons.mpr ⟨z_ok158, List.forall_mem_cons.mpr ⟨z_ok159, fun _ h => absurd h List.not_mem_nil⟩⟩⟩⟩⟩⟩⟩⟩⟩⟩⟩⟩⟩⟩⟩⟩⟩⟩⟩⟩⟩⟩⟩⟩⟩⟩⟩⟩⟩⟩⟩⟩
theorem z_okL5 : ∀ e ∈ z_M5, z_okM e := List.forall_mem_cons.mpr ⟨z_ok160, List.forall_mem_cons.mpr ⟨z_ok161, List.forall_mem_cons.mpr ⟨z_ok162, List.forall_mem_cons.mpr ⟨z_ok163, List.forall_mem_cons.mpr ⟨z_ok164, List.forall_mem_cons.mpr ⟨z_ok165, List.forall_mem_cons.mpr ⟨z_ok166, List.forall_mem_cons.mpr ⟨z_ok167, List.forall_mem_cons.mpr ⟨z_ok168, List.forall_mem_cons.mpr ⟨z_ok169, List.forall_mem_cons.mpr ⟨z_ok170, List.forall_mem_cons.mpr ⟨z_ok171, List.forall_mem_cons.mpr ⟨z_ok172, List.forall_mem_cons.mpr ⟨z_ok173, List.forall_mem_cons.mpr ⟨z_ok174, List.forall_mem_cons.mpr ⟨z_ok175, List.forall_mem_cons.mpr ⟨z_ok176, List.forall_mem_cons.mpr ⟨z_ok177, List.forall_mem_cons.mpr ⟨z_ok178, List.forall_mem_cons.mpr ⟨z_ok179, List.forall_mem_cons.mpr ⟨z_ok180, List.forall_mem_cons.mpr ⟨z_ok181, List.forall_mem_cons.mpr ⟨z_ok182, List.forall_mem_cons.mpr ⟨z_ok183, List.forall_mem_cons.mpr ⟨z_ok184, List.forall_mem_cons.mpr ⟨z_ok185, List.forall_mem_cons.mpr ⟨z_ok186, List.forall_mem_cons.mpr ⟨z_ok187, List.forall_mem_cons.mpr ⟨z_ok188, List.forall_mem_cons.mpr ⟨z_ok189, List.forall_mem_cons.mpr ⟨z_ok190, List.forall_mem_cons.mpr ⟨z_ok191, fun _ h => absurd h List.not_mem_nil⟩⟩⟩⟩⟩⟩⟩⟩⟩⟩⟩⟩⟩⟩⟩⟩⟩⟩⟩⟩⟩⟩⟩⟩⟩⟩⟩⟩⟩⟩⟩⟩
theorem z_okL6 : ∀ e ∈ z_M6, z_okM e := List.forall_mem_cons.mpr ⟨z_ok192, List.forall_mem_cons.mpr ⟨z_ok193, List.forall_mem_cons.mpr ⟨z_ok194, List.forall_mem_cons.mpr ⟨z_ok195, List.forall_mem_cons.mpr ⟨z_ok196, List.forall_mem_cons.mpr ⟨z_ok197, List.forall_mem_cons.mpr ⟨z_ok198, List.forall_mem_cons.mpr ⟨z_ok199, List.forall_mem_cons.mpr ⟨z_ok200, List.forall_mem_cons.mpr ⟨z_ok201, List.forall_mem_cons.mpr ⟨z_ok202, List.forall_mem_cons.mpr ⟨z_ok203, List.forall_mem_cons.mpr ⟨z_ok204, List.forall_mem_cons.mpr ⟨z_ok205, List.forall_mem_cons.mpr ⟨z_ok206, List.forall_mem_cons.mpr ⟨z_ok207, List.forall_mem_cons.mpr ⟨z_ok208, List.forall_mem_cons.mpr ⟨z_ok209, List.forall_mem_cons.mpr ⟨z_ok210, List.forall_mem_cons.mpr ⟨z_ok211, List.forall_mem_cons.mpr ⟨z_ok212, List.forall_mem_cons.mpr ⟨z_ok213, List.forall_mem_cons.mpr ⟨z_ok214, List.forall_mem_cons.mpr ⟨z_ok215, List.forall_mem_cons.mpr ⟨z_ok216, List.forall_mem_cons.mpr ⟨z_ok217, List.forall_mem_cons.mpr ⟨z_ok218, List.forall_mem_cons.mpr ⟨z_ok219, List.forall_mem_cons.mpr ⟨z_ok220, List.forall_mem_cons.mpr ⟨z_ok221, List.forall_mem_cons.mpr ⟨z_ok222, List.forall_mem_cons.mpr ⟨z_ok223, fun _ h => absurd h List.not_mem_nil⟩⟩⟩⟩⟩⟩⟩⟩⟩⟩⟩⟩⟩⟩⟩⟩⟩⟩⟩⟩⟩⟩⟩⟩⟩⟩⟩⟩⟩⟩⟩⟩
theorem z_M_ok {M : Nat} {e : zM} (hM : M ≠ 0) (h : z_M[M]? = some e) : z_okM e := by
  obtain ⟨k, rfl⟩ : ∃ k, M = k + 1 := ⟨M - 1, by omega⟩
  have h2 : e ∈ z_M.tail := by
    rw [show z_M = z_m0 :: z_M.tail from rfl, List.getElem?_cons_succ] at h
    exact List.mem_of_getElem? h
  have h3 : e ∈ z_M0.tail ++ (z_M1 ++ (z_M2 ++ (z_M3 ++ (z_M4 ++ (z_M5 ++ (z_M6)))))) := h2
  rcases List.mem_append.mp h3 with h | h
  · exact z_okL0 e h
  rcases List.mem_append.mp h with h | h
  · exact z_okL1 e h
  rcases List.mem_append.mp h with h | h
  · exact z_okL2 e h
  rcases List.mem_append.mp h with h | h
  · exact z_okL3 e h
  rcases List.mem_append.mp h with h | h
  · exact z_okL4 e h
  rcases List.mem_append.mp h with h | h
  · exact z_okL5 e h
  exact z_okL6 e h
theorem z_M0_ok {M : Nat} {e : zM} (h : z_M[M]? = some e) : ∀ q ∈ e.2.2.2.2.2, decode e.2.1 q.1 = .ok q.2 := by
  by_cases hM : M = 0
  · subst hM
    rw [show z_M = z_m0 :: z_M.tail from rfl, List.getElem?_cons_zero] at h
    cases h
    exact z_dlaw
  · exact (z_M_ok hM h).2.1
def z_fetch (M pc : Nat) : Option (Instr × Nat) := match z_M[M]? with
  | some e => e.2.2.2.2.2.lookup pc
  | none => none
theorem z_lookup_mem {α : Type} : ∀ (l : List (Nat × α)) (k : Nat) (v : α), l.lookup k = some v → (k, v) ∈ l
  | [], k, v, h => by simp at h
  | (a, b) :: l, k, v, h => by
    rw [List.lookup_cons] at h
    split at h
    · next hk =>
      cases h
      rw [eq_of_beq hk]
      exact List.mem_cons_self
    · exact List.mem_cons_of_mem _ (z_lookup_mem l k v h)
theorem z_fetch_ok {M pc len : Nat} {ins : Instr} {e : zM} (he : z_M[M]? = some e) (h : z_fetch M pc = some (ins, len)) : decode e.2.1 pc = .ok (ins, len) := by
  unfold z_fetch at h
  rw [he] at h
  exact z_M0_ok he (pc, ins, len) (z_lookup_mem _ _ _ h)
end
section
/-! links of my own machine, printed by program -/
def z_flT : List (Nat × Nat × Nat × Nat × Nat) := [(2, 9, 2, 0, 36), (11, 143, 2, 0, 37), (2, 15, 2, 1, 38), (11, 146, 2, 1, 39), (2, 18, 2, 2, 40), (11, 149, 2, 2, 41), (2, 21, 2, 3, 42), (11, 169, 2, 3, 43), (2, 24, 2, 4, 44), (11, 152, 2, 4, 45), (2, 27, 2, 5, 46), (11, 243, 2, 5, 47), (2, 30, 2, 6, 48), (2, 33, 2, 7, 49), (11, 316, 2, 7, 50), (2, 36, 2, 8, 51), (11, 155, 2, 8, 52), (2, 39, 2, 9, 53), (11, 171, 2, 9, 54), (2, 43, 2, 10, 55), (11, 129, 2, 10, 56), (7, 9, 7, 0, 88), (7, 15, 7, 1, 89), (7, 18, 7, 2, 90), (7, 21, 7, 3, 91), (7, 24, 7, 4, 92), (11, 205, 7, 4, 93), (9, 9, 9, 0, 111), (9, 15, 9, 1, 112), (11, 209, 9, 1, 113), (9, 28, 9, 2, 114), (11, 228, 9, 2, 115), (9, 19, 9, 3, 116), (10, 35, 9, 4, 117), (9, 25, 9, 4, 118), (9, 78, 9, 5, 119), (10, 69, 9, 5, 120), (10, 9, 10, 0, 147), (10, 15, 10, 1, 148), (10, 18, 10, 2, 149), (3, 11, 3, 0, 157), (11, 215, 3, 0, 158), (3, 17, 3, 1, 159), (3, 21, 3, 2, 160), (3, 24, 3, 3, 161), (11, 212, 3, 4, 162), (3, 28, 3, 5, 163), (11, 231, 3, 5, 164), (5, 9, 5, 0, 184), (11, 274, 5, 0, 185), (5, 15, 5, 1, 186), (11, 286, 5, 1, 187), (5, 18, 5, 2, 188), (11, 283, 5, 2, 189), (5, 21, 5, 3, 190), (11, 268, 5, 3, 191), (4, 9, 4, 0, 207), (11, 305, 4, 0, 208), (4, 15, 4, 1, 209), (4, 18, 4, 2, 210), (11, 292, 4, 2, 211), (4, 21, 4, 3, 212), (4, 24, 4, 4, 213), (4, 27, 4, 5, 214), (4, 30, 4, 6, 215), (4, 33, 4, 7, 216), (4, 36, 4, 8, 217), (11, 289, 4, 8, 218), (4, 40, 4, 9, 219), (11, 298, 4, 9, 220), (6, 9, 6, 0, 248), (6, 15, 6, 1, 249), (6, 18, 6, 2, 250), (6, 21, 6, 3, 251), (11, 333, 6, 3, 252), (6, 24, 6, 4, 253), (6, 28, 6, 5, 254), (11, 330, 6, 5, 255), (0, 9, 0, 0, 275), (0, 15, 0, 1, 276), (11, 342, 0, 1, 277), (0, 18, 0, 2, 278), (11, 336, 0, 2, 279), (1, 9, 1, 0, 293), (1, 15, 1, 1, 294), (1, 18, 1, 2, 295), (11, 351, 1, 2, 296), (1, 22, 1, 3, 297), (11, 361, 1, 3, 298), (1, 25, 1, 4, 299), (11, 349, 1, 4, 300), (8, 9, 8, 0, 319), (11, 384, 8, 0, 320), (8, 15, 8, 1, 321), (11, 378, 8, 1, 322), (8, 19, 8, 2, 323), (11, 374, 8, 2, 324), (11, 10, 11, 0, 488), (11, 16, 11, 1, 489), (11, 23, 11, 2, 490), (11, 30, 11, 3, 491), (11, 37, 11, 4, 492), (11, 41, 11, 5, 493), (11, 44, 11, 6, 494), (11, 50, 11, 7, 495), (11, 57, 11, 8, 496), (11, 61, 11, 9, 497), (11, 64, 11, 10, 498), (11, 70, 11, 11, 499), (11, 77, 11, 12, 500), (11, 84, 11, 13, 501), (11, 90, 11, 14, 502), (11, 309, 11, 15, 503), (11, 118, 11, 16, 504), (11, 199, 11, 17, 505), (12, 9, 12, 0, 1100), (12, 63, 12, 1, 1101), (12, 70, 12, 2, 1102), (12, 21, 12, 3, 1103), (12, 35, 12, 4, 1104), (12, 39, 12, 5, 1105), (12, 42, 12, 6, 1106), (12, 45, 12, 7, 1107), (12, 48, 12, 8, 1108), (12, 51, 12, 9, 1109), (12, 54, 12, 10, 1110), (12, 57, 12, 11, 1111), (12, 60, 12, 12, 1112), (12, 85, 12, 13, 1113), (12, 91, 12, 14, 1114), (12, 102, 12, 15, 1115), (12, 110, 12, 16, 1116), (12, 113, 12, 17, 1117), (12, 116, 12, 18, 1118), (12, 119, 12, 19, 1119), (12, 122, 12, 20, 1120), (12, 130, 12, 21, 1121), (12, 127, 12, 22, 1122), (12, 229, 12, 23, 1123), (12, 166, 12, 24, 1124), (12, 213, 12, 25, 1125), (12, 134, 12, 26, 1126), (12, 140, 12, 27, 1127), (12, 153, 12, 28, 1128), (12, 146, 12, 29, 1129), (12, 149, 12, 30, 1130), (12, 143, 12, 31, 1131), (12, 178, 12, 32, 1132), (12, 175, 12, 33, 1133), (12, 184, 12, 34, 1134), (12, 200, 12, 35, 1135), (12, 197, 12, 36, 1136), (12, 169, 12, 37, 1137), (12, 172, 12, 38, 1138), (12, 242, 12, 39, 1139), (12, 355, 12, 40, 1140), (12, 256, 12, 41, 1141), (12, 259, 12, 42, 1142), (12, 262, 12, 43, 1143), (12, 380, 12, 44, 1144), (12, 265, 12, 45, 1145), (12, 268, 12, 46, 1146), (12, 271, 12, 47, 1147), (12, 391, 12, 48, 1148), (12, 274, 12, 49, 1149), (12, 277, 12, 50, 1150), (12, 280, 12, 51, 1151), (12, 283, 12, 52, 1152), (12, 394, 12, 53, 1153), (12, 286, 12, 54, 1154), (12, 289, 12, 55, 1155), (12, 292, 12, 56, 1156), (12, 295, 12, 57, 1157), (12, 298, 12, 58, 1158), (12, 406, 12, 59, 1159), (12, 301, 12, 60, 1160), (12, 304, 12, 61, 1161), (12, 307, 12, 62, 1162), (12, 310, 12, 63, 1163), (12, 313, 12, 64, 1164), (12, 316, 12, 65, 1165), (12, 413, 12, 66, 1166), (12, 425, 12, 67, 1167), (12, 319, 12, 68, 1168), (12, 322, 12, 69, 1169), (12, 325, 12, 70, 1170), (12, 328, 12, 71, 1171), (12, 435, 12, 72, 1172), (12, 331, 12, 73, 1173), (12, 334, 12, 74, 1174), (12, 337, 12, 75, 1175), (12, 340, 12, 76, 1176), (12, 343, 12, 77, 1177), (12, 346, 12, 78, 1178), (12, 349, 12, 79, 1179), (12, 352, 12, 80, 1180)]
def z_kT : List (Nat × Nat × Value × Nat) := [(11, 175, .int (99999), 599), (11, 238, .long (-4611686018427387904), 683), (4, 49, .int (2147483647), 778), (13, 265, .int (1431655765), 812), (13, 266, .int (858993459), 813), (13, 267, .int (252645135), 814), (12, 1, .long (60), 940), (12, 15, .long (5), 948), (12, 17, .long (4), 955), (12, 31, .long (9999), 956), (12, 33, .long (90), 957), (12, 76, .long (12), 967), (12, 89, .long (99999), 984), (12, 94, .long (100), 989), (12, 19, .long (3), 1005), (12, 13, .long (399), 1017), (12, 108, .long (999), 1018), (12, 125, .long (8), 1027), (12, 358, .long (2), 1361), (12, 363, .long (-4611686018427387904), 1377), (12, 378, .long (9), 1394), (12, 389, .long (16), 1408), (12, 420, .long (1023), 1453), (12, 451, .long (-1), 1510), (12, 456, .long (40), 1526), (20, 57, .long (4294967295), 1532)]
def z_sT : List (Nat × Nat × Nat × String) := [(11, 95, 0, "pay 3 - weight ; fine missed * 5 ; find 1 ;"), (9, 50, 1, "pay"), (9, 56, 2, "fine"), (9, 58, 3, "find"), (9, 60, 4, "or"), (9, 62, 5, "and"), (9, 64, 6, "not"), (9, 66, 7, "weight"), (9, 68, 8, "day"), (9, 70, 9, "wet"), (9, 72, 10, "kind"), (9, 74, 11, "missed"), (9, 76, 12, "price")]
def z_gT : List (Nat × Nat × Nat × Nat) := [(15, 38, 3, 341), (15, 1053, 4, 357), (2, 51, 0, 582), (2, 58, 1, 593), (2, 61, 2, 934)]
def z_gN : List (String × String × String) := [("DustYards$Carts", "HUNDREDTHS", "[I"), ("DustYards$Carts", "EYES", "[I"), ("DustYards$Carts", "UNDER", "[I"), ("java/lang/String", "COMPACT_STRINGS", "Z"), ("jdk/internal/util/Preconditions", "SIOOBE_FORMATTER", "Ljava/util/function/BiFunction;")]
def z_nT : List (Nat × Nat × String × Nat) := [(20, 7, "DustYards", 22), (11, 7, "DustYards$Carts", 30), (11, 20, "DustYards$Prices", 82), (11, 27, "DustYards$Tape", 105), (11, 34, "DustYards$Contracts", 134), (3, 9, "DustYards$Text", 140), (11, 47, "DustYards$Finds", 178), (11, 54, "DustYards$Doors", 201), (11, 67, "DustYards$Hands", 242), (11, 74, "DustYards$Barges", 269), (11, 81, "DustYards$Buyers", 287), (11, 88, "DustYards$Sheet", 312), (20, 10, "DustYardsModel", 1095)]
/-- calls: class, index, method, kind (0 virtual, 1 static, 2 init, 3 static of a nest mate, 4 init of a nest mate), how many arguments, places of its words -/
def z_cT0 : List (Nat × Nat × Nat × Nat × Nat × Nat × Nat × Nat) := [(20, 9, 75, 2, 0, 24, 25, 0), (11, 9, 10, 4, 0, 32, 33, 0), (11, 22, 39, 4, 0, 84, 85, 0), (11, 29, 47, 4, 0, 107, 108, 0), (11, 36, 22, 2, 0, 136, 137, 0), (3, 27, 60, 4, 0, 143, 144, 0), (11, 49, 33, 4, 0, 180, 181, 0), (11, 56, 25, 4, 0, 203, 204, 0), (11, 69, 35, 4, 0, 244, 245, 0), (11, 76, 1, 4, 0, 271, 272, 0), (11, 83, 5, 4, 0, 289, 290, 0), (11, 94, 42, 4, 0, 315, 316, 0), (11, 97, 216, 0, 0, 333, 334, 393), (15, 335, 218, 0, 0, 337, 338, 397), (11, 103, 217, 0, 1, 343, 344, 403), (15, 492, 219, 0, 0, 347, 348, 407), (15, 495, 221, 1, 2, 351, 352, 0), (16, 9, 220, 1, 2, 354, 355, 0), (15, 1059, 223, 1, 3, 359, 360, 0), (17, 414, 220, 1, 2, 371, 355, 0)]
def z_cT1 : List (Nat × Nat × Nat × Nat × Nat × Nat × Nat × Nat) := [(11, 107, 48, 0, 1, 381, 382, 441), (11, 111, 88, 0, 0, 385, 386, 445), (11, 219, 61, 0, 1, 389, 390, 449), (10, 22, 50, 0, 0, 393, 394, 453), (9, 22, 52, 0, 0, 397, 398, 457), (9, 31, 56, 1, 1, 401, 402, 0), (9, 35, 57, 1, 1, 404, 405, 0), (9, 38, 53, 0, 0, 407, 409, 0), (9, 52, 55, 0, 1, 412, 414, 1), (9, 81, 216, 0, 0, 416, 334, 393), (9, 87, 217, 0, 1, 417, 344, 403), (9, 41, 58, 1, 1, 429, 430, 0), (9, 44, 54, 0, 0, 432, 434, 2), (9, 47, 59, 1, 1, 436, 437, 0), (10, 27, 51, 0, 1, 439, 440, 499), (10, 31, 63, 0, 2, 443, 445, 3), (10, 38, 64, 0, 2, 447, 449, 4), (10, 48, 65, 0, 2, 451, 453, 5), (10, 51, 66, 0, 2, 455, 457, 6), (10, 54, 67, 0, 2, 459, 461, 7)]
def z_cT2 : List (Nat × Nat × Nat × Nat × Nat × Nat × Nat × Nat) := [(10, 57, 68, 0, 2, 463, 465, 8), (10, 60, 69, 0, 2, 467, 469, 9), (10, 63, 70, 0, 2, 471, 473, 10), (10, 41, 52, 0, 0, 475, 398, 457), (10, 44, 62, 0, 1, 476, 478, 11), (10, 66, 71, 0, 2, 480, 482, 12), (11, 225, 49, 0, 0, 484, 485, 544), (20, 13, 76, 0, 1, 544, 545, 604), (11, 114, 119, 1, 3, 548, 549, 0), (20, 18, 77, 0, 6, 551, 552, 611), (11, 122, 120, 1, 1, 555, 556, 0), (11, 126, 121, 1, 1, 558, 559, 0), (11, 132, 12, 0, 4, 561, 562, 621), (11, 136, 13, 0, 4, 565, 566, 625), (20, 23, 78, 0, 2, 569, 570, 629), (11, 140, 11, 0, 1, 573, 574, 633), (2, 47, 119, 3, 3, 577, 549, 0), (11, 158, 16, 0, 3, 578, 579, 638), (11, 162, 17, 0, 1, 584, 585, 644), (2, 54, 16, 0, 3, 588, 579, 638)]
def z_cT3 : List (Nat × Nat × Nat × Nat × Nat × Nat × Nat × Nat) := [(11, 166, 18, 0, 1, 589, 590, 649), (20, 28, 79, 0, 2, 595, 596, 655), (11, 176, 14, 0, 2, 600, 601, 660), (11, 180, 80, 0, 1, 604, 606, 13), (20, 32, 81, 0, 2, 608, 609, 668), (11, 183, 20, 0, 2, 612, 613, 672), (2, 64, 14, 0, 2, 616, 601, 660), (20, 36, 82, 0, 1, 617, 618, 677), (11, 187, 21, 0, 1, 621, 622, 681), (20, 40, 83, 0, 1, 625, 626, 685), (20, 44, 84, 0, 2, 629, 630, 689), (11, 190, 122, 1, 1, 633, 634, 0), (11, 193, 41, 0, 3, 636, 637, 696), (11, 196, 127, 1, 2, 640, 641, 0), (20, 48, 85, 0, 3, 643, 644, 703), (11, 202, 125, 1, 1, 647, 648, 0), (11, 206, 40, 0, 4, 650, 651, 710), (20, 53, 86, 0, 3, 654, 655, 714), (20, 59, 87, 0, 2, 658, 659, 718), (20, 64, 88, 0, 0, 662, 386, 445)]
def z_cT4 : List (Nat × Nat × Nat × Nat × Nat × Nat × Nat × Nat) := [(20, 69, 89, 0, 3, 663, 664, 723), (11, 232, 23, 0, 3, 667, 668, 727), (20, 73, 90, 0, 2, 671, 672, 731), (11, 235, 24, 0, 2, 675, 676, 735), (20, 77, 91, 0, 2, 679, 680, 739), (11, 240, 92, 0, 2, 684, 686, 14), (11, 246, 29, 0, 2, 688, 689, 748), (11, 249, 72, 0, 3, 692, 693, 752), (10, 72, 74, 1, 1, 696, 697, 0), (10, 76, 73, 1, 3, 699, 700, 0), (20, 82, 93, 0, 3, 702, 703, 762), (11, 253, 126, 1, 2, 706, 707, 0), (11, 256, 15, 0, 4, 709, 710, 769), (11, 260, 214, 1, 2, 713, 714, 0), (20, 87, 94, 0, 3, 716, 717, 776), (11, 265, 123, 1, 1, 720, 721, 0), (11, 269, 34, 0, 3, 723, 724, 783), (20, 91, 95, 0, 1, 727, 728, 787), (11, 271, 96, 0, 1, 731, 733, 15), (11, 277, 213, 1, 2, 735, 736, 0)]
def z_cT5 : List (Nat × Nat × Nat × Nat × Nat × Nat × Nat × Nat) := [(20, 95, 97, 0, 1, 738, 739, 798), (11, 280, 98, 0, 1, 742, 744, 16), (20, 100, 99, 0, 4, 746, 747, 806), (11, 290, 26, 0, 4, 750, 751, 810), (20, 105, 100, 0, 1, 754, 755, 814), (11, 295, 27, 0, 2, 758, 759, 818), (11, 301, 28, 0, 2, 762, 763, 822), (20, 109, 101, 0, 3, 766, 767, 826), (11, 306, 30, 0, 3, 770, 771, 830), (4, 43, 31, 0, 2, 774, 776, 17), (4, 50, 32, 1, 3, 779, 780, 0), (4, 54, 215, 1, 2, 782, 783, 0), (20, 113, 102, 0, 2, 785, 786, 845), (20, 117, 103, 0, 4, 789, 790, 849), (11, 312, 104, 0, 4, 793, 795, 18), (20, 122, 105, 0, 3, 797, 798, 857), (11, 319, 36, 0, 3, 801, 802, 861), (20, 126, 106, 0, 2, 805, 806, 865), (11, 322, 212, 1, 1, 809, 810, 0), (11, 327, 37, 0, 1, 815, 816, 875)]
def z_cT6 : List (Nat × Nat × Nat × Nat × Nat × Nat × Nat × Nat) := [(6, 31, 38, 0, 3, 819, 821, 19), (20, 130, 107, 0, 2, 826, 827, 886), (11, 337, 2, 0, 2, 830, 831, 890), (20, 134, 108, 0, 2, 834, 835, 894), (11, 339, 3, 0, 1, 838, 839, 898), (0, 22, 4, 0, 2, 842, 843, 902), (11, 345, 4, 0, 2, 846, 843, 902), (20, 138, 109, 0, 2, 847, 848, 907), (11, 350, 6, 0, 2, 851, 852, 911), (20, 142, 110, 0, 2, 855, 856, 915), (20, 146, 111, 0, 1, 859, 860, 919), (11, 354, 7, 0, 1, 863, 864, 923), (1, 29, 222, 1, 2, 867, 868, 0), (1, 35, 8, 0, 1, 870, 872, 20), (1, 39, 215, 1, 2, 874, 783, 0), (11, 357, 9, 0, 0, 875, 876, 935), (1, 45, 127, 3, 2, 879, 641, 0), (20, 150, 112, 0, 1, 880, 881, 940), (20, 154, 113, 0, 3, 884, 885, 944), (11, 364, 124, 1, 1, 888, 889, 0)]
def z_cT7 : List (Nat × Nat × Nat × Nat × Nat × Nat × Nat × Nat) := [(11, 367, 44, 0, 2, 891, 892, 951), (8, 22, 222, 1, 2, 895, 868, 0), (20, 158, 114, 0, 3, 896, 897, 956), (11, 370, 43, 0, 0, 900, 901, 960), (11, 375, 45, 0, 2, 904, 905, 964), (20, 162, 115, 0, 5, 908, 909, 968), (11, 381, 46, 0, 2, 912, 913, 972), (20, 167, 116, 0, 6, 917, 918, 977), (11, 393, 117, 0, 5, 921, 923, 21), (11, 397, 85, 0, 3, 925, 644, 703), (20, 171, 118, 0, 2, 926, 927, 986), (11, 400, 19, 0, 2, 930, 931, 990), (20, 17, 129, 0, 1, 936, 937, 996), (12, 3, 128, 1, 3, 941, 942, 0), (20, 22, 135, 0, 6, 944, 945, 1004), (12, 24, 131, 1, 1, 949, 950, 0), (12, 28, 132, 1, 1, 952, 953, 0), (20, 27, 139, 0, 2, 958, 959, 1018), (12, 73, 134, 0, 1, 962, 964, 22), (12, 78, 137, 0, 1, 968, 970, 23)]
def z_cT8 : List (Nat × Nat × Nat × Nat × Nat × Nat × Nat × Nat) := [(12, 66, 136, 0, 3, 972, 974, 24), (12, 82, 138, 0, 1, 976, 978, 25), (20, 31, 140, 0, 2, 980, 981, 1040), (20, 35, 141, 0, 2, 985, 986, 1045), (20, 39, 142, 0, 1, 990, 991, 1050), (20, 43, 143, 0, 1, 994, 995, 1054), (20, 47, 144, 0, 2, 998, 999, 1058), (12, 96, 133, 1, 1, 1002, 1003, 0), (12, 99, 146, 0, 3, 1006, 1008, 26), (20, 52, 145, 0, 3, 1010, 1011, 1070), (12, 105, 130, 1, 1, 1014, 1015, 0), (20, 56, 147, 0, 3, 1019, 1020, 1079), (20, 63, 148, 0, 2, 1023, 1024, 1083), (20, 68, 165, 0, 0, 1028, 1029, 1088), (12, 232, 164, 0, 1, 1032, 1034, 27), (12, 223, 153, 0, 0, 1036, 1038, 28), (12, 137, 149, 0, 1, 1040, 1042, 29), (12, 159, 151, 0, 0, 1044, 1046, 30), (12, 156, 150, 0, 1, 1048, 1050, 31), (12, 163, 152, 0, 0, 1052, 1054, 32)]
def z_cT9 : List (Nat × Nat × Nat × Nat × Nat × Nat × Nat × Nat) := [(12, 194, 155, 0, 1, 1056, 1058, 33), (12, 226, 163, 0, 1, 1060, 1062, 34), (12, 187, 156, 0, 1, 1064, 1066, 35), (12, 203, 158, 0, 1, 1068, 1070, 36), (12, 181, 157, 1, 1, 1072, 1073, 0), (12, 191, 154, 0, 1, 1075, 1077, 37), (12, 209, 162, 0, 1, 1079, 1081, 38), (12, 206, 159, 0, 1, 1083, 1085, 39), (12, 216, 160, 0, 0, 1087, 1089, 40), (12, 220, 161, 0, 0, 1091, 1093, 41), (20, 12, 169, 2, 0, 1096, 1097, 0), (20, 72, 170, 0, 3, 1345, 1346, 1405), (20, 76, 172, 0, 2, 1349, 1350, 1409), (12, 239, 171, 0, 2, 1353, 1355, 42), (20, 81, 173, 0, 2, 1357, 1358, 1417), (12, 360, 168, 0, 2, 1362, 1364, 43), (12, 245, 166, 0, 2, 1366, 1368, 44), (12, 235, 182, 0, 2, 1370, 1372, 45), (12, 248, 167, 1, 3, 1374, 1375, 0), (20, 86, 176, 0, 3, 1378, 1379, 1438)]
def z_cT10 : List (Nat × Nat × Nat × Nat × Nat × Nat × Nat × Nat) := [(12, 365, 174, 1, 2, 1382, 1383, 0), (12, 369, 175, 0, 4, 1385, 1387, 46), (12, 373, 214, 1, 2, 1389, 714, 0), (20, 90, 177, 0, 3, 1390, 1391, 1450), (20, 94, 179, 0, 1, 1395, 1396, 1455), (12, 386, 178, 0, 1, 1399, 1401, 47), (12, 383, 213, 1, 2, 1403, 736, 0), (20, 99, 180, 0, 1, 1404, 1405, 1464), (20, 104, 181, 0, 4, 1409, 1410, 1469), (20, 108, 183, 0, 1, 1413, 1414, 1473), (20, 112, 187, 0, 3, 1417, 1418, 1477), (12, 400, 184, 0, 1, 1421, 1423, 48), (12, 403, 186, 0, 2, 1425, 1427, 49), (12, 397, 185, 0, 1, 1429, 1431, 50), (20, 116, 188, 0, 2, 1433, 1434, 1493), (20, 121, 190, 0, 4, 1437, 1438, 1497), (12, 409, 189, 0, 4, 1441, 1443, 51), (20, 125, 191, 0, 3, 1445, 1446, 1505), (20, 129, 194, 0, 2, 1449, 1450, 1509), (12, 422, 193, 0, 1, 1454, 1456, 52)]
def z_cT11 : List (Nat × Nat × Nat × Nat × Nat × Nat × Nat × Nat) := [(12, 416, 192, 0, 4, 1458, 1460, 53), (20, 133, 195, 0, 2, 1462, 1463, 1522), (20, 137, 198, 0, 2, 1466, 1467, 1526), (12, 428, 197, 0, 1, 1470, 1472, 54), (12, 431, 196, 0, 2, 1474, 1476, 55), (20, 141, 199, 0, 2, 1478, 1479, 1538), (20, 145, 200, 0, 2, 1482, 1483, 1542), (20, 149, 203, 0, 1, 1486, 1487, 1546), (12, 445, 202, 0, 0, 1490, 1492, 56), (12, 438, 201, 0, 0, 1494, 1496, 57), (12, 442, 215, 1, 2, 1498, 783, 0), (20, 153, 204, 0, 1, 1499, 1500, 1559), (20, 157, 206, 0, 3, 1503, 1504, 1563), (12, 448, 205, 1, 1, 1507, 1508, 0), (20, 161, 208, 0, 3, 1511, 1512, 1571), (12, 453, 207, 1, 2, 1515, 1516, 0), (20, 166, 209, 0, 5, 1518, 1519, 1578), (20, 170, 210, 0, 6, 1522, 1523, 1582), (12, 458, 145, 0, 3, 1527, 1011, 1070), (20, 174, 211, 0, 2, 1528, 1529, 1588)]
def z_cT : List (Nat × Nat × Nat × Nat × Nat × Nat × Nat × Nat) := z_cT0 ++ (z_cT1 ++ (z_cT2 ++ (z_cT3 ++ (z_cT4 ++ (z_cT5 ++ (z_cT6 ++ (z_cT7 ++ (z_cT8 ++ (z_cT9 ++ (z_cT10 ++ (z_cT11)))))))))))
def z_oT : List (Nat × Nat × Nat) := [(11, 1, 27), (2, 3, 35), (7, 3, 87), (9, 3, 110), (3, 3, 139), (10, 3, 146), (5, 3, 183), (4, 3, 206), (6, 3, 247), (0, 3, 274), (1, 3, 292), (8, 3, 318), (12, 251, 1099)]
def z_yT : List (Nat × Nat × Nat) := [(6, 35, 823), (11, 387, 916)]
def z_str : List (List Int32) := [[112, 97, 121, 32, 51, 32, 45, 32, 119, 101, 105, 103, 104, 116, 32, 59, 32, 102, 105, 110, 101, 32, 109, 105, 115, 115, 101, 100, 32, 42, 32, 53, 32, 59, 32, 102, 105, 110, 100, 32, 49, 32, 59], [112, 97, 121], [102, 105, 110, 101], [102, 105, 110, 100], [111, 114], [97, 110, 100], [110, 111, 116], [119, 101, 105, 103, 104, 116], [100, 97, 121], [119, 101, 116], [107, 105, 110, 100], [109, 105, 115, 115, 101, 100], [112, 114, 105, 99, 101]]
def z_ro0 : List (FieldType × List Int32) := [(.int, [20, 40, 5, 3, 50, 40, 5, 3, 10, 50, 10, 3, 70, 20, 0, 3, 10, 70, 20, 0, 10, 80, 5, 3]), (.int, [10, 5, 25, 5, 30, 10]), (.int, [(-1), 0, 0, 1, 2, 1])] ++ z_str.map fun l => (FieldType.byte, l)
def z_okF (e : Nat × Nat × Nat × Nat × Nat) : Bool := match z_cls[e.2.2.1]? with
  | some q => decide (tables_1[e.2.2.2.2]? = some (Cond.fieldLink (z_ow e.1) e.2.1 (q.2.1 e.2.2.2.1).1 (q.2.1 e.2.2.2.1).2.1 (q.2.1 e.2.2.2.1).2.2.1)) && decide (e.2.2.2.1 < q.2.2)
  | none => false
def z_okK (e : Nat × Nat × Value × Nat) : Bool := match e.2.2.1 with
  | .int v => decide (tables_1[e.2.2.2]? = some (Cond.constant (z_ow e.1) e.2.1 v))
  | .long v => decide (tables_1[e.2.2.2]? = some (Cond.constantLong (z_ow e.1) e.2.1 v))
  | _ => false
def z_okG (e : Nat × Nat × Nat × Nat) : Bool := match z_gN[e.2.2.1]? with
  | some q => decide (tables_1[e.2.2.2]? = some (Cond.fieldLink (z_ow e.1) e.2.1 q.1 q.2.1 q.2.2))
  | none => false
def z_okN (e : Nat × Nat × String × Nat) : Bool := decide (tables_1[e.2.2.2]? = some (Cond.classLink (z_ow e.1) e.2.1 e.2.2.1))
def z_nm1 (M : Nat) : MethodName := match z_M[M]? with
  | some e => e.1
  | none => ⟨"", "", ""⟩
def z_okQ (e : Nat × Nat × Nat × Nat × Nat × Nat × Nat × Nat) : Bool :=
  match e with
  | (own, idx, M, kind, n, p1, p2, p3) =>
    decide (M ≠ 0) && decide ((parseMethodDescriptor (z_nm1 M).desc).map (fun d => d.parameters.length) = some n) && (match kind with
    | 0 => decide (tables_1[p1]? = some (Cond.methodLink (z_ow own) idx (z_nm1 M))) && decide (tables_1[p2]? = some (Cond.instanceMethod (z_nm1 M))) && decide (lw_tbl[p3]? = some (Cond.selects (z_nm1 M).cls (z_nm1 M) (z_nm1 M)))
    | 1 => decide (tables_1[p1]? = some (Cond.methodLink (z_ow own) idx (z_nm1 M))) && decide (tables_1[p2]? = some (Cond.static (z_nm1 M)))
    | 2 => decide (tables_1[p1]? = some (Cond.methodLink (z_ow own) idx (z_nm1 M))) && decide (tables_1[p2]? = some (Cond.instanceMethod (z_nm1 M))) && decide ((z_nm1 M).name = "<init>")
    | 3 => decide (tables_1[p1]? = some (Cond.methodLinkNest (z_ow own) idx (z_nm1 M) "DustYards")) && decide (tables_1[p2]? = some (Cond.static (z_nm1 M)))
    | 4 => decide (tables_1[p1]? = some (Cond.methodLinkNest (z_ow own) idx (z_nm1 M) "DustYards")) && decide (tables_1[p2]? = some (Cond.instanceMethod (z_nm1 M))) && decide ((z_nm1 M).name = "<init>")
    | _ => false)
set_option maxRecDepth 100000 in
theorem z_flT_ok : z_flT.all z_okF = true := by decide +kernel
set_option maxRecDepth 100000 in
theorem z_kT_ok : z_kT.all z_okK = true := by decide +kernel
set_option maxRecDepth 100000 in
theorem z_gT_ok : z_gT.all z_okG = true := by decide +kernel
set_option maxRecDepth 100000 in
theorem z_nT_ok : z_nT.all z_okN = true := by decide +kernel
set_option maxRecDepth 100000 in
theorem z_cT_ok0 : z_cT0.all z_okQ = true := by decide +kernel
set_option maxRecDepth 100000 in
theorem z_cT_ok1 : z_cT1.all z_okQ = true := by decide +kernel
set_option maxRecDepth 100000 in
theorem z_cT_ok2 : z_cT2.all z_okQ = true := by decide +kernel
set_option maxRecDepth 100000 in
theorem z_cT_ok3 : z_cT3.all z_okQ = true := by decide +kernel
set_option maxRecDepth 100000 in
theorem z_cT_ok4 : z_cT4.all z_okQ = true := by decide +kernel
set_option maxRecDepth 100000 in
theorem z_cT_ok5 : z_cT5.all z_okQ = true := by decide +kernel
set_option maxRecDepth 100000 in
theorem z_cT_ok6 : z_cT6.all z_okQ = true := by decide +kernel
set_option maxRecDepth 100000 in
theorem z_cT_ok7 : z_cT7.all z_okQ = true := by decide +kernel
set_option maxRecDepth 100000 in
theorem z_cT_ok8 : z_cT8.all z_okQ = true := by decide +kernel
set_option maxRecDepth 100000 in
theorem z_cT_ok9 : z_cT9.all z_okQ = true := by decide +kernel
set_option maxRecDepth 100000 in
theorem z_cT_ok10 : z_cT10.all z_okQ = true := by decide +kernel
set_option maxRecDepth 100000 in
theorem z_cT_ok11 : z_cT11.all z_okQ = true := by decide +kernel
theorem z_cT_ok : z_cT.all z_okQ = true := by
  simp only [z_cT, List.all_append, Bool.and_eq_true]
  exact ⟨z_cT_ok0, ⟨z_cT_ok1, ⟨z_cT_ok2, ⟨z_cT_ok3, ⟨z_cT_ok4, ⟨z_cT_ok5, ⟨z_cT_ok6, ⟨z_cT_ok7, ⟨z_cT_ok8, ⟨z_cT_ok9, ⟨z_cT_ok10, z_cT_ok11⟩⟩⟩⟩⟩⟩⟩⟩⟩⟩⟩
set_option maxRecDepth 100000 in
theorem z_oT_ok : z_oT.all (fun e => decide (tables_1[e.2.2]? = some (Cond.methodLink (z_ow e.1) e.2.1 objectInit))) = true := by decide +kernel
set_option maxRecDepth 100000 in
theorem z_yT_ok : z_yT.all (fun e => decide (tables_1[e.2.2]? = some (Cond.methodLink (z_ow e.1) e.2.1 arraycopyName))) = true := by decide +kernel
end
section
/-! a machine of my own over frames: one step of an instruction that touches its frame alone -/
abbrev zL : Type := List (Option Value)
def z_get (ls : zL) (i : Nat) : Option Value := match ls[i]? with
  | some (some v) => some v
  | _ => none
def z_prs : Nat → zL → List (Nat × Value)
  | _, [] => []
  | k, none :: t => z_prs (k + 1) t
  | k, some v :: t => (k, v) :: z_prs (k + 1) t
def z_is2 (o : Option Value) : Bool := match o with
  | some (.long _) => true
  | some (.double _) => true
  | _ => false
def z_clr (ls : zL) (i : Nat) : zL := match i with
  | 0 => ls
  | j + 1 => if z_is2 (z_get ls j) = true then ls.set j none else ls
def z_st1 (ls : zL) (i : Nat) (v : Value) : zL := (z_clr ls i).set i (some v)
def z_st2 (ls : zL) (i : Nat) (v : Value) : zL := ((z_clr ls i).set i (some v)).set (i + 1) none
def z_br (pc : Nat) (off : Int) : Option Nat := if 0 ≤ (pc : Int) + off then some ((pc : Int) + off).toNat else none
def z_cond (c : Jvm.ClassFile.Cond) (x y : Int32) : Bool := match c with
  | .eq => decide (x = y)
  | .ne => decide (¬ x = y)
  | .lt => decide (x < y)
  | .ge => decide (y ≤ x)
  | .gt => decide (y < x)
  | .le => decide (x ≤ y)
abbrev zF : Type := Option (Nat × zL × List Value)
def z_push (k len pc : Nat) (ls : zL) (st : List Value) (v : Value) : zF := if len = k then some (pc + k, ls, v :: st) else none
/-- kinds: 0 int, 1 long, 2 a reference or null (or one that is only carried) -/
def z_kind (t : Nat) (v : Value) : Bool := match t, v with
  | 0, .int _ => true
  | 1, .long _ => true
  | 2, .ref _ => true
  | 2, .null => true
  | 2, .retAddr _ => true
  | _, _ => false
def z_ld (t k len pc : Nat) (ls : zL) (st : List Value) (i : Nat) : zF := match z_get ls i with
  | some v => if len = k ∧ z_kind t v = true then some (pc + k, ls, v :: st) else none
  | none => none
def z_sto (t k len pc : Nat) (ls : zL) (st : List Value) (i : Nat) : zF := match st with
  | v :: r => if len = k ∧ z_kind t v = true then
      (if t = 1 then (if i + 1 < ls.length then some (pc + k, z_st2 ls i v, r) else none) else (if i < ls.length then some (pc + k, z_st1 ls i v, r) else none)) else none
  | [] => none
def z_ii (f : Int32 → Int32 → Int32) (len pc : Nat) (ls : zL) (st : List Value) : zF := match st with
  | .int y :: .int x :: r => if len = 1 then some (pc + 1, ls, .int (f x y) :: r) else none
  | _ => none
def z_dv (f : Int32 → Int32 → Int32) (len pc : Nat) (ls : zL) (st : List Value) : zF := match st with
  | .int y :: .int x :: r => if len = 1 ∧ ¬ y = 0 then some (pc + 1, ls, .int (f x y) :: r) else none
  | _ => none
def z_ll (f : Int64 → Int64 → Int64) (len pc : Nat) (ls : zL) (st : List Value) : zF := match st with
  | .long y :: .long x :: r => if len = 1 then some (pc + 1, ls, .long (f x y) :: r) else none
  | _ => none
def z_li (f : Int64 → Int32 → Int64) (len pc : Nat) (ls : zL) (st : List Value) : zF := match st with
  | .int y :: .long x :: r => if len = 1 then some (pc + 1, ls, .long (f x y) :: r) else none
  | _ => none
def z_i1 (f : Int32 → Value) (len pc : Nat) (ls : zL) (st : List Value) : zF := match st with
  | .int x :: r => if len = 1 then some (pc + 1, ls, f x :: r) else none
  | _ => none
def z_l1 (f : Int64 → Value) (len pc : Nat) (ls : zL) (st : List Value) : zF := match st with
  | .long x :: r => if len = 1 then some (pc + 1, ls, f x :: r) else none
  | _ => none
def z_jmp (pc : Nat) (b : Bool) (off : Int) (ls : zL) (st : List Value) : zF := match z_br pc off with
  | some tgt => some (if b = true then tgt else pc + 3, ls, st)
  | none => none
def z_tsw (dflt lo hi : Int) (offs : Array Int) (pc : Nat) (ls : zL) (st : List Value) : zF := match st with
  | .int x :: r =>
    if x.toInt < lo ∨ hi < x.toInt then (match z_br pc dflt with
      | some tgt => some (tgt, ls, r)
      | none => none) else (match offs[(x.toInt - lo).toNat]? with
      | some off => (match z_br pc off with
        | some tgt => some (tgt, ls, r)
        | none => none)
      | none => none)
  | _ => none
def z_loc (ins : Instr) (len pc : Nat) (ls : zL) (st : List Value) : zF := match ins with
  | .iconst n => z_push 1 len pc ls st (.int (Int32.ofInt n))
  | .bipush n => z_push 2 len pc ls st (.int (Int8.ofInt n).toInt32)
  | .sipush n => z_push 3 len pc ls st (.int (Int16.ofInt n).toInt32)
  | .lconst n => z_push 1 len pc ls st (.long (Int64.ofNat (n : Nat)))
  | .aconst_null => z_push 1 len pc ls st .null
  | .iload_n k => z_ld 0 1 len pc ls st (k : Nat)
  | .iload i => z_ld 0 2 len pc ls st i
  | .lload_n k => z_ld 1 1 len pc ls st (k : Nat)
  | .lload i => z_ld 1 2 len pc ls st i
  | .aload_n k => z_ld 2 1 len pc ls st (k : Nat)
  | .aload i => z_ld 2 2 len pc ls st i
  | .istore_n k => z_sto 0 1 len pc ls st (k : Nat)
  | .istore i => z_sto 0 2 len pc ls st i
  | .lstore_n k => z_sto 1 1 len pc ls st (k : Nat)
  | .lstore i => z_sto 1 2 len pc ls st i
  | .astore_n k => z_sto 2 1 len pc ls st (k : Nat)
  | .astore i => z_sto 2 2 len pc ls st i
  | .iinc i n => (match z_get ls i with
    | some (.int x) => if len = 3 ∧ i < ls.length then some (pc + 3, z_st1 ls i (.int (x + Int32.ofInt n)), st) else none
    | _ => none)
  | .iadd => z_ii (fun x y => x + y) len pc ls st
  | .isub => z_ii (fun x y => x - y) len pc ls st
  | .imul => z_ii (fun x y => x * y) len pc ls st
  | .iand => z_ii (fun x y => x &&& y) len pc ls st
  | .ior => z_ii (fun x y => x ||| y) len pc ls st
  | .ixor => z_ii (fun x y => x ^^^ y) len pc ls st
  | .ishl => z_ii (fun x y => x <<< (y &&& 31)) len pc ls st
  | .ishr => z_ii (fun x y => x >>> (y &&& 31)) len pc ls st
  | .iushr => z_ii (fun x y => (x.toUInt32 >>> (y.toUInt32 &&& Int32.toUInt32 31)).toInt32) len pc ls st
  | .idiv => z_dv (fun x y => x / y) len pc ls st
  | .irem => z_dv (fun x y => x - x / y * y) len pc ls st
  | .ladd => z_ll (fun x y => x + y) len pc ls st
  | .lsub => z_ll (fun x y => x - y) len pc ls st
  | .lmul => z_ll (fun x y => x * y) len pc ls st
  | .land => z_ll (fun x y => x &&& y) len pc ls st
  | .lor => z_ll (fun x y => x ||| y) len pc ls st
  | .lxor => z_ll (fun x y => x ^^^ y) len pc ls st
  | .lshl => z_li (fun x y => x <<< (y.toInt64 &&& 63)) len pc ls st
  | .lshr => z_li (fun x y => x >>> (y.toInt64 &&& 63)) len pc ls st
  | .lushr => z_li (fun x y => (x.toUInt64 >>> (y.toInt64.toUInt64 &&& Int64.toUInt64 63)).toInt64) len pc ls st
  | .ineg => z_i1 (fun x => .int (-x)) len pc ls st
  | .i2l => z_i1 (fun x => .long x.toInt64) len pc ls st
  | .i2b => z_i1 (fun x => .int x.toInt8.toInt32) len pc ls st
  | .i2s => z_i1 (fun x => .int x.toInt16.toInt32) len pc ls st
  | .i2c => z_i1 (fun x => .int (x.toUInt32 % 65536).toInt32) len pc ls st
  | .l2i => z_l1 (fun x => .int x.toInt32) len pc ls st
  | .lcmp => (match st with
    | .long y :: .long x :: r => if len = 1 then some (pc + 1, ls, .int (lg_cmp x y) :: r) else none
    | _ => none)
  | .dup => (match st with
    | v :: r => if len = 1 ∧ v.category = 1 then some (pc + 1, ls, v :: v :: r) else none
    | _ => none)
  | .pop => (match st with
    | v :: r => if len = 1 ∧ v.category = 1 then some (pc + 1, ls, r) else none
    | _ => none)
  | .dup2 => (match st with
    | v :: w :: r => if len = 1 ∧ v.category = 1 ∧ w.category = 1 then some (pc + 1, ls, v :: w :: v :: w :: r) else none
    | _ => none)
  | .dup_x1 => (match st with
    | v :: w :: r => if len = 1 ∧ v.category = 1 ∧ w.category = 1 then some (pc + 1, ls, v :: w :: v :: r) else none
    | _ => none)
  | .goto off => if len = 3 then z_jmp pc true off ls st else none
  | .ifCond c off => (match st with
    | .int x :: r => if len = 3 then z_jmp pc (z_cond c x 0) off ls r else none
    | _ => none)
  | .if_icmp c off => (match st with
    | .int y :: .int x :: r => if len = 3 then z_jmp pc (z_cond c x y) off ls r else none
    | _ => none)
  | .tableswitch dflt lo hi offs => z_tsw dflt lo hi offs pc ls st
  | _ => none
/-! what the real frame holds -/
/-- a reference or null that is only carried: my machine writes it as .retAddr -/
def z_op (n : Nat) : Value := match n with
  | 0 => .null
  | t + 1 => .ref t
def z_rv (f : Nat → Nat) (v : Value) : Value := match v with
  | .ref k => .ref (f k)
  | .retAddr k => z_op (f k)
  | w => w
theorem z_op_cat (n : Nat) : (z_op n).category = 1 := by cases n <;> rfl
theorem z_rv_cat (f : Nat → Nat) (v : Value) : (z_rv f v).category = v.category := by
  cases v with
  | retAddr k => exact z_op_cat (f k)
  | _ => rfl
def z_LV (f : Nat → Nat) (ls : zL) (real : Array Slot) (nL : Nat) : Prop := ls.length = nL ∧ lv_has real nL ((z_prs 0 ls).map fun q => (q.1, z_rv f q.2))
theorem z_prs_mem : ∀ (ls : zL) (k : Nat) (i : Nat) (v : Value), (i, v) ∈ z_prs k ls ↔ k ≤ i ∧ ls[i - k]? = some (some v)
  | [], k, i, v => by simp [z_prs]
  | none :: t, k, i, v => by
    rw [z_prs, z_prs_mem t (k + 1) i v]
    constructor
    · rintro ⟨h1, h2⟩
      refine ⟨by omega, ?_⟩
      rw [show i - k = (i - (k + 1)) + 1 by omega, List.getElem?_cons_succ]
      exact h2
    · rintro ⟨h1, h2⟩
      by_cases h : i = k
      · subst h
        simp at h2
      · refine ⟨by omega, ?_⟩
        rw [show i - k = (i - (k + 1)) + 1 by omega, List.getElem?_cons_succ] at h2
        exact h2
  | some w :: t, k, i, v => by
    rw [z_prs, List.mem_cons, z_prs_mem t (k + 1) i v]
    constructor
    · rintro (h | ⟨h1, h2⟩)
      · cases h
        simp
      · refine ⟨by omega, ?_⟩
        rw [show i - k = (i - (k + 1)) + 1 by omega, List.getElem?_cons_succ]
        exact h2
    · rintro ⟨h1, h2⟩
      by_cases h : i = k
      · subst h
        simp at h2
        exact Or.inl (by rw [h2])
      · refine Or.inr ⟨by omega, ?_⟩
        rw [show i - k = (i - (k + 1)) + 1 by omega, List.getElem?_cons_succ] at h2
        exact h2
theorem z_get_iff {ls : zL} {i : Nat} {v : Value} : z_get ls i = some v ↔ ls[i]? = some (some v) := by
  unfold z_get
  split
  · next w h => rw [h]; simp
  · next h =>
    constructor
    · intro h1; cases h1
    · intro h1; exact absurd h1 (h v)
theorem z_LV.at {f : Nat → Nat} {ls : zL} {real : Array Slot} {nL i : Nat} {v : Value} (h : z_LV f ls real nL) (hg : z_get ls i = some v) : real[i]? = some (.val (z_rv f v)) := by
  refine h.2.2.2 (i, z_rv f v) (List.mem_map.mpr ⟨(i, v), (z_prs_mem ls 0 i v).mpr ⟨Nat.zero_le _, ?_⟩, rfl⟩)
  exact z_get_iff.mp hg
theorem z_lv_mono {real : Array Slot} {nL : Nat} {l l' : List (Nat × Value)} (h : lv_has real nL l) (hm : ∀ q ∈ l', q ∈ l) : lv_has real nL l' := ⟨h.1, h.2.1, fun q hq => h.2.2 q (hm q hq)⟩
theorem z_clr_len (ls : zL) (i : Nat) : (z_clr ls i).length = ls.length := by
  unfold z_clr
  split
  · rfl
  · split
    · simp
    · rfl
theorem z_clr_get {ls : zL} {i k : Nat} {w : Value} (h : (z_clr ls i)[k]? = some (some w)) : ls[k]? = some (some w) ∧ ¬ (k + 1 = i ∧ w.category = 2) := by
  unfold z_clr at h
  split at h
  · exact ⟨h, by omega⟩
  · next j =>
    split at h
    · next h2 =>
      by_cases hk : k = j
      · subst hk
        by_cases hl : k < ls.length
        · rw [List.getElem?_set_self hl] at h
          cases h
        · rw [List.getElem?_eq_none (by simp; omega)] at h
          cases h
      · rw [List.getElem?_set_ne (fun q => hk q.symm)] at h
        exact ⟨h, by omega⟩
    · next h2 =>
      refine ⟨h, ?_⟩
      rintro ⟨h3, h4⟩
      have : k = j := by omega
      subst this
      apply h2
      rw [z_get_iff.mpr h]
      cases w <;> first | rfl | (simp [Value.category] at h4)
theorem z_LV.st1 {f : Nat → Nat} {ls : zL} {real : Array Slot} {nL i : Nat} {v : Value} (hl : ls.length = nL)
    (h : lv_has real nL ((i, z_rv f v) :: ((z_prs 0 ls).map fun q => (q.1, z_rv f q.2)).filter (fun q => !(q.1 == i) && !(q.1 + 1 == i && q.2.category == 2)))) : z_LV f (z_st1 ls i v) real nL := by
  refine ⟨by unfold z_st1; rw [List.length_set, z_clr_len]; exact hl, z_lv_mono h ?_⟩
  intro q hq
  obtain ⟨⟨k, w⟩, hk, rfl⟩ := List.mem_map.mp hq
  obtain ⟨-, hk⟩ := (z_prs_mem _ 0 k w).mp hk
  rw [Nat.sub_zero] at hk
  unfold z_st1 at hk
  by_cases hki : k = i
  · subst hki
    have hlt : k < (z_clr ls k).length := by
      have h9 := (List.getElem?_eq_some_iff.mp hk).1
      simpa using h9
    rw [List.getElem?_set_self hlt] at hk
    cases hk
    exact List.mem_cons_self
  · rw [List.getElem?_set_ne (fun q => hki q.symm)] at hk
    obtain ⟨h1, h2⟩ := z_clr_get hk
    refine List.mem_cons_of_mem _ (List.mem_filter.mpr ⟨List.mem_map.mpr ⟨(k, w), (z_prs_mem ls 0 k w).mpr ⟨Nat.zero_le _, h1⟩, rfl⟩, ?_⟩)
    simp only [z_rv_cat, Bool.and_eq_true, Bool.not_eq_true', beq_eq_false_iff_ne, ne_eq, Bool.and_eq_false_iff]
    refine ⟨hki, ?_⟩
    by_cases h3 : k + 1 = i
    · exact Or.inr (fun h4 => h2 ⟨h3, h4⟩)
    · exact Or.inl h3
theorem z_LV.st2 {f : Nat → Nat} {ls : zL} {real : Array Slot} {nL i : Nat} {v : Value} (hl : ls.length = nL)
    (h : lv_has real nL ((i, z_rv f v) :: ((z_prs 0 ls).map fun q => (q.1, z_rv f q.2)).filter (fun q => !(q.1 == i) && (!(q.1 == i + 1) && !(q.1 + 1 == i && q.2.category == 2))))) : z_LV f (z_st2 ls i v) real nL := by
  refine ⟨by unfold z_st2; rw [List.length_set, List.length_set, z_clr_len]; exact hl, z_lv_mono h ?_⟩
  intro q hq
  obtain ⟨⟨k, w⟩, hk, rfl⟩ := List.mem_map.mp hq
  obtain ⟨-, hk⟩ := (z_prs_mem _ 0 k w).mp hk
  rw [Nat.sub_zero] at hk
  unfold z_st2 at hk
  have hk1 : k ≠ i + 1 := by
    intro e
    subst e
    have h9 := (List.getElem?_eq_some_iff.mp hk).1
    rw [List.getElem?_set_self (by simpa using h9)] at hk
    cases hk
  rw [List.getElem?_set_ne (fun q => hk1 q.symm)] at hk
  by_cases hki : k = i
  · subst hki
    have hlt : k < (z_clr ls k).length := by
      have h9 := (List.getElem?_eq_some_iff.mp hk).1
      simpa using h9
    rw [List.getElem?_set_self hlt] at hk
    cases hk
    exact List.mem_cons_self
  · rw [List.getElem?_set_ne (fun q => hki q.symm)] at hk
    obtain ⟨h1, h2⟩ := z_clr_get hk
    refine List.mem_cons_of_mem _ (List.mem_filter.mpr ⟨List.mem_map.mpr ⟨(k, w), (z_prs_mem ls 0 k w).mpr ⟨Nat.zero_le _, h1⟩, rfl⟩, ?_⟩)
    simp only [z_rv_cat, Bool.and_eq_true, Bool.not_eq_true', beq_eq_false_iff_ne, ne_eq, Bool.and_eq_false_iff]
    refine ⟨hki, hk1, ?_⟩
    by_cases h3 : k + 1 = i
    · exact Or.inr (fun h4 => h2 ⟨h3, h4⟩)
    · exact Or.inl h3
theorem z_br_ok {pc tgt : Nat} {off : Int} (h : z_br pc off = some tgt) : (pc : Int) + off = (tgt : Int) := by
  unfold z_br at h
  split at h
  · cases h
    omega
  · cases h
section ZLOC
variable {p : Program} {l : Launch} {e : Env} {R : Room} {s : State} {m : MethodId} {args : Array Value} {below : List Frame} {meth : Method} {c : Code} {H : Heap} {locs : List Loc} {cells slots : Nat} {Q : State → Prop}
variable {cc : ByteArray} {f : Nat → Nat}
theorem z_push_ok {k len pc pc' : Nat} {ls ls' : zL} {st st' : List Value} {v : Value} {real : Array Slot} {nL : Nat} {ins : Instr} (h : z_push k len pc ls st v = some (pc', ls', st')) (hd : decode cc pc = .ok (ins, len)) (hl : z_LV f ls real nL)
    (row : decode cc pc = .ok (ins, k) → W p l e R s m args below meth c H locs cells slots Q (F0 m (pc + k) real (z_rv f v :: st.map (z_rv f))) → W p l e R s m args below meth c H locs cells slots Q (F0 m pc real (st.map (z_rv f))))
    (kk : ∀ real', z_LV f ls' real' nL → W p l e R s m args below meth c H locs cells slots Q (F0 m pc' real' (st'.map (z_rv f)))) : W p l e R s m args below meth c H locs cells slots Q (F0 m pc real (st.map (z_rv f))) := by
  unfold z_push at h
  split at h
  · next hk =>
    subst hk
    cases h
    exact row hd (kk real hl)
  · cases h
theorem z_ii_ok {g : Int32 → Int32 → Int32} {len pc pc' : Nat} {ls ls' : zL} {st st' : List Value} {real : Array Slot} {nL : Nat} {ins : Instr} (h : z_ii g len pc ls st = some (pc', ls', st')) (hd : decode cc pc = .ok (ins, len)) (hl : z_LV f ls real nL)
    (row : ∀ (x y : Int32) (rest : List Value), decode cc pc = .ok (ins, 1) → W p l e R s m args below meth c H locs cells slots Q (F0 m (pc + 1) real (.int (g x y) :: rest)) → W p l e R s m args below meth c H locs cells slots Q (F0 m pc real (.int y :: .int x :: rest)))
    (kk : ∀ real', z_LV f ls' real' nL → W p l e R s m args below meth c H locs cells slots Q (F0 m pc' real' (st'.map (z_rv f)))) : W p l e R s m args below meth c H locs cells slots Q (F0 m pc real (st.map (z_rv f))) := by
  unfold z_ii at h
  split at h
  · split at h
    · next hk =>
      subst hk
      cases h
      exact row _ _ _ hd (kk real hl)
    · cases h
  · cases h
theorem z_dv_ok {g : Int32 → Int32 → Int32} {len pc pc' : Nat} {ls ls' : zL} {st st' : List Value} {real : Array Slot} {nL : Nat} {ins : Instr} (h : z_dv g len pc ls st = some (pc', ls', st')) (hd : decode cc pc = .ok (ins, len)) (hl : z_LV f ls real nL)
    (row : ∀ (x y : Int32) (rest : List Value), ¬ y = 0 → decode cc pc = .ok (ins, 1) → W p l e R s m args below meth c H locs cells slots Q (F0 m (pc + 1) real (.int (g x y) :: rest)) → W p l e R s m args below meth c H locs cells slots Q (F0 m pc real (.int y :: .int x :: rest)))
    (kk : ∀ real', z_LV f ls' real' nL → W p l e R s m args below meth c H locs cells slots Q (F0 m pc' real' (st'.map (z_rv f)))) : W p l e R s m args below meth c H locs cells slots Q (F0 m pc real (st.map (z_rv f))) := by
  unfold z_dv at h
  split at h
  · split at h
    · next hk =>
      obtain ⟨rfl, hy⟩ := hk
      cases h
      exact row _ _ _ hy hd (kk real hl)
    · cases h
  · cases h
theorem z_ll_ok {g : Int64 → Int64 → Int64} {len pc pc' : Nat} {ls ls' : zL} {st st' : List Value} {real : Array Slot} {nL : Nat} {ins : Instr} (h : z_ll g len pc ls st = some (pc', ls', st')) (hd : decode cc pc = .ok (ins, len)) (hl : z_LV f ls real nL)
    (row : ∀ (x y : Int64) (rest : List Value), decode cc pc = .ok (ins, 1) → W p l e R s m args below meth c H locs cells slots Q (F0 m (pc + 1) real (.long (g x y) :: rest)) → W p l e R s m args below meth c H locs cells slots Q (F0 m pc real (.long y :: .long x :: rest)))
    (kk : ∀ real', z_LV f ls' real' nL → W p l e R s m args below meth c H locs cells slots Q (F0 m pc' real' (st'.map (z_rv f)))) : W p l e R s m args below meth c H locs cells slots Q (F0 m pc real (st.map (z_rv f))) := by
  unfold z_ll at h
  split at h
  · split at h
    · next hk =>
      subst hk
      cases h
      exact row _ _ _ hd (kk real hl)
    · cases h
  · cases h
theorem z_li_ok {g : Int64 → Int32 → Int64} {len pc pc' : Nat} {ls ls' : zL} {st st' : List Value} {real : Array Slot} {nL : Nat} {ins : Instr} (h : z_li g len pc ls st = some (pc', ls', st')) (hd : decode cc pc = .ok (ins, len)) (hl : z_LV f ls real nL)
    (row : ∀ (x : Int64) (y : Int32) (rest : List Value), decode cc pc = .ok (ins, 1) → W p l e R s m args below meth c H locs cells slots Q (F0 m (pc + 1) real (.long (g x y) :: rest)) → W p l e R s m args below meth c H locs cells slots Q (F0 m pc real (.int y :: .long x :: rest)))
    (kk : ∀ real', z_LV f ls' real' nL → W p l e R s m args below meth c H locs cells slots Q (F0 m pc' real' (st'.map (z_rv f)))) : W p l e R s m args below meth c H locs cells slots Q (F0 m pc real (st.map (z_rv f))) := by
  unfold z_li at h
  split at h
  · split at h
    · next hk =>
      subst hk
      cases h
      exact row _ _ _ hd (kk real hl)
    · cases h
  · cases h
theorem z_i1_ok {g : Int32 → Value} {len pc pc' : Nat} {ls ls' : zL} {st st' : List Value} {real : Array Slot} {nL : Nat} {ins : Instr} (h : z_i1 g len pc ls st = some (pc', ls', st')) (hd : decode cc pc = .ok (ins, len)) (hl : z_LV f ls real nL)
    (row : ∀ (x : Int32) (rest : List Value), decode cc pc = .ok (ins, 1) → W p l e R s m args below meth c H locs cells slots Q (F0 m (pc + 1) real (z_rv f (g x) :: rest)) → W p l e R s m args below meth c H locs cells slots Q (F0 m pc real (.int x :: rest)))
    (kk : ∀ real', z_LV f ls' real' nL → W p l e R s m args below meth c H locs cells slots Q (F0 m pc' real' (st'.map (z_rv f)))) : W p l e R s m args below meth c H locs cells slots Q (F0 m pc real (st.map (z_rv f))) := by
  unfold z_i1 at h
  split at h
  · split at h
    · next hk =>
      subst hk
      cases h
      exact row _ _ hd (kk real hl)
    · cases h
  · cases h
theorem z_l1_ok {g : Int64 → Value} {len pc pc' : Nat} {ls ls' : zL} {st st' : List Value} {real : Array Slot} {nL : Nat} {ins : Instr} (h : z_l1 g len pc ls st = some (pc', ls', st')) (hd : decode cc pc = .ok (ins, len)) (hl : z_LV f ls real nL)
    (row : ∀ (x : Int64) (rest : List Value), decode cc pc = .ok (ins, 1) → W p l e R s m args below meth c H locs cells slots Q (F0 m (pc + 1) real (z_rv f (g x) :: rest)) → W p l e R s m args below meth c H locs cells slots Q (F0 m pc real (.long x :: rest)))
    (kk : ∀ real', z_LV f ls' real' nL → W p l e R s m args below meth c H locs cells slots Q (F0 m pc' real' (st'.map (z_rv f)))) : W p l e R s m args below meth c H locs cells slots Q (F0 m pc real (st.map (z_rv f))) := by
  unfold z_l1 at h
  split at h
  · split at h
    · next hk =>
      subst hk
      cases h
      exact row _ _ hd (kk real hl)
    · cases h
  · cases h
theorem z_ld_ok {t k len pc pc' i : Nat} {ls ls' : zL} {st st' : List Value} {real : Array Slot} {nL : Nat} {ins : Instr} (h : z_ld t k len pc ls st i = some (pc', ls', st')) (hd : decode cc pc = .ok (ins, len)) (hl : z_LV f ls real nL)
    (row : ∀ v : Value, z_kind t v = true → real[i]? = some (.val (z_rv f v)) → decode cc pc = .ok (ins, k) → W p l e R s m args below meth c H locs cells slots Q (F0 m (pc + k) real (z_rv f v :: st.map (z_rv f))) → W p l e R s m args below meth c H locs cells slots Q (F0 m pc real (st.map (z_rv f))))
    (kk : ∀ real', z_LV f ls' real' nL → W p l e R s m args below meth c H locs cells slots Q (F0 m pc' real' (st'.map (z_rv f)))) : W p l e R s m args below meth c H locs cells slots Q (F0 m pc real (st.map (z_rv f))) := by
  unfold z_ld at h
  split at h
  · next v hv =>
    split at h
    · next hk =>
      obtain ⟨rfl, hk⟩ := hk
      cases h
      exact row v hk (hl.at hv) hd (kk real hl)
    · cases h
  · cases h
theorem z_sto_ok {t k len pc pc' i : Nat} {ls ls' : zL} {st st' : List Value} {real : Array Slot} {nL : Nat} {ins : Instr} (h : z_sto t k len pc ls st i = some (pc', ls', st')) (hd : decode cc pc = .ok (ins, len)) (hl : z_LV f ls real nL)
    (row1 : ∀ (v : Value) (rest : List Value), t ≠ 1 → z_kind t v = true → i < nL → decode cc pc = .ok (ins, k) → (∀ real', z_LV f (z_st1 ls i v) real' nL → W p l e R s m args below meth c H locs cells slots Q (F0 m (pc + k) real' rest)) → W p l e R s m args below meth c H locs cells slots Q (F0 m pc real (z_rv f v :: rest)))
    (row2 : ∀ (v : Value) (rest : List Value), t = 1 → z_kind t v = true → i + 1 < nL → decode cc pc = .ok (ins, k) → (∀ real', z_LV f (z_st2 ls i v) real' nL → W p l e R s m args below meth c H locs cells slots Q (F0 m (pc + k) real' rest)) → W p l e R s m args below meth c H locs cells slots Q (F0 m pc real (z_rv f v :: rest)))
    (kk : ∀ real', z_LV f ls' real' nL → W p l e R s m args below meth c H locs cells slots Q (F0 m pc' real' (st'.map (z_rv f)))) : W p l e R s m args below meth c H locs cells slots Q (F0 m pc real (st.map (z_rv f))) := by
  unfold z_sto at h
  split at h
  · split at h
    · next hk =>
      obtain ⟨rfl, hk⟩ := hk
      split at h
      · next ht =>
        split at h
        · next hi =>
          cases h
          exact row2 _ _ ht hk (by rw [← hl.1]; exact hi) hd kk
        · cases h
      · next ht =>
        split at h
        · next hi =>
          cases h
          exact row1 _ _ ht hk (by rw [← hl.1]; exact hi) hd kk
        · cases h
    · cases h
  · cases h
end ZLOC
end
section
section ZLOK
variable {p : Program} {l : Launch} {e : Env} {R : Room} {s : State} {m : MethodId} {args : Array Value} {below : List Frame} {meth : Method} {c : Code} {H : Heap} {locs : List Loc} {cells slots : Nat} {Q : State → Prop}
variable {cc : ByteArray} {f : Nat → Nat}
theorem z_kind0 {v : Value} (h : z_kind 0 v = true) : ∃ x, v = .int x := by
  cases v <;> simp [z_kind] at h
  exact ⟨_, rfl⟩
theorem z_kind1 {v : Value} (h : z_kind 1 v = true) : ∃ x, v = .long x := by
  cases v <;> simp [z_kind] at h
  exact ⟨_, rfl⟩
theorem z_kind2 {f : Nat → Nat} {v : Value} (h : z_kind 2 v = true) : z_rv f v = .null ∨ ∃ x, z_rv f v = .ref x := by
  cases v with
  | null => exact Or.inl rfl
  | ref k => exact Or.inr ⟨_, rfl⟩
  | retAddr k =>
    show z_op (f k) = .null ∨ ∃ x, z_op (f k) = .ref x
    cases f k with
    | zero => exact Or.inl rfl
    | succ t => exact Or.inr ⟨t, rfl⟩
  | _ => simp [z_kind] at h
theorem z_jmp_ok {b : Bool} {off : Int} {pc pc' : Nat} {ls ls' : zL} {st st' r : List Value} {real : Array Slot} {nL : Nat} (h : z_jmp pc b off ls r = some (pc', ls', st')) (hl : z_LV f ls real nL)
    (row : ∀ tgt : Nat, (pc : Int) + off = (tgt : Int) → (b = true → W p l e R s m args below meth c H locs cells slots Q (F0 m tgt real (r.map (z_rv f)))) → (¬ b = true → W p l e R s m args below meth c H locs cells slots Q (F0 m (pc + 3) real (r.map (z_rv f)))) → W p l e R s m args below meth c H locs cells slots Q (F0 m pc real (st.map (z_rv f))))
    (kk : ∀ real', z_LV f ls' real' nL → W p l e R s m args below meth c H locs cells slots Q (F0 m pc' real' (st'.map (z_rv f)))) : W p l e R s m args below meth c H locs cells slots Q (F0 m pc real (st.map (z_rv f))) := by
  unfold z_jmp at h
  split at h
  · next tgt ht =>
    cases h
    refine row tgt (z_br_ok ht) (fun hb => ?_) (fun hb => ?_)
    · have := kk real hl
      rw [if_pos hb] at this
      exact this
    · have := kk real hl
      rw [if_neg hb] at this
      exact this
  · cases h
theorem z_if_ok (hexec : p.tables.exec = Jvm.exec) (hb : c.code = cc) {cd : Jvm.ClassFile.Cond} {off : Int} {pc pc' : Nat} {ls ls' : zL} {st' r : List Value} {real : Array Slot} {nL : Nat} {x : Int32} (hd : decode cc pc = .ok (.ifCond cd off, 3)) (h : z_jmp pc (z_cond cd x 0) off ls r = some (pc', ls', st')) (hl : z_LV f ls real nL)
    (kk : ∀ real', z_LV f ls' real' nL → W p l e R s m args below meth c H locs cells slots Q (F0 m pc' real' (st'.map (z_rv f)))) : W p l e R s m args below meth c H locs cells slots Q (F0 m pc real ((.int x :: r).map (z_rv f))) := by
  refine z_jmp_ok h hl (fun tgt ht k1 k2 => ?_) kk
  cases cd with
  | eq => exact lv_if_eq hexec hb hd ht (fun q => k1 (by simp [z_cond, q])) (fun q => k2 (by simp [z_cond, q]))
  | ne => exact lv_if_ne hexec hb hd ht (fun q => k1 (by simp [z_cond, q])) (fun q => k2 (by simp [z_cond, q]))
  | lt => exact lv_if_lt hexec hb hd ht (fun q => k1 (by simp only [z_cond, decide_eq_true_eq]; exact q)) (fun q => k2 (by simp only [z_cond, decide_eq_true_eq]; exact q))
  | ge => exact lv_if_ge hexec hb hd ht (fun q => k1 (by simp only [z_cond, decide_eq_true_eq]; exact q)) (fun q => k2 (by simp only [z_cond, decide_eq_true_eq]; exact q))
  | gt => exact lv_if_gt hexec hb hd ht (fun q => k1 (by simp only [z_cond, decide_eq_true_eq]; exact q)) (fun q => k2 (by simp only [z_cond, decide_eq_true_eq]; exact q))
  | le => exact lv_if_le hexec hb hd ht (fun q => k1 (by simp only [z_cond, decide_eq_true_eq]; exact q)) (fun q => k2 (by simp only [z_cond, decide_eq_true_eq]; exact q))
theorem z_icmp_ok (hexec : p.tables.exec = Jvm.exec) (hb : c.code = cc) {cd : Jvm.ClassFile.Cond} {off : Int} {pc pc' : Nat} {ls ls' : zL} {st' r : List Value} {real : Array Slot} {nL : Nat} {x y : Int32} (hd : decode cc pc = .ok (.if_icmp cd off, 3)) (h : z_jmp pc (z_cond cd x y) off ls r = some (pc', ls', st')) (hl : z_LV f ls real nL)
    (kk : ∀ real', z_LV f ls' real' nL → W p l e R s m args below meth c H locs cells slots Q (F0 m pc' real' (st'.map (z_rv f)))) : W p l e R s m args below meth c H locs cells slots Q (F0 m pc real ((.int y :: .int x :: r).map (z_rv f))) := by
  refine z_jmp_ok h hl (fun tgt ht k1 k2 => ?_) kk
  cases cd with
  | eq => exact lv_icmp_eq hexec hb hd ht (fun q => k1 (by simp [z_cond, q])) (fun q => k2 (by simp [z_cond, q]))
  | ne => exact lv_icmp_ne hexec hb hd ht (fun q => k1 (by simp [z_cond, q])) (fun q => k2 (by simp [z_cond, q]))
  | lt => exact lv_icmp_lt hexec hb hd ht (fun q => k1 (by simp only [z_cond, decide_eq_true_eq]; exact q)) (fun q => k2 (by simp only [z_cond, decide_eq_true_eq]; exact q))
  | ge => exact lv_icmp_ge hexec hb hd ht (fun q => k1 (by simp only [z_cond, decide_eq_true_eq]; exact q)) (fun q => k2 (by simp only [z_cond, decide_eq_true_eq]; exact q))
  | gt => exact lv_icmp_gt hexec hb hd ht (fun q => k1 (by simp only [z_cond, decide_eq_true_eq]; exact q)) (fun q => k2 (by simp only [z_cond, decide_eq_true_eq]; exact q))
  | le => exact lv_icmp_le hexec hb hd ht (fun q => k1 (by simp only [z_cond, decide_eq_true_eq]; exact q)) (fun q => k2 (by simp only [z_cond, decide_eq_true_eq]; exact q))
theorem z_tsw_ok (hexec : p.tables.exec = Jvm.exec) (hb : c.code = cc) {dflt lo hi : Int} {offs : Array Int} {len pc pc' : Nat} {ls ls' : zL} {st st' : List Value} {real : Array Slot} {nL : Nat} (hd : decode cc pc = .ok (.tableswitch dflt lo hi offs, len)) (h : z_tsw dflt lo hi offs pc ls st = some (pc', ls', st')) (hl : z_LV f ls real nL)
    (kk : ∀ real', z_LV f ls' real' nL → W p l e R s m args below meth c H locs cells slots Q (F0 m pc' real' (st'.map (z_rv f)))) : W p l e R s m args below meth c H locs cells slots Q (F0 m pc real (st.map (z_rv f))) := by
  unfold z_tsw at h
  split at h
  · split at h
    · next hout =>
      split at h
      · next tgt ht =>
        cases h
        exact lv_tableOut hexec hb hd hout (z_br_ok ht) (kk real hl)
      · cases h
    · next hin =>
      split at h
      · next off ho =>
        split at h
        · next tgt ht =>
          cases h
          exact lv_tableIn hexec hb hd (fun q => hin (Or.inl q)) (fun q => hin (Or.inr q)) ho (z_br_ok ht) (kk real hl)
        · cases h
      · cases h
  · cases h
set_option maxHeartbeats 4000000 in
theorem z_loc_ok (hexec : p.tables.exec = Jvm.exec) (hb : c.code = cc) {ins : Instr} {len pc pc' : Nat} {ls ls' : zL} {st st' : List Value} {real : Array Slot} {nL : Nat} (hd : decode cc pc = .ok (ins, len)) (h : z_loc ins len pc ls st = some (pc', ls', st')) (hl : z_LV f ls real nL)
    (kk : ∀ real', z_LV f ls' real' nL → W p l e R s m args below meth c H locs cells slots Q (F0 m pc' real' (st'.map (z_rv f)))) : W p l e R s m args below meth c H locs cells slots Q (F0 m pc real (st.map (z_rv f))) := by
  unfold z_loc at h
  split at h
  · exact z_push_ok h hd hl (fun hd k => lv_iconst hexec hb hd rfl k) kk
  · exact z_push_ok h hd hl (fun hd k => lv_bipush hexec hb hd rfl k) kk
  · exact z_push_ok h hd hl (fun hd k => lv_sipush hexec hb hd rfl k) kk
  · exact z_push_ok h hd hl (fun hd k => lv_lconst hexec hb hd rfl k) kk
  · exact z_push_ok h hd hl (fun hd k => lv_null hexec hb hd k) kk
  · exact z_ld_ok h hd hl (fun v hk hv hd k => by obtain ⟨x, rfl⟩ := z_kind0 hk; exact lv_iload_n hexec hb hd rfl hv k) kk
  · exact z_ld_ok h hd hl (fun v hk hv hd k => by obtain ⟨x, rfl⟩ := z_kind0 hk; exact lv_iload hexec hb hd hv k) kk
  · exact z_ld_ok h hd hl (fun v hk hv hd k => by obtain ⟨x, rfl⟩ := z_kind1 hk; exact lv_lload_n hexec hb hd rfl hv k) kk
  · exact z_ld_ok h hd hl (fun v hk hv hd k => by obtain ⟨x, rfl⟩ := z_kind1 hk; exact lv_lload hexec hb hd hv k) kk
  · exact z_ld_ok h hd hl (fun v hk hv hd k => by
      rcases z_kind2 (f := f) hk with e0 | ⟨x, e0⟩
      · rw [e0] at hv k
        exact lv_aload_nN hexec hb hd rfl hv k
      · rw [e0] at hv k
        exact lv_aload_n hexec hb hd rfl hv k) kk
  · exact z_ld_ok h hd hl (fun v hk hv hd k => by
      rcases z_kind2 (f := f) hk with e0 | ⟨x, e0⟩
      · rw [e0] at hv k
        exact lv_aloadN hexec hb hd hv k
      · rw [e0] at hv k
        exact lv_aload hexec hb hd hv k) kk
  · exact z_sto_ok h hd hl (fun v rest ht hk hi hd k => by obtain ⟨x, rfl⟩ := z_kind0 hk; exact lv_istore_n hexec hb hd rfl hl.2 hi rfl (fun r h => k r (z_LV.st1 (v := .int x) hl.1 h))) (fun v rest ht => absurd ht (by decide)) kk
  · exact z_sto_ok h hd hl (fun v rest ht hk hi hd k => by obtain ⟨x, rfl⟩ := z_kind0 hk; exact lv_istore hexec hb hd hl.2 hi rfl (fun r h => k r (z_LV.st1 (v := .int x) hl.1 h))) (fun v rest ht => absurd ht (by decide)) kk
  · exact z_sto_ok h hd hl (fun v rest ht => absurd rfl ht) (fun v rest ht hk hi hd k => by obtain ⟨x, rfl⟩ := z_kind1 hk; exact lv_lstore_n hexec hb hd rfl hl.2 hi rfl (fun r h => k r (z_LV.st2 (v := .long x) hl.1 h))) kk
  · exact z_sto_ok h hd hl (fun v rest ht => absurd rfl ht) (fun v rest ht hk hi hd k => by obtain ⟨x, rfl⟩ := z_kind1 hk; exact lv_lstore hexec hb hd hl.2 hi rfl (fun r h => k r (z_LV.st2 (v := .long x) hl.1 h))) kk
  · exact z_sto_ok h hd hl (fun v rest ht hk hi hd k => by
      rcases z_kind2 (f := f) hk with e0 | ⟨x, e0⟩
      · rw [e0]
        exact lv_astore_nN hexec hb hd rfl hl.2 hi rfl (fun r h => k r (z_LV.st1 (v := v) hl.1 (by rw [e0]; exact h)))
      · rw [e0]
        exact lv_astore_n hexec hb hd rfl hl.2 hi rfl (fun r h => k r (z_LV.st1 (v := v) hl.1 (by rw [e0]; exact h)))) (fun v rest ht => absurd ht (by decide)) kk
  · exact z_sto_ok h hd hl (fun v rest ht hk hi hd k => by
      rcases z_kind2 (f := f) hk with e0 | ⟨x, e0⟩
      · rw [e0]
        exact lv_astoreN hexec hb hd hl.2 hi rfl (fun r h => k r (z_LV.st1 (v := v) hl.1 (by rw [e0]; exact h)))
      · rw [e0]
        exact lv_astore hexec hb hd hl.2 hi rfl (fun r h => k r (z_LV.st1 (v := v) hl.1 (by rw [e0]; exact h)))) (fun v rest ht => absurd ht (by decide)) kk
  · split at h
    · next x hx =>
      split at h
      · next hc =>
        obtain ⟨rfl, hi⟩ := hc
        cases h
        obtain ⟨k0, hk0⟩ := List.getElem?_of_mem (List.mem_map.mpr ⟨(_, Value.int x), (z_prs_mem ls 0 _ _).mpr ⟨Nat.zero_le _, z_get_iff.mp hx⟩, rfl⟩ : _ ∈ (z_prs 0 ls).map fun q => (q.1, z_rv f q.2))
        exact lv_iinc (k := k0) hexec hb hd hl.2 hk0 rfl (by rw [← hl.1]; exact hi) rfl (fun r h => kk r (z_LV.st1 (v := .int _) hl.1 h))
      · cases h
    · cases h
  · exact z_ii_ok h hd hl (fun x y rest hd k => lv_iadd hexec hb hd k) kk
  · exact z_ii_ok h hd hl (fun x y rest hd k => lv_isub hexec hb hd k) kk
  · exact z_ii_ok h hd hl (fun x y rest hd k => lv_imul hexec hb hd k) kk
  · exact z_ii_ok h hd hl (fun x y rest hd k => lv_iand hexec hb hd k) kk
  · exact z_ii_ok h hd hl (fun x y rest hd k => lv_ior hexec hb hd k) kk
  · exact z_ii_ok h hd hl (fun x y rest hd k => lv_ixor hexec hb hd k) kk
  · exact z_ii_ok h hd hl (fun x y rest hd k => lv_ishl hexec hb hd k) kk
  · exact z_ii_ok h hd hl (fun x y rest hd k => lv_ishr hexec hb hd k) kk
  · exact z_ii_ok h hd hl (fun x y rest hd k => lv_iushr hexec hb hd rfl k) kk
  · exact z_dv_ok h hd hl (fun x y rest hy hd k => lv_idiv hexec hb hd hy k) kk
  · exact z_dv_ok h hd hl (fun x y rest hy hd k => lv_irem hexec hb hd hy k) kk
  · exact z_ll_ok h hd hl (fun x y rest hd k => lv_ladd hexec hb hd k) kk
  · exact z_ll_ok h hd hl (fun x y rest hd k => lv_lsub hexec hb hd k) kk
  · exact z_ll_ok h hd hl (fun x y rest hd k => lv_lmul hexec hb hd k) kk
  · exact z_ll_ok h hd hl (fun x y rest hd k => lv_land hexec hb hd k) kk
  · exact z_ll_ok h hd hl (fun x y rest hd k => lv_lor hexec hb hd k) kk
  · exact z_ll_ok h hd hl (fun x y rest hd k => lv_lxor hexec hb hd k) kk
  · exact z_li_ok h hd hl (fun x y rest hd k => lv_lshl hexec hb hd rfl k) kk
  · exact z_li_ok h hd hl (fun x y rest hd k => lv_lshr hexec hb hd rfl k) kk
  · exact z_li_ok h hd hl (fun x y rest hd k => lv_lushr hexec hb hd rfl k) kk
  · exact z_i1_ok h hd hl (fun x rest hd k => lv_ineg hexec hb hd k) kk
  · exact z_i1_ok h hd hl (fun x rest hd k => lv_i2l hexec hb hd rfl k) kk
  · exact z_i1_ok h hd hl (fun x rest hd k => lv_i2b hexec hb hd rfl k) kk
  · exact z_i1_ok h hd hl (fun x rest hd k => lv_i2s hexec hb hd rfl k) kk
  · exact z_i1_ok h hd hl (fun x rest hd k => lv_i2c hexec hb hd rfl k) kk
  · exact z_l1_ok h hd hl (fun x rest hd k => lv_l2i hexec hb hd rfl k) kk
  · split at h
    · split at h
      · next hk =>
        subst hk
        cases h
        exact W.lcmp hexec hb hd (kk real hl)
      · cases h
    · cases h
  · split at h
    · split at h
      · next hk =>
        obtain ⟨rfl, h1⟩ := hk
        cases h
        exact lv_dup hexec hb hd (by rw [z_rv_cat]; exact h1) (kk real hl)
      · cases h
    · cases h
  · split at h
    · split at h
      · next hk =>
        obtain ⟨rfl, h1⟩ := hk
        cases h
        exact lv_pop hexec hb hd (by rw [z_rv_cat]; exact h1) (kk real hl)
      · cases h
    · cases h
  · split at h
    · split at h
      · next hk =>
        obtain ⟨rfl, h1, h2⟩ := hk
        cases h
        exact lv_dup2_11 hexec hb hd (by rw [z_rv_cat]; exact h1) (by rw [z_rv_cat]; exact h2) (kk real hl)
      · cases h
    · cases h
  · split at h
    · split at h
      · next hk =>
        obtain ⟨rfl, h1, h2⟩ := hk
        cases h
        exact lv_dup_x1 hexec hb hd (by rw [z_rv_cat]; exact h1) (by rw [z_rv_cat]; exact h2) (kk real hl)
      · cases h
    · cases h
  · split at h
    · next hk =>
      subst hk
      exact z_jmp_ok h hl (fun tgt ht k1 k2 => lv_goto hexec hb hd ht (k1 rfl)) kk
    · cases h
  · split at h
    · split at h
      · next hk =>
        subst hk
        exact z_if_ok hexec hb hd h hl kk
      · cases h
    · cases h
  · split at h
    · split at h
      · next hk =>
        subst hk
        exact z_icmp_ok hexec hb hd h hl kk
      · cases h
    · cases h
  · exact z_tsw_ok hexec hb hd h hl kk
  · cases h
end ZLOK
end
section
/-! the heap of my own machine: shapes of cells, and the ints in them -/
abbrev zC : Type := (FieldType × Nat) ⊕ ((FieldType × List (Option Nat)) ⊕ (Nat × List (Option (Option Nat))))
abbrev zS : Type := List zC
abbrev zH : Type := Nat → Nat → Int32
def z_up (h : zH) (k j : Nat) (v : Int32) : zH := fun a => if a = k then upd (h k) j v else h a
def z_zero (h : zH) (k : Nat) : zH := fun a => if a = k then (fun _ => 0) else h a
def z_cpy (h : zH) (a b sp dp n : Nat) : zH := fun q => if q = b then va_cpy (h a) (h b) sp dp n else h q
def z_fl (own idx : Nat) : Option (Nat × Nat) := match z_flT.find? (fun e => e.1 == own && e.2.1 == idx) with
  | some e => some (e.2.2.1, e.2.2.2.1)
  | none => none
def z_con (own idx : Nat) : Option Value := match z_kT.find? (fun e => e.1 == own && e.2.1 == idx) with
  | some e => some e.2.2.1
  | none => none
def z_sno (own idx : Nat) : Option Nat := match z_sT.find? (fun e => e.1 == own && e.2.1 == idx) with
  | some e => some e.2.2.1
  | none => none
/-- the statics: three tables of ints, the flag, the formatter -/
def z_gval (i : Nat) : Value := match i with
  | 0 => .ref 100001
  | 1 => .ref 100002
  | 2 => .ref 100003
  | 3 => .int 1
  | _ => .retAddr 100200
def z_sta (own idx : Nat) : Option Value := match z_gT.find? (fun e => e.1 == own && e.2.1 == idx) with
  | some e => some (z_gval e.2.2.1)
  | none => none
def z_cln (own idx : Nat) : Option String := match z_nT.find? (fun e => e.1 == own && e.2.1 == idx) with
  | some e => some e.2.2.1
  | none => none
def z_cal (own idx : Nat) : Option (Nat × Nat × Nat) := match z_cT.find? (fun e => e.1 == own && e.2.1 == idx) with
  | some e => some (e.2.2.1, e.2.2.2.1, e.2.2.2.2.1)
  | none => none
def z_isO (own idx : Nat) : Bool := (z_oT.find? (fun e => e.1 == own && e.2.1 == idx)).isSome
def z_isY (own idx : Nat) : Bool := (z_yT.find? (fun e => e.1 == own && e.2.1 == idx)).isSome
def z_obj (S : zS) (k : Nat) : Option (Nat × List (Option (Option Nat))) := match S[k]? with
  | some (.inr (.inr o)) => some o
  | _ => none
def z_arr (S : zS) (k : Nat) : Option (FieldType × Nat) := match S[k]? with
  | some (.inl a) => some a
  | _ => none
def z_rar (S : zS) (k : Nat) : Option (FieldType × List (Option Nat)) := match S[k]? with
  | some (.inr (.inl a)) => some a
  | _ => none
def z_roA (X : Option (List Int32)) (i : Nat) : Option (FieldType × List Int32) := match i with
  | 0 => (match X with
    | some l => some (.int, l)
    | none => none)
  | i + 1 => z_ro0[i]?
def z_rty : List FieldType := [.object "DustYards$Text", .object "DustYards$Sheet"]
def z_rf (r : Option Nat) : Value := match r with
  | none => .null
  | some k => .ref k
abbrev zG : Type := Option (List Value × zS × zH)
def z_getf (own idx k : Nat) (r : List Value) (S : zS) (h : zH) : zG :=
  if k < 100000 then (match z_fl own idx, z_obj S k with
    | some (ci, j), some (cj, fs) => if ci = cj then (match fs[j]? with
      | some none => some (.int (h k j) :: r, S, h)
      | some (some a) => some (z_rf a :: r, S, h)
      | none => none) else none
    | _, _ => none)
  else if 100100 ≤ k ∧ k < 100113 ∧ own = 15 then (if idx = 9 then some (.ref (k - 96) :: r, S, h) else if idx = 15 then some (.int 0 :: r, S, h) else none) else none
def z_putf (own : Nat) (init : Bool) (idx : Nat) (v : Value) (k : Nat) (r : List Value) (S : zS) (h : zH) : zG :=
  if k < 100000 then (match z_fl own idx, z_obj S k with
    | some (ci, j), some (cj, fs) => if ci = cj then (match fs[j]?, v with
      | some none, .int x => if z_fty ci j = .int then some (r, S, z_up h k j x) else none
      | some (some _), .ref a => if init = true ∧ own = ci ∧ z_okT (z_fty ci j) = true then some (r, S.set k (.inr (.inr (ci, fs.set j (some (some a))))), h) else none
      | _, _ => none) else none
    | _, _ => none)
  else none
def z_ald (tys : List FieldType) (i : Int32) (k : Nat) (r : List Value) (X : Option (List Int32)) (S : zS) (h : zH) : zG :=
  if k < 100000 then (match z_arr S k with
    | some (ty, n) => if ty ∈ tys ∧ ¬ (i < 0 ∨ n ≤ i.toNatClampNeg) then some (.int (h k i.toNatClampNeg) :: r, S, h) else none
    | none => none)
  else (match z_roA X (k - 100000) with
    | some (ty, l) => if ty ∈ tys ∧ ¬ (i < 0 ∨ l.length ≤ i.toNatClampNeg) then some (.int (l.getD i.toNatClampNeg 0) :: r, S, h) else none
    | none => none)
def z_ast (tys : List FieldType) (x i : Int32) (k : Nat) (r : List Value) (S : zS) (h : zH) : zG :=
  if k < 100000 then (match z_arr S k with
    | some (ty, n) => if ty ∈ tys ∧ ¬ (i < 0 ∨ n ≤ i.toNatClampNeg) then some (r, S, z_up h k i.toNatClampNeg (if ty = .int then x else vp_nar ty x)) else none
    | none => none)
  else none
def z_aln (k : Nat) (r : List Value) (X : Option (List Int32)) (S : zS) (h : zH) : zG :=
  if k < 100000 then (match S[k]? with
    | some (.inl (ty, n)) => if ty ∈ ([.int, .boolean, .byte, .char] : List FieldType) then some (.int (Int32.ofNat n) :: r, S, h) else none
    | _ => none)
  else (match z_roA X (k - 100000) with
    | some (_, l) => some (.int (Int32.ofNat l.length) :: r, S, h)
    | none => none)
def z_aal (i : Int32) (k : Nat) (r : List Value) (S : zS) (h : zH) : zG :=
  if k < 100000 then (match z_rar S k with
    | some (ty, rs) => if ty ∈ z_rty ∧ ¬ (i < 0 ∨ rs.length ≤ i.toNatClampNeg) then some (z_rf (rs.getD i.toNatClampNeg none) :: r, S, h) else none
    | none => none)
  else none
def z_aas (v : Nat) (i : Int32) (k : Nat) (r : List Value) (S : zS) (h : zH) : zG :=
  if k < 100000 ∧ v < 100000 then (match z_rar S k, z_obj S v with
    | some (ty, rs), some (ci, _) => if ty = .object (z_ow ci) ∧ ty ∈ z_rty ∧ ¬ (i < 0 ∨ rs.length ≤ i.toNatClampNeg) then some (r, S.set k (.inr (.inl (ty, rs.set i.toNatClampNeg (some v)))), h) else none
    | _, _ => none)
  else none
def z_newa (ty : FieldType) (n : Int32) (r : List Value) (S : zS) (h : zH) : zG :=
  if ty ∈ ([.int, .boolean, .byte, .char] : List FieldType) ∧ ¬ n < 0 ∧ n.toNatClampNeg ≤ 100000 ∧ S.length < 100000 then some (.ref S.length :: r, S ++ [.inl (ty, n.toNatClampNeg)], z_zero h S.length) else none
def z_newq (own idx : Nat) (n : Int32) (r : List Value) (S : zS) (h : zH) : zG := match z_cln own idx with
  | some C => if C ∈ (["DustYards$Text", "DustYards$Sheet"] : List String) ∧ ¬ n < 0 ∧ n.toNatClampNeg ≤ 100000 ∧ S.length < 100000 then some (.ref S.length :: r, S ++ [.inr (.inl (.object C, List.replicate n.toNatClampNeg none))], h) else none
  | none => none
def z_newc (own idx : Nat) (r : List Value) (S : zS) (h : zH) : zG := match z_cln own idx with
  | some C => (match (List.range 13).find? (fun ci => z_ow ci == C) with
    | some ci => if S.length < 100000 then some (.ref S.length :: r, S ++ [.inr (.inr (ci, z_df ci))], z_zero h S.length) else none
    | none => none)
  | none => none
def z_copy (n dp : Int32) (b : Nat) (sp : Int32) (a : Nat) (r : List Value) (S : zS) (h : zH) : zG :=
  if a < 100000 ∧ b < 100000 then (match z_arr S a, z_arr S b with
    | some (t0, n0), some (t1, n1) => if t0 = .int ∧ t1 = .int ∧ ¬ sp < 0 ∧ ¬ dp < 0 ∧ ¬ n < 0 ∧ sp.toNatClampNeg + n.toNatClampNeg ≤ n0 ∧ dp.toNatClampNeg + n.toNatClampNeg ≤ n1 then some (r, S, z_cpy h a b sp.toNatClampNeg dp.toNatClampNeg n.toNatClampNeg) else none
    | _, _ => none)
  else none
def z_sum (r : List Value) : Nat := (r.map fun v => v.category).sum
def z_mem (X : Option (List Int32)) (d own : Nat) (init : Bool) (ins : Instr) (len : Nat) (st : List Value) (S : zS) (h : zH) : zG := match ins with
  | .getfield idx => (match st with
    | .ref k :: r => if len = 3 then z_getf own idx k r S h else none
    | _ => none)
  | .putfield idx => (match st with
    | v :: .ref k :: r => if len = 3 then z_putf own init idx v k r S h else none
    | _ => none)
  | .getstatic idx => (match z_sta own idx with
    | some v => if len = 3 then some (v :: st, S, h) else none
    | none => none)
  | .ldc idx => if len = 2 then (match z_con own idx with
    | some (.int v) => some (.int v :: st, S, h)
    | some _ => none
    | none => (match z_sno own idx with
      | some i => some (.ref (100100 + i) :: st, S, h)
      | none => none)) else none
  | .ldc_w idx => if len = 3 then (match z_con own idx with
    | some (.int v) => some (.int v :: st, S, h)
    | _ => none) else none
  | .ldc2_w idx => if len = 3 then (match z_con own idx with
    | some (.long v) => some (.long v :: st, S, h)
    | _ => none) else none
  | .iaload => (match st with
    | .int i :: .ref k :: r => if len = 1 then z_ald [.int] i k r X S h else none
    | _ => none)
  | .baload => (match st with
    | .int i :: .ref k :: r => if len = 1 then z_ald [.byte, .boolean] i k r X S h else none
    | _ => none)
  | .caload => (match st with
    | .int i :: .ref k :: r => if len = 1 then z_ald [.char] i k r X S h else none
    | _ => none)
  | .iastore => (match st with
    | .int x :: .int i :: .ref k :: r => if len = 1 then z_ast [.int] x i k r S h else none
    | _ => none)
  | .bastore => (match st with
    | .int x :: .int i :: .ref k :: r => if len = 1 then z_ast [.byte, .boolean] x i k r S h else none
    | _ => none)
  | .castore => (match st with
    | .int x :: .int i :: .ref k :: r => if len = 1 then z_ast [.char] x i k r S h else none
    | _ => none)
  | .arraylength => (match st with
    | .ref k :: r => if len = 1 then z_aln k r X S h else none
    | _ => none)
  | .aaload => (match st with
    | .int i :: .ref k :: r => if len = 1 then z_aal i k r S h else none
    | _ => none)
  | .aastore => (match st with
    | .ref v :: .int i :: .ref k :: r => if len = 1 then z_aas v i k r S h else none
    | _ => none)
  | .newarray t => (match st with
    | .int n :: r => if len = 2 then z_newa (newarray.typeOf t) n r S h else none
    | _ => none)
  | .anewarray idx => (match st with
    | .int n :: r => if len = 3 then z_newq own idx n r S h else none
    | _ => none)
  | .new idx => if len = 3 then z_newc own idx st S h else none
  | .invokespecial idx => (match st with
    | .ref _ :: r => if len = 3 ∧ z_isO own idx = true ∧ 1 ≤ d ∧ z_sum r ≤ 8 then some (r, S, h) else none
    | _ => none)
  | .invokestatic idx => (match st with
    | .int n :: .int dp :: .ref b :: .int sp :: .ref a :: r => if len = 3 ∧ z_isY own idx = true ∧ 1 ≤ d ∧ z_sum r ≤ 8 then z_copy n dp b sp a r S h else none
    | _ => none)
  | _ => none
def z_ret (ret : Option FieldType) (ins : Instr) (len : Nat) (st : List Value) : Option (Option Value) := match ins with
  | .ireturn => (match st, ret with
    | [.int v], some ty => if len = 1 ∧ narrow ty (.int v) = .int v then some (some (.int v)) else none
    | _, _ => none)
  | .lreturn => (match st, ret with
    | [.long v], some .long => if len = 1 then some (some (.long v)) else none
    | _, _ => none)
  | .return_ => (match st, ret with
    | [], none => if len = 1 then some none else none
    | _, _ => none)
  | _ => none
def z_sl (vs : List Value) : zL := vs.flatMap fun v => if v.category = 2 then [some v, none] else [some v]
def z_ent (vs : List Value) (n : Nat) : zL := z_sl vs ++ List.replicate (n - (z_sl vs).length) none
/-- the receiver is of the class that is asked -/
def z_rcv (S : zS) (b own : Nat) : Bool := if b < 100000 then (match z_obj S b with
    | some (ci, _) => decide (ci = own)
    | none => false) else (decide (100100 ≤ b) && decide (b < 100113) && decide (own = 15))
def z_ownOf (M : Nat) : Nat := match z_M[M]? with
  | some e => e.2.2.2.2.1
  | none => 1000
/-- a call: the method, its arguments, what is left on the stack -/
def z_inv (own : Nat) (ins : Instr) (len : Nat) (st : List Value) (S : zS) : Option (Nat × List Value × List Value) := match ins with
  | .invokevirtual idx => (match z_cal own idx with
    | some (M, 0, n) => (match st.drop n with
      | .ref b :: r => if len = 3 ∧ (st.take n).length = n ∧ z_sum r ≤ 8 ∧ z_rcv S b (z_ownOf M) = true then some (M, .ref b :: (st.take n).reverse, r) else none
      | _ => none)
    | _ => none)
  | .invokestatic idx => (match z_cal own idx with
    | some (M, kd, n) => if len = 3 ∧ (kd = 1 ∨ kd = 3) ∧ (st.take n).length = n ∧ z_sum (st.drop n) ≤ 8 then some (M, (st.take n).reverse, st.drop n) else none
    | _ => none)
  | .invokespecial idx => (match z_cal own idx with
    | some (M, kd, n) => (match st.drop n with
      | .ref b :: r => if len = 3 ∧ (kd = 2 ∨ kd = 4) ∧ (st.take n).length = n ∧ z_sum r ≤ 8 then some (M, .ref b :: (st.take n).reverse, r) else none
      | _ => none)
    | _ => none)
  | _ => none
abbrev zO : Type := Option (Option Value × zS × zH)
/-- the machine: n steps at most, d frames at most -/
def z_x (X : Option (List Int32)) : Nat → Nat → Nat → Nat → zL → List Value → zS → zH → zO
  | 0, _, _, _, _, _, _, _ => none
  | n + 1, d, M, pc, ls, st, S, h => match z_M[M]? with
    | none => none
    | some e => match e.2.2.2.2.2.lookup pc with
      | none => none
      | some (ins, len) => match z_loc ins len pc ls st with
        | some (pc', ls', st') => z_x X n d M pc' ls' st' S h
        | none => match z_mem X d e.2.2.2.2.1 (decide (e.1.name = "<init>")) ins len st S h with
          | some (st', S', h') => z_x X n d M (pc + len) ls st' S' h'
          | none => match z_ret e.2.2.2.1 ins len st with
            | some r => some (r, S, h)
            | none => match z_inv e.2.2.2.2.1 ins len st S, d with
              | some (M', args, rest), d' + 1 => (match z_M[M']? with
                | none => none
                | some e' => if (z_sl args).length ≤ e'.2.2.1 then (match z_x X n d' M' 0 (z_ent args e'.2.2.1) [] S h with
                  | some (r, S', h') => z_x X n (d' + 1) M (pc + 3) ls (r.toList ++ rest) S' h'
                  | none => none) else none)
              | _, _ => none
end
section
/-! the real heap that my own machine's heap stands for -/
def z_ad (B : Nat) (ro : Nat → Nat) (k : Nat) : Nat := if k < 100000 then B + k else ro k
def z_fv (f : Nat → Nat) (h : zH) (k j : Nat) (o : Option (Option Nat)) : Value := match o with
  | none => .int (h k j)
  | some r => va_rf (r.map f)
def z_cell (cA : FieldType → ClassId) (f : Nat → Nat) (h : zH) (k : Nat) (c : zC) : va_E := match c with
  | .inl (ty, n) => .inl (cA ty, n, .inl (h k))
  | .inr (.inl (ty, rs)) => .inl (cA ty, rs.length, .inr (.inr (.inr (.inr (fun j => (rs.getD j none).map f)))))
  | .inr (.inr (ci, fs)) => .inr (ci, fs.mapIdx (fun j o => z_fv f h k j o))
def z_w (cA : FieldType → ClassId) (f : Nat → Nat) (B : Nat) (S : zS) (h : zH) : va_W := S.mapIdx (fun k c => (B + k, z_cell cA f h k c))
def z_sz (c : zC) : Nat := match c with
  | .inl (_, n) => n
  | .inr (.inl (_, rs)) => rs.length
  | .inr (.inr (_, fs)) => fs.length
def z_tot (S : zS) : Nat := (S.map z_sz).sum
section ZWL
variable {cA : FieldType → ClassId} {f : Nat → Nat} {B : Nat} {S : zS} {h h' : zH} {k : Nat} {c c' : zC}
theorem z_w_at (hk : S[k]? = some c) : (z_w cA f B S h)[k]? = some (B + k, z_cell cA f h k c) := by
  simp [z_w, List.getElem?_mapIdx, hk]
theorem z_w_get {q : Nat × va_E} (hq : (z_w cA f B S h)[k]? = some q) : ∃ c, S[k]? = some c ∧ q = (B + k, z_cell cA f h k c) := by
  simp only [z_w, List.getElem?_mapIdx] at hq
  cases hc : S[k]? with
  | none => rw [hc] at hq; cases hq
  | some c =>
    rw [hc] at hq
    exact ⟨c, rfl, (Option.some.inj hq).symm⟩
theorem z_wD : va_D (fun q => B ≤ q) (z_w cA f B S h) := by
  refine ⟨fun i j p q hi hj e => ?_, fun k q hk => ?_⟩
  · obtain ⟨c1, -, rfl⟩ := z_w_get hi
    obtain ⟨c2, -, rfl⟩ := z_w_get hj
    dsimp only at e
    omega
  · obtain ⟨c1, -, rfl⟩ := z_w_get hk
    exact Nat.le_add_right _ _
theorem z_cell_h (e : h' k = h k) : z_cell cA f h' k c = z_cell cA f h k c := by
  unfold z_cell
  split
  · rw [e]
  · rfl
  · next ci fs =>
    have : (fun j o => z_fv f h' k j o) = fun j o => z_fv f h k j o := by
      funext j o
      unfold z_fv
      rw [e]
    rw [this]
theorem z_w_seth {e' : va_E} (hk : S[k]? = some c) (he : e' = z_cell cA f h' k c) (ho : ∀ q, q ≠ k → h' q = h q) : (z_w cA f B S h).set k (B + k, e') = z_w cA f B S h' := by
  apply List.ext_getElem?
  intro i
  have hlt : k < S.length := (List.getElem?_eq_some_iff.mp hk).1
  by_cases hi : i = k
  · subst hi
    rw [List.getElem?_set_self (by simpa [z_w] using hlt), z_w_at hk, he]
  · rw [List.getElem?_set_ne (fun q => hi q.symm)]
    simp only [z_w, List.getElem?_mapIdx]
    cases S[i]? with
    | none => rfl
    | some c2 =>
      show some (B + i, z_cell cA f h i c2) = some (B + i, z_cell cA f h' i c2)
      rw [z_cell_h (ho i hi)]
theorem z_w_setS {e' : va_E} (hk : S[k]? = some c) (he : e' = z_cell cA f h k c') : (z_w cA f B S h).set k (B + k, e') = z_w cA f B (S.set k c') h := by
  apply List.ext_getElem?
  intro i
  have hlt : k < S.length := (List.getElem?_eq_some_iff.mp hk).1
  by_cases hi : i = k
  · subst hi
    rw [List.getElem?_set_self (by simpa [z_w] using hlt), z_w_at (List.getElem?_set_self hlt), he]
  · rw [List.getElem?_set_ne (fun q => hi q.symm)]
    simp only [z_w, List.getElem?_mapIdx]
    rw [List.getElem?_set_ne (fun q => hi q.symm)]
theorem z_w_push (ho : ∀ q, q < S.length → h' q = h q) : z_w cA f B (S ++ [c]) h' = z_w cA f B S h ++ [(B + S.length, z_cell cA f h' S.length c)] := by
  have e1 : S.mapIdx (fun k c => (B + k, z_cell cA f h' k c)) = S.mapIdx (fun k c => (B + k, z_cell cA f h k c)) := by
    apply List.ext_getElem?
    intro i
    simp only [List.getElem?_mapIdx]
    cases hc : S[i]? with
    | none => rfl
    | some c2 =>
      show some (B + i, z_cell cA f h' i c2) = some (B + i, z_cell cA f h i c2)
      rw [z_cell_h (ho i (List.getElem?_eq_some_iff.mp hc).1)]
  unfold z_w
  rw [List.mapIdx_append, e1]
  simp
theorem z_tot_set (hk : S[k]? = some c) (he : z_sz c' = z_sz c) : z_tot (S.set k c') = z_tot S := by
  unfold z_tot
  congr 1
  apply List.ext_getElem?
  intro i
  have hlt : k < S.length := (List.getElem?_eq_some_iff.mp hk).1
  by_cases hi : i = k
  · subst hi
    simp only [List.getElem?_map]
    rw [List.getElem?_set_self hlt, hk]
    simp [he]
  · simp only [List.getElem?_map]
    rw [List.getElem?_set_ne (fun q => hi q.symm)]
theorem z_tot_push : z_tot (S ++ [c]) = z_tot S + z_sz c := by simp [z_tot]
end ZWL
theorem z_rv_rf (f : Nat → Nat) (r : Option Nat) : z_rv f (z_rf r) = va_rf (r.map f) := by cases r <;> rfl
/-- the array classes -/
def z_tys (cA : FieldType → ClassId) : List (ClassId × FieldType) := ([.int, .boolean, .byte, .char, .object "DustYards$Text", .object "DustYards$Sheet"] : List FieldType).map fun t => (cA t, t)
/-- what is only read: tables, statics, texts, the script -/
def z_RO (X : Option (List Int32)) (B : Nat) (ro : Nat → Nat) (U : State) (H : Heap) : Prop :=
  (∀ (i : Nat) (ty : FieldType) (l : List Int32), z_roA X i = some (ty, l) → va_T ty (ro (100000 + i)) l.length (fun j => .int (l.getD j 0)) (fun q => B ≤ q) U H) ∧
  (∀ (i : Nat) (q : String × String × String), z_gN[i]? = some q → va_Z q.1 q.2.1 q.2.2 (z_rv (z_ad B ro) (z_gval i)) (fun q => B ≤ q) U H) ∧
  (∀ i : Nat, i < 13 → va_O "java/lang/String" (ro (100100 + i)) (fun q => B ≤ q) U H ∧ va_OF "java/lang/String" "coder" "B" (.int 0) (ro (100100 + i)) (fun q => B ≤ q) U H ∧ va_OF "java/lang/String" "value" "[B" (.ref (ro (100004 + i))) (ro (100100 + i)) (fun q => B ≤ q) U H) ∧
  (∀ e ∈ z_sT, vk_R (z_ow e.1) e.2.1 e.2.2.2 (ro (100100 + e.2.2.1)) U) ∧
  (∀ e ∈ z_cT, (e.2.2.2.1 = 3 ∨ e.2.2.2.1 = 4) → va_Nw (.methodLinkNest (z_ow e.1) e.2.1 (z_nm1 e.2.2.1) "DustYards") U) ∧
  va_AO "DustYards$Text" U ∧ va_AO "DustYards$Sheet" U
theorem z_RO.kept {X : Option (List Int32)} {B : Nat} {ro : Nat → Nat} {U : State} {H H1 : Heap} (h : z_RO X B ro U H) (hq : ∀ a : Nat, a < H.size → ¬ B ≤ a → H1[a]? = H[a]?) : z_RO X B ro U H1 :=
  ⟨fun i ty l hi => (h.1 i ty l hi).kept hq, fun i q hi => (h.2.1 i q hi).kept hq, fun i hi => ⟨(h.2.2.1 i hi).1.kept hq, (h.2.2.1 i hi).2.1.kept hq, (h.2.2.1 i hi).2.2.kept hq⟩, h.2.2.2⟩
theorem z_RO.warm {X : Option (List Int32)} {B : Nat} {ro : Nat → Nat} {s U : State} {H : Heap} (hW : s.WarmedH U.vm) (h : z_RO X B ro s H) : z_RO X B ro U H :=
  ⟨fun i ty l hi => (h.1 i ty l hi).moved hW.alike, fun i q hi => (h.2.1 i q hi).moved hW.alike, fun i hi => ⟨(h.2.2.1 i hi).1.moved hW.alike, (h.2.2.1 i hi).2.1.moved hW.alike, (h.2.2.1 i hi).2.2.moved hW.alike⟩, fun e he => (h.2.2.2.1 e he).warm hW, fun e he hk => va_Nw.warmM hW (h.2.2.2.2.1 e he hk), va_AO.moved hW.alike h.2.2.2.2.2.1, va_AO.moved hW.alike h.2.2.2.2.2.2⟩
theorem z_RO.same {X : Option (List Int32)} {B : Nat} {ro : Nat → Nat} {s U : State} {H : Heap} (hv : U.vm = s.vm) (h : z_RO X B ro s H) : z_RO X B ro U H := by
  have ha : s.vm.Alike U.vm := by rw [hv]; exact Vm.Alike.refl _
  exact ⟨fun i ty l hi => (h.1 i ty l hi).moved ha, fun i q hi => (h.2.1 i q hi).moved ha, fun i hi => ⟨(h.2.2.1 i hi).1.moved ha, (h.2.2.1 i hi).2.1.moved ha, (h.2.2.1 i hi).2.2.moved ha⟩, fun e he => (h.2.2.2.1 e he).same hv, fun e he hk => va_Nw.same rfl hv.symm (h.2.2.2.2.1 e he hk), va_AO.moved ha h.2.2.2.2.2.1, va_AO.moved ha h.2.2.2.2.2.2⟩
/-- the world in the midst of a method that began in s -/
def z_In (D : va_G) (cA : FieldType → ClassId) (B : Nat) (ro : Nat → Nat) (s : State) (S : zS) (h : zH) (H : Heap) (locs : List Loc) : Prop :=
  va_P D z_cls (z_w cA (z_ad B ro) B S h) H ∧ va_S (fun q => B ≤ q) s.heap H locs
/-- what stays in a method -/
def z_Cx (D : va_G) (cA : FieldType → ClassId) (B : Nat) (ro : Nat → Nat) (X : Option (List Int32)) (p : Program) (s : State) (m : MethodId) (args : Array Value) (meth : Method) (c : Code) (e : zM) : Prop :=
  p.tables.exec = Jvm.exec ∧ c.code = e.2.1 ∧ c.maxLocals = e.2.2.1 ∧ s.vm.findClass (z_ow e.2.2.2.2.1) = some m.cls ∧ (∀ w ∈ z_tbl, w.before args s = true) ∧ (e.1.name = "<init>" → meth.name = "<init>") ∧ va_K D z_cls (z_tys cA) s ∧ z_RO X B ro s s.heap ∧ B ≤ s.heap.size
theorem z_find {α : Type} {l : List (Nat × Nat × α)} {own idx : Nat} {e : Nat × Nat × α} (h : l.find? (fun e => e.1 == own && e.2.1 == idx) = some e) : e ∈ l ∧ e.1 = own ∧ e.2.1 = idx := by
  have h1 := List.find?_some h
  simp only [Bool.and_eq_true, beq_iff_eq] at h1
  exact ⟨List.mem_of_find?_eq_some h, h1.1, h1.2⟩
theorem z_fl_ok {own idx ci k : Nat} (h : z_fl own idx = some (ci, k)) : ∃ q, z_cls[ci]? = some q ∧ k < q.2.2 ∧ Cond.fieldLink (z_ow own) idx (q.2.1 k).1 (q.2.1 k).2.1 (q.2.1 k).2.2.1 ∈ z_tbl := by
  unfold z_fl at h
  split at h
  · next e he =>
    obtain ⟨h1, h2, h3⟩ := z_find he
    have h4 := List.all_eq_true.mp z_flT_ok e h1
    unfold z_okF at h4
    cases h
    split at h4
    · next q hq =>
      simp only [Bool.and_eq_true, decide_eq_true_eq] at h4
      refine ⟨q, hq, h4.2, z_in (z_of1 (List.mem_of_getElem? (i := e.2.2.2.2) ?_)) rfl⟩
      rw [← h2, ← h3]
      exact h4.1
    · cases h4
  · cases h
theorem z_con_ok {own idx : Nat} {v : Value} (h : z_con own idx = some v) : (∀ x, v = .int x → Cond.constant (z_ow own) idx x ∈ z_tbl) ∧ ∀ x, v = .long x → Cond.constantLong (z_ow own) idx x ∈ z_tbl := by
  unfold z_con at h
  split at h
  · next e he =>
    obtain ⟨h1, h2, h3⟩ := z_find he
    have h4 := List.all_eq_true.mp z_kT_ok e h1
    unfold z_okK at h4
    cases h
    refine ⟨fun x hx => ?_, fun x hx => ?_⟩
    · rw [hx] at h4
      simp only [decide_eq_true_eq] at h4
      refine z_in (z_of1 (List.mem_of_getElem? (i := e.2.2.2) ?_)) rfl
      rw [← h2, ← h3]
      exact h4
    · rw [hx] at h4
      simp only [decide_eq_true_eq] at h4
      refine z_in (z_of1 (List.mem_of_getElem? (i := e.2.2.2) ?_)) rfl
      rw [← h2, ← h3]
      exact h4
  · cases h
theorem z_sta_ok {own idx : Nat} {v : Value} (h : z_sta own idx = some v) : ∃ i q, z_gN[i]? = some q ∧ v = z_gval i ∧ Cond.fieldLink (z_ow own) idx q.1 q.2.1 q.2.2 ∈ z_tbl := by
  unfold z_sta at h
  split at h
  · next e he =>
    obtain ⟨h1, h2, h3⟩ := z_find he
    have h4 := List.all_eq_true.mp z_gT_ok e h1
    unfold z_okG at h4
    cases h
    split at h4
    · next q hq =>
      simp only [decide_eq_true_eq] at h4
      refine ⟨_, q, hq, rfl, z_in (z_of1 (List.mem_of_getElem? (i := e.2.2.2) ?_)) rfl⟩
      rw [← h2, ← h3]
      exact h4
    · cases h4
  · cases h
theorem z_cln_ok {own idx : Nat} {C : String} (h : z_cln own idx = some C) : Cond.classLink (z_ow own) idx C ∈ z_tbl := by
  unfold z_cln at h
  split at h
  · next e he =>
    obtain ⟨h1, h2, h3⟩ := z_find he
    have h4 := List.all_eq_true.mp z_nT_ok e h1
    unfold z_okN at h4
    cases h
    simp only [decide_eq_true_eq] at h4
    refine z_in (z_of1 (List.mem_of_getElem? (i := e.2.2.2) ?_)) rfl
    rw [← h2, ← h3]
    exact h4
  · cases h
theorem z_isO_ok {own idx : Nat} (h : z_isO own idx = true) : Cond.methodLink (z_ow own) idx objectInit ∈ z_tbl := by
  unfold z_isO at h
  obtain ⟨e, he⟩ := Option.isSome_iff_exists.mp h
  obtain ⟨h1, h2, h3⟩ := z_find he
  have h4 := List.all_eq_true.mp z_oT_ok e h1
  simp only [decide_eq_true_eq] at h4
  refine z_in (z_of1 (List.mem_of_getElem? (i := e.2.2) ?_)) rfl
  rw [← h2, ← h3]
  exact h4
theorem z_isY_ok {own idx : Nat} (h : z_isY own idx = true) : Cond.methodLink (z_ow own) idx arraycopyName ∈ z_tbl := by
  unfold z_isY at h
  obtain ⟨e, he⟩ := Option.isSome_iff_exists.mp h
  obtain ⟨h1, h2, h3⟩ := z_find he
  have h4 := List.all_eq_true.mp z_yT_ok e h1
  simp only [decide_eq_true_eq] at h4
  refine z_in (z_of1 (List.mem_of_getElem? (i := e.2.2) ?_)) rfl
  rw [← h2, ← h3]
  exact h4
set_option maxRecDepth 100000 in
theorem z_lkv : Cond.fieldLink (z_ow 15) 9 "java/lang/String" "value" "[B" ∈ z_tbl := z_in (z_of1 (List.mem_of_getElem? (i := 1533) (by decide +kernel))) rfl
set_option maxRecDepth 100000 in
theorem z_lkc : Cond.fieldLink (z_ow 15) 15 "java/lang/String" "coder" "B" ∈ z_tbl := z_in (z_of1 (List.mem_of_getElem? (i := 1534) (by decide +kernel))) rfl
set_option maxRecDepth 100000 in
theorem z_oi : Cond.instanceMethod objectInit ∈ z_tbl := z_in (z_of1 (List.mem_of_getElem? (i := 28) (by decide +kernel))) rfl
set_option maxRecDepth 100000 in
theorem z_oc : Cond.code objectInit ⟨#[0xb1]⟩ 1 none ∈ z_tbl := z_in (z_of1 (List.mem_of_getElem? (i := 29) (by decide +kernel))) rfl
set_option maxRecDepth 100000 in
theorem z_yn : Cond.native arraycopyName ∈ z_tbl := z_in (z_of1 (List.mem_of_getElem? (i := 825) (by decide +kernel))) rfl
set_option maxRecDepth 100000 in
theorem z_ys : Cond.static arraycopyName ∈ z_tbl := z_in (z_of1 (List.mem_of_getElem? (i := 824) (by decide +kernel))) rfl
set_option maxRecDepth 100000 in
theorem z_yi : Cond.initialized "java/lang/System" ∈ z_tbl := z_in (z_of1 (List.mem_of_getElem? (i := 20) (by decide +kernel))) rfl
set_option maxRecDepth 100000 in
theorem z_ac (ty : FieldType) (h : ty ∈ ([.int, .boolean, .byte, .char] : List FieldType)) : Cond.arrayClass ty ∈ z_tbl := by
  simp only [List.mem_cons, List.not_mem_nil, or_false] at h
  rcases h with rfl | rfl | rfl | rfl
  · exact z_in (z_of1 (List.mem_of_getElem? (i := 80) (by decide +kernel))) (by decide +kernel)
  · exact z_in (z_of1 (List.mem_of_getElem? (i := 81) (by decide +kernel))) (by decide +kernel)
  · exact z_in (z_of1 (List.mem_of_getElem? (i := 543) (by decide +kernel))) (by decide +kernel)
  · exact z_in (z_of1 (List.mem_of_getElem? (i := 1344) (by decide +kernel))) (by decide +kernel)
end
section
section ZMEM
variable {D : va_G} {cA : FieldType → ClassId} {B : Nat} {ro : Nat → Nat} {X : Option (List Int32)}
variable {p : Program} {l : Launch} {e : Env} {R : Room} {s : State} {m : MethodId} {args : Array Value} {below : List Frame} {meth : Method} {c : Code} {H : Heap} {locs : List Loc} {cells slots : Nat} {Q : State → Prop} {em : zM}
variable {S S' : zS} {h h' : zH} {st' r : List Value} {pc : Nat} {real : Array Slot}
abbrev zKK (D : va_G) (cA : FieldType → ClassId) (B : Nat) (ro : Nat → Nat) (p : Program) (l : Launch) (e : Env) (R : Room) (s : State) (m : MethodId) (args : Array Value) (below : List Frame) (meth : Method) (c : Code) (cells slots : Nat) (Q : State → Prop) (S S' : zS) (h' : zH) (pc' : Nat) (real : Array Slot) (st' : List Value) : Prop :=
  ∀ (H' : Heap) (locs' : List Loc) (cells' slots' : Nat), cells' = cells + (S'.length - S.length) → slots' = slots + (z_tot S' - z_tot S) → z_In D cA B ro s S' h' H' locs' → W p l e R s m args below meth c H' locs' cells' slots' Q (F0 m pc' real (st'.map (z_rv (z_ad B ro))))
theorem z_obj_ok {k : Nat} {o : Nat × List (Option (Option Nat))} (h : z_obj S k = some o) : S[k]? = some (.inr (.inr o)) := by
  unfold z_obj at h
  split at h
  · next o' ho => cases h; exact ho
  · cases h
theorem z_arr_ok {k : Nat} {o : FieldType × Nat} (h : z_arr S k = some o) : S[k]? = some (.inl o) := by
  unfold z_arr at h
  split at h
  · next o' ho => cases h; exact ho
  · cases h
theorem z_rar_ok {k : Nat} {o : FieldType × List (Option Nat)} (h : z_rar S k = some o) : S[k]? = some (.inr (.inl o)) := by
  unfold z_rar at h
  split at h
  · next o' ho => cases h; exact ho
  · cases h
theorem z_getf_ok {idx k : Nat} (C : z_Cx D cA B ro X p s m args meth c em) (hI : z_In D cA B ro s S h H locs) (hd : decode em.2.1 pc = .ok (.getfield idx, 3)) (hz : z_getf em.2.2.2.2.1 idx k r S h = some (st', S', h')) (kk : zKK D cA B ro p l e R s m args below meth c cells slots Q S S' h' (pc + 3) real st') : W p l e R s m args below meth c H locs cells slots Q (F0 m pc real ((Value.ref k :: r).map (z_rv (z_ad B ro)))) := by
  obtain ⟨hx, hb, hml, hown, hts, hnm, hK, hRO, hBs⟩ := C
  have hI' := hI
  obtain ⟨hP, hS⟩ := hI
  unfold z_getf at hz
  split at hz
  · next hk =>
    have hf : z_ad B ro k = B + k := if_pos hk
    show W p l e R s m args below meth c H locs cells slots Q (F0 m pc real (.ref (z_ad B ro k) :: r.map (z_rv (z_ad B ro))))
    rw [hf]
    split at hz
    · next ci j cj fs hfl hob =>
      split at hz
      · next hcc =>
        subst hcc
        obtain ⟨q, hq, hj, hlk⟩ := z_fl_ok hfl
        have hSk := z_obj_ok hob
        have hO := z_cls_ok hq
        split at hz
        · next hfj =>
          cases hz
          refine va_get (C := q.1) (T := q.2.1) (N := q.2.2) (ref := (q.2.1 j).1) hx hb hts hO.1 hown hK hP k (z_w_at hSk) hq j hj (hts _ hlk) (fun _ h => h) (v := .int (h k j)) ?_ hd (kk H locs cells slots (by omega) (by omega) hI')
          simp [List.getElem?_mapIdx, hfj, z_fv]
        · next a hfj =>
          cases hz
          refine va_get (C := q.1) (T := q.2.1) (N := q.2.2) (ref := (q.2.1 j).1) hx hb hts hO.1 hown hK hP k (z_w_at hSk) hq j hj (hts _ hlk) (fun _ h => h) (v := z_rv (z_ad B ro) (z_rf a)) ?_ hd (kk H locs cells slots (by omega) (by omega) hI')
          rw [z_rv_rf]
          simp [List.getElem?_mapIdx, hfj, z_fv]
        · cases hz
      · cases hz
    · cases hz
  · next hk =>
    have hf : z_ad B ro k = ro k := if_neg hk
    show W p l e R s m args below meth c H locs cells slots Q (F0 m pc real (.ref (z_ad B ro k) :: r.map (z_rv (z_ad B ro))))
    rw [hf]
    split at hz
    · next hk2 =>
      obtain ⟨k1, k2, ho⟩ := hk2
      obtain ⟨i, rfl⟩ : ∃ i, k = 100100 + i := ⟨k - 100100, by omega⟩
      have hi : i < 13 := by omega
      obtain ⟨g1, g2, g3⟩ := hRO.2.2.1 i hi
      rw [ho] at hown
      split at hz
      · next hidx =>
        subst hidx
        cases hz
        refine vk_getf hx hb g3 hS hown (hts (.fieldLink (z_ow 15) 9 "java/lang/String" "value" "[B") z_lkv) (fun _ h => h) hd ?_
        have := kk H locs cells slots (by omega) (by omega) hI'
        have e1 : z_ad B ro (100100 + i - 96) = ro (100004 + i) := by
          rw [show 100100 + i - 96 = 100004 + i by omega]
          exact if_neg (by omega)
        have e2 : (Value.ref (100100 + i - 96) :: r).map (z_rv (z_ad B ro)) = .ref (ro (100004 + i)) :: r.map (z_rv (z_ad B ro)) := by
          show Value.ref (z_ad B ro (100100 + i - 96)) :: _ = _
          rw [e1]
        rw [e2] at this
        exact this
      · split at hz
        · next hidx =>
          subst hidx
          cases hz
          exact vk_getf hx hb g2 hS hown (hts (.fieldLink (z_ow 15) 15 "java/lang/String" "coder" "B") z_lkc) (fun _ h => h) hd (kk H locs cells slots (by omega) (by omega) hI')
        · cases hz
    · cases hz
theorem z_mapset {f : Nat → Nat} {k j : Nat} {x : Int32} {fs : List (Option (Option Nat))} (hj : fs[j]? = some none) : (fs.mapIdx (fun i o => z_fv f h k i o)).set j (.int x) = fs.mapIdx (fun i o => z_fv f (z_up h k j x) k i o) := by
  apply List.ext_getElem?
  intro i
  have hlt : j < fs.length := (List.getElem?_eq_some_iff.mp hj).1
  by_cases hi : i = j
  · subst hi
    rw [List.getElem?_set_self (by simpa using hlt)]
    simp [List.getElem?_mapIdx, hj, z_fv, z_up, upd]
  · rw [List.getElem?_set_ne (fun q => hi q.symm)]
    simp only [List.getElem?_mapIdx]
    cases fs[i]? with
    | none => rfl
    | some o =>
      cases o with
      | none => simp [z_fv, z_up, upd, hi]
      | some r => rfl
theorem z_mapsetR {f : Nat → Nat} {k j a : Nat} {fs : List (Option (Option Nat))} (hlt : j < fs.length) : (fs.mapIdx (fun i o => z_fv f h k i o)).set j (.ref (f a)) = (fs.set j (some (some a))).mapIdx (fun i o => z_fv f h k i o) := by
  apply List.ext_getElem?
  intro i
  by_cases hi : i = j
  · subst hi
    rw [List.getElem?_set_self (by simpa using hlt)]
    simp only [List.getElem?_mapIdx]
    rw [List.getElem?_set_self hlt]
    rfl
  · rw [List.getElem?_set_ne (fun q => hi q.symm)]
    simp only [List.getElem?_mapIdx]
    rw [List.getElem?_set_ne (fun q => hi q.symm)]
theorem z_okT_ref {t : FieldType} (ht : z_okT t = true) (a : Nat) : narrow t (.ref a) = .ref a ∧ fits t (.ref a) = true := by
  cases t <;> first | (cases ht; done) | exact ⟨rfl, rfl⟩
theorem z_putf_ok {idx k : Nat} {v : Value} (C : z_Cx D cA B ro X p s m args meth c em) (hI : z_In D cA B ro s S h H locs) (hd : decode em.2.1 pc = .ok (.putfield idx, 3)) (hz : z_putf em.2.2.2.2.1 (decide (em.1.name = "<init>")) idx v k r S h = some (st', S', h')) (kk : zKK D cA B ro p l e R s m args below meth c cells slots Q S S' h' (pc + 3) real st') : W p l e R s m args below meth c H locs cells slots Q (F0 m pc real ((v :: Value.ref k :: r).map (z_rv (z_ad B ro)))) := by
  obtain ⟨hx, hb, hml, hown, hts, hnm, hK, hRO, hBs⟩ := C
  obtain ⟨hP, hS⟩ := hI
  unfold z_putf at hz
  split at hz
  · next hk =>
    have hf : z_ad B ro k = B + k := if_pos hk
    show W p l e R s m args below meth c H locs cells slots Q (F0 m pc real (z_rv (z_ad B ro) v :: .ref (z_ad B ro k) :: r.map (z_rv (z_ad B ro))))
    rw [hf]
    split at hz
    · next ci j cj fs hfl hob =>
      split at hz
      · next hcc =>
        subst hcc
        obtain ⟨q, hq, hj, hlk⟩ := z_fl_ok hfl
        have hSk := z_obj_ok hob
        obtain ⟨o1, o2, o3, o4, o5, o6, o7, o8⟩ := z_cls_ok hq
        have hdj : (fs.mapIdx (fun j o => z_fv (z_ad B ro) h k j o)).length = fs.length := by simp
        split at hz
        · next x hfj =>
          split at hz
          · next hint =>
            cases hz
            have hlt : j < fs.length := (List.getElem?_eq_some_iff.mp hfj).1
            have hfin : (q.2.1 j).2.2.2 = false := by
              rcases o8 j hj with ⟨-, h2, -⟩ | ⟨h2, -⟩
              · exact h2
              · rw [hint] at h2
                cases h2
            refine va_put (C := q.1) (T := q.2.1) (N := q.2.2) (ref := (q.2.1 j).1) hx hb hts o1 (z_fty ci) o3 o2 hown hK hP z_wD hS k (z_w_at hSk) hq j hj (hts _ hlk) (fun _ h => h) hfin (ty := .int) (v := .int x) (by rw [o3 j hj, hint]) rfl rfl (by rw [hdj]; exact hlt) hd (fun H1 locs1 hP1 hD1 hS1 => ?_)
            refine kk H1 locs1 cells slots (by omega) (by omega) ⟨?_, hS1⟩
            have e9 : (z_w cA (z_ad B ro) B S h).set k (B + k, Sum.inr (ci, fs.mapIdx (fun i o => z_fv (z_ad B ro) (z_up h k j x) k i o))) = z_w cA (z_ad B ro) B S (z_up h k j x) := z_w_seth hSk rfl (fun q hq => if_neg hq)
            rw [z_mapset hfj, e9] at hP1
            exact hP1
          · cases hz
        · next a b hfj =>
          split at hz
          · next hin =>
            obtain ⟨hi1, hi2, hi3⟩ := hin
            cases hz
            have hlt : j < fs.length := (List.getElem?_eq_some_iff.mp hfj).1
            have hfin : (q.2.1 j).2.2.2 = true := by
              rcases o8 j hj with ⟨h2, -⟩ | ⟨-, h2, -⟩
              · rw [h2] at hi3
                cases hi3
              · exact h2
            have hsl : (S.set k (.inr (.inr (ci, fs.set j (some (some b)))))).length = S.length := List.length_set ..
            have hst : z_tot (S.set k (.inr (.inr (ci, fs.set j (some (some b)))))) = z_tot S := z_tot_set hSk (by simp [z_sz])
            obtain ⟨t1, t2⟩ := z_okT_ref hi3 (z_ad B ro b)
            refine va_putF (C := q.1) (T := q.2.1) (N := q.2.2) (ref := (q.2.1 j).1) hx hb hts o1 (z_fty ci) o3 o2 hown hK hP z_wD hS k (z_w_at hSk) hq j hj (hts _ hlk) (fun _ h => h) hfin (hnm (by simpa using hi1)) (by rw [o6 j hj, z_nm hq, hi2]) (ty := z_fty ci j) (v := .ref (z_ad B ro b)) (o3 j hj) t1 t2 (by rw [hdj]; exact hlt) hd (fun H1 locs1 hP1 hD1 hS1 => ?_)
            refine kk H1 locs1 cells slots (by rw [hsl]; omega) (by rw [hst]; omega) ⟨?_, hS1⟩
            have e9 : (z_w cA (z_ad B ro) B S h).set k (B + k, Sum.inr (ci, (fs.set j (some (some b))).mapIdx (fun i o => z_fv (z_ad B ro) h k i o))) = z_w cA (z_ad B ro) B (S.set k (.inr (.inr (ci, fs.set j (some (some b)))))) h := z_w_setS hSk rfl
            rw [z_mapsetR hlt, e9] at hP1
            exact hP1
          · cases hz
        · cases hz
      · cases hz
    · cases hz
  · cases hz
end ZMEM
end
section
section ZARR
variable {D : va_G} {cA : FieldType → ClassId} {B : Nat} {ro : Nat → Nat} {X : Option (List Int32)}
variable {p : Program} {l : Launch} {e : Env} {R : Room} {s : State} {m : MethodId} {args : Array Value} {below : List Frame} {meth : Method} {c : Code} {H : Heap} {locs : List Loc} {cells slots : Nat} {Q : State → Prop} {em : zM}
variable {S S' : zS} {h h' : zH} {st' r : List Value} {pc : Nat} {real : Array Slot}
theorem z_ad_lo {k : Nat} (hk : k < 100000) : z_ad B ro k = B + k := if_pos hk
theorem z_ad_hi {k : Nat} (hk : ¬ k < 100000) : z_ad B ro k = ro k := if_neg hk
theorem z_ald_ok {tys : List FieldType} {ins : Instr} {i : Int32} {k : Nat} (hI : z_In D cA B ro s S h H locs)
    (row : ∀ ty ∈ tys, ∀ n, S[k]? = some (.inl (ty, n)) → vp_in i n → W p l e R s m args below meth c H locs cells slots Q (F0 m (pc + 1) real (.int (h k i.toNatClampNeg) :: r.map (z_rv (z_ad B ro)))) → W p l e R s m args below meth c H locs cells slots Q (F0 m pc real (.int i :: .ref (B + k) :: r.map (z_rv (z_ad B ro)))))
    (row2 : ∀ ty ∈ tys, ∀ li : List Int32, z_roA X (k - 100000) = some (ty, li) → vp_in i li.length → W p l e R s m args below meth c H locs cells slots Q (F0 m (pc + 1) real (.int (li.getD i.toNatClampNeg 0) :: r.map (z_rv (z_ad B ro)))) → W p l e R s m args below meth c H locs cells slots Q (F0 m pc real (.int i :: .ref (ro (100000 + (k - 100000))) :: r.map (z_rv (z_ad B ro)))))
    (hz : z_ald tys i k r X S h = some (st', S', h')) (kk : zKK D cA B ro p l e R s m args below meth c cells slots Q S S' h' (pc + 1) real st') : W p l e R s m args below meth c H locs cells slots Q (F0 m pc real ((Value.int i :: Value.ref k :: r).map (z_rv (z_ad B ro)))) := by
  unfold z_ald at hz
  split at hz
  · next hk =>
    show W p l e R s m args below meth c H locs cells slots Q (F0 m pc real (.int i :: .ref (z_ad B ro k) :: r.map (z_rv (z_ad B ro))))
    rw [z_ad_lo hk]
    split at hz
    · next ty n hn =>
      split at hz
      · next hc =>
        cases hz
        exact row ty hc.1 n (z_arr_ok hn) hc.2 (kk H locs cells slots (by omega) (by omega) hI)
      · cases hz
    · cases hz
  · next hk =>
    show W p l e R s m args below meth c H locs cells slots Q (F0 m pc real (.int i :: .ref (z_ad B ro k) :: r.map (z_rv (z_ad B ro))))
    rw [z_ad_hi hk, show ro k = ro (100000 + (k - 100000)) from congrArg ro (Nat.add_sub_of_le (Nat.not_lt.mp hk)).symm]
    split at hz
    · next ty li hli =>
      split at hz
      · next hc =>
        cases hz
        exact row2 ty hc.1 li hli hc.2 (kk H locs cells slots (by omega) (by omega) hI)
      · cases hz
    · cases hz
theorem z_iald_ok {i : Int32} {k : Nat} (C : z_Cx D cA B ro X p s m args meth c em) (hI : z_In D cA B ro s S h H locs) (hd : decode em.2.1 pc = .ok (.iaload, 1)) (hz : z_ald [.int] i k r X S h = some (st', S', h')) (kk : zKK D cA B ro p l e R s m args below meth c cells slots Q S S' h' (pc + 1) real st') : W p l e R s m args below meth c H locs cells slots Q (F0 m pc real ((Value.int i :: Value.ref k :: r).map (z_rv (z_ad B ro)))) := by
  obtain ⟨hx, hb, hml, hown, hts, hnm, hK, hRO, hBs⟩ := C
  refine z_ald_ok (ins := .iaload) hI (fun ty hty n hn hin kw => ?_) (fun ty hty li hli hin kw => ?_) hz kk
  · cases List.mem_singleton.mp hty
    exact va_iald hx hb hK hI.1 k 0 (z_w_at hn) rfl hin hd kw
  · cases List.mem_singleton.mp hty
    exact va_ti hx hb (hRO.1 _ _ _ hli) hI.2 hin rfl hd kw
theorem z_bald_ok {i : Int32} {k : Nat} (C : z_Cx D cA B ro X p s m args meth c em) (hI : z_In D cA B ro s S h H locs) (hd : decode em.2.1 pc = .ok (.baload, 1)) (hz : z_ald [.byte, .boolean] i k r X S h = some (st', S', h')) (kk : zKK D cA B ro p l e R s m args below meth c cells slots Q S S' h' (pc + 1) real st') : W p l e R s m args below meth c H locs cells slots Q (F0 m pc real ((Value.int i :: Value.ref k :: r).map (z_rv (z_ad B ro)))) := by
  obtain ⟨hx, hb, hml, hown, hts, hnm, hK, hRO, hBs⟩ := C
  refine z_ald_ok (ins := .baload) hI (fun ty hty n hn hin kw => ?_) (fun ty hty li hli hin kw => ?_) hz kk
  · simp only [List.mem_cons, List.not_mem_nil, or_false] at hty
    rcases hty with rfl | rfl
    · exact va_bald hx hb hK hI.1 k 2 (z_w_at hn) rfl hin hd kw
    · exact va_zald hx hb hK hI.1 k 1 (z_w_at hn) rfl hin hd kw
  · simp only [List.mem_cons, List.not_mem_nil, or_false] at hty
    rcases hty with rfl | rfl
    · exact va_tb hx hb (hRO.1 _ _ _ hli) hI.2 hin rfl hd kw
    · exact va_tz hx hb (hRO.1 _ _ _ hli) hI.2 hin rfl hd kw
theorem z_cald_ok {i : Int32} {k : Nat} (C : z_Cx D cA B ro X p s m args meth c em) (hI : z_In D cA B ro s S h H locs) (hd : decode em.2.1 pc = .ok (.caload, 1)) (hz : z_ald [.char] i k r X S h = some (st', S', h')) (kk : zKK D cA B ro p l e R s m args below meth c cells slots Q S S' h' (pc + 1) real st') : W p l e R s m args below meth c H locs cells slots Q (F0 m pc real ((Value.int i :: Value.ref k :: r).map (z_rv (z_ad B ro)))) := by
  obtain ⟨hx, hb, hml, hown, hts, hnm, hK, hRO, hBs⟩ := C
  refine z_ald_ok (ins := .caload) hI (fun ty hty n hn hin kw => ?_) (fun ty hty li hli hin kw => ?_) hz kk
  · cases List.mem_singleton.mp hty
    exact va_cald hx hb hK hI.1 k 3 (z_w_at hn) rfl hin hd kw
  · cases List.mem_singleton.mp hty
    exact va_tc hx hb (hRO.1 _ _ _ hli) hI.2 hin rfl hd kw
theorem z_up_self (h : zH) (k j : Nat) (v : Int32) : z_up h k j v k = upd (h k) j v := if_pos rfl
theorem z_ast_ok {tys : List FieldType} {x i : Int32} {k : Nat} (hI : z_In D cA B ro s S h H locs)
    (row : ∀ ty ∈ tys, ∀ n, S[k]? = some (.inl (ty, n)) → vp_in i n → (∀ (H1 : Heap) (locs1 : List Loc), va_P D z_cls ((z_w cA (z_ad B ro) B S h).set k (B + k, .inl (cA ty, n, .inl (upd (h k) i.toNatClampNeg (if ty = .int then x else vp_nar ty x))))) H1 → va_S (fun q => B ≤ q) s.heap H1 locs1 → W p l e R s m args below meth c H1 locs1 cells slots Q (F0 m (pc + 1) real (r.map (z_rv (z_ad B ro))))) → W p l e R s m args below meth c H locs cells slots Q (F0 m pc real (.int x :: .int i :: .ref (B + k) :: r.map (z_rv (z_ad B ro)))))
    (hz : z_ast tys x i k r S h = some (st', S', h')) (kk : zKK D cA B ro p l e R s m args below meth c cells slots Q S S' h' (pc + 1) real st') : W p l e R s m args below meth c H locs cells slots Q (F0 m pc real ((Value.int x :: Value.int i :: Value.ref k :: r).map (z_rv (z_ad B ro)))) := by
  unfold z_ast at hz
  split at hz
  · next hk =>
    show W p l e R s m args below meth c H locs cells slots Q (F0 m pc real (.int x :: .int i :: .ref (z_ad B ro k) :: r.map (z_rv (z_ad B ro))))
    rw [z_ad_lo hk]
    split at hz
    · next ty n hn =>
      split at hz
      · next hc =>
        cases hz
        refine row ty hc.1 n (z_arr_ok hn) hc.2 (fun H1 locs1 hP1 hS1 => kk H1 locs1 cells slots (by omega) (by omega) ⟨?_, hS1⟩)
        have e9 : (z_w cA (z_ad B ro) B S h).set k (B + k, Sum.inl (cA ty, n, Sum.inl (upd (h k) i.toNatClampNeg (if ty = .int then x else vp_nar ty x)))) = z_w cA (z_ad B ro) B S (z_up h k i.toNatClampNeg (if ty = .int then x else vp_nar ty x)) := z_w_seth (z_arr_ok hn) (by simp only [z_cell, z_up_self]) (fun q hq => if_neg hq)
        rw [e9] at hP1
        exact hP1
      · cases hz
    · cases hz
  · cases hz
theorem z_iast_ok {x i : Int32} {k : Nat} (C : z_Cx D cA B ro X p s m args meth c em) (hI : z_In D cA B ro s S h H locs) (hd : decode em.2.1 pc = .ok (.iastore, 1)) (hz : z_ast [.int] x i k r S h = some (st', S', h')) (kk : zKK D cA B ro p l e R s m args below meth c cells slots Q S S' h' (pc + 1) real st') : W p l e R s m args below meth c H locs cells slots Q (F0 m pc real ((Value.int x :: Value.int i :: Value.ref k :: r).map (z_rv (z_ad B ro)))) := by
  obtain ⟨hx, hb, hml, hown, hts, hnm, hK, hRO, hBs⟩ := C
  refine z_ast_ok hI (fun ty hty n hn hin kw => ?_) hz kk
  cases List.mem_singleton.mp hty
  rw [if_pos rfl] at kw
  exact va_iast hx hb hK hI.1 z_wD hI.2 k 0 (z_w_at hn) rfl hin hd (fun H1 locs1 hP1 hD1 hS1 => kw H1 locs1 hP1 hS1)
theorem z_bast_ok {x i : Int32} {k : Nat} (C : z_Cx D cA B ro X p s m args meth c em) (hI : z_In D cA B ro s S h H locs) (hd : decode em.2.1 pc = .ok (.bastore, 1)) (hz : z_ast [.byte, .boolean] x i k r S h = some (st', S', h')) (kk : zKK D cA B ro p l e R s m args below meth c cells slots Q S S' h' (pc + 1) real st') : W p l e R s m args below meth c H locs cells slots Q (F0 m pc real ((Value.int x :: Value.int i :: Value.ref k :: r).map (z_rv (z_ad B ro)))) := by
  obtain ⟨hx, hb, hml, hown, hts, hnm, hK, hRO, hBs⟩ := C
  refine z_ast_ok hI (fun ty hty n hn hin kw => ?_) hz kk
  simp only [List.mem_cons, List.not_mem_nil, or_false] at hty
  rcases hty with rfl | rfl
  · rw [if_neg (by decide)] at kw
    exact va_bast hx hb hK hI.1 z_wD hI.2 k 2 (z_w_at hn) rfl hin hd (fun H1 locs1 hP1 hD1 hS1 => kw H1 locs1 hP1 hS1)
  · rw [if_neg (by decide)] at kw
    exact va_zast hx hb hK hI.1 z_wD hI.2 k 1 (z_w_at hn) rfl hin hd (fun H1 locs1 hP1 hD1 hS1 => kw H1 locs1 hP1 hS1)
theorem z_cast_ok {x i : Int32} {k : Nat} (C : z_Cx D cA B ro X p s m args meth c em) (hI : z_In D cA B ro s S h H locs) (hd : decode em.2.1 pc = .ok (.castore, 1)) (hz : z_ast [.char] x i k r S h = some (st', S', h')) (kk : zKK D cA B ro p l e R s m args below meth c cells slots Q S S' h' (pc + 1) real st') : W p l e R s m args below meth c H locs cells slots Q (F0 m pc real ((Value.int x :: Value.int i :: Value.ref k :: r).map (z_rv (z_ad B ro)))) := by
  obtain ⟨hx, hb, hml, hown, hts, hnm, hK, hRO, hBs⟩ := C
  refine z_ast_ok hI (fun ty hty n hn hin kw => ?_) hz kk
  cases List.mem_singleton.mp hty
  rw [if_neg (by decide)] at kw
  exact va_cast hx hb hK hI.1 z_wD hI.2 k 3 (z_w_at hn) rfl hin hd (fun H1 locs1 hP1 hD1 hS1 => kw H1 locs1 hP1 hS1)
theorem z_aln_ok {k : Nat} (C : z_Cx D cA B ro X p s m args meth c em) (hI : z_In D cA B ro s S h H locs) (hd : decode em.2.1 pc = .ok (.arraylength, 1)) (hz : z_aln k r X S h = some (st', S', h')) (kk : zKK D cA B ro p l e R s m args below meth c cells slots Q S S' h' (pc + 1) real st') : W p l e R s m args below meth c H locs cells slots Q (F0 m pc real ((Value.ref k :: r).map (z_rv (z_ad B ro)))) := by
  obtain ⟨hx, hb, hml, hown, hts, hnm, hK, hRO, hBs⟩ := C
  unfold z_aln at hz
  show W p l e R s m args below meth c H locs cells slots Q (F0 m pc real (.ref (z_ad B ro k) :: r.map (z_rv (z_ad B ro))))
  split at hz
  · next hk =>
    rw [z_ad_lo hk]
    split at hz
    · next ty n hn =>
      split at hz
      · next hc =>
        cases hz
        simp only [List.mem_cons, List.not_mem_nil, or_false] at hc
        have kw := kk H locs cells slots (by omega) (by omega) hI
        rcases hc with rfl | rfl | rfl | rfl
        · exact va_alen hx hb hK hI.1 k 0 (z_w_at hn) rfl rfl hd kw
        · exact va_alen hx hb hK hI.1 k 1 (z_w_at hn) rfl rfl hd kw
        · exact va_alen hx hb hK hI.1 k 2 (z_w_at hn) rfl rfl hd kw
        · exact va_alen hx hb hK hI.1 k 3 (z_w_at hn) rfl rfl hd kw
      · cases hz
    · cases hz
  · next hk =>
    rw [z_ad_hi hk, show ro k = ro (100000 + (k - 100000)) from congrArg ro (Nat.add_sub_of_le (Nat.not_lt.mp hk)).symm]
    split at hz
    · next ty li hli =>
      cases hz
      exact va_tlen hx hb (hRO.1 _ _ _ hli) hI.2 rfl hd (kk H locs cells slots (by omega) (by omega) hI)
    · cases hz
theorem z_aal_ok {i : Int32} {k : Nat} (C : z_Cx D cA B ro X p s m args meth c em) (hI : z_In D cA B ro s S h H locs) (hd : decode em.2.1 pc = .ok (.aaload, 1)) (hz : z_aal i k r S h = some (st', S', h')) (kk : zKK D cA B ro p l e R s m args below meth c cells slots Q S S' h' (pc + 1) real st') : W p l e R s m args below meth c H locs cells slots Q (F0 m pc real ((Value.int i :: Value.ref k :: r).map (z_rv (z_ad B ro)))) := by
  obtain ⟨hx, hb, hml, hown, hts, hnm, hK, hRO, hBs⟩ := C
  unfold z_aal at hz
  show W p l e R s m args below meth c H locs cells slots Q (F0 m pc real (.int i :: .ref (z_ad B ro k) :: r.map (z_rv (z_ad B ro))))
  split at hz
  · next hk =>
    rw [z_ad_lo hk]
    split at hz
    · next ty rs hn =>
      split at hz
      · next hc =>
        cases hz
        obtain ⟨hc, hin⟩ := hc
        simp only [z_rty, List.mem_cons, List.not_mem_nil, or_false] at hc
        have kw := kk H locs cells slots (by omega) (by omega) hI
        have e1 : (z_rf (rs.getD i.toNatClampNeg none) :: r).map (z_rv (z_ad B ro)) = va_rf ((rs.getD i.toNatClampNeg none).map (z_ad B ro)) :: r.map (z_rv (z_ad B ro)) := by
          rw [List.map_cons, z_rv_rf]
        rw [e1] at kw
        rcases hc with rfl | rfl
        · exact va_aldq hx hb hK hI.1 k 4 (z_w_at (z_rar_ok hn)) rfl hin hd kw
        · exact va_aldq hx hb hK hI.1 k 5 (z_w_at (z_rar_ok hn)) rfl hin hd kw
      · cases hz
    · cases hz
  · cases hz
theorem z_rset {f : Nat → Nat} {rs : List (Option Nat)} {i v : Nat} (hi : i < rs.length) : (fun j => ((rs.set i (some v)).getD j none).map f) = va_up (fun j => (rs.getD j none).map f) i (some (f v)) := by
  funext j
  by_cases hj : j = i
  · subst hj
    simp [va_up, List.getD_eq_getElem?_getD, List.getElem?_set_self hi]
  · simp [va_up, hj, List.getD_eq_getElem?_getD, List.getElem?_set_ne (fun q => hj q.symm)]
theorem z_aas_ok {i : Int32} {k v : Nat} (C : z_Cx D cA B ro X p s m args meth c em) (hI : z_In D cA B ro s S h H locs) (hd : decode em.2.1 pc = .ok (.aastore, 1)) (hz : z_aas v i k r S h = some (st', S', h')) (kk : zKK D cA B ro p l e R s m args below meth c cells slots Q S S' h' (pc + 1) real st') : W p l e R s m args below meth c H locs cells slots Q (F0 m pc real ((Value.ref v :: Value.int i :: Value.ref k :: r).map (z_rv (z_ad B ro)))) := by
  obtain ⟨hx, hb, hml, hown, hts, hnm, hK, hRO, hBs⟩ := C
  unfold z_aas at hz
  show W p l e R s m args below meth c H locs cells slots Q (F0 m pc real (.ref (z_ad B ro v) :: .int i :: .ref (z_ad B ro k) :: r.map (z_rv (z_ad B ro))))
  split at hz
  · next hk =>
    rw [z_ad_lo hk.1, z_ad_lo hk.2]
    split at hz
    · next ty rs ci fs hn hv =>
      split at hz
      · next hc =>
        cases hz
        obtain ⟨hc1, hc2, hin⟩ := hc
        have hSv := z_obj_ok hv
        have hSk := z_rar_ok hn
        obtain ⟨q, hq, -⟩ := hI.1 v _ (z_w_at hSv)
        have hlt : i.toNatClampNeg < rs.length := Nat.not_le.mp fun q => hin (Or.inr q)
        have hsl : (S.set k (.inr (.inl (ty, rs.set i.toNatClampNeg (some v))))).length = S.length := List.length_set ..
        have hst : z_tot (S.set k (.inr (.inl (ty, rs.set i.toNatClampNeg (some v))))) = z_tot S := z_tot_set hSk (by simp [z_sz])
        have kw : ∀ (H1 : Heap) (locs1 : List Loc), va_P D z_cls ((z_w cA (z_ad B ro) B S h).set k (B + k, .inl (cA ty, rs.length, .inr (.inr (.inr (.inr (va_up (fun j => (rs.getD j none).map (z_ad B ro)) i.toNatClampNeg (some (B + v))))))))) H1 → va_S (fun q => B ≤ q) s.heap H1 locs1 → W p l e R s m args below meth c H1 locs1 cells slots Q (F0 m (pc + 1) real (st'.map (z_rv (z_ad B ro)))) := by
          intro H1 locs1 hP1 hS1
          refine kk H1 locs1 cells slots (by rw [hsl]; omega) (by rw [hst]; omega) ⟨?_, hS1⟩
          have e9 : (z_w cA (z_ad B ro) B S h).set k (B + k, Sum.inl (cA ty, rs.length, Sum.inr (Sum.inr (Sum.inr (Sum.inr (va_up (fun j => (rs.getD j none).map (z_ad B ro)) i.toNatClampNeg (some (B + v)))))))) = z_w cA (z_ad B ro) B (S.set k (.inr (.inl (ty, rs.set i.toNatClampNeg (some v))))) h := by
            refine z_w_setS hSk ?_
            simp only [z_cell]
            rw [z_rset hlt, z_ad_lo hk.2, List.length_set]
          rw [e9] at hP1
          exact hP1
        simp only [z_rty, List.mem_cons, List.not_mem_nil, or_false] at hc2
        have hqn : q.1 = z_ow ci := z_nm hq
        rcases hc2 with rfl | rfl
        · exact va_astq (r := q) hx hb hK hI.1 z_wD hI.2 k 4 v ci (z_w_at hSk) (by rw [hqn, ← hc1]; rfl) (z_w_at hSv) hq hin hd (fun H1 locs1 hP1 hD1 hS1 => kw H1 locs1 hP1 hS1)
        · exact va_astq (r := q) hx hb hK hI.1 z_wD hI.2 k 5 v ci (z_w_at hSk) (by rw [hqn, ← hc1]; rfl) (z_w_at hSv) hq hin hd (fun H1 locs1 hP1 hD1 hS1 => kw H1 locs1 hP1 hS1)
      · cases hz
    · cases hz
  · cases hz
theorem z_sum_rv {f : Nat → Nat} (r : List Value) : ((r.map (z_rv f)).map fun v => v.category).sum = z_sum r := by
  unfold z_sum
  rw [List.map_map]
  congr 1
  apply List.map_congr_left
  intro v _
  exact z_rv_cat _ v
theorem z_copy_ok {n dp sp : Int32} {a b idx : Nat} (C : z_Cx D cA B ro X p s m args meth c em) (hI : z_In D cA B ro s S h H locs) (hd : decode em.2.1 pc = .ok (.invokestatic idx, 3)) (hY : z_isY em.2.2.2.2.1 idx = true) (hsize : real.size = em.2.2.1) (hfr : 1 ≤ R.frames) (hlo : 40 ≤ R.locals) (hr : z_sum r ≤ 8) (hz : z_copy n dp b sp a r S h = some (st', S', h')) (kk : zKK D cA B ro p l e R s m args below meth c cells slots Q S S' h' (pc + 3) real st') : W p l e R s m args below meth c H locs cells slots Q (F0 m pc real ((Value.int n :: Value.int dp :: Value.ref b :: Value.int sp :: Value.ref a :: r).map (z_rv (z_ad B ro)))) := by
  obtain ⟨hx, hb, hml, hown, hts, hnm, hK, hRO, hBs⟩ := C
  have hsum : ((r.map (z_rv (z_ad B ro))).map fun v => v.category).sum = z_sum r := z_sum_rv r
  unfold z_copy at hz
  show W p l e R s m args below meth c H locs cells slots Q (F0 m pc real (.int n :: .int dp :: .ref (z_ad B ro b) :: .int sp :: .ref (z_ad B ro a) :: r.map (z_rv (z_ad B ro))))
  split at hz
  · next hk =>
    rw [z_ad_lo hk.1, z_ad_lo hk.2]
    split at hz
    · next t0 n0 t1 n1 ha hbb =>
      split at hz
      · next hc =>
        cases hz
        obtain ⟨rfl, rfl, h1, h2, h3, h4, h5⟩ := hc
        refine va_copyi (ty := .int) hx hb (by rw [hml, hsize]) hown (hts _ (z_isY_ok hY)) (hts _ z_yn) (hts _ z_ys) (hts _ z_yi) hK hI.1 z_wD hI.2 a b 0 0 (z_w_at (z_arr_ok ha)) (z_w_at (z_arr_ok hbb)) rfl rfl rfl h1 h2 h3 h4 h5 (fun _ _ => rfl) hfr ?_ hd (fun H1 locs1 hP1 hD1 hS1 => kk H1 locs1 cells slots (by omega) (by omega) ⟨?_, hS1⟩)
        · rw [hsum]
          have : nativeFrameWords "java/lang/System" "arraycopy" 5 ≤ 21 := by decide +kernel
          omega
        · have e9 : (z_w cA (z_ad B ro) B S h).set b (B + b, Sum.inl (cA .int, n1, Sum.inl (va_cpy (h a) (h b) sp.toNatClampNeg dp.toNatClampNeg n.toNatClampNeg))) = z_w cA (z_ad B ro) B S (z_cpy h a b sp.toNatClampNeg dp.toNatClampNeg n.toNatClampNeg) := z_w_seth (z_arr_ok hbb) (by simp only [z_cell, z_cpy, if_pos]) (fun q hq => if_neg hq)
          rw [e9] at hP1
          exact hP1
      · cases hz
    · cases hz
  · cases hz
end ZARR
end
section
section ZNEW
variable {D : va_G} {cA : FieldType → ClassId} {B : Nat} {ro : Nat → Nat} {X : Option (List Int32)}
variable {p : Program} {l : Launch} {e : Env} {R : Room} {s : State} {m : MethodId} {args : Array Value} {below : List Frame} {meth : Method} {c : Code} {H : Heap} {locs : List Loc} {cells slots : Nat} {Q : State → Prop} {em : zM}
variable {S S' : zS} {h h' : zH} {st' r : List Value} {pc : Nat} {real : Array Slot}
theorem z_size {g : JFrame} (hcn : s.heap.size + cells = B + S.length) (hBs : B ≤ s.heap.size) (hI : z_In D cA B ro s S h H locs) (k : H.size = B + S.length → W p l e R s m args below meth c H locs cells slots Q g) : W p l e R s m args below meth c H locs cells slots Q g := by
  intro T hT X
  refine k ?_ T hT X
  have h1 := X.heapSize
  rw [hT] at h1
  have h2 : B + S.length ≤ H.size := by
    by_cases h0 : S.length = 0
    · have := hI.2.1
      omega
    · have h3 : S[S.length - 1]? = some (S[S.length - 1]'(by omega)) := List.getElem?_eq_getElem (by omega)
      have h4 := (hI.1 _ _ (z_w_at h3)).lt
      dsimp only at h4
      omega
  omega
/-- a cell more: what holds of the world then -/
theorem z_grow {H1 : Heap} {cn : zC} (hI : z_In D cA B ro s S h H locs) (hsz : H.size = B + S.length) (z1 : H1.size = H.size + 1) (o1 : ∀ q, q < H.size → H1[q]? = H[q]?) (ho : ∀ q, q < S.length → h' q = h q) (hn : va_at D z_cls (B + S.length, z_cell cA (z_ad B ro) h' S.length cn) H1) : z_In D cA B ro s (S ++ [cn]) h' H1 locs := by
  obtain ⟨hP, hS⟩ := hI
  refine ⟨?_, Nat.le_trans hS.1 (by omega), fun x h1 h2 => (o1 x (Nat.lt_of_lt_of_le h1 hS.1)).trans (hS.2.1 x h1 h2), hS.2.2⟩
  rw [z_w_push ho]
  refine (hP.kept (fun k x hx => o1 x.1 ((hP k x hx).lt))).app (fun k x hx => ?_)
  have hz : k < 1 := (List.getElem?_eq_some_iff.mp hx).1
  rw [show k = 0 by omega] at hx
  cases hx
  exact hn
theorem z_newa_one {t : ArrayType} {ty : FieldType} {t0 : Nat} {n : Int32} (C : z_Cx D cA B ro X p s m args meth c em) (hI : z_In D cA B ro s S h H locs) (hcn : s.heap.size + cells = B + S.length) (hd : decode em.2.1 pc = .ok (.newarray t, 2)) (hty : newarray.typeOf t = ty) (hac : Cond.arrayClass ty ∈ z_tbl) (ht : (z_tys cA)[t0]? = some (cA ty, ty)) (hra : va_RA s (cA ty) ty = (s.vm.findClass ("[" ++ ty.toString) = some (cA ty))) (hdv : defaultValue ty = .int 0) (hcb : componentBytes ty ≤ 8)
    (hn : ¬ n < 0) (hN : n.toNatClampNeg ≤ 100000) (hS : S.length < 100000) (hroom : cells + 1 ≤ R.cells ∧ slots + n.toNatClampNeg ≤ R.slots) (kk : zKK D cA B ro p l e R s m args below meth c cells slots Q S (S ++ [.inl (ty, n.toNatClampNeg)]) (z_zero h S.length) (pc + 2) real (.ref S.length :: r)) : W p l e R s m args below meth c H locs cells slots Q (F0 m pc real ((Value.int n :: r).map (z_rv (z_ad B ro)))) := by
  obtain ⟨hx, hb, hml, hown, hts, hnm, hK, hRO, hBs⟩ := C
  refine z_size hcn hBs hI (fun hsz => ?_)
  subst hty
  refine va_newaK hx hb (hts _ hac) rfl hd rfl hn rfl ?_ hroom.1 hroom.2 rfl fun H1 cA' e1 z1 o1 hAr hNm => ?_
  · have h2 : n.toNatClampNeg * componentBytes (newarray.typeOf t) ≤ 100000 * 8 := Nat.mul_le_mul hN hcb
    omega
  · have hca : cA' = cA (newarray.typeOf t) := by
      have h1 := (hK.2 t0 _ ht).2
      dsimp only at h1
      rw [hra] at h1
      exact Option.some.inj (hNm.symm.trans h1)
    subst hca
    have kw := kk H1 locs (cells + 1) (slots + n.toNatClampNeg) (by simp) (by rw [z_tot_push]; simp [z_sz]) (z_grow (cn := .inl (newarray.typeOf t, n.toNatClampNeg)) (h' := z_zero h S.length) hI hsz z1 o1 (fun q hq => if_neg (Nat.ne_of_lt hq)) ?_)
    · have e2 : (Value.ref S.length :: r).map (z_rv (z_ad B ro)) = .ref H.size :: r.map (z_rv (z_ad B ro)) := by
        show Value.ref (z_ad B ro S.length) :: _ = _
        rw [z_ad_lo hS, hsz]
      rw [e2] at kw
      exact kw
    · show H1[B + S.length]? = some (vp_cell _ (_, .inl (z_zero h S.length S.length)))
      rw [← hsz, e1, vp_cell_i, hdv]
      simp [z_zero]
theorem z_newa_ok {t : ArrayType} {n : Int32} (C : z_Cx D cA B ro X p s m args meth c em) (hI : z_In D cA B ro s S h H locs) (hcn : s.heap.size + cells = B + S.length) (hd : decode em.2.1 pc = .ok (.newarray t, 2)) (hz : z_newa (newarray.typeOf t) n r S h = some (st', S', h')) (hroom : cells + (S'.length - S.length) ≤ R.cells ∧ slots + (z_tot S' - z_tot S) ≤ R.slots) (kk : zKK D cA B ro p l e R s m args below meth c cells slots Q S S' h' (pc + 2) real st') : W p l e R s m args below meth c H locs cells slots Q (F0 m pc real ((Value.int n :: r).map (z_rv (z_ad B ro)))) := by
  unfold z_newa at hz
  split at hz
  · next hc =>
    cases hz
    obtain ⟨hty, hn, hN, hS⟩ := hc
    have hac := z_ac _ hty
    rw [z_tot_push] at hroom
    have hroom' : cells + 1 ≤ R.cells ∧ slots + n.toNatClampNeg ≤ R.slots := by
      simp [z_sz] at hroom
      omega
    generalize hte : newarray.typeOf t = ty at *
    simp only [List.mem_cons, List.not_mem_nil, or_false] at hty
    rcases hty with rfl | rfl | rfl | rfl
    · exact z_newa_one (t0 := 0) C hI hcn hd hte hac rfl rfl rfl (by decide) hn hN hS hroom' kk
    · exact z_newa_one (t0 := 1) C hI hcn hd hte hac rfl rfl rfl (by decide) hn hN hS hroom' kk
    · exact z_newa_one (t0 := 2) C hI hcn hd hte hac rfl rfl rfl (by decide) hn hN hS hroom' kk
    · exact z_newa_one (t0 := 3) C hI hcn hd hte hac rfl rfl rfl (by decide) hn hN hS hroom' kk
  · cases hz
theorem z_newq_one {idx t0 : Nat} {n : Int32} {Cn : String} (C : z_Cx D cA B ro X p s m args meth c em) (hI : z_In D cA B ro s S h H locs) (hcn : s.heap.size + cells = B + S.length) (hd : decode em.2.1 pc = .ok (.anewarray idx, 3)) (hlk : Cond.classLink (z_ow em.2.2.2.2.1) idx Cn ∈ z_tbl) (hao : va_AO Cn s) (ht : (z_tys cA)[t0]? = some (cA (.object Cn), .object Cn))
    (hn : ¬ n < 0) (hN : n.toNatClampNeg ≤ 100000) (hS : S.length < 100000) (hroom : cells + 1 ≤ R.cells ∧ slots + n.toNatClampNeg ≤ R.slots) (kk : zKK D cA B ro p l e R s m args below meth c cells slots Q S (S ++ [.inr (.inl (.object Cn, List.replicate n.toNatClampNeg none))]) h (pc + 3) real (.ref S.length :: r)) : W p l e R s m args below meth c H locs cells slots Q (F0 m pc real ((Value.int n :: r).map (z_rv (z_ad B ro)))) := by
  obtain ⟨hx, hb, hml, hown, hts, hnm, hK, hRO, hBs⟩ := C
  refine z_size hcn hBs hI (fun hsz => ?_)
  refine W.anew hx hb hown (hts _ hlk) (va_AO.use hao) rfl hd rfl hn (by omega) hroom.1 hroom.2 fun cA' kA comp f1 f2 f3 f4 => ?_
  generalize hH1 : H.push ({ cls := cA', slots := Array.replicate n.toNatClampNeg .null, vm := .none } : Cell) = H1
  have z1 : H1.size = H.size + 1 := by rw [← hH1, Array.size_push]
  have e1 : H1[H.size]? = some (arrV cA' n.toNatClampNeg (fun _ => .null)) := by rw [← hH1, Array.getElem?_push_size, ← arrV_new]
  have o1 : ∀ q : Nat, q < H.size → H1[q]? = H[q]? := fun q hq => by rw [← hH1, Array.getElem?_push, if_neg (Nat.ne_of_lt hq)]
  have hca : cA' = cA (.object Cn) := by
    obtain ⟨kA2, comp2, k1, k2, k3, k4⟩ := (hK.2 t0 _ ht).2
    exact Option.some.inj (f1.symm.trans k4)
  subst hca
  have kw := kk H1 locs (cells + 1) (slots + n.toNatClampNeg) (by simp) (by rw [z_tot_push]; simp [z_sz]) (z_grow (cn := .inr (.inl (.object Cn, List.replicate n.toNatClampNeg none))) (h' := h) hI hsz z1 o1 (fun q hq => rfl) ?_)
  · have e2 : (Value.ref S.length :: r).map (z_rv (z_ad B ro)) = .ref H.size :: r.map (z_rv (z_ad B ro)) := by
      show Value.ref (z_ad B ro S.length) :: _ = _
      rw [z_ad_lo hS, hsz]
    rw [e2] at kw
    exact kw
  · show H1[B + S.length]? = some (vp_cell _ ((List.replicate n.toNatClampNeg none).length, .inr (.inr (.inr (.inr (fun j => ((List.replicate n.toNatClampNeg (none : Option Nat)).getD j none).map (z_ad B ro)))))))
    rw [← hsz, e1, vp_cell_q, List.length_replicate]
    congr 2
    funext j
    have : (List.replicate n.toNatClampNeg (none : Option Nat)).getD j none = none := by
      rw [List.getD_eq_getElem?_getD, List.getElem?_replicate]
      split <;> rfl
    rw [this]
    rfl
theorem z_newq_ok {idx : Nat} {n : Int32} (C : z_Cx D cA B ro X p s m args meth c em) (hI : z_In D cA B ro s S h H locs) (hcn : s.heap.size + cells = B + S.length) (hd : decode em.2.1 pc = .ok (.anewarray idx, 3)) (hz : z_newq em.2.2.2.2.1 idx n r S h = some (st', S', h')) (hroom : cells + (S'.length - S.length) ≤ R.cells ∧ slots + (z_tot S' - z_tot S) ≤ R.slots) (kk : zKK D cA B ro p l e R s m args below meth c cells slots Q S S' h' (pc + 3) real st') : W p l e R s m args below meth c H locs cells slots Q (F0 m pc real ((Value.int n :: r).map (z_rv (z_ad B ro)))) := by
  unfold z_newq at hz
  split at hz
  · next Cn hCn =>
    split at hz
    · next hc =>
      cases hz
      obtain ⟨hty, hn, hN, hS⟩ := hc
      have hlk := z_cln_ok hCn
      rw [z_tot_push] at hroom
      have hroom' : cells + 1 ≤ R.cells ∧ slots + n.toNatClampNeg ≤ R.slots := by
        simp [z_sz] at hroom
        omega
      have hRO := C.2.2.2.2.2.2.2.1
      simp only [List.mem_cons, List.not_mem_nil, or_false] at hty
      rcases hty with rfl | rfl
      · exact z_newq_one (t0 := 4) C hI hcn hd hlk hRO.2.2.2.2.2.1 rfl hn hN hS hroom' kk
      · exact z_newq_one (t0 := 5) C hI hcn hd hlk hRO.2.2.2.2.2.2 rfl hn hN hS hroom' kk
    · cases hz
  · cases hz
theorem z_ref_dv {t : FieldType} (ht : z_okT t = true) : defaultValue t = .null := by
  cases t <;> first | (cases ht; done) | rfl
theorem z_newc_ok {idx : Nat} (C : z_Cx D cA B ro X p s m args meth c em) (hI : z_In D cA B ro s S h H locs) (hcn : s.heap.size + cells = B + S.length) (hd : decode em.2.1 pc = .ok (.new idx, 3)) (hz : z_newc em.2.2.2.2.1 idx r S h = some (st', S', h')) (hroom : cells + (S'.length - S.length) ≤ R.cells ∧ slots + (z_tot S' - z_tot S) ≤ R.slots) (kk : zKK D cA B ro p l e R s m args below meth c cells slots Q S S' h' (pc + 3) real st') : W p l e R s m args below meth c H locs cells slots Q (F0 m pc real (r.map (z_rv (z_ad B ro)))) := by
  obtain ⟨hx, hb, hml, hown, hts, hnm, hK, hRO, hBs⟩ := C
  refine z_size hcn hBs hI (fun hsz => ?_)
  unfold z_newc at hz
  split at hz
  · next Cn hCn =>
    split at hz
    · next ci hci =>
      split at hz
      · next hS =>
        cases hz
        have hlk := z_cln_ok hCn
        have hlt : ci < 13 := List.mem_range.mp (List.mem_of_find?_eq_some hci)
        have hnmC : z_ow ci = Cn := by
          have h0 := List.find?_some hci
          exact eq_of_beq h0
        obtain ⟨q, hq⟩ : ∃ q, z_cls[ci]? = some q := ⟨_, List.getElem?_eq_getElem (show ci < z_cls.length from hlt)⟩
        obtain ⟨o1, o2, o3, o4, o5, o6, o7, o8⟩ := z_cls_ok hq
        have hqn : q.1 = Cn := (z_nm hq).trans hnmC
        have hKn := hK.1 ci _ hq
        rw [z_tot_push] at hroom
        have hroom' : cells + 1 ≤ R.cells ∧ slots + q.2.2 ≤ R.slots := by
          simp [z_sz, o7] at hroom
          omega
        refine W.newcK (C := q.1) (n := q.2.2) hx hb hown (by rw [hqn]; exact hts _ hlk) (hts _ o4) (hts _ o5) rfl hd hroom'.1 hroom'.2 hKn.2.1 rfl fun H1 kC hkC e1 z1 oq => ?_
        have kw := kk H1 locs (cells + 1) (slots + q.2.2) (by simp) (by rw [z_tot_push]; simp [z_sz, o7]) (z_grow (cn := .inr (.inr (ci, z_df ci))) (h' := z_zero h S.length) hI hsz z1 oq (fun q hq => if_neg (Nat.ne_of_lt hq)) ?_)
        · have e2 : (Value.ref S.length :: r).map (z_rv (z_ad B ro)) = .ref H.size :: r.map (z_rv (z_ad B ro)) := by
            show Value.ref (z_ad B ro S.length) :: _ = _
            rw [z_ad_lo hS, hsz]
          rw [e2] at kw
          exact kw
        · refine ⟨q, hq, ?_⟩
          rw [hsz] at e1
          refine (u_born (z_fty ci) hts o1 hKn hkC e1 o3).to (fun j hj => ?_)
          unfold vp_V
          rw [List.getD_eq_getElem?_getD, List.getElem?_mapIdx]
          rcases o8 j hj with ⟨h1, -, h3⟩ | ⟨h1, -, h3⟩
          · rw [h3, h1]
            simp [z_fv, z_zero]
            rfl
          · rw [h3, z_ref_dv h1]
            rfl
      · cases hz
    · cases hz
  · cases hz
end ZNEW
end
section
section ZMM
variable {D : va_G} {cA : FieldType → ClassId} {B : Nat} {ro : Nat → Nat} {X : Option (List Int32)}
variable {p : Program} {l : Launch} {e : Env} {R : Room} {s : State} {m : MethodId} {args : Array Value} {below : List Frame} {meth : Method} {c : Code} {H : Heap} {locs : List Loc} {cells slots : Nat} {Q : State → Prop} {em : zM}
variable {S S' : zS} {h h' : zH} {st st' r : List Value} {pc : Nat} {real : Array Slot}
theorem z_sno_ok {own idx i : Nat} (hz : z_sno own idx = some i) : ∃ e ∈ z_sT, e.1 = own ∧ e.2.1 = idx ∧ e.2.2.1 = i := by
  unfold z_sno at hz
  split at hz
  · next e he =>
    obtain ⟨h1, h2, h3⟩ := z_find he
    cases hz
    exact ⟨e, h1, h2, h3, rfl⟩
  · cases hz
theorem z_same (hI : z_In D cA B ro s S h H locs) (kk : zKK D cA B ro p l e R s m args below meth c cells slots Q S S h pc real st') : W p l e R s m args below meth c H locs cells slots Q (F0 m pc real (st'.map (z_rv (z_ad B ro)))) := kk H locs cells slots (by omega) (by omega) hI
set_option maxHeartbeats 4000000 in
theorem z_mem_ok {ins : Instr} {len d : Nat} (C : z_Cx D cA B ro X p s m args meth c em) (hI : z_In D cA B ro s S h H locs) (hcn : s.heap.size + cells = B + S.length) (hd : decode em.2.1 pc = .ok (ins, len)) (hsize : real.size = em.2.2.1) (hfr : d ≤ R.frames) (hlo : 40 * d ≤ R.locals) (hz : z_mem X d em.2.2.2.2.1 (decide (em.1.name = "<init>")) ins len st S h = some (st', S', h')) (hroom : cells + (S'.length - S.length) ≤ R.cells ∧ slots + (z_tot S' - z_tot S) ≤ R.slots) (kk : zKK D cA B ro p l e R s m args below meth c cells slots Q S S' h' (pc + len) real st') : W p l e R s m args below meth c H locs cells slots Q (F0 m pc real (st.map (z_rv (z_ad B ro)))) := by
  have C' := C
  obtain ⟨hx, hb, hml, hown, hts, hnm, hK, hRO, hBs⟩ := C
  unfold z_mem at hz
  split at hz
  · -- getfield
    split at hz
    · split at hz
      · next hl => subst hl; exact z_getf_ok C' hI hd hz kk
      · cases hz
    · cases hz
  · -- putfield
    split at hz
    · split at hz
      · next hl => subst hl; exact z_putf_ok C' hI hd hz kk
      · cases hz
    · cases hz
  · -- getstatic
    split at hz
    · next v hv =>
      split at hz
      · next hl =>
        subst hl
        cases hz
        obtain ⟨i, q, hq, rfl, hlk⟩ := z_sta_ok hv
        exact va_gets hx hb (hRO.2.1 i q hq) hI.2 hown (hts _ hlk) (fun _ h => h) hd (z_same hI kk)
      · cases hz
    · cases hz
  · -- ldc
    split at hz
    · next hl =>
      subst hl
      split at hz
      · next v hv =>
        cases hz
        exact lv_ldc hx hb hown (hts _ ((z_con_ok hv).1 v rfl)) hd (z_same hI kk)
      · cases hz
      · split at hz
        · next i hi =>
          cases hz
          obtain ⟨e1, he, e2, e3, e4⟩ := z_sno_ok hi
          have hR := hRO.2.2.2.1 e1 he
          rw [e2, e3, e4] at hR
          have kw := z_same hI kk
          have e5 : (Value.ref (100100 + i) :: st).map (z_rv (z_ad B ro)) = .ref (ro (100100 + i)) :: st.map (z_rv (z_ad B ro)) := by
            show Value.ref (z_ad B ro (100100 + i)) :: _ = _
            rw [z_ad_hi (by omega)]
          rw [e5] at kw
          exact va_ldcS hx hb hown hR hd kw
        · cases hz
    · cases hz
  · -- ldc_w
    split at hz
    · next hl =>
      subst hl
      split at hz
      · next v hv =>
        cases hz
        exact lv_ldcw hx hb hown (hts _ ((z_con_ok hv).1 v rfl)) hd (z_same hI kk)
      · cases hz
    · cases hz
  · -- ldc2_w
    split at hz
    · next hl =>
      subst hl
      split at hz
      · next v hv =>
        cases hz
        exact lv_ldc2 hx hb hown (hts _ ((z_con_ok hv).2 v rfl)) hd (z_same hI kk)
      · cases hz
    · cases hz
  · -- iaload
    split at hz
    · split at hz
      · next hl => subst hl; exact z_iald_ok C' hI hd hz kk
      · cases hz
    · cases hz
  · split at hz
    · split at hz
      · next hl => subst hl; exact z_bald_ok C' hI hd hz kk
      · cases hz
    · cases hz
  · split at hz
    · split at hz
      · next hl => subst hl; exact z_cald_ok C' hI hd hz kk
      · cases hz
    · cases hz
  · -- iastore
    split at hz
    · split at hz
      · next hl => subst hl; exact z_iast_ok C' hI hd hz kk
      · cases hz
    · cases hz
  · split at hz
    · split at hz
      · next hl => subst hl; exact z_bast_ok C' hI hd hz kk
      · cases hz
    · cases hz
  · split at hz
    · split at hz
      · next hl => subst hl; exact z_cast_ok C' hI hd hz kk
      · cases hz
    · cases hz
  · -- arraylength
    split at hz
    · split at hz
      · next hl => subst hl; exact z_aln_ok C' hI hd hz kk
      · cases hz
    · cases hz
  · -- aaload
    split at hz
    · split at hz
      · next hl => subst hl; exact z_aal_ok C' hI hd hz kk
      · cases hz
    · cases hz
  · -- aastore
    split at hz
    · split at hz
      · next hl => subst hl; exact z_aas_ok C' hI hd hz kk
      · cases hz
    · cases hz
  · -- newarray
    split at hz
    · split at hz
      · next hl => subst hl; exact z_newa_ok C' hI hcn hd hz hroom kk
      · cases hz
    · cases hz
  · -- anewarray
    split at hz
    · split at hz
      · next hl => subst hl; exact z_newq_ok C' hI hcn hd hz hroom kk
      · cases hz
    · cases hz
  · -- new
    split at hz
    · next hl => subst hl; exact z_newc_ok C' hI hcn hd hz hroom kk
    · cases hz
  · -- Object's own beginning
    split at hz
    · next a r0 =>
      split at hz
      · next hl =>
        obtain ⟨rfl, hO, h1, h8⟩ := hl
        cases hz
        refine W.objInit hx hb hown (hts _ (z_isO_ok hO)) (hts _ z_oi) (hts _ z_oc) rfl (by rw [hml]; exact hsize) rfl hd (by omega) ?_ (z_same hI kk)
        show 2 * 0 + _ + 12 ≤ R.locals
        rw [z_sum_rv]
        omega
      · cases hz
    · cases hz
  · -- arraycopy
    split at hz
    · split at hz
      · next hl =>
        obtain ⟨rfl, hY, h1, h8⟩ := hl
        exact z_copy_ok C' hI hd hY hsize (by omega) (by omega) h8 hz kk
      · cases hz
    · cases hz
  · cases hz
end ZMM
/-! the heap never shrinks -/
def z_le (S S' : zS) : Prop := S.length ≤ S'.length ∧ z_tot S ≤ z_tot S'
theorem z_le.rf (S : zS) : z_le S S := ⟨Nat.le_refl _, Nat.le_refl _⟩
theorem z_le.tr {S S1 S2 : zS} (a : z_le S S1) (b : z_le S1 S2) : z_le S S2 := ⟨Nat.le_trans a.1 b.1, Nat.le_trans a.2 b.2⟩
theorem z_le.set {S : zS} {k : Nat} {c c' : zC} (hk : S[k]? = some c) (he : z_sz c' = z_sz c) : z_le S (S.set k c') := ⟨by rw [List.length_set]; exact Nat.le_refl _, by rw [z_tot_set hk he]; exact Nat.le_refl _⟩
theorem z_le.push (S : zS) (c : zC) : z_le S (S ++ [c]) := ⟨by simp, by rw [z_tot_push]; omega⟩
theorem z_getf_le {own idx k : Nat} {r st' : List Value} {S S' : zS} {h h' : zH} (hz : z_getf own idx k r S h = some (st', S', h')) : z_le S S' := by
  unfold z_getf at hz
  repeat' split at hz
  all_goals (first | (cases hz; done) | (cases hz; exact z_le.rf _))
theorem z_putf_le {own idx k : Nat} {v : Value} {i : Bool} {r st' : List Value} {S S' : zS} {h h' : zH} (hz : z_putf own i idx v k r S h = some (st', S', h')) : z_le S S' := by
  unfold z_putf at hz
  split at hz
  · split at hz
    · next ci j cj fs hfl hob =>
      split at hz
      · split at hz
        · split at hz
          · cases hz; exact z_le.rf _
          · cases hz
        · split at hz
          · cases hz
            exact z_le.set (z_obj_ok hob) (by simp [z_sz])
          · cases hz
        · cases hz
      · cases hz
    · cases hz
  · cases hz
theorem z_ald_le {tys : List FieldType} {i : Int32} {k : Nat} {X : Option (List Int32)} {r st' : List Value} {S S' : zS} {h h' : zH} (hz : z_ald tys i k r X S h = some (st', S', h')) : z_le S S' := by
  unfold z_ald at hz
  repeat' split at hz
  all_goals (first | (cases hz; done) | (cases hz; exact z_le.rf _))
theorem z_ast_le {tys : List FieldType} {x i : Int32} {k : Nat} {r st' : List Value} {S S' : zS} {h h' : zH} (hz : z_ast tys x i k r S h = some (st', S', h')) : z_le S S' := by
  unfold z_ast at hz
  split at hz
  · split at hz
    · split at hz
      · cases hz; exact z_le.rf _
      · cases hz
    · cases hz
  · cases hz
theorem z_aln_le {k : Nat} {X : Option (List Int32)} {r st' : List Value} {S S' : zS} {h h' : zH} (hz : z_aln k r X S h = some (st', S', h')) : z_le S S' := by
  unfold z_aln at hz
  repeat' split at hz
  all_goals (first | (cases hz; done) | (cases hz; exact z_le.rf _))
theorem z_aal_le {i : Int32} {k : Nat} {r st' : List Value} {S S' : zS} {h h' : zH} (hz : z_aal i k r S h = some (st', S', h')) : z_le S S' := by
  unfold z_aal at hz
  repeat' split at hz
  all_goals (first | (cases hz; done) | (cases hz; exact z_le.rf _))
theorem z_aas_le {i : Int32} {v k : Nat} {r st' : List Value} {S S' : zS} {h h' : zH} (hz : z_aas v i k r S h = some (st', S', h')) : z_le S S' := by
  unfold z_aas at hz
  split at hz
  · split at hz
    · next ty rs ci fs hn hv =>
      split at hz
      · cases hz
        exact z_le.set (z_rar_ok hn) (by simp [z_sz])
      · cases hz
    · cases hz
  · cases hz
theorem z_mem_le {X : Option (List Int32)} {d own len : Nat} {i : Bool} {ins : Instr} {st st' : List Value} {S S' : zS} {h h' : zH} (hz : z_mem X d own i ins len st S h = some (st', S', h')) : z_le S S' := by
  unfold z_mem at hz
  split at hz
  · repeat' split at hz
    all_goals (first | (cases hz; done) | exact z_getf_le hz)
  · repeat' split at hz
    all_goals (first | (cases hz; done) | exact z_putf_le hz)
  · repeat' split at hz
    all_goals (first | (cases hz; done) | (cases hz; exact z_le.rf _))
  · repeat' split at hz
    all_goals (first | (cases hz; done) | (cases hz; exact z_le.rf _))
  · repeat' split at hz
    all_goals (first | (cases hz; done) | (cases hz; exact z_le.rf _))
  · repeat' split at hz
    all_goals (first | (cases hz; done) | (cases hz; exact z_le.rf _))
  · repeat' split at hz
    all_goals (first | (cases hz; done) | exact z_ald_le hz)
  · repeat' split at hz
    all_goals (first | (cases hz; done) | exact z_ald_le hz)
  · repeat' split at hz
    all_goals (first | (cases hz; done) | exact z_ald_le hz)
  · repeat' split at hz
    all_goals (first | (cases hz; done) | exact z_ast_le hz)
  · repeat' split at hz
    all_goals (first | (cases hz; done) | exact z_ast_le hz)
  · repeat' split at hz
    all_goals (first | (cases hz; done) | exact z_ast_le hz)
  · repeat' split at hz
    all_goals (first | (cases hz; done) | exact z_aln_le hz)
  · repeat' split at hz
    all_goals (first | (cases hz; done) | exact z_aal_le hz)
  · repeat' split at hz
    all_goals (first | (cases hz; done) | exact z_aas_le hz)
  · repeat' split at hz
    all_goals (first | (cases hz; done) | (unfold z_newa at hz; split at hz <;> first | (cases hz; done) | (cases hz; exact z_le.push _ _)))
  · repeat' split at hz
    all_goals (first | (cases hz; done) | (unfold z_newq at hz; repeat' split at hz))
    all_goals (first | (cases hz; done) | (cases hz; exact z_le.push _ _))
  · repeat' split at hz
    all_goals (first | (cases hz; done) | (unfold z_newc at hz; repeat' split at hz))
    all_goals (first | (cases hz; done) | (cases hz; exact z_le.push _ _))
  · repeat' split at hz
    all_goals (first | (cases hz; done) | (cases hz; exact z_le.rf _))
  · repeat' split at hz
    all_goals (first | (cases hz; done) | (unfold z_copy at hz; repeat' split at hz))
    all_goals (first | (cases hz; done) | (cases hz; exact z_le.rf _))
  · cases hz
theorem z_x_le (X : Option (List Int32)) : ∀ (n d M pc : Nat) (ls : zL) (st : List Value) (S : zS) (h : zH) (r : Option Value) (S' : zS) (h' : zH), z_x X n d M pc ls st S h = some (r, S', h') → z_le S S'
  | 0, d, M, pc, ls, st, S, h, r, S', h', hz => by simp [z_x] at hz
  | n + 1, d, M, pc, ls, st, S, h, r, S', h', hz => by
    unfold z_x at hz
    split at hz
    · cases hz
    · split at hz
      · cases hz
      · split at hz
        · exact z_x_le X n _ _ _ _ _ _ _ _ _ _ hz
        · split at hz
          · next hm => exact (z_mem_le hm).tr (z_x_le X n _ _ _ _ _ _ _ _ _ _ hz)
          · split at hz
            · cases hz
              exact z_le.rf _
            · split at hz
              · split at hz
                · cases hz
                · split at hz
                  · split at hz
                    · next h1 => exact (z_x_le X n _ _ _ _ _ _ _ _ _ _ h1).tr (z_x_le X n _ _ _ _ _ _ _ _ _ _ hz)
                    · cases hz
                  · cases hz
              · cases hz
end
section
/-! the machine is sound: what it answers the real one answers -/
def z_Gd (D : va_G) (cA : FieldType → ClassId) (B : Nat) (ro : Nat → Nat) (X : Option (List Int32)) (S : zS) (h : zH) (U : State) : Prop :=
  U.heap.size = B + S.length ∧ va_P D z_cls (z_w cA (z_ad B ro) B S h) U.heap ∧ va_K D z_cls (z_tys cA) U ∧ z_RO X B ro U U.heap
def z_Qc (D : va_G) (cA : FieldType → ClassId) (B : Nat) (ro : Nat → Nat) (r : Option Value) (S : zS) (h : zH) : Array Value → State → Outcome → State → Prop := fun _ st oc t =>
  oc = .returned (r.map (z_rv (z_ad B ro))) ∧ va_P D z_cls (z_w cA (z_ad B ro) B S h) t.heap ∧ va_F (fun q => B ≤ q) st t
abbrev z_ws (em : zM) : List Cond := Cond.code em.1 em.2.1 em.2.2.1 em.2.2.2.1 :: z_tbl
def z_rm (d : Nat) (S S' : zS) : Room := { frames := d, cells := S'.length - S.length, slots := z_tot S' - z_tot S, locals := 40 * d }
theorem z_good {w : Cond} (h : w ∈ z_tbl) : (w.onTables && w.keeps) = true ∨ ∃ ty, w = .arrayClass ty := good_of_word (List.mem_filter.mp h).2
theorem z_goodIn {em : zM} (hO : z_okM em) : GoodIn z_tbl (z_ws em) := by
  intro w hw
  rcases List.mem_cons.mp hw with rfl | hw
  · exact ⟨hO.1, z_good hO.1⟩
  · exact ⟨hw, z_good hw⟩
def z_Snd (X : Option (List Int32)) (n : Nat) : Prop := ∀ (d M pc : Nat) (ls : zL) (st : List Value) (S : zS) (h : zH) (r : Option Value) (S' : zS) (h' : zH), z_x X n d M pc ls st S h = some (r, S', h') →
  ∀ em : zM, z_M[M]? = some em → ∀ (D : va_G) (cA : FieldType → ClassId) (B : Nat) (ro : Nat → Nat) (p : Program) (l : Launch) (e : Env) (R : Room) (s : State) (m : MethodId) (args : Array Value) (below : List Frame) (meth : Method) (c : Code) (H : Heap) (locs : List Loc) (cells slots : Nat) (Q : State → Prop) (real : Array Slot),
  z_Cx D cA B ro X p s m args meth c em → z_In D cA B ro s S h H locs → s.heap.size + cells = B + S.length → z_LV (z_ad B ro) ls real em.2.2.1 → d ≤ R.frames → 40 * d ≤ R.locals → (cells + (S'.length - S.length) ≤ R.cells ∧ slots + (z_tot S' - z_tot S) ≤ R.slots) →
  (∀ (H' : Heap) (locs' : List Loc) (cells' slots' pc' : Nat) (real' : Array Slot) (ins : Instr) (st' : List Value), cells' = cells + (S'.length - S.length) → slots' = slots + (z_tot S' - z_tot S) → z_In D cA B ro s S' h' H' locs' → decode em.2.1 pc' = .ok (ins, 1) → z_ret em.2.2.2.1 ins 1 st' = some r → W p l e R s m args below meth c H' locs' cells' slots' Q (F0 m pc' real' (st'.map (z_rv (z_ad B ro))))) →
  W p l e R s m args below meth c H locs cells slots Q (F0 m pc real (st.map (z_rv (z_ad B ro))))
theorem z_ret_len {ret : Option FieldType} {ins : Instr} {len : Nat} {st : List Value} {r : Option Value} (h : z_ret ret ins len st = some r) : len = 1 := by
  unfold z_ret at h
  repeat' split at h
  all_goals (first | (cases h; done) | (next hc => exact hc.1) | (next hc => exact hc))
theorem z_sl_len (f : Nat → Nat) : ∀ vs : List Value, (lg_sl (vs.map (z_rv f))).length = (z_sl vs).length
  | [] => rfl
  | v :: vs => by
    have ih := z_sl_len f vs
    simp only [lg_sl, z_sl, List.map_cons, List.flatMap_cons, List.length_append] at ih ⊢
    rw [ih, z_rv_cat]
    split <;> rfl
theorem z_sl_args (f : Nat → Nat) : ∀ (vs : List Value) (k i : Nat) (v : Value), (z_sl vs)[i]? = some (some v) → (k + i, z_rv f v) ∈ lv_args k (vs.map (z_rv f))
  | [], k, i, v, h => by simp [z_sl] at h
  | w :: vs, k, i, v, h => by
    have e0 : z_sl (w :: vs) = (if w.category = 2 then [some w, none] else [some w]) ++ z_sl vs := rfl
    rw [e0] at h
    show (k + i, z_rv f v) ∈ (k, z_rv f w) :: lv_args (if (z_rv f w).category = 2 then k + 2 else k + 1) (vs.map (z_rv f))
    rw [z_rv_cat]
    by_cases hc : w.category = 2
    · rw [if_pos hc] at h ⊢
      match i, h with
      | 0, h =>
        simp at h
        subst h
        exact List.mem_cons_self
      | 1, h => simp at h
      | i + 2, h =>
        have h2 : (z_sl vs)[i]? = some (some v) := by simpa using h
        have h3 := z_sl_args f vs (k + 2) i v h2
        rw [show k + (i + 2) = k + 2 + i by omega]
        exact List.mem_cons_of_mem _ h3
    · rw [if_neg hc] at h ⊢
      match i, h with
      | 0, h =>
        simp at h
        subst h
        exact List.mem_cons_self
      | i + 1, h =>
        have h2 : (z_sl vs)[i]? = some (some v) := by simpa using h
        have h3 := z_sl_args f vs (k + 1) i v h2
        rw [show k + (i + 1) = k + 1 + i by omega]
        exact List.mem_cons_of_mem _ h3
theorem z_ent_ok (f : Nat → Nat) (vs : List Value) {n : Nat} (hn : (z_sl vs).length ≤ n) : z_LV f (z_ent vs n) ((lg_sl (vs.map (z_rv f)) ++ List.replicate (n - (lg_sl (vs.map (z_rv f))).length) Slot.unset).toArray) n := by
  refine ⟨by unfold z_ent; simp; omega, z_lv_mono (lv_entry (vs.map (z_rv f)) (by rw [z_sl_len]; exact hn)) ?_⟩
  intro q hq
  obtain ⟨⟨i, v⟩, hi, rfl⟩ := List.mem_map.mp hq
  obtain ⟨-, hi⟩ := (z_prs_mem _ 0 i v).mp hi
  rw [Nat.sub_zero] at hi
  unfold z_ent at hi
  have h2 : (z_sl vs)[i]? = some (some v) := by
    by_cases hl : i < (z_sl vs).length
    · rw [List.getElem?_append_left hl] at hi
      exact hi
    · rw [List.getElem?_append_right (by omega), List.getElem?_replicate] at hi
      split at hi <;> cases hi
  have h3 := z_sl_args f vs 0 i v h2
  rw [Nat.zero_add] at h3
  exact h3
theorem z_met {X : Option (List Int32)} {n d M : Nat} {vs : List Value} {S S' : zS} {h h' : zH} {r : Option Value} {em : zM} (hS : z_Snd X n) (hM : M ≠ 0) (he : z_M[M]? = some em) (hl : (z_sl vs).length ≤ em.2.2.1) (hx : z_x X n d M 0 (z_ent vs em.2.2.1) [] S h = some (r, S', h')) (D : va_G) (cA : FieldType → ClassId) (B : Nat) (ro : Nat → Nat) (l : Launch) :
    Met l em.1 (z_ws em) (z_rm d S S') (va_Pc (vs.map (z_rv (z_ad B ro))) (z_Gd D cA B ro X S h)) (z_Qc D cA B ro r S' h') (S'.length - S.length) (z_tot S' - z_tot S) (fun q => B ≤ q) := by
  have hO := z_M_ok hM he
  refine va_MetF (cc := em.2.1) (maxL := em.2.2.1) (ret := em.2.2.2.1) hO.2.2.2.2.2.2 rfl ?_
  intro p e s m args below meth c s₁ Bd hml hv
  obtain ⟨rfl, hsz, hP, hK, hRO⟩ := hv
  have hexec := Bd.exec
  have hb := Bd.bytes
  have hr := Bd.returns
  have hts0 := atoms_spec (ws := z_ws em) Bd.pre
  have hts : ∀ w ∈ z_tbl, w.before (vs.map (z_rv (z_ad B ro))).toArray s = true := fun w hw => hts0 w (List.mem_cons_of_mem _ hw)
  have hown : s.vm.findClass (z_ow em.2.2.2.2.1) = some m.cls := by
    rw [← hO.2.2.2.1]
    exact findClass_of_methodNamed Bd.named
  have hlocks := Bd.notSynchronized
  have hnm : em.1.name = "<init>" → meth.name = "<init>" := fun h => ((name_of_methodNamed Bd.named Bd.method).1).trans h
  rw [lg_entry_eq]
  have hI : z_In D cA B ro s S h s.heap [] := ⟨hP, va_S.rf⟩
  refine hS d M 0 _ [] S h r S' h' hx em he D cA B ro p l e _ s m _ below meth c s.heap [] 0 0 _ _ ⟨hexec, hb, hml, hown, hts, hnm, hK, hRO, by omega⟩ hI (by omega) (z_ent_ok _ vs hl) (Nat.le_refl _) (Nat.le_refl _) ⟨by show 0 + _ ≤ S'.length - S.length; omega, by show 0 + _ ≤ z_tot S' - z_tot S; omega⟩ ?_
  intro H' locs' cells' slots' pc' real' ins st' hc1 hc2 hI' hd hret
  have hc3 : cells' = S'.length - S.length := by omega
  have hc4 : slots' = z_tot S' - z_tot S := by omega
  subst hc3
  subst hc4
  have hq : ∀ (o : Option Value), o = r → ∀ t : State, t.heap = H' → z_Qc D cA B ro r S' h' (vs.map (z_rv (z_ad B ro))).toArray s (.returned (o.map (z_rv (z_ad B ro)))) t := by
    intro o ho t ht
    subst ho
    exact ⟨rfl, by rw [ht]; exact hI'.1, hI'.2.F ht⟩
  unfold z_ret at hret
  split at hret
  · split at hret
    · next v ty hty =>
      split at hret
      · next hn =>
        cases hret
        exact W.zret hexec hb (hr.trans hty) hn.2 (fun t ht _ => hq _ rfl t ht) hI'.2.2.2 hd
      · cases hret
    · cases hret
  · split at hret
    · next v hty =>
      split at hret
      · cases hret
        exact W.lret hexec hb (hr.trans hty) (fun t ht _ => hq _ rfl t ht) hI'.2.2.2 hd
      · cases hret
    · cases hret
  · split at hret
    · next hty =>
      split at hret
      · cases hret
        exact W.vret hexec hb (hr.trans hty) (fun t ht _ => hq _ rfl t ht) hI'.2.2.2 hd
      · cases hret
    · cases hret
  · cases hret
section ZCALL
variable {D : va_G} {cA : FieldType → ClassId} {B : Nat} {ro : Nat → Nat} {X : Option (List Int32)}
variable {p : Program} {l : Launch} {e : Env} {R : Room} {s : State} {m : MethodId} {args : Array Value} {below : List Frame} {meth : Method} {c : Code} {H : Heap} {locs : List Loc} {cells slots : Nat} {Q : State → Prop} {em em' : zM}
variable {S S1 : zS} {h h1 : zH} {st rest vs : List Value} {r1 : Option Value} {pc : Nat} {real : Array Slot}
theorem z_callK {mc ms : Nat} {st0 : List Value} {a : Array Value} (hr : va_Run p l e R s m args below meth c H locs cells slots mc ms (F0 m pc real st0) (rest.map (z_rv (z_ad B ro))) (z_Qc D cA B ro r1 S1 h1 a) (fun q => B ≤ q)) (hI : z_In D cA B ro s S h H locs)
    (kk : ∀ (H1 : Heap) (locs1 : List Loc), z_In D cA B ro s S1 h1 H1 locs1 → W p l e R s m args below meth c H1 locs1 (cells + mc) (slots + ms) Q (F0 m (pc + 3) real ((r1.toList ++ rest).map (z_rv (z_ad B ro))))) : W p l e R s m args below meth c H locs cells slots Q (F0 m pc real st0) := by
  intro T hT X'
  obtain ⟨v, st₀, t, T', L, h0, X2, hL, e1, e2, ⟨hv, hp, hF⟩, st⟩ := hr T hT X'
  cases hv
  obtain ⟨hz, hk⟩ := hF
  rw [h0] at hz hk
  obtain ⟨hP, hS⟩ := hI
  obtain ⟨t2, a1, b1⟩ := kk T'.heap (locs ++ L) ⟨by rw [e1]; exact hp, ⟨Nat.le_trans hS.1 (by rw [e1]; exact hz), fun q h1 h2 => by rw [e1, hk q (Nat.lt_of_lt_of_le h1 hS.1) h2]; exact hS.2.1 q h1 h2, fun q hq => by
      rcases List.mem_append.mp hq with h | h
      · exact hS.2.2 q h
      · exact hL q h⟩⟩ T' rfl X2
  refine ⟨t2, st t2 ?_, b1⟩
  have e3 : ((r1.toList ++ rest).map (z_rv (z_ad B ro))) = (r1.map (z_rv (z_ad B ro))).toList ++ rest.map (z_rv (z_ad B ro)) := by
    cases r1 <;> simp
  rw [e3] at a1
  exact a1
theorem z_blind : FrameBlind (va_Pc (vs.map (z_rv (z_ad B ro))) (z_Gd D cA B ro X S h)) := by
  intro a U g mk hq
  obtain ⟨q0, q1, q2, q3, q4⟩ := hq
  exact ⟨q0, q1, q2, va_K.moved (u := U) (U := U.calling g mk a) (Vm.Alike.refl U.vm) q3, z_RO.same (s := U) rfl q4⟩
theorem z_gd (C : z_Cx D cA B ro X p s m args meth c em) (hI : z_In D cA B ro s S h H locs) (hsz : H.size = B + S.length) {U : State} (hU : U.heap = H) (hW : s.WarmedH U.vm) : z_Gd D cA B ro X S h U := by
  obtain ⟨hx, hb, hml, hown, hts, hnm, hK, hRO, hBs⟩ := C
  refine ⟨by rw [hU]; exact hsz, by rw [hU]; exact hI.1, va_K.moved hW.alike hK, ?_⟩
  rw [hU]
  exact (hRO.kept hI.2.2.1).warm hW
theorem z_cal_ok {own idx M kd n : Nat} (hz : z_cal own idx = some (M, kd, n)) : ∃ q ∈ z_cT, q.1 = own ∧ q.2.1 = idx ∧ q.2.2.1 = M ∧ q.2.2.2.1 = kd ∧ q.2.2.2.2.1 = n ∧ z_okQ q = true := by
  unfold z_cal at hz
  split at hz
  · next q he =>
    obtain ⟨h1, h2, h3⟩ := z_find he
    cases hz
    exact ⟨q, h1, h2, h3, rfl, rfl, rfl, List.all_eq_true.mp z_cT_ok q h1⟩
  · cases hz
theorem z_nm1_eq {M : Nat} (he : z_M[M]? = some em) : z_nm1 M = em.1 := by unfold z_nm1; rw [he]
/-- the words of a call -/
theorem z_calW {own idx M kd n : Nat} (hz : z_cal own idx = some (M, kd, n)) (he : z_M[M]? = some em) : M ≠ 0 ∧ (parseMethodDescriptor em.1.desc).map (fun d => d.parameters.length) = some n ∧
    (kd = 0 → Cond.methodLink (z_ow own) idx em.1 ∈ z_tbl ∧ Cond.instanceMethod em.1 ∈ z_tbl ∧ Cond.selects em.1.cls em.1 em.1 ∈ z_tbl) ∧
    (kd = 1 → Cond.methodLink (z_ow own) idx em.1 ∈ z_tbl ∧ Cond.static em.1 ∈ z_tbl) ∧
    (kd = 2 → Cond.methodLink (z_ow own) idx em.1 ∈ z_tbl ∧ Cond.instanceMethod em.1 ∈ z_tbl ∧ em.1.name = "<init>") ∧
    (kd = 3 → Cond.static em.1 ∈ z_tbl) ∧ (kd = 4 → Cond.instanceMethod em.1 ∈ z_tbl ∧ em.1.name = "<init>") ∧
    (∀ (B : Nat) (ro : Nat → Nat) (X : Option (List Int32)) (U : State) (H : Heap), z_RO X B ro U H → (kd = 3 ∨ kd = 4) → va_Nw (.methodLinkNest (z_ow own) idx em.1 "DustYards") U) := by
  obtain ⟨⟨o, i, M', k', n', p1, p2, p3⟩, hq, e1, e2, e3, e4, e5, hok⟩ := z_cal_ok hz
  dsimp only at e1 e2 e3 e4 e5
  subst e1; subst e2; subst e3; subst e4; subst e5
  simp only [z_okQ, z_nm1_eq he, Bool.and_eq_true, decide_eq_true_eq] at hok
  obtain ⟨⟨h1, h2⟩, h3⟩ := hok
  refine ⟨h1, h2, fun hk => ?_, fun hk => ?_, fun hk => ?_, fun hk => ?_, fun hk => ?_, fun B ro X U H hRO hk => ?_⟩
  · subst hk
    simp only [Bool.and_eq_true, decide_eq_true_eq] at h3
    exact ⟨z_in (z_of1 (List.mem_of_getElem? h3.1.1)) rfl, z_in (z_of1 (List.mem_of_getElem? h3.1.2)) rfl, z_in (List.mem_of_getElem? h3.2) rfl⟩
  · subst hk
    simp only [Bool.and_eq_true, decide_eq_true_eq] at h3
    exact ⟨z_in (z_of1 (List.mem_of_getElem? h3.1)) rfl, z_in (z_of1 (List.mem_of_getElem? h3.2)) rfl⟩
  · subst hk
    simp only [Bool.and_eq_true, decide_eq_true_eq] at h3
    exact ⟨z_in (z_of1 (List.mem_of_getElem? h3.1.1)) rfl, z_in (z_of1 (List.mem_of_getElem? h3.1.2)) rfl, h3.2⟩
  · subst hk
    simp only [Bool.and_eq_true, decide_eq_true_eq] at h3
    exact z_in (z_of1 (List.mem_of_getElem? h3.2)) rfl
  · subst hk
    simp only [Bool.and_eq_true, decide_eq_true_eq] at h3
    exact ⟨z_in (z_of1 (List.mem_of_getElem? h3.1.2)) rfl, h3.2⟩
  · have := hRO.2.2.2.2.1 _ hq hk
    rw [z_nm1_eq he] at this
    exact this
theorem z_goodV {own : String} {idx : Nat} (hO : z_okM em) (h1 : Cond.methodLink own idx em.1 ∈ z_tbl) (h2 : Cond.instanceMethod em.1 ∈ z_tbl) (h3 : Cond.selects em.1.cls em.1 em.1 ∈ z_tbl) : GoodIn z_tbl (wsV own idx em.1.cls em.1 (z_ws em)) := by
  intro w hw
  unfold wsV at hw
  rcases List.mem_append.mp hw with hw | hw
  · simp only [List.mem_cons, List.not_mem_nil, or_false] at hw
    rcases hw with rfl | rfl | rfl | rfl
    · exact ⟨h1, z_good h1⟩
    · exact ⟨h2, z_good h2⟩
    · exact ⟨h3, z_good h3⟩
    · exact ⟨hO.2.2.2.2.1, z_good hO.2.2.2.2.1⟩
  · exact z_goodIn hO w hw
theorem z_goodS {own : String} {idx : Nat} (hO : z_okM em) (h1 : Cond.methodLink own idx em.1 ∈ z_tbl) (h2 : Cond.static em.1 ∈ z_tbl) : GoodIn z_tbl (va_wsS own idx em.1 (z_ws em)) := by
  intro w hw
  unfold va_wsS at hw
  rcases List.mem_append.mp hw with hw | hw
  · simp only [List.mem_cons, List.not_mem_nil, or_false] at hw
    rcases hw with rfl | rfl | rfl
    · exact ⟨h1, z_good h1⟩
    · exact ⟨h2, z_good h2⟩
    · exact ⟨hO.2.2.2.2.1, z_good hO.2.2.2.2.1⟩
  · exact z_goodIn hO w hw
end ZCALL
end
section
set_option maxRecDepth 100000 in
theorem z_init_all : (z_M.all fun em => decide (em.1.name = "<init>" → em.2.2.2.1 = none)) = true := by decide +kernel
theorem z_init_none {M : Nat} {em : zM} (_ : M ≠ 0) (he : z_M[M]? = some em) (hn : em.1.name = "<init>") : em.2.2.2.1 = none := by
  have h := List.all_eq_true.mp z_init_all em (List.mem_of_getElem? he)
  simp only [decide_eq_true_eq] at h
  exact h hn
section ZCS
variable {D : va_G} {cA : FieldType → ClassId} {B : Nat} {ro : Nat → Nat} {X : Option (List Int32)}
variable {p : Program} {l : Launch} {e : Env} {R : Room} {s : State} {m : MethodId} {args : Array Value} {below : List Frame} {meth : Method} {c : Code} {H : Heap} {locs : List Loc} {cells slots : Nat} {Q : State → Prop} {em em' : zM}
variable {S S1 : zS} {h h1 : zH} {st rest vs : List Value} {r1 : Option Value} {pc : Nat} {real : Array Slot}
theorem z_inv_ok {n d M' len : Nat} {ins : Instr} (hS : z_Snd X n) (C : z_Cx D cA B ro X p s m args meth c em) (hI : z_In D cA B ro s S h H locs) (hcn : s.heap.size + cells = B + S.length) (hsize : real.size = em.2.2.1) (hd : decode em.2.1 pc = .ok (ins, len)) (hv : z_inv em.2.2.2.2.1 ins len st S = some (M', vs, rest)) (he' : z_M[M']? = some em') (hl : (z_sl vs).length ≤ em'.2.2.1) (hx1 : z_x X n d M' 0 (z_ent vs em'.2.2.1) [] S h = some (r1, S1, h1)) (hfr : d + 1 ≤ R.frames) (hlo : 40 * (d + 1) ≤ R.locals) (hroom : cells + (S1.length - S.length) ≤ R.cells ∧ slots + (z_tot S1 - z_tot S) ≤ R.slots)
    (kk : ∀ (H1 : Heap) (locs1 : List Loc), z_In D cA B ro s S1 h1 H1 locs1 → W p l e R s m args below meth c H1 locs1 (cells + (S1.length - S.length)) (slots + (z_tot S1 - z_tot S)) Q (F0 m (pc + 3) real ((r1.toList ++ rest).map (z_rv (z_ad B ro))))) : W p l e R s m args below meth c H locs cells slots Q (F0 m pc real (st.map (z_rv (z_ad B ro)))) := by
  have C' := C
  obtain ⟨hx, hb, hml, hown, hts, hnm, hK, hRO, hBs⟩ := C
  refine z_size hcn hBs hI (fun hsz => ?_)
  have hF : CallFix p m c em.2.1 em.2.2.1 s args z_tbl (z_ow em.2.2.2.2.1) := ⟨hx, hb, hml, hown, hts⟩
  have hsum : ∀ r : List Value, z_sum r ≤ 8 → 2 * (F0 m pc real (st.map (z_rv (z_ad B ro)))).monitorRoom + ((r.map (z_rv (z_ad B ro))).map fun v => v.category).sum ≤ 8 := fun r hr => by
    have : ((r.map (z_rv (z_ad B ro))).map fun v => v.category).sum ≤ 8 := by rw [z_sum_rv]; exact hr
    exact lv_room this
  unfold z_inv at hv
  split at hv
  · -- virtual
    next idx =>
    split at hv
    · next M n0 hcal =>
      split at hv
      · next b r0 hdrop =>
        split at hv
        · next hc =>
          obtain ⟨rfl, hn, h8, hrc⟩ := hc
          cases hv
          obtain ⟨hM, hpar, hw0, -, -, -, -, -⟩ := z_calW hcal he'
          obtain ⟨w1, w2, w3⟩ := hw0 rfl
          have hO := z_M_ok hM he'
          have hmet := z_met hS hM he' hl hx1 D cA B ro l
          have hst : st.map (z_rv (z_ad B ro)) = (((st.take n0).reverse).map (z_rv (z_ad B ro))).reverse ++ .ref (z_ad B ro b) :: rest.map (z_rv (z_ad B ro)) := by
            rw [← List.map_reverse, List.reverse_reverse]
            conv => lhs; rw [← List.take_append_drop n0 st, hdrop, List.map_append]
            rfl
          refine z_callK (va_runV (As := ((st.take n0).reverse).map (z_rv (z_ad B ro))) (b := z_ad B ro b) (rest := rest.map (z_rv (z_ad B ro))) hF hmet (cwV n0 hts (z_goodV hO w1 w2 w3) rfl rfl rfl ⟨rfl, hO.2.2.2.2.2.1.1, hO.2.2.2.2.2.1.2, hpar⟩ ⟨hfr, ?_⟩) ⟨z_blind, ?_, fun U hU hW => ⟨rfl, z_gd C' hI hsz hU hW⟩⟩ rfl (by simpa using hn) hsize hst (hsum _ h8) hd hroom) hI kk
          · have := hO.2.2.1
            show 8 + (em'.2.2.1 + 11) + 40 * d ≤ R.locals
            omega
          · unfold z_rcv at hrc
            split at hrc
            · next hb1 =>
              rw [z_ad_lo hb1]
              split at hrc
              · next ci fs hob =>
                have hci : ci = z_ownOf M' := by simpa using hrc
                obtain ⟨q, hq, -⟩ := hI.1 b _ (z_w_at (z_obj_ok hob))
                obtain ⟨cell, g1, g2, g3⟩ := va_recv hK hI.1 hq (z_w_at (z_obj_ok hob))
                refine ⟨cell, g1, g2, ?_⟩
                rw [hO.2.2.2.1]
                have : z_ownOf M' = em'.2.2.2.2.1 := by unfold z_ownOf; rw [he']
                rw [← this, ← hci, ← z_nm hq]
                exact g3
              · cases hrc
            · next hb1 =>
              rw [z_ad_hi hb1]
              simp only [Bool.and_eq_true, decide_eq_true_eq] at hrc
              obtain ⟨⟨k1, k2⟩, k3⟩ := hrc
              obtain ⟨i, rfl⟩ : ∃ i : Nat, b = 100100 + i := ⟨b - 100100, (Nat.add_sub_of_le k1).symm⟩
              have k4 : i < 13 := Nat.lt_of_add_lt_add_left (show 100100 + i < 100100 + 13 from k2)
              obtain ⟨cell, g1, g2, g3, -⟩ := ((hRO.2.2.1 i k4).1).kept hI.2.2.1
              refine ⟨cell, g1, g2, ?_⟩
              rw [hO.2.2.2.1]
              have : z_ownOf M' = em'.2.2.2.2.1 := by unfold z_ownOf; rw [he']
              rw [← this, k3]
              exact g3
        · cases hv
      · cases hv
    · cases hv
  · -- static
    next idx =>
    split at hv
    · next M kd n0 hcal =>
      split at hv
      · next hc =>
        obtain ⟨rfl, hkd, hn, h8⟩ := hc
        cases hv
        obtain ⟨hM, hpar, -, hw1, -, hw3, -, hnest⟩ := z_calW hcal he'
        have hO := z_M_ok hM he'
        have hmet := z_met hS hM he' hl hx1 D cA B ro l
        have hst : st.map (z_rv (z_ad B ro)) = (((st.take n0).reverse).map (z_rv (z_ad B ro))).reverse ++ (st.drop n0).map (z_rv (z_ad B ro)) := by
          rw [← List.map_reverse, List.reverse_reverse, ← List.map_append, List.take_append_drop]
        have hrm : (z_rm d S S1).frames + 1 ≤ R.frames ∧ 8 + (em'.2.2.1 + 11) + (z_rm d S S1).locals ≤ R.locals := by
          have := hO.2.2.1
          refine ⟨hfr, ?_⟩
          show 8 + (em'.2.2.1 + 11) + 40 * d ≤ R.locals
          omega
        rcases hkd with rfl | rfl
        · obtain ⟨w1, w2⟩ := hw1 rfl
          exact z_callK (va_runS (As := ((st.take n0).reverse).map (z_rv (z_ad B ro))) (rest := (st.drop n0).map (z_rv (z_ad B ro))) hF hmet (va_cwS n0 hts (z_goodS hO w1 w2) rfl rfl rfl ⟨hO.2.2.2.2.2.1.1, hO.2.2.2.2.2.1.2, hpar⟩ hrm) ⟨z_blind, fun U hU hW => ⟨rfl, z_gd C' hI hsz hU hW⟩⟩ rfl (by simpa using hn) hsize hst (hsum _ h8) hd hroom) hI kk
        · have w2 := hw3 rfl
          exact z_callK (va_runSN (As := ((st.take n0).reverse).map (z_rv (z_ad B ro))) (rest := (st.drop n0).map (z_rv (z_ad B ro))) hF hmet ⟨va_cnB n0 hts (z_goodIn hO) rfl rfl rfl (hnest B ro X s s.heap hRO (Or.inl rfl)) (hts _ hO.2.2.2.2.1) ⟨hO.2.2.2.2.2.1.1, hO.2.2.2.2.2.1.2, hpar⟩ hrm, hts _ w2, trivial⟩ ⟨z_blind, fun U hU hW => ⟨rfl, z_gd C' hI hsz hU hW⟩⟩ rfl (by simpa using hn) hsize hst (hsum _ h8) hd hroom) hI kk
      · cases hv
    · cases hv
  · -- init
    next idx =>
    split at hv
    · next M kd n0 hcal =>
      split at hv
      · next b r0 hdrop =>
        split at hv
        · next hc =>
          obtain ⟨rfl, hkd, hn, h8⟩ := hc
          cases hv
          obtain ⟨hM, hpar, -, -, hw2, -, hw4, hnest⟩ := z_calW hcal he'
          have hO := z_M_ok hM he'
          have hmet := z_met hS hM he' hl hx1 D cA B ro l
          have hst : st.map (z_rv (z_ad B ro)) = (((st.take n0).reverse).map (z_rv (z_ad B ro))).reverse ++ .ref (z_ad B ro b) :: rest.map (z_rv (z_ad B ro)) := by
            rw [← List.map_reverse, List.reverse_reverse]
            conv => lhs; rw [← List.take_append_drop n0 st, hdrop, List.map_append]
            rfl
          have hrm : (z_rm d S S1).frames + 1 ≤ R.frames ∧ 8 + (em'.2.2.1 + 11) + (z_rm d S S1).locals ≤ R.locals := by
            have := hO.2.2.1
            refine ⟨hfr, ?_⟩
            show 8 + (em'.2.2.1 + 11) + 40 * d ≤ R.locals
            omega
          have hretn : em'.2.2.2.1 = none := z_init_none hM he' (by
            rcases hkd with rfl | rfl
            · exact (hw2 rfl).2.2
            · exact (hw4 rfl).2)
          have hG : GoodIn z_tbl (z_ws em') := z_goodIn hO
          have hwsn : z_ws em' = Cond.code em'.1 em'.2.1 em'.2.2.1 none :: z_tbl := by unfold z_ws; rw [hretn]
          rcases hkd with rfl | rfl
          · obtain ⟨w1, w2, w3⟩ := hw2 rfl
            exact z_callK (va_runI (As := ((st.take n0).reverse).map (z_rv (z_ad B ro))) (b := z_ad B ro b) (rest := rest.map (z_rv (z_ad B ro))) hF hmet (cwI n0 hts hG hwsn rfl rfl (hts _ hO.2.2.2.2.1) (hts _ w1) (hts _ w2) w3 ⟨hO.2.2.2.2.2.1.1, hO.2.2.2.2.2.1.2, hpar⟩ hrm) ⟨z_blind, fun U hU hW => ⟨rfl, z_gd C' hI hsz hU hW⟩⟩ rfl (by simpa using hn) hsize hst (hsum _ h8) hd hroom) hI kk
          · obtain ⟨w2, w3⟩ := hw4 rfl
            exact z_callK (va_runIN (As := ((st.take n0).reverse).map (z_rv (z_ad B ro))) (b := z_ad B ro b) (rest := rest.map (z_rv (z_ad B ro))) hF hmet ⟨va_cnB n0 hts hG hwsn rfl rfl (hnest B ro X s s.heap hRO (Or.inr rfl)) (hts _ hO.2.2.2.2.1) ⟨hO.2.2.2.2.2.1.1, hO.2.2.2.2.2.1.2, hpar⟩ hrm, w3, hts _ w2⟩ ⟨z_blind, fun U hU hW => ⟨rfl, z_gd C' hI hsz hU hW⟩⟩ rfl (by simpa using hn) hsize hst (hsum _ h8) hd hroom) hI kk
        · cases hv
      · cases hv
    · cases hv
  · cases hv
end ZCS
theorem z_snd (X : Option (List Int32)) : ∀ n, z_Snd X n
  | 0 => by
    intro d M pc ls st S h r S' h' hx
    simp [z_x] at hx
  | n + 1 => by
    have ih := z_snd X n
    intro d M pc ls st S h r S' h' hx em he D cA B ro p l e R s m args below meth c H locs cells slots Q real C hI hcn hL hfr hlo hroom hret
    unfold z_x at hx
    split at hx
    · cases hx
    · next em2 he2 =>
      cases he2.symm.trans he
      split at hx
      · cases hx
      · next ins len hlk =>
        have hd : decode em.2.1 pc = .ok (ins, len) := z_M0_ok he (pc, ins, len) (z_lookup_mem _ _ _ hlk)
        split at hx
        · next pc' ls' st' hloc =>
          exact z_loc_ok C.1 C.2.1 hd hloc hL (fun real' hL' => ih _ _ _ _ _ _ _ _ _ _ hx em he D cA B ro p l e R s m args below meth c H locs cells slots Q real' C hI hcn hL' hfr hlo hroom hret)
        · split at hx
          · next st' S1 h1 hm =>
            have hle1 := z_mem_le hm
            have hle2 := z_x_le X n _ _ _ _ _ _ _ _ _ _ hx
            have a1 := hle1.1
            have a2 := hle1.2
            have a3 := hle2.1
            have a4 := hle2.2
            refine z_mem_ok C hI hcn hd hL.2.1 hfr hlo hm ⟨by omega, by omega⟩ ?_
            intro H' locs' cells' slots' hc1 hc2 hI'
            refine ih _ _ _ _ _ _ _ _ _ _ hx em he D cA B ro p l e R s m args below meth c H' locs' cells' slots' Q real C hI' (by omega) hL hfr hlo ⟨by omega, by omega⟩ ?_
            intro H2 locs2 cells2 slots2 pc2 real2 ins2 st2 hd1 hd2
            exact hret H2 locs2 cells2 slots2 pc2 real2 ins2 st2 (by omega) (by omega)
          · split at hx
            · next r' hr =>
              cases hx
              have hlen := z_ret_len hr
              subst hlen
              exact hret H locs cells slots pc real ins st (by omega) (by omega) hI hd hr
            · cases hv : z_inv em.2.2.2.2.1 ins len st S with
              | none =>
                rw [hv] at hx
                cases hx
              | some q =>
                obtain ⟨M', vs, rest⟩ := q
                rw [hv] at hx
                cases d with
                | zero => cases hx
                | succ d' =>
                  dsimp only at hx
                  split at hx
                  · cases hx
                  · next em' he' =>
                    split at hx
                    · next hsl =>
                      split at hx
                      · next r1 S1 h1 hx1 =>
                        have hle1 := z_x_le X n _ _ _ _ _ _ _ _ _ _ hx1
                        have hle2 := z_x_le X n _ _ _ _ _ _ _ _ _ _ hx
                        have a1 := hle1.1
                        have a2 := hle1.2
                        have a3 := hle2.1
                        have a4 := hle2.2
                        refine z_inv_ok ih C hI hcn hL.2.1 hd hv he' hsl hx1 hfr hlo ⟨by omega, by omega⟩ ?_
                        intro H1 locs1 hI1
                        refine ih _ _ _ _ _ _ _ _ _ _ hx em he D cA B ro p l e R s m args below meth c H1 locs1 _ _ Q real C hI1 (by omega) hL hfr hlo ⟨by omega, by omega⟩ ?_
                        intro H2 locs2 cells2 slots2 pc2 real2 ins2 st2 hd1 hd2
                        exact hret H2 locs2 cells2 slots2 pc2 real2 ins2 st2 (by omega) (by omega)
                      · cases hx
                    · cases hx
end
section
/-! THE CLAIM OUT OF ONE WALK OF THE LAW'S BODY. Your part is whole_start (and what it stands on); all else here is the same for every law, but numbers. -/
def R_law : String := "DustYardsLaw"
def lw_P (b : Addr) (xs : List Int32) (args : Array Value) (s : State) : Prop := args = #[.ref b] ∧ s.IntsAt b xs ∧ xs.length ≤ 448 ∧ (Jvm.Cond.and given_1 narrow_1).before args s = true
def lw_Q (_ : Array Value) (s : State) (o : Outcome) (t : State) : Prop := o = .returned (some (.int 1)) ∧ Framed s o t [] 600000 7302249
def lw_Z (below : List Frame) (a : Array Value) (s : State) : State → Prop := fun t => ∃ o, t.status = .running ∧ Ended t below o ∧ lw_Q a s o t
/-- the law's own end, with 1 on the stack, nothing written that was there before, its room as the claim has it -/
theorem lw_ret {p : Program} {l : Launch} {e : Env} {s : State} {m : MethodId} {below : List Frame} {meth : Method} {c : Code} {b : Nat} (hx : p.tables.exec = Jvm.exec) (hb : c.code = code) (hr : meth.sig.returnType = ret) (hlocks : meth.locks = false) {pc : Nat} {H : Heap} {ls : Array Slot} (hdg : decode code pc = .ok (.ireturn, 1)) : W p l e room_1 s m #[Value.ref b] below meth c H [] 600000 7302249 (lw_Z below #[Value.ref b] s) (F0 m pc ls [.int 1]) := by
  intro T hT X
  obtain ⟨fs, hret, hrun, hended, hW, hframe⟩ := X.leave (v := some (.int 1)) (hlocks := hlocks) (fun h => by rw [hr] at h; cases h)
  have hmeth' : T.vm.method? m = some meth := X.method'
  refine ⟨T.setFrames fs, ?_, .returned (some (.int 1)), hrun, hended, rfl, ⟨_, rfl⟩, hW, hframe⟩
  jvm_step X.here [X.here.top, hx, hb, hdg, hmeth', hr, ret, narrow_b1]
  (try refine ⟨rfl, ?_⟩); (try refine ⟨rfl, ?_⟩)
  first | (intro acts; rw [hret _ acts rfl rfl rfl]) | rw [hret _ _ rfl rfl rfl]
  exact Steps.refl _
/-- what holds at the law's entry: the machine, the code, the tables' words (any of lw_tbl by 'hts w (by decide +kernel)'), the script of L ints xs at the cell b, what the Statement gives of the start (any of its parts by flat_of_before) -/
def lw_At (p : Program) (s : State) (m : MethodId) (meth : Method) (c : Code) (b L : Nat) (xs : Nat → Int32) : Prop :=
  p.tables.exec = Jvm.exec ∧ c.code = code ∧ meth.sig.returnType = ret ∧ c.maxLocals = 4 ∧ s.vm.findClass R_law = some m.cls ∧ (∀ w ∈ lw_tbl, w.before #[Value.ref b] s = true) ∧ va_X b L xs s s.heap ∧ b < s.heap.size ∧ meth.locks = false ∧ (Jvm.Cond.and given_1 narrow_1).before #[Value.ref b] s = true
/-! what the start gives: the classes, the arrays' classes, tables, statics, texts, the script -/
abbrev z_fl0 : List Cond := flatC (Jvm.Cond.and given_1 narrow_1)
def z_sO : List (String × Nat) := [("DustYards", 95), ("DustYards$Tape", 50), ("DustYards$Tape", 56), ("DustYards$Tape", 58), ("DustYards$Tape", 60), ("DustYards$Tape", 62), ("DustYards$Tape", 64), ("DustYards$Tape", 66), ("DustYards$Tape", 68), ("DustYards$Tape", 70), ("DustYards$Tape", 72), ("DustYards$Tape", 74), ("DustYards$Tape", 76)]
def z_sP : List Nat := [80, 127, 135, 145, 156, 166, 178, 191, 208, 223, 239, 257, 278]
def z_tm (i : Nat) : Term := Term.string (z_sO.getD i ("", 0)).1 (z_sO.getD i ("", 0)).2
def z_tv (i : Nat) : Term := Term.field (z_tm i) "java/lang/String" "value" "[B"
def z_sC (i : Nat) : List Cond := [Cond.exactly (z_tm i) "java/lang/String", Cond.eq (.field (z_tm i) "java/lang/String" "coder" "B") (.int 0), Cond.arrayOf (z_tv i) .byte, Cond.eq (.length (z_tv i)) (.int (Int32.ofNat (z_str.getD i []).length))] ++ (List.range (z_str.getD i []).length).map fun j => Cond.eq (.elem (z_tv i) (.int (Int32.ofNat j))) (.int ((z_str.getD i []).getD j 0))
set_option maxRecDepth 100000 in
theorem z_sC0 : z_sC 0 = (z_fl0.drop 80).take (z_sC 0).length := by decide +kernel
set_option maxRecDepth 100000 in
theorem z_sC1 : z_sC 1 = (z_fl0.drop 127).take (z_sC 1).length := by decide +kernel
set_option maxRecDepth 100000 in
theorem z_sC2 : z_sC 2 = (z_fl0.drop 135).take (z_sC 2).length := by decide +kernel
set_option maxRecDepth 100000 in
theorem z_sC3 : z_sC 3 = (z_fl0.drop 145).take (z_sC 3).length := by decide +kernel
set_option maxRecDepth 100000 in
theorem z_sC4 : z_sC 4 = (z_fl0.drop 156).take (z_sC 4).length := by decide +kernel
set_option maxRecDepth 100000 in
theorem z_sC5 : z_sC 5 = (z_fl0.drop 166).take (z_sC 5).length := by decide +kernel
set_option maxRecDepth 100000 in
theorem z_sC6 : z_sC 6 = (z_fl0.drop 178).take (z_sC 6).length := by decide +kernel
set_option maxRecDepth 100000 in
theorem z_sC7 : z_sC 7 = (z_fl0.drop 191).take (z_sC 7).length := by decide +kernel
set_option maxRecDepth 100000 in
theorem z_sC8 : z_sC 8 = (z_fl0.drop 208).take (z_sC 8).length := by decide +kernel
set_option maxRecDepth 100000 in
theorem z_sC9 : z_sC 9 = (z_fl0.drop 223).take (z_sC 9).length := by decide +kernel
set_option maxRecDepth 100000 in
theorem z_sC10 : z_sC 10 = (z_fl0.drop 239).take (z_sC 10).length := by decide +kernel
set_option maxRecDepth 100000 in
theorem z_sC11 : z_sC 11 = (z_fl0.drop 257).take (z_sC 11).length := by decide +kernel
set_option maxRecDepth 100000 in
theorem z_sC12 : z_sC 12 = (z_fl0.drop 278).take (z_sC 12).length := by decide +kernel
theorem z_sC_in {i : Nat} (hi : i < 13) : ∀ w ∈ z_sC i, w ∈ z_fl0 := by
  intro w hw
  match i, hi, hw with
  | 0, _, hw => rw [z_sC0] at hw; exact List.mem_of_mem_drop (List.mem_of_mem_take hw)
  | 1, _, hw => rw [z_sC1] at hw; exact List.mem_of_mem_drop (List.mem_of_mem_take hw)
  | 2, _, hw => rw [z_sC2] at hw; exact List.mem_of_mem_drop (List.mem_of_mem_take hw)
  | 3, _, hw => rw [z_sC3] at hw; exact List.mem_of_mem_drop (List.mem_of_mem_take hw)
  | 4, _, hw => rw [z_sC4] at hw; exact List.mem_of_mem_drop (List.mem_of_mem_take hw)
  | 5, _, hw => rw [z_sC5] at hw; exact List.mem_of_mem_drop (List.mem_of_mem_take hw)
  | 6, _, hw => rw [z_sC6] at hw; exact List.mem_of_mem_drop (List.mem_of_mem_take hw)
  | 7, _, hw => rw [z_sC7] at hw; exact List.mem_of_mem_drop (List.mem_of_mem_take hw)
  | 8, _, hw => rw [z_sC8] at hw; exact List.mem_of_mem_drop (List.mem_of_mem_take hw)
  | 9, _, hw => rw [z_sC9] at hw; exact List.mem_of_mem_drop (List.mem_of_mem_take hw)
  | 10, _, hw => rw [z_sC10] at hw; exact List.mem_of_mem_drop (List.mem_of_mem_take hw)
  | 11, _, hw => rw [z_sC11] at hw; exact List.mem_of_mem_drop (List.mem_of_mem_take hw)
  | 12, _, hw => rw [z_sC12] at hw; exact List.mem_of_mem_drop (List.mem_of_mem_take hw)
def z_gC (i : Nat) : List Cond := [Cond.arrayOf (.static "DustYards$Carts" (z_gN.getD i ("", "", "")).2.1 "[I") .int, Cond.eq (.length (.static "DustYards$Carts" (z_gN.getD i ("", "", "")).2.1 "[I")) (.int (Int32.ofNat (z_ro0.getD i (.int, [])).2.length))] ++ (List.range (z_ro0.getD i (.int, [])).2.length).map fun j => Cond.eq (.elem (.static "DustYards$Carts" (z_gN.getD i ("", "", "")).2.1 "[I") (.int (Int32.ofNat j))) (.int ((z_ro0.getD i (.int, [])).2.getD j 0))
set_option maxRecDepth 100000 in
theorem z_gC0 : z_gC 0 = (z_fl0.drop 10).take (z_gC 0).length := by decide +kernel
set_option maxRecDepth 100000 in
theorem z_gC1 : z_gC 1 = (z_fl0.drop 37).take (z_gC 1).length := by decide +kernel
set_option maxRecDepth 100000 in
theorem z_gC2 : z_gC 2 = (z_fl0.drop 46).take (z_gC 2).length := by decide +kernel
theorem z_gC_in {i : Nat} (hi : i < 3) : ∀ w ∈ z_gC i, w ∈ z_fl0 := by
  intro w hw
  match i, hi, hw with
  | 0, _, hw => rw [z_gC0] at hw; exact List.mem_of_mem_drop (List.mem_of_mem_take hw)
  | 1, _, hw => rw [z_gC1] at hw; exact List.mem_of_mem_drop (List.mem_of_mem_take hw)
  | 2, _, hw => rw [z_gC2] at hw; exact List.mem_of_mem_drop (List.mem_of_mem_take hw)
set_option maxRecDepth 100000 in
theorem z_ls0 : Cond.laysStatic "DustYards$Carts" "HUNDREDTHS" "[I" ∈ lw_tbl := z_of1 (List.mem_of_getElem? (i := 583) (by decide +kernel))
set_option maxRecDepth 100000 in
theorem z_ls1 : Cond.laysStatic "DustYards$Carts" "EYES" "[I" ∈ lw_tbl := z_of1 (List.mem_of_getElem? (i := 594) (by decide +kernel))
set_option maxRecDepth 100000 in
theorem z_ls2 : Cond.laysStatic "DustYards$Carts" "UNDER" "[I" ∈ lw_tbl := z_of1 (List.mem_of_getElem? (i := 935) (by decide +kernel))
set_option maxRecDepth 100000 in
theorem z_ls3 : Cond.laysStatic "java/lang/String" "COMPACT_STRINGS" "Z" ∈ lw_tbl := z_of1 (List.mem_of_getElem? (i := 342) (by decide +kernel))
set_option maxRecDepth 100000 in
theorem z_ls4 : Cond.laysStatic "jdk/internal/util/Preconditions" "SIOOBE_FORMATTER" "Ljava/util/function/BiFunction;" ∈ lw_tbl := z_of1 (List.mem_of_getElem? (i := 358) (by decide +kernel))
set_option maxRecDepth 100000 in
theorem z_inC : Cond.initialized "DustYards$Carts" ∈ lw_tbl := z_of1 (List.mem_of_getElem? (i := 2) (by decide +kernel))
set_option maxRecDepth 100000 in
theorem z_inS : Cond.initialized "java/lang/String" ∈ lw_tbl := z_of1 (List.mem_of_getElem? (i := 13) (by decide +kernel))
set_option maxRecDepth 100000 in
theorem z_inP : Cond.initialized "jdk/internal/util/Preconditions" ∈ lw_tbl := z_of1 (List.mem_of_getElem? (i := 15) (by decide +kernel))
set_option maxRecDepth 100000 in
theorem z_f3 : Cond.eq (.static "java/lang/String" "COMPACT_STRINGS" "Z") (.int 1) ∈ z_fl0 := List.mem_of_getElem? (i := 4) (by decide +kernel)
set_option maxRecDepth 100000 in
theorem z_f4 : Cond.isRef (.static "jdk/internal/util/Preconditions" "SIOOBE_FORMATTER" "Ljava/util/function/BiFunction;") ∈ z_fl0 := List.mem_of_getElem? (i := 5) (by decide +kernel)
set_option maxRecDepth 100000 in
theorem z_aoT : Cond.arrayOver (.object "DustYards$Text") ∈ lw_tbl := z_of1 (List.mem_of_getElem? (i := 141) (by decide +kernel))
set_option maxRecDepth 100000 in
theorem z_aoS : Cond.arrayOver (.object "DustYards$Sheet") ∈ lw_tbl := z_of1 (List.mem_of_getElem? (i := 313) (by decide +kernel))
set_option maxRecDepth 100000 in
theorem z_sR : ∀ q ∈ z_sT, Cond.stringRef (z_ow q.1) q.2.1 q.2.2.2 ∈ lw_tbl := by
  have h : z_sT.map (fun q => some (Cond.stringRef (z_ow q.1) q.2.1 q.2.2.2)) = ([332, 411, 418, 419, 420, 421, 422, 423, 424, 425, 426, 427, 428] : List Nat).map fun i => tables_1[i]? := by decide +kernel
  intro q hq
  have h1 : some (Cond.stringRef (z_ow q.1) q.2.1 q.2.2.2) ∈ z_sT.map (fun q => some (Cond.stringRef (z_ow q.1) q.2.1 q.2.2.2)) := List.mem_map.mpr ⟨q, hq, rfl⟩
  rw [h] at h1
  obtain ⟨j, -, hj⟩ := List.mem_map.mp h1
  exact z_of1 (List.mem_of_getElem? hj)
theorem z_sT_tm : ∀ q ∈ z_sT, q.2.2.1 < 13 ∧ Term.string (z_ow q.1) q.2.1 = z_tm q.2.2.1 := by decide +kernel
set_option maxRecDepth 100000 in
theorem z_nestW : ∀ q ∈ z_cT, (q.2.2.2.1 = 3 ∨ q.2.2.2.1 = 4) → Cond.methodLinkNest (z_ow q.1) q.2.1 (z_nm1 q.2.2.1) "DustYards" ∈ lw_tbl := by
  rintro ⟨o, i, M, k, n, p1, p2, p3⟩ hq hk
  have hok := List.all_eq_true.mp z_cT_ok _ hq
  simp only [z_okQ, Bool.and_eq_true, decide_eq_true_eq] at hok
  dsimp only at hk
  rcases hk with rfl | rfl
  · have h3 := hok.2
    simp only [Bool.and_eq_true, decide_eq_true_eq] at h3
    exact z_of1 (List.mem_of_getElem? h3.1)
  · have h3 := hok.2
    simp only [Bool.and_eq_true, decide_eq_true_eq] at h3
    exact z_of1 (List.mem_of_getElem? h3.1.1)
def z_cA (s : State) (ty : FieldType) : ClassId := (s.vm.findClass ("[" ++ ty.toString)).getD 0
theorem z_prim {args : Array Value} {s : State} {ty : FieldType} (h : (Cond.arrayClass ty).before args s = true) (hra : va_RA s (z_cA s ty) ty = (s.vm.findClass ("[" ++ ty.toString) = some (z_cA s ty))) : ArrOfT s (z_cA s ty) ty ∧ va_RA s (z_cA s ty) ty := by
  obtain ⟨c, k, comp, h1, h2, h3⟩ := Cond.arrayClass_spec (args := args) (first := s) (o := none) (s := s) (idx := []) h
  have e : z_cA s ty = c := by unfold z_cA; rw [h1]; rfl
  rw [hra]
  rw [e]
  exact ⟨fun n z => ⟨fun k h => (by cases h), k, h2, comp, h3⟩, h1⟩
theorem z_objA {args : Array Value} {s : State} {C : String} (h : (Cond.arrayOver (.object C)).before args s = true) : ArrOfT s (z_cA s (.object C)) (.object C) ∧ va_RA s (z_cA s (.object C)) (.object C) := by
  obtain ⟨comp, c, k, h1, h2, h3, h4, h5⟩ := Cond.arrayOver_spec (args := args) (first := s) (o := none) (s := s) (idx := []) h
  have e : z_cA s (.object C) = c := by unfold z_cA; rw [h5]; rfl
  rw [e]
  exact ⟨fun n z => ⟨fun k h => (by cases h), k, h3, comp, h4⟩, k, comp, h3, h4, h1, h5⟩
theorem z_tys_ok {args : Array Value} {s : State} (hts : ∀ w ∈ lw_tbl, w.before args s = true) : ∀ (k : Nat) (q : ClassId × FieldType), (z_tys (z_cA s))[k]? = some q → ArrOfT s q.1 q.2 ∧ va_RA s q.1 q.2 := by
  have hz : ∀ w ∈ z_tbl, w.before args s = true := fun w hw => hts w (List.mem_filter.mp hw).1
  intro k q hq
  match k, hq with
  | 0, hq => cases hq; exact z_prim (hz _ (z_ac .int (by decide))) rfl
  | 1, hq => cases hq; exact z_prim (hz _ (z_ac .boolean (by decide))) rfl
  | 2, hq => cases hq; exact z_prim (hz _ (z_ac .byte (by decide))) rfl
  | 3, hq => cases hq; exact z_prim (hz _ (z_ac .char (by decide))) rfl
  | 4, hq => cases hq; exact z_objA (hts _ z_aoT)
  | 5, hq => cases hq; exact z_objA (hts _ z_aoS)
  | k + 6, hq => simp [z_tys] at hq
theorem z_known {args : Array Value} {s : State} (hts : ∀ w ∈ lw_tbl, w.before args s = true) : ∃ D : va_G, va_K D z_cls (z_tys (z_cA s)) s := by
  have hz : ∀ w ∈ z_tbl, w.before args s = true := fun w hw => hts w (List.mem_filter.mp hw).1
  have h0 : ∀ ci : Nat, ∃ d : ClassId × (Nat → Nat), ∀ q, z_cls[ci]? = some q → u_Kn s q.1 q.2.1 q.2.2 d.1 d.2 := by
    intro ci
    cases hc : z_cls[ci]? with
    | none => exact ⟨(0, fun _ => 0), fun q hq => by cases hq⟩
    | some q =>
      obtain ⟨o1, o2, o3, o4, -⟩ := z_cls_ok hc
      obtain ⟨c0, iS, hKn⟩ := u_known (C := q.1) (T := q.2.1) (N := q.2.2) (n := q.2.2) hz o1 (hz _ o4)
      exact ⟨(c0, iS), fun q' hq' => by cases hq'; exact hKn⟩
  obtain ⟨F, hF⟩ := Classical.axiomOfChoice h0
  exact ⟨(fun k => (F k).1, fun k => (F k).2), fun c q hq => hF c q hq, z_tys_ok hts⟩
theorem z_start_s {args : Array Value} {s : State} {A : Nat → Prop} (hfl : ∀ w ∈ z_fl0, w.before args s = true) (hA : ∀ a : Nat, a < s.heap.size → ¬ A a) : ∃ F : Nat → Nat × Nat, ∀ i : Nat, i < 13 → (z_tm i).eval args s none [] s = some (.ref (F i).1) ∧ va_O "java/lang/String" (F i).1 A s s.heap ∧ va_OF "java/lang/String" "coder" "B" (.int 0) (F i).1 A s s.heap ∧ va_OF "java/lang/String" "value" "[B" (.ref (F i).2) (F i).1 A s s.heap ∧ va_T .byte (F i).2 (z_str.getD i []).length (fun j => .int ((z_str.getD i []).getD j 0)) A s s.heap := by
  have h0 : ∀ i : Nat, ∃ q : Nat × Nat, i < 13 → (z_tm i).eval args s none [] s = some (.ref q.1) ∧ va_O "java/lang/String" q.1 A s s.heap ∧ va_OF "java/lang/String" "coder" "B" (.int 0) q.1 A s s.heap ∧ va_OF "java/lang/String" "value" "[B" (.ref q.2) q.1 A s s.heap ∧ va_T .byte q.2 (z_str.getD i []).length (fun j => .int ((z_str.getD i []).getD j 0)) A s s.heap := by
    intro i
    by_cases hi : i < 13
    · have hw := fun w hw => hfl w (z_sC_in hi w hw)
      have hex := hw (Cond.exactly (z_tm i) "java/lang/String") (List.mem_append_left _ (by simp))
      have hco := hw (Cond.eq (.field (z_tm i) "java/lang/String" "coder" "B") (.int 0)) (List.mem_append_left _ (by simp))
      have har := hw (Cond.arrayOf (z_tv i) .byte) (List.mem_append_left _ (by simp))
      have hle := hw (Cond.eq (.length (z_tv i)) (.int (Int32.ofNat (z_str.getD i []).length))) (List.mem_append_left _ (by simp))
      have hel : ∀ j : Nat, j < (z_str.getD i []).length → (Cond.eq (.elem (z_tv i) (.int (Int32.ofNat j))) (.int ((z_str.getD i []).getD j 0))).before args s = true := fun j hj => hw _ (List.mem_append_right _ (List.mem_map.mpr ⟨j, List.mem_range.mpr hj, rfl⟩))
      have hN : (z_str.getD i []).length < 2 ^ 31 := by
        have h9 : ∀ i, i < 13 → (z_str.getD i []).length < 100 := by decide +kernel
        have := h9 i hi
        omega
      obtain ⟨a, c, cA, kA, q1, q2, q3, q4, q5, q6, -⟩ := Cond.exactly_spec (args := args) (first := s) (o := none) (s := s) (idx := []) (t := z_tm i) (cls := "java/lang/String") hex
      obtain ⟨t, ht, hT⟩ := va_Tof (f := fun j => .int ((z_str.getD i []).getD j 0)) (A := A) hN har (va_eqt hle) (fun j hj => va_eqt (hel j hj)) hA
      exact ⟨(a, t), fun _ => ⟨q1, ⟨cA, q3, q5, by rw [q6]; exact q2, hA a (Array.getElem?_eq_some_iff.mp q3).1⟩, vk_OFof q1 (va_eqt hco) hA, vk_OFof q1 ht hA, hT⟩⟩
    · exact ⟨(0, 0), fun h => absurd h hi⟩
  obtain ⟨F, hF⟩ := Classical.axiomOfChoice h0
  exact ⟨F, hF⟩
theorem z_start_g {args : Array Value} {s : State} {A : Nat → Prop} (hts : ∀ w ∈ lw_tbl, w.before args s = true) (hfl : ∀ w ∈ z_fl0, w.before args s = true) (hA : ∀ a : Nat, a < s.heap.size → ¬ A a) {i : Nat} (hi : i < 3) (hls : Cond.laysStatic "DustYards$Carts" (z_gN.getD i ("", "", "")).2.1 "[I" ∈ lw_tbl) : ∃ t : Nat, va_Z "DustYards$Carts" (z_gN.getD i ("", "", "")).2.1 "[I" (.ref t) A s s.heap ∧ va_T .int t (z_ro0.getD i (.int, [])).2.length (fun j => .int ((z_ro0.getD i (.int, [])).2.getD j 0)) A s s.heap := by
  have hw := fun w hw => hfl w (z_gC_in hi w hw)
  have har := hw (Cond.arrayOf (.static "DustYards$Carts" (z_gN.getD i ("", "", "")).2.1 "[I") .int) (List.mem_append_left _ (by simp))
  have hle := hw (Cond.eq (.length (.static "DustYards$Carts" (z_gN.getD i ("", "", "")).2.1 "[I")) (.int (Int32.ofNat (z_ro0.getD i (.int, [])).2.length))) (List.mem_append_left _ (by simp))
  have hel : ∀ j : Nat, j < (z_ro0.getD i (.int, [])).2.length → (Cond.eq (.elem (.static "DustYards$Carts" (z_gN.getD i ("", "", "")).2.1 "[I") (.int (Int32.ofNat j))) (.int ((z_ro0.getD i (.int, [])).2.getD j 0))).before args s = true := fun j hj => hw _ (List.mem_append_right _ (List.mem_map.mpr ⟨j, List.mem_range.mpr hj, rfl⟩))
  have hN : (z_ro0.getD i (.int, [])).2.length < 2 ^ 31 := by
    have h9 : ∀ i, i < 3 → (z_ro0.getD i (.int, [])).2.length < 100 := by decide +kernel
    have := h9 i hi
    omega
  obtain ⟨t, ht, hT⟩ := va_Tof (f := fun j => .int ((z_ro0.getD i (.int, [])).2.getD j 0)) (A := A) hN har (va_eqt hle) (fun j hj => va_eqt (hel j hj)) hA
  exact ⟨t, va_Zref (hts _ hls) (hts _ z_inC) ht hA, hT⟩
end
section
/-- THE LAW, from its entry, out of a run of my own machine -/
theorem z_whole {p : Program} {e : Env} {s : State} {m : MethodId} {below : List Frame} {meth : Method} {c : Code} (l : Launch) {b L : Nat} {xs : Nat → Int32} (C0 : lw_At p s m meth c b L xs)
    (hp : ∃ (n : Nat) (S' : zS) (h' : zH), z_x (some ((List.range L).map xs)) n 2000 0 0 (z_ent [.ref 100000] 4) [] [] (fun _ _ => 0) = some (some (.int 1), S', h') ∧ S'.length ≤ 600000 ∧ z_tot S' ≤ 7302249) : W p l e room_1 s m #[Value.ref b] below meth c s.heap [] 0 0 (lw_Z below #[Value.ref b] s) (entryFrame m ([Value.ref b] : List Value).toArray 4) := by
  obtain ⟨hx, hb, hr, hml, hown, hts, hX, hbl, hlocks, hgv⟩ := C0
  obtain ⟨n, S', h', hrun, hc1, hc2⟩ := hp
  have hz : ∀ w ∈ z_tbl, w.before #[Value.ref b] s = true := fun w hw => hts w (List.mem_filter.mp hw).1
  have hfl : ∀ w ∈ z_fl0, w.before #[Value.ref b] s = true := flat_of_before _ hgv
  have hA : ∀ a : Nat, a < s.heap.size → ¬ (fun q : Nat => s.heap.size ≤ q) a := fun a h => Nat.not_le.mpr h
  obtain ⟨D, hK⟩ := z_known hts
  obtain ⟨F, hF⟩ := z_start_s (A := fun q => s.heap.size ≤ q) hfl hA
  obtain ⟨t0, hZ0, hT0⟩ := z_start_g (A := fun q => s.heap.size ≤ q) hts hfl hA (i := 0) (by decide) z_ls0
  obtain ⟨t1, hZ1, hT1⟩ := z_start_g (A := fun q => s.heap.size ≤ q) hts hfl hA (i := 1) (by decide) z_ls1
  obtain ⟨t2, hZ2, hT2⟩ := z_start_g (A := fun q => s.heap.size ≤ q) hts hfl hA (i := 2) (by decide) z_ls2
  have hZ3 := va_Zof (A := fun q => s.heap.size ≤ q) (hts _ z_ls3) (hts _ z_inS) (va_eqi (hfl _ z_f3)) hA
  obtain ⟨fm, hZ4⟩ : ∃ fm : Nat, va_Z "jdk/internal/util/Preconditions" "SIOOBE_FORMATTER" "Ljava/util/function/BiFunction;" (z_op fm) (fun q => s.heap.size ≤ q) s s.heap := by
    rcases va_Zqof (A := fun q => s.heap.size ≤ q) (hts _ z_ls4) (hts _ z_inP) (hfl _ z_f4) hA with h | ⟨t, h⟩
    · exact ⟨0, h⟩
    · exact ⟨t + 1, h⟩
  obtain ⟨ro, hr0⟩ : ∃ ro : Nat → Nat, ro = fun k => if k = 100000 then b else if k = 100001 then t0 else if k = 100002 then t1 else if k = 100003 then t2 else if k < 100050 then (F (k - 100004)).2 else if k < 100150 then (F (k - 100100)).1 else fm := ⟨_, rfl⟩
  have r0 : ro 100000 = b := by rw [hr0]; rfl
  have r1 : ro 100001 = t0 := by rw [hr0]; rfl
  have r2 : ro 100002 = t1 := by rw [hr0]; rfl
  have r3 : ro 100003 = t2 := by rw [hr0]; rfl
  have r4 : ∀ i : Nat, i < 13 → ro (100004 + i) = (F i).2 := by
    intro i hi
    rw [hr0]
    dsimp only
    rw [if_neg (by omega), if_neg (by omega), if_neg (by omega), if_neg (by omega), if_pos (by omega), Nat.add_sub_cancel_left]
  have r5 : ∀ i : Nat, i < 13 → ro (100100 + i) = (F i).1 := by
    intro i hi
    rw [hr0]
    dsimp only
    rw [if_neg (by omega), if_neg (by omega), if_neg (by omega), if_neg (by omega), if_neg (by omega), if_pos (by omega), Nat.add_sub_cancel_left]
  have r6 : ro 100200 = fm := by rw [hr0]; rfl
  have hxl : ((List.range L).map xs).length = L := by simp
  have hRO : z_RO (some ((List.range L).map xs)) s.heap.size ro s s.heap := by
    refine ⟨?_, ?_, ?_, ?_, ?_, va_AO.of (hts _ z_aoT), va_AO.of (hts _ z_aoS)⟩
    · intro i ty li hli
      match i, hli with
      | 0, hli =>
        cases hli
        rw [r0, hxl]
        obtain ⟨scr, g1, g2, g3, g4, g5⟩ := hX
        refine ⟨scr, g1, g2, g3, Nat.le_of_eq g4.symm, by rw [g4], fun j hj => ?_, hA b hbl⟩
        rw [g5 j hj]
        simp [List.getD_eq_getElem?_getD, List.getElem?_map, List.getElem?_range hj]
      | 1, hli =>
        cases hli
        rw [r1]
        exact hT0
      | 2, hli =>
        cases hli
        rw [r2]
        exact hT1
      | 3, hli =>
        cases hli
        rw [r3]
        exact hT2
      | i + 4, hli =>
        have h1 : (z_str.map fun l => (FieldType.byte, l))[i]? = some (ty, li) := hli
        rw [List.getElem?_map] at h1
        cases hs : z_str[i]? with
        | none => rw [hs] at h1; cases h1
        | some l2 =>
          rw [hs] at h1
          cases h1
          have hi : i < 13 := (List.getElem?_eq_some_iff.mp hs).1
          have e1 : z_str.getD i [] = li := by rw [List.getD_eq_getElem?_getD, hs]; rfl
          have h2 := (hF i hi).2.2.2.2
          rw [e1] at h2
          rw [show 100000 + (i + 4) = 100004 + i by omega, r4 i hi]
          exact h2
    · intro i q hq
      match i, hq with
      | 0, hq =>
        cases hq
        show va_Z _ _ _ (.ref (z_ad s.heap.size ro 100001)) _ _ _
        rw [z_ad_hi (by decide), r1]
        exact hZ0
      | 1, hq =>
        cases hq
        show va_Z _ _ _ (.ref (z_ad s.heap.size ro 100002)) _ _ _
        rw [z_ad_hi (by decide), r2]
        exact hZ1
      | 2, hq =>
        cases hq
        show va_Z _ _ _ (.ref (z_ad s.heap.size ro 100003)) _ _ _
        rw [z_ad_hi (by decide), r3]
        exact hZ2
      | 3, hq =>
        cases hq
        exact hZ3
      | 4, hq =>
        cases hq
        show va_Z _ _ _ (z_op (z_ad s.heap.size ro 100200)) _ _ _
        rw [z_ad_hi (by decide), r6]
        exact hZ4
      | i + 5, hq => simp [z_gN] at hq
    · intro i hi
      obtain ⟨g1, g2, g3, g4, g5⟩ := hF i hi
      rw [r5 i hi, r4 i hi]
      exact ⟨g2, g3, g4⟩
    · intro q hq
      obtain ⟨h1, h2⟩ := z_sT_tm q hq
      refine vk_R.of (A := #[Value.ref b]) (hts _ (z_sR q hq)) ?_
      rw [h2, r5 _ h1]
      exact (hF _ h1).1
    · intro q hq hk
      exact va_Nw.of rfl (hts _ (z_nestW q hq hk))
  rw [lg_entry_eq]
  have hI : z_In D (z_cA s) s.heap.size ro s [] (fun _ _ => 0) s.heap [] := ⟨fun k q h => by simp [z_w] at h, va_S.rf⟩
  have hEnt := z_ent_ok (z_ad s.heap.size ro) [.ref 100000] (n := 4) (by decide)
  have e0 : ([Value.ref 100000] : List Value).map (z_rv (z_ad s.heap.size ro)) = [Value.ref b] := by
    show [Value.ref (z_ad s.heap.size ro 100000)] = _
    rw [z_ad_hi (by decide), r0]
  rw [e0] at hEnt
  refine z_snd (some ((List.range L).map xs)) n 2000 0 0 _ [] [] _ _ S' h' hrun z_m0 rfl D (z_cA s) s.heap.size ro p l e room_1 s m _ below meth c s.heap [] 0 0 _ _ ⟨hx, hb, hml, hown, hz, (fun h => absurd h (by decide)), hK, hRO, Nat.le_refl _⟩ hI (by simp) hEnt (by decide) (by decide) ⟨?_, ?_⟩ ?_
  · show 0 + (S'.length - 0) ≤ 600000
    omega
  · show 0 + (z_tot S' - 0) ≤ 7302249
    omega
  · intro H' locs' cells' slots' pc' real' ins st' hk1 hk2 hI' hd hret
    have hst : ins = .ireturn ∧ st' = [.int 1] := by
      unfold z_ret at hret
      split at hret
      · split at hret
        · split at hret
          · cases hret
            exact ⟨rfl, rfl⟩
          · cases hret
        · cases hret
      · split at hret
        · split at hret
          · cases hret
          · cases hret
        · cases hret
      · split at hret
        · split at hret
          · cases hret
          · cases hret
        · cases hret
      · cases hret
    obtain ⟨rfl, rfl⟩ := hst
    refine va_forget (fun q hq => hI'.2.2.2 q hq) ?_
    refine W.widen (k := 600000) (n := 7302249) ?_ ?_ ?_
    · rw [hk1]
      show 0 + (S'.length - 0) ≤ 600000
      omega
    · rw [hk2]
      show 0 + (z_tot S' - 0) ≤ 7302249
      omega
    · exact lw_ret hx hb hr hlocks hd
end
section
/-! runs of my own machine, goal first: the shape stays, the fuel is hidden -/
theorem z_x_more (X : Option (List Int32)) : ∀ (n d M pc : Nat) (ls : zL) (st : List Value) (S : zS) (h : zH) (o : Option Value × zS × zH), z_x X n d M pc ls st S h = some o → z_x X (n + 1) d M pc ls st S h = some o
  | 0, d, M, pc, ls, st, S, h, o, hx => by simp [z_x] at hx
  | n + 1, d, M, pc, ls, st, S, h, o, hx => by
    rw [z_x] at hx
    rw [z_x]
    cases h1 : z_M[M]? with
    | none => simp only [h1] at hx; cases hx
    | some e =>
      simp only [h1] at hx ⊢
      cases h2 : e.2.2.2.2.2.lookup pc with
      | none => simp only [h2] at hx; cases hx
      | some q =>
        obtain ⟨ins, len⟩ := q
        simp only [h2] at hx ⊢
        cases h3 : z_loc ins len pc ls st with
        | some q =>
          obtain ⟨pc', ls', st'⟩ := q
          simp only [h3] at hx ⊢
          exact z_x_more X n _ _ _ _ _ _ _ _ hx
        | none =>
          simp only [h3] at hx ⊢
          cases h4 : z_mem X d e.2.2.2.2.1 (decide (e.1.name = "<init>")) ins len st S h with
          | some q =>
            obtain ⟨st', S', h'⟩ := q
            simp only [h4] at hx ⊢
            exact z_x_more X n _ _ _ _ _ _ _ _ hx
          | none =>
            simp only [h4] at hx ⊢
            cases h5 : z_ret e.2.2.2.1 ins len st with
            | some r =>
              simp only [h5] at hx ⊢
              exact hx
            | none =>
              simp only [h5] at hx ⊢
              cases h6 : z_inv e.2.2.2.2.1 ins len st S with
              | none => simp only [h6] at hx; cases hx
              | some q =>
                obtain ⟨M', vs, rest⟩ := q
                cases d with
                | zero => simp only [h6] at hx; cases hx
                | succ d' =>
                  simp only [h6] at hx ⊢
                  cases h7 : z_M[M']? with
                  | none => simp only [h7] at hx; cases hx
                  | some e' =>
                    simp only [h7] at hx ⊢
                    split at hx
                    · next hsl =>
                      rw [if_pos hsl]
                      cases h8 : z_x X n d' M' 0 (z_ent vs e'.2.2.1) [] S h with
                      | none => simp only [h8] at hx; cases hx
                      | some q =>
                        obtain ⟨r, S1, h1'⟩ := q
                        simp only [h8] at hx
                        simp only [z_x_more X n _ _ _ _ _ _ _ _ h8]
                        exact z_x_more X n _ _ _ _ _ _ _ _ hx
                    · cases hx
theorem z_x_le_n (X : Option (List Int32)) {n n' d M pc : Nat} {ls : zL} {st : List Value} {S : zS} {h : zH} {o : Option Value × zS × zH} (hn : n ≤ n') (hx : z_x X n d M pc ls st S h = some o) : z_x X n' d M pc ls st S h = some o := by
  induction hn with
  | refl => exact hx
  | step _ ih => exact z_x_more X _ _ _ _ _ _ _ _ _ ih
def zP (X : Option (List Int32)) (d M pc : Nat) (ls : zL) (st : List Value) (S : zS) (h : zH) (Q : Option Value → zH → Prop) : Prop := ∃ (n : Nat) (r : Option Value) (h' : zH), z_x X n d M pc ls st S h = some (r, S, h') ∧ Q r h'
section ZROW
variable {X : Option (List Int32)} {d M pc len pc' idx : Nat} {ls ls' : zL} {st st' r : List Value} {S : zS} {h h' : zH} {Q : Option Value → zH → Prop} {e : zM} {ins : Instr}
theorem zP.mono {Q' : Option Value → zH → Prop} (k : zP X d M pc ls st S h Q) (hq : ∀ r h', Q r h' → Q' r h') : zP X d M pc ls st S h Q' := by
  obtain ⟨n, r, h', hx, hQ⟩ := k
  exact ⟨n, r, h', hx, hq r h' hQ⟩
theorem zl (he : z_M[M]? = some e) (hf : e.2.2.2.2.2.lookup pc = some (ins, len)) (hl : z_loc ins len pc ls st = some (pc', ls', st')) (k : zP X d M pc' ls' st' S h Q) : zP X d M pc ls st S h Q := by
  obtain ⟨n, r, h', hx, hq⟩ := k
  refine ⟨n + 1, r, h', ?_, hq⟩
  rw [z_x]
  simp only [he, hf, hl]
  exact hx
theorem zm (he : z_M[M]? = some e) (hf : e.2.2.2.2.2.lookup pc = some (ins, len)) (hl : z_loc ins len pc ls st = none) (hm : z_mem X d e.2.2.2.2.1 (decide (e.1.name = "<init>")) ins len st S h = some (st', S, h')) (k : zP X d M (pc + len) ls st' S h' Q) : zP X d M pc ls st S h Q := by
  obtain ⟨n, r, h2, hx, hq⟩ := k
  refine ⟨n + 1, r, h2, ?_, hq⟩
  rw [z_x]
  simp only [he, hf, hl, hm]
  exact hx
theorem zret {rv : Option Value} (he : z_M[M]? = some e) (hf : e.2.2.2.2.2.lookup pc = some (ins, len)) (hl : z_loc ins len pc ls st = none) (hm : z_mem X d e.2.2.2.2.1 (decide (e.1.name = "<init>")) ins len st S h = none) (hr : z_ret e.2.2.2.1 ins len st = some rv) (k : Q rv h) : zP X d M pc ls st S h Q := by
  refine ⟨1, rv, h, ?_, k⟩
  rw [z_x]
  simp only [he, hf, hl, hm, hr]
theorem zcall {M' d' : Nat} {vs rest : List Value} {e' : zM} (he : z_M[M]? = some e) (hf : e.2.2.2.2.2.lookup pc = some (ins, len)) (hl : z_loc ins len pc ls st = none) (hm : z_mem X (d' + 1) e.2.2.2.2.1 (decide (e.1.name = "<init>")) ins len st S h = none) (hr : z_ret e.2.2.2.1 ins len st = none) (hv : z_inv e.2.2.2.2.1 ins len st S = some (M', vs, rest)) (he' : z_M[M']? = some e') (hsl : (z_sl vs).length ≤ e'.2.2.1)
    (k : zP X d' M' 0 (z_ent vs e'.2.2.1) [] S h (fun r h1 => zP X (d' + 1) M (pc + 3) ls (r.toList ++ rest) S h1 Q)) : zP X (d' + 1) M pc ls st S h Q := by
  obtain ⟨n1, r1, h1, hx1, n2, r2, h2, hx2, hq⟩ := k
  refine ⟨max n1 n2 + 1, r2, h2, ?_, hq⟩
  rw [z_x]
  simp only [he, hf, hl, hm, hr, hv, he', if_pos hsl, z_x_le_n X (Nat.le_max_left n1 n2) hx1]
  exact z_x_le_n X (Nat.le_max_right n1 n2) hx2
/-! branches -/
theorem z_br_if {off : Int} {tgt : Nat} (ht : z_br pc off = some tgt) (b : Bool) : z_jmp pc b off ls st = some (if b = true then tgt else pc + 3, ls, st) := by unfold z_jmp; rw [ht]
theorem zif1 {c : Jvm.ClassFile.Cond} {off : Int} {tgt : Nat} {x : Int32} (he : z_M[M]? = some e) (hf : e.2.2.2.2.2.lookup pc = some (.ifCond c off, 3)) (ht : z_br pc off = some tgt) (kt : z_cond c x 0 = true → zP X d M tgt ls st S h Q) (kf : z_cond c x 0 = false → zP X d M (pc + 3) ls st S h Q) : zP X d M pc ls (.int x :: st) S h Q := by
  refine zl he hf (pc' := if z_cond c x 0 = true then tgt else pc + 3) (ls' := ls) (st' := st) ?_ ?_
  · show (if 3 = 3 then z_jmp pc (z_cond c x 0) off ls st else none) = _
    rw [if_pos rfl, z_br_if ht]
  · cases hb : z_cond c x 0 with
    | true => exact kt hb
    | false => exact kf hb
theorem zif2 {c : Jvm.ClassFile.Cond} {off : Int} {tgt : Nat} {x y : Int32} (he : z_M[M]? = some e) (hf : e.2.2.2.2.2.lookup pc = some (.if_icmp c off, 3)) (ht : z_br pc off = some tgt) (kt : z_cond c x y = true → zP X d M tgt ls st S h Q) (kf : z_cond c x y = false → zP X d M (pc + 3) ls st S h Q) : zP X d M pc ls (.int y :: .int x :: st) S h Q := by
  refine zl he hf (pc' := if z_cond c x y = true then tgt else pc + 3) (ls' := ls) (st' := st) ?_ ?_
  · show (if 3 = 3 then z_jmp pc (z_cond c x y) off ls st else none) = _
    rw [if_pos rfl, z_br_if ht]
  · cases hb : z_cond c x y with
    | true => exact kt hb
    | false => exact kf hb
/-! fields and arrays, by what is known of the shape -/
theorem zgi {k ci j : Nat} {fs : List (Option (Option Nat))} (he : z_M[M]? = some e) (hf : e.2.2.2.2.2.lookup pc = some (.getfield idx, 3)) (hk : k < 100000) (hfl : z_fl e.2.2.2.2.1 idx = some (ci, j)) (hS : S[k]? = some (.inr (.inr (ci, fs)))) (hj : fs[j]? = some none) (kk : zP X d M (pc + 3) ls (.int (h k j) :: st) S h Q) : zP X d M pc ls (.ref k :: st) S h Q := by
  refine zm he hf rfl (st' := .int (h k j) :: st) (h' := h) ?_ kk
  show (if 3 = 3 then z_getf e.2.2.2.2.1 idx k st S h else none) = _
  rw [if_pos rfl]
  unfold z_getf
  rw [if_pos hk, hfl]
  simp only [z_obj, hS, if_pos, hj]
theorem zgr {k ci j : Nat} {a : Option Nat} {fs : List (Option (Option Nat))} (he : z_M[M]? = some e) (hf : e.2.2.2.2.2.lookup pc = some (.getfield idx, 3)) (hk : k < 100000) (hfl : z_fl e.2.2.2.2.1 idx = some (ci, j)) (hS : S[k]? = some (.inr (.inr (ci, fs)))) (hj : fs[j]? = some (some a)) (kk : zP X d M (pc + 3) ls (z_rf a :: st) S h Q) : zP X d M pc ls (.ref k :: st) S h Q := by
  refine zm he hf rfl (st' := z_rf a :: st) (h' := h) ?_ kk
  show (if 3 = 3 then z_getf e.2.2.2.2.1 idx k st S h else none) = _
  rw [if_pos rfl]
  unfold z_getf
  rw [if_pos hk, hfl]
  simp only [z_obj, hS, if_pos, hj]
theorem zpi {k ci j : Nat} {x : Int32} {fs : List (Option (Option Nat))} (he : z_M[M]? = some e) (hf : e.2.2.2.2.2.lookup pc = some (.putfield idx, 3)) (hk : k < 100000) (hfl : z_fl e.2.2.2.2.1 idx = some (ci, j)) (hS : S[k]? = some (.inr (.inr (ci, fs)))) (hj : fs[j]? = some none) (ht : z_fty ci j = .int) (kk : zP X d M (pc + 3) ls st S (z_up h k j x) Q) : zP X d M pc ls (.int x :: .ref k :: st) S h Q := by
  refine zm he hf rfl (st' := st) (h' := z_up h k j x) ?_ kk
  show (if 3 = 3 then z_putf e.2.2.2.2.1 _ idx (.int x) k st S h else none) = _
  rw [if_pos rfl]
  unfold z_putf
  rw [if_pos hk, hfl]
  simp only [z_obj, hS, if_pos, hj, ht]
theorem zia {k n : Nat} {i : Int32} (he : z_M[M]? = some e) (hf : e.2.2.2.2.2.lookup pc = some (.iaload, 1)) (hk : k < 100000) (hS : S[k]? = some (.inl (.int, n))) (hi : vp_in i n) (kk : zP X d M (pc + 1) ls (.int (h k i.toNatClampNeg) :: st) S h Q) : zP X d M pc ls (.int i :: .ref k :: st) S h Q := by
  refine zm he hf rfl (st' := .int (h k i.toNatClampNeg) :: st) (h' := h) ?_ kk
  show (if 1 = 1 then z_ald [.int] i k st X S h else none) = _
  rw [if_pos rfl]
  unfold z_ald
  rw [if_pos hk]
  simp only [z_arr, hS]
  rw [if_pos ⟨List.mem_singleton.mpr rfl, hi⟩]
theorem zro {k : Nat} {l : List Int32} {i : Int32} (he : z_M[M]? = some e) (hf : e.2.2.2.2.2.lookup pc = some (.iaload, 1)) (hk : ¬ k < 100000) (hS : z_roA X (k - 100000) = some (.int, l)) (hi : vp_in i l.length) (kk : zP X d M (pc + 1) ls (.int (l.getD i.toNatClampNeg 0) :: st) S h Q) : zP X d M pc ls (.int i :: .ref k :: st) S h Q := by
  refine zm he hf rfl (st' := .int (l.getD i.toNatClampNeg 0) :: st) (h' := h) ?_ kk
  show (if 1 = 1 then z_ald [.int] i k st X S h else none) = _
  rw [if_pos rfl]
  unfold z_ald
  rw [if_neg hk]
  simp only [hS]
  rw [if_pos ⟨List.mem_singleton.mpr rfl, hi⟩]
theorem zba {k n : Nat} {ty : FieldType} {i : Int32} (he : z_M[M]? = some e) (hf : e.2.2.2.2.2.lookup pc = some (.baload, 1)) (hk : k < 100000) (hS : S[k]? = some (.inl (ty, n))) (ht : ty ∈ ([.byte, .boolean] : List FieldType)) (hi : vp_in i n) (kk : zP X d M (pc + 1) ls (.int (h k i.toNatClampNeg) :: st) S h Q) : zP X d M pc ls (.int i :: .ref k :: st) S h Q := by
  refine zm he hf rfl (st' := .int (h k i.toNatClampNeg) :: st) (h' := h) ?_ kk
  show (if 1 = 1 then z_ald [.byte, .boolean] i k st X S h else none) = _
  rw [if_pos rfl]
  unfold z_ald
  rw [if_pos hk]
  simp only [z_arr, hS]
  rw [if_pos ⟨ht, hi⟩]
theorem zca {k n : Nat} {i : Int32} (he : z_M[M]? = some e) (hf : e.2.2.2.2.2.lookup pc = some (.caload, 1)) (hk : k < 100000) (hS : S[k]? = some (.inl (.char, n))) (hi : vp_in i n) (kk : zP X d M (pc + 1) ls (.int (h k i.toNatClampNeg) :: st) S h Q) : zP X d M pc ls (.int i :: .ref k :: st) S h Q := by
  refine zm he hf rfl (st' := .int (h k i.toNatClampNeg) :: st) (h' := h) ?_ kk
  show (if 1 = 1 then z_ald [.char] i k st X S h else none) = _
  rw [if_pos rfl]
  unfold z_ald
  rw [if_pos hk]
  simp only [z_arr, hS]
  rw [if_pos ⟨List.mem_singleton.mpr rfl, hi⟩]
theorem zis {k n : Nat} {x i : Int32} (he : z_M[M]? = some e) (hf : e.2.2.2.2.2.lookup pc = some (.iastore, 1)) (hk : k < 100000) (hS : S[k]? = some (.inl (.int, n))) (hi : vp_in i n) (kk : zP X d M (pc + 1) ls st S (z_up h k i.toNatClampNeg x) Q) : zP X d M pc ls (.int x :: .int i :: .ref k :: st) S h Q := by
  refine zm he hf rfl (st' := st) (h' := z_up h k i.toNatClampNeg x) ?_ kk
  show (if 1 = 1 then z_ast [.int] x i k st S h else none) = _
  rw [if_pos rfl]
  unfold z_ast
  rw [if_pos hk]
  simp only [z_arr, hS]
  rw [if_pos ⟨List.mem_singleton.mpr rfl, hi⟩]
  simp only [if_pos]
theorem zbs {k n : Nat} {ty : FieldType} {x i : Int32} (he : z_M[M]? = some e) (hf : e.2.2.2.2.2.lookup pc = some (.bastore, 1)) (hk : k < 100000) (hS : S[k]? = some (.inl (ty, n))) (ht : ty ∈ ([.byte, .boolean] : List FieldType)) (hi : vp_in i n) (kk : zP X d M (pc + 1) ls st S (z_up h k i.toNatClampNeg (vp_nar ty x)) Q) : zP X d M pc ls (.int x :: .int i :: .ref k :: st) S h Q := by
  refine zm he hf rfl (st' := st) (h' := z_up h k i.toNatClampNeg (vp_nar ty x)) ?_ kk
  show (if 1 = 1 then z_ast [.byte, .boolean] x i k st S h else none) = _
  rw [if_pos rfl]
  unfold z_ast
  rw [if_pos hk]
  simp only [z_arr, hS]
  rw [if_pos ⟨ht, hi⟩, if_neg (by rintro rfl; revert ht; decide)]
theorem zaa {k : Nat} {ty : FieldType} {rs : List (Option Nat)} {i : Int32} (he : z_M[M]? = some e) (hf : e.2.2.2.2.2.lookup pc = some (.aaload, 1)) (hk : k < 100000) (hS : S[k]? = some (.inr (.inl (ty, rs)))) (ht : ty ∈ z_rty) (hi : vp_in i rs.length) (kk : zP X d M (pc + 1) ls (z_rf (rs.getD i.toNatClampNeg none) :: st) S h Q) : zP X d M pc ls (.int i :: .ref k :: st) S h Q := by
  refine zm he hf rfl (st' := z_rf (rs.getD i.toNatClampNeg none) :: st) (h' := h) ?_ kk
  show (if 1 = 1 then z_aal i k st S h else none) = _
  rw [if_pos rfl]
  unfold z_aal
  rw [if_pos hk]
  simp only [z_rar, hS]
  rw [if_pos ⟨ht, hi⟩]
theorem zln {k n : Nat} {ty : FieldType} (he : z_M[M]? = some e) (hf : e.2.2.2.2.2.lookup pc = some (.arraylength, 1)) (hk : k < 100000) (hS : S[k]? = some (.inl (ty, n))) (ht : ty ∈ ([.int, .boolean, .byte, .char] : List FieldType)) (kk : zP X d M (pc + 1) ls (.int (Int32.ofNat n) :: st) S h Q) : zP X d M pc ls (.ref k :: st) S h Q := by
  refine zm he hf rfl (st' := .int (Int32.ofNat n) :: st) (h' := h) ?_ kk
  show (if 1 = 1 then z_aln k st X S h else none) = _
  rw [if_pos rfl]
  unfold z_aln
  rw [if_pos hk]
  simp only [hS]
  rw [if_pos ht]
end ZROW
end
section
/-! fewer locals known: the same run -/
def z_lels : zL → zL → Prop
  | [], [] => True
  | none :: a, _ :: b => z_lels a b
  | some v :: a, o :: b => o = some v ∧ z_lels a b
  | _, _ => False
theorem z_lels_get : ∀ (a b : zL) (i : Nat) (v : Value), z_lels a b → z_get a i = some v → z_get b i = some v
  | [], [], i, v, _, h => by simp [z_get] at h
  | [], _ :: _, i, v, hl, h => by cases hl
  | none :: a, [], i, v, hl, h => by cases hl
  | some _ :: a, [], i, v, hl, h => by cases hl
  | none :: a, o :: b, 0, v, hl, h => by simp [z_get] at h
  | none :: a, o :: b, i + 1, v, hl, h => by
    have h1 : z_get a i = some v := h
    exact z_lels_get a b i v hl h1
  | some w :: a, o :: b, 0, v, hl, h => by
    obtain ⟨rfl, -⟩ := hl
    exact h
  | some w :: a, o :: b, i + 1, v, hl, h => by
    have h1 : z_get a i = some v := h
    exact z_lels_get a b i v hl.2 h1
theorem z_lels_len : ∀ (a b : zL), z_lels a b → a.length = b.length
  | [], [], _ => rfl
  | [], _ :: _, h => by cases h
  | none :: a, [], h => by cases h
  | some _ :: a, [], h => by cases h
  | none :: a, o :: b, h => by
    have := z_lels_len a b h
    simp [this]
  | some w :: a, o :: b, h => by
    have := z_lels_len a b h.2
    simp [this]
theorem z_lels_set : ∀ (a b : zL) (i : Nat) (o : Option Value), z_lels a b → z_lels (a.set i o) (b.set i o)
  | [], [], i, o, _ => trivial
  | [], _ :: _, i, o, h => by cases h
  | none :: a, [], i, o, h => by cases h
  | some _ :: a, [], i, o, h => by cases h
  | none :: a, p :: b, 0, none, h => h
  | none :: a, p :: b, 0, some v, h => ⟨rfl, h⟩
  | some w :: a, p :: b, 0, none, h => h.2
  | some w :: a, p :: b, 0, some v, h => ⟨rfl, h.2⟩
  | none :: a, p :: b, i + 1, o, h => z_lels_set a b i o h
  | some w :: a, p :: b, i + 1, o, h => ⟨h.1, z_lels_set a b i o h.2⟩
theorem z_lels_setN : ∀ (a b : zL) (i : Nat), z_lels a b → z_get a i = none → z_lels a (b.set i none)
  | [], [], i, _, _ => trivial
  | [], _ :: _, i, h, _ => by cases h
  | none :: a, [], i, h, _ => by cases h
  | some _ :: a, [], i, h, _ => by cases h
  | none :: a, p :: b, 0, h, _ => h
  | some w :: a, p :: b, 0, h, hn => by simp [z_get] at hn
  | none :: a, p :: b, i + 1, h, hn => by
    have h1 : z_get a i = none := hn
    exact z_lels_setN a b i h h1
  | some w :: a, p :: b, i + 1, h, hn => by
    have h1 : z_get a i = none := hn
    exact ⟨h.1, z_lels_setN a b i h.2 h1⟩
theorem z_lels_clr {a b : zL} (i : Nat) (h : z_lels a b) : z_lels (z_clr a i) (z_clr b i) := by
  unfold z_clr
  cases i with
  | zero => exact h
  | succ j =>
    dsimp only
    cases ha : z_get a j with
    | some v =>
      rw [z_lels_get a b j v h ha]
      split
      · exact z_lels_set a b j none h
      · exact h
    | none =>
      rw [if_neg (by simp [z_is2])]
      split
      · exact z_lels_setN a b j h ha
      · exact h
theorem z_lels_st1 {a b : zL} (i : Nat) (v : Value) (h : z_lels a b) : z_lels (z_st1 a i v) (z_st1 b i v) := z_lels_set _ _ i _ (z_lels_clr i h)
theorem z_lels_st2 {a b : zL} (i : Nat) (v : Value) (h : z_lels a b) : z_lels (z_st2 a i v) (z_st2 b i v) := z_lels_set _ _ _ _ (z_lels_set _ _ i _ (z_lels_clr i h))
theorem z_ld_w {t k len pc i : Nat} {a b : zL} {st : List Value} {q : Nat × zL × List Value} (h : z_lels a b) (hz : z_ld t k len pc a st i = some q) : ∃ b', z_ld t k len pc b st i = some (q.1, b', q.2.2) ∧ z_lels q.2.1 b' := by
  unfold z_ld at hz ⊢
  split at hz
  · next v hv =>
    rw [z_lels_get a b i v h hv]
    split at hz
    · next hc => cases hz; exact ⟨b, by simp only [if_pos hc], h⟩
    · cases hz
  · cases hz
theorem z_sto_w {t k len pc i : Nat} {a b : zL} {st : List Value} {q : Nat × zL × List Value} (h : z_lels a b) (hz : z_sto t k len pc a st i = some q) : ∃ b', z_sto t k len pc b st i = some (q.1, b', q.2.2) ∧ z_lels q.2.1 b' := by
  have hlen := z_lels_len a b h
  unfold z_sto at hz ⊢
  split at hz
  · next v r =>
    split at hz
    · next hc =>
      rw [if_pos hc]
      split at hz
      · next h1 =>
        rw [if_pos h1]
        split at hz
        · next h2 => cases hz; exact ⟨z_st2 b i v, by rw [if_pos (by rw [← hlen]; exact h2)], z_lels_st2 i v h⟩
        · cases hz
      · next h1 =>
        rw [if_neg h1]
        split at hz
        · next h2 => cases hz; exact ⟨z_st1 b i v, by rw [if_pos (by rw [← hlen]; exact h2)], z_lels_st1 i v h⟩
        · cases hz
    · cases hz
  · cases hz
theorem z_push_w {k len pc : Nat} {v : Value} {a b : zL} {st : List Value} {q : Nat × zL × List Value} (h : z_lels a b) (hz : z_push k len pc a st v = some q) : ∃ b', z_push k len pc b st v = some (q.1, b', q.2.2) ∧ z_lels q.2.1 b' := by
  unfold z_push at hz ⊢
  split at hz
  · next hc => cases hz; exact ⟨b, by rw [if_pos hc], h⟩
  · cases hz
theorem z_ii_w {f : Int32 → Int32 → Int32} {len pc : Nat} {a b : zL} {st : List Value} {q : Nat × zL × List Value} (h : z_lels a b) (hz : z_ii f len pc a st = some q) : ∃ b', z_ii f len pc b st = some (q.1, b', q.2.2) ∧ z_lels q.2.1 b' := by
  unfold z_ii at hz ⊢
  split at hz
  · split at hz
    · next hc => cases hz; exact ⟨b, by simp only [if_pos hc], h⟩
    · cases hz
  · cases hz
theorem z_dv_w {f : Int32 → Int32 → Int32} {len pc : Nat} {a b : zL} {st : List Value} {q : Nat × zL × List Value} (h : z_lels a b) (hz : z_dv f len pc a st = some q) : ∃ b', z_dv f len pc b st = some (q.1, b', q.2.2) ∧ z_lels q.2.1 b' := by
  unfold z_dv at hz ⊢
  split at hz
  · split at hz
    · next hc => cases hz; exact ⟨b, by simp only [if_pos hc], h⟩
    · cases hz
  · cases hz
theorem z_ll_w {f : Int64 → Int64 → Int64} {len pc : Nat} {a b : zL} {st : List Value} {q : Nat × zL × List Value} (h : z_lels a b) (hz : z_ll f len pc a st = some q) : ∃ b', z_ll f len pc b st = some (q.1, b', q.2.2) ∧ z_lels q.2.1 b' := by
  unfold z_ll at hz ⊢
  split at hz
  · split at hz
    · next hc => cases hz; exact ⟨b, by simp only [if_pos hc], h⟩
    · cases hz
  · cases hz
theorem z_li_w {f : Int64 → Int32 → Int64} {len pc : Nat} {a b : zL} {st : List Value} {q : Nat × zL × List Value} (h : z_lels a b) (hz : z_li f len pc a st = some q) : ∃ b', z_li f len pc b st = some (q.1, b', q.2.2) ∧ z_lels q.2.1 b' := by
  unfold z_li at hz ⊢
  split at hz
  · split at hz
    · next hc => cases hz; exact ⟨b, by simp only [if_pos hc], h⟩
    · cases hz
  · cases hz
theorem z_i1_w {f : Int32 → Value} {len pc : Nat} {a b : zL} {st : List Value} {q : Nat × zL × List Value} (h : z_lels a b) (hz : z_i1 f len pc a st = some q) : ∃ b', z_i1 f len pc b st = some (q.1, b', q.2.2) ∧ z_lels q.2.1 b' := by
  unfold z_i1 at hz ⊢
  split at hz
  · split at hz
    · next hc => cases hz; exact ⟨b, by simp only [if_pos hc], h⟩
    · cases hz
  · cases hz
theorem z_l1_w {f : Int64 → Value} {len pc : Nat} {a b : zL} {st : List Value} {q : Nat × zL × List Value} (h : z_lels a b) (hz : z_l1 f len pc a st = some q) : ∃ b', z_l1 f len pc b st = some (q.1, b', q.2.2) ∧ z_lels q.2.1 b' := by
  unfold z_l1 at hz ⊢
  split at hz
  · split at hz
    · next hc => cases hz; exact ⟨b, by simp only [if_pos hc], h⟩
    · cases hz
  · cases hz
theorem z_jmp_w {off : Int} {x : Bool} {pc : Nat} {a b : zL} {st : List Value} {q : Nat × zL × List Value} (h : z_lels a b) (hz : z_jmp pc x off a st = some q) : ∃ b', z_jmp pc x off b st = some (q.1, b', q.2.2) ∧ z_lels q.2.1 b' := by
  unfold z_jmp at hz ⊢
  split at hz
  · cases hz; exact ⟨b, rfl, h⟩
  · cases hz
theorem z_tsw_w {dflt lo hi : Int} {offs : Array Int} {pc : Nat} {a b : zL} {st : List Value} {q : Nat × zL × List Value} (h : z_lels a b) (hz : z_tsw dflt lo hi offs pc a st = some q) : ∃ b', z_tsw dflt lo hi offs pc b st = some (q.1, b', q.2.2) ∧ z_lels q.2.1 b' := by
  unfold z_tsw at hz ⊢
  split at hz
  · split at hz
    · next hc =>
      simp only [if_pos hc]
      split at hz
      · cases hz; exact ⟨b, rfl, h⟩
      · cases hz
    · next hc =>
      simp only [if_neg hc]
      split at hz
      · split at hz
        · cases hz; exact ⟨b, rfl, h⟩
        · cases hz
      · cases hz
  · cases hz
set_option maxHeartbeats 2000000 in
theorem z_loc_w {ins : Instr} {len pc : Nat} {a b : zL} {st : List Value} {q : Nat × zL × List Value} (h : z_lels a b) (hz : z_loc ins len pc a st = some q) : ∃ b', z_loc ins len pc b st = some (q.1, b', q.2.2) ∧ z_lels q.2.1 b' := by
  unfold z_loc at hz ⊢
  split at hz
  · exact z_push_w h hz
  · exact z_push_w h hz
  · exact z_push_w h hz
  · exact z_push_w h hz
  · exact z_push_w h hz
  · exact z_ld_w h hz
  · exact z_ld_w h hz
  · exact z_ld_w h hz
  · exact z_ld_w h hz
  · exact z_ld_w h hz
  · exact z_ld_w h hz
  · exact z_sto_w h hz
  · exact z_sto_w h hz
  · exact z_sto_w h hz
  · exact z_sto_w h hz
  · exact z_sto_w h hz
  · exact z_sto_w h hz
  · split at hz
    · next x hx =>
      rw [z_lels_get a b _ _ h hx]
      split at hz
      · next hc => cases hz; exact ⟨z_st1 b _ _, by simp only [if_pos (show _ ∧ _ < b.length by rw [← z_lels_len a b h]; exact hc)], z_lels_st1 _ _ h⟩
      · cases hz
    · cases hz
  · exact z_ii_w h hz
  · exact z_ii_w h hz
  · exact z_ii_w h hz
  · exact z_ii_w h hz
  · exact z_ii_w h hz
  · exact z_ii_w h hz
  · exact z_ii_w h hz
  · exact z_ii_w h hz
  · exact z_ii_w h hz
  · exact z_dv_w h hz
  · exact z_dv_w h hz
  · exact z_ll_w h hz
  · exact z_ll_w h hz
  · exact z_ll_w h hz
  · exact z_ll_w h hz
  · exact z_ll_w h hz
  · exact z_ll_w h hz
  · exact z_li_w h hz
  · exact z_li_w h hz
  · exact z_li_w h hz
  · exact z_i1_w h hz
  · exact z_i1_w h hz
  · exact z_i1_w h hz
  · exact z_i1_w h hz
  · exact z_i1_w h hz
  · exact z_l1_w h hz
  · split at hz
    · split at hz
      · next hc => cases hz; exact ⟨b, by simp only [if_pos hc], h⟩
      · cases hz
    · cases hz
  · split at hz
    · split at hz
      · next hc => cases hz; exact ⟨b, by simp only [if_pos hc], h⟩
      · cases hz
    · cases hz
  · split at hz
    · split at hz
      · next hc => cases hz; exact ⟨b, by simp only [if_pos hc], h⟩
      · cases hz
    · cases hz
  · split at hz
    · split at hz
      · next hc => cases hz; exact ⟨b, by simp only [if_pos hc], h⟩
      · cases hz
    · cases hz
  · split at hz
    · split at hz
      · next hc => cases hz; exact ⟨b, by simp only [if_pos hc], h⟩
      · cases hz
    · cases hz
  · split at hz
    · next hc => simp only [if_pos hc]; exact z_jmp_w h hz
    · cases hz
  · split at hz
    · split at hz
      · next hc => simp only [if_pos hc]; exact z_jmp_w h hz
      · cases hz
    · cases hz
  · split at hz
    · split at hz
      · next hc => simp only [if_pos hc]; exact z_jmp_w h hz
      · cases hz
    · cases hz
  · exact z_tsw_w h hz
  · cases hz
theorem z_loc_wn {ins : Instr} {len pc : Nat} {a b : zL} {st : List Value} {X : Option (List Int32)} {d own : Nat} {i : Bool} {S : zS} {h : zH} {ret : Option FieldType} (hz : z_loc ins len pc a st = none) (hr : z_mem X d own i ins len st S h ≠ none ∨ z_ret ret ins len st ≠ none ∨ z_inv own ins len st S ≠ none) : z_loc ins len pc b st = none := by
  cases ins <;> first
    | rfl
    | (exfalso; rcases hr with h | h | h <;> exact h rfl)
theorem z_x_w (X : Option (List Int32)) : ∀ (n d M pc : Nat) (a b : zL) (st : List Value) (S : zS) (h : zH) (o : Option Value × zS × zH), z_lels a b → z_x X n d M pc a st S h = some o → z_x X n d M pc b st S h = some o
  | 0, d, M, pc, a, b, st, S, h, o, hl, hx => by simp [z_x] at hx
  | n + 1, d, M, pc, a, b, st, S, h, o, hl, hx => by
    rw [z_x] at hx
    rw [z_x]
    cases h1 : z_M[M]? with
    | none => simp only [h1] at hx; cases hx
    | some e =>
      simp only [h1] at hx ⊢
      cases h2 : e.2.2.2.2.2.lookup pc with
      | none => simp only [h2] at hx; cases hx
      | some q =>
        obtain ⟨ins, len⟩ := q
        simp only [h2] at hx ⊢
        cases h3 : z_loc ins len pc a st with
        | some q =>
          obtain ⟨pc', ls', st'⟩ := q
          simp only [h3] at hx
          obtain ⟨b', hb, hl'⟩ := z_loc_w hl h3
          simp only [hb]
          exact z_x_w X n _ _ _ _ _ _ _ _ _ hl' hx
        | none =>
          simp only [h3] at hx
          cases h4 : z_mem X d e.2.2.2.2.1 (decide (e.1.name = "<init>")) ins len st S h with
          | some q =>
            obtain ⟨st', S', h'⟩ := q
            simp only [h4] at hx
            simp only [z_loc_wn (b := b) (ret := none) h3 (Or.inl (by rw [h4]; simp)), h4]
            exact z_x_w X n _ _ _ _ _ _ _ _ _ hl hx
          | none =>
            simp only [h4] at hx
            cases h5 : z_ret e.2.2.2.1 ins len st with
            | some r =>
              simp only [h5] at hx
              simp only [z_loc_wn (b := b) (X := X) (d := d) (own := 0) (i := true) (S := S) (h := h) h3 (Or.inr (Or.inl (by rw [h5]; simp))), h4, h5]
              exact hx
            | none =>
              simp only [h5] at hx
              cases h6 : z_inv e.2.2.2.2.1 ins len st S with
              | none => simp only [h6] at hx; cases hx
              | some q =>
                obtain ⟨M', vs, rest⟩ := q
                simp only [z_loc_wn (b := b) (X := X) (d := d) (i := true) (h := h) (ret := none) h3 (Or.inr (Or.inr (by rw [h6]; simp))), h4, h5]
                cases d with
                | zero => simp only [h6] at hx; cases hx
                | succ d' =>
                  simp only [h6] at hx ⊢
                  cases h7 : z_M[M']? with
                  | none => simp only [h7] at hx; cases hx
                  | some e' =>
                    simp only [h7] at hx ⊢
                    split at hx
                    · next hsl =>
                      simp only [if_pos hsl]
                      cases h8 : z_x X n d' M' 0 (z_ent vs e'.2.2.1) [] S h with
                      | none => simp only [h8] at hx; cases hx
                      | some q =>
                        obtain ⟨r, S1, h1'⟩ := q
                        simp only [h8] at hx ⊢
                        exact z_x_w X n _ _ _ _ _ _ _ _ _ hl hx
                    · cases hx
theorem zweak {X : Option (List Int32)} {d M pc : Nat} {a b : zL} {st : List Value} {S : zS} {h : zH} {Q : Option Value → zH → Prop} (hl : z_lels a b) (k : zP X d M pc a st S h Q) : zP X d M pc b st S h Q := by
  obtain ⟨n, r, h', hx, hq⟩ := k
  exact ⟨n, r, h', z_x_w X n _ _ _ _ _ _ _ _ _ hl hx, hq⟩
end
