-- ===== PART A: goes FIRST, ahead of the names: the tables' words, and 'selects' of the private methods out of them =====
/-- a private method of a class that the tables say can be made, by its rows of tables_1 -/
def lw_okq (q : MethodName × Nat) : Prop := (q.1.cls ≠ "java/lang/invoke/MethodHandle" ∧ q.1.cls ≠ "java/lang/invoke/VarHandle") ∧ Cond.instantiable q.1.cls q.2 ∈ tables_1 ∧ Cond.privateMethod q.1 ∈ tables_1 ∧ Cond.instanceMethod q.1 ∈ tables_1
theorem lw_p0 : lw_okq (⟨"ThatchNext$Reader", "advance", "()V"⟩, 10) := ⟨⟨by decide +kernel, by decide +kernel⟩, List.mem_of_getElem? (i := 26) (by decide +kernel), List.mem_of_getElem? (i := 305) (by decide +kernel), List.mem_of_getElem? (i := 306) (by decide +kernel)⟩
theorem lw_p1 : lw_okq (⟨"ThatchNext$Reader", "fail", "(I)V"⟩, 10) := ⟨⟨by decide +kernel, by decide +kernel⟩, List.mem_of_getElem? (i := 26) (by decide +kernel), List.mem_of_getElem? (i := 315) (by decide +kernel), List.mem_of_getElem? (i := 316) (by decide +kernel)⟩
theorem lw_p2 : lw_okq (⟨"ThatchNext$Reader", "readLine", "()V"⟩, 10) := ⟨⟨by decide +kernel, by decide +kernel⟩, List.mem_of_getElem? (i := 26) (by decide +kernel), List.mem_of_getElem? (i := 319) (by decide +kernel), List.mem_of_getElem? (i := 320) (by decide +kernel)⟩
theorem lw_p3 : lw_okq (⟨"ThatchNext$Reader", "isWord", "(Ljava/lang/String;)Z"⟩, 10) := ⟨⟨by decide +kernel, by decide +kernel⟩, List.mem_of_getElem? (i := 26) (by decide +kernel), List.mem_of_getElem? (i := 324) (by decide +kernel), List.mem_of_getElem? (i := 325) (by decide +kernel)⟩
theorem lw_p4 : lw_okq (⟨"ThatchNext$Reader", "readRoof", "()V"⟩, 10) := ⟨⟨by decide +kernel, by decide +kernel⟩, List.mem_of_getElem? (i := 26) (by decide +kernel), List.mem_of_getElem? (i := 376) (by decide +kernel), List.mem_of_getElem? (i := 377) (by decide +kernel)⟩
theorem lw_p5 : lw_okq (⟨"ThatchNext$Reader", "readLayer", "(II)V"⟩, 10) := ⟨⟨by decide +kernel, by decide +kernel⟩, List.mem_of_getElem? (i := 26) (by decide +kernel), List.mem_of_getElem? (i := 383) (by decide +kernel), List.mem_of_getElem? (i := 384) (by decide +kernel)⟩
theorem lw_p6 : lw_okq (⟨"ThatchNext$Reader", "readNumber", "(II)I"⟩, 10) := ⟨⟨by decide +kernel, by decide +kernel⟩, List.mem_of_getElem? (i := 26) (by decide +kernel), List.mem_of_getElem? (i := 387) (by decide +kernel), List.mem_of_getElem? (i := 388) (by decide +kernel)⟩
theorem lw_p7 : lw_okq (⟨"ThatchNext$Reader", "endLine", "()V"⟩, 10) := ⟨⟨by decide +kernel, by decide +kernel⟩, List.mem_of_getElem? (i := 26) (by decide +kernel), List.mem_of_getElem? (i := 414) (by decide +kernel), List.mem_of_getElem? (i := 415) (by decide +kernel)⟩
theorem lw_p8 : lw_okq (⟨"ThatchNext$World", "takeOld", "(III)V"⟩, 16) := ⟨⟨by decide +kernel, by decide +kernel⟩, List.mem_of_getElem? (i := 32) (by decide +kernel), List.mem_of_getElem? (i := 514) (by decide +kernel), List.mem_of_getElem? (i := 515) (by decide +kernel)⟩
theorem lw_p9 : lw_okq (⟨"ThatchNext$World", "sourceFor", "(II)I"⟩, 16) := ⟨⟨by decide +kernel, by decide +kernel⟩, List.mem_of_getElem? (i := 32) (by decide +kernel), List.mem_of_getElem? (i := 533) (by decide +kernel), List.mem_of_getElem? (i := 534) (by decide +kernel)⟩
theorem lw_p10 : lw_okq (⟨"ThatchNext", "thatchRefusal", "(I)I"⟩, 11) := ⟨⟨by decide +kernel, by decide +kernel⟩, List.mem_of_getElem? (i := 18) (by decide +kernel), List.mem_of_getElem? (i := 602) (by decide +kernel), List.mem_of_getElem? (i := 603) (by decide +kernel)⟩
theorem lw_p11 : lw_okq (⟨"ThatchNext", "harmedBy", "(I)I"⟩, 11) := ⟨⟨by decide +kernel, by decide +kernel⟩, List.mem_of_getElem? (i := 18) (by decide +kernel), List.mem_of_getElem? (i := 630) (by decide +kernel), List.mem_of_getElem? (i := 631) (by decide +kernel)⟩
theorem lw_p12 : lw_okq (⟨"ThatchNext$DrySearch", "laidByNeed", "()I"⟩, 5) := ⟨⟨by decide +kernel, by decide +kernel⟩, List.mem_of_getElem? (i := 172) (by decide +kernel), List.mem_of_getElem? (i := 672) (by decide +kernel), List.mem_of_getElem? (i := 673) (by decide +kernel)⟩
theorem lw_p13 : lw_okq (⟨"ThatchNext$DrySearch", "tryYear", "(II)V"⟩, 5) := ⟨⟨by decide +kernel, by decide +kernel⟩, List.mem_of_getElem? (i := 172) (by decide +kernel), List.mem_of_getElem? (i := 680) (by decide +kernel), List.mem_of_getElem? (i := 681) (by decide +kernel)⟩
theorem lw_p14 : lw_okq (⟨"ThatchNext", "findMousePaths", "(I)I"⟩, 11) := ⟨⟨by decide +kernel, by decide +kernel⟩, List.mem_of_getElem? (i := 18) (by decide +kernel), List.mem_of_getElem? (i := 709) (by decide +kernel), List.mem_of_getElem? (i := 710) (by decide +kernel)⟩
theorem lw_p15 : lw_okq (⟨"ThatchNext$World", "takerOf", "(I)I"⟩, 16) := ⟨⟨by decide +kernel, by decide +kernel⟩, List.mem_of_getElem? (i := 32) (by decide +kernel), List.mem_of_getElem? (i := 721) (by decide +kernel), List.mem_of_getElem? (i := 722) (by decide +kernel)⟩
def lw_privs_1 : List (MethodName × Nat) := [(⟨"ThatchNext$Reader", "advance", "()V"⟩, 10), (⟨"ThatchNext$Reader", "fail", "(I)V"⟩, 10), (⟨"ThatchNext$Reader", "readLine", "()V"⟩, 10), (⟨"ThatchNext$Reader", "isWord", "(Ljava/lang/String;)Z"⟩, 10), (⟨"ThatchNext$Reader", "readRoof", "()V"⟩, 10), (⟨"ThatchNext$Reader", "readLayer", "(II)V"⟩, 10), (⟨"ThatchNext$Reader", "readNumber", "(II)I"⟩, 10), (⟨"ThatchNext$Reader", "endLine", "()V"⟩, 10), (⟨"ThatchNext$World", "takeOld", "(III)V"⟩, 16), (⟨"ThatchNext$World", "sourceFor", "(II)I"⟩, 16), (⟨"ThatchNext", "thatchRefusal", "(I)I"⟩, 11), (⟨"ThatchNext", "harmedBy", "(I)I"⟩, 11), (⟨"ThatchNext$DrySearch", "laidByNeed", "()I"⟩, 5), (⟨"ThatchNext$DrySearch", "tryYear", "(II)V"⟩, 5), (⟨"ThatchNext", "findMousePaths", "(I)I"⟩, 11), (⟨"ThatchNext$World", "takerOf", "(I)I"⟩, 16)]
theorem lw_r1 : ∀ q ∈ lw_privs_1, lw_okq q := List.forall_mem_cons.mpr ⟨lw_p0, List.forall_mem_cons.mpr ⟨lw_p1, List.forall_mem_cons.mpr ⟨lw_p2, List.forall_mem_cons.mpr ⟨lw_p3, List.forall_mem_cons.mpr ⟨lw_p4, List.forall_mem_cons.mpr ⟨lw_p5, List.forall_mem_cons.mpr ⟨lw_p6, List.forall_mem_cons.mpr ⟨lw_p7, List.forall_mem_cons.mpr ⟨lw_p8, List.forall_mem_cons.mpr ⟨lw_p9, List.forall_mem_cons.mpr ⟨lw_p10, List.forall_mem_cons.mpr ⟨lw_p11, List.forall_mem_cons.mpr ⟨lw_p12, List.forall_mem_cons.mpr ⟨lw_p13, List.forall_mem_cons.mpr ⟨lw_p14, List.forall_mem_cons.mpr ⟨lw_p15, fun _ h => absurd h List.not_mem_nil⟩⟩⟩⟩⟩⟩⟩⟩⟩⟩⟩⟩⟩⟩⟩⟩
theorem lw_p16 : lw_okq (⟨"ThatchNext", "meetsAllPaths", "(II)Z"⟩, 11) := ⟨⟨by decide +kernel, by decide +kernel⟩, List.mem_of_getElem? (i := 18) (by decide +kernel), List.mem_of_getElem? (i := 726) (by decide +kernel), List.mem_of_getElem? (i := 727) (by decide +kernel)⟩
theorem lw_p17 : lw_okq (⟨"ThatchNext", "oddsRefusal", "(I)I"⟩, 11) := ⟨⟨by decide +kernel, by decide +kernel⟩, List.mem_of_getElem? (i := 18) (by decide +kernel), List.mem_of_getElem? (i := 754) (by decide +kernel), List.mem_of_getElem? (i := 755) (by decide +kernel)⟩
theorem lw_p18 : lw_okq (⟨"ThatchNext", "casesOfFire", "(II)J"⟩, 11) := ⟨⟨by decide +kernel, by decide +kernel⟩, List.mem_of_getElem? (i := 18) (by decide +kernel), List.mem_of_getElem? (i := 758) (by decide +kernel), List.mem_of_getElem? (i := 759) (by decide +kernel)⟩
theorem lw_p19 : lw_okq (⟨"ThatchNext", "isTooMuchMending", "(LThatchNext$Numbers;)Z"⟩, 11) := ⟨⟨by decide +kernel, by decide +kernel⟩, List.mem_of_getElem? (i := 18) (by decide +kernel), List.mem_of_getElem? (i := 782) (by decide +kernel), List.mem_of_getElem? (i := 783) (by decide +kernel)⟩
theorem lw_p20 : lw_okq (⟨"ThatchNext$Mending", "wetIn", "(ILThatchNext$World;)I"⟩, 2) := ⟨⟨by decide +kernel, by decide +kernel⟩, List.mem_of_getElem? (i := 156) (by decide +kernel), List.mem_of_getElem? (i := 806) (by decide +kernel), List.mem_of_getElem? (i := 807) (by decide +kernel)⟩
theorem lw_p21 : lw_okq (⟨"ThatchNext", "pastRefusal", "()I"⟩, 11) := ⟨⟨by decide +kernel, by decide +kernel⟩, List.mem_of_getElem? (i := 18) (by decide +kernel), List.mem_of_getElem? (i := 824) (by decide +kernel), List.mem_of_getElem? (i := 825) (by decide +kernel)⟩
theorem lw_p22 : lw_okq (⟨"ThatchNext$PastSearch", "tryYear", "(ILThatchNext$World;)V"⟩, 5) := ⟨⟨by decide +kernel, by decide +kernel⟩, List.mem_of_getElem? (i := 197) (by decide +kernel), List.mem_of_getElem? (i := 835) (by decide +kernel), List.mem_of_getElem? (i := 836) (by decide +kernel)⟩
theorem lw_p23 : lw_okq (⟨"ThatchNext$PastSearch", "compare", "(LThatchNext$World;LThatchNext$World;)V"⟩, 5) := ⟨⟨by decide +kernel, by decide +kernel⟩, List.mem_of_getElem? (i := 197) (by decide +kernel), List.mem_of_getElem? (i := 839) (by decide +kernel), List.mem_of_getElem? (i := 840) (by decide +kernel)⟩
theorem lw_p24 : lw_okq (⟨"ThatchNextModel", "nextToken", "()V"⟩, 33) := ⟨⟨by decide +kernel, by decide +kernel⟩, List.mem_of_getElem? (i := 915) (by decide +kernel), List.mem_of_getElem? (i := 1035) (by decide +kernel), List.mem_of_getElem? (i := 1036) (by decide +kernel)⟩
theorem lw_p25 : lw_okq (⟨"ThatchNextModel", "see", "(I)I"⟩, 33) := ⟨⟨by decide +kernel, by decide +kernel⟩, List.mem_of_getElem? (i := 915) (by decide +kernel), List.mem_of_getElem? (i := 1039) (by decide +kernel), List.mem_of_getElem? (i := 1040) (by decide +kernel)⟩
theorem lw_p26 : lw_okq (⟨"ThatchNextModel", "keyAt", "()I"⟩, 33) := ⟨⟨by decide +kernel, by decide +kernel⟩, List.mem_of_getElem? (i := 915) (by decide +kernel), List.mem_of_getElem? (i := 1046) (by decide +kernel), List.mem_of_getElem? (i := 1047) (by decide +kernel)⟩
theorem lw_p27 : lw_okq (⟨"ThatchNextModel", "readLine", "()V"⟩, 33) := ⟨⟨by decide +kernel, by decide +kernel⟩, List.mem_of_getElem? (i := 915) (by decide +kernel), List.mem_of_getElem? (i := 1056) (by decide +kernel), List.mem_of_getElem? (i := 1057) (by decide +kernel)⟩
theorem lw_p28 : lw_okq (⟨"ThatchNextModel", "is", "(I)Z"⟩, 33) := ⟨⟨by decide +kernel, by decide +kernel⟩, List.mem_of_getElem? (i := 915) (by decide +kernel), List.mem_of_getElem? (i := 1060) (by decide +kernel), List.mem_of_getElem? (i := 1061) (by decide +kernel)⟩
theorem lw_p29 : lw_okq (⟨"ThatchNextModel", "readRoof", "()V"⟩, 33) := ⟨⟨by decide +kernel, by decide +kernel⟩, List.mem_of_getElem? (i := 915) (by decide +kernel), List.mem_of_getElem? (i := 1064) (by decide +kernel), List.mem_of_getElem? (i := 1065) (by decide +kernel)⟩
theorem lw_p30 : lw_okq (⟨"ThatchNextModel", "fails", "(I)V"⟩, 33) := ⟨⟨by decide +kernel, by decide +kernel⟩, List.mem_of_getElem? (i := 915) (by decide +kernel), List.mem_of_getElem? (i := 1068) (by decide +kernel), List.mem_of_getElem? (i := 1069) (by decide +kernel)⟩
theorem lw_p31 : lw_okq (⟨"ThatchNextModel", "readLayer", "(II)V"⟩, 33) := ⟨⟨by decide +kernel, by decide +kernel⟩, List.mem_of_getElem? (i := 915) (by decide +kernel), List.mem_of_getElem? (i := 1072) (by decide +kernel), List.mem_of_getElem? (i := 1073) (by decide +kernel)⟩
def lw_privs_2 : List (MethodName × Nat) := [(⟨"ThatchNext", "meetsAllPaths", "(II)Z"⟩, 11), (⟨"ThatchNext", "oddsRefusal", "(I)I"⟩, 11), (⟨"ThatchNext", "casesOfFire", "(II)J"⟩, 11), (⟨"ThatchNext", "isTooMuchMending", "(LThatchNext$Numbers;)Z"⟩, 11), (⟨"ThatchNext$Mending", "wetIn", "(ILThatchNext$World;)I"⟩, 2), (⟨"ThatchNext", "pastRefusal", "()I"⟩, 11), (⟨"ThatchNext$PastSearch", "tryYear", "(ILThatchNext$World;)V"⟩, 5), (⟨"ThatchNext$PastSearch", "compare", "(LThatchNext$World;LThatchNext$World;)V"⟩, 5), (⟨"ThatchNextModel", "nextToken", "()V"⟩, 33), (⟨"ThatchNextModel", "see", "(I)I"⟩, 33), (⟨"ThatchNextModel", "keyAt", "()I"⟩, 33), (⟨"ThatchNextModel", "readLine", "()V"⟩, 33), (⟨"ThatchNextModel", "is", "(I)Z"⟩, 33), (⟨"ThatchNextModel", "readRoof", "()V"⟩, 33), (⟨"ThatchNextModel", "fails", "(I)V"⟩, 33), (⟨"ThatchNextModel", "readLayer", "(II)V"⟩, 33)]
theorem lw_r2 : ∀ q ∈ lw_privs_2, lw_okq q := List.forall_mem_cons.mpr ⟨lw_p16, List.forall_mem_cons.mpr ⟨lw_p17, List.forall_mem_cons.mpr ⟨lw_p18, List.forall_mem_cons.mpr ⟨lw_p19, List.forall_mem_cons.mpr ⟨lw_p20, List.forall_mem_cons.mpr ⟨lw_p21, List.forall_mem_cons.mpr ⟨lw_p22, List.forall_mem_cons.mpr ⟨lw_p23, List.forall_mem_cons.mpr ⟨lw_p24, List.forall_mem_cons.mpr ⟨lw_p25, List.forall_mem_cons.mpr ⟨lw_p26, List.forall_mem_cons.mpr ⟨lw_p27, List.forall_mem_cons.mpr ⟨lw_p28, List.forall_mem_cons.mpr ⟨lw_p29, List.forall_mem_cons.mpr ⟨lw_p30, List.forall_mem_cons.mpr ⟨lw_p31, fun _ h => absurd h List.not_mem_nil⟩⟩⟩⟩⟩⟩⟩⟩⟩⟩⟩⟩⟩⟩⟩⟩
theorem lw_p32 : lw_okq (⟨"ThatchNextModel", "takes", "(II)I"⟩, 33) := ⟨⟨by decide +kernel, by decide +kernel⟩, List.mem_of_getElem? (i := 915) (by decide +kernel), List.mem_of_getElem? (i := 1076) (by decide +kernel), List.mem_of_getElem? (i := 1077) (by decide +kernel)⟩
theorem lw_p33 : lw_okq (⟨"ThatchNextModel", "eats", "(I)Z"⟩, 33) := ⟨⟨by decide +kernel, by decide +kernel⟩, List.mem_of_getElem? (i := 915) (by decide +kernel), List.mem_of_getElem? (i := 1080) (by decide +kernel), List.mem_of_getElem? (i := 1081) (by decide +kernel)⟩
theorem lw_p34 : lw_okq (⟨"ThatchNextModel", "isRoof", "(I)Z"⟩, 33) := ⟨⟨by decide +kernel, by decide +kernel⟩, List.mem_of_getElem? (i := 915) (by decide +kernel), List.mem_of_getElem? (i := 1092) (by decide +kernel), List.mem_of_getElem? (i := 1093) (by decide +kernel)⟩
theorem lw_p35 : lw_okq (⟨"ThatchNextModel", "giver", "(I)I"⟩, 33) := ⟨⟨by decide +kernel, by decide +kernel⟩, List.mem_of_getElem? (i := 915) (by decide +kernel), List.mem_of_getElem? (i := 1096) (by decide +kernel), List.mem_of_getElem? (i := 1097) (by decide +kernel)⟩
theorem lw_p36 : lw_okq (⟨"ThatchNextModel", "drips", "(I)Z"⟩, 33) := ⟨⟨by decide +kernel, by decide +kernel⟩, List.mem_of_getElem? (i := 915) (by decide +kernel), List.mem_of_getElem? (i := 1100) (by decide +kernel), List.mem_of_getElem? (i := 1101) (by decide +kernel)⟩
theorem lw_p37 : lw_okq (⟨"ThatchNextModel", "isSlate", "(I)Z"⟩, 33) := ⟨⟨by decide +kernel, by decide +kernel⟩, List.mem_of_getElem? (i := 915) (by decide +kernel), List.mem_of_getElem? (i := 1104) (by decide +kernel), List.mem_of_getElem? (i := 1105) (by decide +kernel)⟩
theorem lw_p38 : lw_okq (⟨"ThatchNextModel", "soundIn", "(I)I"⟩, 33) := ⟨⟨by decide +kernel, by decide +kernel⟩, List.mem_of_getElem? (i := 915) (by decide +kernel), List.mem_of_getElem? (i := 1108) (by decide +kernel), List.mem_of_getElem? (i := 1109) (by decide +kernel)⟩
theorem lw_p39 : lw_okq (⟨"ThatchNextModel", "isSound", "(I)Z"⟩, 33) := ⟨⟨by decide +kernel, by decide +kernel⟩, List.mem_of_getElem? (i := 915) (by decide +kernel), List.mem_of_getElem? (i := 1112) (by decide +kernel), List.mem_of_getElem? (i := 1113) (by decide +kernel)⟩
theorem lw_p40 : lw_okq (⟨"ThatchNextModel", "sumIn", "(II)I"⟩, 33) := ⟨⟨by decide +kernel, by decide +kernel⟩, List.mem_of_getElem? (i := 915) (by decide +kernel), List.mem_of_getElem? (i := 1116) (by decide +kernel), List.mem_of_getElem? (i := 1117) (by decide +kernel)⟩
theorem lw_p41 : lw_okq (⟨"ThatchNextModel", "refuses", "(J)I"⟩, 33) := ⟨⟨by decide +kernel, by decide +kernel⟩, List.mem_of_getElem? (i := 915) (by decide +kernel), List.mem_of_getElem? (i := 1129) (by decide +kernel), List.mem_of_getElem? (i := 1130) (by decide +kernel)⟩
theorem lw_p42 : lw_okq (⟨"ThatchNextModel", "isSet", "(J)Z"⟩, 33) := ⟨⟨by decide +kernel, by decide +kernel⟩, List.mem_of_getElem? (i := 915) (by decide +kernel), List.mem_of_getElem? (i := 1133) (by decide +kernel), List.mem_of_getElem? (i := 1134) (by decide +kernel)⟩
theorem lw_p43 : lw_okq (⟨"ThatchNextModel", "slates", "()I"⟩, 33) := ⟨⟨by decide +kernel, by decide +kernel⟩, List.mem_of_getElem? (i := 915) (by decide +kernel), List.mem_of_getElem? (i := 1137) (by decide +kernel), List.mem_of_getElem? (i := 1138) (by decide +kernel)⟩
theorem lw_p44 : lw_okq (⟨"ThatchNextModel", "goes", "(I)V"⟩, 33) := ⟨⟨by decide +kernel, by decide +kernel⟩, List.mem_of_getElem? (i := 915) (by decide +kernel), List.mem_of_getElem? (i := 1141) (by decide +kernel), List.mem_of_getElem? (i := 1142) (by decide +kernel)⟩
theorem lw_p45 : lw_okq (⟨"ThatchNextModel", "takesLayers", "(III)V"⟩, 33) := ⟨⟨by decide +kernel, by decide +kernel⟩, List.mem_of_getElem? (i := 915) (by decide +kernel), List.mem_of_getElem? (i := 1148) (by decide +kernel), List.mem_of_getElem? (i := 1149) (by decide +kernel)⟩
theorem lw_p46 : lw_okq (⟨"ThatchNextModel", "moves", "(IIZ)V"⟩, 33) := ⟨⟨by decide +kernel, by decide +kernel⟩, List.mem_of_getElem? (i := 915) (by decide +kernel), List.mem_of_getElem? (i := 1152) (by decide +kernel), List.mem_of_getElem? (i := 1153) (by decide +kernel)⟩
theorem lw_p47 : lw_okq (⟨"ThatchNextModel", "dripping", "()I"⟩, 33) := ⟨⟨by decide +kernel, by decide +kernel⟩, List.mem_of_getElem? (i := 915) (by decide +kernel), List.mem_of_getElem? (i := 1159) (by decide +kernel), List.mem_of_getElem? (i := 1160) (by decide +kernel)⟩
def lw_privs_3 : List (MethodName × Nat) := [(⟨"ThatchNextModel", "takes", "(II)I"⟩, 33), (⟨"ThatchNextModel", "eats", "(I)Z"⟩, 33), (⟨"ThatchNextModel", "isRoof", "(I)Z"⟩, 33), (⟨"ThatchNextModel", "giver", "(I)I"⟩, 33), (⟨"ThatchNextModel", "drips", "(I)Z"⟩, 33), (⟨"ThatchNextModel", "isSlate", "(I)Z"⟩, 33), (⟨"ThatchNextModel", "soundIn", "(I)I"⟩, 33), (⟨"ThatchNextModel", "isSound", "(I)Z"⟩, 33), (⟨"ThatchNextModel", "sumIn", "(II)I"⟩, 33), (⟨"ThatchNextModel", "refuses", "(J)I"⟩, 33), (⟨"ThatchNextModel", "isSet", "(J)Z"⟩, 33), (⟨"ThatchNextModel", "slates", "()I"⟩, 33), (⟨"ThatchNextModel", "goes", "(I)V"⟩, 33), (⟨"ThatchNextModel", "takesLayers", "(III)V"⟩, 33), (⟨"ThatchNextModel", "moves", "(IIZ)V"⟩, 33), (⟨"ThatchNextModel", "dripping", "()I"⟩, 33)]
theorem lw_r3 : ∀ q ∈ lw_privs_3, lw_okq q := List.forall_mem_cons.mpr ⟨lw_p32, List.forall_mem_cons.mpr ⟨lw_p33, List.forall_mem_cons.mpr ⟨lw_p34, List.forall_mem_cons.mpr ⟨lw_p35, List.forall_mem_cons.mpr ⟨lw_p36, List.forall_mem_cons.mpr ⟨lw_p37, List.forall_mem_cons.mpr ⟨lw_p38, List.forall_mem_cons.mpr ⟨lw_p39, List.forall_mem_cons.mpr ⟨lw_p40, List.forall_mem_cons.mpr ⟨lw_p41, List.forall_mem_cons.mpr ⟨lw_p42, List.forall_mem_cons.mpr ⟨lw_p43, List.forall_mem_cons.mpr ⟨lw_p44, List.forall_mem_cons.mpr ⟨lw_p45, List.forall_mem_cons.mpr ⟨lw_p46, List.forall_mem_cons.mpr ⟨lw_p47, fun _ h => absurd h List.not_mem_nil⟩⟩⟩⟩⟩⟩⟩⟩⟩⟩⟩⟩⟩⟩⟩⟩
theorem lw_p48 : lw_okq (⟨"ThatchNextModel", "rains", "()I"⟩, 33) := ⟨⟨by decide +kernel, by decide +kernel⟩, List.mem_of_getElem? (i := 915) (by decide +kernel), List.mem_of_getElem? (i := 1167) (by decide +kernel), List.mem_of_getElem? (i := 1168) (by decide +kernel)⟩
theorem lw_p49 : lw_okq (⟨"ThatchNextModel", "keeps", "(I)V"⟩, 33) := ⟨⟨by decide +kernel, by decide +kernel⟩, List.mem_of_getElem? (i := 915) (by decide +kernel), List.mem_of_getElem? (i := 1176) (by decide +kernel), List.mem_of_getElem? (i := 1177) (by decide +kernel)⟩
theorem lw_p50 : lw_okq (⟨"ThatchNextModel", "laidAll", "()I"⟩, 33) := ⟨⟨by decide +kernel, by decide +kernel⟩, List.mem_of_getElem? (i := 915) (by decide +kernel), List.mem_of_getElem? (i := 1180) (by decide +kernel), List.mem_of_getElem? (i := 1181) (by decide +kernel)⟩
theorem lw_p51 : lw_okq (⟨"ThatchNextModel", "yearsOf", "(I)I"⟩, 33) := ⟨⟨by decide +kernel, by decide +kernel⟩, List.mem_of_getElem? (i := 915) (by decide +kernel), List.mem_of_getElem? (i := 1184) (by decide +kernel), List.mem_of_getElem? (i := 1185) (by decide +kernel)⟩
theorem lw_p52 : lw_okq (⟨"ThatchNextModel", "isAgain", "(I)V"⟩, 33) := ⟨⟨by decide +kernel, by decide +kernel⟩, List.mem_of_getElem? (i := 915) (by decide +kernel), List.mem_of_getElem? (i := 1188) (by decide +kernel), List.mem_of_getElem? (i := 1189) (by decide +kernel)⟩
theorem lw_p53 : lw_okq (⟨"ThatchNextModel", "hasFrom", "(IIZ)Z"⟩, 33) := ⟨⟨by decide +kernel, by decide +kernel⟩, List.mem_of_getElem? (i := 915) (by decide +kernel), List.mem_of_getElem? (i := 1214) (by decide +kernel), List.mem_of_getElem? (i := 1215) (by decide +kernel)⟩
theorem lw_p54 : lw_okq (⟨"ThatchNextModel", "maySkip", "(J)Z"⟩, 33) := ⟨⟨by decide +kernel, by decide +kernel⟩, List.mem_of_getElem? (i := 915) (by decide +kernel), List.mem_of_getElem? (i := 1234) (by decide +kernel), List.mem_of_getElem? (i := 1235) (by decide +kernel)⟩
theorem lw_p55 : lw_okq (⟨"ThatchNextModel", "laysDrips", "(II)I"⟩, 33) := ⟨⟨by decide +kernel, by decide +kernel⟩, List.mem_of_getElem? (i := 915) (by decide +kernel), List.mem_of_getElem? (i := 1239) (by decide +kernel), List.mem_of_getElem? (i := 1240) (by decide +kernel)⟩
theorem lw_p56 : lw_okq (⟨"ThatchNextModel", "keepsDry", "(III)V"⟩, 33) := ⟨⟨by decide +kernel, by decide +kernel⟩, List.mem_of_getElem? (i := 915) (by decide +kernel), List.mem_of_getElem? (i := 1265) (by decide +kernel), List.mem_of_getElem? (i := 1266) (by decide +kernel)⟩
theorem lw_p57 : lw_okq (⟨"ThatchNextModel", "miceBehind", "(I)I"⟩, 33) := ⟨⟨by decide +kernel, by decide +kernel⟩, List.mem_of_getElem? (i := 915) (by decide +kernel), List.mem_of_getElem? (i := 1282) (by decide +kernel), List.mem_of_getElem? (i := 1283) (by decide +kernel)⟩
theorem lw_p58 : lw_okq (⟨"ThatchNextModel", "sumAll", "(I)I"⟩, 33) := ⟨⟨by decide +kernel, by decide +kernel⟩, List.mem_of_getElem? (i := 915) (by decide +kernel), List.mem_of_getElem? (i := 1286) (by decide +kernel), List.mem_of_getElem? (i := 1287) (by decide +kernel)⟩
theorem lw_p59 : lw_okq (⟨"ThatchNextModel", "sparkAt", "(I)I"⟩, 33) := ⟨⟨by decide +kernel, by decide +kernel⟩, List.mem_of_getElem? (i := 915) (by decide +kernel), List.mem_of_getElem? (i := 1303) (by decide +kernel), List.mem_of_getElem? (i := 1304) (by decide +kernel)⟩
theorem lw_p60 : lw_okq (⟨"ThatchNextModel", "thenAt", "(I)I"⟩, 33) := ⟨⟨by decide +kernel, by decide +kernel⟩, List.mem_of_getElem? (i := 915) (by decide +kernel), List.mem_of_getElem? (i := 1307) (by decide +kernel), List.mem_of_getElem? (i := 1308) (by decide +kernel)⟩
theorem lw_p61 : lw_okq (⟨"ThatchNextModel", "oddsOf", "(II)J"⟩, 33) := ⟨⟨by decide +kernel, by decide +kernel⟩, List.mem_of_getElem? (i := 915) (by decide +kernel), List.mem_of_getElem? (i := 1318) (by decide +kernel), List.mem_of_getElem? (i := 1319) (by decide +kernel)⟩
theorem lw_p62 : lw_okq (⟨"ThatchNextModel", "refusesWeeks", "(I)I"⟩, 33) := ⟨⟨by decide +kernel, by decide +kernel⟩, List.mem_of_getElem? (i := 915) (by decide +kernel), List.mem_of_getElem? (i := 1338) (by decide +kernel), List.mem_of_getElem? (i := 1339) (by decide +kernel)⟩
theorem lw_p63 : lw_okq (⟨"ThatchNextModel", "laysOrders", "(III)V"⟩, 33) := ⟨⟨by decide +kernel, by decide +kernel⟩, List.mem_of_getElem? (i := 915) (by decide +kernel), List.mem_of_getElem? (i := 1342) (by decide +kernel), List.mem_of_getElem? (i := 1343) (by decide +kernel)⟩
def lw_privs_4 : List (MethodName × Nat) := [(⟨"ThatchNextModel", "rains", "()I"⟩, 33), (⟨"ThatchNextModel", "keeps", "(I)V"⟩, 33), (⟨"ThatchNextModel", "laidAll", "()I"⟩, 33), (⟨"ThatchNextModel", "yearsOf", "(I)I"⟩, 33), (⟨"ThatchNextModel", "isAgain", "(I)V"⟩, 33), (⟨"ThatchNextModel", "hasFrom", "(IIZ)Z"⟩, 33), (⟨"ThatchNextModel", "maySkip", "(J)Z"⟩, 33), (⟨"ThatchNextModel", "laysDrips", "(II)I"⟩, 33), (⟨"ThatchNextModel", "keepsDry", "(III)V"⟩, 33), (⟨"ThatchNextModel", "miceBehind", "(I)I"⟩, 33), (⟨"ThatchNextModel", "sumAll", "(I)I"⟩, 33), (⟨"ThatchNextModel", "sparkAt", "(I)I"⟩, 33), (⟨"ThatchNextModel", "thenAt", "(I)I"⟩, 33), (⟨"ThatchNextModel", "oddsOf", "(II)J"⟩, 33), (⟨"ThatchNextModel", "refusesWeeks", "(I)I"⟩, 33), (⟨"ThatchNextModel", "laysOrders", "(III)V"⟩, 33)]
theorem lw_r4 : ∀ q ∈ lw_privs_4, lw_okq q := List.forall_mem_cons.mpr ⟨lw_p48, List.forall_mem_cons.mpr ⟨lw_p49, List.forall_mem_cons.mpr ⟨lw_p50, List.forall_mem_cons.mpr ⟨lw_p51, List.forall_mem_cons.mpr ⟨lw_p52, List.forall_mem_cons.mpr ⟨lw_p53, List.forall_mem_cons.mpr ⟨lw_p54, List.forall_mem_cons.mpr ⟨lw_p55, List.forall_mem_cons.mpr ⟨lw_p56, List.forall_mem_cons.mpr ⟨lw_p57, List.forall_mem_cons.mpr ⟨lw_p58, List.forall_mem_cons.mpr ⟨lw_p59, List.forall_mem_cons.mpr ⟨lw_p60, List.forall_mem_cons.mpr ⟨lw_p61, List.forall_mem_cons.mpr ⟨lw_p62, List.forall_mem_cons.mpr ⟨lw_p63, fun _ h => absurd h List.not_mem_nil⟩⟩⟩⟩⟩⟩⟩⟩⟩⟩⟩⟩⟩⟩⟩⟩
theorem lw_p64 : lw_okq (⟨"ThatchNextModel", "wettedBy", "(I)I"⟩, 33) := ⟨⟨by decide +kernel, by decide +kernel⟩, List.mem_of_getElem? (i := 915) (by decide +kernel), List.mem_of_getElem? (i := 1346) (by decide +kernel), List.mem_of_getElem? (i := 1347) (by decide +kernel)⟩
theorem lw_p65 : lw_okq (⟨"ThatchNextModel", "laysPast", "(I)I"⟩, 33) := ⟨⟨by decide +kernel, by decide +kernel⟩, List.mem_of_getElem? (i := 915) (by decide +kernel), List.mem_of_getElem? (i := 1358) (by decide +kernel), List.mem_of_getElem? (i := 1359) (by decide +kernel)⟩
theorem lw_p66 : lw_okq (⟨"ThatchNextModel", "goesPast", "(II)V"⟩, 33) := ⟨⟨by decide +kernel, by decide +kernel⟩, List.mem_of_getElem? (i := 915) (by decide +kernel), List.mem_of_getElem? (i := 1362) (by decide +kernel), List.mem_of_getElem? (i := 1363) (by decide +kernel)⟩
theorem lw_p67 : lw_okq (⟨"ThatchNextModel", "isAsNow", "()Z"⟩, 33) := ⟨⟨by decide +kernel, by decide +kernel⟩, List.mem_of_getElem? (i := 915) (by decide +kernel), List.mem_of_getElem? (i := 1366) (by decide +kernel), List.mem_of_getElem? (i := 1367) (by decide +kernel)⟩
theorem lw_p68 : lw_okq (⟨"ThatchNextModel", "layersAll", "()I"⟩, 33) := ⟨⟨by decide +kernel, by decide +kernel⟩, List.mem_of_getElem? (i := 915) (by decide +kernel), List.mem_of_getElem? (i := 1412) (by decide +kernel), List.mem_of_getElem? (i := 1413) (by decide +kernel)⟩
def lw_privs_5 : List (MethodName × Nat) := [(⟨"ThatchNextModel", "wettedBy", "(I)I"⟩, 33), (⟨"ThatchNextModel", "laysPast", "(I)I"⟩, 33), (⟨"ThatchNextModel", "goesPast", "(II)V"⟩, 33), (⟨"ThatchNextModel", "isAsNow", "()Z"⟩, 33), (⟨"ThatchNextModel", "layersAll", "()I"⟩, 33)]
theorem lw_r5 : ∀ q ∈ lw_privs_5, lw_okq q := List.forall_mem_cons.mpr ⟨lw_p64, List.forall_mem_cons.mpr ⟨lw_p65, List.forall_mem_cons.mpr ⟨lw_p66, List.forall_mem_cons.mpr ⟨lw_p67, List.forall_mem_cons.mpr ⟨lw_p68, fun _ h => absurd h List.not_mem_nil⟩⟩⟩⟩⟩
def lw_privs : List (MethodName × Nat) := lw_privs_1 ++ (lw_privs_2 ++ (lw_privs_3 ++ (lw_privs_4 ++ (lw_privs_5))))
def lw_tbl : List Cond := k2_sels lw_privs ++ tables_1
theorem lw_privs_ok : ∀ q ∈ lw_privs, lw_okq q := by
  show ∀ q ∈ lw_privs_1 ++ (lw_privs_2 ++ (lw_privs_3 ++ (lw_privs_4 ++ (lw_privs_5)))), lw_okq q
  exact List.forall_mem_append.mpr ⟨lw_r1, List.forall_mem_append.mpr ⟨lw_r2, List.forall_mem_append.mpr ⟨lw_r3, List.forall_mem_append.mpr ⟨lw_r4, lw_r5⟩⟩⟩⟩

theorem tl_wsL_law_r1 : ∀ w ∈ wsL_law_r1, w ∈ lw_tbl := fun w h => ((goodIn_r (big := lw_tbl) wsL_law_r1 [86, 87, 70, 983, 984, 77, 1484, 88, 89, 90, 91, 92, 93, 94, 95, 71, 316, 216, 101, 72, 318, 319, 320, 239] (by decide +kernel) (by decide +kernel)) w h).1
theorem tl_wsL_law_r2 : ∀ w ∈ wsL_law_r2, w ∈ lw_tbl := fun w h => ((goodIn_r (big := lw_tbl) wsL_law_r2 [321, 222, 322, 224, 225, 73, 323, 240, 241, 74, 324, 265, 266, 75, 325, 179, 326, 290, 76, 97, 98, 99, 100, 180] (by decide +kernel) (by decide +kernel)) w h).1
theorem tl_wsL_law_r3 : ∀ w ∈ wsL_law_r3, w ∈ lw_tbl := fun w h => ((goodIn_r (big := lw_tbl) wsL_law_r3 [184, 215, 188, 103, 104, 105, 112, 115, 118, 121, 138, 141, 143, 144, 145, 218, 219, 220, 227, 228, 229, 230, 243, 244] (by decide +kernel) (by decide +kernel)) w h).1
theorem tl_wsL_law_r4 : ∀ w ∈ wsL_law_r4, w ∈ lw_tbl := fun w h => ((goodIn_r (big := lw_tbl) wsL_law_r4 [245, 249, 251, 252, 268, 269, 270, 274, 276, 277, 292, 293, 294, 315, 301, 985, 986, 987, 988, 993, 994, 995, 996, 997] (by decide +kernel) (by decide +kernel)) w h).1
theorem tl_wsL_law_r5 : ∀ w ∈ wsL_law_r5, w ∈ lw_tbl := fun w h => ((goodIn_r (big := lw_tbl) wsL_law_r5 [1007, 1009, 1011, 1012, 1013, 1015, 1016, 1019, 1020, 1022, 1023, 1024, 989, 990, 991, 350, 351, 352, 353, 186, 354, 355, 356, 357] (by decide +kernel) (by decide +kernel)) w h).1
theorem tl_wsL_law_r6 : ∀ w ∈ wsL_law_r6, w ∈ lw_tbl := fun w h => ((goodIn_r (big := lw_tbl) wsL_law_r6 [187, 1092, 1093, 1094, 1095, 992, 998, 358, 359, 360, 361, 183, 317, 181, 137, 134, 362, 363, 364, 365, 366, 367, 78, 368] (by decide +kernel) (by decide +kernel)) w h).1
theorem tl_wsL_law_r7 : ∀ w ∈ wsL_law_r7, w ∈ lw_tbl := fun w h => ((goodIn_r (big := lw_tbl) wsL_law_r7 [189, 182, 191, 192, 369, 370, 371, 372, 106, 110, 124, 127, 131, 133, 136, 373, 375, 0, 376, 190, 193, 377, 378, 379] (by decide +kernel) (by decide +kernel)) w h).1
theorem tl_wsL_law_r8 : ∀ w ∈ wsL_law_r8, w ∈ lw_tbl := fun w h => ((goodIn_r (big := lw_tbl) wsL_law_r8 [380, 381, 382, 383, 385, 1, 386, 387, 389, 2, 390, 125, 108, 113, 116, 119, 122, 392, 394, 3, 395, 396, 397, 398] (by decide +kernel) (by decide +kernel)) w h).1
theorem tl_wsL_law_r9 : ∀ w ∈ wsL_law_r9, w ∈ lw_tbl := fun w h => ((goodIn_r (big := lw_tbl) wsL_law_r9 [79, 399, 1485, 400, 401, 402, 403, 404, 1486, 406, 407, 408, 409, 410, 411, 412, 413, 414, 415, 80, 416, 417, 418, 419] (by decide +kernel) (by decide +kernel)) w h).1
theorem tl_wsL_law_r10 : ∀ w ∈ wsL_law_r10, w ∈ lw_tbl := fun w h => ((goodIn_r (big := lw_tbl) wsL_law_r10 [420, 422, 423, 81, 424, 425, 426, 82, 427, 428, 429, 430, 431, 432, 433, 434, 435, 436, 437, 438, 440, 442, 444, 446] (by decide +kernel) (by decide +kernel)) w h).1
theorem tl_wsL_law_r11 : ∀ w ∈ wsL_law_r11, w ∈ lw_tbl := fun w h => ((goodIn_r (big := lw_tbl) wsL_law_r11 [4, 447, 130, 451, 453, 5, 454, 140, 455, 457, 6, 458, 459, 460, 83, 461, 463, 464, 465, 467, 468, 469, 470, 472] (by decide +kernel) (by decide +kernel)) w h).1
theorem tl_wsL_law_r12 : ∀ w ∈ wsL_law_r12, w ∈ lw_tbl := fun w h => ((goodIn_r (big := lw_tbl) wsL_law_r12 [473, 474, 475, 476, 477, 478, 482, 484, 7, 485, 135, 486, 487, 488, 489, 490, 492, 491, 84, 1096, 1097, 1098, 1099, 1001] (by decide +kernel) (by decide +kernel)) w h).1
theorem tl_wsL_law_r13 : ∀ w ∈ wsL_law_r13, w ∈ lw_tbl := fun w h => ((goodIn_r (big := lw_tbl) wsL_law_r13 [1000, 1004, 1002, 1006, 1005, 1008, 1100, 1101, 1102, 1103, 1105, 24, 1106, 999, 1003, 1107, 1109, 25, 1110, 1111, 1112, 1113, 1114, 1116] (by decide +kernel) (by decide +kernel)) w h).1
theorem tl_wsL_law_r14 : ∀ w ∈ wsL_law_r14, w ∈ lw_tbl := fun w h => ((goodIn_r (big := lw_tbl) wsL_law_r14 [26, 1117, 1119, 1120, 1121, 1122, 1123, 1124, 1126, 27, 1127, 1128, 1130, 28, 1131, 1132, 1134, 29, 1135, 1136, 1138, 30, 1139, 1140] (by decide +kernel) (by decide +kernel)) w h).1
theorem tl_wsL_law_r15 : ∀ w ∈ wsL_law_r15, w ∈ lw_tbl := fun w h => ((goodIn_r (big := lw_tbl) wsL_law_r15 [1142, 31, 1143, 1144, 1146, 32, 1147, 1148, 1150, 33, 1151, 493, 494, 495, 496, 185, 1152, 1153, 1154, 1155, 497, 498, 499, 500] (by decide +kernel) (by decide +kernel)) w h).1
theorem tl_wsL_law_r16 : ∀ w ∈ wsL_law_r16, w ∈ lw_tbl := fun w h => ((goodIn_r (big := lw_tbl) wsL_law_r16 [139, 129, 132, 142, 501, 502, 503, 504, 505, 506, 507, 508, 509, 510, 511, 512, 513, 514, 515, 517, 518, 519, 520, 521] (by decide +kernel) (by decide +kernel)) w h).1
theorem tl_wsL_law_r17 : ∀ w ∈ wsL_law_r17, w ∈ lw_tbl := fun w h => ((goodIn_r (big := lw_tbl) wsL_law_r17 [522, 523, 524, 525, 526, 527, 528, 529, 530, 531, 532, 533, 534, 535, 536, 537, 538, 539, 540, 541, 542, 1156, 1157, 1158] (by decide +kernel) (by decide +kernel)) w h).1
theorem tl_wsL_law_r18 : ∀ w ∈ wsL_law_r18, w ∈ lw_tbl := fun w h => ((goodIn_r (big := lw_tbl) wsL_law_r18 [1159, 1160, 1162, 34, 1163, 1164, 1166, 35, 1167, 1168, 1170, 36, 1171, 1172, 1174, 37, 1175, 1176, 1178, 38, 1179, 1180, 1182, 39] (by decide +kernel) (by decide +kernel)) w h).1
theorem tl_wsL_law_r19 : ∀ w ∈ wsL_law_r19, w ∈ lw_tbl := fun w h => ((goodIn_r (big := lw_tbl) wsL_law_r19 [1183, 1184, 1186, 40, 1187, 543, 544, 545, 546, 547, 548, 549, 550, 551, 552, 553, 554, 555, 556, 557, 558, 559, 560, 1188] (by decide +kernel) (by decide +kernel)) w h).1
theorem tl_wsL_law_r20 : ∀ w ∈ wsL_law_r20, w ∈ lw_tbl := fun w h => ((goodIn_r (big := lw_tbl) wsL_law_r20 [1189, 1190, 1191, 1192, 561, 562, 563, 564, 111, 565, 566, 567, 568, 569, 570, 571, 572, 577, 573, 574, 575, 576, 578, 579] (by decide +kernel) (by decide +kernel)) w h).1
theorem tl_wsL_law_r21 : ∀ w ∈ wsL_law_r21, w ∈ lw_tbl := fun w h => ((goodIn_r (big := lw_tbl) wsL_law_r21 [580, 581, 582, 584, 8, 585, 586, 587, 588, 589, 592, 590, 591, 593, 594, 595, 596, 597, 598, 599, 600, 601, 603, 9] (by decide +kernel) (by decide +kernel)) w h).1
theorem tl_wsL_law_r22 : ∀ w ∈ wsL_law_r22, w ∈ lw_tbl := fun w h => ((goodIn_r (big := lw_tbl) wsL_law_r22 [604, 605, 606, 607, 608, 609, 1193, 1194, 1195, 1196, 1197, 1199, 41, 1200, 1201, 1203, 42, 1204, 1205, 1207, 43, 1208, 1209, 1211] (by decide +kernel) (by decide +kernel)) w h).1
theorem tl_wsL_law_r23 : ∀ w ∈ wsL_law_r23, w ∈ lw_tbl := fun w h => ((goodIn_r (big := lw_tbl) wsL_law_r23 [44, 1212, 1213, 1214, 1215, 1216, 1218, 45, 1219, 1220, 1222, 46, 1223, 1224, 1225, 1226, 1227, 1229, 47, 1230, 610, 611, 612, 613] (by decide +kernel) (by decide +kernel)) w h).1
theorem tl_wsL_law_r24 : ∀ w ∈ wsL_law_r24, w ∈ lw_tbl := fun w h => ((goodIn_r (big := lw_tbl) wsL_law_r24 [614, 615, 616, 617, 618, 619, 1231, 1232, 1233, 1234, 1235, 1237, 48, 1238, 620, 621, 622, 623, 296, 299, 303, 624, 625, 626] (by decide +kernel) (by decide +kernel)) w h).1
theorem tl_wsL_law_r25 : ∀ w ∈ wsL_law_r25, w ∈ lw_tbl := fun w h => ((goodIn_r (big := lw_tbl) wsL_law_r25 [627, 628, 629, 630, 300, 304, 631, 632, 633, 634, 635, 636, 1239, 1240, 1241, 1242, 1243, 1010, 1244, 1246, 49, 1247, 1248, 1250] (by decide +kernel) (by decide +kernel)) w h).1
theorem tl_wsL_law_r26 : ∀ w ∈ wsL_law_r26, w ∈ lw_tbl := fun w h => ((goodIn_r (big := lw_tbl) wsL_law_r26 [50, 1251, 1252, 1254, 51, 1255, 1256, 1258, 52, 1259, 637, 638, 639, 640, 1260, 1261, 1262, 1263, 641, 642, 643, 644, 109, 645] (by decide +kernel) (by decide +kernel)) w h).1
theorem tl_wsL_law_r27 : ∀ w ∈ wsL_law_r27, w ∈ lw_tbl := fun w h => ((goodIn_r (big := lw_tbl) wsL_law_r27 [646, 647, 648, 1264, 1265, 1266, 1267, 1268, 1269, 649, 650, 651, 652, 1270, 1271, 1272, 1273, 653, 654, 655, 656, 1274, 1275, 1276] (by decide +kernel) (by decide +kernel)) w h).1
theorem tl_wsL_law_r28 : ∀ w ∈ wsL_law_r28, w ∈ lw_tbl := fun w h => ((goodIn_r (big := lw_tbl) wsL_law_r28 [1277, 657, 658, 659, 660, 661, 662, 663, 664, 665, 1278, 1279, 1280, 1281, 1282, 1284, 53, 1285, 666, 667, 668, 669, 674, 675] (by decide +kernel) (by decide +kernel)) w h).1
theorem tl_wsL_law_r29 : ∀ w ∈ wsL_law_r29, w ∈ lw_tbl := fun w h => ((goodIn_r (big := lw_tbl) wsL_law_r29 [676, 670, 672, 10, 673, 677, 1286, 1287, 1288, 1289, 678, 679, 680, 681, 1290, 1291, 1292, 1293, 682, 683, 684, 685, 686, 687] (by decide +kernel) (by decide +kernel)) w h).1
theorem tl_wsL_law_r30 : ∀ w ∈ wsL_law_r30, w ∈ lw_tbl := fun w h => ((goodIn_r (big := lw_tbl) wsL_law_r30 [688, 689, 690, 1294, 1295, 1296, 1297, 691, 692, 693, 694, 695, 696, 697, 698, 700, 11, 701, 702, 703, 704, 705, 706, 707] (by decide +kernel) (by decide +kernel)) w h).1
theorem tl_wsL_law_r31 : ∀ w ∈ wsL_law_r31, w ∈ lw_tbl := fun w h => ((goodIn_r (big := lw_tbl) wsL_law_r31 [708, 709, 710, 711, 712, 713, 85, 714, 715, 716, 717, 1298, 1299, 1300, 1301, 1306, 1302, 1304, 54, 1305, 1307, 1309, 55, 1310] (by decide +kernel) (by decide +kernel)) w h).1
theorem tl_wsL_law_r32 : ∀ w ∈ wsL_law_r32, w ∈ lw_tbl := fun w h => ((goodIn_r (big := lw_tbl) wsL_law_r32 [718, 719, 720, 721, 1311, 1312, 1313, 1314, 722, 723, 724, 725, 1315, 1316, 1317, 1318, 1319, 1320, 1321, 726, 727, 728, 729, 1322] (by decide +kernel) (by decide +kernel)) w h).1
theorem tl_wsL_law_r33 : ∀ w ∈ wsL_law_r33, w ∈ lw_tbl := fun w h => ((goodIn_r (big := lw_tbl) wsL_law_r33 [1323, 1324, 1325, 730, 731, 732, 733, 248, 250, 734, 735, 736, 737, 738, 253, 247, 739, 740, 742, 12, 743, 744, 745, 746] (by decide +kernel) (by decide +kernel)) w h).1
theorem tl_wsL_law_r34 : ∀ w ∈ wsL_law_r34, w ∈ lw_tbl := fun w h => ((goodIn_r (big := lw_tbl) wsL_law_r34 [747, 748, 750, 13, 751, 752, 1326, 1327, 1328, 1329, 1330, 1331, 1332, 1014, 1333, 1335, 56, 1336, 753, 754, 755, 756, 1337, 1338] (by decide +kernel) (by decide +kernel)) w h).1
theorem tl_wsL_law_r35 : ∀ w ∈ wsL_law_r35, w ∈ lw_tbl := fun w h => ((goodIn_r (big := lw_tbl) wsL_law_r35 [1339, 1340, 757, 758, 759, 760, 761, 762, 763, 1341, 1342, 1343, 1344, 1345, 764, 765, 766, 767, 768, 769, 770, 771, 772, 1346] (by decide +kernel) (by decide +kernel)) w h).1
theorem tl_wsL_law_r36 : ∀ w ∈ wsL_law_r36, w ∈ lw_tbl := fun w h => ((goodIn_r (big := lw_tbl) wsL_law_r36 [1347, 1348, 1349, 1350, 1352, 57, 1353, 1354, 1356, 58, 1357, 773, 774, 775, 776, 777, 779, 14, 780, 781, 782, 783, 784, 785] (by decide +kernel) (by decide +kernel)) w h).1
theorem tl_wsL_law_r37 : ∀ w ∈ wsL_law_r37, w ∈ lw_tbl := fun w h => ((goodIn_r (big := lw_tbl) wsL_law_r37 [786, 787, 788, 789, 791, 15, 792, 793, 794, 796, 16, 797, 1358, 1359, 1360, 1361, 1362, 798, 799, 800, 801, 802, 803, 804] (by decide +kernel) (by decide +kernel)) w h).1
theorem tl_wsL_law_r38 : ∀ w ∈ wsL_law_r38, w ∈ lw_tbl := fun w h => ((goodIn_r (big := lw_tbl) wsL_law_r38 [805, 806, 807, 1363, 1364, 1365, 1366, 808, 809, 810, 811, 812, 813, 814, 815, 816, 1367, 1368, 1369, 1370, 1371, 1373, 59, 1374] (by decide +kernel) (by decide +kernel)) w h).1
theorem tl_wsL_law_r39 : ∀ w ∈ wsL_law_r39, w ∈ lw_tbl := fun w h => ((goodIn_r (big := lw_tbl) wsL_law_r39 [1375, 1377, 60, 1378, 817, 818, 819, 820, 821, 822, 824, 17, 825, 826, 828, 18, 829, 123, 830, 831, 832, 833, 834, 835] (by decide +kernel) (by decide +kernel)) w h).1
theorem tl_wsL_law_r40 : ∀ w ∈ wsL_law_r40, w ∈ lw_tbl := fun w h => ((goodIn_r (big := lw_tbl) wsL_law_r40 [836, 1379, 1380, 1381, 1382, 1383, 1384, 1385, 1386, 1388, 61, 1389, 1390, 1391, 1392, 838, 839, 840, 841, 1393, 1394, 1395, 1396, 842] (by decide +kernel) (by decide +kernel)) w h).1
theorem tl_wsL_law_r41 : ∀ w ∈ wsL_law_r41, w ∈ lw_tbl := fun w h => ((goodIn_r (big := lw_tbl) wsL_law_r41 [843, 844, 845, 1397, 1398, 1399, 1400, 846, 847, 848, 849, 233, 231, 850, 852, 19, 853, 854, 855, 856, 857, 858, 232, 859] (by decide +kernel) (by decide +kernel)) w h).1
theorem tl_wsL_law_r42 : ∀ w ∈ wsL_law_r42, w ∈ lw_tbl := fun w h => ((goodIn_r (big := lw_tbl) wsL_law_r42 [860, 861, 862, 863, 864, 865, 297, 866, 867, 868, 869, 870, 871, 872, 873, 298, 302, 874, 876, 20, 877, 878, 1401, 1402] (by decide +kernel) (by decide +kernel)) w h).1
theorem tl_wsL_law_r43 : ∀ w ∈ wsL_law_r43, w ∈ lw_tbl := fun w h => ((goodIn_r (big := lw_tbl) wsL_law_r43 [1403, 1404, 1405, 1018, 1017, 1406, 1408, 62, 1409, 1410, 1412, 63, 1413, 1414, 1416, 64, 1417, 879, 880, 881, 882, 883, 884, 885] (by decide +kernel) (by decide +kernel)) w h).1
theorem tl_wsL_law_r44 : ∀ w ∈ wsL_law_r44, w ∈ lw_tbl := fun w h => ((goodIn_r (big := lw_tbl) wsL_law_r44 [886, 107, 1418, 1419, 1420, 1421, 888, 889, 890, 891, 273, 892, 894, 21, 895, 896, 897, 898, 899, 272, 900, 278, 901, 902] (by decide +kernel) (by decide +kernel)) w h).1
theorem tl_wsL_law_r45 : ∀ w ∈ wsL_law_r45, w ∈ lw_tbl := fun w h => ((goodIn_r (big := lw_tbl) wsL_law_r45 [903, 905, 22, 906, 128, 907, 909, 23, 910, 911, 912, 913, 914, 915, 916, 917, 918, 919, 920, 921, 922, 923, 924, 1422] (by decide +kernel) (by decide +kernel)) w h).1
theorem tl_wsL_law_r46 : ∀ w ∈ wsL_law_r46, w ∈ lw_tbl := fun w h => ((goodIn_r (big := lw_tbl) wsL_law_r46 [1423, 1424, 1425, 1021, 1426, 1428, 65, 1429, 1430, 1432, 66, 1433, 1434, 1436, 67, 1437, 925, 926, 927, 928, 275, 1438, 1439, 1440] (by decide +kernel) (by decide +kernel)) w h).1
theorem tl_wsL_law_r47 : ∀ w ∈ wsL_law_r47, w ∈ lw_tbl := fun w h => ((goodIn_r (big := lw_tbl) wsL_law_r47 [1441, 929, 930, 931, 932, 933, 934, 935, 936, 1442, 1443, 1444, 1445, 937, 938, 939, 940, 1446, 1447, 1448, 1449, 941, 942, 943] (by decide +kernel) (by decide +kernel)) w h).1
theorem tl_wsL_law_r48 : ∀ w ∈ wsL_law_r48, w ∈ lw_tbl := fun w h => ((goodIn_r (big := lw_tbl) wsL_law_r48 [944, 945, 946, 947, 948, 295, 305, 1450, 1451, 1452, 1453, 1454, 949, 950, 951, 952, 953, 954, 955, 956, 957, 958, 1455, 1456] (by decide +kernel) (by decide +kernel)) w h).1
theorem tl_wsL_law_r49 : ∀ w ∈ wsL_law_r49, w ∈ lw_tbl := fun w h => ((goodIn_r (big := lw_tbl) wsL_law_r49 [1457, 1458, 1459, 1460, 1461, 1462, 1463, 959, 960, 961, 962, 1464, 1465, 1466, 1467, 963, 964, 965, 966, 1468, 1469, 1470, 1471, 967] (by decide +kernel) (by decide +kernel)) w h).1
theorem tl_wsL_law_r50 : ∀ w ∈ wsL_law_r50, w ∈ lw_tbl := fun w h => ((goodIn_r (big := lw_tbl) wsL_law_r50 [968, 969, 970, 1472, 1473, 1474, 1475, 971, 972, 973, 974, 114, 117, 120, 126, 975, 976, 977, 978, 979, 980, 981, 982, 1476] (by decide +kernel) (by decide +kernel)) w h).1
theorem tl_wsL_law_r51 : ∀ w ∈ wsL_law_r51, w ∈ lw_tbl := fun w h => ((goodIn_r (big := lw_tbl) wsL_law_r51 [1477, 1478, 1479, 1480, 1482, 68, 1483] (by decide +kernel) (by decide +kernel)) w h).1
theorem tl_wsX7 : ∀ w ∈ wsX70, w ∈ lw_tbl := fun w h => ((goodIn_r (big := lw_tbl) wsX70 [327, 329, 331, 333, 335, 337, 339, 341, 343, 345, 347] (by decide +kernel) (by decide +kernel)) w h).1
theorem tl_wsX8 : ∀ w ∈ wsX80, w ∈ lw_tbl := fun w h => ((goodIn_r (big := lw_tbl) wsX80 [1025, 1027, 1029, 1031, 1033, 1035, 1037, 1039, 1041, 1043, 1045, 1047, 1049, 1051, 1053, 1055, 1057, 1059, 1061, 1063, 1065, 1067, 1069, 1071, 1073, 1075, 1077, 1079, 1081, 1083, 1085, 1087, 1089] (by decide +kernel) (by decide +kernel)) w h).1
theorem tl_wsX5 : ∀ w ∈ wsX50, w ∈ lw_tbl := fun w h => ((goodIn_r (big := lw_tbl) wsX50 [194, 196, 198, 200, 202, 204, 206, 208, 210, 212] (by decide +kernel) (by decide +kernel)) w h).1
theorem tl_wsX6 : ∀ w ∈ wsX60, w ∈ lw_tbl := fun w h => ((goodIn_r (big := lw_tbl) wsX60 [146, 148, 150, 152, 154, 156, 158, 160, 162, 164, 166, 168, 170, 172, 174, 176] (by decide +kernel) (by decide +kernel)) w h).1
theorem tl_wsX2 : ∀ w ∈ wsX20, w ∈ lw_tbl := fun w h => ((goodIn_r (big := lw_tbl) wsX20 [234, 236] (by decide +kernel) (by decide +kernel)) w h).1
theorem tl_wsX0 : ∀ w ∈ wsX00, w ∈ lw_tbl := fun w h => ((goodIn_r (big := lw_tbl) wsX00 [254, 256, 258, 260, 262] (by decide +kernel) (by decide +kernel)) w h).1
theorem tl_wsX4 : ∀ w ∈ wsX40, w ∈ lw_tbl := fun w h => ((goodIn_r (big := lw_tbl) wsX40 [279, 281, 283, 285, 287] (by decide +kernel) (by decide +kernel)) w h).1
theorem tl_wsX3 : ∀ w ∈ wsX30, w ∈ lw_tbl := fun w h => ((goodIn_r (big := lw_tbl) wsX30 [306, 308, 310, 312] (by decide +kernel) (by decide +kernel)) w h).1
theorem wsL_law_in : ∀ w ∈ wsL_law, w ∈ lw_tbl := by
  intro w h
  unfold wsL_law at h
  simp only [List.mem_append, List.not_mem_nil, or_false] at h
  rcases h with (((((((((h | h | h | h | h | h | h | h | h | h | h | h | h | h | h | h | h | h | h | h | h | h | h | h | h | h | h | h | h | h | h | h | h | h | h | h | h | h | h | h | h | h | h | h | h | h | h | h | h | h | h) | h) | h) | h) | h) | h) | h) | h) | h)
  · exact tl_wsL_law_r1 w h
  · exact tl_wsL_law_r2 w h
  · exact tl_wsL_law_r3 w h
  · exact tl_wsL_law_r4 w h
  · exact tl_wsL_law_r5 w h
  · exact tl_wsL_law_r6 w h
  · exact tl_wsL_law_r7 w h
  · exact tl_wsL_law_r8 w h
  · exact tl_wsL_law_r9 w h
  · exact tl_wsL_law_r10 w h
  · exact tl_wsL_law_r11 w h
  · exact tl_wsL_law_r12 w h
  · exact tl_wsL_law_r13 w h
  · exact tl_wsL_law_r14 w h
  · exact tl_wsL_law_r15 w h
  · exact tl_wsL_law_r16 w h
  · exact tl_wsL_law_r17 w h
  · exact tl_wsL_law_r18 w h
  · exact tl_wsL_law_r19 w h
  · exact tl_wsL_law_r20 w h
  · exact tl_wsL_law_r21 w h
  · exact tl_wsL_law_r22 w h
  · exact tl_wsL_law_r23 w h
  · exact tl_wsL_law_r24 w h
  · exact tl_wsL_law_r25 w h
  · exact tl_wsL_law_r26 w h
  · exact tl_wsL_law_r27 w h
  · exact tl_wsL_law_r28 w h
  · exact tl_wsL_law_r29 w h
  · exact tl_wsL_law_r30 w h
  · exact tl_wsL_law_r31 w h
  · exact tl_wsL_law_r32 w h
  · exact tl_wsL_law_r33 w h
  · exact tl_wsL_law_r34 w h
  · exact tl_wsL_law_r35 w h
  · exact tl_wsL_law_r36 w h
  · exact tl_wsL_law_r37 w h
  · exact tl_wsL_law_r38 w h
  · exact tl_wsL_law_r39 w h
  · exact tl_wsL_law_r40 w h
  · exact tl_wsL_law_r41 w h
  · exact tl_wsL_law_r42 w h
  · exact tl_wsL_law_r43 w h
  · exact tl_wsL_law_r44 w h
  · exact tl_wsL_law_r45 w h
  · exact tl_wsL_law_r46 w h
  · exact tl_wsL_law_r47 w h
  · exact tl_wsL_law_r48 w h
  · exact tl_wsL_law_r49 w h
  · exact tl_wsL_law_r50 w h
  · exact tl_wsL_law_r51 w h
  · exact tl_wsX7 w h
  · exact tl_wsX8 w h
  · exact tl_wsX5 w h
  · exact tl_wsX6 w h
  · exact tl_wsX2 w h
  · exact tl_wsX0 w h
  · exact tl_wsX4 w h
  · exact tl_wsX3 w h
theorem nestL_in : ∀ w ∈ nestL, w ∈ lw_tbl := by
  intro w h
  rw [show nestL = ([96, 102, 217, 226, 242, 246, 267, 271, 291, 516, 837, 887] : List Nat).filterMap (fun i => lw_tbl[i]?) from by decide +kernel] at h
  obtain ⟨i, -, hi⟩ := List.mem_filterMap.mp h
  exact List.mem_of_getElem? hi
theorem aoW_in : Cond.arrayOver (.object "ThatchNext$World") ∈ lw_tbl := List.mem_of_getElem? (i := 221) (by decide +kernel)
theorem aoN_in : Cond.arrayOver (.object "ThatchNext$Numbers") ∈ lw_tbl := List.mem_of_getElem? (i := 223) (by decide +kernel)
theorem sr_0 : Cond.stringRef RX5 59 "roof" ∈ lw_tbl := List.mem_of_getElem? (i := 391) (by decide +kernel)
theorem sr_1 : Cond.stringRef RX5 106 "slate" ∈ lw_tbl := List.mem_of_getElem? (i := 448) (by decide +kernel)
theorem sr_2 : Cond.stringRef RX5 84 "reed" ∈ lw_tbl := List.mem_of_getElem? (i := 449) (by decide +kernel)
theorem sr_3 : Cond.stringRef RX5 111 "straw" ∈ lw_tbl := List.mem_of_getElem? (i := 450) (by decide +kernel)
theorem sr_4 : Cond.stringRef RX5 123 "wet" ∈ lw_tbl := List.mem_of_getElem? (i := 462) (by decide +kernel)
theorem sr_5 : Cond.stringRef RX5 129 "mice" ∈ lw_tbl := List.mem_of_getElem? (i := 466) (by decide +kernel)
theorem sr_6 : Cond.stringRef RX5 134 "spark" ∈ lw_tbl := List.mem_of_getElem? (i := 471) (by decide +kernel)
theorem sr_7 : Cond.stringRef RX5 68 "ring" ∈ lw_tbl := List.mem_of_getElem? (i := 479) (by decide +kernel)
theorem sr_8 : Cond.stringRef RX5 74 "deep" ∈ lw_tbl := List.mem_of_getElem? (i := 480) (by decide +kernel)
theorem sr_9 : Cond.stringRef RX5 92 "odds" ∈ lw_tbl := List.mem_of_getElem? (i := 481) (by decide +kernel)
theorem sr_10 : Cond.stringRef RX8 77 " roof reed straw wet mice spark slate ring deep odds " ∈ lw_tbl := List.mem_of_getElem? (i := 1118) (by decide +kernel)
theorem ly_cs : Cond.laysStatic "java/lang/String" "COMPACT_STRINGS" "Z" ∈ lw_tbl := List.mem_of_getElem? (i := 405) (by decide +kernel)
theorem in_cs : Cond.initialized "java/lang/String" ∈ lw_tbl := List.mem_of_getElem? (i := 79) (by decide +kernel)
theorem ly_sf : Cond.laysStatic "jdk/internal/util/Preconditions" "SIOOBE_FORMATTER" "Ljava/util/function/BiFunction;" ∈ lw_tbl := List.mem_of_getElem? (i := 421) (by decide +kernel)
theorem in_sf : Cond.initialized "jdk/internal/util/Preconditions" ∈ lw_tbl := List.mem_of_getElem? (i := 81) (by decide +kernel)
