section
-- ===== PART A: goes FIRST, ahead of the names: the tables' words, and 'selects' of the private methods out of them =====
/-- a private method of a class that the tables say can be made, by its rows of tables_1 -/
def lw_okq (q : MethodName × Nat) : Prop := (q.1.cls ≠ "java/lang/invoke/MethodHandle" ∧ q.1.cls ≠ "java/lang/invoke/VarHandle") ∧ Cond.instantiable q.1.cls q.2 ∈ tables_1 ∧ Cond.privateMethod q.1 ∈ tables_1 ∧ Cond.instanceMethod q.1 ∈ tables_1
theorem lw_p0 : lw_okq (⟨"StepShake", "patternAt", "(I)LStepShake$Pattern;"⟩, 9) := ⟨⟨by decide +kernel, by decide +kernel⟩, List.mem_of_getElem? (i := 20) (by decide +kernel), List.mem_of_getElem? (i := 343) (by decide +kernel), List.mem_of_getElem? (i := 344) (by decide +kernel)⟩
theorem lw_p1 : lw_okq (⟨"StepShake$Pattern", "hasEmptyMessage", "()Z"⟩, 6) := ⟨⟨by decide +kernel, by decide +kernel⟩, List.mem_of_getElem? (i := 309) (by decide +kernel), List.mem_of_getElem? (i := 367) (by decide +kernel), List.mem_of_getElem? (i := 368) (by decide +kernel)⟩
theorem lw_p2 : lw_okq (⟨"StepShake$Sha", "addBlock", "()V"⟩, 4) := ⟨⟨by decide +kernel, by decide +kernel⟩, List.mem_of_getElem? (i := 58) (by decide +kernel), List.mem_of_getElem? (i := 486) (by decide +kernel), List.mem_of_getElem? (i := 487) (by decide +kernel)⟩
theorem lw_p3 : lw_okq (⟨"StepShake$Curve", "swap", "()V"⟩, 10) := ⟨⟨by decide +kernel, by decide +kernel⟩, List.mem_of_getElem? (i := 98) (by decide +kernel), List.mem_of_getElem? (i := 519) (by decide +kernel), List.mem_of_getElem? (i := 520) (by decide +kernel)⟩
theorem lw_p4 : lw_okq (⟨"StepShake$Curve", "step", "()V"⟩, 10) := ⟨⟨by decide +kernel, by decide +kernel⟩, List.mem_of_getElem? (i := 98) (by decide +kernel), List.mem_of_getElem? (i := 523) (by decide +kernel), List.mem_of_getElem? (i := 524) (by decide +kernel)⟩
theorem lw_p5 : lw_okq (⟨"StepShake$Talk", "mixHash", "(LStepShake$State;[III)V"⟩, 8) := ⟨⟨by decide +kernel, by decide +kernel⟩, List.mem_of_getElem? (i := 52) (by decide +kernel), List.mem_of_getElem? (i := 610) (by decide +kernel), List.mem_of_getElem? (i := 611) (by decide +kernel)⟩
theorem lw_p6 : lw_okq (⟨"StepShake", "sideAt", "(I)LStepShake$Side;"⟩, 9) := ⟨⟨by decide +kernel, by decide +kernel⟩, List.mem_of_getElem? (i := 20) (by decide +kernel), List.mem_of_getElem? (i := 623) (by decide +kernel), List.mem_of_getElem? (i := 624) (by decide +kernel)⟩
theorem lw_p7 : lw_okq (⟨"StepShake$Cipher", "prepare", "([II)V"⟩, 5) := ⟨⟨by decide +kernel, by decide +kernel⟩, List.mem_of_getElem? (i := 136) (by decide +kernel), List.mem_of_getElem? (i := 658) (by decide +kernel), List.mem_of_getElem? (i := 659) (by decide +kernel)⟩
theorem lw_p8 : lw_okq (⟨"StepShake$Cipher", "turn", "([III)V"⟩, 5) := ⟨⟨by decide +kernel, by decide +kernel⟩, List.mem_of_getElem? (i := 136) (by decide +kernel), List.mem_of_getElem? (i := 667) (by decide +kernel), List.mem_of_getElem? (i := 668) (by decide +kernel)⟩
theorem lw_p9 : lw_okq (⟨"StepShake$Cipher", "makeBlock", "(I)V"⟩, 5) := ⟨⟨by decide +kernel, by decide +kernel⟩, List.mem_of_getElem? (i := 136) (by decide +kernel), List.mem_of_getElem? (i := 671) (by decide +kernel), List.mem_of_getElem? (i := 672) (by decide +kernel)⟩
theorem lw_p10 : lw_okq (⟨"StepShake$Cipher", "quarter", "(IIII)V"⟩, 5) := ⟨⟨by decide +kernel, by decide +kernel⟩, List.mem_of_getElem? (i := 136) (by decide +kernel), List.mem_of_getElem? (i := 676) (by decide +kernel), List.mem_of_getElem? (i := 677) (by decide +kernel)⟩
theorem lw_p11 : lw_okq (⟨"StepShake$Cipher", "mix", "(IIII)V"⟩, 5) := ⟨⟨by decide +kernel, by decide +kernel⟩, List.mem_of_getElem? (i := 136) (by decide +kernel), List.mem_of_getElem? (i := 680) (by decide +kernel), List.mem_of_getElem? (i := 681) (by decide +kernel)⟩
theorem lw_p12 : lw_okq (⟨"StepShake$Cipher", "blockByte", "(I)I"⟩, 5) := ⟨⟨by decide +kernel, by decide +kernel⟩, List.mem_of_getElem? (i := 136) (by decide +kernel), List.mem_of_getElem? (i := 684) (by decide +kernel), List.mem_of_getElem? (i := 685) (by decide +kernel)⟩
theorem lw_p13 : lw_okq (⟨"StepShake$Cipher", "makeTag", "([I[III)V"⟩, 5) := ⟨⟨by decide +kernel, by decide +kernel⟩, List.mem_of_getElem? (i := 136) (by decide +kernel), List.mem_of_getElem? (i := 688) (by decide +kernel), List.mem_of_getElem? (i := 689) (by decide +kernel)⟩
theorem lw_p14 : lw_okq (⟨"StepShake$Tagger", "addBlock", "()V"⟩, 5) := ⟨⟨by decide +kernel, by decide +kernel⟩, List.mem_of_getElem? (i := 142) (by decide +kernel), List.mem_of_getElem? (i := 704) (by decide +kernel), List.mem_of_getElem? (i := 705) (by decide +kernel)⟩
theorem lw_p15 : lw_okq (⟨"StepShake$Talk", "sendE", "(LStepShake$Side;LStepShake$Row;)V"⟩, 8) := ⟨⟨by decide +kernel, by decide +kernel⟩, List.mem_of_getElem? (i := 52) (by decide +kernel), List.mem_of_getElem? (i := 729) (by decide +kernel), List.mem_of_getElem? (i := 730) (by decide +kernel)⟩
def lw_privs_1 : List (MethodName × Nat) := [(⟨"StepShake", "patternAt", "(I)LStepShake$Pattern;"⟩, 9), (⟨"StepShake$Pattern", "hasEmptyMessage", "()Z"⟩, 6), (⟨"StepShake$Sha", "addBlock", "()V"⟩, 4), (⟨"StepShake$Curve", "swap", "()V"⟩, 10), (⟨"StepShake$Curve", "step", "()V"⟩, 10), (⟨"StepShake$Talk", "mixHash", "(LStepShake$State;[III)V"⟩, 8), (⟨"StepShake", "sideAt", "(I)LStepShake$Side;"⟩, 9), (⟨"StepShake$Cipher", "prepare", "([II)V"⟩, 5), (⟨"StepShake$Cipher", "turn", "([III)V"⟩, 5), (⟨"StepShake$Cipher", "makeBlock", "(I)V"⟩, 5), (⟨"StepShake$Cipher", "quarter", "(IIII)V"⟩, 5), (⟨"StepShake$Cipher", "mix", "(IIII)V"⟩, 5), (⟨"StepShake$Cipher", "blockByte", "(I)I"⟩, 5), (⟨"StepShake$Cipher", "makeTag", "([I[III)V"⟩, 5), (⟨"StepShake$Tagger", "addBlock", "()V"⟩, 5), (⟨"StepShake$Talk", "sendE", "(LStepShake$Side;LStepShake$Row;)V"⟩, 8)]
theorem lw_r1 : ∀ q ∈ lw_privs_1, lw_okq q := List.forall_mem_cons.mpr ⟨lw_p0, List.forall_mem_cons.mpr ⟨lw_p1, List.forall_mem_cons.mpr ⟨lw_p2, List.forall_mem_cons.mpr ⟨lw_p3, List.forall_mem_cons.mpr ⟨lw_p4, List.forall_mem_cons.mpr ⟨lw_p5, List.forall_mem_cons.mpr ⟨lw_p6, List.forall_mem_cons.mpr ⟨lw_p7, List.forall_mem_cons.mpr ⟨lw_p8, List.forall_mem_cons.mpr ⟨lw_p9, List.forall_mem_cons.mpr ⟨lw_p10, List.forall_mem_cons.mpr ⟨lw_p11, List.forall_mem_cons.mpr ⟨lw_p12, List.forall_mem_cons.mpr ⟨lw_p13, List.forall_mem_cons.mpr ⟨lw_p14, List.forall_mem_cons.mpr ⟨lw_p15, fun _ h => absurd h List.not_mem_nil⟩⟩⟩⟩⟩⟩⟩⟩⟩⟩⟩⟩⟩⟩⟩⟩
theorem lw_p16 : lw_okq (⟨"StepShake$Talk", "seal", "(LStepShake$State;[IILStepShake$Row;)V"⟩, 8) := ⟨⟨by decide +kernel, by decide +kernel⟩, List.mem_of_getElem? (i := 52) (by decide +kernel), List.mem_of_getElem? (i := 733) (by decide +kernel), List.mem_of_getElem? (i := 734) (by decide +kernel)⟩
theorem lw_p17 : lw_okq (⟨"StepShake$Talk", "mixDh", "(LStepShake$Side;LStepShake$State;I)V"⟩, 8) := ⟨⟨by decide +kernel, by decide +kernel⟩, List.mem_of_getElem? (i := 52) (by decide +kernel), List.mem_of_getElem? (i := 737) (by decide +kernel), List.mem_of_getElem? (i := 738) (by decide +kernel)⟩
theorem lw_p18 : lw_okq (⟨"StepShake$Mac", "makeMac", "([I[II[I)V"⟩, 4) := ⟨⟨by decide +kernel, by decide +kernel⟩, List.mem_of_getElem? (i := 77) (by decide +kernel), List.mem_of_getElem? (i := 745) (by decide +kernel), List.mem_of_getElem? (i := 746) (by decide +kernel)⟩
theorem lw_p19 : lw_okq (⟨"StepShake$Mac", "beginWith", "([II)V"⟩, 4) := ⟨⟨by decide +kernel, by decide +kernel⟩, List.mem_of_getElem? (i := 77) (by decide +kernel), List.mem_of_getElem? (i := 749) (by decide +kernel), List.mem_of_getElem? (i := 750) (by decide +kernel)⟩
theorem lw_p20 : lw_okq (⟨"StepShake$Talk", "endMessage", "(LStepShake$Side;LStepShake$State;)V"⟩, 8) := ⟨⟨by decide +kernel, by decide +kernel⟩, List.mem_of_getElem? (i := 52) (by decide +kernel), List.mem_of_getElem? (i := 758) (by decide +kernel), List.mem_of_getElem? (i := 759) (by decide +kernel)⟩
theorem lw_p21 : lw_okq (⟨"StepShake$Talk", "takeE", "(LStepShake$Row;I)V"⟩, 8) := ⟨⟨by decide +kernel, by decide +kernel⟩, List.mem_of_getElem? (i := 52) (by decide +kernel), List.mem_of_getElem? (i := 793) (by decide +kernel), List.mem_of_getElem? (i := 794) (by decide +kernel)⟩
theorem lw_p22 : lw_okq (⟨"StepShake$Talk", "open", "(LStepShake$State;LStepShake$Row;IILStepShake$Row;)Z"⟩, 8) := ⟨⟨by decide +kernel, by decide +kernel⟩, List.mem_of_getElem? (i := 52) (by decide +kernel), List.mem_of_getElem? (i := 798) (by decide +kernel), List.mem_of_getElem? (i := 799) (by decide +kernel)⟩
theorem lw_p23 : lw_okq (⟨"StepShakeModel", "isPattern", "(I)Z"⟩, 63) := ⟨⟨by decide +kernel, by decide +kernel⟩, List.mem_of_getElem? (i := 861) (by decide +kernel), List.mem_of_getElem? (i := 1138) (by decide +kernel), List.mem_of_getElem? (i := 1139) (by decide +kernel)⟩
theorem lw_p24 : lw_okq (⟨"StepShakeModel", "isUsed", "(I)Z"⟩, 63) := ⟨⟨by decide +kernel, by decide +kernel⟩, List.mem_of_getElem? (i := 861) (by decide +kernel), List.mem_of_getElem? (i := 1145) (by decide +kernel), List.mem_of_getElem? (i := 1146) (by decide +kernel)⟩
theorem lw_p25 : lw_okq (⟨"StepShakeModel", "faultOf", "(I)I"⟩, 63) := ⟨⟨by decide +kernel, by decide +kernel⟩, List.mem_of_getElem? (i := 861) (by decide +kernel), List.mem_of_getElem? (i := 1157) (by decide +kernel), List.mem_of_getElem? (i := 1158) (by decide +kernel)⟩
theorem lw_p26 : lw_okq (⟨"StepShakeModel", "judges", "(II)V"⟩, 63) := ⟨⟨by decide +kernel, by decide +kernel⟩, List.mem_of_getElem? (i := 861) (by decide +kernel), List.mem_of_getElem? (i := 1161) (by decide +kernel), List.mem_of_getElem? (i := 1162) (by decide +kernel)⟩
theorem lw_p27 : lw_okq (⟨"StepShakeModel", "seals", "(I)V"⟩, 63) := ⟨⟨by decide +kernel, by decide +kernel⟩, List.mem_of_getElem? (i := 861) (by decide +kernel), List.mem_of_getElem? (i := 1165) (by decide +kernel), List.mem_of_getElem? (i := 1166) (by decide +kernel)⟩
theorem lw_p28 : lw_okq (⟨"StepShakeModel", "sendsS", "(II)Z"⟩, 63) := ⟨⟨by decide +kernel, by decide +kernel⟩, List.mem_of_getElem? (i := 861) (by decide +kernel), List.mem_of_getElem? (i := 1177) (by decide +kernel), List.mem_of_getElem? (i := 1178) (by decide +kernel)⟩
theorem lw_p29 : lw_okq (⟨"StepShakeModel", "secret", "(II[II)V"⟩, 63) := ⟨⟨by decide +kernel, by decide +kernel⟩, List.mem_of_getElem? (i := 861) (by decide +kernel), List.mem_of_getElem? (i := 1181) (by decide +kernel), List.mem_of_getElem? (i := 1182) (by decide +kernel)⟩
theorem lw_p30 : lw_okq (⟨"StepShakeModel", "hashes", "([II)V"⟩, 63) := ⟨⟨by decide +kernel, by decide +kernel⟩, List.mem_of_getElem? (i := 861) (by decide +kernel), List.mem_of_getElem? (i := 1185) (by decide +kernel), List.mem_of_getElem? (i := 1186) (by decide +kernel)⟩
theorem lw_p31 : lw_okq (⟨"StepShakeModel", "block", "(II)V"⟩, 63) := ⟨⟨by decide +kernel, by decide +kernel⟩, List.mem_of_getElem? (i := 861) (by decide +kernel), List.mem_of_getElem? (i := 1189) (by decide +kernel), List.mem_of_getElem? (i := 1190) (by decide +kernel)⟩
def lw_privs_2 : List (MethodName × Nat) := [(⟨"StepShake$Talk", "seal", "(LStepShake$State;[IILStepShake$Row;)V"⟩, 8), (⟨"StepShake$Talk", "mixDh", "(LStepShake$Side;LStepShake$State;I)V"⟩, 8), (⟨"StepShake$Mac", "makeMac", "([I[II[I)V"⟩, 4), (⟨"StepShake$Mac", "beginWith", "([II)V"⟩, 4), (⟨"StepShake$Talk", "endMessage", "(LStepShake$Side;LStepShake$State;)V"⟩, 8), (⟨"StepShake$Talk", "takeE", "(LStepShake$Row;I)V"⟩, 8), (⟨"StepShake$Talk", "open", "(LStepShake$State;LStepShake$Row;IILStepShake$Row;)Z"⟩, 8), (⟨"StepShakeModel", "isPattern", "(I)Z"⟩, 63), (⟨"StepShakeModel", "isUsed", "(I)Z"⟩, 63), (⟨"StepShakeModel", "faultOf", "(I)I"⟩, 63), (⟨"StepShakeModel", "judges", "(II)V"⟩, 63), (⟨"StepShakeModel", "seals", "(I)V"⟩, 63), (⟨"StepShakeModel", "sendsS", "(II)Z"⟩, 63), (⟨"StepShakeModel", "secret", "(II[II)V"⟩, 63), (⟨"StepShakeModel", "hashes", "([II)V"⟩, 63), (⟨"StepShakeModel", "block", "(II)V"⟩, 63)]
theorem lw_r2 : ∀ q ∈ lw_privs_2, lw_okq q := List.forall_mem_cons.mpr ⟨lw_p16, List.forall_mem_cons.mpr ⟨lw_p17, List.forall_mem_cons.mpr ⟨lw_p18, List.forall_mem_cons.mpr ⟨lw_p19, List.forall_mem_cons.mpr ⟨lw_p20, List.forall_mem_cons.mpr ⟨lw_p21, List.forall_mem_cons.mpr ⟨lw_p22, List.forall_mem_cons.mpr ⟨lw_p23, List.forall_mem_cons.mpr ⟨lw_p24, List.forall_mem_cons.mpr ⟨lw_p25, List.forall_mem_cons.mpr ⟨lw_p26, List.forall_mem_cons.mpr ⟨lw_p27, List.forall_mem_cons.mpr ⟨lw_p28, List.forall_mem_cons.mpr ⟨lw_p29, List.forall_mem_cons.mpr ⟨lw_p30, List.forall_mem_cons.mpr ⟨lw_p31, fun _ h => absurd h List.not_mem_nil⟩⟩⟩⟩⟩⟩⟩⟩⟩⟩⟩⟩⟩⟩⟩⟩
theorem lw_p32 : lw_okq (⟨"StepShakeModel", "padded", "(II)I"⟩, 63) := ⟨⟨by decide +kernel, by decide +kernel⟩, List.mem_of_getElem? (i := 861) (by decide +kernel), List.mem_of_getElem? (i := 1193) (by decide +kernel), List.mem_of_getElem? (i := 1194) (by decide +kernel)⟩
theorem lw_p33 : lw_okq (⟨"StepShakeModel", "begins", "(I)V"⟩, 63) := ⟨⟨by decide +kernel, by decide +kernel⟩, List.mem_of_getElem? (i := 861) (by decide +kernel), List.mem_of_getElem? (i := 1200) (by decide +kernel), List.mem_of_getElem? (i := 1201) (by decide +kernel)⟩
theorem lw_p34 : lw_okq (⟨"StepShakeModel", "publicOf", "([II[II)V"⟩, 63) := ⟨⟨by decide +kernel, by decide +kernel⟩, List.mem_of_getElem? (i := 861) (by decide +kernel), List.mem_of_getElem? (i := 1204) (by decide +kernel), List.mem_of_getElem? (i := 1205) (by decide +kernel)⟩
theorem lw_p35 : lw_okq (⟨"StepShakeModel", "dh", "([II[II[II)V"⟩, 63) := ⟨⟨by decide +kernel, by decide +kernel⟩, List.mem_of_getElem? (i := 861) (by decide +kernel), List.mem_of_getElem? (i := 1208) (by decide +kernel), List.mem_of_getElem? (i := 1209) (by decide +kernel)⟩
theorem lw_p36 : lw_okq (⟨"StepShakeModel", "sets", "(IJ)V"⟩, 63) := ⟨⟨by decide +kernel, by decide +kernel⟩, List.mem_of_getElem? (i := 861) (by decide +kernel), List.mem_of_getElem? (i := 1217) (by decide +kernel), List.mem_of_getElem? (i := 1218) (by decide +kernel)⟩
theorem lw_p37 : lw_okq (⟨"StepShakeModel", "copies", "(II)V"⟩, 63) := ⟨⟨by decide +kernel, by decide +kernel⟩, List.mem_of_getElem? (i := 861) (by decide +kernel), List.mem_of_getElem? (i := 1221) (by decide +kernel), List.mem_of_getElem? (i := 1222) (by decide +kernel)⟩
theorem lw_p38 : lw_okq (⟨"StepShakeModel", "exchange", "(IIZ)V"⟩, 63) := ⟨⟨by decide +kernel, by decide +kernel⟩, List.mem_of_getElem? (i := 861) (by decide +kernel), List.mem_of_getElem? (i := 1225) (by decide +kernel), List.mem_of_getElem? (i := 1226) (by decide +kernel)⟩
theorem lw_p39 : lw_okq (⟨"StepShakeModel", "ladderStep", "()V"⟩, 63) := ⟨⟨by decide +kernel, by decide +kernel⟩, List.mem_of_getElem? (i := 861) (by decide +kernel), List.mem_of_getElem? (i := 1229) (by decide +kernel), List.mem_of_getElem? (i := 1230) (by decide +kernel)⟩
theorem lw_p40 : lw_okq (⟨"StepShakeModel", "plus", "(III)V"⟩, 63) := ⟨⟨by decide +kernel, by decide +kernel⟩, List.mem_of_getElem? (i := 861) (by decide +kernel), List.mem_of_getElem? (i := 1233) (by decide +kernel), List.mem_of_getElem? (i := 1234) (by decide +kernel)⟩
theorem lw_p41 : lw_okq (⟨"StepShakeModel", "minus", "(III)V"⟩, 63) := ⟨⟨by decide +kernel, by decide +kernel⟩, List.mem_of_getElem? (i := 861) (by decide +kernel), List.mem_of_getElem? (i := 1237) (by decide +kernel), List.mem_of_getElem? (i := 1238) (by decide +kernel)⟩
theorem lw_p42 : lw_okq (⟨"StepShakeModel", "times", "(III)V"⟩, 63) := ⟨⟨by decide +kernel, by decide +kernel⟩, List.mem_of_getElem? (i := 861) (by decide +kernel), List.mem_of_getElem? (i := 1241) (by decide +kernel), List.mem_of_getElem? (i := 1242) (by decide +kernel)⟩
theorem lw_p43 : lw_okq (⟨"StepShakeModel", "carry", "(I)V"⟩, 63) := ⟨⟨by decide +kernel, by decide +kernel⟩, List.mem_of_getElem? (i := 861) (by decide +kernel), List.mem_of_getElem? (i := 1246) (by decide +kernel), List.mem_of_getElem? (i := 1247) (by decide +kernel)⟩
theorem lw_p44 : lw_okq (⟨"StepShakeModel", "invert", "()V"⟩, 63) := ⟨⟨by decide +kernel, by decide +kernel⟩, List.mem_of_getElem? (i := 861) (by decide +kernel), List.mem_of_getElem? (i := 1251) (by decide +kernel), List.mem_of_getElem? (i := 1252) (by decide +kernel)⟩
theorem lw_p45 : lw_okq (⟨"StepShakeModel", "packs", "(I[II)V"⟩, 63) := ⟨⟨by decide +kernel, by decide +kernel⟩, List.mem_of_getElem? (i := 861) (by decide +kernel), List.mem_of_getElem? (i := 1255) (by decide +kernel), List.mem_of_getElem? (i := 1256) (by decide +kernel)⟩
theorem lw_p46 : lw_okq (⟨"StepShakeModel", "mixHash", "(I[III)V"⟩, 63) := ⟨⟨by decide +kernel, by decide +kernel⟩, List.mem_of_getElem? (i := 861) (by decide +kernel), List.mem_of_getElem? (i := 1265) (by decide +kernel), List.mem_of_getElem? (i := 1266) (by decide +kernel)⟩
theorem lw_p47 : lw_okq (⟨"StepShakeModel", "lays", "([III)V"⟩, 63) := ⟨⟨by decide +kernel, by decide +kernel⟩, List.mem_of_getElem? (i := 861) (by decide +kernel), List.mem_of_getElem? (i := 1269) (by decide +kernel), List.mem_of_getElem? (i := 1270) (by decide +kernel)⟩
def lw_privs_3 : List (MethodName × Nat) := [(⟨"StepShakeModel", "padded", "(II)I"⟩, 63), (⟨"StepShakeModel", "begins", "(I)V"⟩, 63), (⟨"StepShakeModel", "publicOf", "([II[II)V"⟩, 63), (⟨"StepShakeModel", "dh", "([II[II[II)V"⟩, 63), (⟨"StepShakeModel", "sets", "(IJ)V"⟩, 63), (⟨"StepShakeModel", "copies", "(II)V"⟩, 63), (⟨"StepShakeModel", "exchange", "(IIZ)V"⟩, 63), (⟨"StepShakeModel", "ladderStep", "()V"⟩, 63), (⟨"StepShakeModel", "plus", "(III)V"⟩, 63), (⟨"StepShakeModel", "minus", "(III)V"⟩, 63), (⟨"StepShakeModel", "times", "(III)V"⟩, 63), (⟨"StepShakeModel", "carry", "(I)V"⟩, 63), (⟨"StepShakeModel", "invert", "()V"⟩, 63), (⟨"StepShakeModel", "packs", "(I[II)V"⟩, 63), (⟨"StepShakeModel", "mixHash", "(I[III)V"⟩, 63), (⟨"StepShakeModel", "lays", "([III)V"⟩, 63)]
theorem lw_r3 : ∀ q ∈ lw_privs_3, lw_okq q := List.forall_mem_cons.mpr ⟨lw_p32, List.forall_mem_cons.mpr ⟨lw_p33, List.forall_mem_cons.mpr ⟨lw_p34, List.forall_mem_cons.mpr ⟨lw_p35, List.forall_mem_cons.mpr ⟨lw_p36, List.forall_mem_cons.mpr ⟨lw_p37, List.forall_mem_cons.mpr ⟨lw_p38, List.forall_mem_cons.mpr ⟨lw_p39, List.forall_mem_cons.mpr ⟨lw_p40, List.forall_mem_cons.mpr ⟨lw_p41, List.forall_mem_cons.mpr ⟨lw_p42, List.forall_mem_cons.mpr ⟨lw_p43, List.forall_mem_cons.mpr ⟨lw_p44, List.forall_mem_cons.mpr ⟨lw_p45, List.forall_mem_cons.mpr ⟨lw_p46, List.forall_mem_cons.mpr ⟨lw_p47, fun _ h => absurd h List.not_mem_nil⟩⟩⟩⟩⟩⟩⟩⟩⟩⟩⟩⟩⟩⟩⟩⟩
theorem lw_p48 : lw_okq (⟨"StepShakeModel", "isSide", "(I)Z"⟩, 63) := ⟨⟨by decide +kernel, by decide +kernel⟩, List.mem_of_getElem? (i := 861) (by decide +kernel), List.mem_of_getElem? (i := 1277) (by decide +kernel), List.mem_of_getElem? (i := 1278) (by decide +kernel)⟩
theorem lw_p49 : lw_okq (⟨"StepShakeModel", "ciphers", "([III[III)V"⟩, 63) := ⟨⟨by decide +kernel, by decide +kernel⟩, List.mem_of_getElem? (i := 861) (by decide +kernel), List.mem_of_getElem? (i := 1289) (by decide +kernel), List.mem_of_getElem? (i := 1290) (by decide +kernel)⟩
theorem lw_p50 : lw_okq (⟨"StepShakeModel", "streams", "([IIII)V"⟩, 63) := ⟨⟨by decide +kernel, by decide +kernel⟩, List.mem_of_getElem? (i := 861) (by decide +kernel), List.mem_of_getElem? (i := 1293) (by decide +kernel), List.mem_of_getElem? (i := 1294) (by decide +kernel)⟩
theorem lw_p51 : lw_okq (⟨"StepShakeModel", "quarter", "(IIII)V"⟩, 63) := ⟨⟨by decide +kernel, by decide +kernel⟩, List.mem_of_getElem? (i := 861) (by decide +kernel), List.mem_of_getElem? (i := 1301) (by decide +kernel), List.mem_of_getElem? (i := 1302) (by decide +kernel)⟩
theorem lw_p52 : lw_okq (⟨"StepShakeModel", "tagOf", "([III[III[III)V"⟩, 63) := ⟨⟨by decide +kernel, by decide +kernel⟩, List.mem_of_getElem? (i := 861) (by decide +kernel), List.mem_of_getElem? (i := 1305) (by decide +kernel), List.mem_of_getElem? (i := 1306) (by decide +kernel)⟩
theorem lw_p53 : lw_okq (⟨"StepShakeModel", "tellsLong", "(II)V"⟩, 63) := ⟨⟨by decide +kernel, by decide +kernel⟩, List.mem_of_getElem? (i := 861) (by decide +kernel), List.mem_of_getElem? (i := 1309) (by decide +kernel), List.mem_of_getElem? (i := 1310) (by decide +kernel)⟩
theorem lw_p54 : lw_okq (⟨"StepShakeModel", "tags", "(I)V"⟩, 63) := ⟨⟨by decide +kernel, by decide +kernel⟩, List.mem_of_getElem? (i := 861) (by decide +kernel), List.mem_of_getElem? (i := 1313) (by decide +kernel), List.mem_of_getElem? (i := 1314) (by decide +kernel)⟩
theorem lw_p55 : lw_okq (⟨"StepShakeModel", "adds", "()V"⟩, 63) := ⟨⟨by decide +kernel, by decide +kernel⟩, List.mem_of_getElem? (i := 861) (by decide +kernel), List.mem_of_getElem? (i := 1317) (by decide +kernel), List.mem_of_getElem? (i := 1318) (by decide +kernel)⟩
theorem lw_p56 : lw_okq (⟨"StepShakeModel", "multiplies", "()V"⟩, 63) := ⟨⟨by decide +kernel, by decide +kernel⟩, List.mem_of_getElem? (i := 861) (by decide +kernel), List.mem_of_getElem? (i := 1321) (by decide +kernel), List.mem_of_getElem? (i := 1322) (by decide +kernel)⟩
theorem lw_p57 : lw_okq (⟨"StepShakeModel", "writesToken", "(III)I"⟩, 63) := ⟨⟨by decide +kernel, by decide +kernel⟩, List.mem_of_getElem? (i := 861) (by decide +kernel), List.mem_of_getElem? (i := 1325) (by decide +kernel), List.mem_of_getElem? (i := 1326) (by decide +kernel)⟩
theorem lw_p58 : lw_okq (⟨"StepShakeModel", "seal", "(I[III)I"⟩, 63) := ⟨⟨by decide +kernel, by decide +kernel⟩, List.mem_of_getElem? (i := 861) (by decide +kernel), List.mem_of_getElem? (i := 1329) (by decide +kernel), List.mem_of_getElem? (i := 1330) (by decide +kernel)⟩
theorem lw_p59 : lw_okq (⟨"StepShakeModel", "shares", "(II)V"⟩, 63) := ⟨⟨by decide +kernel, by decide +kernel⟩, List.mem_of_getElem? (i := 861) (by decide +kernel), List.mem_of_getElem? (i := 1333) (by decide +kernel), List.mem_of_getElem? (i := 1334) (by decide +kernel)⟩
theorem lw_p60 : lw_okq (⟨"StepShakeModel", "mixKey", "(I)V"⟩, 63) := ⟨⟨by decide +kernel, by decide +kernel⟩, List.mem_of_getElem? (i := 861) (by decide +kernel), List.mem_of_getElem? (i := 1337) (by decide +kernel), List.mem_of_getElem? (i := 1338) (by decide +kernel)⟩
theorem lw_p61 : lw_okq (⟨"StepShakeModel", "keys", "([II[II)V"⟩, 63) := ⟨⟨by decide +kernel, by decide +kernel⟩, List.mem_of_getElem? (i := 861) (by decide +kernel), List.mem_of_getElem? (i := 1341) (by decide +kernel), List.mem_of_getElem? (i := 1342) (by decide +kernel)⟩
theorem lw_p62 : lw_okq (⟨"StepShakeModel", "mac", "([II[III[II)V"⟩, 63) := ⟨⟨by decide +kernel, by decide +kernel⟩, List.mem_of_getElem? (i := 861) (by decide +kernel), List.mem_of_getElem? (i := 1345) (by decide +kernel), List.mem_of_getElem? (i := 1346) (by decide +kernel)⟩
theorem lw_p63 : lw_okq (⟨"StepShakeModel", "ends", "(I)V"⟩, 63) := ⟨⟨by decide +kernel, by decide +kernel⟩, List.mem_of_getElem? (i := 861) (by decide +kernel), List.mem_of_getElem? (i := 1349) (by decide +kernel), List.mem_of_getElem? (i := 1350) (by decide +kernel)⟩
def lw_privs_4 : List (MethodName × Nat) := [(⟨"StepShakeModel", "isSide", "(I)Z"⟩, 63), (⟨"StepShakeModel", "ciphers", "([III[III)V"⟩, 63), (⟨"StepShakeModel", "streams", "([IIII)V"⟩, 63), (⟨"StepShakeModel", "quarter", "(IIII)V"⟩, 63), (⟨"StepShakeModel", "tagOf", "([III[III[III)V"⟩, 63), (⟨"StepShakeModel", "tellsLong", "(II)V"⟩, 63), (⟨"StepShakeModel", "tags", "(I)V"⟩, 63), (⟨"StepShakeModel", "adds", "()V"⟩, 63), (⟨"StepShakeModel", "multiplies", "()V"⟩, 63), (⟨"StepShakeModel", "writesToken", "(III)I"⟩, 63), (⟨"StepShakeModel", "seal", "(I[III)I"⟩, 63), (⟨"StepShakeModel", "shares", "(II)V"⟩, 63), (⟨"StepShakeModel", "mixKey", "(I)V"⟩, 63), (⟨"StepShakeModel", "keys", "([II[II)V"⟩, 63), (⟨"StepShakeModel", "mac", "([II[III[II)V"⟩, 63), (⟨"StepShakeModel", "ends", "(I)V"⟩, 63)]
theorem lw_r4 : ∀ q ∈ lw_privs_4, lw_okq q := List.forall_mem_cons.mpr ⟨lw_p48, List.forall_mem_cons.mpr ⟨lw_p49, List.forall_mem_cons.mpr ⟨lw_p50, List.forall_mem_cons.mpr ⟨lw_p51, List.forall_mem_cons.mpr ⟨lw_p52, List.forall_mem_cons.mpr ⟨lw_p53, List.forall_mem_cons.mpr ⟨lw_p54, List.forall_mem_cons.mpr ⟨lw_p55, List.forall_mem_cons.mpr ⟨lw_p56, List.forall_mem_cons.mpr ⟨lw_p57, List.forall_mem_cons.mpr ⟨lw_p58, List.forall_mem_cons.mpr ⟨lw_p59, List.forall_mem_cons.mpr ⟨lw_p60, List.forall_mem_cons.mpr ⟨lw_p61, List.forall_mem_cons.mpr ⟨lw_p62, List.forall_mem_cons.mpr ⟨lw_p63, fun _ h => absurd h List.not_mem_nil⟩⟩⟩⟩⟩⟩⟩⟩⟩⟩⟩⟩⟩⟩⟩⟩
theorem lw_p64 : lw_okq (⟨"StepShakeModel", "readsDone", "(I)I"⟩, 63) := ⟨⟨by decide +kernel, by decide +kernel⟩, List.mem_of_getElem? (i := 861) (by decide +kernel), List.mem_of_getElem? (i := 1357) (by decide +kernel), List.mem_of_getElem? (i := 1358) (by decide +kernel)⟩
theorem lw_p65 : lw_okq (⟨"StepShakeModel", "isRight", "([II)Z"⟩, 63) := ⟨⟨by decide +kernel, by decide +kernel⟩, List.mem_of_getElem? (i := 861) (by decide +kernel), List.mem_of_getElem? (i := 1361) (by decide +kernel), List.mem_of_getElem? (i := 1362) (by decide +kernel)⟩
theorem lw_p66 : lw_okq (⟨"StepShakeModel", "copySide", "(II)V"⟩, 63) := ⟨⟨by decide +kernel, by decide +kernel⟩, List.mem_of_getElem? (i := 861) (by decide +kernel), List.mem_of_getElem? (i := 1365) (by decide +kernel), List.mem_of_getElem? (i := 1366) (by decide +kernel)⟩
theorem lw_p67 : lw_okq (⟨"StepShakeModel", "reads", "(I)I"⟩, 63) := ⟨⟨by decide +kernel, by decide +kernel⟩, List.mem_of_getElem? (i := 861) (by decide +kernel), List.mem_of_getElem? (i := 1369) (by decide +kernel), List.mem_of_getElem? (i := 1370) (by decide +kernel)⟩
theorem lw_p68 : lw_okq (⟨"StepShakeModel", "readsToken", "(III)I"⟩, 63) := ⟨⟨by decide +kernel, by decide +kernel⟩, List.mem_of_getElem? (i := 861) (by decide +kernel), List.mem_of_getElem? (i := 1373) (by decide +kernel), List.mem_of_getElem? (i := 1374) (by decide +kernel)⟩
theorem lw_p69 : lw_okq (⟨"StepShakeModel", "open", "(I[III[I)I"⟩, 63) := ⟨⟨by decide +kernel, by decide +kernel⟩, List.mem_of_getElem? (i := 861) (by decide +kernel), List.mem_of_getElem? (i := 1377) (by decide +kernel), List.mem_of_getElem? (i := 1378) (by decide +kernel)⟩
theorem lw_p70 : lw_okq (⟨"StepShakeModel", "aboutOf", "(II)I"⟩, 63) := ⟨⟨by decide +kernel, by decide +kernel⟩, List.mem_of_getElem? (i := 861) (by decide +kernel), List.mem_of_getElem? (i := 1401) (by decide +kernel), List.mem_of_getElem? (i := 1402) (by decide +kernel)⟩
def lw_privs_5 : List (MethodName × Nat) := [(⟨"StepShakeModel", "readsDone", "(I)I"⟩, 63), (⟨"StepShakeModel", "isRight", "([II)Z"⟩, 63), (⟨"StepShakeModel", "copySide", "(II)V"⟩, 63), (⟨"StepShakeModel", "reads", "(I)I"⟩, 63), (⟨"StepShakeModel", "readsToken", "(III)I"⟩, 63), (⟨"StepShakeModel", "open", "(I[III[I)I"⟩, 63), (⟨"StepShakeModel", "aboutOf", "(II)I"⟩, 63)]
theorem lw_r5 : ∀ q ∈ lw_privs_5, lw_okq q := List.forall_mem_cons.mpr ⟨lw_p64, List.forall_mem_cons.mpr ⟨lw_p65, List.forall_mem_cons.mpr ⟨lw_p66, List.forall_mem_cons.mpr ⟨lw_p67, List.forall_mem_cons.mpr ⟨lw_p68, List.forall_mem_cons.mpr ⟨lw_p69, List.forall_mem_cons.mpr ⟨lw_p70, fun _ h => absurd h List.not_mem_nil⟩⟩⟩⟩⟩⟩⟩
def lw_privs : List (MethodName × Nat) := lw_privs_1 ++ (lw_privs_2 ++ (lw_privs_3 ++ (lw_privs_4 ++ (lw_privs_5))))
def lw_tbl : List Cond := k2_sels lw_privs ++ tables_1
theorem lw_privs_ok : ∀ q ∈ lw_privs, lw_okq q := by
  show ∀ q ∈ lw_privs_1 ++ (lw_privs_2 ++ (lw_privs_3 ++ (lw_privs_4 ++ (lw_privs_5)))), lw_okq q
  exact List.forall_mem_append.mpr ⟨lw_r1, List.forall_mem_append.mpr ⟨lw_r2, List.forall_mem_append.mpr ⟨lw_r3, List.forall_mem_append.mpr ⟨lw_r4, lw_r5⟩⟩⟩⟩
end
section
/-! ===== BEGIN words of one list among another's, by their places ===== -/
theorem goodIn_r {big : List Cond} (ws : List Cond) (ps : List Nat) (hp : ws = ps.filterMap (fun i => big[i]?)) (h : ws.all goodWord = true) : GoodIn big ws := by
  intro w hw
  have h1 := List.all_eq_true.mp h w hw
  rw [hp] at hw
  obtain ⟨i, -, hi⟩ := List.mem_filterMap.mp hw
  have hm : w ∈ big := by first | exact List.mem_of_getElem? hi | exact List.getElem?_mem hi
  exact ⟨hm, good_of_word h1⟩
theorem goodIn_app {big a b : List Cond} (ha : GoodIn big a) (hb : GoodIn big b) : GoodIn big (a ++ b) := fun w h => (List.mem_append.mp h).elim (ha w) (hb w)
theorem goodIn_ca {big a b : List Cond} {c : Cond} (ha : GoodIn big (c :: a)) (hb : GoodIn big b) : GoodIn big (c :: (a ++ b)) := fun w h => (List.mem_cons.mp h).elim (fun e => ha w (List.mem_cons.mpr (Or.inl e))) (fun h => (List.mem_append.mp h).elim (fun h => ha w (List.mem_cons.mpr (Or.inr h))) (hb w))
theorem goodIn_sub {big ws : List Cond} (hm : ∀ w ∈ ws, w ∈ big) (h : ws.all goodWord = true) : GoodIn big ws := fun w hw => ⟨hm w hw, good_of_word (List.all_eq_true.mp h w hw)⟩
/-! ===== END ===== -/
/-! ===== BEGIN printed: names, fields, word lists, decode rows ===== -/
def RX0 : String := "StepShake$Cipher"
def TX0 : u_T := fun k => match k with
  | 0 => ("StepShake$Cipher", "start", "[I", true)
  | 1 => ("StepShake$Cipher", "mixed", "[I", true)
  | 2 => ("StepShake$Cipher", "tag", "[I", true)
  | 3 => ("StepShake$Cipher", "tagKey", "[I", true)
  | _ => ("StepShake$Cipher", "tagger", "LStepShake$Tagger;", true)
def tyX0 : Nat → FieldType := fun k => match k with
  | 0 => .array .int
  | 1 => .array .int
  | 2 => .array .int
  | 3 => .array .int
  | _ => .object "StepShake$Tagger"
theorem nmX0 : ∀ a, a < 5 → ∀ b, b < 5 → a ≠ b → (TX0 a).2.1 ≠ (TX0 b).2.1 := by decide +kernel
theorem tyX0_ok : ∀ k, k < 5 → parseFieldDescriptor (TX0 k).2.2.1 = some (tyX0 k) := by decide +kernel
abbrev cX0_init : ByteArray := prog_2_method_1_code
def yX0_init : MethodName := ⟨RX0, "<init>", "()V"⟩
abbrev cX0_seal : ByteArray := prog_2_method_2_code
def yX0_seal : MethodName := ⟨RX0, "seal", "([II[ILStepShake$Row;I)V"⟩
abbrev cX0_open : ByteArray := prog_2_method_3_code
def yX0_open : MethodName := ⟨RX0, "open", "([II[ILStepShake$Row;IILStepShake$Row;)Z"⟩
abbrev cX0_prepare : ByteArray := prog_2_method_4_code
def yX0_prepare : MethodName := ⟨RX0, "prepare", "([II)V"⟩
abbrev cX0_turn : ByteArray := prog_2_method_5_code
def yX0_turn : MethodName := ⟨RX0, "turn", "([III)V"⟩
abbrev cX0_makeTag : ByteArray := prog_2_method_6_code
def yX0_makeTag : MethodName := ⟨RX0, "makeTag", "([I[III)V"⟩
abbrev cX0_blockByte : ByteArray := prog_2_method_7_code
def yX0_blockByte : MethodName := ⟨RX0, "blockByte", "(I)I"⟩
abbrev cX0_makeBlock : ByteArray := prog_2_method_8_code
def yX0_makeBlock : MethodName := ⟨RX0, "makeBlock", "(I)V"⟩
abbrev cX0_quarter : ByteArray := prog_2_method_9_code
def yX0_quarter : MethodName := ⟨RX0, "quarter", "(IIII)V"⟩
abbrev cX0_mix : ByteArray := prog_2_method_10_code
def yX0_mix : MethodName := ⟨RX0, "mix", "(IIII)V"⟩
def RX1 : String := "StepShake$Curve"
def TX1 : u_T := fun k => match k with
  | 0 => ("StepShake$Curve", "scalar", "[I", true)
  | 1 => ("StepShake$Curve", "x1", "[J", true)
  | 2 => ("StepShake$Curve", "x2", "[J", false)
  | 3 => ("StepShake$Curve", "z2", "[J", false)
  | 4 => ("StepShake$Curve", "x3", "[J", false)
  | 5 => ("StepShake$Curve", "z3", "[J", false)
  | 6 => ("StepShake$Curve", "a", "[J", true)
  | 7 => ("StepShake$Curve", "b", "[J", true)
  | 8 => ("StepShake$Curve", "c", "[J", true)
  | _ => ("StepShake$Curve", "d", "[J", true)
def tyX1 : Nat → FieldType := fun k => match k with
  | 0 => .array .int
  | 1 => .array .long
  | 2 => .array .long
  | 3 => .array .long
  | 4 => .array .long
  | 5 => .array .long
  | 6 => .array .long
  | 7 => .array .long
  | 8 => .array .long
  | _ => .array .long
theorem nmX1 : ∀ a, a < 10 → ∀ b, b < 10 → a ≠ b → (TX1 a).2.1 ≠ (TX1 b).2.1 := by decide +kernel
theorem tyX1_ok : ∀ k, k < 10 → parseFieldDescriptor (TX1 k).2.2.1 = some (tyX1 k) := by decide +kernel
abbrev cX1_init : ByteArray := prog_3_method_1_code
def yX1_init : MethodName := ⟨RX1, "<init>", "()V"⟩
abbrev cX1_multiplyPoint : ByteArray := prog_3_method_2_code
def yX1_multiplyPoint : MethodName := ⟨RX1, "multiplyPoint", "([I[I[I)V"⟩
abbrev cX1_swap : ByteArray := prog_3_method_3_code
def yX1_swap : MethodName := ⟨RX1, "swap", "()V"⟩
abbrev cX1_step : ByteArray := prog_3_method_4_code
def yX1_step : MethodName := ⟨RX1, "step", "()V"⟩
abbrev cX1_invert : ByteArray := prog_3_method_5_code
def yX1_invert : MethodName := ⟨RX1, "invert", "([J[J)V"⟩
abbrev cX1_setSmall : ByteArray := prog_3_method_6_code
def yX1_setSmall : MethodName := ⟨RX1, "setSmall", "([JI)V"⟩
abbrev cX1_add : ByteArray := prog_3_method_7_code
def yX1_add : MethodName := ⟨RX1, "add", "([J[J[J)V"⟩
abbrev cX1_subtract : ByteArray := prog_3_method_8_code
def yX1_subtract : MethodName := ⟨RX1, "subtract", "([J[J[J)V"⟩
abbrev cX1_scale : ByteArray := prog_3_method_9_code
def yX1_scale : MethodName := ⟨RX1, "scale", "([J[J)V"⟩
abbrev cX1_multiply : ByteArray := prog_3_method_10_code
def yX1_multiply : MethodName := ⟨RX1, "multiply", "([J[J[J)V"⟩
abbrev cX1_width : ByteArray := prog_3_method_11_code
def yX1_width : MethodName := ⟨RX1, "width", "(I)I"⟩
abbrev cX1_carry : ByteArray := prog_3_method_12_code
def yX1_carry : MethodName := ⟨RX1, "carry", "([J)V"⟩
abbrev cX1_unpack : ByteArray := prog_3_method_13_code
def yX1_unpack : MethodName := ⟨RX1, "unpack", "([I[J)V"⟩
abbrev cX1_pack : ByteArray := prog_3_method_14_code
def yX1_pack : MethodName := ⟨RX1, "pack", "([J[I)V"⟩
def RX2 : String := "StepShake$Mac"
def TX2 : u_T := fun k => match k with
  | 0 => ("StepShake$Mac", "sha", "LStepShake$Sha;", true)
  | 1 => ("StepShake$Mac", "inner", "[I", true)
  | 2 => ("StepShake$Mac", "middle", "[I", true)
  | _ => ("StepShake$Mac", "text", "[I", true)
def tyX2 : Nat → FieldType := fun k => match k with
  | 0 => .object "StepShake$Sha"
  | 1 => .array .int
  | 2 => .array .int
  | _ => .array .int
theorem nmX2 : ∀ a, a < 4 → ∀ b, b < 4 → a ≠ b → (TX2 a).2.1 ≠ (TX2 b).2.1 := by decide +kernel
theorem tyX2_ok : ∀ k, k < 4 → parseFieldDescriptor (TX2 k).2.2.1 = some (tyX2 k) := by decide +kernel
abbrev cX2_init : ByteArray := prog_4_method_1_code
def yX2_init : MethodName := ⟨RX2, "<init>", "()V"⟩
abbrev cX2_makeKeys : ByteArray := prog_4_method_2_code
def yX2_makeKeys : MethodName := ⟨RX2, "makeKeys", "([I[II[I[I)V"⟩
abbrev cX2_makeMac : ByteArray := prog_4_method_3_code
def yX2_makeMac : MethodName := ⟨RX2, "makeMac", "([I[II[I)V"⟩
abbrev cX2_beginWith : ByteArray := prog_4_method_4_code
def yX2_beginWith : MethodName := ⟨RX2, "beginWith", "([II)V"⟩
def RX3 : String := "StepShake$Pattern"
def TX3 : u_T := fun k => match k with
  | 0 => ("StepShake$Pattern", "knownFirst", "Z", true)
  | 1 => ("StepShake$Pattern", "knownSecond", "Z", true)
  | 2 => ("StepShake$Pattern", "tokens", "[[I", true)
  | 3 => ("StepShake$Pattern", "sizes", "[I", true)
  | 4 => ("StepShake$Pattern", "messages", "I", false)
  | _ => ("StepShake$Pattern", "hasSide", "Z", false)
def tyX3 : Nat → FieldType := fun k => match k with
  | 0 => .boolean
  | 1 => .boolean
  | 2 => .array (.array .int)
  | 3 => .array .int
  | 4 => .int
  | _ => .boolean
theorem nmX3 : ∀ a, a < 6 → ∀ b, b < 6 → a ≠ b → (TX3 a).2.1 ≠ (TX3 b).2.1 := by decide +kernel
theorem tyX3_ok : ∀ k, k < 6 → parseFieldDescriptor (TX3 k).2.2.1 = some (tyX3 k) := by decide +kernel
abbrev cX3_init : ByteArray := prog_5_method_1_code
def yX3_init : MethodName := ⟨RX3, "<init>", "(ZZ)V"⟩
abbrev cX3_addMessage : ByteArray := prog_5_method_2_code
def yX3_addMessage : MethodName := ⟨RX3, "addMessage", "()I"⟩
abbrev cX3_addToken : ByteArray := prog_5_method_3_code
def yX3_addToken : MethodName := ⟨RX3, "addToken", "(I)I"⟩
abbrev cX3_sizeOf : ByteArray := prog_5_method_4_code
def yX3_sizeOf : MethodName := ⟨RX3, "sizeOf", "(I)I"⟩
abbrev cX3_tokenAt : ByteArray := prog_5_method_5_code
def yX3_tokenAt : MethodName := ⟨RX3, "tokenAt", "(II)I"⟩
abbrev cX3_isKnownAhead : ByteArray := prog_5_method_6_code
def yX3_isKnownAhead : MethodName := ⟨RX3, "isKnownAhead", "(I)Z"⟩
abbrev cX3_sendsS : ByteArray := prog_5_method_7_code
def yX3_sendsS : MethodName := ⟨RX3, "sendsS", "(I)Z"⟩
abbrev cX3_tell : ByteArray := prog_5_method_8_code
def yX3_tell : MethodName := ⟨RX3, "tell", "(I)I"⟩
abbrev cX3_findFault : ByteArray := prog_5_method_9_code
def yX3_findFault : MethodName := ⟨RX3, "findFault", "()I"⟩
abbrev cX3_hasEmptyMessage : ByteArray := prog_5_method_10_code
def yX3_hasEmptyMessage : MethodName := ⟨RX3, "hasEmptyMessage", "()Z"⟩
abbrev cX3_faultAt : ByteArray := prog_5_method_11_code
def yX3_faultAt : MethodName := ⟨RX3, "faultAt", "(IIII)I"⟩
abbrev cX3_keyBit : ByteArray := prog_5_method_12_code
def yX3_keyBit : MethodName := ⟨RX3, "keyBit", "(II)I"⟩
abbrev cX3_did : ByteArray := prog_5_method_13_code
def yX3_did : MethodName := ⟨RX3, "did", "(II)Z"⟩
abbrev cX3_sealsTooSoon : ByteArray := prog_5_method_14_code
def yX3_sealsTooSoon : MethodName := ⟨RX3, "sealsTooSoon", "(II)Z"⟩
def RX4 : String := "StepShake$Row"
def TX4 : u_T := fun k => match k with
  | 0 => ("StepShake$Row", "bytes", "[I", true)
  | _ => ("StepShake$Row", "size", "I", false)
def tyX4 : Nat → FieldType := fun k => match k with
  | 0 => .array .int
  | _ => .int
theorem nmX4 : ∀ a, a < 2 → ∀ b, b < 2 → a ≠ b → (TX4 a).2.1 ≠ (TX4 b).2.1 := by decide +kernel
theorem tyX4_ok : ∀ k, k < 2 → parseFieldDescriptor (TX4 k).2.2.1 = some (tyX4 k) := by decide +kernel
abbrev cX4_init : ByteArray := prog_6_method_1_code
def yX4_init : MethodName := ⟨RX4, "<init>", "(I)V"⟩
abbrev cX4_put : ByteArray := prog_6_method_2_code
def yX4_put : MethodName := ⟨RX4, "put", "(I)V"⟩
abbrev cX4_putAll : ByteArray := prog_6_method_3_code
def yX4_putAll : MethodName := ⟨RX4, "putAll", "([III)V"⟩
abbrev cX4_at : ByteArray := prog_6_method_4_code
def yX4_at : MethodName := ⟨RX4, "at", "(I)I"⟩
abbrev cX4_addTo : ByteArray := prog_6_method_5_code
def yX4_addTo : MethodName := ⟨RX4, "addTo", "(J)J"⟩
def RX5 : String := "StepShake$Sha"
def TX5 : u_T := fun k => match k with
  | 0 => ("StepShake$Sha", "sums", "[I", true)
  | 1 => ("StepShake$Sha", "words", "[I", true)
  | 2 => ("StepShake$Sha", "filled", "I", false)
  | _ => ("StepShake$Sha", "length", "I", false)
def tyX5 : Nat → FieldType := fun k => match k with
  | 0 => .array .int
  | 1 => .array .int
  | 2 => .int
  | _ => .int
theorem nmX5 : ∀ a, a < 4 → ∀ b, b < 4 → a ≠ b → (TX5 a).2.1 ≠ (TX5 b).2.1 := by decide +kernel
theorem tyX5_ok : ∀ k, k < 4 → parseFieldDescriptor (TX5 k).2.2.1 = some (tyX5 k) := by decide +kernel
abbrev cX5_init : ByteArray := prog_7_method_1_code
def yX5_init : MethodName := ⟨RX5, "<init>", "()V"⟩
abbrev cX5_begin : ByteArray := prog_7_method_2_code
def yX5_begin : MethodName := ⟨RX5, "begin", "()V"⟩
abbrev cX5_add : ByteArray := prog_7_method_3_code
def yX5_add : MethodName := ⟨RX5, "add", "([III)V"⟩
abbrev cX5_addNumber : ByteArray := prog_7_method_4_code
def yX5_addNumber : MethodName := ⟨RX5, "addNumber", "(I)V"⟩
abbrev cX5_addByte : ByteArray := prog_7_method_5_code
def yX5_addByte : MethodName := ⟨RX5, "addByte", "(I)V"⟩
abbrev cX5_finish : ByteArray := prog_7_method_6_code
def yX5_finish : MethodName := ⟨RX5, "finish", "([I)V"⟩
abbrev cX5_addBlock : ByteArray := prog_7_method_7_code
def yX5_addBlock : MethodName := ⟨RX5, "addBlock", "()V"⟩
def RX6 : String := "StepShake$Side"
def TX6 : u_T := fun k => match k with
  | 0 => ("StepShake$Side", "pattern", "LStepShake$Pattern;", true)
  | 1 => ("StepShake$Side", "patternNumber", "I", true)
  | 2 => ("StepShake$Side", "hand", "I", true)
  | 3 => ("StepShake$Side", "seedE", "I", true)
  | 4 => ("StepShake$Side", "secretS", "[I", true)
  | 5 => ("StepShake$Side", "publicS", "[I", true)
  | 6 => ("StepShake$Side", "toldS", "[I", true)
  | 7 => ("StepShake$Side", "wasTold", "Z", false)
  | _ => ("StepShake$Side", "state", "LStepShake$State;", true)
def tyX6 : Nat → FieldType := fun k => match k with
  | 0 => .object "StepShake$Pattern"
  | 1 => .int
  | 2 => .int
  | 3 => .int
  | 4 => .array .int
  | 5 => .array .int
  | 6 => .array .int
  | 7 => .boolean
  | _ => .object "StepShake$State"
theorem nmX6 : ∀ a, a < 9 → ∀ b, b < 9 → a ≠ b → (TX6 a).2.1 ≠ (TX6 b).2.1 := by decide +kernel
theorem tyX6_ok : ∀ k, k < 9 → parseFieldDescriptor (TX6 k).2.2.1 = some (tyX6 k) := by decide +kernel
abbrev cX6_init : ByteArray := prog_8_method_1_code
def yX6_init : MethodName := ⟨RX6, "<init>", "(LStepShake$Pattern;III)V"⟩
abbrev cX6_isDone : ByteArray := prog_8_method_2_code
def yX6_isDone : MethodName := ⟨RX6, "isDone", "()Z"⟩
abbrev cX6_isNext : ByteArray := prog_8_method_3_code
def yX6_isNext : MethodName := ⟨RX6, "isNext", "()Z"⟩
abbrev cX6_leastLetter : ByteArray := prog_8_method_4_code
def yX6_leastLetter : MethodName := ⟨RX6, "leastLetter", "()I"⟩
abbrev cX6_tell : ByteArray := prog_8_method_5_code
def yX6_tell : MethodName := ⟨RX6, "tell", "(I)I"⟩
def RX7 : String := "StepShake$State"
def TX7 : u_T := fun k => match k with
  | 0 => ("StepShake$State", "ck", "[I", true)
  | 1 => ("StepShake$State", "h", "[I", true)
  | 2 => ("StepShake$State", "k", "[I", true)
  | 3 => ("StepShake$State", "takeKey", "[I", true)
  | 4 => ("StepShake$State", "ownE", "[I", true)
  | 5 => ("StepShake$State", "otherE", "[I", true)
  | 6 => ("StepShake$State", "otherS", "[I", true)
  | 7 => ("StepShake$State", "hasKey", "Z", false)
  | 8 => ("StepShake$State", "knowsE", "Z", false)
  | 9 => ("StepShake$State", "knowsS", "Z", false)
  | 10 => ("StepShake$State", "n", "I", false)
  | 11 => ("StepShake$State", "takeCount", "I", false)
  | 12 => ("StepShake$State", "used", "I", false)
  | _ => ("StepShake$State", "messages", "I", false)
def tyX7 : Nat → FieldType := fun k => match k with
  | 0 => .array .int
  | 1 => .array .int
  | 2 => .array .int
  | 3 => .array .int
  | 4 => .array .int
  | 5 => .array .int
  | 6 => .array .int
  | 7 => .boolean
  | 8 => .boolean
  | 9 => .boolean
  | 10 => .int
  | 11 => .int
  | 12 => .int
  | _ => .int
theorem nmX7 : ∀ a, a < 14 → ∀ b, b < 14 → a ≠ b → (TX7 a).2.1 ≠ (TX7 b).2.1 := by decide +kernel
theorem tyX7_ok : ∀ k, k < 14 → parseFieldDescriptor (TX7 k).2.2.1 = some (tyX7 k) := by decide +kernel
abbrev cX7_init : ByteArray := prog_9_method_1_code
def yX7_init : MethodName := ⟨RX7, "<init>", "()V"⟩
abbrev cX7_copyFrom : ByteArray := prog_9_method_2_code
def yX7_copyFrom : MethodName := ⟨RX7, "copyFrom", "(LStepShake$State;)V"⟩
abbrev cX7_fits : ByteArray := prog_9_method_3_code
def yX7_fits : MethodName := ⟨RX7, "fits", "(LStepShake$State;)Z"⟩
abbrev cX7_alike : ByteArray := prog_9_method_4_code
def yX7_alike : MethodName := ⟨RX7, "alike", "([I[I)Z"⟩
def RX8 : String := "StepShake$Tagger"
def TX8 : u_T := fun k => match k with
  | 0 => ("StepShake$Tagger", "factor", "[J", true)
  | 1 => ("StepShake$Tagger", "sum", "[J", true)
  | 2 => ("StepShake$Tagger", "product", "[J", true)
  | 3 => ("StepShake$Tagger", "block", "[I", true)
  | _ => ("StepShake$Tagger", "last", "[I", true)
def tyX8 : Nat → FieldType := fun k => match k with
  | 0 => .array .long
  | 1 => .array .long
  | 2 => .array .long
  | 3 => .array .int
  | _ => .array .int
theorem nmX8 : ∀ a, a < 5 → ∀ b, b < 5 → a ≠ b → (TX8 a).2.1 ≠ (TX8 b).2.1 := by decide +kernel
theorem tyX8_ok : ∀ k, k < 5 → parseFieldDescriptor (TX8 k).2.2.1 = some (tyX8 k) := by decide +kernel
abbrev cX8_init : ByteArray := prog_10_method_1_code
def yX8_init : MethodName := ⟨RX8, "<init>", "()V"⟩
abbrev cX8_begin : ByteArray := prog_10_method_2_code
def yX8_begin : MethodName := ⟨RX8, "begin", "([I)V"⟩
abbrev cX8_addPadded : ByteArray := prog_10_method_3_code
def yX8_addPadded : MethodName := ⟨RX8, "addPadded", "([III)V"⟩
abbrev cX8_addSizes : ByteArray := prog_10_method_4_code
def yX8_addSizes : MethodName := ⟨RX8, "addSizes", "(II)V"⟩
abbrev cX8_finish : ByteArray := prog_10_method_5_code
def yX8_finish : MethodName := ⟨RX8, "finish", "([I)V"⟩
abbrev cX8_clampOf : ByteArray := prog_10_method_6_code
def yX8_clampOf : MethodName := ⟨RX8, "clampOf", "(I)I"⟩
abbrev cX8_addBlock : ByteArray := prog_10_method_7_code
def yX8_addBlock : MethodName := ⟨RX8, "addBlock", "()V"⟩
def RX9 : String := "StepShake$Talk"
def TX9 : u_T := fun k => match k with
  | 0 => ("StepShake$Talk", "sha", "LStepShake$Sha;", true)
  | 1 => ("StepShake$Talk", "mac", "LStepShake$Mac;", true)
  | 2 => ("StepShake$Talk", "curve", "LStepShake$Curve;", true)
  | 3 => ("StepShake$Talk", "cipher", "LStepShake$Cipher;", true)
  | 4 => ("StepShake$Talk", "trial", "LStepShake$State;", true)
  | 5 => ("StepShake$Talk", "secret", "[I", true)
  | 6 => ("StepShake$Talk", "point", "[I", true)
  | _ => ("StepShake$Talk", "opened", "LStepShake$Row;", true)
def tyX9 : Nat → FieldType := fun k => match k with
  | 0 => .object "StepShake$Sha"
  | 1 => .object "StepShake$Mac"
  | 2 => .object "StepShake$Curve"
  | 3 => .object "StepShake$Cipher"
  | 4 => .object "StepShake$State"
  | 5 => .array .int
  | 6 => .array .int
  | _ => .object "StepShake$Row"
theorem nmX9 : ∀ a, a < 8 → ∀ b, b < 8 → a ≠ b → (TX9 a).2.1 ≠ (TX9 b).2.1 := by decide +kernel
theorem tyX9_ok : ∀ k, k < 8 → parseFieldDescriptor (TX9 k).2.2.1 = some (tyX9 k) := by decide +kernel
abbrev cX9_init : ByteArray := prog_11_method_1_code
def yX9_init : MethodName := ⟨RX9, "<init>", "()V"⟩
abbrev cX9_secretOf : ByteArray := prog_11_method_2_code
def yX9_secretOf : MethodName := ⟨RX9, "secretOf", "(II[I)V"⟩
abbrev cX9_publicOf : ByteArray := prog_11_method_3_code
def yX9_publicOf : MethodName := ⟨RX9, "publicOf", "(II[I)V"⟩
abbrev cX9_giveKeys : ByteArray := prog_11_method_4_code
def yX9_giveKeys : MethodName := ⟨RX9, "giveKeys", "(LStepShake$Side;II)V"⟩
abbrev cX9_begin : ByteArray := prog_11_method_5_code
def yX9_begin : MethodName := ⟨RX9, "begin", "(LStepShake$Side;)V"⟩
abbrev cX9_send : ByteArray := prog_11_method_6_code
def yX9_send : MethodName := ⟨RX9, "send", "(LStepShake$Side;LStepShake$Row;LStepShake$Row;)V"⟩
abbrev cX9_take : ByteArray := prog_11_method_7_code
def yX9_take : MethodName := ⟨RX9, "take", "(LStepShake$Side;LStepShake$Row;LStepShake$Row;)Z"⟩
abbrev cX9_sendDone : ByteArray := prog_11_method_8_code
def yX9_sendDone : MethodName := ⟨RX9, "sendDone", "(LStepShake$State;LStepShake$Row;LStepShake$Row;)V"⟩
abbrev cX9_takeDone : ByteArray := prog_11_method_9_code
def yX9_takeDone : MethodName := ⟨RX9, "takeDone", "(LStepShake$State;LStepShake$Row;LStepShake$Row;)Z"⟩
abbrev cX9_sendE : ByteArray := prog_11_method_10_code
def yX9_sendE : MethodName := ⟨RX9, "sendE", "(LStepShake$Side;LStepShake$Row;)V"⟩
abbrev cX9_takeE : ByteArray := prog_11_method_11_code
def yX9_takeE : MethodName := ⟨RX9, "takeE", "(LStepShake$Row;I)V"⟩
abbrev cX9_mixHash : ByteArray := prog_11_method_12_code
def yX9_mixHash : MethodName := ⟨RX9, "mixHash", "(LStepShake$State;[III)V"⟩
abbrev cX9_mixDh : ByteArray := prog_11_method_13_code
def yX9_mixDh : MethodName := ⟨RX9, "mixDh", "(LStepShake$Side;LStepShake$State;I)V"⟩
abbrev cX9_seal : ByteArray := prog_11_method_14_code
def yX9_seal : MethodName := ⟨RX9, "seal", "(LStepShake$State;[IILStepShake$Row;)V"⟩
abbrev cX9_open : ByteArray := prog_11_method_15_code
def yX9_open : MethodName := ⟨RX9, "open", "(LStepShake$State;LStepShake$Row;IILStepShake$Row;)Z"⟩
abbrev cX9_endMessage : ByteArray := prog_11_method_16_code
def yX9_endMessage : MethodName := ⟨RX9, "endMessage", "(LStepShake$Side;LStepShake$State;)V"⟩
def RX10 : String := "StepShake"
def TX10 : u_T := fun k => match k with
  | 0 => ("StepShake", "patterns", "[LStepShake$Pattern;", true)
  | 1 => ("StepShake", "sides", "[LStepShake$Side;", true)
  | 2 => ("StepShake", "tape", "LStepShake$Row;", true)
  | 3 => ("StepShake", "letter", "LStepShake$Row;", true)
  | 4 => ("StepShake", "got", "LStepShake$Row;", true)
  | 5 => ("StepShake", "talk", "LStepShake$Talk;", true)
  | 6 => ("StepShake", "shown", "[I", true)
  | 7 => ("StepShake", "patternCount", "I", false)
  | _ => ("StepShake", "sideCount", "I", false)
def tyX10 : Nat → FieldType := fun k => match k with
  | 0 => .array (.object "StepShake$Pattern")
  | 1 => .array (.object "StepShake$Side")
  | 2 => .object "StepShake$Row"
  | 3 => .object "StepShake$Row"
  | 4 => .object "StepShake$Row"
  | 5 => .object "StepShake$Talk"
  | 6 => .array .int
  | 7 => .int
  | _ => .int
theorem nmX10 : ∀ a, a < 9 → ∀ b, b < 9 → a ≠ b → (TX10 a).2.1 ≠ (TX10 b).2.1 := by decide +kernel
theorem tyX10_ok : ∀ k, k < 9 → parseFieldDescriptor (TX10 k).2.2.1 = some (tyX10 k) := by decide +kernel
abbrev cX10_init : ByteArray := prog_1_method_1_code
def yX10_init : MethodName := ⟨RX10, "<init>", "()V"⟩
abbrev cX10_pattern : ByteArray := prog_1_method_2_code
def yX10_pattern : MethodName := ⟨RX10, "pattern", "(ZZ)I"⟩
abbrev cX10_message : ByteArray := prog_1_method_3_code
def yX10_message : MethodName := ⟨RX10, "message", "(I)I"⟩
abbrev cX10_token : ByteArray := prog_1_method_4_code
def yX10_token : MethodName := ⟨RX10, "token", "(II)I"⟩
abbrev cX10_fault : ByteArray := prog_1_method_5_code
def yX10_fault : MethodName := ⟨RX10, "fault", "(I)I"⟩
abbrev cX10_told : ByteArray := prog_1_method_6_code
def yX10_told : MethodName := ⟨RX10, "told", "(II)I"⟩
abbrev cX10_side : ByteArray := prog_1_method_7_code
def yX10_side : MethodName := ⟨RX10, "side", "(IIIII)I"⟩
abbrev cX10_again : ByteArray := prog_1_method_8_code
def yX10_again : MethodName := ⟨RX10, "again", "(I)I"⟩
abbrev cX10_feed : ByteArray := prog_1_method_9_code
def yX10_feed : MethodName := ⟨RX10, "feed", "(JI)I"⟩
abbrev cX10_write : ByteArray := prog_1_method_10_code
def yX10_write : MethodName := ⟨RX10, "write", "(I)I"⟩
abbrev cX10_read : ByteArray := prog_1_method_11_code
def yX10_read : MethodName := ⟨RX10, "read", "(I)I"⟩
abbrev cX10_alter : ByteArray := prog_1_method_12_code
def yX10_alter : MethodName := ⟨RX10, "alter", "(II)I"⟩
abbrev cX10_cut : ByteArray := prog_1_method_13_code
def yX10_cut : MethodName := ⟨RX10, "cut", "(I)I"⟩
abbrev cX10_byteOf : ByteArray := prog_1_method_14_code
def yX10_byteOf : MethodName := ⟨RX10, "byteOf", "(II)I"⟩
abbrev cX10_hash : ByteArray := prog_1_method_15_code
def yX10_hash : MethodName := ⟨RX10, "hash", "(II)I"⟩
abbrev cX10_about : ByteArray := prog_1_method_16_code
def yX10_about : MethodName := ⟨RX10, "about", "(II)I"⟩
abbrev cX10_same : ByteArray := prog_1_method_17_code
def yX10_same : MethodName := ⟨RX10, "same", "(II)I"⟩
abbrev cX10_key : ByteArray := prog_1_method_18_code
def yX10_key : MethodName := ⟨RX10, "key", "(III)I"⟩
abbrev cX10_count : ByteArray := prog_1_method_19_code
def yX10_count : MethodName := ⟨RX10, "count", "(I)I"⟩
abbrev cX10_digest : ByteArray := prog_1_method_20_code
def yX10_digest : MethodName := ⟨RX10, "digest", "()J"⟩
abbrev cX10_patternAt : ByteArray := prog_1_method_21_code
def yX10_patternAt : MethodName := ⟨RX10, "patternAt", "(I)LStepShake$Pattern;"⟩
abbrev cX10_sideAt : ByteArray := prog_1_method_22_code
def yX10_sideAt : MethodName := ⟨RX10, "sideAt", "(I)LStepShake$Side;"⟩
abbrev cX10_bitsOf : ByteArray := prog_1_method_23_code
def yX10_bitsOf : MethodName := ⟨RX10, "bitsOf", "([III)J"⟩
abbrev cX10_copyKey : ByteArray := prog_1_method_24_code
def yX10_copyKey : MethodName := ⟨RX10, "copyKey", "([I[I)V"⟩
def RX11 : String := "StepShakeModel"
def TX11 : u_T := fun k => match k with
  | 0 => ("StepShakeModel", "buffer", "[I", true)
  | 1 => ("StepShakeModel", "buffered", "I", false)
  | 2 => ("StepShakeModel", "state", "[I", true)
  | 3 => ("StepShakeModel", "w", "[I", true)
  | 4 => ("StepShakeModel", "first", "[I", true)
  | 5 => ("StepShakeModel", "constant", "[I", true)
  | 6 => ("StepShakeModel", "inner", "[I", true)
  | 7 => ("StepShakeModel", "temporary", "[I", true)
  | 8 => ("StepShakeModel", "one", "[I", true)
  | 9 => ("StepShakeModel", "two", "[I", true)
  | 10 => ("StepShakeModel", "g", "[J", true)
  | 11 => ("StepShakeModel", "product", "[J", true)
  | 12 => ("StepShakeModel", "scalar", "[I", true)
  | 13 => ("StepShakeModel", "nine", "[I", true)
  | 14 => ("StepShakeModel", "start", "[I", true)
  | 15 => ("StepShakeModel", "mixed", "[I", true)
  | 16 => ("StepShakeModel", "stream", "[I", true)
  | 17 => ("StepShakeModel", "sum", "[I", true)
  | 18 => ("StepShakeModel", "factor", "[I", true)
  | 19 => ("StepShakeModel", "part", "[I", true)
  | 20 => ("StepShakeModel", "result", "[I", true)
  | 21 => ("StepShakeModel", "tagKey", "[I", true)
  | 22 => ("StepShakeModel", "told", "[I", true)
  | 23 => ("StepShakeModel", "tag", "[I", true)
  | 24 => ("StepShakeModel", "patterns", "I", false)
  | 25 => ("StepShakeModel", "known", "[Z", true)
  | 26 => ("StepShakeModel", "messages", "[I", true)
  | 27 => ("StepShakeModel", "tokens", "[I", true)
  | 28 => ("StepShakeModel", "tokenAt", "[I", true)
  | 29 => ("StepShakeModel", "hasE", "[Z", true)
  | 30 => ("StepShakeModel", "hasS", "[Z", true)
  | 31 => ("StepShakeModel", "did", "[Z", true)
  | 32 => ("StepShakeModel", "faulty", "[Z", true)
  | 33 => ("StepShakeModel", "sides", "I", false)
  | 34 => ("StepShakeModel", "patternOf", "[I", true)
  | 35 => ("StepShakeModel", "hand", "[I", true)
  | 36 => ("StepShakeModel", "hasSecret", "[Z", true)
  | 37 => ("StepShakeModel", "otherTold", "[I", true)
  | 38 => ("StepShakeModel", "seed", "[I", true)
  | 39 => ("StepShakeModel", "used", "[I", true)
  | 40 => ("StepShakeModel", "next", "[I", true)
  | 41 => ("StepShakeModel", "isDone", "[Z", true)
  | 42 => ("StepShakeModel", "hasKey", "[Z", true)
  | 43 => ("StepShakeModel", "counted", "[I", true)
  | 44 => ("StepShakeModel", "countedOther", "[I", true)
  | 45 => ("StepShakeModel", "knowsE", "[Z", true)
  | 46 => ("StepShakeModel", "knowsS", "[Z", true)
  | 47 => ("StepShakeModel", "chain", "[I", true)
  | 48 => ("StepShakeModel", "mix", "[I", true)
  | 49 => ("StepShakeModel", "key", "[I", true)
  | 50 => ("StepShakeModel", "keyOther", "[I", true)
  | 51 => ("StepShakeModel", "ownS", "[I", true)
  | 52 => ("StepShakeModel", "ownE", "[I", true)
  | 53 => ("StepShakeModel", "otherS", "[I", true)
  | 54 => ("StepShakeModel", "otherE", "[I", true)
  | 55 => ("StepShakeModel", "tape", "[I", true)
  | 56 => ("StepShakeModel", "taped", "I", false)
  | 57 => ("StepShakeModel", "letter", "[I", true)
  | 58 => ("StepShakeModel", "letterLong", "I", false)
  | 59 => ("StepShakeModel", "got", "[I", true)
  | 60 => ("StepShakeModel", "gotLong", "I", false)
  | 61 => ("StepShakeModel", "scratch", "[I", true)
  | _ => ("StepShakeModel", "shared", "[I", true)
def tyX11 : Nat → FieldType := fun k => match k with
  | 0 => .array .int
  | 1 => .int
  | 2 => .array .int
  | 3 => .array .int
  | 4 => .array .int
  | 5 => .array .int
  | 6 => .array .int
  | 7 => .array .int
  | 8 => .array .int
  | 9 => .array .int
  | 10 => .array .long
  | 11 => .array .long
  | 12 => .array .int
  | 13 => .array .int
  | 14 => .array .int
  | 15 => .array .int
  | 16 => .array .int
  | 17 => .array .int
  | 18 => .array .int
  | 19 => .array .int
  | 20 => .array .int
  | 21 => .array .int
  | 22 => .array .int
  | 23 => .array .int
  | 24 => .int
  | 25 => .array .boolean
  | 26 => .array .int
  | 27 => .array .int
  | 28 => .array .int
  | 29 => .array .boolean
  | 30 => .array .boolean
  | 31 => .array .boolean
  | 32 => .array .boolean
  | 33 => .int
  | 34 => .array .int
  | 35 => .array .int
  | 36 => .array .boolean
  | 37 => .array .int
  | 38 => .array .int
  | 39 => .array .int
  | 40 => .array .int
  | 41 => .array .boolean
  | 42 => .array .boolean
  | 43 => .array .int
  | 44 => .array .int
  | 45 => .array .boolean
  | 46 => .array .boolean
  | 47 => .array .int
  | 48 => .array .int
  | 49 => .array .int
  | 50 => .array .int
  | 51 => .array .int
  | 52 => .array .int
  | 53 => .array .int
  | 54 => .array .int
  | 55 => .array .int
  | 56 => .int
  | 57 => .array .int
  | 58 => .int
  | 59 => .array .int
  | 60 => .int
  | 61 => .array .int
  | _ => .array .int
theorem nmX11 : ∀ a, a < 63 → ∀ b, b < 63 → a ≠ b → (TX11 a).2.1 ≠ (TX11 b).2.1 := by decide +kernel
theorem tyX11_ok : ∀ k, k < 63 → parseFieldDescriptor (TX11 k).2.2.1 = some (tyX11 k) := by decide +kernel
abbrev cX11_init : ByteArray := prog_13_method_1_code
def yX11_init : MethodName := ⟨RX11, "<init>", "()V"⟩
abbrev cX11_in : ByteArray := prog_13_method_3_code
def yX11_in : MethodName := ⟨RX11, "in", "(III)Z"⟩
abbrev cX11_copy : ByteArray := prog_13_method_4_code
def yX11_copy : MethodName := ⟨RX11, "copy", "([II[III)V"⟩
abbrev cX11_padded : ByteArray := prog_13_method_5_code
def yX11_padded : MethodName := ⟨RX11, "padded", "(II)I"⟩
abbrev cX11_turned : ByteArray := prog_13_method_6_code
def yX11_turned : MethodName := ⟨RX11, "turned", "(II)I"⟩
abbrev cX11_block : ByteArray := prog_13_method_7_code
def yX11_block : MethodName := ⟨RX11, "block", "(II)V"⟩
abbrev cX11_hashes : ByteArray := prog_13_method_8_code
def yX11_hashes : MethodName := ⟨RX11, "hashes", "([II)V"⟩
abbrev cX11_lays : ByteArray := prog_13_method_9_code
def yX11_lays : MethodName := ⟨RX11, "lays", "([III)V"⟩
abbrev cX11_mac : ByteArray := prog_13_method_10_code
def yX11_mac : MethodName := ⟨RX11, "mac", "([II[III[II)V"⟩
abbrev cX11_keys : ByteArray := prog_13_method_11_code
def yX11_keys : MethodName := ⟨RX11, "keys", "([II[II)V"⟩
abbrev cX11_secret : ByteArray := prog_13_method_12_code
def yX11_secret : MethodName := ⟨RX11, "secret", "(II[II)V"⟩
abbrev cX11_carry : ByteArray := prog_13_method_13_code
def yX11_carry : MethodName := ⟨RX11, "carry", "(I)V"⟩
abbrev cX11_plus : ByteArray := prog_13_method_14_code
def yX11_plus : MethodName := ⟨RX11, "plus", "(III)V"⟩
abbrev cX11_minus : ByteArray := prog_13_method_15_code
def yX11_minus : MethodName := ⟨RX11, "minus", "(III)V"⟩
abbrev cX11_times : ByteArray := prog_13_method_16_code
def yX11_times : MethodName := ⟨RX11, "times", "(III)V"⟩
abbrev cX11_exchange : ByteArray := prog_13_method_17_code
def yX11_exchange : MethodName := ⟨RX11, "exchange", "(IIZ)V"⟩
abbrev cX11_sets : ByteArray := prog_13_method_18_code
def yX11_sets : MethodName := ⟨RX11, "sets", "(IJ)V"⟩
abbrev cX11_copies : ByteArray := prog_13_method_19_code
def yX11_copies : MethodName := ⟨RX11, "copies", "(II)V"⟩
abbrev cX11_ladderStep : ByteArray := prog_13_method_20_code
def yX11_ladderStep : MethodName := ⟨RX11, "ladderStep", "()V"⟩
abbrev cX11_invert : ByteArray := prog_13_method_21_code
def yX11_invert : MethodName := ⟨RX11, "invert", "()V"⟩
abbrev cX11_packs : ByteArray := prog_13_method_22_code
def yX11_packs : MethodName := ⟨RX11, "packs", "(I[II)V"⟩
abbrev cX11_dh : ByteArray := prog_13_method_23_code
def yX11_dh : MethodName := ⟨RX11, "dh", "([II[II[II)V"⟩
abbrev cX11_publicOf : ByteArray := prog_13_method_24_code
def yX11_publicOf : MethodName := ⟨RX11, "publicOf", "([II[II)V"⟩
abbrev cX11_quarter : ByteArray := prog_13_method_25_code
def yX11_quarter : MethodName := ⟨RX11, "quarter", "(IIII)V"⟩
abbrev cX11_streams : ByteArray := prog_13_method_26_code
def yX11_streams : MethodName := ⟨RX11, "streams", "([IIII)V"⟩
abbrev cX11_adds : ByteArray := prog_13_method_27_code
def yX11_adds : MethodName := ⟨RX11, "adds", "()V"⟩
abbrev cX11_multiplies : ByteArray := prog_13_method_28_code
def yX11_multiplies : MethodName := ⟨RX11, "multiplies", "()V"⟩
abbrev cX11_tags : ByteArray := prog_13_method_29_code
def yX11_tags : MethodName := ⟨RX11, "tags", "(I)V"⟩
abbrev cX11_tellsLong : ByteArray := prog_13_method_30_code
def yX11_tellsLong : MethodName := ⟨RX11, "tellsLong", "(II)V"⟩
abbrev cX11_tagOf : ByteArray := prog_13_method_31_code
def yX11_tagOf : MethodName := ⟨RX11, "tagOf", "([III[III[III)V"⟩
abbrev cX11_ciphers : ByteArray := prog_13_method_32_code
def yX11_ciphers : MethodName := ⟨RX11, "ciphers", "([III[III)V"⟩
abbrev cX11_pattern : ByteArray := prog_13_method_33_code
def yX11_pattern : MethodName := ⟨RX11, "pattern", "(ZZ)I"⟩
abbrev cX11_isPattern : ByteArray := prog_13_method_34_code
def yX11_isPattern : MethodName := ⟨RX11, "isPattern", "(I)Z"⟩
abbrev cX11_isUsed : ByteArray := prog_13_method_35_code
def yX11_isUsed : MethodName := ⟨RX11, "isUsed", "(I)Z"⟩
abbrev cX11_message : ByteArray := prog_13_method_36_code
def yX11_message : MethodName := ⟨RX11, "message", "(I)I"⟩
abbrev cX11_token : ByteArray := prog_13_method_37_code
def yX11_token : MethodName := ⟨RX11, "token", "(II)I"⟩
abbrev cX11_seals : ByteArray := prog_13_method_38_code
def yX11_seals : MethodName := ⟨RX11, "seals", "(I)V"⟩
abbrev cX11_judges : ByteArray := prog_13_method_39_code
def yX11_judges : MethodName := ⟨RX11, "judges", "(II)V"⟩
abbrev cX11_faultOf : ByteArray := prog_13_method_40_code
def yX11_faultOf : MethodName := ⟨RX11, "faultOf", "(I)I"⟩
abbrev cX11_fault : ByteArray := prog_13_method_41_code
def yX11_fault : MethodName := ⟨RX11, "fault", "(I)I"⟩
abbrev cX11_told : ByteArray := prog_13_method_42_code
def yX11_told : MethodName := ⟨RX11, "told", "(II)I"⟩
abbrev cX11_isSide : ByteArray := prog_13_method_43_code
def yX11_isSide : MethodName := ⟨RX11, "isSide", "(I)Z"⟩
abbrev cX11_copySide : ByteArray := prog_13_method_44_code
def yX11_copySide : MethodName := ⟨RX11, "copySide", "(II)V"⟩
abbrev cX11_mixHash : ByteArray := prog_13_method_45_code
def yX11_mixHash : MethodName := ⟨RX11, "mixHash", "(I[III)V"⟩
abbrev cX11_mixKey : ByteArray := prog_13_method_46_code
def yX11_mixKey : MethodName := ⟨RX11, "mixKey", "(I)V"⟩
abbrev cX11_nameByte : ByteArray := prog_13_method_47_code
def yX11_nameByte : MethodName := ⟨RX11, "nameByte", "(I)I"⟩
abbrev cX11_begins : ByteArray := prog_13_method_48_code
def yX11_begins : MethodName := ⟨RX11, "begins", "(I)V"⟩
abbrev cX11_sendsS : ByteArray := prog_13_method_49_code
def yX11_sendsS : MethodName := ⟨RX11, "sendsS", "(II)Z"⟩
abbrev cX11_side : ByteArray := prog_13_method_50_code
def yX11_side : MethodName := ⟨RX11, "side", "(IIIII)I"⟩
abbrev cX11_again : ByteArray := prog_13_method_51_code
def yX11_again : MethodName := ⟨RX11, "again", "(I)I"⟩
abbrev cX11_feed : ByteArray := prog_13_method_52_code
def yX11_feed : MethodName := ⟨RX11, "feed", "(JI)I"⟩
abbrev cX11_shares : ByteArray := prog_13_method_53_code
def yX11_shares : MethodName := ⟨RX11, "shares", "(II)V"⟩
abbrev cX11_seal : ByteArray := prog_13_method_54_code
def yX11_seal : MethodName := ⟨RX11, "seal", "(I[III)I"⟩
abbrev cX11_isRight : ByteArray := prog_13_method_55_code
def yX11_isRight : MethodName := ⟨RX11, "isRight", "([II)Z"⟩
abbrev cX11_open : ByteArray := prog_13_method_56_code
def yX11_open : MethodName := ⟨RX11, "open", "(I[III[I)I"⟩
abbrev cX11_ends : ByteArray := prog_13_method_57_code
def yX11_ends : MethodName := ⟨RX11, "ends", "(I)V"⟩
abbrev cX11_writesToken : ByteArray := prog_13_method_58_code
def yX11_writesToken : MethodName := ⟨RX11, "writesToken", "(III)I"⟩
abbrev cX11_write : ByteArray := prog_13_method_59_code
def yX11_write : MethodName := ⟨RX11, "write", "(I)I"⟩
abbrev cX11_readsToken : ByteArray := prog_13_method_60_code
def yX11_readsToken : MethodName := ⟨RX11, "readsToken", "(III)I"⟩
abbrev cX11_readsDone : ByteArray := prog_13_method_61_code
def yX11_readsDone : MethodName := ⟨RX11, "readsDone", "(I)I"⟩
abbrev cX11_reads : ByteArray := prog_13_method_62_code
def yX11_reads : MethodName := ⟨RX11, "reads", "(I)I"⟩
abbrev cX11_read : ByteArray := prog_13_method_63_code
def yX11_read : MethodName := ⟨RX11, "read", "(I)I"⟩
abbrev cX11_alter : ByteArray := prog_13_method_64_code
def yX11_alter : MethodName := ⟨RX11, "alter", "(II)I"⟩
abbrev cX11_cut : ByteArray := prog_13_method_65_code
def yX11_cut : MethodName := ⟨RX11, "cut", "(I)I"⟩
abbrev cX11_byteOf : ByteArray := prog_13_method_66_code
def yX11_byteOf : MethodName := ⟨RX11, "byteOf", "(II)I"⟩
abbrev cX11_hash : ByteArray := prog_13_method_67_code
def yX11_hash : MethodName := ⟨RX11, "hash", "(II)I"⟩
abbrev cX11_aboutOf : ByteArray := prog_13_method_68_code
def yX11_aboutOf : MethodName := ⟨RX11, "aboutOf", "(II)I"⟩
abbrev cX11_about : ByteArray := prog_13_method_69_code
def yX11_about : MethodName := ⟨RX11, "about", "(II)I"⟩
abbrev cX11_same : ByteArray := prog_13_method_70_code
def yX11_same : MethodName := ⟨RX11, "same", "(II)I"⟩
abbrev cX11_key : ByteArray := prog_13_method_71_code
def yX11_key : MethodName := ⟨RX11, "key", "(III)I"⟩
abbrev cX11_count : ByteArray := prog_13_method_72_code
def yX11_count : MethodName := ⟨RX11, "count", "(I)I"⟩
abbrev cX11_digest : ByteArray := prog_13_method_73_code
def yX11_digest : MethodName := ⟨RX11, "digest", "()J"⟩
def RJ9 : String := "java/lang/Math"
def TJ9 : u_T := fun k => match k with
  | _ => ("", "", "", false)
def tyJ9 : Nat → FieldType := fun k => match k with
  | _ => .int
theorem nmJ9 : ∀ a, a < 0 → ∀ b, b < 0 → a ≠ b → (TJ9 a).2.1 ≠ (TJ9 b).2.1 := by decide +kernel
theorem tyJ9_ok : ∀ k, k < 0 → parseFieldDescriptor (TJ9 k).2.2.1 = some (tyJ9 k) := by decide +kernel
abbrev cJ9_min_7cf53 : ByteArray := prog_14_method_69_code
def yJ9_min_7cf53 : MethodName := ⟨RJ9, "min", "(II)I"⟩
def RJ0 : String := "java/lang/String"
def TJ0 : u_T := fun k => match k with
  | _ => ("", "", "", false)
def tyJ0 : Nat → FieldType := fun k => match k with
  | _ => .int
theorem nmJ0 : ∀ a, a < 0 → ∀ b, b < 0 → a ≠ b → (TJ0 a).2.1 ≠ (TJ0 b).2.1 := by decide +kernel
theorem tyJ0_ok : ∀ k, k < 0 → parseFieldDescriptor (TJ0 k).2.2.1 = some (tyJ0 k) := by decide +kernel
abbrev cJ0_length_8abf5 : ByteArray := prog_15_method_54_code
def yJ0_length_8abf5 : MethodName := ⟨RJ0, "length", "()I"⟩
abbrev cJ0_charAt_5068e : ByteArray := prog_15_method_56_code
def yJ0_charAt_5068e : MethodName := ⟨RJ0, "charAt", "(I)C"⟩
abbrev cJ0_coder_7d493 : ByteArray := prog_15_method_152_code
def yJ0_coder_7d493 : MethodName := ⟨RJ0, "coder", "()B"⟩
abbrev cJ0_isLatin1_aae02 : ByteArray := prog_15_method_154_code
def yJ0_isLatin1_aae02 : MethodName := ⟨RJ0, "isLatin1", "()Z"⟩
abbrev cJ0_checkIndex_df160 : ByteArray := prog_15_method_155_code
def yJ0_checkIndex_df160 : MethodName := ⟨RJ0, "checkIndex", "(II)V"⟩
def RJ1 : String := "java/lang/StringLatin1"
def TJ1 : u_T := fun k => match k with
  | _ => ("", "", "", false)
def tyJ1 : Nat → FieldType := fun k => match k with
  | _ => .int
theorem nmJ1 : ∀ a, a < 0 → ∀ b, b < 0 → a ≠ b → (TJ1 a).2.1 ≠ (TJ1 b).2.1 := by decide +kernel
theorem tyJ1_ok : ∀ k, k < 0 → parseFieldDescriptor (TJ1 k).2.2.1 = some (tyJ1 k) := by decide +kernel
abbrev cJ1_charAt_3b067 : ByteArray := prog_16_method_2_code
def yJ1_charAt_3b067 : MethodName := ⟨RJ1, "charAt", "([BI)C"⟩
def RJ2 : String := "java/lang/StringUTF16"
def TJ2 : u_T := fun k => match k with
  | _ => ("", "", "", false)
def tyJ2 : Nat → FieldType := fun k => match k with
  | _ => .int
theorem nmJ2 : ∀ a, a < 0 → ∀ b, b < 0 → a ≠ b → (TJ2 a).2.1 ≠ (TJ2 b).2.1 := by decide +kernel
theorem tyJ2_ok : ∀ k, k < 0 → parseFieldDescriptor (TJ2 k).2.2.1 = some (tyJ2 k) := by decide +kernel
abbrev cJ2_getChar_3b067 : ByteArray := prog_17_method_5_code
def yJ2_getChar_3b067 : MethodName := ⟨RJ2, "getChar", "([BI)C"⟩
abbrev cJ2_length_9d52b : ByteArray := prog_17_method_6_code
def yJ2_length_9d52b : MethodName := ⟨RJ2, "length", "([B)I"⟩
abbrev cJ2_charAt_3b067 : ByteArray := prog_17_method_83_code
def yJ2_charAt_3b067 : MethodName := ⟨RJ2, "charAt", "([BI)C"⟩
abbrev cJ2_checkIndex_2214a : ByteArray := prog_17_method_91_code
def yJ2_checkIndex_2214a : MethodName := ⟨RJ2, "checkIndex", "(I[B)V"⟩
def RJ10 : String := "java/lang/System"
def TJ10 : u_T := fun k => match k with
  | _ => ("", "", "", false)
def tyJ10 : Nat → FieldType := fun k => match k with
  | _ => .int
theorem nmJ10 : ∀ a, a < 0 → ∀ b, b < 0 → a ≠ b → (TJ10 a).2.1 ≠ (TJ10 b).2.1 := by decide +kernel
theorem tyJ10_ok : ∀ k, k < 0 → parseFieldDescriptor (TJ10 k).2.2.1 = some (tyJ10 k) := by decide +kernel
def RJ3 : String := "jdk/internal/util/Preconditions"
def TJ3 : u_T := fun k => match k with
  | _ => ("", "", "", false)
def tyJ3 : Nat → FieldType := fun k => match k with
  | _ => .int
theorem nmJ3 : ∀ a, a < 0 → ∀ b, b < 0 → a ≠ b → (TJ3 a).2.1 ≠ (TJ3 b).2.1 := by decide +kernel
theorem tyJ3_ok : ∀ k, k < 0 → parseFieldDescriptor (TJ3 k).2.2.1 = some (tyJ3 k) := by decide +kernel
abbrev cJ3_checkIndex_8e157 : ByteArray := prog_19_method_11_code
def yJ3_checkIndex_8e157 : MethodName := ⟨RJ3, "checkIndex", "(IILjava/util/function/BiFunction;)I"⟩
def RL : String := "StepShakeLaw"
abbrev cL_law : ByteArray := code
def yL_law : MethodName := ⟨RL, "law", "([I)Z"⟩
abbrev vwCl : List vw_C := [(RX0, TX0, 5), (RX1, TX1, 10), (RX2, TX2, 4), (RX3, TX3, 6), (RX4, TX4, 2), (RX5, TX5, 4), (RX6, TX6, 9), (RX7, TX7, 14), (RX8, TX8, 5), (RX9, TX9, 8), (RX10, TX10, 9), (RX11, TX11, 63)]
/-! ===== END printed: names ===== -/
end
section
/-! ===== the heap as four functions, and the walk's judgement over it ===== -/
/-- the tables' words that hold at every later state too -/
def lw_g : List Cond := lw_tbl.filter goodWord
/-- what a cell is: an array of a type and a length, or an object of a class by its number in vwCl -/
abbrev hKd : Type := (FieldType × Nat) ⊕ Nat
/-- kinds, ints (of int and boolean arrays and fields), longs, references; by address and place -/
abbrev hG : Type := (Nat → Option hKd) × (Nat → Nat → Int32) × (Nat → Nat → Int64) × (Nat → Nat → Option Nat)
def hav (ty : FieldType) (i : Nat → Int32) (l : Nat → Int64) (r : Nat → Option Nat) : Nat → Value := match ty with
  | .long => fun j => .long (l j)
  | .int => fun j => .int (i j)
  | .boolean => fun j => .int (i j)
  | _ => fun j => va_rf (r j)
/-- a field's type, by its class' number and its place -/
def hty (c : Nat) : Nat → FieldType := match c with
  | 0 => tyX0 | 1 => tyX1 | 2 => tyX2 | 3 => tyX3 | 4 => tyX4 | 5 => tyX5 | 6 => tyX6 | 7 => tyX7 | 8 => tyX8 | 9 => tyX9 | 10 => tyX10 | _ => tyX11
def hrf (ty : FieldType) : Bool := match ty with
  | .int => false | .boolean => false | _ => true
def hfv (c : Nat) (i : Nat → Int32) (r : Nat → Option Nat) : Nat → Value := fun j => if hrf (hty c j) then va_rf (r j) else .int (i j)
def hat (U : State) (D : va_G) (k : hKd) (i : Nat → Int32) (l : Nat → Int64) (r : Nat → Option Nat) (q : Nat) (H : Heap) : Prop := match k with
  | .inl t => ∃ cell : Cell, H[q]? = some cell ∧ U.isArrayOf cell t.1 ∧ cell.vm ≠ .unknown ∧ cell.slots.size = t.2 ∧ (∀ j, j < t.2 → cell.slots[j]? = some (hav t.1 i l r j)) ∧ (∀ C, t.1 = .object C → va_RA U cell.cls t.1)
  | .inr c => ∃ w : vw_C, vwCl[c]? = some w ∧ t_OB q (D.1 c) w.2.2 (D.2 c) H (hfv c i r)
def HR (U : State) (D : va_G) (G : hG) (H : Heap) : Prop := ∀ (q : Nat) (k : hKd), G.1 q = some k → hat U D k (G.2.1 q) (G.2.2.1 q) (G.2.2.2 q) q H
theorem hat.lt {U : State} {D : va_G} {k : hKd} {i : Nat → Int32} {l : Nat → Int64} {r : Nat → Option Nat} {q : Nat} {H : Heap} (h : hat U D k i l r q H) : q < H.size := by
  match k, h with
  | .inl t, ⟨ce, h, _⟩ => exact (Array.getElem?_eq_some_iff.mp h).1
  | .inr c, ⟨w, _, ce, h, _⟩ => exact (Array.getElem?_eq_some_iff.mp h).1
theorem hat.kept {U : State} {D : va_G} {k : hKd} {i : Nat → Int32} {l : Nat → Int64} {r : Nat → Option Nat} {q : Nat} {H H1 : Heap} (h : hat U D k i l r q H) (e : H1[q]? = H[q]?) : hat U D k i l r q H1 := by
  match k, h with
  | .inl t, ⟨ce, h, h2⟩ => exact ⟨ce, by rw [e]; exact h, h2⟩
  | .inr c, ⟨w, h1, h2⟩ => exact ⟨w, h1, h2.kept e⟩
theorem hat.moved {u U : State} {D : va_G} {k : hKd} {i : Nat → Int32} {l : Nat → Int64} {r : Nat → Option Nat} {q : Nat} {H : Heap} (hvm : u.vm.Alike U.vm) (h : hat u D k i l r q H) : hat U D k i l r q H := by
  match k, h with
  | .inl t, ⟨ce, h1, h2, h3, h4, h5, h6⟩ => exact ⟨ce, h1, State.isArrayOf_alike hvm h2, h3, h4, h5, fun C e => (h6 C e).moved hvm⟩
  | .inr c, h => exact h
theorem HR.moved {u U : State} {D : va_G} {G : hG} {H : Heap} (hvm : u.vm.Alike U.vm) (h : HR u D G H) : HR U D G H := fun q k e => (h q k e).moved hvm
/-- the heap behind a write of one cell -/
theorem HR.put {U : State} {D : va_G} {G G1 : hG} {H H1 : Heap} {a : Nat} (h : HR U D G H) (oq : ∀ q : Nat, q ≠ a → H1[q]? = H[q]?) (hT : G1.1 = G.1) (hI : ∀ q, q ≠ a → G1.2.1 q = G.2.1 q) (hL : ∀ q, q ≠ a → G1.2.2.1 q = G.2.2.1 q) (hR : ∀ q, q ≠ a → G1.2.2.2 q = G.2.2.2 q)
    (ha : ∀ k, G.1 a = some k → hat U D k (G1.2.1 a) (G1.2.2.1 a) (G1.2.2.2 a) a H1) : HR U D G1 H1 := by
  intro q k e
  rw [hT] at e
  by_cases hq : q = a
  · subst hq
    exact ha k e
  · rw [hI q hq, hL q hq, hR q hq]
    exact (h q k e).kept (oq q hq)
theorem hav_upd {n : Nat} {cell : Cell} {V : Nat → Value} {i : Nat} {v : Value} (h : cell.slots.size = n) (hv : ∀ j, j < n → cell.slots[j]? = some (V j)) {V' : Nat → Value} (h1 : V' i = v) (h2 : ∀ j, j ≠ i → V' j = V j) : ∀ j, j < n → (cell.setSlot i v).slots[j]? = some (V' j) := by
  intro j hj
  show (cell.slots.setIfInBounds i v)[j]? = _
  rw [Array.getElem?_setIfInBounds]
  by_cases e : i = j
  · subst e
    rw [if_pos rfl, if_pos (by rw [h]; exact hj), h1]
  · rw [if_neg e, hv j hj, h2 j (fun q => e q.symm)]
/-- statics that are arrays: where their fields point -/
def hSt : List (String × String) := [("StepShake$Pattern", "NEEDS"), ("StepShake$Sha", "FIRST"), ("StepShake$Sha", "ROUND"), ("StepShake$Curve", "BASE"), ("StepShake", "NOTHING")]
/-- the words of the nest, which need a law of their own to hold at later states -/
def lw_isN (w : Cond) : Bool := match w with
  | .methodLinkNest .. => true | .fieldLinkNest .. => true | _ => false
def lw_n : List Cond := tables_1.filter lw_isN
theorem lw_isN_on {w : Cond} (h : lw_isN w = true) : w.onTables = true := by
  cases w <;> first | rfl | (simp [lw_isN] at h; done)
theorem lw_warm {w : Cond} {s U : State} (hW : s.WarmedH U.vm) (h : lw_isN w = true) (hw : va_Nw w s) : va_Nw w U := by
  match w, h with
  | .methodLinkNest a i x b, _ => exact hw.warmM hW
  | .fieldLinkNest a i b n d c, _ => exact hw.warmF hW
/-- arrays of references that are made -/
def lw_ao : List FieldType := [.object "StepShake$Pattern", .object "StepShake$Side", .array .int]
def hAo (U : State) : Prop := ∀ ty ∈ lw_ao, (Cond.arrayOver ty).before #[] U = true
theorem hAo.moved {u U : State} (h : u.vm.Alike U.vm) (a : hAo u) : hAo U := by
  intro ty hty
  have h1 : (Cond.arrayOver ty).before #[] (u.setVm U.vm) = true := by rw [Cond.arrayOver_setVmC h]; exact a ty hty
  exact h1
/-- the name of the handshake: its bytes -/
def hNm : List Int32 := [72, 97, 110, 100, 115, 104, 97, 107, 101, 32, 98, 121, 32, 115, 116, 101, 112, 115]
def hStr (a0 : Nat) (sa : Nat → Nat) (U : State) (H : Heap) : Prop := vk_R "StepShake$Talk" 107 "Handshake by steps" (sa 5) U ∧ vk_S 1 [18] [hNm] (fun _ => sa 5) (fun _ => sa 6) (fun x => a0 ≤ x) U H ∧ va_Z "java/lang/String" "COMPACT_STRINGS" "Z" (.int 1) (fun x => a0 ≤ x) U H
/-- what the tables and the statics say, at a state -/
def hKs (D : va_G) (a0 : Nat) (sa : Nat → Nat) (U : State) (H : Heap) : Prop := va_K D vwCl [] U ∧ (∀ (k : Nat) (q : String × String), hSt[k]? = some q → va_Z q.1 q.2 "[I" (.ref (sa k)) (fun x => a0 ≤ x) U H) ∧ (∀ w ∈ lw_n, va_Nw w U) ∧ hAo U ∧ hStr a0 sa U H
theorem hKs.moved {D : va_G} {a0 : Nat} {sa : Nat → Nat} {u U : State} {H : Heap} (hW : u.WarmedH U.vm) (h : hKs D a0 sa u H) : hKs D a0 sa U H := ⟨va_K.moved hW.alike h.1, fun k q e => (h.2.1 k q e).moved hW.alike, fun w hw => lw_warm hW (List.mem_filter.mp hw).2 (h.2.2.1 w hw), h.2.2.2.1.moved hW.alike, h.2.2.2.2.1.warm hW, h.2.2.2.2.2.1.moved hW.alike, h.2.2.2.2.2.2.moved hW.alike⟩
theorem hKs.same {D : va_G} {a0 : Nat} {sa : Nat → Nat} {u U : State} {H : Heap} (e : u.vm = U.vm) (h : hKs D a0 sa u H) : hKs D a0 sa U H := by
  have ha : u.vm.Alike U.vm := by rw [e]; exact Vm.Alike.refl _
  exact ⟨va_K.moved ha h.1, fun k q e' => (h.2.1 k q e').moved ha, fun w hw => (h.2.2.1 w hw).same (lw_isN_on (List.mem_filter.mp hw).2) e, h.2.2.2.1.moved ha, h.2.2.2.2.1.same e.symm, h.2.2.2.2.2.1.moved ha, h.2.2.2.2.2.2.moved ha⟩
theorem hKs.kept {D : va_G} {a0 : Nat} {sa : Nat → Nat} {U : State} {H H1 : Heap} (h : hKs D a0 sa U H) (hq : ∀ a : Nat, a < H.size → ¬ a0 ≤ a → H1[a]? = H[a]?) : hKs D a0 sa U H1 := ⟨h.1, fun k q e => (h.2.1 k q e).kept hq, h.2.2.1, h.2.2.2.1, h.2.2.2.2.1, h.2.2.2.2.2.1.kept hq, h.2.2.2.2.2.2.kept hq⟩
/-- the fixed part of a walk: program, launch, environment, room, the entry's state, method, arguments, frames below, method, code, locals, base address, class numbers, static arrays' addresses, aim -/
abbrev hZ : Type := Program × Launch × Env × Room × State × MethodId × Array Value × List Frame × Method × Code × Nat × Nat × va_G × (Nat → Nat) × (State → Prop)
abbrev zp (z : hZ) : Program := z.1
abbrev zl (z : hZ) : Launch := z.2.1
abbrev ze (z : hZ) : Env := z.2.2.1
abbrev zR (z : hZ) : Room := z.2.2.2.1
abbrev zs (z : hZ) : State := z.2.2.2.2.1
abbrev zm (z : hZ) : MethodId := z.2.2.2.2.2.1
abbrev za (z : hZ) : Array Value := z.2.2.2.2.2.2.1
abbrev zb (z : hZ) : List Frame := z.2.2.2.2.2.2.2.1
abbrev zM (z : hZ) : Method := z.2.2.2.2.2.2.2.2.1
abbrev zc (z : hZ) : Code := z.2.2.2.2.2.2.2.2.2.1
abbrev zn (z : hZ) : Nat := z.2.2.2.2.2.2.2.2.2.2.1
abbrev z0 (z : hZ) : Nat := z.2.2.2.2.2.2.2.2.2.2.2.1
abbrev zD (z : hZ) : va_G := z.2.2.2.2.2.2.2.2.2.2.2.2.1
abbrev zS (z : hZ) : Nat → Nat := z.2.2.2.2.2.2.2.2.2.2.2.2.2.1
abbrev zQ (z : hZ) : State → Prop := z.2.2.2.2.2.2.2.2.2.2.2.2.2.2
abbrev zW (z : hZ) (H : Heap) (locs : List Loc) (cells slots pc : Nat) (ls : Array Slot) (st : List Value) : Prop := W (zp z) (zl z) (ze z) (zR z) (zs z) (zm z) (za z) (zb z) (zM z) (zc z) H locs cells slots (zQ z) (F0 (zm z) pc ls st)
/-- at pc, with the heap G, the locals lv and the stack st, the machine comes to its aim -/
def hX (z : hZ) (cells slots : Nat) (G : hG) (lv : List (Nat × Value)) (pc : Nat) (st : List Value) : Prop :=
  ∀ (H : Heap) (locs : List Loc) (ls : Array Slot), HR (zs z) (zD z) G H → va_S (fun q => z0 z ≤ q) (zs z).heap H locs → lv_has ls (zn z) lv → zW z H locs cells slots pc ls st
/-- what a walk knows of its fixed part -/
def hC (z : hZ) (own : String) (cc : ByteArray) : Prop := (zp z).tables.exec = Jvm.exec ∧ (zc z).code = cc ∧ (zc z).maxLocals = zn z ∧ (zs z).vm.findClass own = some (zm z).cls ∧ (∀ w ∈ lw_g, w.before (za z) (zs z) = true) ∧ hKs (zD z) (z0 z) (zS z) (zs z) (zs z).heap ∧ z0 z ≤ (zs z).heap.size
/-- and of its end -/
def hE (z : hZ) (y : MethodName) (ret : Option FieldType) (rm : Room) (post : Option Value → hG → Prop) : Prop := (zM z).sig.returnType = ret ∧ (zM z).locks = false ∧ (zM z).name = y.name ∧ zR z = rm ∧
  zQ z = MQ (zb z) (fun _ st oc t => (∃ (v : Option Value) (G : hG), oc = .returned v ∧ post v G ∧ HR t (zD z) G t.heap) ∧ va_F (fun q => z0 z ≤ q) st t) (za z) (zs z) rm.cells rm.slots (fun q => z0 z ≤ q)
/-- a method's contract over the heap G: it returns, and 'post' holds of its answer and its heap -/
def hM (l : Launch) (a0 : Nat) (D : va_G) (sa : Nat → Nat) (y : MethodName) (cc : ByteArray) (nL : Nat) (ret : Option FieldType) (rm : Room) (av : List Value) (G : hG) (post : Option Value → hG → Prop) : Prop :=
  Met l y (.code y cc nL ret :: lw_g) rm (va_Pc av (fun U => HR U D G U.heap ∧ hKs D a0 sa U U.heap ∧ a0 ≤ U.heap.size))
    (fun _ st oc t => (∃ (v : Option Value) (G' : hG), oc = .returned v ∧ post v G' ∧ HR t D G' t.heap) ∧ va_F (fun q => a0 ≤ q) st t) rm.cells rm.slots (fun q => a0 ≤ q)
theorem hM.of {l : Launch} {a0 : Nat} {D : va_G} {sa : Nat → Nat} {y : MethodName} {cc : ByteArray} {nL : Nat} {ret : Option FieldType} {rm : Room} {av : List Value} {G : hG} {post : Option Value → hG → Prop} (hy : plainName y.cls = true) (hl : (lg_sl av).length ≤ nL)
    (h : ∀ z : hZ, zl z = l → z0 z = a0 → zD z = D → zS z = sa → zn z = nL → hC z y.cls cc → hE z y ret rm post → hX z 0 0 G (lv_args 0 av) 0 []) : hM l a0 D sa y cc nL ret rm av G post := by
  refine Met.ofW (cc := cc) (maxL := nL) (ret := ret) hy rfl ?_
  intro p e s m args below meth c s₁ B hml hv
  obtain ⟨rfl, hP, hK, hsz⟩ := hv
  have hts := atoms_spec (ws := .code y cc nL ret :: lw_g) B.pre
  have hown : s.vm.findClass y.cls = some m.cls := findClass_of_methodNamed B.named
  have hlv := lv_entry av (n := nL) hl
  have hin : meth.name = y.name := (name_of_methodNamed B.named B.method).1
  rw [lg_entry_eq]
  exact h (p, l, e, rm, s, m, av.toArray, below, meth, c, nL, a0, D, sa, _) rfl rfl rfl rfl rfl ⟨B.exec, B.bytes, hml, hown, fun w hw => hts w (List.mem_cons_of_mem _ hw), hK, hsz⟩ ⟨B.returns, B.notSynchronized, hin, rfl, rfl⟩ s.heap [] _ hP va_S.rf hlv
end
section
/-! ===== the kit's rows over hX ===== -/
def isl (x y : Int32) : Int32 := x <<< (y &&& 31)
def isr (x y : Int32) : Int32 := x >>> (y &&& 31)
def iusr (x y : Int32) : Int32 := (x.toUInt32 >>> (y.toUInt32 &&& Int32.toUInt32 31)).toInt32
def lsl (x : Int64) (y : Int32) : Int64 := x <<< (y.toInt64 &&& 63)
def lsr (x : Int64) (y : Int32) : Int64 := x >>> (y.toInt64 &&& 63)
def lusr (x : Int64) (y : Int32) : Int64 := (x.toUInt64 >>> (y.toInt64.toUInt64 &&& Int64.toUInt64 63)).toInt64
section HXR
variable {z : hZ} {own : String} {cc : ByteArray} {cells slots pc : Nat} {G : hG} {lv lv' : List (Nat × Value)} {rest : List Value}
theorem x_iconst (C : hC z own cc) {n : Int} {v : Int32} (d : decode cc pc = .ok (.iconst n, 1)) (hv : Int32.ofInt n = v) (k : hX z cells slots G lv (pc + 1) (.int v :: rest)) : hX z cells slots G lv pc (rest) := fun H locs ls h1 h2 h3 => lv_iconst C.1 C.2.1 d hv (k H locs ls h1 h2 h3)
theorem x_bipush (C : hC z own cc) {n : Int} {v : Int32} (d : decode cc pc = .ok (.bipush n, 2)) (hv : (Int8.ofInt n).toInt32 = v) (k : hX z cells slots G lv (pc + 2) (.int v :: rest)) : hX z cells slots G lv pc (rest) := fun H locs ls h1 h2 h3 => lv_bipush C.1 C.2.1 d hv (k H locs ls h1 h2 h3)
theorem x_sipush (C : hC z own cc) {n : Int} {v : Int32} (d : decode cc pc = .ok (.sipush n, 3)) (hv : (Int16.ofInt n).toInt32 = v) (k : hX z cells slots G lv (pc + 3) (.int v :: rest)) : hX z cells slots G lv pc (rest) := fun H locs ls h1 h2 h3 => lv_sipush C.1 C.2.1 d hv (k H locs ls h1 h2 h3)
theorem x_lconst (C : hC z own cc) {n : Fin 2} {v : Int64} (d : decode cc pc = .ok (.lconst n, 1)) (hv : Int64.ofNat (n : Nat) = v) (k : hX z cells slots G lv (pc + 1) (.long v :: rest)) : hX z cells slots G lv pc (rest) := fun H locs ls h1 h2 h3 => lv_lconst C.1 C.2.1 d hv (k H locs ls h1 h2 h3)
theorem x_ldc (C : hC z own cc) {index : Nat} {v : Int32} (d : decode cc pc = .ok (.ldc index, 2)) (hw : Cond.constant own index v ∈ lw_g) (k : hX z cells slots G lv (pc + 2) (.int v :: rest)) : hX z cells slots G lv pc (rest) := fun H locs ls h1 h2 h3 => lv_ldc C.1 C.2.1 C.2.2.2.1 (C.2.2.2.2.1 _ hw) d (k H locs ls h1 h2 h3)
theorem x_ldcw (C : hC z own cc) {index : Nat} {v : Int32} (d : decode cc pc = .ok (.ldc_w index, 3)) (hw : Cond.constant own index v ∈ lw_g) (k : hX z cells slots G lv (pc + 3) (.int v :: rest)) : hX z cells slots G lv pc (rest) := fun H locs ls h1 h2 h3 => lv_ldcw C.1 C.2.1 C.2.2.2.1 (C.2.2.2.2.1 _ hw) d (k H locs ls h1 h2 h3)
theorem x_ldc2 (C : hC z own cc) {index : Nat} {v : Int64} (d : decode cc pc = .ok (.ldc2_w index, 3)) (hw : Cond.constantLong own index v ∈ lw_g) (k : hX z cells slots G lv (pc + 3) (.long v :: rest)) : hX z cells slots G lv pc (rest) := fun H locs ls h1 h2 h3 => lv_ldc2 C.1 C.2.1 C.2.2.2.1 (C.2.2.2.2.1 _ hw) d (k H locs ls h1 h2 h3)
theorem x_iload_n (C : hC z own cc) {k0 : Fin 4} {i : Nat} {x : Int32} (d : decode cc pc = .ok (.iload_n k0, 1)) (n : Nat) (hi : (k0 : Nat) = i) (hl : lv[n]? = some (i, .int x)) (k : hX z cells slots G lv (pc + 1) (.int x :: rest)) : hX z cells slots G lv pc (rest) := fun H locs ls h1 h2 h3 => lv_iload_n C.1 C.2.1 d hi (lv_at h3 n hl) (k H locs ls h1 h2 h3)
theorem x_iload (C : hC z own cc) {i : Nat} {x : Int32} (d : decode cc pc = .ok (.iload i, 2)) (n : Nat) (hl : lv[n]? = some (i, .int x)) (k : hX z cells slots G lv (pc + 2) (.int x :: rest)) : hX z cells slots G lv pc (rest) := fun H locs ls h1 h2 h3 => lv_iload C.1 C.2.1 d (lv_at h3 n hl) (k H locs ls h1 h2 h3)
theorem x_lload_n (C : hC z own cc) {k0 : Fin 4} {i : Nat} {x : Int64} (d : decode cc pc = .ok (.lload_n k0, 1)) (n : Nat) (hi : (k0 : Nat) = i) (hl : lv[n]? = some (i, .long x)) (k : hX z cells slots G lv (pc + 1) (.long x :: rest)) : hX z cells slots G lv pc (rest) := fun H locs ls h1 h2 h3 => lv_lload_n C.1 C.2.1 d hi (lv_at h3 n hl) (k H locs ls h1 h2 h3)
theorem x_lload (C : hC z own cc) {i : Nat} {x : Int64} (d : decode cc pc = .ok (.lload i, 2)) (n : Nat) (hl : lv[n]? = some (i, .long x)) (k : hX z cells slots G lv (pc + 2) (.long x :: rest)) : hX z cells slots G lv pc (rest) := fun H locs ls h1 h2 h3 => lv_lload C.1 C.2.1 d (lv_at h3 n hl) (k H locs ls h1 h2 h3)
theorem x_aload_n (C : hC z own cc) {k0 : Fin 4} {i : Nat} {x : Nat} (d : decode cc pc = .ok (.aload_n k0, 1)) (n : Nat) (hi : (k0 : Nat) = i) (hl : lv[n]? = some (i, .ref x)) (k : hX z cells slots G lv (pc + 1) (.ref x :: rest)) : hX z cells slots G lv pc (rest) := fun H locs ls h1 h2 h3 => lv_aload_n C.1 C.2.1 d hi (lv_at h3 n hl) (k H locs ls h1 h2 h3)
theorem x_aload (C : hC z own cc) {i : Nat} {x : Nat} (d : decode cc pc = .ok (.aload i, 2)) (n : Nat) (hl : lv[n]? = some (i, .ref x)) (k : hX z cells slots G lv (pc + 2) (.ref x :: rest)) : hX z cells slots G lv pc (rest) := fun H locs ls h1 h2 h3 => lv_aload C.1 C.2.1 d (lv_at h3 n hl) (k H locs ls h1 h2 h3)
theorem x_istore_n (C : hC z own cc) {k0 : Fin 4} {i : Nat} {x : Int32} (d : decode cc pc = .ok (.istore_n k0, 1)) (hi : (k0 : Nat) = i) (hn : i < zn z) (hl : (i, Value.int x) :: lv.filter (fun q => !(q.1 == i) && !(q.1 + 1 == i && q.2.category == 2)) = lv') (k : hX z cells slots G lv' (pc + 1) rest) : hX z cells slots G lv pc (.int x :: rest) := fun H locs ls h1 h2 h3 => lv_istore_n C.1 C.2.1 d hi h3 hn hl (fun ls h3 => k H locs ls h1 h2 h3)
theorem x_istore (C : hC z own cc) {i : Nat} {x : Int32} (d : decode cc pc = .ok (.istore i, 2)) (hn : i < zn z) (hl : (i, Value.int x) :: lv.filter (fun q => !(q.1 == i) && !(q.1 + 1 == i && q.2.category == 2)) = lv') (k : hX z cells slots G lv' (pc + 2) rest) : hX z cells slots G lv pc (.int x :: rest) := fun H locs ls h1 h2 h3 => lv_istore C.1 C.2.1 d h3 hn hl (fun ls h3 => k H locs ls h1 h2 h3)
theorem x_lstore_n (C : hC z own cc) {k0 : Fin 4} {i : Nat} {x : Int64} (d : decode cc pc = .ok (.lstore_n k0, 1)) (hi : (k0 : Nat) = i) (hn : i + 1 < zn z) (hl : (i, Value.long x) :: lv.filter (fun q => !(q.1 == i) && (!(q.1 == i + 1) && !(q.1 + 1 == i && q.2.category == 2))) = lv') (k : hX z cells slots G lv' (pc + 1) rest) : hX z cells slots G lv pc (.long x :: rest) := fun H locs ls h1 h2 h3 => lv_lstore_n C.1 C.2.1 d hi h3 hn hl (fun ls h3 => k H locs ls h1 h2 h3)
theorem x_lstore (C : hC z own cc) {i : Nat} {x : Int64} (d : decode cc pc = .ok (.lstore i, 2)) (hn : i + 1 < zn z) (hl : (i, Value.long x) :: lv.filter (fun q => !(q.1 == i) && (!(q.1 == i + 1) && !(q.1 + 1 == i && q.2.category == 2))) = lv') (k : hX z cells slots G lv' (pc + 2) rest) : hX z cells slots G lv pc (.long x :: rest) := fun H locs ls h1 h2 h3 => lv_lstore C.1 C.2.1 d h3 hn hl (fun ls h3 => k H locs ls h1 h2 h3)
theorem x_astore_n (C : hC z own cc) {k0 : Fin 4} {i : Nat} {x : Nat} (d : decode cc pc = .ok (.astore_n k0, 1)) (hi : (k0 : Nat) = i) (hn : i < zn z) (hl : (i, Value.ref x) :: lv.filter (fun q => !(q.1 == i) && !(q.1 + 1 == i && q.2.category == 2)) = lv') (k : hX z cells slots G lv' (pc + 1) rest) : hX z cells slots G lv pc (.ref x :: rest) := fun H locs ls h1 h2 h3 => lv_astore_n C.1 C.2.1 d hi h3 hn hl (fun ls h3 => k H locs ls h1 h2 h3)
theorem x_astore (C : hC z own cc) {i : Nat} {x : Nat} (d : decode cc pc = .ok (.astore i, 2)) (hn : i < zn z) (hl : (i, Value.ref x) :: lv.filter (fun q => !(q.1 == i) && !(q.1 + 1 == i && q.2.category == 2)) = lv') (k : hX z cells slots G lv' (pc + 2) rest) : hX z cells slots G lv pc (.ref x :: rest) := fun H locs ls h1 h2 h3 => lv_astore C.1 C.2.1 d h3 hn hl (fun ls h3 => k H locs ls h1 h2 h3)
theorem x_iinc (C : hC z own cc) {i : Nat} {n : Int} {x v : Int32} (d : decode cc pc = .ok (.iinc i n, 3)) (q : Nat) (hq : lv[q]? = some (i, .int x)) (hv : x + Int32.ofInt n = v) (hn : i < zn z) (hl : (i, Value.int v) :: lv.filter (fun q => !(q.1 == i) && !(q.1 + 1 == i && q.2.category == 2)) = lv') (k : hX z cells slots G lv' (pc + 3) rest) : hX z cells slots G lv pc rest := fun H locs ls h1 h2 h3 => lv_iinc C.1 C.2.1 d h3 hq hv hn hl (fun ls h3 => k H locs ls h1 h2 h3)
theorem x_iadd (C : hC z own cc) {x y : Int32} (d : decode cc pc = .ok (.iadd, 1)) (k : hX z cells slots G lv (pc + 1) (.int (x + y) :: rest)) : hX z cells slots G lv pc (.int y :: .int x :: rest) := fun H locs ls h1 h2 h3 => lv_iadd C.1 C.2.1 d (k H locs ls h1 h2 h3)
theorem x_isub (C : hC z own cc) {x y : Int32} (d : decode cc pc = .ok (.isub, 1)) (k : hX z cells slots G lv (pc + 1) (.int (x - y) :: rest)) : hX z cells slots G lv pc (.int y :: .int x :: rest) := fun H locs ls h1 h2 h3 => lv_isub C.1 C.2.1 d (k H locs ls h1 h2 h3)
theorem x_imul (C : hC z own cc) {x y : Int32} (d : decode cc pc = .ok (.imul, 1)) (k : hX z cells slots G lv (pc + 1) (.int (x * y) :: rest)) : hX z cells slots G lv pc (.int y :: .int x :: rest) := fun H locs ls h1 h2 h3 => lv_imul C.1 C.2.1 d (k H locs ls h1 h2 h3)
theorem x_iand (C : hC z own cc) {x y : Int32} (d : decode cc pc = .ok (.iand, 1)) (k : hX z cells slots G lv (pc + 1) (.int (x &&& y) :: rest)) : hX z cells slots G lv pc (.int y :: .int x :: rest) := fun H locs ls h1 h2 h3 => lv_iand C.1 C.2.1 d (k H locs ls h1 h2 h3)
theorem x_ior (C : hC z own cc) {x y : Int32} (d : decode cc pc = .ok (.ior, 1)) (k : hX z cells slots G lv (pc + 1) (.int (x ||| y) :: rest)) : hX z cells slots G lv pc (.int y :: .int x :: rest) := fun H locs ls h1 h2 h3 => lv_ior C.1 C.2.1 d (k H locs ls h1 h2 h3)
theorem x_ixor (C : hC z own cc) {x y : Int32} (d : decode cc pc = .ok (.ixor, 1)) (k : hX z cells slots G lv (pc + 1) (.int (x ^^^ y) :: rest)) : hX z cells slots G lv pc (.int y :: .int x :: rest) := fun H locs ls h1 h2 h3 => lv_ixor C.1 C.2.1 d (k H locs ls h1 h2 h3)
theorem x_ishl (C : hC z own cc) {x y : Int32} (d : decode cc pc = .ok (.ishl, 1)) (k : hX z cells slots G lv (pc + 1) (.int (isl x y) :: rest)) : hX z cells slots G lv pc (.int y :: .int x :: rest) := fun H locs ls h1 h2 h3 => lv_ishl C.1 C.2.1 d (k H locs ls h1 h2 h3)
theorem x_ishr (C : hC z own cc) {x y : Int32} (d : decode cc pc = .ok (.ishr, 1)) (k : hX z cells slots G lv (pc + 1) (.int (isr x y) :: rest)) : hX z cells slots G lv pc (.int y :: .int x :: rest) := fun H locs ls h1 h2 h3 => lv_ishr C.1 C.2.1 d (k H locs ls h1 h2 h3)
theorem x_iushr (C : hC z own cc) {x y : Int32} (d : decode cc pc = .ok (.iushr, 1)) (k : hX z cells slots G lv (pc + 1) (.int (iusr x y) :: rest)) : hX z cells slots G lv pc (.int y :: .int x :: rest) := fun H locs ls h1 h2 h3 => lv_iushr C.1 C.2.1 d rfl (k H locs ls h1 h2 h3)
theorem x_idiv (C : hC z own cc) {x y : Int32} (d : decode cc pc = .ok (.idiv, 1)) (hne : ¬ y = 0) (k : hX z cells slots G lv (pc + 1) (.int (x / y) :: rest)) : hX z cells slots G lv pc (.int y :: .int x :: rest) := fun H locs ls h1 h2 h3 => lv_idiv C.1 C.2.1 d hne (k H locs ls h1 h2 h3)
theorem x_irem (C : hC z own cc) {x y : Int32} (d : decode cc pc = .ok (.irem, 1)) (hne : ¬ y = 0) (k : hX z cells slots G lv (pc + 1) (.int (x - x / y * y) :: rest)) : hX z cells slots G lv pc (.int y :: .int x :: rest) := fun H locs ls h1 h2 h3 => lv_irem C.1 C.2.1 d hne (k H locs ls h1 h2 h3)
theorem x_ladd (C : hC z own cc) {x y : Int64} (d : decode cc pc = .ok (.ladd, 1)) (k : hX z cells slots G lv (pc + 1) (.long (x + y) :: rest)) : hX z cells slots G lv pc (.long y :: .long x :: rest) := fun H locs ls h1 h2 h3 => lv_ladd C.1 C.2.1 d (k H locs ls h1 h2 h3)
theorem x_lsub (C : hC z own cc) {x y : Int64} (d : decode cc pc = .ok (.lsub, 1)) (k : hX z cells slots G lv (pc + 1) (.long (x - y) :: rest)) : hX z cells slots G lv pc (.long y :: .long x :: rest) := fun H locs ls h1 h2 h3 => lv_lsub C.1 C.2.1 d (k H locs ls h1 h2 h3)
theorem x_lmul (C : hC z own cc) {x y : Int64} (d : decode cc pc = .ok (.lmul, 1)) (k : hX z cells slots G lv (pc + 1) (.long (x * y) :: rest)) : hX z cells slots G lv pc (.long y :: .long x :: rest) := fun H locs ls h1 h2 h3 => lv_lmul C.1 C.2.1 d (k H locs ls h1 h2 h3)
theorem x_land (C : hC z own cc) {x y : Int64} (d : decode cc pc = .ok (.land, 1)) (k : hX z cells slots G lv (pc + 1) (.long (x &&& y) :: rest)) : hX z cells slots G lv pc (.long y :: .long x :: rest) := fun H locs ls h1 h2 h3 => lv_land C.1 C.2.1 d (k H locs ls h1 h2 h3)
theorem x_lor (C : hC z own cc) {x y : Int64} (d : decode cc pc = .ok (.lor, 1)) (k : hX z cells slots G lv (pc + 1) (.long (x ||| y) :: rest)) : hX z cells slots G lv pc (.long y :: .long x :: rest) := fun H locs ls h1 h2 h3 => lv_lor C.1 C.2.1 d (k H locs ls h1 h2 h3)
theorem x_lshl (C : hC z own cc) {x : Int64} {y : Int32} (d : decode cc pc = .ok (.lshl, 1)) (k : hX z cells slots G lv (pc + 1) (.long (lsl x y) :: rest)) : hX z cells slots G lv pc (.int y :: .long x :: rest) := fun H locs ls h1 h2 h3 => lv_lshl C.1 C.2.1 d rfl (k H locs ls h1 h2 h3)
theorem x_lshr (C : hC z own cc) {x : Int64} {y : Int32} (d : decode cc pc = .ok (.lshr, 1)) (k : hX z cells slots G lv (pc + 1) (.long (lsr x y) :: rest)) : hX z cells slots G lv pc (.int y :: .long x :: rest) := fun H locs ls h1 h2 h3 => lv_lshr C.1 C.2.1 d rfl (k H locs ls h1 h2 h3)
theorem x_lushr (C : hC z own cc) {x : Int64} {y : Int32} (d : decode cc pc = .ok (.lushr, 1)) (k : hX z cells slots G lv (pc + 1) (.long (lusr x y) :: rest)) : hX z cells slots G lv pc (.int y :: .long x :: rest) := fun H locs ls h1 h2 h3 => lv_lushr C.1 C.2.1 d rfl (k H locs ls h1 h2 h3)
theorem x_i2l (C : hC z own cc) {x : Int32} (d : decode cc pc = .ok (.i2l, 1)) (k : hX z cells slots G lv (pc + 1) (.long x.toInt64 :: rest)) : hX z cells slots G lv pc (.int x :: rest) := fun H locs ls h1 h2 h3 => lv_i2l C.1 C.2.1 d rfl (k H locs ls h1 h2 h3)
theorem x_l2i (C : hC z own cc) {x : Int64} (d : decode cc pc = .ok (.l2i, 1)) (k : hX z cells slots G lv (pc + 1) (.int x.toInt32 :: rest)) : hX z cells slots G lv pc (.long x :: rest) := fun H locs ls h1 h2 h3 => lv_l2i C.1 C.2.1 d rfl (k H locs ls h1 h2 h3)
theorem x_lcmp (C : hC z own cc) {x y : Int64} (d : decode cc pc = .ok (.lcmp, 1)) (k : hX z cells slots G lv (pc + 1) (.int (lg_cmp x y) :: rest)) : hX z cells slots G lv pc (.long y :: .long x :: rest) := fun H locs ls h1 h2 h3 => W.lcmp C.1 C.2.1 d (k H locs ls h1 h2 h3)
theorem x_dup (C : hC z own cc) {va : Value} (d : decode cc pc = .ok (.dup, 1)) (hva : va.category = 1) (k : hX z cells slots G lv (pc + 1) (va :: va :: rest)) : hX z cells slots G lv pc (va :: rest) := fun H locs ls h1 h2 h3 => lv_dup C.1 C.2.1 d hva (k H locs ls h1 h2 h3)
theorem x_dup2 (C : hC z own cc) {va vb : Value} (d : decode cc pc = .ok (.dup2, 1)) (hva : va.category = 1) (hvb : vb.category = 1) (k : hX z cells slots G lv (pc + 1) (va :: vb :: va :: vb :: rest)) : hX z cells slots G lv pc (va :: vb :: rest) := fun H locs ls h1 h2 h3 => lv_dup2_11 C.1 C.2.1 d hva hvb (k H locs ls h1 h2 h3)
theorem x_if_eq (C : hC z own cc) {x : Int32} {off : Int} {tgt : Nat} (d : decode cc pc = .ok (.ifCond .eq off, 3)) (ht : (pc : Int) + off = (tgt : Int)) (kt : x = 0 → hX z cells slots G lv tgt rest) (kf : ¬ (x = 0) → hX z cells slots G lv (pc + 3) rest) : hX z cells slots G lv pc (.int x :: rest) := fun H locs ls h1 h2 h3 => lv_if_eq C.1 C.2.1 d ht (fun q => kt q H locs ls h1 h2 h3) (fun q => kf q H locs ls h1 h2 h3)
theorem x_icmp_eq (C : hC z own cc) {x y : Int32} {off : Int} {tgt : Nat} (d : decode cc pc = .ok (.if_icmp .eq off, 3)) (ht : (pc : Int) + off = (tgt : Int)) (kt : x = y → hX z cells slots G lv tgt rest) (kf : ¬ (x = y) → hX z cells slots G lv (pc + 3) rest) : hX z cells slots G lv pc (.int y :: .int x :: rest) := fun H locs ls h1 h2 h3 => lv_icmp_eq C.1 C.2.1 d ht (fun q => kt q H locs ls h1 h2 h3) (fun q => kf q H locs ls h1 h2 h3)
theorem x_if_ne (C : hC z own cc) {x : Int32} {off : Int} {tgt : Nat} (d : decode cc pc = .ok (.ifCond .ne off, 3)) (ht : (pc : Int) + off = (tgt : Int)) (kt : ¬ x = 0 → hX z cells slots G lv tgt rest) (kf : x = 0 → hX z cells slots G lv (pc + 3) rest) : hX z cells slots G lv pc (.int x :: rest) := fun H locs ls h1 h2 h3 => lv_if_ne C.1 C.2.1 d ht (fun q => kt q H locs ls h1 h2 h3) (fun q => kf q H locs ls h1 h2 h3)
theorem x_icmp_ne (C : hC z own cc) {x y : Int32} {off : Int} {tgt : Nat} (d : decode cc pc = .ok (.if_icmp .ne off, 3)) (ht : (pc : Int) + off = (tgt : Int)) (kt : ¬ x = y → hX z cells slots G lv tgt rest) (kf : x = y → hX z cells slots G lv (pc + 3) rest) : hX z cells slots G lv pc (.int y :: .int x :: rest) := fun H locs ls h1 h2 h3 => lv_icmp_ne C.1 C.2.1 d ht (fun q => kt q H locs ls h1 h2 h3) (fun q => kf q H locs ls h1 h2 h3)
theorem x_if_lt (C : hC z own cc) {x : Int32} {off : Int} {tgt : Nat} (d : decode cc pc = .ok (.ifCond .lt off, 3)) (ht : (pc : Int) + off = (tgt : Int)) (kt : x < 0 → hX z cells slots G lv tgt rest) (kf : ¬ (x < 0) → hX z cells slots G lv (pc + 3) rest) : hX z cells slots G lv pc (.int x :: rest) := fun H locs ls h1 h2 h3 => lv_if_lt C.1 C.2.1 d ht (fun q => kt q H locs ls h1 h2 h3) (fun q => kf q H locs ls h1 h2 h3)
theorem x_icmp_lt (C : hC z own cc) {x y : Int32} {off : Int} {tgt : Nat} (d : decode cc pc = .ok (.if_icmp .lt off, 3)) (ht : (pc : Int) + off = (tgt : Int)) (kt : x < y → hX z cells slots G lv tgt rest) (kf : ¬ (x < y) → hX z cells slots G lv (pc + 3) rest) : hX z cells slots G lv pc (.int y :: .int x :: rest) := fun H locs ls h1 h2 h3 => lv_icmp_lt C.1 C.2.1 d ht (fun q => kt q H locs ls h1 h2 h3) (fun q => kf q H locs ls h1 h2 h3)
theorem x_if_ge (C : hC z own cc) {x : Int32} {off : Int} {tgt : Nat} (d : decode cc pc = .ok (.ifCond .ge off, 3)) (ht : (pc : Int) + off = (tgt : Int)) (kt : 0 ≤ x → hX z cells slots G lv tgt rest) (kf : ¬ (0 ≤ x) → hX z cells slots G lv (pc + 3) rest) : hX z cells slots G lv pc (.int x :: rest) := fun H locs ls h1 h2 h3 => lv_if_ge C.1 C.2.1 d ht (fun q => kt q H locs ls h1 h2 h3) (fun q => kf q H locs ls h1 h2 h3)
theorem x_icmp_ge (C : hC z own cc) {x y : Int32} {off : Int} {tgt : Nat} (d : decode cc pc = .ok (.if_icmp .ge off, 3)) (ht : (pc : Int) + off = (tgt : Int)) (kt : y ≤ x → hX z cells slots G lv tgt rest) (kf : ¬ (y ≤ x) → hX z cells slots G lv (pc + 3) rest) : hX z cells slots G lv pc (.int y :: .int x :: rest) := fun H locs ls h1 h2 h3 => lv_icmp_ge C.1 C.2.1 d ht (fun q => kt q H locs ls h1 h2 h3) (fun q => kf q H locs ls h1 h2 h3)
theorem x_if_gt (C : hC z own cc) {x : Int32} {off : Int} {tgt : Nat} (d : decode cc pc = .ok (.ifCond .gt off, 3)) (ht : (pc : Int) + off = (tgt : Int)) (kt : 0 < x → hX z cells slots G lv tgt rest) (kf : ¬ (0 < x) → hX z cells slots G lv (pc + 3) rest) : hX z cells slots G lv pc (.int x :: rest) := fun H locs ls h1 h2 h3 => lv_if_gt C.1 C.2.1 d ht (fun q => kt q H locs ls h1 h2 h3) (fun q => kf q H locs ls h1 h2 h3)
theorem x_icmp_gt (C : hC z own cc) {x y : Int32} {off : Int} {tgt : Nat} (d : decode cc pc = .ok (.if_icmp .gt off, 3)) (ht : (pc : Int) + off = (tgt : Int)) (kt : y < x → hX z cells slots G lv tgt rest) (kf : ¬ (y < x) → hX z cells slots G lv (pc + 3) rest) : hX z cells slots G lv pc (.int y :: .int x :: rest) := fun H locs ls h1 h2 h3 => lv_icmp_gt C.1 C.2.1 d ht (fun q => kt q H locs ls h1 h2 h3) (fun q => kf q H locs ls h1 h2 h3)
theorem x_if_le (C : hC z own cc) {x : Int32} {off : Int} {tgt : Nat} (d : decode cc pc = .ok (.ifCond .le off, 3)) (ht : (pc : Int) + off = (tgt : Int)) (kt : x ≤ 0 → hX z cells slots G lv tgt rest) (kf : ¬ (x ≤ 0) → hX z cells slots G lv (pc + 3) rest) : hX z cells slots G lv pc (.int x :: rest) := fun H locs ls h1 h2 h3 => lv_if_le C.1 C.2.1 d ht (fun q => kt q H locs ls h1 h2 h3) (fun q => kf q H locs ls h1 h2 h3)
theorem x_icmp_le (C : hC z own cc) {x y : Int32} {off : Int} {tgt : Nat} (d : decode cc pc = .ok (.if_icmp .le off, 3)) (ht : (pc : Int) + off = (tgt : Int)) (kt : x ≤ y → hX z cells slots G lv tgt rest) (kf : ¬ (x ≤ y) → hX z cells slots G lv (pc + 3) rest) : hX z cells slots G lv pc (.int y :: .int x :: rest) := fun H locs ls h1 h2 h3 => lv_icmp_le C.1 C.2.1 d ht (fun q => kt q H locs ls h1 h2 h3) (fun q => kf q H locs ls h1 h2 h3)
theorem x_goto (C : hC z own cc) {off : Int} {tgt : Nat} (d : decode cc pc = .ok (.goto off, 3)) (ht : (pc : Int) + off = (tgt : Int)) (k : hX z cells slots G lv tgt rest) : hX z cells slots G lv pc rest := fun H locs ls h1 h2 h3 => lv_goto C.1 C.2.1 d ht (k H locs ls h1 h2 h3)
theorem x_ifnonnull (C : hC z own cc) {x : Nat} {off : Int} {tgt : Nat} (d : decode cc pc = .ok (.ifnonnull off, 3)) (ht : (pc : Int) + off = (tgt : Int)) (k : hX z cells slots G lv tgt rest) : hX z cells slots G lv pc (.ref x :: rest) := fun H locs ls h1 h2 h3 => lv_ifnonnull C.1 C.2.1 d ht (k H locs ls h1 h2 h3)
theorem x_ifnonnullN (C : hC z own cc) {off : Int} (d : decode cc pc = .ok (.ifnonnull off, 3)) (k : hX z cells slots G lv (pc + 3) rest) : hX z cells slots G lv pc (.null :: rest) := fun H locs ls h1 h2 h3 => lv_ifnonnullN C.1 C.2.1 d (k H locs ls h1 h2 h3)
theorem x_ifnull (C : hC z own cc) {x : Nat} {off : Int} (d : decode cc pc = .ok (.ifnull off, 3)) (k : hX z cells slots G lv (pc + 3) rest) : hX z cells slots G lv pc (.ref x :: rest) := fun H locs ls h1 h2 h3 => lv_ifnull C.1 C.2.1 d (k H locs ls h1 h2 h3)
theorem x_ifnullN (C : hC z own cc) {off : Int} {tgt : Nat} (d : decode cc pc = .ok (.ifnull off, 3)) (ht : (pc : Int) + off = (tgt : Int)) (k : hX z cells slots G lv tgt rest) : hX z cells slots G lv pc (.null :: rest) := fun H locs ls h1 h2 h3 => lv_ifnullN C.1 C.2.1 d ht (k H locs ls h1 h2 h3)
theorem x_tableOut (C : hC z own cc) {dflt lo hi : Int} {offs : Array Int} {len : Nat} {x : Int32} {tgt : Nat} (d : decode cc pc = .ok (.tableswitch dflt lo hi offs, len)) (h : x.toInt < lo ∨ hi < x.toInt) (ht : (pc : Int) + dflt = (tgt : Int)) (k : hX z cells slots G lv tgt rest) : hX z cells slots G lv pc (.int x :: rest) := fun H locs ls h1 h2 h3 => lv_tableOut C.1 C.2.1 d h ht (k H locs ls h1 h2 h3)
theorem x_tableIn (C : hC z own cc) {dflt lo hi : Int} {offs : Array Int} {len : Nat} {x : Int32} {off : Int} {tgt : Nat} (d : decode cc pc = .ok (.tableswitch dflt lo hi offs, len)) (g1 : ¬ x.toInt < lo) (g2 : ¬ hi < x.toInt) (ho : offs[(x.toInt - lo).toNat]? = some off) (ht : (pc : Int) + off = (tgt : Int)) (k : hX z cells slots G lv tgt rest) : hX z cells slots G lv pc (.int x :: rest) := fun H locs ls h1 h2 h3 => lv_tableIn C.1 C.2.1 d g1 g2 ho ht (k H locs ls h1 h2 h3)
theorem x_topi {x : Int32} (k : ∀ y : Int32, y = x → hX z cells slots G lv pc (.int y :: rest)) : hX z cells slots G lv pc (.int x :: rest) := k x rfl
theorem x_topl {x : Int64} (k : ∀ y : Int64, y = x → hX z cells slots G lv pc (.long y :: rest)) : hX z cells slots G lv pc (.long x :: rest) := k x rfl
theorem x_eqi {x y : Int32} (e : x = y) (k : hX z cells slots G lv pc (.int y :: rest)) : hX z cells slots G lv pc (.int x :: rest) := by rw [e]; exact k
theorem x_eql {x y : Int64} (e : x = y) (k : hX z cells slots G lv pc (.long y :: rest)) : hX z cells slots G lv pc (.long x :: rest) := by rw [e]; exact k
theorem x_G {G1 : hG} (e : G = G1) (k : hX z cells slots G1 lv pc rest) : hX z cells slots G lv pc rest := by rw [e]; exact k
theorem x_sub (ks : List Nat) (hl : lv_pick lv ks = lv') (k : hX z cells slots G lv' pc rest) : hX z cells slots G lv pc rest := fun H locs ls h1 h2 h3 => k H locs ls h1 h2 (lv_sub h3 ks hl)
theorem x_widen {c2 s2 : Nat} (h1 : cells ≤ c2) (h2 : slots ≤ s2) (k : hX z c2 s2 G lv pc rest) : hX z cells slots G lv pc rest := fun H locs ls g1 g2 g3 => W.widen h1 h2 (k H locs ls g1 g2 g3)
end HXR
end
section
/-! ===== fields and arrays over hX ===== -/
def gI (G : hG) (a k : Nat) (x : Int32) : hG := (G.1, va_up G.2.1 a (upd (G.2.1 a) k x), G.2.2.1, G.2.2.2)
def gL (G : hG) (a k : Nat) (x : Int64) : hG := (G.1, G.2.1, va_up G.2.2.1 a (vp_updL (G.2.2.1 a) k x), G.2.2.2)
def gR (G : hG) (a k : Nat) (x : Option Nat) : hG := (G.1, G.2.1, G.2.2.1, va_up G.2.2.2 a (va_up (G.2.2.2 a) k x))
/-- what the printed names say of a class -/
def hCl (ci : Nat) (w : vw_C) : Prop := vwCl[ci]? = some w ∧ (∀ x ∈ u_ws w.1 w.2.1 w.2.2, x ∈ lw_g) ∧ (∀ k, k < w.2.2 → parseFieldDescriptor (w.2.1 k).2.2.1 = some (hty ci k)) ∧ (∀ a, a < w.2.2 → ∀ b, b < w.2.2 → a ≠ b → (w.2.1 a).2.1 ≠ (w.2.1 b).2.1)
/-- an entry of a class' constants that names a field: the k-th of the class ci; b: it is final -/
def hFl (own : String) (index ci k : Nat) (b : Bool) : Prop := ∃ w : vw_C, hCl ci w ∧ k < w.2.2 ∧ Cond.fieldLink own index (w.2.1 k).1 (w.2.1 k).2.1 (w.2.1 k).2.2.1 ∈ lw_g ∧ (w.2.1 k).2.2.2 = b ∧ (w.2.1 k).1 = w.1
theorem va_up_same {α : Type} (f : Nat → α) (k : Nat) (x : α) : va_up f k x k = x := by simp [va_up]
theorem va_up_other {α : Type} (f : Nat → α) {k j : Nat} (x : α) (h : j ≠ k) : va_up f k x j = f j := by simp [va_up, h]
section HXC
variable {z : hZ} {own : String} {cc : ByteArray} {cells slots pc : Nat} {G : hG} {lv lv' : List (Nat × Value)} {rest : List Value}
theorem hget (C : hC z own cc) {index ci k a : Nat} {b : Bool} (f : hFl own index ci k b) (hT : G.1 a = some (.inr ci)) (d : decode cc pc = .ok (.getfield index, 3))
    (kk : hX z cells slots G lv (pc + 3) (hfv ci (G.2.1 a) (G.2.2.2 a) k :: rest)) : hX z cells slots G lv pc (.ref a :: rest) := by
  intro H locs ls h1 h2 h3
  obtain ⟨w, ⟨hc, hws, hty, hnm⟩, hk, hl, -, -⟩ := f
  obtain ⟨w', hc', ce, q1, q2, q3, q4⟩ := h1 a _ hT
  have hr : w' = w := Option.some.inj (hc'.symm.trans hc)
  subst hr
  obtain ⟨hS, hfc, kC, hkC, hkind⟩ := C.2.2.2.2.2.1.1.1 ci _ hc
  obtain ⟨cf, kf, fi, f, hi, hsl⟩ := hS k hk
  have hst := (u_facts hfc hkC (u_lays C.2.2.2.2.1 hws hk) hi).1
  refine W.getf C.1 C.2.1 C.2.2.2.1 (C.2.2.2.2.1 _ hl) hi hst q1 (by rw [q3]; intro e; cases e) (by rw [hsl]; exact q4 k hk) rfl rfl d ?_
  exact kk H locs ls h1 h2 h3
theorem x_geti (C : hC z own cc) {index ci k a : Nat} {b : Bool} (f : hFl own index ci k b) (hT : G.1 a = some (.inr ci)) (hr : hrf (hty ci k) = false) (d : decode cc pc = .ok (.getfield index, 3))
    (kk : hX z cells slots G lv (pc + 3) (.int (G.2.1 a k) :: rest)) : hX z cells slots G lv pc (.ref a :: rest) := by
  refine hget C f hT d ?_
  rw [hfv, if_neg (by rw [hr]; decide)]
  exact kk
theorem x_getr (C : hC z own cc) {index ci k a q : Nat} {b : Bool} (f : hFl own index ci k b) (hT : G.1 a = some (.inr ci)) (hr : hrf (hty ci k) = true) (hq : G.2.2.2 a k = some q) (d : decode cc pc = .ok (.getfield index, 3))
    (kk : hX z cells slots G lv (pc + 3) (.ref q :: rest)) : hX z cells slots G lv pc (.ref a :: rest) := by
  refine hget C f hT d ?_
  rw [hfv, if_pos hr, hq]
  exact kk
theorem hput (C : hC z own cc) {index ci k a : Nat} (f : hFl own index ci k false) (hT : G.1 a = some (.inr ci)) (h0 : z0 z ≤ a) {v : Value} (hn : narrow (hty ci k) v = v) (hf : fits (hty ci k) v = true) (d : decode cc pc = .ok (.putfield index, 3)) {G1 : hG}
    (e1 : G1.1 = G.1) (e2 : ∀ q, q ≠ a → G1.2.1 q = G.2.1 q) (e3 : G1.2.2.1 = G.2.2.1) (e4 : ∀ q, q ≠ a → G1.2.2.2 q = G.2.2.2 q) (ev : hfv ci (G1.2.1 a) (G1.2.2.2 a) k = v) (ev2 : ∀ j, j ≠ k → hfv ci (G1.2.1 a) (G1.2.2.2 a) j = hfv ci (G.2.1 a) (G.2.2.2 a) j)
    (kk : hX z cells slots G1 lv (pc + 3) rest) : hX z cells slots G lv pc (v :: .ref a :: rest) := by
  intro H locs ls h1 h2 h3
  obtain ⟨w, ⟨hc, hws, hty, hnm⟩, hk, hl, hfin, -⟩ := f
  have hap := va_apart (own := own) C.2.2.2.2.1 hws _ hty hnm C.2.2.2.2.2.1.1 hc
  obtain ⟨w', hc', ce, q1, q2, q3, q4⟩ := h1 a _ hT
  have hr : w' = w := Option.some.inj (hc'.symm.trans hc)
  subst hr
  obtain ⟨hS, hfc, kC, hkC, hkind⟩ := C.2.2.2.2.2.1.1.1 ci _ hc
  obtain ⟨cf, kf, fi, f, hi, hsl⟩ := hS k hk
  have hlay := C.2.2.2.2.1 _ (hws _ (u_in_lay hk))
  unfold u_lay at hlay
  rw [if_neg (by rw [hfin]; decide)] at hlay
  have hst := (u_facts hfc hkC (u_lays C.2.2.2.2.1 hws hk) hi).1
  have h6 := u_store hfc hkC hkind hlay hi (hty k hk) hn hf
  refine W.putK C.1 C.2.1 (f := f) ⟨C.2.2.2.1, C.2.2.2.2.1 _ hl, ⟨_, _, _, hi⟩, hst⟩ (by rw [q2]; exact h6) q1 q3 (by rw [hsl]; exact k2_hasslot (q4 k hk)) rfl rfl d fun H' g1 g2 g3 => ?_
  rw [hsl] at g1 ⊢
  refine kk H' _ ls (h1.put (a := a) g3 e1 e2 (fun q _ => by rw [e3]) e4 (fun k' hk' => ?_)) (h2.put g2 g3 h0) h3
  have : k' = .inr ci := Option.some.inj (hk'.symm.trans hT)
  subst this
  refine ⟨_, hc, t_OB.to (V := updV (hfv ci (G.2.1 a) (G.2.2.2 a)) k v) ⟨_, g1, q2, q3, t_set q4 hap hk v⟩ (fun j _ => ?_)⟩
  unfold updV
  by_cases e : j = k
  · subst e; rw [if_pos rfl, ev]
  · rw [if_neg e, ev2 j e]
theorem hputF (C : hC z own cc) {index ci k a : Nat} (f : hFl own index ci k true) (hown : vwCl[ci]?.map (fun w => w.1) = some own) (hin : (zM z).name = "<init>") (hT : G.1 a = some (.inr ci)) (h0 : z0 z ≤ a) {v : Value} (hn : narrow (hty ci k) v = v) (hf : fits (hty ci k) v = true) (d : decode cc pc = .ok (.putfield index, 3)) {G1 : hG}
    (e1 : G1.1 = G.1) (e2 : ∀ q, q ≠ a → G1.2.1 q = G.2.1 q) (e3 : G1.2.2.1 = G.2.2.1) (e4 : ∀ q, q ≠ a → G1.2.2.2 q = G.2.2.2 q) (ev : hfv ci (G1.2.1 a) (G1.2.2.2 a) k = v) (ev2 : ∀ j, j ≠ k → hfv ci (G1.2.1 a) (G1.2.2.2 a) j = hfv ci (G.2.1 a) (G.2.2.2 a) j)
    (kk : hX z cells slots G1 lv (pc + 3) rest) : hX z cells slots G lv pc (v :: .ref a :: rest) := by
  intro H locs ls h1 h2 h3
  obtain ⟨w, ⟨hc, hws, hty, hnm⟩, hk, hl, hfin, hdecl⟩ := f
  have hap := va_apart (own := own) C.2.2.2.2.1 hws _ hty hnm C.2.2.2.2.2.1.1 hc
  obtain ⟨w', hc', ce, q1, q2, q3, q4⟩ := h1 a _ hT
  have hr : w' = w := Option.some.inj (hc'.symm.trans hc)
  subst hr
  rw [hc] at hown
  have hown : w'.1 = own := Option.some.inj hown
  obtain ⟨hS, hfc, kC, hkC, hkind⟩ := C.2.2.2.2.2.1.1.1 ci _ hc
  obtain ⟨cf, kf, fi, f, hi, hsl⟩ := hS k hk
  have hlay := C.2.2.2.2.1 _ (hws _ (u_in_lay hk))
  unfold u_lay at hlay
  rw [if_pos hfin] at hlay
  have hst := (u_facts hfc hkC (u_lays C.2.2.2.2.1 hws hk) hi).1
  have hcf : (zm z).cls = cf := by
    obtain ⟨_, _, c', _, _, _, -, -, hf', -, -, -, hown2, -⟩ := Cond.laysFinal_spec hlay
    have e1 : c' = cf := by have := hi.symm.trans hf'; simp at this; exact this.1.symm
    rw [hdecl, hown] at hown2
    rw [← e1]; exact Option.some.inj (C.2.2.2.1.symm.trans hown2)
  have h6 := u_fits hfc hkC hkind (Or.inr hlay) hi (hty k hk) hn hf
  refine W.putFinK C.1 C.2.1 C.2.2.2.1 (C.2.2.2.2.1 _ hl) hi hst hcf hin (by rw [q2]; exact h6) q1 q3 (by rw [hsl]; exact k2_hasslot (q4 k hk)) rfl rfl d fun H' g1 g2 g3 => ?_
  rw [hsl] at g1 ⊢
  refine kk H' _ ls (h1.put (a := a) g3 e1 e2 (fun q _ => by rw [e3]) e4 (fun k' hk' => ?_)) (h2.put g2 g3 h0) h3
  have : k' = .inr ci := Option.some.inj (hk'.symm.trans hT)
  subst this
  refine ⟨_, hc, t_OB.to (V := updV (hfv ci (G.2.1 a) (G.2.2.2 a)) k v) ⟨_, g1, q2, q3, t_set q4 hap hk v⟩ (fun j _ => ?_)⟩
  unfold updV
  by_cases e : j = k
  · subst e; rw [if_pos rfl, ev]
  · rw [if_neg e, ev2 j e]
theorem hfv_i {ci k a : Nat} {x : Int32} (hr : hrf (hty ci k) = false) : hfv ci ((gI G a k x).2.1 a) ((gI G a k x).2.2.2 a) k = .int x := by
  rw [hfv, if_neg (by rw [hr]; decide)]; simp [gI, va_up, upd]
theorem hfv_i2 {ci k a : Nat} {x : Int32} : ∀ j, j ≠ k → hfv ci ((gI G a k x).2.1 a) ((gI G a k x).2.2.2 a) j = hfv ci (G.2.1 a) (G.2.2.2 a) j := by
  intro j hj; unfold hfv; simp [gI, va_up, upd, hj]
theorem hfv_r {ci k a : Nat} {x : Option Nat} (hr : hrf (hty ci k) = true) : hfv ci ((gR G a k x).2.1 a) ((gR G a k x).2.2.2 a) k = va_rf x := by
  rw [hfv, if_pos hr]; simp [gR, va_up]
theorem hfv_r2 {ci k a : Nat} {x : Option Nat} : ∀ j, j ≠ k → hfv ci ((gR G a k x).2.1 a) ((gR G a k x).2.2.2 a) j = hfv ci (G.2.1 a) (G.2.2.2 a) j := by
  intro j hj; unfold hfv; simp [gR, va_up, hj]
theorem x_puti (C : hC z own cc) {index ci k a : Nat} {x : Int32} (f : hFl own index ci k false) (hT : G.1 a = some (.inr ci)) (h0 : z0 z ≤ a) (ht : hty ci k = .int) (d : decode cc pc = .ok (.putfield index, 3)) (kk : hX z cells slots (gI G a k x) lv (pc + 3) rest) : hX z cells slots G lv pc (.int x :: .ref a :: rest) :=
  hput (G1 := gI G a k x) C f hT h0 (by rw [ht]; rfl) (by rw [ht]; rfl) d rfl (fun q h => by simp [gI, va_up, h]) rfl (fun q h => rfl) (hfv_i (by rw [ht]; rfl)) hfv_i2 kk
theorem x_putiF (C : hC z own cc) {index ci k a : Nat} {x : Int32} (f : hFl own index ci k true) (hown : vwCl[ci]?.map (fun w => w.1) = some own) (hin : (zM z).name = "<init>") (hT : G.1 a = some (.inr ci)) (h0 : z0 z ≤ a) (ht : hty ci k = .int) (d : decode cc pc = .ok (.putfield index, 3)) (kk : hX z cells slots (gI G a k x) lv (pc + 3) rest) : hX z cells slots G lv pc (.int x :: .ref a :: rest) :=
  hputF (G1 := gI G a k x) C f hown hin hT h0 (by rw [ht]; rfl) (by rw [ht]; rfl) d rfl (fun q h => by simp [gI, va_up, h]) rfl (fun q h => rfl) (hfv_i (by rw [ht]; rfl)) hfv_i2 kk
theorem nar_z {x : Int32} (h : x = 0 ∨ x = 1) : narrow .boolean (.int x) = .int x ∧ fits .boolean (.int x) = true := by
  rcases h with rfl | rfl <;> exact ⟨by decide +kernel, by decide +kernel⟩
theorem x_putz (C : hC z own cc) {index ci k a : Nat} {x : Int32} (f : hFl own index ci k false) (hT : G.1 a = some (.inr ci)) (h0 : z0 z ≤ a) (ht : hty ci k = .boolean) (hx : x = 0 ∨ x = 1) (d : decode cc pc = .ok (.putfield index, 3)) (kk : hX z cells slots (gI G a k x) lv (pc + 3) rest) : hX z cells slots G lv pc (.int x :: .ref a :: rest) :=
  hput (G1 := gI G a k x) C f hT h0 (by rw [ht]; exact (nar_z hx).1) (by rw [ht]; exact (nar_z hx).2) d rfl (fun q h => by simp [gI, va_up, h]) rfl (fun q h => rfl) (hfv_i (by rw [ht]; rfl)) hfv_i2 kk
theorem x_putzF (C : hC z own cc) {index ci k a : Nat} {x : Int32} (f : hFl own index ci k true) (hown : vwCl[ci]?.map (fun w => w.1) = some own) (hin : (zM z).name = "<init>") (hT : G.1 a = some (.inr ci)) (h0 : z0 z ≤ a) (ht : hty ci k = .boolean) (hx : x = 0 ∨ x = 1) (d : decode cc pc = .ok (.putfield index, 3)) (kk : hX z cells slots (gI G a k x) lv (pc + 3) rest) : hX z cells slots G lv pc (.int x :: .ref a :: rest) :=
  hputF (G1 := gI G a k x) C f hown hin hT h0 (by rw [ht]; exact (nar_z hx).1) (by rw [ht]; exact (nar_z hx).2) d rfl (fun q h => by simp [gI, va_up, h]) rfl (fun q h => rfl) (hfv_i (by rw [ht]; rfl)) hfv_i2 kk
theorem ref_z {ty : FieldType} (h : hrf ty = true) (h2 : ty.isReference = true) (q : Nat) : narrow ty (.ref q) = .ref q ∧ fits ty (.ref q) = true := by
  cases ty <;> first | (simp [hrf] at h; done) | (simp [FieldType.isReference] at h2; done) | exact ⟨rfl, rfl⟩
theorem x_putr (C : hC z own cc) {index ci k a q : Nat} (f : hFl own index ci k false) (hT : G.1 a = some (.inr ci)) (h0 : z0 z ≤ a) (hr : hrf (hty ci k) = true) (hr2 : (hty ci k).isReference = true) (d : decode cc pc = .ok (.putfield index, 3)) (kk : hX z cells slots (gR G a k (some q)) lv (pc + 3) rest) : hX z cells slots G lv pc (.ref q :: .ref a :: rest) :=
  hput (G1 := gR G a k (some q)) C f hT h0 (ref_z hr hr2 q).1 (ref_z hr hr2 q).2 d rfl (fun q h => rfl) rfl (fun q h => by simp [gR, va_up, h]) (hfv_r hr) hfv_r2 kk
theorem x_putrF (C : hC z own cc) {index ci k a q : Nat} (f : hFl own index ci k true) (hown : vwCl[ci]?.map (fun w => w.1) = some own) (hin : (zM z).name = "<init>") (hT : G.1 a = some (.inr ci)) (h0 : z0 z ≤ a) (hr : hrf (hty ci k) = true) (hr2 : (hty ci k).isReference = true) (d : decode cc pc = .ok (.putfield index, 3)) (kk : hX z cells slots (gR G a k (some q)) lv (pc + 3) rest) : hX z cells slots G lv pc (.ref q :: .ref a :: rest) :=
  hputF (G1 := gR G a k (some q)) C f hown hin hT h0 (ref_z hr hr2 q).1 (ref_z hr hr2 q).2 d rfl (fun q h => rfl) rfl (fun q h => by simp [gR, va_up, h]) (hfv_r hr) hfv_r2 kk
theorem x_iald (C : hC z own cc) {a n : Nat} {i : Int32} (hT : G.1 a = some (.inl (.int, n))) (hin : vp_in i n) (d : decode cc pc = .ok (.iaload, 1)) (kk : hX z cells slots G lv (pc + 1) (.int (G.2.1 a i.toNatClampNeg) :: rest)) : hX z cells slots G lv pc (.int i :: .ref a :: rest) := by
  intro H locs ls h1 h2 h3
  obtain ⟨ce, q1, q2, q3, q4, q5, -⟩ := h1 a _ hT
  exact W.iald C.1 C.2.1 q1 q2 q3 (by rw [q4]; exact hin) (q5 _ (Nat.not_le.mp fun q => hin (Or.inr q))) rfl rfl d (kk H locs ls h1 h2 h3)
theorem x_zald (C : hC z own cc) {a n : Nat} {i : Int32} (hT : G.1 a = some (.inl (.boolean, n))) (hin : vp_in i n) (d : decode cc pc = .ok (.baload, 1)) (kk : hX z cells slots G lv (pc + 1) (.int (G.2.1 a i.toNatClampNeg) :: rest)) : hX z cells slots G lv pc (.int i :: .ref a :: rest) := by
  intro H locs ls h1 h2 h3
  obtain ⟨ce, q1, q2, q3, q4, q5, -⟩ := h1 a _ hT
  exact W.zald C.1 C.2.1 q1 q2 q3 (by rw [q4]; exact hin) (q5 _ (Nat.not_le.mp fun q => hin (Or.inr q))) rfl rfl d (kk H locs ls h1 h2 h3)
theorem x_lald (C : hC z own cc) {a n : Nat} {i : Int32} (hT : G.1 a = some (.inl (.long, n))) (hin : vp_in i n) (d : decode cc pc = .ok (.laload, 1)) (kk : hX z cells slots G lv (pc + 1) (.long (G.2.2.1 a i.toNatClampNeg) :: rest)) : hX z cells slots G lv pc (.int i :: .ref a :: rest) := by
  intro H locs ls h1 h2 h3
  obtain ⟨ce, q1, q2, q3, q4, q5, -⟩ := h1 a _ hT
  exact W.lald C.1 C.2.1 q1 q2 q3 (by rw [q4]; exact hin) (q5 _ (Nat.not_le.mp fun q => hin (Or.inr q))) rfl rfl d (kk H locs ls h1 h2 h3)
theorem x_aald (C : hC z own cc) {a n : Nat} {i : Int32} {ty : FieldType} (hT : G.1 a = some (.inl (ty, n))) (ht : ty.isReference = true) (hin : vp_in i n) (d : decode cc pc = .ok (.aaload, 1)) (kk : hX z cells slots G lv (pc + 1) (va_rf (G.2.2.2 a i.toNatClampNeg) :: rest)) : hX z cells slots G lv pc (.int i :: .ref a :: rest) := by
  intro H locs ls h1 h2 h3
  obtain ⟨ce, q1, q2, q3, q4, q5, -⟩ := h1 a _ hT
  refine W.aald (ty := ty) C.1 C.2.1 q1 q2 ht q3 (by rw [q4]; exact hin) (q5 _ (Nat.not_le.mp fun q => hin (Or.inr q))) rfl rfl d ?_
  have e : hav ty (G.2.1 a) (G.2.2.1 a) (G.2.2.2 a) i.toNatClampNeg = va_rf (G.2.2.2 a i.toNatClampNeg) := by
    cases ty <;> first | rfl | (simp [FieldType.isReference] at ht; done)
  show zW z H locs cells slots (pc + 1) ls (hav ty (G.2.1 a) (G.2.2.1 a) (G.2.2.2 a) i.toNatClampNeg :: rest)
  rw [e]
  exact kk H locs ls h1 h2 h3
theorem x_iast (C : hC z own cc) {a n : Nat} {i x : Int32} (hT : G.1 a = some (.inl (.int, n))) (h0 : z0 z ≤ a) (hin : vp_in i n) (d : decode cc pc = .ok (.iastore, 1)) (kk : hX z cells slots (gI G a i.toNatClampNeg x) lv (pc + 1) rest) : hX z cells slots G lv pc (.int x :: .int i :: .ref a :: rest) := by
  intro H locs ls h1 h2 h3
  obtain ⟨ce, q1, q2, q3, q4, q5, q6⟩ := h1 a _ hT
  refine W.iast C.1 C.2.1 q1 q2 q3 (by rw [q4]; exact hin) rfl rfl d fun H' g1 g2 g3 => ?_
  refine kk H' _ ls (h1.put (a := a) g3 rfl (fun q h => by simp [gI, va_up, h]) (fun _ _ => rfl) (fun _ _ => rfl) (fun k' hk' => ?_)) (h2.put g2 g3 h0) h3
  have : k' = .inl (.int, n) := Option.some.inj (hk'.symm.trans hT)
  subst this
  exact ⟨_, g1, q2, q3, by show (ce.slots.setIfInBounds _ _).size = _; rw [Array.size_setIfInBounds, q4], hav_upd q4 q5 (by simp [hav, gI, va_up, upd]) (fun j hj => by simp [hav, gI, va_up, upd, hj]), q6⟩
theorem x_zast (C : hC z own cc) {a n : Nat} {i x : Int32} (hT : G.1 a = some (.inl (.boolean, n))) (h0 : z0 z ≤ a) (hin : vp_in i n) (hx : x = 0 ∨ x = 1) (d : decode cc pc = .ok (.bastore, 1)) (kk : hX z cells slots (gI G a i.toNatClampNeg x) lv (pc + 1) rest) : hX z cells slots G lv pc (.int x :: .int i :: .ref a :: rest) := by
  intro H locs ls h1 h2 h3
  obtain ⟨ce, q1, q2, q3, q4, q5, q6⟩ := h1 a _ hT
  refine W.zast C.1 C.2.1 q1 q2 q3 (by rw [q4]; exact hin) rfl rfl d fun H' g1 g2 g3 => ?_
  rw [(nar_z hx).1] at g1
  refine kk H' _ ls (h1.put (a := a) g3 rfl (fun q h => by simp [gI, va_up, h]) (fun _ _ => rfl) (fun _ _ => rfl) (fun k' hk' => ?_)) (h2.put g2 g3 h0) h3
  have : k' = .inl (.boolean, n) := Option.some.inj (hk'.symm.trans hT)
  subst this
  exact ⟨_, g1, q2, q3, by show (ce.slots.setIfInBounds _ _).size = _; rw [Array.size_setIfInBounds, q4], hav_upd q4 q5 (by simp [hav, gI, va_up, upd]) (fun j hj => by simp [hav, gI, va_up, upd, hj]), q6⟩
theorem x_last (C : hC z own cc) {a n : Nat} {i : Int32} {x : Int64} (hT : G.1 a = some (.inl (.long, n))) (h0 : z0 z ≤ a) (hin : vp_in i n) (d : decode cc pc = .ok (.lastore, 1)) (kk : hX z cells slots (gL G a i.toNatClampNeg x) lv (pc + 1) rest) : hX z cells slots G lv pc (.long x :: .int i :: .ref a :: rest) := by
  intro H locs ls h1 h2 h3
  obtain ⟨ce, q1, q2, q3, q4, q5, q6⟩ := h1 a _ hT
  refine W.last C.1 C.2.1 q1 q2 q3 (by rw [q4]; exact hin) rfl rfl d fun H' g1 g2 g3 => ?_
  refine kk H' _ ls (h1.put (a := a) g3 rfl (fun _ _ => rfl) (fun q h => by simp [gL, va_up, h]) (fun _ _ => rfl) (fun k' hk' => ?_)) (h2.put g2 g3 h0) h3
  have : k' = .inl (.long, n) := Option.some.inj (hk'.symm.trans hT)
  subst this
  exact ⟨_, g1, q2, q3, by show (ce.slots.setIfInBounds _ _).size = _; rw [Array.size_setIfInBounds, q4], hav_upd q4 q5 (by simp [hav, gL, va_up, vp_updL]) (fun j hj => by simp [hav, gL, va_up, vp_updL, hj]), q6⟩
theorem x_alen (C : hC z own cc) {a : Nat} {t : FieldType × Nat} (hT : G.1 a = some (.inl t)) (d : decode cc pc = .ok (.arraylength, 1)) (kk : hX z cells slots G lv (pc + 1) (.int (nI t.2) :: rest)) : hX z cells slots G lv pc (.ref a :: rest) := by
  intro H locs ls h1 h2 h3
  obtain ⟨ce, q1, q2, q3, q4, q5, -⟩ := h1 a _ hT
  exact W.alen (n := nI t.2) C.1 C.2.1 q1 q2 (by rw [q4] <;> rfl) rfl rfl d (kk H locs ls h1 h2 h3)
/-- the ends -/
theorem x_fit {y : MethodName} {ret : Option FieldType} {rm : Room} {post : Option Value → hG → Prop} {v : Option Value} (E : hE z y ret rm post) (hp : post v G) {H : Heap} {locs : List Loc} (h1 : HR (zs z) (zD z) G H) (h2 : va_S (fun q => z0 z ≤ q) (zs z).heap H locs) : ∀ t : State, t.heap = H → (zs z).WarmedH t.vm → (fun (_ : Array Value) (st : State) (oc : Outcome) (t : State) => (∃ (v : Option Value) (G : hG), oc = .returned v ∧ post v G ∧ HR t (zD z) G t.heap) ∧ va_F (fun q => z0 z ≤ q) st t) (za z) (zs z) (.returned v) t :=
  fun t ht hW => ⟨⟨v, G, rfl, hp, by rw [ht]; exact h1.moved hW.alike⟩, h2.F ht⟩
theorem x_iret {y : MethodName} {rm : Room} {post : Option Value → hG → Prop} {v : Int32} (C : hC z own cc) (E : hE z y (some .int) rm post) (hc : cells ≤ rm.cells) (hs : slots ≤ rm.slots) (d : decode cc pc = .ok (.ireturn, 1)) (hp : post (some (.int v)) G) : hX z cells slots G lv pc [.int v] := by
  intro H locs ls h1 h2 h3
  refine W.widen hc hs ?_
  show W _ _ _ _ _ _ _ _ _ _ _ _ _ _ (zQ z) _
  rw [E.2.2.2.2]
  exact W.iret C.1 C.2.1 E.1 (x_fit E hp h1 h2) h2.2.2 d E.2.1
theorem x_zret {y : MethodName} {rm : Room} {post : Option Value → hG → Prop} {v : Int32} (C : hC z own cc) (E : hE z y (some .boolean) rm post) (hx : v = 0 ∨ v = 1) (hc : cells ≤ rm.cells) (hs : slots ≤ rm.slots) (d : decode cc pc = .ok (.ireturn, 1)) (hp : post (some (.int v)) G) : hX z cells slots G lv pc [.int v] := by
  intro H locs ls h1 h2 h3
  refine W.widen hc hs ?_
  show W _ _ _ _ _ _ _ _ _ _ _ _ _ _ (zQ z) _
  rw [E.2.2.2.2]
  exact W.zret C.1 C.2.1 E.1 (nar_z hx).1 (x_fit E hp h1 h2) h2.2.2 d E.2.1
theorem x_lret {y : MethodName} {rm : Room} {post : Option Value → hG → Prop} {v : Int64} (C : hC z own cc) (E : hE z y (some .long) rm post) (hc : cells ≤ rm.cells) (hs : slots ≤ rm.slots) (d : decode cc pc = .ok (.lreturn, 1)) (hp : post (some (.long v)) G) : hX z cells slots G lv pc [.long v] := by
  intro H locs ls h1 h2 h3
  refine W.widen hc hs ?_
  show W _ _ _ _ _ _ _ _ _ _ _ _ _ _ (zQ z) _
  rw [E.2.2.2.2]
  exact W.lret C.1 C.2.1 E.1 (x_fit E hp h1 h2) h2.2.2 d E.2.1
theorem x_vret {y : MethodName} {rm : Room} {post : Option Value → hG → Prop} (C : hC z own cc) (E : hE z y none rm post) (hc : cells ≤ rm.cells) (hs : slots ≤ rm.slots) (d : decode cc pc = .ok (.return_, 1)) (hp : post none G) : hX z cells slots G lv pc [] := by
  intro H locs ls h1 h2 h3
  refine W.widen hc hs ?_
  show W _ _ _ _ _ _ _ _ _ _ _ _ _ _ (zQ z) _
  rw [E.2.2.2.2]
  exact W.vret C.1 C.2.1 E.1 (x_fit E hp h1 h2) h2.2.2 d E.2.1
theorem x_aret {y : MethodName} {rm : Room} {post : Option Value → hG → Prop} {v : Value} {n : String} (C : hC z own cc) (E : hE z y (some (.object n)) rm post) (hv : v = .null ∨ ∃ a, v = .ref a) (hc : cells ≤ rm.cells) (hs : slots ≤ rm.slots) (d : decode cc pc = .ok (.areturn, 1)) (hp : post (some v) G) : hX z cells slots G lv pc [v] := by
  intro H locs ls h1 h2 h3
  refine W.widen hc hs ?_
  show W _ _ _ _ _ _ _ _ _ _ _ _ _ _ (zQ z) _
  rw [E.2.2.2.2]
  exact W.aret C.1 C.2.1 E.1 (Or.inl ⟨n, rfl⟩) hv (x_fit E hp h1 h2) h2.2.2 d E.2.1
end HXC
end
section
/-! ===== calls over hX ===== -/
theorem lw_good : GoodIn lw_g lw_g := fun w hw => ⟨hw, good_of_word (List.mem_filter.mp hw).2⟩
theorem lw_goodc {y : MethodName} {cc : ByteArray} {nL : Nat} {ret : Option FieldType} (h : Cond.code y cc nL ret ∈ lw_g) : GoodIn lw_g (.code y cc nL ret :: lw_g) := fun w hw => (List.mem_cons.mp hw).elim (fun e => by rw [e]; exact lw_good _ h) (lw_good w)
theorem lw_mem {w : Cond} {i : Nat} (h : lw_tbl[i]? = some w) (hg : goodWord w = true) : w ∈ lw_g := List.mem_filter.mpr ⟨List.mem_of_getElem? h, hg⟩
theorem lw_memt {w : Cond} {i : Nat} (h : tables_1[i]? = some w) (hg : goodWord w = true) : w ∈ lw_g := List.mem_filter.mpr ⟨List.mem_append_right _ (List.mem_of_getElem? h), hg⟩
theorem lw_mems {w : Cond} {i : Nat} (h : (k2_sels lw_privs)[i]? = some w) (hg : goodWord w = true) : w ∈ lw_g := List.mem_filter.mpr ⟨List.mem_append_left _ (List.mem_of_getElem? h), hg⟩
theorem lw_memn {w : Cond} {i : Nat} (h : tables_1[i]? = some w) (hg : lw_isN w = true) : w ∈ lw_n := List.mem_filter.mpr ⟨List.mem_of_getElem? h, hg⟩
/-- what a callee's own rows say -/
def hMb (y : MethodName) (cc : ByteArray) (nL : Nat) (ret : Option FieldType) (n : Nat) : Prop := Cond.code y cc nL ret ∈ lw_g ∧ Cond.initialized y.cls ∈ lw_g ∧ (y.cls ≠ "java/lang/invoke/MethodHandle" ∧ y.cls ≠ "java/lang/invoke/VarHandle" ∧ (parseMethodDescriptor y.desc).map (fun d => d.parameters.length) = some n)
def hMv (y : MethodName) (cc : ByteArray) (nL : Nat) (ret : Option FieldType) (n : Nat) : Prop := hMb y cc nL ret n ∧ Cond.instanceMethod y ∈ lw_g ∧ Cond.selects y.cls y y ∈ lw_g
def hMs (y : MethodName) (cc : ByteArray) (nL : Nat) (ret : Option FieldType) (n : Nat) : Prop := hMb y cc nL ret n ∧ Cond.static y ∈ lw_g
def hMi (y : MethodName) (cc : ByteArray) (nL : Nat) (n : Nat) : Prop := hMb y cc nL none n ∧ y.name = "<init>" ∧ Cond.instanceMethod y ∈ lw_g
section HXK
variable {z : hZ} {own : String} {cc : ByteArray} {cells slots pc : Nat} {G : hG} {lv lv' : List (Nat × Value)} {rest : List Value}
variable {y : MethodName} {cy : ByteArray} {nL index n : Nat} {ret : Option FieldType} {rm : Room} {As : List Value} {post : Option Value → hG → Prop} {st0 : List Value}
abbrev hPc (a0 : Nat) (D : va_G) (sa : Nat → Nat) (av : List Value) (G : hG) : Array Value → State → Prop := va_Pc av (fun U => HR U D G U.heap ∧ hKs D a0 sa U U.heap ∧ a0 ≤ U.heap.size)
abbrev hQc (a0 : Nat) (D : va_G) (post : Option Value → hG → Prop) : Array Value → State → Outcome → State → Prop := fun _ st oc t => (∃ (v : Option Value) (G' : hG), oc = .returned v ∧ post v G' ∧ HR t D G' t.heap) ∧ va_F (fun q => a0 ≤ q) st t
theorem hPc.blind {a0 : Nat} {D : va_G} {sa : Nat → Nat} {av : List Value} : FrameBlind (hPc a0 D sa av G) := fun a U g mk q => ⟨q.1, q.2.1.moved (Vm.Alike.refl U.vm), hKs.same (u := U) (U := U.calling g mk a) (H := U.heap) rfl q.2.2.1, q.2.2.2⟩
theorem hPc.there (C : hC z own cc) {H : Heap} {locs : List Loc} (h1 : HR (zs z) (zD z) G H) (h2 : va_S (fun q => z0 z ≤ q) (zs z).heap H locs) {av : List Value} : ∀ U : State, U.heap = H → (zs z).WarmedH U.vm → hPc (z0 z) (zD z) (zS z) av G av.toArray U := by
  intro U hU hW
  refine ⟨rfl, by rw [hU]; exact h1.moved hW.alike, ?_, ?_⟩
  · rw [hU]
    exact (C.2.2.2.2.2.1.kept (fun a h n => h2.2.1 a h n)).moved hW
  · rw [hU]
    exact Nat.le_trans C.2.2.2.2.2.2 h2.1
theorem hgo (C : hC z own cc) {H : Heap} {locs : List Loc} {ls : Array Slot} {a : Array Value} (h2 : va_S (fun q => z0 z ≤ q) (zs z).heap H locs) (h3 : lv_has ls (zn z) lv)
    (hr : va_Run (zp z) (zl z) (ze z) (zR z) (zs z) (zm z) (za z) (zb z) (zM z) (zc z) H locs cells slots rm.cells rm.slots (F0 (zm z) pc ls st0) rest (hQc (z0 z) (zD z) post a) (fun q => z0 z ≤ q))
    (kk : ∀ (v : Option Value) (G' : hG), post v G' → hX z (cells + rm.cells) (slots + rm.slots) G' lv (pc + 3) (v.toList ++ rest)) : zW z H locs cells slots pc ls st0 := by
  intro T hT X
  obtain ⟨v, st₀, t, T', L, g0, X', hL, e1, e2, ⟨⟨v', G', hv, hp, hb⟩, hz, hk⟩, st⟩ := hr T hT X
  cases hv
  have hal : t.vm.Alike (zs z).vm := by rw [← e2]; exact X'.warmed.alike.symm
  obtain ⟨t2, a1, b1⟩ := kk v G' hp t.heap (locs ++ L) ls (hb.moved hal) ⟨Nat.le_trans h2.1 (by rw [g0] at hz; exact hz), fun q q1 q2 => by
      rw [hk q (by rw [g0]; exact Nat.lt_of_lt_of_le q1 h2.1) q2, g0]
      exact h2.2.1 q q1 q2, fun q hq => (List.mem_append.mp hq).elim (h2.2.2 q) (hL q)⟩ h3 T' e1 X'
  exact ⟨t2, st t2 a1, b1⟩
theorem x_callV (C : hC z own cc) {b : Nat} (hm : hM (zl z) (z0 z) (zD z) (zS z) y cy nL ret rm (.ref b :: As) G post) (f : hMv y cy nL ret n) (hl : Cond.methodLink own index y ∈ lw_g) {ci : Nat} (hT : G.1 b = some (.inr ci)) (hci : vwCl[ci]?.map (fun w => w.1) = some y.cls) (hn : As.length = n) (hst : st0 = As.reverse ++ .ref b :: rest) (hw : (rest.map fun v => v.category).sum ≤ 8)
    (hR : rm.frames + 1 ≤ (zR z).frames ∧ 8 + (nL + 11) + rm.locals ≤ (zR z).locals) (hf : cells + rm.cells ≤ (zR z).cells ∧ slots + rm.slots ≤ (zR z).slots) (d : decode cc pc = .ok (.invokevirtual index, 3))
    (kk : ∀ (v : Option Value) (G' : hG), post v G' → hX z (cells + rm.cells) (slots + rm.slots) G' lv (pc + 3) (v.toList ++ rest)) : hX z cells slots G lv pc st0 := by
  intro H locs ls h1 h2 h3
  obtain ⟨⟨hc, hini, hd⟩, hin, hse⟩ := f
  obtain ⟨w, hw', ce, q1, q2, q3, -⟩ := h1 b _ hT
  rw [hw'] at hci
  have hcn : w.1 = y.cls := Option.some.inj hci
  have ht := C.2.2.2.2.1
  refine hgo C h2 h3 (va_runV (Pc := hPc (z0 z) (zD z) (zS z) (.ref b :: As) G) (C := y.cls) ⟨C.1, C.2.1, C.2.2.1, C.2.2.2.1, ht⟩ hm ⟨callB_of n ht (lw_goodc hc) rfl rfl rfl (ht _ hini) (ht _ hl) hd hR, ht _ hin, ht _ hse⟩ ⟨hPc.blind, ⟨ce, q1, by rw [q3]; rfl, ?_⟩, hPc.there C h1 h2⟩ rfl hn h3.1 hst (lv_room hw) d hf) kk
  rw [q2, ← hcn]
  exact (C.2.2.2.2.2.1.1.1 ci _ hw').2.1
theorem x_callS (C : hC z own cc) (hm : hM (zl z) (z0 z) (zD z) (zS z) y cy nL ret rm As G post) (f : hMs y cy nL ret n) (hl : Cond.methodLink own index y ∈ lw_g) (hn : As.length = n) (hst : st0 = As.reverse ++ rest) (hw : (rest.map fun v => v.category).sum ≤ 8)
    (hR : rm.frames + 1 ≤ (zR z).frames ∧ 8 + (nL + 11) + rm.locals ≤ (zR z).locals) (hf : cells + rm.cells ≤ (zR z).cells ∧ slots + rm.slots ≤ (zR z).slots) (d : decode cc pc = .ok (.invokestatic index, 3))
    (kk : ∀ (v : Option Value) (G' : hG), post v G' → hX z (cells + rm.cells) (slots + rm.slots) G' lv (pc + 3) (v.toList ++ rest)) : hX z cells slots G lv pc st0 := by
  intro H locs ls h1 h2 h3
  obtain ⟨⟨hc, hini, hd⟩, hs⟩ := f
  have ht := C.2.2.2.2.1
  exact hgo C h2 h3 (va_runS (Pc := hPc (z0 z) (zD z) (zS z) As G) ⟨C.1, C.2.1, C.2.2.1, C.2.2.2.1, ht⟩ hm ⟨callB_of n ht (lw_goodc hc) rfl rfl rfl (ht _ hini) (ht _ hl) hd hR, ht _ hs⟩ ⟨hPc.blind, hPc.there C h1 h2⟩ rfl hn h3.1 hst (lv_room hw) d hf) kk
theorem x_callSN (C : hC z own cc) {host : String} (hm : hM (zl z) (z0 z) (zD z) (zS z) y cy nL ret rm As G post) (f : hMs y cy nL ret n) (hl : Cond.methodLinkNest own index y host ∈ lw_n) (hn : As.length = n) (hst : st0 = As.reverse ++ rest) (hw : (rest.map fun v => v.category).sum ≤ 8)
    (hR : rm.frames + 1 ≤ (zR z).frames ∧ 8 + (nL + 11) + rm.locals ≤ (zR z).locals) (hf : cells + rm.cells ≤ (zR z).cells ∧ slots + rm.slots ≤ (zR z).slots) (d : decode cc pc = .ok (.invokestatic index, 3))
    (kk : ∀ (v : Option Value) (G' : hG), post v G' → hX z (cells + rm.cells) (slots + rm.slots) G' lv (pc + 3) (v.toList ++ rest)) : hX z cells slots G lv pc st0 := by
  intro H locs ls h1 h2 h3
  obtain ⟨⟨hc, hini, hd⟩, hs⟩ := f
  have ht := C.2.2.2.2.1
  exact hgo C h2 h3 (va_runSN (Pc := hPc (z0 z) (zD z) (zS z) As G) ⟨C.1, C.2.1, C.2.2.1, C.2.2.2.1, ht⟩ hm ⟨va_cnB n ht (lw_goodc hc) rfl rfl rfl (C.2.2.2.2.2.1.2.2.1 _ hl) (ht _ hini) hd hR, ht _ hs, trivial⟩ ⟨hPc.blind, hPc.there C h1 h2⟩ rfl hn h3.1 hst (lv_room hw) d hf) kk
theorem x_callI (C : hC z own cc) {b : Nat} (hm : hM (zl z) (z0 z) (zD z) (zS z) y cy nL none rm (.ref b :: As) G post) (f : hMi y cy nL n) (hl : Cond.methodLink own index y ∈ lw_g) (hn : As.length = n) (hst : st0 = As.reverse ++ .ref b :: rest) (hw : (rest.map fun v => v.category).sum ≤ 8)
    (hR : rm.frames + 1 ≤ (zR z).frames ∧ 8 + (nL + 11) + rm.locals ≤ (zR z).locals) (hf : cells + rm.cells ≤ (zR z).cells ∧ slots + rm.slots ≤ (zR z).slots) (d : decode cc pc = .ok (.invokespecial index, 3))
    (kk : ∀ (v : Option Value) (G' : hG), post v G' → hX z (cells + rm.cells) (slots + rm.slots) G' lv (pc + 3) (v.toList ++ rest)) : hX z cells slots G lv pc st0 := by
  intro H locs ls h1 h2 h3
  obtain ⟨⟨hc, hini, hd⟩, hy, hin⟩ := f
  have ht := C.2.2.2.2.1
  exact hgo C h2 h3 (va_runI (Pc := hPc (z0 z) (zD z) (zS z) (.ref b :: As) G) ⟨C.1, C.2.1, C.2.2.1, C.2.2.2.1, ht⟩ hm ⟨callB_of n ht (lw_goodc hc) rfl rfl rfl (ht _ hini) (ht _ hl) hd hR, hy, ht _ hin⟩ ⟨hPc.blind, hPc.there C h1 h2⟩ rfl hn h3.1 hst (lv_room hw) d hf) kk
theorem x_callIN (C : hC z own cc) {b : Nat} {host : String} (hm : hM (zl z) (z0 z) (zD z) (zS z) y cy nL none rm (.ref b :: As) G post) (f : hMi y cy nL n) (hl : Cond.methodLinkNest own index y host ∈ lw_n) (hn : As.length = n) (hst : st0 = As.reverse ++ .ref b :: rest) (hw : (rest.map fun v => v.category).sum ≤ 8)
    (hR : rm.frames + 1 ≤ (zR z).frames ∧ 8 + (nL + 11) + rm.locals ≤ (zR z).locals) (hf : cells + rm.cells ≤ (zR z).cells ∧ slots + rm.slots ≤ (zR z).slots) (d : decode cc pc = .ok (.invokespecial index, 3))
    (kk : ∀ (v : Option Value) (G' : hG), post v G' → hX z (cells + rm.cells) (slots + rm.slots) G' lv (pc + 3) (v.toList ++ rest)) : hX z cells slots G lv pc st0 := by
  intro H locs ls h1 h2 h3
  obtain ⟨⟨hc, hini, hd⟩, hy, hin⟩ := f
  have ht := C.2.2.2.2.1
  exact hgo C h2 h3 (va_runIN (Pc := hPc (z0 z) (zD z) (zS z) (.ref b :: As) G) ⟨C.1, C.2.1, C.2.2.1, C.2.2.2.1, ht⟩ hm ⟨va_cnB n ht (lw_goodc hc) rfl rfl rfl (C.2.2.2.2.2.1.2.2.1 _ hl) (ht _ hini) hd hR, hy, ht _ hin⟩ ⟨hPc.blind, hPc.there C h1 h2⟩ rfl hn h3.1 hst (lv_room hw) d hf) kk
theorem x_objInit (C : hC z own cc) {index a : Nat} (hl : Cond.methodLink own index Lib.objectInit ∈ lw_g) (hi : Cond.instanceMethod Lib.objectInit ∈ lw_g) (hc : Cond.code Lib.objectInit ⟨#[0xb1]⟩ 1 none ∈ lw_g) (hR : 1 ≤ (zR z).frames ∧ (rest.map fun v => v.category).sum + 12 ≤ (zR z).locals) (d : decode cc pc = .ok (.invokespecial index, 3)) (kk : hX z cells slots G lv (pc + 3) rest) : hX z cells slots G lv pc (.ref a :: rest) := by
  intro H locs ls h1 h2 h3
  have ht := C.2.2.2.2.1
  exact W.objInit C.1 C.2.1 C.2.2.2.1 (ht _ hl) (ht _ hi) (ht _ hc) rfl (by rw [C.2.2.1]; exact h3.1) rfl d hR.1 (by show 2 * 0 + _ + 12 ≤ _; omega) (kk H locs ls h1 h2 h3)
theorem x_gets (C : hC z own cc) {index k : Nat} {q : String × String} (hq : hSt[k]? = some q) (hl : Cond.fieldLink own index q.1 q.2 "[I" ∈ lw_g) (d : decode cc pc = .ok (.getstatic index, 3)) (kk : hX z cells slots G lv (pc + 3) (.ref (zS z k) :: rest)) : hX z cells slots G lv pc rest := by
  intro H locs ls h1 h2 h3
  exact va_gets C.1 C.2.1 (C.2.2.2.2.2.1.2.1 k q hq) h2 C.2.2.2.1 (C.2.2.2.2.1 _ hl) (fun _ h => h) d (kk H locs ls h1 h2 h3)
end HXK
end
section
/-! ===== the printed words, by their places (written by links.py) ===== -/
theorem lw_in1 {w : Cond} {i : Nat} (h0 : tables_1_1[i]? = some w) (hg : goodWord w = true) : w ∈ lw_g := by
  have h := List.mem_of_getElem? h0
  exact List.mem_filter.mpr ⟨List.mem_append_right _ (show w ∈ tables_1 from List.mem_append_left _ (h)), hg⟩
theorem lw_in2 {w : Cond} {i : Nat} (h0 : tables_1_2[i]? = some w) (hg : goodWord w = true) : w ∈ lw_g := by
  have h := List.mem_of_getElem? h0
  exact List.mem_filter.mpr ⟨List.mem_append_right _ (show w ∈ tables_1 from List.mem_append_right _ (List.mem_append_left _ (h))), hg⟩
theorem lw_in3 {w : Cond} {i : Nat} (h0 : tables_1_3[i]? = some w) (hg : goodWord w = true) : w ∈ lw_g := by
  have h := List.mem_of_getElem? h0
  exact List.mem_filter.mpr ⟨List.mem_append_right _ (show w ∈ tables_1 from List.mem_append_right _ (List.mem_append_right _ (List.mem_append_left _ (h)))), hg⟩
theorem lw_in4 {w : Cond} {i : Nat} (h0 : tables_1_4[i]? = some w) (hg : goodWord w = true) : w ∈ lw_g := by
  have h := List.mem_of_getElem? h0
  exact List.mem_filter.mpr ⟨List.mem_append_right _ (show w ∈ tables_1 from List.mem_append_right _ (List.mem_append_right _ (List.mem_append_right _ (List.mem_append_left _ (h))))), hg⟩
theorem lw_in5 {w : Cond} {i : Nat} (h0 : tables_1_5[i]? = some w) (hg : goodWord w = true) : w ∈ lw_g := by
  have h := List.mem_of_getElem? h0
  exact List.mem_filter.mpr ⟨List.mem_append_right _ (show w ∈ tables_1 from List.mem_append_right _ (List.mem_append_right _ (List.mem_append_right _ (List.mem_append_right _ (List.mem_append_left _ (h)))))), hg⟩
theorem lw_in6 {w : Cond} {i : Nat} (h0 : tables_1_6[i]? = some w) (hg : goodWord w = true) : w ∈ lw_g := by
  have h := List.mem_of_getElem? h0
  exact List.mem_filter.mpr ⟨List.mem_append_right _ (show w ∈ tables_1 from List.mem_append_right _ (List.mem_append_right _ (List.mem_append_right _ (List.mem_append_right _ (List.mem_append_right _ (h)))))), hg⟩
theorem hc_X0 : hCl 0 (RX0, TX0, 5) := ⟨rfl, by decide +kernel, tyX0_ok, nmX0⟩
theorem hc_X1 : hCl 1 (RX1, TX1, 10) := ⟨rfl, by decide +kernel, tyX1_ok, nmX1⟩
theorem hc_X2 : hCl 2 (RX2, TX2, 4) := ⟨rfl, by decide +kernel, tyX2_ok, nmX2⟩
theorem hc_X3 : hCl 3 (RX3, TX3, 6) := ⟨rfl, by decide +kernel, tyX3_ok, nmX3⟩
theorem hc_X4 : hCl 4 (RX4, TX4, 2) := ⟨rfl, by decide +kernel, tyX4_ok, nmX4⟩
theorem hc_X5 : hCl 5 (RX5, TX5, 4) := ⟨rfl, by decide +kernel, tyX5_ok, nmX5⟩
theorem hc_X6 : hCl 6 (RX6, TX6, 9) := ⟨rfl, by decide +kernel, tyX6_ok, nmX6⟩
theorem hc_X7 : hCl 7 (RX7, TX7, 14) := ⟨rfl, by decide +kernel, tyX7_ok, nmX7⟩
theorem hc_X8 : hCl 8 (RX8, TX8, 5) := ⟨rfl, by decide +kernel, tyX8_ok, nmX8⟩
theorem hc_X9 : hCl 9 (RX9, TX9, 8) := ⟨rfl, by decide +kernel, tyX9_ok, nmX9⟩
theorem hc_X10 : hCl 10 (RX10, TX10, 9) := ⟨rfl, by decide +kernel, tyX10_ok, nmX10⟩
theorem hc_X11 : hCl 11 (RX11, TX11, 63) := ⟨rfl, by decide +kernel, tyX11_ok, nmX11⟩
theorem ini_L : Cond.initialized RL ∈ lw_g := lw_in1 (i := 0) (by decide +kernel) (by decide +kernel)
theorem ini_X10 : Cond.initialized RX10 ∈ lw_g := lw_in1 (i := 1) (by decide +kernel) (by decide +kernel)
theorem ini_X4 : Cond.initialized RX4 ∈ lw_g := lw_in1 (i := 2) (by decide +kernel) (by decide +kernel)
theorem ini_X9 : Cond.initialized RX9 ∈ lw_g := lw_in1 (i := 3) (by decide +kernel) (by decide +kernel)
theorem ini_X5 : Cond.initialized RX5 ∈ lw_g := lw_in1 (i := 4) (by decide +kernel) (by decide +kernel)
theorem ini_X2 : Cond.initialized RX2 ∈ lw_g := lw_in1 (i := 5) (by decide +kernel) (by decide +kernel)
theorem ini_X1 : Cond.initialized RX1 ∈ lw_g := lw_in1 (i := 6) (by decide +kernel) (by decide +kernel)
theorem ini_X0 : Cond.initialized RX0 ∈ lw_g := lw_in1 (i := 7) (by decide +kernel) (by decide +kernel)
theorem ini_X8 : Cond.initialized RX8 ∈ lw_g := lw_in1 (i := 8) (by decide +kernel) (by decide +kernel)
theorem ini_X7 : Cond.initialized RX7 ∈ lw_g := lw_in1 (i := 9) (by decide +kernel) (by decide +kernel)
theorem ini_X11 : Cond.initialized RX11 ∈ lw_g := lw_in1 (i := 10) (by decide +kernel) (by decide +kernel)
theorem ini_X3 : Cond.initialized RX3 ∈ lw_g := lw_in1 (i := 11) (by decide +kernel) (by decide +kernel)
theorem ini_J9 : Cond.initialized RJ9 ∈ lw_g := lw_in1 (i := 12) (by decide +kernel) (by decide +kernel)
theorem ini_X6 : Cond.initialized RX6 ∈ lw_g := lw_in1 (i := 13) (by decide +kernel) (by decide +kernel)
theorem ini_J10 : Cond.initialized RJ10 ∈ lw_g := lw_in1 (i := 14) (by decide +kernel) (by decide +kernel)
theorem ini_J0 : Cond.initialized RJ0 ∈ lw_g := lw_in1 (i := 15) (by decide +kernel) (by decide +kernel)
theorem ini_J1 : Cond.initialized RJ1 ∈ lw_g := lw_in1 (i := 16) (by decide +kernel) (by decide +kernel)
theorem ini_J3 : Cond.initialized RJ3 ∈ lw_g := lw_in1 (i := 17) (by decide +kernel) (by decide +kernel)
theorem ini_J2 : Cond.initialized RJ2 ∈ lw_g := lw_in1 (i := 18) (by decide +kernel) (by decide +kernel)
theorem cl_L_7 : Cond.classLink RL 7 "StepShake" ∈ lw_g := lw_in1 (i := 19) (by decide +kernel) (by decide +kernel)
theorem it_X10 : Cond.instantiable RX10 9 ∈ lw_g := lw_in1 (i := 20) (by decide +kernel) (by decide +kernel)
theorem ml_L_9 : Cond.methodLink RL 9 yX10_init ∈ lw_g := lw_in1 (i := 21) (by decide +kernel) (by decide +kernel)
theorem ml_X10_3 : Cond.methodLink RX10 3 ⟨"java/lang/Object", "<init>", "()V"⟩ ∈ lw_g := lw_in1 (i := 24) (by decide +kernel) (by decide +kernel)
theorem cl_X10_9 : Cond.classLink RX10 9 "StepShake$Pattern" ∈ lw_g := lw_in1 (i := 27) (by decide +kernel) (by decide +kernel)
theorem cl_X10_15 : Cond.classLink RX10 15 "StepShake$Side" ∈ lw_g := lw_in1 (i := 29) (by decide +kernel) (by decide +kernel)
theorem cl_X10_21 : Cond.classLink RX10 21 "StepShake$Row" ∈ lw_g := lw_in1 (i := 31) (by decide +kernel) (by decide +kernel)
theorem it_X4 : Cond.instantiable RX4 2 ∈ lw_g := lw_in1 (i := 32) (by decide +kernel) (by decide +kernel)
theorem ml_X10_23 : Cond.methodLink RX10 23 yX4_init ∈ lw_g := lw_in1 (i := 33) (by decide +kernel) (by decide +kernel)
theorem ml_X4_3 : Cond.methodLink RX4 3 ⟨"java/lang/Object", "<init>", "()V"⟩ ∈ lw_g := lw_in1 (i := 36) (by decide +kernel) (by decide +kernel)
theorem fl_X4_15 : hFl RX4 15 4 0 true := ⟨_, hc_X4, by decide, lw_in1 (i := 37) (by decide +kernel) (by decide +kernel), rfl, rfl⟩
theorem fl_X0_35 : hFl RX0 35 4 0 true := ⟨_, hc_X4, by decide, lw_in1 (i := 38) (by decide +kernel) (by decide +kernel), rfl, rfl⟩
theorem fl_X9_185 : hFl RX9 185 4 0 true := ⟨_, hc_X4, by decide, lw_in1 (i := 39) (by decide +kernel) (by decide +kernel), rfl, rfl⟩
theorem fl_X10_142 : hFl RX10 142 4 0 true := ⟨_, hc_X4, by decide, lw_in1 (i := 40) (by decide +kernel) (by decide +kernel), rfl, rfl⟩
theorem fl_X4_9 : hFl RX4 9 4 1 false := ⟨_, hc_X4, by decide, lw_in1 (i := 41) (by decide +kernel) (by decide +kernel), rfl, rfl⟩
theorem fl_X0_40 : hFl RX0 40 4 1 false := ⟨_, hc_X4, by decide, lw_in1 (i := 42) (by decide +kernel) (by decide +kernel), rfl, rfl⟩
theorem fl_X9_162 : hFl RX9 162 4 1 false := ⟨_, hc_X4, by decide, lw_in1 (i := 43) (by decide +kernel) (by decide +kernel), rfl, rfl⟩
theorem fl_X10_110 : hFl RX10 110 4 1 false := ⟨_, hc_X4, by decide, lw_in1 (i := 44) (by decide +kernel) (by decide +kernel), rfl, rfl⟩
theorem ac_int : Cond.arrayClass .int ∈ lw_g := lw_in1 (i := 50) (by decide +kernel) (by decide +kernel)
theorem cl_X10_36 : Cond.classLink RX10 36 "StepShake$Talk" ∈ lw_g := lw_in1 (i := 51) (by decide +kernel) (by decide +kernel)
theorem it_X9 : Cond.instantiable RX9 8 ∈ lw_g := lw_in1 (i := 52) (by decide +kernel) (by decide +kernel)
theorem ml_X10_38 : Cond.methodLinkNest RX10 38 yX9_init "StepShake" ∈ lw_n := lw_memn (i := 53) (by decide +kernel) (by decide +kernel)
theorem ml_X9_3 : Cond.methodLink RX9 3 ⟨"java/lang/Object", "<init>", "()V"⟩ ∈ lw_g := lw_in1 (i := 56) (by decide +kernel) (by decide +kernel)
theorem cl_X9_9 : Cond.classLink RX9 9 "StepShake$Sha" ∈ lw_g := lw_in1 (i := 57) (by decide +kernel) (by decide +kernel)
theorem it_X5 : Cond.instantiable RX5 4 ∈ lw_g := lw_in1 (i := 58) (by decide +kernel) (by decide +kernel)
theorem ml_X9_11 : Cond.methodLinkNest RX9 11 yX5_init "StepShake" ∈ lw_n := lw_memn (i := 59) (by decide +kernel) (by decide +kernel)
theorem ml_X5_3 : Cond.methodLink RX5 3 ⟨"java/lang/Object", "<init>", "()V"⟩ ∈ lw_g := lw_in1 (i := 62) (by decide +kernel) (by decide +kernel)
theorem fl_X5_9 : hFl RX5 9 5 0 true := ⟨_, hc_X5, by decide, lw_in1 (i := 63) (by decide +kernel) (by decide +kernel), rfl, rfl⟩
theorem fl_X5_15 : hFl RX5 15 5 1 true := ⟨_, hc_X5, by decide, lw_in1 (i := 64) (by decide +kernel) (by decide +kernel), rfl, rfl⟩
theorem fl_X5_18 : hFl RX5 18 5 2 false := ⟨_, hc_X5, by decide, lw_in1 (i := 65) (by decide +kernel) (by decide +kernel), rfl, rfl⟩
theorem fl_X5_22 : hFl RX5 22 5 3 false := ⟨_, hc_X5, by decide, lw_in1 (i := 66) (by decide +kernel) (by decide +kernel), rfl, rfl⟩
theorem cl_X9_18 : Cond.classLink RX9 18 "StepShake$Mac" ∈ lw_g := lw_in1 (i := 76) (by decide +kernel) (by decide +kernel)
theorem it_X2 : Cond.instantiable RX2 4 ∈ lw_g := lw_in1 (i := 77) (by decide +kernel) (by decide +kernel)
theorem ml_X9_20 : Cond.methodLinkNest RX9 20 yX2_init "StepShake" ∈ lw_n := lw_memn (i := 78) (by decide +kernel) (by decide +kernel)
theorem ml_X2_3 : Cond.methodLink RX2 3 ⟨"java/lang/Object", "<init>", "()V"⟩ ∈ lw_g := lw_in1 (i := 81) (by decide +kernel) (by decide +kernel)
theorem cl_X2_9 : Cond.classLink RX2 9 "StepShake$Sha" ∈ lw_g := lw_in1 (i := 82) (by decide +kernel) (by decide +kernel)
theorem ml_X2_11 : Cond.methodLinkNest RX2 11 yX5_init "StepShake" ∈ lw_n := lw_memn (i := 83) (by decide +kernel) (by decide +kernel)
theorem fl_X2_12 : hFl RX2 12 2 0 true := ⟨_, hc_X2, by decide, lw_in1 (i := 84) (by decide +kernel) (by decide +kernel), rfl, rfl⟩
theorem fl_X2_18 : hFl RX2 18 2 1 true := ⟨_, hc_X2, by decide, lw_in1 (i := 85) (by decide +kernel) (by decide +kernel), rfl, rfl⟩
theorem fl_X2_22 : hFl RX2 22 2 2 true := ⟨_, hc_X2, by decide, lw_in1 (i := 86) (by decide +kernel) (by decide +kernel), rfl, rfl⟩
theorem fl_X2_25 : hFl RX2 25 2 3 true := ⟨_, hc_X2, by decide, lw_in1 (i := 87) (by decide +kernel) (by decide +kernel), rfl, rfl⟩
theorem cl_X9_25 : Cond.classLink RX9 25 "StepShake$Curve" ∈ lw_g := lw_in1 (i := 97) (by decide +kernel) (by decide +kernel)
theorem it_X1 : Cond.instantiable RX1 10 ∈ lw_g := lw_in1 (i := 98) (by decide +kernel) (by decide +kernel)
theorem ml_X9_27 : Cond.methodLinkNest RX9 27 yX1_init "StepShake" ∈ lw_n := lw_memn (i := 99) (by decide +kernel) (by decide +kernel)
theorem ml_X1_3 : Cond.methodLink RX1 3 ⟨"java/lang/Object", "<init>", "()V"⟩ ∈ lw_g := lw_in1 (i := 102) (by decide +kernel) (by decide +kernel)
theorem fl_X1_9 : hFl RX1 9 1 0 true := ⟨_, hc_X1, by decide, lw_in1 (i := 103) (by decide +kernel) (by decide +kernel), rfl, rfl⟩
theorem fl_X1_15 : hFl RX1 15 1 1 true := ⟨_, hc_X1, by decide, lw_in1 (i := 104) (by decide +kernel) (by decide +kernel), rfl, rfl⟩
theorem fl_X1_19 : hFl RX1 19 1 2 false := ⟨_, hc_X1, by decide, lw_in1 (i := 105) (by decide +kernel) (by decide +kernel), rfl, rfl⟩
theorem fl_X1_22 : hFl RX1 22 1 3 false := ⟨_, hc_X1, by decide, lw_in1 (i := 106) (by decide +kernel) (by decide +kernel), rfl, rfl⟩
theorem fl_X1_25 : hFl RX1 25 1 4 false := ⟨_, hc_X1, by decide, lw_in1 (i := 107) (by decide +kernel) (by decide +kernel), rfl, rfl⟩
theorem fl_X1_28 : hFl RX1 28 1 5 false := ⟨_, hc_X1, by decide, lw_in1 (i := 108) (by decide +kernel) (by decide +kernel), rfl, rfl⟩
theorem fl_X1_31 : hFl RX1 31 1 6 true := ⟨_, hc_X1, by decide, lw_in1 (i := 109) (by decide +kernel) (by decide +kernel), rfl, rfl⟩
theorem fl_X1_34 : hFl RX1 34 1 7 true := ⟨_, hc_X1, by decide, lw_in1 (i := 110) (by decide +kernel) (by decide +kernel), rfl, rfl⟩
theorem fl_X1_37 : hFl RX1 37 1 8 true := ⟨_, hc_X1, by decide, lw_in1 (i := 111) (by decide +kernel) (by decide +kernel), rfl, rfl⟩
theorem fl_X1_40 : hFl RX1 40 1 9 true := ⟨_, hc_X1, by decide, lw_in1 (i := 112) (by decide +kernel) (by decide +kernel), rfl, rfl⟩
theorem ac_long : Cond.arrayClass .long ∈ lw_g := lw_in1 (i := 134) (by decide +kernel) (by decide +kernel)
theorem cl_X9_32 : Cond.classLink RX9 32 "StepShake$Cipher" ∈ lw_g := lw_in1 (i := 135) (by decide +kernel) (by decide +kernel)
theorem it_X0 : Cond.instantiable RX0 5 ∈ lw_g := lw_in1 (i := 136) (by decide +kernel) (by decide +kernel)
theorem ml_X9_34 : Cond.methodLinkNest RX9 34 yX0_init "StepShake" ∈ lw_n := lw_memn (i := 137) (by decide +kernel) (by decide +kernel)
theorem ml_X0_3 : Cond.methodLink RX0 3 ⟨"java/lang/Object", "<init>", "()V"⟩ ∈ lw_g := lw_in1 (i := 140) (by decide +kernel) (by decide +kernel)
theorem cl_X0_24 : Cond.classLink RX0 24 "StepShake$Tagger" ∈ lw_g := lw_in1 (i := 141) (by decide +kernel) (by decide +kernel)
theorem it_X8 : Cond.instantiable RX8 5 ∈ lw_g := lw_in1 (i := 142) (by decide +kernel) (by decide +kernel)
theorem ml_X0_26 : Cond.methodLinkNest RX0 26 yX8_init "StepShake" ∈ lw_n := lw_memn (i := 143) (by decide +kernel) (by decide +kernel)
theorem ml_X8_5 : Cond.methodLink RX8 5 ⟨"java/lang/Object", "<init>", "()V"⟩ ∈ lw_g := lw_in1 (i := 146) (by decide +kernel) (by decide +kernel)
theorem fl_X8_11 : hFl RX8 11 8 0 true := ⟨_, hc_X8, by decide, lw_in1 (i := 147) (by decide +kernel) (by decide +kernel), rfl, rfl⟩
theorem fl_X8_15 : hFl RX8 15 8 1 true := ⟨_, hc_X8, by decide, lw_in1 (i := 148) (by decide +kernel) (by decide +kernel), rfl, rfl⟩
theorem fl_X8_18 : hFl RX8 18 8 2 true := ⟨_, hc_X8, by decide, lw_in1 (i := 149) (by decide +kernel) (by decide +kernel), rfl, rfl⟩
theorem fl_X8_21 : hFl RX8 21 8 3 true := ⟨_, hc_X8, by decide, lw_in1 (i := 150) (by decide +kernel) (by decide +kernel), rfl, rfl⟩
theorem fl_X8_25 : hFl RX8 25 8 4 true := ⟨_, hc_X8, by decide, lw_in1 (i := 151) (by decide +kernel) (by decide +kernel), rfl, rfl⟩
theorem fl_X0_9 : hFl RX0 9 0 0 true := ⟨_, hc_X0, by decide, lw_in1 (i := 163) (by decide +kernel) (by decide +kernel), rfl, rfl⟩
theorem fl_X0_15 : hFl RX0 15 0 1 true := ⟨_, hc_X0, by decide, lw_in1 (i := 164) (by decide +kernel) (by decide +kernel), rfl, rfl⟩
theorem fl_X0_18 : hFl RX0 18 0 2 true := ⟨_, hc_X0, by decide, lw_in1 (i := 165) (by decide +kernel) (by decide +kernel), rfl, rfl⟩
theorem fl_X0_21 : hFl RX0 21 0 3 true := ⟨_, hc_X0, by decide, lw_in1 (i := 166) (by decide +kernel) (by decide +kernel), rfl, rfl⟩
theorem fl_X0_27 : hFl RX0 27 0 4 true := ⟨_, hc_X0, by decide, lw_in1 (i := 167) (by decide +kernel) (by decide +kernel), rfl, rfl⟩
theorem cl_X9_39 : Cond.classLink RX9 39 "StepShake$State" ∈ lw_g := lw_in1 (i := 179) (by decide +kernel) (by decide +kernel)
theorem it_X7 : Cond.instantiable RX7 14 ∈ lw_g := lw_in1 (i := 180) (by decide +kernel) (by decide +kernel)
theorem ml_X9_41 : Cond.methodLinkNest RX9 41 yX7_init "StepShake" ∈ lw_n := lw_memn (i := 181) (by decide +kernel) (by decide +kernel)
theorem ml_X7_3 : Cond.methodLink RX7 3 ⟨"java/lang/Object", "<init>", "()V"⟩ ∈ lw_g := lw_in1 (i := 184) (by decide +kernel) (by decide +kernel)
theorem fl_X7_9 : hFl RX7 9 7 0 true := ⟨_, hc_X7, by decide, lw_in1 (i := 185) (by decide +kernel) (by decide +kernel), rfl, rfl⟩
theorem fl_X9_119 : hFl RX9 119 7 0 true := ⟨_, hc_X7, by decide, lw_in1 (i := 186) (by decide +kernel) (by decide +kernel), rfl, rfl⟩
theorem fl_X7_15 : hFl RX7 15 7 1 true := ⟨_, hc_X7, by decide, lw_in1 (i := 187) (by decide +kernel) (by decide +kernel), rfl, rfl⟩
theorem fl_X9_104 : hFl RX9 104 7 1 true := ⟨_, hc_X7, by decide, lw_in1 (i := 188) (by decide +kernel) (by decide +kernel), rfl, rfl⟩
theorem fl_X10_148 : hFl RX10 148 7 1 true := ⟨_, hc_X7, by decide, lw_in1 (i := 189) (by decide +kernel) (by decide +kernel), rfl, rfl⟩
theorem fl_X7_18 : hFl RX7 18 7 2 true := ⟨_, hc_X7, by decide, lw_in1 (i := 190) (by decide +kernel) (by decide +kernel), rfl, rfl⟩
theorem fl_X9_208 : hFl RX9 208 7 2 true := ⟨_, hc_X7, by decide, lw_in1 (i := 191) (by decide +kernel) (by decide +kernel), rfl, rfl⟩
theorem fl_X7_21 : hFl RX7 21 7 3 true := ⟨_, hc_X7, by decide, lw_in1 (i := 192) (by decide +kernel) (by decide +kernel), rfl, rfl⟩
theorem fl_X9_217 : hFl RX9 217 7 3 true := ⟨_, hc_X7, by decide, lw_in1 (i := 193) (by decide +kernel) (by decide +kernel), rfl, rfl⟩
theorem fl_X7_24 : hFl RX7 24 7 4 true := ⟨_, hc_X7, by decide, lw_in1 (i := 194) (by decide +kernel) (by decide +kernel), rfl, rfl⟩
theorem fl_X9_232 : hFl RX9 232 7 4 true := ⟨_, hc_X7, by decide, lw_in1 (i := 195) (by decide +kernel) (by decide +kernel), rfl, rfl⟩
theorem fl_X7_27 : hFl RX7 27 7 5 true := ⟨_, hc_X7, by decide, lw_in1 (i := 196) (by decide +kernel) (by decide +kernel), rfl, rfl⟩
theorem fl_X9_235 : hFl RX9 235 7 5 true := ⟨_, hc_X7, by decide, lw_in1 (i := 197) (by decide +kernel) (by decide +kernel), rfl, rfl⟩
theorem fl_X7_30 : hFl RX7 30 7 6 true := ⟨_, hc_X7, by decide, lw_in1 (i := 198) (by decide +kernel) (by decide +kernel), rfl, rfl⟩
theorem fl_X9_126 : hFl RX9 126 7 6 true := ⟨_, hc_X7, by decide, lw_in1 (i := 199) (by decide +kernel) (by decide +kernel), rfl, rfl⟩
theorem fl_X7_33 : hFl RX7 33 7 7 false := ⟨_, hc_X7, by decide, lw_in1 (i := 200) (by decide +kernel) (by decide +kernel), rfl, rfl⟩
theorem fl_X6_52 : hFl RX6 52 7 7 false := ⟨_, hc_X7, by decide, lw_in1 (i := 201) (by decide +kernel) (by decide +kernel), rfl, rfl⟩
theorem fl_X9_135 : hFl RX9 135 7 7 false := ⟨_, hc_X7, by decide, lw_in1 (i := 202) (by decide +kernel) (by decide +kernel), rfl, rfl⟩
theorem fl_X7_37 : hFl RX7 37 7 8 false := ⟨_, hc_X7, by decide, lw_in1 (i := 203) (by decide +kernel) (by decide +kernel), rfl, rfl⟩
theorem fl_X9_132 : hFl RX9 132 7 8 false := ⟨_, hc_X7, by decide, lw_in1 (i := 204) (by decide +kernel) (by decide +kernel), rfl, rfl⟩
theorem fl_X6_70 : hFl RX6 70 7 8 false := ⟨_, hc_X7, by decide, lw_in1 (i := 205) (by decide +kernel) (by decide +kernel), rfl, rfl⟩
theorem fl_X7_40 : hFl RX7 40 7 9 false := ⟨_, hc_X7, by decide, lw_in1 (i := 206) (by decide +kernel) (by decide +kernel), rfl, rfl⟩
theorem fl_X9_129 : hFl RX9 129 7 9 false := ⟨_, hc_X7, by decide, lw_in1 (i := 207) (by decide +kernel) (by decide +kernel), rfl, rfl⟩
theorem fl_X6_73 : hFl RX6 73 7 9 false := ⟨_, hc_X7, by decide, lw_in1 (i := 208) (by decide +kernel) (by decide +kernel), rfl, rfl⟩
theorem fl_X7_43 : hFl RX7 43 7 10 false := ⟨_, hc_X7, by decide, lw_in1 (i := 209) (by decide +kernel) (by decide +kernel), rfl, rfl⟩
theorem fl_X9_138 : hFl RX9 138 7 10 false := ⟨_, hc_X7, by decide, lw_in1 (i := 210) (by decide +kernel) (by decide +kernel), rfl, rfl⟩
theorem fl_X6_67 : hFl RX6 67 7 10 false := ⟨_, hc_X7, by decide, lw_in1 (i := 211) (by decide +kernel) (by decide +kernel), rfl, rfl⟩
theorem fl_X7_47 : hFl RX7 47 7 11 false := ⟨_, hc_X7, by decide, lw_in1 (i := 212) (by decide +kernel) (by decide +kernel), rfl, rfl⟩
theorem fl_X9_220 : hFl RX9 220 7 11 false := ⟨_, hc_X7, by decide, lw_in1 (i := 213) (by decide +kernel) (by decide +kernel), rfl, rfl⟩
theorem fl_X7_50 : hFl RX7 50 7 12 false := ⟨_, hc_X7, by decide, lw_in1 (i := 214) (by decide +kernel) (by decide +kernel), rfl, rfl⟩
theorem fl_X6_76 : hFl RX6 76 7 12 false := ⟨_, hc_X7, by decide, lw_in1 (i := 215) (by decide +kernel) (by decide +kernel), rfl, rfl⟩
theorem fl_X9_226 : hFl RX9 226 7 12 false := ⟨_, hc_X7, by decide, lw_in1 (i := 216) (by decide +kernel) (by decide +kernel), rfl, rfl⟩
theorem fl_X7_53 : hFl RX7 53 7 13 false := ⟨_, hc_X7, by decide, lw_in1 (i := 217) (by decide +kernel) (by decide +kernel), rfl, rfl⟩
theorem fl_X6_46 : hFl RX6 46 7 13 false := ⟨_, hc_X7, by decide, lw_in1 (i := 218) (by decide +kernel) (by decide +kernel), rfl, rfl⟩
theorem fl_X9_142 : hFl RX9 142 7 13 false := ⟨_, hc_X7, by decide, lw_in1 (i := 219) (by decide +kernel) (by decide +kernel), rfl, rfl⟩
theorem fl_X10_105 : hFl RX10 105 7 13 false := ⟨_, hc_X7, by decide, lw_in1 (i := 220) (by decide +kernel) (by decide +kernel), rfl, rfl⟩
theorem cl_X9_53 : Cond.classLink RX9 53 "StepShake$Row" ∈ lw_g := lw_in2 (i := 10) (by decide +kernel) (by decide +kernel)
theorem ml_X9_55 : Cond.methodLink RX9 55 yX4_init ∈ lw_g := lw_in2 (i := 11) (by decide +kernel) (by decide +kernel)
theorem fl_X9_12 : hFl RX9 12 9 0 true := ⟨_, hc_X9, by decide, lw_in2 (i := 12) (by decide +kernel) (by decide +kernel), rfl, rfl⟩
theorem fl_X9_21 : hFl RX9 21 9 1 true := ⟨_, hc_X9, by decide, lw_in2 (i := 13) (by decide +kernel) (by decide +kernel), rfl, rfl⟩
theorem fl_X9_28 : hFl RX9 28 9 2 true := ⟨_, hc_X9, by decide, lw_in2 (i := 14) (by decide +kernel) (by decide +kernel), rfl, rfl⟩
theorem fl_X9_35 : hFl RX9 35 9 3 true := ⟨_, hc_X9, by decide, lw_in2 (i := 15) (by decide +kernel) (by decide +kernel), rfl, rfl⟩
theorem fl_X9_42 : hFl RX9 42 9 4 true := ⟨_, hc_X9, by decide, lw_in2 (i := 16) (by decide +kernel) (by decide +kernel), rfl, rfl⟩
theorem fl_X9_46 : hFl RX9 46 9 5 true := ⟨_, hc_X9, by decide, lw_in2 (i := 17) (by decide +kernel) (by decide +kernel), rfl, rfl⟩
theorem fl_X9_50 : hFl RX9 50 9 6 true := ⟨_, hc_X9, by decide, lw_in2 (i := 18) (by decide +kernel) (by decide +kernel), rfl, rfl⟩
theorem fl_X9_58 : hFl RX9 58 9 7 true := ⟨_, hc_X9, by decide, lw_in2 (i := 19) (by decide +kernel) (by decide +kernel), rfl, rfl⟩
theorem fl_X10_11 : hFl RX10 11 10 0 true := ⟨_, hc_X10, by decide, lw_in2 (i := 37) (by decide +kernel) (by decide +kernel), rfl, rfl⟩
theorem fl_X10_17 : hFl RX10 17 10 1 true := ⟨_, hc_X10, by decide, lw_in2 (i := 38) (by decide +kernel) (by decide +kernel), rfl, rfl⟩
theorem fl_X10_26 : hFl RX10 26 10 2 true := ⟨_, hc_X10, by decide, lw_in2 (i := 39) (by decide +kernel) (by decide +kernel), rfl, rfl⟩
theorem fl_X10_30 : hFl RX10 30 10 3 true := ⟨_, hc_X10, by decide, lw_in2 (i := 40) (by decide +kernel) (by decide +kernel), rfl, rfl⟩
theorem fl_X10_33 : hFl RX10 33 10 4 true := ⟨_, hc_X10, by decide, lw_in2 (i := 41) (by decide +kernel) (by decide +kernel), rfl, rfl⟩
theorem fl_X10_39 : hFl RX10 39 10 5 true := ⟨_, hc_X10, by decide, lw_in2 (i := 42) (by decide +kernel) (by decide +kernel), rfl, rfl⟩
theorem fl_X10_43 : hFl RX10 43 10 6 true := ⟨_, hc_X10, by decide, lw_in2 (i := 43) (by decide +kernel) (by decide +kernel), rfl, rfl⟩
theorem fl_X10_47 : hFl RX10 47 10 7 false := ⟨_, hc_X10, by decide, lw_in2 (i := 44) (by decide +kernel) (by decide +kernel), rfl, rfl⟩
theorem fl_X10_51 : hFl RX10 51 10 8 false := ⟨_, hc_X10, by decide, lw_in2 (i := 45) (by decide +kernel) (by decide +kernel), rfl, rfl⟩
theorem ml_L_13 : Cond.methodLink RL 13 yX10_pattern ∈ lw_g := lw_in2 (i := 65) (by decide +kernel) (by decide +kernel)
theorem it_X3 : Cond.instantiable RX3 6 ∈ lw_g := lw_in2 (i := 69) (by decide +kernel) (by decide +kernel)
theorem ml_X10_54 : Cond.methodLink RX10 54 yX3_init ∈ lw_g := lw_in2 (i := 70) (by decide +kernel) (by decide +kernel)
theorem ml_X3_3 : Cond.methodLink RX3 3 ⟨"java/lang/Object", "<init>", "()V"⟩ ∈ lw_g := lw_in2 (i := 73) (by decide +kernel) (by decide +kernel)
theorem cl_X3_11 : Cond.classLink RX3 11 "[[I" ∈ lw_g := lw_in2 (i := 74) (by decide +kernel) (by decide +kernel)
theorem fl_X3_28 : hFl RX3 28 3 0 true := ⟨_, hc_X3, by decide, lw_in2 (i := 76) (by decide +kernel) (by decide +kernel), rfl, rfl⟩
theorem fl_X3_31 : hFl RX3 31 3 1 true := ⟨_, hc_X3, by decide, lw_in2 (i := 77) (by decide +kernel) (by decide +kernel), rfl, rfl⟩
theorem fl_X3_13 : hFl RX3 13 3 2 true := ⟨_, hc_X3, by decide, lw_in2 (i := 78) (by decide +kernel) (by decide +kernel), rfl, rfl⟩
theorem fl_X3_16 : hFl RX3 16 3 3 true := ⟨_, hc_X3, by decide, lw_in2 (i := 79) (by decide +kernel) (by decide +kernel), rfl, rfl⟩
theorem fl_X3_20 : hFl RX3 20 3 4 false := ⟨_, hc_X3, by decide, lw_in2 (i := 80) (by decide +kernel) (by decide +kernel), rfl, rfl⟩
theorem fl_X6_49 : hFl RX6 49 3 4 false := ⟨_, hc_X3, by decide, lw_in2 (i := 81) (by decide +kernel) (by decide +kernel), rfl, rfl⟩
theorem fl_X9_251 : hFl RX9 251 3 4 false := ⟨_, hc_X3, by decide, lw_in2 (i := 82) (by decide +kernel) (by decide +kernel), rfl, rfl⟩
theorem fl_X3_24 : hFl RX3 24 3 5 false := ⟨_, hc_X3, by decide, lw_in2 (i := 83) (by decide +kernel) (by decide +kernel), rfl, rfl⟩
theorem fl_X10_61 : hFl RX10 61 3 5 false := ⟨_, hc_X3, by decide, lw_in2 (i := 84) (by decide +kernel) (by decide +kernel), rfl, rfl⟩
theorem ml_L_18 : Cond.methodLink RL 18 yX10_message ∈ lw_g := lw_in2 (i := 98) (by decide +kernel) (by decide +kernel)
theorem ml_X10_57 : Cond.methodLink RX10 57 yX10_patternAt ∈ lw_g := lw_in2 (i := 102) (by decide +kernel) (by decide +kernel)
theorem ml_X10_65 : Cond.methodLink RX10 65 yX3_addMessage ∈ lw_g := lw_in2 (i := 106) (by decide +kernel) (by decide +kernel)
theorem ml_L_23 : Cond.methodLink RL 23 yX10_token ∈ lw_g := lw_in2 (i := 110) (by decide +kernel) (by decide +kernel)
theorem ml_X10_69 : Cond.methodLink RX10 69 yX3_addToken ∈ lw_g := lw_in2 (i := 114) (by decide +kernel) (by decide +kernel)
theorem ml_L_28 : Cond.methodLink RL 28 yX10_fault ∈ lw_g := lw_in2 (i := 118) (by decide +kernel) (by decide +kernel)
theorem ml_X10_73 : Cond.methodLink RX10 73 yX3_findFault ∈ lw_g := lw_in2 (i := 122) (by decide +kernel) (by decide +kernel)
theorem ml_X3_42 : Cond.methodLink RX3 42 yX3_hasEmptyMessage ∈ lw_g := lw_in2 (i := 126) (by decide +kernel) (by decide +kernel)
theorem ml_X3_46 : Cond.methodLink RX3 46 yX3_faultAt ∈ lw_g := lw_in2 (i := 130) (by decide +kernel) (by decide +kernel)
theorem ml_X3_55 : Cond.methodLink RX3 55 yX3_keyBit ∈ lw_g := lw_in2 (i := 133) (by decide +kernel) (by decide +kernel)
theorem sl_X3_62 : Cond.fieldLink RX3 62 "StepShake$Pattern" "NEEDS" "[I" ∈ lw_g := lw_in2 (i := 136) (by decide +kernel) (by decide +kernel)
theorem ml_X3_65 : Cond.methodLink RX3 65 yX3_did ∈ lw_g := lw_in2 (i := 138) (by decide +kernel) (by decide +kernel)
theorem ml_X3_50 : Cond.methodLink RX3 50 yJ9_min_7cf53 ∈ lw_g := lw_in2 (i := 141) (by decide +kernel) (by decide +kernel)
theorem ml_X3_58 : Cond.methodLink RX3 58 yX3_sealsTooSoon ∈ lw_g := lw_in2 (i := 144) (by decide +kernel) (by decide +kernel)
theorem ml_L_32 : Cond.methodLink RL 32 yX10_told ∈ lw_g := lw_in2 (i := 147) (by decide +kernel) (by decide +kernel)
theorem ml_X10_76 : Cond.methodLink RX10 76 yX3_tell ∈ lw_g := lw_in2 (i := 151) (by decide +kernel) (by decide +kernel)
theorem ml_X3_34 : Cond.methodLink RX3 34 yX3_sizeOf ∈ lw_g := lw_in2 (i := 155) (by decide +kernel) (by decide +kernel)
theorem ml_X3_38 : Cond.methodLink RX3 38 yX3_tokenAt ∈ lw_g := lw_in2 (i := 159) (by decide +kernel) (by decide +kernel)
theorem ml_L_36 : Cond.methodLink RL 36 yX10_side ∈ lw_g := lw_in2 (i := 163) (by decide +kernel) (by decide +kernel)
theorem ml_X10_79 : Cond.methodLink RX10 79 yX3_isKnownAhead ∈ lw_g := lw_in2 (i := 167) (by decide +kernel) (by decide +kernel)
theorem ml_X10_83 : Cond.methodLink RX10 83 yX3_sendsS ∈ lw_g := lw_in2 (i := 171) (by decide +kernel) (by decide +kernel)
theorem it_X6 : Cond.instantiable RX6 9 ∈ lw_g := lw_in2 (i := 175) (by decide +kernel) (by decide +kernel)
theorem ml_X10_86 : Cond.methodLink RX10 86 yX6_init ∈ lw_g := lw_in2 (i := 176) (by decide +kernel) (by decide +kernel)
theorem ml_X6_3 : Cond.methodLink RX6 3 ⟨"java/lang/Object", "<init>", "()V"⟩ ∈ lw_g := lw_in2 (i := 179) (by decide +kernel) (by decide +kernel)
theorem cl_X6_25 : Cond.classLink RX6 25 "StepShake$State" ∈ lw_g := lw_in2 (i := 180) (by decide +kernel) (by decide +kernel)
theorem ml_X6_27 : Cond.methodLinkNest RX6 27 yX7_init "StepShake" ∈ lw_n := lw_memn (i := 421) (by decide +kernel) (by decide +kernel)
theorem fl_X6_32 : hFl RX6 32 6 0 true := ⟨_, hc_X6, by decide, lw_in2 (i := 182) (by decide +kernel) (by decide +kernel), rfl, rfl⟩
theorem fl_X9_145 : hFl RX9 145 6 0 true := ⟨_, hc_X6, by decide, lw_in2 (i := 183) (by decide +kernel) (by decide +kernel), rfl, rfl⟩
theorem fl_X6_36 : hFl RX6 36 6 1 true := ⟨_, hc_X6, by decide, lw_in2 (i := 184) (by decide +kernel) (by decide +kernel), rfl, rfl⟩
theorem fl_X6_40 : hFl RX6 40 6 2 true := ⟨_, hc_X6, by decide, lw_in2 (i := 185) (by decide +kernel) (by decide +kernel), rfl, rfl⟩
theorem fl_X9_155 : hFl RX9 155 6 2 true := ⟨_, hc_X6, by decide, lw_in2 (i := 186) (by decide +kernel) (by decide +kernel), rfl, rfl⟩
theorem fl_X10_152 : hFl RX10 152 6 2 true := ⟨_, hc_X6, by decide, lw_in2 (i := 187) (by decide +kernel) (by decide +kernel), rfl, rfl⟩
theorem fl_X6_43 : hFl RX6 43 6 3 true := ⟨_, hc_X6, by decide, lw_in2 (i := 188) (by decide +kernel) (by decide +kernel), rfl, rfl⟩
theorem fl_X9_229 : hFl RX9 229 6 3 true := ⟨_, hc_X6, by decide, lw_in2 (i := 189) (by decide +kernel) (by decide +kernel), rfl, rfl⟩
theorem fl_X6_9 : hFl RX6 9 6 4 true := ⟨_, hc_X6, by decide, lw_in2 (i := 190) (by decide +kernel) (by decide +kernel), rfl, rfl⟩
theorem fl_X9_83 : hFl RX9 83 6 4 true := ⟨_, hc_X6, by decide, lw_in2 (i := 191) (by decide +kernel) (by decide +kernel), rfl, rfl⟩
theorem fl_X6_15 : hFl RX6 15 6 5 true := ⟨_, hc_X6, by decide, lw_in2 (i := 192) (by decide +kernel) (by decide +kernel), rfl, rfl⟩
theorem fl_X9_88 : hFl RX9 88 6 5 true := ⟨_, hc_X6, by decide, lw_in2 (i := 193) (by decide +kernel) (by decide +kernel), rfl, rfl⟩
theorem fl_X6_18 : hFl RX6 18 6 6 true := ⟨_, hc_X6, by decide, lw_in2 (i := 194) (by decide +kernel) (by decide +kernel), rfl, rfl⟩
theorem fl_X9_91 : hFl RX9 91 6 6 true := ⟨_, hc_X6, by decide, lw_in2 (i := 195) (by decide +kernel) (by decide +kernel), rfl, rfl⟩
theorem fl_X6_21 : hFl RX6 21 6 7 false := ⟨_, hc_X6, by decide, lw_in2 (i := 196) (by decide +kernel) (by decide +kernel), rfl, rfl⟩
theorem fl_X9_97 : hFl RX9 97 6 7 false := ⟨_, hc_X6, by decide, lw_in2 (i := 197) (by decide +kernel) (by decide +kernel), rfl, rfl⟩
theorem fl_X6_28 : hFl RX6 28 6 8 true := ⟨_, hc_X6, by decide, lw_in2 (i := 198) (by decide +kernel) (by decide +kernel), rfl, rfl⟩
theorem fl_X9_101 : hFl RX9 101 6 8 true := ⟨_, hc_X6, by decide, lw_in2 (i := 199) (by decide +kernel) (by decide +kernel), rfl, rfl⟩
theorem fl_X10_101 : hFl RX10 101 6 8 true := ⟨_, hc_X6, by decide, lw_in2 (i := 200) (by decide +kernel) (by decide +kernel), rfl, rfl⟩
theorem ml_X10_89 : Cond.methodLink RX10 89 yX9_giveKeys ∈ lw_g := lw_in2 (i := 220) (by decide +kernel) (by decide +kernel)
theorem ml_X9_72 : Cond.methodLink RX9 72 yX9_secretOf ∈ lw_g := lw_in2 (i := 224) (by decide +kernel) (by decide +kernel)
theorem ml_X9_62 : Cond.methodLink RX9 62 yX5_begin ∈ lw_g := lw_in2 (i := 228) (by decide +kernel) (by decide +kernel)
theorem sl_X5_25 : Cond.fieldLink RX5 25 "StepShake$Sha" "FIRST" "[I" ∈ lw_g := lw_in2 (i := 232) (by decide +kernel) (by decide +kernel)
theorem ml_X5_28 : Cond.methodLink RX5 28 ⟨"java/lang/System", "arraycopy", "(Ljava/lang/Object;ILjava/lang/Object;II)V"⟩ ∈ lw_g := lw_in2 (i := 234) (by decide +kernel) (by decide +kernel)
theorem nat_copy : Cond.native arraycopyName ∈ lw_g := lw_in2 (i := 236) (by decide +kernel) (by decide +kernel)
theorem ml_X9_65 : Cond.methodLink RX9 65 yX5_addNumber ∈ lw_g := lw_in2 (i := 237) (by decide +kernel) (by decide +kernel)
theorem ml_X5_34 : Cond.methodLink RX5 34 yX5_addByte ∈ lw_g := lw_in3 (i := 1) (by decide +kernel) (by decide +kernel)
theorem ml_X5_38 : Cond.methodLink RX5 38 yX5_addBlock ∈ lw_g := lw_in3 (i := 5) (by decide +kernel) (by decide +kernel)
theorem sl_X5_41 : Cond.fieldLink RX5 41 "StepShake$Sha" "ROUND" "[I" ∈ lw_g := lw_in3 (i := 9) (by decide +kernel) (by decide +kernel)
theorem ml_X9_68 : Cond.methodLink RX9 68 yX5_finish ∈ lw_g := lw_in3 (i := 11) (by decide +kernel) (by decide +kernel)
theorem sl_X9_76 : Cond.fieldLink RX9 76 "StepShake$Curve" "BASE" "[I" ∈ lw_g := lw_in3 (i := 15) (by decide +kernel) (by decide +kernel)
theorem ml_X9_79 : Cond.methodLink RX9 79 yX1_multiplyPoint ∈ lw_g := lw_in3 (i := 17) (by decide +kernel) (by decide +kernel)
theorem ml_X1_43 : Cond.methodLinkNest RX1 43 yX10_copyKey "StepShake" ∈ lw_n := lw_memn (i := 501) (by decide +kernel) (by decide +kernel)
theorem ml_X10_178 : Cond.methodLink RX10 178 ⟨"java/lang/System", "arraycopy", "(Ljava/lang/Object;ILjava/lang/Object;II)V"⟩ ∈ lw_g := lw_in3 (i := 24) (by decide +kernel) (by decide +kernel)
theorem ml_X1_47 : Cond.methodLink RX1 47 yX1_unpack ∈ lw_g := lw_in3 (i := 25) (by decide +kernel) (by decide +kernel)
theorem ml_X1_98 : Cond.methodLink RX1 98 yX1_width ∈ lw_g := lw_in3 (i := 28) (by decide +kernel) (by decide +kernel)
theorem ml_X1_102 : Cond.methodLinkNest RX1 102 yX10_bitsOf "StepShake" ∈ lw_n := lw_memn (i := 511) (by decide +kernel) (by decide +kernel)
theorem ml_X1_51 : Cond.methodLink RX1 51 yX1_setSmall ∈ lw_g := lw_in3 (i := 34) (by decide +kernel) (by decide +kernel)
theorem ml_X1_55 : Cond.methodLink RX1 55 ⟨"java/lang/System", "arraycopy", "(Ljava/lang/Object;ILjava/lang/Object;II)V"⟩ ∈ lw_g := lw_in3 (i := 37) (by decide +kernel) (by decide +kernel)
theorem ml_X1_61 : Cond.methodLink RX1 61 yX1_swap ∈ lw_g := lw_in3 (i := 38) (by decide +kernel) (by decide +kernel)
theorem ml_X1_64 : Cond.methodLink RX1 64 yX1_step ∈ lw_g := lw_in3 (i := 42) (by decide +kernel) (by decide +kernel)
theorem ml_X1_79 : Cond.methodLink RX1 79 yX1_add ∈ lw_g := lw_in3 (i := 46) (by decide +kernel) (by decide +kernel)
theorem ml_X1_82 : Cond.methodLink RX1 82 yX1_subtract ∈ lw_g := lw_in3 (i := 49) (by decide +kernel) (by decide +kernel)
theorem ml_X1_71 : Cond.methodLink RX1 71 yX1_multiply ∈ lw_g := lw_in3 (i := 52) (by decide +kernel) (by decide +kernel)
theorem kc_X1_94 : Cond.constantLong RX1 94 2 ∈ lw_g := lw_in3 (i := 55) (by decide +kernel) (by decide +kernel)
theorem kc_X1_96 : Cond.constantLong RX1 96 19 ∈ lw_g := lw_in3 (i := 56) (by decide +kernel) (by decide +kernel)
theorem ml_X1_90 : Cond.methodLink RX1 90 yX1_carry ∈ lw_g := lw_in3 (i := 57) (by decide +kernel) (by decide +kernel)
theorem ml_X1_85 : Cond.methodLink RX1 85 yX1_scale ∈ lw_g := lw_in3 (i := 60) (by decide +kernel) (by decide +kernel)
theorem kc_X1_88 : Cond.constantLong RX1 88 121665 ∈ lw_g := lw_in3 (i := 63) (by decide +kernel) (by decide +kernel)
theorem ml_X1_67 : Cond.methodLink RX1 67 yX1_invert ∈ lw_g := lw_in3 (i := 64) (by decide +kernel) (by decide +kernel)
theorem ml_X1_75 : Cond.methodLink RX1 75 yX1_pack ∈ lw_g := lw_in3 (i := 67) (by decide +kernel) (by decide +kernel)
theorem ml_X9_94 : Cond.methodLink RX9 94 yX9_publicOf ∈ lw_g := lw_in3 (i := 70) (by decide +kernel) (by decide +kernel)
theorem ml_X10_93 : Cond.methodLink RX10 93 yX9_begin ∈ lw_g := lw_in3 (i := 74) (by decide +kernel) (by decide +kernel)
theorem ml_X9_109 : Cond.methodLink RX9 109 yJ0_length_8abf5 ∈ lw_g := lw_in3 (i := 79) (by decide +kernel) (by decide +kernel)
theorem ml_J0_335 : Cond.methodLink RJ0 335 yJ0_coder_7d493 ∈ lw_g := lw_in3 (i := 83) (by decide +kernel) (by decide +kernel)
theorem sl_J0_38 : Cond.fieldLink RJ0 38 "java/lang/String" "COMPACT_STRINGS" "Z" ∈ lw_g := lw_in3 (i := 87) (by decide +kernel) (by decide +kernel)
theorem ml_X9_115 : Cond.methodLink RX9 115 yJ0_charAt_5068e ∈ lw_g := lw_in3 (i := 89) (by decide +kernel) (by decide +kernel)
theorem ml_J0_492 : Cond.methodLink RJ0 492 yJ0_isLatin1_aae02 ∈ lw_g := lw_in3 (i := 93) (by decide +kernel) (by decide +kernel)
theorem ml_J0_495 : Cond.methodLink RJ0 495 yJ1_charAt_3b067 ∈ lw_g := lw_in3 (i := 97) (by decide +kernel) (by decide +kernel)
theorem ml_J1_9 : Cond.methodLink RJ1 9 yJ0_checkIndex_df160 ∈ lw_g := lw_in3 (i := 100) (by decide +kernel) (by decide +kernel)
theorem sl_J0_1053 : Cond.fieldLink RJ0 1053 "jdk/internal/util/Preconditions" "SIOOBE_FORMATTER" "Ljava/util/function/BiFunction;" ∈ lw_g := lw_in3 (i := 103) (by decide +kernel) (by decide +kernel)
theorem ml_J0_1059 : Cond.methodLink RJ0 1059 yJ3_checkIndex_8e157 ∈ lw_g := lw_in3 (i := 105) (by decide +kernel) (by decide +kernel)
theorem ml_J0_498 : Cond.methodLink RJ0 498 yJ2_charAt_3b067 ∈ lw_g := lw_in3 (i := 108) (by decide +kernel) (by decide +kernel)
theorem ml_J2_67 : Cond.methodLink RJ2 67 yJ2_checkIndex_2214a ∈ lw_g := lw_in3 (i := 111) (by decide +kernel) (by decide +kernel)
theorem ml_J2_48 : Cond.methodLink RJ2 48 yJ2_length_9d52b ∈ lw_g := lw_in3 (i := 114) (by decide +kernel) (by decide +kernel)
theorem ml_J2_414 : Cond.methodLink RJ2 414 yJ0_checkIndex_df160 ∈ lw_g := lw_in3 (i := 117) (by decide +kernel) (by decide +kernel)
theorem ml_J2_71 : Cond.methodLink RJ2 71 yJ2_getChar_3b067 ∈ lw_g := lw_in3 (i := 118) (by decide +kernel) (by decide +kernel)
theorem sl_J2_44 : Cond.fieldLink RJ2 44 "java/lang/StringUTF16" "$assertionsDisabled" "Z" ∈ lw_g := lw_in3 (i := 121) (by decide +kernel) (by decide +kernel)
theorem sl_J2_59 : Cond.fieldLink RJ2 59 "java/lang/StringUTF16" "HI_BYTE_SHIFT" "I" ∈ lw_g := lw_in3 (i := 123) (by decide +kernel) (by decide +kernel)
theorem sl_J2_63 : Cond.fieldLink RJ2 63 "java/lang/StringUTF16" "LO_BYTE_SHIFT" "I" ∈ lw_g := lw_in3 (i := 125) (by decide +kernel) (by decide +kernel)
theorem ml_X9_122 : Cond.methodLinkNest RX9 122 yX10_copyKey "StepShake" ∈ lw_n := lw_memn (i := 607) (by decide +kernel) (by decide +kernel)
theorem ml_X9_149 : Cond.methodLink RX9 149 yX3_isKnownAhead ∈ lw_g := lw_in3 (i := 128) (by decide +kernel) (by decide +kernel)
theorem ml_X9_158 : Cond.methodLink RX9 158 yX9_mixHash ∈ lw_g := lw_in3 (i := 129) (by decide +kernel) (by decide +kernel)
theorem ml_X9_244 : Cond.methodLink RX9 244 yX5_add ∈ lw_g := lw_in3 (i := 133) (by decide +kernel) (by decide +kernel)
theorem ac_byte : Cond.arrayClass .byte ∈ lw_g := lw_in3 (i := 137) (by decide +kernel) (by decide +kernel)
theorem ml_L_41 : Cond.methodLink RL 41 yX10_again ∈ lw_g := lw_in3 (i := 138) (by decide +kernel) (by decide +kernel)
theorem ml_X10_97 : Cond.methodLink RX10 97 yX10_sideAt ∈ lw_g := lw_in3 (i := 142) (by decide +kernel) (by decide +kernel)
theorem ml_L_47 : Cond.methodLink RL 47 yX10_feed ∈ lw_g := lw_in3 (i := 146) (by decide +kernel) (by decide +kernel)
theorem ml_X10_113 : Cond.methodLink RX10 113 yX4_put ∈ lw_g := lw_in3 (i := 150) (by decide +kernel) (by decide +kernel)
theorem ml_L_52 : Cond.methodLink RL 52 yX10_write ∈ lw_g := lw_in3 (i := 154) (by decide +kernel) (by decide +kernel)
theorem ml_X10_116 : Cond.methodLink RX10 116 yX6_isDone ∈ lw_g := lw_in3 (i := 158) (by decide +kernel) (by decide +kernel)
theorem ml_X10_120 : Cond.methodLink RX10 120 yX9_sendDone ∈ lw_g := lw_in3 (i := 162) (by decide +kernel) (by decide +kernel)
theorem ml_X9_204 : Cond.methodLink RX9 204 yX4_putAll ∈ lw_g := lw_in3 (i := 166) (by decide +kernel) (by decide +kernel)
theorem ml_X4_19 : Cond.methodLink RX4 19 yX4_put ∈ lw_g := lw_in3 (i := 170) (by decide +kernel) (by decide +kernel)
theorem sl_X9_211 : Cond.fieldLinkNest RX9 211 "StepShake" "NOTHING" "[I" "StepShake" ∈ lw_n := lw_memn (i := 651) (by decide +kernel) (by decide +kernel)
theorem ml_X9_214 : Cond.methodLink RX9 214 yX0_seal ∈ lw_g := lw_in3 (i := 173) (by decide +kernel) (by decide +kernel)
theorem ml_X0_31 : Cond.methodLink RX0 31 yX0_prepare ∈ lw_g := lw_in3 (i := 177) (by decide +kernel) (by decide +kernel)
theorem kc_X0_59 : Cond.constant RX0 59 (nI 1634760805) ∈ lw_g := lw_in3 (i := 181) (by decide +kernel) (by decide +kernel)
theorem kc_X0_60 : Cond.constant RX0 60 (nI 857760878) ∈ lw_g := lw_in3 (i := 182) (by decide +kernel) (by decide +kernel)
theorem kc_X0_61 : Cond.constant RX0 61 (nI 2036477234) ∈ lw_g := lw_in3 (i := 183) (by decide +kernel) (by decide +kernel)
theorem kc_X0_62 : Cond.constant RX0 62 (nI 1797285236) ∈ lw_g := lw_in3 (i := 184) (by decide +kernel) (by decide +kernel)
theorem ml_X0_63 : Cond.methodLinkNest RX0 63 yX10_bitsOf "StepShake" ∈ lw_n := lw_memn (i := 665) (by decide +kernel) (by decide +kernel)
theorem ml_X0_44 : Cond.methodLink RX0 44 yX0_turn ∈ lw_g := lw_in3 (i := 186) (by decide +kernel) (by decide +kernel)
theorem ml_X0_67 : Cond.methodLink RX0 67 yX0_makeBlock ∈ lw_g := lw_in3 (i := 190) (by decide +kernel) (by decide +kernel)
theorem ml_X0_88 : Cond.methodLink RX0 88 ⟨"java/lang/System", "arraycopy", "(Ljava/lang/Object;ILjava/lang/Object;II)V"⟩ ∈ lw_g := lw_in3 (i := 194) (by decide +kernel) (by decide +kernel)
theorem ml_X0_94 : Cond.methodLink RX0 94 yX0_quarter ∈ lw_g := lw_in3 (i := 195) (by decide +kernel) (by decide +kernel)
theorem ml_X0_98 : Cond.methodLink RX0 98 yX0_mix ∈ lw_g := lw_in3 (i := 199) (by decide +kernel) (by decide +kernel)
theorem ml_X0_71 : Cond.methodLink RX0 71 yX0_blockByte ∈ lw_g := lw_in3 (i := 203) (by decide +kernel) (by decide +kernel)
theorem ml_X0_48 : Cond.methodLink RX0 48 yX0_makeTag ∈ lw_g := lw_in3 (i := 207) (by decide +kernel) (by decide +kernel)
theorem ml_X0_74 : Cond.methodLink RX0 74 yX8_begin ∈ lw_g := lw_in3 (i := 211) (by decide +kernel) (by decide +kernel)
theorem ml_X8_28 : Cond.methodLink RX8 28 yX8_clampOf ∈ lw_g := lw_in3 (i := 215) (by decide +kernel) (by decide +kernel)
theorem ml_X8_32 : Cond.methodLinkNest RX8 32 yX10_bitsOf "StepShake" ∈ lw_n := lw_memn (i := 698) (by decide +kernel) (by decide +kernel)
theorem ml_X0_78 : Cond.methodLink RX0 78 yX8_addPadded ∈ lw_g := lw_in3 (i := 219) (by decide +kernel) (by decide +kernel)
theorem ml_X8_36 : Cond.methodLink RX8 36 yX8_addBlock ∈ lw_g := lw_in3 (i := 223) (by decide +kernel) (by decide +kernel)
theorem kc_X8_39 : Cond.constantLong RX8 39 5 ∈ lw_g := lw_in3 (i := 227) (by decide +kernel) (by decide +kernel)
theorem kc_X8_41 : Cond.constantLong RX8 41 67108863 ∈ lw_g := lw_in3 (i := 228) (by decide +kernel) (by decide +kernel)
theorem ml_X0_81 : Cond.methodLink RX0 81 yX8_addSizes ∈ lw_g := lw_in3 (i := 229) (by decide +kernel) (by decide +kernel)
theorem ml_X0_85 : Cond.methodLink RX0 85 yX8_finish ∈ lw_g := lw_in3 (i := 233) (by decide +kernel) (by decide +kernel)
theorem ml_X0_52 : Cond.methodLink RX0 52 yX4_putAll ∈ lw_g := lw_in3 (i := 237) (by decide +kernel) (by decide +kernel)
theorem ml_X10_124 : Cond.methodLink RX10 124 yX6_isNext ∈ lw_g := lw_in3 (i := 238) (by decide +kernel) (by decide +kernel)
theorem ml_X10_127 : Cond.methodLink RX10 127 yX9_send ∈ lw_g := lw_in4 (i := 2) (by decide +kernel) (by decide +kernel)
theorem ml_X9_165 : Cond.methodLink RX9 165 yX3_sizeOf ∈ lw_g := lw_in4 (i := 6) (by decide +kernel) (by decide +kernel)
theorem ml_X9_169 : Cond.methodLink RX9 169 yX3_tokenAt ∈ lw_g := lw_in4 (i := 7) (by decide +kernel) (by decide +kernel)
theorem ml_X9_173 : Cond.methodLink RX9 173 yX9_sendE ∈ lw_g := lw_in4 (i := 8) (by decide +kernel) (by decide +kernel)
theorem ml_X9_177 : Cond.methodLink RX9 177 yX9_seal ∈ lw_g := lw_in4 (i := 12) (by decide +kernel) (by decide +kernel)
theorem ml_X9_181 : Cond.methodLink RX9 181 yX9_mixDh ∈ lw_g := lw_in4 (i := 16) (by decide +kernel) (by decide +kernel)
theorem ml_X9_247 : Cond.methodLink RX9 247 yX2_makeKeys ∈ lw_g := lw_in4 (i := 20) (by decide +kernel) (by decide +kernel)
theorem ml_X2_28 : Cond.methodLink RX2 28 yX2_makeMac ∈ lw_g := lw_in4 (i := 24) (by decide +kernel) (by decide +kernel)
theorem ml_X2_36 : Cond.methodLink RX2 36 yX2_beginWith ∈ lw_g := lw_in4 (i := 28) (by decide +kernel) (by decide +kernel)
theorem ml_X2_48 : Cond.methodLink RX2 48 yX5_begin ∈ lw_g := lw_in4 (i := 32) (by decide +kernel) (by decide +kernel)
theorem ml_X2_51 : Cond.methodLink RX2 51 yX5_addByte ∈ lw_g := lw_in4 (i := 33) (by decide +kernel) (by decide +kernel)
theorem ml_X2_40 : Cond.methodLink RX2 40 yX5_add ∈ lw_g := lw_in4 (i := 34) (by decide +kernel) (by decide +kernel)
theorem ml_X2_44 : Cond.methodLink RX2 44 yX5_finish ∈ lw_g := lw_in4 (i := 35) (by decide +kernel) (by decide +kernel)
theorem ml_X2_32 : Cond.methodLinkNest RX2 32 yX10_copyKey "StepShake" ∈ lw_n := lw_memn (i := 756) (by decide +kernel) (by decide +kernel)
theorem ml_X9_188 : Cond.methodLink RX9 188 yX9_endMessage ∈ lw_g := lw_in4 (i := 37) (by decide +kernel) (by decide +kernel)
theorem ml_L_56 : Cond.methodLink RL 56 yX10_read ∈ lw_g := lw_in4 (i := 41) (by decide +kernel) (by decide +kernel)
theorem ml_X10_131 : Cond.methodLink RX10 131 yX6_leastLetter ∈ lw_g := lw_in4 (i := 45) (by decide +kernel) (by decide +kernel)
theorem ml_X6_55 : Cond.methodLink RX6 55 yX3_sizeOf ∈ lw_g := lw_in4 (i := 49) (by decide +kernel) (by decide +kernel)
theorem ml_X6_59 : Cond.methodLink RX6 59 yX3_tokenAt ∈ lw_g := lw_in4 (i := 50) (by decide +kernel) (by decide +kernel)
theorem ml_X10_134 : Cond.methodLink RX10 134 yX9_takeDone ∈ lw_g := lw_in4 (i := 51) (by decide +kernel) (by decide +kernel)
theorem ml_X9_223 : Cond.methodLink RX9 223 yX0_open ∈ lw_g := lw_in4 (i := 55) (by decide +kernel) (by decide +kernel)
theorem ml_X0_55 : Cond.methodLink RX0 55 yX4_at ∈ lw_g := lw_in4 (i := 59) (by decide +kernel) (by decide +kernel)
theorem ml_X10_138 : Cond.methodLink RX10 138 yX9_take ∈ lw_g := lw_in4 (i := 63) (by decide +kernel) (by decide +kernel)
theorem ml_X9_192 : Cond.methodLink RX9 192 yX7_copyFrom ∈ lw_g := lw_in4 (i := 67) (by decide +kernel) (by decide +kernel)
theorem ml_X7_56 : Cond.methodLinkNest RX7 56 yX10_copyKey "StepShake" ∈ lw_n := lw_memn (i := 791) (by decide +kernel) (by decide +kernel)
theorem ml_X9_196 : Cond.methodLink RX9 196 yX9_takeE ∈ lw_g := lw_in4 (i := 72) (by decide +kernel) (by decide +kernel)
theorem ml_X9_238 : Cond.methodLink RX9 238 ⟨"java/lang/System", "arraycopy", "(Ljava/lang/Object;ILjava/lang/Object;II)V"⟩ ∈ lw_g := lw_in4 (i := 76) (by decide +kernel) (by decide +kernel)
theorem ml_X9_200 : Cond.methodLink RX9 200 yX9_open ∈ lw_g := lw_in4 (i := 77) (by decide +kernel) (by decide +kernel)
theorem ml_L_60 : Cond.methodLink RL 60 yX10_alter ∈ lw_g := lw_in4 (i := 81) (by decide +kernel) (by decide +kernel)
theorem ml_L_64 : Cond.methodLink RL 64 yX10_cut ∈ lw_g := lw_in4 (i := 85) (by decide +kernel) (by decide +kernel)
theorem ml_L_68 : Cond.methodLink RL 68 yX10_byteOf ∈ lw_g := lw_in4 (i := 89) (by decide +kernel) (by decide +kernel)
theorem ml_X10_145 : Cond.methodLink RX10 145 yX4_at ∈ lw_g := lw_in4 (i := 93) (by decide +kernel) (by decide +kernel)
theorem ml_L_72 : Cond.methodLink RL 72 yX10_hash ∈ lw_g := lw_in4 (i := 94) (by decide +kernel) (by decide +kernel)
theorem ml_L_76 : Cond.methodLink RL 76 yX10_about ∈ lw_g := lw_in4 (i := 98) (by decide +kernel) (by decide +kernel)
theorem ml_X10_151 : Cond.methodLink RX10 151 yX6_tell ∈ lw_g := lw_in4 (i := 102) (by decide +kernel) (by decide +kernel)
theorem ml_X6_63 : Cond.methodLink RX6 63 yX6_isDone ∈ lw_g := lw_in4 (i := 106) (by decide +kernel) (by decide +kernel)
theorem ml_L_80 : Cond.methodLink RL 80 yX10_same ∈ lw_g := lw_in4 (i := 107) (by decide +kernel) (by decide +kernel)
theorem ml_X10_155 : Cond.methodLink RX10 155 yX7_fits ∈ lw_g := lw_in4 (i := 111) (by decide +kernel) (by decide +kernel)
theorem ml_X7_60 : Cond.methodLink RX7 60 yX7_alike ∈ lw_g := lw_in4 (i := 115) (by decide +kernel) (by decide +kernel)
theorem ml_L_84 : Cond.methodLink RL 84 yX10_key ∈ lw_g := lw_in4 (i := 118) (by decide +kernel) (by decide +kernel)
theorem ml_X10_159 : Cond.methodLink RX10 159 yX9_publicOf ∈ lw_g := lw_in4 (i := 122) (by decide +kernel) (by decide +kernel)
theorem ml_L_89 : Cond.methodLink RL 89 yX10_count ∈ lw_g := lw_in4 (i := 123) (by decide +kernel) (by decide +kernel)
theorem ml_L_93 : Cond.methodLink RL 93 yX10_digest ∈ lw_g := lw_in4 (i := 127) (by decide +kernel) (by decide +kernel)
theorem kc_X10_163 : Cond.constantLong RX10 163 67 ∈ lw_g := lw_in4 (i := 131) (by decide +kernel) (by decide +kernel)
theorem kc_X10_165 : Cond.constantLong RX10 165 31 ∈ lw_g := lw_in4 (i := 132) (by decide +kernel) (by decide +kernel)
theorem ml_X10_167 : Cond.methodLink RX10 167 yX10_about ∈ lw_g := lw_in4 (i := 133) (by decide +kernel) (by decide +kernel)
theorem ml_X10_171 : Cond.methodLink RX10 171 yX10_hash ∈ lw_g := lw_in4 (i := 134) (by decide +kernel) (by decide +kernel)
theorem ml_X10_174 : Cond.methodLink RX10 174 yX4_addTo ∈ lw_g := lw_in4 (i := 135) (by decide +kernel) (by decide +kernel)
theorem kc_X4_23 : Cond.constantLong RX4 23 31 ∈ lw_g := lw_in4 (i := 139) (by decide +kernel) (by decide +kernel)
theorem cl_L_10 : Cond.classLink RL 10 "StepShakeModel" ∈ lw_g := lw_in4 (i := 140) (by decide +kernel) (by decide +kernel)
theorem it_X11 : Cond.instantiable RX11 63 ∈ lw_g := lw_in4 (i := 141) (by decide +kernel) (by decide +kernel)
theorem ml_L_12 : Cond.methodLink RL 12 yX11_init ∈ lw_g := lw_in4 (i := 142) (by decide +kernel) (by decide +kernel)
theorem ml_X11_1 : Cond.methodLink RX11 1 ⟨"java/lang/Object", "<init>", "()V"⟩ ∈ lw_g := lw_in4 (i := 145) (by decide +kernel) (by decide +kernel)
theorem kc_X11_19 : Cond.constant RX11 19 (nI 1779033703) ∈ lw_g := lw_in4 (i := 146) (by decide +kernel) (by decide +kernel)
theorem kc_X11_20 : Cond.constant RX11 20 (-1150833019) ∈ lw_g := lw_in4 (i := 147) (by decide +kernel) (by decide +kernel)
theorem kc_X11_21 : Cond.constant RX11 21 (nI 1013904242) ∈ lw_g := lw_in4 (i := 148) (by decide +kernel) (by decide +kernel)
theorem kc_X11_22 : Cond.constant RX11 22 (-1521486534) ∈ lw_g := lw_in4 (i := 149) (by decide +kernel) (by decide +kernel)
theorem kc_X11_23 : Cond.constant RX11 23 (nI 1359893119) ∈ lw_g := lw_in4 (i := 150) (by decide +kernel) (by decide +kernel)
theorem kc_X11_24 : Cond.constant RX11 24 (-1694144372) ∈ lw_g := lw_in4 (i := 151) (by decide +kernel) (by decide +kernel)
theorem kc_X11_25 : Cond.constant RX11 25 (nI 528734635) ∈ lw_g := lw_in4 (i := 152) (by decide +kernel) (by decide +kernel)
theorem kc_X11_26 : Cond.constant RX11 26 (nI 1541459225) ∈ lw_g := lw_in4 (i := 153) (by decide +kernel) (by decide +kernel)
theorem kc_X11_30 : Cond.constant RX11 30 (nI 1116352408) ∈ lw_g := lw_in4 (i := 154) (by decide +kernel) (by decide +kernel)
theorem kc_X11_31 : Cond.constant RX11 31 (nI 1899447441) ∈ lw_g := lw_in4 (i := 155) (by decide +kernel) (by decide +kernel)
theorem kc_X11_32 : Cond.constant RX11 32 (-1245643825) ∈ lw_g := lw_in4 (i := 156) (by decide +kernel) (by decide +kernel)
theorem kc_X11_33 : Cond.constant RX11 33 (-373957723) ∈ lw_g := lw_in4 (i := 157) (by decide +kernel) (by decide +kernel)
theorem kc_X11_34 : Cond.constant RX11 34 (nI 961987163) ∈ lw_g := lw_in4 (i := 158) (by decide +kernel) (by decide +kernel)
theorem kc_X11_35 : Cond.constant RX11 35 (nI 1508970993) ∈ lw_g := lw_in4 (i := 159) (by decide +kernel) (by decide +kernel)
theorem kc_X11_36 : Cond.constant RX11 36 (-1841331548) ∈ lw_g := lw_in4 (i := 160) (by decide +kernel) (by decide +kernel)
theorem kc_X11_37 : Cond.constant RX11 37 (-1424204075) ∈ lw_g := lw_in4 (i := 161) (by decide +kernel) (by decide +kernel)
theorem kc_X11_38 : Cond.constant RX11 38 (-670586216) ∈ lw_g := lw_in4 (i := 162) (by decide +kernel) (by decide +kernel)
theorem kc_X11_39 : Cond.constant RX11 39 (nI 310598401) ∈ lw_g := lw_in4 (i := 163) (by decide +kernel) (by decide +kernel)
theorem kc_X11_40 : Cond.constant RX11 40 (nI 607225278) ∈ lw_g := lw_in4 (i := 164) (by decide +kernel) (by decide +kernel)
theorem kc_X11_41 : Cond.constant RX11 41 (nI 1426881987) ∈ lw_g := lw_in4 (i := 165) (by decide +kernel) (by decide +kernel)
theorem kc_X11_42 : Cond.constant RX11 42 (nI 1925078388) ∈ lw_g := lw_in4 (i := 166) (by decide +kernel) (by decide +kernel)
theorem kc_X11_43 : Cond.constant RX11 43 (-2132889090) ∈ lw_g := lw_in4 (i := 167) (by decide +kernel) (by decide +kernel)
theorem kc_X11_44 : Cond.constant RX11 44 (-1680079193) ∈ lw_g := lw_in4 (i := 168) (by decide +kernel) (by decide +kernel)
theorem kc_X11_45 : Cond.constant RX11 45 (-1046744716) ∈ lw_g := lw_in4 (i := 169) (by decide +kernel) (by decide +kernel)
theorem kc_X11_46 : Cond.constant RX11 46 (-459576895) ∈ lw_g := lw_in4 (i := 170) (by decide +kernel) (by decide +kernel)
theorem kc_X11_47 : Cond.constant RX11 47 (-272742522) ∈ lw_g := lw_in4 (i := 171) (by decide +kernel) (by decide +kernel)
theorem kc_X11_48 : Cond.constant RX11 48 (nI 264347078) ∈ lw_g := lw_in4 (i := 172) (by decide +kernel) (by decide +kernel)
theorem kc_X11_49 : Cond.constant RX11 49 (nI 604807628) ∈ lw_g := lw_in4 (i := 173) (by decide +kernel) (by decide +kernel)
theorem kc_X11_50 : Cond.constant RX11 50 (nI 770255983) ∈ lw_g := lw_in4 (i := 174) (by decide +kernel) (by decide +kernel)
theorem kc_X11_51 : Cond.constant RX11 51 (nI 1249150122) ∈ lw_g := lw_in4 (i := 175) (by decide +kernel) (by decide +kernel)
theorem kc_X11_52 : Cond.constant RX11 52 (nI 1555081692) ∈ lw_g := lw_in4 (i := 176) (by decide +kernel) (by decide +kernel)
theorem kc_X11_53 : Cond.constant RX11 53 (nI 1996064986) ∈ lw_g := lw_in4 (i := 177) (by decide +kernel) (by decide +kernel)
theorem kc_X11_54 : Cond.constant RX11 54 (-1740746414) ∈ lw_g := lw_in4 (i := 178) (by decide +kernel) (by decide +kernel)
theorem kc_X11_55 : Cond.constant RX11 55 (-1473132947) ∈ lw_g := lw_in4 (i := 179) (by decide +kernel) (by decide +kernel)
theorem kc_X11_56 : Cond.constant RX11 56 (-1341970488) ∈ lw_g := lw_in4 (i := 180) (by decide +kernel) (by decide +kernel)
theorem kc_X11_57 : Cond.constant RX11 57 (-1084653625) ∈ lw_g := lw_in4 (i := 181) (by decide +kernel) (by decide +kernel)
theorem kc_X11_58 : Cond.constant RX11 58 (-958395405) ∈ lw_g := lw_in4 (i := 182) (by decide +kernel) (by decide +kernel)
theorem kc_X11_59 : Cond.constant RX11 59 (-710438585) ∈ lw_g := lw_in4 (i := 183) (by decide +kernel) (by decide +kernel)
theorem kc_X11_60 : Cond.constant RX11 60 (nI 113926993) ∈ lw_g := lw_in4 (i := 184) (by decide +kernel) (by decide +kernel)
theorem kc_X11_61 : Cond.constant RX11 61 (nI 338241895) ∈ lw_g := lw_in4 (i := 185) (by decide +kernel) (by decide +kernel)
theorem kc_X11_62 : Cond.constant RX11 62 (nI 666307205) ∈ lw_g := lw_in4 (i := 186) (by decide +kernel) (by decide +kernel)
theorem kc_X11_63 : Cond.constant RX11 63 (nI 773529912) ∈ lw_g := lw_in4 (i := 187) (by decide +kernel) (by decide +kernel)
theorem kc_X11_64 : Cond.constant RX11 64 (nI 1294757372) ∈ lw_g := lw_in4 (i := 188) (by decide +kernel) (by decide +kernel)
theorem kc_X11_65 : Cond.constant RX11 65 (nI 1396182291) ∈ lw_g := lw_in4 (i := 189) (by decide +kernel) (by decide +kernel)
theorem kc_X11_66 : Cond.constant RX11 66 (nI 1695183700) ∈ lw_g := lw_in4 (i := 190) (by decide +kernel) (by decide +kernel)
theorem kc_X11_67 : Cond.constant RX11 67 (nI 1986661051) ∈ lw_g := lw_in4 (i := 191) (by decide +kernel) (by decide +kernel)
theorem kc_X11_68 : Cond.constant RX11 68 (-2117940946) ∈ lw_g := lw_in4 (i := 192) (by decide +kernel) (by decide +kernel)
theorem kc_X11_69 : Cond.constant RX11 69 (-1838011259) ∈ lw_g := lw_in4 (i := 193) (by decide +kernel) (by decide +kernel)
theorem kc_X11_70 : Cond.constant RX11 70 (-1564481375) ∈ lw_g := lw_in4 (i := 194) (by decide +kernel) (by decide +kernel)
theorem kc_X11_71 : Cond.constant RX11 71 (-1474664885) ∈ lw_g := lw_in4 (i := 195) (by decide +kernel) (by decide +kernel)
theorem kc_X11_72 : Cond.constant RX11 72 (-1035236496) ∈ lw_g := lw_in4 (i := 196) (by decide +kernel) (by decide +kernel)
theorem kc_X11_73 : Cond.constant RX11 73 (-949202525) ∈ lw_g := lw_in4 (i := 197) (by decide +kernel) (by decide +kernel)
theorem kc_X11_74 : Cond.constant RX11 74 (-778901479) ∈ lw_g := lw_in4 (i := 198) (by decide +kernel) (by decide +kernel)
theorem kc_X11_75 : Cond.constant RX11 75 (-694614492) ∈ lw_g := lw_in4 (i := 199) (by decide +kernel) (by decide +kernel)
theorem kc_X11_76 : Cond.constant RX11 76 (-200395387) ∈ lw_g := lw_in4 (i := 200) (by decide +kernel) (by decide +kernel)
theorem kc_X11_77 : Cond.constant RX11 77 (nI 275423344) ∈ lw_g := lw_in4 (i := 201) (by decide +kernel) (by decide +kernel)
theorem kc_X11_78 : Cond.constant RX11 78 (nI 430227734) ∈ lw_g := lw_in4 (i := 202) (by decide +kernel) (by decide +kernel)
theorem kc_X11_79 : Cond.constant RX11 79 (nI 506948616) ∈ lw_g := lw_in4 (i := 203) (by decide +kernel) (by decide +kernel)
theorem kc_X11_80 : Cond.constant RX11 80 (nI 659060556) ∈ lw_g := lw_in4 (i := 204) (by decide +kernel) (by decide +kernel)
theorem kc_X11_81 : Cond.constant RX11 81 (nI 883997877) ∈ lw_g := lw_in4 (i := 205) (by decide +kernel) (by decide +kernel)
theorem kc_X11_82 : Cond.constant RX11 82 (nI 958139571) ∈ lw_g := lw_in4 (i := 206) (by decide +kernel) (by decide +kernel)
theorem kc_X11_83 : Cond.constant RX11 83 (nI 1322822218) ∈ lw_g := lw_in4 (i := 207) (by decide +kernel) (by decide +kernel)
theorem kc_X11_84 : Cond.constant RX11 84 (nI 1537002063) ∈ lw_g := lw_in4 (i := 208) (by decide +kernel) (by decide +kernel)
theorem kc_X11_85 : Cond.constant RX11 85 (nI 1747873779) ∈ lw_g := lw_in4 (i := 209) (by decide +kernel) (by decide +kernel)
theorem kc_X11_86 : Cond.constant RX11 86 (nI 1955562222) ∈ lw_g := lw_in4 (i := 210) (by decide +kernel) (by decide +kernel)
theorem kc_X11_87 : Cond.constant RX11 87 (nI 2024104815) ∈ lw_g := lw_in4 (i := 211) (by decide +kernel) (by decide +kernel)
theorem kc_X11_88 : Cond.constant RX11 88 (-2067236844) ∈ lw_g := lw_in4 (i := 212) (by decide +kernel) (by decide +kernel)
theorem kc_X11_89 : Cond.constant RX11 89 (-1933114872) ∈ lw_g := lw_in4 (i := 213) (by decide +kernel) (by decide +kernel)
theorem kc_X11_90 : Cond.constant RX11 90 (-1866530822) ∈ lw_g := lw_in4 (i := 214) (by decide +kernel) (by decide +kernel)
theorem kc_X11_91 : Cond.constant RX11 91 (-1538233109) ∈ lw_g := lw_in4 (i := 215) (by decide +kernel) (by decide +kernel)
theorem kc_X11_92 : Cond.constant RX11 92 (-1090935817) ∈ lw_g := lw_in4 (i := 216) (by decide +kernel) (by decide +kernel)
theorem kc_X11_93 : Cond.constant RX11 93 (-965641998) ∈ lw_g := lw_in4 (i := 217) (by decide +kernel) (by decide +kernel)
theorem fl_X11_7 : hFl RX11 7 11 0 true := ⟨_, hc_X11, by decide, lw_in4 (i := 218) (by decide +kernel) (by decide +kernel), rfl, rfl⟩
theorem fl_X11_255 : hFl RX11 255 11 1 false := ⟨_, hc_X11, by decide, lw_in4 (i := 219) (by decide +kernel) (by decide +kernel), rfl, rfl⟩
theorem fl_X11_13 : hFl RX11 13 11 2 true := ⟨_, hc_X11, by decide, lw_in4 (i := 220) (by decide +kernel) (by decide +kernel), rfl, rfl⟩
theorem fl_X11_16 : hFl RX11 16 11 3 true := ⟨_, hc_X11, by decide, lw_in4 (i := 221) (by decide +kernel) (by decide +kernel), rfl, rfl⟩
theorem fl_X11_27 : hFl RX11 27 11 4 true := ⟨_, hc_X11, by decide, lw_in4 (i := 222) (by decide +kernel) (by decide +kernel), rfl, rfl⟩
theorem fl_X11_94 : hFl RX11 94 11 5 true := ⟨_, hc_X11, by decide, lw_in4 (i := 223) (by decide +kernel) (by decide +kernel), rfl, rfl⟩
theorem fl_X11_97 : hFl RX11 97 11 6 true := ⟨_, hc_X11, by decide, lw_in4 (i := 224) (by decide +kernel) (by decide +kernel), rfl, rfl⟩
theorem fl_X11_100 : hFl RX11 100 11 7 true := ⟨_, hc_X11, by decide, lw_in4 (i := 225) (by decide +kernel) (by decide +kernel), rfl, rfl⟩
theorem fl_X11_103 : hFl RX11 103 11 8 true := ⟨_, hc_X11, by decide, lw_in4 (i := 226) (by decide +kernel) (by decide +kernel), rfl, rfl⟩
theorem fl_X11_106 : hFl RX11 106 11 9 true := ⟨_, hc_X11, by decide, lw_in4 (i := 227) (by decide +kernel) (by decide +kernel), rfl, rfl⟩
theorem fl_X11_109 : hFl RX11 109 11 10 true := ⟨_, hc_X11, by decide, lw_in4 (i := 228) (by decide +kernel) (by decide +kernel), rfl, rfl⟩
theorem fl_X11_113 : hFl RX11 113 11 11 true := ⟨_, hc_X11, by decide, lw_in4 (i := 229) (by decide +kernel) (by decide +kernel), rfl, rfl⟩
theorem fl_X11_116 : hFl RX11 116 11 12 true := ⟨_, hc_X11, by decide, lw_in4 (i := 230) (by decide +kernel) (by decide +kernel), rfl, rfl⟩
theorem fl_X11_119 : hFl RX11 119 11 13 true := ⟨_, hc_X11, by decide, lw_in4 (i := 231) (by decide +kernel) (by decide +kernel), rfl, rfl⟩
theorem fl_X11_122 : hFl RX11 122 11 14 true := ⟨_, hc_X11, by decide, lw_in4 (i := 232) (by decide +kernel) (by decide +kernel), rfl, rfl⟩
theorem fl_X11_125 : hFl RX11 125 11 15 true := ⟨_, hc_X11, by decide, lw_in4 (i := 233) (by decide +kernel) (by decide +kernel), rfl, rfl⟩
theorem fl_X11_128 : hFl RX11 128 11 16 true := ⟨_, hc_X11, by decide, lw_in4 (i := 234) (by decide +kernel) (by decide +kernel), rfl, rfl⟩
theorem fl_X11_131 : hFl RX11 131 11 17 true := ⟨_, hc_X11, by decide, lw_in4 (i := 235) (by decide +kernel) (by decide +kernel), rfl, rfl⟩
theorem fl_X11_134 : hFl RX11 134 11 18 true := ⟨_, hc_X11, by decide, lw_in4 (i := 236) (by decide +kernel) (by decide +kernel), rfl, rfl⟩
theorem fl_X11_137 : hFl RX11 137 11 19 true := ⟨_, hc_X11, by decide, lw_in4 (i := 237) (by decide +kernel) (by decide +kernel), rfl, rfl⟩
theorem fl_X11_140 : hFl RX11 140 11 20 true := ⟨_, hc_X11, by decide, lw_in4 (i := 238) (by decide +kernel) (by decide +kernel), rfl, rfl⟩
theorem fl_X11_143 : hFl RX11 143 11 21 true := ⟨_, hc_X11, by decide, lw_in4 (i := 239) (by decide +kernel) (by decide +kernel), rfl, rfl⟩
theorem fl_X11_146 : hFl RX11 146 11 22 true := ⟨_, hc_X11, by decide, lw_in5 (i := 0) (by decide +kernel) (by decide +kernel), rfl, rfl⟩
theorem fl_X11_149 : hFl RX11 149 11 23 true := ⟨_, hc_X11, by decide, lw_in5 (i := 1) (by decide +kernel) (by decide +kernel), rfl, rfl⟩
theorem fl_X11_363 : hFl RX11 363 11 24 false := ⟨_, hc_X11, by decide, lw_in5 (i := 2) (by decide +kernel) (by decide +kernel), rfl, rfl⟩
theorem fl_X11_152 : hFl RX11 152 11 25 true := ⟨_, hc_X11, by decide, lw_in5 (i := 3) (by decide +kernel) (by decide +kernel), rfl, rfl⟩
theorem fl_X11_156 : hFl RX11 156 11 26 true := ⟨_, hc_X11, by decide, lw_in5 (i := 4) (by decide +kernel) (by decide +kernel), rfl, rfl⟩
theorem fl_X11_159 : hFl RX11 159 11 27 true := ⟨_, hc_X11, by decide, lw_in5 (i := 5) (by decide +kernel) (by decide +kernel), rfl, rfl⟩
theorem fl_X11_162 : hFl RX11 162 11 28 true := ⟨_, hc_X11, by decide, lw_in5 (i := 6) (by decide +kernel) (by decide +kernel), rfl, rfl⟩
theorem fl_X11_165 : hFl RX11 165 11 29 true := ⟨_, hc_X11, by decide, lw_in5 (i := 7) (by decide +kernel) (by decide +kernel), rfl, rfl⟩
theorem fl_X11_168 : hFl RX11 168 11 30 true := ⟨_, hc_X11, by decide, lw_in5 (i := 8) (by decide +kernel) (by decide +kernel), rfl, rfl⟩
theorem fl_X11_171 : hFl RX11 171 11 31 true := ⟨_, hc_X11, by decide, lw_in5 (i := 9) (by decide +kernel) (by decide +kernel), rfl, rfl⟩
theorem fl_X11_174 : hFl RX11 174 11 32 true := ⟨_, hc_X11, by decide, lw_in5 (i := 10) (by decide +kernel) (by decide +kernel), rfl, rfl⟩
theorem fl_X11_370 : hFl RX11 370 11 33 false := ⟨_, hc_X11, by decide, lw_in5 (i := 11) (by decide +kernel) (by decide +kernel), rfl, rfl⟩
theorem fl_X11_177 : hFl RX11 177 11 34 true := ⟨_, hc_X11, by decide, lw_in5 (i := 12) (by decide +kernel) (by decide +kernel), rfl, rfl⟩
theorem fl_X11_180 : hFl RX11 180 11 35 true := ⟨_, hc_X11, by decide, lw_in5 (i := 13) (by decide +kernel) (by decide +kernel), rfl, rfl⟩
theorem fl_X11_183 : hFl RX11 183 11 36 true := ⟨_, hc_X11, by decide, lw_in5 (i := 14) (by decide +kernel) (by decide +kernel), rfl, rfl⟩
theorem fl_X11_186 : hFl RX11 186 11 37 true := ⟨_, hc_X11, by decide, lw_in5 (i := 15) (by decide +kernel) (by decide +kernel), rfl, rfl⟩
theorem fl_X11_189 : hFl RX11 189 11 38 true := ⟨_, hc_X11, by decide, lw_in5 (i := 16) (by decide +kernel) (by decide +kernel), rfl, rfl⟩
theorem fl_X11_192 : hFl RX11 192 11 39 true := ⟨_, hc_X11, by decide, lw_in5 (i := 17) (by decide +kernel) (by decide +kernel), rfl, rfl⟩
theorem fl_X11_195 : hFl RX11 195 11 40 true := ⟨_, hc_X11, by decide, lw_in5 (i := 18) (by decide +kernel) (by decide +kernel), rfl, rfl⟩
theorem fl_X11_198 : hFl RX11 198 11 41 true := ⟨_, hc_X11, by decide, lw_in5 (i := 19) (by decide +kernel) (by decide +kernel), rfl, rfl⟩
theorem fl_X11_201 : hFl RX11 201 11 42 true := ⟨_, hc_X11, by decide, lw_in5 (i := 20) (by decide +kernel) (by decide +kernel), rfl, rfl⟩
theorem fl_X11_204 : hFl RX11 204 11 43 true := ⟨_, hc_X11, by decide, lw_in5 (i := 21) (by decide +kernel) (by decide +kernel), rfl, rfl⟩
theorem fl_X11_207 : hFl RX11 207 11 44 true := ⟨_, hc_X11, by decide, lw_in5 (i := 22) (by decide +kernel) (by decide +kernel), rfl, rfl⟩
theorem fl_X11_210 : hFl RX11 210 11 45 true := ⟨_, hc_X11, by decide, lw_in5 (i := 23) (by decide +kernel) (by decide +kernel), rfl, rfl⟩
theorem fl_X11_213 : hFl RX11 213 11 46 true := ⟨_, hc_X11, by decide, lw_in5 (i := 24) (by decide +kernel) (by decide +kernel), rfl, rfl⟩
theorem fl_X11_216 : hFl RX11 216 11 47 true := ⟨_, hc_X11, by decide, lw_in5 (i := 25) (by decide +kernel) (by decide +kernel), rfl, rfl⟩
theorem fl_X11_219 : hFl RX11 219 11 48 true := ⟨_, hc_X11, by decide, lw_in5 (i := 26) (by decide +kernel) (by decide +kernel), rfl, rfl⟩
theorem fl_X11_222 : hFl RX11 222 11 49 true := ⟨_, hc_X11, by decide, lw_in5 (i := 27) (by decide +kernel) (by decide +kernel), rfl, rfl⟩
theorem fl_X11_225 : hFl RX11 225 11 50 true := ⟨_, hc_X11, by decide, lw_in5 (i := 28) (by decide +kernel) (by decide +kernel), rfl, rfl⟩
theorem fl_X11_228 : hFl RX11 228 11 51 true := ⟨_, hc_X11, by decide, lw_in5 (i := 29) (by decide +kernel) (by decide +kernel), rfl, rfl⟩
theorem fl_X11_231 : hFl RX11 231 11 52 true := ⟨_, hc_X11, by decide, lw_in5 (i := 30) (by decide +kernel) (by decide +kernel), rfl, rfl⟩
theorem fl_X11_234 : hFl RX11 234 11 53 true := ⟨_, hc_X11, by decide, lw_in5 (i := 31) (by decide +kernel) (by decide +kernel), rfl, rfl⟩
theorem fl_X11_237 : hFl RX11 237 11 54 true := ⟨_, hc_X11, by decide, lw_in5 (i := 32) (by decide +kernel) (by decide +kernel), rfl, rfl⟩
theorem fl_X11_240 : hFl RX11 240 11 55 true := ⟨_, hc_X11, by decide, lw_in5 (i := 33) (by decide +kernel) (by decide +kernel), rfl, rfl⟩
theorem fl_X11_418 : hFl RX11 418 11 56 false := ⟨_, hc_X11, by decide, lw_in5 (i := 34) (by decide +kernel) (by decide +kernel), rfl, rfl⟩
theorem fl_X11_243 : hFl RX11 243 11 57 true := ⟨_, hc_X11, by decide, lw_in5 (i := 35) (by decide +kernel) (by decide +kernel), rfl, rfl⟩
theorem fl_X11_450 : hFl RX11 450 11 58 false := ⟨_, hc_X11, by decide, lw_in5 (i := 36) (by decide +kernel) (by decide +kernel), rfl, rfl⟩
theorem fl_X11_246 : hFl RX11 246 11 59 true := ⟨_, hc_X11, by decide, lw_in5 (i := 37) (by decide +kernel) (by decide +kernel), rfl, rfl⟩
theorem fl_X11_457 : hFl RX11 457 11 60 false := ⟨_, hc_X11, by decide, lw_in5 (i := 38) (by decide +kernel) (by decide +kernel), rfl, rfl⟩
theorem fl_X11_249 : hFl RX11 249 11 61 true := ⟨_, hc_X11, by decide, lw_in5 (i := 39) (by decide +kernel) (by decide +kernel), rfl, rfl⟩
theorem fl_X11_252 : hFl RX11 252 11 62 true := ⟨_, hc_X11, by decide, lw_in5 (i := 40) (by decide +kernel) (by decide +kernel), rfl, rfl⟩
theorem ac_boolean : Cond.arrayClass .boolean ∈ lw_g := lw_in5 (i := 168) (by decide +kernel) (by decide +kernel)
theorem ml_L_17 : Cond.methodLink RL 17 yX11_pattern ∈ lw_g := lw_in5 (i := 169) (by decide +kernel) (by decide +kernel)
theorem ml_L_22 : Cond.methodLink RL 22 yX11_message ∈ lw_g := lw_in5 (i := 173) (by decide +kernel) (by decide +kernel)
theorem ml_X11_373 : Cond.methodLink RX11 373 yX11_isPattern ∈ lw_g := lw_in5 (i := 177) (by decide +kernel) (by decide +kernel)
theorem ml_X11_366 : Cond.methodLink RX11 366 yX11_in ∈ lw_g := lw_in5 (i := 181) (by decide +kernel) (by decide +kernel)
theorem ml_X11_377 : Cond.methodLink RX11 377 yX11_isUsed ∈ lw_g := lw_in5 (i := 184) (by decide +kernel) (by decide +kernel)
theorem ml_L_27 : Cond.methodLink RL 27 yX11_token ∈ lw_g := lw_in5 (i := 188) (by decide +kernel) (by decide +kernel)
theorem ml_L_31 : Cond.methodLink RL 31 yX11_fault ∈ lw_g := lw_in5 (i := 192) (by decide +kernel) (by decide +kernel)
theorem ml_X11_386 : Cond.methodLink RX11 386 yX11_faultOf ∈ lw_g := lw_in5 (i := 196) (by decide +kernel) (by decide +kernel)
theorem ml_X11_383 : Cond.methodLink RX11 383 yX11_judges ∈ lw_g := lw_in5 (i := 200) (by decide +kernel) (by decide +kernel)
theorem ml_X11_380 : Cond.methodLink RX11 380 yX11_seals ∈ lw_g := lw_in5 (i := 204) (by decide +kernel) (by decide +kernel)
theorem ml_L_35 : Cond.methodLink RL 35 yX11_told ∈ lw_g := lw_in5 (i := 208) (by decide +kernel) (by decide +kernel)
theorem ml_L_40 : Cond.methodLink RL 40 yX11_side ∈ lw_g := lw_in5 (i := 212) (by decide +kernel) (by decide +kernel)
theorem ml_X11_408 : Cond.methodLink RX11 408 yX11_sendsS ∈ lw_g := lw_in5 (i := 216) (by decide +kernel) (by decide +kernel)
theorem ml_X11_394 : Cond.methodLink RX11 394 yX11_secret ∈ lw_g := lw_in5 (i := 220) (by decide +kernel) (by decide +kernel)
theorem ml_X11_278 : Cond.methodLink RX11 278 yX11_hashes ∈ lw_g := lw_in5 (i := 224) (by decide +kernel) (by decide +kernel)
theorem ml_X11_266 : Cond.methodLink RX11 266 yX11_block ∈ lw_g := lw_in5 (i := 228) (by decide +kernel) (by decide +kernel)
theorem ml_X11_259 : Cond.methodLink RX11 259 yX11_padded ∈ lw_g := lw_in5 (i := 232) (by decide +kernel) (by decide +kernel)
theorem ml_X11_263 : Cond.methodLink RX11 263 yX11_turned ∈ lw_g := lw_in5 (i := 236) (by decide +kernel) (by decide +kernel)
theorem ml_X11_412 : Cond.methodLink RX11 412 yX11_begins ∈ lw_g := lw_in5 (i := 239) (by decide +kernel) (by decide +kernel)
theorem ml_X11_398 : Cond.methodLink RX11 398 yX11_publicOf ∈ lw_g := lw_in6 (i := 3) (by decide +kernel) (by decide +kernel)
theorem ml_X11_335 : Cond.methodLink RX11 335 yX11_dh ∈ lw_g := lw_in6 (i := 7) (by decide +kernel) (by decide +kernel)
theorem ml_X11_270 : Cond.methodLink RX11 270 yX11_copy ∈ lw_g := lw_in6 (i := 11) (by decide +kernel) (by decide +kernel)
theorem kc_X11_309 : Cond.constantLong RX11 309 32767 ∈ lw_g := lw_in6 (i := 14) (by decide +kernel) (by decide +kernel)
theorem kc_X11_315 : Cond.constantLong RX11 315 56129 ∈ lw_g := lw_in6 (i := 15) (by decide +kernel) (by decide +kernel)
theorem ml_X11_317 : Cond.methodLink RX11 317 yX11_sets ∈ lw_g := lw_in6 (i := 16) (by decide +kernel) (by decide +kernel)
theorem ml_X11_304 : Cond.methodLink RX11 304 yX11_copies ∈ lw_g := lw_in6 (i := 20) (by decide +kernel) (by decide +kernel)
theorem ml_X11_321 : Cond.methodLink RX11 321 yX11_exchange ∈ lw_g := lw_in6 (i := 24) (by decide +kernel) (by decide +kernel)
theorem ml_X11_325 : Cond.methodLink RX11 325 yX11_ladderStep ∈ lw_g := lw_in6 (i := 28) (by decide +kernel) (by decide +kernel)
theorem ml_X11_294 : Cond.methodLink RX11 294 yX11_plus ∈ lw_g := lw_in6 (i := 32) (by decide +kernel) (by decide +kernel)
theorem ml_X11_298 : Cond.methodLink RX11 298 yX11_minus ∈ lw_g := lw_in6 (i := 36) (by decide +kernel) (by decide +kernel)
theorem ml_X11_301 : Cond.methodLink RX11 301 yX11_times ∈ lw_g := lw_in6 (i := 40) (by decide +kernel) (by decide +kernel)
theorem kc_X11_288 : Cond.constantLong RX11 288 38 ∈ lw_g := lw_in6 (i := 44) (by decide +kernel) (by decide +kernel)
theorem ml_X11_290 : Cond.methodLink RX11 290 yX11_carry ∈ lw_g := lw_in6 (i := 45) (by decide +kernel) (by decide +kernel)
theorem kc_X11_286 : Cond.constantLong RX11 286 65536 ∈ lw_g := lw_in6 (i := 49) (by decide +kernel) (by decide +kernel)
theorem ml_X11_328 : Cond.methodLink RX11 328 yX11_invert ∈ lw_g := lw_in6 (i := 50) (by decide +kernel) (by decide +kernel)
theorem ml_X11_331 : Cond.methodLink RX11 331 yX11_packs ∈ lw_g := lw_in6 (i := 54) (by decide +kernel) (by decide +kernel)
theorem kc_X11_307 : Cond.constantLong RX11 307 65517 ∈ lw_g := lw_in6 (i := 58) (by decide +kernel) (by decide +kernel)
theorem kc_X11_311 : Cond.constantLong RX11 311 65535 ∈ lw_g := lw_in6 (i := 59) (by decide +kernel) (by decide +kernel)
theorem kc_X11_313 : Cond.constantLong RX11 313 255 ∈ lw_g := lw_in6 (i := 60) (by decide +kernel) (by decide +kernel)
theorem ml_X11_401 : Cond.methodLink RX11 401 yX11_nameByte ∈ lw_g := lw_in6 (i := 61) (by decide +kernel) (by decide +kernel)
theorem ml_X11_404 : Cond.methodLink RX11 404 yX11_mixHash ∈ lw_g := lw_in6 (i := 64) (by decide +kernel) (by decide +kernel)
theorem ml_X11_274 : Cond.methodLink RX11 274 yX11_lays ∈ lw_g := lw_in6 (i := 68) (by decide +kernel) (by decide +kernel)
theorem ml_L_44 : Cond.methodLink RL 44 yX11_again ∈ lw_g := lw_in6 (i := 72) (by decide +kernel) (by decide +kernel)
theorem ml_X11_415 : Cond.methodLink RX11 415 yX11_isSide ∈ lw_g := lw_in6 (i := 76) (by decide +kernel) (by decide +kernel)
theorem ml_L_51 : Cond.methodLink RL 51 yX11_feed ∈ lw_g := lw_in6 (i := 80) (by decide +kernel) (by decide +kernel)
theorem ml_L_55 : Cond.methodLink RL 55 yX11_write ∈ lw_g := lw_in6 (i := 84) (by decide +kernel) (by decide +kernel)
theorem ml_X11_421 : Cond.methodLink RX11 421 yX11_ciphers ∈ lw_g := lw_in6 (i := 88) (by decide +kernel) (by decide +kernel)
theorem ml_X11_353 : Cond.methodLink RX11 353 yX11_streams ∈ lw_g := lw_in6 (i := 92) (by decide +kernel) (by decide +kernel)
theorem kc_X11_339 : Cond.constant RX11 339 (nI 1634760805) ∈ lw_g := lw_in6 (i := 96) (by decide +kernel) (by decide +kernel)
theorem kc_X11_340 : Cond.constant RX11 340 (nI 857760878) ∈ lw_g := lw_in6 (i := 97) (by decide +kernel) (by decide +kernel)
theorem kc_X11_341 : Cond.constant RX11 341 (nI 2036477234) ∈ lw_g := lw_in6 (i := 98) (by decide +kernel) (by decide +kernel)
theorem kc_X11_342 : Cond.constant RX11 342 (nI 1797285236) ∈ lw_g := lw_in6 (i := 99) (by decide +kernel) (by decide +kernel)
theorem ml_X11_343 : Cond.methodLink RX11 343 yX11_quarter ∈ lw_g := lw_in6 (i := 100) (by decide +kernel) (by decide +kernel)
theorem ml_X11_425 : Cond.methodLink RX11 425 yX11_tagOf ∈ lw_g := lw_in6 (i := 104) (by decide +kernel) (by decide +kernel)
theorem ml_X11_357 : Cond.methodLink RX11 357 yX11_tellsLong ∈ lw_g := lw_in6 (i := 108) (by decide +kernel) (by decide +kernel)
theorem ml_X11_360 : Cond.methodLink RX11 360 yX11_tags ∈ lw_g := lw_in6 (i := 112) (by decide +kernel) (by decide +kernel)
theorem ml_X11_347 : Cond.methodLink RX11 347 yX11_adds ∈ lw_g := lw_in6 (i := 116) (by decide +kernel) (by decide +kernel)
theorem ml_X11_350 : Cond.methodLink RX11 350 yX11_multiplies ∈ lw_g := lw_in6 (i := 120) (by decide +kernel) (by decide +kernel)
theorem ml_X11_443 : Cond.methodLink RX11 443 yX11_writesToken ∈ lw_g := lw_in6 (i := 124) (by decide +kernel) (by decide +kernel)
theorem ml_X11_433 : Cond.methodLink RX11 433 yX11_seal ∈ lw_g := lw_in6 (i := 128) (by decide +kernel) (by decide +kernel)
theorem ml_X11_437 : Cond.methodLink RX11 437 yX11_shares ∈ lw_g := lw_in6 (i := 132) (by decide +kernel) (by decide +kernel)
theorem ml_X11_440 : Cond.methodLink RX11 440 yX11_mixKey ∈ lw_g := lw_in6 (i := 136) (by decide +kernel) (by decide +kernel)
theorem ml_X11_390 : Cond.methodLink RX11 390 yX11_keys ∈ lw_g := lw_in6 (i := 140) (by decide +kernel) (by decide +kernel)
theorem ml_X11_282 : Cond.methodLink RX11 282 yX11_mac ∈ lw_g := lw_in6 (i := 144) (by decide +kernel) (by decide +kernel)
theorem ml_X11_447 : Cond.methodLink RX11 447 yX11_ends ∈ lw_g := lw_in6 (i := 148) (by decide +kernel) (by decide +kernel)
theorem ml_L_59 : Cond.methodLink RL 59 yX11_read ∈ lw_g := lw_in6 (i := 152) (by decide +kernel) (by decide +kernel)
theorem ml_X11_463 : Cond.methodLink RX11 463 yX11_readsDone ∈ lw_g := lw_in6 (i := 156) (by decide +kernel) (by decide +kernel)
theorem ml_X11_429 : Cond.methodLink RX11 429 yX11_isRight ∈ lw_g := lw_in6 (i := 160) (by decide +kernel) (by decide +kernel)
theorem ml_X11_466 : Cond.methodLink RX11 466 yX11_copySide ∈ lw_g := lw_in6 (i := 164) (by decide +kernel) (by decide +kernel)
theorem ml_X11_469 : Cond.methodLink RX11 469 yX11_reads ∈ lw_g := lw_in6 (i := 168) (by decide +kernel) (by decide +kernel)
theorem ml_X11_460 : Cond.methodLink RX11 460 yX11_readsToken ∈ lw_g := lw_in6 (i := 172) (by decide +kernel) (by decide +kernel)
theorem ml_X11_453 : Cond.methodLink RX11 453 yX11_open ∈ lw_g := lw_in6 (i := 176) (by decide +kernel) (by decide +kernel)
theorem ml_L_63 : Cond.methodLink RL 63 yX11_alter ∈ lw_g := lw_in6 (i := 180) (by decide +kernel) (by decide +kernel)
theorem ml_L_67 : Cond.methodLink RL 67 yX11_cut ∈ lw_g := lw_in6 (i := 184) (by decide +kernel) (by decide +kernel)
theorem ml_L_71 : Cond.methodLink RL 71 yX11_byteOf ∈ lw_g := lw_in6 (i := 188) (by decide +kernel) (by decide +kernel)
theorem ml_L_75 : Cond.methodLink RL 75 yX11_hash ∈ lw_g := lw_in6 (i := 192) (by decide +kernel) (by decide +kernel)
theorem ml_L_79 : Cond.methodLink RL 79 yX11_about ∈ lw_g := lw_in6 (i := 196) (by decide +kernel) (by decide +kernel)
theorem ml_X11_472 : Cond.methodLink RX11 472 yX11_aboutOf ∈ lw_g := lw_in6 (i := 200) (by decide +kernel) (by decide +kernel)
theorem ml_L_83 : Cond.methodLink RL 83 yX11_same ∈ lw_g := lw_in6 (i := 204) (by decide +kernel) (by decide +kernel)
theorem ml_L_88 : Cond.methodLink RL 88 yX11_key ∈ lw_g := lw_in6 (i := 208) (by decide +kernel) (by decide +kernel)
theorem ml_L_92 : Cond.methodLink RL 92 yX11_count ∈ lw_g := lw_in6 (i := 212) (by decide +kernel) (by decide +kernel)
theorem ml_L_97 : Cond.methodLink RL 97 yX11_digest ∈ lw_g := lw_in6 (i := 216) (by decide +kernel) (by decide +kernel)
theorem kc_X11_475 : Cond.constantLong RX11 475 67 ∈ lw_g := lw_in6 (i := 220) (by decide +kernel) (by decide +kernel)
theorem kc_X11_477 : Cond.constantLong RX11 477 31 ∈ lw_g := lw_in6 (i := 221) (by decide +kernel) (by decide +kernel)
theorem kc_L_45 : Cond.constantLong RL 45 4294967295 ∈ lw_g := lw_in6 (i := 222) (by decide +kernel) (by decide +kernel)
theorem sl_J0_9 : Cond.fieldLink RJ0 9 "java/lang/String" "value" "[B" ∈ lw_g := lw_in6 (i := 223) (by decide +kernel) (by decide +kernel)
theorem sl_J0_15 : Cond.fieldLink RJ0 15 "java/lang/String" "coder" "B" ∈ lw_g := lw_in6 (i := 224) (by decide +kernel) (by decide +kernel)
theorem obj_inst : Cond.instanceMethod Lib.objectInit ∈ lw_g := lw_in1 (i := 25) (by decide +kernel) (by decide +kernel)
theorem obj_code : Cond.code Lib.objectInit ⟨#[0xb1]⟩ 1 none ∈ lw_g := lw_in1 (i := 26) (by decide +kernel) (by decide +kernel)
theorem st_copy : Cond.static arraycopyName ∈ lw_g := lw_in2 (i := 235) (by decide +kernel) (by decide +kernel)
set_option maxRecDepth 100000 in
theorem mi_X0_init : hMi yX0_init cX0_init 1 0 := ⟨⟨lw_in1 (i := 139) rfl rfl, ini_X0, by decide +kernel, by decide +kernel, by decide +kernel⟩, rfl, lw_in1 (i := 138) (by decide +kernel) (by decide +kernel)⟩
set_option maxRecDepth 100000 in
theorem mv_X0_seal : hMv yX0_seal cX0_seal 6 none 5 := ⟨⟨lw_in3 (i := 176) rfl rfl, ini_X0, by decide +kernel, by decide +kernel, by decide +kernel⟩, lw_in3 (i := 174) (by decide +kernel) (by decide +kernel), lw_in3 (i := 175) (by decide +kernel) (by decide +kernel)⟩
set_option maxRecDepth 100000 in
theorem mv_X0_open : hMv yX0_open cX0_open 10 (some .boolean) 7 := ⟨⟨lw_in4 (i := 58) rfl rfl, ini_X0, by decide +kernel, by decide +kernel, by decide +kernel⟩, lw_in4 (i := 56) (by decide +kernel) (by decide +kernel), lw_in4 (i := 57) (by decide +kernel) (by decide +kernel)⟩
set_option maxRecDepth 100000 in
theorem mv_X0_prepare : hMv yX0_prepare cX0_prepare 4 none 2 := ⟨⟨lw_in3 (i := 180) rfl rfl, ini_X0, by decide +kernel, by decide +kernel, by decide +kernel⟩, lw_in3 (i := 179) (by decide +kernel) (by decide +kernel), lw_mems (i := 7) (by decide +kernel) (by decide +kernel)⟩
set_option maxRecDepth 100000 in
theorem mv_X0_turn : hMv yX0_turn cX0_turn 5 none 3 := ⟨⟨lw_in3 (i := 189) rfl rfl, ini_X0, by decide +kernel, by decide +kernel, by decide +kernel⟩, lw_in3 (i := 188) (by decide +kernel) (by decide +kernel), lw_mems (i := 8) (by decide +kernel) (by decide +kernel)⟩
set_option maxRecDepth 100000 in
theorem mv_X0_makeTag : hMv yX0_makeTag cX0_makeTag 6 none 4 := ⟨⟨lw_in3 (i := 210) rfl rfl, ini_X0, by decide +kernel, by decide +kernel, by decide +kernel⟩, lw_in3 (i := 209) (by decide +kernel) (by decide +kernel), lw_mems (i := 13) (by decide +kernel) (by decide +kernel)⟩
set_option maxRecDepth 100000 in
theorem mv_X0_blockByte : hMv yX0_blockByte cX0_blockByte 2 (some .int) 1 := ⟨⟨lw_in3 (i := 206) rfl rfl, ini_X0, by decide +kernel, by decide +kernel, by decide +kernel⟩, lw_in3 (i := 205) (by decide +kernel) (by decide +kernel), lw_mems (i := 12) (by decide +kernel) (by decide +kernel)⟩
set_option maxRecDepth 100000 in
theorem mv_X0_makeBlock : hMv yX0_makeBlock cX0_makeBlock 3 none 1 := ⟨⟨lw_in3 (i := 193) rfl rfl, ini_X0, by decide +kernel, by decide +kernel, by decide +kernel⟩, lw_in3 (i := 192) (by decide +kernel) (by decide +kernel), lw_mems (i := 9) (by decide +kernel) (by decide +kernel)⟩
set_option maxRecDepth 100000 in
theorem mv_X0_quarter : hMv yX0_quarter cX0_quarter 5 none 4 := ⟨⟨lw_in3 (i := 198) rfl rfl, ini_X0, by decide +kernel, by decide +kernel, by decide +kernel⟩, lw_in3 (i := 197) (by decide +kernel) (by decide +kernel), lw_mems (i := 10) (by decide +kernel) (by decide +kernel)⟩
set_option maxRecDepth 100000 in
theorem mv_X0_mix : hMv yX0_mix cX0_mix 6 none 4 := ⟨⟨lw_in3 (i := 202) rfl rfl, ini_X0, by decide +kernel, by decide +kernel, by decide +kernel⟩, lw_in3 (i := 201) (by decide +kernel) (by decide +kernel), lw_mems (i := 11) (by decide +kernel) (by decide +kernel)⟩
set_option maxRecDepth 100000 in
theorem mi_X1_init : hMi yX1_init cX1_init 1 0 := ⟨⟨lw_in1 (i := 101) rfl rfl, ini_X1, by decide +kernel, by decide +kernel, by decide +kernel⟩, rfl, lw_in1 (i := 100) (by decide +kernel) (by decide +kernel)⟩
set_option maxRecDepth 100000 in
theorem mv_X1_multiplyPoint : hMv yX1_multiplyPoint cX1_multiplyPoint 7 none 3 := ⟨⟨lw_in3 (i := 20) rfl rfl, ini_X1, by decide +kernel, by decide +kernel, by decide +kernel⟩, lw_in3 (i := 18) (by decide +kernel) (by decide +kernel), lw_in3 (i := 19) (by decide +kernel) (by decide +kernel)⟩
set_option maxRecDepth 100000 in
theorem mv_X1_swap : hMv yX1_swap cX1_swap 3 none 0 := ⟨⟨lw_in3 (i := 41) rfl rfl, ini_X1, by decide +kernel, by decide +kernel, by decide +kernel⟩, lw_in3 (i := 40) (by decide +kernel) (by decide +kernel), lw_mems (i := 3) (by decide +kernel) (by decide +kernel)⟩
set_option maxRecDepth 100000 in
theorem mv_X1_step : hMv yX1_step cX1_step 1 none 0 := ⟨⟨lw_in3 (i := 45) rfl rfl, ini_X1, by decide +kernel, by decide +kernel, by decide +kernel⟩, lw_in3 (i := 44) (by decide +kernel) (by decide +kernel), lw_mems (i := 4) (by decide +kernel) (by decide +kernel)⟩
set_option maxRecDepth 100000 in
theorem ms_X1_invert : hMs yX1_invert cX1_invert 3 none 2 := ⟨⟨lw_in3 (i := 66) rfl rfl, ini_X1, by decide +kernel, by decide +kernel, by decide +kernel⟩, lw_in3 (i := 65) (by decide +kernel) (by decide +kernel)⟩
set_option maxRecDepth 100000 in
theorem ms_X1_setSmall : hMs yX1_setSmall cX1_setSmall 3 none 2 := ⟨⟨lw_in3 (i := 36) rfl rfl, ini_X1, by decide +kernel, by decide +kernel, by decide +kernel⟩, lw_in3 (i := 35) (by decide +kernel) (by decide +kernel)⟩
set_option maxRecDepth 100000 in
theorem ms_X1_add : hMs yX1_add cX1_add 4 none 3 := ⟨⟨lw_in3 (i := 48) rfl rfl, ini_X1, by decide +kernel, by decide +kernel, by decide +kernel⟩, lw_in3 (i := 47) (by decide +kernel) (by decide +kernel)⟩
set_option maxRecDepth 100000 in
theorem ms_X1_subtract : hMs yX1_subtract cX1_subtract 4 none 3 := ⟨⟨lw_in3 (i := 51) rfl rfl, ini_X1, by decide +kernel, by decide +kernel, by decide +kernel⟩, lw_in3 (i := 50) (by decide +kernel) (by decide +kernel)⟩
set_option maxRecDepth 100000 in
theorem ms_X1_scale : hMs yX1_scale cX1_scale 3 none 2 := ⟨⟨lw_in3 (i := 62) rfl rfl, ini_X1, by decide +kernel, by decide +kernel, by decide +kernel⟩, lw_in3 (i := 61) (by decide +kernel) (by decide +kernel)⟩
set_option maxRecDepth 100000 in
theorem ms_X1_multiply : hMs yX1_multiply cX1_multiply 71 none 3 := ⟨⟨lw_in3 (i := 54) rfl rfl, ini_X1, by decide +kernel, by decide +kernel, by decide +kernel⟩, lw_in3 (i := 53) (by decide +kernel) (by decide +kernel)⟩
set_option maxRecDepth 100000 in
theorem ms_X1_width : hMs yX1_width cX1_width 1 (some .int) 1 := ⟨⟨lw_in3 (i := 30) rfl rfl, ini_X1, by decide +kernel, by decide +kernel, by decide +kernel⟩, lw_in3 (i := 29) (by decide +kernel) (by decide +kernel)⟩
set_option maxRecDepth 100000 in
theorem ms_X1_carry : hMs yX1_carry cX1_carry 7 none 1 := ⟨⟨lw_in3 (i := 59) rfl rfl, ini_X1, by decide +kernel, by decide +kernel, by decide +kernel⟩, lw_in3 (i := 58) (by decide +kernel) (by decide +kernel)⟩
set_option maxRecDepth 100000 in
theorem ms_X1_unpack : hMs yX1_unpack cX1_unpack 4 none 2 := ⟨⟨lw_in3 (i := 27) rfl rfl, ini_X1, by decide +kernel, by decide +kernel, by decide +kernel⟩, lw_in3 (i := 26) (by decide +kernel) (by decide +kernel)⟩
set_option maxRecDepth 100000 in
theorem ms_X1_pack : hMs yX1_pack cX1_pack 11 none 2 := ⟨⟨lw_in3 (i := 69) rfl rfl, ini_X1, by decide +kernel, by decide +kernel, by decide +kernel⟩, lw_in3 (i := 68) (by decide +kernel) (by decide +kernel)⟩
set_option maxRecDepth 100000 in
theorem mi_X2_init : hMi yX2_init cX2_init 1 0 := ⟨⟨lw_in1 (i := 80) rfl rfl, ini_X2, by decide +kernel, by decide +kernel, by decide +kernel⟩, rfl, lw_in1 (i := 79) (by decide +kernel) (by decide +kernel)⟩
set_option maxRecDepth 100000 in
theorem mv_X2_makeKeys : hMv yX2_makeKeys cX2_makeKeys 6 none 5 := ⟨⟨lw_in4 (i := 23) rfl rfl, ini_X2, by decide +kernel, by decide +kernel, by decide +kernel⟩, lw_in4 (i := 21) (by decide +kernel) (by decide +kernel), lw_in4 (i := 22) (by decide +kernel) (by decide +kernel)⟩
set_option maxRecDepth 100000 in
theorem mv_X2_makeMac : hMv yX2_makeMac cX2_makeMac 5 none 4 := ⟨⟨lw_in4 (i := 27) rfl rfl, ini_X2, by decide +kernel, by decide +kernel, by decide +kernel⟩, lw_in4 (i := 26) (by decide +kernel) (by decide +kernel), lw_mems (i := 18) (by decide +kernel) (by decide +kernel)⟩
set_option maxRecDepth 100000 in
theorem mv_X2_beginWith : hMv yX2_beginWith cX2_beginWith 4 none 2 := ⟨⟨lw_in4 (i := 31) rfl rfl, ini_X2, by decide +kernel, by decide +kernel, by decide +kernel⟩, lw_in4 (i := 30) (by decide +kernel) (by decide +kernel), lw_mems (i := 19) (by decide +kernel) (by decide +kernel)⟩
set_option maxRecDepth 100000 in
theorem mi_X3_init : hMi yX3_init cX3_init 3 2 := ⟨⟨lw_in2 (i := 72) rfl rfl, ini_X3, by decide +kernel, by decide +kernel, by decide +kernel⟩, rfl, lw_in2 (i := 71) (by decide +kernel) (by decide +kernel)⟩
set_option maxRecDepth 100000 in
theorem mv_X3_addMessage : hMv yX3_addMessage cX3_addMessage 1 (some .int) 0 := ⟨⟨lw_in2 (i := 109) rfl rfl, ini_X3, by decide +kernel, by decide +kernel, by decide +kernel⟩, lw_in2 (i := 107) (by decide +kernel) (by decide +kernel), lw_in2 (i := 108) (by decide +kernel) (by decide +kernel)⟩
set_option maxRecDepth 100000 in
theorem mv_X3_addToken : hMv yX3_addToken cX3_addToken 3 (some .int) 1 := ⟨⟨lw_in2 (i := 117) rfl rfl, ini_X3, by decide +kernel, by decide +kernel, by decide +kernel⟩, lw_in2 (i := 115) (by decide +kernel) (by decide +kernel), lw_in2 (i := 116) (by decide +kernel) (by decide +kernel)⟩
set_option maxRecDepth 100000 in
theorem mv_X3_sizeOf : hMv yX3_sizeOf cX3_sizeOf 2 (some .int) 1 := ⟨⟨lw_in2 (i := 158) rfl rfl, ini_X3, by decide +kernel, by decide +kernel, by decide +kernel⟩, lw_in2 (i := 156) (by decide +kernel) (by decide +kernel), lw_in2 (i := 157) (by decide +kernel) (by decide +kernel)⟩
set_option maxRecDepth 100000 in
theorem mv_X3_tokenAt : hMv yX3_tokenAt cX3_tokenAt 3 (some .int) 2 := ⟨⟨lw_in2 (i := 162) rfl rfl, ini_X3, by decide +kernel, by decide +kernel, by decide +kernel⟩, lw_in2 (i := 160) (by decide +kernel) (by decide +kernel), lw_in2 (i := 161) (by decide +kernel) (by decide +kernel)⟩
set_option maxRecDepth 100000 in
theorem mv_X3_isKnownAhead : hMv yX3_isKnownAhead cX3_isKnownAhead 2 (some .boolean) 1 := ⟨⟨lw_in2 (i := 170) rfl rfl, ini_X3, by decide +kernel, by decide +kernel, by decide +kernel⟩, lw_in2 (i := 168) (by decide +kernel) (by decide +kernel), lw_in2 (i := 169) (by decide +kernel) (by decide +kernel)⟩
set_option maxRecDepth 100000 in
theorem mv_X3_sendsS : hMv yX3_sendsS cX3_sendsS 4 (some .boolean) 1 := ⟨⟨lw_in2 (i := 174) rfl rfl, ini_X3, by decide +kernel, by decide +kernel, by decide +kernel⟩, lw_in2 (i := 172) (by decide +kernel) (by decide +kernel), lw_in2 (i := 173) (by decide +kernel) (by decide +kernel)⟩
set_option maxRecDepth 100000 in
theorem mv_X3_tell : hMv yX3_tell cX3_tell 4 (some .int) 1 := ⟨⟨lw_in2 (i := 154) rfl rfl, ini_X3, by decide +kernel, by decide +kernel, by decide +kernel⟩, lw_in2 (i := 152) (by decide +kernel) (by decide +kernel), lw_in2 (i := 153) (by decide +kernel) (by decide +kernel)⟩
set_option maxRecDepth 100000 in
theorem mv_X3_findFault : hMv yX3_findFault cX3_findFault 8 (some .int) 0 := ⟨⟨lw_in2 (i := 125) rfl rfl, ini_X3, by decide +kernel, by decide +kernel, by decide +kernel⟩, lw_in2 (i := 123) (by decide +kernel) (by decide +kernel), lw_in2 (i := 124) (by decide +kernel) (by decide +kernel)⟩
set_option maxRecDepth 100000 in
theorem mv_X3_hasEmptyMessage : hMv yX3_hasEmptyMessage cX3_hasEmptyMessage 2 (some .boolean) 0 := ⟨⟨lw_in2 (i := 129) rfl rfl, ini_X3, by decide +kernel, by decide +kernel, by decide +kernel⟩, lw_in2 (i := 128) (by decide +kernel) (by decide +kernel), lw_mems (i := 1) (by decide +kernel) (by decide +kernel)⟩
set_option maxRecDepth 100000 in
theorem ms_X3_faultAt : hMs yX3_faultAt cX3_faultAt 4 (some .int) 4 := ⟨⟨lw_in2 (i := 132) rfl rfl, ini_X3, by decide +kernel, by decide +kernel, by decide +kernel⟩, lw_in2 (i := 131) (by decide +kernel) (by decide +kernel)⟩
set_option maxRecDepth 100000 in
theorem ms_X3_keyBit : hMs yX3_keyBit cX3_keyBit 2 (some .int) 2 := ⟨⟨lw_in2 (i := 135) rfl rfl, ini_X3, by decide +kernel, by decide +kernel, by decide +kernel⟩, lw_in2 (i := 134) (by decide +kernel) (by decide +kernel)⟩
set_option maxRecDepth 100000 in
theorem ms_X3_did : hMs yX3_did cX3_did 2 (some .boolean) 2 := ⟨⟨lw_in2 (i := 140) rfl rfl, ini_X3, by decide +kernel, by decide +kernel, by decide +kernel⟩, lw_in2 (i := 139) (by decide +kernel) (by decide +kernel)⟩
set_option maxRecDepth 100000 in
theorem ms_X3_sealsTooSoon : hMs yX3_sealsTooSoon cX3_sealsTooSoon 4 (some .boolean) 2 := ⟨⟨lw_in2 (i := 146) rfl rfl, ini_X3, by decide +kernel, by decide +kernel, by decide +kernel⟩, lw_in2 (i := 145) (by decide +kernel) (by decide +kernel)⟩
set_option maxRecDepth 100000 in
theorem mi_X4_init : hMi yX4_init cX4_init 2 1 := ⟨⟨lw_in1 (i := 35) rfl rfl, ini_X4, by decide +kernel, by decide +kernel, by decide +kernel⟩, rfl, lw_in1 (i := 34) (by decide +kernel) (by decide +kernel)⟩
set_option maxRecDepth 100000 in
theorem mv_X4_put : hMv yX4_put cX4_put 2 none 1 := ⟨⟨lw_in3 (i := 153) rfl rfl, ini_X4, by decide +kernel, by decide +kernel, by decide +kernel⟩, lw_in3 (i := 151) (by decide +kernel) (by decide +kernel), lw_in3 (i := 152) (by decide +kernel) (by decide +kernel)⟩
set_option maxRecDepth 100000 in
theorem mv_X4_putAll : hMv yX4_putAll cX4_putAll 5 none 3 := ⟨⟨lw_in3 (i := 169) rfl rfl, ini_X4, by decide +kernel, by decide +kernel, by decide +kernel⟩, lw_in3 (i := 167) (by decide +kernel) (by decide +kernel), lw_in3 (i := 168) (by decide +kernel) (by decide +kernel)⟩
set_option maxRecDepth 100000 in
theorem mv_X4_at : hMv yX4_at cX4_at 2 (some .int) 1 := ⟨⟨lw_in4 (i := 62) rfl rfl, ini_X4, by decide +kernel, by decide +kernel, by decide +kernel⟩, lw_in4 (i := 60) (by decide +kernel) (by decide +kernel), lw_in4 (i := 61) (by decide +kernel) (by decide +kernel)⟩
set_option maxRecDepth 100000 in
theorem mv_X4_addTo : hMv yX4_addTo cX4_addTo 4 (some .long) 1 := ⟨⟨lw_in4 (i := 138) rfl rfl, ini_X4, by decide +kernel, by decide +kernel, by decide +kernel⟩, lw_in4 (i := 136) (by decide +kernel) (by decide +kernel), lw_in4 (i := 137) (by decide +kernel) (by decide +kernel)⟩
set_option maxRecDepth 100000 in
theorem mi_X5_init : hMi yX5_init cX5_init 1 0 := ⟨⟨lw_in1 (i := 61) rfl rfl, ini_X5, by decide +kernel, by decide +kernel, by decide +kernel⟩, rfl, lw_in1 (i := 60) (by decide +kernel) (by decide +kernel)⟩
set_option maxRecDepth 100000 in
theorem mv_X5_begin : hMv yX5_begin cX5_begin 1 none 0 := ⟨⟨lw_in2 (i := 231) rfl rfl, ini_X5, by decide +kernel, by decide +kernel, by decide +kernel⟩, lw_in2 (i := 229) (by decide +kernel) (by decide +kernel), lw_in2 (i := 230) (by decide +kernel) (by decide +kernel)⟩
set_option maxRecDepth 100000 in
theorem mv_X5_add : hMv yX5_add cX5_add 5 none 3 := ⟨⟨lw_in3 (i := 136) rfl rfl, ini_X5, by decide +kernel, by decide +kernel, by decide +kernel⟩, lw_in3 (i := 134) (by decide +kernel) (by decide +kernel), lw_in3 (i := 135) (by decide +kernel) (by decide +kernel)⟩
set_option maxRecDepth 100000 in
theorem mv_X5_addNumber : hMv yX5_addNumber cX5_addNumber 3 none 1 := ⟨⟨lw_in3 (i := 0) rfl rfl, ini_X5, by decide +kernel, by decide +kernel, by decide +kernel⟩, lw_in2 (i := 238) (by decide +kernel) (by decide +kernel), lw_in2 (i := 239) (by decide +kernel) (by decide +kernel)⟩
set_option maxRecDepth 100000 in
theorem mv_X5_addByte : hMv yX5_addByte cX5_addByte 2 none 1 := ⟨⟨lw_in3 (i := 4) rfl rfl, ini_X5, by decide +kernel, by decide +kernel, by decide +kernel⟩, lw_in3 (i := 2) (by decide +kernel) (by decide +kernel), lw_in3 (i := 3) (by decide +kernel) (by decide +kernel)⟩
set_option maxRecDepth 100000 in
theorem mv_X5_finish : hMv yX5_finish cX5_finish 5 none 1 := ⟨⟨lw_in3 (i := 14) rfl rfl, ini_X5, by decide +kernel, by decide +kernel, by decide +kernel⟩, lw_in3 (i := 12) (by decide +kernel) (by decide +kernel), lw_in3 (i := 13) (by decide +kernel) (by decide +kernel)⟩
set_option maxRecDepth 100000 in
theorem mv_X5_addBlock : hMv yX5_addBlock cX5_addBlock 14 none 0 := ⟨⟨lw_in3 (i := 8) rfl rfl, ini_X5, by decide +kernel, by decide +kernel, by decide +kernel⟩, lw_in3 (i := 7) (by decide +kernel) (by decide +kernel), lw_mems (i := 2) (by decide +kernel) (by decide +kernel)⟩
set_option maxRecDepth 100000 in
theorem mi_X6_init : hMi yX6_init cX6_init 5 4 := ⟨⟨lw_in2 (i := 178) rfl rfl, ini_X6, by decide +kernel, by decide +kernel, by decide +kernel⟩, rfl, lw_in2 (i := 177) (by decide +kernel) (by decide +kernel)⟩
set_option maxRecDepth 100000 in
theorem mv_X6_isDone : hMv yX6_isDone cX6_isDone 1 (some .boolean) 0 := ⟨⟨lw_in3 (i := 161) rfl rfl, ini_X6, by decide +kernel, by decide +kernel, by decide +kernel⟩, lw_in3 (i := 159) (by decide +kernel) (by decide +kernel), lw_in3 (i := 160) (by decide +kernel) (by decide +kernel)⟩
set_option maxRecDepth 100000 in
theorem mv_X6_isNext : hMv yX6_isNext cX6_isNext 1 (some .boolean) 0 := ⟨⟨lw_in4 (i := 1) rfl rfl, ini_X6, by decide +kernel, by decide +kernel, by decide +kernel⟩, lw_in3 (i := 239) (by decide +kernel) (by decide +kernel), lw_in4 (i := 0) (by decide +kernel) (by decide +kernel)⟩
set_option maxRecDepth 100000 in
theorem mv_X6_leastLetter : hMv yX6_leastLetter cX6_leastLetter 6 (some .int) 0 := ⟨⟨lw_in4 (i := 48) rfl rfl, ini_X6, by decide +kernel, by decide +kernel, by decide +kernel⟩, lw_in4 (i := 46) (by decide +kernel) (by decide +kernel), lw_in4 (i := 47) (by decide +kernel) (by decide +kernel)⟩
set_option maxRecDepth 100000 in
theorem mv_X6_tell : hMv yX6_tell cX6_tell 2 (some .int) 1 := ⟨⟨lw_in4 (i := 105) rfl rfl, ini_X6, by decide +kernel, by decide +kernel, by decide +kernel⟩, lw_in4 (i := 103) (by decide +kernel) (by decide +kernel), lw_in4 (i := 104) (by decide +kernel) (by decide +kernel)⟩
set_option maxRecDepth 100000 in
theorem mi_X7_init : hMi yX7_init cX7_init 1 0 := ⟨⟨lw_in1 (i := 183) rfl rfl, ini_X7, by decide +kernel, by decide +kernel, by decide +kernel⟩, rfl, lw_in1 (i := 182) (by decide +kernel) (by decide +kernel)⟩
set_option maxRecDepth 100000 in
theorem mv_X7_copyFrom : hMv yX7_copyFrom cX7_copyFrom 2 none 1 := ⟨⟨lw_in4 (i := 70) rfl rfl, ini_X7, by decide +kernel, by decide +kernel, by decide +kernel⟩, lw_in4 (i := 68) (by decide +kernel) (by decide +kernel), lw_in4 (i := 69) (by decide +kernel) (by decide +kernel)⟩
set_option maxRecDepth 100000 in
theorem mv_X7_fits : hMv yX7_fits cX7_fits 2 (some .boolean) 1 := ⟨⟨lw_in4 (i := 114) rfl rfl, ini_X7, by decide +kernel, by decide +kernel, by decide +kernel⟩, lw_in4 (i := 112) (by decide +kernel) (by decide +kernel), lw_in4 (i := 113) (by decide +kernel) (by decide +kernel)⟩
set_option maxRecDepth 100000 in
theorem ms_X7_alike : hMs yX7_alike cX7_alike 3 (some .boolean) 2 := ⟨⟨lw_in4 (i := 117) rfl rfl, ini_X7, by decide +kernel, by decide +kernel, by decide +kernel⟩, lw_in4 (i := 116) (by decide +kernel) (by decide +kernel)⟩
set_option maxRecDepth 100000 in
theorem mi_X8_init : hMi yX8_init cX8_init 1 0 := ⟨⟨lw_in1 (i := 145) rfl rfl, ini_X8, by decide +kernel, by decide +kernel, by decide +kernel⟩, rfl, lw_in1 (i := 144) (by decide +kernel) (by decide +kernel)⟩
set_option maxRecDepth 100000 in
theorem mv_X8_begin : hMv yX8_begin cX8_begin 3 none 1 := ⟨⟨lw_in3 (i := 214) rfl rfl, ini_X8, by decide +kernel, by decide +kernel, by decide +kernel⟩, lw_in3 (i := 212) (by decide +kernel) (by decide +kernel), lw_in3 (i := 213) (by decide +kernel) (by decide +kernel)⟩
set_option maxRecDepth 100000 in
theorem mv_X8_addPadded : hMv yX8_addPadded cX8_addPadded 6 none 3 := ⟨⟨lw_in3 (i := 222) rfl rfl, ini_X8, by decide +kernel, by decide +kernel, by decide +kernel⟩, lw_in3 (i := 220) (by decide +kernel) (by decide +kernel), lw_in3 (i := 221) (by decide +kernel) (by decide +kernel)⟩
set_option maxRecDepth 100000 in
theorem mv_X8_addSizes : hMv yX8_addSizes cX8_addSizes 6 none 2 := ⟨⟨lw_in3 (i := 232) rfl rfl, ini_X8, by decide +kernel, by decide +kernel, by decide +kernel⟩, lw_in3 (i := 230) (by decide +kernel) (by decide +kernel), lw_in3 (i := 231) (by decide +kernel) (by decide +kernel)⟩
set_option maxRecDepth 100000 in
theorem mv_X8_finish : hMv yX8_finish cX8_finish 12 none 1 := ⟨⟨lw_in3 (i := 236) rfl rfl, ini_X8, by decide +kernel, by decide +kernel, by decide +kernel⟩, lw_in3 (i := 234) (by decide +kernel) (by decide +kernel), lw_in3 (i := 235) (by decide +kernel) (by decide +kernel)⟩
set_option maxRecDepth 100000 in
theorem ms_X8_clampOf : hMs yX8_clampOf cX8_clampOf 1 (some .int) 1 := ⟨⟨lw_in3 (i := 217) rfl rfl, ini_X8, by decide +kernel, by decide +kernel, by decide +kernel⟩, lw_in3 (i := 216) (by decide +kernel) (by decide +kernel)⟩
set_option maxRecDepth 100000 in
theorem mv_X8_addBlock : hMv yX8_addBlock cX8_addBlock 6 none 0 := ⟨⟨lw_in3 (i := 226) rfl rfl, ini_X8, by decide +kernel, by decide +kernel, by decide +kernel⟩, lw_in3 (i := 225) (by decide +kernel) (by decide +kernel), lw_mems (i := 14) (by decide +kernel) (by decide +kernel)⟩
set_option maxRecDepth 100000 in
theorem mi_X9_init : hMi yX9_init cX9_init 1 0 := ⟨⟨lw_in1 (i := 55) rfl rfl, ini_X9, by decide +kernel, by decide +kernel, by decide +kernel⟩, rfl, lw_in1 (i := 54) (by decide +kernel) (by decide +kernel)⟩
set_option maxRecDepth 100000 in
theorem mv_X9_secretOf : hMv yX9_secretOf cX9_secretOf 4 none 3 := ⟨⟨lw_in2 (i := 227) rfl rfl, ini_X9, by decide +kernel, by decide +kernel, by decide +kernel⟩, lw_in2 (i := 225) (by decide +kernel) (by decide +kernel), lw_in2 (i := 226) (by decide +kernel) (by decide +kernel)⟩
set_option maxRecDepth 100000 in
theorem mv_X9_publicOf : hMv yX9_publicOf cX9_publicOf 4 none 3 := ⟨⟨lw_in3 (i := 73) rfl rfl, ini_X9, by decide +kernel, by decide +kernel, by decide +kernel⟩, lw_in3 (i := 71) (by decide +kernel) (by decide +kernel), lw_in3 (i := 72) (by decide +kernel) (by decide +kernel)⟩
set_option maxRecDepth 100000 in
theorem mv_X9_giveKeys : hMv yX9_giveKeys cX9_giveKeys 4 none 3 := ⟨⟨lw_in2 (i := 223) rfl rfl, ini_X9, by decide +kernel, by decide +kernel, by decide +kernel⟩, lw_in2 (i := 221) (by decide +kernel) (by decide +kernel), lw_in2 (i := 222) (by decide +kernel) (by decide +kernel)⟩
set_option maxRecDepth 100000 in
theorem mv_X9_begin : hMv yX9_begin cX9_begin 4 none 1 := ⟨⟨lw_in3 (i := 77) rfl rfl, ini_X9, by decide +kernel, by decide +kernel, by decide +kernel⟩, lw_in3 (i := 75) (by decide +kernel) (by decide +kernel), lw_in3 (i := 76) (by decide +kernel) (by decide +kernel)⟩
set_option maxRecDepth 100000 in
theorem mv_X9_send : hMv yX9_send cX9_send 8 none 3 := ⟨⟨lw_in4 (i := 5) rfl rfl, ini_X9, by decide +kernel, by decide +kernel, by decide +kernel⟩, lw_in4 (i := 3) (by decide +kernel) (by decide +kernel), lw_in4 (i := 4) (by decide +kernel) (by decide +kernel)⟩
set_option maxRecDepth 100000 in
theorem mv_X9_take : hMv yX9_take cX9_take 9 (some .boolean) 3 := ⟨⟨lw_in4 (i := 66) rfl rfl, ini_X9, by decide +kernel, by decide +kernel, by decide +kernel⟩, lw_in4 (i := 64) (by decide +kernel) (by decide +kernel), lw_in4 (i := 65) (by decide +kernel) (by decide +kernel)⟩
set_option maxRecDepth 100000 in
theorem mv_X9_sendDone : hMv yX9_sendDone cX9_sendDone 4 none 3 := ⟨⟨lw_in3 (i := 165) rfl rfl, ini_X9, by decide +kernel, by decide +kernel, by decide +kernel⟩, lw_in3 (i := 163) (by decide +kernel) (by decide +kernel), lw_in3 (i := 164) (by decide +kernel) (by decide +kernel)⟩
set_option maxRecDepth 100000 in
theorem mv_X9_takeDone : hMv yX9_takeDone cX9_takeDone 5 (some .boolean) 3 := ⟨⟨lw_in4 (i := 54) rfl rfl, ini_X9, by decide +kernel, by decide +kernel, by decide +kernel⟩, lw_in4 (i := 52) (by decide +kernel) (by decide +kernel), lw_in4 (i := 53) (by decide +kernel) (by decide +kernel)⟩
set_option maxRecDepth 100000 in
theorem mv_X9_sendE : hMv yX9_sendE cX9_sendE 4 none 2 := ⟨⟨lw_in4 (i := 11) rfl rfl, ini_X9, by decide +kernel, by decide +kernel, by decide +kernel⟩, lw_in4 (i := 10) (by decide +kernel) (by decide +kernel), lw_mems (i := 15) (by decide +kernel) (by decide +kernel)⟩
set_option maxRecDepth 100000 in
theorem mv_X9_takeE : hMv yX9_takeE cX9_takeE 3 none 2 := ⟨⟨lw_in4 (i := 75) rfl rfl, ini_X9, by decide +kernel, by decide +kernel, by decide +kernel⟩, lw_in4 (i := 74) (by decide +kernel) (by decide +kernel), lw_mems (i := 21) (by decide +kernel) (by decide +kernel)⟩
set_option maxRecDepth 100000 in
theorem mv_X9_mixHash : hMv yX9_mixHash cX9_mixHash 5 none 4 := ⟨⟨lw_in3 (i := 132) rfl rfl, ini_X9, by decide +kernel, by decide +kernel, by decide +kernel⟩, lw_in3 (i := 131) (by decide +kernel) (by decide +kernel), lw_mems (i := 5) (by decide +kernel) (by decide +kernel)⟩
set_option maxRecDepth 100000 in
theorem mv_X9_mixDh : hMv yX9_mixDh cX9_mixDh 10 none 3 := ⟨⟨lw_in4 (i := 19) rfl rfl, ini_X9, by decide +kernel, by decide +kernel, by decide +kernel⟩, lw_in4 (i := 18) (by decide +kernel) (by decide +kernel), lw_mems (i := 17) (by decide +kernel) (by decide +kernel)⟩
set_option maxRecDepth 100000 in
theorem mv_X9_seal : hMv yX9_seal cX9_seal 6 none 4 := ⟨⟨lw_in4 (i := 15) rfl rfl, ini_X9, by decide +kernel, by decide +kernel, by decide +kernel⟩, lw_in4 (i := 14) (by decide +kernel) (by decide +kernel), lw_mems (i := 16) (by decide +kernel) (by decide +kernel)⟩
set_option maxRecDepth 100000 in
theorem mv_X9_open : hMv yX9_open cX9_open 6 (some .boolean) 5 := ⟨⟨lw_in4 (i := 80) rfl rfl, ini_X9, by decide +kernel, by decide +kernel, by decide +kernel⟩, lw_in4 (i := 79) (by decide +kernel) (by decide +kernel), lw_mems (i := 22) (by decide +kernel) (by decide +kernel)⟩
set_option maxRecDepth 100000 in
theorem mv_X9_endMessage : hMv yX9_endMessage cX9_endMessage 5 none 2 := ⟨⟨lw_in4 (i := 40) rfl rfl, ini_X9, by decide +kernel, by decide +kernel, by decide +kernel⟩, lw_in4 (i := 39) (by decide +kernel) (by decide +kernel), lw_mems (i := 20) (by decide +kernel) (by decide +kernel)⟩
set_option maxRecDepth 100000 in
theorem mi_X10_init : hMi yX10_init cX10_init 1 0 := ⟨⟨lw_in1 (i := 23) rfl rfl, ini_X10, by decide +kernel, by decide +kernel, by decide +kernel⟩, rfl, lw_in1 (i := 22) (by decide +kernel) (by decide +kernel)⟩
set_option maxRecDepth 100000 in
theorem mv_X10_pattern : hMv yX10_pattern cX10_pattern 3 (some .int) 2 := ⟨⟨lw_in2 (i := 68) rfl rfl, ini_X10, by decide +kernel, by decide +kernel, by decide +kernel⟩, lw_in2 (i := 66) (by decide +kernel) (by decide +kernel), lw_in2 (i := 67) (by decide +kernel) (by decide +kernel)⟩
set_option maxRecDepth 100000 in
theorem mv_X10_message : hMv yX10_message cX10_message 3 (some .int) 1 := ⟨⟨lw_in2 (i := 101) rfl rfl, ini_X10, by decide +kernel, by decide +kernel, by decide +kernel⟩, lw_in2 (i := 99) (by decide +kernel) (by decide +kernel), lw_in2 (i := 100) (by decide +kernel) (by decide +kernel)⟩
set_option maxRecDepth 100000 in
theorem mv_X10_token : hMv yX10_token cX10_token 4 (some .int) 2 := ⟨⟨lw_in2 (i := 113) rfl rfl, ini_X10, by decide +kernel, by decide +kernel, by decide +kernel⟩, lw_in2 (i := 111) (by decide +kernel) (by decide +kernel), lw_in2 (i := 112) (by decide +kernel) (by decide +kernel)⟩
set_option maxRecDepth 100000 in
theorem mv_X10_fault : hMv yX10_fault cX10_fault 3 (some .int) 1 := ⟨⟨lw_in2 (i := 121) rfl rfl, ini_X10, by decide +kernel, by decide +kernel, by decide +kernel⟩, lw_in2 (i := 119) (by decide +kernel) (by decide +kernel), lw_in2 (i := 120) (by decide +kernel) (by decide +kernel)⟩
set_option maxRecDepth 100000 in
theorem mv_X10_told : hMv yX10_told cX10_told 4 (some .int) 2 := ⟨⟨lw_in2 (i := 150) rfl rfl, ini_X10, by decide +kernel, by decide +kernel, by decide +kernel⟩, lw_in2 (i := 148) (by decide +kernel) (by decide +kernel), lw_in2 (i := 149) (by decide +kernel) (by decide +kernel)⟩
set_option maxRecDepth 100000 in
theorem mv_X10_side : hMv yX10_side cX10_side 8 (some .int) 5 := ⟨⟨lw_in2 (i := 166) rfl rfl, ini_X10, by decide +kernel, by decide +kernel, by decide +kernel⟩, lw_in2 (i := 164) (by decide +kernel) (by decide +kernel), lw_in2 (i := 165) (by decide +kernel) (by decide +kernel)⟩
set_option maxRecDepth 100000 in
theorem mv_X10_again : hMv yX10_again cX10_again 4 (some .int) 1 := ⟨⟨lw_in3 (i := 141) rfl rfl, ini_X10, by decide +kernel, by decide +kernel, by decide +kernel⟩, lw_in3 (i := 139) (by decide +kernel) (by decide +kernel), lw_in3 (i := 140) (by decide +kernel) (by decide +kernel)⟩
set_option maxRecDepth 100000 in
theorem mv_X10_feed : hMv yX10_feed cX10_feed 5 (some .int) 2 := ⟨⟨lw_in3 (i := 149) rfl rfl, ini_X10, by decide +kernel, by decide +kernel, by decide +kernel⟩, lw_in3 (i := 147) (by decide +kernel) (by decide +kernel), lw_in3 (i := 148) (by decide +kernel) (by decide +kernel)⟩
set_option maxRecDepth 100000 in
theorem mv_X10_write : hMv yX10_write cX10_write 3 (some .int) 1 := ⟨⟨lw_in3 (i := 157) rfl rfl, ini_X10, by decide +kernel, by decide +kernel, by decide +kernel⟩, lw_in3 (i := 155) (by decide +kernel) (by decide +kernel), lw_in3 (i := 156) (by decide +kernel) (by decide +kernel)⟩
set_option maxRecDepth 100000 in
theorem mv_X10_read : hMv yX10_read cX10_read 4 (some .int) 1 := ⟨⟨lw_in4 (i := 44) rfl rfl, ini_X10, by decide +kernel, by decide +kernel, by decide +kernel⟩, lw_in4 (i := 42) (by decide +kernel) (by decide +kernel), lw_in4 (i := 43) (by decide +kernel) (by decide +kernel)⟩
set_option maxRecDepth 100000 in
theorem mv_X10_alter : hMv yX10_alter cX10_alter 4 (some .int) 2 := ⟨⟨lw_in4 (i := 84) rfl rfl, ini_X10, by decide +kernel, by decide +kernel, by decide +kernel⟩, lw_in4 (i := 82) (by decide +kernel) (by decide +kernel), lw_in4 (i := 83) (by decide +kernel) (by decide +kernel)⟩
set_option maxRecDepth 100000 in
theorem mv_X10_cut : hMv yX10_cut cX10_cut 3 (some .int) 1 := ⟨⟨lw_in4 (i := 88) rfl rfl, ini_X10, by decide +kernel, by decide +kernel, by decide +kernel⟩, lw_in4 (i := 86) (by decide +kernel) (by decide +kernel), lw_in4 (i := 87) (by decide +kernel) (by decide +kernel)⟩
set_option maxRecDepth 100000 in
theorem mv_X10_byteOf : hMv yX10_byteOf cX10_byteOf 3 (some .int) 2 := ⟨⟨lw_in4 (i := 92) rfl rfl, ini_X10, by decide +kernel, by decide +kernel, by decide +kernel⟩, lw_in4 (i := 90) (by decide +kernel) (by decide +kernel), lw_in4 (i := 91) (by decide +kernel) (by decide +kernel)⟩
set_option maxRecDepth 100000 in
theorem mv_X10_hash : hMv yX10_hash cX10_hash 4 (some .int) 2 := ⟨⟨lw_in4 (i := 97) rfl rfl, ini_X10, by decide +kernel, by decide +kernel, by decide +kernel⟩, lw_in4 (i := 95) (by decide +kernel) (by decide +kernel), lw_in4 (i := 96) (by decide +kernel) (by decide +kernel)⟩
set_option maxRecDepth 100000 in
theorem mv_X10_about : hMv yX10_about cX10_about 4 (some .int) 2 := ⟨⟨lw_in4 (i := 101) rfl rfl, ini_X10, by decide +kernel, by decide +kernel, by decide +kernel⟩, lw_in4 (i := 99) (by decide +kernel) (by decide +kernel), lw_in4 (i := 100) (by decide +kernel) (by decide +kernel)⟩
set_option maxRecDepth 100000 in
theorem mv_X10_same : hMv yX10_same cX10_same 5 (some .int) 2 := ⟨⟨lw_in4 (i := 110) rfl rfl, ini_X10, by decide +kernel, by decide +kernel, by decide +kernel⟩, lw_in4 (i := 108) (by decide +kernel) (by decide +kernel), lw_in4 (i := 109) (by decide +kernel) (by decide +kernel)⟩
set_option maxRecDepth 100000 in
theorem mv_X10_key : hMv yX10_key cX10_key 4 (some .int) 3 := ⟨⟨lw_in4 (i := 121) rfl rfl, ini_X10, by decide +kernel, by decide +kernel, by decide +kernel⟩, lw_in4 (i := 119) (by decide +kernel) (by decide +kernel), lw_in4 (i := 120) (by decide +kernel) (by decide +kernel)⟩
set_option maxRecDepth 100000 in
theorem mv_X10_count : hMv yX10_count cX10_count 2 (some .int) 1 := ⟨⟨lw_in4 (i := 126) rfl rfl, ini_X10, by decide +kernel, by decide +kernel, by decide +kernel⟩, lw_in4 (i := 124) (by decide +kernel) (by decide +kernel), lw_in4 (i := 125) (by decide +kernel) (by decide +kernel)⟩
set_option maxRecDepth 100000 in
theorem mv_X10_digest : hMv yX10_digest cX10_digest 5 (some .long) 0 := ⟨⟨lw_in4 (i := 130) rfl rfl, ini_X10, by decide +kernel, by decide +kernel, by decide +kernel⟩, lw_in4 (i := 128) (by decide +kernel) (by decide +kernel), lw_in4 (i := 129) (by decide +kernel) (by decide +kernel)⟩
set_option maxRecDepth 100000 in
theorem mv_X10_patternAt : hMv yX10_patternAt cX10_patternAt 2 (some (.object "StepShake$Pattern")) 1 := ⟨⟨lw_in2 (i := 105) rfl rfl, ini_X10, by decide +kernel, by decide +kernel, by decide +kernel⟩, lw_in2 (i := 104) (by decide +kernel) (by decide +kernel), lw_mems (i := 0) (by decide +kernel) (by decide +kernel)⟩
set_option maxRecDepth 100000 in
theorem mv_X10_sideAt : hMv yX10_sideAt cX10_sideAt 2 (some (.object "StepShake$Side")) 1 := ⟨⟨lw_in3 (i := 145) rfl rfl, ini_X10, by decide +kernel, by decide +kernel, by decide +kernel⟩, lw_in3 (i := 144) (by decide +kernel) (by decide +kernel), lw_mems (i := 6) (by decide +kernel) (by decide +kernel)⟩
set_option maxRecDepth 100000 in
theorem ms_X10_bitsOf : hMs yX10_bitsOf cX10_bitsOf 6 (some .long) 3 := ⟨⟨lw_in3 (i := 33) rfl rfl, ini_X10, by decide +kernel, by decide +kernel, by decide +kernel⟩, lw_in3 (i := 32) (by decide +kernel) (by decide +kernel)⟩
set_option maxRecDepth 100000 in
theorem ms_X10_copyKey : hMs yX10_copyKey cX10_copyKey 2 none 2 := ⟨⟨lw_in3 (i := 23) rfl rfl, ini_X10, by decide +kernel, by decide +kernel, by decide +kernel⟩, lw_in3 (i := 22) (by decide +kernel) (by decide +kernel)⟩
set_option maxRecDepth 100000 in
theorem mi_X11_init : hMi yX11_init cX11_init 1 0 := ⟨⟨lw_in4 (i := 144) rfl rfl, ini_X11, by decide +kernel, by decide +kernel, by decide +kernel⟩, rfl, lw_in4 (i := 143) (by decide +kernel) (by decide +kernel)⟩
set_option maxRecDepth 100000 in
theorem ms_X11_in : hMs yX11_in cX11_in 3 (some .boolean) 3 := ⟨⟨lw_in5 (i := 183) rfl rfl, ini_X11, by decide +kernel, by decide +kernel, by decide +kernel⟩, lw_in5 (i := 182) (by decide +kernel) (by decide +kernel)⟩
set_option maxRecDepth 100000 in
theorem ms_X11_copy : hMs yX11_copy cX11_copy 6 none 5 := ⟨⟨lw_in6 (i := 13) rfl rfl, ini_X11, by decide +kernel, by decide +kernel, by decide +kernel⟩, lw_in6 (i := 12) (by decide +kernel) (by decide +kernel)⟩
set_option maxRecDepth 100000 in
theorem mv_X11_padded : hMv yX11_padded cX11_padded 3 (some .int) 2 := ⟨⟨lw_in5 (i := 235) rfl rfl, ini_X11, by decide +kernel, by decide +kernel, by decide +kernel⟩, lw_in5 (i := 234) (by decide +kernel) (by decide +kernel), lw_mems (i := 32) (by decide +kernel) (by decide +kernel)⟩
set_option maxRecDepth 100000 in
theorem ms_X11_turned : hMs yX11_turned cX11_turned 2 (some .int) 2 := ⟨⟨lw_in5 (i := 238) rfl rfl, ini_X11, by decide +kernel, by decide +kernel, by decide +kernel⟩, lw_in5 (i := 237) (by decide +kernel) (by decide +kernel)⟩
set_option maxRecDepth 100000 in
theorem mv_X11_block : hMv yX11_block cX11_block 14 none 2 := ⟨⟨lw_in5 (i := 231) rfl rfl, ini_X11, by decide +kernel, by decide +kernel, by decide +kernel⟩, lw_in5 (i := 230) (by decide +kernel) (by decide +kernel), lw_mems (i := 31) (by decide +kernel) (by decide +kernel)⟩
set_option maxRecDepth 100000 in
theorem mv_X11_hashes : hMv yX11_hashes cX11_hashes 5 none 2 := ⟨⟨lw_in5 (i := 227) rfl rfl, ini_X11, by decide +kernel, by decide +kernel, by decide +kernel⟩, lw_in5 (i := 226) (by decide +kernel) (by decide +kernel), lw_mems (i := 30) (by decide +kernel) (by decide +kernel)⟩
set_option maxRecDepth 100000 in
theorem mv_X11_lays : hMv yX11_lays cX11_lays 4 none 3 := ⟨⟨lw_in6 (i := 71) rfl rfl, ini_X11, by decide +kernel, by decide +kernel, by decide +kernel⟩, lw_in6 (i := 70) (by decide +kernel) (by decide +kernel), lw_mems (i := 47) (by decide +kernel) (by decide +kernel)⟩
set_option maxRecDepth 100000 in
theorem mv_X11_mac : hMv yX11_mac cX11_mac 9 none 7 := ⟨⟨lw_in6 (i := 147) rfl rfl, ini_X11, by decide +kernel, by decide +kernel, by decide +kernel⟩, lw_in6 (i := 146) (by decide +kernel) (by decide +kernel), lw_mems (i := 62) (by decide +kernel) (by decide +kernel)⟩
set_option maxRecDepth 100000 in
theorem mv_X11_keys : hMv yX11_keys cX11_keys 5 none 4 := ⟨⟨lw_in6 (i := 143) rfl rfl, ini_X11, by decide +kernel, by decide +kernel, by decide +kernel⟩, lw_in6 (i := 142) (by decide +kernel) (by decide +kernel), lw_mems (i := 61) (by decide +kernel) (by decide +kernel)⟩
set_option maxRecDepth 100000 in
theorem mv_X11_secret : hMv yX11_secret cX11_secret 6 none 4 := ⟨⟨lw_in5 (i := 223) rfl rfl, ini_X11, by decide +kernel, by decide +kernel, by decide +kernel⟩, lw_in5 (i := 222) (by decide +kernel) (by decide +kernel), lw_mems (i := 29) (by decide +kernel) (by decide +kernel)⟩
set_option maxRecDepth 100000 in
theorem mv_X11_carry : hMv yX11_carry cX11_carry 5 none 1 := ⟨⟨lw_in6 (i := 48) rfl rfl, ini_X11, by decide +kernel, by decide +kernel, by decide +kernel⟩, lw_in6 (i := 47) (by decide +kernel) (by decide +kernel), lw_mems (i := 43) (by decide +kernel) (by decide +kernel)⟩
set_option maxRecDepth 100000 in
theorem mv_X11_plus : hMv yX11_plus cX11_plus 5 none 3 := ⟨⟨lw_in6 (i := 35) rfl rfl, ini_X11, by decide +kernel, by decide +kernel, by decide +kernel⟩, lw_in6 (i := 34) (by decide +kernel) (by decide +kernel), lw_mems (i := 40) (by decide +kernel) (by decide +kernel)⟩
set_option maxRecDepth 100000 in
theorem mv_X11_minus : hMv yX11_minus cX11_minus 5 none 3 := ⟨⟨lw_in6 (i := 39) rfl rfl, ini_X11, by decide +kernel, by decide +kernel, by decide +kernel⟩, lw_in6 (i := 38) (by decide +kernel) (by decide +kernel), lw_mems (i := 41) (by decide +kernel) (by decide +kernel)⟩
set_option maxRecDepth 100000 in
theorem mv_X11_times : hMv yX11_times cX11_times 6 none 3 := ⟨⟨lw_in6 (i := 43) rfl rfl, ini_X11, by decide +kernel, by decide +kernel, by decide +kernel⟩, lw_in6 (i := 42) (by decide +kernel) (by decide +kernel), lw_mems (i := 42) (by decide +kernel) (by decide +kernel)⟩
set_option maxRecDepth 100000 in
theorem mv_X11_exchange : hMv yX11_exchange cX11_exchange 7 none 3 := ⟨⟨lw_in6 (i := 27) rfl rfl, ini_X11, by decide +kernel, by decide +kernel, by decide +kernel⟩, lw_in6 (i := 26) (by decide +kernel) (by decide +kernel), lw_mems (i := 38) (by decide +kernel) (by decide +kernel)⟩
set_option maxRecDepth 100000 in
theorem mv_X11_sets : hMv yX11_sets cX11_sets 5 none 2 := ⟨⟨lw_in6 (i := 19) rfl rfl, ini_X11, by decide +kernel, by decide +kernel, by decide +kernel⟩, lw_in6 (i := 18) (by decide +kernel) (by decide +kernel), lw_mems (i := 36) (by decide +kernel) (by decide +kernel)⟩
set_option maxRecDepth 100000 in
theorem mv_X11_copies : hMv yX11_copies cX11_copies 4 none 2 := ⟨⟨lw_in6 (i := 23) rfl rfl, ini_X11, by decide +kernel, by decide +kernel, by decide +kernel⟩, lw_in6 (i := 22) (by decide +kernel) (by decide +kernel), lw_mems (i := 37) (by decide +kernel) (by decide +kernel)⟩
set_option maxRecDepth 100000 in
theorem mv_X11_ladderStep : hMv yX11_ladderStep cX11_ladderStep 1 none 0 := ⟨⟨lw_in6 (i := 31) rfl rfl, ini_X11, by decide +kernel, by decide +kernel, by decide +kernel⟩, lw_in6 (i := 30) (by decide +kernel) (by decide +kernel), lw_mems (i := 39) (by decide +kernel) (by decide +kernel)⟩
set_option maxRecDepth 100000 in
theorem mv_X11_invert : hMv yX11_invert cX11_invert 2 none 0 := ⟨⟨lw_in6 (i := 53) rfl rfl, ini_X11, by decide +kernel, by decide +kernel, by decide +kernel⟩, lw_in6 (i := 52) (by decide +kernel) (by decide +kernel), lw_mems (i := 44) (by decide +kernel) (by decide +kernel)⟩
set_option maxRecDepth 100000 in
theorem mv_X11_packs : hMv yX11_packs cX11_packs 10 none 3 := ⟨⟨lw_in6 (i := 57) rfl rfl, ini_X11, by decide +kernel, by decide +kernel, by decide +kernel⟩, lw_in6 (i := 56) (by decide +kernel) (by decide +kernel), lw_mems (i := 45) (by decide +kernel) (by decide +kernel)⟩
set_option maxRecDepth 100000 in
theorem mv_X11_dh : hMv yX11_dh cX11_dh 9 none 6 := ⟨⟨lw_in6 (i := 10) rfl rfl, ini_X11, by decide +kernel, by decide +kernel, by decide +kernel⟩, lw_in6 (i := 9) (by decide +kernel) (by decide +kernel), lw_mems (i := 35) (by decide +kernel) (by decide +kernel)⟩
set_option maxRecDepth 100000 in
theorem mv_X11_publicOf : hMv yX11_publicOf cX11_publicOf 5 none 4 := ⟨⟨lw_in6 (i := 6) rfl rfl, ini_X11, by decide +kernel, by decide +kernel, by decide +kernel⟩, lw_in6 (i := 5) (by decide +kernel) (by decide +kernel), lw_mems (i := 34) (by decide +kernel) (by decide +kernel)⟩
set_option maxRecDepth 100000 in
theorem mv_X11_quarter : hMv yX11_quarter cX11_quarter 5 none 4 := ⟨⟨lw_in6 (i := 103) rfl rfl, ini_X11, by decide +kernel, by decide +kernel, by decide +kernel⟩, lw_in6 (i := 102) (by decide +kernel) (by decide +kernel), lw_mems (i := 51) (by decide +kernel) (by decide +kernel)⟩
set_option maxRecDepth 100000 in
theorem mv_X11_streams : hMv yX11_streams cX11_streams 7 none 4 := ⟨⟨lw_in6 (i := 95) rfl rfl, ini_X11, by decide +kernel, by decide +kernel, by decide +kernel⟩, lw_in6 (i := 94) (by decide +kernel) (by decide +kernel), lw_mems (i := 50) (by decide +kernel) (by decide +kernel)⟩
set_option maxRecDepth 100000 in
theorem mv_X11_adds : hMv yX11_adds cX11_adds 3 none 0 := ⟨⟨lw_in6 (i := 119) rfl rfl, ini_X11, by decide +kernel, by decide +kernel, by decide +kernel⟩, lw_in6 (i := 118) (by decide +kernel) (by decide +kernel), lw_mems (i := 55) (by decide +kernel) (by decide +kernel)⟩
set_option maxRecDepth 100000 in
theorem mv_X11_multiplies : hMv yX11_multiplies cX11_multiplies 4 none 0 := ⟨⟨lw_in6 (i := 123) rfl rfl, ini_X11, by decide +kernel, by decide +kernel, by decide +kernel⟩, lw_in6 (i := 122) (by decide +kernel) (by decide +kernel), lw_mems (i := 56) (by decide +kernel) (by decide +kernel)⟩
set_option maxRecDepth 100000 in
theorem mv_X11_tags : hMv yX11_tags cX11_tags 4 none 1 := ⟨⟨lw_in6 (i := 115) rfl rfl, ini_X11, by decide +kernel, by decide +kernel, by decide +kernel⟩, lw_in6 (i := 114) (by decide +kernel) (by decide +kernel), lw_mems (i := 54) (by decide +kernel) (by decide +kernel)⟩
set_option maxRecDepth 100000 in
theorem mv_X11_tellsLong : hMv yX11_tellsLong cX11_tellsLong 4 none 2 := ⟨⟨lw_in6 (i := 111) rfl rfl, ini_X11, by decide +kernel, by decide +kernel, by decide +kernel⟩, lw_in6 (i := 110) (by decide +kernel) (by decide +kernel), lw_mems (i := 53) (by decide +kernel) (by decide +kernel)⟩
set_option maxRecDepth 100000 in
theorem mv_X11_tagOf : hMv yX11_tagOf cX11_tagOf 12 none 9 := ⟨⟨lw_in6 (i := 107) rfl rfl, ini_X11, by decide +kernel, by decide +kernel, by decide +kernel⟩, lw_in6 (i := 106) (by decide +kernel) (by decide +kernel), lw_mems (i := 52) (by decide +kernel) (by decide +kernel)⟩
set_option maxRecDepth 100000 in
theorem mv_X11_ciphers : hMv yX11_ciphers cX11_ciphers 8 none 6 := ⟨⟨lw_in6 (i := 91) rfl rfl, ini_X11, by decide +kernel, by decide +kernel, by decide +kernel⟩, lw_in6 (i := 90) (by decide +kernel) (by decide +kernel), lw_mems (i := 49) (by decide +kernel) (by decide +kernel)⟩
set_option maxRecDepth 100000 in
theorem mv_X11_pattern : hMv yX11_pattern cX11_pattern 3 (some .int) 2 := ⟨⟨lw_in5 (i := 172) rfl rfl, ini_X11, by decide +kernel, by decide +kernel, by decide +kernel⟩, lw_in5 (i := 170) (by decide +kernel) (by decide +kernel), lw_in5 (i := 171) (by decide +kernel) (by decide +kernel)⟩
set_option maxRecDepth 100000 in
theorem mv_X11_isPattern : hMv yX11_isPattern cX11_isPattern 2 (some .boolean) 1 := ⟨⟨lw_in5 (i := 180) rfl rfl, ini_X11, by decide +kernel, by decide +kernel, by decide +kernel⟩, lw_in5 (i := 179) (by decide +kernel) (by decide +kernel), lw_mems (i := 23) (by decide +kernel) (by decide +kernel)⟩
set_option maxRecDepth 100000 in
theorem mv_X11_isUsed : hMv yX11_isUsed cX11_isUsed 3 (some .boolean) 1 := ⟨⟨lw_in5 (i := 187) rfl rfl, ini_X11, by decide +kernel, by decide +kernel, by decide +kernel⟩, lw_in5 (i := 186) (by decide +kernel) (by decide +kernel), lw_mems (i := 24) (by decide +kernel) (by decide +kernel)⟩
set_option maxRecDepth 100000 in
theorem mv_X11_message : hMv yX11_message cX11_message 2 (some .int) 1 := ⟨⟨lw_in5 (i := 176) rfl rfl, ini_X11, by decide +kernel, by decide +kernel, by decide +kernel⟩, lw_in5 (i := 174) (by decide +kernel) (by decide +kernel), lw_in5 (i := 175) (by decide +kernel) (by decide +kernel)⟩
set_option maxRecDepth 100000 in
theorem mv_X11_token : hMv yX11_token cX11_token 4 (some .int) 2 := ⟨⟨lw_in5 (i := 191) rfl rfl, ini_X11, by decide +kernel, by decide +kernel, by decide +kernel⟩, lw_in5 (i := 189) (by decide +kernel) (by decide +kernel), lw_in5 (i := 190) (by decide +kernel) (by decide +kernel)⟩
set_option maxRecDepth 100000 in
theorem mv_X11_seals : hMv yX11_seals cX11_seals 3 none 1 := ⟨⟨lw_in5 (i := 207) rfl rfl, ini_X11, by decide +kernel, by decide +kernel, by decide +kernel⟩, lw_in5 (i := 206) (by decide +kernel) (by decide +kernel), lw_mems (i := 27) (by decide +kernel) (by decide +kernel)⟩
set_option maxRecDepth 100000 in
theorem mv_X11_judges : hMv yX11_judges cX11_judges 5 none 2 := ⟨⟨lw_in5 (i := 203) rfl rfl, ini_X11, by decide +kernel, by decide +kernel, by decide +kernel⟩, lw_in5 (i := 202) (by decide +kernel) (by decide +kernel), lw_mems (i := 26) (by decide +kernel) (by decide +kernel)⟩
set_option maxRecDepth 100000 in
theorem mv_X11_faultOf : hMv yX11_faultOf cX11_faultOf 5 (some .int) 1 := ⟨⟨lw_in5 (i := 199) rfl rfl, ini_X11, by decide +kernel, by decide +kernel, by decide +kernel⟩, lw_in5 (i := 198) (by decide +kernel) (by decide +kernel), lw_mems (i := 25) (by decide +kernel) (by decide +kernel)⟩
set_option maxRecDepth 100000 in
theorem mv_X11_fault : hMv yX11_fault cX11_fault 2 (some .int) 1 := ⟨⟨lw_in5 (i := 195) rfl rfl, ini_X11, by decide +kernel, by decide +kernel, by decide +kernel⟩, lw_in5 (i := 193) (by decide +kernel) (by decide +kernel), lw_in5 (i := 194) (by decide +kernel) (by decide +kernel)⟩
set_option maxRecDepth 100000 in
theorem mv_X11_told : hMv yX11_told cX11_told 6 (some .int) 2 := ⟨⟨lw_in5 (i := 211) rfl rfl, ini_X11, by decide +kernel, by decide +kernel, by decide +kernel⟩, lw_in5 (i := 209) (by decide +kernel) (by decide +kernel), lw_in5 (i := 210) (by decide +kernel) (by decide +kernel)⟩
set_option maxRecDepth 100000 in
theorem mv_X11_isSide : hMv yX11_isSide cX11_isSide 2 (some .boolean) 1 := ⟨⟨lw_in6 (i := 79) rfl rfl, ini_X11, by decide +kernel, by decide +kernel, by decide +kernel⟩, lw_in6 (i := 78) (by decide +kernel) (by decide +kernel), lw_mems (i := 48) (by decide +kernel) (by decide +kernel)⟩
set_option maxRecDepth 100000 in
theorem mv_X11_copySide : hMv yX11_copySide cX11_copySide 5 none 2 := ⟨⟨lw_in6 (i := 167) rfl rfl, ini_X11, by decide +kernel, by decide +kernel, by decide +kernel⟩, lw_in6 (i := 166) (by decide +kernel) (by decide +kernel), lw_mems (i := 66) (by decide +kernel) (by decide +kernel)⟩
set_option maxRecDepth 100000 in
theorem mv_X11_mixHash : hMv yX11_mixHash cX11_mixHash 5 none 4 := ⟨⟨lw_in6 (i := 67) rfl rfl, ini_X11, by decide +kernel, by decide +kernel, by decide +kernel⟩, lw_in6 (i := 66) (by decide +kernel) (by decide +kernel), lw_mems (i := 46) (by decide +kernel) (by decide +kernel)⟩
set_option maxRecDepth 100000 in
theorem mv_X11_mixKey : hMv yX11_mixKey cX11_mixKey 2 none 1 := ⟨⟨lw_in6 (i := 139) rfl rfl, ini_X11, by decide +kernel, by decide +kernel, by decide +kernel⟩, lw_in6 (i := 138) (by decide +kernel) (by decide +kernel), lw_mems (i := 60) (by decide +kernel) (by decide +kernel)⟩
set_option maxRecDepth 100000 in
theorem ms_X11_nameByte : hMs yX11_nameByte cX11_nameByte 1 (some .int) 1 := ⟨⟨lw_in6 (i := 63) rfl rfl, ini_X11, by decide +kernel, by decide +kernel, by decide +kernel⟩, lw_in6 (i := 62) (by decide +kernel) (by decide +kernel)⟩
set_option maxRecDepth 100000 in
theorem mv_X11_begins : hMv yX11_begins cX11_begins 3 none 1 := ⟨⟨lw_in6 (i := 2) rfl rfl, ini_X11, by decide +kernel, by decide +kernel, by decide +kernel⟩, lw_in6 (i := 1) (by decide +kernel) (by decide +kernel), lw_mems (i := 33) (by decide +kernel) (by decide +kernel)⟩
set_option maxRecDepth 100000 in
theorem mv_X11_sendsS : hMv yX11_sendsS cX11_sendsS 6 (some .boolean) 2 := ⟨⟨lw_in5 (i := 219) rfl rfl, ini_X11, by decide +kernel, by decide +kernel, by decide +kernel⟩, lw_in5 (i := 218) (by decide +kernel) (by decide +kernel), lw_mems (i := 28) (by decide +kernel) (by decide +kernel)⟩
set_option maxRecDepth 100000 in
theorem mv_X11_side : hMv yX11_side cX11_side 8 (some .int) 5 := ⟨⟨lw_in5 (i := 215) rfl rfl, ini_X11, by decide +kernel, by decide +kernel, by decide +kernel⟩, lw_in5 (i := 213) (by decide +kernel) (by decide +kernel), lw_in5 (i := 214) (by decide +kernel) (by decide +kernel)⟩
set_option maxRecDepth 100000 in
theorem mv_X11_again : hMv yX11_again cX11_again 3 (some .int) 1 := ⟨⟨lw_in6 (i := 75) rfl rfl, ini_X11, by decide +kernel, by decide +kernel, by decide +kernel⟩, lw_in6 (i := 73) (by decide +kernel) (by decide +kernel), lw_in6 (i := 74) (by decide +kernel) (by decide +kernel)⟩
set_option maxRecDepth 100000 in
theorem mv_X11_feed : hMv yX11_feed cX11_feed 5 (some .int) 2 := ⟨⟨lw_in6 (i := 83) rfl rfl, ini_X11, by decide +kernel, by decide +kernel, by decide +kernel⟩, lw_in6 (i := 81) (by decide +kernel) (by decide +kernel), lw_in6 (i := 82) (by decide +kernel) (by decide +kernel)⟩
set_option maxRecDepth 100000 in
theorem mv_X11_shares : hMv yX11_shares cX11_shares 8 none 2 := ⟨⟨lw_in6 (i := 135) rfl rfl, ini_X11, by decide +kernel, by decide +kernel, by decide +kernel⟩, lw_in6 (i := 134) (by decide +kernel) (by decide +kernel), lw_mems (i := 59) (by decide +kernel) (by decide +kernel)⟩
set_option maxRecDepth 100000 in
theorem mv_X11_seal : hMv yX11_seal cX11_seal 6 (some .int) 4 := ⟨⟨lw_in6 (i := 131) rfl rfl, ini_X11, by decide +kernel, by decide +kernel, by decide +kernel⟩, lw_in6 (i := 130) (by decide +kernel) (by decide +kernel), lw_mems (i := 58) (by decide +kernel) (by decide +kernel)⟩
set_option maxRecDepth 100000 in
theorem mv_X11_isRight : hMv yX11_isRight cX11_isRight 5 (some .boolean) 2 := ⟨⟨lw_in6 (i := 163) rfl rfl, ini_X11, by decide +kernel, by decide +kernel, by decide +kernel⟩, lw_in6 (i := 162) (by decide +kernel) (by decide +kernel), lw_mems (i := 65) (by decide +kernel) (by decide +kernel)⟩
set_option maxRecDepth 100000 in
theorem mv_X11_open : hMv yX11_open cX11_open 7 (some .int) 5 := ⟨⟨lw_in6 (i := 179) rfl rfl, ini_X11, by decide +kernel, by decide +kernel, by decide +kernel⟩, lw_in6 (i := 178) (by decide +kernel) (by decide +kernel), lw_mems (i := 69) (by decide +kernel) (by decide +kernel)⟩
set_option maxRecDepth 100000 in
theorem mv_X11_ends : hMv yX11_ends cX11_ends 3 none 1 := ⟨⟨lw_in6 (i := 151) rfl rfl, ini_X11, by decide +kernel, by decide +kernel, by decide +kernel⟩, lw_in6 (i := 150) (by decide +kernel) (by decide +kernel), lw_mems (i := 63) (by decide +kernel) (by decide +kernel)⟩
set_option maxRecDepth 100000 in
theorem mv_X11_writesToken : hMv yX11_writesToken cX11_writesToken 4 (some .int) 3 := ⟨⟨lw_in6 (i := 127) rfl rfl, ini_X11, by decide +kernel, by decide +kernel, by decide +kernel⟩, lw_in6 (i := 126) (by decide +kernel) (by decide +kernel), lw_mems (i := 57) (by decide +kernel) (by decide +kernel)⟩
set_option maxRecDepth 100000 in
theorem mv_X11_write : hMv yX11_write cX11_write 5 (some .int) 1 := ⟨⟨lw_in6 (i := 87) rfl rfl, ini_X11, by decide +kernel, by decide +kernel, by decide +kernel⟩, lw_in6 (i := 85) (by decide +kernel) (by decide +kernel), lw_in6 (i := 86) (by decide +kernel) (by decide +kernel)⟩
set_option maxRecDepth 100000 in
theorem mv_X11_readsToken : hMv yX11_readsToken cX11_readsToken 5 (some .int) 3 := ⟨⟨lw_in6 (i := 175) rfl rfl, ini_X11, by decide +kernel, by decide +kernel, by decide +kernel⟩, lw_in6 (i := 174) (by decide +kernel) (by decide +kernel), lw_mems (i := 68) (by decide +kernel) (by decide +kernel)⟩
set_option maxRecDepth 100000 in
theorem mv_X11_readsDone : hMv yX11_readsDone cX11_readsDone 3 (some .int) 1 := ⟨⟨lw_in6 (i := 159) rfl rfl, ini_X11, by decide +kernel, by decide +kernel, by decide +kernel⟩, lw_in6 (i := 158) (by decide +kernel) (by decide +kernel), lw_mems (i := 64) (by decide +kernel) (by decide +kernel)⟩
set_option maxRecDepth 100000 in
theorem mv_X11_reads : hMv yX11_reads cX11_reads 5 (some .int) 1 := ⟨⟨lw_in6 (i := 171) rfl rfl, ini_X11, by decide +kernel, by decide +kernel, by decide +kernel⟩, lw_in6 (i := 170) (by decide +kernel) (by decide +kernel), lw_mems (i := 67) (by decide +kernel) (by decide +kernel)⟩
set_option maxRecDepth 100000 in
theorem mv_X11_read : hMv yX11_read cX11_read 3 (some .int) 1 := ⟨⟨lw_in6 (i := 155) rfl rfl, ini_X11, by decide +kernel, by decide +kernel, by decide +kernel⟩, lw_in6 (i := 153) (by decide +kernel) (by decide +kernel), lw_in6 (i := 154) (by decide +kernel) (by decide +kernel)⟩
set_option maxRecDepth 100000 in
theorem mv_X11_alter : hMv yX11_alter cX11_alter 4 (some .int) 2 := ⟨⟨lw_in6 (i := 183) rfl rfl, ini_X11, by decide +kernel, by decide +kernel, by decide +kernel⟩, lw_in6 (i := 181) (by decide +kernel) (by decide +kernel), lw_in6 (i := 182) (by decide +kernel) (by decide +kernel)⟩
set_option maxRecDepth 100000 in
theorem mv_X11_cut : hMv yX11_cut cX11_cut 3 (some .int) 1 := ⟨⟨lw_in6 (i := 187) rfl rfl, ini_X11, by decide +kernel, by decide +kernel, by decide +kernel⟩, lw_in6 (i := 185) (by decide +kernel) (by decide +kernel), lw_in6 (i := 186) (by decide +kernel) (by decide +kernel)⟩
set_option maxRecDepth 100000 in
theorem mv_X11_byteOf : hMv yX11_byteOf cX11_byteOf 4 (some .int) 2 := ⟨⟨lw_in6 (i := 191) rfl rfl, ini_X11, by decide +kernel, by decide +kernel, by decide +kernel⟩, lw_in6 (i := 189) (by decide +kernel) (by decide +kernel), lw_in6 (i := 190) (by decide +kernel) (by decide +kernel)⟩
set_option maxRecDepth 100000 in
theorem mv_X11_hash : hMv yX11_hash cX11_hash 3 (some .int) 2 := ⟨⟨lw_in6 (i := 195) rfl rfl, ini_X11, by decide +kernel, by decide +kernel, by decide +kernel⟩, lw_in6 (i := 193) (by decide +kernel) (by decide +kernel), lw_in6 (i := 194) (by decide +kernel) (by decide +kernel)⟩
set_option maxRecDepth 100000 in
theorem mv_X11_aboutOf : hMv yX11_aboutOf cX11_aboutOf 3 (some .int) 2 := ⟨⟨lw_in6 (i := 203) rfl rfl, ini_X11, by decide +kernel, by decide +kernel, by decide +kernel⟩, lw_in6 (i := 202) (by decide +kernel) (by decide +kernel), lw_mems (i := 70) (by decide +kernel) (by decide +kernel)⟩
set_option maxRecDepth 100000 in
theorem mv_X11_about : hMv yX11_about cX11_about 3 (some .int) 2 := ⟨⟨lw_in6 (i := 199) rfl rfl, ini_X11, by decide +kernel, by decide +kernel, by decide +kernel⟩, lw_in6 (i := 197) (by decide +kernel) (by decide +kernel), lw_in6 (i := 198) (by decide +kernel) (by decide +kernel)⟩
set_option maxRecDepth 100000 in
theorem mv_X11_same : hMv yX11_same cX11_same 7 (some .int) 2 := ⟨⟨lw_in6 (i := 207) rfl rfl, ini_X11, by decide +kernel, by decide +kernel, by decide +kernel⟩, lw_in6 (i := 205) (by decide +kernel) (by decide +kernel), lw_in6 (i := 206) (by decide +kernel) (by decide +kernel)⟩
set_option maxRecDepth 100000 in
theorem mv_X11_key : hMv yX11_key cX11_key 4 (some .int) 3 := ⟨⟨lw_in6 (i := 211) rfl rfl, ini_X11, by decide +kernel, by decide +kernel, by decide +kernel⟩, lw_in6 (i := 209) (by decide +kernel) (by decide +kernel), lw_in6 (i := 210) (by decide +kernel) (by decide +kernel)⟩
set_option maxRecDepth 100000 in
theorem mv_X11_count : hMv yX11_count cX11_count 2 (some .int) 1 := ⟨⟨lw_in6 (i := 215) rfl rfl, ini_X11, by decide +kernel, by decide +kernel, by decide +kernel⟩, lw_in6 (i := 213) (by decide +kernel) (by decide +kernel), lw_in6 (i := 214) (by decide +kernel) (by decide +kernel)⟩
set_option maxRecDepth 100000 in
theorem mv_X11_digest : hMv yX11_digest cX11_digest 5 (some .long) 0 := ⟨⟨lw_in6 (i := 219) rfl rfl, ini_X11, by decide +kernel, by decide +kernel, by decide +kernel⟩, lw_in6 (i := 217) (by decide +kernel) (by decide +kernel), lw_in6 (i := 218) (by decide +kernel) (by decide +kernel)⟩
end
