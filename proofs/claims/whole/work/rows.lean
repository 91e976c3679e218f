section
-- ===== PART A: goes FIRST, ahead of the names: the tables' words, and 'selects' of the private methods out of them =====
/-- a private method of a class that the tables say can be made, by its rows of tables_1 -/
def lw_okq (q : MethodName × Nat) : Prop := (q.1.cls ≠ "java/lang/invoke/MethodHandle" ∧ q.1.cls ≠ "java/lang/invoke/VarHandle") ∧ Cond.instantiable q.1.cls q.2 ∈ tables_1 ∧ Cond.privateMethod q.1 ∈ tables_1 ∧ Cond.instanceMethod q.1 ∈ tables_1
theorem lw_p0 : lw_okq (⟨"StepShake", "patternAt", "(I)LStepShake$Pattern;"⟩, 9) := ⟨⟨by decide +kernel, by decide +kernel⟩, List.mem_of_getElem? (i := 20) (by decide +kernel), List.mem_of_getElem? (i := 343) (by decide +kernel), List.mem_of_getElem? (i := 344) (by decide +kernel)⟩
theorem lw_p1 : lw_okq (⟨"StepShake$Pattern", "hasEmptyMessage", "()Z"⟩, 6) := ⟨⟨by decide +kernel, by decide +kernel⟩, List.mem_of_getElem? (i := 309) (by decide +kernel), List.mem_of_getElem? (i := 367) (by decide +kernel), List.mem_of_getElem? (i := 368) (by decide +kernel)⟩
theorem lw_p2 : lw_okq (⟨"StepShake$Sha", "addBlock", "()V"⟩, 4) := ⟨⟨by decide +kernel, by decide +kernel⟩, List.mem_of_getElem? (i := 58) (by decide +kernel), List.mem_of_getElem? (i := 486) (by decide +kernel), List.mem_of_getElem? (i := 487) (by decide +kernel)⟩
theorem lw_p3 : lw_okq (⟨"StepShake$Curve", "swap", "()V"⟩, 10) := ⟨⟨by decide +kernel, by decide +kernel⟩, List.mem_of_getElem? (i := 98) (by decide +kernel), List.mem_of_getElem? (i := 519) (by decide +kernel), List.mem_of_getElem? (i := 520) (by decide +kernel)⟩
theorem lw_p4 : lw_okq (⟨"StepShake$Curve", "step", "()V"⟩, 10) := ⟨⟨by decide +kernel, by decide +kernel⟩, List.mem_of_getElem? (i := 98) (by decide +kernel), List.mem_of_getElem? (i := 523) (by decide +kernel), List.mem_of_getElem? (i := 524) (by decide +kernel)⟩
theorem lw_p5 : lw_okq (⟨"StepShake$Talk", "mixHash", "(LStepShake$State;[III)V"⟩, 8) := ⟨⟨by decide +kernel, by decide +kernel⟩, List.mem_of_getElem? (i := 52) (by decide +kernel), List.mem_of_getElem? (i := 610) (by decide +kernel), List.mem_of_getElem? (i := 611) (by decide +kernel)⟩
theorem lw_p6 : lw_okq (⟨"StepShake", "sideAt", "(I)LStepShake$Side;"⟩, 9) := ⟨⟨by decide +kernel, by decide +kernel⟩, List.mem_of_getElem? (i := 20) (by decide +kernel), List.mem_of_getElem? (i := 623) (by decide +kernel), List.mem_of_getElem? (i := 624) (by decide +kernel)⟩
theorem lw_p7 : lw_okq (⟨"StepShake$Cipher", "prepare", "([II)V"⟩, 5) := ⟨⟨by decide +kernel, by decide +kernel⟩, List.mem_of_getElem? (i := 136) (by decide +kernel), List.mem_of_getElem? (i := 658) (by decide +kernel), List.mem_of_getElem? (i := 659) (by decide +kernel)⟩
theorem lw_p8 : lw_okq (⟨"StepShake$Cipher", "turn", "([III)V"⟩, 5) := ⟨⟨by decide +kernel, by decide +kernel⟩, List.mem_of_getElem? (i := 136) (by decide +kernel), List.mem_of_getElem? (i := 667) (by decide +kernel), List.mem_of_getElem? (i := 668) (by decide +kernel)⟩
theorem lw_p9 : lw_okq (⟨"StepShake$Cipher", "makeBlock", "(I)V"⟩, 5) := ⟨⟨by decide +kernel, by decide +kernel⟩, List.mem_of_getElem? (i := 136) (by decide +kernel), List.mem_of_getElem? (i := 671) (by decide +kernel), List.mem_of_getElem? (i := 672) (by decide +kernel)⟩
theorem lw_p10 : lw_okq (⟨"StepShake$Cipher", "quarter", "(IIII)V"⟩, 5) := ⟨⟨by decide +kernel, by decide +kernel⟩, List.mem_of_getElem? (i := 136) (by decide +kernel), List.mem_of_getElem? (i := 676) (by decide +kernel), List.mem_of_getElem? (i := 677) (by decide +kernel)⟩
theorem lw_p11 : lw_okq (⟨"StepShake$Cipher", "mix", "(IIII)V"⟩, 5) := ⟨⟨by decide +kernel, by decide +kernel⟩, List.mem_of_getElem? (i := 136) (by decide +kernel), List.mem_of_getElem? (i := 680) (by decide +kernel), List.mem_of_getElem? (i := 681) (by decide +kernel)⟩
theorem lw_p12 : lw_okq (⟨"StepShake$Cipher", "blockByte", "(I)I"⟩, 5) := ⟨⟨by decide +kernel, by decide +kernel⟩, List.mem_of_getElem? (i := 136) (by decide +kernel), List.mem_of_getElem? (i := 684) (by decide +kernel), List.mem_of_getElem? (i := 685) (by decide +kernel)⟩
theorem lw_p13 : lw_okq (⟨"StepShake$Cipher", "makeTag", "([I[III)V"⟩, 5) := ⟨⟨by decide +kernel, by decide +kernel⟩, List.mem_of_getElem? (i := 136) (by decide +kernel), List.mem_of_getElem? (i := 688) (by decide +kernel), List.mem_of_getElem? (i := 689) (by decide +kernel)⟩
theorem lw_p14 : lw_okq (⟨"StepShake$Tagger", "addBlock", "()V"⟩, 5) := ⟨⟨by decide +kernel, by decide +kernel⟩, List.mem_of_getElem? (i := 142) (by decide +kernel), List.mem_of_getElem? (i := 704) (by decide +kernel), List.mem_of_getElem? (i := 705) (by decide +kernel)⟩
theorem lw_p15 : lw_okq (⟨"StepShake$Talk", "sendE", "(LStepShake$Side;LStepShake$Row;)V"⟩, 8) := ⟨⟨by decide +kernel, by decide +kernel⟩, List.mem_of_getElem? (i := 52) (by decide +kernel), List.mem_of_getElem? (i := 729) (by decide +kernel), List.mem_of_getElem? (i := 730) (by decide +kernel)⟩
def lw_privs_1 : List (MethodName × Nat) := [(⟨"StepShake", "patternAt", "(I)LStepShake$Pattern;"⟩, 9), (⟨"StepShake$Pattern", "hasEmptyMessage", "()Z"⟩, 6), (⟨"StepShake$Sha", "addBlock", "()V"⟩, 4), (⟨"StepShake$Curve", "swap", "()V"⟩, 10), (⟨"StepShake$Curve", "step", "()V"⟩, 10), (⟨"StepShake$Talk", "mixHash", "(LStepShake$State;[III)V"⟩, 8), (⟨"StepShake", "sideAt", "(I)LStepShake$Side;"⟩, 9), (⟨"StepShake$Cipher", "prepare", "([II)V"⟩, 5), (⟨"StepShake$Cipher", "turn", "([III)V"⟩, 5), (⟨"StepShake$Cipher", "makeBlock", "(I)V"⟩, 5), (⟨"StepShake$Cipher", "quarter", "(IIII)V"⟩, 5), (⟨"StepShake$Cipher", "mix", "(IIII)V"⟩, 5), (⟨"StepShake$Cipher", "blockByte", "(I)I"⟩, 5), (⟨"StepShake$Cipher", "makeTag", "([I[III)V"⟩, 5), (⟨"StepShake$Tagger", "addBlock", "()V"⟩, 5), (⟨"StepShake$Talk", "sendE", "(LStepShake$Side;LStepShake$Row;)V"⟩, 8)]
theorem lw_r1 : ∀ q ∈ lw_privs_1, lw_okq q := List.forall_mem_cons.mpr ⟨lw_p0, List.forall_mem_cons.mpr ⟨lw_p1, List.forall_mem_cons.mpr ⟨lw_p2, List.forall_mem_cons.mpr ⟨lw_p3, List.forall_mem_cons.mpr ⟨lw_p4, List.forall_mem_cons.mpr ⟨lw_p5, List.forall_mem_cons.mpr ⟨lw_p6, List.forall_mem_cons.mpr ⟨lw_p7, List.forall_mem_cons.mpr ⟨lw_p8, List.forall_mem_cons.mpr ⟨lw_p9, List.forall_mem_cons.mpr ⟨lw_p10, List.forall_mem_cons.mpr ⟨lw_p11, List.forall_mem_cons.mpr ⟨lw_p12, List.forall_mem_cons.mpr ⟨lw_p13, List.forall_mem_cons.mpr ⟨lw_p14, List.forall_mem_cons.mpr ⟨lw_p15, fun _ h => absurd h List.not_mem_nil⟩⟩⟩⟩⟩⟩⟩⟩⟩⟩⟩⟩⟩⟩⟩⟩
theorem lw_p16 : lw_okq (⟨"StepShake$Talk", "seal", "(LStepShake$State;[IILStepShake$Row;)V"⟩, 8) := ⟨⟨by decide +kernel, by decide +kernel⟩, List.mem_of_getElem? (i := 52) (by decide +kernel), List.mem_of_getElem? (i := 733) (by decide +kernel), List.mem_of_getElem? (i := 734) (by decide +kernel)⟩
theorem lw_p17 : lw_okq (⟨"StepShake$Talk", "mixDh", "(LStepShake$Side;LStepShake$State;I)V"⟩, 8) := ⟨⟨by decide +kernel, by decide +kernel⟩, List.mem_of_getElem? (i := 52) (by decide +kernel), List.mem_of_getElem? (i := 737) (by decide +kernel), List.mem_of_getElem? (i := 738) (by decide +kernel)⟩
theorem lw_p18 : lw_okq (⟨"StepShake$Mac", "makeMac", "([I[II[I)V"⟩, 4) := ⟨⟨by decide +kernel, by decide +kernel⟩, List.mem_of_getElem? (i := 77) (by decide +kernel), List.mem_of_getElem? (i := 745) (by decide +kernel), List.mem_of_getElem? (i := 746) (by decide +kernel)⟩
theorem lw_p19 : lw_okq (⟨"StepShake$Mac", "beginWith", "([II)V"⟩, 4) := ⟨⟨by decide +kernel, by decide +kernel⟩, List.mem_of_getElem? (i := 77) (by decide +kernel), List.mem_of_getElem? (i := 749) (by decide +kernel), List.mem_of_getElem? (i := 750) (by decide +kernel)⟩
theorem lw_p20 : lw_okq (⟨"StepShake$Talk", "endMessage", "(LStepShake$Side;LStepShake$State;)V"⟩, 8) := ⟨⟨by decide +kernel, by decide +kernel⟩, List.mem_of_getElem? (i := 52) (by decide +kernel), List.mem_of_getElem? (i := 758) (by decide +kernel), List.mem_of_getElem? (i := 759) (by decide +kernel)⟩
theorem lw_p21 : lw_okq (⟨"StepShake$Talk", "takeE", "(LStepShake$Row;I)V"⟩, 8) := ⟨⟨by decide +kernel, by decide +kernel⟩, List.mem_of_getElem? (i := 52) (by decide +kernel), List.mem_of_getElem? (i := 793) (by decide +kernel), List.mem_of_getElem? (i := 794) (by decide +kernel)⟩
theorem lw_p22 : lw_okq (⟨"StepShake$Talk", "open", "(LStepShake$State;LStepShake$Row;IILStepShake$Row;)Z"⟩, 8) := ⟨⟨by decide +kernel, by decide +kernel⟩, List.mem_of_getElem? (i := 52) (by decide +kernel), List.mem_of_getElem? (i := 798) (by decide +kernel), List.mem_of_getElem? (i := 799) (by decide +kernel)⟩
theorem lw_p23 : lw_okq (⟨"StepShakeModel", "isPattern", "(I)Z"⟩, 63) := ⟨⟨by decide +kernel, by decide +kernel⟩, List.mem_of_getElem? (i := 861) (by decide +kernel), List.mem_of_getElem? (i := 1138) (by decide +kernel), List.mem_of_getElem? (i := 1139) (by decide +kernel)⟩
theorem lw_p24 : lw_okq (⟨"StepShakeModel", "isUsed", "(I)Z"⟩, 63) := ⟨⟨by decide +kernel, by decide +kernel⟩, List.mem_of_getElem? (i := 861) (by decide +kernel), List.mem_of_getElem? (i := 1145) (by decide +kernel), List.mem_of_getElem? (i := 1146) (by decide +kernel)⟩
theorem lw_p25 : lw_okq (⟨"StepShakeModel", "faultOf", "(I)I"⟩, 63) := ⟨⟨by decide +kernel, by decide +kernel⟩, List.mem_of_getElem? (i := 861) (by decide +kernel), List.mem_of_getElem? (i := 1157) (by decide +kernel), List.mem_of_getElem? (i := 1158) (by decide +kernel)⟩
theorem lw_p26 : lw_okq (⟨"StepShakeModel", "judges", "(II)V"⟩, 63) := ⟨⟨by decide +kernel, by decide +kernel⟩, List.mem_of_getElem? (i := 861) (by decide +kernel), List.mem_of_getElem? (i := 1161) (by decide +kernel), List.mem_of_getElem? (i := 1162) (by decide +kernel)⟩
theorem lw_p27 : lw_okq (⟨"StepShakeModel", "seals", "(I)V"⟩, 63) := ⟨⟨by decide +kernel, by decide +kernel⟩, List.mem_of_getElem? (i := 861) (by decide +kernel), List.mem_of_getElem? (i := 1165) (by decide +kernel), List.mem_of_getElem? (i := 1166) (by decide +kernel)⟩
theorem lw_p28 : lw_okq (⟨"StepShakeModel", "sendsS", "(II)Z"⟩, 63) := ⟨⟨by decide +kernel, by decide +kernel⟩, List.mem_of_getElem? (i := 861) (by decide +kernel), List.mem_of_getElem? (i := 1177) (by decide +kernel), List.mem_of_getElem? (i := 1178) (by decide +kernel)⟩
theorem lw_p29 : lw_okq (⟨"StepShakeModel", "secret", "(II[II)V"⟩, 63) := ⟨⟨by decide +kernel, by decide +kernel⟩, List.mem_of_getElem? (i := 861) (by decide +kernel), List.mem_of_getElem? (i := 1181) (by decide +kernel), List.mem_of_getElem? (i := 1182) (by decide +kernel)⟩
theorem lw_p30 : lw_okq (⟨"StepShakeModel", "hashes", "([II)V"⟩, 63) := ⟨⟨by decide +kernel, by decide +kernel⟩, List.mem_of_getElem? (i := 861) (by decide +kernel), List.mem_of_getElem? (i := 1185) (by decide +kernel), List.mem_of_getElem? (i := 1186) (by decide +kernel)⟩
theorem lw_p31 : lw_okq (⟨"StepShakeModel", "block", "(II)V"⟩, 63) := ⟨⟨by decide +kernel, by decide +kernel⟩, List.mem_of_getElem? (i := 861) (by decide +kernel), List.mem_of_getElem? (i := 1189) (by decide +kernel), List.mem_of_getElem? (i := 1190) (by decide +kernel)⟩
def lw_privs_2 : List (MethodName × Nat) := [(⟨"StepShake$Talk", "seal", "(LStepShake$State;[IILStepShake$Row;)V"⟩, 8), (⟨"StepShake$Talk", "mixDh", "(LStepShake$Side;LStepShake$State;I)V"⟩, 8), (⟨"StepShake$Mac", "makeMac", "([I[II[I)V"⟩, 4), (⟨"StepShake$Mac", "beginWith", "([II)V"⟩, 4), (⟨"StepShake$Talk", "endMessage", "(LStepShake$Side;LStepShake$State;)V"⟩, 8), (⟨"StepShake$Talk", "takeE", "(LStepShake$Row;I)V"⟩, 8), (⟨"StepShake$Talk", "open", "(LStepShake$State;LStepShake$Row;IILStepShake$Row;)Z"⟩, 8), (⟨"StepShakeModel", "isPattern", "(I)Z"⟩, 63), (⟨"StepShakeModel", "isUsed", "(I)Z"⟩, 63), (⟨"StepShakeModel", "faultOf", "(I)I"⟩, 63), (⟨"StepShakeModel", "judges", "(II)V"⟩, 63), (⟨"StepShakeModel", "seals", "(I)V"⟩, 63), (⟨"StepShakeModel", "sendsS", "(II)Z"⟩, 63), (⟨"StepShakeModel", "secret", "(II[II)V"⟩, 63), (⟨"StepShakeModel", "hashes", "([II)V"⟩, 63), (⟨"StepShakeModel", "block", "(II)V"⟩, 63)]
theorem lw_r2 : ∀ q ∈ lw_privs_2, lw_okq q := List.forall_mem_cons.mpr ⟨lw_p16, List.forall_mem_cons.mpr ⟨lw_p17, List.forall_mem_cons.mpr ⟨lw_p18, List.forall_mem_cons.mpr ⟨lw_p19, List.forall_mem_cons.mpr ⟨lw_p20, List.forall_mem_cons.mpr ⟨lw_p21, List.forall_mem_cons.mpr ⟨lw_p22, List.forall_mem_cons.mpr ⟨lw_p23, List.forall_mem_cons.mpr ⟨lw_p24, List.forall_mem_cons.mpr ⟨lw_p25, List.forall_mem_cons.mpr ⟨lw_p26, List.forall_mem_cons.mpr ⟨lw_p27, List.forall_mem_cons.mpr ⟨lw_p28, List.forall_mem_cons.mpr ⟨lw_p29, List.forall_mem_cons.mpr ⟨lw_p30, List.forall_mem_cons.mpr ⟨lw_p31, fun _ h => absurd h List.not_mem_nil⟩⟩⟩⟩⟩⟩⟩⟩⟩⟩⟩⟩⟩⟩⟩⟩
theorem lw_p32 : lw_okq (⟨"StepShakeModel", "padded", "(II)I"⟩, 63) := ⟨⟨by decide +kernel, by decide +kernel⟩, List.mem_of_getElem? (i := 861) (by decide +kernel), List.mem_of_getElem? (i := 1193) (by decide +kernel), List.mem_of_getElem? (i := 1194) (by decide +kernel)⟩
theorem lw_p33 : lw_okq (⟨"StepShakeModel", "begins", "(I)V"⟩, 63) := ⟨⟨by decide +kernel, by decide +kernel⟩, List.mem_of_getElem? (i := 861) (by decide +kernel), List.mem_of_getElem? (i := 1200) (by decide +kernel), List.mem_of_getElem? (i := 1201) (by decide +kernel)⟩
theorem lw_p34 : lw_okq (⟨"StepShakeModel", "publicOf", "([II[II)V"⟩, 63) := ⟨⟨by decide +kernel, by decide +kernel⟩, List.mem_of_getElem? (i := 861) (by decide +kernel), List.mem_of_getElem? (i := 1204) (by decide +kernel), List.mem_of_getElem? (i := 1205) (by decide +kernel)⟩
theorem lw_p35 : lw_okq (⟨"StepShakeModel", "dh", "([II[II[II)V"⟩, 63) := ⟨⟨by decide +kernel, by decide +kernel⟩, List.mem_of_getElem? (i := 861) (by decide +kernel), List.mem_of_getElem? (i := 1208) (by decide +kernel), List.mem_of_getElem? (i := 1209) (by decide +kernel)⟩
theorem lw_p36 : lw_okq (⟨"StepShakeModel", "sets", "(IJ)V"⟩, 63) := ⟨⟨by decide +kernel, by decide +kernel⟩, List.mem_of_getElem? (i := 861) (by decide +kernel), List.mem_of_getElem? (i := 1217) (by decide +kernel), List.mem_of_getElem? (i := 1218) (by decide +kernel)⟩
theorem lw_p37 : lw_okq (⟨"StepShakeModel", "copies", "(II)V"⟩, 63) := ⟨⟨by decide +kernel, by decide +kernel⟩, List.mem_of_getElem? (i := 861) (by decide +kernel), List.mem_of_getElem? (i := 1221) (by decide +kernel), List.mem_of_getElem? (i := 1222) (by decide +kernel)⟩
theorem lw_p38 : lw_okq (⟨"StepShakeModel", "exchange", "(IIZ)V"⟩, 63) := ⟨⟨by decide +kernel, by decide +kernel⟩, List.mem_of_getElem? (i := 861) (by decide +kernel), List.mem_of_getElem? (i := 1225) (by decide +kernel), List.mem_of_getElem? (i := 1226) (by decide +kernel)⟩
theorem lw_p39 : lw_okq (⟨"StepShakeModel", "ladderStep", "()V"⟩, 63) := ⟨⟨by decide +kernel, by decide +kernel⟩, List.mem_of_getElem? (i := 861) (by decide +kernel), List.mem_of_getElem? (i := 1229) (by decide +kernel), List.mem_of_getElem? (i := 1230) (by decide +kernel)⟩
theorem lw_p40 : lw_okq (⟨"StepShakeModel", "plus", "(III)V"⟩, 63) := ⟨⟨by decide +kernel, by decide +kernel⟩, List.mem_of_getElem? (i := 861) (by decide +kernel), List.mem_of_getElem? (i := 1233) (by decide +kernel), List.mem_of_getElem? (i := 1234) (by decide +kernel)⟩
theorem lw_p41 : lw_okq (⟨"StepShakeModel", "minus", "(III)V"⟩, 63) := ⟨⟨by decide +kernel, by decide +kernel⟩, List.mem_of_getElem? (i := 861) (by decide +kernel), List.mem_of_getElem? (i := 1237) (by decide +kernel), List.mem_of_getElem? (i := 1238) (by decide +kernel)⟩
theorem lw_p42 : lw_okq (⟨"StepShakeModel", "times", "(III)V"⟩, 63) := ⟨⟨by decide +kernel, by decide +kernel⟩, List.mem_of_getElem? (i := 861) (by decide +kernel), List.mem_of_getElem? (i := 1241) (by decide +kernel), List.mem_of_getElem? (i := 1242) (by decide +kernel)⟩
theorem lw_p43 : lw_okq (⟨"StepShakeModel", "carry", "(I)V"⟩, 63) := ⟨⟨by decide +kernel, by decide +kernel⟩, List.mem_of_getElem? (i := 861) (by decide +kernel), List.mem_of_getElem? (i := 1246) (by decide +kernel), List.mem_of_getElem? (i := 1247) (by decide +kernel)⟩
theorem lw_p44 : lw_okq (⟨"StepShakeModel", "invert", "()V"⟩, 63) := ⟨⟨by decide +kernel, by decide +kernel⟩, List.mem_of_getElem? (i := 861) (by decide +kernel), List.mem_of_getElem? (i := 1251) (by decide +kernel), List.mem_of_getElem? (i := 1252) (by decide +kernel)⟩
theorem lw_p45 : lw_okq (⟨"StepShakeModel", "packs", "(I[II)V"⟩, 63) := ⟨⟨by decide +kernel, by decide +kernel⟩, List.mem_of_getElem? (i := 861) (by decide +kernel), List.mem_of_getElem? (i := 1255) (by decide +kernel), List.mem_of_getElem? (i := 1256) (by decide +kernel)⟩
theorem lw_p46 : lw_okq (⟨"StepShakeModel", "mixHash", "(I[III)V"⟩, 63) := ⟨⟨by decide +kernel, by decide +kernel⟩, List.mem_of_getElem? (i := 861) (by decide +kernel), List.mem_of_getElem? (i := 1265) (by decide +kernel), List.mem_of_getElem? (i := 1266) (by decide +kernel)⟩
theorem lw_p47 : lw_okq (⟨"StepShakeModel", "lays", "([III)V"⟩, 63) := ⟨⟨by decide +kernel, by decide +kernel⟩, List.mem_of_getElem? (i := 861) (by decide +kernel), List.mem_of_getElem? (i := 1269) (by decide +kernel), List.mem_of_getElem? (i := 1270) (by decide +kernel)⟩
def lw_privs_3 : List (MethodName × Nat) := [(⟨"StepShakeModel", "padded", "(II)I"⟩, 63), (⟨"StepShakeModel", "begins", "(I)V"⟩, 63), (⟨"StepShakeModel", "publicOf", "([II[II)V"⟩, 63), (⟨"StepShakeModel", "dh", "([II[II[II)V"⟩, 63), (⟨"StepShakeModel", "sets", "(IJ)V"⟩, 63), (⟨"StepShakeModel", "copies", "(II)V"⟩, 63), (⟨"StepShakeModel", "exchange", "(IIZ)V"⟩, 63), (⟨"StepShakeModel", "ladderStep", "()V"⟩, 63), (⟨"StepShakeModel", "plus", "(III)V"⟩, 63), (⟨"StepShakeModel", "minus", "(III)V"⟩, 63), (⟨"StepShakeModel", "times", "(III)V"⟩, 63), (⟨"StepShakeModel", "carry", "(I)V"⟩, 63), (⟨"StepShakeModel", "invert", "()V"⟩, 63), (⟨"StepShakeModel", "packs", "(I[II)V"⟩, 63), (⟨"StepShakeModel", "mixHash", "(I[III)V"⟩, 63), (⟨"StepShakeModel", "lays", "([III)V"⟩, 63)]
theorem lw_r3 : ∀ q ∈ lw_privs_3, lw_okq q := List.forall_mem_cons.mpr ⟨lw_p32, List.forall_mem_cons.mpr ⟨lw_p33, List.forall_mem_cons.mpr ⟨lw_p34, List.forall_mem_cons.mpr ⟨lw_p35, List.forall_mem_cons.mpr ⟨lw_p36, List.forall_mem_cons.mpr ⟨lw_p37, List.forall_mem_cons.mpr ⟨lw_p38, List.forall_mem_cons.mpr ⟨lw_p39, List.forall_mem_cons.mpr ⟨lw_p40, List.forall_mem_cons.mpr ⟨lw_p41, List.forall_mem_cons.mpr ⟨lw_p42, List.forall_mem_cons.mpr ⟨lw_p43, List.forall_mem_cons.mpr ⟨lw_p44, List.forall_mem_cons.mpr ⟨lw_p45, List.forall_mem_cons.mpr ⟨lw_p46, List.forall_mem_cons.mpr ⟨lw_p47, fun _ h => absurd h List.not_mem_nil⟩⟩⟩⟩⟩⟩⟩⟩⟩⟩⟩⟩⟩⟩⟩⟩
theorem lw_p48 : lw_okq (⟨"StepShakeModel", "isSide", "(I)Z"⟩, 63) := ⟨⟨by decide +kernel, by decide +kernel⟩, List.mem_of_getElem? (i := 861) (by decide +kernel), List.mem_of_getElem? (i := 1277) (by decide +kernel), List.mem_of_getElem? (i := 1278) (by decide +kernel)⟩
theorem lw_p49 : lw_okq (⟨"StepShakeModel", "ciphers", "([III[III)V"⟩, 63) := ⟨⟨by decide +kernel, by decide +kernel⟩, List.mem_of_getElem? (i := 861) (by decide +kernel), List.mem_of_getElem? (i := 1289) (by decide +kernel), List.mem_of_getElem? (i := 1290) (by decide +kernel)⟩
theorem lw_p50 : lw_okq (⟨"StepShakeModel", "streams", "([IIII)V"⟩, 63) := ⟨⟨by decide +kernel, by decide +kernel⟩, List.mem_of_getElem? (i := 861) (by decide +kernel), List.mem_of_getElem? (i := 1293) (by decide +kernel), List.mem_of_getElem? (i := 1294) (by decide +kernel)⟩
theorem lw_p51 : lw_okq (⟨"StepShakeModel", "quarter", "(IIII)V"⟩, 63) := ⟨⟨by decide +kernel, by decide +kernel⟩, List.mem_of_getElem? (i := 861) (by decide +kernel), List.mem_of_getElem? (i := 1301) (by decide +kernel), List.mem_of_getElem? (i := 1302) (by decide +kernel)⟩
theorem lw_p52 : lw_okq (⟨"StepShakeModel", "tagOf", "([III[III[III)V"⟩, 63) := ⟨⟨by decide +kernel, by decide +kernel⟩, List.mem_of_getElem? (i := 861) (by decide +kernel), List.mem_of_getElem? (i := 1305) (by decide +kernel), List.mem_of_getElem? (i := 1306) (by decide +kernel)⟩
theorem lw_p53 : lw_okq (⟨"StepShakeModel", "tellsLong", "(II)V"⟩, 63) := ⟨⟨by decide +kernel, by decide +kernel⟩, List.mem_of_getElem? (i := 861) (by decide +kernel), List.mem_of_getElem? (i := 1309) (by decide +kernel), List.mem_of_getElem? (i := 1310) (by decide +kernel)⟩
theorem lw_p54 : lw_okq (⟨"StepShakeModel", "tags", "(I)V"⟩, 63) := ⟨⟨by decide +kernel, by decide +kernel⟩, List.mem_of_getElem? (i := 861) (by decide +kernel), List.mem_of_getElem? (i := 1313) (by decide +kernel), List.mem_of_getElem? (i := 1314) (by decide +kernel)⟩
theorem lw_p55 : lw_okq (⟨"StepShakeModel", "adds", "()V"⟩, 63) := ⟨⟨by decide +kernel, by decide +kernel⟩, List.mem_of_getElem? (i := 861) (by decide +kernel), List.mem_of_getElem? (i := 1317) (by decide +kernel), List.mem_of_getElem? (i := 1318) (by decide +kernel)⟩
theorem lw_p56 : lw_okq (⟨"StepShakeModel", "multiplies", "()V"⟩, 63) := ⟨⟨by decide +kernel, by decide +kernel⟩, List.mem_of_getElem? (i := 861) (by decide +kernel), List.mem_of_getElem? (i := 1321) (by decide +kernel), List.mem_of_getElem? (i := 1322) (by decide +kernel)⟩
theorem lw_p57 : lw_okq (⟨"StepShakeModel", "writesToken", "(III)I"⟩, 63) := ⟨⟨by decide +kernel, by decide +kernel⟩, List.mem_of_getElem? (i := 861) (by decide +kernel), List.mem_of_getElem? (i := 1325) (by decide +kernel), List.mem_of_getElem? (i := 1326) (by decide +kernel)⟩
theorem lw_p58 : lw_okq (⟨"StepShakeModel", "seal", "(I[III)I"⟩, 63) := ⟨⟨by decide +kernel, by decide +kernel⟩, List.mem_of_getElem? (i := 861) (by decide +kernel), List.mem_of_getElem? (i := 1329) (by decide +kernel), List.mem_of_getElem? (i := 1330) (by decide +kernel)⟩
theorem lw_p59 : lw_okq (⟨"StepShakeModel", "shares", "(II)V"⟩, 63) := ⟨⟨by decide +kernel, by decide +kernel⟩, List.mem_of_getElem? (i := 861) (by decide +kernel), List.mem_of_getElem? (i := 1333) (by decide +kernel), List.mem_of_getElem? (i := 1334) (by decide +kernel)⟩
theorem lw_p60 : lw_okq (⟨"StepShakeModel", "mixKey", "(I)V"⟩, 63) := ⟨⟨by decide +kernel, by decide +kernel⟩, List.mem_of_getElem? (i := 861) (by decide +kernel), List.mem_of_getElem? (i := 1337) (by decide +kernel), List.mem_of_getElem? (i := 1338) (by decide +kernel)⟩
theorem lw_p61 : lw_okq (⟨"StepShakeModel", "keys", "([II[II)V"⟩, 63) := ⟨⟨by decide +kernel, by decide +kernel⟩, List.mem_of_getElem? (i := 861) (by decide +kernel), List.mem_of_getElem? (i := 1341) (by decide +kernel), List.mem_of_getElem? (i := 1342) (by decide +kernel)⟩
theorem lw_p62 : lw_okq (⟨"StepShakeModel", "mac", "([II[III[II)V"⟩, 63) := ⟨⟨by decide +kernel, by decide +kernel⟩, List.mem_of_getElem? (i := 861) (by decide +kernel), List.mem_of_getElem? (i := 1345) (by decide +kernel), List.mem_of_getElem? (i := 1346) (by decide +kernel)⟩
theorem lw_p63 : lw_okq (⟨"StepShakeModel", "ends", "(I)V"⟩, 63) := ⟨⟨by decide +kernel, by decide +kernel⟩, List.mem_of_getElem? (i := 861) (by decide +kernel), List.mem_of_getElem? (i := 1349) (by decide +kernel), List.mem_of_getElem? (i := 1350) (by decide +kernel)⟩
def lw_privs_4 : List (MethodName × Nat) := [(⟨"StepShakeModel", "isSide", "(I)Z"⟩, 63), (⟨"StepShakeModel", "ciphers", "([III[III)V"⟩, 63), (⟨"StepShakeModel", "streams", "([IIII)V"⟩, 63), (⟨"StepShakeModel", "quarter", "(IIII)V"⟩, 63), (⟨"StepShakeModel", "tagOf", "([III[III[III)V"⟩, 63), (⟨"StepShakeModel", "tellsLong", "(II)V"⟩, 63), (⟨"StepShakeModel", "tags", "(I)V"⟩, 63), (⟨"StepShakeModel", "adds", "()V"⟩, 63), (⟨"StepShakeModel", "multiplies", "()V"⟩, 63), (⟨"StepShakeModel", "writesToken", "(III)I"⟩, 63), (⟨"StepShakeModel", "seal", "(I[III)I"⟩, 63), (⟨"StepShakeModel", "shares", "(II)V"⟩, 63), (⟨"StepShakeModel", "mixKey", "(I)V"⟩, 63), (⟨"StepShakeModel", "keys", "([II[II)V"⟩, 63), (⟨"StepShakeModel", "mac", "([II[III[II)V"⟩, 63), (⟨"StepShakeModel", "ends", "(I)V"⟩, 63)]
theorem lw_r4 : ∀ q ∈ lw_privs_4, lw_okq q := List.forall_mem_cons.mpr ⟨lw_p48, List.forall_mem_cons.mpr ⟨lw_p49, List.forall_mem_cons.mpr ⟨lw_p50, List.forall_mem_cons.mpr ⟨lw_p51, List.forall_mem_cons.mpr ⟨lw_p52, List.forall_mem_cons.mpr ⟨lw_p53, List.forall_mem_cons.mpr ⟨lw_p54, List.forall_mem_cons.mpr ⟨lw_p55, List.forall_mem_cons.mpr ⟨lw_p56, List.forall_mem_cons.mpr ⟨lw_p57, List.forall_mem_cons.mpr ⟨lw_p58, List.forall_mem_cons.mpr ⟨lw_p59, List.forall_mem_cons.mpr ⟨lw_p60, List.forall_mem_cons.mpr ⟨lw_p61, List.forall_mem_cons.mpr ⟨lw_p62, List.forall_mem_cons.mpr ⟨lw_p63, fun _ h => absurd h List.not_mem_nil⟩⟩⟩⟩⟩⟩⟩⟩⟩⟩⟩⟩⟩⟩⟩⟩
theorem lw_p64 : lw_okq (⟨"StepShakeModel", "readsDone", "(I)I"⟩, 63) := ⟨⟨by decide +kernel, by decide +kernel⟩, List.mem_of_getElem? (i := 861) (by decide +kernel), List.mem_of_getElem? (i := 1357) (by decide +kernel), List.mem_of_getElem? (i := 1358) (by decide +kernel)⟩
theorem lw_p65 : lw_okq (⟨"StepShakeModel", "isRight", "([II)Z"⟩, 63) := ⟨⟨by decide +kernel, by decide +kernel⟩, List.mem_of_getElem? (i := 861) (by decide +kernel), List.mem_of_getElem? (i := 1361) (by decide +kernel), List.mem_of_getElem? (i := 1362) (by decide +kernel)⟩
theorem lw_p66 : lw_okq (⟨"StepShakeModel", "copySide", "(II)V"⟩, 63) := ⟨⟨by decide +kernel, by decide +kernel⟩, List.mem_of_getElem? (i := 861) (by decide +kernel), List.mem_of_getElem? (i := 1365) (by decide +kernel), List.mem_of_getElem? (i := 1366) (by decide +kernel)⟩
theorem lw_p67 : lw_okq (⟨"StepShakeModel", "reads", "(I)I"⟩, 63) := ⟨⟨by decide +kernel, by decide +kernel⟩, List.mem_of_getElem? (i := 861) (by decide +kernel), List.mem_of_getElem? (i := 1369) (by decide +kernel), List.mem_of_getElem? (i := 1370) (by decide +kernel)⟩
theorem lw_p68 : lw_okq (⟨"StepShakeModel", "readsToken", "(III)I"⟩, 63) := ⟨⟨by decide +kernel, by decide +kernel⟩, List.mem_of_getElem? (i := 861) (by decide +kernel), List.mem_of_getElem? (i := 1373) (by decide +kernel), List.mem_of_getElem? (i := 1374) (by decide +kernel)⟩
theorem lw_p69 : lw_okq (⟨"StepShakeModel", "open", "(I[III[I)I"⟩, 63) := ⟨⟨by decide +kernel, by decide +kernel⟩, List.mem_of_getElem? (i := 861) (by decide +kernel), List.mem_of_getElem? (i := 1377) (by decide +kernel), List.mem_of_getElem? (i := 1378) (by decide +kernel)⟩
theorem lw_p70 : lw_okq (⟨"StepShakeModel", "aboutOf", "(II)I"⟩, 63) := ⟨⟨by decide +kernel, by decide +kernel⟩, List.mem_of_getElem? (i := 861) (by decide +kernel), List.mem_of_getElem? (i := 1401) (by decide +kernel), List.mem_of_getElem? (i := 1402) (by decide +kernel)⟩
def lw_privs_5 : List (MethodName × Nat) := [(⟨"StepShakeModel", "readsDone", "(I)I"⟩, 63), (⟨"StepShakeModel", "isRight", "([II)Z"⟩, 63), (⟨"StepShakeModel", "copySide", "(II)V"⟩, 63), (⟨"StepShakeModel", "reads", "(I)I"⟩, 63), (⟨"StepShakeModel", "readsToken", "(III)I"⟩, 63), (⟨"StepShakeModel", "open", "(I[III[I)I"⟩, 63), (⟨"StepShakeModel", "aboutOf", "(II)I"⟩, 63)]
theorem lw_r5 : ∀ q ∈ lw_privs_5, lw_okq q := List.forall_mem_cons.mpr ⟨lw_p64, List.forall_mem_cons.mpr ⟨lw_p65, List.forall_mem_cons.mpr ⟨lw_p66, List.forall_mem_cons.mpr ⟨lw_p67, List.forall_mem_cons.mpr ⟨lw_p68, List.forall_mem_cons.mpr ⟨lw_p69, List.forall_mem_cons.mpr ⟨lw_p70, fun _ h => absurd h List.not_mem_nil⟩⟩⟩⟩⟩⟩⟩
def lw_privs : List (MethodName × Nat) := lw_privs_1 ++ (lw_privs_2 ++ (lw_privs_3 ++ (lw_privs_4 ++ (lw_privs_5))))
def lw_tbl : List Cond := k2_sels lw_privs ++ tables_1
theorem lw_privs_ok : ∀ q ∈ lw_privs, lw_okq q := by
  show ∀ q ∈ lw_privs_1 ++ (lw_privs_2 ++ (lw_privs_3 ++ (lw_privs_4 ++ (lw_privs_5)))), lw_okq q
  exact List.forall_mem_append.mpr ⟨lw_r1, List.forall_mem_append.mpr ⟨lw_r2, List.forall_mem_append.mpr ⟨lw_r3, List.forall_mem_append.mpr ⟨lw_r4, lw_r5⟩⟩⟩⟩
end
section
/-! ===== BEGIN words of one list among another's, by their places ===== -/
theorem goodIn_r {big : List Cond} (ws : List Cond) (ps : List Nat) (hp : ws = ps.filterMap (fun i => big[i]?)) (h : ws.all goodWord = true) : GoodIn big ws := by
  intro w hw
  have h1 := List.all_eq_true.mp h w hw
  rw [hp] at hw
  obtain ⟨i, -, hi⟩ := List.mem_filterMap.mp hw
  have hm : w ∈ big := by first | exact List.mem_of_getElem? hi | exact List.getElem?_mem hi
  exact ⟨hm, good_of_word h1⟩
theorem goodIn_app {big a b : List Cond} (ha : GoodIn big a) (hb : GoodIn big b) : GoodIn big (a ++ b) := fun w h => (List.mem_append.mp h).elim (ha w) (hb w)
theorem goodIn_ca {big a b : List Cond} {c : Cond} (ha : GoodIn big (c :: a)) (hb : GoodIn big b) : GoodIn big (c :: (a ++ b)) := fun w h => (List.mem_cons.mp h).elim (fun e => ha w (List.mem_cons.mpr (Or.inl e))) (fun h => (List.mem_append.mp h).elim (fun h => ha w (List.mem_cons.mpr (Or.inr h))) (hb w))
theorem goodIn_sub {big ws : List Cond} (hm : ∀ w ∈ ws, w ∈ big) (h : ws.all goodWord = true) : GoodIn big ws := fun w hw => ⟨hm w hw, good_of_word (List.all_eq_true.mp h w hw)⟩
/-! ===== END ===== -/
/-! ===== BEGIN printed: names, fields, word lists, decode rows ===== -/
def RX0 : String := "StepShake$Cipher"
def TX0 : u_T := fun k => match k with
  | 0 => ("StepShake$Cipher", "start", "[I", true)
  | 1 => ("StepShake$Cipher", "mixed", "[I", true)
  | 2 => ("StepShake$Cipher", "tag", "[I", true)
  | 3 => ("StepShake$Cipher", "tagKey", "[I", true)
  | _ => ("StepShake$Cipher", "tagger", "LStepShake$Tagger;", true)
def tyX0 : Nat → FieldType := fun k => match k with
  | 0 => .array .int
  | 1 => .array .int
  | 2 => .array .int
  | 3 => .array .int
  | _ => .object "StepShake$Tagger"
theorem nmX0 : ∀ a, a < 5 → ∀ b, b < 5 → a ≠ b → (TX0 a).2.1 ≠ (TX0 b).2.1 := by decide +kernel
theorem tyX0_ok : ∀ k, k < 5 → parseFieldDescriptor (TX0 k).2.2.1 = some (tyX0 k) := by decide +kernel
abbrev cX0_init : ByteArray := prog_2_method_1_code
def yX0_init : MethodName := ⟨RX0, "<init>", "()V"⟩
abbrev cX0_seal : ByteArray := prog_2_method_2_code
def yX0_seal : MethodName := ⟨RX0, "seal", "([II[ILStepShake$Row;I)V"⟩
abbrev cX0_open : ByteArray := prog_2_method_3_code
def yX0_open : MethodName := ⟨RX0, "open", "([II[ILStepShake$Row;IILStepShake$Row;)Z"⟩
abbrev cX0_prepare : ByteArray := prog_2_method_4_code
def yX0_prepare : MethodName := ⟨RX0, "prepare", "([II)V"⟩
abbrev cX0_turn : ByteArray := prog_2_method_5_code
def yX0_turn : MethodName := ⟨RX0, "turn", "([III)V"⟩
abbrev cX0_makeTag : ByteArray := prog_2_method_6_code
def yX0_makeTag : MethodName := ⟨RX0, "makeTag", "([I[III)V"⟩
abbrev cX0_blockByte : ByteArray := prog_2_method_7_code
def yX0_blockByte : MethodName := ⟨RX0, "blockByte", "(I)I"⟩
abbrev cX0_makeBlock : ByteArray := prog_2_method_8_code
def yX0_makeBlock : MethodName := ⟨RX0, "makeBlock", "(I)V"⟩
abbrev cX0_quarter : ByteArray := prog_2_method_9_code
def yX0_quarter : MethodName := ⟨RX0, "quarter", "(IIII)V"⟩
abbrev cX0_mix : ByteArray := prog_2_method_10_code
def yX0_mix : MethodName := ⟨RX0, "mix", "(IIII)V"⟩
def RX1 : String := "StepShake$Curve"
def TX1 : u_T := fun k => match k with
  | 0 => ("StepShake$Curve", "scalar", "[I", true)
  | 1 => ("StepShake$Curve", "x1", "[J", true)
  | 2 => ("StepShake$Curve", "x2", "[J", false)
  | 3 => ("StepShake$Curve", "z2", "[J", false)
  | 4 => ("StepShake$Curve", "x3", "[J", false)
  | 5 => ("StepShake$Curve", "z3", "[J", false)
  | 6 => ("StepShake$Curve", "a", "[J", true)
  | 7 => ("StepShake$Curve", "b", "[J", true)
  | 8 => ("StepShake$Curve", "c", "[J", true)
  | _ => ("StepShake$Curve", "d", "[J", true)
def tyX1 : Nat → FieldType := fun k => match k with
  | 0 => .array .int
  | 1 => .array .long
  | 2 => .array .long
  | 3 => .array .long
  | 4 => .array .long
  | 5 => .array .long
  | 6 => .array .long
  | 7 => .array .long
  | 8 => .array .long
  | _ => .array .long
theorem nmX1 : ∀ a, a < 10 → ∀ b, b < 10 → a ≠ b → (TX1 a).2.1 ≠ (TX1 b).2.1 := by decide +kernel
theorem tyX1_ok : ∀ k, k < 10 → parseFieldDescriptor (TX1 k).2.2.1 = some (tyX1 k) := by decide +kernel
abbrev cX1_init : ByteArray := prog_3_method_1_code
def yX1_init : MethodName := ⟨RX1, "<init>", "()V"⟩
abbrev cX1_multiplyPoint : ByteArray := prog_3_method_2_code
def yX1_multiplyPoint : MethodName := ⟨RX1, "multiplyPoint", "([I[I[I)V"⟩
abbrev cX1_swap : ByteArray := prog_3_method_3_code
def yX1_swap : MethodName := ⟨RX1, "swap", "()V"⟩
abbrev cX1_step : ByteArray := prog_3_method_4_code
def yX1_step : MethodName := ⟨RX1, "step", "()V"⟩
abbrev cX1_invert : ByteArray := prog_3_method_5_code
def yX1_invert : MethodName := ⟨RX1, "invert", "([J[J)V"⟩
abbrev cX1_setSmall : ByteArray := prog_3_method_6_code
def yX1_setSmall : MethodName := ⟨RX1, "setSmall", "([JI)V"⟩
abbrev cX1_add : ByteArray := prog_3_method_7_code
def yX1_add : MethodName := ⟨RX1, "add", "([J[J[J)V"⟩
abbrev cX1_subtract : ByteArray := prog_3_method_8_code
def yX1_subtract : MethodName := ⟨RX1, "subtract", "([J[J[J)V"⟩
abbrev cX1_scale : ByteArray := prog_3_method_9_code
def yX1_scale : MethodName := ⟨RX1, "scale", "([J[J)V"⟩
abbrev cX1_multiply : ByteArray := prog_3_method_10_code
def yX1_multiply : MethodName := ⟨RX1, "multiply", "([J[J[J)V"⟩
abbrev cX1_width : ByteArray := prog_3_method_11_code
def yX1_width : MethodName := ⟨RX1, "width", "(I)I"⟩
abbrev cX1_carry : ByteArray := prog_3_method_12_code
def yX1_carry : MethodName := ⟨RX1, "carry", "([J)V"⟩
abbrev cX1_unpack : ByteArray := prog_3_method_13_code
def yX1_unpack : MethodName := ⟨RX1, "unpack", "([I[J)V"⟩
abbrev cX1_pack : ByteArray := prog_3_method_14_code
def yX1_pack : MethodName := ⟨RX1, "pack", "([J[I)V"⟩
def RX2 : String := "StepShake$Mac"
def TX2 : u_T := fun k => match k with
  | 0 => ("StepShake$Mac", "sha", "LStepShake$Sha;", true)
  | 1 => ("StepShake$Mac", "inner", "[I", true)
  | 2 => ("StepShake$Mac", "middle", "[I", true)
  | _ => ("StepShake$Mac", "text", "[I", true)
def tyX2 : Nat → FieldType := fun k => match k with
  | 0 => .object "StepShake$Sha"
  | 1 => .array .int
  | 2 => .array .int
  | _ => .array .int
theorem nmX2 : ∀ a, a < 4 → ∀ b, b < 4 → a ≠ b → (TX2 a).2.1 ≠ (TX2 b).2.1 := by decide +kernel
theorem tyX2_ok : ∀ k, k < 4 → parseFieldDescriptor (TX2 k).2.2.1 = some (tyX2 k) := by decide +kernel
abbrev cX2_init : ByteArray := prog_4_method_1_code
def yX2_init : MethodName := ⟨RX2, "<init>", "()V"⟩
abbrev cX2_makeKeys : ByteArray := prog_4_method_2_code
def yX2_makeKeys : MethodName := ⟨RX2, "makeKeys", "([I[II[I[I)V"⟩
abbrev cX2_makeMac : ByteArray := prog_4_method_3_code
def yX2_makeMac : MethodName := ⟨RX2, "makeMac", "([I[II[I)V"⟩
abbrev cX2_beginWith : ByteArray := prog_4_method_4_code
def yX2_beginWith : MethodName := ⟨RX2, "beginWith", "([II)V"⟩
def RX3 : String := "StepShake$Pattern"
def TX3 : u_T := fun k => match k with
  | 0 => ("StepShake$Pattern", "knownFirst", "Z", true)
  | 1 => ("StepShake$Pattern", "knownSecond", "Z", true)
  | 2 => ("StepShake$Pattern", "tokens", "[[I", true)
  | 3 => ("StepShake$Pattern", "sizes", "[I", true)
  | 4 => ("StepShake$Pattern", "messages", "I", false)
  | _ => ("StepShake$Pattern", "hasSide", "Z", false)
def tyX3 : Nat → FieldType := fun k => match k with
  | 0 => .boolean
  | 1 => .boolean
  | 2 => .array (.array .int)
  | 3 => .array .int
  | 4 => .int
  | _ => .boolean
theorem nmX3 : ∀ a, a < 6 → ∀ b, b < 6 → a ≠ b → (TX3 a).2.1 ≠ (TX3 b).2.1 := by decide +kernel
theorem tyX3_ok : ∀ k, k < 6 → parseFieldDescriptor (TX3 k).2.2.1 = some (tyX3 k) := by decide +kernel
abbrev cX3_init : ByteArray := prog_5_method_1_code
def yX3_init : MethodName := ⟨RX3, "<init>", "(ZZ)V"⟩
abbrev cX3_addMessage : ByteArray := prog_5_method_2_code
def yX3_addMessage : MethodName := ⟨RX3, "addMessage", "()I"⟩
abbrev cX3_addToken : ByteArray := prog_5_method_3_code
def yX3_addToken : MethodName := ⟨RX3, "addToken", "(I)I"⟩
abbrev cX3_sizeOf : ByteArray := prog_5_method_4_code
def yX3_sizeOf : MethodName := ⟨RX3, "sizeOf", "(I)I"⟩
abbrev cX3_tokenAt : ByteArray := prog_5_method_5_code
def yX3_tokenAt : MethodName := ⟨RX3, "tokenAt", "(II)I"⟩
abbrev cX3_isKnownAhead : ByteArray := prog_5_method_6_code
def yX3_isKnownAhead : MethodName := ⟨RX3, "isKnownAhead", "(I)Z"⟩
abbrev cX3_sendsS : ByteArray := prog_5_method_7_code
def yX3_sendsS : MethodName := ⟨RX3, "sendsS", "(I)Z"⟩
abbrev cX3_tell : ByteArray := prog_5_method_8_code
def yX3_tell : MethodName := ⟨RX3, "tell", "(I)I"⟩
abbrev cX3_findFault : ByteArray := prog_5_method_9_code
def yX3_findFault : MethodName := ⟨RX3, "findFault", "()I"⟩
abbrev cX3_hasEmptyMessage : ByteArray := prog_5_method_10_code
def yX3_hasEmptyMessage : MethodName := ⟨RX3, "hasEmptyMessage", "()Z"⟩
abbrev cX3_faultAt : ByteArray := prog_5_method_11_code
def yX3_faultAt : MethodName := ⟨RX3, "faultAt", "(IIII)I"⟩
abbrev cX3_keyBit : ByteArray := prog_5_method_12_code
def yX3_keyBit : MethodName := ⟨RX3, "keyBit", "(II)I"⟩
abbrev cX3_did : ByteArray := prog_5_method_13_code
def yX3_did : MethodName := ⟨RX3, "did", "(II)Z"⟩
abbrev cX3_sealsTooSoon : ByteArray := prog_5_method_14_code
def yX3_sealsTooSoon : MethodName := ⟨RX3, "sealsTooSoon", "(II)Z"⟩
def RX4 : String := "StepShake$Row"
def TX4 : u_T := fun k => match k with
  | 0 => ("StepShake$Row", "bytes", "[I", true)
  | _ => ("StepShake$Row", "size", "I", false)
def tyX4 : Nat → FieldType := fun k => match k with
  | 0 => .array .int
  | _ => .int
theorem nmX4 : ∀ a, a < 2 → ∀ b, b < 2 → a ≠ b → (TX4 a).2.1 ≠ (TX4 b).2.1 := by decide +kernel
theorem tyX4_ok : ∀ k, k < 2 → parseFieldDescriptor (TX4 k).2.2.1 = some (tyX4 k) := by decide +kernel
abbrev cX4_init : ByteArray := prog_6_method_1_code
def yX4_init : MethodName := ⟨RX4, "<init>", "(I)V"⟩
abbrev cX4_put : ByteArray := prog_6_method_2_code
def yX4_put : MethodName := ⟨RX4, "put", "(I)V"⟩
abbrev cX4_putAll : ByteArray := prog_6_method_3_code
def yX4_putAll : MethodName := ⟨RX4, "putAll", "([III)V"⟩
abbrev cX4_at : ByteArray := prog_6_method_4_code
def yX4_at : MethodName := ⟨RX4, "at", "(I)I"⟩
abbrev cX4_addTo : ByteArray := prog_6_method_5_code
def yX4_addTo : MethodName := ⟨RX4, "addTo", "(J)J"⟩
def RX5 : String := "StepShake$Sha"
def TX5 : u_T := fun k => match k with
  | 0 => ("StepShake$Sha", "sums", "[I", true)
  | 1 => ("StepShake$Sha", "words", "[I", true)
  | 2 => ("StepShake$Sha", "filled", "I", false)
  | _ => ("StepShake$Sha", "length", "I", false)
def tyX5 : Nat → FieldType := fun k => match k with
  | 0 => .array .int
  | 1 => .array .int
  | 2 => .int
  | _ => .int
theorem nmX5 : ∀ a, a < 4 → ∀ b, b < 4 → a ≠ b → (TX5 a).2.1 ≠ (TX5 b).2.1 := by decide +kernel
theorem tyX5_ok : ∀ k, k < 4 → parseFieldDescriptor (TX5 k).2.2.1 = some (tyX5 k) := by decide +kernel
abbrev cX5_init : ByteArray := prog_7_method_1_code
def yX5_init : MethodName := ⟨RX5, "<init>", "()V"⟩
abbrev cX5_begin : ByteArray := prog_7_method_2_code
def yX5_begin : MethodName := ⟨RX5, "begin", "()V"⟩
abbrev cX5_add : ByteArray := prog_7_method_3_code
def yX5_add : MethodName := ⟨RX5, "add", "([III)V"⟩
abbrev cX5_addNumber : ByteArray := prog_7_method_4_code
def yX5_addNumber : MethodName := ⟨RX5, "addNumber", "(I)V"⟩
abbrev cX5_addByte : ByteArray := prog_7_method_5_code
def yX5_addByte : MethodName := ⟨RX5, "addByte", "(I)V"⟩
abbrev cX5_finish : ByteArray := prog_7_method_6_code
def yX5_finish : MethodName := ⟨RX5, "finish", "([I)V"⟩
abbrev cX5_addBlock : ByteArray := prog_7_method_7_code
def yX5_addBlock : MethodName := ⟨RX5, "addBlock", "()V"⟩
def RX6 : String := "StepShake$Side"
def TX6 : u_T := fun k => match k with
  | 0 => ("StepShake$Side", "pattern", "LStepShake$Pattern;", true)
  | 1 => ("StepShake$Side", "patternNumber", "I", true)
  | 2 => ("StepShake$Side", "hand", "I", true)
  | 3 => ("StepShake$Side", "seedE", "I", true)
  | 4 => ("StepShake$Side", "secretS", "[I", true)
  | 5 => ("StepShake$Side", "publicS", "[I", true)
  | 6 => ("StepShake$Side", "toldS", "[I", true)
  | 7 => ("StepShake$Side", "wasTold", "Z", false)
  | _ => ("StepShake$Side", "state", "LStepShake$State;", true)
def tyX6 : Nat → FieldType := fun k => match k with
  | 0 => .object "StepShake$Pattern"
  | 1 => .int
  | 2 => .int
  | 3 => .int
  | 4 => .array .int
  | 5 => .array .int
  | 6 => .array .int
  | 7 => .boolean
  | _ => .object "StepShake$State"
theorem nmX6 : ∀ a, a < 9 → ∀ b, b < 9 → a ≠ b → (TX6 a).2.1 ≠ (TX6 b).2.1 := by decide +kernel
theorem tyX6_ok : ∀ k, k < 9 → parseFieldDescriptor (TX6 k).2.2.1 = some (tyX6 k) := by decide +kernel
abbrev cX6_init : ByteArray := prog_8_method_1_code
def yX6_init : MethodName := ⟨RX6, "<init>", "(LStepShake$Pattern;III)V"⟩
abbrev cX6_isDone : ByteArray := prog_8_method_2_code
def yX6_isDone : MethodName := ⟨RX6, "isDone", "()Z"⟩
abbrev cX6_isNext : ByteArray := prog_8_method_3_code
def yX6_isNext : MethodName := ⟨RX6, "isNext", "()Z"⟩
abbrev cX6_leastLetter : ByteArray := prog_8_method_4_code
def yX6_leastLetter : MethodName := ⟨RX6, "leastLetter", "()I"⟩
abbrev cX6_tell : ByteArray := prog_8_method_5_code
def yX6_tell : MethodName := ⟨RX6, "tell", "(I)I"⟩
def RX7 : String := "StepShake$State"
def TX7 : u_T := fun k => match k with
  | 0 => ("StepShake$State", "ck", "[I", true)
  | 1 => ("StepShake$State", "h", "[I", true)
  | 2 => ("StepShake$State", "k", "[I", true)
  | 3 => ("StepShake$State", "takeKey", "[I", true)
  | 4 => ("StepShake$State", "ownE", "[I", true)
  | 5 => ("StepShake$State", "otherE", "[I", true)
  | 6 => ("StepShake$State", "otherS", "[I", true)
  | 7 => ("StepShake$State", "hasKey", "Z", false)
  | 8 => ("StepShake$State", "knowsE", "Z", false)
  | 9 => ("StepShake$State", "knowsS", "Z", false)
  | 10 => ("StepShake$State", "n", "I", false)
  | 11 => ("StepShake$State", "takeCount", "I", false)
  | 12 => ("StepShake$State", "used", "I", false)
  | _ => ("StepShake$State", "messages", "I", false)
def tyX7 : Nat → FieldType := fun k => match k with
  | 0 => .array .int
  | 1 => .array .int
  | 2 => .array .int
  | 3 => .array .int
  | 4 => .array .int
  | 5 => .array .int
  | 6 => .array .int
  | 7 => .boolean
  | 8 => .boolean
  | 9 => .boolean
  | 10 => .int
  | 11 => .int
  | 12 => .int
  | _ => .int
theorem nmX7 : ∀ a, a < 14 → ∀ b, b < 14 → a ≠ b → (TX7 a).2.1 ≠ (TX7 b).2.1 := by decide +kernel
theorem tyX7_ok : ∀ k, k < 14 → parseFieldDescriptor (TX7 k).2.2.1 = some (tyX7 k) := by decide +kernel
abbrev cX7_init : ByteArray := prog_9_method_1_code
def yX7_init : MethodName := ⟨RX7, "<init>", "()V"⟩
abbrev cX7_copyFrom : ByteArray := prog_9_method_2_code
def yX7_copyFrom : MethodName := ⟨RX7, "copyFrom", "(LStepShake$State;)V"⟩
abbrev cX7_fits : ByteArray := prog_9_method_3_code
def yX7_fits : MethodName := ⟨RX7, "fits", "(LStepShake$State;)Z"⟩
abbrev cX7_alike : ByteArray := prog_9_method_4_code
def yX7_alike : MethodName := ⟨RX7, "alike", "([I[I)Z"⟩
def RX8 : String := "StepShake$Tagger"
def TX8 : u_T := fun k => match k with
  | 0 => ("StepShake$Tagger", "factor", "[J", true)
  | 1 => ("StepShake$Tagger", "sum", "[J", true)
  | 2 => ("StepShake$Tagger", "product", "[J", true)
  | 3 => ("StepShake$Tagger", "block", "[I", true)
  | _ => ("StepShake$Tagger", "last", "[I", true)
def tyX8 : Nat → FieldType := fun k => match k with
  | 0 => .array .long
  | 1 => .array .long
  | 2 => .array .long
  | 3 => .array .int
  | _ => .array .int
theorem nmX8 : ∀ a, a < 5 → ∀ b, b < 5 → a ≠ b → (TX8 a).2.1 ≠ (TX8 b).2.1 := by decide +kernel
theorem tyX8_ok : ∀ k, k < 5 → parseFieldDescriptor (TX8 k).2.2.1 = some (tyX8 k) := by decide +kernel
abbrev cX8_init : ByteArray := prog_10_method_1_code
def yX8_init : MethodName := ⟨RX8, "<init>", "()V"⟩
abbrev cX8_begin : ByteArray := prog_10_method_2_code
def yX8_begin : MethodName := ⟨RX8, "begin", "([I)V"⟩
abbrev cX8_addPadded : ByteArray := prog_10_method_3_code
def yX8_addPadded : MethodName := ⟨RX8, "addPadded", "([III)V"⟩
abbrev cX8_addSizes : ByteArray := prog_10_method_4_code
def yX8_addSizes : MethodName := ⟨RX8, "addSizes", "(II)V"⟩
abbrev cX8_finish : ByteArray := prog_10_method_5_code
def yX8_finish : MethodName := ⟨RX8, "finish", "([I)V"⟩
abbrev cX8_clampOf : ByteArray := prog_10_method_6_code
def yX8_clampOf : MethodName := ⟨RX8, "clampOf", "(I)I"⟩
abbrev cX8_addBlock : ByteArray := prog_10_method_7_code
def yX8_addBlock : MethodName := ⟨RX8, "addBlock", "()V"⟩
def RX9 : String := "StepShake$Talk"
def TX9 : u_T := fun k => match k with
  | 0 => ("StepShake$Talk", "sha", "LStepShake$Sha;", true)
  | 1 => ("StepShake$Talk", "mac", "LStepShake$Mac;", true)
  | 2 => ("StepShake$Talk", "curve", "LStepShake$Curve;", true)
  | 3 => ("StepShake$Talk", "cipher", "LStepShake$Cipher;", true)
  | 4 => ("StepShake$Talk", "trial", "LStepShake$State;", true)
  | 5 => ("StepShake$Talk", "secret", "[I", true)
  | 6 => ("StepShake$Talk", "point", "[I", true)
  | _ => ("StepShake$Talk", "opened", "LStepShake$Row;", true)
def tyX9 : Nat → FieldType := fun k => match k with
  | 0 => .object "StepShake$Sha"
  | 1 => .object "StepShake$Mac"
  | 2 => .object "StepShake$Curve"
  | 3 => .object "StepShake$Cipher"
  | 4 => .object "StepShake$State"
  | 5 => .array .int
  | 6 => .array .int
  | _ => .object "StepShake$Row"
theorem nmX9 : ∀ a, a < 8 → ∀ b, b < 8 → a ≠ b → (TX9 a).2.1 ≠ (TX9 b).2.1 := by decide +kernel
theorem tyX9_ok : ∀ k, k < 8 → parseFieldDescriptor (TX9 k).2.2.1 = some (tyX9 k) := by decide +kernel
abbrev cX9_init : ByteArray := prog_11_method_1_code
def yX9_init : MethodName := ⟨RX9, "<init>", "()V"⟩
abbrev cX9_secretOf : ByteArray := prog_11_method_2_code
def yX9_secretOf : MethodName := ⟨RX9, "secretOf", "(II[I)V"⟩
abbrev cX9_publicOf : ByteArray := prog_11_method_3_code
def yX9_publicOf : MethodName := ⟨RX9, "publicOf", "(II[I)V"⟩
abbrev cX9_giveKeys : ByteArray := prog_11_method_4_code
def yX9_giveKeys : MethodName := ⟨RX9, "giveKeys", "(LStepShake$Side;II)V"⟩
abbrev cX9_begin : ByteArray := prog_11_method_5_code
def yX9_begin : MethodName := ⟨RX9, "begin", "(LStepShake$Side;)V"⟩
abbrev cX9_send : ByteArray := prog_11_method_6_code
def yX9_send : MethodName := ⟨RX9, "send", "(LStepShake$Side;LStepShake$Row;LStepShake$Row;)V"⟩
abbrev cX9_take : ByteArray := prog_11_method_7_code
def yX9_take : MethodName := ⟨RX9, "take", "(LStepShake$Side;LStepShake$Row;LStepShake$Row;)Z"⟩
abbrev cX9_sendDone : ByteArray := prog_11_method_8_code
def yX9_sendDone : MethodName := ⟨RX9, "sendDone", "(LStepShake$State;LStepShake$Row;LStepShake$Row;)V"⟩
abbrev cX9_takeDone : ByteArray := prog_11_method_9_code
def yX9_takeDone : MethodName := ⟨RX9, "takeDone", "(LStepShake$State;LStepShake$Row;LStepShake$Row;)Z"⟩
abbrev cX9_sendE : ByteArray := prog_11_method_10_code
def yX9_sendE : MethodName := ⟨RX9, "sendE", "(LStepShake$Side;LStepShake$Row;)V"⟩
abbrev cX9_takeE : ByteArray := prog_11_method_11_code
def yX9_takeE : MethodName := ⟨RX9, "takeE", "(LStepShake$Row;I)V"⟩
abbrev cX9_mixHash : ByteArray := prog_11_method_12_code
def yX9_mixHash : MethodName := ⟨RX9, "mixHash", "(LStepShake$State;[III)V"⟩
abbrev cX9_mixDh : ByteArray := prog_11_method_13_code
def yX9_mixDh : MethodName := ⟨RX9, "mixDh", "(LStepShake$Side;LStepShake$State;I)V"⟩
abbrev cX9_seal : ByteArray := prog_11_method_14_code
def yX9_seal : MethodName := ⟨RX9, "seal", "(LStepShake$State;[IILStepShake$Row;)V"⟩
abbrev cX9_open : ByteArray := prog_11_method_15_code
def yX9_open : MethodName := ⟨RX9, "open", "(LStepShake$State;LStepShake$Row;IILStepShake$Row;)Z"⟩
abbrev cX9_endMessage : ByteArray := prog_11_method_16_code
def yX9_endMessage : MethodName := ⟨RX9, "endMessage", "(LStepShake$Side;LStepShake$State;)V"⟩
def RX10 : String := "StepShake"
def TX10 : u_T := fun k => match k with
  | 0 => ("StepShake", "patterns", "[LStepShake$Pattern;", true)
  | 1 => ("StepShake", "sides", "[LStepShake$Side;", true)
  | 2 => ("StepShake", "tape", "LStepShake$Row;", true)
  | 3 => ("StepShake", "letter", "LStepShake$Row;", true)
  | 4 => ("StepShake", "got", "LStepShake$Row;", true)
  | 5 => ("StepShake", "talk", "LStepShake$Talk;", true)
  | 6 => ("StepShake", "shown", "[I", true)
  | 7 => ("StepShake", "patternCount", "I", false)
  | _ => ("StepShake", "sideCount", "I", false)
def tyX10 : Nat → FieldType := fun k => match k with
  | 0 => .array (.object "StepShake$Pattern")
  | 1 => .array (.object "StepShake$Side")
  | 2 => .object "StepShake$Row"
  | 3 => .object "StepShake$Row"
  | 4 => .object "StepShake$Row"
  | 5 => .object "StepShake$Talk"
  | 6 => .array .int
  | 7 => .int
  | _ => .int
theorem nmX10 : ∀ a, a < 9 → ∀ b, b < 9 → a ≠ b → (TX10 a).2.1 ≠ (TX10 b).2.1 := by decide +kernel
theorem tyX10_ok : ∀ k, k < 9 → parseFieldDescriptor (TX10 k).2.2.1 = some (tyX10 k) := by decide +kernel
abbrev cX10_init : ByteArray := prog_1_method_1_code
def yX10_init : MethodName := ⟨RX10, "<init>", "()V"⟩
abbrev cX10_pattern : ByteArray := prog_1_method_2_code
def yX10_pattern : MethodName := ⟨RX10, "pattern", "(ZZ)I"⟩
abbrev cX10_message : ByteArray := prog_1_method_3_code
def yX10_message : MethodName := ⟨RX10, "message", "(I)I"⟩
abbrev cX10_token : ByteArray := prog_1_method_4_code
def yX10_token : MethodName := ⟨RX10, "token", "(II)I"⟩
abbrev cX10_fault : ByteArray := prog_1_method_5_code
def yX10_fault : MethodName := ⟨RX10, "fault", "(I)I"⟩
abbrev cX10_told : ByteArray := prog_1_method_6_code
def yX10_told : MethodName := ⟨RX10, "told", "(II)I"⟩
abbrev cX10_side : ByteArray := prog_1_method_7_code
def yX10_side : MethodName := ⟨RX10, "side", "(IIIII)I"⟩
abbrev cX10_again : ByteArray := prog_1_method_8_code
def yX10_again : MethodName := ⟨RX10, "again", "(I)I"⟩
abbrev cX10_feed : ByteArray := prog_1_method_9_code
def yX10_feed : MethodName := ⟨RX10, "feed", "(JI)I"⟩
abbrev cX10_write : ByteArray := prog_1_method_10_code
def yX10_write : MethodName := ⟨RX10, "write", "(I)I"⟩
abbrev cX10_read : ByteArray := prog_1_method_11_code
def yX10_read : MethodName := ⟨RX10, "read", "(I)I"⟩
abbrev cX10_alter : ByteArray := prog_1_method_12_code
def yX10_alter : MethodName := ⟨RX10, "alter", "(II)I"⟩
abbrev cX10_cut : ByteArray := prog_1_method_13_code
def yX10_cut : MethodName := ⟨RX10, "cut", "(I)I"⟩
abbrev cX10_byteOf : ByteArray := prog_1_method_14_code
def yX10_byteOf : MethodName := ⟨RX10, "byteOf", "(II)I"⟩
abbrev cX10_hash : ByteArray := prog_1_method_15_code
def yX10_hash : MethodName := ⟨RX10, "hash", "(II)I"⟩
abbrev cX10_about : ByteArray := prog_1_method_16_code
def yX10_about : MethodName := ⟨RX10, "about", "(II)I"⟩
abbrev cX10_same : ByteArray := prog_1_method_17_code
def yX10_same : MethodName := ⟨RX10, "same", "(II)I"⟩
abbrev cX10_key : ByteArray := prog_1_method_18_code
def yX10_key : MethodName := ⟨RX10, "key", "(III)I"⟩
abbrev cX10_count : ByteArray := prog_1_method_19_code
def yX10_count : MethodName := ⟨RX10, "count", "(I)I"⟩
abbrev cX10_digest : ByteArray := prog_1_method_20_code
def yX10_digest : MethodName := ⟨RX10, "digest", "()J"⟩
abbrev cX10_patternAt : ByteArray := prog_1_method_21_code
def yX10_patternAt : MethodName := ⟨RX10, "patternAt", "(I)LStepShake$Pattern;"⟩
abbrev cX10_sideAt : ByteArray := prog_1_method_22_code
def yX10_sideAt : MethodName := ⟨RX10, "sideAt", "(I)LStepShake$Side;"⟩
abbrev cX10_bitsOf : ByteArray := prog_1_method_23_code
def yX10_bitsOf : MethodName := ⟨RX10, "bitsOf", "([III)J"⟩
abbrev cX10_copyKey : ByteArray := prog_1_method_24_code
def yX10_copyKey : MethodName := ⟨RX10, "copyKey", "([I[I)V"⟩
def RX11 : String := "StepShakeModel"
def TX11 : u_T := fun k => match k with
  | 0 => ("StepShakeModel", "buffer", "[I", true)
  | 1 => ("StepShakeModel", "buffered", "I", false)
  | 2 => ("StepShakeModel", "state", "[I", true)
  | 3 => ("StepShakeModel", "w", "[I", true)
  | 4 => ("StepShakeModel", "first", "[I", true)
  | 5 => ("StepShakeModel", "constant", "[I", true)
  | 6 => ("StepShakeModel", "inner", "[I", true)
  | 7 => ("StepShakeModel", "temporary", "[I", true)
  | 8 => ("StepShakeModel", "one", "[I", true)
  | 9 => ("StepShakeModel", "two", "[I", true)
  | 10 => ("StepShakeModel", "g", "[J", true)
  | 11 => ("StepShakeModel", "product", "[J", true)
  | 12 => ("StepShakeModel", "scalar", "[I", true)
  | 13 => ("StepShakeModel", "nine", "[I", true)
  | 14 => ("StepShakeModel", "start", "[I", true)
  | 15 => ("StepShakeModel", "mixed", "[I", true)
  | 16 => ("StepShakeModel", "stream", "[I", true)
  | 17 => ("StepShakeModel", "sum", "[I", true)
  | 18 => ("StepShakeModel", "factor", "[I", true)
  | 19 => ("StepShakeModel", "part", "[I", true)
  | 20 => ("StepShakeModel", "result", "[I", true)
  | 21 => ("StepShakeModel", "tagKey", "[I", true)
  | 22 => ("StepShakeModel", "told", "[I", true)
  | 23 => ("StepShakeModel", "tag", "[I", true)
  | 24 => ("StepShakeModel", "patterns", "I", false)
  | 25 => ("StepShakeModel", "known", "[Z", true)
  | 26 => ("StepShakeModel", "messages", "[I", true)
  | 27 => ("StepShakeModel", "tokens", "[I", true)
  | 28 => ("StepShakeModel", "tokenAt", "[I", true)
  | 29 => ("StepShakeModel", "hasE", "[Z", true)
  | 30 => ("StepShakeModel", "hasS", "[Z", true)
  | 31 => ("StepShakeModel", "did", "[Z", true)
  | 32 => ("StepShakeModel", "faulty", "[Z", true)
  | 33 => ("StepShakeModel", "sides", "I", false)
  | 34 => ("StepShakeModel", "patternOf", "[I", true)
  | 35 => ("StepShakeModel", "hand", "[I", true)
  | 36 => ("StepShakeModel", "hasSecret", "[Z", true)
  | 37 => ("StepShakeModel", "otherTold", "[I", true)
  | 38 => ("StepShakeModel", "seed", "[I", true)
  | 39 => ("StepShakeModel", "used", "[I", true)
  | 40 => ("StepShakeModel", "next", "[I", true)
  | 41 => ("StepShakeModel", "isDone", "[Z", true)
  | 42 => ("StepShakeModel", "hasKey", "[Z", true)
  | 43 => ("StepShakeModel", "counted", "[I", true)
  | 44 => ("StepShakeModel", "countedOther", "[I", true)
  | 45 => ("StepShakeModel", "knowsE", "[Z", true)
  | 46 => ("StepShakeModel", "knowsS", "[Z", true)
  | 47 => ("StepShakeModel", "chain", "[I", true)
  | 48 => ("StepShakeModel", "mix", "[I", true)
  | 49 => ("StepShakeModel", "key", "[I", true)
  | 50 => ("StepShakeModel", "keyOther", "[I", true)
  | 51 => ("StepShakeModel", "ownS", "[I", true)
  | 52 => ("StepShakeModel", "ownE", "[I", true)
  | 53 => ("StepShakeModel", "otherS", "[I", true)
  | 54 => ("StepShakeModel", "otherE", "[I", true)
  | 55 => ("StepShakeModel", "tape", "[I", true)
  | 56 => ("StepShakeModel", "taped", "I", false)
  | 57 => ("StepShakeModel", "letter", "[I", true)
  | 58 => ("StepShakeModel", "letterLong", "I", false)
  | 59 => ("StepShakeModel", "got", "[I", true)
  | 60 => ("StepShakeModel", "gotLong", "I", false)
  | 61 => ("StepShakeModel", "scratch", "[I", true)
  | _ => ("StepShakeModel", "shared", "[I", true)
def tyX11 : Nat → FieldType := fun k => match k with
  | 0 => .array .int
  | 1 => .int
  | 2 => .array .int
  | 3 => .array .int
  | 4 => .array .int
  | 5 => .array .int
  | 6 => .array .int
  | 7 => .array .int
  | 8 => .array .int
  | 9 => .array .int
  | 10 => .array .long
  | 11 => .array .long
  | 12 => .array .int
  | 13 => .array .int
  | 14 => .array .int
  | 15 => .array .int
  | 16 => .array .int
  | 17 => .array .int
  | 18 => .array .int
  | 19 => .array .int
  | 20 => .array .int
  | 21 => .array .int
  | 22 => .array .int
  | 23 => .array .int
  | 24 => .int
  | 25 => .array .boolean
  | 26 => .array .int
  | 27 => .array .int
  | 28 => .array .int
  | 29 => .array .boolean
  | 30 => .array .boolean
  | 31 => .array .boolean
  | 32 => .array .boolean
  | 33 => .int
  | 34 => .array .int
  | 35 => .array .int
  | 36 => .array .boolean
  | 37 => .array .int
  | 38 => .array .int
  | 39 => .array .int
  | 40 => .array .int
  | 41 => .array .boolean
  | 42 => .array .boolean
  | 43 => .array .int
  | 44 => .array .int
  | 45 => .array .boolean
  | 46 => .array .boolean
  | 47 => .array .int
  | 48 => .array .int
  | 49 => .array .int
  | 50 => .array .int
  | 51 => .array .int
  | 52 => .array .int
  | 53 => .array .int
  | 54 => .array .int
  | 55 => .array .int
  | 56 => .int
  | 57 => .array .int
  | 58 => .int
  | 59 => .array .int
  | 60 => .int
  | 61 => .array .int
  | _ => .array .int
theorem nmX11 : ∀ a, a < 63 → ∀ b, b < 63 → a ≠ b → (TX11 a).2.1 ≠ (TX11 b).2.1 := by decide +kernel
theorem tyX11_ok : ∀ k, k < 63 → parseFieldDescriptor (TX11 k).2.2.1 = some (tyX11 k) := by decide +kernel
abbrev cX11_init : ByteArray := prog_13_method_1_code
def yX11_init : MethodName := ⟨RX11, "<init>", "()V"⟩
abbrev cX11_in : ByteArray := prog_13_method_3_code
def yX11_in : MethodName := ⟨RX11, "in", "(III)Z"⟩
abbrev cX11_copy : ByteArray := prog_13_method_4_code
def yX11_copy : MethodName := ⟨RX11, "copy", "([II[III)V"⟩
abbrev cX11_padded : ByteArray := prog_13_method_5_code
def yX11_padded : MethodName := ⟨RX11, "padded", "(II)I"⟩
abbrev cX11_turned : ByteArray := prog_13_method_6_code
def yX11_turned : MethodName := ⟨RX11, "turned", "(II)I"⟩
abbrev cX11_block : ByteArray := prog_13_method_7_code
def yX11_block : MethodName := ⟨RX11, "block", "(II)V"⟩
abbrev cX11_hashes : ByteArray := prog_13_method_8_code
def yX11_hashes : MethodName := ⟨RX11, "hashes", "([II)V"⟩
abbrev cX11_lays : ByteArray := prog_13_method_9_code
def yX11_lays : MethodName := ⟨RX11, "lays", "([III)V"⟩
abbrev cX11_mac : ByteArray := prog_13_method_10_code
def yX11_mac : MethodName := ⟨RX11, "mac", "([II[III[II)V"⟩
abbrev cX11_keys : ByteArray := prog_13_method_11_code
def yX11_keys : MethodName := ⟨RX11, "keys", "([II[II)V"⟩
abbrev cX11_secret : ByteArray := prog_13_method_12_code
def yX11_secret : MethodName := ⟨RX11, "secret", "(II[II)V"⟩
abbrev cX11_carry : ByteArray := prog_13_method_13_code
def yX11_carry : MethodName := ⟨RX11, "carry", "(I)V"⟩
abbrev cX11_plus : ByteArray := prog_13_method_14_code
def yX11_plus : MethodName := ⟨RX11, "plus", "(III)V"⟩
abbrev cX11_minus : ByteArray := prog_13_method_15_code
def yX11_minus : MethodName := ⟨RX11, "minus", "(III)V"⟩
abbrev cX11_times : ByteArray := prog_13_method_16_code
def yX11_times : MethodName := ⟨RX11, "times", "(III)V"⟩
abbrev cX11_exchange : ByteArray := prog_13_method_17_code
def yX11_exchange : MethodName := ⟨RX11, "exchange", "(IIZ)V"⟩
abbrev cX11_sets : ByteArray := prog_13_method_18_code
def yX11_sets : MethodName := ⟨RX11, "sets", "(IJ)V"⟩
abbrev cX11_copies : ByteArray := prog_13_method_19_code
def yX11_copies : MethodName := ⟨RX11, "copies", "(II)V"⟩
abbrev cX11_ladderStep : ByteArray := prog_13_method_20_code
def yX11_ladderStep : MethodName := ⟨RX11, "ladderStep", "()V"⟩
abbrev cX11_invert : ByteArray := prog_13_method_21_code
def yX11_invert : MethodName := ⟨RX11, "invert", "()V"⟩
abbrev cX11_packs : ByteArray := prog_13_method_22_code
def yX11_packs : MethodName := ⟨RX11, "packs", "(I[II)V"⟩
abbrev cX11_dh : ByteArray := prog_13_method_23_code
def yX11_dh : MethodName := ⟨RX11, "dh", "([II[II[II)V"⟩
abbrev cX11_publicOf : ByteArray := prog_13_method_24_code
def yX11_publicOf : MethodName := ⟨RX11, "publicOf", "([II[II)V"⟩
abbrev cX11_quarter : ByteArray := prog_13_method_25_code
def yX11_quarter : MethodName := ⟨RX11, "quarter", "(IIII)V"⟩
abbrev cX11_streams : ByteArray := prog_13_method_26_code
def yX11_streams : MethodName := ⟨RX11, "streams", "([IIII)V"⟩
abbrev cX11_adds : ByteArray := prog_13_method_27_code
def yX11_adds : MethodName := ⟨RX11, "adds", "()V"⟩
abbrev cX11_multiplies : ByteArray := prog_13_method_28_code
def yX11_multiplies : MethodName := ⟨RX11, "multiplies", "()V"⟩
abbrev cX11_tags : ByteArray := prog_13_method_29_code
def yX11_tags : MethodName := ⟨RX11, "tags", "(I)V"⟩
abbrev cX11_tellsLong : ByteArray := prog_13_method_30_code
def yX11_tellsLong : MethodName := ⟨RX11, "tellsLong", "(II)V"⟩
abbrev cX11_tagOf : ByteArray := prog_13_method_31_code
def yX11_tagOf : MethodName := ⟨RX11, "tagOf", "([III[III[III)V"⟩
abbrev cX11_ciphers : ByteArray := prog_13_method_32_code
def yX11_ciphers : MethodName := ⟨RX11, "ciphers", "([III[III)V"⟩
abbrev cX11_pattern : ByteArray := prog_13_method_33_code
def yX11_pattern : MethodName := ⟨RX11, "pattern", "(ZZ)I"⟩
abbrev cX11_isPattern : ByteArray := prog_13_method_34_code
def yX11_isPattern : MethodName := ⟨RX11, "isPattern", "(I)Z"⟩
abbrev cX11_isUsed : ByteArray := prog_13_method_35_code
def yX11_isUsed : MethodName := ⟨RX11, "isUsed", "(I)Z"⟩
abbrev cX11_message : ByteArray := prog_13_method_36_code
def yX11_message : MethodName := ⟨RX11, "message", "(I)I"⟩
abbrev cX11_token : ByteArray := prog_13_method_37_code
def yX11_token : MethodName := ⟨RX11, "token", "(II)I"⟩
abbrev cX11_seals : ByteArray := prog_13_method_38_code
def yX11_seals : MethodName := ⟨RX11, "seals", "(I)V"⟩
abbrev cX11_judges : ByteArray := prog_13_method_39_code
def yX11_judges : MethodName := ⟨RX11, "judges", "(II)V"⟩
abbrev cX11_faultOf : ByteArray := prog_13_method_40_code
def yX11_faultOf : MethodName := ⟨RX11, "faultOf", "(I)I"⟩
abbrev cX11_fault : ByteArray := prog_13_method_41_code
def yX11_fault : MethodName := ⟨RX11, "fault", "(I)I"⟩
abbrev cX11_told : ByteArray := prog_13_method_42_code
def yX11_told : MethodName := ⟨RX11, "told", "(II)I"⟩
abbrev cX11_isSide : ByteArray := prog_13_method_43_code
def yX11_isSide : MethodName := ⟨RX11, "isSide", "(I)Z"⟩
abbrev cX11_copySide : ByteArray := prog_13_method_44_code
def yX11_copySide : MethodName := ⟨RX11, "copySide", "(II)V"⟩
abbrev cX11_mixHash : ByteArray := prog_13_method_45_code
def yX11_mixHash : MethodName := ⟨RX11, "mixHash", "(I[III)V"⟩
abbrev cX11_mixKey : ByteArray := prog_13_method_46_code
def yX11_mixKey : MethodName := ⟨RX11, "mixKey", "(I)V"⟩
abbrev cX11_nameByte : ByteArray := prog_13_method_47_code
def yX11_nameByte : MethodName := ⟨RX11, "nameByte", "(I)I"⟩
abbrev cX11_begins : ByteArray := prog_13_method_48_code
def yX11_begins : MethodName := ⟨RX11, "begins", "(I)V"⟩
abbrev cX11_sendsS : ByteArray := prog_13_method_49_code
def yX11_sendsS : MethodName := ⟨RX11, "sendsS", "(II)Z"⟩
abbrev cX11_side : ByteArray := prog_13_method_50_code
def yX11_side : MethodName := ⟨RX11, "side", "(IIIII)I"⟩
abbrev cX11_again : ByteArray := prog_13_method_51_code
def yX11_again : MethodName := ⟨RX11, "again", "(I)I"⟩
abbrev cX11_feed : ByteArray := prog_13_method_52_code
def yX11_feed : MethodName := ⟨RX11, "feed", "(JI)I"⟩
abbrev cX11_shares : ByteArray := prog_13_method_53_code
def yX11_shares : MethodName := ⟨RX11, "shares", "(II)V"⟩
abbrev cX11_seal : ByteArray := prog_13_method_54_code
def yX11_seal : MethodName := ⟨RX11, "seal", "(I[III)I"⟩
abbrev cX11_isRight : ByteArray := prog_13_method_55_code
def yX11_isRight : MethodName := ⟨RX11, "isRight", "([II)Z"⟩
abbrev cX11_open : ByteArray := prog_13_method_56_code
def yX11_open : MethodName := ⟨RX11, "open", "(I[III[I)I"⟩
abbrev cX11_ends : ByteArray := prog_13_method_57_code
def yX11_ends : MethodName := ⟨RX11, "ends", "(I)V"⟩
abbrev cX11_writesToken : ByteArray := prog_13_method_58_code
def yX11_writesToken : MethodName := ⟨RX11, "writesToken", "(III)I"⟩
abbrev cX11_write : ByteArray := prog_13_method_59_code
def yX11_write : MethodName := ⟨RX11, "write", "(I)I"⟩
abbrev cX11_readsToken : ByteArray := prog_13_method_60_code
def yX11_readsToken : MethodName := ⟨RX11, "readsToken", "(III)I"⟩
abbrev cX11_readsDone : ByteArray := prog_13_method_61_code
def yX11_readsDone : MethodName := ⟨RX11, "readsDone", "(I)I"⟩
abbrev cX11_reads : ByteArray := prog_13_method_62_code
def yX11_reads : MethodName := ⟨RX11, "reads", "(I)I"⟩
abbrev cX11_read : ByteArray := prog_13_method_63_code
def yX11_read : MethodName := ⟨RX11, "read", "(I)I"⟩
abbrev cX11_alter : ByteArray := prog_13_method_64_code
def yX11_alter : MethodName := ⟨RX11, "alter", "(II)I"⟩
abbrev cX11_cut : ByteArray := prog_13_method_65_code
def yX11_cut : MethodName := ⟨RX11, "cut", "(I)I"⟩
abbrev cX11_byteOf : ByteArray := prog_13_method_66_code
def yX11_byteOf : MethodName := ⟨RX11, "byteOf", "(II)I"⟩
abbrev cX11_hash : ByteArray := prog_13_method_67_code
def yX11_hash : MethodName := ⟨RX11, "hash", "(II)I"⟩
abbrev cX11_aboutOf : ByteArray := prog_13_method_68_code
def yX11_aboutOf : MethodName := ⟨RX11, "aboutOf", "(II)I"⟩
abbrev cX11_about : ByteArray := prog_13_method_69_code
def yX11_about : MethodName := ⟨RX11, "about", "(II)I"⟩
abbrev cX11_same : ByteArray := prog_13_method_70_code
def yX11_same : MethodName := ⟨RX11, "same", "(II)I"⟩
abbrev cX11_key : ByteArray := prog_13_method_71_code
def yX11_key : MethodName := ⟨RX11, "key", "(III)I"⟩
abbrev cX11_count : ByteArray := prog_13_method_72_code
def yX11_count : MethodName := ⟨RX11, "count", "(I)I"⟩
abbrev cX11_digest : ByteArray := prog_13_method_73_code
def yX11_digest : MethodName := ⟨RX11, "digest", "()J"⟩
def RJ9 : String := "java/lang/Math"
def TJ9 : u_T := fun k => match k with
  | _ => ("", "", "", false)
def tyJ9 : Nat → FieldType := fun k => match k with
  | _ => .int
theorem nmJ9 : ∀ a, a < 0 → ∀ b, b < 0 → a ≠ b → (TJ9 a).2.1 ≠ (TJ9 b).2.1 := by decide +kernel
theorem tyJ9_ok : ∀ k, k < 0 → parseFieldDescriptor (TJ9 k).2.2.1 = some (tyJ9 k) := by decide +kernel
abbrev cJ9_min_7cf53 : ByteArray := prog_14_method_69_code
def yJ9_min_7cf53 : MethodName := ⟨RJ9, "min", "(II)I"⟩
def RJ0 : String := "java/lang/String"
def TJ0 : u_T := fun k => match k with
  | _ => ("", "", "", false)
def tyJ0 : Nat → FieldType := fun k => match k with
  | _ => .int
theorem nmJ0 : ∀ a, a < 0 → ∀ b, b < 0 → a ≠ b → (TJ0 a).2.1 ≠ (TJ0 b).2.1 := by decide +kernel
theorem tyJ0_ok : ∀ k, k < 0 → parseFieldDescriptor (TJ0 k).2.2.1 = some (tyJ0 k) := by decide +kernel
abbrev cJ0_length_8abf5 : ByteArray := prog_15_method_54_code
def yJ0_length_8abf5 : MethodName := ⟨RJ0, "length", "()I"⟩
abbrev cJ0_charAt_5068e : ByteArray := prog_15_method_56_code
def yJ0_charAt_5068e : MethodName := ⟨RJ0, "charAt", "(I)C"⟩
abbrev cJ0_coder_7d493 : ByteArray := prog_15_method_152_code
def yJ0_coder_7d493 : MethodName := ⟨RJ0, "coder", "()B"⟩
abbrev cJ0_isLatin1_aae02 : ByteArray := prog_15_method_154_code
def yJ0_isLatin1_aae02 : MethodName := ⟨RJ0, "isLatin1", "()Z"⟩
abbrev cJ0_checkIndex_df160 : ByteArray := prog_15_method_155_code
def yJ0_checkIndex_df160 : MethodName := ⟨RJ0, "checkIndex", "(II)V"⟩
def RJ1 : String := "java/lang/StringLatin1"
def TJ1 : u_T := fun k => match k with
  | _ => ("", "", "", false)
def tyJ1 : Nat → FieldType := fun k => match k with
  | _ => .int
theorem nmJ1 : ∀ a, a < 0 → ∀ b, b < 0 → a ≠ b → (TJ1 a).2.1 ≠ (TJ1 b).2.1 := by decide +kernel
theorem tyJ1_ok : ∀ k, k < 0 → parseFieldDescriptor (TJ1 k).2.2.1 = some (tyJ1 k) := by decide +kernel
abbrev cJ1_charAt_3b067 : ByteArray := prog_16_method_2_code
def yJ1_charAt_3b067 : MethodName := ⟨RJ1, "charAt", "([BI)C"⟩
def RJ2 : String := "java/lang/StringUTF16"
def TJ2 : u_T := fun k => match k with
  | _ => ("", "", "", false)
def tyJ2 : Nat → FieldType := fun k => match k with
  | _ => .int
theorem nmJ2 : ∀ a, a < 0 → ∀ b, b < 0 → a ≠ b → (TJ2 a).2.1 ≠ (TJ2 b).2.1 := by decide +kernel
theorem tyJ2_ok : ∀ k, k < 0 → parseFieldDescriptor (TJ2 k).2.2.1 = some (tyJ2 k) := by decide +kernel
abbrev cJ2_getChar_3b067 : ByteArray := prog_17_method_5_code
def yJ2_getChar_3b067 : MethodName := ⟨RJ2, "getChar", "([BI)C"⟩
abbrev cJ2_length_9d52b : ByteArray := prog_17_method_6_code
def yJ2_length_9d52b : MethodName := ⟨RJ2, "length", "([B)I"⟩
abbrev cJ2_charAt_3b067 : ByteArray := prog_17_method_83_code
def yJ2_charAt_3b067 : MethodName := ⟨RJ2, "charAt", "([BI)C"⟩
abbrev cJ2_checkIndex_2214a : ByteArray := prog_17_method_91_code
def yJ2_checkIndex_2214a : MethodName := ⟨RJ2, "checkIndex", "(I[B)V"⟩
def RJ10 : String := "java/lang/System"
def TJ10 : u_T := fun k => match k with
  | _ => ("", "", "", false)
def tyJ10 : Nat → FieldType := fun k => match k with
  | _ => .int
theorem nmJ10 : ∀ a, a < 0 → ∀ b, b < 0 → a ≠ b → (TJ10 a).2.1 ≠ (TJ10 b).2.1 := by decide +kernel
theorem tyJ10_ok : ∀ k, k < 0 → parseFieldDescriptor (TJ10 k).2.2.1 = some (tyJ10 k) := by decide +kernel
def RJ3 : String := "jdk/internal/util/Preconditions"
def TJ3 : u_T := fun k => match k with
  | _ => ("", "", "", false)
def tyJ3 : Nat → FieldType := fun k => match k with
  | _ => .int
theorem nmJ3 : ∀ a, a < 0 → ∀ b, b < 0 → a ≠ b → (TJ3 a).2.1 ≠ (TJ3 b).2.1 := by decide +kernel
theorem tyJ3_ok : ∀ k, k < 0 → parseFieldDescriptor (TJ3 k).2.2.1 = some (tyJ3 k) := by decide +kernel
abbrev cJ3_checkIndex_8e157 : ByteArray := prog_19_method_11_code
def yJ3_checkIndex_8e157 : MethodName := ⟨RJ3, "checkIndex", "(IILjava/util/function/BiFunction;)I"⟩
def RL : String := "StepShakeLaw"
abbrev cL_law : ByteArray := code
def yL_law : MethodName := ⟨RL, "law", "([I)Z"⟩
abbrev vwCl : List vw_C := [(RX0, TX0, 5), (RX1, TX1, 10), (RX2, TX2, 4), (RX3, TX3, 6), (RX4, TX4, 2), (RX5, TX5, 4), (RX6, TX6, 9), (RX7, TX7, 14), (RX8, TX8, 5), (RX9, TX9, 8), (RX10, TX10, 9), (RX11, TX11, 63)]
/-! ===== END printed: names ===== -/
end
section
/-! ===== the heap as four functions, and the walk's judgement over it ===== -/
/-- what a cell is: an array of a type and a length, or an object of a class by its number in vwCl -/
abbrev hKd : Type := (FieldType × Nat) ⊕ Nat
/-- kinds, ints (of int and boolean arrays and fields), longs, references; by address and place -/
abbrev hG : Type := (Nat → Option hKd) × (Nat → Nat → Int32) × (Nat → Nat → Int64) × (Nat → Nat → Option Nat)
def hav (ty : FieldType) (i : Nat → Int32) (l : Nat → Int64) (r : Nat → Option Nat) : Nat → Value := match ty with
  | .long => fun j => .long (l j)
  | .int => fun j => .int (i j)
  | .boolean => fun j => .int (i j)
  | _ => fun j => va_rf (r j)
/-- a field's type, by its class' number and its place -/
def hty (c : Nat) : Nat → FieldType := match c with
  | 0 => tyX0 | 1 => tyX1 | 2 => tyX2 | 3 => tyX3 | 4 => tyX4 | 5 => tyX5 | 6 => tyX6 | 7 => tyX7 | 8 => tyX8 | 9 => tyX9 | 10 => tyX10 | _ => tyX11
def hrf (ty : FieldType) : Bool := match ty with
  | .int => false | .boolean => false | _ => true
def hfv (c : Nat) (i : Nat → Int32) (r : Nat → Option Nat) : Nat → Value := fun j => if hrf (hty c j) then va_rf (r j) else .int (i j)
def hat (U : State) (D : va_G) (k : hKd) (i : Nat → Int32) (l : Nat → Int64) (r : Nat → Option Nat) (q : Nat) (H : Heap) : Prop := match k with
  | .inl t => ∃ cell : Cell, H[q]? = some cell ∧ U.isArrayOf cell t.1 ∧ cell.vm ≠ .unknown ∧ cell.slots.size = t.2 ∧ (∀ j, j < t.2 → cell.slots[j]? = some (hav t.1 i l r j)) ∧ (∀ C, t.1 = .object C → va_RA U cell.cls t.1)
  | .inr c => ∃ w : vw_C, vwCl[c]? = some w ∧ t_OB q (D.1 c) w.2.2 (D.2 c) H (hfv c i r)
def HR (U : State) (D : va_G) (G : hG) (H : Heap) : Prop := ∀ (q : Nat) (k : hKd), G.1 q = some k → hat U D k (G.2.1 q) (G.2.2.1 q) (G.2.2.2 q) q H
theorem hat.lt {U : State} {D : va_G} {k : hKd} {i : Nat → Int32} {l : Nat → Int64} {r : Nat → Option Nat} {q : Nat} {H : Heap} (h : hat U D k i l r q H) : q < H.size := by
  match k, h with
  | .inl t, ⟨ce, h, _⟩ => exact (Array.getElem?_eq_some_iff.mp h).1
  | .inr c, ⟨w, _, ce, h, _⟩ => exact (Array.getElem?_eq_some_iff.mp h).1
theorem hat.kept {U : State} {D : va_G} {k : hKd} {i : Nat → Int32} {l : Nat → Int64} {r : Nat → Option Nat} {q : Nat} {H H1 : Heap} (h : hat U D k i l r q H) (e : H1[q]? = H[q]?) : hat U D k i l r q H1 := by
  match k, h with
  | .inl t, ⟨ce, h, h2⟩ => exact ⟨ce, by rw [e]; exact h, h2⟩
  | .inr c, ⟨w, h1, h2⟩ => exact ⟨w, h1, h2.kept e⟩
theorem hat.moved {u U : State} {D : va_G} {k : hKd} {i : Nat → Int32} {l : Nat → Int64} {r : Nat → Option Nat} {q : Nat} {H : Heap} (hvm : u.vm.Alike U.vm) (h : hat u D k i l r q H) : hat U D k i l r q H := by
  match k, h with
  | .inl t, ⟨ce, h1, h2, h3, h4, h5, h6⟩ => exact ⟨ce, h1, State.isArrayOf_alike hvm h2, h3, h4, h5, fun C e => (h6 C e).moved hvm⟩
  | .inr c, h => exact h
theorem HR.moved {u U : State} {D : va_G} {G : hG} {H : Heap} (hvm : u.vm.Alike U.vm) (h : HR u D G H) : HR U D G H := fun q k e => (h q k e).moved hvm
/-- the heap behind a write of one cell -/
theorem HR.put {U : State} {D : va_G} {G G1 : hG} {H H1 : Heap} {a : Nat} (h : HR U D G H) (oq : ∀ q : Nat, q ≠ a → H1[q]? = H[q]?) (hT : G1.1 = G.1) (hI : ∀ q, q ≠ a → G1.2.1 q = G.2.1 q) (hL : ∀ q, q ≠ a → G1.2.2.1 q = G.2.2.1 q) (hR : ∀ q, q ≠ a → G1.2.2.2 q = G.2.2.2 q)
    (ha : ∀ k, G.1 a = some k → hat U D k (G1.2.1 a) (G1.2.2.1 a) (G1.2.2.2 a) a H1) : HR U D G1 H1 := by
  intro q k e
  rw [hT] at e
  by_cases hq : q = a
  · subst hq
    exact ha k e
  · rw [hI q hq, hL q hq, hR q hq]
    exact (h q k e).kept (oq q hq)
theorem hav_upd {n : Nat} {cell : Cell} {V : Nat → Value} {i : Nat} {v : Value} (h : cell.slots.size = n) (hv : ∀ j, j < n → cell.slots[j]? = some (V j)) {V' : Nat → Value} (h1 : V' i = v) (h2 : ∀ j, j ≠ i → V' j = V j) : ∀ j, j < n → (cell.setSlot i v).slots[j]? = some (V' j) := by
  intro j hj
  show (cell.slots.setIfInBounds i v)[j]? = _
  rw [Array.getElem?_setIfInBounds]
  by_cases e : i = j
  · subst e
    rw [if_pos rfl, if_pos (by rw [h]; exact hj), h1]
  · rw [if_neg e, hv j hj, h2 j (fun q => e q.symm)]
/-- statics that are arrays: where their fields point -/
def hSt : List (String × String) := [("StepShake$Pattern", "NEEDS"), ("StepShake$Sha", "FIRST"), ("StepShake$Sha", "ROUND"), ("StepShake$Curve", "BASE"), ("StepShake", "NOTHING")]
/-- what the tables and the statics say, at a state -/
def hKs (D : va_G) (a0 : Nat) (sa : Nat → Nat) (U : State) (H : Heap) : Prop := va_K D vwCl [] U ∧ ∀ (k : Nat) (q : String × String), hSt[k]? = some q → va_Z q.1 q.2 "[I" (.ref (sa k)) (fun x => a0 ≤ x) U H
theorem hKs.moved {D : va_G} {a0 : Nat} {sa : Nat → Nat} {u U : State} {H : Heap} (hvm : u.vm.Alike U.vm) (h : hKs D a0 sa u H) : hKs D a0 sa U H := ⟨va_K.moved hvm h.1, fun k q e => (h.2 k q e).moved hvm⟩
theorem hKs.kept {D : va_G} {a0 : Nat} {sa : Nat → Nat} {U : State} {H H1 : Heap} (h : hKs D a0 sa U H) (hq : ∀ a : Nat, a < H.size → ¬ a0 ≤ a → H1[a]? = H[a]?) : hKs D a0 sa U H1 := ⟨h.1, fun k q e => (h.2 k q e).kept hq⟩
/-- the fixed part of a walk: program, launch, environment, room, the entry's state, method, arguments, frames below, method, code, locals, base address, class numbers, static arrays' addresses, aim -/
abbrev hZ : Type := Program × Launch × Env × Room × State × MethodId × Array Value × List Frame × Method × Code × Nat × Nat × va_G × (Nat → Nat) × (State → Prop)
abbrev zp (z : hZ) : Program := z.1
abbrev zl (z : hZ) : Launch := z.2.1
abbrev ze (z : hZ) : Env := z.2.2.1
abbrev zR (z : hZ) : Room := z.2.2.2.1
abbrev zs (z : hZ) : State := z.2.2.2.2.1
abbrev zm (z : hZ) : MethodId := z.2.2.2.2.2.1
abbrev za (z : hZ) : Array Value := z.2.2.2.2.2.2.1
abbrev zb (z : hZ) : List Frame := z.2.2.2.2.2.2.2.1
abbrev zM (z : hZ) : Method := z.2.2.2.2.2.2.2.2.1
abbrev zc (z : hZ) : Code := z.2.2.2.2.2.2.2.2.2.1
abbrev zn (z : hZ) : Nat := z.2.2.2.2.2.2.2.2.2.2.1
abbrev z0 (z : hZ) : Nat := z.2.2.2.2.2.2.2.2.2.2.2.1
abbrev zD (z : hZ) : va_G := z.2.2.2.2.2.2.2.2.2.2.2.2.1
abbrev zS (z : hZ) : Nat → Nat := z.2.2.2.2.2.2.2.2.2.2.2.2.2.1
abbrev zQ (z : hZ) : State → Prop := z.2.2.2.2.2.2.2.2.2.2.2.2.2.2
abbrev zW (z : hZ) (H : Heap) (locs : List Loc) (cells slots pc : Nat) (ls : Array Slot) (st : List Value) : Prop := W (zp z) (zl z) (ze z) (zR z) (zs z) (zm z) (za z) (zb z) (zM z) (zc z) H locs cells slots (zQ z) (F0 (zm z) pc ls st)
/-- at pc, with the heap G, the locals lv and the stack st, the machine comes to its aim -/
def hX (z : hZ) (cells slots : Nat) (G : hG) (lv : List (Nat × Value)) (pc : Nat) (st : List Value) : Prop :=
  ∀ (H : Heap) (locs : List Loc) (ls : Array Slot), HR (zs z) (zD z) G H → va_S (fun q => z0 z ≤ q) (zs z).heap H locs → lv_has ls (zn z) lv → zW z H locs cells slots pc ls st
/-- what a walk knows of its fixed part -/
def hC (z : hZ) (own : String) (cc : ByteArray) : Prop := (zp z).tables.exec = Jvm.exec ∧ (zc z).code = cc ∧ (zc z).maxLocals = zn z ∧ (zs z).vm.findClass own = some (zm z).cls ∧ (∀ w ∈ lw_tbl, w.before (za z) (zs z) = true) ∧ hKs (zD z) (z0 z) (zS z) (zs z) (zs z).heap ∧ z0 z ≤ (zs z).heap.size
/-- and of its end -/
def hE (z : hZ) (y : MethodName) (ret : Option FieldType) (rm : Room) (post : Option Value → hG → Prop) : Prop := (zM z).sig.returnType = ret ∧ (zM z).locks = false ∧ (zM z).name = y.name ∧ zR z = rm ∧
  zQ z = MQ (zb z) (fun _ st oc t => (∃ (v : Option Value) (G : hG), oc = .returned v ∧ post v G ∧ HR t (zD z) G t.heap) ∧ va_F (fun q => z0 z ≤ q) st t) (za z) (zs z) rm.cells rm.slots (fun q => z0 z ≤ q)
/-- a method's contract over the heap G: it returns, and 'post' holds of its answer and its heap -/
def hM (l : Launch) (a0 : Nat) (D : va_G) (sa : Nat → Nat) (y : MethodName) (cc : ByteArray) (nL : Nat) (ret : Option FieldType) (rm : Room) (av : List Value) (G : hG) (post : Option Value → hG → Prop) : Prop :=
  Met l y (.code y cc nL ret :: lw_tbl) rm (va_Pc av (fun U => HR U D G U.heap ∧ hKs D a0 sa U U.heap ∧ a0 ≤ U.heap.size))
    (fun _ st oc t => (∃ (v : Option Value) (G' : hG), oc = .returned v ∧ post v G' ∧ HR t D G' t.heap) ∧ va_F (fun q => a0 ≤ q) st t) rm.cells rm.slots (fun q => a0 ≤ q)
theorem hM.of {l : Launch} {a0 : Nat} {D : va_G} {sa : Nat → Nat} {y : MethodName} {cc : ByteArray} {nL : Nat} {ret : Option FieldType} {rm : Room} {av : List Value} {G : hG} {post : Option Value → hG → Prop} (hy : plainName y.cls = true) (hl : (lg_sl av).length ≤ nL)
    (h : ∀ z : hZ, zl z = l → z0 z = a0 → zD z = D → zS z = sa → zn z = nL → hC z y.cls cc → hE z y ret rm post → hX z 0 0 G (lv_args 0 av) 0 []) : hM l a0 D sa y cc nL ret rm av G post := by
  refine Met.ofW (cc := cc) (maxL := nL) (ret := ret) hy rfl ?_
  intro p e s m args below meth c s₁ B hml hv
  obtain ⟨rfl, hP, hK, hsz⟩ := hv
  have hts := atoms_spec (ws := .code y cc nL ret :: lw_tbl) B.pre
  have hown : s.vm.findClass y.cls = some m.cls := findClass_of_methodNamed B.named
  have hlv := lv_entry av (n := nL) hl
  have hin : meth.name = y.name := (name_of_methodNamed B.named B.method).1
  rw [lg_entry_eq]
  exact h (p, l, e, rm, s, m, av.toArray, below, meth, c, nL, a0, D, sa, _) rfl rfl rfl rfl rfl ⟨B.exec, B.bytes, hml, hown, fun w hw => hts w (List.mem_cons_of_mem _ hw), hK, hsz⟩ ⟨B.returns, B.notSynchronized, hin, rfl, rfl⟩ s.heap [] _ hP va_S.rf hlv
end
section
/-! ===== the kit's rows over hX ===== -/
def isl (x y : Int32) : Int32 := x <<< (y &&& 31)
def isr (x y : Int32) : Int32 := x >>> (y &&& 31)
def iusr (x y : Int32) : Int32 := (x.toUInt32 >>> (y.toUInt32 &&& Int32.toUInt32 31)).toInt32
def lsl (x : Int64) (y : Int32) : Int64 := x <<< (y.toInt64 &&& 63)
def lsr (x : Int64) (y : Int32) : Int64 := x >>> (y.toInt64 &&& 63)
def lusr (x : Int64) (y : Int32) : Int64 := (x.toUInt64 >>> (y.toInt64.toUInt64 &&& Int64.toUInt64 63)).toInt64
section HXR
variable {z : hZ} {own : String} {cc : ByteArray} {cells slots pc : Nat} {G : hG} {lv lv' : List (Nat × Value)} {rest : List Value}
theorem x_iconst (C : hC z own cc) {n : Int} {v : Int32} (d : decode cc pc = .ok (.iconst n, 1)) (hv : Int32.ofInt n = v) (k : hX z cells slots G lv (pc + 1) (.int v :: rest)) : hX z cells slots G lv pc (rest) := fun H locs ls h1 h2 h3 => lv_iconst C.1 C.2.1 d hv (k H locs ls h1 h2 h3)
theorem x_bipush (C : hC z own cc) {n : Int} {v : Int32} (d : decode cc pc = .ok (.bipush n, 2)) (hv : (Int8.ofInt n).toInt32 = v) (k : hX z cells slots G lv (pc + 2) (.int v :: rest)) : hX z cells slots G lv pc (rest) := fun H locs ls h1 h2 h3 => lv_bipush C.1 C.2.1 d hv (k H locs ls h1 h2 h3)
theorem x_sipush (C : hC z own cc) {n : Int} {v : Int32} (d : decode cc pc = .ok (.sipush n, 3)) (hv : (Int16.ofInt n).toInt32 = v) (k : hX z cells slots G lv (pc + 3) (.int v :: rest)) : hX z cells slots G lv pc (rest) := fun H locs ls h1 h2 h3 => lv_sipush C.1 C.2.1 d hv (k H locs ls h1 h2 h3)
theorem x_lconst (C : hC z own cc) {n : Fin 2} {v : Int64} (d : decode cc pc = .ok (.lconst n, 1)) (hv : Int64.ofNat (n : Nat) = v) (k : hX z cells slots G lv (pc + 1) (.long v :: rest)) : hX z cells slots G lv pc (rest) := fun H locs ls h1 h2 h3 => lv_lconst C.1 C.2.1 d hv (k H locs ls h1 h2 h3)
theorem x_ldc (C : hC z own cc) {index : Nat} {v : Int32} (d : decode cc pc = .ok (.ldc index, 2)) (hw : Cond.constant own index v ∈ lw_tbl) (k : hX z cells slots G lv (pc + 2) (.int v :: rest)) : hX z cells slots G lv pc (rest) := fun H locs ls h1 h2 h3 => lv_ldc C.1 C.2.1 C.2.2.2.1 (C.2.2.2.2.1 _ hw) d (k H locs ls h1 h2 h3)
theorem x_ldcw (C : hC z own cc) {index : Nat} {v : Int32} (d : decode cc pc = .ok (.ldc_w index, 3)) (hw : Cond.constant own index v ∈ lw_tbl) (k : hX z cells slots G lv (pc + 3) (.int v :: rest)) : hX z cells slots G lv pc (rest) := fun H locs ls h1 h2 h3 => lv_ldcw C.1 C.2.1 C.2.2.2.1 (C.2.2.2.2.1 _ hw) d (k H locs ls h1 h2 h3)
theorem x_ldc2 (C : hC z own cc) {index : Nat} {v : Int64} (d : decode cc pc = .ok (.ldc2_w index, 3)) (hw : Cond.constantLong own index v ∈ lw_tbl) (k : hX z cells slots G lv (pc + 3) (.long v :: rest)) : hX z cells slots G lv pc (rest) := fun H locs ls h1 h2 h3 => lv_ldc2 C.1 C.2.1 C.2.2.2.1 (C.2.2.2.2.1 _ hw) d (k H locs ls h1 h2 h3)
theorem x_iload_n (C : hC z own cc) {k0 : Fin 4} {i : Nat} {x : Int32} (d : decode cc pc = .ok (.iload_n k0, 1)) (n : Nat) (hi : (k0 : Nat) = i) (hl : lv[n]? = some (i, .int x)) (k : hX z cells slots G lv (pc + 1) (.int x :: rest)) : hX z cells slots G lv pc (rest) := fun H locs ls h1 h2 h3 => lv_iload_n C.1 C.2.1 d hi (lv_at h3 n hl) (k H locs ls h1 h2 h3)
theorem x_iload (C : hC z own cc) {i : Nat} {x : Int32} (d : decode cc pc = .ok (.iload i, 2)) (n : Nat) (hl : lv[n]? = some (i, .int x)) (k : hX z cells slots G lv (pc + 2) (.int x :: rest)) : hX z cells slots G lv pc (rest) := fun H locs ls h1 h2 h3 => lv_iload C.1 C.2.1 d (lv_at h3 n hl) (k H locs ls h1 h2 h3)
theorem x_lload_n (C : hC z own cc) {k0 : Fin 4} {i : Nat} {x : Int64} (d : decode cc pc = .ok (.lload_n k0, 1)) (n : Nat) (hi : (k0 : Nat) = i) (hl : lv[n]? = some (i, .long x)) (k : hX z cells slots G lv (pc + 1) (.long x :: rest)) : hX z cells slots G lv pc (rest) := fun H locs ls h1 h2 h3 => lv_lload_n C.1 C.2.1 d hi (lv_at h3 n hl) (k H locs ls h1 h2 h3)
theorem x_lload (C : hC z own cc) {i : Nat} {x : Int64} (d : decode cc pc = .ok (.lload i, 2)) (n : Nat) (hl : lv[n]? = some (i, .long x)) (k : hX z cells slots G lv (pc + 2) (.long x :: rest)) : hX z cells slots G lv pc (rest) := fun H locs ls h1 h2 h3 => lv_lload C.1 C.2.1 d (lv_at h3 n hl) (k H locs ls h1 h2 h3)
theorem x_aload_n (C : hC z own cc) {k0 : Fin 4} {i : Nat} {x : Nat} (d : decode cc pc = .ok (.aload_n k0, 1)) (n : Nat) (hi : (k0 : Nat) = i) (hl : lv[n]? = some (i, .ref x)) (k : hX z cells slots G lv (pc + 1) (.ref x :: rest)) : hX z cells slots G lv pc (rest) := fun H locs ls h1 h2 h3 => lv_aload_n C.1 C.2.1 d hi (lv_at h3 n hl) (k H locs ls h1 h2 h3)
theorem x_aload (C : hC z own cc) {i : Nat} {x : Nat} (d : decode cc pc = .ok (.aload i, 2)) (n : Nat) (hl : lv[n]? = some (i, .ref x)) (k : hX z cells slots G lv (pc + 2) (.ref x :: rest)) : hX z cells slots G lv pc (rest) := fun H locs ls h1 h2 h3 => lv_aload C.1 C.2.1 d (lv_at h3 n hl) (k H locs ls h1 h2 h3)
theorem x_istore_n (C : hC z own cc) {k0 : Fin 4} {i : Nat} {x : Int32} (d : decode cc pc = .ok (.istore_n k0, 1)) (hi : (k0 : Nat) = i) (hn : i < zn z) (hl : (i, Value.int x) :: lv.filter (fun q => !(q.1 == i) && !(q.1 + 1 == i && q.2.category == 2)) = lv') (k : hX z cells slots G lv' (pc + 1) rest) : hX z cells slots G lv pc (.int x :: rest) := fun H locs ls h1 h2 h3 => lv_istore_n C.1 C.2.1 d hi h3 hn hl (fun ls h3 => k H locs ls h1 h2 h3)
theorem x_istore (C : hC z own cc) {i : Nat} {x : Int32} (d : decode cc pc = .ok (.istore i, 2)) (hn : i < zn z) (hl : (i, Value.int x) :: lv.filter (fun q => !(q.1 == i) && !(q.1 + 1 == i && q.2.category == 2)) = lv') (k : hX z cells slots G lv' (pc + 2) rest) : hX z cells slots G lv pc (.int x :: rest) := fun H locs ls h1 h2 h3 => lv_istore C.1 C.2.1 d h3 hn hl (fun ls h3 => k H locs ls h1 h2 h3)
theorem x_lstore_n (C : hC z own cc) {k0 : Fin 4} {i : Nat} {x : Int64} (d : decode cc pc = .ok (.lstore_n k0, 1)) (hi : (k0 : Nat) = i) (hn : i + 1 < zn z) (hl : (i, Value.long x) :: lv.filter (fun q => !(q.1 == i) && (!(q.1 == i + 1) && !(q.1 + 1 == i && q.2.category == 2))) = lv') (k : hX z cells slots G lv' (pc + 1) rest) : hX z cells slots G lv pc (.long x :: rest) := fun H locs ls h1 h2 h3 => lv_lstore_n C.1 C.2.1 d hi h3 hn hl (fun ls h3 => k H locs ls h1 h2 h3)
theorem x_lstore (C : hC z own cc) {i : Nat} {x : Int64} (d : decode cc pc = .ok (.lstore i, 2)) (hn : i + 1 < zn z) (hl : (i, Value.long x) :: lv.filter (fun q => !(q.1 == i) && (!(q.1 == i + 1) && !(q.1 + 1 == i && q.2.category == 2))) = lv') (k : hX z cells slots G lv' (pc + 2) rest) : hX z cells slots G lv pc (.long x :: rest) := fun H locs ls h1 h2 h3 => lv_lstore C.1 C.2.1 d h3 hn hl (fun ls h3 => k H locs ls h1 h2 h3)
theorem x_astore_n (C : hC z own cc) {k0 : Fin 4} {i : Nat} {x : Nat} (d : decode cc pc = .ok (.astore_n k0, 1)) (hi : (k0 : Nat) = i) (hn : i < zn z) (hl : (i, Value.ref x) :: lv.filter (fun q => !(q.1 == i) && !(q.1 + 1 == i && q.2.category == 2)) = lv') (k : hX z cells slots G lv' (pc + 1) rest) : hX z cells slots G lv pc (.ref x :: rest) := fun H locs ls h1 h2 h3 => lv_astore_n C.1 C.2.1 d hi h3 hn hl (fun ls h3 => k H locs ls h1 h2 h3)
theorem x_astore (C : hC z own cc) {i : Nat} {x : Nat} (d : decode cc pc = .ok (.astore i, 2)) (hn : i < zn z) (hl : (i, Value.ref x) :: lv.filter (fun q => !(q.1 == i) && !(q.1 + 1 == i && q.2.category == 2)) = lv') (k : hX z cells slots G lv' (pc + 2) rest) : hX z cells slots G lv pc (.ref x :: rest) := fun H locs ls h1 h2 h3 => lv_astore C.1 C.2.1 d h3 hn hl (fun ls h3 => k H locs ls h1 h2 h3)
theorem x_iinc (C : hC z own cc) {i : Nat} {n : Int} {x v : Int32} (d : decode cc pc = .ok (.iinc i n, 3)) (q : Nat) (hq : lv[q]? = some (i, .int x)) (hv : x + Int32.ofInt n = v) (hn : i < zn z) (hl : (i, Value.int v) :: lv.filter (fun q => !(q.1 == i) && !(q.1 + 1 == i && q.2.category == 2)) = lv') (k : hX z cells slots G lv' (pc + 3) rest) : hX z cells slots G lv pc rest := fun H locs ls h1 h2 h3 => lv_iinc C.1 C.2.1 d h3 hq hv hn hl (fun ls h3 => k H locs ls h1 h2 h3)
theorem x_iadd (C : hC z own cc) {x y : Int32} (d : decode cc pc = .ok (.iadd, 1)) (k : hX z cells slots G lv (pc + 1) (.int (x + y) :: rest)) : hX z cells slots G lv pc (.int y :: .int x :: rest) := fun H locs ls h1 h2 h3 => lv_iadd C.1 C.2.1 d (k H locs ls h1 h2 h3)
theorem x_isub (C : hC z own cc) {x y : Int32} (d : decode cc pc = .ok (.isub, 1)) (k : hX z cells slots G lv (pc + 1) (.int (x - y) :: rest)) : hX z cells slots G lv pc (.int y :: .int x :: rest) := fun H locs ls h1 h2 h3 => lv_isub C.1 C.2.1 d (k H locs ls h1 h2 h3)
theorem x_imul (C : hC z own cc) {x y : Int32} (d : decode cc pc = .ok (.imul, 1)) (k : hX z cells slots G lv (pc + 1) (.int (x * y) :: rest)) : hX z cells slots G lv pc (.int y :: .int x :: rest) := fun H locs ls h1 h2 h3 => lv_imul C.1 C.2.1 d (k H locs ls h1 h2 h3)
theorem x_iand (C : hC z own cc) {x y : Int32} (d : decode cc pc = .ok (.iand, 1)) (k : hX z cells slots G lv (pc + 1) (.int (x &&& y) :: rest)) : hX z cells slots G lv pc (.int y :: .int x :: rest) := fun H locs ls h1 h2 h3 => lv_iand C.1 C.2.1 d (k H locs ls h1 h2 h3)
theorem x_ior (C : hC z own cc) {x y : Int32} (d : decode cc pc = .ok (.ior, 1)) (k : hX z cells slots G lv (pc + 1) (.int (x ||| y) :: rest)) : hX z cells slots G lv pc (.int y :: .int x :: rest) := fun H locs ls h1 h2 h3 => lv_ior C.1 C.2.1 d (k H locs ls h1 h2 h3)
theorem x_ixor (C : hC z own cc) {x y : Int32} (d : decode cc pc = .ok (.ixor, 1)) (k : hX z cells slots G lv (pc + 1) (.int (x ^^^ y) :: rest)) : hX z cells slots G lv pc (.int y :: .int x :: rest) := fun H locs ls h1 h2 h3 => lv_ixor C.1 C.2.1 d (k H locs ls h1 h2 h3)
theorem x_ishl (C : hC z own cc) {x y : Int32} (d : decode cc pc = .ok (.ishl, 1)) (k : hX z cells slots G lv (pc + 1) (.int (isl x y) :: rest)) : hX z cells slots G lv pc (.int y :: .int x :: rest) := fun H locs ls h1 h2 h3 => lv_ishl C.1 C.2.1 d (k H locs ls h1 h2 h3)
theorem x_ishr (C : hC z own cc) {x y : Int32} (d : decode cc pc = .ok (.ishr, 1)) (k : hX z cells slots G lv (pc + 1) (.int (isr x y) :: rest)) : hX z cells slots G lv pc (.int y :: .int x :: rest) := fun H locs ls h1 h2 h3 => lv_ishr C.1 C.2.1 d (k H locs ls h1 h2 h3)
theorem x_iushr (C : hC z own cc) {x y : Int32} (d : decode cc pc = .ok (.iushr, 1)) (k : hX z cells slots G lv (pc + 1) (.int (iusr x y) :: rest)) : hX z cells slots G lv pc (.int y :: .int x :: rest) := fun H locs ls h1 h2 h3 => lv_iushr C.1 C.2.1 d rfl (k H locs ls h1 h2 h3)
theorem x_idiv (C : hC z own cc) {x y : Int32} (d : decode cc pc = .ok (.idiv, 1)) (hne : ¬ y = 0) (k : hX z cells slots G lv (pc + 1) (.int (x / y) :: rest)) : hX z cells slots G lv pc (.int y :: .int x :: rest) := fun H locs ls h1 h2 h3 => lv_idiv C.1 C.2.1 d hne (k H locs ls h1 h2 h3)
theorem x_irem (C : hC z own cc) {x y : Int32} (d : decode cc pc = .ok (.irem, 1)) (hne : ¬ y = 0) (k : hX z cells slots G lv (pc + 1) (.int (x - x / y * y) :: rest)) : hX z cells slots G lv pc (.int y :: .int x :: rest) := fun H locs ls h1 h2 h3 => lv_irem C.1 C.2.1 d hne (k H locs ls h1 h2 h3)
theorem x_ladd (C : hC z own cc) {x y : Int64} (d : decode cc pc = .ok (.ladd, 1)) (k : hX z cells slots G lv (pc + 1) (.long (x + y) :: rest)) : hX z cells slots G lv pc (.long y :: .long x :: rest) := fun H locs ls h1 h2 h3 => lv_ladd C.1 C.2.1 d (k H locs ls h1 h2 h3)
theorem x_lsub (C : hC z own cc) {x y : Int64} (d : decode cc pc = .ok (.lsub, 1)) (k : hX z cells slots G lv (pc + 1) (.long (x - y) :: rest)) : hX z cells slots G lv pc (.long y :: .long x :: rest) := fun H locs ls h1 h2 h3 => lv_lsub C.1 C.2.1 d (k H locs ls h1 h2 h3)
theorem x_lmul (C : hC z own cc) {x y : Int64} (d : decode cc pc = .ok (.lmul, 1)) (k : hX z cells slots G lv (pc + 1) (.long (x * y) :: rest)) : hX z cells slots G lv pc (.long y :: .long x :: rest) := fun H locs ls h1 h2 h3 => lv_lmul C.1 C.2.1 d (k H locs ls h1 h2 h3)
theorem x_land (C : hC z own cc) {x y : Int64} (d : decode cc pc = .ok (.land, 1)) (k : hX z cells slots G lv (pc + 1) (.long (x &&& y) :: rest)) : hX z cells slots G lv pc (.long y :: .long x :: rest) := fun H locs ls h1 h2 h3 => lv_land C.1 C.2.1 d (k H locs ls h1 h2 h3)
theorem x_lor (C : hC z own cc) {x y : Int64} (d : decode cc pc = .ok (.lor, 1)) (k : hX z cells slots G lv (pc + 1) (.long (x ||| y) :: rest)) : hX z cells slots G lv pc (.long y :: .long x :: rest) := fun H locs ls h1 h2 h3 => lv_lor C.1 C.2.1 d (k H locs ls h1 h2 h3)
theorem x_lshl (C : hC z own cc) {x : Int64} {y : Int32} (d : decode cc pc = .ok (.lshl, 1)) (k : hX z cells slots G lv (pc + 1) (.long (lsl x y) :: rest)) : hX z cells slots G lv pc (.int y :: .long x :: rest) := fun H locs ls h1 h2 h3 => lv_lshl C.1 C.2.1 d rfl (k H locs ls h1 h2 h3)
theorem x_lshr (C : hC z own cc) {x : Int64} {y : Int32} (d : decode cc pc = .ok (.lshr, 1)) (k : hX z cells slots G lv (pc + 1) (.long (lsr x y) :: rest)) : hX z cells slots G lv pc (.int y :: .long x :: rest) := fun H locs ls h1 h2 h3 => lv_lshr C.1 C.2.1 d rfl (k H locs ls h1 h2 h3)
theorem x_lushr (C : hC z own cc) {x : Int64} {y : Int32} (d : decode cc pc = .ok (.lushr, 1)) (k : hX z cells slots G lv (pc + 1) (.long (lusr x y) :: rest)) : hX z cells slots G lv pc (.int y :: .long x :: rest) := fun H locs ls h1 h2 h3 => lv_lushr C.1 C.2.1 d rfl (k H locs ls h1 h2 h3)
theorem x_i2l (C : hC z own cc) {x : Int32} (d : decode cc pc = .ok (.i2l, 1)) (k : hX z cells slots G lv (pc + 1) (.long x.toInt64 :: rest)) : hX z cells slots G lv pc (.int x :: rest) := fun H locs ls h1 h2 h3 => lv_i2l C.1 C.2.1 d rfl (k H locs ls h1 h2 h3)
theorem x_l2i (C : hC z own cc) {x : Int64} (d : decode cc pc = .ok (.l2i, 1)) (k : hX z cells slots G lv (pc + 1) (.int x.toInt32 :: rest)) : hX z cells slots G lv pc (.long x :: rest) := fun H locs ls h1 h2 h3 => lv_l2i C.1 C.2.1 d rfl (k H locs ls h1 h2 h3)
theorem x_lcmp (C : hC z own cc) {x y : Int64} (d : decode cc pc = .ok (.lcmp, 1)) (k : hX z cells slots G lv (pc + 1) (.int (lg_cmp x y) :: rest)) : hX z cells slots G lv pc (.long y :: .long x :: rest) := fun H locs ls h1 h2 h3 => W.lcmp C.1 C.2.1 d (k H locs ls h1 h2 h3)
theorem x_dup (C : hC z own cc) {va : Value} (d : decode cc pc = .ok (.dup, 1)) (hva : va.category = 1) (k : hX z cells slots G lv (pc + 1) (va :: va :: rest)) : hX z cells slots G lv pc (va :: rest) := fun H locs ls h1 h2 h3 => lv_dup C.1 C.2.1 d hva (k H locs ls h1 h2 h3)
theorem x_dup2 (C : hC z own cc) {va vb : Value} (d : decode cc pc = .ok (.dup2, 1)) (hva : va.category = 1) (hvb : vb.category = 1) (k : hX z cells slots G lv (pc + 1) (va :: vb :: va :: vb :: rest)) : hX z cells slots G lv pc (va :: vb :: rest) := fun H locs ls h1 h2 h3 => lv_dup2_11 C.1 C.2.1 d hva hvb (k H locs ls h1 h2 h3)
theorem x_if_eq (C : hC z own cc) {x : Int32} {off : Int} {tgt : Nat} (d : decode cc pc = .ok (.ifCond .eq off, 3)) (ht : (pc : Int) + off = (tgt : Int)) (kt : x = 0 → hX z cells slots G lv tgt rest) (kf : ¬ (x = 0) → hX z cells slots G lv (pc + 3) rest) : hX z cells slots G lv pc (.int x :: rest) := fun H locs ls h1 h2 h3 => lv_if_eq C.1 C.2.1 d ht (fun q => kt q H locs ls h1 h2 h3) (fun q => kf q H locs ls h1 h2 h3)
theorem x_icmp_eq (C : hC z own cc) {x y : Int32} {off : Int} {tgt : Nat} (d : decode cc pc = .ok (.if_icmp .eq off, 3)) (ht : (pc : Int) + off = (tgt : Int)) (kt : x = y → hX z cells slots G lv tgt rest) (kf : ¬ (x = y) → hX z cells slots G lv (pc + 3) rest) : hX z cells slots G lv pc (.int y :: .int x :: rest) := fun H locs ls h1 h2 h3 => lv_icmp_eq C.1 C.2.1 d ht (fun q => kt q H locs ls h1 h2 h3) (fun q => kf q H locs ls h1 h2 h3)
theorem x_if_ne (C : hC z own cc) {x : Int32} {off : Int} {tgt : Nat} (d : decode cc pc = .ok (.ifCond .ne off, 3)) (ht : (pc : Int) + off = (tgt : Int)) (kt : ¬ x = 0 → hX z cells slots G lv tgt rest) (kf : x = 0 → hX z cells slots G lv (pc + 3) rest) : hX z cells slots G lv pc (.int x :: rest) := fun H locs ls h1 h2 h3 => lv_if_ne C.1 C.2.1 d ht (fun q => kt q H locs ls h1 h2 h3) (fun q => kf q H locs ls h1 h2 h3)
theorem x_icmp_ne (C : hC z own cc) {x y : Int32} {off : Int} {tgt : Nat} (d : decode cc pc = .ok (.if_icmp .ne off, 3)) (ht : (pc : Int) + off = (tgt : Int)) (kt : ¬ x = y → hX z cells slots G lv tgt rest) (kf : x = y → hX z cells slots G lv (pc + 3) rest) : hX z cells slots G lv pc (.int y :: .int x :: rest) := fun H locs ls h1 h2 h3 => lv_icmp_ne C.1 C.2.1 d ht (fun q => kt q H locs ls h1 h2 h3) (fun q => kf q H locs ls h1 h2 h3)
theorem x_if_lt (C : hC z own cc) {x : Int32} {off : Int} {tgt : Nat} (d : decode cc pc = .ok (.ifCond .lt off, 3)) (ht : (pc : Int) + off = (tgt : Int)) (kt : x < 0 → hX z cells slots G lv tgt rest) (kf : ¬ (x < 0) → hX z cells slots G lv (pc + 3) rest) : hX z cells slots G lv pc (.int x :: rest) := fun H locs ls h1 h2 h3 => lv_if_lt C.1 C.2.1 d ht (fun q => kt q H locs ls h1 h2 h3) (fun q => kf q H locs ls h1 h2 h3)
theorem x_icmp_lt (C : hC z own cc) {x y : Int32} {off : Int} {tgt : Nat} (d : decode cc pc = .ok (.if_icmp .lt off, 3)) (ht : (pc : Int) + off = (tgt : Int)) (kt : x < y → hX z cells slots G lv tgt rest) (kf : ¬ (x < y) → hX z cells slots G lv (pc + 3) rest) : hX z cells slots G lv pc (.int y :: .int x :: rest) := fun H locs ls h1 h2 h3 => lv_icmp_lt C.1 C.2.1 d ht (fun q => kt q H locs ls h1 h2 h3) (fun q => kf q H locs ls h1 h2 h3)
theorem x_if_ge (C : hC z own cc) {x : Int32} {off : Int} {tgt : Nat} (d : decode cc pc = .ok (.ifCond .ge off, 3)) (ht : (pc : Int) + off = (tgt : Int)) (kt : 0 ≤ x → hX z cells slots G lv tgt rest) (kf : ¬ (0 ≤ x) → hX z cells slots G lv (pc + 3) rest) : hX z cells slots G lv pc (.int x :: rest) := fun H locs ls h1 h2 h3 => lv_if_ge C.1 C.2.1 d ht (fun q => kt q H locs ls h1 h2 h3) (fun q => kf q H locs ls h1 h2 h3)
theorem x_icmp_ge (C : hC z own cc) {x y : Int32} {off : Int} {tgt : Nat} (d : decode cc pc = .ok (.if_icmp .ge off, 3)) (ht : (pc : Int) + off = (tgt : Int)) (kt : y ≤ x → hX z cells slots G lv tgt rest) (kf : ¬ (y ≤ x) → hX z cells slots G lv (pc + 3) rest) : hX z cells slots G lv pc (.int y :: .int x :: rest) := fun H locs ls h1 h2 h3 => lv_icmp_ge C.1 C.2.1 d ht (fun q => kt q H locs ls h1 h2 h3) (fun q => kf q H locs ls h1 h2 h3)
theorem x_if_gt (C : hC z own cc) {x : Int32} {off : Int} {tgt : Nat} (d : decode cc pc = .ok (.ifCond .gt off, 3)) (ht : (pc : Int) + off = (tgt : Int)) (kt : 0 < x → hX z cells slots G lv tgt rest) (kf : ¬ (0 < x) → hX z cells slots G lv (pc + 3) rest) : hX z cells slots G lv pc (.int x :: rest) := fun H locs ls h1 h2 h3 => lv_if_gt C.1 C.2.1 d ht (fun q => kt q H locs ls h1 h2 h3) (fun q => kf q H locs ls h1 h2 h3)
theorem x_icmp_gt (C : hC z own cc) {x y : Int32} {off : Int} {tgt : Nat} (d : decode cc pc = .ok (.if_icmp .gt off, 3)) (ht : (pc : Int) + off = (tgt : Int)) (kt : y < x → hX z cells slots G lv tgt rest) (kf : ¬ (y < x) → hX z cells slots G lv (pc + 3) rest) : hX z cells slots G lv pc (.int y :: .int x :: rest) := fun H locs ls h1 h2 h3 => lv_icmp_gt C.1 C.2.1 d ht (fun q => kt q H locs ls h1 h2 h3) (fun q => kf q H locs ls h1 h2 h3)
theorem x_if_le (C : hC z own cc) {x : Int32} {off : Int} {tgt : Nat} (d : decode cc pc = .ok (.ifCond .le off, 3)) (ht : (pc : Int) + off = (tgt : Int)) (kt : x ≤ 0 → hX z cells slots G lv tgt rest) (kf : ¬ (x ≤ 0) → hX z cells slots G lv (pc + 3) rest) : hX z cells slots G lv pc (.int x :: rest) := fun H locs ls h1 h2 h3 => lv_if_le C.1 C.2.1 d ht (fun q => kt q H locs ls h1 h2 h3) (fun q => kf q H locs ls h1 h2 h3)
theorem x_icmp_le (C : hC z own cc) {x y : Int32} {off : Int} {tgt : Nat} (d : decode cc pc = .ok (.if_icmp .le off, 3)) (ht : (pc : Int) + off = (tgt : Int)) (kt : x ≤ y → hX z cells slots G lv tgt rest) (kf : ¬ (x ≤ y) → hX z cells slots G lv (pc + 3) rest) : hX z cells slots G lv pc (.int y :: .int x :: rest) := fun H locs ls h1 h2 h3 => lv_icmp_le C.1 C.2.1 d ht (fun q => kt q H locs ls h1 h2 h3) (fun q => kf q H locs ls h1 h2 h3)
theorem x_goto (C : hC z own cc) {off : Int} {tgt : Nat} (d : decode cc pc = .ok (.goto off, 3)) (ht : (pc : Int) + off = (tgt : Int)) (k : hX z cells slots G lv tgt rest) : hX z cells slots G lv pc rest := fun H locs ls h1 h2 h3 => lv_goto C.1 C.2.1 d ht (k H locs ls h1 h2 h3)
theorem x_ifnonnull (C : hC z own cc) {x : Nat} {off : Int} {tgt : Nat} (d : decode cc pc = .ok (.ifnonnull off, 3)) (ht : (pc : Int) + off = (tgt : Int)) (k : hX z cells slots G lv tgt rest) : hX z cells slots G lv pc (.ref x :: rest) := fun H locs ls h1 h2 h3 => lv_ifnonnull C.1 C.2.1 d ht (k H locs ls h1 h2 h3)
theorem x_ifnonnullN (C : hC z own cc) {off : Int} (d : decode cc pc = .ok (.ifnonnull off, 3)) (k : hX z cells slots G lv (pc + 3) rest) : hX z cells slots G lv pc (.null :: rest) := fun H locs ls h1 h2 h3 => lv_ifnonnullN C.1 C.2.1 d (k H locs ls h1 h2 h3)
theorem x_ifnull (C : hC z own cc) {x : Nat} {off : Int} (d : decode cc pc = .ok (.ifnull off, 3)) (k : hX z cells slots G lv (pc + 3) rest) : hX z cells slots G lv pc (.ref x :: rest) := fun H locs ls h1 h2 h3 => lv_ifnull C.1 C.2.1 d (k H locs ls h1 h2 h3)
theorem x_ifnullN (C : hC z own cc) {off : Int} {tgt : Nat} (d : decode cc pc = .ok (.ifnull off, 3)) (ht : (pc : Int) + off = (tgt : Int)) (k : hX z cells slots G lv tgt rest) : hX z cells slots G lv pc (.null :: rest) := fun H locs ls h1 h2 h3 => lv_ifnullN C.1 C.2.1 d ht (k H locs ls h1 h2 h3)
theorem x_tableOut (C : hC z own cc) {dflt lo hi : Int} {offs : Array Int} {len : Nat} {x : Int32} {tgt : Nat} (d : decode cc pc = .ok (.tableswitch dflt lo hi offs, len)) (h : x.toInt < lo ∨ hi < x.toInt) (ht : (pc : Int) + dflt = (tgt : Int)) (k : hX z cells slots G lv tgt rest) : hX z cells slots G lv pc (.int x :: rest) := fun H locs ls h1 h2 h3 => lv_tableOut C.1 C.2.1 d h ht (k H locs ls h1 h2 h3)
theorem x_tableIn (C : hC z own cc) {dflt lo hi : Int} {offs : Array Int} {len : Nat} {x : Int32} {off : Int} {tgt : Nat} (d : decode cc pc = .ok (.tableswitch dflt lo hi offs, len)) (g1 : ¬ x.toInt < lo) (g2 : ¬ hi < x.toInt) (ho : offs[(x.toInt - lo).toNat]? = some off) (ht : (pc : Int) + off = (tgt : Int)) (k : hX z cells slots G lv tgt rest) : hX z cells slots G lv pc (.int x :: rest) := fun H locs ls h1 h2 h3 => lv_tableIn C.1 C.2.1 d g1 g2 ho ht (k H locs ls h1 h2 h3)
theorem x_topi {x : Int32} (k : ∀ y : Int32, y = x → hX z cells slots G lv pc (.int y :: rest)) : hX z cells slots G lv pc (.int x :: rest) := k x rfl
theorem x_topl {x : Int64} (k : ∀ y : Int64, y = x → hX z cells slots G lv pc (.long y :: rest)) : hX z cells slots G lv pc (.long x :: rest) := k x rfl
theorem x_eqi {x y : Int32} (e : x = y) (k : hX z cells slots G lv pc (.int y :: rest)) : hX z cells slots G lv pc (.int x :: rest) := by rw [e]; exact k
theorem x_eql {x y : Int64} (e : x = y) (k : hX z cells slots G lv pc (.long y :: rest)) : hX z cells slots G lv pc (.long x :: rest) := by rw [e]; exact k
theorem x_G {G1 : hG} (e : G = G1) (k : hX z cells slots G1 lv pc rest) : hX z cells slots G lv pc rest := by rw [e]; exact k
theorem x_sub (ks : List Nat) (hl : lv_pick lv ks = lv') (k : hX z cells slots G lv' pc rest) : hX z cells slots G lv pc rest := fun H locs ls h1 h2 h3 => k H locs ls h1 h2 (lv_sub h3 ks hl)
theorem x_widen {c2 s2 : Nat} (h1 : cells ≤ c2) (h2 : slots ≤ s2) (k : hX z c2 s2 G lv pc rest) : hX z cells slots G lv pc rest := fun H locs ls g1 g2 g3 => W.widen h1 h2 (k H locs ls g1 g2 g3)
end HXR
end
section
/-! ===== fields and arrays over hX ===== -/
def gI (G : hG) (a k : Nat) (x : Int32) : hG := (G.1, va_up G.2.1 a (upd (G.2.1 a) k x), G.2.2.1, G.2.2.2)
def gL (G : hG) (a k : Nat) (x : Int64) : hG := (G.1, G.2.1, va_up G.2.2.1 a (vp_updL (G.2.2.1 a) k x), G.2.2.2)
def gR (G : hG) (a k : Nat) (x : Option Nat) : hG := (G.1, G.2.1, G.2.2.1, va_up G.2.2.2 a (va_up (G.2.2.2 a) k x))
/-- what the printed names say of a class -/
def hCl (ci : Nat) (w : vw_C) : Prop := vwCl[ci]? = some w ∧ (∀ x ∈ u_ws w.1 w.2.1 w.2.2, x ∈ lw_tbl) ∧ (∀ k, k < w.2.2 → parseFieldDescriptor (w.2.1 k).2.2.1 = some (hty ci k)) ∧ (∀ a, a < w.2.2 → ∀ b, b < w.2.2 → a ≠ b → (w.2.1 a).2.1 ≠ (w.2.1 b).2.1)
/-- an entry of a class' constants that names a field: the k-th of the class ci; b: it is final -/
def hFl (own : String) (index ci k : Nat) (b : Bool) : Prop := ∃ w : vw_C, hCl ci w ∧ k < w.2.2 ∧ Cond.fieldLink own index (w.2.1 k).1 (w.2.1 k).2.1 (w.2.1 k).2.2.1 ∈ lw_tbl ∧ (w.2.1 k).2.2.2 = b ∧ (w.2.1 k).1 = w.1
theorem va_up_same {α : Type} (f : Nat → α) (k : Nat) (x : α) : va_up f k x k = x := by simp [va_up]
theorem va_up_other {α : Type} (f : Nat → α) {k j : Nat} (x : α) (h : j ≠ k) : va_up f k x j = f j := by simp [va_up, h]
section HXC
variable {z : hZ} {own : String} {cc : ByteArray} {cells slots pc : Nat} {G : hG} {lv lv' : List (Nat × Value)} {rest : List Value}
theorem hget (C : hC z own cc) {index ci k a : Nat} {b : Bool} (f : hFl own index ci k b) (hT : G.1 a = some (.inr ci)) (d : decode cc pc = .ok (.getfield index, 3))
    (kk : hX z cells slots G lv (pc + 3) (hfv ci (G.2.1 a) (G.2.2.2 a) k :: rest)) : hX z cells slots G lv pc (.ref a :: rest) := by
  intro H locs ls h1 h2 h3
  obtain ⟨w, ⟨hc, hws, hty, hnm⟩, hk, hl, -, -⟩ := f
  obtain ⟨w', hc', ce, q1, q2, q3, q4⟩ := h1 a _ hT
  have hr : w' = w := Option.some.inj (hc'.symm.trans hc)
  subst hr
  obtain ⟨hS, hfc, kC, hkC, hkind⟩ := C.2.2.2.2.2.1.1.1 ci _ hc
  obtain ⟨cf, kf, fi, f, hi, hsl⟩ := hS k hk
  have hst := (u_facts hfc hkC (u_lays C.2.2.2.2.1 hws hk) hi).1
  refine W.getf C.1 C.2.1 C.2.2.2.1 (C.2.2.2.2.1 _ hl) hi hst q1 (by rw [q3]; intro e; cases e) (by rw [hsl]; exact q4 k hk) rfl rfl d ?_
  exact kk H locs ls h1 h2 h3
theorem x_geti (C : hC z own cc) {index ci k a : Nat} {b : Bool} (f : hFl own index ci k b) (hT : G.1 a = some (.inr ci)) (hr : hrf (hty ci k) = false) (d : decode cc pc = .ok (.getfield index, 3))
    (kk : hX z cells slots G lv (pc + 3) (.int (G.2.1 a k) :: rest)) : hX z cells slots G lv pc (.ref a :: rest) := by
  refine hget C f hT d ?_
  rw [hfv, if_neg (by rw [hr]; decide)]
  exact kk
theorem x_getr (C : hC z own cc) {index ci k a q : Nat} {b : Bool} (f : hFl own index ci k b) (hT : G.1 a = some (.inr ci)) (hr : hrf (hty ci k) = true) (hq : G.2.2.2 a k = some q) (d : decode cc pc = .ok (.getfield index, 3))
    (kk : hX z cells slots G lv (pc + 3) (.ref q :: rest)) : hX z cells slots G lv pc (.ref a :: rest) := by
  refine hget C f hT d ?_
  rw [hfv, if_pos hr, hq]
  exact kk
theorem hput (C : hC z own cc) {index ci k a : Nat} (f : hFl own index ci k false) (hT : G.1 a = some (.inr ci)) (h0 : z0 z ≤ a) {v : Value} (hn : narrow (hty ci k) v = v) (hf : fits (hty ci k) v = true) (d : decode cc pc = .ok (.putfield index, 3)) {G1 : hG}
    (e1 : G1.1 = G.1) (e2 : ∀ q, q ≠ a → G1.2.1 q = G.2.1 q) (e3 : G1.2.2.1 = G.2.2.1) (e4 : ∀ q, q ≠ a → G1.2.2.2 q = G.2.2.2 q) (ev : hfv ci (G1.2.1 a) (G1.2.2.2 a) k = v) (ev2 : ∀ j, j ≠ k → hfv ci (G1.2.1 a) (G1.2.2.2 a) j = hfv ci (G.2.1 a) (G.2.2.2 a) j)
    (kk : hX z cells slots G1 lv (pc + 3) rest) : hX z cells slots G lv pc (v :: .ref a :: rest) := by
  intro H locs ls h1 h2 h3
  obtain ⟨w, ⟨hc, hws, hty, hnm⟩, hk, hl, hfin, -⟩ := f
  have hap := va_apart (own := own) C.2.2.2.2.1 hws _ hty hnm C.2.2.2.2.2.1.1 hc
  obtain ⟨w', hc', ce, q1, q2, q3, q4⟩ := h1 a _ hT
  have hr : w' = w := Option.some.inj (hc'.symm.trans hc)
  subst hr
  obtain ⟨hS, hfc, kC, hkC, hkind⟩ := C.2.2.2.2.2.1.1.1 ci _ hc
  obtain ⟨cf, kf, fi, f, hi, hsl⟩ := hS k hk
  have hlay := C.2.2.2.2.1 _ (hws _ (u_in_lay hk))
  unfold u_lay at hlay
  rw [if_neg (by rw [hfin]; decide)] at hlay
  have hst := (u_facts hfc hkC (u_lays C.2.2.2.2.1 hws hk) hi).1
  have h6 := u_store hfc hkC hkind hlay hi (hty k hk) hn hf
  refine W.putK C.1 C.2.1 (f := f) ⟨C.2.2.2.1, C.2.2.2.2.1 _ hl, ⟨_, _, _, hi⟩, hst⟩ (by rw [q2]; exact h6) q1 q3 (by rw [hsl]; exact k2_hasslot (q4 k hk)) rfl rfl d fun H' g1 g2 g3 => ?_
  rw [hsl] at g1 ⊢
  refine kk H' _ ls (h1.put (a := a) g3 e1 e2 (fun q _ => by rw [e3]) e4 (fun k' hk' => ?_)) (h2.put g2 g3 h0) h3
  have : k' = .inr ci := Option.some.inj (hk'.symm.trans hT)
  subst this
  refine ⟨_, hc, t_OB.to (V := updV (hfv ci (G.2.1 a) (G.2.2.2 a)) k v) ⟨_, g1, q2, q3, t_set q4 hap hk v⟩ (fun j _ => ?_)⟩
  unfold updV
  by_cases e : j = k
  · subst e; rw [if_pos rfl, ev]
  · rw [if_neg e, ev2 j e]
theorem hputF (C : hC z own cc) {index ci k a : Nat} (f : hFl own index ci k true) (hown : vwCl[ci]?.map (fun w => w.1) = some own) (hin : (zM z).name = "<init>") (hT : G.1 a = some (.inr ci)) (h0 : z0 z ≤ a) {v : Value} (hn : narrow (hty ci k) v = v) (hf : fits (hty ci k) v = true) (d : decode cc pc = .ok (.putfield index, 3)) {G1 : hG}
    (e1 : G1.1 = G.1) (e2 : ∀ q, q ≠ a → G1.2.1 q = G.2.1 q) (e3 : G1.2.2.1 = G.2.2.1) (e4 : ∀ q, q ≠ a → G1.2.2.2 q = G.2.2.2 q) (ev : hfv ci (G1.2.1 a) (G1.2.2.2 a) k = v) (ev2 : ∀ j, j ≠ k → hfv ci (G1.2.1 a) (G1.2.2.2 a) j = hfv ci (G.2.1 a) (G.2.2.2 a) j)
    (kk : hX z cells slots G1 lv (pc + 3) rest) : hX z cells slots G lv pc (v :: .ref a :: rest) := by
  intro H locs ls h1 h2 h3
  obtain ⟨w, ⟨hc, hws, hty, hnm⟩, hk, hl, hfin, hdecl⟩ := f
  have hap := va_apart (own := own) C.2.2.2.2.1 hws _ hty hnm C.2.2.2.2.2.1.1 hc
  obtain ⟨w', hc', ce, q1, q2, q3, q4⟩ := h1 a _ hT
  have hr : w' = w := Option.some.inj (hc'.symm.trans hc)
  subst hr
  rw [hc] at hown
  have hown : w'.1 = own := Option.some.inj hown
  obtain ⟨hS, hfc, kC, hkC, hkind⟩ := C.2.2.2.2.2.1.1.1 ci _ hc
  obtain ⟨cf, kf, fi, f, hi, hsl⟩ := hS k hk
  have hlay := C.2.2.2.2.1 _ (hws _ (u_in_lay hk))
  unfold u_lay at hlay
  rw [if_pos hfin] at hlay
  have hst := (u_facts hfc hkC (u_lays C.2.2.2.2.1 hws hk) hi).1
  have hcf : (zm z).cls = cf := by
    obtain ⟨_, _, c', _, _, _, -, -, hf', -, -, -, hown2, -⟩ := Cond.laysFinal_spec hlay
    have e1 : c' = cf := by have := hi.symm.trans hf'; simp at this; exact this.1.symm
    rw [hdecl, hown] at hown2
    rw [← e1]; exact Option.some.inj (C.2.2.2.1.symm.trans hown2)
  have h6 := u_fits hfc hkC hkind (Or.inr hlay) hi (hty k hk) hn hf
  refine W.putFinK C.1 C.2.1 C.2.2.2.1 (C.2.2.2.2.1 _ hl) hi hst hcf hin (by rw [q2]; exact h6) q1 q3 (by rw [hsl]; exact k2_hasslot (q4 k hk)) rfl rfl d fun H' g1 g2 g3 => ?_
  rw [hsl] at g1 ⊢
  refine kk H' _ ls (h1.put (a := a) g3 e1 e2 (fun q _ => by rw [e3]) e4 (fun k' hk' => ?_)) (h2.put g2 g3 h0) h3
  have : k' = .inr ci := Option.some.inj (hk'.symm.trans hT)
  subst this
  refine ⟨_, hc, t_OB.to (V := updV (hfv ci (G.2.1 a) (G.2.2.2 a)) k v) ⟨_, g1, q2, q3, t_set q4 hap hk v⟩ (fun j _ => ?_)⟩
  unfold updV
  by_cases e : j = k
  · subst e; rw [if_pos rfl, ev]
  · rw [if_neg e, ev2 j e]
theorem hfv_i {ci k a : Nat} {x : Int32} (hr : hrf (hty ci k) = false) : hfv ci ((gI G a k x).2.1 a) ((gI G a k x).2.2.2 a) k = .int x := by
  rw [hfv, if_neg (by rw [hr]; decide)]; simp [gI, va_up, upd]
theorem hfv_i2 {ci k a : Nat} {x : Int32} : ∀ j, j ≠ k → hfv ci ((gI G a k x).2.1 a) ((gI G a k x).2.2.2 a) j = hfv ci (G.2.1 a) (G.2.2.2 a) j := by
  intro j hj; unfold hfv; simp [gI, va_up, upd, hj]
theorem hfv_r {ci k a : Nat} {x : Option Nat} (hr : hrf (hty ci k) = true) : hfv ci ((gR G a k x).2.1 a) ((gR G a k x).2.2.2 a) k = va_rf x := by
  rw [hfv, if_pos hr]; simp [gR, va_up]
theorem hfv_r2 {ci k a : Nat} {x : Option Nat} : ∀ j, j ≠ k → hfv ci ((gR G a k x).2.1 a) ((gR G a k x).2.2.2 a) j = hfv ci (G.2.1 a) (G.2.2.2 a) j := by
  intro j hj; unfold hfv; simp [gR, va_up, hj]
theorem x_puti (C : hC z own cc) {index ci k a : Nat} {x : Int32} (f : hFl own index ci k false) (hT : G.1 a = some (.inr ci)) (h0 : z0 z ≤ a) (ht : hty ci k = .int) (d : decode cc pc = .ok (.putfield index, 3)) (kk : hX z cells slots (gI G a k x) lv (pc + 3) rest) : hX z cells slots G lv pc (.int x :: .ref a :: rest) :=
  hput (G1 := gI G a k x) C f hT h0 (by rw [ht]; rfl) (by rw [ht]; rfl) d rfl (fun q h => by simp [gI, va_up, h]) rfl (fun q h => rfl) (hfv_i (by rw [ht]; rfl)) hfv_i2 kk
theorem x_putiF (C : hC z own cc) {index ci k a : Nat} {x : Int32} (f : hFl own index ci k true) (hown : vwCl[ci]?.map (fun w => w.1) = some own) (hin : (zM z).name = "<init>") (hT : G.1 a = some (.inr ci)) (h0 : z0 z ≤ a) (ht : hty ci k = .int) (d : decode cc pc = .ok (.putfield index, 3)) (kk : hX z cells slots (gI G a k x) lv (pc + 3) rest) : hX z cells slots G lv pc (.int x :: .ref a :: rest) :=
  hputF (G1 := gI G a k x) C f hown hin hT h0 (by rw [ht]; rfl) (by rw [ht]; rfl) d rfl (fun q h => by simp [gI, va_up, h]) rfl (fun q h => rfl) (hfv_i (by rw [ht]; rfl)) hfv_i2 kk
theorem nar_z {x : Int32} (h : x = 0 ∨ x = 1) : narrow .boolean (.int x) = .int x ∧ fits .boolean (.int x) = true := by
  rcases h with rfl | rfl <;> exact ⟨by decide +kernel, by decide +kernel⟩
theorem x_putz (C : hC z own cc) {index ci k a : Nat} {x : Int32} (f : hFl own index ci k false) (hT : G.1 a = some (.inr ci)) (h0 : z0 z ≤ a) (ht : hty ci k = .boolean) (hx : x = 0 ∨ x = 1) (d : decode cc pc = .ok (.putfield index, 3)) (kk : hX z cells slots (gI G a k x) lv (pc + 3) rest) : hX z cells slots G lv pc (.int x :: .ref a :: rest) :=
  hput (G1 := gI G a k x) C f hT h0 (by rw [ht]; exact (nar_z hx).1) (by rw [ht]; exact (nar_z hx).2) d rfl (fun q h => by simp [gI, va_up, h]) rfl (fun q h => rfl) (hfv_i (by rw [ht]; rfl)) hfv_i2 kk
theorem x_putzF (C : hC z own cc) {index ci k a : Nat} {x : Int32} (f : hFl own index ci k true) (hown : vwCl[ci]?.map (fun w => w.1) = some own) (hin : (zM z).name = "<init>") (hT : G.1 a = some (.inr ci)) (h0 : z0 z ≤ a) (ht : hty ci k = .boolean) (hx : x = 0 ∨ x = 1) (d : decode cc pc = .ok (.putfield index, 3)) (kk : hX z cells slots (gI G a k x) lv (pc + 3) rest) : hX z cells slots G lv pc (.int x :: .ref a :: rest) :=
  hputF (G1 := gI G a k x) C f hown hin hT h0 (by rw [ht]; exact (nar_z hx).1) (by rw [ht]; exact (nar_z hx).2) d rfl (fun q h => by simp [gI, va_up, h]) rfl (fun q h => rfl) (hfv_i (by rw [ht]; rfl)) hfv_i2 kk
theorem ref_z {ty : FieldType} (h : hrf ty = true) (h2 : ty.isReference = true) (q : Nat) : narrow ty (.ref q) = .ref q ∧ fits ty (.ref q) = true := by
  cases ty <;> first | (simp [hrf] at h; done) | (simp [FieldType.isReference] at h2; done) | exact ⟨rfl, rfl⟩
theorem x_putr (C : hC z own cc) {index ci k a q : Nat} (f : hFl own index ci k false) (hT : G.1 a = some (.inr ci)) (h0 : z0 z ≤ a) (hr : hrf (hty ci k) = true) (hr2 : (hty ci k).isReference = true) (d : decode cc pc = .ok (.putfield index, 3)) (kk : hX z cells slots (gR G a k (some q)) lv (pc + 3) rest) : hX z cells slots G lv pc (.ref q :: .ref a :: rest) :=
  hput (G1 := gR G a k (some q)) C f hT h0 (ref_z hr hr2 q).1 (ref_z hr hr2 q).2 d rfl (fun q h => rfl) rfl (fun q h => by simp [gR, va_up, h]) (hfv_r hr) hfv_r2 kk
theorem x_putrF (C : hC z own cc) {index ci k a q : Nat} (f : hFl own index ci k true) (hown : vwCl[ci]?.map (fun w => w.1) = some own) (hin : (zM z).name = "<init>") (hT : G.1 a = some (.inr ci)) (h0 : z0 z ≤ a) (hr : hrf (hty ci k) = true) (hr2 : (hty ci k).isReference = true) (d : decode cc pc = .ok (.putfield index, 3)) (kk : hX z cells slots (gR G a k (some q)) lv (pc + 3) rest) : hX z cells slots G lv pc (.ref q :: .ref a :: rest) :=
  hputF (G1 := gR G a k (some q)) C f hown hin hT h0 (ref_z hr hr2 q).1 (ref_z hr hr2 q).2 d rfl (fun q h => rfl) rfl (fun q h => by simp [gR, va_up, h]) (hfv_r hr) hfv_r2 kk
theorem x_iald (C : hC z own cc) {a n : Nat} {i : Int32} (hT : G.1 a = some (.inl (.int, n))) (hin : vp_in i n) (d : decode cc pc = .ok (.iaload, 1)) (kk : hX z cells slots G lv (pc + 1) (.int (G.2.1 a i.toNatClampNeg) :: rest)) : hX z cells slots G lv pc (.int i :: .ref a :: rest) := by
  intro H locs ls h1 h2 h3
  obtain ⟨ce, q1, q2, q3, q4, q5, -⟩ := h1 a _ hT
  exact W.iald C.1 C.2.1 q1 q2 q3 (by rw [q4]; exact hin) (q5 _ (Nat.not_le.mp fun q => hin (Or.inr q))) rfl rfl d (kk H locs ls h1 h2 h3)
theorem x_zald (C : hC z own cc) {a n : Nat} {i : Int32} (hT : G.1 a = some (.inl (.boolean, n))) (hin : vp_in i n) (d : decode cc pc = .ok (.baload, 1)) (kk : hX z cells slots G lv (pc + 1) (.int (G.2.1 a i.toNatClampNeg) :: rest)) : hX z cells slots G lv pc (.int i :: .ref a :: rest) := by
  intro H locs ls h1 h2 h3
  obtain ⟨ce, q1, q2, q3, q4, q5, -⟩ := h1 a _ hT
  exact W.zald C.1 C.2.1 q1 q2 q3 (by rw [q4]; exact hin) (q5 _ (Nat.not_le.mp fun q => hin (Or.inr q))) rfl rfl d (kk H locs ls h1 h2 h3)
theorem x_lald (C : hC z own cc) {a n : Nat} {i : Int32} (hT : G.1 a = some (.inl (.long, n))) (hin : vp_in i n) (d : decode cc pc = .ok (.laload, 1)) (kk : hX z cells slots G lv (pc + 1) (.long (G.2.2.1 a i.toNatClampNeg) :: rest)) : hX z cells slots G lv pc (.int i :: .ref a :: rest) := by
  intro H locs ls h1 h2 h3
  obtain ⟨ce, q1, q2, q3, q4, q5, -⟩ := h1 a _ hT
  exact W.lald C.1 C.2.1 q1 q2 q3 (by rw [q4]; exact hin) (q5 _ (Nat.not_le.mp fun q => hin (Or.inr q))) rfl rfl d (kk H locs ls h1 h2 h3)
theorem x_aald (C : hC z own cc) {a n : Nat} {i : Int32} {ty : FieldType} (hT : G.1 a = some (.inl (ty, n))) (ht : ty.isReference = true) (hin : vp_in i n) (d : decode cc pc = .ok (.aaload, 1)) (kk : hX z cells slots G lv (pc + 1) (va_rf (G.2.2.2 a i.toNatClampNeg) :: rest)) : hX z cells slots G lv pc (.int i :: .ref a :: rest) := by
  intro H locs ls h1 h2 h3
  obtain ⟨ce, q1, q2, q3, q4, q5, -⟩ := h1 a _ hT
  refine W.aald (ty := ty) C.1 C.2.1 q1 q2 ht q3 (by rw [q4]; exact hin) (q5 _ (Nat.not_le.mp fun q => hin (Or.inr q))) rfl rfl d ?_
  have e : hav ty (G.2.1 a) (G.2.2.1 a) (G.2.2.2 a) i.toNatClampNeg = va_rf (G.2.2.2 a i.toNatClampNeg) := by
    cases ty <;> first | rfl | (simp [FieldType.isReference] at ht; done)
  show zW z H locs cells slots (pc + 1) ls (hav ty (G.2.1 a) (G.2.2.1 a) (G.2.2.2 a) i.toNatClampNeg :: rest)
  rw [e]
  exact kk H locs ls h1 h2 h3
theorem x_iast (C : hC z own cc) {a n : Nat} {i x : Int32} (hT : G.1 a = some (.inl (.int, n))) (h0 : z0 z ≤ a) (hin : vp_in i n) (d : decode cc pc = .ok (.iastore, 1)) (kk : hX z cells slots (gI G a i.toNatClampNeg x) lv (pc + 1) rest) : hX z cells slots G lv pc (.int x :: .int i :: .ref a :: rest) := by
  intro H locs ls h1 h2 h3
  obtain ⟨ce, q1, q2, q3, q4, q5, q6⟩ := h1 a _ hT
  refine W.iast C.1 C.2.1 q1 q2 q3 (by rw [q4]; exact hin) rfl rfl d fun H' g1 g2 g3 => ?_
  refine kk H' _ ls (h1.put (a := a) g3 rfl (fun q h => by simp [gI, va_up, h]) (fun _ _ => rfl) (fun _ _ => rfl) (fun k' hk' => ?_)) (h2.put g2 g3 h0) h3
  have : k' = .inl (.int, n) := Option.some.inj (hk'.symm.trans hT)
  subst this
  exact ⟨_, g1, q2, q3, by show (ce.slots.setIfInBounds _ _).size = _; rw [Array.size_setIfInBounds, q4], hav_upd q4 q5 (by simp [hav, gI, va_up, upd]) (fun j hj => by simp [hav, gI, va_up, upd, hj]), q6⟩
theorem x_zast (C : hC z own cc) {a n : Nat} {i x : Int32} (hT : G.1 a = some (.inl (.boolean, n))) (h0 : z0 z ≤ a) (hin : vp_in i n) (hx : x = 0 ∨ x = 1) (d : decode cc pc = .ok (.bastore, 1)) (kk : hX z cells slots (gI G a i.toNatClampNeg x) lv (pc + 1) rest) : hX z cells slots G lv pc (.int x :: .int i :: .ref a :: rest) := by
  intro H locs ls h1 h2 h3
  obtain ⟨ce, q1, q2, q3, q4, q5, q6⟩ := h1 a _ hT
  refine W.zast C.1 C.2.1 q1 q2 q3 (by rw [q4]; exact hin) rfl rfl d fun H' g1 g2 g3 => ?_
  rw [(nar_z hx).1] at g1
  refine kk H' _ ls (h1.put (a := a) g3 rfl (fun q h => by simp [gI, va_up, h]) (fun _ _ => rfl) (fun _ _ => rfl) (fun k' hk' => ?_)) (h2.put g2 g3 h0) h3
  have : k' = .inl (.boolean, n) := Option.some.inj (hk'.symm.trans hT)
  subst this
  exact ⟨_, g1, q2, q3, by show (ce.slots.setIfInBounds _ _).size = _; rw [Array.size_setIfInBounds, q4], hav_upd q4 q5 (by simp [hav, gI, va_up, upd]) (fun j hj => by simp [hav, gI, va_up, upd, hj]), q6⟩
theorem x_last (C : hC z own cc) {a n : Nat} {i : Int32} {x : Int64} (hT : G.1 a = some (.inl (.long, n))) (h0 : z0 z ≤ a) (hin : vp_in i n) (d : decode cc pc = .ok (.lastore, 1)) (kk : hX z cells slots (gL G a i.toNatClampNeg x) lv (pc + 1) rest) : hX z cells slots G lv pc (.long x :: .int i :: .ref a :: rest) := by
  intro H locs ls h1 h2 h3
  obtain ⟨ce, q1, q2, q3, q4, q5, q6⟩ := h1 a _ hT
  refine W.last C.1 C.2.1 q1 q2 q3 (by rw [q4]; exact hin) rfl rfl d fun H' g1 g2 g3 => ?_
  refine kk H' _ ls (h1.put (a := a) g3 rfl (fun _ _ => rfl) (fun q h => by simp [gL, va_up, h]) (fun _ _ => rfl) (fun k' hk' => ?_)) (h2.put g2 g3 h0) h3
  have : k' = .inl (.long, n) := Option.some.inj (hk'.symm.trans hT)
  subst this
  exact ⟨_, g1, q2, q3, by show (ce.slots.setIfInBounds _ _).size = _; rw [Array.size_setIfInBounds, q4], hav_upd q4 q5 (by simp [hav, gL, va_up, vp_updL]) (fun j hj => by simp [hav, gL, va_up, vp_updL, hj]), q6⟩
theorem x_alen (C : hC z own cc) {a : Nat} {t : FieldType × Nat} (hT : G.1 a = some (.inl t)) (d : decode cc pc = .ok (.arraylength, 1)) (kk : hX z cells slots G lv (pc + 1) (.int (nI t.2) :: rest)) : hX z cells slots G lv pc (.ref a :: rest) := by
  intro H locs ls h1 h2 h3
  obtain ⟨ce, q1, q2, q3, q4, q5, -⟩ := h1 a _ hT
  exact W.alen (n := nI t.2) C.1 C.2.1 q1 q2 (by rw [q4] <;> rfl) rfl rfl d (kk H locs ls h1 h2 h3)
/-- the ends -/
theorem x_fit {y : MethodName} {ret : Option FieldType} {rm : Room} {post : Option Value → hG → Prop} {v : Option Value} (E : hE z y ret rm post) (hp : post v G) {H : Heap} {locs : List Loc} (h1 : HR (zs z) (zD z) G H) (h2 : va_S (fun q => z0 z ≤ q) (zs z).heap H locs) : ∀ t : State, t.heap = H → (zs z).WarmedH t.vm → (fun (_ : Array Value) (st : State) (oc : Outcome) (t : State) => (∃ (v : Option Value) (G : hG), oc = .returned v ∧ post v G ∧ HR t (zD z) G t.heap) ∧ va_F (fun q => z0 z ≤ q) st t) (za z) (zs z) (.returned v) t :=
  fun t ht hW => ⟨⟨v, G, rfl, hp, by rw [ht]; exact h1.moved hW.alike⟩, h2.F ht⟩
theorem x_iret {y : MethodName} {rm : Room} {post : Option Value → hG → Prop} {v : Int32} (C : hC z own cc) (E : hE z y (some .int) rm post) (hc : cells ≤ rm.cells) (hs : slots ≤ rm.slots) (d : decode cc pc = .ok (.ireturn, 1)) (hp : post (some (.int v)) G) : hX z cells slots G lv pc [.int v] := by
  intro H locs ls h1 h2 h3
  refine W.widen hc hs ?_
  show W _ _ _ _ _ _ _ _ _ _ _ _ _ _ (zQ z) _
  rw [E.2.2.2.2]
  exact W.iret C.1 C.2.1 E.1 (x_fit E hp h1 h2) h2.2.2 d E.2.1
theorem x_zret {y : MethodName} {rm : Room} {post : Option Value → hG → Prop} {v : Int32} (C : hC z own cc) (E : hE z y (some .boolean) rm post) (hx : v = 0 ∨ v = 1) (hc : cells ≤ rm.cells) (hs : slots ≤ rm.slots) (d : decode cc pc = .ok (.ireturn, 1)) (hp : post (some (.int v)) G) : hX z cells slots G lv pc [.int v] := by
  intro H locs ls h1 h2 h3
  refine W.widen hc hs ?_
  show W _ _ _ _ _ _ _ _ _ _ _ _ _ _ (zQ z) _
  rw [E.2.2.2.2]
  exact W.zret C.1 C.2.1 E.1 (nar_z hx).1 (x_fit E hp h1 h2) h2.2.2 d E.2.1
theorem x_lret {y : MethodName} {rm : Room} {post : Option Value → hG → Prop} {v : Int64} (C : hC z own cc) (E : hE z y (some .long) rm post) (hc : cells ≤ rm.cells) (hs : slots ≤ rm.slots) (d : decode cc pc = .ok (.lreturn, 1)) (hp : post (some (.long v)) G) : hX z cells slots G lv pc [.long v] := by
  intro H locs ls h1 h2 h3
  refine W.widen hc hs ?_
  show W _ _ _ _ _ _ _ _ _ _ _ _ _ _ (zQ z) _
  rw [E.2.2.2.2]
  exact W.lret C.1 C.2.1 E.1 (x_fit E hp h1 h2) h2.2.2 d E.2.1
theorem x_vret {y : MethodName} {rm : Room} {post : Option Value → hG → Prop} (C : hC z own cc) (E : hE z y none rm post) (hc : cells ≤ rm.cells) (hs : slots ≤ rm.slots) (d : decode cc pc = .ok (.return_, 1)) (hp : post none G) : hX z cells slots G lv pc [] := by
  intro H locs ls h1 h2 h3
  refine W.widen hc hs ?_
  show W _ _ _ _ _ _ _ _ _ _ _ _ _ _ (zQ z) _
  rw [E.2.2.2.2]
  exact W.vret C.1 C.2.1 E.1 (x_fit E hp h1 h2) h2.2.2 d E.2.1
theorem x_aret {y : MethodName} {rm : Room} {post : Option Value → hG → Prop} {v : Value} {n : String} (C : hC z own cc) (E : hE z y (some (.object n)) rm post) (hv : v = .null ∨ ∃ a, v = .ref a) (hc : cells ≤ rm.cells) (hs : slots ≤ rm.slots) (d : decode cc pc = .ok (.areturn, 1)) (hp : post (some v) G) : hX z cells slots G lv pc [v] := by
  intro H locs ls h1 h2 h3
  refine W.widen hc hs ?_
  show W _ _ _ _ _ _ _ _ _ _ _ _ _ _ (zQ z) _
  rw [E.2.2.2.2]
  exact W.aret C.1 C.2.1 E.1 (Or.inl ⟨n, rfl⟩) hv (x_fit E hp h1 h2) h2.2.2 d E.2.1
end HXC
end
