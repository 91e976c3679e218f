/-! ===== the printed words, by their places (written by links.py) ===== -/
theorem lw_in1 {w : Cond} {i : Nat} (h0 : tables_1_1[i]? = some w) (hg : goodWord w = true) : w ∈ lw_g := by
  have h := List.mem_of_getElem? h0
  exact List.mem_filter.mpr ⟨List.mem_append_right _ (show w ∈ tables_1 from List.mem_append_left _ (h)), hg⟩
theorem lw_in2 {w : Cond} {i : Nat} (h0 : tables_1_2[i]? = some w) (hg : goodWord w = true) : w ∈ lw_g := by
  have h := List.mem_of_getElem? h0
  exact List.mem_filter.mpr ⟨List.mem_append_right _ (show w ∈ tables_1 from List.mem_append_right _ (List.mem_append_left _ (h))), hg⟩
theorem lw_in3 {w : Cond} {i : Nat} (h0 : tables_1_3[i]? = some w) (hg : goodWord w = true) : w ∈ lw_g := by
  have h := List.mem_of_getElem? h0
  exact List.mem_filter.mpr ⟨List.mem_append_right _ (show w ∈ tables_1 from List.mem_append_right _ (List.mem_append_right _ (List.mem_append_left _ (h)))), hg⟩
theorem lw_in4 {w : Cond} {i : Nat} (h0 : tables_1_4[i]? = some w) (hg : goodWord w = true) : w ∈ lw_g := by
  have h := List.mem_of_getElem? h0
  exact List.mem_filter.mpr ⟨List.mem_append_right _ (show w ∈ tables_1 from List.mem_append_right _ (List.mem_append_right _ (List.mem_append_right _ (List.mem_append_left _ (h))))), hg⟩
theorem lw_in5 {w : Cond} {i : Nat} (h0 : tables_1_5[i]? = some w) (hg : goodWord w = true) : w ∈ lw_g := by
  have h := List.mem_of_getElem? h0
  exact List.mem_filter.mpr ⟨List.mem_append_right _ (show w ∈ tables_1 from List.mem_append_right _ (List.mem_append_right _ (List.mem_append_right _ (List.mem_append_right _ (List.mem_append_left _ (h)))))), hg⟩
theorem lw_in6 {w : Cond} {i : Nat} (h0 : tables_1_6[i]? = some w) (hg : goodWord w = true) : w ∈ lw_g := by
  have h := List.mem_of_getElem? h0
  exact List.mem_filter.mpr ⟨List.mem_append_right _ (show w ∈ tables_1 from List.mem_append_right _ (List.mem_append_right _ (List.mem_append_right _ (List.mem_append_right _ (List.mem_append_right _ (h)))))), hg⟩
theorem hc_X0 : hCl 0 (RX0, TX0, 5) := ⟨rfl, by decide +kernel, tyX0_ok, nmX0⟩
theorem hc_X1 : hCl 1 (RX1, TX1, 10) := ⟨rfl, by decide +kernel, tyX1_ok, nmX1⟩
theorem hc_X2 : hCl 2 (RX2, TX2, 4) := ⟨rfl, by decide +kernel, tyX2_ok, nmX2⟩
theorem hc_X3 : hCl 3 (RX3, TX3, 6) := ⟨rfl, by decide +kernel, tyX3_ok, nmX3⟩
theorem hc_X4 : hCl 4 (RX4, TX4, 2) := ⟨rfl, by decide +kernel, tyX4_ok, nmX4⟩
theorem hc_X5 : hCl 5 (RX5, TX5, 4) := ⟨rfl, by decide +kernel, tyX5_ok, nmX5⟩
theorem hc_X6 : hCl 6 (RX6, TX6, 9) := ⟨rfl, by decide +kernel, tyX6_ok, nmX6⟩
theorem hc_X7 : hCl 7 (RX7, TX7, 14) := ⟨rfl, by decide +kernel, tyX7_ok, nmX7⟩
theorem hc_X8 : hCl 8 (RX8, TX8, 5) := ⟨rfl, by decide +kernel, tyX8_ok, nmX8⟩
theorem hc_X9 : hCl 9 (RX9, TX9, 8) := ⟨rfl, by decide +kernel, tyX9_ok, nmX9⟩
theorem hc_X10 : hCl 10 (RX10, TX10, 9) := ⟨rfl, by decide +kernel, tyX10_ok, nmX10⟩
theorem hc_X11 : hCl 11 (RX11, TX11, 63) := ⟨rfl, by decide +kernel, tyX11_ok, nmX11⟩
theorem ini_L : Cond.initialized RL ∈ lw_g := lw_in1 (i := 0) (by decide +kernel) (by decide +kernel)
theorem ini_X10 : Cond.initialized RX10 ∈ lw_g := lw_in1 (i := 1) (by decide +kernel) (by decide +kernel)
theorem ini_X4 : Cond.initialized RX4 ∈ lw_g := lw_in1 (i := 2) (by decide +kernel) (by decide +kernel)
theorem ini_X9 : Cond.initialized RX9 ∈ lw_g := lw_in1 (i := 3) (by decide +kernel) (by decide +kernel)
theorem ini_X5 : Cond.initialized RX5 ∈ lw_g := lw_in1 (i := 4) (by decide +kernel) (by decide +kernel)
theorem ini_X2 : Cond.initialized RX2 ∈ lw_g := lw_in1 (i := 5) (by decide +kernel) (by decide +kernel)
theorem ini_X1 : Cond.initialized RX1 ∈ lw_g := lw_in1 (i := 6) (by decide +kernel) (by decide +kernel)
theorem ini_X0 : Cond.initialized RX0 ∈ lw_g := lw_in1 (i := 7) (by decide +kernel) (by decide +kernel)
theorem ini_X8 : Cond.initialized RX8 ∈ lw_g := lw_in1 (i := 8) (by decide +kernel) (by decide +kernel)
theorem ini_X7 : Cond.initialized RX7 ∈ lw_g := lw_in1 (i := 9) (by decide +kernel) (by decide +kernel)
theorem ini_X11 : Cond.initialized RX11 ∈ lw_g := lw_in1 (i := 10) (by decide +kernel) (by decide +kernel)
theorem ini_X3 : Cond.initialized RX3 ∈ lw_g := lw_in1 (i := 11) (by decide +kernel) (by decide +kernel)
theorem ini_J9 : Cond.initialized RJ9 ∈ lw_g := lw_in1 (i := 12) (by decide +kernel) (by decide +kernel)
theorem ini_X6 : Cond.initialized RX6 ∈ lw_g := lw_in1 (i := 13) (by decide +kernel) (by decide +kernel)
theorem ini_J10 : Cond.initialized RJ10 ∈ lw_g := lw_in1 (i := 14) (by decide +kernel) (by decide +kernel)
theorem ini_J0 : Cond.initialized RJ0 ∈ lw_g := lw_in1 (i := 15) (by decide +kernel) (by decide +kernel)
theorem ini_J1 : Cond.initialized RJ1 ∈ lw_g := lw_in1 (i := 16) (by decide +kernel) (by decide +kernel)
theorem ini_J3 : Cond.initialized RJ3 ∈ lw_g := lw_in1 (i := 17) (by decide +kernel) (by decide +kernel)
theorem ini_J2 : Cond.initialized RJ2 ∈ lw_g := lw_in1 (i := 18) (by decide +kernel) (by decide +kernel)
theorem cl_L_7 : Cond.classLink RL 7 "StepShake" ∈ lw_g := lw_in1 (i := 19) (by decide +kernel) (by decide +kernel)
theorem it_X10 : Cond.instantiable RX10 9 ∈ lw_g := lw_in1 (i := 20) (by decide +kernel) (by decide +kernel)
theorem ml_L_9 : Cond.methodLink RL 9 yX10_init ∈ lw_g := lw_in1 (i := 21) (by decide +kernel) (by decide +kernel)
theorem ml_X10_3 : Cond.methodLink RX10 3 ⟨"java/lang/Object", "<init>", "()V"⟩ ∈ lw_g := lw_in1 (i := 24) (by decide +kernel) (by decide +kernel)
theorem cl_X10_9 : Cond.classLink RX10 9 "StepShake$Pattern" ∈ lw_g := lw_in1 (i := 27) (by decide +kernel) (by decide +kernel)
theorem cl_X10_15 : Cond.classLink RX10 15 "StepShake$Side" ∈ lw_g := lw_in1 (i := 29) (by decide +kernel) (by decide +kernel)
theorem cl_X10_21 : Cond.classLink RX10 21 "StepShake$Row" ∈ lw_g := lw_in1 (i := 31) (by decide +kernel) (by decide +kernel)
theorem it_X4 : Cond.instantiable RX4 2 ∈ lw_g := lw_in1 (i := 32) (by decide +kernel) (by decide +kernel)
theorem ml_X10_23 : Cond.methodLink RX10 23 yX4_init ∈ lw_g := lw_in1 (i := 33) (by decide +kernel) (by decide +kernel)
theorem ml_X4_3 : Cond.methodLink RX4 3 ⟨"java/lang/Object", "<init>", "()V"⟩ ∈ lw_g := lw_in1 (i := 36) (by decide +kernel) (by decide +kernel)
theorem fl_X4_15 : hFl RX4 15 4 0 true := ⟨_, hc_X4, by decide, lw_in1 (i := 37) (by decide +kernel) (by decide +kernel), rfl, rfl⟩
theorem fl_X0_35 : hFl RX0 35 4 0 true := ⟨_, hc_X4, by decide, lw_in1 (i := 38) (by decide +kernel) (by decide +kernel), rfl, rfl⟩
theorem fl_X9_185 : hFl RX9 185 4 0 true := ⟨_, hc_X4, by decide, lw_in1 (i := 39) (by decide +kernel) (by decide +kernel), rfl, rfl⟩
theorem fl_X10_142 : hFl RX10 142 4 0 true := ⟨_, hc_X4, by decide, lw_in1 (i := 40) (by decide +kernel) (by decide +kernel), rfl, rfl⟩
theorem fl_X4_9 : hFl RX4 9 4 1 false := ⟨_, hc_X4, by decide, lw_in1 (i := 41) (by decide +kernel) (by decide +kernel), rfl, rfl⟩
theorem fl_X0_40 : hFl RX0 40 4 1 false := ⟨_, hc_X4, by decide, lw_in1 (i := 42) (by decide +kernel) (by decide +kernel), rfl, rfl⟩
theorem fl_X9_162 : hFl RX9 162 4 1 false := ⟨_, hc_X4, by decide, lw_in1 (i := 43) (by decide +kernel) (by decide +kernel), rfl, rfl⟩
theorem fl_X10_110 : hFl RX10 110 4 1 false := ⟨_, hc_X4, by decide, lw_in1 (i := 44) (by decide +kernel) (by decide +kernel), rfl, rfl⟩
theorem ac_int : Cond.arrayClass .int ∈ lw_g := lw_in1 (i := 50) (by decide +kernel) (by decide +kernel)
theorem cl_X10_36 : Cond.classLink RX10 36 "StepShake$Talk" ∈ lw_g := lw_in1 (i := 51) (by decide +kernel) (by decide +kernel)
theorem it_X9 : Cond.instantiable RX9 8 ∈ lw_g := lw_in1 (i := 52) (by decide +kernel) (by decide +kernel)
theorem ml_X10_38 : Cond.methodLinkNest RX10 38 yX9_init "StepShake" ∈ lw_n := lw_memn (i := 53) (by decide +kernel) (by decide +kernel)
theorem ml_X9_3 : Cond.methodLink RX9 3 ⟨"java/lang/Object", "<init>", "()V"⟩ ∈ lw_g := lw_in1 (i := 56) (by decide +kernel) (by decide +kernel)
theorem cl_X9_9 : Cond.classLink RX9 9 "StepShake$Sha" ∈ lw_g := lw_in1 (i := 57) (by decide +kernel) (by decide +kernel)
theorem it_X5 : Cond.instantiable RX5 4 ∈ lw_g := lw_in1 (i := 58) (by decide +kernel) (by decide +kernel)
theorem ml_X9_11 : Cond.methodLinkNest RX9 11 yX5_init "StepShake" ∈ lw_n := lw_memn (i := 59) (by decide +kernel) (by decide +kernel)
theorem ml_X5_3 : Cond.methodLink RX5 3 ⟨"java/lang/Object", "<init>", "()V"⟩ ∈ lw_g := lw_in1 (i := 62) (by decide +kernel) (by decide +kernel)
theorem fl_X5_9 : hFl RX5 9 5 0 true := ⟨_, hc_X5, by decide, lw_in1 (i := 63) (by decide +kernel) (by decide +kernel), rfl, rfl⟩
theorem fl_X5_15 : hFl RX5 15 5 1 true := ⟨_, hc_X5, by decide, lw_in1 (i := 64) (by decide +kernel) (by decide +kernel), rfl, rfl⟩
theorem fl_X5_18 : hFl RX5 18 5 2 false := ⟨_, hc_X5, by decide, lw_in1 (i := 65) (by decide +kernel) (by decide +kernel), rfl, rfl⟩
theorem fl_X5_22 : hFl RX5 22 5 3 false := ⟨_, hc_X5, by decide, lw_in1 (i := 66) (by decide +kernel) (by decide +kernel), rfl, rfl⟩
theorem cl_X9_18 : Cond.classLink RX9 18 "StepShake$Mac" ∈ lw_g := lw_in1 (i := 76) (by decide +kernel) (by decide +kernel)
theorem it_X2 : Cond.instantiable RX2 4 ∈ lw_g := lw_in1 (i := 77) (by decide +kernel) (by decide +kernel)
theorem ml_X9_20 : Cond.methodLinkNest RX9 20 yX2_init "StepShake" ∈ lw_n := lw_memn (i := 78) (by decide +kernel) (by decide +kernel)
theorem ml_X2_3 : Cond.methodLink RX2 3 ⟨"java/lang/Object", "<init>", "()V"⟩ ∈ lw_g := lw_in1 (i := 81) (by decide +kernel) (by decide +kernel)
theorem cl_X2_9 : Cond.classLink RX2 9 "StepShake$Sha" ∈ lw_g := lw_in1 (i := 82) (by decide +kernel) (by decide +kernel)
theorem ml_X2_11 : Cond.methodLinkNest RX2 11 yX5_init "StepShake" ∈ lw_n := lw_memn (i := 83) (by decide +kernel) (by decide +kernel)
theorem fl_X2_12 : hFl RX2 12 2 0 true := ⟨_, hc_X2, by decide, lw_in1 (i := 84) (by decide +kernel) (by decide +kernel), rfl, rfl⟩
theorem fl_X2_18 : hFl RX2 18 2 1 true := ⟨_, hc_X2, by decide, lw_in1 (i := 85) (by decide +kernel) (by decide +kernel), rfl, rfl⟩
theorem fl_X2_22 : hFl RX2 22 2 2 true := ⟨_, hc_X2, by decide, lw_in1 (i := 86) (by decide +kernel) (by decide +kernel), rfl, rfl⟩
theorem fl_X2_25 : hFl RX2 25 2 3 true := ⟨_, hc_X2, by decide, lw_in1 (i := 87) (by decide +kernel) (by decide +kernel), rfl, rfl⟩
theorem cl_X9_25 : Cond.classLink RX9 25 "StepShake$Curve" ∈ lw_g := lw_in1 (i := 97) (by decide +kernel) (by decide +kernel)
theorem it_X1 : Cond.instantiable RX1 10 ∈ lw_g := lw_in1 (i := 98) (by decide +kernel) (by decide +kernel)
theorem ml_X9_27 : Cond.methodLinkNest RX9 27 yX1_init "StepShake" ∈ lw_n := lw_memn (i := 99) (by decide +kernel) (by decide +kernel)
theorem ml_X1_3 : Cond.methodLink RX1 3 ⟨"java/lang/Object", "<init>", "()V"⟩ ∈ lw_g := lw_in1 (i := 102) (by decide +kernel) (by decide +kernel)
theorem fl_X1_9 : hFl RX1 9 1 0 true := ⟨_, hc_X1, by decide, lw_in1 (i := 103) (by decide +kernel) (by decide +kernel), rfl, rfl⟩
theorem fl_X1_15 : hFl RX1 15 1 1 true := ⟨_, hc_X1, by decide, lw_in1 (i := 104) (by decide +kernel) (by decide +kernel), rfl, rfl⟩
theorem fl_X1_19 : hFl RX1 19 1 2 false := ⟨_, hc_X1, by decide, lw_in1 (i := 105) (by decide +kernel) (by decide +kernel), rfl, rfl⟩
theorem fl_X1_22 : hFl RX1 22 1 3 false := ⟨_, hc_X1, by decide, lw_in1 (i := 106) (by decide +kernel) (by decide +kernel), rfl, rfl⟩
theorem fl_X1_25 : hFl RX1 25 1 4 false := ⟨_, hc_X1, by decide, lw_in1 (i := 107) (by decide +kernel) (by decide +kernel), rfl, rfl⟩
theorem fl_X1_28 : hFl RX1 28 1 5 false := ⟨_, hc_X1, by decide, lw_in1 (i := 108) (by decide +kernel) (by decide +kernel), rfl, rfl⟩
theorem fl_X1_31 : hFl RX1 31 1 6 true := ⟨_, hc_X1, by decide, lw_in1 (i := 109) (by decide +kernel) (by decide +kernel), rfl, rfl⟩
theorem fl_X1_34 : hFl RX1 34 1 7 true := ⟨_, hc_X1, by decide, lw_in1 (i := 110) (by decide +kernel) (by decide +kernel), rfl, rfl⟩
theorem fl_X1_37 : hFl RX1 37 1 8 true := ⟨_, hc_X1, by decide, lw_in1 (i := 111) (by decide +kernel) (by decide +kernel), rfl, rfl⟩
theorem fl_X1_40 : hFl RX1 40 1 9 true := ⟨_, hc_X1, by decide, lw_in1 (i := 112) (by decide +kernel) (by decide +kernel), rfl, rfl⟩
theorem ac_long : Cond.arrayClass .long ∈ lw_g := lw_in1 (i := 134) (by decide +kernel) (by decide +kernel)
theorem cl_X9_32 : Cond.classLink RX9 32 "StepShake$Cipher" ∈ lw_g := lw_in1 (i := 135) (by decide +kernel) (by decide +kernel)
theorem it_X0 : Cond.instantiable RX0 5 ∈ lw_g := lw_in1 (i := 136) (by decide +kernel) (by decide +kernel)
theorem ml_X9_34 : Cond.methodLinkNest RX9 34 yX0_init "StepShake" ∈ lw_n := lw_memn (i := 137) (by decide +kernel) (by decide +kernel)
theorem ml_X0_3 : Cond.methodLink RX0 3 ⟨"java/lang/Object", "<init>", "()V"⟩ ∈ lw_g := lw_in1 (i := 140) (by decide +kernel) (by decide +kernel)
theorem cl_X0_24 : Cond.classLink RX0 24 "StepShake$Tagger" ∈ lw_g := lw_in1 (i := 141) (by decide +kernel) (by decide +kernel)
theorem it_X8 : Cond.instantiable RX8 5 ∈ lw_g := lw_in1 (i := 142) (by decide +kernel) (by decide +kernel)
theorem ml_X0_26 : Cond.methodLinkNest RX0 26 yX8_init "StepShake" ∈ lw_n := lw_memn (i := 143) (by decide +kernel) (by decide +kernel)
theorem ml_X8_5 : Cond.methodLink RX8 5 ⟨"java/lang/Object", "<init>", "()V"⟩ ∈ lw_g := lw_in1 (i := 146) (by decide +kernel) (by decide +kernel)
theorem fl_X8_11 : hFl RX8 11 8 0 true := ⟨_, hc_X8, by decide, lw_in1 (i := 147) (by decide +kernel) (by decide +kernel), rfl, rfl⟩
theorem fl_X8_15 : hFl RX8 15 8 1 true := ⟨_, hc_X8, by decide, lw_in1 (i := 148) (by decide +kernel) (by decide +kernel), rfl, rfl⟩
theorem fl_X8_18 : hFl RX8 18 8 2 true := ⟨_, hc_X8, by decide, lw_in1 (i := 149) (by decide +kernel) (by decide +kernel), rfl, rfl⟩
theorem fl_X8_21 : hFl RX8 21 8 3 true := ⟨_, hc_X8, by decide, lw_in1 (i := 150) (by decide +kernel) (by decide +kernel), rfl, rfl⟩
theorem fl_X8_25 : hFl RX8 25 8 4 true := ⟨_, hc_X8, by decide, lw_in1 (i := 151) (by decide +kernel) (by decide +kernel), rfl, rfl⟩
theorem fl_X0_9 : hFl RX0 9 0 0 true := ⟨_, hc_X0, by decide, lw_in1 (i := 163) (by decide +kernel) (by decide +kernel), rfl, rfl⟩
theorem fl_X0_15 : hFl RX0 15 0 1 true := ⟨_, hc_X0, by decide, lw_in1 (i := 164) (by decide +kernel) (by decide +kernel), rfl, rfl⟩
theorem fl_X0_18 : hFl RX0 18 0 2 true := ⟨_, hc_X0, by decide, lw_in1 (i := 165) (by decide +kernel) (by decide +kernel), rfl, rfl⟩
theorem fl_X0_21 : hFl RX0 21 0 3 true := ⟨_, hc_X0, by decide, lw_in1 (i := 166) (by decide +kernel) (by decide +kernel), rfl, rfl⟩
theorem fl_X0_27 : hFl RX0 27 0 4 true := ⟨_, hc_X0, by decide, lw_in1 (i := 167) (by decide +kernel) (by decide +kernel), rfl, rfl⟩
theorem cl_X9_39 : Cond.classLink RX9 39 "StepShake$State" ∈ lw_g := lw_in1 (i := 179) (by decide +kernel) (by decide +kernel)
theorem it_X7 : Cond.instantiable RX7 14 ∈ lw_g := lw_in1 (i := 180) (by decide +kernel) (by decide +kernel)
theorem ml_X9_41 : Cond.methodLinkNest RX9 41 yX7_init "StepShake" ∈ lw_n := lw_memn (i := 181) (by decide +kernel) (by decide +kernel)
theorem ml_X7_3 : Cond.methodLink RX7 3 ⟨"java/lang/Object", "<init>", "()V"⟩ ∈ lw_g := lw_in1 (i := 184) (by decide +kernel) (by decide +kernel)
theorem fl_X7_9 : hFl RX7 9 7 0 true := ⟨_, hc_X7, by decide, lw_in1 (i := 185) (by decide +kernel) (by decide +kernel), rfl, rfl⟩
theorem fl_X9_119 : hFl RX9 119 7 0 true := ⟨_, hc_X7, by decide, lw_in1 (i := 186) (by decide +kernel) (by decide +kernel), rfl, rfl⟩
theorem fl_X7_15 : hFl RX7 15 7 1 true := ⟨_, hc_X7, by decide, lw_in1 (i := 187) (by decide +kernel) (by decide +kernel), rfl, rfl⟩
theorem fl_X9_104 : hFl RX9 104 7 1 true := ⟨_, hc_X7, by decide, lw_in1 (i := 188) (by decide +kernel) (by decide +kernel), rfl, rfl⟩
theorem fl_X10_148 : hFl RX10 148 7 1 true := ⟨_, hc_X7, by decide, lw_in1 (i := 189) (by decide +kernel) (by decide +kernel), rfl, rfl⟩
theorem fl_X7_18 : hFl RX7 18 7 2 true := ⟨_, hc_X7, by decide, lw_in1 (i := 190) (by decide +kernel) (by decide +kernel), rfl, rfl⟩
theorem fl_X9_208 : hFl RX9 208 7 2 true := ⟨_, hc_X7, by decide, lw_in1 (i := 191) (by decide +kernel) (by decide +kernel), rfl, rfl⟩
theorem fl_X7_21 : hFl RX7 21 7 3 true := ⟨_, hc_X7, by decide, lw_in1 (i := 192) (by decide +kernel) (by decide +kernel), rfl, rfl⟩
theorem fl_X9_217 : hFl RX9 217 7 3 true := ⟨_, hc_X7, by decide, lw_in1 (i := 193) (by decide +kernel) (by decide +kernel), rfl, rfl⟩
theorem fl_X7_24 : hFl RX7 24 7 4 true := ⟨_, hc_X7, by decide, lw_in1 (i := 194) (by decide +kernel) (by decide +kernel), rfl, rfl⟩
theorem fl_X9_232 : hFl RX9 232 7 4 true := ⟨_, hc_X7, by decide, lw_in1 (i := 195) (by decide +kernel) (by decide +kernel), rfl, rfl⟩
theorem fl_X7_27 : hFl RX7 27 7 5 true := ⟨_, hc_X7, by decide, lw_in1 (i := 196) (by decide +kernel) (by decide +kernel), rfl, rfl⟩
theorem fl_X9_235 : hFl RX9 235 7 5 true := ⟨_, hc_X7, by decide, lw_in1 (i := 197) (by decide +kernel) (by decide +kernel), rfl, rfl⟩
theorem fl_X7_30 : hFl RX7 30 7 6 true := ⟨_, hc_X7, by decide, lw_in1 (i := 198) (by decide +kernel) (by decide +kernel), rfl, rfl⟩
theorem fl_X9_126 : hFl RX9 126 7 6 true := ⟨_, hc_X7, by decide, lw_in1 (i := 199) (by decide +kernel) (by decide +kernel), rfl, rfl⟩
theorem fl_X7_33 : hFl RX7 33 7 7 false := ⟨_, hc_X7, by decide, lw_in1 (i := 200) (by decide +kernel) (by decide +kernel), rfl, rfl⟩
theorem fl_X6_52 : hFl RX6 52 7 7 false := ⟨_, hc_X7, by decide, lw_in1 (i := 201) (by decide +kernel) (by decide +kernel), rfl, rfl⟩
theorem fl_X9_135 : hFl RX9 135 7 7 false := ⟨_, hc_X7, by decide, lw_in1 (i := 202) (by decide +kernel) (by decide +kernel), rfl, rfl⟩
theorem fl_X7_37 : hFl RX7 37 7 8 false := ⟨_, hc_X7, by decide, lw_in1 (i := 203) (by decide +kernel) (by decide +kernel), rfl, rfl⟩
theorem fl_X9_132 : hFl RX9 132 7 8 false := ⟨_, hc_X7, by decide, lw_in1 (i := 204) (by decide +kernel) (by decide +kernel), rfl, rfl⟩
theorem fl_X6_70 : hFl RX6 70 7 8 false := ⟨_, hc_X7, by decide, lw_in1 (i := 205) (by decide +kernel) (by decide +kernel), rfl, rfl⟩
theorem fl_X7_40 : hFl RX7 40 7 9 false := ⟨_, hc_X7, by decide, lw_in1 (i := 206) (by decide +kernel) (by decide +kernel), rfl, rfl⟩
theorem fl_X9_129 : hFl RX9 129 7 9 false := ⟨_, hc_X7, by decide, lw_in1 (i := 207) (by decide +kernel) (by decide +kernel), rfl, rfl⟩
theorem fl_X6_73 : hFl RX6 73 7 9 false := ⟨_, hc_X7, by decide, lw_in1 (i := 208) (by decide +kernel) (by decide +kernel), rfl, rfl⟩
theorem fl_X7_43 : hFl RX7 43 7 10 false := ⟨_, hc_X7, by decide, lw_in1 (i := 209) (by decide +kernel) (by decide +kernel), rfl, rfl⟩
theorem fl_X9_138 : hFl RX9 138 7 10 false := ⟨_, hc_X7, by decide, lw_in1 (i := 210) (by decide +kernel) (by decide +kernel), rfl, rfl⟩
theorem fl_X6_67 : hFl RX6 67 7 10 false := ⟨_, hc_X7, by decide, lw_in1 (i := 211) (by decide +kernel) (by decide +kernel), rfl, rfl⟩
theorem fl_X7_47 : hFl RX7 47 7 11 false := ⟨_, hc_X7, by decide, lw_in1 (i := 212) (by decide +kernel) (by decide +kernel), rfl, rfl⟩
theorem fl_X9_220 : hFl RX9 220 7 11 false := ⟨_, hc_X7, by decide, lw_in1 (i := 213) (by decide +kernel) (by decide +kernel), rfl, rfl⟩
theorem fl_X7_50 : hFl RX7 50 7 12 false := ⟨_, hc_X7, by decide, lw_in1 (i := 214) (by decide +kernel) (by decide +kernel), rfl, rfl⟩
theorem fl_X6_76 : hFl RX6 76 7 12 false := ⟨_, hc_X7, by decide, lw_in1 (i := 215) (by decide +kernel) (by decide +kernel), rfl, rfl⟩
theorem fl_X9_226 : hFl RX9 226 7 12 false := ⟨_, hc_X7, by decide, lw_in1 (i := 216) (by decide +kernel) (by decide +kernel), rfl, rfl⟩
theorem fl_X7_53 : hFl RX7 53 7 13 false := ⟨_, hc_X7, by decide, lw_in1 (i := 217) (by decide +kernel) (by decide +kernel), rfl, rfl⟩
theorem fl_X6_46 : hFl RX6 46 7 13 false := ⟨_, hc_X7, by decide, lw_in1 (i := 218) (by decide +kernel) (by decide +kernel), rfl, rfl⟩
theorem fl_X9_142 : hFl RX9 142 7 13 false := ⟨_, hc_X7, by decide, lw_in1 (i := 219) (by decide +kernel) (by decide +kernel), rfl, rfl⟩
theorem fl_X10_105 : hFl RX10 105 7 13 false := ⟨_, hc_X7, by decide, lw_in1 (i := 220) (by decide +kernel) (by decide +kernel), rfl, rfl⟩
theorem cl_X9_53 : Cond.classLink RX9 53 "StepShake$Row" ∈ lw_g := lw_in2 (i := 10) (by decide +kernel) (by decide +kernel)
theorem ml_X9_55 : Cond.methodLink RX9 55 yX4_init ∈ lw_g := lw_in2 (i := 11) (by decide +kernel) (by decide +kernel)
theorem fl_X9_12 : hFl RX9 12 9 0 true := ⟨_, hc_X9, by decide, lw_in2 (i := 12) (by decide +kernel) (by decide +kernel), rfl, rfl⟩
theorem fl_X9_21 : hFl RX9 21 9 1 true := ⟨_, hc_X9, by decide, lw_in2 (i := 13) (by decide +kernel) (by decide +kernel), rfl, rfl⟩
theorem fl_X9_28 : hFl RX9 28 9 2 true := ⟨_, hc_X9, by decide, lw_in2 (i := 14) (by decide +kernel) (by decide +kernel), rfl, rfl⟩
theorem fl_X9_35 : hFl RX9 35 9 3 true := ⟨_, hc_X9, by decide, lw_in2 (i := 15) (by decide +kernel) (by decide +kernel), rfl, rfl⟩
theorem fl_X9_42 : hFl RX9 42 9 4 true := ⟨_, hc_X9, by decide, lw_in2 (i := 16) (by decide +kernel) (by decide +kernel), rfl, rfl⟩
theorem fl_X9_46 : hFl RX9 46 9 5 true := ⟨_, hc_X9, by decide, lw_in2 (i := 17) (by decide +kernel) (by decide +kernel), rfl, rfl⟩
theorem fl_X9_50 : hFl RX9 50 9 6 true := ⟨_, hc_X9, by decide, lw_in2 (i := 18) (by decide +kernel) (by decide +kernel), rfl, rfl⟩
theorem fl_X9_58 : hFl RX9 58 9 7 true := ⟨_, hc_X9, by decide, lw_in2 (i := 19) (by decide +kernel) (by decide +kernel), rfl, rfl⟩
theorem fl_X10_11 : hFl RX10 11 10 0 true := ⟨_, hc_X10, by decide, lw_in2 (i := 37) (by decide +kernel) (by decide +kernel), rfl, rfl⟩
theorem fl_X10_17 : hFl RX10 17 10 1 true := ⟨_, hc_X10, by decide, lw_in2 (i := 38) (by decide +kernel) (by decide +kernel), rfl, rfl⟩
theorem fl_X10_26 : hFl RX10 26 10 2 true := ⟨_, hc_X10, by decide, lw_in2 (i := 39) (by decide +kernel) (by decide +kernel), rfl, rfl⟩
theorem fl_X10_30 : hFl RX10 30 10 3 true := ⟨_, hc_X10, by decide, lw_in2 (i := 40) (by decide +kernel) (by decide +kernel), rfl, rfl⟩
theorem fl_X10_33 : hFl RX10 33 10 4 true := ⟨_, hc_X10, by decide, lw_in2 (i := 41) (by decide +kernel) (by decide +kernel), rfl, rfl⟩
theorem fl_X10_39 : hFl RX10 39 10 5 true := ⟨_, hc_X10, by decide, lw_in2 (i := 42) (by decide +kernel) (by decide +kernel), rfl, rfl⟩
theorem fl_X10_43 : hFl RX10 43 10 6 true := ⟨_, hc_X10, by decide, lw_in2 (i := 43) (by decide +kernel) (by decide +kernel), rfl, rfl⟩
theorem fl_X10_47 : hFl RX10 47 10 7 false := ⟨_, hc_X10, by decide, lw_in2 (i := 44) (by decide +kernel) (by decide +kernel), rfl, rfl⟩
theorem fl_X10_51 : hFl RX10 51 10 8 false := ⟨_, hc_X10, by decide, lw_in2 (i := 45) (by decide +kernel) (by decide +kernel), rfl, rfl⟩
theorem ml_L_13 : Cond.methodLink RL 13 yX10_pattern ∈ lw_g := lw_in2 (i := 65) (by decide +kernel) (by decide +kernel)
theorem it_X3 : Cond.instantiable RX3 6 ∈ lw_g := lw_in2 (i := 69) (by decide +kernel) (by decide +kernel)
theorem ml_X10_54 : Cond.methodLink RX10 54 yX3_init ∈ lw_g := lw_in2 (i := 70) (by decide +kernel) (by decide +kernel)
theorem ml_X3_3 : Cond.methodLink RX3 3 ⟨"java/lang/Object", "<init>", "()V"⟩ ∈ lw_g := lw_in2 (i := 73) (by decide +kernel) (by decide +kernel)
theorem cl_X3_11 : Cond.classLink RX3 11 "[[I" ∈ lw_g := lw_in2 (i := 74) (by decide +kernel) (by decide +kernel)
theorem fl_X3_28 : hFl RX3 28 3 0 true := ⟨_, hc_X3, by decide, lw_in2 (i := 76) (by decide +kernel) (by decide +kernel), rfl, rfl⟩
theorem fl_X3_31 : hFl RX3 31 3 1 true := ⟨_, hc_X3, by decide, lw_in2 (i := 77) (by decide +kernel) (by decide +kernel), rfl, rfl⟩
theorem fl_X3_13 : hFl RX3 13 3 2 true := ⟨_, hc_X3, by decide, lw_in2 (i := 78) (by decide +kernel) (by decide +kernel), rfl, rfl⟩
theorem fl_X3_16 : hFl RX3 16 3 3 true := ⟨_, hc_X3, by decide, lw_in2 (i := 79) (by decide +kernel) (by decide +kernel), rfl, rfl⟩
theorem fl_X3_20 : hFl RX3 20 3 4 false := ⟨_, hc_X3, by decide, lw_in2 (i := 80) (by decide +kernel) (by decide +kernel), rfl, rfl⟩
theorem fl_X6_49 : hFl RX6 49 3 4 false := ⟨_, hc_X3, by decide, lw_in2 (i := 81) (by decide +kernel) (by decide +kernel), rfl, rfl⟩
theorem fl_X9_251 : hFl RX9 251 3 4 false := ⟨_, hc_X3, by decide, lw_in2 (i := 82) (by decide +kernel) (by decide +kernel), rfl, rfl⟩
theorem fl_X3_24 : hFl RX3 24 3 5 false := ⟨_, hc_X3, by decide, lw_in2 (i := 83) (by decide +kernel) (by decide +kernel), rfl, rfl⟩
theorem fl_X10_61 : hFl RX10 61 3 5 false := ⟨_, hc_X3, by decide, lw_in2 (i := 84) (by decide +kernel) (by decide +kernel), rfl, rfl⟩
theorem ml_L_18 : Cond.methodLink RL 18 yX10_message ∈ lw_g := lw_in2 (i := 98) (by decide +kernel) (by decide +kernel)
theorem ml_X10_57 : Cond.methodLink RX10 57 yX10_patternAt ∈ lw_g := lw_in2 (i := 102) (by decide +kernel) (by decide +kernel)
theorem ml_X10_65 : Cond.methodLink RX10 65 yX3_addMessage ∈ lw_g := lw_in2 (i := 106) (by decide +kernel) (by decide +kernel)
theorem ml_L_23 : Cond.methodLink RL 23 yX10_token ∈ lw_g := lw_in2 (i := 110) (by decide +kernel) (by decide +kernel)
theorem ml_X10_69 : Cond.methodLink RX10 69 yX3_addToken ∈ lw_g := lw_in2 (i := 114) (by decide +kernel) (by decide +kernel)
theorem ml_L_28 : Cond.methodLink RL 28 yX10_fault ∈ lw_g := lw_in2 (i := 118) (by decide +kernel) (by decide +kernel)
theorem ml_X10_73 : Cond.methodLink RX10 73 yX3_findFault ∈ lw_g := lw_in2 (i := 122) (by decide +kernel) (by decide +kernel)
theorem ml_X3_42 : Cond.methodLink RX3 42 yX3_hasEmptyMessage ∈ lw_g := lw_in2 (i := 126) (by decide +kernel) (by decide +kernel)
theorem ml_X3_46 : Cond.methodLink RX3 46 yX3_faultAt ∈ lw_g := lw_in2 (i := 130) (by decide +kernel) (by decide +kernel)
theorem ml_X3_55 : Cond.methodLink RX3 55 yX3_keyBit ∈ lw_g := lw_in2 (i := 133) (by decide +kernel) (by decide +kernel)
theorem sl_X3_62 : Cond.fieldLink RX3 62 "StepShake$Pattern" "NEEDS" "[I" ∈ lw_g := lw_in2 (i := 136) (by decide +kernel) (by decide +kernel)
theorem ml_X3_65 : Cond.methodLink RX3 65 yX3_did ∈ lw_g := lw_in2 (i := 138) (by decide +kernel) (by decide +kernel)
theorem ml_X3_50 : Cond.methodLink RX3 50 yJ9_min_7cf53 ∈ lw_g := lw_in2 (i := 141) (by decide +kernel) (by decide +kernel)
theorem ml_X3_58 : Cond.methodLink RX3 58 yX3_sealsTooSoon ∈ lw_g := lw_in2 (i := 144) (by decide +kernel) (by decide +kernel)
theorem ml_L_32 : Cond.methodLink RL 32 yX10_told ∈ lw_g := lw_in2 (i := 147) (by decide +kernel) (by decide +kernel)
theorem ml_X10_76 : Cond.methodLink RX10 76 yX3_tell ∈ lw_g := lw_in2 (i := 151) (by decide +kernel) (by decide +kernel)
theorem ml_X3_34 : Cond.methodLink RX3 34 yX3_sizeOf ∈ lw_g := lw_in2 (i := 155) (by decide +kernel) (by decide +kernel)
theorem ml_X3_38 : Cond.methodLink RX3 38 yX3_tokenAt ∈ lw_g := lw_in2 (i := 159) (by decide +kernel) (by decide +kernel)
theorem ml_L_36 : Cond.methodLink RL 36 yX10_side ∈ lw_g := lw_in2 (i := 163) (by decide +kernel) (by decide +kernel)
theorem ml_X10_79 : Cond.methodLink RX10 79 yX3_isKnownAhead ∈ lw_g := lw_in2 (i := 167) (by decide +kernel) (by decide +kernel)
theorem ml_X10_83 : Cond.methodLink RX10 83 yX3_sendsS ∈ lw_g := lw_in2 (i := 171) (by decide +kernel) (by decide +kernel)
theorem it_X6 : Cond.instantiable RX6 9 ∈ lw_g := lw_in2 (i := 175) (by decide +kernel) (by decide +kernel)
theorem ml_X10_86 : Cond.methodLink RX10 86 yX6_init ∈ lw_g := lw_in2 (i := 176) (by decide +kernel) (by decide +kernel)
theorem ml_X6_3 : Cond.methodLink RX6 3 ⟨"java/lang/Object", "<init>", "()V"⟩ ∈ lw_g := lw_in2 (i := 179) (by decide +kernel) (by decide +kernel)
theorem cl_X6_25 : Cond.classLink RX6 25 "StepShake$State" ∈ lw_g := lw_in2 (i := 180) (by decide +kernel) (by decide +kernel)
theorem ml_X6_27 : Cond.methodLinkNest RX6 27 yX7_init "StepShake" ∈ lw_n := lw_memn (i := 421) (by decide +kernel) (by decide +kernel)
theorem fl_X6_32 : hFl RX6 32 6 0 true := ⟨_, hc_X6, by decide, lw_in2 (i := 182) (by decide +kernel) (by decide +kernel), rfl, rfl⟩
theorem fl_X9_145 : hFl RX9 145 6 0 true := ⟨_, hc_X6, by decide, lw_in2 (i := 183) (by decide +kernel) (by decide +kernel), rfl, rfl⟩
theorem fl_X6_36 : hFl RX6 36 6 1 true := ⟨_, hc_X6, by decide, lw_in2 (i := 184) (by decide +kernel) (by decide +kernel), rfl, rfl⟩
theorem fl_X6_40 : hFl RX6 40 6 2 true := ⟨_, hc_X6, by decide, lw_in2 (i := 185) (by decide +kernel) (by decide +kernel), rfl, rfl⟩
theorem fl_X9_155 : hFl RX9 155 6 2 true := ⟨_, hc_X6, by decide, lw_in2 (i := 186) (by decide +kernel) (by decide +kernel), rfl, rfl⟩
theorem fl_X10_152 : hFl RX10 152 6 2 true := ⟨_, hc_X6, by decide, lw_in2 (i := 187) (by decide +kernel) (by decide +kernel), rfl, rfl⟩
theorem fl_X6_43 : hFl RX6 43 6 3 true := ⟨_, hc_X6, by decide, lw_in2 (i := 188) (by decide +kernel) (by decide +kernel), rfl, rfl⟩
theorem fl_X9_229 : hFl RX9 229 6 3 true := ⟨_, hc_X6, by decide, lw_in2 (i := 189) (by decide +kernel) (by decide +kernel), rfl, rfl⟩
theorem fl_X6_9 : hFl RX6 9 6 4 true := ⟨_, hc_X6, by decide, lw_in2 (i := 190) (by decide +kernel) (by decide +kernel), rfl, rfl⟩
theorem fl_X9_83 : hFl RX9 83 6 4 true := ⟨_, hc_X6, by decide, lw_in2 (i := 191) (by decide +kernel) (by decide +kernel), rfl, rfl⟩
theorem fl_X6_15 : hFl RX6 15 6 5 true := ⟨_, hc_X6, by decide, lw_in2 (i := 192) (by decide +kernel) (by decide +kernel), rfl, rfl⟩
theorem fl_X9_88 : hFl RX9 88 6 5 true := ⟨_, hc_X6, by decide, lw_in2 (i := 193) (by decide +kernel) (by decide +kernel), rfl, rfl⟩
theorem fl_X6_18 : hFl RX6 18 6 6 true := ⟨_, hc_X6, by decide, lw_in2 (i := 194) (by decide +kernel) (by decide +kernel), rfl, rfl⟩
theorem fl_X9_91 : hFl RX9 91 6 6 true := ⟨_, hc_X6, by decide, lw_in2 (i := 195) (by decide +kernel) (by decide +kernel), rfl, rfl⟩
theorem fl_X6_21 : hFl RX6 21 6 7 false := ⟨_, hc_X6, by decide, lw_in2 (i := 196) (by decide +kernel) (by decide +kernel), rfl, rfl⟩
theorem fl_X9_97 : hFl RX9 97 6 7 false := ⟨_, hc_X6, by decide, lw_in2 (i := 197) (by decide +kernel) (by decide +kernel), rfl, rfl⟩
theorem fl_X6_28 : hFl RX6 28 6 8 true := ⟨_, hc_X6, by decide, lw_in2 (i := 198) (by decide +kernel) (by decide +kernel), rfl, rfl⟩
theorem fl_X9_101 : hFl RX9 101 6 8 true := ⟨_, hc_X6, by decide, lw_in2 (i := 199) (by decide +kernel) (by decide +kernel), rfl, rfl⟩
theorem fl_X10_101 : hFl RX10 101 6 8 true := ⟨_, hc_X6, by decide, lw_in2 (i := 200) (by decide +kernel) (by decide +kernel), rfl, rfl⟩
theorem ml_X10_89 : Cond.methodLink RX10 89 yX9_giveKeys ∈ lw_g := lw_in2 (i := 220) (by decide +kernel) (by decide +kernel)
theorem ml_X9_72 : Cond.methodLink RX9 72 yX9_secretOf ∈ lw_g := lw_in2 (i := 224) (by decide +kernel) (by decide +kernel)
theorem ml_X9_62 : Cond.methodLink RX9 62 yX5_begin ∈ lw_g := lw_in2 (i := 228) (by decide +kernel) (by decide +kernel)
theorem sl_X5_25 : Cond.fieldLink RX5 25 "StepShake$Sha" "FIRST" "[I" ∈ lw_g := lw_in2 (i := 232) (by decide +kernel) (by decide +kernel)
theorem ml_X5_28 : Cond.methodLink RX5 28 ⟨"java/lang/System", "arraycopy", "(Ljava/lang/Object;ILjava/lang/Object;II)V"⟩ ∈ lw_g := lw_in2 (i := 234) (by decide +kernel) (by decide +kernel)
theorem nat_copy : Cond.native arraycopyName ∈ lw_g := lw_in2 (i := 236) (by decide +kernel) (by decide +kernel)
theorem ml_X9_65 : Cond.methodLink RX9 65 yX5_addNumber ∈ lw_g := lw_in2 (i := 237) (by decide +kernel) (by decide +kernel)
theorem ml_X5_34 : Cond.methodLink RX5 34 yX5_addByte ∈ lw_g := lw_in3 (i := 1) (by decide +kernel) (by decide +kernel)
theorem ml_X5_38 : Cond.methodLink RX5 38 yX5_addBlock ∈ lw_g := lw_in3 (i := 5) (by decide +kernel) (by decide +kernel)
theorem sl_X5_41 : Cond.fieldLink RX5 41 "StepShake$Sha" "ROUND" "[I" ∈ lw_g := lw_in3 (i := 9) (by decide +kernel) (by decide +kernel)
theorem ml_X9_68 : Cond.methodLink RX9 68 yX5_finish ∈ lw_g := lw_in3 (i := 11) (by decide +kernel) (by decide +kernel)
theorem sl_X9_76 : Cond.fieldLink RX9 76 "StepShake$Curve" "BASE" "[I" ∈ lw_g := lw_in3 (i := 15) (by decide +kernel) (by decide +kernel)
theorem ml_X9_79 : Cond.methodLink RX9 79 yX1_multiplyPoint ∈ lw_g := lw_in3 (i := 17) (by decide +kernel) (by decide +kernel)
theorem ml_X1_43 : Cond.methodLinkNest RX1 43 yX10_copyKey "StepShake" ∈ lw_n := lw_memn (i := 501) (by decide +kernel) (by decide +kernel)
theorem ml_X10_178 : Cond.methodLink RX10 178 ⟨"java/lang/System", "arraycopy", "(Ljava/lang/Object;ILjava/lang/Object;II)V"⟩ ∈ lw_g := lw_in3 (i := 24) (by decide +kernel) (by decide +kernel)
theorem ml_X1_47 : Cond.methodLink RX1 47 yX1_unpack ∈ lw_g := lw_in3 (i := 25) (by decide +kernel) (by decide +kernel)
theorem ml_X1_98 : Cond.methodLink RX1 98 yX1_width ∈ lw_g := lw_in3 (i := 28) (by decide +kernel) (by decide +kernel)
theorem ml_X1_102 : Cond.methodLinkNest RX1 102 yX10_bitsOf "StepShake" ∈ lw_n := lw_memn (i := 511) (by decide +kernel) (by decide +kernel)
theorem ml_X1_51 : Cond.methodLink RX1 51 yX1_setSmall ∈ lw_g := lw_in3 (i := 34) (by decide +kernel) (by decide +kernel)
theorem ml_X1_55 : Cond.methodLink RX1 55 ⟨"java/lang/System", "arraycopy", "(Ljava/lang/Object;ILjava/lang/Object;II)V"⟩ ∈ lw_g := lw_in3 (i := 37) (by decide +kernel) (by decide +kernel)
theorem ml_X1_61 : Cond.methodLink RX1 61 yX1_swap ∈ lw_g := lw_in3 (i := 38) (by decide +kernel) (by decide +kernel)
theorem ml_X1_64 : Cond.methodLink RX1 64 yX1_step ∈ lw_g := lw_in3 (i := 42) (by decide +kernel) (by decide +kernel)
theorem ml_X1_79 : Cond.methodLink RX1 79 yX1_add ∈ lw_g := lw_in3 (i := 46) (by decide +kernel) (by decide +kernel)
theorem ml_X1_82 : Cond.methodLink RX1 82 yX1_subtract ∈ lw_g := lw_in3 (i := 49) (by decide +kernel) (by decide +kernel)
theorem ml_X1_71 : Cond.methodLink RX1 71 yX1_multiply ∈ lw_g := lw_in3 (i := 52) (by decide +kernel) (by decide +kernel)
theorem kc_X1_94 : Cond.constantLong RX1 94 2 ∈ lw_g := lw_in3 (i := 55) (by decide +kernel) (by decide +kernel)
theorem kc_X1_96 : Cond.constantLong RX1 96 19 ∈ lw_g := lw_in3 (i := 56) (by decide +kernel) (by decide +kernel)
theorem ml_X1_90 : Cond.methodLink RX1 90 yX1_carry ∈ lw_g := lw_in3 (i := 57) (by decide +kernel) (by decide +kernel)
theorem ml_X1_85 : Cond.methodLink RX1 85 yX1_scale ∈ lw_g := lw_in3 (i := 60) (by decide +kernel) (by decide +kernel)
theorem kc_X1_88 : Cond.constantLong RX1 88 121665 ∈ lw_g := lw_in3 (i := 63) (by decide +kernel) (by decide +kernel)
theorem ml_X1_67 : Cond.methodLink RX1 67 yX1_invert ∈ lw_g := lw_in3 (i := 64) (by decide +kernel) (by decide +kernel)
theorem ml_X1_75 : Cond.methodLink RX1 75 yX1_pack ∈ lw_g := lw_in3 (i := 67) (by decide +kernel) (by decide +kernel)
theorem ml_X9_94 : Cond.methodLink RX9 94 yX9_publicOf ∈ lw_g := lw_in3 (i := 70) (by decide +kernel) (by decide +kernel)
theorem ml_X10_93 : Cond.methodLink RX10 93 yX9_begin ∈ lw_g := lw_in3 (i := 74) (by decide +kernel) (by decide +kernel)
theorem ml_X9_109 : Cond.methodLink RX9 109 yJ0_length_8abf5 ∈ lw_g := lw_in3 (i := 79) (by decide +kernel) (by decide +kernel)
theorem ml_J0_335 : Cond.methodLink RJ0 335 yJ0_coder_7d493 ∈ lw_g := lw_in3 (i := 83) (by decide +kernel) (by decide +kernel)
theorem sl_J0_38 : Cond.fieldLink RJ0 38 "java/lang/String" "COMPACT_STRINGS" "Z" ∈ lw_g := lw_in3 (i := 87) (by decide +kernel) (by decide +kernel)
theorem ml_X9_115 : Cond.methodLink RX9 115 yJ0_charAt_5068e ∈ lw_g := lw_in3 (i := 89) (by decide +kernel) (by decide +kernel)
theorem ml_J0_492 : Cond.methodLink RJ0 492 yJ0_isLatin1_aae02 ∈ lw_g := lw_in3 (i := 93) (by decide +kernel) (by decide +kernel)
theorem ml_J0_495 : Cond.methodLink RJ0 495 yJ1_charAt_3b067 ∈ lw_g := lw_in3 (i := 97) (by decide +kernel) (by decide +kernel)
theorem ml_J1_9 : Cond.methodLink RJ1 9 yJ0_checkIndex_df160 ∈ lw_g := lw_in3 (i := 100) (by decide +kernel) (by decide +kernel)
theorem sl_J0_1053 : Cond.fieldLink RJ0 1053 "jdk/internal/util/Preconditions" "SIOOBE_FORMATTER" "Ljava/util/function/BiFunction;" ∈ lw_g := lw_in3 (i := 103) (by decide +kernel) (by decide +kernel)
theorem ml_J0_1059 : Cond.methodLink RJ0 1059 yJ3_checkIndex_8e157 ∈ lw_g := lw_in3 (i := 105) (by decide +kernel) (by decide +kernel)
theorem ml_J0_498 : Cond.methodLink RJ0 498 yJ2_charAt_3b067 ∈ lw_g := lw_in3 (i := 108) (by decide +kernel) (by decide +kernel)
theorem ml_J2_67 : Cond.methodLink RJ2 67 yJ2_checkIndex_2214a ∈ lw_g := lw_in3 (i := 111) (by decide +kernel) (by decide +kernel)
theorem ml_J2_48 : Cond.methodLink RJ2 48 yJ2_length_9d52b ∈ lw_g := lw_in3 (i := 114) (by decide +kernel) (by decide +kernel)
theorem ml_J2_414 : Cond.methodLink RJ2 414 yJ0_checkIndex_df160 ∈ lw_g := lw_in3 (i := 117) (by decide +kernel) (by decide +kernel)
theorem ml_J2_71 : Cond.methodLink RJ2 71 yJ2_getChar_3b067 ∈ lw_g := lw_in3 (i := 118) (by decide +kernel) (by decide +kernel)
theorem sl_J2_44 : Cond.fieldLink RJ2 44 "java/lang/StringUTF16" "$assertionsDisabled" "Z" ∈ lw_g := lw_in3 (i := 121) (by decide +kernel) (by decide +kernel)
theorem sl_J2_59 : Cond.fieldLink RJ2 59 "java/lang/StringUTF16" "HI_BYTE_SHIFT" "I" ∈ lw_g := lw_in3 (i := 123) (by decide +kernel) (by decide +kernel)
theorem sl_J2_63 : Cond.fieldLink RJ2 63 "java/lang/StringUTF16" "LO_BYTE_SHIFT" "I" ∈ lw_g := lw_in3 (i := 125) (by decide +kernel) (by decide +kernel)
theorem ml_X9_122 : Cond.methodLinkNest RX9 122 yX10_copyKey "StepShake" ∈ lw_n := lw_memn (i := 607) (by decide +kernel) (by decide +kernel)
theorem ml_X9_149 : Cond.methodLink RX9 149 yX3_isKnownAhead ∈ lw_g := lw_in3 (i := 128) (by decide +kernel) (by decide +kernel)
theorem ml_X9_158 : Cond.methodLink RX9 158 yX9_mixHash ∈ lw_g := lw_in3 (i := 129) (by decide +kernel) (by decide +kernel)
theorem ml_X9_244 : Cond.methodLink RX9 244 yX5_add ∈ lw_g := lw_in3 (i := 133) (by decide +kernel) (by decide +kernel)
theorem ac_byte : Cond.arrayClass .byte ∈ lw_g := lw_in3 (i := 137) (by decide +kernel) (by decide +kernel)
theorem ml_L_41 : Cond.methodLink RL 41 yX10_again ∈ lw_g := lw_in3 (i := 138) (by decide +kernel) (by decide +kernel)
theorem ml_X10_97 : Cond.methodLink RX10 97 yX10_sideAt ∈ lw_g := lw_in3 (i := 142) (by decide +kernel) (by decide +kernel)
theorem ml_L_47 : Cond.methodLink RL 47 yX10_feed ∈ lw_g := lw_in3 (i := 146) (by decide +kernel) (by decide +kernel)
theorem ml_X10_113 : Cond.methodLink RX10 113 yX4_put ∈ lw_g := lw_in3 (i := 150) (by decide +kernel) (by decide +kernel)
theorem ml_L_52 : Cond.methodLink RL 52 yX10_write ∈ lw_g := lw_in3 (i := 154) (by decide +kernel) (by decide +kernel)
theorem ml_X10_116 : Cond.methodLink RX10 116 yX6_isDone ∈ lw_g := lw_in3 (i := 158) (by decide +kernel) (by decide +kernel)
theorem ml_X10_120 : Cond.methodLink RX10 120 yX9_sendDone ∈ lw_g := lw_in3 (i := 162) (by decide +kernel) (by decide +kernel)
theorem ml_X9_204 : Cond.methodLink RX9 204 yX4_putAll ∈ lw_g := lw_in3 (i := 166) (by decide +kernel) (by decide +kernel)
theorem ml_X4_19 : Cond.methodLink RX4 19 yX4_put ∈ lw_g := lw_in3 (i := 170) (by decide +kernel) (by decide +kernel)
theorem sl_X9_211 : Cond.fieldLinkNest RX9 211 "StepShake" "NOTHING" "[I" "StepShake" ∈ lw_n := lw_memn (i := 651) (by decide +kernel) (by decide +kernel)
theorem ml_X9_214 : Cond.methodLink RX9 214 yX0_seal ∈ lw_g := lw_in3 (i := 173) (by decide +kernel) (by decide +kernel)
theorem ml_X0_31 : Cond.methodLink RX0 31 yX0_prepare ∈ lw_g := lw_in3 (i := 177) (by decide +kernel) (by decide +kernel)
theorem kc_X0_59 : Cond.constant RX0 59 (nI 1634760805) ∈ lw_g := lw_in3 (i := 181) (by decide +kernel) (by decide +kernel)
theorem kc_X0_60 : Cond.constant RX0 60 (nI 857760878) ∈ lw_g := lw_in3 (i := 182) (by decide +kernel) (by decide +kernel)
theorem kc_X0_61 : Cond.constant RX0 61 (nI 2036477234) ∈ lw_g := lw_in3 (i := 183) (by decide +kernel) (by decide +kernel)
theorem kc_X0_62 : Cond.constant RX0 62 (nI 1797285236) ∈ lw_g := lw_in3 (i := 184) (by decide +kernel) (by decide +kernel)
theorem ml_X0_63 : Cond.methodLinkNest RX0 63 yX10_bitsOf "StepShake" ∈ lw_n := lw_memn (i := 665) (by decide +kernel) (by decide +kernel)
theorem ml_X0_44 : Cond.methodLink RX0 44 yX0_turn ∈ lw_g := lw_in3 (i := 186) (by decide +kernel) (by decide +kernel)
theorem ml_X0_67 : Cond.methodLink RX0 67 yX0_makeBlock ∈ lw_g := lw_in3 (i := 190) (by decide +kernel) (by decide +kernel)
theorem ml_X0_88 : Cond.methodLink RX0 88 ⟨"java/lang/System", "arraycopy", "(Ljava/lang/Object;ILjava/lang/Object;II)V"⟩ ∈ lw_g := lw_in3 (i := 194) (by decide +kernel) (by decide +kernel)
theorem ml_X0_94 : Cond.methodLink RX0 94 yX0_quarter ∈ lw_g := lw_in3 (i := 195) (by decide +kernel) (by decide +kernel)
theorem ml_X0_98 : Cond.methodLink RX0 98 yX0_mix ∈ lw_g := lw_in3 (i := 199) (by decide +kernel) (by decide +kernel)
theorem ml_X0_71 : Cond.methodLink RX0 71 yX0_blockByte ∈ lw_g := lw_in3 (i := 203) (by decide +kernel) (by decide +kernel)
theorem ml_X0_48 : Cond.methodLink RX0 48 yX0_makeTag ∈ lw_g := lw_in3 (i := 207) (by decide +kernel) (by decide +kernel)
theorem ml_X0_74 : Cond.methodLink RX0 74 yX8_begin ∈ lw_g := lw_in3 (i := 211) (by decide +kernel) (by decide +kernel)
theorem ml_X8_28 : Cond.methodLink RX8 28 yX8_clampOf ∈ lw_g := lw_in3 (i := 215) (by decide +kernel) (by decide +kernel)
theorem ml_X8_32 : Cond.methodLinkNest RX8 32 yX10_bitsOf "StepShake" ∈ lw_n := lw_memn (i := 698) (by decide +kernel) (by decide +kernel)
theorem ml_X0_78 : Cond.methodLink RX0 78 yX8_addPadded ∈ lw_g := lw_in3 (i := 219) (by decide +kernel) (by decide +kernel)
theorem ml_X8_36 : Cond.methodLink RX8 36 yX8_addBlock ∈ lw_g := lw_in3 (i := 223) (by decide +kernel) (by decide +kernel)
theorem kc_X8_39 : Cond.constantLong RX8 39 5 ∈ lw_g := lw_in3 (i := 227) (by decide +kernel) (by decide +kernel)
theorem kc_X8_41 : Cond.constantLong RX8 41 67108863 ∈ lw_g := lw_in3 (i := 228) (by decide +kernel) (by decide +kernel)
theorem ml_X0_81 : Cond.methodLink RX0 81 yX8_addSizes ∈ lw_g := lw_in3 (i := 229) (by decide +kernel) (by decide +kernel)
theorem ml_X0_85 : Cond.methodLink RX0 85 yX8_finish ∈ lw_g := lw_in3 (i := 233) (by decide +kernel) (by decide +kernel)
theorem ml_X0_52 : Cond.methodLink RX0 52 yX4_putAll ∈ lw_g := lw_in3 (i := 237) (by decide +kernel) (by decide +kernel)
theorem ml_X10_124 : Cond.methodLink RX10 124 yX6_isNext ∈ lw_g := lw_in3 (i := 238) (by decide +kernel) (by decide +kernel)
theorem ml_X10_127 : Cond.methodLink RX10 127 yX9_send ∈ lw_g := lw_in4 (i := 2) (by decide +kernel) (by decide +kernel)
theorem ml_X9_165 : Cond.methodLink RX9 165 yX3_sizeOf ∈ lw_g := lw_in4 (i := 6) (by decide +kernel) (by decide +kernel)
theorem ml_X9_169 : Cond.methodLink RX9 169 yX3_tokenAt ∈ lw_g := lw_in4 (i := 7) (by decide +kernel) (by decide +kernel)
theorem ml_X9_173 : Cond.methodLink RX9 173 yX9_sendE ∈ lw_g := lw_in4 (i := 8) (by decide +kernel) (by decide +kernel)
theorem ml_X9_177 : Cond.methodLink RX9 177 yX9_seal ∈ lw_g := lw_in4 (i := 12) (by decide +kernel) (by decide +kernel)
theorem ml_X9_181 : Cond.methodLink RX9 181 yX9_mixDh ∈ lw_g := lw_in4 (i := 16) (by decide +kernel) (by decide +kernel)
theorem ml_X9_247 : Cond.methodLink RX9 247 yX2_makeKeys ∈ lw_g := lw_in4 (i := 20) (by decide +kernel) (by decide +kernel)
theorem ml_X2_28 : Cond.methodLink RX2 28 yX2_makeMac ∈ lw_g := lw_in4 (i := 24) (by decide +kernel) (by decide +kernel)
theorem ml_X2_36 : Cond.methodLink RX2 36 yX2_beginWith ∈ lw_g := lw_in4 (i := 28) (by decide +kernel) (by decide +kernel)
theorem ml_X2_48 : Cond.methodLink RX2 48 yX5_begin ∈ lw_g := lw_in4 (i := 32) (by decide +kernel) (by decide +kernel)
theorem ml_X2_51 : Cond.methodLink RX2 51 yX5_addByte ∈ lw_g := lw_in4 (i := 33) (by decide +kernel) (by decide +kernel)
theorem ml_X2_40 : Cond.methodLink RX2 40 yX5_add ∈ lw_g := lw_in4 (i := 34) (by decide +kernel) (by decide +kernel)
theorem ml_X2_44 : Cond.methodLink RX2 44 yX5_finish ∈ lw_g := lw_in4 (i := 35) (by decide +kernel) (by decide +kernel)
theorem ml_X2_32 : Cond.methodLinkNest RX2 32 yX10_copyKey "StepShake" ∈ lw_n := lw_memn (i := 756) (by decide +kernel) (by decide +kernel)
theorem ml_X9_188 : Cond.methodLink RX9 188 yX9_endMessage ∈ lw_g := lw_in4 (i := 37) (by decide +kernel) (by decide +kernel)
theorem ml_L_56 : Cond.methodLink RL 56 yX10_read ∈ lw_g := lw_in4 (i := 41) (by decide +kernel) (by decide +kernel)
theorem ml_X10_131 : Cond.methodLink RX10 131 yX6_leastLetter ∈ lw_g := lw_in4 (i := 45) (by decide +kernel) (by decide +kernel)
theorem ml_X6_55 : Cond.methodLink RX6 55 yX3_sizeOf ∈ lw_g := lw_in4 (i := 49) (by decide +kernel) (by decide +kernel)
theorem ml_X6_59 : Cond.methodLink RX6 59 yX3_tokenAt ∈ lw_g := lw_in4 (i := 50) (by decide +kernel) (by decide +kernel)
theorem ml_X10_134 : Cond.methodLink RX10 134 yX9_takeDone ∈ lw_g := lw_in4 (i := 51) (by decide +kernel) (by decide +kernel)
theorem ml_X9_223 : Cond.methodLink RX9 223 yX0_open ∈ lw_g := lw_in4 (i := 55) (by decide +kernel) (by decide +kernel)
theorem ml_X0_55 : Cond.methodLink RX0 55 yX4_at ∈ lw_g := lw_in4 (i := 59) (by decide +kernel) (by decide +kernel)
theorem ml_X10_138 : Cond.methodLink RX10 138 yX9_take ∈ lw_g := lw_in4 (i := 63) (by decide +kernel) (by decide +kernel)
theorem ml_X9_192 : Cond.methodLink RX9 192 yX7_copyFrom ∈ lw_g := lw_in4 (i := 67) (by decide +kernel) (by decide +kernel)
theorem ml_X7_56 : Cond.methodLinkNest RX7 56 yX10_copyKey "StepShake" ∈ lw_n := lw_memn (i := 791) (by decide +kernel) (by decide +kernel)
theorem ml_X9_196 : Cond.methodLink RX9 196 yX9_takeE ∈ lw_g := lw_in4 (i := 72) (by decide +kernel) (by decide +kernel)
theorem ml_X9_238 : Cond.methodLink RX9 238 ⟨"java/lang/System", "arraycopy", "(Ljava/lang/Object;ILjava/lang/Object;II)V"⟩ ∈ lw_g := lw_in4 (i := 76) (by decide +kernel) (by decide +kernel)
theorem ml_X9_200 : Cond.methodLink RX9 200 yX9_open ∈ lw_g := lw_in4 (i := 77) (by decide +kernel) (by decide +kernel)
theorem ml_L_60 : Cond.methodLink RL 60 yX10_alter ∈ lw_g := lw_in4 (i := 81) (by decide +kernel) (by decide +kernel)
theorem ml_L_64 : Cond.methodLink RL 64 yX10_cut ∈ lw_g := lw_in4 (i := 85) (by decide +kernel) (by decide +kernel)
theorem ml_L_68 : Cond.methodLink RL 68 yX10_byteOf ∈ lw_g := lw_in4 (i := 89) (by decide +kernel) (by decide +kernel)
theorem ml_X10_145 : Cond.methodLink RX10 145 yX4_at ∈ lw_g := lw_in4 (i := 93) (by decide +kernel) (by decide +kernel)
theorem ml_L_72 : Cond.methodLink RL 72 yX10_hash ∈ lw_g := lw_in4 (i := 94) (by decide +kernel) (by decide +kernel)
theorem ml_L_76 : Cond.methodLink RL 76 yX10_about ∈ lw_g := lw_in4 (i := 98) (by decide +kernel) (by decide +kernel)
theorem ml_X10_151 : Cond.methodLink RX10 151 yX6_tell ∈ lw_g := lw_in4 (i := 102) (by decide +kernel) (by decide +kernel)
theorem ml_X6_63 : Cond.methodLink RX6 63 yX6_isDone ∈ lw_g := lw_in4 (i := 106) (by decide +kernel) (by decide +kernel)
theorem ml_L_80 : Cond.methodLink RL 80 yX10_same ∈ lw_g := lw_in4 (i := 107) (by decide +kernel) (by decide +kernel)
theorem ml_X10_155 : Cond.methodLink RX10 155 yX7_fits ∈ lw_g := lw_in4 (i := 111) (by decide +kernel) (by decide +kernel)
theorem ml_X7_60 : Cond.methodLink RX7 60 yX7_alike ∈ lw_g := lw_in4 (i := 115) (by decide +kernel) (by decide +kernel)
theorem ml_L_84 : Cond.methodLink RL 84 yX10_key ∈ lw_g := lw_in4 (i := 118) (by decide +kernel) (by decide +kernel)
theorem ml_X10_159 : Cond.methodLink RX10 159 yX9_publicOf ∈ lw_g := lw_in4 (i := 122) (by decide +kernel) (by decide +kernel)
theorem ml_L_89 : Cond.methodLink RL 89 yX10_count ∈ lw_g := lw_in4 (i := 123) (by decide +kernel) (by decide +kernel)
theorem ml_L_93 : Cond.methodLink RL 93 yX10_digest ∈ lw_g := lw_in4 (i := 127) (by decide +kernel) (by decide +kernel)
theorem kc_X10_163 : Cond.constantLong RX10 163 67 ∈ lw_g := lw_in4 (i := 131) (by decide +kernel) (by decide +kernel)
theorem kc_X10_165 : Cond.constantLong RX10 165 31 ∈ lw_g := lw_in4 (i := 132) (by decide +kernel) (by decide +kernel)
theorem ml_X10_167 : Cond.methodLink RX10 167 yX10_about ∈ lw_g := lw_in4 (i := 133) (by decide +kernel) (by decide +kernel)
theorem ml_X10_171 : Cond.methodLink RX10 171 yX10_hash ∈ lw_g := lw_in4 (i := 134) (by decide +kernel) (by decide +kernel)
theorem ml_X10_174 : Cond.methodLink RX10 174 yX4_addTo ∈ lw_g := lw_in4 (i := 135) (by decide +kernel) (by decide +kernel)
theorem kc_X4_23 : Cond.constantLong RX4 23 31 ∈ lw_g := lw_in4 (i := 139) (by decide +kernel) (by decide +kernel)
theorem cl_L_10 : Cond.classLink RL 10 "StepShakeModel" ∈ lw_g := lw_in4 (i := 140) (by decide +kernel) (by decide +kernel)
theorem it_X11 : Cond.instantiable RX11 63 ∈ lw_g := lw_in4 (i := 141) (by decide +kernel) (by decide +kernel)
theorem ml_L_12 : Cond.methodLink RL 12 yX11_init ∈ lw_g := lw_in4 (i := 142) (by decide +kernel) (by decide +kernel)
theorem ml_X11_1 : Cond.methodLink RX11 1 ⟨"java/lang/Object", "<init>", "()V"⟩ ∈ lw_g := lw_in4 (i := 145) (by decide +kernel) (by decide +kernel)
theorem kc_X11_19 : Cond.constant RX11 19 (nI 1779033703) ∈ lw_g := lw_in4 (i := 146) (by decide +kernel) (by decide +kernel)
theorem kc_X11_20 : Cond.constant RX11 20 (-1150833019) ∈ lw_g := lw_in4 (i := 147) (by decide +kernel) (by decide +kernel)
theorem kc_X11_21 : Cond.constant RX11 21 (nI 1013904242) ∈ lw_g := lw_in4 (i := 148) (by decide +kernel) (by decide +kernel)
theorem kc_X11_22 : Cond.constant RX11 22 (-1521486534) ∈ lw_g := lw_in4 (i := 149) (by decide +kernel) (by decide +kernel)
theorem kc_X11_23 : Cond.constant RX11 23 (nI 1359893119) ∈ lw_g := lw_in4 (i := 150) (by decide +kernel) (by decide +kernel)
theorem kc_X11_24 : Cond.constant RX11 24 (-1694144372) ∈ lw_g := lw_in4 (i := 151) (by decide +kernel) (by decide +kernel)
theorem kc_X11_25 : Cond.constant RX11 25 (nI 528734635) ∈ lw_g := lw_in4 (i := 152) (by decide +kernel) (by decide +kernel)
theorem kc_X11_26 : Cond.constant RX11 26 (nI 1541459225) ∈ lw_g := lw_in4 (i := 153) (by decide +kernel) (by decide +kernel)
theorem kc_X11_30 : Cond.constant RX11 30 (nI 1116352408) ∈ lw_g := lw_in4 (i := 154) (by decide +kernel) (by decide +kernel)
theorem kc_X11_31 : Cond.constant RX11 31 (nI 1899447441) ∈ lw_g := lw_in4 (i := 155) (by decide +kernel) (by decide +kernel)
theorem kc_X11_32 : Cond.constant RX11 32 (-1245643825) ∈ lw_g := lw_in4 (i := 156) (by decide +kernel) (by decide +kernel)
theorem kc_X11_33 : Cond.constant RX11 33 (-373957723) ∈ lw_g := lw_in4 (i := 157) (by decide +kernel) (by decide +kernel)
theorem kc_X11_34 : Cond.constant RX11 34 (nI 961987163) ∈ lw_g := lw_in4 (i := 158) (by decide +kernel) (by decide +kernel)
theorem kc_X11_35 : Cond.constant RX11 35 (nI 1508970993) ∈ lw_g := lw_in4 (i := 159) (by decide +kernel) (by decide +kernel)
theorem kc_X11_36 : Cond.constant RX11 36 (-1841331548) ∈ lw_g := lw_in4 (i := 160) (by decide +kernel) (by decide +kernel)
theorem kc_X11_37 : Cond.constant RX11 37 (-1424204075) ∈ lw_g := lw_in4 (i := 161) (by decide +kernel) (by decide +kernel)
theorem kc_X11_38 : Cond.constant RX11 38 (-670586216) ∈ lw_g := lw_in4 (i := 162) (by decide +kernel) (by decide +kernel)
theorem kc_X11_39 : Cond.constant RX11 39 (nI 310598401) ∈ lw_g := lw_in4 (i := 163) (by decide +kernel) (by decide +kernel)
theorem kc_X11_40 : Cond.constant RX11 40 (nI 607225278) ∈ lw_g := lw_in4 (i := 164) (by decide +kernel) (by decide +kernel)
theorem kc_X11_41 : Cond.constant RX11 41 (nI 1426881987) ∈ lw_g := lw_in4 (i := 165) (by decide +kernel) (by decide +kernel)
theorem kc_X11_42 : Cond.constant RX11 42 (nI 1925078388) ∈ lw_g := lw_in4 (i := 166) (by decide +kernel) (by decide +kernel)
theorem kc_X11_43 : Cond.constant RX11 43 (-2132889090) ∈ lw_g := lw_in4 (i := 167) (by decide +kernel) (by decide +kernel)
theorem kc_X11_44 : Cond.constant RX11 44 (-1680079193) ∈ lw_g := lw_in4 (i := 168) (by decide +kernel) (by decide +kernel)
theorem kc_X11_45 : Cond.constant RX11 45 (-1046744716) ∈ lw_g := lw_in4 (i := 169) (by decide +kernel) (by decide +kernel)
theorem kc_X11_46 : Cond.constant RX11 46 (-459576895) ∈ lw_g := lw_in4 (i := 170) (by decide +kernel) (by decide +kernel)
theorem kc_X11_47 : Cond.constant RX11 47 (-272742522) ∈ lw_g := lw_in4 (i := 171) (by decide +kernel) (by decide +kernel)
theorem kc_X11_48 : Cond.constant RX11 48 (nI 264347078) ∈ lw_g := lw_in4 (i := 172) (by decide +kernel) (by decide +kernel)
theorem kc_X11_49 : Cond.constant RX11 49 (nI 604807628) ∈ lw_g := lw_in4 (i := 173) (by decide +kernel) (by decide +kernel)
theorem kc_X11_50 : Cond.constant RX11 50 (nI 770255983) ∈ lw_g := lw_in4 (i := 174) (by decide +kernel) (by decide +kernel)
theorem kc_X11_51 : Cond.constant RX11 51 (nI 1249150122) ∈ lw_g := lw_in4 (i := 175) (by decide +kernel) (by decide +kernel)
theorem kc_X11_52 : Cond.constant RX11 52 (nI 1555081692) ∈ lw_g := lw_in4 (i := 176) (by decide +kernel) (by decide +kernel)
theorem kc_X11_53 : Cond.constant RX11 53 (nI 1996064986) ∈ lw_g := lw_in4 (i := 177) (by decide +kernel) (by decide +kernel)
theorem kc_X11_54 : Cond.constant RX11 54 (-1740746414) ∈ lw_g := lw_in4 (i := 178) (by decide +kernel) (by decide +kernel)
theorem kc_X11_55 : Cond.constant RX11 55 (-1473132947) ∈ lw_g := lw_in4 (i := 179) (by decide +kernel) (by decide +kernel)
theorem kc_X11_56 : Cond.constant RX11 56 (-1341970488) ∈ lw_g := lw_in4 (i := 180) (by decide +kernel) (by decide +kernel)
theorem kc_X11_57 : Cond.constant RX11 57 (-1084653625) ∈ lw_g := lw_in4 (i := 181) (by decide +kernel) (by decide +kernel)
theorem kc_X11_58 : Cond.constant RX11 58 (-958395405) ∈ lw_g := lw_in4 (i := 182) (by decide +kernel) (by decide +kernel)
theorem kc_X11_59 : Cond.constant RX11 59 (-710438585) ∈ lw_g := lw_in4 (i := 183) (by decide +kernel) (by decide +kernel)
theorem kc_X11_60 : Cond.constant RX11 60 (nI 113926993) ∈ lw_g := lw_in4 (i := 184) (by decide +kernel) (by decide +kernel)
theorem kc_X11_61 : Cond.constant RX11 61 (nI 338241895) ∈ lw_g := lw_in4 (i := 185) (by decide +kernel) (by decide +kernel)
theorem kc_X11_62 : Cond.constant RX11 62 (nI 666307205) ∈ lw_g := lw_in4 (i := 186) (by decide +kernel) (by decide +kernel)
theorem kc_X11_63 : Cond.constant RX11 63 (nI 773529912) ∈ lw_g := lw_in4 (i := 187) (by decide +kernel) (by decide +kernel)
theorem kc_X11_64 : Cond.constant RX11 64 (nI 1294757372) ∈ lw_g := lw_in4 (i := 188) (by decide +kernel) (by decide +kernel)
theorem kc_X11_65 : Cond.constant RX11 65 (nI 1396182291) ∈ lw_g := lw_in4 (i := 189) (by decide +kernel) (by decide +kernel)
theorem kc_X11_66 : Cond.constant RX11 66 (nI 1695183700) ∈ lw_g := lw_in4 (i := 190) (by decide +kernel) (by decide +kernel)
theorem kc_X11_67 : Cond.constant RX11 67 (nI 1986661051) ∈ lw_g := lw_in4 (i := 191) (by decide +kernel) (by decide +kernel)
theorem kc_X11_68 : Cond.constant RX11 68 (-2117940946) ∈ lw_g := lw_in4 (i := 192) (by decide +kernel) (by decide +kernel)
theorem kc_X11_69 : Cond.constant RX11 69 (-1838011259) ∈ lw_g := lw_in4 (i := 193) (by decide +kernel) (by decide +kernel)
theorem kc_X11_70 : Cond.constant RX11 70 (-1564481375) ∈ lw_g := lw_in4 (i := 194) (by decide +kernel) (by decide +kernel)
theorem kc_X11_71 : Cond.constant RX11 71 (-1474664885) ∈ lw_g := lw_in4 (i := 195) (by decide +kernel) (by decide +kernel)
theorem kc_X11_72 : Cond.constant RX11 72 (-1035236496) ∈ lw_g := lw_in4 (i := 196) (by decide +kernel) (by decide +kernel)
theorem kc_X11_73 : Cond.constant RX11 73 (-949202525) ∈ lw_g := lw_in4 (i := 197) (by decide +kernel) (by decide +kernel)
theorem kc_X11_74 : Cond.constant RX11 74 (-778901479) ∈ lw_g := lw_in4 (i := 198) (by decide +kernel) (by decide +kernel)
theorem kc_X11_75 : Cond.constant RX11 75 (-694614492) ∈ lw_g := lw_in4 (i := 199) (by decide +kernel) (by decide +kernel)
theorem kc_X11_76 : Cond.constant RX11 76 (-200395387) ∈ lw_g := lw_in4 (i := 200) (by decide +kernel) (by decide +kernel)
theorem kc_X11_77 : Cond.constant RX11 77 (nI 275423344) ∈ lw_g := lw_in4 (i := 201) (by decide +kernel) (by decide +kernel)
theorem kc_X11_78 : Cond.constant RX11 78 (nI 430227734) ∈ lw_g := lw_in4 (i := 202) (by decide +kernel) (by decide +kernel)
theorem kc_X11_79 : Cond.constant RX11 79 (nI 506948616) ∈ lw_g := lw_in4 (i := 203) (by decide +kernel) (by decide +kernel)
theorem kc_X11_80 : Cond.constant RX11 80 (nI 659060556) ∈ lw_g := lw_in4 (i := 204) (by decide +kernel) (by decide +kernel)
theorem kc_X11_81 : Cond.constant RX11 81 (nI 883997877) ∈ lw_g := lw_in4 (i := 205) (by decide +kernel) (by decide +kernel)
theorem kc_X11_82 : Cond.constant RX11 82 (nI 958139571) ∈ lw_g := lw_in4 (i := 206) (by decide +kernel) (by decide +kernel)
theorem kc_X11_83 : Cond.constant RX11 83 (nI 1322822218) ∈ lw_g := lw_in4 (i := 207) (by decide +kernel) (by decide +kernel)
theorem kc_X11_84 : Cond.constant RX11 84 (nI 1537002063) ∈ lw_g := lw_in4 (i := 208) (by decide +kernel) (by decide +kernel)
theorem kc_X11_85 : Cond.constant RX11 85 (nI 1747873779) ∈ lw_g := lw_in4 (i := 209) (by decide +kernel) (by decide +kernel)
theorem kc_X11_86 : Cond.constant RX11 86 (nI 1955562222) ∈ lw_g := lw_in4 (i := 210) (by decide +kernel) (by decide +kernel)
theorem kc_X11_87 : Cond.constant RX11 87 (nI 2024104815) ∈ lw_g := lw_in4 (i := 211) (by decide +kernel) (by decide +kernel)
theorem kc_X11_88 : Cond.constant RX11 88 (-2067236844) ∈ lw_g := lw_in4 (i := 212) (by decide +kernel) (by decide +kernel)
theorem kc_X11_89 : Cond.constant RX11 89 (-1933114872) ∈ lw_g := lw_in4 (i := 213) (by decide +kernel) (by decide +kernel)
theorem kc_X11_90 : Cond.constant RX11 90 (-1866530822) ∈ lw_g := lw_in4 (i := 214) (by decide +kernel) (by decide +kernel)
theorem kc_X11_91 : Cond.constant RX11 91 (-1538233109) ∈ lw_g := lw_in4 (i := 215) (by decide +kernel) (by decide +kernel)
theorem kc_X11_92 : Cond.constant RX11 92 (-1090935817) ∈ lw_g := lw_in4 (i := 216) (by decide +kernel) (by decide +kernel)
theorem kc_X11_93 : Cond.constant RX11 93 (-965641998) ∈ lw_g := lw_in4 (i := 217) (by decide +kernel) (by decide +kernel)
theorem fl_X11_7 : hFl RX11 7 11 0 true := ⟨_, hc_X11, by decide, lw_in4 (i := 218) (by decide +kernel) (by decide +kernel), rfl, rfl⟩
theorem fl_X11_255 : hFl RX11 255 11 1 false := ⟨_, hc_X11, by decide, lw_in4 (i := 219) (by decide +kernel) (by decide +kernel), rfl, rfl⟩
theorem fl_X11_13 : hFl RX11 13 11 2 true := ⟨_, hc_X11, by decide, lw_in4 (i := 220) (by decide +kernel) (by decide +kernel), rfl, rfl⟩
theorem fl_X11_16 : hFl RX11 16 11 3 true := ⟨_, hc_X11, by decide, lw_in4 (i := 221) (by decide +kernel) (by decide +kernel), rfl, rfl⟩
theorem fl_X11_27 : hFl RX11 27 11 4 true := ⟨_, hc_X11, by decide, lw_in4 (i := 222) (by decide +kernel) (by decide +kernel), rfl, rfl⟩
theorem fl_X11_94 : hFl RX11 94 11 5 true := ⟨_, hc_X11, by decide, lw_in4 (i := 223) (by decide +kernel) (by decide +kernel), rfl, rfl⟩
theorem fl_X11_97 : hFl RX11 97 11 6 true := ⟨_, hc_X11, by decide, lw_in4 (i := 224) (by decide +kernel) (by decide +kernel), rfl, rfl⟩
theorem fl_X11_100 : hFl RX11 100 11 7 true := ⟨_, hc_X11, by decide, lw_in4 (i := 225) (by decide +kernel) (by decide +kernel), rfl, rfl⟩
theorem fl_X11_103 : hFl RX11 103 11 8 true := ⟨_, hc_X11, by decide, lw_in4 (i := 226) (by decide +kernel) (by decide +kernel), rfl, rfl⟩
theorem fl_X11_106 : hFl RX11 106 11 9 true := ⟨_, hc_X11, by decide, lw_in4 (i := 227) (by decide +kernel) (by decide +kernel), rfl, rfl⟩
theorem fl_X11_109 : hFl RX11 109 11 10 true := ⟨_, hc_X11, by decide, lw_in4 (i := 228) (by decide +kernel) (by decide +kernel), rfl, rfl⟩
theorem fl_X11_113 : hFl RX11 113 11 11 true := ⟨_, hc_X11, by decide, lw_in4 (i := 229) (by decide +kernel) (by decide +kernel), rfl, rfl⟩
theorem fl_X11_116 : hFl RX11 116 11 12 true := ⟨_, hc_X11, by decide, lw_in4 (i := 230) (by decide +kernel) (by decide +kernel), rfl, rfl⟩
theorem fl_X11_119 : hFl RX11 119 11 13 true := ⟨_, hc_X11, by decide, lw_in4 (i := 231) (by decide +kernel) (by decide +kernel), rfl, rfl⟩
theorem fl_X11_122 : hFl RX11 122 11 14 true := ⟨_, hc_X11, by decide, lw_in4 (i := 232) (by decide +kernel) (by decide +kernel), rfl, rfl⟩
theorem fl_X11_125 : hFl RX11 125 11 15 true := ⟨_, hc_X11, by decide, lw_in4 (i := 233) (by decide +kernel) (by decide +kernel), rfl, rfl⟩
theorem fl_X11_128 : hFl RX11 128 11 16 true := ⟨_, hc_X11, by decide, lw_in4 (i := 234) (by decide +kernel) (by decide +kernel), rfl, rfl⟩
theorem fl_X11_131 : hFl RX11 131 11 17 true := ⟨_, hc_X11, by decide, lw_in4 (i := 235) (by decide +kernel) (by decide +kernel), rfl, rfl⟩
theorem fl_X11_134 : hFl RX11 134 11 18 true := ⟨_, hc_X11, by decide, lw_in4 (i := 236) (by decide +kernel) (by decide +kernel), rfl, rfl⟩
theorem fl_X11_137 : hFl RX11 137 11 19 true := ⟨_, hc_X11, by decide, lw_in4 (i := 237) (by decide +kernel) (by decide +kernel), rfl, rfl⟩
theorem fl_X11_140 : hFl RX11 140 11 20 true := ⟨_, hc_X11, by decide, lw_in4 (i := 238) (by decide +kernel) (by decide +kernel), rfl, rfl⟩
theorem fl_X11_143 : hFl RX11 143 11 21 true := ⟨_, hc_X11, by decide, lw_in4 (i := 239) (by decide +kernel) (by decide +kernel), rfl, rfl⟩
theorem fl_X11_146 : hFl RX11 146 11 22 true := ⟨_, hc_X11, by decide, lw_in5 (i := 0) (by decide +kernel) (by decide +kernel), rfl, rfl⟩
theorem fl_X11_149 : hFl RX11 149 11 23 true := ⟨_, hc_X11, by decide, lw_in5 (i := 1) (by decide +kernel) (by decide +kernel), rfl, rfl⟩
theorem fl_X11_363 : hFl RX11 363 11 24 false := ⟨_, hc_X11, by decide, lw_in5 (i := 2) (by decide +kernel) (by decide +kernel), rfl, rfl⟩
theorem fl_X11_152 : hFl RX11 152 11 25 true := ⟨_, hc_X11, by decide, lw_in5 (i := 3) (by decide +kernel) (by decide +kernel), rfl, rfl⟩
theorem fl_X11_156 : hFl RX11 156 11 26 true := ⟨_, hc_X11, by decide, lw_in5 (i := 4) (by decide +kernel) (by decide +kernel), rfl, rfl⟩
theorem fl_X11_159 : hFl RX11 159 11 27 true := ⟨_, hc_X11, by decide, lw_in5 (i := 5) (by decide +kernel) (by decide +kernel), rfl, rfl⟩
theorem fl_X11_162 : hFl RX11 162 11 28 true := ⟨_, hc_X11, by decide, lw_in5 (i := 6) (by decide +kernel) (by decide +kernel), rfl, rfl⟩
theorem fl_X11_165 : hFl RX11 165 11 29 true := ⟨_, hc_X11, by decide, lw_in5 (i := 7) (by decide +kernel) (by decide +kernel), rfl, rfl⟩
theorem fl_X11_168 : hFl RX11 168 11 30 true := ⟨_, hc_X11, by decide, lw_in5 (i := 8) (by decide +kernel) (by decide +kernel), rfl, rfl⟩
theorem fl_X11_171 : hFl RX11 171 11 31 true := ⟨_, hc_X11, by decide, lw_in5 (i := 9) (by decide +kernel) (by decide +kernel), rfl, rfl⟩
theorem fl_X11_174 : hFl RX11 174 11 32 true := ⟨_, hc_X11, by decide, lw_in5 (i := 10) (by decide +kernel) (by decide +kernel), rfl, rfl⟩
theorem fl_X11_370 : hFl RX11 370 11 33 false := ⟨_, hc_X11, by decide, lw_in5 (i := 11) (by decide +kernel) (by decide +kernel), rfl, rfl⟩
theorem fl_X11_177 : hFl RX11 177 11 34 true := ⟨_, hc_X11, by decide, lw_in5 (i := 12) (by decide +kernel) (by decide +kernel), rfl, rfl⟩
theorem fl_X11_180 : hFl RX11 180 11 35 true := ⟨_, hc_X11, by decide, lw_in5 (i := 13) (by decide +kernel) (by decide +kernel), rfl, rfl⟩
theorem fl_X11_183 : hFl RX11 183 11 36 true := ⟨_, hc_X11, by decide, lw_in5 (i := 14) (by decide +kernel) (by decide +kernel), rfl, rfl⟩
theorem fl_X11_186 : hFl RX11 186 11 37 true := ⟨_, hc_X11, by decide, lw_in5 (i := 15) (by decide +kernel) (by decide +kernel), rfl, rfl⟩
theorem fl_X11_189 : hFl RX11 189 11 38 true := ⟨_, hc_X11, by decide, lw_in5 (i := 16) (by decide +kernel) (by decide +kernel), rfl, rfl⟩
theorem fl_X11_192 : hFl RX11 192 11 39 true := ⟨_, hc_X11, by decide, lw_in5 (i := 17) (by decide +kernel) (by decide +kernel), rfl, rfl⟩
theorem fl_X11_195 : hFl RX11 195 11 40 true := ⟨_, hc_X11, by decide, lw_in5 (i := 18) (by decide +kernel) (by decide +kernel), rfl, rfl⟩
theorem fl_X11_198 : hFl RX11 198 11 41 true := ⟨_, hc_X11, by decide, lw_in5 (i := 19) (by decide +kernel) (by decide +kernel), rfl, rfl⟩
theorem fl_X11_201 : hFl RX11 201 11 42 true := ⟨_, hc_X11, by decide, lw_in5 (i := 20) (by decide +kernel) (by decide +kernel), rfl, rfl⟩
theorem fl_X11_204 : hFl RX11 204 11 43 true := ⟨_, hc_X11, by decide, lw_in5 (i := 21) (by decide +kernel) (by decide +kernel), rfl, rfl⟩
theorem fl_X11_207 : hFl RX11 207 11 44 true := ⟨_, hc_X11, by decide, lw_in5 (i := 22) (by decide +kernel) (by decide +kernel), rfl, rfl⟩
theorem fl_X11_210 : hFl RX11 210 11 45 true := ⟨_, hc_X11, by decide, lw_in5 (i := 23) (by decide +kernel) (by decide +kernel), rfl, rfl⟩
theorem fl_X11_213 : hFl RX11 213 11 46 true := ⟨_, hc_X11, by decide, lw_in5 (i := 24) (by decide +kernel) (by decide +kernel), rfl, rfl⟩
theorem fl_X11_216 : hFl RX11 216 11 47 true := ⟨_, hc_X11, by decide, lw_in5 (i := 25) (by decide +kernel) (by decide +kernel), rfl, rfl⟩
theorem fl_X11_219 : hFl RX11 219 11 48 true := ⟨_, hc_X11, by decide, lw_in5 (i := 26) (by decide +kernel) (by decide +kernel), rfl, rfl⟩
theorem fl_X11_222 : hFl RX11 222 11 49 true := ⟨_, hc_X11, by decide, lw_in5 (i := 27) (by decide +kernel) (by decide +kernel), rfl, rfl⟩
theorem fl_X11_225 : hFl RX11 225 11 50 true := ⟨_, hc_X11, by decide, lw_in5 (i := 28) (by decide +kernel) (by decide +kernel), rfl, rfl⟩
theorem fl_X11_228 : hFl RX11 228 11 51 true := ⟨_, hc_X11, by decide, lw_in5 (i := 29) (by decide +kernel) (by decide +kernel), rfl, rfl⟩
theorem fl_X11_231 : hFl RX11 231 11 52 true := ⟨_, hc_X11, by decide, lw_in5 (i := 30) (by decide +kernel) (by decide +kernel), rfl, rfl⟩
theorem fl_X11_234 : hFl RX11 234 11 53 true := ⟨_, hc_X11, by decide, lw_in5 (i := 31) (by decide +kernel) (by decide +kernel), rfl, rfl⟩
theorem fl_X11_237 : hFl RX11 237 11 54 true := ⟨_, hc_X11, by decide, lw_in5 (i := 32) (by decide +kernel) (by decide +kernel), rfl, rfl⟩
theorem fl_X11_240 : hFl RX11 240 11 55 true := ⟨_, hc_X11, by decide, lw_in5 (i := 33) (by decide +kernel) (by decide +kernel), rfl, rfl⟩
theorem fl_X11_418 : hFl RX11 418 11 56 false := ⟨_, hc_X11, by decide, lw_in5 (i := 34) (by decide +kernel) (by decide +kernel), rfl, rfl⟩
theorem fl_X11_243 : hFl RX11 243 11 57 true := ⟨_, hc_X11, by decide, lw_in5 (i := 35) (by decide +kernel) (by decide +kernel), rfl, rfl⟩
theorem fl_X11_450 : hFl RX11 450 11 58 false := ⟨_, hc_X11, by decide, lw_in5 (i := 36) (by decide +kernel) (by decide +kernel), rfl, rfl⟩
theorem fl_X11_246 : hFl RX11 246 11 59 true := ⟨_, hc_X11, by decide, lw_in5 (i := 37) (by decide +kernel) (by decide +kernel), rfl, rfl⟩
theorem fl_X11_457 : hFl RX11 457 11 60 false := ⟨_, hc_X11, by decide, lw_in5 (i := 38) (by decide +kernel) (by decide +kernel), rfl, rfl⟩
theorem fl_X11_249 : hFl RX11 249 11 61 true := ⟨_, hc_X11, by decide, lw_in5 (i := 39) (by decide +kernel) (by decide +kernel), rfl, rfl⟩
theorem fl_X11_252 : hFl RX11 252 11 62 true := ⟨_, hc_X11, by decide, lw_in5 (i := 40) (by decide +kernel) (by decide +kernel), rfl, rfl⟩
theorem ac_boolean : Cond.arrayClass .boolean ∈ lw_g := lw_in5 (i := 168) (by decide +kernel) (by decide +kernel)
theorem ml_L_17 : Cond.methodLink RL 17 yX11_pattern ∈ lw_g := lw_in5 (i := 169) (by decide +kernel) (by decide +kernel)
theorem ml_L_22 : Cond.methodLink RL 22 yX11_message ∈ lw_g := lw_in5 (i := 173) (by decide +kernel) (by decide +kernel)
theorem ml_X11_373 : Cond.methodLink RX11 373 yX11_isPattern ∈ lw_g := lw_in5 (i := 177) (by decide +kernel) (by decide +kernel)
theorem ml_X11_366 : Cond.methodLink RX11 366 yX11_in ∈ lw_g := lw_in5 (i := 181) (by decide +kernel) (by decide +kernel)
theorem ml_X11_377 : Cond.methodLink RX11 377 yX11_isUsed ∈ lw_g := lw_in5 (i := 184) (by decide +kernel) (by decide +kernel)
theorem ml_L_27 : Cond.methodLink RL 27 yX11_token ∈ lw_g := lw_in5 (i := 188) (by decide +kernel) (by decide +kernel)
theorem ml_L_31 : Cond.methodLink RL 31 yX11_fault ∈ lw_g := lw_in5 (i := 192) (by decide +kernel) (by decide +kernel)
theorem ml_X11_386 : Cond.methodLink RX11 386 yX11_faultOf ∈ lw_g := lw_in5 (i := 196) (by decide +kernel) (by decide +kernel)
theorem ml_X11_383 : Cond.methodLink RX11 383 yX11_judges ∈ lw_g := lw_in5 (i := 200) (by decide +kernel) (by decide +kernel)
theorem ml_X11_380 : Cond.methodLink RX11 380 yX11_seals ∈ lw_g := lw_in5 (i := 204) (by decide +kernel) (by decide +kernel)
theorem ml_L_35 : Cond.methodLink RL 35 yX11_told ∈ lw_g := lw_in5 (i := 208) (by decide +kernel) (by decide +kernel)
theorem ml_L_40 : Cond.methodLink RL 40 yX11_side ∈ lw_g := lw_in5 (i := 212) (by decide +kernel) (by decide +kernel)
theorem ml_X11_408 : Cond.methodLink RX11 408 yX11_sendsS ∈ lw_g := lw_in5 (i := 216) (by decide +kernel) (by decide +kernel)
theorem ml_X11_394 : Cond.methodLink RX11 394 yX11_secret ∈ lw_g := lw_in5 (i := 220) (by decide +kernel) (by decide +kernel)
theorem ml_X11_278 : Cond.methodLink RX11 278 yX11_hashes ∈ lw_g := lw_in5 (i := 224) (by decide +kernel) (by decide +kernel)
theorem ml_X11_266 : Cond.methodLink RX11 266 yX11_block ∈ lw_g := lw_in5 (i := 228) (by decide +kernel) (by decide +kernel)
theorem ml_X11_259 : Cond.methodLink RX11 259 yX11_padded ∈ lw_g := lw_in5 (i := 232) (by decide +kernel) (by decide +kernel)
theorem ml_X11_263 : Cond.methodLink RX11 263 yX11_turned ∈ lw_g := lw_in5 (i := 236) (by decide +kernel) (by decide +kernel)
theorem ml_X11_412 : Cond.methodLink RX11 412 yX11_begins ∈ lw_g := lw_in5 (i := 239) (by decide +kernel) (by decide +kernel)
theorem ml_X11_398 : Cond.methodLink RX11 398 yX11_publicOf ∈ lw_g := lw_in6 (i := 3) (by decide +kernel) (by decide +kernel)
theorem ml_X11_335 : Cond.methodLink RX11 335 yX11_dh ∈ lw_g := lw_in6 (i := 7) (by decide +kernel) (by decide +kernel)
theorem ml_X11_270 : Cond.methodLink RX11 270 yX11_copy ∈ lw_g := lw_in6 (i := 11) (by decide +kernel) (by decide +kernel)
theorem kc_X11_309 : Cond.constantLong RX11 309 32767 ∈ lw_g := lw_in6 (i := 14) (by decide +kernel) (by decide +kernel)
theorem kc_X11_315 : Cond.constantLong RX11 315 56129 ∈ lw_g := lw_in6 (i := 15) (by decide +kernel) (by decide +kernel)
theorem ml_X11_317 : Cond.methodLink RX11 317 yX11_sets ∈ lw_g := lw_in6 (i := 16) (by decide +kernel) (by decide +kernel)
theorem ml_X11_304 : Cond.methodLink RX11 304 yX11_copies ∈ lw_g := lw_in6 (i := 20) (by decide +kernel) (by decide +kernel)
theorem ml_X11_321 : Cond.methodLink RX11 321 yX11_exchange ∈ lw_g := lw_in6 (i := 24) (by decide +kernel) (by decide +kernel)
theorem ml_X11_325 : Cond.methodLink RX11 325 yX11_ladderStep ∈ lw_g := lw_in6 (i := 28) (by decide +kernel) (by decide +kernel)
theorem ml_X11_294 : Cond.methodLink RX11 294 yX11_plus ∈ lw_g := lw_in6 (i := 32) (by decide +kernel) (by decide +kernel)
theorem ml_X11_298 : Cond.methodLink RX11 298 yX11_minus ∈ lw_g := lw_in6 (i := 36) (by decide +kernel) (by decide +kernel)
theorem ml_X11_301 : Cond.methodLink RX11 301 yX11_times ∈ lw_g := lw_in6 (i := 40) (by decide +kernel) (by decide +kernel)
theorem kc_X11_288 : Cond.constantLong RX11 288 38 ∈ lw_g := lw_in6 (i := 44) (by decide +kernel) (by decide +kernel)
theorem ml_X11_290 : Cond.methodLink RX11 290 yX11_carry ∈ lw_g := lw_in6 (i := 45) (by decide +kernel) (by decide +kernel)
theorem kc_X11_286 : Cond.constantLong RX11 286 65536 ∈ lw_g := lw_in6 (i := 49) (by decide +kernel) (by decide +kernel)
theorem ml_X11_328 : Cond.methodLink RX11 328 yX11_invert ∈ lw_g := lw_in6 (i := 50) (by decide +kernel) (by decide +kernel)
theorem ml_X11_331 : Cond.methodLink RX11 331 yX11_packs ∈ lw_g := lw_in6 (i := 54) (by decide +kernel) (by decide +kernel)
theorem kc_X11_307 : Cond.constantLong RX11 307 65517 ∈ lw_g := lw_in6 (i := 58) (by decide +kernel) (by decide +kernel)
theorem kc_X11_311 : Cond.constantLong RX11 311 65535 ∈ lw_g := lw_in6 (i := 59) (by decide +kernel) (by decide +kernel)
theorem kc_X11_313 : Cond.constantLong RX11 313 255 ∈ lw_g := lw_in6 (i := 60) (by decide +kernel) (by decide +kernel)
theorem ml_X11_401 : Cond.methodLink RX11 401 yX11_nameByte ∈ lw_g := lw_in6 (i := 61) (by decide +kernel) (by decide +kernel)
theorem ml_X11_404 : Cond.methodLink RX11 404 yX11_mixHash ∈ lw_g := lw_in6 (i := 64) (by decide +kernel) (by decide +kernel)
theorem ml_X11_274 : Cond.methodLink RX11 274 yX11_lays ∈ lw_g := lw_in6 (i := 68) (by decide +kernel) (by decide +kernel)
theorem ml_L_44 : Cond.methodLink RL 44 yX11_again ∈ lw_g := lw_in6 (i := 72) (by decide +kernel) (by decide +kernel)
theorem ml_X11_415 : Cond.methodLink RX11 415 yX11_isSide ∈ lw_g := lw_in6 (i := 76) (by decide +kernel) (by decide +kernel)
theorem ml_L_51 : Cond.methodLink RL 51 yX11_feed ∈ lw_g := lw_in6 (i := 80) (by decide +kernel) (by decide +kernel)
theorem ml_L_55 : Cond.methodLink RL 55 yX11_write ∈ lw_g := lw_in6 (i := 84) (by decide +kernel) (by decide +kernel)
theorem ml_X11_421 : Cond.methodLink RX11 421 yX11_ciphers ∈ lw_g := lw_in6 (i := 88) (by decide +kernel) (by decide +kernel)
theorem ml_X11_353 : Cond.methodLink RX11 353 yX11_streams ∈ lw_g := lw_in6 (i := 92) (by decide +kernel) (by decide +kernel)
theorem kc_X11_339 : Cond.constant RX11 339 (nI 1634760805) ∈ lw_g := lw_in6 (i := 96) (by decide +kernel) (by decide +kernel)
theorem kc_X11_340 : Cond.constant RX11 340 (nI 857760878) ∈ lw_g := lw_in6 (i := 97) (by decide +kernel) (by decide +kernel)
theorem kc_X11_341 : Cond.constant RX11 341 (nI 2036477234) ∈ lw_g := lw_in6 (i := 98) (by decide +kernel) (by decide +kernel)
theorem kc_X11_342 : Cond.constant RX11 342 (nI 1797285236) ∈ lw_g := lw_in6 (i := 99) (by decide +kernel) (by decide +kernel)
theorem ml_X11_343 : Cond.methodLink RX11 343 yX11_quarter ∈ lw_g := lw_in6 (i := 100) (by decide +kernel) (by decide +kernel)
theorem ml_X11_425 : Cond.methodLink RX11 425 yX11_tagOf ∈ lw_g := lw_in6 (i := 104) (by decide +kernel) (by decide +kernel)
theorem ml_X11_357 : Cond.methodLink RX11 357 yX11_tellsLong ∈ lw_g := lw_in6 (i := 108) (by decide +kernel) (by decide +kernel)
theorem ml_X11_360 : Cond.methodLink RX11 360 yX11_tags ∈ lw_g := lw_in6 (i := 112) (by decide +kernel) (by decide +kernel)
theorem ml_X11_347 : Cond.methodLink RX11 347 yX11_adds ∈ lw_g := lw_in6 (i := 116) (by decide +kernel) (by decide +kernel)
theorem ml_X11_350 : Cond.methodLink RX11 350 yX11_multiplies ∈ lw_g := lw_in6 (i := 120) (by decide +kernel) (by decide +kernel)
theorem ml_X11_443 : Cond.methodLink RX11 443 yX11_writesToken ∈ lw_g := lw_in6 (i := 124) (by decide +kernel) (by decide +kernel)
theorem ml_X11_433 : Cond.methodLink RX11 433 yX11_seal ∈ lw_g := lw_in6 (i := 128) (by decide +kernel) (by decide +kernel)
theorem ml_X11_437 : Cond.methodLink RX11 437 yX11_shares ∈ lw_g := lw_in6 (i := 132) (by decide +kernel) (by decide +kernel)
theorem ml_X11_440 : Cond.methodLink RX11 440 yX11_mixKey ∈ lw_g := lw_in6 (i := 136) (by decide +kernel) (by decide +kernel)
theorem ml_X11_390 : Cond.methodLink RX11 390 yX11_keys ∈ lw_g := lw_in6 (i := 140) (by decide +kernel) (by decide +kernel)
theorem ml_X11_282 : Cond.methodLink RX11 282 yX11_mac ∈ lw_g := lw_in6 (i := 144) (by decide +kernel) (by decide +kernel)
theorem ml_X11_447 : Cond.methodLink RX11 447 yX11_ends ∈ lw_g := lw_in6 (i := 148) (by decide +kernel) (by decide +kernel)
theorem ml_L_59 : Cond.methodLink RL 59 yX11_read ∈ lw_g := lw_in6 (i := 152) (by decide +kernel) (by decide +kernel)
theorem ml_X11_463 : Cond.methodLink RX11 463 yX11_readsDone ∈ lw_g := lw_in6 (i := 156) (by decide +kernel) (by decide +kernel)
theorem ml_X11_429 : Cond.methodLink RX11 429 yX11_isRight ∈ lw_g := lw_in6 (i := 160) (by decide +kernel) (by decide +kernel)
theorem ml_X11_466 : Cond.methodLink RX11 466 yX11_copySide ∈ lw_g := lw_in6 (i := 164) (by decide +kernel) (by decide +kernel)
theorem ml_X11_469 : Cond.methodLink RX11 469 yX11_reads ∈ lw_g := lw_in6 (i := 168) (by decide +kernel) (by decide +kernel)
theorem ml_X11_460 : Cond.methodLink RX11 460 yX11_readsToken ∈ lw_g := lw_in6 (i := 172) (by decide +kernel) (by decide +kernel)
theorem ml_X11_453 : Cond.methodLink RX11 453 yX11_open ∈ lw_g := lw_in6 (i := 176) (by decide +kernel) (by decide +kernel)
theorem ml_L_63 : Cond.methodLink RL 63 yX11_alter ∈ lw_g := lw_in6 (i := 180) (by decide +kernel) (by decide +kernel)
theorem ml_L_67 : Cond.methodLink RL 67 yX11_cut ∈ lw_g := lw_in6 (i := 184) (by decide +kernel) (by decide +kernel)
theorem ml_L_71 : Cond.methodLink RL 71 yX11_byteOf ∈ lw_g := lw_in6 (i := 188) (by decide +kernel) (by decide +kernel)
theorem ml_L_75 : Cond.methodLink RL 75 yX11_hash ∈ lw_g := lw_in6 (i := 192) (by decide +kernel) (by decide +kernel)
theorem ml_L_79 : Cond.methodLink RL 79 yX11_about ∈ lw_g := lw_in6 (i := 196) (by decide +kernel) (by decide +kernel)
theorem ml_X11_472 : Cond.methodLink RX11 472 yX11_aboutOf ∈ lw_g := lw_in6 (i := 200) (by decide +kernel) (by decide +kernel)
theorem ml_L_83 : Cond.methodLink RL 83 yX11_same ∈ lw_g := lw_in6 (i := 204) (by decide +kernel) (by decide +kernel)
theorem ml_L_88 : Cond.methodLink RL 88 yX11_key ∈ lw_g := lw_in6 (i := 208) (by decide +kernel) (by decide +kernel)
theorem ml_L_92 : Cond.methodLink RL 92 yX11_count ∈ lw_g := lw_in6 (i := 212) (by decide +kernel) (by decide +kernel)
theorem ml_L_97 : Cond.methodLink RL 97 yX11_digest ∈ lw_g := lw_in6 (i := 216) (by decide +kernel) (by decide +kernel)
theorem kc_X11_475 : Cond.constantLong RX11 475 67 ∈ lw_g := lw_in6 (i := 220) (by decide +kernel) (by decide +kernel)
theorem kc_X11_477 : Cond.constantLong RX11 477 31 ∈ lw_g := lw_in6 (i := 221) (by decide +kernel) (by decide +kernel)
theorem kc_L_45 : Cond.constantLong RL 45 4294967295 ∈ lw_g := lw_in6 (i := 222) (by decide +kernel) (by decide +kernel)
theorem sl_J0_9 : Cond.fieldLink RJ0 9 "java/lang/String" "value" "[B" ∈ lw_g := lw_in6 (i := 223) (by decide +kernel) (by decide +kernel)
theorem sl_J0_15 : Cond.fieldLink RJ0 15 "java/lang/String" "coder" "B" ∈ lw_g := lw_in6 (i := 224) (by decide +kernel) (by decide +kernel)
theorem obj_inst : Cond.instanceMethod Lib.objectInit ∈ lw_g := lw_in1 (i := 25) (by decide +kernel) (by decide +kernel)
theorem obj_code : Cond.code Lib.objectInit ⟨#[0xb1]⟩ 1 none ∈ lw_g := lw_in1 (i := 26) (by decide +kernel) (by decide +kernel)
theorem st_copy : Cond.static arraycopyName ∈ lw_g := lw_in2 (i := 235) (by decide +kernel) (by decide +kernel)
set_option maxRecDepth 100000 in
theorem mi_X0_init : hMi yX0_init cX0_init 1 0 := ⟨⟨lw_in1 (i := 139) rfl rfl, ini_X0, by decide +kernel, by decide +kernel, by decide +kernel⟩, rfl, lw_in1 (i := 138) (by decide +kernel) (by decide +kernel)⟩
set_option maxRecDepth 100000 in
theorem mv_X0_seal : hMv yX0_seal cX0_seal 6 none 5 := ⟨⟨lw_in3 (i := 176) rfl rfl, ini_X0, by decide +kernel, by decide +kernel, by decide +kernel⟩, lw_in3 (i := 174) (by decide +kernel) (by decide +kernel), lw_in3 (i := 175) (by decide +kernel) (by decide +kernel)⟩
set_option maxRecDepth 100000 in
theorem mv_X0_open : hMv yX0_open cX0_open 10 (some .boolean) 7 := ⟨⟨lw_in4 (i := 58) rfl rfl, ini_X0, by decide +kernel, by decide +kernel, by decide +kernel⟩, lw_in4 (i := 56) (by decide +kernel) (by decide +kernel), lw_in4 (i := 57) (by decide +kernel) (by decide +kernel)⟩
set_option maxRecDepth 100000 in
theorem mv_X0_prepare : hMv yX0_prepare cX0_prepare 4 none 2 := ⟨⟨lw_in3 (i := 180) rfl rfl, ini_X0, by decide +kernel, by decide +kernel, by decide +kernel⟩, lw_in3 (i := 179) (by decide +kernel) (by decide +kernel), lw_mems (i := 7) (by decide +kernel) (by decide +kernel)⟩
set_option maxRecDepth 100000 in
theorem mv_X0_turn : hMv yX0_turn cX0_turn 5 none 3 := ⟨⟨lw_in3 (i := 189) rfl rfl, ini_X0, by decide +kernel, by decide +kernel, by decide +kernel⟩, lw_in3 (i := 188) (by decide +kernel) (by decide +kernel), lw_mems (i := 8) (by decide +kernel) (by decide +kernel)⟩
set_option maxRecDepth 100000 in
theorem mv_X0_makeTag : hMv yX0_makeTag cX0_makeTag 6 none 4 := ⟨⟨lw_in3 (i := 210) rfl rfl, ini_X0, by decide +kernel, by decide +kernel, by decide +kernel⟩, lw_in3 (i := 209) (by decide +kernel) (by decide +kernel), lw_mems (i := 13) (by decide +kernel) (by decide +kernel)⟩
set_option maxRecDepth 100000 in
theorem mv_X0_blockByte : hMv yX0_blockByte cX0_blockByte 2 (some .int) 1 := ⟨⟨lw_in3 (i := 206) rfl rfl, ini_X0, by decide +kernel, by decide +kernel, by decide +kernel⟩, lw_in3 (i := 205) (by decide +kernel) (by decide +kernel), lw_mems (i := 12) (by decide +kernel) (by decide +kernel)⟩
set_option maxRecDepth 100000 in
theorem mv_X0_makeBlock : hMv yX0_makeBlock cX0_makeBlock 3 none 1 := ⟨⟨lw_in3 (i := 193) rfl rfl, ini_X0, by decide +kernel, by decide +kernel, by decide +kernel⟩, lw_in3 (i := 192) (by decide +kernel) (by decide +kernel), lw_mems (i := 9) (by decide +kernel) (by decide +kernel)⟩
set_option maxRecDepth 100000 in
theorem mv_X0_quarter : hMv yX0_quarter cX0_quarter 5 none 4 := ⟨⟨lw_in3 (i := 198) rfl rfl, ini_X0, by decide +kernel, by decide +kernel, by decide +kernel⟩, lw_in3 (i := 197) (by decide +kernel) (by decide +kernel), lw_mems (i := 10) (by decide +kernel) (by decide +kernel)⟩
set_option maxRecDepth 100000 in
theorem mv_X0_mix : hMv yX0_mix cX0_mix 6 none 4 := ⟨⟨lw_in3 (i := 202) rfl rfl, ini_X0, by decide +kernel, by decide +kernel, by decide +kernel⟩, lw_in3 (i := 201) (by decide +kernel) (by decide +kernel), lw_mems (i := 11) (by decide +kernel) (by decide +kernel)⟩
set_option maxRecDepth 100000 in
theorem mi_X1_init : hMi yX1_init cX1_init 1 0 := ⟨⟨lw_in1 (i := 101) rfl rfl, ini_X1, by decide +kernel, by decide +kernel, by decide +kernel⟩, rfl, lw_in1 (i := 100) (by decide +kernel) (by decide +kernel)⟩
set_option maxRecDepth 100000 in
theorem mv_X1_multiplyPoint : hMv yX1_multiplyPoint cX1_multiplyPoint 7 none 3 := ⟨⟨lw_in3 (i := 20) rfl rfl, ini_X1, by decide +kernel, by decide +kernel, by decide +kernel⟩, lw_in3 (i := 18) (by decide +kernel) (by decide +kernel), lw_in3 (i := 19) (by decide +kernel) (by decide +kernel)⟩
set_option maxRecDepth 100000 in
theorem mv_X1_swap : hMv yX1_swap cX1_swap 3 none 0 := ⟨⟨lw_in3 (i := 41) rfl rfl, ini_X1, by decide +kernel, by decide +kernel, by decide +kernel⟩, lw_in3 (i := 40) (by decide +kernel) (by decide +kernel), lw_mems (i := 3) (by decide +kernel) (by decide +kernel)⟩
set_option maxRecDepth 100000 in
theorem mv_X1_step : hMv yX1_step cX1_step 1 none 0 := ⟨⟨lw_in3 (i := 45) rfl rfl, ini_X1, by decide +kernel, by decide +kernel, by decide +kernel⟩, lw_in3 (i := 44) (by decide +kernel) (by decide +kernel), lw_mems (i := 4) (by decide +kernel) (by decide +kernel)⟩
set_option maxRecDepth 100000 in
theorem ms_X1_invert : hMs yX1_invert cX1_invert 3 none 2 := ⟨⟨lw_in3 (i := 66) rfl rfl, ini_X1, by decide +kernel, by decide +kernel, by decide +kernel⟩, lw_in3 (i := 65) (by decide +kernel) (by decide +kernel)⟩
set_option maxRecDepth 100000 in
theorem ms_X1_setSmall : hMs yX1_setSmall cX1_setSmall 3 none 2 := ⟨⟨lw_in3 (i := 36) rfl rfl, ini_X1, by decide +kernel, by decide +kernel, by decide +kernel⟩, lw_in3 (i := 35) (by decide +kernel) (by decide +kernel)⟩
set_option maxRecDepth 100000 in
theorem ms_X1_add : hMs yX1_add cX1_add 4 none 3 := ⟨⟨lw_in3 (i := 48) rfl rfl, ini_X1, by decide +kernel, by decide +kernel, by decide +kernel⟩, lw_in3 (i := 47) (by decide +kernel) (by decide +kernel)⟩
set_option maxRecDepth 100000 in
theorem ms_X1_subtract : hMs yX1_subtract cX1_subtract 4 none 3 := ⟨⟨lw_in3 (i := 51) rfl rfl, ini_X1, by decide +kernel, by decide +kernel, by decide +kernel⟩, lw_in3 (i := 50) (by decide +kernel) (by decide +kernel)⟩
set_option maxRecDepth 100000 in
theorem ms_X1_scale : hMs yX1_scale cX1_scale 3 none 2 := ⟨⟨lw_in3 (i := 62) rfl rfl, ini_X1, by decide +kernel, by decide +kernel, by decide +kernel⟩, lw_in3 (i := 61) (by decide +kernel) (by decide +kernel)⟩
set_option maxRecDepth 100000 in
theorem ms_X1_multiply : hMs yX1_multiply cX1_multiply 71 none 3 := ⟨⟨lw_in3 (i := 54) rfl rfl, ini_X1, by decide +kernel, by decide +kernel, by decide +kernel⟩, lw_in3 (i := 53) (by decide +kernel) (by decide +kernel)⟩
set_option maxRecDepth 100000 in
theorem ms_X1_width : hMs yX1_width cX1_width 1 (some .int) 1 := ⟨⟨lw_in3 (i := 30) rfl rfl, ini_X1, by decide +kernel, by decide +kernel, by decide +kernel⟩, lw_in3 (i := 29) (by decide +kernel) (by decide +kernel)⟩
set_option maxRecDepth 100000 in
theorem ms_X1_carry : hMs yX1_carry cX1_carry 7 none 1 := ⟨⟨lw_in3 (i := 59) rfl rfl, ini_X1, by decide +kernel, by decide +kernel, by decide +kernel⟩, lw_in3 (i := 58) (by decide +kernel) (by decide +kernel)⟩
set_option maxRecDepth 100000 in
theorem ms_X1_unpack : hMs yX1_unpack cX1_unpack 4 none 2 := ⟨⟨lw_in3 (i := 27) rfl rfl, ini_X1, by decide +kernel, by decide +kernel, by decide +kernel⟩, lw_in3 (i := 26) (by decide +kernel) (by decide +kernel)⟩
set_option maxRecDepth 100000 in
theorem ms_X1_pack : hMs yX1_pack cX1_pack 11 none 2 := ⟨⟨lw_in3 (i := 69) rfl rfl, ini_X1, by decide +kernel, by decide +kernel, by decide +kernel⟩, lw_in3 (i := 68) (by decide +kernel) (by decide +kernel)⟩
set_option maxRecDepth 100000 in
theorem mi_X2_init : hMi yX2_init cX2_init 1 0 := ⟨⟨lw_in1 (i := 80) rfl rfl, ini_X2, by decide +kernel, by decide +kernel, by decide +kernel⟩, rfl, lw_in1 (i := 79) (by decide +kernel) (by decide +kernel)⟩
set_option maxRecDepth 100000 in
theorem mv_X2_makeKeys : hMv yX2_makeKeys cX2_makeKeys 6 none 5 := ⟨⟨lw_in4 (i := 23) rfl rfl, ini_X2, by decide +kernel, by decide +kernel, by decide +kernel⟩, lw_in4 (i := 21) (by decide +kernel) (by decide +kernel), lw_in4 (i := 22) (by decide +kernel) (by decide +kernel)⟩
set_option maxRecDepth 100000 in
theorem mv_X2_makeMac : hMv yX2_makeMac cX2_makeMac 5 none 4 := ⟨⟨lw_in4 (i := 27) rfl rfl, ini_X2, by decide +kernel, by decide +kernel, by decide +kernel⟩, lw_in4 (i := 26) (by decide +kernel) (by decide +kernel), lw_mems (i := 18) (by decide +kernel) (by decide +kernel)⟩
set_option maxRecDepth 100000 in
theorem mv_X2_beginWith : hMv yX2_beginWith cX2_beginWith 4 none 2 := ⟨⟨lw_in4 (i := 31) rfl rfl, ini_X2, by decide +kernel, by decide +kernel, by decide +kernel⟩, lw_in4 (i := 30) (by decide +kernel) (by decide +kernel), lw_mems (i := 19) (by decide +kernel) (by decide +kernel)⟩
set_option maxRecDepth 100000 in
theorem mi_X3_init : hMi yX3_init cX3_init 3 2 := ⟨⟨lw_in2 (i := 72) rfl rfl, ini_X3, by decide +kernel, by decide +kernel, by decide +kernel⟩, rfl, lw_in2 (i := 71) (by decide +kernel) (by decide +kernel)⟩
set_option maxRecDepth 100000 in
theorem mv_X3_addMessage : hMv yX3_addMessage cX3_addMessage 1 (some .int) 0 := ⟨⟨lw_in2 (i := 109) rfl rfl, ini_X3, by decide +kernel, by decide +kernel, by decide +kernel⟩, lw_in2 (i := 107) (by decide +kernel) (by decide +kernel), lw_in2 (i := 108) (by decide +kernel) (by decide +kernel)⟩
set_option maxRecDepth 100000 in
theorem mv_X3_addToken : hMv yX3_addToken cX3_addToken 3 (some .int) 1 := ⟨⟨lw_in2 (i := 117) rfl rfl, ini_X3, by decide +kernel, by decide +kernel, by decide +kernel⟩, lw_in2 (i := 115) (by decide +kernel) (by decide +kernel), lw_in2 (i := 116) (by decide +kernel) (by decide +kernel)⟩
set_option maxRecDepth 100000 in
theorem mv_X3_sizeOf : hMv yX3_sizeOf cX3_sizeOf 2 (some .int) 1 := ⟨⟨lw_in2 (i := 158) rfl rfl, ini_X3, by decide +kernel, by decide +kernel, by decide +kernel⟩, lw_in2 (i := 156) (by decide +kernel) (by decide +kernel), lw_in2 (i := 157) (by decide +kernel) (by decide +kernel)⟩
set_option maxRecDepth 100000 in
theorem mv_X3_tokenAt : hMv yX3_tokenAt cX3_tokenAt 3 (some .int) 2 := ⟨⟨lw_in2 (i := 162) rfl rfl, ini_X3, by decide +kernel, by decide +kernel, by decide +kernel⟩, lw_in2 (i := 160) (by decide +kernel) (by decide +kernel), lw_in2 (i := 161) (by decide +kernel) (by decide +kernel)⟩
set_option maxRecDepth 100000 in
theorem mv_X3_isKnownAhead : hMv yX3_isKnownAhead cX3_isKnownAhead 2 (some .boolean) 1 := ⟨⟨lw_in2 (i := 170) rfl rfl, ini_X3, by decide +kernel, by decide +kernel, by decide +kernel⟩, lw_in2 (i := 168) (by decide +kernel) (by decide +kernel), lw_in2 (i := 169) (by decide +kernel) (by decide +kernel)⟩
set_option maxRecDepth 100000 in
theorem mv_X3_sendsS : hMv yX3_sendsS cX3_sendsS 4 (some .boolean) 1 := ⟨⟨lw_in2 (i := 174) rfl rfl, ini_X3, by decide +kernel, by decide +kernel, by decide +kernel⟩, lw_in2 (i := 172) (by decide +kernel) (by decide +kernel), lw_in2 (i := 173) (by decide +kernel) (by decide +kernel)⟩
set_option maxRecDepth 100000 in
theorem mv_X3_tell : hMv yX3_tell cX3_tell 4 (some .int) 1 := ⟨⟨lw_in2 (i := 154) rfl rfl, ini_X3, by decide +kernel, by decide +kernel, by decide +kernel⟩, lw_in2 (i := 152) (by decide +kernel) (by decide +kernel), lw_in2 (i := 153) (by decide +kernel) (by decide +kernel)⟩
set_option maxRecDepth 100000 in
theorem mv_X3_findFault : hMv yX3_findFault cX3_findFault 8 (some .int) 0 := ⟨⟨lw_in2 (i := 125) rfl rfl, ini_X3, by decide +kernel, by decide +kernel, by decide +kernel⟩, lw_in2 (i := 123) (by decide +kernel) (by decide +kernel), lw_in2 (i := 124) (by decide +kernel) (by decide +kernel)⟩
set_option maxRecDepth 100000 in
theorem mv_X3_hasEmptyMessage : hMv yX3_hasEmptyMessage cX3_hasEmptyMessage 2 (some .boolean) 0 := ⟨⟨lw_in2 (i := 129) rfl rfl, ini_X3, by decide +kernel, by decide +kernel, by decide +kernel⟩, lw_in2 (i := 128) (by decide +kernel) (by decide +kernel), lw_mems (i := 1) (by decide +kernel) (by decide +kernel)⟩
set_option maxRecDepth 100000 in
theorem ms_X3_faultAt : hMs yX3_faultAt cX3_faultAt 4 (some .int) 4 := ⟨⟨lw_in2 (i := 132) rfl rfl, ini_X3, by decide +kernel, by decide +kernel, by decide +kernel⟩, lw_in2 (i := 131) (by decide +kernel) (by decide +kernel)⟩
set_option maxRecDepth 100000 in
theorem ms_X3_keyBit : hMs yX3_keyBit cX3_keyBit 2 (some .int) 2 := ⟨⟨lw_in2 (i := 135) rfl rfl, ini_X3, by decide +kernel, by decide +kernel, by decide +kernel⟩, lw_in2 (i := 134) (by decide +kernel) (by decide +kernel)⟩
set_option maxRecDepth 100000 in
theorem ms_X3_did : hMs yX3_did cX3_did 2 (some .boolean) 2 := ⟨⟨lw_in2 (i := 140) rfl rfl, ini_X3, by decide +kernel, by decide +kernel, by decide +kernel⟩, lw_in2 (i := 139) (by decide +kernel) (by decide +kernel)⟩
set_option maxRecDepth 100000 in
theorem ms_X3_sealsTooSoon : hMs yX3_sealsTooSoon cX3_sealsTooSoon 4 (some .boolean) 2 := ⟨⟨lw_in2 (i := 146) rfl rfl, ini_X3, by decide +kernel, by decide +kernel, by decide +kernel⟩, lw_in2 (i := 145) (by decide +kernel) (by decide +kernel)⟩
set_option maxRecDepth 100000 in
theorem mi_X4_init : hMi yX4_init cX4_init 2 1 := ⟨⟨lw_in1 (i := 35) rfl rfl, ini_X4, by decide +kernel, by decide +kernel, by decide +kernel⟩, rfl, lw_in1 (i := 34) (by decide +kernel) (by decide +kernel)⟩
set_option maxRecDepth 100000 in
theorem mv_X4_put : hMv yX4_put cX4_put 2 none 1 := ⟨⟨lw_in3 (i := 153) rfl rfl, ini_X4, by decide +kernel, by decide +kernel, by decide +kernel⟩, lw_in3 (i := 151) (by decide +kernel) (by decide +kernel), lw_in3 (i := 152) (by decide +kernel) (by decide +kernel)⟩
set_option maxRecDepth 100000 in
theorem mv_X4_putAll : hMv yX4_putAll cX4_putAll 5 none 3 := ⟨⟨lw_in3 (i := 169) rfl rfl, ini_X4, by decide +kernel, by decide +kernel, by decide +kernel⟩, lw_in3 (i := 167) (by decide +kernel) (by decide +kernel), lw_in3 (i := 168) (by decide +kernel) (by decide +kernel)⟩
set_option maxRecDepth 100000 in
theorem mv_X4_at : hMv yX4_at cX4_at 2 (some .int) 1 := ⟨⟨lw_in4 (i := 62) rfl rfl, ini_X4, by decide +kernel, by decide +kernel, by decide +kernel⟩, lw_in4 (i := 60) (by decide +kernel) (by decide +kernel), lw_in4 (i := 61) (by decide +kernel) (by decide +kernel)⟩
set_option maxRecDepth 100000 in
theorem mv_X4_addTo : hMv yX4_addTo cX4_addTo 4 (some .long) 1 := ⟨⟨lw_in4 (i := 138) rfl rfl, ini_X4, by decide +kernel, by decide +kernel, by decide +kernel⟩, lw_in4 (i := 136) (by decide +kernel) (by decide +kernel), lw_in4 (i := 137) (by decide +kernel) (by decide +kernel)⟩
set_option maxRecDepth 100000 in
theorem mi_X5_init : hMi yX5_init cX5_init 1 0 := ⟨⟨lw_in1 (i := 61) rfl rfl, ini_X5, by decide +kernel, by decide +kernel, by decide +kernel⟩, rfl, lw_in1 (i := 60) (by decide +kernel) (by decide +kernel)⟩
set_option maxRecDepth 100000 in
theorem mv_X5_begin : hMv yX5_begin cX5_begin 1 none 0 := ⟨⟨lw_in2 (i := 231) rfl rfl, ini_X5, by decide +kernel, by decide +kernel, by decide +kernel⟩, lw_in2 (i := 229) (by decide +kernel) (by decide +kernel), lw_in2 (i := 230) (by decide +kernel) (by decide +kernel)⟩
set_option maxRecDepth 100000 in
theorem mv_X5_add : hMv yX5_add cX5_add 5 none 3 := ⟨⟨lw_in3 (i := 136) rfl rfl, ini_X5, by decide +kernel, by decide +kernel, by decide +kernel⟩, lw_in3 (i := 134) (by decide +kernel) (by decide +kernel), lw_in3 (i := 135) (by decide +kernel) (by decide +kernel)⟩
set_option maxRecDepth 100000 in
theorem mv_X5_addNumber : hMv yX5_addNumber cX5_addNumber 3 none 1 := ⟨⟨lw_in3 (i := 0) rfl rfl, ini_X5, by decide +kernel, by decide +kernel, by decide +kernel⟩, lw_in2 (i := 238) (by decide +kernel) (by decide +kernel), lw_in2 (i := 239) (by decide +kernel) (by decide +kernel)⟩
set_option maxRecDepth 100000 in
theorem mv_X5_addByte : hMv yX5_addByte cX5_addByte 2 none 1 := ⟨⟨lw_in3 (i := 4) rfl rfl, ini_X5, by decide +kernel, by decide +kernel, by decide +kernel⟩, lw_in3 (i := 2) (by decide +kernel) (by decide +kernel), lw_in3 (i := 3) (by decide +kernel) (by decide +kernel)⟩
set_option maxRecDepth 100000 in
theorem mv_X5_finish : hMv yX5_finish cX5_finish 5 none 1 := ⟨⟨lw_in3 (i := 14) rfl rfl, ini_X5, by decide +kernel, by decide +kernel, by decide +kernel⟩, lw_in3 (i := 12) (by decide +kernel) (by decide +kernel), lw_in3 (i := 13) (by decide +kernel) (by decide +kernel)⟩
set_option maxRecDepth 100000 in
theorem mv_X5_addBlock : hMv yX5_addBlock cX5_addBlock 14 none 0 := ⟨⟨lw_in3 (i := 8) rfl rfl, ini_X5, by decide +kernel, by decide +kernel, by decide +kernel⟩, lw_in3 (i := 7) (by decide +kernel) (by decide +kernel), lw_mems (i := 2) (by decide +kernel) (by decide +kernel)⟩
set_option maxRecDepth 100000 in
theorem mi_X6_init : hMi yX6_init cX6_init 5 4 := ⟨⟨lw_in2 (i := 178) rfl rfl, ini_X6, by decide +kernel, by decide +kernel, by decide +kernel⟩, rfl, lw_in2 (i := 177) (by decide +kernel) (by decide +kernel)⟩
set_option maxRecDepth 100000 in
theorem mv_X6_isDone : hMv yX6_isDone cX6_isDone 1 (some .boolean) 0 := ⟨⟨lw_in3 (i := 161) rfl rfl, ini_X6, by decide +kernel, by decide +kernel, by decide +kernel⟩, lw_in3 (i := 159) (by decide +kernel) (by decide +kernel), lw_in3 (i := 160) (by decide +kernel) (by decide +kernel)⟩
set_option maxRecDepth 100000 in
theorem mv_X6_isNext : hMv yX6_isNext cX6_isNext 1 (some .boolean) 0 := ⟨⟨lw_in4 (i := 1) rfl rfl, ini_X6, by decide +kernel, by decide +kernel, by decide +kernel⟩, lw_in3 (i := 239) (by decide +kernel) (by decide +kernel), lw_in4 (i := 0) (by decide +kernel) (by decide +kernel)⟩
set_option maxRecDepth 100000 in
theorem mv_X6_leastLetter : hMv yX6_leastLetter cX6_leastLetter 6 (some .int) 0 := ⟨⟨lw_in4 (i := 48) rfl rfl, ini_X6, by decide +kernel, by decide +kernel, by decide +kernel⟩, lw_in4 (i := 46) (by decide +kernel) (by decide +kernel), lw_in4 (i := 47) (by decide +kernel) (by decide +kernel)⟩
set_option maxRecDepth 100000 in
theorem mv_X6_tell : hMv yX6_tell cX6_tell 2 (some .int) 1 := ⟨⟨lw_in4 (i := 105) rfl rfl, ini_X6, by decide +kernel, by decide +kernel, by decide +kernel⟩, lw_in4 (i := 103) (by decide +kernel) (by decide +kernel), lw_in4 (i := 104) (by decide +kernel) (by decide +kernel)⟩
set_option maxRecDepth 100000 in
theorem mi_X7_init : hMi yX7_init cX7_init 1 0 := ⟨⟨lw_in1 (i := 183) rfl rfl, ini_X7, by decide +kernel, by decide +kernel, by decide +kernel⟩, rfl, lw_in1 (i := 182) (by decide +kernel) (by decide +kernel)⟩
set_option maxRecDepth 100000 in
theorem mv_X7_copyFrom : hMv yX7_copyFrom cX7_copyFrom 2 none 1 := ⟨⟨lw_in4 (i := 70) rfl rfl, ini_X7, by decide +kernel, by decide +kernel, by decide +kernel⟩, lw_in4 (i := 68) (by decide +kernel) (by decide +kernel), lw_in4 (i := 69) (by decide +kernel) (by decide +kernel)⟩
set_option maxRecDepth 100000 in
theorem mv_X7_fits : hMv yX7_fits cX7_fits 2 (some .boolean) 1 := ⟨⟨lw_in4 (i := 114) rfl rfl, ini_X7, by decide +kernel, by decide +kernel, by decide +kernel⟩, lw_in4 (i := 112) (by decide +kernel) (by decide +kernel), lw_in4 (i := 113) (by decide +kernel) (by decide +kernel)⟩
set_option maxRecDepth 100000 in
theorem ms_X7_alike : hMs yX7_alike cX7_alike 3 (some .boolean) 2 := ⟨⟨lw_in4 (i := 117) rfl rfl, ini_X7, by decide +kernel, by decide +kernel, by decide +kernel⟩, lw_in4 (i := 116) (by decide +kernel) (by decide +kernel)⟩
set_option maxRecDepth 100000 in
theorem mi_X8_init : hMi yX8_init cX8_init 1 0 := ⟨⟨lw_in1 (i := 145) rfl rfl, ini_X8, by decide +kernel, by decide +kernel, by decide +kernel⟩, rfl, lw_in1 (i := 144) (by decide +kernel) (by decide +kernel)⟩
set_option maxRecDepth 100000 in
theorem mv_X8_begin : hMv yX8_begin cX8_begin 3 none 1 := ⟨⟨lw_in3 (i := 214) rfl rfl, ini_X8, by decide +kernel, by decide +kernel, by decide +kernel⟩, lw_in3 (i := 212) (by decide +kernel) (by decide +kernel), lw_in3 (i := 213) (by decide +kernel) (by decide +kernel)⟩
set_option maxRecDepth 100000 in
theorem mv_X8_addPadded : hMv yX8_addPadded cX8_addPadded 6 none 3 := ⟨⟨lw_in3 (i := 222) rfl rfl, ini_X8, by decide +kernel, by decide +kernel, by decide +kernel⟩, lw_in3 (i := 220) (by decide +kernel) (by decide +kernel), lw_in3 (i := 221) (by decide +kernel) (by decide +kernel)⟩
set_option maxRecDepth 100000 in
theorem mv_X8_addSizes : hMv yX8_addSizes cX8_addSizes 6 none 2 := ⟨⟨lw_in3 (i := 232) rfl rfl, ini_X8, by decide +kernel, by decide +kernel, by decide +kernel⟩, lw_in3 (i := 230) (by decide +kernel) (by decide +kernel), lw_in3 (i := 231) (by decide +kernel) (by decide +kernel)⟩
set_option maxRecDepth 100000 in
theorem mv_X8_finish : hMv yX8_finish cX8_finish 12 none 1 := ⟨⟨lw_in3 (i := 236) rfl rfl, ini_X8, by decide +kernel, by decide +kernel, by decide +kernel⟩, lw_in3 (i := 234) (by decide +kernel) (by decide +kernel), lw_in3 (i := 235) (by decide +kernel) (by decide +kernel)⟩
set_option maxRecDepth 100000 in
theorem ms_X8_clampOf : hMs yX8_clampOf cX8_clampOf 1 (some .int) 1 := ⟨⟨lw_in3 (i := 217) rfl rfl, ini_X8, by decide +kernel, by decide +kernel, by decide +kernel⟩, lw_in3 (i := 216) (by decide +kernel) (by decide +kernel)⟩
set_option maxRecDepth 100000 in
theorem mv_X8_addBlock : hMv yX8_addBlock cX8_addBlock 6 none 0 := ⟨⟨lw_in3 (i := 226) rfl rfl, ini_X8, by decide +kernel, by decide +kernel, by decide +kernel⟩, lw_in3 (i := 225) (by decide +kernel) (by decide +kernel), lw_mems (i := 14) (by decide +kernel) (by decide +kernel)⟩
set_option maxRecDepth 100000 in
theorem mi_X9_init : hMi yX9_init cX9_init 1 0 := ⟨⟨lw_in1 (i := 55) rfl rfl, ini_X9, by decide +kernel, by decide +kernel, by decide +kernel⟩, rfl, lw_in1 (i := 54) (by decide +kernel) (by decide +kernel)⟩
set_option maxRecDepth 100000 in
theorem mv_X9_secretOf : hMv yX9_secretOf cX9_secretOf 4 none 3 := ⟨⟨lw_in2 (i := 227) rfl rfl, ini_X9, by decide +kernel, by decide +kernel, by decide +kernel⟩, lw_in2 (i := 225) (by decide +kernel) (by decide +kernel), lw_in2 (i := 226) (by decide +kernel) (by decide +kernel)⟩
set_option maxRecDepth 100000 in
theorem mv_X9_publicOf : hMv yX9_publicOf cX9_publicOf 4 none 3 := ⟨⟨lw_in3 (i := 73) rfl rfl, ini_X9, by decide +kernel, by decide +kernel, by decide +kernel⟩, lw_in3 (i := 71) (by decide +kernel) (by decide +kernel), lw_in3 (i := 72) (by decide +kernel) (by decide +kernel)⟩
set_option maxRecDepth 100000 in
theorem mv_X9_giveKeys : hMv yX9_giveKeys cX9_giveKeys 4 none 3 := ⟨⟨lw_in2 (i := 223) rfl rfl, ini_X9, by decide +kernel, by decide +kernel, by decide +kernel⟩, lw_in2 (i := 221) (by decide +kernel) (by decide +kernel), lw_in2 (i := 222) (by decide +kernel) (by decide +kernel)⟩
set_option maxRecDepth 100000 in
theorem mv_X9_begin : hMv yX9_begin cX9_begin 4 none 1 := ⟨⟨lw_in3 (i := 77) rfl rfl, ini_X9, by decide +kernel, by decide +kernel, by decide +kernel⟩, lw_in3 (i := 75) (by decide +kernel) (by decide +kernel), lw_in3 (i := 76) (by decide +kernel) (by decide +kernel)⟩
set_option maxRecDepth 100000 in
theorem mv_X9_send : hMv yX9_send cX9_send 8 none 3 := ⟨⟨lw_in4 (i := 5) rfl rfl, ini_X9, by decide +kernel, by decide +kernel, by decide +kernel⟩, lw_in4 (i := 3) (by decide +kernel) (by decide +kernel), lw_in4 (i := 4) (by decide +kernel) (by decide +kernel)⟩
set_option maxRecDepth 100000 in
theorem mv_X9_take : hMv yX9_take cX9_take 9 (some .boolean) 3 := ⟨⟨lw_in4 (i := 66) rfl rfl, ini_X9, by decide +kernel, by decide +kernel, by decide +kernel⟩, lw_in4 (i := 64) (by decide +kernel) (by decide +kernel), lw_in4 (i := 65) (by decide +kernel) (by decide +kernel)⟩
set_option maxRecDepth 100000 in
theorem mv_X9_sendDone : hMv yX9_sendDone cX9_sendDone 4 none 3 := ⟨⟨lw_in3 (i := 165) rfl rfl, ini_X9, by decide +kernel, by decide +kernel, by decide +kernel⟩, lw_in3 (i := 163) (by decide +kernel) (by decide +kernel), lw_in3 (i := 164) (by decide +kernel) (by decide +kernel)⟩
set_option maxRecDepth 100000 in
theorem mv_X9_takeDone : hMv yX9_takeDone cX9_takeDone 5 (some .boolean) 3 := ⟨⟨lw_in4 (i := 54) rfl rfl, ini_X9, by decide +kernel, by decide +kernel, by decide +kernel⟩, lw_in4 (i := 52) (by decide +kernel) (by decide +kernel), lw_in4 (i := 53) (by decide +kernel) (by decide +kernel)⟩
set_option maxRecDepth 100000 in
theorem mv_X9_sendE : hMv yX9_sendE cX9_sendE 4 none 2 := ⟨⟨lw_in4 (i := 11) rfl rfl, ini_X9, by decide +kernel, by decide +kernel, by decide +kernel⟩, lw_in4 (i := 10) (by decide +kernel) (by decide +kernel), lw_mems (i := 15) (by decide +kernel) (by decide +kernel)⟩
set_option maxRecDepth 100000 in
theorem mv_X9_takeE : hMv yX9_takeE cX9_takeE 3 none 2 := ⟨⟨lw_in4 (i := 75) rfl rfl, ini_X9, by decide +kernel, by decide +kernel, by decide +kernel⟩, lw_in4 (i := 74) (by decide +kernel) (by decide +kernel), lw_mems (i := 21) (by decide +kernel) (by decide +kernel)⟩
set_option maxRecDepth 100000 in
theorem mv_X9_mixHash : hMv yX9_mixHash cX9_mixHash 5 none 4 := ⟨⟨lw_in3 (i := 132) rfl rfl, ini_X9, by decide +kernel, by decide +kernel, by decide +kernel⟩, lw_in3 (i := 131) (by decide +kernel) (by decide +kernel), lw_mems (i := 5) (by decide +kernel) (by decide +kernel)⟩
set_option maxRecDepth 100000 in
theorem mv_X9_mixDh : hMv yX9_mixDh cX9_mixDh 10 none 3 := ⟨⟨lw_in4 (i := 19) rfl rfl, ini_X9, by decide +kernel, by decide +kernel, by decide +kernel⟩, lw_in4 (i := 18) (by decide +kernel) (by decide +kernel), lw_mems (i := 17) (by decide +kernel) (by decide +kernel)⟩
set_option maxRecDepth 100000 in
theorem mv_X9_seal : hMv yX9_seal cX9_seal 6 none 4 := ⟨⟨lw_in4 (i := 15) rfl rfl, ini_X9, by decide +kernel, by decide +kernel, by decide +kernel⟩, lw_in4 (i := 14) (by decide +kernel) (by decide +kernel), lw_mems (i := 16) (by decide +kernel) (by decide +kernel)⟩
set_option maxRecDepth 100000 in
theorem mv_X9_open : hMv yX9_open cX9_open 6 (some .boolean) 5 := ⟨⟨lw_in4 (i := 80) rfl rfl, ini_X9, by decide +kernel, by decide +kernel, by decide +kernel⟩, lw_in4 (i := 79) (by decide +kernel) (by decide +kernel), lw_mems (i := 22) (by decide +kernel) (by decide +kernel)⟩
set_option maxRecDepth 100000 in
theorem mv_X9_endMessage : hMv yX9_endMessage cX9_endMessage 5 none 2 := ⟨⟨lw_in4 (i := 40) rfl rfl, ini_X9, by decide +kernel, by decide +kernel, by decide +kernel⟩, lw_in4 (i := 39) (by decide +kernel) (by decide +kernel), lw_mems (i := 20) (by decide +kernel) (by decide +kernel)⟩
set_option maxRecDepth 100000 in
theorem mi_X10_init : hMi yX10_init cX10_init 1 0 := ⟨⟨lw_in1 (i := 23) rfl rfl, ini_X10, by decide +kernel, by decide +kernel, by decide +kernel⟩, rfl, lw_in1 (i := 22) (by decide +kernel) (by decide +kernel)⟩
set_option maxRecDepth 100000 in
theorem mv_X10_pattern : hMv yX10_pattern cX10_pattern 3 (some .int) 2 := ⟨⟨lw_in2 (i := 68) rfl rfl, ini_X10, by decide +kernel, by decide +kernel, by decide +kernel⟩, lw_in2 (i := 66) (by decide +kernel) (by decide +kernel), lw_in2 (i := 67) (by decide +kernel) (by decide +kernel)⟩
set_option maxRecDepth 100000 in
theorem mv_X10_message : hMv yX10_message cX10_message 3 (some .int) 1 := ⟨⟨lw_in2 (i := 101) rfl rfl, ini_X10, by decide +kernel, by decide +kernel, by decide +kernel⟩, lw_in2 (i := 99) (by decide +kernel) (by decide +kernel), lw_in2 (i := 100) (by decide +kernel) (by decide +kernel)⟩
set_option maxRecDepth 100000 in
theorem mv_X10_token : hMv yX10_token cX10_token 4 (some .int) 2 := ⟨⟨lw_in2 (i := 113) rfl rfl, ini_X10, by decide +kernel, by decide +kernel, by decide +kernel⟩, lw_in2 (i := 111) (by decide +kernel) (by decide +kernel), lw_in2 (i := 112) (by decide +kernel) (by decide +kernel)⟩
set_option maxRecDepth 100000 in
theorem mv_X10_fault : hMv yX10_fault cX10_fault 3 (some .int) 1 := ⟨⟨lw_in2 (i := 121) rfl rfl, ini_X10, by decide +kernel, by decide +kernel, by decide +kernel⟩, lw_in2 (i := 119) (by decide +kernel) (by decide +kernel), lw_in2 (i := 120) (by decide +kernel) (by decide +kernel)⟩
set_option maxRecDepth 100000 in
theorem mv_X10_told : hMv yX10_told cX10_told 4 (some .int) 2 := ⟨⟨lw_in2 (i := 150) rfl rfl, ini_X10, by decide +kernel, by decide +kernel, by decide +kernel⟩, lw_in2 (i := 148) (by decide +kernel) (by decide +kernel), lw_in2 (i := 149) (by decide +kernel) (by decide +kernel)⟩
set_option maxRecDepth 100000 in
theorem mv_X10_side : hMv yX10_side cX10_side 8 (some .int) 5 := ⟨⟨lw_in2 (i := 166) rfl rfl, ini_X10, by decide +kernel, by decide +kernel, by decide +kernel⟩, lw_in2 (i := 164) (by decide +kernel) (by decide +kernel), lw_in2 (i := 165) (by decide +kernel) (by decide +kernel)⟩
set_option maxRecDepth 100000 in
theorem mv_X10_again : hMv yX10_again cX10_again 4 (some .int) 1 := ⟨⟨lw_in3 (i := 141) rfl rfl, ini_X10, by decide +kernel, by decide +kernel, by decide +kernel⟩, lw_in3 (i := 139) (by decide +kernel) (by decide +kernel), lw_in3 (i := 140) (by decide +kernel) (by decide +kernel)⟩
set_option maxRecDepth 100000 in
theorem mv_X10_feed : hMv yX10_feed cX10_feed 5 (some .int) 2 := ⟨⟨lw_in3 (i := 149) rfl rfl, ini_X10, by decide +kernel, by decide +kernel, by decide +kernel⟩, lw_in3 (i := 147) (by decide +kernel) (by decide +kernel), lw_in3 (i := 148) (by decide +kernel) (by decide +kernel)⟩
set_option maxRecDepth 100000 in
theorem mv_X10_write : hMv yX10_write cX10_write 3 (some .int) 1 := ⟨⟨lw_in3 (i := 157) rfl rfl, ini_X10, by decide +kernel, by decide +kernel, by decide +kernel⟩, lw_in3 (i := 155) (by decide +kernel) (by decide +kernel), lw_in3 (i := 156) (by decide +kernel) (by decide +kernel)⟩
set_option maxRecDepth 100000 in
theorem mv_X10_read : hMv yX10_read cX10_read 4 (some .int) 1 := ⟨⟨lw_in4 (i := 44) rfl rfl, ini_X10, by decide +kernel, by decide +kernel, by decide +kernel⟩, lw_in4 (i := 42) (by decide +kernel) (by decide +kernel), lw_in4 (i := 43) (by decide +kernel) (by decide +kernel)⟩
set_option maxRecDepth 100000 in
theorem mv_X10_alter : hMv yX10_alter cX10_alter 4 (some .int) 2 := ⟨⟨lw_in4 (i := 84) rfl rfl, ini_X10, by decide +kernel, by decide +kernel, by decide +kernel⟩, lw_in4 (i := 82) (by decide +kernel) (by decide +kernel), lw_in4 (i := 83) (by decide +kernel) (by decide +kernel)⟩
set_option maxRecDepth 100000 in
theorem mv_X10_cut : hMv yX10_cut cX10_cut 3 (some .int) 1 := ⟨⟨lw_in4 (i := 88) rfl rfl, ini_X10, by decide +kernel, by decide +kernel, by decide +kernel⟩, lw_in4 (i := 86) (by decide +kernel) (by decide +kernel), lw_in4 (i := 87) (by decide +kernel) (by decide +kernel)⟩
set_option maxRecDepth 100000 in
theorem mv_X10_byteOf : hMv yX10_byteOf cX10_byteOf 3 (some .int) 2 := ⟨⟨lw_in4 (i := 92) rfl rfl, ini_X10, by decide +kernel, by decide +kernel, by decide +kernel⟩, lw_in4 (i := 90) (by decide +kernel) (by decide +kernel), lw_in4 (i := 91) (by decide +kernel) (by decide +kernel)⟩
set_option maxRecDepth 100000 in
theorem mv_X10_hash : hMv yX10_hash cX10_hash 4 (some .int) 2 := ⟨⟨lw_in4 (i := 97) rfl rfl, ini_X10, by decide +kernel, by decide +kernel, by decide +kernel⟩, lw_in4 (i := 95) (by decide +kernel) (by decide +kernel), lw_in4 (i := 96) (by decide +kernel) (by decide +kernel)⟩
set_option maxRecDepth 100000 in
theorem mv_X10_about : hMv yX10_about cX10_about 4 (some .int) 2 := ⟨⟨lw_in4 (i := 101) rfl rfl, ini_X10, by decide +kernel, by decide +kernel, by decide +kernel⟩, lw_in4 (i := 99) (by decide +kernel) (by decide +kernel), lw_in4 (i := 100) (by decide +kernel) (by decide +kernel)⟩
set_option maxRecDepth 100000 in
theorem mv_X10_same : hMv yX10_same cX10_same 5 (some .int) 2 := ⟨⟨lw_in4 (i := 110) rfl rfl, ini_X10, by decide +kernel, by decide +kernel, by decide +kernel⟩, lw_in4 (i := 108) (by decide +kernel) (by decide +kernel), lw_in4 (i := 109) (by decide +kernel) (by decide +kernel)⟩
set_option maxRecDepth 100000 in
theorem mv_X10_key : hMv yX10_key cX10_key 4 (some .int) 3 := ⟨⟨lw_in4 (i := 121) rfl rfl, ini_X10, by decide +kernel, by decide +kernel, by decide +kernel⟩, lw_in4 (i := 119) (by decide +kernel) (by decide +kernel), lw_in4 (i := 120) (by decide +kernel) (by decide +kernel)⟩
set_option maxRecDepth 100000 in
theorem mv_X10_count : hMv yX10_count cX10_count 2 (some .int) 1 := ⟨⟨lw_in4 (i := 126) rfl rfl, ini_X10, by decide +kernel, by decide +kernel, by decide +kernel⟩, lw_in4 (i := 124) (by decide +kernel) (by decide +kernel), lw_in4 (i := 125) (by decide +kernel) (by decide +kernel)⟩
set_option maxRecDepth 100000 in
theorem mv_X10_digest : hMv yX10_digest cX10_digest 5 (some .long) 0 := ⟨⟨lw_in4 (i := 130) rfl rfl, ini_X10, by decide +kernel, by decide +kernel, by decide +kernel⟩, lw_in4 (i := 128) (by decide +kernel) (by decide +kernel), lw_in4 (i := 129) (by decide +kernel) (by decide +kernel)⟩
set_option maxRecDepth 100000 in
theorem mv_X10_patternAt : hMv yX10_patternAt cX10_patternAt 2 (some (.object "StepShake$Pattern")) 1 := ⟨⟨lw_in2 (i := 105) rfl rfl, ini_X10, by decide +kernel, by decide +kernel, by decide +kernel⟩, lw_in2 (i := 104) (by decide +kernel) (by decide +kernel), lw_mems (i := 0) (by decide +kernel) (by decide +kernel)⟩
set_option maxRecDepth 100000 in
theorem mv_X10_sideAt : hMv yX10_sideAt cX10_sideAt 2 (some (.object "StepShake$Side")) 1 := ⟨⟨lw_in3 (i := 145) rfl rfl, ini_X10, by decide +kernel, by decide +kernel, by decide +kernel⟩, lw_in3 (i := 144) (by decide +kernel) (by decide +kernel), lw_mems (i := 6) (by decide +kernel) (by decide +kernel)⟩
set_option maxRecDepth 100000 in
theorem ms_X10_bitsOf : hMs yX10_bitsOf cX10_bitsOf 6 (some .long) 3 := ⟨⟨lw_in3 (i := 33) rfl rfl, ini_X10, by decide +kernel, by decide +kernel, by decide +kernel⟩, lw_in3 (i := 32) (by decide +kernel) (by decide +kernel)⟩
set_option maxRecDepth 100000 in
theorem ms_X10_copyKey : hMs yX10_copyKey cX10_copyKey 2 none 2 := ⟨⟨lw_in3 (i := 23) rfl rfl, ini_X10, by decide +kernel, by decide +kernel, by decide +kernel⟩, lw_in3 (i := 22) (by decide +kernel) (by decide +kernel)⟩
set_option maxRecDepth 100000 in
theorem mi_X11_init : hMi yX11_init cX11_init 1 0 := ⟨⟨lw_in4 (i := 144) rfl rfl, ini_X11, by decide +kernel, by decide +kernel, by decide +kernel⟩, rfl, lw_in4 (i := 143) (by decide +kernel) (by decide +kernel)⟩
set_option maxRecDepth 100000 in
theorem ms_X11_in : hMs yX11_in cX11_in 3 (some .boolean) 3 := ⟨⟨lw_in5 (i := 183) rfl rfl, ini_X11, by decide +kernel, by decide +kernel, by decide +kernel⟩, lw_in5 (i := 182) (by decide +kernel) (by decide +kernel)⟩
set_option maxRecDepth 100000 in
theorem ms_X11_copy : hMs yX11_copy cX11_copy 6 none 5 := ⟨⟨lw_in6 (i := 13) rfl rfl, ini_X11, by decide +kernel, by decide +kernel, by decide +kernel⟩, lw_in6 (i := 12) (by decide +kernel) (by decide +kernel)⟩
set_option maxRecDepth 100000 in
theorem mv_X11_padded : hMv yX11_padded cX11_padded 3 (some .int) 2 := ⟨⟨lw_in5 (i := 235) rfl rfl, ini_X11, by decide +kernel, by decide +kernel, by decide +kernel⟩, lw_in5 (i := 234) (by decide +kernel) (by decide +kernel), lw_mems (i := 32) (by decide +kernel) (by decide +kernel)⟩
set_option maxRecDepth 100000 in
theorem ms_X11_turned : hMs yX11_turned cX11_turned 2 (some .int) 2 := ⟨⟨lw_in5 (i := 238) rfl rfl, ini_X11, by decide +kernel, by decide +kernel, by decide +kernel⟩, lw_in5 (i := 237) (by decide +kernel) (by decide +kernel)⟩
set_option maxRecDepth 100000 in
theorem mv_X11_block : hMv yX11_block cX11_block 14 none 2 := ⟨⟨lw_in5 (i := 231) rfl rfl, ini_X11, by decide +kernel, by decide +kernel, by decide +kernel⟩, lw_in5 (i := 230) (by decide +kernel) (by decide +kernel), lw_mems (i := 31) (by decide +kernel) (by decide +kernel)⟩
set_option maxRecDepth 100000 in
theorem mv_X11_hashes : hMv yX11_hashes cX11_hashes 5 none 2 := ⟨⟨lw_in5 (i := 227) rfl rfl, ini_X11, by decide +kernel, by decide +kernel, by decide +kernel⟩, lw_in5 (i := 226) (by decide +kernel) (by decide +kernel), lw_mems (i := 30) (by decide +kernel) (by decide +kernel)⟩
set_option maxRecDepth 100000 in
theorem mv_X11_lays : hMv yX11_lays cX11_lays 4 none 3 := ⟨⟨lw_in6 (i := 71) rfl rfl, ini_X11, by decide +kernel, by decide +kernel, by decide +kernel⟩, lw_in6 (i := 70) (by decide +kernel) (by decide +kernel), lw_mems (i := 47) (by decide +kernel) (by decide +kernel)⟩
set_option maxRecDepth 100000 in
theorem mv_X11_mac : hMv yX11_mac cX11_mac 9 none 7 := ⟨⟨lw_in6 (i := 147) rfl rfl, ini_X11, by decide +kernel, by decide +kernel, by decide +kernel⟩, lw_in6 (i := 146) (by decide +kernel) (by decide +kernel), lw_mems (i := 62) (by decide +kernel) (by decide +kernel)⟩
set_option maxRecDepth 100000 in
theorem mv_X11_keys : hMv yX11_keys cX11_keys 5 none 4 := ⟨⟨lw_in6 (i := 143) rfl rfl, ini_X11, by decide +kernel, by decide +kernel, by decide +kernel⟩, lw_in6 (i := 142) (by decide +kernel) (by decide +kernel), lw_mems (i := 61) (by decide +kernel) (by decide +kernel)⟩
set_option maxRecDepth 100000 in
theorem mv_X11_secret : hMv yX11_secret cX11_secret 6 none 4 := ⟨⟨lw_in5 (i := 223) rfl rfl, ini_X11, by decide +kernel, by decide +kernel, by decide +kernel⟩, lw_in5 (i := 222) (by decide +kernel) (by decide +kernel), lw_mems (i := 29) (by decide +kernel) (by decide +kernel)⟩
set_option maxRecDepth 100000 in
theorem mv_X11_carry : hMv yX11_carry cX11_carry 5 none 1 := ⟨⟨lw_in6 (i := 48) rfl rfl, ini_X11, by decide +kernel, by decide +kernel, by decide +kernel⟩, lw_in6 (i := 47) (by decide +kernel) (by decide +kernel), lw_mems (i := 43) (by decide +kernel) (by decide +kernel)⟩
set_option maxRecDepth 100000 in
theorem mv_X11_plus : hMv yX11_plus cX11_plus 5 none 3 := ⟨⟨lw_in6 (i := 35) rfl rfl, ini_X11, by decide +kernel, by decide +kernel, by decide +kernel⟩, lw_in6 (i := 34) (by decide +kernel) (by decide +kernel), lw_mems (i := 40) (by decide +kernel) (by decide +kernel)⟩
set_option maxRecDepth 100000 in
theorem mv_X11_minus : hMv yX11_minus cX11_minus 5 none 3 := ⟨⟨lw_in6 (i := 39) rfl rfl, ini_X11, by decide +kernel, by decide +kernel, by decide +kernel⟩, lw_in6 (i := 38) (by decide +kernel) (by decide +kernel), lw_mems (i := 41) (by decide +kernel) (by decide +kernel)⟩
set_option maxRecDepth 100000 in
theorem mv_X11_times : hMv yX11_times cX11_times 6 none 3 := ⟨⟨lw_in6 (i := 43) rfl rfl, ini_X11, by decide +kernel, by decide +kernel, by decide +kernel⟩, lw_in6 (i := 42) (by decide +kernel) (by decide +kernel), lw_mems (i := 42) (by decide +kernel) (by decide +kernel)⟩
set_option maxRecDepth 100000 in
theorem mv_X11_exchange : hMv yX11_exchange cX11_exchange 7 none 3 := ⟨⟨lw_in6 (i := 27) rfl rfl, ini_X11, by decide +kernel, by decide +kernel, by decide +kernel⟩, lw_in6 (i := 26) (by decide +kernel) (by decide +kernel), lw_mems (i := 38) (by decide +kernel) (by decide +kernel)⟩
set_option maxRecDepth 100000 in
theorem mv_X11_sets : hMv yX11_sets cX11_sets 5 none 2 := ⟨⟨lw_in6 (i := 19) rfl rfl, ini_X11, by decide +kernel, by decide +kernel, by decide +kernel⟩, lw_in6 (i := 18) (by decide +kernel) (by decide +kernel), lw_mems (i := 36) (by decide +kernel) (by decide +kernel)⟩
set_option maxRecDepth 100000 in
theorem mv_X11_copies : hMv yX11_copies cX11_copies 4 none 2 := ⟨⟨lw_in6 (i := 23) rfl rfl, ini_X11, by decide +kernel, by decide +kernel, by decide +kernel⟩, lw_in6 (i := 22) (by decide +kernel) (by decide +kernel), lw_mems (i := 37) (by decide +kernel) (by decide +kernel)⟩
set_option maxRecDepth 100000 in
theorem mv_X11_ladderStep : hMv yX11_ladderStep cX11_ladderStep 1 none 0 := ⟨⟨lw_in6 (i := 31) rfl rfl, ini_X11, by decide +kernel, by decide +kernel, by decide +kernel⟩, lw_in6 (i := 30) (by decide +kernel) (by decide +kernel), lw_mems (i := 39) (by decide +kernel) (by decide +kernel)⟩
set_option maxRecDepth 100000 in
theorem mv_X11_invert : hMv yX11_invert cX11_invert 2 none 0 := ⟨⟨lw_in6 (i := 53) rfl rfl, ini_X11, by decide +kernel, by decide +kernel, by decide +kernel⟩, lw_in6 (i := 52) (by decide +kernel) (by decide +kernel), lw_mems (i := 44) (by decide +kernel) (by decide +kernel)⟩
set_option maxRecDepth 100000 in
theorem mv_X11_packs : hMv yX11_packs cX11_packs 10 none 3 := ⟨⟨lw_in6 (i := 57) rfl rfl, ini_X11, by decide +kernel, by decide +kernel, by decide +kernel⟩, lw_in6 (i := 56) (by decide +kernel) (by decide +kernel), lw_mems (i := 45) (by decide +kernel) (by decide +kernel)⟩
set_option maxRecDepth 100000 in
theorem mv_X11_dh : hMv yX11_dh cX11_dh 9 none 6 := ⟨⟨lw_in6 (i := 10) rfl rfl, ini_X11, by decide +kernel, by decide +kernel, by decide +kernel⟩, lw_in6 (i := 9) (by decide +kernel) (by decide +kernel), lw_mems (i := 35) (by decide +kernel) (by decide +kernel)⟩
set_option maxRecDepth 100000 in
theorem mv_X11_publicOf : hMv yX11_publicOf cX11_publicOf 5 none 4 := ⟨⟨lw_in6 (i := 6) rfl rfl, ini_X11, by decide +kernel, by decide +kernel, by decide +kernel⟩, lw_in6 (i := 5) (by decide +kernel) (by decide +kernel), lw_mems (i := 34) (by decide +kernel) (by decide +kernel)⟩
set_option maxRecDepth 100000 in
theorem mv_X11_quarter : hMv yX11_quarter cX11_quarter 5 none 4 := ⟨⟨lw_in6 (i := 103) rfl rfl, ini_X11, by decide +kernel, by decide +kernel, by decide +kernel⟩, lw_in6 (i := 102) (by decide +kernel) (by decide +kernel), lw_mems (i := 51) (by decide +kernel) (by decide +kernel)⟩
set_option maxRecDepth 100000 in
theorem mv_X11_streams : hMv yX11_streams cX11_streams 7 none 4 := ⟨⟨lw_in6 (i := 95) rfl rfl, ini_X11, by decide +kernel, by decide +kernel, by decide +kernel⟩, lw_in6 (i := 94) (by decide +kernel) (by decide +kernel), lw_mems (i := 50) (by decide +kernel) (by decide +kernel)⟩
set_option maxRecDepth 100000 in
theorem mv_X11_adds : hMv yX11_adds cX11_adds 3 none 0 := ⟨⟨lw_in6 (i := 119) rfl rfl, ini_X11, by decide +kernel, by decide +kernel, by decide +kernel⟩, lw_in6 (i := 118) (by decide +kernel) (by decide +kernel), lw_mems (i := 55) (by decide +kernel) (by decide +kernel)⟩
set_option maxRecDepth 100000 in
theorem mv_X11_multiplies : hMv yX11_multiplies cX11_multiplies 4 none 0 := ⟨⟨lw_in6 (i := 123) rfl rfl, ini_X11, by decide +kernel, by decide +kernel, by decide +kernel⟩, lw_in6 (i := 122) (by decide +kernel) (by decide +kernel), lw_mems (i := 56) (by decide +kernel) (by decide +kernel)⟩
set_option maxRecDepth 100000 in
theorem mv_X11_tags : hMv yX11_tags cX11_tags 4 none 1 := ⟨⟨lw_in6 (i := 115) rfl rfl, ini_X11, by decide +kernel, by decide +kernel, by decide +kernel⟩, lw_in6 (i := 114) (by decide +kernel) (by decide +kernel), lw_mems (i := 54) (by decide +kernel) (by decide +kernel)⟩
set_option maxRecDepth 100000 in
theorem mv_X11_tellsLong : hMv yX11_tellsLong cX11_tellsLong 4 none 2 := ⟨⟨lw_in6 (i := 111) rfl rfl, ini_X11, by decide +kernel, by decide +kernel, by decide +kernel⟩, lw_in6 (i := 110) (by decide +kernel) (by decide +kernel), lw_mems (i := 53) (by decide +kernel) (by decide +kernel)⟩
set_option maxRecDepth 100000 in
theorem mv_X11_tagOf : hMv yX11_tagOf cX11_tagOf 12 none 9 := ⟨⟨lw_in6 (i := 107) rfl rfl, ini_X11, by decide +kernel, by decide +kernel, by decide +kernel⟩, lw_in6 (i := 106) (by decide +kernel) (by decide +kernel), lw_mems (i := 52) (by decide +kernel) (by decide +kernel)⟩
set_option maxRecDepth 100000 in
theorem mv_X11_ciphers : hMv yX11_ciphers cX11_ciphers 8 none 6 := ⟨⟨lw_in6 (i := 91) rfl rfl, ini_X11, by decide +kernel, by decide +kernel, by decide +kernel⟩, lw_in6 (i := 90) (by decide +kernel) (by decide +kernel), lw_mems (i := 49) (by decide +kernel) (by decide +kernel)⟩
set_option maxRecDepth 100000 in
theorem mv_X11_pattern : hMv yX11_pattern cX11_pattern 3 (some .int) 2 := ⟨⟨lw_in5 (i := 172) rfl rfl, ini_X11, by decide +kernel, by decide +kernel, by decide +kernel⟩, lw_in5 (i := 170) (by decide +kernel) (by decide +kernel), lw_in5 (i := 171) (by decide +kernel) (by decide +kernel)⟩
set_option maxRecDepth 100000 in
theorem mv_X11_isPattern : hMv yX11_isPattern cX11_isPattern 2 (some .boolean) 1 := ⟨⟨lw_in5 (i := 180) rfl rfl, ini_X11, by decide +kernel, by decide +kernel, by decide +kernel⟩, lw_in5 (i := 179) (by decide +kernel) (by decide +kernel), lw_mems (i := 23) (by decide +kernel) (by decide +kernel)⟩
set_option maxRecDepth 100000 in
theorem mv_X11_isUsed : hMv yX11_isUsed cX11_isUsed 3 (some .boolean) 1 := ⟨⟨lw_in5 (i := 187) rfl rfl, ini_X11, by decide +kernel, by decide +kernel, by decide +kernel⟩, lw_in5 (i := 186) (by decide +kernel) (by decide +kernel), lw_mems (i := 24) (by decide +kernel) (by decide +kernel)⟩
set_option maxRecDepth 100000 in
theorem mv_X11_message : hMv yX11_message cX11_message 2 (some .int) 1 := ⟨⟨lw_in5 (i := 176) rfl rfl, ini_X11, by decide +kernel, by decide +kernel, by decide +kernel⟩, lw_in5 (i := 174) (by decide +kernel) (by decide +kernel), lw_in5 (i := 175) (by decide +kernel) (by decide +kernel)⟩
set_option maxRecDepth 100000 in
theorem mv_X11_token : hMv yX11_token cX11_token 4 (some .int) 2 := ⟨⟨lw_in5 (i := 191) rfl rfl, ini_X11, by decide +kernel, by decide +kernel, by decide +kernel⟩, lw_in5 (i := 189) (by decide +kernel) (by decide +kernel), lw_in5 (i := 190) (by decide +kernel) (by decide +kernel)⟩
set_option maxRecDepth 100000 in
theorem mv_X11_seals : hMv yX11_seals cX11_seals 3 none 1 := ⟨⟨lw_in5 (i := 207) rfl rfl, ini_X11, by decide +kernel, by decide +kernel, by decide +kernel⟩, lw_in5 (i := 206) (by decide +kernel) (by decide +kernel), lw_mems (i := 27) (by decide +kernel) (by decide +kernel)⟩
set_option maxRecDepth 100000 in
theorem mv_X11_judges : hMv yX11_judges cX11_judges 5 none 2 := ⟨⟨lw_in5 (i := 203) rfl rfl, ini_X11, by decide +kernel, by decide +kernel, by decide +kernel⟩, lw_in5 (i := 202) (by decide +kernel) (by decide +kernel), lw_mems (i := 26) (by decide +kernel) (by decide +kernel)⟩
set_option maxRecDepth 100000 in
theorem mv_X11_faultOf : hMv yX11_faultOf cX11_faultOf 5 (some .int) 1 := ⟨⟨lw_in5 (i := 199) rfl rfl, ini_X11, by decide +kernel, by decide +kernel, by decide +kernel⟩, lw_in5 (i := 198) (by decide +kernel) (by decide +kernel), lw_mems (i := 25) (by decide +kernel) (by decide +kernel)⟩
set_option maxRecDepth 100000 in
theorem mv_X11_fault : hMv yX11_fault cX11_fault 2 (some .int) 1 := ⟨⟨lw_in5 (i := 195) rfl rfl, ini_X11, by decide +kernel, by decide +kernel, by decide +kernel⟩, lw_in5 (i := 193) (by decide +kernel) (by decide +kernel), lw_in5 (i := 194) (by decide +kernel) (by decide +kernel)⟩
set_option maxRecDepth 100000 in
theorem mv_X11_told : hMv yX11_told cX11_told 6 (some .int) 2 := ⟨⟨lw_in5 (i := 211) rfl rfl, ini_X11, by decide +kernel, by decide +kernel, by decide +kernel⟩, lw_in5 (i := 209) (by decide +kernel) (by decide +kernel), lw_in5 (i := 210) (by decide +kernel) (by decide +kernel)⟩
set_option maxRecDepth 100000 in
theorem mv_X11_isSide : hMv yX11_isSide cX11_isSide 2 (some .boolean) 1 := ⟨⟨lw_in6 (i := 79) rfl rfl, ini_X11, by decide +kernel, by decide +kernel, by decide +kernel⟩, lw_in6 (i := 78) (by decide +kernel) (by decide +kernel), lw_mems (i := 48) (by decide +kernel) (by decide +kernel)⟩
set_option maxRecDepth 100000 in
theorem mv_X11_copySide : hMv yX11_copySide cX11_copySide 5 none 2 := ⟨⟨lw_in6 (i := 167) rfl rfl, ini_X11, by decide +kernel, by decide +kernel, by decide +kernel⟩, lw_in6 (i := 166) (by decide +kernel) (by decide +kernel), lw_mems (i := 66) (by decide +kernel) (by decide +kernel)⟩
set_option maxRecDepth 100000 in
theorem mv_X11_mixHash : hMv yX11_mixHash cX11_mixHash 5 none 4 := ⟨⟨lw_in6 (i := 67) rfl rfl, ini_X11, by decide +kernel, by decide +kernel, by decide +kernel⟩, lw_in6 (i := 66) (by decide +kernel) (by decide +kernel), lw_mems (i := 46) (by decide +kernel) (by decide +kernel)⟩
set_option maxRecDepth 100000 in
theorem mv_X11_mixKey : hMv yX11_mixKey cX11_mixKey 2 none 1 := ⟨⟨lw_in6 (i := 139) rfl rfl, ini_X11, by decide +kernel, by decide +kernel, by decide +kernel⟩, lw_in6 (i := 138) (by decide +kernel) (by decide +kernel), lw_mems (i := 60) (by decide +kernel) (by decide +kernel)⟩
set_option maxRecDepth 100000 in
theorem ms_X11_nameByte : hMs yX11_nameByte cX11_nameByte 1 (some .int) 1 := ⟨⟨lw_in6 (i := 63) rfl rfl, ini_X11, by decide +kernel, by decide +kernel, by decide +kernel⟩, lw_in6 (i := 62) (by decide +kernel) (by decide +kernel)⟩
set_option maxRecDepth 100000 in
theorem mv_X11_begins : hMv yX11_begins cX11_begins 3 none 1 := ⟨⟨lw_in6 (i := 2) rfl rfl, ini_X11, by decide +kernel, by decide +kernel, by decide +kernel⟩, lw_in6 (i := 1) (by decide +kernel) (by decide +kernel), lw_mems (i := 33) (by decide +kernel) (by decide +kernel)⟩
set_option maxRecDepth 100000 in
theorem mv_X11_sendsS : hMv yX11_sendsS cX11_sendsS 6 (some .boolean) 2 := ⟨⟨lw_in5 (i := 219) rfl rfl, ini_X11, by decide +kernel, by decide +kernel, by decide +kernel⟩, lw_in5 (i := 218) (by decide +kernel) (by decide +kernel), lw_mems (i := 28) (by decide +kernel) (by decide +kernel)⟩
set_option maxRecDepth 100000 in
theorem mv_X11_side : hMv yX11_side cX11_side 8 (some .int) 5 := ⟨⟨lw_in5 (i := 215) rfl rfl, ini_X11, by decide +kernel, by decide +kernel, by decide +kernel⟩, lw_in5 (i := 213) (by decide +kernel) (by decide +kernel), lw_in5 (i := 214) (by decide +kernel) (by decide +kernel)⟩
set_option maxRecDepth 100000 in
theorem mv_X11_again : hMv yX11_again cX11_again 3 (some .int) 1 := ⟨⟨lw_in6 (i := 75) rfl rfl, ini_X11, by decide +kernel, by decide +kernel, by decide +kernel⟩, lw_in6 (i := 73) (by decide +kernel) (by decide +kernel), lw_in6 (i := 74) (by decide +kernel) (by decide +kernel)⟩
set_option maxRecDepth 100000 in
theorem mv_X11_feed : hMv yX11_feed cX11_feed 5 (some .int) 2 := ⟨⟨lw_in6 (i := 83) rfl rfl, ini_X11, by decide +kernel, by decide +kernel, by decide +kernel⟩, lw_in6 (i := 81) (by decide +kernel) (by decide +kernel), lw_in6 (i := 82) (by decide +kernel) (by decide +kernel)⟩
set_option maxRecDepth 100000 in
theorem mv_X11_shares : hMv yX11_shares cX11_shares 8 none 2 := ⟨⟨lw_in6 (i := 135) rfl rfl, ini_X11, by decide +kernel, by decide +kernel, by decide +kernel⟩, lw_in6 (i := 134) (by decide +kernel) (by decide +kernel), lw_mems (i := 59) (by decide +kernel) (by decide +kernel)⟩
set_option maxRecDepth 100000 in
theorem mv_X11_seal : hMv yX11_seal cX11_seal 6 (some .int) 4 := ⟨⟨lw_in6 (i := 131) rfl rfl, ini_X11, by decide +kernel, by decide +kernel, by decide +kernel⟩, lw_in6 (i := 130) (by decide +kernel) (by decide +kernel), lw_mems (i := 58) (by decide +kernel) (by decide +kernel)⟩
set_option maxRecDepth 100000 in
theorem mv_X11_isRight : hMv yX11_isRight cX11_isRight 5 (some .boolean) 2 := ⟨⟨lw_in6 (i := 163) rfl rfl, ini_X11, by decide +kernel, by decide +kernel, by decide +kernel⟩, lw_in6 (i := 162) (by decide +kernel) (by decide +kernel), lw_mems (i := 65) (by decide +kernel) (by decide +kernel)⟩
set_option maxRecDepth 100000 in
theorem mv_X11_open : hMv yX11_open cX11_open 7 (some .int) 5 := ⟨⟨lw_in6 (i := 179) rfl rfl, ini_X11, by decide +kernel, by decide +kernel, by decide +kernel⟩, lw_in6 (i := 178) (by decide +kernel) (by decide +kernel), lw_mems (i := 69) (by decide +kernel) (by decide +kernel)⟩
set_option maxRecDepth 100000 in
theorem mv_X11_ends : hMv yX11_ends cX11_ends 3 none 1 := ⟨⟨lw_in6 (i := 151) rfl rfl, ini_X11, by decide +kernel, by decide +kernel, by decide +kernel⟩, lw_in6 (i := 150) (by decide +kernel) (by decide +kernel), lw_mems (i := 63) (by decide +kernel) (by decide +kernel)⟩
set_option maxRecDepth 100000 in
theorem mv_X11_writesToken : hMv yX11_writesToken cX11_writesToken 4 (some .int) 3 := ⟨⟨lw_in6 (i := 127) rfl rfl, ini_X11, by decide +kernel, by decide +kernel, by decide +kernel⟩, lw_in6 (i := 126) (by decide +kernel) (by decide +kernel), lw_mems (i := 57) (by decide +kernel) (by decide +kernel)⟩
set_option maxRecDepth 100000 in
theorem mv_X11_write : hMv yX11_write cX11_write 5 (some .int) 1 := ⟨⟨lw_in6 (i := 87) rfl rfl, ini_X11, by decide +kernel, by decide +kernel, by decide +kernel⟩, lw_in6 (i := 85) (by decide +kernel) (by decide +kernel), lw_in6 (i := 86) (by decide +kernel) (by decide +kernel)⟩
set_option maxRecDepth 100000 in
theorem mv_X11_readsToken : hMv yX11_readsToken cX11_readsToken 5 (some .int) 3 := ⟨⟨lw_in6 (i := 175) rfl rfl, ini_X11, by decide +kernel, by decide +kernel, by decide +kernel⟩, lw_in6 (i := 174) (by decide +kernel) (by decide +kernel), lw_mems (i := 68) (by decide +kernel) (by decide +kernel)⟩
set_option maxRecDepth 100000 in
theorem mv_X11_readsDone : hMv yX11_readsDone cX11_readsDone 3 (some .int) 1 := ⟨⟨lw_in6 (i := 159) rfl rfl, ini_X11, by decide +kernel, by decide +kernel, by decide +kernel⟩, lw_in6 (i := 158) (by decide +kernel) (by decide +kernel), lw_mems (i := 64) (by decide +kernel) (by decide +kernel)⟩
set_option maxRecDepth 100000 in
theorem mv_X11_reads : hMv yX11_reads cX11_reads 5 (some .int) 1 := ⟨⟨lw_in6 (i := 171) rfl rfl, ini_X11, by decide +kernel, by decide +kernel, by decide +kernel⟩, lw_in6 (i := 170) (by decide +kernel) (by decide +kernel), lw_mems (i := 67) (by decide +kernel) (by decide +kernel)⟩
set_option maxRecDepth 100000 in
theorem mv_X11_read : hMv yX11_read cX11_read 3 (some .int) 1 := ⟨⟨lw_in6 (i := 155) rfl rfl, ini_X11, by decide +kernel, by decide +kernel, by decide +kernel⟩, lw_in6 (i := 153) (by decide +kernel) (by decide +kernel), lw_in6 (i := 154) (by decide +kernel) (by decide +kernel)⟩
set_option maxRecDepth 100000 in
theorem mv_X11_alter : hMv yX11_alter cX11_alter 4 (some .int) 2 := ⟨⟨lw_in6 (i := 183) rfl rfl, ini_X11, by decide +kernel, by decide +kernel, by decide +kernel⟩, lw_in6 (i := 181) (by decide +kernel) (by decide +kernel), lw_in6 (i := 182) (by decide +kernel) (by decide +kernel)⟩
set_option maxRecDepth 100000 in
theorem mv_X11_cut : hMv yX11_cut cX11_cut 3 (some .int) 1 := ⟨⟨lw_in6 (i := 187) rfl rfl, ini_X11, by decide +kernel, by decide +kernel, by decide +kernel⟩, lw_in6 (i := 185) (by decide +kernel) (by decide +kernel), lw_in6 (i := 186) (by decide +kernel) (by decide +kernel)⟩
set_option maxRecDepth 100000 in
theorem mv_X11_byteOf : hMv yX11_byteOf cX11_byteOf 4 (some .int) 2 := ⟨⟨lw_in6 (i := 191) rfl rfl, ini_X11, by decide +kernel, by decide +kernel, by decide +kernel⟩, lw_in6 (i := 189) (by decide +kernel) (by decide +kernel), lw_in6 (i := 190) (by decide +kernel) (by decide +kernel)⟩
set_option maxRecDepth 100000 in
theorem mv_X11_hash : hMv yX11_hash cX11_hash 3 (some .int) 2 := ⟨⟨lw_in6 (i := 195) rfl rfl, ini_X11, by decide +kernel, by decide +kernel, by decide +kernel⟩, lw_in6 (i := 193) (by decide +kernel) (by decide +kernel), lw_in6 (i := 194) (by decide +kernel) (by decide +kernel)⟩
set_option maxRecDepth 100000 in
theorem mv_X11_aboutOf : hMv yX11_aboutOf cX11_aboutOf 3 (some .int) 2 := ⟨⟨lw_in6 (i := 203) rfl rfl, ini_X11, by decide +kernel, by decide +kernel, by decide +kernel⟩, lw_in6 (i := 202) (by decide +kernel) (by decide +kernel), lw_mems (i := 70) (by decide +kernel) (by decide +kernel)⟩
set_option maxRecDepth 100000 in
theorem mv_X11_about : hMv yX11_about cX11_about 3 (some .int) 2 := ⟨⟨lw_in6 (i := 199) rfl rfl, ini_X11, by decide +kernel, by decide +kernel, by decide +kernel⟩, lw_in6 (i := 197) (by decide +kernel) (by decide +kernel), lw_in6 (i := 198) (by decide +kernel) (by decide +kernel)⟩
set_option maxRecDepth 100000 in
theorem mv_X11_same : hMv yX11_same cX11_same 7 (some .int) 2 := ⟨⟨lw_in6 (i := 207) rfl rfl, ini_X11, by decide +kernel, by decide +kernel, by decide +kernel⟩, lw_in6 (i := 205) (by decide +kernel) (by decide +kernel), lw_in6 (i := 206) (by decide +kernel) (by decide +kernel)⟩
set_option maxRecDepth 100000 in
theorem mv_X11_key : hMv yX11_key cX11_key 4 (some .int) 3 := ⟨⟨lw_in6 (i := 211) rfl rfl, ini_X11, by decide +kernel, by decide +kernel, by decide +kernel⟩, lw_in6 (i := 209) (by decide +kernel) (by decide +kernel), lw_in6 (i := 210) (by decide +kernel) (by decide +kernel)⟩
set_option maxRecDepth 100000 in
theorem mv_X11_count : hMv yX11_count cX11_count 2 (some .int) 1 := ⟨⟨lw_in6 (i := 215) rfl rfl, ini_X11, by decide +kernel, by decide +kernel, by decide +kernel⟩, lw_in6 (i := 213) (by decide +kernel) (by decide +kernel), lw_in6 (i := 214) (by decide +kernel) (by decide +kernel)⟩
set_option maxRecDepth 100000 in
theorem mv_X11_digest : hMv yX11_digest cX11_digest 5 (some .long) 0 := ⟨⟨lw_in6 (i := 219) rfl rfl, ini_X11, by decide +kernel, by decide +kernel, by decide +kernel⟩, lw_in6 (i := 217) (by decide +kernel) (by decide +kernel), lw_in6 (i := 218) (by decide +kernel) (by decide +kernel)⟩
