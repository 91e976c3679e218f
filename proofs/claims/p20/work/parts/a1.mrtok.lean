/-! ===== the model: readsToken ===== -/
theorem nI_n6 {n : Nat} (h : n < 2 ^ 31) : ¬ nI n = (-6 : Int32) := fun e => by
  have h1 : (nI n).toInt = (-6 : Int32).toInt := by rw [e]
  rw [show (-6 : Int32).toInt = -6 from by decide +kernel] at h1
  have h2 := nI_toInt h
  omega
theorem cpRow2 {I J K : Nat → Nat → Int32} {c s a p : Nat} {f : Nat → Int32} (e : K c = (fun j => if 32 * s ≤ j ∧ j < 32 * s + 32 then J a (p + (j - 32 * s)) else J c j)) (h1 : ∀ i, i < 32 → J a (p + i) = f i) (h2 : J c = I c) : wRow I K c s f := by
  refine ⟨fun i hi => ?_, fun j hj => ?_⟩
  · rw [e]
    show (if 32 * s ≤ 32 * s + i ∧ 32 * s + i < 32 * s + 32 then J a (p + (32 * s + i - 32 * s)) else _) = _
    rw [if_pos (by omega), show 32 * s + i - 32 * s = i by omega, h1 i hi]
  · rw [e]
    show (if 32 * s ≤ j ∧ j < 32 * s + 32 then _ else J c j) = _
    rw [if_neg hj, h2]
theorem opn_m {σ : sgT} {K h g g' : Nat → Int32} {n : Nat} {nv : Int32} (hK : ∀ i, i < 32 → K i = σ 2 i) (hh : ∀ i, i < 32 → h i = σ 1 i) (env : nv = σ 7 10) (hg : ∀ j, j < n → g j = g' j) (hn : hkS σ = true → 16 ≤ n) (hk : hkS σ = true) : tagR K nv 32 (fun j => byt (h j)) g (n - 16) ↔ tagR (σ 2) (σ 7 10) 32 (fun j => byt (σ 1 j)) g' (n - 16) := by
  subst env
  have := hn hk
  exact tagR_cg hK (fun j hj => by show byt _ = byt _; rw [hh j hj]) (fun j hj => hg j (by omega))
set_option maxHeartbeats 4000000 in
set_option maxRecDepth 100000 in
theorem ok_X11_readsToken {l : Launch} {a0 : Nat} {D : va_G} {sa : Nat → Nat} {T : Nat → Option hKd} {I : Nat → Nat → Int32} {L : Nat → Nat → Int64} {R : Nat → Nat → Option Nat} {A : Nat → Nat} (mO : isM T R A a0) (hc : shC I) (s : Nat) (hs5 : s < 5) (h13 : h13Z I) (σ : sgT) (a : Nat) (hE : mdE σ I s false) (hb : bS σ) (ln : Nat) (hln : I 63 58 = nI ln) (hl160 : ln ≤ 160) (lt : Nat → Int32) (hlt : ∀ j, j < ln → I 57 j = lt j) (hlb : ∀ j, j < ln → byt (lt j) < 256) (hal : a ≤ ln) (ha : Nat) (hha : I 35 s = nI ha) (ha2 : ha < 2) (sec : Nat → Int32) (hsec : mR I 51 s sec) (t : Nat) (ht5 : t ≤ 5) (hx : 2 ≤ t → xEb t ha = false → σ 7 9 = nI 1) : hM l a0 D sa yX11_readsToken cX11_readsToken 5 (some .int) { frames := 6, cells := 0, slots := 0, locals := 152 } [.ref (A 63), .int (nI s), .int (nI t), .int (nI a)] (T, I, L, R, A) (fun r G' => ∃ I' L', G' = (T, I', L', R, A) ∧ mF 5 s I I' ∧ I' 57 = I 57 ∧ I' 59 = I 59 ∧ ((∃ τ a', rdT sec ha lt ln t (σ, a) = some (τ, a') ∧ r = some (.int (nI a')) ∧ mdE τ I' s false) ∨ (rdT sec ha lt ln t (σ, a) = none ∧ (r = some (.int (-5)) ∨ r = some (.int (-6)))))) := by
  refine hM.of (by decide +kernel) (Nat.le_of_ble_eq_true rfl) ?_
  intro z hl h0 hD hS hN C E
  subst hl; subst h0; subst hD; subst hS
  have C : hC z RX11 cX11_readsToken := C
  have hZ := E.2.2.2.1
  show hX z 0 0 (T, I, L, R, A) [(0, .ref (A 63)), (1, .int (nI s)), (2, .int (nI t)), (3, .int (nI a))] 0 []
  refine x_iload_n C dX11_readsToken_0 2 rfl rfl ?_
  refine x_if_neN (tgt := 60) C (by omega) dX11_readsToken_1 (by decide) (fun c1 => ?_) (fun c1 => ?_)
  · refine x_iload_n C dX11_readsToken_60 2 rfl rfl ?_
    refine x_iconst (v := nI 1) C dX11_readsToken_61 (by decide +kernel) ?_
    refine x_icmp_neN (tgt := 151) C (by omega) (by omega) dX11_readsToken_62 (by decide) (fun c62 => ?_) (fun c62 => ?_)
    · refine x_aload_n C dX11_readsToken_151 0 rfl rfl ?_
      refine x_iload_n C dX11_readsToken_152 1 rfl rfl ?_
      refine x_iload_n C dX11_readsToken_153 2 rfl rfl ?_
      refine x_callV C (ok_X11_shares mO s hs5 ha t hha ha2 ⟨by omega, ht5⟩ (fun j hj => by rw [hE.2.2.2.2.2.1 j hj]; exact hb.2.1 j hj) (fun h j hj => by rw [hE.2.2.2.2.2.2.1 (hx (by omega) h) j hj]; exact hb.2.2.1 j hj)) mv_X11_shares ml_X11_437 mO.1 rfl rfl rfl (Nat.le_of_ble_eq_true rfl) (hrm (rm := { frames := 0, cells := 0, slots := 0, locals := 0 }) hZ ⟨Nat.le_of_ble_eq_true rfl, Nat.le_of_ble_eq_true rfl⟩) (hcs hZ ⟨Nat.le_of_ble_eq_true rfl, Nat.le_of_ble_eq_true rfl⟩) dX11_readsToken_154 (fun v G' hp => ?_)
      obtain ⟨rfl, J3, L3, rfl, d1, d2⟩ := hp
      have F3 : fmS [12, 62] I J3 := fmS.of d2 (by decide)
      have d3 : ∀ i, i < 32 → J3 62 i = dhS sec ha t σ i := fun i hi => by rw [d1 i hi]; unfold dhS; refine congrFun (dhF_cg (fun j hj => ?_) (fun j hj => ?_)) i; (· by_cases hz : oEb t ha = true <;> simp only [hz, if_true, if_false, Bool.false_eq_true] <;> first | exact hE.2.2.2.2.1 j hj | exact hsec j hj); (· show byt _ = byt _; congr 1; by_cases hz : xEb t ha = true; (· simp only [hz, if_true]; exact hE.2.2.2.2.2.1 j hj); (· have hz2 := Bool.eq_false_iff.mpr hz; simp only [hz2, if_false, Bool.false_eq_true]; exact hE.2.2.2.2.2.2.1 (hx (by omega) hz2) j hj))
      show hX z 0 0 (T, J3, L3, R, A) [(0, .ref (A 63)), (1, .int (nI s)), (2, .int (nI t)), (3, .int (nI a))] 157 []
      refine x_aload_n C dX11_readsToken_157 0 rfl rfl ?_
      refine x_iload_n C dX11_readsToken_158 1 rfl rfl ?_
      refine x_callV C (ok_X11_mixKey mO (F3.c (by decide) (by decide) hc) s hs5) mv_X11_mixKey ml_X11_440 mO.1 rfl rfl rfl (Nat.le_of_ble_eq_true rfl) (hrm (rm := { frames := 0, cells := 0, slots := 0, locals := 0 }) hZ ⟨Nat.le_of_ble_eq_true rfl, Nat.le_of_ble_eq_true rfl⟩) (hcs hZ ⟨Nat.le_of_ble_eq_true rfl, Nat.le_of_ble_eq_true rfl⟩) dX11_readsToken_159 (fun v G' hp => ?_)
      obtain ⟨rfl, J4, rfl, q1, q2, q3, q4, q5⟩ := hp
      show hX z 0 0 (T, J4, L3, R, A) [(0, .ref (A 63)), (1, .int (nI s)), (2, .int (nI t)), (3, .int (nI a))] 162 []
      refine x_iload_n C dX11_readsToken_162 3 rfl rfl ?_
      exact x_iret C E (Nat.le_of_ble_eq_true rfl) (Nat.le_of_ble_eq_true rfl) dX11_readsToken_163 (by
          have n0 : rdT sec ha lt ln t (σ, a) = some (opD sec ha t σ, a) := by unfold rdT; rw [if_neg c1, if_neg c62]
          have w47 : wRow I J4 47 s (key1 (σ 0) (dhS sec ha t σ) 32) := by
            rw [← key1_cg (fun i hi => (show J3 47 (32 * s + i) = σ 0 i by rw [F3.o 47 (by decide) (by decide)]; exact hE.1 i hi)) d3]
            exact q1.fr (F3.o 47 (by decide) (by decide))
          have w49 : wRow I J4 49 s (key2 (σ 0) (dhS sec ha t σ) 32) := by
            rw [← key2_cg (fun i hi => (show J3 47 (32 * s + i) = σ 0 i by rw [F3.o 47 (by decide) (by decide)]; exact hE.1 i hi)) d3]
            exact q2.fr (F3.o 49 (by decide) (by decide))
          have F4 : fmS [0, 2, 3, 6, 7, 8, 9, 12, 42, 43, 47, 49, 62] I J4 := (F3.w (by simp)).t q5 (by simp)
          have g42 : J4 42 = upd (I 42) s (nI 1) := by rw [q3, F3.o 42 (by decide) (by decide)]
          have g43 : J4 43 = upd (I 43) s (nI 0) := by rw [q4, F3.o 43 (by decide) (by decide)]
          refine ⟨J4, L3, rfl, ?_, F4.o 57 (by decide) (by decide), F4.o 59 (by decide) (by decide), Or.inl ⟨_, _, n0, rfl, ?_⟩⟩
          · refine mF.fm F4 (by decide) (h13Z.o (F4.o 13 (by decide) (by decide))) (fun q h1 h2 h3 => ?_)
            simp at h1
            rcases (show q = 42 ∨ q = 43 ∨ q = 47 ∨ q = 49 by omega) with rfl | rfl | rfl | rfl
            · exact sdO.fld g42 (by decide)
            · exact sdO.fld g43 (by decide)
            · exact sdO.row w47 (by decide)
            · exact sdO.row w49 (by decide)
          · exact hE.d w47.1 w49.1 (by rw [g42]; simp [upd, opD, sFl, sgR]) (by rw [g43]; simp [upd, opD, sFl, sgR]) (fun q h1 h2 => by intros; exact F4.o q (by simp; omega) (by omega)))
    · refine x_aload_n C dX11_readsToken_65 0 rfl rfl ?_
      refine x_getrN C fl_X11_201 mO.1 rfl (mO.2.2 42 _ rfl).1 dX11_readsToken_66 ?_
      refine x_iload_n C dX11_readsToken_69 1 rfl rfl ?_
      refine x_zaldN C (mO.2.2 42 _ rfl).2.1 (by omega) (by omega) dX11_readsToken_70 ?_
      refine x_eqi (y := bI (hkS σ)) (hE.2.2.2.2.2.2.2.1.1.trans (hkS_b hb)) ?_
      refine x_if_eq (tgt := 79) C dX11_readsToken_71 (by decide) (fun c71 => ?_) (fun c71 => ?_)
      · refine x_bipush (v := nI 32) C dX11_readsToken_79 (by decide +kernel) ?_
        refine x_istore (lv' := [(4, .int (nI 32)), (0, .ref (A 63)), (1, .int (nI s)), (2, .int (nI t)), (3, .int (nI a))]) C dX11_readsToken_81 (Nat.lt_of_lt_of_eq (by decide) hN.symm) rfl ?_
        refine x_aload_n C dX11_readsToken_83 1 rfl rfl ?_
        refine x_getiN C fl_X11_450 mO.1 rfl dX11_readsToken_84 ?_
        refine x_eqi (y := nI ln) hln ?_
        refine x_iload_n C dX11_readsToken_87 4 rfl rfl ?_
        refine x_isubN C (by omega) dX11_readsToken_88 ?_
        refine x_iload C dX11_readsToken_89 0 rfl ?_
        refine x_icmp_geN (tgt := 97) C (by omega) (by omega) dX11_readsToken_91 (by decide) (fun c91 => ?_) (fun c91 => ?_)
        · refine x_aload_n C dX11_readsToken_97 1 rfl rfl ?_
          refine x_iload_n C dX11_readsToken_98 2 rfl rfl ?_
          refine x_aload_n C dX11_readsToken_99 1 rfl rfl ?_
          refine x_getrN C fl_X11_243 mO.1 rfl (mO.2.2 57 _ rfl).1 dX11_readsToken_100 ?_
          refine x_iload_n C dX11_readsToken_103 4 rfl rfl ?_
          refine x_iload C dX11_readsToken_104 0 rfl ?_
          refine x_aload_n C dX11_readsToken_106 1 rfl rfl ?_
          refine x_getrN C fl_X11_249 mO.1 rfl (mO.2.2 61 _ rfl).1 dX11_readsToken_107 ?_
          refine x_callV C (ok_X11_open mO hc s hs5 (hkS σ) (σ 7 10) (hE.2.2.2.2.2.2.2.1.1.trans (hkS_b hb)) hE.2.2.2.2.2.2.2.1.2.2.2.1 (fun j hj => by rw [hE.2.1 j hj]; exact hb.1 j hj) a 32 (by omega) (by decide) (fun _ => by decide) (fun j hj => by rw [hlt _ (by omega)]; exact hlb _ (by omega))) mv_X11_open ml_X11_453 mO.1 rfl rfl rfl (Nat.le_of_ble_eq_true rfl) (hrm (rm := { frames := 0, cells := 0, slots := 0, locals := 0 }) hZ ⟨Nat.le_of_ble_eq_true rfl, Nat.le_of_ble_eq_true rfl⟩) (hcs hZ ⟨Nat.le_of_ble_eq_true rfl, Nat.le_of_ble_eq_true rfl⟩) dX11_readsToken_110 (fun v G' hp => ?_)
          obtain ⟨J2, rfl, hq⟩ := hp
          rcases hq with ⟨rfl, oK, oT, q5⟩ | ⟨rfl, oT, ob, w48, g43, q5⟩
          · have hkt : hkS σ = false := bI_F c71
            have nd : nedT (hkS σ) 1 = 32 := nedT_F hkt
            have hg : ∀ j, j < 32 → I 57 (a + j) = lt (a + j) := fun j hj => hlt _ (by omega)
            have oB : opnO σ (fun j => lt (a + j)) 32 = false := Bool.eq_false_iff.mpr (fun h => oT ((opn_m (K := fun i => I 49 (32 * s + i)) (h := fun i => I 48 (32 * s + i)) (fun i hi => hE.2.2.1 i hi) (fun i hi => hE.2.1 i hi) rfl hg (fun _ => by decide) oK).mpr (opnO_iff.mp h oK)))
            have n0 : rdT sec ha lt ln t (σ, a) = none := by unfold rdT; rw [if_neg c1, if_pos c62, if_neg (fun h => by have := h.2; simp only [nd] at this; rw [oB] at this; cases this)]
            show hX z 0 0 (T, J2, L, R, A) [(4, .int (nI 32)), (0, .ref (A 63)), (1, .int (nI s)), (2, .int (nI t)), (3, .int (nI a))] 113 [.int (-6)]
            refine x_bipush (v := (-6)) C dX11_readsToken_113 (by decide +kernel) ?_
            refine x_icmp_ne (tgt := 121) C dX11_readsToken_115 (by decide) (fun c115 => absurd c115 (by exact fun h => h rfl)) (fun c115 => ?_)
            refine x_bipush (v := (-6)) C dX11_readsToken_118 (by decide +kernel) ?_
            exact x_iret C E (Nat.le_of_ble_eq_true rfl) (Nat.le_of_ble_eq_true rfl) dX11_readsToken_120 (⟨J2, L, rfl, mF.fm q5 (by decide) (h13Z.o (q5.o 13 (by decide) (by decide))) (by intro q h1 h2 h3; simp at h1; omega), q5.o 57 (by decide) (by decide), q5.o 59 (by decide) (by decide), Or.inr ⟨n0, Or.inr rfl⟩⟩)
          · have hkt : hkS σ = false := bI_F c71
            have nd : nedT (hkS σ) 1 = 32 := nedT_F hkt
            have hg : ∀ j, j < 32 → I 57 (a + j) = lt (a + j) := fun j hj => hlt _ (by omega)
            have oB : opnO σ (fun j => lt (a + j)) 32 = true := opnO_iff.mpr (fun h => (opn_m (K := fun i => I 49 (32 * s + i)) (h := fun i => I 48 (32 * s + i)) (fun i hi => hE.2.2.1 i hi) (fun i hi => hE.2.1 i hi) rfl hg (fun _ => by decide) h).mp (oT h))
            have n0 : rdT sec ha lt ln t (σ, a) = some (opV σ (fun j => lt (a + j)) 32, a + 32) := by unfold rdT; rw [if_neg c1, if_pos c62, if_pos ⟨by show a + nedT (hkS σ) 1 ≤ ln; rw [nd]; omega, by show opnO σ (fun j => lt (a + j)) (nedT (hkS σ) 1) = true; rw [nd]; exact oB⟩]; show some (opV σ (fun j => lt (a + j)) (nedT (hkS σ) 1), a + nedT (hkS σ) 1) = _; rw [nd]
            have n2 : ∀ j, j < 32 → J2 61 j = opnF σ (fun j => lt (a + j)) j := fun j hj => by rw [ob j, if_pos (by rw [show opN (hkS σ) 32 = 32 from by rw [hkt]; rfl]; exact hj)]; exact opF_cg (fun i hi => hE.2.2.1 i hi) (hg j (by omega))
            have w48 : wRow I J2 48 s (mixF (σ 1) (fun j => lt (a + j)) 32) := by rw [← mixF_cg (fun i hi => hE.2.1 i hi) hg]; exact w48
            show hX z 0 0 (T, J2, L, R, A) [(4, .int (nI 32)), (0, .ref (A 63)), (1, .int (nI s)), (2, .int (nI t)), (3, .int (nI a))] 113 [.int (nI (opN (hkS σ) 32))]
            refine x_bipush (v := (-6)) C dX11_readsToken_113 (by decide +kernel) ?_
            refine x_icmp_ne (tgt := 121) C dX11_readsToken_115 (by decide) (fun c115 => ?_) (fun c115 => absurd c115 (by exact nI_n6 (by unfold opN; split <;> decide)))
            refine x_aload_n C dX11_readsToken_121 1 rfl rfl ?_
            refine x_getrN C fl_X11_249 mO.1 rfl (mO.2.2 61 _ rfl).1 dX11_readsToken_122 ?_
            refine x_iconst (v := nI 0) C dX11_readsToken_125 (by decide +kernel) ?_
            refine x_aload_n C dX11_readsToken_126 1 rfl rfl ?_
            refine x_getrN C fl_X11_234 mO.1 rfl (mO.2.2 53 _ rfl).1 dX11_readsToken_127 ?_
            refine x_bipush (v := nI 32) C dX11_readsToken_130 (by decide +kernel) ?_
            refine x_iload_n C dX11_readsToken_132 2 rfl rfl ?_
            refine x_imulN C dX11_readsToken_133 ?_
            refine x_bipush (v := nI 32) C dX11_readsToken_134 (by decide +kernel) ?_
            refine x_callS C (ok_X11_copy 61 53 (0) ((32 * s)) (32) 400 160 (mO.2.2 61 _ rfl).2.1 (mO.2.2 53 _ rfl).2.1 (mO.2.2 53 _ rfl).2.2 (by omega) (by omega) (by decide) (by decide) (fun e => absurd e (by decide))) ms_X11_copy ml_X11_270 rfl rfl (Nat.le_of_ble_eq_true rfl) (hrm (rm := { frames := 0, cells := 0, slots := 0, locals := 0 }) hZ ⟨Nat.le_of_ble_eq_true rfl, Nat.le_of_ble_eq_true rfl⟩) (hcs hZ ⟨Nat.le_of_ble_eq_true rfl, Nat.le_of_ble_eq_true rfl⟩) dX11_readsToken_136 (fun v G' hp => ?_)
            obtain ⟨rfl, rfl⟩ := hp
            generalize eI1 : va_up J2 53 (fun j => if (32 * s) ≤ j ∧ j < (32 * s) + 32 then J2 61 (0 + (j - (32 * s))) else J2 53 j) = I1
            have eI1 := eI1.symm
            show hX z 0 0 (T, I1, L, R, A) [(4, .int (nI 32)), (0, .ref (A 63)), (1, .int (nI s)), (2, .int (nI t)), (3, .int (nI a))] 139 []
            refine x_aload_n C dX11_readsToken_139 1 rfl rfl ?_
            refine x_getrN C fl_X11_213 mO.1 rfl (mO.2.2 46 _ rfl).1 dX11_readsToken_140 ?_
            refine x_iload_n C dX11_readsToken_143 2 rfl rfl ?_
            refine x_iconst (v := nI 1) C dX11_readsToken_144 (by decide +kernel) ?_
            refine x_zastN C (mO.2.2 46 _ rfl).2.1 (mO.2.2 46 _ rfl).2.2 (by omega) (by omega) (by first | exact Or.inl rfl | exact Or.inr rfl | assumption) dX11_readsToken_145 (fun I2 eI2 => ?_)
            refine x_iload_n C dX11_readsToken_146 4 rfl rfl ?_
            refine x_iload C dX11_readsToken_147 0 rfl ?_
            refine x_iaddN C dX11_readsToken_149 ?_
            exact x_iret C E (Nat.le_of_ble_eq_true rfl) (Nat.le_of_ble_eq_true rfl) dX11_readsToken_150 (by
                have F4 : fmS [0, 2, 3, 14, 15, 16, 17, 18, 19, 20, 21, 22, 23, 43, 46, 48, 53, 61] I I2 := by rw [eI2, eI1]; exact ((q5.w (by simp)).u (by decide) (by decide)).u (by decide) (by decide)
                have g43' : I2 43 = upd (I 43) s (nxN σ) := by rw [eI2, va_up_other _ _ (by decide), eI1, va_up_other _ _ (by decide), g43]; rfl
                have g46 : I2 46 = upd (I 46) s (nI 1) := by rw [eI2, va_up_same, eI1, va_up_other _ _ (by decide), q5.o 46 (by decide) (by decide)]
                have w48' : wRow I I2 48 s (mixF (σ 1) (fun j => lt (a + j)) 32) := w48.to (by rw [eI2, va_up_other _ _ (by decide), eI1, va_up_other _ _ (by decide)])
                have w53 : wRow I I2 53 s (opnF σ (fun j => lt (a + j))) := (cpRow2 (J := J2) (K := I1) (a := 61) (p := 0) (by rw [eI1, va_up_same]) (fun i hi => by rw [Nat.zero_add]; exact n2 i hi) (q5.o 53 (by decide) (by decide))).to (by rw [eI2, va_up_other _ _ (by decide)])
                refine ⟨I2, L, rfl, ?_, F4.o 57 (by decide) (by decide), F4.o 59 (by decide) (by decide), Or.inl ⟨_, _, n0, rfl, ?_⟩⟩
                · refine mF.fm F4 (by decide) (h13Z.o (F4.o 13 (by decide) (by decide))) (fun q h1 h2 h3 => ?_)
                  simp at h1
                  rcases (show q = 43 ∨ q = 46 ∨ q = 48 ∨ q = 53 by omega) with rfl | rfl | rfl | rfl
                  · exact sdO.fld g43' (by decide)
                  · exact sdO.fld g46 (by decide)
                  · exact sdO.row w48' (by decide)
                  · exact sdO.row w53 (by decide)
                · exact hE.v w48'.1 (by rw [g46]; simp [upd, opV, opR, sFl, sgR]) (by rw [g43']; simp [upd, opV, opR, sFl, sgR]) (fun _ => w53.1) (fun q h1 h2 => by intros; exact F4.o q (by simp; omega) (by omega)))
        · refine x_bipush (v := (-5)) C dX11_readsToken_94 (by decide +kernel) ?_
          exact x_iret C E (Nat.le_of_ble_eq_true rfl) (Nat.le_of_ble_eq_true rfl) dX11_readsToken_96 (⟨I, L, rfl, mF.rf, rfl, rfl, Or.inr ⟨by unfold rdT; rw [if_neg c1, if_pos c62, if_neg (fun h => by have h1 : a + nedT (hkS σ) 1 ≤ ln := h.1; rw [nedT_F (bI_F c71)] at h1; omega)], Or.inl rfl⟩⟩)
      · refine x_bipush (v := nI 48) C dX11_readsToken_74 (by decide +kernel) ?_
        refine x_goto (tgt := 81) C dX11_readsToken_76 (by decide) ?_
        refine x_istore (lv' := [(4, .int (nI 48)), (0, .ref (A 63)), (1, .int (nI s)), (2, .int (nI t)), (3, .int (nI a))]) C dX11_readsToken_81 (Nat.lt_of_lt_of_eq (by decide) hN.symm) rfl ?_
        refine x_aload_n C dX11_readsToken_83 1 rfl rfl ?_
        refine x_getiN C fl_X11_450 mO.1 rfl dX11_readsToken_84 ?_
        refine x_eqi (y := nI ln) hln ?_
        refine x_iload_n C dX11_readsToken_87 4 rfl rfl ?_
        refine x_isubN C (by omega) dX11_readsToken_88 ?_
        refine x_iload C dX11_readsToken_89 0 rfl ?_
        refine x_icmp_geN (tgt := 97) C (by omega) (by omega) dX11_readsToken_91 (by decide) (fun c91 => ?_) (fun c91 => ?_)
        · refine x_aload_n C dX11_readsToken_97 1 rfl rfl ?_
          refine x_iload_n C dX11_readsToken_98 2 rfl rfl ?_
          refine x_aload_n C dX11_readsToken_99 1 rfl rfl ?_
          refine x_getrN C fl_X11_243 mO.1 rfl (mO.2.2 57 _ rfl).1 dX11_readsToken_100 ?_
          refine x_iload_n C dX11_readsToken_103 4 rfl rfl ?_
          refine x_iload C dX11_readsToken_104 0 rfl ?_
          refine x_aload_n C dX11_readsToken_106 1 rfl rfl ?_
          refine x_getrN C fl_X11_249 mO.1 rfl (mO.2.2 61 _ rfl).1 dX11_readsToken_107 ?_
          refine x_callV C (ok_X11_open mO hc s hs5 (hkS σ) (σ 7 10) (hE.2.2.2.2.2.2.2.1.1.trans (hkS_b hb)) hE.2.2.2.2.2.2.2.1.2.2.2.1 (fun j hj => by rw [hE.2.1 j hj]; exact hb.1 j hj) a 48 (by omega) (by decide) (fun _ => by decide) (fun j hj => by rw [hlt _ (by omega)]; exact hlb _ (by omega))) mv_X11_open ml_X11_453 mO.1 rfl rfl rfl (Nat.le_of_ble_eq_true rfl) (hrm (rm := { frames := 0, cells := 0, slots := 0, locals := 0 }) hZ ⟨Nat.le_of_ble_eq_true rfl, Nat.le_of_ble_eq_true rfl⟩) (hcs hZ ⟨Nat.le_of_ble_eq_true rfl, Nat.le_of_ble_eq_true rfl⟩) dX11_readsToken_110 (fun v G' hp => ?_)
          obtain ⟨J2, rfl, hq⟩ := hp
          rcases hq with ⟨rfl, oK, oT, q5⟩ | ⟨rfl, oT, ob, w48, g43, q5⟩
          · have hkt : hkS σ = true := bI_T c71
            have nd : nedT (hkS σ) 1 = 48 := nedT_T hkt
            have hg : ∀ j, j < 48 → I 57 (a + j) = lt (a + j) := fun j hj => hlt _ (by omega)
            have oB : opnO σ (fun j => lt (a + j)) 48 = false := Bool.eq_false_iff.mpr (fun h => oT ((opn_m (K := fun i => I 49 (32 * s + i)) (h := fun i => I 48 (32 * s + i)) (fun i hi => hE.2.2.1 i hi) (fun i hi => hE.2.1 i hi) rfl hg (fun _ => by decide) oK).mpr (opnO_iff.mp h oK)))
            have n0 : rdT sec ha lt ln t (σ, a) = none := by unfold rdT; rw [if_neg c1, if_pos c62, if_neg (fun h => by have := h.2; simp only [nd] at this; rw [oB] at this; cases this)]
            show hX z 0 0 (T, J2, L, R, A) [(4, .int (nI 48)), (0, .ref (A 63)), (1, .int (nI s)), (2, .int (nI t)), (3, .int (nI a))] 113 [.int (-6)]
            refine x_bipush (v := (-6)) C dX11_readsToken_113 (by decide +kernel) ?_
            refine x_icmp_ne (tgt := 121) C dX11_readsToken_115 (by decide) (fun c115 => absurd c115 (by exact fun h => h rfl)) (fun c115 => ?_)
            refine x_bipush (v := (-6)) C dX11_readsToken_118 (by decide +kernel) ?_
            exact x_iret C E (Nat.le_of_ble_eq_true rfl) (Nat.le_of_ble_eq_true rfl) dX11_readsToken_120 (⟨J2, L, rfl, mF.fm q5 (by decide) (h13Z.o (q5.o 13 (by decide) (by decide))) (by intro q h1 h2 h3; simp at h1; omega), q5.o 57 (by decide) (by decide), q5.o 59 (by decide) (by decide), Or.inr ⟨n0, Or.inr rfl⟩⟩)
          · have hkt : hkS σ = true := bI_T c71
            have nd : nedT (hkS σ) 1 = 48 := nedT_T hkt
            have hg : ∀ j, j < 48 → I 57 (a + j) = lt (a + j) := fun j hj => hlt _ (by omega)
            have oB : opnO σ (fun j => lt (a + j)) 48 = true := opnO_iff.mpr (fun h => (opn_m (K := fun i => I 49 (32 * s + i)) (h := fun i => I 48 (32 * s + i)) (fun i hi => hE.2.2.1 i hi) (fun i hi => hE.2.1 i hi) rfl hg (fun _ => by decide) h).mp (oT h))
            have n0 : rdT sec ha lt ln t (σ, a) = some (opV σ (fun j => lt (a + j)) 48, a + 48) := by unfold rdT; rw [if_neg c1, if_pos c62, if_pos ⟨by show a + nedT (hkS σ) 1 ≤ ln; rw [nd]; omega, by show opnO σ (fun j => lt (a + j)) (nedT (hkS σ) 1) = true; rw [nd]; exact oB⟩]; show some (opV σ (fun j => lt (a + j)) (nedT (hkS σ) 1), a + nedT (hkS σ) 1) = _; rw [nd]
            have n2 : ∀ j, j < 32 → J2 61 j = opnF σ (fun j => lt (a + j)) j := fun j hj => by rw [ob j, if_pos (by rw [show opN (hkS σ) 48 = 32 from by rw [hkt]; rfl]; exact hj)]; exact opF_cg (fun i hi => hE.2.2.1 i hi) (hg j (by omega))
            have w48 : wRow I J2 48 s (mixF (σ 1) (fun j => lt (a + j)) 48) := by rw [← mixF_cg (fun i hi => hE.2.1 i hi) hg]; exact w48
            show hX z 0 0 (T, J2, L, R, A) [(4, .int (nI 48)), (0, .ref (A 63)), (1, .int (nI s)), (2, .int (nI t)), (3, .int (nI a))] 113 [.int (nI (opN (hkS σ) 48))]
            refine x_bipush (v := (-6)) C dX11_readsToken_113 (by decide +kernel) ?_
            refine x_icmp_ne (tgt := 121) C dX11_readsToken_115 (by decide) (fun c115 => ?_) (fun c115 => absurd c115 (by exact nI_n6 (by unfold opN; split <;> decide)))
            refine x_aload_n C dX11_readsToken_121 1 rfl rfl ?_
            refine x_getrN C fl_X11_249 mO.1 rfl (mO.2.2 61 _ rfl).1 dX11_readsToken_122 ?_
            refine x_iconst (v := nI 0) C dX11_readsToken_125 (by decide +kernel) ?_
            refine x_aload_n C dX11_readsToken_126 1 rfl rfl ?_
            refine x_getrN C fl_X11_234 mO.1 rfl (mO.2.2 53 _ rfl).1 dX11_readsToken_127 ?_
            refine x_bipush (v := nI 32) C dX11_readsToken_130 (by decide +kernel) ?_
            refine x_iload_n C dX11_readsToken_132 2 rfl rfl ?_
            refine x_imulN C dX11_readsToken_133 ?_
            refine x_bipush (v := nI 32) C dX11_readsToken_134 (by decide +kernel) ?_
            refine x_callS C (ok_X11_copy 61 53 (0) ((32 * s)) (32) 400 160 (mO.2.2 61 _ rfl).2.1 (mO.2.2 53 _ rfl).2.1 (mO.2.2 53 _ rfl).2.2 (by omega) (by omega) (by decide) (by decide) (fun e => absurd e (by decide))) ms_X11_copy ml_X11_270 rfl rfl (Nat.le_of_ble_eq_true rfl) (hrm (rm := { frames := 0, cells := 0, slots := 0, locals := 0 }) hZ ⟨Nat.le_of_ble_eq_true rfl, Nat.le_of_ble_eq_true rfl⟩) (hcs hZ ⟨Nat.le_of_ble_eq_true rfl, Nat.le_of_ble_eq_true rfl⟩) dX11_readsToken_136 (fun v G' hp => ?_)
            obtain ⟨rfl, rfl⟩ := hp
            generalize eI3 : va_up J2 53 (fun j => if (32 * s) ≤ j ∧ j < (32 * s) + 32 then J2 61 (0 + (j - (32 * s))) else J2 53 j) = I3
            have eI3 := eI3.symm
            show hX z 0 0 (T, I3, L, R, A) [(4, .int (nI 48)), (0, .ref (A 63)), (1, .int (nI s)), (2, .int (nI t)), (3, .int (nI a))] 139 []
            refine x_aload_n C dX11_readsToken_139 1 rfl rfl ?_
            refine x_getrN C fl_X11_213 mO.1 rfl (mO.2.2 46 _ rfl).1 dX11_readsToken_140 ?_
            refine x_iload_n C dX11_readsToken_143 2 rfl rfl ?_
            refine x_iconst (v := nI 1) C dX11_readsToken_144 (by decide +kernel) ?_
            refine x_zastN C (mO.2.2 46 _ rfl).2.1 (mO.2.2 46 _ rfl).2.2 (by omega) (by omega) (by first | exact Or.inl rfl | exact Or.inr rfl | assumption) dX11_readsToken_145 (fun I4 eI4 => ?_)
            refine x_iload_n C dX11_readsToken_146 4 rfl rfl ?_
            refine x_iload C dX11_readsToken_147 0 rfl ?_
            refine x_iaddN C dX11_readsToken_149 ?_
            exact x_iret C E (Nat.le_of_ble_eq_true rfl) (Nat.le_of_ble_eq_true rfl) dX11_readsToken_150 (by
                have F4 : fmS [0, 2, 3, 14, 15, 16, 17, 18, 19, 20, 21, 22, 23, 43, 46, 48, 53, 61] I I4 := by rw [eI4, eI3]; exact ((q5.w (by simp)).u (by decide) (by decide)).u (by decide) (by decide)
                have g43' : I4 43 = upd (I 43) s (nxN σ) := by rw [eI4, va_up_other _ _ (by decide), eI3, va_up_other _ _ (by decide), g43]; rfl
                have g46 : I4 46 = upd (I 46) s (nI 1) := by rw [eI4, va_up_same, eI3, va_up_other _ _ (by decide), q5.o 46 (by decide) (by decide)]
                have w48' : wRow I I4 48 s (mixF (σ 1) (fun j => lt (a + j)) 48) := w48.to (by rw [eI4, va_up_other _ _ (by decide), eI3, va_up_other _ _ (by decide)])
                have w53 : wRow I I4 53 s (opnF σ (fun j => lt (a + j))) := (cpRow2 (J := J2) (K := I3) (a := 61) (p := 0) (by rw [eI3, va_up_same]) (fun i hi => by rw [Nat.zero_add]; exact n2 i hi) (q5.o 53 (by decide) (by decide))).to (by rw [eI4, va_up_other _ _ (by decide)])
                refine ⟨I4, L, rfl, ?_, F4.o 57 (by decide) (by decide), F4.o 59 (by decide) (by decide), Or.inl ⟨_, _, n0, rfl, ?_⟩⟩
                · refine mF.fm F4 (by decide) (h13Z.o (F4.o 13 (by decide) (by decide))) (fun q h1 h2 h3 => ?_)
                  simp at h1
                  rcases (show q = 43 ∨ q = 46 ∨ q = 48 ∨ q = 53 by omega) with rfl | rfl | rfl | rfl
                  · exact sdO.fld g43' (by decide)
                  · exact sdO.fld g46 (by decide)
                  · exact sdO.row w48' (by decide)
                  · exact sdO.row w53 (by decide)
                · exact hE.v w48'.1 (by rw [g46]; simp [upd, opV, opR, sFl, sgR]) (by rw [g43']; simp [upd, opV, opR, sFl, sgR]) (fun _ => w53.1) (fun q h1 h2 => by intros; exact F4.o q (by simp; omega) (by omega)))
        · refine x_bipush (v := (-5)) C dX11_readsToken_94 (by decide +kernel) ?_
          exact x_iret C E (Nat.le_of_ble_eq_true rfl) (Nat.le_of_ble_eq_true rfl) dX11_readsToken_96 (⟨I, L, rfl, mF.rf, rfl, rfl, Or.inr ⟨by unfold rdT; rw [if_neg c1, if_pos c62, if_neg (fun h => by have h1 : a + nedT (hkS σ) 1 ≤ ln := h.1; rw [nedT_T (bI_T c71)] at h1; omega)], Or.inl rfl⟩⟩)
  · refine x_aload_n C dX11_readsToken_4 0 rfl rfl ?_
    refine x_getiN C fl_X11_450 mO.1 rfl dX11_readsToken_5 ?_
    refine x_eqi (y := nI ln) hln ?_
    refine x_iload_n C dX11_readsToken_8 3 rfl rfl ?_
    refine x_isubN C (by omega) dX11_readsToken_9 ?_
    refine x_bipush (v := nI 32) C dX11_readsToken_10 (by decide +kernel) ?_
    refine x_icmp_geN (tgt := 18) C (by omega) (by omega) dX11_readsToken_12 (by decide) (fun c12 => ?_) (fun c12 => ?_)
    · refine x_aload_n C dX11_readsToken_18 0 rfl rfl ?_
      refine x_getrN C fl_X11_243 mO.1 rfl (mO.2.2 57 _ rfl).1 dX11_readsToken_19 ?_
      refine x_iload_n C dX11_readsToken_22 3 rfl rfl ?_
      refine x_aload_n C dX11_readsToken_23 0 rfl rfl ?_
      refine x_getrN C fl_X11_237 mO.1 rfl (mO.2.2 54 _ rfl).1 dX11_readsToken_24 ?_
      refine x_bipush (v := nI 32) C dX11_readsToken_27 (by decide +kernel) ?_
      refine x_iload_n C dX11_readsToken_29 1 rfl rfl ?_
      refine x_imulN C dX11_readsToken_30 ?_
      refine x_bipush (v := nI 32) C dX11_readsToken_31 (by decide +kernel) ?_
      refine x_callS C (ok_X11_copy 57 54 (a) ((32 * s)) (32) 400 160 (mO.2.2 57 _ rfl).2.1 (mO.2.2 54 _ rfl).2.1 (mO.2.2 54 _ rfl).2.2 (by omega) (by omega) (by decide) (by decide) (fun e => absurd e (by decide))) ms_X11_copy ml_X11_270 rfl rfl (Nat.le_of_ble_eq_true rfl) (hrm (rm := { frames := 0, cells := 0, slots := 0, locals := 0 }) hZ ⟨Nat.le_of_ble_eq_true rfl, Nat.le_of_ble_eq_true rfl⟩) (hcs hZ ⟨Nat.le_of_ble_eq_true rfl, Nat.le_of_ble_eq_true rfl⟩) dX11_readsToken_33 (fun v G' hp => ?_)
      obtain ⟨rfl, rfl⟩ := hp
      generalize eI5 : va_up I 54 (fun j => if (32 * s) ≤ j ∧ j < (32 * s) + 32 then I 57 (a + (j - (32 * s))) else I 54 j) = I5
      have eI5 := eI5.symm
      show hX z 0 0 (T, I5, L, R, A) [(0, .ref (A 63)), (1, .int (nI s)), (2, .int (nI t)), (3, .int (nI a))] 36 []
      refine x_aload_n C dX11_readsToken_36 0 rfl rfl ?_
      refine x_getrN C fl_X11_210 mO.1 rfl (mO.2.2 45 _ rfl).1 dX11_readsToken_37 ?_
      refine x_iload_n C dX11_readsToken_40 1 rfl rfl ?_
      refine x_iconst (v := nI 1) C dX11_readsToken_41 (by decide +kernel) ?_
      refine x_zastN C (mO.2.2 45 _ rfl).2.1 (mO.2.2 45 _ rfl).2.2 (by omega) (by omega) (by first | exact Or.inl rfl | exact Or.inr rfl | assumption) dX11_readsToken_42 (fun I6 eI6 => ?_)
      have F2 : fmS [45, 54] I I6 := by rw [eI6, eI5]; exact ((fmS.of fx.rf (by decide)).u (by decide) (by decide)).u (by decide) (by decide)
      refine x_aload_n C dX11_readsToken_43 0 rfl rfl ?_
      refine x_iload_n C dX11_readsToken_44 1 rfl rfl ?_
      refine x_aload_n C dX11_readsToken_45 0 rfl rfl ?_
      refine x_getrN C fl_X11_243 mO.1 rfl (mO.2.2 57 _ rfl).1 dX11_readsToken_46 ?_
      refine x_iload_n C dX11_readsToken_49 3 rfl rfl ?_
      refine x_bipush (v := nI 32) C dX11_readsToken_50 (by decide +kernel) ?_
      refine x_callV C (ok_X11_mixHash mO s 57 400 a 32 (F2.c (by decide) (by decide) hc).1 (F2.c (by decide) (by decide) hc).2 hs5 (mO.2.2 57 _ rfl).2.1 (by decide) (by omega) (by decide) (by decide) (by decide)) mv_X11_mixHash ml_X11_404 mO.1 rfl rfl rfl (Nat.le_of_ble_eq_true rfl) (hrm (rm := { frames := 0, cells := 0, slots := 0, locals := 0 }) hZ ⟨Nat.le_of_ble_eq_true rfl, Nat.le_of_ble_eq_true rfl⟩) (hcs hZ ⟨Nat.le_of_ble_eq_true rfl, Nat.le_of_ble_eq_true rfl⟩) dX11_readsToken_52 (fun v G' hp => ?_)
      obtain ⟨rfl, J4, rfl, m1, m2⟩ := hp
      show hX z 0 0 (T, J4, L, R, A) [(0, .ref (A 63)), (1, .int (nI s)), (2, .int (nI t)), (3, .int (nI a))] 55 []
      refine x_iload_n C dX11_readsToken_55 3 rfl rfl ?_
      refine x_bipush (v := nI 32) C dX11_readsToken_56 (by decide +kernel) ?_
      refine x_iaddN C dX11_readsToken_58 ?_
      exact x_iret C E (Nat.le_of_ble_eq_true rfl) (Nat.le_of_ble_eq_true rfl) dX11_readsToken_59 (by
          have n0 : rdT sec ha lt ln t (σ, a) = some (opX σ (fun j => lt (a + j)), a + 32) := by unfold rdT; rw [if_pos c1, if_pos (show (σ, a).2 + 32 ≤ ln by show a + 32 ≤ ln; omega)]
          have o57 : I6 57 = I 57 := F2.o 57 (by decide) (by decide)
          have w48 : wRow I J4 48 s (mixF (σ 1) (fun j => lt (a + j)) 32) := by
            refine (wRow.mx m1 (fun i hi => ?_)).fr (F2.o 48 (by decide) (by decide))
            exact congrFun (mixF_cg (fun i hi => by rw [F2.o 48 (by decide) (by decide)]; exact hE.2.1 i hi) (fun i hi => by rw [o57]; exact hlt _ (by omega))) i
          have F4 : fmS [0, 2, 3, 45, 48, 54] I J4 := (F2.w (by simp)).t m2 (by simp)
          have g45 : J4 45 = upd (I 45) s (nI 1) := by rw [m2.o 45 (by decide) (by decide), eI6, va_up_same, eI5, va_up_other _ _ (by decide)]
          have w54 : wRow I J4 54 s (fun j => lt (a + j)) := (cpRow2 (J := I) (K := I5) (a := 57) (p := a) (by rw [eI5, va_up_same]) (fun i hi => hlt _ (by omega)) rfl).to (by rw [m2.o 54 (by decide) (by decide), eI6, va_up_other _ _ (by decide)])
          refine ⟨J4, L, rfl, ?_, F4.o 57 (by decide) (by decide), F4.o 59 (by decide) (by decide), Or.inl ⟨_, _, n0, rfl, ?_⟩⟩
          · refine mF.fm F4 (by decide) (h13Z.o (F4.o 13 (by decide) (by decide))) (fun q h1 h2 h3 => ?_)
            simp at h1
            rcases (show q = 45 ∨ q = 48 ∨ q = 54 by omega) with rfl | rfl | rfl
            · exact sdO.fld g45 (by decide)
            · exact sdO.row w48 (by decide)
            · exact sdO.row w54 (by decide)
          · exact hE.x w48.1 w54.1 (by rw [g45]; simp [upd, opX, sFl, sgR]) (fun q h1 h2 => by intros; exact F4.o q (by simp; omega) (by omega)))
    · refine x_bipush (v := (-5)) C dX11_readsToken_15 (by decide +kernel) ?_
      exact x_iret C E (Nat.le_of_ble_eq_true rfl) (Nat.le_of_ble_eq_true rfl) dX11_readsToken_17 (⟨I, L, rfl, mF.rf, rfl, rfl, Or.inr ⟨by unfold rdT; rw [if_pos c1, if_neg (by show ¬ a + 32 ≤ ln; omega)], Or.inl rfl⟩⟩)

