/-! ===== Talk: begin, giveKeys ===== -/
def nmV (j : Nat) : Int32 := if j < 18 then hNm.getD j 0 else 0
def bg1 (kn : Nat → Bool) (ha : Nat) (pub told : Nat → Int32) (c : Nat) (h : Nat → Int32) : Nat → Int32 := if kn c then mixF h (if c = ha then pub else told) 32 else h
def bgF (kn : Nat → Bool) (ha : Nat) (pub told : Nat → Int32) : Nat → (Nat → Int32)
  | 0 => nmV
  | c + 1 => bg1 kn ha pub told c (bgF kn ha pub told c)
theorem nmV_b : ∀ j, byt (nmV j) < 256 := by
  intro j
  unfold nmV
  split
  · rename_i h; exact (by decide +kernel : ∀ j, j < 18 → byt (hNm.getD j 0) < 256) j h
  · decide +kernel
theorem bgF_b (kn : Nat → Bool) (ha : Nat) (pub told : Nat → Int32) (c j : Nat) : byt (bgF kn ha pub told c j) < 256 := by
  induction c with
  | zero => exact nmV_b j
  | succ c ih =>
    show byt (bg1 kn ha pub told c (bgF kn ha pub told c) j) < 256
    unfold bg1
    split
    · exact byt_mix _ _ _ _
    · exact ih
theorem bgF_cg {kn : Nat → Bool} {ha : Nat} {p p' t t' : Nat → Int32} (hp : ∀ j, j < 32 → p j = p' j) (ht : ∀ j, j < 32 → t j = t' j) (c : Nat) : bgF kn ha p t c = bgF kn ha p' t' c := by
  induction c with
  | zero => rfl
  | succ c ih =>
    show bg1 kn ha p t c (bgF kn ha p t c) = bg1 kn ha p' t' c (bgF kn ha p' t' c)
    unfold bg1
    rw [ih]
    split
    · refine mixF_cg (fun _ _ => rfl) (fun i hi => ?_)
      split
      · exact hp i hi
      · exact ht i hi
    · rfl
theorem ptI.fx {I J : Nat → Nat → Int32} {P ms : Nat} {kn : Nat → Bool} {sz : Nat → Nat} {tk : Nat → Nat → Nat} {hs : Bool} {S : List Nat} (h : ptI I P kn ms sz tk hs) (f : fx S I J) (h1 : P ∉ S) (h2 : P + 8 ∉ S) (h3 : ∀ m, m < 6 → P + 2 + m ∉ S) : ptI J P kn ms sz tk hs := by
  refine ⟨?_, fun m hm => ?_, fun m hm k hk => ?_, h.2.2.2⟩
  · rw [f P h1]; exact h.1
  · rw [f (P + 8) h2]; exact h.2.1 m hm
  · rw [f (P + 2 + m) (h3 m hm)]; exact h.2.2.1 m hm k hk
theorem bg_s {J A : Nat → Nat → Int32} {i h : Nat} {x : Int32} (hh : ∀ j, j < i → J h j = nmV j) (hx : x = nmV i) (e : A = va_up J h (upd (J h) i x)) : ∀ j, j < i + 1 → A h j = nmV j := by
  intro j hj
  rw [e, va_up_same]
  unfold upd
  by_cases hq : j = i
  · rw [if_pos hq, hq, hx]
  · rw [if_neg hq]; exact hh j (by omega)
set_option maxHeartbeats 4000000 in
set_option maxRecDepth 100000 in
theorem ok_X9_begin {l : Launch} {a0 : Nat} {D : va_G} {sa : Nat → Nat} {T : Nat → Option hKd} {I : Nat → Nat → Int32} {L : Nat → Nat → Int64} {R : Nat → Nat → Option Nat} {A : Nat → Nat} (xO : isX T R A a0) (hsa : ∀ k, k < 5 → sa k = A (90 + k)) (S P : Nat) (hSd : isSd T R A a0 S P) (ha : Nat) (hha : I S 2 = nI ha) (ha2 : ha < 2) (hS3 : 300 ≤ S) (hP : isPt T R A a0 P) (kn : Nat → Bool) (ms : Nat) (sz : Nat → Nat) (tk : Nat → Nat → Nat) (hs : Bool) (hI : ptI I P kn ms sz tk hs) (hP2 : P + 10 ≤ 300) (hP1 : 200 ≤ P) (hst : stI I) (wt : Bool) (hwt : I S 7 = bI wt) : hM l a0 D sa yX9_begin cX9_begin 4 none { frames := 4, cells := 0, slots := 0, locals := 102 } [.ref (A 109), .ref (A S)] (T, I, L, R, A) (fun r G' => r = none ∧ ∃ I', G' = (T, I', L, R, A) ∧ (∀ j, j < 32 → I' (S + 4 + 1 + 1) j = bgF kn ha (I (S + 2)) (I (S + 3)) 2 j) ∧ (∀ j, j < 32 → I' (S + 4 + 1 + 0) j = nmV j) ∧ (∀ j, j < 32 → I' (S + 4 + 1 + 6) j = I (S + 3) j) ∧ I' (S + 4) = upd (upd (upd (upd (upd (I (S + 4)) 9 (bI wt)) 8 (nI 0)) 7 (nI 0)) 10 (nI 0)) 13 (nI 0) ∧ fx [111, 112, 113, S + 4, S + 4 + 1 + 0, S + 4 + 1 + 1, S + 4 + 1 + 6] I I') := by
  refine hM.of (by decide +kernel) (Nat.le_of_ble_eq_true rfl) ?_
  intro z hl h0 hD hS hN C E
  subst hl; subst h0; subst hD; subst hS
  have C : hC z RX9 cX9_begin := C
  have hZ := E.2.2.2.1
  show hX z 0 0 (T, I, L, R, A) [(0, .ref (A 109)), (1, .ref (A S))] 0 []
  refine x_aload_n C dX9_begin_0 1 rfl rfl ?_
  refine x_getrN C fl_X9_101 hSd.1.1 rfl hSd.2.1.2.2.2.2 dX9_begin_1 ?_
  refine x_astore_n (lv' := [(2, .ref (A (S + 4))), (0, .ref (A 109)), (1, .ref (A S))]) C dX9_begin_4 rfl (Nat.lt_of_lt_of_eq (by decide) hN.symm) rfl ?_
  refine x_iconst (v := nI 0) C dX9_begin_5 (by decide +kernel) ?_
  refine x_istore_n (lv' := [(3, .int (nI 0)), (2, .ref (A (S + 4))), (0, .ref (A 109)), (1, .ref (A S))]) C dX9_begin_6 rfl (Nat.lt_of_lt_of_eq (by decide) hN.symm) rfl ?_
  have L7 : ∀ (fuel_ : Nat) (i : Nat) (J : Nat → Nat → Int32), 32 - i < fuel_ → (i ≤ 32) → (∀ j, j < i → J (S + 4 + 1 + 1) j = nmV j) → (fx [111, 112, 113, S + 4, S + 4 + 1 + 0, S + 4 + 1 + 1, S + 4 + 1 + 6] I J) → (fx [S + 4 + 1 + 1] I J) → hX z 0 0 (T, J, L, R, A) [(3, .int (nI i)), (2, .ref (A (S + 4))), (0, .ref (A 109)), (1, .ref (A S))] 7 [] := by
    intro fuel_
    induction fuel_ with
    | zero => intro i J hmz; exact absurd hmz (Nat.not_lt_zero _)
    | succ fuel_ ih7 =>
      intro i J hmz hi hh hf hf0
      refine x_iload_n C dX9_begin_7 0 rfl rfl ?_
      refine x_bipush (v := nI 32) C dX9_begin_8 (by decide +kernel) ?_
      refine x_icmp_geN (tgt := 44) C (by omega) (by omega) dX9_begin_10 (by decide) (fun c10 => ?_) (fun c10 => ?_)
      · refine x_aload_n C dX9_begin_44 1 rfl rfl ?_
        refine x_getrN C fl_X9_104 hSd.2.2.2.1 rfl (hSd.2.2.2.2.2 1 (by decide)).1 dX9_begin_45 ?_
        refine x_aload_n C dX9_begin_48 1 rfl rfl ?_
        refine x_getrN C fl_X9_119 hSd.2.2.2.1 rfl (hSd.2.2.2.2.2 0 (by decide)).1 dX9_begin_49 ?_
        refine x_callSN C (ok_X10_copyKey (S + 4 + 1 + 1) (S + 4 + 1 + 0) 32 32 (hSd.2.2.2.2.2 1 (by decide)).2.1 (hSd.2.2.2.2.2 0 (by decide)).2.1 (hSd.2.2.2.2.2 0 (by decide)).2.2 (by decide) (by decide) (by decide) (by decide)) ms_X10_copyKey ml_X9_122 rfl rfl (Nat.le_of_ble_eq_true rfl) (hrm (rm := { frames := 0, cells := 0, slots := 0, locals := 0 }) hZ ⟨Nat.le_of_ble_eq_true rfl, Nat.le_of_ble_eq_true rfl⟩) (hcs hZ ⟨Nat.le_of_ble_eq_true rfl, Nat.le_of_ble_eq_true rfl⟩) dX9_begin_52 (fun v G' hp => ?_)
        obtain ⟨rfl, rfl⟩ := hp
        generalize eI1 : va_up J (S + 4 + 1 + 0) (fun j => if j < 32 then J (S + 4 + 1 + 1) j else J (S + 4 + 1 + 0) j) = I1
        have eI1 := eI1.symm
        have f_I1 : fx [111, 112, 113, S + 4, S + 4 + 1 + 0, S + 4 + 1 + 1, S + 4 + 1 + 6] I I1 := by rw [eI1]; exact (hf).up (by simp)
        show hX z 0 0 (T, I1, L, R, A) [(3, .int (nI i)), (2, .ref (A (S + 4))), (0, .ref (A 109)), (1, .ref (A S))] 55 []
        refine x_aload_n C dX9_begin_55 3 rfl rfl ?_
        refine x_getrN C fl_X9_91 hSd.1.1 rfl hSd.2.1.2.2.2.1 dX9_begin_56 ?_
        refine x_aload_n C dX9_begin_59 1 rfl rfl ?_
        refine x_getrN C fl_X9_126 hSd.2.2.2.1 rfl (hSd.2.2.2.2.2 6 (by decide)).1 dX9_begin_60 ?_
        refine x_callSN C (ok_X10_copyKey (S + 3) (S + 4 + 1 + 6) 32 32 (hSd.2.2.1 3 (by decide) (by decide)).1 (hSd.2.2.2.2.2 6 (by decide)).2.1 (hSd.2.2.2.2.2 6 (by decide)).2.2 (by decide) (by decide) (by decide) (by decide)) ms_X10_copyKey ml_X9_122 rfl rfl (Nat.le_of_ble_eq_true rfl) (hrm (rm := { frames := 0, cells := 0, slots := 0, locals := 0 }) hZ ⟨Nat.le_of_ble_eq_true rfl, Nat.le_of_ble_eq_true rfl⟩) (hcs hZ ⟨Nat.le_of_ble_eq_true rfl, Nat.le_of_ble_eq_true rfl⟩) dX9_begin_63 (fun v G' hp => ?_)
        obtain ⟨rfl, rfl⟩ := hp
        generalize eI2 : va_up I1 (S + 4 + 1 + 6) (fun j => if j < 32 then I1 (S + 3) j else I1 (S + 4 + 1 + 6) j) = I2
        have eI2 := eI2.symm
        have f_I2 : fx [111, 112, 113, S + 4, S + 4 + 1 + 0, S + 4 + 1 + 1, S + 4 + 1 + 6] I I2 := by rw [eI2]; exact (f_I1).up (by simp)
        show hX z 0 0 (T, I2, L, R, A) [(3, .int (nI i)), (2, .ref (A (S + 4))), (0, .ref (A 109)), (1, .ref (A S))] 66 []
        refine x_aload_n C dX9_begin_66 1 rfl rfl ?_
        refine x_aload_n C dX9_begin_67 3 rfl rfl ?_
        refine x_getiN C fl_X9_97 hSd.1.1 rfl dX9_begin_68 ?_
        refine x_eqi (y := bI wt) (by rw [f_I2 S (by simp <;> omega)]; exact hwt) ?_
        refine x_putzN C fl_X9_129 hSd.2.2.2.1 hSd.2.2.2.2.1 rfl (bI_01 _) dX9_begin_71 (fun I3 eI3 => ?_)
        have f_I3 : fx [111, 112, 113, S + 4, S + 4 + 1 + 0, S + 4 + 1 + 1, S + 4 + 1 + 6] I I3 := by rw [eI3]; exact (f_I2).up (by simp)
        refine x_aload_n C dX9_begin_74 1 rfl rfl ?_
        refine x_iconst (v := nI 0) C dX9_begin_75 (by decide +kernel) ?_
        refine x_putzN C fl_X9_132 hSd.2.2.2.1 hSd.2.2.2.2.1 rfl (by first | exact Or.inl rfl | exact Or.inr rfl | assumption) dX9_begin_76 (fun I4 eI4 => ?_)
        have f_I4 : fx [111, 112, 113, S + 4, S + 4 + 1 + 0, S + 4 + 1 + 1, S + 4 + 1 + 6] I I4 := by rw [eI4]; exact (f_I3).up (by simp)
        refine x_aload_n C dX9_begin_79 1 rfl rfl ?_
        refine x_iconst (v := nI 0) C dX9_begin_80 (by decide +kernel) ?_
        refine x_putzN C fl_X9_135 hSd.2.2.2.1 hSd.2.2.2.2.1 rfl (by first | exact Or.inl rfl | exact Or.inr rfl | assumption) dX9_begin_81 (fun I5 eI5 => ?_)
        have f_I5 : fx [111, 112, 113, S + 4, S + 4 + 1 + 0, S + 4 + 1 + 1, S + 4 + 1 + 6] I I5 := by rw [eI5]; exact (f_I4).up (by simp)
        refine x_aload_n C dX9_begin_84 1 rfl rfl ?_
        refine x_iconst (v := nI 0) C dX9_begin_85 (by decide +kernel) ?_
        refine x_putiN C fl_X9_138 hSd.2.2.2.1 hSd.2.2.2.2.1 rfl dX9_begin_86 (fun I6 eI6 => ?_)
        have f_I6 : fx [111, 112, 113, S + 4, S + 4 + 1 + 0, S + 4 + 1 + 1, S + 4 + 1 + 6] I I6 := by rw [eI6]; exact (f_I5).up (by simp)
        refine x_aload_n C dX9_begin_89 1 rfl rfl ?_
        refine x_iconst (v := nI 0) C dX9_begin_90 (by decide +kernel) ?_
        refine x_putiN C fl_X9_142 hSd.2.2.2.1 hSd.2.2.2.2.1 rfl dX9_begin_91 (fun I7 eI7 => ?_)
        have f_I7 : fx [111, 112, 113, S + 4, S + 4 + 1 + 0, S + 4 + 1 + 1, S + 4 + 1 + 6] I I7 := by rw [eI7]; exact (f_I6).up (by simp)
        refine x_iconst (v := nI 0) C dX9_begin_94 (by decide +kernel) ?_
        refine x_istore_n (lv' := [(3, .int (nI 0)), (2, .ref (A (S + 4))), (0, .ref (A 109)), (1, .ref (A S))]) C dX9_begin_95 rfl (Nat.lt_of_lt_of_eq (by decide) hN.symm) rfl ?_
        have L96 : ∀ (fuel_ : Nat) (c : Nat) (J2 : Nat → Nat → Int32), 2 - c < fuel_ → (c ≤ 2) → (∀ j, j < 32 → J2 (S + 4 + 1 + 1) j = bgF kn ha (I (S + 2)) (I (S + 3)) c j) → (∀ j, j < 32 → J2 (S + 4 + 1 + 0) j = nmV j) → (∀ j, j < 32 → J2 (S + 4 + 1 + 6) j = I (S + 3) j) → (J2 (S + 4) = upd (upd (upd (upd (upd (I (S + 4)) 9 (bI wt)) 8 (nI 0)) 7 (nI 0)) 10 (nI 0)) 13 (nI 0)) → (fx [111, 112, 113, S + 4, S + 4 + 1 + 0, S + 4 + 1 + 1, S + 4 + 1 + 6] I J2) → hX z 0 0 (T, J2, L, R, A) [(3, .int (nI c)), (2, .ref (A (S + 4))), (0, .ref (A 109)), (1, .ref (A S))] 96 [] := by
          intro fuel_
          induction fuel_ with
          | zero => intro c J2 hmz; exact absurd hmz (Nat.not_lt_zero _)
          | succ fuel_ ih96 =>
            intro c J2 hmz hc hh2 hck hos hu hf
            refine x_iload_n C dX9_begin_96 0 rfl rfl ?_
            refine x_iconst (v := nI 2) C dX9_begin_97 (by decide +kernel) ?_
            refine x_icmp_geN (tgt := 145) C (by omega) (by omega) dX9_begin_98 (by decide) (fun c98 => ?_) (fun c98 => ?_)
            · exact x_vret C E (Nat.le_of_ble_eq_true rfl) (Nat.le_of_ble_eq_true rfl) dX9_begin_145 (⟨rfl, J2, rfl, fun j hj => by rw [hh2 j hj, show c = 2 by omega], hck, hos, hu, hf⟩)
            · refine x_aload_n C dX9_begin_101 3 rfl rfl ?_
              refine x_getrN C fl_X9_145 hSd.1.1 rfl hSd.2.1.1 dX9_begin_102 ?_
              refine x_iload_n C dX9_begin_105 0 rfl rfl ?_
              refine x_callV C (ok_X3_isKnownAhead P hP kn ms sz tk hs (ptI.fx hI hf (by simp <;> omega) (by simp <;> omega) (fun m hm => by simp <;> omega)) c (by omega)) mv_X3_isKnownAhead ml_X9_149 hP.1.1 rfl rfl rfl (Nat.le_of_ble_eq_true rfl) (hrm (rm := { frames := 0, cells := 0, slots := 0, locals := 0 }) hZ ⟨Nat.le_of_ble_eq_true rfl, Nat.le_of_ble_eq_true rfl⟩) (hcs hZ ⟨Nat.le_of_ble_eq_true rfl, Nat.le_of_ble_eq_true rfl⟩) dX9_begin_106 (fun v G' hp => ?_)
              obtain ⟨rfl, rfl⟩ := hp
              show hX z 0 0 (T, J2, L, R, A) [(3, .int (nI c)), (2, .ref (A (S + 4))), (0, .ref (A 109)), (1, .ref (A S))] 109 [.int (bI (kn c))]
              refine x_if_eq (tgt := 139) C dX9_begin_109 (by decide) (fun c109 => ?_) (fun c109 => ?_)
              · refine x_iinc (v := nI (c + 1)) (lv' := [(3, .int (nI (c + 1))), (2, .ref (A (S + 4))), (0, .ref (A 109)), (1, .ref (A S))]) C dX9_begin_139 0 rfl (nI_inc 1) (Nat.lt_of_lt_of_eq (by decide) hN.symm) rfl ?_
                refine x_goto (tgt := 96) C dX9_begin_142 (by decide) ?_
                refine x_sub (lv' := _) [0, 1, 2, 3] rfl ?_
                exact ih96 (c + 1) J2 (by omega) (by omega) (fun j hj => by show _ = bg1 kn ha (I (S + 2)) (I (S + 3)) c (bgF kn ha (I (S + 2)) (I (S + 3)) c) j; unfold bg1; rw [bI_F c109]; exact hh2 j hj) hck hos hu hf
              · refine x_aload_n C dX9_begin_112 2 rfl rfl ?_
                refine x_aload_n C dX9_begin_113 1 rfl rfl ?_
                refine x_iload_n C dX9_begin_114 0 rfl rfl ?_
                refine x_aload_n C dX9_begin_115 3 rfl rfl ?_
                refine x_getiN C fl_X9_155 hSd.1.1 rfl dX9_begin_116 ?_
                refine x_eqi (y := nI ha) (by rw [hf S (by simp <;> omega)]; exact hha) ?_
                refine x_icmp_neN (tgt := 129) C (by omega) (by omega) dX9_begin_119 (by decide) (fun c119 => ?_) (fun c119 => ?_)
                · refine x_aload_n C dX9_begin_129 3 rfl rfl ?_
                  refine x_getrN C fl_X9_91 hSd.1.1 rfl hSd.2.1.2.2.2.1 dX9_begin_130 ?_
                  refine x_iconst (v := nI 0) C dX9_begin_133 (by decide +kernel) ?_
                  refine x_bipush (v := nI 32) C dX9_begin_134 (by decide +kernel) ?_
                  refine x_callV C (ok_X9_mixHash xO hsa (S + 4) (S + 4 + 1 + 1) (S + 3) 32 0 32 (hf.st (by intro k hk; simp; omega) hst) hSd.2.2.2.1 (hSd.2.2.2.2.2 1 (by decide)).1 (hSd.2.2.2.2.2 1 (by decide)).2.1 (hSd.2.2.2.2.2 1 (by decide)).2.2 (by omega) (hSd.2.2.1 3 (by decide) (by decide)).1 (by decide) (by decide) (by decide) (by omega)) mv_X9_mixHash ml_X9_158 (xO.1 109 _ rfl).1 rfl rfl rfl (Nat.le_of_ble_eq_true rfl) (hrm (rm := { frames := 0, cells := 0, slots := 0, locals := 0 }) hZ ⟨Nat.le_of_ble_eq_true rfl, Nat.le_of_ble_eq_true rfl⟩) (hcs hZ ⟨Nat.le_of_ble_eq_true rfl, Nat.le_of_ble_eq_true rfl⟩) dX9_begin_136 (fun v G' hp => ?_)
                  obtain ⟨rfl, K, rfl, m1, m2⟩ := hp
                  show hX z 0 0 (T, K, L, R, A) [(3, .int (nI c)), (2, .ref (A (S + 4))), (0, .ref (A 109)), (1, .ref (A S))] 139 []
                  refine x_iinc (v := nI (c + 1)) (lv' := [(3, .int (nI (c + 1))), (2, .ref (A (S + 4))), (0, .ref (A 109)), (1, .ref (A S))]) C dX9_begin_139 0 rfl (nI_inc 1) (Nat.lt_of_lt_of_eq (by decide) hN.symm) rfl ?_
                  refine x_goto (tgt := 96) C dX9_begin_142 (by decide) ?_
                  refine x_sub (lv' := _) [0, 1, 2, 3] rfl ?_
                  exact ih96 (c + 1) K (by omega) (by omega) (fun j hj => by show _ = bg1 kn ha (I (S + 2)) (I (S + 3)) c (bgF kn ha (I (S + 2)) (I (S + 3)) c) j; unfold bg1; rw [bI_T c109, if_neg c119, m1]; simp only [hj, if_true]; exact congrFun (mixF_cg (n := 32) (fun i hi => hh2 i hi) (fun i hi => by show J2 (S + 3) (0 + i) = _; rw [Nat.zero_add, hf (S + 3) (by simp <;> omega)])) j) (fun j hj => by rw [m2 (S + 4 + 1 + 0) (by simp <;> omega)]; exact hck j hj) (fun j hj => by rw [m2 (S + 4 + 1 + 6) (by simp <;> omega)]; exact hos j hj) (by rw [m2 (S + 4) (by simp <;> omega)]; exact hu) (hf.tr m2 (by simp))
                · refine x_aload_n C dX9_begin_122 3 rfl rfl ?_
                  refine x_getrN C fl_X9_88 hSd.1.1 rfl hSd.2.1.2.2.1 dX9_begin_123 ?_
                  refine x_goto (tgt := 133) C dX9_begin_126 (by decide) ?_
                  refine x_iconst (v := nI 0) C dX9_begin_133 (by decide +kernel) ?_
                  refine x_bipush (v := nI 32) C dX9_begin_134 (by decide +kernel) ?_
                  refine x_callV C (ok_X9_mixHash xO hsa (S + 4) (S + 4 + 1 + 1) (S + 2) 32 0 32 (hf.st (by intro k hk; simp; omega) hst) hSd.2.2.2.1 (hSd.2.2.2.2.2 1 (by decide)).1 (hSd.2.2.2.2.2 1 (by decide)).2.1 (hSd.2.2.2.2.2 1 (by decide)).2.2 (by omega) (hSd.2.2.1 2 (by decide) (by decide)).1 (by decide) (by decide) (by decide) (by omega)) mv_X9_mixHash ml_X9_158 (xO.1 109 _ rfl).1 rfl rfl rfl (Nat.le_of_ble_eq_true rfl) (hrm (rm := { frames := 0, cells := 0, slots := 0, locals := 0 }) hZ ⟨Nat.le_of_ble_eq_true rfl, Nat.le_of_ble_eq_true rfl⟩) (hcs hZ ⟨Nat.le_of_ble_eq_true rfl, Nat.le_of_ble_eq_true rfl⟩) dX9_begin_136 (fun v G' hp => ?_)
                  obtain ⟨rfl, K, rfl, m1, m2⟩ := hp
                  show hX z 0 0 (T, K, L, R, A) [(3, .int (nI c)), (2, .ref (A (S + 4))), (0, .ref (A 109)), (1, .ref (A S))] 139 []
                  refine x_iinc (v := nI (c + 1)) (lv' := [(3, .int (nI (c + 1))), (2, .ref (A (S + 4))), (0, .ref (A 109)), (1, .ref (A S))]) C dX9_begin_139 0 rfl (nI_inc 1) (Nat.lt_of_lt_of_eq (by decide) hN.symm) rfl ?_
                  refine x_goto (tgt := 96) C dX9_begin_142 (by decide) ?_
                  refine x_sub (lv' := _) [0, 1, 2, 3] rfl ?_
                  exact ih96 (c + 1) K (by omega) (by omega) (fun j hj => by show _ = bg1 kn ha (I (S + 2)) (I (S + 3)) c (bgF kn ha (I (S + 2)) (I (S + 3)) c) j; unfold bg1; rw [bI_T c109, if_pos c119, m1]; simp only [hj, if_true]; exact congrFun (mixF_cg (n := 32) (fun i hi => hh2 i hi) (fun i hi => by show J2 (S + 2) (0 + i) = _; rw [Nat.zero_add, hf (S + 2) (by simp <;> omega)])) j) (fun j hj => by rw [m2 (S + 4 + 1 + 0) (by simp <;> omega)]; exact hck j hj) (fun j hj => by rw [m2 (S + 4 + 1 + 6) (by simp <;> omega)]; exact hos j hj) (by rw [m2 (S + 4) (by simp <;> omega)]; exact hu) (hf.tr m2 (by simp))
        refine x_sub (lv' := _) [0, 1, 2, 3] rfl ?_
        exact L96 _ 0 I7 (Nat.lt_succ_self _) (by omega) (fun j hj => by rw [eI7, va_up_other _ _ (by omega), eI6, va_up_other _ _ (by omega), eI5, va_up_other _ _ (by omega), eI4, va_up_other _ _ (by omega), eI3, va_up_other _ _ (by omega), eI2, va_up_other _ _ (by omega), eI1, va_up_other _ _ (by omega)]; exact hh j (by omega)) (fun j hj => by rw [eI7, va_up_other _ _ (by omega), eI6, va_up_other _ _ (by omega), eI5, va_up_other _ _ (by omega), eI4, va_up_other _ _ (by omega), eI3, va_up_other _ _ (by omega), eI2, va_up_other _ _ (by omega), eI1, va_up_same]; simp only [hj, if_true]; exact hh j (by omega)) (fun j hj => by rw [eI7, va_up_other _ _ (by omega), eI6, va_up_other _ _ (by omega), eI5, va_up_other _ _ (by omega), eI4, va_up_other _ _ (by omega), eI3, va_up_other _ _ (by omega), eI2, va_up_same]; simp only [hj, if_true]; rw [eI1, va_up_other _ _ (by omega), hf (S + 3) (by simp <;> omega)]) (by rw [eI7, va_up_same, eI6, va_up_same, eI5, va_up_same, eI4, va_up_same, eI3, va_up_same, eI2, va_up_other _ _ (by omega), eI1, va_up_other _ _ (by omega), hf0 (S + 4) (by simp <;> omega)]) f_I7
      · have J37 : ∀ (x : Int32), (x = nmV i) → hX z 0 0 (T, J, L, R, A) [(3, .int (nI i)), (2, .ref (A (S + 4))), (0, .ref (A 109)), (1, .ref (A S))] 37 [.int x, .int (nI i), .ref (A (S + 4 + 1 + 1))] := by
          intro x hx
          refine x_iastN C (hSd.2.2.2.2.2 1 (by decide)).2.1 (hSd.2.2.2.2.2 1 (by decide)).2.2 (by omega) (by omega) dX9_begin_37 (fun I8 eI8 => ?_)
          have f_I8 : fx [111, 112, 113, S + 4, S + 4 + 1 + 0, S + 4 + 1 + 1, S + 4 + 1 + 6] I I8 := by rw [eI8]; exact (hf).up (by simp)
          refine x_iinc (v := nI (i + 1)) (lv' := [(3, .int (nI (i + 1))), (2, .ref (A (S + 4))), (0, .ref (A 109)), (1, .ref (A S))]) C dX9_begin_38 0 rfl (nI_inc 1) (Nat.lt_of_lt_of_eq (by decide) hN.symm) rfl ?_
          refine x_goto (tgt := 7) C dX9_begin_41 (by decide) ?_
          refine x_sub (lv' := _) [0, 1, 2, 3] rfl ?_
          exact ih7 (i + 1) I8 (by omega) (by omega) (bg_s hh hx eI8) (by rw [eI8]; exact hf.up (by simp)) (by rw [eI8]; exact hf0.up (by simp))
        refine x_aload_n C dX9_begin_13 1 rfl rfl ?_
        refine x_getrN C fl_X9_104 hSd.2.2.2.1 rfl (hSd.2.2.2.2.2 1 (by decide)).1 dX9_begin_14 ?_
        refine x_iload_n C dX9_begin_17 0 rfl rfl ?_
        refine x_iload_n C dX9_begin_18 0 rfl rfl ?_
        refine x_ldcS C dX9_begin_19 ?_
        refine x_callStr (As := []) C (ok_J0_length_8abf5) mv_J0_length_8abf5 ml_X9_109 rfl rfl rfl (Nat.le_of_ble_eq_true rfl) (hrm (rm := { frames := 0, cells := 0, slots := 0, locals := 0 }) hZ ⟨Nat.le_of_ble_eq_true rfl, Nat.le_of_ble_eq_true rfl⟩) (hcs hZ ⟨Nat.le_of_ble_eq_true rfl, Nat.le_of_ble_eq_true rfl⟩) dX9_begin_21 (fun v G' hp => ?_)
        obtain ⟨rfl, rfl⟩ := hp
        show hX z 0 0 (T, J, L, R, A) [(3, .int (nI i)), (2, .ref (A (S + 4))), (0, .ref (A 109)), (1, .ref (A S))] 24 [.int (nI 18), .int (nI i), .int (nI i), .ref (A (S + 4 + 1 + 1))]
        refine x_icmp_geN (tgt := 36) C (by omega) (by omega) dX9_begin_24 (by decide) (fun c24 => ?_) (fun c24 => ?_)
        · refine x_iconst (v := nI 0) C dX9_begin_36 (by decide +kernel) ?_
          refine x_sub (lv' := _) [0, 1, 2, 3] rfl ?_
          exact J37 (nI 0) (by unfold nmV; rw [if_neg (by omega)]; rfl)
        · refine x_ldcS C dX9_begin_27 ?_
          refine x_iload_n C dX9_begin_29 0 rfl rfl ?_
          refine x_callStr (As := [.int (nI i)]) C (ok_J0_charAt_5068e i c24) mv_J0_charAt_5068e ml_X9_115 rfl rfl rfl (Nat.le_of_ble_eq_true rfl) (hrm (rm := { frames := 0, cells := 0, slots := 0, locals := 0 }) hZ ⟨Nat.le_of_ble_eq_true rfl, Nat.le_of_ble_eq_true rfl⟩) (hcs hZ ⟨Nat.le_of_ble_eq_true rfl, Nat.le_of_ble_eq_true rfl⟩) dX9_begin_30 (fun v G' hp => ?_)
          obtain ⟨rfl, rfl⟩ := hp
          show hX z 0 0 (T, J, L, R, A) [(3, .int (nI i)), (2, .ref (A (S + 4))), (0, .ref (A 109)), (1, .ref (A S))] 33 [.int (hNm.getD i 0), .int (nI i), .ref (A (S + 4 + 1 + 1))]
          refine x_goto (tgt := 37) C dX9_begin_33 (by decide) ?_
          refine x_sub (lv' := _) [0, 1, 2, 3] rfl ?_
          exact J37 (hNm.getD i 0) (by unfold nmV; rw [if_pos c24])
  refine x_sub (lv' := _) [0, 1, 2, 3] rfl ?_
  exact L7 _ 0 I (Nat.lt_succ_self _) (by omega) (fun j hj => absurd hj (Nat.not_lt_zero j)) fx.rf fx.rf

