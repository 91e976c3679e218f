/-! ===== Side: leastLetter, tell; Talk: sendDone, takeDone, giveKeys ===== -/
theorem sw_out8 {x : Int32} (h0 : ¬ x = nI 0) (h1 : ¬ x = nI 1) (h2 : ¬ x = nI 2) (h3 : ¬ x = nI 3) (h4 : ¬ x = nI 4) (h5 : ¬ x = nI 5) (h6 : ¬ x = nI 6) (h7 : ¬ x = nI 7) (h8 : ¬ x = nI 8) : x.toInt < 0 ∨ 8 < x.toInt := by
  by_cases g : x.toInt < 0
  · exact Or.inl g
  · refine Or.inr (Int.not_le.mp fun g2 => ?_)
    rcases (show x.toInt = ((0 : Nat) : Int) ∨ x.toInt = ((1 : Nat) : Int) ∨ x.toInt = ((2 : Nat) : Int) ∨ x.toInt = ((3 : Nat) : Int) ∨ x.toInt = ((4 : Nat) : Int) ∨ x.toInt = ((5 : Nat) : Int) ∨ x.toInt = ((6 : Nat) : Int) ∨ x.toInt = ((7 : Nat) : Int) ∨ x.toInt = ((8 : Nat) : Int) by omega) with e | e | e | e | e | e | e | e | e
    · exact h0 (sw_nI (by decide) e)
    · exact h1 (sw_nI (by decide) e)
    · exact h2 (sw_nI (by decide) e)
    · exact h3 (sw_nI (by decide) e)
    · exact h4 (sw_nI (by decide) e)
    · exact h5 (sw_nI (by decide) e)
    · exact h6 (sw_nI (by decide) e)
    · exact h7 (sw_nI (by decide) e)
    · exact h8 (sw_nI (by decide) e)
/-- keyed or not, and the least length -/
def lsT (p : Bool × Nat) (t : Nat) : Bool × Nat := if t = 0 then (p.1, p.2 + 32) else if t = 1 then (p.1, p.2 + (if p.1 then 48 else 32)) else (true, p.2)
def lsK (hk : Bool) (tk : Nat → Nat) : Nat → Bool × Nat
  | 0 => (hk, 0)
  | k + 1 => lsT (lsK hk tk k) (tk k)
def lsO (p : Bool × Nat) : Nat := if p.1 then p.2 + 16 else p.2
def szN (ms : Nat) (sz : Nat → Nat) (nx : Nat) : Nat := if nx < ms then sz nx else 0
def abF (p ha nx : Nat) (dn : Bool) (σ : sgT) (w : Int32) : Int32 := if w = nI 0 then nI p else if w = nI 1 then nI ha else if w = nI 2 then nI nx else if w = nI 3 then bI dn else if w = nI 4 then σ 7 7 else if w = nI 5 then σ 7 10 else if w = nI 6 then σ 7 8 else if w = nI 7 then σ 7 9 else if w = nI 8 then σ 7 12 else -2
theorem bI_Fx {x : Int32} {b : Bool} (h : x = bI b) (g : x = 0) : b = false := bI_F (h ▸ g)
theorem bI_Tx {x : Int32} {b : Bool} (h : x = bI b) (g : ¬ x = 0) : b = true := bI_T (h ▸ g)
theorem b01_T {x : Int32} (h : x = 0 ∨ x = 1) (g : ¬ x = 0) : nI 1 = x := by
  rcases h with e | e
  · exact absurd e g
  · rw [e]; rfl
theorem szN_e {ms nx k : Nat} {sz : Nat → Nat} (hk : k ≤ szN ms sz nx) (h : ¬ (nx < ms ∧ k < sz nx)) : k = szN ms sz nx := by
  unfold szN at hk ⊢
  by_cases h9 : nx < ms
  · rw [if_pos h9] at hk ⊢; omega
  · rw [if_neg h9] at hk ⊢; omega
set_option maxHeartbeats 4000000 in
set_option maxRecDepth 100000 in
theorem ok_X6_leastLetter {l : Launch} {a0 : Nat} {D : va_G} {sa : Nat → Nat} {T : Nat → Option hKd} {I : Nat → Nat → Int32} {L : Nat → Nat → Int64} {R : Nat → Nat → Option Nat} {A : Nat → Nat} (S P : Nat) (hSd : isSd T R A a0 S P) (ha : Nat) (hha : I S 2 = nI ha) (ha2 : ha < 2) (hS3 : 300 ≤ S) (hP : isPt T R A a0 P) (kn : Nat → Bool) (ms : Nat) (sz : Nat → Nat) (tk : Nat → Nat → Nat) (hs : Bool) (hI : ptI I P kn ms sz tk hs) (σ : sgT) (hσ : stE σ I (S + 4)) (hb : bS σ) (nx : Nat) (hnx : σ 7 13 = nI nx) (hn31 : nx < 2 ^ 30)  : hM l a0 D sa yX6_leastLetter cX6_leastLetter 6 (some .int) { frames := 2, cells := 0, slots := 0, locals := 44 } [.ref (A S)] (T, I, L, R, A) (fun r G' => r = some (.int (nI (lsO (lsK (hkS σ) (tk nx) (szN ms sz nx))))) ∧ G' = (T, I, L, R, A)) := by
  refine hM.of (by decide +kernel) (Nat.le_of_ble_eq_true rfl) ?_
  intro z hl h0 hD hS hN C E
  subst hl; subst h0; subst hD; subst hS
  have C : hC z RX6 cX6_leastLetter := C
  have hZ := E.2.2.2.1
  show hX z 0 0 (T, I, L, R, A) [(0, .ref (A S))] 0 []
  have hms6 := hI.2.2.2.1
  have hsz5 := hI.2.2.2.2.1 nx
  refine x_aload_n C dX6_leastLetter_0 0 rfl rfl ?_
  refine x_getrN C fl_X6_28 hSd.1.1 rfl hSd.2.1.2.2.2.2 dX6_leastLetter_1 ?_
  refine x_getiN C fl_X6_52 hSd.2.2.2.1 rfl dX6_leastLetter_4 ?_
  refine x_eqi (y := bI (hkS σ)) ((hσ.2 7 (by decide) (by decide)).trans (hkS_b hb)) ?_
  refine x_istore_n (lv' := [(1, .int (bI (hkS σ))), (0, .ref (A S))]) C dX6_leastLetter_7 rfl (Nat.lt_of_lt_of_eq (by decide) hN.symm) rfl ?_
  refine x_iconst (v := nI 0) C dX6_leastLetter_8 (by decide +kernel) ?_
  refine x_istore_n (lv' := [(2, .int (nI 0)), (1, .int (bI (hkS σ))), (0, .ref (A S))]) C dX6_leastLetter_9 rfl (Nat.lt_of_lt_of_eq (by decide) hN.symm) rfl ?_
  refine x_aload_n C dX6_leastLetter_10 2 rfl rfl ?_
  refine x_getrN C fl_X6_32 hSd.1.1 rfl hSd.2.1.1 dX6_leastLetter_11 ?_
  refine x_aload_n C dX6_leastLetter_14 2 rfl rfl ?_
  refine x_getrN C fl_X6_28 hSd.1.1 rfl hSd.2.1.2.2.2.2 dX6_leastLetter_15 ?_
  refine x_getiN C fl_X6_46 hSd.2.2.2.1 rfl dX6_leastLetter_18 ?_
  refine x_eqi (y := nI nx) ((hσ.2 13 (by decide) (by decide)).trans hnx) ?_
  refine x_callV C (ok_X3_sizeOf P hP kn ms sz tk hs hI nx (by omega)) mv_X3_sizeOf ml_X6_55 hP.1.1 rfl rfl rfl (Nat.le_of_ble_eq_true rfl) (hrm (rm := { frames := 0, cells := 0, slots := 0, locals := 0 }) hZ ⟨Nat.le_of_ble_eq_true rfl, Nat.le_of_ble_eq_true rfl⟩) (hcs hZ ⟨Nat.le_of_ble_eq_true rfl, Nat.le_of_ble_eq_true rfl⟩) dX6_leastLetter_21 (fun v G' hp => ?_)
  obtain ⟨rfl, rfl⟩ := hp
  show hX z 0 0 (T, I, L, R, A) [(2, .int (nI 0)), (1, .int (bI (hkS σ))), (0, .ref (A S))] 24 [.int (szF ms sz nx)]
  refine x_istore_n (lv' := [(3, .int (szF ms sz nx)), (2, .int (nI 0)), (1, .int (bI (hkS σ))), (0, .ref (A S))]) C dX6_leastLetter_24 rfl (Nat.lt_of_lt_of_eq (by decide) hN.symm) rfl ?_
  refine x_iconst (v := nI 0) C dX6_leastLetter_25 (by decide +kernel) ?_
  refine x_istore (lv' := [(4, .int (nI 0)), (3, .int (szF ms sz nx)), (2, .int (nI 0)), (1, .int (bI (hkS σ))), (0, .ref (A S))]) C dX6_leastLetter_26 (Nat.lt_of_lt_of_eq (by decide) hN.symm) rfl ?_
  have L28 : ∀ (fuel_ : Nat) (x : Int32) (l : Nat) (k : Nat), 5 - k < fuel_ → (k ≤ szN ms sz nx) → (k ≤ 5) → (x = bI (lsK (hkS σ) (tk nx) k).1) → (l = (lsK (hkS σ) (tk nx) k).2) → hX z 0 0 (T, I, L, R, A) [(4, .int (nI k)), (3, .int (szF ms sz nx)), (2, .int (nI l)), (1, .int x), (0, .ref (A S))] 28 [] := by
    intro fuel_
    induction fuel_ with
    | zero => intro x l k hmz; exact absurd hmz (Nat.not_lt_zero _)
    | succ fuel_ ih28 =>
      intro x l k hmz hk hk5 hx hl
      refine x_iload C dX6_leastLetter_28 0 rfl ?_
      refine x_iload_n C dX6_leastLetter_30 1 rfl rfl ?_
      refine x_icmp_ge (tgt := 94) C dX6_leastLetter_31 (by decide) (fun c31 => ?_) (fun c31 => ?_)
      · have hmk := szF_T (by omega) hsz5 c31
        have ek : k = szN ms sz nx := szN_e hk hmk
        refine x_iload_n C dX6_leastLetter_94 3 rfl rfl ?_
        refine x_if_eq (tgt := 105) C dX6_leastLetter_95 (by decide) (fun c95 => ?_) (fun c95 => ?_)
        · refine x_iload_n C dX6_leastLetter_105 2 rfl rfl ?_
          exact x_iret C E (Nat.le_of_ble_eq_true rfl) (Nat.le_of_ble_eq_true rfl) dX6_leastLetter_106 (by
                subst ek
                refine ⟨?_, rfl⟩
                unfold lsO
                first | (rw [bI_Fx hx c95, ← hl]; rfl) | (rw [bI_Tx hx c95, ← hl]; rfl))
        · refine x_iload_n C dX6_leastLetter_98 2 rfl rfl ?_
          refine x_bipush (v := nI 16) C dX6_leastLetter_99 (by decide +kernel) ?_
          refine x_iaddN C dX6_leastLetter_101 ?_
          refine x_goto (tgt := 106) C dX6_leastLetter_102 (by decide) ?_
          exact x_iret C E (Nat.le_of_ble_eq_true rfl) (Nat.le_of_ble_eq_true rfl) dX6_leastLetter_106 (by
                subst ek
                refine ⟨?_, rfl⟩
                unfold lsO
                first | (rw [bI_Fx hx c95, ← hl]; rfl) | (rw [bI_Tx hx c95, ← hl]; rfl))
      · have hmk := szF_F (by omega) hsz5 c31
        refine x_aload_n C dX6_leastLetter_34 4 rfl rfl ?_
        refine x_getrN C fl_X6_32 hSd.1.1 rfl hSd.2.1.1 dX6_leastLetter_35 ?_
        refine x_aload_n C dX6_leastLetter_38 4 rfl rfl ?_
        refine x_getrN C fl_X6_28 hSd.1.1 rfl hSd.2.1.2.2.2.2 dX6_leastLetter_39 ?_
        refine x_getiN C fl_X6_46 hSd.2.2.2.1 rfl dX6_leastLetter_42 ?_
        refine x_eqi (y := nI nx) ((hσ.2 13 (by decide) (by decide)).trans hnx) ?_
        refine x_iload C dX6_leastLetter_45 0 rfl ?_
        refine x_callV C (ok_X3_tokenAt P hP kn ms sz tk hs hI nx k (by omega) (by omega)) mv_X3_tokenAt ml_X6_59 hP.1.1 rfl rfl rfl (Nat.le_of_ble_eq_true rfl) (hrm (rm := { frames := 0, cells := 0, slots := 0, locals := 0 }) hZ ⟨Nat.le_of_ble_eq_true rfl, Nat.le_of_ble_eq_true rfl⟩) (hcs hZ ⟨Nat.le_of_ble_eq_true rfl, Nat.le_of_ble_eq_true rfl⟩) dX6_leastLetter_47 (fun v G' hp => ?_)
        obtain ⟨rfl, rfl⟩ := hp
        show hX z 0 0 (T, I, L, R, A) [(4, .int (nI k)), (3, .int (szF ms sz nx)), (2, .int (nI l)), (1, .int x), (0, .ref (A S))] 50 [.int (tkF ms sz tk nx k)]
        refine x_eqi (y := nI (tk nx k)) (by unfold tkF; rw [if_pos (szF_F (by omega) hsz5 c31)]) ?_
        refine x_istore (lv' := [(5, .int (nI (tk nx k))), (4, .int (nI k)), (3, .int (szF ms sz nx)), (2, .int (nI l)), (1, .int x), (0, .ref (A S))]) C dX6_leastLetter_50 (Nat.lt_of_lt_of_eq (by decide) hN.symm) rfl ?_
        have htk5 := hI.2.2.2.2.2.1 nx k
        refine x_iload C dX6_leastLetter_52 0 rfl ?_
        refine x_if_neN (tgt := 63) C (by omega) dX6_leastLetter_54 (by decide) (fun c54 => ?_) (fun c54 => ?_)
        · refine x_iload C dX6_leastLetter_63 0 rfl ?_
          refine x_iconst (v := nI 1) C dX6_leastLetter_65 (by decide +kernel) ?_
          refine x_icmp_neN (tgt := 86) C (by omega) (by omega) dX6_leastLetter_66 (by decide) (fun c66 => ?_) (fun c66 => ?_)
          · refine x_iconst (v := nI 1) C dX6_leastLetter_86 (by decide +kernel) ?_
            refine x_istore_n (lv' := [(1, .int (nI 1)), (5, .int (nI (tk nx k))), (4, .int (nI k)), (3, .int (szF ms sz nx)), (2, .int (nI l)), (0, .ref (A S))]) C dX6_leastLetter_87 rfl (Nat.lt_of_lt_of_eq (by decide) hN.symm) rfl ?_
            refine x_iinc (v := nI (k + 1)) (lv' := [(4, .int (nI (k + 1))), (1, .int (nI 1)), (5, .int (nI (tk nx k))), (3, .int (szF ms sz nx)), (2, .int (nI l)), (0, .ref (A S))]) C dX6_leastLetter_88 2 rfl (nI_inc 1) (Nat.lt_of_lt_of_eq (by decide) hN.symm) rfl ?_
            refine x_goto (tgt := 28) C dX6_leastLetter_91 (by decide) ?_
            refine x_sub (lv' := _) [0, 3, 4, 1, 5] rfl ?_
            exact ih28 (nI 1) l (k + 1) (by omega) (by unfold szN; rw [if_pos hmk.1]; omega) (by omega) (by show _ = bI (lsT (lsK (hkS σ) (tk nx) k) (tk nx k)).1; unfold lsT; first | (rw [if_pos c54]; exact hx) | (rw [if_neg c54, if_pos c66]; exact hx) | (rw [if_neg c54, if_neg c66]; rfl)) (by show _ = (lsT (lsK (hkS σ) (tk nx) k) (tk nx k)).2; unfold lsT; first | (rw [if_pos c54, hl]; done) | (rw [if_neg c54, if_neg c66]; exact hl) | (rw [if_neg c54, if_pos c66, hl]; first | (rw [bI_Fx hx c71]; rfl) | (rw [bI_Tx hx c71]; rfl)))
          · refine x_iload_n C dX6_leastLetter_69 3 rfl rfl ?_
            refine x_iload_n C dX6_leastLetter_70 4 rfl rfl ?_
            refine x_if_eq (tgt := 79) C dX6_leastLetter_71 (by decide) (fun c71 => ?_) (fun c71 => ?_)
            · refine x_bipush (v := nI 32) C dX6_leastLetter_79 (by decide +kernel) ?_
              refine x_iaddN C dX6_leastLetter_81 ?_
              refine x_istore_n (lv' := [(2, .int (nI (l + 32))), (5, .int (nI (tk nx k))), (4, .int (nI k)), (3, .int (szF ms sz nx)), (1, .int x), (0, .ref (A S))]) C dX6_leastLetter_82 rfl (Nat.lt_of_lt_of_eq (by decide) hN.symm) rfl ?_
              refine x_goto (tgt := 88) C dX6_leastLetter_83 (by decide) ?_
              refine x_iinc (v := nI (k + 1)) (lv' := [(4, .int (nI (k + 1))), (2, .int (nI (l + 32))), (5, .int (nI (tk nx k))), (3, .int (szF ms sz nx)), (1, .int x), (0, .ref (A S))]) C dX6_leastLetter_88 2 rfl (nI_inc 1) (Nat.lt_of_lt_of_eq (by decide) hN.symm) rfl ?_
              refine x_goto (tgt := 28) C dX6_leastLetter_91 (by decide) ?_
              refine x_sub (lv' := _) [0, 3, 1, 4, 5] rfl ?_
              exact ih28 x (l + 32) (k + 1) (by omega) (by unfold szN; rw [if_pos hmk.1]; omega) (by omega) (by show _ = bI (lsT (lsK (hkS σ) (tk nx) k) (tk nx k)).1; unfold lsT; first | (rw [if_pos c54]; exact hx) | (rw [if_neg c54, if_pos c66]; exact hx) | (rw [if_neg c54, if_neg c66]; rfl)) (by show _ = (lsT (lsK (hkS σ) (tk nx) k) (tk nx k)).2; unfold lsT; first | (rw [if_pos c54, hl]; done) | (rw [if_neg c54, if_neg c66]; exact hl) | (rw [if_neg c54, if_pos c66, hl]; first | (rw [bI_Fx hx c71]; rfl) | (rw [bI_Tx hx c71]; rfl)))
            · refine x_bipush (v := nI 48) C dX6_leastLetter_74 (by decide +kernel) ?_
              refine x_goto (tgt := 81) C dX6_leastLetter_76 (by decide) ?_
              refine x_iaddN C dX6_leastLetter_81 ?_
              refine x_istore_n (lv' := [(2, .int (nI (l + 48))), (5, .int (nI (tk nx k))), (4, .int (nI k)), (3, .int (szF ms sz nx)), (1, .int x), (0, .ref (A S))]) C dX6_leastLetter_82 rfl (Nat.lt_of_lt_of_eq (by decide) hN.symm) rfl ?_
              refine x_goto (tgt := 88) C dX6_leastLetter_83 (by decide) ?_
              refine x_iinc (v := nI (k + 1)) (lv' := [(4, .int (nI (k + 1))), (2, .int (nI (l + 48))), (5, .int (nI (tk nx k))), (3, .int (szF ms sz nx)), (1, .int x), (0, .ref (A S))]) C dX6_leastLetter_88 2 rfl (nI_inc 1) (Nat.lt_of_lt_of_eq (by decide) hN.symm) rfl ?_
              refine x_goto (tgt := 28) C dX6_leastLetter_91 (by decide) ?_
              refine x_sub (lv' := _) [0, 3, 1, 4, 5] rfl ?_
              exact ih28 x (l + 48) (k + 1) (by omega) (by unfold szN; rw [if_pos hmk.1]; omega) (by omega) (by show _ = bI (lsT (lsK (hkS σ) (tk nx) k) (tk nx k)).1; unfold lsT; first | (rw [if_pos c54]; exact hx) | (rw [if_neg c54, if_pos c66]; exact hx) | (rw [if_neg c54, if_neg c66]; rfl)) (by show _ = (lsT (lsK (hkS σ) (tk nx) k) (tk nx k)).2; unfold lsT; first | (rw [if_pos c54, hl]; done) | (rw [if_neg c54, if_neg c66]; exact hl) | (rw [if_neg c54, if_pos c66, hl]; first | (rw [bI_Fx hx c71]; rfl) | (rw [bI_Tx hx c71]; rfl)))
        · refine x_iinc (v := nI (l + 32)) (lv' := [(2, .int (nI (l + 32))), (5, .int (nI (tk nx k))), (4, .int (nI k)), (3, .int (szF ms sz nx)), (1, .int x), (0, .ref (A S))]) C dX6_leastLetter_57 3 rfl (nI_inc 32) (Nat.lt_of_lt_of_eq (by decide) hN.symm) rfl ?_
          refine x_goto (tgt := 88) C dX6_leastLetter_60 (by decide) ?_
          refine x_iinc (v := nI (k + 1)) (lv' := [(4, .int (nI (k + 1))), (2, .int (nI (l + 32))), (5, .int (nI (tk nx k))), (3, .int (szF ms sz nx)), (1, .int x), (0, .ref (A S))]) C dX6_leastLetter_88 2 rfl (nI_inc 1) (Nat.lt_of_lt_of_eq (by decide) hN.symm) rfl ?_
          refine x_goto (tgt := 28) C dX6_leastLetter_91 (by decide) ?_
          refine x_sub (lv' := _) [0, 3, 1, 4, 5] rfl ?_
          exact ih28 x (l + 32) (k + 1) (by omega) (by unfold szN; rw [if_pos hmk.1]; omega) (by omega) (by show _ = bI (lsT (lsK (hkS σ) (tk nx) k) (tk nx k)).1; unfold lsT; first | (rw [if_pos c54]; exact hx) | (rw [if_neg c54, if_pos c66]; exact hx) | (rw [if_neg c54, if_neg c66]; rfl)) (by show _ = (lsT (lsK (hkS σ) (tk nx) k) (tk nx k)).2; unfold lsT; first | (rw [if_pos c54, hl]; done) | (rw [if_neg c54, if_neg c66]; exact hl) | (rw [if_neg c54, if_pos c66, hl]; first | (rw [bI_Fx hx c71]; rfl) | (rw [bI_Tx hx c71]; rfl)))
  refine x_sub (lv' := _) [0, 1, 2, 3, 4] rfl ?_
  exact L28 _ (bI (hkS σ)) 0 0 (Nat.lt_succ_self _) (Nat.zero_le _) (by omega) rfl rfl

set_option maxHeartbeats 4000000 in
set_option maxRecDepth 100000 in
theorem ok_X6_tell {l : Launch} {a0 : Nat} {D : va_G} {sa : Nat → Nat} {T : Nat → Option hKd} {I : Nat → Nat → Int32} {L : Nat → Nat → Int64} {R : Nat → Nat → Option Nat} {A : Nat → Nat} (S P : Nat) (hSd : isSd T R A a0 S P) (ha : Nat) (hha : I S 2 = nI ha) (ha2 : ha < 2) (hS3 : 300 ≤ S) (hP : isPt T R A a0 P) (kn : Nat → Bool) (ms : Nat) (sz : Nat → Nat) (tk : Nat → Nat → Nat) (hs : Bool) (hI : ptI I P kn ms sz tk hs) (σ : sgT) (hσ : stE σ I (S + 4)) (hb : bS σ) (nx : Nat) (hnx : σ 7 13 = nI nx) (hn31 : nx < 2 ^ 30) (pn : Nat) (hpn : I S 1 = nI pn) (wh : Int32) : hM l a0 D sa yX6_tell cX6_tell 2 (some .int) { frames := 1, cells := 0, slots := 0, locals := 20 } [.ref (A S), .int wh] (T, I, L, R, A) (fun r G' => r = some (.int (abF pn ha nx (decide (ms ≤ nx)) σ wh)) ∧ G' = (T, I, L, R, A)) := by
  refine hM.of (by decide +kernel) (Nat.le_of_ble_eq_true rfl) ?_
  intro z hl h0 hD hS hN C E
  subst hl; subst h0; subst hD; subst hS
  have C : hC z RX6 cX6_tell := C
  have hZ := E.2.2.2.1
  show hX z 0 0 (T, I, L, R, A) [(0, .ref (A S)), (1, .int wh)] 0 []
  have hms6 := hI.2.2.2.1
  refine x_iload_n C dX6_tell_0 1 rfl rfl ?_
  by_cases s1_0 : wh = nI 0
  · refine x_tableIn (off := 51) (tgt := 52) C dX6_tell_1 (by rw [s1_0]; decide +kernel) (by rw [s1_0]; decide +kernel) (by rw [s1_0]; decide +kernel) (by decide) ?_
    refine x_aload_n C dX6_tell_52 0 rfl rfl ?_
    refine x_getiN C fl_X6_36 hSd.1.1 rfl dX6_tell_53 ?_
    refine x_eqi (y := nI pn) hpn ?_
    exact x_iret C E (Nat.le_of_ble_eq_true rfl) (Nat.le_of_ble_eq_true rfl) dX6_tell_56 (⟨by unfold abF; rw [if_pos s1_0], rfl⟩)
  by_cases s1_1 : wh = nI 1
  · refine x_tableIn (off := 56) (tgt := 57) C dX6_tell_1 (by rw [s1_1]; decide +kernel) (by rw [s1_1]; decide +kernel) (by rw [s1_1]; decide +kernel) (by decide) ?_
    refine x_aload_n C dX6_tell_57 0 rfl rfl ?_
    refine x_getiN C fl_X6_40 hSd.1.1 rfl dX6_tell_58 ?_
    refine x_eqi (y := nI ha) hha ?_
    exact x_iret C E (Nat.le_of_ble_eq_true rfl) (Nat.le_of_ble_eq_true rfl) dX6_tell_61 (⟨by unfold abF; rw [if_neg s1_0, if_pos s1_1], rfl⟩)
  by_cases s1_2 : wh = nI 2
  · refine x_tableIn (off := 61) (tgt := 62) C dX6_tell_1 (by rw [s1_2]; decide +kernel) (by rw [s1_2]; decide +kernel) (by rw [s1_2]; decide +kernel) (by decide) ?_
    refine x_aload_n C dX6_tell_62 0 rfl rfl ?_
    refine x_getrN C fl_X6_28 hSd.1.1 rfl hSd.2.1.2.2.2.2 dX6_tell_63 ?_
    refine x_getiN C fl_X6_46 hSd.2.2.2.1 rfl dX6_tell_66 ?_
    refine x_eqi (y := nI nx) ((hσ.2 13 (by decide) (by decide)).trans hnx) ?_
    exact x_iret C E (Nat.le_of_ble_eq_true rfl) (Nat.le_of_ble_eq_true rfl) dX6_tell_69 (⟨by unfold abF; rw [if_neg s1_0, if_neg s1_1, if_pos s1_2], rfl⟩)
  by_cases s1_3 : wh = nI 3
  · refine x_tableIn (off := 69) (tgt := 70) C dX6_tell_1 (by rw [s1_3]; decide +kernel) (by rw [s1_3]; decide +kernel) (by rw [s1_3]; decide +kernel) (by decide) ?_
    refine x_aload_n C dX6_tell_70 0 rfl rfl ?_
    refine x_callV C (ok_X6_isDone S P hSd hP.1.1 ms nx ha hI.1.2.2.1 ((hσ.2 13 (by decide) (by decide)).trans hnx) hha ⟨by omega, by omega, ha2⟩) mv_X6_isDone ml_X6_63 hSd.1.1 rfl rfl rfl (Nat.le_of_ble_eq_true rfl) (hrm (rm := { frames := 0, cells := 0, slots := 0, locals := 0 }) hZ ⟨Nat.le_of_ble_eq_true rfl, Nat.le_of_ble_eq_true rfl⟩) (hcs hZ ⟨Nat.le_of_ble_eq_true rfl, Nat.le_of_ble_eq_true rfl⟩) dX6_tell_71 (fun v G' hp => ?_)
    obtain ⟨rfl, rfl⟩ := hp
    show hX z 0 0 (T, I, L, R, A) [(0, .ref (A S)), (1, .int wh)] 74 [.int (bI (decide (ms ≤ nx)))]
    refine x_if_eq (tgt := 81) C dX6_tell_74 (by decide) (fun c74 => ?_) (fun c74 => ?_)
    · refine x_iconst (v := nI 0) C dX6_tell_81 (by decide +kernel) ?_
      exact x_iret C E (Nat.le_of_ble_eq_true rfl) (Nat.le_of_ble_eq_true rfl) dX6_tell_82 (⟨by unfold abF; rw [if_neg s1_0, if_neg s1_1, if_neg s1_2, if_pos s1_3]; first | (rw [bI_F c74]; rfl) | (rw [bI_T c74]; rfl), rfl⟩)
    · refine x_iconst (v := nI 1) C dX6_tell_77 (by decide +kernel) ?_
      refine x_goto (tgt := 82) C dX6_tell_78 (by decide) ?_
      exact x_iret C E (Nat.le_of_ble_eq_true rfl) (Nat.le_of_ble_eq_true rfl) dX6_tell_82 (⟨by unfold abF; rw [if_neg s1_0, if_neg s1_1, if_neg s1_2, if_pos s1_3]; first | (rw [bI_F c74]; rfl) | (rw [bI_T c74]; rfl), rfl⟩)
  by_cases s1_4 : wh = nI 4
  · refine x_tableIn (off := 82) (tgt := 83) C dX6_tell_1 (by rw [s1_4]; decide +kernel) (by rw [s1_4]; decide +kernel) (by rw [s1_4]; decide +kernel) (by decide) ?_
    refine x_aload_n C dX6_tell_83 0 rfl rfl ?_
    refine x_getrN C fl_X6_28 hSd.1.1 rfl hSd.2.1.2.2.2.2 dX6_tell_84 ?_
    refine x_getiN C fl_X6_52 hSd.2.2.2.1 rfl dX6_tell_87 ?_
    refine x_eqi (y := σ 7 7) (hσ.2 7 (by decide) (by decide)) ?_
    refine x_if_eq (tgt := 97) C dX6_tell_90 (by decide) (fun c90 => ?_) (fun c90 => ?_)
    · refine x_iconst (v := nI 0) C dX6_tell_97 (by decide +kernel) ?_
      exact x_iret C E (Nat.le_of_ble_eq_true rfl) (Nat.le_of_ble_eq_true rfl) dX6_tell_98 (⟨by unfold abF; rw [if_neg s1_0, if_neg s1_1, if_neg s1_2, if_neg s1_3, if_pos s1_4]; first | (rw [c90]; rfl) | (rw [b01_T (hb.2.2.2 7 (by decide) (by decide)) c90]), rfl⟩)
    · refine x_iconst (v := nI 1) C dX6_tell_93 (by decide +kernel) ?_
      refine x_goto (tgt := 98) C dX6_tell_94 (by decide) ?_
      exact x_iret C E (Nat.le_of_ble_eq_true rfl) (Nat.le_of_ble_eq_true rfl) dX6_tell_98 (⟨by unfold abF; rw [if_neg s1_0, if_neg s1_1, if_neg s1_2, if_neg s1_3, if_pos s1_4]; first | (rw [c90]; rfl) | (rw [b01_T (hb.2.2.2 7 (by decide) (by decide)) c90]), rfl⟩)
  by_cases s1_5 : wh = nI 5
  · refine x_tableIn (off := 98) (tgt := 99) C dX6_tell_1 (by rw [s1_5]; decide +kernel) (by rw [s1_5]; decide +kernel) (by rw [s1_5]; decide +kernel) (by decide) ?_
    refine x_aload_n C dX6_tell_99 0 rfl rfl ?_
    refine x_getrN C fl_X6_28 hSd.1.1 rfl hSd.2.1.2.2.2.2 dX6_tell_100 ?_
    refine x_getiN C fl_X6_67 hSd.2.2.2.1 rfl dX6_tell_103 ?_
    refine x_eqi (y := σ 7 10) (hσ.2 10 (by decide) (by decide)) ?_
    exact x_iret C E (Nat.le_of_ble_eq_true rfl) (Nat.le_of_ble_eq_true rfl) dX6_tell_106 (⟨by unfold abF; rw [if_neg s1_0, if_neg s1_1, if_neg s1_2, if_neg s1_3, if_neg s1_4, if_pos s1_5], rfl⟩)
  by_cases s1_6 : wh = nI 6
  · refine x_tableIn (off := 106) (tgt := 107) C dX6_tell_1 (by rw [s1_6]; decide +kernel) (by rw [s1_6]; decide +kernel) (by rw [s1_6]; decide +kernel) (by decide) ?_
    refine x_aload_n C dX6_tell_107 0 rfl rfl ?_
    refine x_getrN C fl_X6_28 hSd.1.1 rfl hSd.2.1.2.2.2.2 dX6_tell_108 ?_
    refine x_getiN C fl_X6_70 hSd.2.2.2.1 rfl dX6_tell_111 ?_
    refine x_eqi (y := σ 7 8) (hσ.2 8 (by decide) (by decide)) ?_
    refine x_if_eq (tgt := 121) C dX6_tell_114 (by decide) (fun c114 => ?_) (fun c114 => ?_)
    · refine x_iconst (v := nI 0) C dX6_tell_121 (by decide +kernel) ?_
      exact x_iret C E (Nat.le_of_ble_eq_true rfl) (Nat.le_of_ble_eq_true rfl) dX6_tell_122 (⟨by unfold abF; rw [if_neg s1_0, if_neg s1_1, if_neg s1_2, if_neg s1_3, if_neg s1_4, if_neg s1_5, if_pos s1_6]; first | (rw [c114]; rfl) | (rw [b01_T (hb.2.2.2 8 (by decide) (by decide)) c114]), rfl⟩)
    · refine x_iconst (v := nI 1) C dX6_tell_117 (by decide +kernel) ?_
      refine x_goto (tgt := 122) C dX6_tell_118 (by decide) ?_
      exact x_iret C E (Nat.le_of_ble_eq_true rfl) (Nat.le_of_ble_eq_true rfl) dX6_tell_122 (⟨by unfold abF; rw [if_neg s1_0, if_neg s1_1, if_neg s1_2, if_neg s1_3, if_neg s1_4, if_neg s1_5, if_pos s1_6]; first | (rw [c114]; rfl) | (rw [b01_T (hb.2.2.2 8 (by decide) (by decide)) c114]), rfl⟩)
  by_cases s1_7 : wh = nI 7
  · refine x_tableIn (off := 122) (tgt := 123) C dX6_tell_1 (by rw [s1_7]; decide +kernel) (by rw [s1_7]; decide +kernel) (by rw [s1_7]; decide +kernel) (by decide) ?_
    refine x_aload_n C dX6_tell_123 0 rfl rfl ?_
    refine x_getrN C fl_X6_28 hSd.1.1 rfl hSd.2.1.2.2.2.2 dX6_tell_124 ?_
    refine x_getiN C fl_X6_73 hSd.2.2.2.1 rfl dX6_tell_127 ?_
    refine x_eqi (y := σ 7 9) (hσ.2 9 (by decide) (by decide)) ?_
    refine x_if_eq (tgt := 137) C dX6_tell_130 (by decide) (fun c130 => ?_) (fun c130 => ?_)
    · refine x_iconst (v := nI 0) C dX6_tell_137 (by decide +kernel) ?_
      exact x_iret C E (Nat.le_of_ble_eq_true rfl) (Nat.le_of_ble_eq_true rfl) dX6_tell_138 (⟨by unfold abF; rw [if_neg s1_0, if_neg s1_1, if_neg s1_2, if_neg s1_3, if_neg s1_4, if_neg s1_5, if_neg s1_6, if_pos s1_7]; first | (rw [c130]; rfl) | (rw [b01_T (hb.2.2.2 9 (by decide) (by decide)) c130]), rfl⟩)
    · refine x_iconst (v := nI 1) C dX6_tell_133 (by decide +kernel) ?_
      refine x_goto (tgt := 138) C dX6_tell_134 (by decide) ?_
      exact x_iret C E (Nat.le_of_ble_eq_true rfl) (Nat.le_of_ble_eq_true rfl) dX6_tell_138 (⟨by unfold abF; rw [if_neg s1_0, if_neg s1_1, if_neg s1_2, if_neg s1_3, if_neg s1_4, if_neg s1_5, if_neg s1_6, if_pos s1_7]; first | (rw [c130]; rfl) | (rw [b01_T (hb.2.2.2 9 (by decide) (by decide)) c130]), rfl⟩)
  by_cases s1_8 : wh = nI 8
  · refine x_tableIn (off := 138) (tgt := 139) C dX6_tell_1 (by rw [s1_8]; decide +kernel) (by rw [s1_8]; decide +kernel) (by rw [s1_8]; decide +kernel) (by decide) ?_
    refine x_aload_n C dX6_tell_139 0 rfl rfl ?_
    refine x_getrN C fl_X6_28 hSd.1.1 rfl hSd.2.1.2.2.2.2 dX6_tell_140 ?_
    refine x_getiN C fl_X6_76 hSd.2.2.2.1 rfl dX6_tell_143 ?_
    refine x_eqi (y := σ 7 12) (hσ.2 12 (by decide) (by decide)) ?_
    exact x_iret C E (Nat.le_of_ble_eq_true rfl) (Nat.le_of_ble_eq_true rfl) dX6_tell_146 (⟨by unfold abF; rw [if_neg s1_0, if_neg s1_1, if_neg s1_2, if_neg s1_3, if_neg s1_4, if_neg s1_5, if_neg s1_6, if_neg s1_7, if_pos s1_8], rfl⟩)
  refine x_tableOut (tgt := 147) C dX6_tell_1 (sw_out8 s1_0 s1_1 s1_2 s1_3 s1_4 s1_5 s1_6 s1_7 s1_8) (by decide) ?_
  refine x_bipush (v := (-2)) C dX6_tell_147 (by decide +kernel) ?_
  exact x_iret C E (Nat.le_of_ble_eq_true rfl) (Nat.le_of_ble_eq_true rfl) dX6_tell_149 (⟨by unfold abF; rw [if_neg s1_0, if_neg s1_1, if_neg s1_2, if_neg s1_3, if_neg s1_4, if_neg s1_5, if_neg s1_6, if_neg s1_7, if_neg s1_8], rfl⟩)

