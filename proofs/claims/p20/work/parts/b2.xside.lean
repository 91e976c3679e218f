/-! ===== StepShake: side ===== -/
def secV (sv : Int32) : Nat → Int32 := if sv = -1 then fun _ => nI 0 else secF sv (nI 0)
def pubV (sv : Int32) : Nat → Int32 := if sv = -1 then fun _ => nI 0 else pubF (secF sv (nI 0))
def sg0 : sgT := fun _ _ => nI 0
/-- a new Side at S of the pattern at P -/
def nwS (a0 S P pn ha : Nat) (ev : Int32) (T : Nat → Option hKd) (I : Nat → Nat → Int32) (R : Nat → Nat → Option Nat) (A : Nat → Nat) (T1 : Nat → Option hKd) (I1 : Nat → Nat → Int32) (R1 : Nat → Nat → Option Nat) (A1 : Nat → Nat) : Prop := (∀ q, ¬ (S ≤ q ∧ q < S + 12) → T1 q = T q ∧ R1 q = R q ∧ A1 q = A q ∧ I1 q = I q) ∧ (∀ p j q, R1 p j = some q → R p j = some q ∨ (S ≤ q ∧ q < S + 12) ∨ q = P) ∧ isSd T1 R1 A1 a0 S P ∧ (I1 S 1 = nI pn ∧ I1 S 2 = nI ha ∧ I1 S 3 = ev ∧ I1 S 7 = nI 0) ∧ ∀ k, 1 ≤ k → k < 12 → ∀ j, I1 (S + k) j = 0
def mdS (S P ha : Nat) (sv ov : Int32) (kn : Nat → Bool) (ns : Nat) (I1 : Nat → Nat → Int32) (R1 : Nat → Nat → Option Nat) (I' : Nat → Nat → Int32) (R' : Nat → Nat → Option Nat) : Prop := stE (opB kn ha (pubV sv) (pubV ov) (decide (ov ≠ -1)) sg0) I' (S + 4) ∧ (∀ j, j < 32 → I' (S + 1) j = secV sv j) ∧ (∀ j, j < 32 → I' (S + 2) j = pubV sv j) ∧ (∀ j, j < 32 → I' (S + 3) j = pubV ov j) ∧ (I' S 1 = I1 S 1 ∧ I' S 2 = I1 S 2 ∧ I' S 3 = I1 S 3 ∧ I' S 7 = bI (decide (ov ≠ -1))) ∧ I' P = upd (I1 P) 5 (nI 1) ∧ I' 100 = upd (I1 100) 8 (nI (ns + 1)) ∧ fx [100, 111, 112, 113, 122, 151, P, S, S + 1, S + 2, S + 3, S + 4, S + 4 + 1 + 0, S + 4 + 1 + 1, S + 4 + 1 + 6] I1 I' ∧ (∀ q, q ≠ 121 → q ≠ 102 → R' q = R1 q) ∧ (∀ k, k < 2 ∨ 5 < k → R' 121 k = R1 121 k) ∧ R' 102 = va_up (R1 102) ns (some S) ∧ ∃ p q r s, cv4 R' p q r s
theorem stE_0 {I : Nat → Nat → Int32} {u : Nat} (h : ∀ k, k < 8 → ∀ j, I (u + k) j = 0) : stE sg0 I u := ⟨fun k hk j _ => by rw [show u + 1 + k = u + (1 + k) by omega]; exact h _ (by omega) j, fun f _ _ => h 0 (by decide) f⟩
section HXS
variable {z : hZ} {own : String} {cc : ByteArray} {cells slots pc : Nat} {T : Nat → Option hKd} {I : Nat → Nat → Int32} {L : Nat → Nat → Int64} {R : Nat → Nat → Option Nat} {A : Nat → Nat} {lv : List (Nat × Value)} {rest : List Value}
theorem x_aastN (C : hC z own cc) {a v i N ci : Nat} {Cn : String} (hT : T a = some (.inl (.object Cn, N))) (hv : T v = some (.inr ci)) (hcn : vwCl[ci]?.map (fun w => w.1) = some Cn) (h0 : z0 z ≤ A a) (hi : i < N) (hN : N < 2 ^ 31) (d : decode cc pc = .ok (.aastore, 1)) (kk : ∀ R1, R1 = va_up R a (va_up (R a) i (some v)) → hX z cells slots (T, I, L, R1, A) lv (pc + 1) rest) : hX z cells slots (T, I, L, R, A) lv pc (.ref (A v) :: .int (nI i) :: .ref (A a) :: rest) := x_aast (G := (T, I, L, R, A)) C hT hv hcn h0 hi hN d (kk _ rfl)
end HXS
theorem nwS_of {a0 S P pn ha a : Nat} {ev : Int32} {G Gm : hG} (b : blt a0 S (S + 1) (S + 1 + 11) 400 9 iv0 [(S + 1, .inl (.int, 32)), (S + 1 + 1, .inl (.int, 32)), (S + 1 + 2, .inl (.int, 32)), (S + 1 + 3, .inr 7), (S + 1 + 4, .inl (.int, 32)), (S + 1 + 5, .inl (.int, 32)), (S + 1 + 6, .inl (.int, 32)), (S + 1 + 7, .inl (.int, 32)), (S + 1 + 8, .inl (.int, 32)), (S + 1 + 9, .inl (.int, 32)), (S + 1 + 10, .inl (.int, 32))] [(S, 4, S + 1), (S, 5, S + 1 + 1), (S, 6, S + 1 + 2), (S + 1 + 3, 0, S + 1 + 4), (S + 1 + 3, 1, S + 1 + 5), (S + 1 + 3, 2, S + 1 + 6), (S + 1 + 3, 3, S + 1 + 7), (S + 1 + 3, 4, S + 1 + 8), (S + 1 + 3, 5, S + 1 + 9), (S + 1 + 3, 6, S + 1 + 10), (S, 8, S + 1 + 3)] (gNw G S (.inr 6) a) Gm) (hA : a0 ≤ a) : nwS a0 S P pn ha ev G.1 G.2.1 G.2.2.2.1 G.2.2.2.2 (gI (gI (gI (gR Gm S 0 (some P)) S 1 (nI pn)) S 2 (nI ha)) S 3 ev).1 (gI (gI (gI (gR Gm S 0 (some P)) S 1 (nI pn)) S 2 (nI ha)) S 3 ev).2.1 (gI (gI (gI (gR Gm S 0 (some P)) S 1 (nI pn)) S 2 (nI ha)) S 3 ev).2.2.2.1 (gI (gI (gI (gR Gm S 0 (some P)) S 1 (nI pn)) S 2 (nI ha)) S 3 ev).2.2.2.2 := by
  have k1 := b.2.2.2.1 (S + 1, .inl (.int, 32)) (by simp)
  have k2 := b.2.2.2.1 (S + 1 + 1, .inl (.int, 32)) (by simp)
  have k3 := b.2.2.2.1 (S + 1 + 2, .inl (.int, 32)) (by simp)
  have k4 := b.2.2.2.1 (S + 1 + 3, .inr 7) (by simp)
  have k5 := b.2.2.2.1 (S + 1 + 4, .inl (.int, 32)) (by simp)
  have k6 := b.2.2.2.1 (S + 1 + 5, .inl (.int, 32)) (by simp)
  have k7 := b.2.2.2.1 (S + 1 + 6, .inl (.int, 32)) (by simp)
  have k8 := b.2.2.2.1 (S + 1 + 7, .inl (.int, 32)) (by simp)
  have k9 := b.2.2.2.1 (S + 1 + 8, .inl (.int, 32)) (by simp)
  have k10 := b.2.2.2.1 (S + 1 + 9, .inl (.int, 32)) (by simp)
  have k11 := b.2.2.2.1 (S + 1 + 10, .inl (.int, 32)) (by simp)
  have r0 := (b.2.2.2.2 (S, 4, S + 1) (by simp)).1
  have r1 := (b.2.2.2.2 (S, 5, S + 1 + 1) (by simp)).1
  have r2 := (b.2.2.2.2 (S, 6, S + 1 + 2) (by simp)).1
  have r3 := (b.2.2.2.2 (S, 8, S + 1 + 3) (by simp)).1
  have r4 := (b.2.2.2.2 (S + 1 + 3, 0, S + 1 + 4) (by simp)).1
  have r5 := (b.2.2.2.2 (S + 1 + 3, 1, S + 1 + 5) (by simp)).1
  have r6 := (b.2.2.2.2 (S + 1 + 3, 2, S + 1 + 6) (by simp)).1
  have r7 := (b.2.2.2.2 (S + 1 + 3, 3, S + 1 + 7) (by simp)).1
  have r8 := (b.2.2.2.2 (S + 1 + 3, 4, S + 1 + 8) (by simp)).1
  have r9 := (b.2.2.2.2 (S + 1 + 3, 5, S + 1 + 9) (by simp)).1
  have r10 := (b.2.2.2.2 (S + 1 + 3, 6, S + 1 + 10) (by simp)).1
  have ho := b.old
  have hS6 : Gm.1 S = some (.inr 6) := ho.1.trans (va_up_same _ _ _)
  have hSA : a0 ≤ Gm.2.2.2.2 S := by rw [ho.2.1, show (gNw G S (.inr 6) a).2.2.2.2 S = a from va_up_same _ _ _]; exact hA
  have hSI : ∀ j, Gm.2.1 S j = 0 := fun j => by rw [ho.2.2.2, show (gNw G S (.inr 6) a).2.1 S = fun _ => 0 from va_up_same _ _ _]
  refine ⟨fun q hq => ?_, fun p j q e => ?_, ?_, ?_, fun k h1 h2 => ?_⟩
  · have h1 := b.2.1 q (by omega)
    have hqS : q ≠ S := by omega
    refine ⟨h1.1.trans (va_up_other _ _ hqS), ?_, h1.2.1.trans (va_up_other _ _ hqS), ?_⟩
    · show va_up Gm.2.2.2.1 S _ q = _
      rw [va_up_other _ _ hqS, h1.2.2.2.2 hqS]; exact va_up_other _ _ hqS
    · show va_up (va_up (va_up Gm.2.1 S _) S _) S _ q = _
      rw [va_up_other _ _ hqS, va_up_other _ _ hqS, va_up_other _ _ hqS, h1.2.2.2.1]; exact va_up_other _ _ hqS
  · have e : va_up Gm.2.2.2.1 S (va_up (Gm.2.2.2.1 S) 0 (some P)) p j = some q := e
    have h9 : Gm.2.2.2.1 p j = some q → G.2.2.2.1 p j = some q ∨ (S ≤ q ∧ q < S + 12) ∨ q = P := by
      intro e
      rcases b.2.2.1 p j q e with e | e
      · by_cases hp : p = S
        · subst hp
          rw [show (gNw G p (.inr 6) a).2.2.2.1 p = fun _ => none from va_up_same _ _ _] at e
          cases e
        · rw [show (gNw G S (.inr 6) a).2.2.2.1 p = G.2.2.2.1 p from va_up_other _ _ hp] at e
          exact Or.inl e
      · exact Or.inr (Or.inl (by omega))
    by_cases hp : p = S
    · subst hp
      rw [va_up_same] at e
      by_cases hj : j = 0
      · subst hj
        rw [va_up_same] at e
        cases e
        exact Or.inr (Or.inr rfl)
      · rw [va_up_other _ _ hj] at e
        exact h9 e
    · rw [va_up_other _ _ hp] at e
      exact h9 e
  · have hn : ∀ q, q ≠ S → va_up Gm.2.2.2.1 S (va_up (Gm.2.2.2.1 S) 0 (some P)) q = Gm.2.2.2.1 q := fun q hq => va_up_other _ _ hq
    have hf : ∀ j, j ≠ 0 → va_up Gm.2.2.2.1 S (va_up (Gm.2.2.2.1 S) 0 (some P)) S j = Gm.2.2.2.1 S j := fun j hj => by rw [va_up_same, va_up_other _ _ hj]
    refine ⟨⟨hS6, hSA⟩, ⟨?_, ?_, ?_, ?_, ?_⟩, fun j h1 h2 => ?_, k4.1, k4.2.2.1, fun j hj => ?_⟩
    · show va_up Gm.2.2.2.1 S _ S 0 = _; rw [va_up_same, va_up_same]
    · exact (hf 4 (by decide)).trans r0
    · exact (hf 5 (by decide)).trans r1
    · exact (hf 6 (by decide)).trans r2
    · exact (hf 8 (by decide)).trans r3
    · rcases (show j = 1 ∨ j = 2 ∨ j = 3 by omega) with rfl | rfl | rfl
      · exact ⟨k1.1, k1.2.2.1⟩
      · exact ⟨k2.1, k2.2.2.1⟩
      · exact ⟨k3.1, k3.2.2.1⟩
    · have hx := congrFun (hn (S + 4) (by omega))
      rcases lt7 hj with rfl | rfl | rfl | rfl | rfl | rfl | rfl
      · exact ⟨(hx 0).trans r4, k5.1, k5.2.2.1⟩
      · exact ⟨(hx 1).trans r5, k6.1, k6.2.2.1⟩
      · exact ⟨(hx 2).trans r6, k7.1, k7.2.2.1⟩
      · exact ⟨(hx 3).trans r7, k8.1, k8.2.2.1⟩
      · exact ⟨(hx 4).trans r8, k9.1, k9.2.2.1⟩
      · exact ⟨(hx 5).trans r9, k10.1, k10.2.2.1⟩
      · exact ⟨(hx 6).trans r10, k11.1, k11.2.2.1⟩
  · refine ⟨?_, ?_, ?_, ?_⟩
    · show va_up (va_up (va_up Gm.2.1 S _) S _) S _ S 1 = _
      simp [va_up, upd, gI]
    · show va_up (va_up (va_up Gm.2.1 S _) S _) S _ S 2 = _
      simp [va_up, upd, gI]
    · show va_up (va_up (va_up Gm.2.1 S _) S _) S _ S 3 = _
      simp [va_up, upd, gI]
    · show va_up (va_up (va_up Gm.2.1 S _) S _) S _ S 7 = _
      simp [va_up, upd, gI, gR]
      exact hSI 7
  · rcases (show k = 1 ∨ k = 2 ∨ k = 3 ∨ k = 4 ∨ k = 5 ∨ k = 6 ∨ k = 7 ∨ k = 8 ∨ k = 9 ∨ k = 10 ∨ k = 11 by omega) with rfl | rfl | rfl | rfl | rfl | rfl | rfl | rfl | rfl | rfl | rfl
    · exact fun j => by show va_up (va_up (va_up Gm.2.1 S _) S _) S _ (S + 1) j = 0; rw [va_up_other _ _ (by omega), va_up_other _ _ (by omega), va_up_other _ _ (by omega)]; exact k1.2.2.2.1 j
    · exact fun j => by show va_up (va_up (va_up Gm.2.1 S _) S _) S _ (S + 2) j = 0; rw [va_up_other _ _ (by omega), va_up_other _ _ (by omega), va_up_other _ _ (by omega)]; exact k2.2.2.2.1 j
    · exact fun j => by show va_up (va_up (va_up Gm.2.1 S _) S _) S _ (S + 3) j = 0; rw [va_up_other _ _ (by omega), va_up_other _ _ (by omega), va_up_other _ _ (by omega)]; exact k3.2.2.2.1 j
    · exact fun j => by show va_up (va_up (va_up Gm.2.1 S _) S _) S _ (S + 4) j = 0; rw [va_up_other _ _ (by omega), va_up_other _ _ (by omega), va_up_other _ _ (by omega)]; exact k4.2.2.2.1 j
    · exact fun j => by show va_up (va_up (va_up Gm.2.1 S _) S _) S _ (S + 5) j = 0; rw [va_up_other _ _ (by omega), va_up_other _ _ (by omega), va_up_other _ _ (by omega)]; exact k5.2.2.2.1 j
    · exact fun j => by show va_up (va_up (va_up Gm.2.1 S _) S _) S _ (S + 6) j = 0; rw [va_up_other _ _ (by omega), va_up_other _ _ (by omega), va_up_other _ _ (by omega)]; exact k6.2.2.2.1 j
    · exact fun j => by show va_up (va_up (va_up Gm.2.1 S _) S _) S _ (S + 7) j = 0; rw [va_up_other _ _ (by omega), va_up_other _ _ (by omega), va_up_other _ _ (by omega)]; exact k7.2.2.2.1 j
    · exact fun j => by show va_up (va_up (va_up Gm.2.1 S _) S _) S _ (S + 8) j = 0; rw [va_up_other _ _ (by omega), va_up_other _ _ (by omega), va_up_other _ _ (by omega)]; exact k8.2.2.2.1 j
    · exact fun j => by show va_up (va_up (va_up Gm.2.1 S _) S _) S _ (S + 9) j = 0; rw [va_up_other _ _ (by omega), va_up_other _ _ (by omega), va_up_other _ _ (by omega)]; exact k9.2.2.2.1 j
    · exact fun j => by show va_up (va_up (va_up Gm.2.1 S _) S _) S _ (S + 10) j = 0; rw [va_up_other _ _ (by omega), va_up_other _ _ (by omega), va_up_other _ _ (by omega)]; exact k10.2.2.2.1 j
    · exact fun j => by show va_up (va_up (va_up Gm.2.1 S _) S _) S _ (S + 11) j = 0; rw [va_up_other _ _ (by omega), va_up_other _ _ (by omega), va_up_other _ _ (by omega)]; exact k11.2.2.2.1 j
set_option maxHeartbeats 4000000 in
set_option maxRecDepth 100000 in
theorem sd_tail {z : hZ} {post : Option Value → hG → Prop} (C : hC z RX10 cX10_side) (E : hE z yX10_side (some .int) { frames := 7, cells := 12, slots := 343, locals := 230 } post) (hN : zn z = 8) {T : Nat → Option hKd} {I : Nat → Nat → Int32} {L : Nat → Nat → Int64} {R : Nat → Nat → Option Nat} {A : Nat → Nat} (xO : isX T R A (z0 z)) (hsa : ∀ k, k < 5 → zS z k = A (90 + k)) (S P : Nat) (hSd : isSd T R A (z0 z) S P) (ha : Nat) (hha : I S 2 = nI ha) (ha2 : ha < 2) (hS3 : 300 ≤ S) (hP : isPt T R A (z0 z) P) (kn : Nat → Bool) (ms : Nat) (sz : Nat → Nat) (tk : Nat → Nat → Nat) (hs : Bool) (hI : ptI I P kn ms sz tk hs) (hP2 : P + 10 ≤ 300) (hP1 : 200 ≤ P) (hst : stI I) (cp cq cr cs : Nat) (h4 : cv4 R cp cq cr cs) (p ns : Nat) (hns : I 100 8 = nI ns) (hn4 : ns < 4) (sv ov ev : Int32) (hz : ∀ k, 1 ≤ k → k < 12 → ∀ j, I (S + k) j = 0) (hS7 : I S 7 = nI 0) (hfin : ∀ I' L' R', mdS S P ha sv ov kn ns I R I' R' → post (some (.int (nI ns))) (T, I', L', R', A)) : hX z 12 343 (T, I, L, R, A) [(7, .ref (A S)), (6, .ref (A P)), (0, .ref (A 100)), (1, .int (nI p)), (2, .int (nI ha)), (3, .int sv), (4, .int ov), (5, .int ev)] 118 [] := by
  have hZ := E.2.2.2.1
  refine x_aload_n C dX10_side_118 2 rfl rfl ?_
  refine x_getrN C fl_X10_39 (xO.1 100 _ rfl).1 rfl (xO.2.1 100 5 _ rfl) dX10_side_119 ?_
  refine x_aload C dX10_side_122 0 rfl ?_
  refine x_iload_n C dX10_side_124 5 rfl rfl ?_
  refine x_iload C dX10_side_125 6 rfl ?_
  refine x_callV C (ok_X9_giveKeys xO hsa S P hSd ha hha ha2 hS3 cp cq cr cs h4 hst sv ov) mv_X9_giveKeys ml_X10_89 (xO.1 109 _ rfl).1 rfl rfl rfl (Nat.le_of_ble_eq_true rfl) (hrm (rm := { frames := 0, cells := 0, slots := 0, locals := 0 }) hZ ⟨Nat.le_of_ble_eq_true rfl, Nat.le_of_ble_eq_true rfl⟩) (hcs hZ ⟨Nat.le_of_ble_eq_true rfl, Nat.le_of_ble_eq_true rfl⟩) dX10_side_127 (fun v G' hp => ?_)
  obtain ⟨rfl, J1, K1, R1, rfl, ⟨g1, g2⟩, g3, g4, g5, g6, g7⟩ := hp
  have xO := isX.r121 xO g6
  have hSd := isSd.r121 hSd hS3 g6
  have hP := isPt.r121 hP hP1 g6
  have hha1 : J1 S 2 = nI ha := by rw [g4]; split; (· exact hha); (· simp [upd]; exact hha)
  have hI1 := ptI.fx hI g5 (by simp <;> omega) (by simp <;> omega) (fun m hm => (by simp <;> omega))
  have hst1 := g5.st (by intro k hk; simp; omega) hst
  have hwt1 : J1 S 7 = bI (decide (ov ≠ -1)) := by rw [g4]; split; (· rename_i h; rw [h]; exact hS7); (· rename_i h; rw [decide_eq_true h]; simp [upd]; rfl)
  show hX z 12 343 (T, J1, K1, R1, A) [(7, .ref (A S)), (6, .ref (A P)), (0, .ref (A 100)), (1, .int (nI p)), (2, .int (nI ha)), (3, .int sv), (4, .int ov), (5, .int ev)] 130 []
  refine x_aload_n C dX10_side_130 2 rfl rfl ?_
  refine x_getrN C fl_X10_39 (xO.1 100 _ rfl).1 rfl (xO.2.1 100 5 _ rfl) dX10_side_131 ?_
  refine x_aload C dX10_side_134 0 rfl ?_
  refine x_callV C (ok_X9_begin xO hsa S P hSd ha hha1 ha2 hS3 hP kn ms sz tk hs hI1 hP2 hP1 hst1 (decide (ov ≠ -1)) hwt1) mv_X9_begin ml_X10_93 (xO.1 109 _ rfl).1 rfl rfl rfl (Nat.le_of_ble_eq_true rfl) (hrm (rm := { frames := 0, cells := 0, slots := 0, locals := 0 }) hZ ⟨Nat.le_of_ble_eq_true rfl, Nat.le_of_ble_eq_true rfl⟩) (hcs hZ ⟨Nat.le_of_ble_eq_true rfl, Nat.le_of_ble_eq_true rfl⟩) dX10_side_136 (fun v G' hp => ?_)
  obtain ⟨rfl, J2, rfl, b1, b0, b6, bu, bf⟩ := hp
  show hX z 12 343 (T, J2, K1, R1, A) [(7, .ref (A S)), (6, .ref (A P)), (0, .ref (A 100)), (1, .int (nI p)), (2, .int (nI ha)), (3, .int sv), (4, .int ov), (5, .int ev)] 139 []
  refine x_aload C dX10_side_139 1 rfl ?_
  refine x_iconst (v := nI 1) C dX10_side_141 (by decide +kernel) ?_
  refine x_putzN C fl_X10_61 hP.1.1 hP.1.2 rfl (by first | exact Or.inl rfl | exact Or.inr rfl | assumption) dX10_side_142 (fun I1 eI1 => ?_)
  refine x_aload_n C dX10_side_145 2 rfl rfl ?_
  refine x_getrN C fl_X10_17 (xO.1 100 _ rfl).1 rfl (xO.2.1 100 1 _ rfl) dX10_side_146 ?_
  refine x_aload_n C dX10_side_149 2 rfl rfl ?_
  refine x_getiN C fl_X10_51 (xO.1 100 _ rfl).1 rfl dX10_side_150 ?_
  refine x_eqi (y := nI ns) (by rw [eI1, va_up_other _ _ (by omega), bf 100 (by simp <;> omega), g5 100 (by simp <;> omega)]; exact hns) ?_
  refine x_aload C dX10_side_153 0 rfl ?_
  refine x_aastN C (xO.1 102 _ rfl).1 hSd.1.1 rfl (xO.1 102 _ rfl).2 (by omega) (by decide) dX10_side_155 (fun R2 eR2 => ?_)
  refine x_aload_n C dX10_side_156 2 rfl rfl ?_
  refine x_dup C dX10_side_157 rfl ?_
  refine x_getiN C fl_X10_51 (xO.1 100 _ rfl).1 rfl dX10_side_158 ?_
  refine x_eqi (y := nI ns) (by rw [eI1, va_up_other _ _ (by omega), bf 100 (by simp <;> omega), g5 100 (by simp <;> omega)]; exact hns) ?_
  refine x_iconst (v := nI 1) C dX10_side_161 (by decide +kernel) ?_
  refine x_iaddN C dX10_side_162 ?_
  refine x_putiN C fl_X10_51 (xO.1 100 _ rfl).1 (xO.1 100 _ rfl).2 rfl dX10_side_163 (fun I3 eI3 => ?_)
  refine x_aload_n C dX10_side_166 2 rfl rfl ?_
  refine x_getiN C fl_X10_51 (xO.1 100 _ rfl).1 rfl dX10_side_167 ?_
  refine x_eqi (y := nI (ns + 1)) (by rw [eI3, va_up_same]; simp [upd]) ?_
  refine x_iconst (v := nI 1) C dX10_side_170 (by decide +kernel) ?_
  refine x_isubN C (by omega) dX10_side_171 ?_
  exact x_iret C E (Nat.le_of_ble_eq_true rfl) (Nat.le_of_ble_eq_true rfl) dX10_side_172 (by
      rw [Nat.add_sub_cancel]
      have bf' : fx [100, 111, 112, 113, 122, 151, P, S, S + 1, S + 2, S + 3, S + 4, S + 4 + 1 + 0, S + 4 + 1 + 1, S + 4 + 1 + 6] J1 J2 := bf.wk (by simp)
      have g5' : fx [100, 111, 112, 113, 122, 151, P, S, S + 1, S + 2, S + 3, S + 4, S + 4 + 1 + 0, S + 4 + 1 + 1, S + 4 + 1 + 6] I J1 := g5.wk (by simp)
      have fA : fx [100, 111, 112, 113, 122, 151, P, S, S + 1, S + 2, S + 3, S + 4, S + 4 + 1 + 0, S + 4 + 1 + 1, S + 4 + 1 + 6] I I3 := by rw [eI3]; refine fx.up ?_ (by simp); rw [eI1]; refine fx.up ?_ (by simp); exact g5'.tr bf' (by simp)
      have oS : ∀ q, 300 ≤ q → q ≠ P → I3 q = J2 q := fun q hq h2 => by rw [eI3, va_up_other _ _ (by omega), eI1, va_up_other _ _ h2]
      have bF : fx [100, P] J2 I3 := by rw [eI3]; refine fx.up ?_ (by simp); rw [eI1]; exact fx.rf.up (by simp)
      have z1 : ∀ j, j < 32 → J1 (S + 2) j = pubV sv j := fun j hj => by rw [g2 j hj]; unfold pubV; split; (· exact hz 2 (by decide) (by decide) j); (· rfl)
      have z2 : ∀ j, j < 32 → J1 (S + 3) j = pubV ov j := fun j hj => by rw [g3 j hj]; unfold pubV; split; (· exact hz 3 (by decide) (by decide) j); (· rfl)
      have s0 : stE sg0 J1 (S + 4) := (stE_0 (fun k hk j => by rw [show S + 4 + k = S + (4 + k) by omega]; exact hz (4 + k) (by omega) (by omega) j) : stE sg0 I (S + 4)).fr g5 (by intro k hk; simp; omega)
      have s1 := (s0.b (kn := kn) (ha := ha) (wt := decide (ov ≠ -1)) z1 z2 b1 b0 b6 bu hS3 bf).fr bF (by intro k hk; simp; omega)
      have e4 : I3 S = J1 S := by rw [oS S (by omega) (by omega), bf S (by simp <;> omega)]
      refine hfin I3 K1 R2 ⟨s1, fun j hj => ?_, fun j hj => ?_, fun j hj => ?_, ⟨?_, ?_, ?_, ?_⟩, ?_, ?_, fA, ?_, ?_, ?_, ?_⟩
      · rw [oS _ (by omega) (by omega), bf (S + 1) (by simp <;> omega), g1 j hj]; unfold secV; split; (· exact hz 1 (by decide) (by decide) j); (· rfl)
      · rw [oS _ (by omega) (by omega), bf (S + 2) (by simp <;> omega)]; exact z1 j hj
      · rw [oS _ (by omega) (by omega), bf (S + 3) (by simp <;> omega)]; exact z2 j hj
      · rw [e4, g4]; split; (· rfl); (· simp [upd])
      · rw [e4, g4]; split; (· rfl); (· simp [upd])
      · rw [e4, g4]; split; (· rfl); (· simp [upd])
      · rw [e4]; exact hwt1
      · rw [eI3, va_up_other _ _ (by omega), eI1, va_up_same, bf P (by simp <;> omega), g5 P (by simp <;> omega)]
      · rw [eI3, va_up_same, eI1, va_up_other _ _ (by omega), bf 100 (by simp <;> omega), g5 100 (by simp <;> omega)]
      · intro q h1 h2; rw [eR2, va_up_other _ _ h2]; exact g6.1 q h1
      · intro k hk; rw [eR2, va_up_other _ _ (by decide)]; exact g6.2 k hk
      · rw [eR2, va_up_same, g6.1 102 (by decide)]
      · obtain ⟨p1, p2, p3, p4, hc4⟩ := g7
        exact ⟨p1, p2, p3, p4, by unfold cv4; rw [eR2, va_up_other _ _ (by decide)]; exact hc4⟩)

def madeS (a0 S P p ha : Nat) (ev sv ov : Int32) (kn : Nat → Bool) (ns : Nat) (G G' : hG) : Prop := ∃ T1 I1 R1 A1, nwS a0 S P p ha ev G.1 G.2.1 G.2.2.2.1 G.2.2.2.2 T1 I1 R1 A1 ∧ ∃ I' L' R', G' = (T1, I', L', R', A1) ∧ mdS S P ha sv ov kn ns I1 R1 I' R'
theorem isX.ext {T T1 : Nat → Option hKd} {R R1 : Nat → Nat → Option Nat} {A A1 : Nat → Nat} {a0 : Nat} (h : isX T R A a0) (e : ∀ q, q < 200 → T1 q = T q ∧ R1 q = R q ∧ A1 q = A q) : isX T1 R1 A1 a0 := by
  have h1 : ∀ k t, xK k = some t → k < 200 := by
    intro k t hk
    unfold xK at hk
    split at hk
    · omega
    · have hl : xKL.length = 56 := rfl
      rcases Nat.lt_or_ge (k - 100) xKL.length with h5 | h5
      · omega
      · rw [List.getD_eq_getElem?_getD, List.getElem?_eq_none h5] at hk; cases hk
  have h2 : ∀ q k r, xRf q k = some r → q < 200 := by
    intro q k r hk
    by_cases hq : q < 200
    · exact hq
    · exfalso
      have : xRf q k = none := by
        unfold xRf
        rw [List.lookup_eq_none_iff]
        intro e he
        have : ∀ e ∈ xRL, e.1.1 < 200 := by decide
        have h9 := this e he
        simp only [bne_iff_ne, ne_eq]
        intro h8
        rw [← h8] at h9
        exact hq h9
      rw [this] at hk; cases hk
  have h3 : ∀ k n, xSt k = some n → k < 200 := by
    intro k n hk
    unfold xSt at hk
    split at hk <;> first | omega | cases hk
  refine ⟨fun k t hk => ?_, fun q k r hk => ?_, fun k n hk => ?_⟩
  · have hq := e k (h1 k t hk)
    rw [hq.1, hq.2.2]; exact h.1 k t hk
  · rw [(e q (h2 q k r hk)).2.1]; exact h.2.1 q k r hk
  · rw [(e k (h3 k n hk)).1]; exact h.2.2 k n hk
theorem isPt.ext {T T1 : Nat → Option hKd} {R R1 : Nat → Nat → Option Nat} {A A1 : Nat → Nat} {a0 P : Nat} (h : isPt T R A a0 P) (e : ∀ q, P ≤ q → q < P + 10 → T1 q = T q ∧ R1 q = R q ∧ A1 q = A q) : isPt T1 R1 A1 a0 P := by
  obtain ⟨⟨a1, a2⟩, ⟨b1, b2⟩, ⟨c1, c2⟩, d1, d2, f⟩ := h
  have e0 := e P (by omega) (by omega)
  have e1 := e (P + 1) (by omega) (by omega)
  have e8 := e (P + 8) (by omega) (by omega)
  refine ⟨⟨by rw [e0.1]; exact a1, by rw [e0.2.2]; exact a2⟩, ⟨by rw [e1.1]; exact b1, by rw [e1.2.2]; exact b2⟩, ⟨by rw [e8.1]; exact c1, by rw [e8.2.2]; exact c2⟩, by rw [e0.2.1]; exact d1, by rw [e0.2.1]; exact d2, fun m hm => ?_⟩
  have e2 := e (P + 2 + m) (by omega) (by omega)
  rw [e1.2.1, e2.1, e2.2.2]; exact f m hm
theorem ptI.ext {I J : Nat → Nat → Int32} {P ms : Nat} {kn : Nat → Bool} {sz : Nat → Nat} {tk : Nat → Nat → Nat} {hs : Bool} (h : ptI I P kn ms sz tk hs) (f : ∀ q, P ≤ q → q < P + 10 → J q = I q) : ptI J P kn ms sz tk hs := by
  refine ⟨?_, fun m hm => ?_, fun m hm k hk => ?_, h.2.2.2⟩
  · rw [f P (by omega) (by omega)]; exact h.1
  · rw [f (P + 8) (by omega) (by omega)]; exact h.2.1 m hm
  · rw [f (P + 2 + m) (by omega) (by omega)]; exact h.2.2.1 m hm k hk
theorem stI.ext {I J : Nat → Nat → Int32} (h : stI I) (f : ∀ q, 90 ≤ q → q < 95 → J q = I q) : stI J := by
  unfold stI
  rw [f 90 (by decide) (by decide), f 91 (by decide) (by decide), f 92 (by decide) (by decide), f 93 (by decide) (by decide)]; exact h
theorem cv4.ext {R R1 : Nat → Nat → Option Nat} {p q r s : Nat} (h : cv4 R p q r s) (e : R1 121 = R 121) : cv4 R1 p q r s := by unfold cv4; rw [e]; exact h
set_option maxHeartbeats 4000000 in
set_option maxRecDepth 100000 in
theorem sd_new {z : hZ} {post : Option Value → hG → Prop} (C : hC z RX10 cX10_side) (E : hE z yX10_side (some .int) { frames := 7, cells := 12, slots := 343, locals := 230 } post) (hN : zn z = 8) {G : hG} (xO : isX G.1 G.2.2.2.1 G.2.2.2.2 (z0 z)) (hsa : ∀ k, k < 5 → zS z k = gA G (90 + k)) (P ha : Nat) (ha2 : ha < 2) (hP : isPt G.1 G.2.2.2.1 G.2.2.2.2 (z0 z) P) (kn : Nat → Bool) (ms : Nat) (sz : Nat → Nat) (tk : Nat → Nat → Nat) (hs : Bool) (hI : ptI G.2.1 P kn ms sz tk hs) (hP2 : P + 10 ≤ 300) (hP1 : 200 ≤ P) (hst : stI G.2.1) (cp cq cr cs : Nat) (h4 : cv4 G.2.2.2.1 cp cq cr cs) (p ns : Nat) (hns : G.2.1 100 8 = nI ns) (hn4 : ns < 4) (S : Nat) (hS : S = 300 + 20 * ns) (F : fre S 400 G) (sv ov ev : Int32) (hfin : ∀ G', madeS (z0 z) S P p ha ev sv ov kn ns G G' → post (some (.int (nI ns))) G') : hX z 0 0 G [(6, .ref (gA G P)), (0, .ref (gA G 100)), (1, .int (nI p)), (2, .int (nI ha)), (3, .int sv), (4, .int ov), (5, .int ev)] 103 [] := by
  have hZ := E.2.2.2.1
  refine x_new (k := S) (ci := 6) C (F S (Nat.le_refl _) (by omega)) hc_X6 (by decide +kernel) cl_X10_15 it_X6 ini_X6 (by rw [hZ]; exact Nat.le_of_ble_eq_true rfl) (by rw [hZ]; exact Nat.le_of_ble_eq_true rfl) dX10_side_103 (fun a hA => ?_)
  have e1 := gNw_A (G := G) (m := S) (a := a) (kd := .inr 6)
  have e2 := gNw_Ao (G := G) (m := S) (a := a) (h := 100) (kd := .inr 6) (by omega)
  have e3 := gNw_Ao (G := G) (m := S) (a := a) (h := P) (kd := .inr 6) (by omega)
  have f1 : (gNw G S (.inr 6) a).1 S = some (.inr 6) := va_up_same _ _ _
  have f2 : ∀ j, (gNw G S (.inr 6) a).2.1 S j = 0 := fun j => by rw [show (gNw G S (.inr 6) a).2.1 S = fun _ => 0 from va_up_same _ _ _]
  have F1 : fre (S + 1) 400 (gNw G S (.inr 6) a) := by
    intro q q1 q2
    have hq := F q (by omega) q2
    refine ⟨(va_up_other _ _ (by omega)).trans hq.1, fun p j e => ?_⟩
    by_cases hp : p = S
    · subst hp
      rw [show (gNw G p (.inr 6) a).2.2.2.1 p = fun _ => none from va_up_same _ _ _] at e
      cases e
    · rw [show (gNw G S (.inr 6) a).2.2.2.1 p = G.2.2.2.1 p from va_up_other _ _ hp] at e
      exact hq.2 p j e
  have hgo : ∀ (G1 : hG), G1 = gNw G S (.inr 6) a → hX z (0 + 1) (0 + 9) G1 [(6, .ref (gA G P)), (0, .ref (gA G 100)), (1, .int (nI p)), (2, .int (nI ha)), (3, .int sv), (4, .int ov), (5, .int ev)] 106 [.ref a] := by
    intro G1 hG1
    rw [← hG1] at e1 e2 e3 f1 f2 F1
    rw [← e1, ← e2, ← e3]
    refine x_dup C dX10_side_106 rfl ?_
    refine x_aload C dX10_side_107 0 rfl ?_
    refine x_iload_n C dX10_side_109 2 rfl rfl ?_
    refine x_iload_n C dX10_side_110 3 rfl rfl ?_
    refine x_iload C dX10_side_111 6 rfl ?_
    refine x_callI C (ok_X6_init S (S + 1) 400 P p ha ev (by omega) (by omega) f1 (by rw [e1]; exact hA) f2 F1 (by omega)) mi_X6_init ml_X10_86 rfl rfl (Nat.le_of_ble_eq_true rfl) (hrm (rm := { frames := 0, cells := 0, slots := 0, locals := 0 }) hZ ⟨Nat.le_of_ble_eq_true rfl, Nat.le_of_ble_eq_true rfl⟩) (hcs hZ ⟨Nat.le_of_ble_eq_true rfl, Nat.le_of_ble_eq_true rfl⟩) dX10_side_113 (fun r G' hp => ?_)
    obtain ⟨rfl, Gm, hGm, b⟩ := hp
    have hw : nwS (z0 z) S P p ha ev G.1 G.2.1 G.2.2.2.1 G.2.2.2.2 G'.1 G'.2.1 G'.2.2.2.1 G'.2.2.2.2 := by rw [hGm]; exact nwS_of (hG1 ▸ b) hA
    have ho : ∀ q, ¬ (S ≤ q ∧ q < S + 12) → gA G1 q = gA G' q := fun q hq => ((hw.1 q hq).2.2.1.trans (by rw [hG1]; exact (gNw_Ao (by omega)).symm)).symm
    have hoS : gA G1 S = gA G' S := by rw [hGm]; exact b.old.2.1.symm
    clear hGm b
    rw [ho 100 (by omega), ho P (by omega), hoS]
    refine x_astore (lv' := [(7, .ref (gA G' S)), (6, .ref (gA G' P)), (0, .ref (gA G' 100)), (1, .int (nI p)), (2, .int (nI ha)), (3, .int sv), (4, .int ov), (5, .int ev)]) C dX10_side_116 (Nat.lt_of_lt_of_eq (by decide) hN.symm) rfl ?_
    have kx : ∀ q, q < 300 → G'.1 q = G.1 q ∧ G'.2.2.2.1 q = G.2.2.2.1 q ∧ G'.2.2.2.2 q = G.2.2.2.2 q := fun q hq => ⟨(hw.1 q (by omega)).1, (hw.1 q (by omega)).2.1, (hw.1 q (by omega)).2.2.1⟩
    have ki : ∀ q, q < 300 → G'.2.1 q = G.2.1 q := fun q hq => (hw.1 q (by omega)).2.2.2
    show hX z 12 343 (G'.1, G'.2.1, G'.2.2.1, G'.2.2.2.1, G'.2.2.2.2) [(7, .ref (gA G' S)), (6, .ref (gA G' P)), (0, .ref (gA G' 100)), (1, .int (nI p)), (2, .int (nI ha)), (3, .int sv), (4, .int ov), (5, .int ev)] 118 []
    exact sd_tail C E hN (isX.ext xO (fun q hq => kx q (by omega))) (fun k hk => by rw [hsa k hk]; exact ((kx (90 + k) (by omega)).2.2).symm) S P hw.2.2.1 ha hw.2.2.2.1.2.1 ha2 (by omega) (isPt.ext hP (fun q h1 h2 => kx q (by omega))) kn ms sz tk hs (ptI.ext hI (fun q h1 h2 => ki q (by omega))) hP2 hP1 (stI.ext hst (fun q h1 h2 => ki q (by omega))) cp cq cr cs (h4.ext (kx 121 (by decide)).2.1) p ns (by rw [ki 100 (by decide)]; exact hns) hn4 sv ov ev hw.2.2.2.2 hw.2.2.2.1.2.2.2 (fun I' L' R' hm => hfin _ ⟨_, _, _, _, hw, I', L', R', rfl, hm⟩)
  exact hgo _ rfl
set_option maxHeartbeats 4000000 in
set_option maxRecDepth 100000 in
theorem bn_X10_side {l : Launch} {a0 : Nat} {D : va_G} {sa : Nat → Nat} {T : Nat → Option hKd} {I : Nat → Nat → Int32} {L : Nat → Nat → Int64} {R : Nat → Nat → Option Nat} {A : Nat → Nat} (xO : isX T R A a0) (hsa : ∀ k, k < 5 → sa k = A (90 + k)) (np : Nat) (hnp : I 100 7 = nI np) (hn8 : np ≤ 8) (p : Nat) (hpn : p < np) (P : Nat) (hP : isPt T R A a0 P) (kn : Nat → Bool) (ms : Nat) (sz : Nat → Nat) (tk : Nat → Nat → Nat) (hs : Bool) (hI : ptI I P kn ms sz tk hs) (hRk : R 101 p = some P) (hv sv ov ev : Int32) (hbad : (hv < 0 ∨ nI 1 < hv) ∨ sv < -1 ∨ ov < -1) : hM l a0 D sa yX10_side cX10_side 8 (some .int) { frames := 1, cells := 0, slots := 0, locals := 21 } [.ref (A 100), .int (nI p), .int hv, .int sv, .int ov, .int ev] (T, I, L, R, A) (fun r G' => r = some (.int (-2)) ∧ G' = (T, I, L, R, A)) := by
  refine hM.of (by decide +kernel) (Nat.le_of_ble_eq_true rfl) ?_
  intro z hl h0 hD hS hN C E
  subst hl; subst h0; subst hD; subst hS
  have C : hC z RX10 cX10_side := C
  have hZ := E.2.2.2.1
  show hX z 0 0 (T, I, L, R, A) [(0, .ref (A 100)), (1, .int (nI p)), (2, .int hv), (3, .int sv), (4, .int ov), (5, .int ev)] 0 []
  refine x_aload_n C dX10_side_0 0 rfl rfl ?_
  refine x_iload_n C dX10_side_1 1 rfl rfl ?_
  refine x_callV C (ok_X10_patternAt xO hsa np hnp hn8 p P hpn hRk) mv_X10_patternAt ml_X10_57 (xO.1 100 _ rfl).1 rfl rfl rfl (Nat.le_of_ble_eq_true rfl) (hrm (rm := { frames := 0, cells := 0, slots := 0, locals := 0 }) hZ ⟨Nat.le_of_ble_eq_true rfl, Nat.le_of_ble_eq_true rfl⟩) (hcs hZ ⟨Nat.le_of_ble_eq_true rfl, Nat.le_of_ble_eq_true rfl⟩) dX10_side_2 (fun v G' hp => ?_)
  obtain ⟨rfl, rfl⟩ := hp
  show hX z 0 0 (T, I, L, R, A) [(0, .ref (A 100)), (1, .int (nI p)), (2, .int hv), (3, .int sv), (4, .int ov), (5, .int ev)] 5 [.ref (A P)]
  refine x_astore (lv' := [(6, .ref (A P)), (0, .ref (A 100)), (1, .int (nI p)), (2, .int hv), (3, .int sv), (4, .int ov), (5, .int ev)]) C dX10_side_5 (Nat.lt_of_lt_of_eq (by decide) hN.symm) rfl ?_
  refine x_aload C dX10_side_7 0 rfl ?_
  refine x_ifnull C dX10_side_9 ?_
  refine x_iload_n C dX10_side_12 3 rfl rfl ?_
  refine x_if_lt (tgt := 32) C dX10_side_13 (by decide) (fun c13 => ?_) (fun c13 => ?_)
  · refine x_bipush (v := (-2)) C dX10_side_32 (by decide +kernel) ?_
    exact x_iret C E (Nat.le_of_ble_eq_true rfl) (Nat.le_of_ble_eq_true rfl) dX10_side_34 (⟨rfl, rfl⟩)
  · refine x_iload_n C dX10_side_16 3 rfl rfl ?_
    refine x_iconst (v := nI 1) C dX10_side_17 (by decide +kernel) ?_
    refine x_icmp_gt (tgt := 32) C dX10_side_18 (by decide) (fun c18 => ?_) (fun c18 => ?_)
    · refine x_bipush (v := (-2)) C dX10_side_32 (by decide +kernel) ?_
      exact x_iret C E (Nat.le_of_ble_eq_true rfl) (Nat.le_of_ble_eq_true rfl) dX10_side_34 (⟨rfl, rfl⟩)
    · refine x_iload_n C dX10_side_21 4 rfl rfl ?_
      refine x_iconst (v := (-1)) C dX10_side_22 (by decide +kernel) ?_
      refine x_icmp_lt (tgt := 32) C dX10_side_23 (by decide) (fun c23 => ?_) (fun c23 => ?_)
      · refine x_bipush (v := (-2)) C dX10_side_32 (by decide +kernel) ?_
        exact x_iret C E (Nat.le_of_ble_eq_true rfl) (Nat.le_of_ble_eq_true rfl) dX10_side_34 (⟨rfl, rfl⟩)
      · refine x_iload C dX10_side_26 5 rfl ?_
        refine x_iconst (v := (-1)) C dX10_side_28 (by decide +kernel) ?_
        refine x_icmp_ge (tgt := 35) C dX10_side_29 (by decide) (fun c29 => ?_) (fun c29 => ?_)
        · exact False.elim (by rcases hbad with (h | h) | h | h; exact c13 h; exact c18 h; exact c23 h; exact Int32.not_lt.mpr c29 h)
        · refine x_bipush (v := (-2)) C dX10_side_32 (by decide +kernel) ?_
          exact x_iret C E (Nat.le_of_ble_eq_true rfl) (Nat.le_of_ble_eq_true rfl) dX10_side_34 (⟨rfl, rfl⟩)

set_option maxHeartbeats 4000000 in
set_option maxRecDepth 100000 in
theorem ok_X10_side {l : Launch} {a0 : Nat} {D : va_G} {sa : Nat → Nat} {T : Nat → Option hKd} {I : Nat → Nat → Int32} {L : Nat → Nat → Int64} {R : Nat → Nat → Option Nat} {A : Nat → Nat} (xO : isX T R A a0) (hsa : ∀ k, k < 5 → sa k = A (90 + k)) (np : Nat) (hnp : I 100 7 = nI np) (hn8 : np ≤ 8) (p : Nat) (hpn : p < np) (P : Nat) (hP : isPt T R A a0 P) (kn : Nat → Bool) (ms : Nat) (sz : Nat → Nat) (tk : Nat → Nat → Nat) (hs : Bool) (hI : ptI I P kn ms sz tk hs) (hRk : R 101 p = some P) (ha : Nat) (ha2 : ha < 2) (sv ov ev : Int32) (hsv0 : -1 ≤ sv) (hov0 : -1 ≤ ov) (hP2 : P + 10 ≤ 300) (hP1 : 200 ≤ P) (hst : stI I) (cp cq cr cs : Nat) (h4 : cv4 R cp cq cr cs) (ns : Nat) (hns : I 100 8 = nI ns) (hn4 : ns ≤ 4) (F : ns < 4 → fre (300 + 20 * ns) 400 (T, I, L, R, A))  : hM l a0 D sa yX10_side cX10_side 8 (some .int) { frames := 7, cells := 12, slots := 343, locals := 230 } [.ref (A 100), .int (nI p), .int (nI ha), .int sv, .int ov, .int ev] (T, I, L, R, A) (fun r G' => ∃ f, isF kn ms sz tk f ∧ ((noC kn ms sz tk ha sv ov f ∧ r = some (.int (-3)) ∧ G' = (T, I, L, R, A)) ∨ (¬ noC kn ms sz tk ha sv ov f ∧ ns = 4 ∧ r = some (.int (-4)) ∧ G' = (T, I, L, R, A)) ∨ (¬ noC kn ms sz tk ha sv ov f ∧ ns < 4 ∧ r = some (.int (nI ns)) ∧ madeS a0 (300 + 20 * ns) P p ha ev sv ov kn ns (T, I, L, R, A) G'))) := by
  refine hM.of (by decide +kernel) (Nat.le_of_ble_eq_true rfl) ?_
  intro z hl h0 hD hS hN C E
  subst hl; subst h0; subst hD; subst hS
  have C : hC z RX10 cX10_side := C
  have hZ := E.2.2.2.1
  show hX z 0 0 (T, I, L, R, A) [(0, .ref (A 100)), (1, .int (nI p)), (2, .int (nI ha)), (3, .int sv), (4, .int ov), (5, .int ev)] 0 []
  refine x_aload_n C dX10_side_0 0 rfl rfl ?_
  refine x_iload_n C dX10_side_1 1 rfl rfl ?_
  refine x_callV C (ok_X10_patternAt xO hsa np hnp hn8 p P hpn hRk) mv_X10_patternAt ml_X10_57 (xO.1 100 _ rfl).1 rfl rfl rfl (Nat.le_of_ble_eq_true rfl) (hrm (rm := { frames := 0, cells := 0, slots := 0, locals := 0 }) hZ ⟨Nat.le_of_ble_eq_true rfl, Nat.le_of_ble_eq_true rfl⟩) (hcs hZ ⟨Nat.le_of_ble_eq_true rfl, Nat.le_of_ble_eq_true rfl⟩) dX10_side_2 (fun v G' hp => ?_)
  obtain ⟨rfl, rfl⟩ := hp
  show hX z 0 0 (T, I, L, R, A) [(0, .ref (A 100)), (1, .int (nI p)), (2, .int (nI ha)), (3, .int sv), (4, .int ov), (5, .int ev)] 5 [.ref (A P)]
  refine x_astore (lv' := [(6, .ref (A P)), (0, .ref (A 100)), (1, .int (nI p)), (2, .int (nI ha)), (3, .int sv), (4, .int ov), (5, .int ev)]) C dX10_side_5 (Nat.lt_of_lt_of_eq (by decide) hN.symm) rfl ?_
  refine x_aload C dX10_side_7 0 rfl ?_
  refine x_ifnull C dX10_side_9 ?_
  refine x_iload_n C dX10_side_12 3 rfl rfl ?_
  refine x_if_ltN (tgt := 32) C (by omega) dX10_side_13 (by decide) ?_
  refine x_iload_n C dX10_side_16 3 rfl rfl ?_
  refine x_iconst (v := nI 1) C dX10_side_17 (by decide +kernel) ?_
  refine x_icmp_gtN (tgt := 32) C (by omega) (by omega) dX10_side_18 (by decide) (fun c18 => absurd c18 (by omega)) (fun c18 => ?_)
  refine x_iload_n C dX10_side_21 4 rfl rfl ?_
  refine x_iconst (v := (-1)) C dX10_side_22 (by decide +kernel) ?_
  refine x_icmp_lt (tgt := 32) C dX10_side_23 (by decide) (fun c23 => absurd c23 (by exact Int32.not_lt.mpr hsv0)) (fun c23 => ?_)
  refine x_iload C dX10_side_26 5 rfl ?_
  refine x_iconst (v := (-1)) C dX10_side_28 (by decide +kernel) ?_
  refine x_icmp_ge (tgt := 35) C dX10_side_29 (by decide) (fun c29 => ?_) (fun c29 => absurd c29 (by exact fun h => h hov0))
  refine x_aload C dX10_side_35 0 rfl ?_
  refine x_callV C (ok_X3_findFault P hP kn ms sz tk hs hI hsa (xO.2.2 90 _ rfl) hst.2.2.2) mv_X3_findFault ml_X10_73 hP.1.1 rfl rfl rfl (Nat.le_of_ble_eq_true rfl) (hrm (rm := { frames := 0, cells := 0, slots := 0, locals := 0 }) hZ ⟨Nat.le_of_ble_eq_true rfl, Nat.le_of_ble_eq_true rfl⟩) (hcs hZ ⟨Nat.le_of_ble_eq_true rfl, Nat.le_of_ble_eq_true rfl⟩) dX10_side_37 (fun v G' hp => ?_)
  obtain ⟨⟨f, rfl, hF, hf5⟩, rfl⟩ := hp
  show hX z 0 0 (T, I, L, R, A) [(6, .ref (A P)), (0, .ref (A 100)), (1, .int (nI p)), (2, .int (nI ha)), (3, .int sv), (4, .int ov), (5, .int ev)] 40 [.int (nI f)]
  refine x_if_eqN (tgt := 46) C (by omega) dX10_side_40 (by decide) (fun c40 => ?_) (fun c40 => ?_)
  · have J72 : (sv = -1 → ¬ (kn ha = true ∨ sndS ms sz tk ha)) → hX z 0 0 (T, I, L, R, A) [(6, .ref (A P)), (0, .ref (A 100)), (1, .int (nI p)), (2, .int (nI ha)), (3, .int sv), (4, .int ov), (5, .int ev)] 72 [] := by
      intro  hn1
      have J92 : (¬ noC kn ms sz tk ha sv ov f) → hX z 0 0 (T, I, L, R, A) [(6, .ref (A P)), (0, .ref (A 100)), (1, .int (nI p)), (2, .int (nI ha)), (3, .int sv), (4, .int ov), (5, .int ev)] 92 [] := by
        intro  hno
        refine x_aload_n C dX10_side_92 1 rfl rfl ?_
        refine x_getiN C fl_X10_51 (xO.1 100 _ rfl).1 rfl dX10_side_93 ?_
        refine x_eqi (y := nI ns) hns ?_
        refine x_iconst (v := nI 4) C dX10_side_96 (by decide +kernel) ?_
        refine x_icmp_ltN (tgt := 103) C (by omega) (by omega) dX10_side_97 (by decide) (fun c97 => ?_) (fun c97 => ?_)
        · exact sd_new (G := (T, I, L, R, A)) C E hN xO hsa P ha ha2 hP kn ms sz tk hs hI hP2 hP1 hst cp cq cr cs h4 p ns hns c97 (300 + 20 * ns) rfl (F c97) sv ov ev (fun G' hm => ⟨f, hF, Or.inr (Or.inr ⟨hno, c97, rfl, hm⟩)⟩)
        · refine x_bipush (v := (-4)) C dX10_side_100 (by decide +kernel) ?_
          exact x_iret C E (Nat.le_of_ble_eq_true rfl) (Nat.le_of_ble_eq_true rfl) dX10_side_102 (⟨f, hF, Or.inr (Or.inl ⟨hno, by omega, rfl, rfl⟩)⟩)
      refine x_iload C dX10_side_72 5 rfl ?_
      refine x_iconst (v := (-1)) C dX10_side_74 (by decide +kernel) ?_
      refine x_icmp_ne (tgt := 92) C dX10_side_75 (by decide) (fun c75 => ?_) (fun c75 => ?_)
      · refine x_sub (lv' := _) [0, 1, 2, 3, 4, 5, 6] rfl ?_
        exact J92  (noC_n c40 hn1 (by first | exact fun e => absurd e c75 | exact fun _ h => by rw [bI_F c86] at h; cases h))
      · refine x_aload C dX10_side_78 0 rfl ?_
        refine x_iconst (v := nI 1) C dX10_side_80 (by decide +kernel) ?_
        refine x_iload_n C dX10_side_81 3 rfl rfl ?_
        refine x_isubN C (by omega) dX10_side_82 ?_
        refine x_callV C (ok_X3_isKnownAhead P hP kn ms sz tk hs hI (1 - ha) (by omega)) mv_X3_isKnownAhead ml_X10_79 hP.1.1 rfl rfl rfl (Nat.le_of_ble_eq_true rfl) (hrm (rm := { frames := 0, cells := 0, slots := 0, locals := 0 }) hZ ⟨Nat.le_of_ble_eq_true rfl, Nat.le_of_ble_eq_true rfl⟩) (hcs hZ ⟨Nat.le_of_ble_eq_true rfl, Nat.le_of_ble_eq_true rfl⟩) dX10_side_83 (fun v G' hp => ?_)
        obtain ⟨rfl, rfl⟩ := hp
        show hX z 0 0 (T, I, L, R, A) [(6, .ref (A P)), (0, .ref (A 100)), (1, .int (nI p)), (2, .int (nI ha)), (3, .int sv), (4, .int ov), (5, .int ev)] 86 [.int (bI (kn (1 - ha)))]
        refine x_if_eq (tgt := 92) C dX10_side_86 (by decide) (fun c86 => ?_) (fun c86 => ?_)
        · refine x_sub (lv' := _) [0, 1, 2, 3, 4, 5, 6] rfl ?_
          exact J92  (noC_n c40 hn1 (by first | exact fun e => absurd e c75 | exact fun _ h => by rw [bI_F c86] at h; cases h))
        · refine x_bipush (v := (-3)) C dX10_side_89 (by decide +kernel) ?_
          exact x_iret C E (Nat.le_of_ble_eq_true rfl) (Nat.le_of_ble_eq_true rfl) dX10_side_91 (⟨f, hF, Or.inl ⟨Or.inr (Or.inr ⟨c75, bI_T c86⟩), rfl, rfl⟩⟩)
    refine x_iload_n C dX10_side_46 4 rfl rfl ?_
    refine x_iconst (v := (-1)) C dX10_side_47 (by decide +kernel) ?_
    refine x_icmp_ne (tgt := 72) C dX10_side_48 (by decide) (fun c48 => ?_) (fun c48 => ?_)
    · refine x_sub (lv' := _) [0, 1, 2, 3, 4, 5, 6] rfl ?_
      exact J72  (by first | exact fun e => absurd e c48 | exact fun _ h => (wb_F (bI_F c57) (bI_F c66) hq).mpr h |> Bool.false_ne_true)
    · refine x_aload C dX10_side_51 0 rfl ?_
      refine x_iload_n C dX10_side_53 3 rfl rfl ?_
      refine x_callV C (ok_X3_isKnownAhead P hP kn ms sz tk hs hI ha (by omega)) mv_X3_isKnownAhead ml_X10_79 hP.1.1 rfl rfl rfl (Nat.le_of_ble_eq_true rfl) (hrm (rm := { frames := 0, cells := 0, slots := 0, locals := 0 }) hZ ⟨Nat.le_of_ble_eq_true rfl, Nat.le_of_ble_eq_true rfl⟩) (hcs hZ ⟨Nat.le_of_ble_eq_true rfl, Nat.le_of_ble_eq_true rfl⟩) dX10_side_54 (fun v G' hp => ?_)
      obtain ⟨rfl, rfl⟩ := hp
      show hX z 0 0 (T, I, L, R, A) [(6, .ref (A P)), (0, .ref (A 100)), (1, .int (nI p)), (2, .int (nI ha)), (3, .int sv), (4, .int ov), (5, .int ev)] 57 [.int (bI (kn ha))]
      refine x_if_ne (tgt := 69) C dX10_side_57 (by decide) (fun c57 => ?_) (fun c57 => ?_)
      · refine x_bipush (v := (-3)) C dX10_side_69 (by decide +kernel) ?_
        exact x_iret C E (Nat.le_of_ble_eq_true rfl) (Nat.le_of_ble_eq_true rfl) dX10_side_71 (⟨f, hF, Or.inl ⟨Or.inr (Or.inl ⟨c48, by first | exact Or.inl (bI_T c57) | exact Or.inr (hq.mp (bI_T c66))⟩), rfl, rfl⟩⟩)
      · refine x_aload C dX10_side_60 0 rfl ?_
        refine x_iload_n C dX10_side_62 3 rfl rfl ?_
        refine x_callV C (ok_X3_sendsS P hP kn ms sz tk hs hI ha ha2) mv_X3_sendsS ml_X10_83 hP.1.1 rfl rfl rfl (Nat.le_of_ble_eq_true rfl) (hrm (rm := { frames := 0, cells := 0, slots := 0, locals := 0 }) hZ ⟨Nat.le_of_ble_eq_true rfl, Nat.le_of_ble_eq_true rfl⟩) (hcs hZ ⟨Nat.le_of_ble_eq_true rfl, Nat.le_of_ble_eq_true rfl⟩) dX10_side_63 (fun v G' hp => ?_)
        obtain ⟨⟨q, rfl, hq⟩, rfl⟩ := hp
        show hX z 0 0 (T, I, L, R, A) [(6, .ref (A P)), (0, .ref (A 100)), (1, .int (nI p)), (2, .int (nI ha)), (3, .int sv), (4, .int ov), (5, .int ev)] 66 [.int (bI q)]
        refine x_if_eq (tgt := 72) C dX10_side_66 (by decide) (fun c66 => ?_) (fun c66 => ?_)
        · refine x_sub (lv' := _) [0, 1, 2, 3, 4, 5, 6] rfl ?_
          exact J72  (by first | exact fun e => absurd e c48 | exact fun _ h => (wb_F (bI_F c57) (bI_F c66) hq).mpr h |> Bool.false_ne_true)
        · refine x_bipush (v := (-3)) C dX10_side_69 (by decide +kernel) ?_
          exact x_iret C E (Nat.le_of_ble_eq_true rfl) (Nat.le_of_ble_eq_true rfl) dX10_side_71 (⟨f, hF, Or.inl ⟨Or.inr (Or.inl ⟨c48, by first | exact Or.inl (bI_T c57) | exact Or.inr (hq.mp (bI_T c66))⟩), rfl, rfl⟩⟩)
  · refine x_bipush (v := (-3)) C dX10_side_43 (by decide +kernel) ?_
    exact x_iret C E (Nat.le_of_ble_eq_true rfl) (Nat.le_of_ble_eq_true rfl) dX10_side_45 (⟨f, hF, Or.inl ⟨Or.inl c40, rfl, rfl⟩⟩)

