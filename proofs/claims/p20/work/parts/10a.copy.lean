/-! ===== System.arraycopy over hX, of ints and of longs ===== -/
theorem cpy_slots {cs cd : Cell} {n0 n1 sp dp n : Nat} {f g V : Nat → Value} (h0 : cs.slots.size = n0) (h1 : cd.slots.size = n1) (hs : ∀ j, j < n0 → cs.slots[j]? = some (f j)) (hd : ∀ j, j < n1 → cd.slots[j]? = some (g j)) (e1 : sp + n ≤ n0) (e2 : dp + n ≤ n1)
    (hV : ∀ j, V j = if dp ≤ j ∧ j < dp + n then f (sp + (j - dp)) else g j) : ∀ j, j < n1 → (cd.storeRun dp (cs.stretch sp n)).slots[j]? = some (V j) := by
  intro j hj
  rw [Cell.storeRun_get _ _ _ _ (by rw [Cell.stretch_length]; omega), Cell.stretch_length, hV j]
  by_cases h : dp ≤ j ∧ j < dp + n
  · rw [if_pos h, if_pos h]
    have hl : (cs.stretch sp n).length = n := Cell.stretch_length ..
    have : (cs.stretch sp n)[j - dp]? = some (cs.slots.getD (sp + (j - dp)) .null) := by
      have hlt : j - dp < (cs.stretch sp n).length := by omega
      obtain ⟨v, hv⟩ : ∃ v, (cs.stretch sp n)[j - dp]? = some v := ⟨_, List.getElem?_eq_getElem hlt⟩
      rw [hv, (Cell.stretch_get hv).2]
    rw [this, Array.getD_eq_getD_getElem?, hs _ (by omega)]
    rfl
  · rw [if_neg h, if_neg h]
    exact hd j hj
section HXCP
variable {z : hZ} {own : String} {cc : ByteArray} {cells slots pc : Nat} {lv : List (Nat × Value)} {rest : List Value}
variable {T : Nat → Option hKd} {I : Nat → Nat → Int32} {L : Nat → Nat → Int64} {R : Nat → Nat → Option Nat} {A : Nat → Nat}
theorem x_copy (C : hC z own cc) {G G1 : hG} {ty : FieldType} {a b na nb sp dp n : Nat} (hTa : G.1 a = some (.inl (ty, na))) (hTb : G.1 b = some (.inl (ty, nb))) (hty : ty = .int ∨ ty = .long) (hb0 : z0 z ≤ G.2.2.2.2 b) (e1 : sp + n ≤ na) (e2 : dp + n ≤ nb) (ha31 : na < 2 ^ 31) (hb31 : nb < 2 ^ 31) {index : Nat}
    (hl : Cond.methodLink own index arraycopyName ∈ lw_g) (hR : 1 ≤ (zR z).frames ∧ (rest.map fun v => v.category).sum + (nativeFrameWords "java/lang/System" "arraycopy" 5 + 11) ≤ (zR z).locals) (d : decode cc pc = .ok (.invokestatic index, 3))
    (f1 : G1.1 = G.1) (f5 : G1.2.2.2.2 = G.2.2.2.2) (f2 : ∀ q, q ≠ b → G1.2.1 q = G.2.1 q) (f3 : ∀ q, q ≠ b → G1.2.2.1 q = G.2.2.1 q) (f4 : G1.2.2.2.1 = G.2.2.2.1)
    (hv : ∀ j, hav ty (G1.2.1 b) (G1.2.2.1 b) (fun j => (G1.2.2.2.1 b j).map G.2.2.2.2) j = if dp ≤ j ∧ j < dp + n then hav ty (G.2.1 a) (G.2.2.1 a) (fun j => (G.2.2.2.1 a j).map G.2.2.2.2) (sp + (j - dp)) else hav ty (G.2.1 b) (G.2.2.1 b) (fun j => (G.2.2.2.1 b j).map G.2.2.2.2) j)
    (kk : hX z cells slots G1 lv (pc + 3) rest) : hX z cells slots G lv pc (.int (nI n) :: .int (nI dp) :: .ref (G.2.2.2.2 b) :: .int (nI sp) :: .ref (G.2.2.2.2 a) :: rest) := by
  intro H locs ls h1 h2 h3 T hT X
  obtain ⟨cs, p1, p2, p3, p4, p5, -⟩ := h1.1 a _ hTa
  obtain ⟨cd, q1, q2, q3, q4, q5, q6⟩ := h1.1 b _ hTb
  dsimp only at p2 p4 p5 q2 q4 q5 q6
  obtain ⟨hso, ks, hks, cm0, hkk0⟩ := p2
  obtain ⟨hdo, kd, hkd, cm1, hkk1⟩ := q2
  have ht := C.2.2.2.2.1
  have c1 : (nI sp).toNatClampNeg = sp := nI_clamp (by omega)
  have c2 : (nI dp).toNatClampNeg = dp := nI_clamp (by omega)
  have c3 : (nI n).toNatClampNeg = n := nI_clamp (by omega)
  have i1 : (nI sp).toInt = sp := nI_toInt (by omega)
  have i2 : (nI dp).toInt = dp := nI_toInt (by omega)
  have i3 : (nI n).toInt = n := nI_toInt (by omega)
  obtain ⟨vm', X', step⟩ := X.arraycopy C.1 C.2.2.2.1 (ht _ hl) (ht _ nat_copy) (ht _ st_copy) (ht _ ini_J10) (src := G.2.2.2.2 a) (dst := G.2.2.2.2 b) (cs := cs) (cd := cd) (srcPos := nI sp) (destPos := nI dp) (n := nI n) (by rw [hT]; exact p1) (by rw [hT]; exact q1)
    hso hdo p3 q3 hks hkd hkk0 hkk1 (by rcases hty with rfl | rfl <;> rfl) (nI_pos (by omega)) (nI_pos (by omega)) (nI_pos (by omega)) (by rw [i1, i3, p4]; omega) (by rw [i2, i3, q4]; omega)
    (fun vm₁ _ i hi => by
      rw [c3] at hi
      have e : cs.slots.getD ((nI sp).toNatClampNeg + i) .null = hav ty (G.2.1 a) (G.2.2.1 a) (fun j => (G.2.2.2.1 a j).map G.2.2.2.2) (sp + i) := by
        rw [c1, Array.getD_eq_getD_getElem?, p5 _ (by omega)]
        rfl
      rw [e]
      rcases hty with rfl | rfl <;> exact ⟨rfl, trivial⟩)
    (g := F0 (zm z) pc ls (.int (nI n) :: .int (nI dp) :: .ref (G.2.2.2.2 b) :: .int (nI sp) :: .ref (G.2.2.2.2 a) :: rest)) rfl (by rw [C.2.2.1]; exact h3.1) (rest := rest) rfl (by rw [C.2.1]; exact d) hR.1 (by show 2 * 0 + _ + _ ≤ _; have := hR.2; omega)
  have e3 : copied cs cd (nI sp) (nI dp) (nI n) = cd.storeRun dp (cs.stretch sp n) := by show cd.storeRun _ (cs.stretch _ _) = _; rw [c1, c2, c3]
  rw [e3] at X' step
  have hlt : G.2.2.2.2 b < H.size := (Array.getElem?_eq_some_iff.mp q1).1
  have hheap : ((T.setVm vm').setCell (G.2.2.2.2 b) (cd.storeRun dp (cs.stretch sp n))).heap = H.setIfInBounds (G.2.2.2.2 b) (cd.storeRun dp (cs.stretch sp n)) := by rw [← hT]; rfl
  have oq : ∀ q : Nat, q ≠ G.2.2.2.2 b → (H.setIfInBounds (G.2.2.2.2 b) (cd.storeRun dp (cs.stretch sp n)))[q]? = H[q]? := fun q hq => by simp [Array.getElem?_setIfInBounds, Ne.symm hq]
  obtain ⟨g1, g2, g3, -⟩ := Cell.storeRun_facts cd dp (cs.stretch sp n)
  obtain ⟨t, a1, b1⟩ := kk _ _ ls (h1.put (a := b) hTb oq f1 f5 f2 f3 (fun q _ => by rw [f4]) ⟨_, (show (H.setIfInBounds (G.2.2.2.2 b) _)[G.2.2.2.2 b]? = some _ by simp [Array.getElem?_setIfInBounds, hlt]), ⟨by rw [g2]; exact hdo, kd, by rw [g1]; exact hkd, cm1, hkk1⟩, by rw [g2]; exact q3, by rw [g3]; exact q4, cpy_slots p4 q4 p5 q5 e1 e2 hv, by rw [g1]; exact q6⟩)
    ⟨by simp; exact h2.1, fun q r1 r2 => by
      rw [oq q (fun e => r2 (by rw [e]; exact hb0))]
      exact h2.2.1 q r1 r2, fun q hq => by
      rcases List.mem_append.mp hq with h | h
      · exact h2.2.2 q h
      · obtain ⟨w, -, hz⟩ := List.mem_map.mp h
        rw [← hz]
        exact hb0⟩ h3 _ hheap X'
  exact ⟨t, step t a1, b1⟩
theorem x_copyi (C : hC z own cc) {a b na nb sp dp n : Nat} (hTa : T a = some (.inl (.int, na))) (hTb : T b = some (.inl (.int, nb))) (hb0 : z0 z ≤ A b) (e1 : sp + n ≤ na) (e2 : dp + n ≤ nb) (ha31 : na < 2 ^ 31) (hb31 : nb < 2 ^ 31) {index : Nat} (hl : Cond.methodLink own index arraycopyName ∈ lw_g) (hR : 1 ≤ (zR z).frames ∧ (rest.map fun v => v.category).sum + (nativeFrameWords "java/lang/System" "arraycopy" 5 + 11) ≤ (zR z).locals) (d : decode cc pc = .ok (.invokestatic index, 3))
    (kk : ∀ I1, I1 = va_up I b (fun j => if dp ≤ j ∧ j < dp + n then I a (sp + (j - dp)) else I b j) → hX z cells slots (T, I1, L, R, A) lv (pc + 3) rest) : hX z cells slots (T, I, L, R, A) lv pc (.int (nI n) :: .int (nI dp) :: .ref (A b) :: .int (nI sp) :: .ref (A a) :: rest) :=
  x_copy (G := (T, I, L, R, A)) (G1 := (T, va_up I b (fun j => if dp ≤ j ∧ j < dp + n then I a (sp + (j - dp)) else I b j), L, R, A)) C hTa hTb (Or.inl rfl) hb0 e1 e2 ha31 hb31 hl hR d rfl rfl (fun q h => va_up_other _ _ h) (fun _ _ => rfl) rfl (fun j => by simp only [hav, va_up_same]; split <;> rfl) (kk _ rfl)
theorem x_copyl (C : hC z own cc) {a b na nb sp dp n : Nat} (hTa : T a = some (.inl (.long, na))) (hTb : T b = some (.inl (.long, nb))) (hb0 : z0 z ≤ A b) (e1 : sp + n ≤ na) (e2 : dp + n ≤ nb) (ha31 : na < 2 ^ 31) (hb31 : nb < 2 ^ 31) {index : Nat} (hl : Cond.methodLink own index arraycopyName ∈ lw_g) (hR : 1 ≤ (zR z).frames ∧ (rest.map fun v => v.category).sum + (nativeFrameWords "java/lang/System" "arraycopy" 5 + 11) ≤ (zR z).locals) (d : decode cc pc = .ok (.invokestatic index, 3))
    (kk : ∀ L1, L1 = va_up L b (fun j => if dp ≤ j ∧ j < dp + n then L a (sp + (j - dp)) else L b j) → hX z cells slots (T, I, L1, R, A) lv (pc + 3) rest) : hX z cells slots (T, I, L, R, A) lv pc (.int (nI n) :: .int (nI dp) :: .ref (A b) :: .int (nI sp) :: .ref (A a) :: rest) :=
  x_copy (G := (T, I, L, R, A)) (G1 := (T, I, va_up L b (fun j => if dp ≤ j ∧ j < dp + n then L a (sp + (j - dp)) else L b j), R, A)) C hTa hTb (Or.inr rfl) hb0 e1 e2 ha31 hb31 hl hR d rfl rfl (fun _ _ => rfl) (fun q h => va_up_other _ _ h) rfl (fun j => by simp only [hav, va_up_same]; split <;> rfl) (kk _ rfl)
end HXCP
