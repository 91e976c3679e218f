/-! ===== rows of rows over hX; a Pattern ===== -/
def gMu (G : hG) (k N M a : Nat) : hG := (fun q => if q = k then some (.inl (.array .int, N)) else if k < q ∧ q ≤ k + N then some (.inl (.int, M)) else G.1 q, fun q => if k ≤ q ∧ q ≤ k + N then (fun _ => 0) else G.2.1 q, fun q => if k ≤ q ∧ q ≤ k + N then (fun _ => 0) else G.2.2.1 q, fun q => if q = k then (fun j => if j < N then some (k + 1 + j) else none) else if k < q ∧ q ≤ k + N then (fun _ => none) else G.2.2.2.1 q, fun q => if k ≤ q ∧ q ≤ k + N then a + (q - k) else G.2.2.2.2 q)
theorem HR.newm {U : State} {D : va_G} {G : hG} {H H1 : Heap} {k N M : Nat} {cA comp : ClassId} (h : HR U D G H) (hk : ∀ q, k ≤ q → q ≤ k + N → nou G q) (f2 : H1[H.size]? = some (arrV cA N (mu_v H.size N))) (o : ∀ q : Nat, q < H.size → H1[q]? = H[q]?) (f6 : ∀ j, j < N → H1[H.size + 1 + j]? = some (arrV comp M (fun _ => .int 0))) (hA : ArrOfT U cA (.array .int)) (hC : ArrOfT U comp .int) : HR U D (gMu G k N M H.size) H1 := by
  have hlt : ∀ q, G.1 q ≠ none → G.2.2.2.2 q < H.size := by
    intro q hq
    cases e : G.1 q with
    | none => exact absurd e hq
    | some k' => exact (h.1 q k' e).lt
  have e5 : ∀ q, (gMu G k N M H.size).2.2.2.2 q = if k ≤ q ∧ q ≤ k + N then H.size + (q - k) else G.2.2.2.2 q := fun q => rfl
  refine ⟨fun q k' e => ?_, fun i j hi hj he => ?_⟩
  · by_cases hq : q = k
    · subst hq
      have e2 : (.inl (.array .int, N) : hKd) = k' := by simpa [gMu] using e
      subst e2
      refine ⟨arrV cA N (mu_v H.size N), ?_, hA N _, (by intro e; cases e), arrV_size _ _ _, fun j hj => ?_, fun C e => by cases e⟩
      · rw [e5, if_pos ⟨Nat.le_refl _, by omega⟩, Nat.sub_self]; exact f2
      · rw [arrV_read _ _ hj]
        have : ((gMu G q N M H.size).2.2.2.1 q j).map (gMu G q N M H.size).2.2.2.2 = some (H.size + 1 + j) := by
          show ((if q = q then (fun j => if j < N then some (q + 1 + j) else none) else _) j).map _ = _
          rw [if_pos rfl]
          simp only [hj, if_true, Option.map_some]
          rw [e5, if_pos ⟨by omega, by omega⟩]
          congr 1; omega
        show some (mu_v H.size N j) = some (va_rf (((gMu G q N M H.size).2.2.2.1 q j).map (gMu G q N M H.size).2.2.2.2))
        rw [this]
        simp [mu_v, hj, va_rf]
    · by_cases hq2 : k < q ∧ q ≤ k + N
      · have e2 : (.inl (.int, M) : hKd) = k' := by simpa [gMu, hq, hq2] using e
        subst e2
        refine ⟨arrV comp M (fun _ => .int 0), ?_, hC M _, (by intro e; cases e), arrV_size _ _ _, fun j hj => ?_, fun C e => by cases e⟩
        · rw [e5, if_pos ⟨by omega, by omega⟩]
          have := f6 (q - k - 1) (by omega)
          rw [show H.size + 1 + (q - k - 1) = H.size + (q - k) by omega] at this
          exact this
        · rw [arrV_read _ _ hj]
          show some (Value.int 0) = some (.int ((if k ≤ q ∧ q ≤ k + N then (fun _ => 0) else G.2.1 q) j))
          rw [if_pos ⟨by omega, by omega⟩]
      · have hq3 : ¬ (k ≤ q ∧ q ≤ k + N) := by omega
        have e2 : G.1 q = some k' := by simpa [gMu, hq, hq2] using e
        have h0 := h.1 q k' e2
        have e3 : (fun j => ((gMu G k N M H.size).2.2.2.1 q j).map (gMu G k N M H.size).2.2.2.2) = fun j => (G.2.2.2.1 q j).map G.2.2.2.2 := by
          funext j
          rw [show (gMu G k N M H.size).2.2.2.1 q = G.2.2.2.1 q by simp [gMu, hq, hq2]]
          cases e4 : G.2.2.2.1 q j with
          | none => rfl
          | some r =>
            have hr : ¬ (k ≤ r ∧ r ≤ k + N) := fun e5 => (hk r e5.1 e5.2).2 q j e4
            simp only [Option.map_some]
            rw [e5, if_neg hr]
        rw [e3, show (gMu G k N M H.size).2.1 q = G.2.1 q from if_neg hq3, show (gMu G k N M H.size).2.2.1 q = G.2.2.1 q from if_neg hq3, e5, if_neg hq3]
        exact h0.kept (o _ h0.lt)
  · have hu : ∀ q, (gMu G k N M H.size).1 q ≠ none → ¬ (k ≤ q ∧ q ≤ k + N) → G.2.2.2.2 q < H.size := by
      intro q h1 h2
      refine hlt q ?_
      have h3 : ¬ q = k := by omega
      have h4 : ¬ (k < q ∧ q ≤ k + N) := by omega
      simpa [gMu, h3, h4] using h1
    rw [e5, e5] at he
    by_cases h1 : k ≤ i ∧ i ≤ k + N
    · by_cases h2 : k ≤ j ∧ j ≤ k + N
      · rw [if_pos h1, if_pos h2] at he; omega
      · have := hu j hj h2
        rw [if_pos h1, if_neg h2] at he; omega
    · by_cases h2 : k ≤ j ∧ j ≤ k + N
      · have := hu i hi h1
        rw [if_neg h1, if_pos h2] at he; omega
      · rw [if_neg h1, if_neg h2] at he
        have h3 : ¬ i = k := by omega
        have h4 : ¬ (k < i ∧ i ≤ k + N) := by omega
        have h5 : ¬ j = k := by omega
        have h6 : ¬ (k < j ∧ j ≤ k + N) := by omega
        exact h.2 i j (by simpa [gMu, h3, h4] using hi) (by simpa [gMu, h5, h6] using hj) he
section HXP
variable {z : hZ} {own : String} {cc : ByteArray} {cells slots pc : Nat} {G Gi : hG} {lv tl : List (Nat × Value)} {rest : List Value} {h n m f ci : Nat} {iv : Nat → Nat → Int32} {tk : List (Nat × hKd)} {tr : List (Nat × Nat × Nat)}
theorem x_multi (C : hC z own cc) {k N M index : Nat} (hu : ∀ q, k ≤ q → q ≤ k + N → nou G q) (hl : Cond.classLink own index "[[I" ∈ lw_g) (hN : N < 2 ^ 20) (hM : M < 2 ^ 20) (hc : cells + (1 + N) ≤ (zR z).cells) (hs : slots + (N + N * M) ≤ (zR z).slots) (d : decode cc pc = .ok (.multianewarray index 2, 4))
    (kk : ∀ a, z0 z ≤ a → hX z (cells + 1 + N) (slots + N + N * M) (gMu G k N M a) lv (pc + 4) (.ref a :: rest)) : hX z cells slots G lv pc (.int (nI M) :: .int (nI N) :: rest) := by
  intro H locs ls h1 h2 h3
  have hov : (Cond.arrayOver (.array .int)).before (za z) (zs z) = true := C.2.2.2.2.2.1.2.2.2.1 (.array .int) (by decide +kernel)
  have hl' : (Cond.classLink own index ("[" ++ (FieldType.array .int).toString)).before (za z) (zs z) = true := by
    rw [show ("[" ++ (FieldType.array .int).toString) = "[[I" by decide +kernel]
    exact C.2.2.2.2.1 _ hl
  refine mu_W C.1 C.2.1 C.2.2.2.1 hl' hov (C.2.2.2.2.1 _ ac_int) rfl d rfl (nI_clamp (by omega)) (nI_clamp (by omega)) (nI_pos (by omega)) (nI_pos (by omega)) hN hM hc hs fun H1 cA comp z1 f2 o1 f6 hA hC => ?_
  refine kk H.size (Nat.le_trans C.2.2.2.2.2.2 h2.1) H1 _ ls (h1.newm hu f2 o1 f6 hA hC) ⟨Nat.le_trans h2.1 (by omega), fun x g1 g2 => (o1 x (Nat.lt_of_lt_of_le g1 h2.1)).trans (h2.2.1 x g1 g2), fun q hq => ?_⟩ h3
  rcases List.mem_append.mp hq with hq | hq
  · exact h2.2.2 q hq
  · obtain ⟨j, -, rfl⟩ := List.mem_map.mp hq
    exact Nat.le_trans C.2.2.2.2.2.2 h2.1
theorem x_aast (C : hC z own cc) {a v i N ci : Nat} {Cn : String} (hT : G.1 a = some (.inl (.object Cn, N))) (hv : G.1 v = some (.inr ci)) (hcn : vwCl[ci]?.map (fun w => w.1) = some Cn) (h0 : z0 z ≤ gA G a) (hi : i < N) (hN : N < 2 ^ 31) (d : decode cc pc = .ok (.aastore, 1))
    (kk : hX z cells slots (gR G a i (some v)) lv (pc + 1) rest) : hX z cells slots G lv pc (.ref (gA G v) :: .int (nI i) :: .ref (gA G a) :: rest) := by
  intro H locs ls h1 h2 h3
  obtain ⟨ce, q1, q2, q3, q4, q5, q6⟩ := h1.1 a _ hT
  obtain ⟨w, hw, cv, r1, r2, r3, -⟩ := h1.1 v _ hv
  rw [hw] at hcn
  have hcn : w.1 = Cn := Option.some.inj hcn
  obtain ⟨kA, comp, k1, k2, k3, -⟩ := q6 Cn rfl
  have hcls := (C.2.2.2.2.2.1.1.1 ci _ hw).2
  have hcomp : comp = (zD z).1 ci := Option.some.inj (k3.symm.trans (by rw [← hcn]; exact hcls.1))
  subst hcomp
  obtain ⟨kC, hkC, -⟩ := id hcls.2
  refine W.aast C.1 C.2.1 q1 q2.1 q3 k1 k2 rfl hkC ⟨nI_pos (by omega), by rw [q4, nI_clamp (by omega)]; exact hi⟩ r1 (fun q h => by rw [r3] at h; cases h) (by rw [r2]; exact hkC) (by rw [r2]; exact va_assign hcls) rfl rfl d fun H' g1 g2 g3 => ?_
  rw [nI_clamp (by omega)] at g1 ⊢
  refine kk H' _ ls (h1.put (a := a) hT g3 rfl rfl (fun _ _ => rfl) (fun _ _ => rfl) (fun q h => by simp [gR, va_up, h]) ?_) (h2.put g2 g3 h0) h3
  exact ⟨_, g1, q2, q3, by show (ce.slots.setIfInBounds _ _).size = _; rw [Array.size_setIfInBounds, q4], hav_upd q4 q5 (by simp [hav, gR, va_up, va_rf]) (fun j hj => by simp [hav, gR, va_up, hj]), q6⟩
theorem x_aconst (C : hC z own cc) (d : decode cc pc = .ok (.aconst_null, 1)) (kk : hX z cells slots G lv (pc + 1) (.null :: rest)) : hX z cells slots G lv pc rest := fun H locs ls h1 h2 h3 => lv_null C.1 C.2.1 d (kk H locs ls h1 h2 h3)
theorem blt.newm {a0 h n m N f K M a : Nat} {iv : Nat → Nat → Int32} {tk : List (Nat × hKd)} {tr : List (Nat × Nat × Nat)} {G G' : hG} (b : blt a0 h n m N f iv tk tr G G') (hm : m + 1 + K ≤ N) (ha : a0 ≤ a) (hiv : ∀ q, m ≤ q → q ≤ m + K → ∀ j, iv q j = 0) : blt a0 h n (m + 1 + K) N f iv (tk ++ ((m, .inl (.array .int, K)) :: (List.range K).map (fun j => (m + 1 + j, .inl (.int, M))))) (tr ++ (List.range K).map (fun j => (m, j, m + 1 + j))) G (gMu G' m K M a) := by
  have hb := b.1
  have hin : ∀ q, m ≤ q → q ≤ m + K → a0 ≤ (gMu G' m K M a).2.2.2.2 q ∧ (∀ j, (gMu G' m K M a).2.1 q j = iv q j) ∧ (∀ j, (gMu G' m K M a).2.2.1 q j = 0) := by
    intro q h1 h2
    refine ⟨?_, fun j => ?_, fun j => ?_⟩
    · rw [show (gMu G' m K M a).2.2.2.2 q = a + (q - m) from if_pos ⟨h1, h2⟩]; omega
    · rw [show (gMu G' m K M a).2.1 q = fun _ => 0 from if_pos ⟨h1, h2⟩]; exact (hiv q h1 h2 j).symm
    · rw [show (gMu G' m K M a).2.2.1 q = fun _ => 0 from if_pos ⟨h1, h2⟩]
  have hout : ∀ q, ¬ (m ≤ q ∧ q ≤ m + K) → (gMu G' m K M a).1 q = G'.1 q ∧ (gMu G' m K M a).2.2.2.2 q = G'.2.2.2.2 q ∧ (gMu G' m K M a).2.2.1 q = G'.2.2.1 q ∧ (gMu G' m K M a).2.1 q = G'.2.1 q ∧ (gMu G' m K M a).2.2.2.1 q = G'.2.2.2.1 q := by
    intro q hq
    have h1 : ¬ q = m := by omega
    have h2 : ¬ (m < q ∧ q ≤ m + K) := by omega
    exact ⟨by simp [gMu, h1, h2], if_neg hq, if_neg hq, if_neg hq, by simp [gMu, h1, h2]⟩
  refine ⟨⟨hb.1, by omega, by omega⟩, fun q hq => ?_, fun p j q e => ?_, fun e he => ?_, fun e he => ?_⟩
  · have h1 := b.2.1 q (by omega)
    have h2 := hout q (by omega)
    exact ⟨h2.1.trans h1.1, h2.2.1.trans h1.2.1, h2.2.2.1.trans h1.2.2.1, h2.2.2.2.1.trans h1.2.2.2.1, fun hqh => h2.2.2.2.2.trans (h1.2.2.2.2 hqh)⟩
  · by_cases hpm : m ≤ p ∧ p ≤ m + K
    · by_cases h1 : p = m
      · subst h1
        rw [show (gMu G' p K M a).2.2.2.1 p = fun j => if j < K then some (p + 1 + j) else none from if_pos rfl] at e
        by_cases hj : j < K
        · simp only [hj, if_true] at e; cases e; exact Or.inr (by omega)
        · simp only [hj, if_false] at e; cases e
      · have h2 : m < p ∧ p ≤ m + K := by omega
        rw [show (gMu G' m K M a).2.2.2.1 p = fun _ => none by simp [gMu, h1, h2]] at e
        cases e
    · rw [(hout p hpm).2.2.2.2] at e
      rcases b.2.2.1 p j q e with e | e
      · exact Or.inl e
      · exact Or.inr (by omega)
  · rcases List.mem_append.mp he with he | he
    · have h1 := b.2.2.2.1 e he
      have h2 := hout e.1 (by omega)
      rw [h2.1, h2.2.1, h2.2.2.1, h2.2.2.2.1]
      exact ⟨h1.1, by omega, h1.2.2⟩
    · rcases List.mem_cons.mp he with rfl | he
      · exact ⟨if_pos rfl, ⟨hb.2.1, by show m < m + 1 + K; omega⟩, hin m (Nat.le_refl _) (by omega)⟩
      · obtain ⟨j, hj, rfl⟩ := List.mem_map.mp he
        have hj := List.mem_range.mp hj
        have h1 : ¬ m + 1 + j = m := by omega
        have h2 : m < m + 1 + j ∧ m + 1 + j ≤ m + K := by omega
        exact ⟨by show (if m + 1 + j = m then _ else if m < m + 1 + j ∧ m + 1 + j ≤ m + K then _ else _) = _; rw [if_neg h1, if_pos h2], ⟨by show n ≤ m + 1 + j; omega, by show m + 1 + j < m + 1 + K; omega⟩, hin (m + 1 + j) (by omega) (by omega)⟩
  · rcases List.mem_append.mp he with he | he
    · have h1 := b.2.2.2.2 e he
      have h2 := hout e.1 (by rcases h1.2 with h2 | h2 <;> omega)
      rw [h2.2.2.2.2]
      exact ⟨h1.1, h1.2.imp id (by omega)⟩
    · obtain ⟨j, hj, rfl⟩ := List.mem_map.mp he
      have hj := List.mem_range.mp hj
      refine ⟨?_, Or.inr ⟨hb.2.1, by show m < m + 1 + K; omega⟩⟩
      show (if m = m then (fun j => if j < K then some (m + 1 + j) else none) else _) j = _
      rw [if_pos rfl]
      simp only [hj, if_true]
/-- multianewarray, putfield -/
theorem s_mul (C : hC z own cc) {N : Nat} (K : mkr z own G h n N ci) (b : blt (z0 z) h n m N f iv tk tr G Gi) {index idx k u v : Nat} {bf : Bool} (hm : m + 1 + u ≤ N) (hiv : ∀ q, m ≤ q → q ≤ m + u → ∀ j, iv q j = 0) (hk : f ≤ k) (fl : hFl own index ci k bf) (hr : hrf (hty ci k) = true) (hr2 : (hty ci k).isReference = true) (hl : Cond.classLink own idx "[[I" ∈ lw_g) (hu : u < 2 ^ 20) (hv : v < 2 ^ 20) (hc : cells + (1 + u) ≤ (zR z).cells) (hs : slots + (u + u * v) ≤ (zR z).slots) (d1 : decode cc pc = .ok (.multianewarray idx 2, 4)) (d2 : decode cc (pc + 4) = .ok (.putfield index, 3))
    (kk : ∀ G', blt (z0 z) h n (m + 1 + u) N (k + 1) iv (tk ++ ((m, .inl (.array .int, u)) :: (List.range u).map (fun j => (m + 1 + j, .inl (.int, v))))) (tr ++ (List.range u).map (fun j => (m, j, m + 1 + j)) ++ [(h, k, m)]) G G' → hX z (cells + 1 + u) (slots + u + u * v) G' ((0, .ref (gA G' h)) :: tl) (pc + 7) []) : hX z cells slots Gi ((0, .ref (gA Gi h)) :: tl) pc [.int (nI v), .int (nI u), .ref (gA Gi h)] := by
  have hb := b.1
  refine x_multi C (k := m) (fun q q1 q2 => b.frm K.2.2.2.2.2 q q1 (by omega)) hl hu hv hc hs d1 (fun a ha => ?_)
  have b1 := b.newm (K := u) (M := v) hm ha hiv
  have e1 : gA (gMu Gi m u v a) m = a := by
    show (if m ≤ m ∧ m ≤ m + u then a + (m - m) else _) = a
    rw [if_pos ⟨Nat.le_refl _, by omega⟩]; omega
  have e2 : gA (gMu Gi m u v a) h = gA Gi h := by
    show (if m ≤ h ∧ h ≤ m + u then a + (h - m) else _) = _
    rw [if_neg (by omega)]
  generalize gMu Gi m u v a = G1 at b1 e1 e2 ⊢
  rw [← e1, ← e2]
  refine mkr.put C K b1 fl hr hr2 d2 ?_
  exact kk _ (b1.put hk ⟨hb.2.1, by omega⟩)
end HXP
