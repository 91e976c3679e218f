/-! ===== StepShake.pattern ===== -/
set_option maxHeartbeats 4000000 in
set_option maxRecDepth 100000 in
theorem ok_X10_pattern {l : Launch} {a0 : Nat} {D : va_G} {sa : Nat → Nat} {G : hG} (xO : isX G.1 G.2.2.2.1 G.2.2.2.2 a0) (c h : Nat) (hh : h = 200 + 10 * c) (hc : c < 8) (hI : G.2.1 100 7 = nI c) (F : fre h 300 G) (u v : Int32) (hu : u = 0 ∨ u = 1) (hv : v = 0 ∨ v = 1) : hM l a0 D sa yX10_pattern cX10_pattern 3 (some .int) { frames := 2, cells := 9, slots := 48, locals := 50 } [.ref (gA G 100), .int u, .int v] G (fun r G' => r = some (.int (nI c)) ∧ ∃ Gm a, a0 ≤ a ∧ blt a0 h (h + 1) (h + 1 + 8) 300 4 iv0 [(h + 1, .inl (.array .int, 6)), (h + 1 + 1, .inl (.int, 5)), (h + 1 + 2, .inl (.int, 5)), (h + 1 + 3, .inl (.int, 5)), (h + 1 + 4, .inl (.int, 5)), (h + 1 + 5, .inl (.int, 5)), (h + 1 + 6, .inl (.int, 5)), (h + 1 + 7, .inl (.int, 6))] [(h + 1, 0, h + 1 + 1), (h + 1, 1, h + 1 + 2), (h + 1, 2, h + 1 + 3), (h + 1, 3, h + 1 + 4), (h + 1, 4, h + 1 + 5), (h + 1, 5, h + 1 + 6), (h, 2, h + 1), (h, 3, h + 1 + 7)] (gNw G h (.inr 3) a) Gm ∧ G' = gI (gR (gI (gI Gm h 0 u) h 1 v) 101 c (some h)) 100 7 (nI (c + 1))) := by
  refine hM.of (by decide +kernel) (Nat.le_of_ble_eq_true rfl) ?_
  intro z hl h0 hD hS hNn C E
  subst hl; subst h0; subst hD; subst hS
  have C : hC z RX10 cX10_pattern := C
  have hZ := E.2.2.2.1
  show hX z 0 0 G [(0, .ref (gA G 100)), (1, .int u), (2, .int v)] 0 []
  have t100 := (xO.1 100 _ rfl).1
  have t101 := (xO.1 101 _ rfl).1
  refine x_aload_n C dX10_pattern_0 0 rfl rfl ?_
  refine x_geti C fl_X10_47 t100 rfl dX10_pattern_1 ?_
  refine x_eqi (y := nI c) hI ?_
  refine x_bipush (v := nI 8) C dX10_pattern_4 (by decide +kernel) ?_
  refine x_icmp_ltN (tgt := 12) C (by omega) (by omega) dX10_pattern_6 (by decide) (fun _ => ?_) (fun c6 => absurd c6 (by omega))
  refine x_aload_n C dX10_pattern_12 0 rfl rfl ?_
  refine x_getr C fl_X10_11 t100 rfl (xO.2.1 100 0 101 rfl) dX10_pattern_13 ?_
  refine x_aload_n C dX10_pattern_16 0 rfl rfl ?_
  refine x_geti C fl_X10_47 t100 rfl dX10_pattern_17 ?_
  refine x_eqi (y := nI c) hI ?_
  refine x_new (k := h) (ci := 3) C (F h (Nat.le_refl _) (by omega)) hc_X3 (by decide +kernel) cl_X10_9 it_X3 ini_X3 (by rw [hZ]; exact Nat.le_of_ble_eq_true rfl) (by rw [hZ]; exact Nat.le_of_ble_eq_true rfl) dX10_pattern_20 (fun a ha => ?_)
  have e1 := gNw_A (G := G) (m := h) (a := a) (kd := .inr 3)
  have e2 := gNw_Ao (G := G) (m := h) (a := a) (h := 100) (kd := .inr 3) (by omega)
  have e3 := gNw_Ao (G := G) (m := h) (a := a) (h := 101) (kd := .inr 3) (by omega)
  have f1 : (gNw G h (.inr 3) a).1 h = some (.inr 3) := va_up_same _ _ _
  have f2 : ∀ j, (gNw G h (.inr 3) a).2.1 h j = 0 := fun j => by rw [show (gNw G h (.inr 3) a).2.1 h = fun _ => 0 from va_up_same _ _ _]
  have b00 : blt (z0 z) h (h + 1) (h + 1) 300 0 iv0 [] [] G G := blt.rf (by omega) (by omega)
  have F1 : fre (h + 1) 300 (gNw G h (.inr 3) a) := by
    intro q q1 q2
    have hq := F q (by omega) q2
    refine ⟨(va_up_other _ _ (by omega)).trans hq.1, fun p j e => ?_⟩
    by_cases hp : p = h
    · subst hp
      rw [show (gNw G p (.inr 3) a).2.2.2.1 p = fun _ => none from va_up_same _ _ _] at e
      cases e
    · rw [show (gNw G h (.inr 3) a).2.2.2.1 p = G.2.2.2.1 p from va_up_other _ _ hp] at e
      exact hq.2 p j e
  have g100 : (gNw G h (.inr 3) a).1 100 = some (.inr 10) := (va_up_other _ _ (by omega)).trans t100
  have g101 : (gNw G h (.inr 3) a).1 101 = some (.inl (.object "StepShake$Pattern", 8)) := (va_up_other _ _ (by omega)).trans t101
  have gI7 : (gNw G h (.inr 3) a).2.1 100 7 = nI c := by
    rw [show (gNw G h (.inr 3) a).2.1 100 = G.2.1 100 from va_up_other _ _ (by omega)]; exact hI
  have hfin : ∀ (G1 : hG), G1 = gNw G h (.inr 3) a → hX z (0 + 1) (0 + 6) G1 [(0, .ref (gA G 100)), (1, .int u), (2, .int v)] 23 [.ref a, .int (nI c), .ref (gA G 101)] := by
    intro G1 hG1
    rw [← hG1] at e1 e2 e3 f1 f2 F1 g100 g101 gI7
    rw [← e1, ← e2, ← e3]
    refine x_dup C dX10_pattern_23 rfl ?_
    refine x_iload_n C dX10_pattern_24 1 rfl rfl ?_
    refine x_iload_n C dX10_pattern_25 2 rfl rfl ?_
    refine x_callI C (ok_X3_init h (h + 1) 300 u v hu hv (by omega) (by omega) f1 (by rw [e1]; exact ha) f2 F1) mi_X3_init ml_X10_54 rfl rfl (Nat.le_of_ble_eq_true rfl) (hrm (rm := { frames := 0, cells := 0, slots := 0, locals := 0 }) hZ ⟨Nat.le_of_ble_eq_true rfl, Nat.le_of_ble_eq_true rfl⟩) (hcs hZ ⟨Nat.le_of_ble_eq_true rfl, Nat.le_of_ble_eq_true rfl⟩) dX10_pattern_26 (fun r G' hp => ?_)
    obtain ⟨rfl, Gm, rfl, b⟩ := hp
    have ho := b.old
    have h100 := b.2.1 100 (by omega)
    have h101 := b.2.1 101 (by omega)
    have p1 : gA G1 h = gA (gI (gI Gm h 0 u) h 1 v) h := ho.2.1.symm
    have p2 : gA G1 100 = gA (gI (gI Gm h 0 u) h 1 v) 100 := h100.2.1.symm
    have p3 : gA G1 101 = gA (gI (gI Gm h 0 u) h 1 v) 101 := h101.2.1.symm
    rw [p1, p2, p3]
    show hX z (0 + 1 + 8) (0 + 6 + 42) (gI (gI Gm h 0 u) h 1 v) [(0, .ref (gA (gI (gI Gm h 0 u) h 1 v) 100)), (1, .int u), (2, .int v)] 29 [.ref (gA (gI (gI Gm h 0 u) h 1 v) h), .int (nI c), .ref (gA (gI (gI Gm h 0 u) h 1 v) 101)]
    have q100 : (gI (gI Gm h 0 u) h 1 v).2.1 100 = G1.2.1 100 := by
      show va_up (va_up Gm.2.1 h _) h _ 100 = _
      rw [va_up_other _ _ (by omega), va_up_other _ _ (by omega)]; exact h100.2.2.2.1
    refine x_aast (a := 101) (v := h) (i := c) (N := 8) (ci := 3) (Cn := "StepShake$Pattern") C (h101.1.trans g101) (ho.1.trans f1) rfl (by show z0 z ≤ Gm.2.2.2.2 101; rw [h101.2.1]; show z0 z ≤ gA G1 101; rw [e3]; exact (xO.1 101 _ rfl).2) hc (by decide) dX10_pattern_29 ?_
    generalize hG3 : gR (gI (gI Gm h 0 u) h 1 v) 101 c (some h) = G3
    have r100 : G3.1 100 = some (.inr 10) := by rw [← hG3]; exact h100.1.trans g100
    have rA : z0 z ≤ gA G3 100 := by rw [← hG3]; show z0 z ≤ Gm.2.2.2.2 100; rw [h100.2.1]; show z0 z ≤ gA G1 100; rw [e2]; exact (xO.1 100 _ rfl).2
    have rI : G3.2.1 100 7 = nI c := by rw [← hG3]; exact (congrFun q100 7).trans gI7
    have rG : gA (gI (gI Gm h 0 u) h 1 v) = gA G3 := by rw [← hG3]; rfl
    rw [rG]
    refine x_aload_n C dX10_pattern_30 0 rfl rfl ?_
    refine x_dup C dX10_pattern_31 rfl ?_
    refine x_geti C fl_X10_47 r100 rfl dX10_pattern_32 ?_
    refine x_eqi (y := nI c) rI ?_
    refine x_iconst (v := nI 1) C dX10_pattern_35 (by decide +kernel) ?_
    refine x_iaddN C dX10_pattern_36 ?_
    refine x_puti C fl_X10_47 r100 rA rfl dX10_pattern_37 ?_
    refine x_aload_n C dX10_pattern_40 0 rfl rfl ?_
    refine x_geti (G := gI G3 100 7 (nI (c + 1))) C fl_X10_47 r100 rfl dX10_pattern_41 ?_
    refine x_eqi (y := nI (c + 1)) (by simp [gI, va_up, upd]) ?_
    refine x_iconst (v := nI 1) C dX10_pattern_44 (by decide +kernel) ?_
    refine x_isubN C (by omega) dX10_pattern_45 ?_
    exact x_iret C E (Nat.le_of_ble_eq_true rfl) (Nat.le_of_ble_eq_true rfl) dX10_pattern_46 ⟨by rw [Nat.add_sub_cancel], Gm, a, ha, by rw [← hG1]; exact b, by rw [hG3]⟩
  exact hfin _ rfl
