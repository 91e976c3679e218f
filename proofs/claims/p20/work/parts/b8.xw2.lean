/-! ===== the class over the world: the other calls ===== -/
theorem xab {l : Launch} {a0 : Nat} {D : va_G} {sa : Nat → Nat} {W : wW} {T : Nat → Option hKd} {I : Nat → Nat → Int32} {L : Nat → Nat → Int64} {R : Nat → Nat → Option Nat} {A : Nat → Nat} (gX : XR a0 sa W T I R A) (hP : PI W) (s : Nat) (hs : s < wns W) (w : Int32) : hM l a0 D sa yX10_about cX10_about 4 (some .int) { frames := 2, cells := 0, slots := 0, locals := 41 } [.ref (A 100), .int (nI s), .int w] (T, I, L, R, A) (fun r G' => r = some (.int (abW W s w)) ∧ G' = (T, I, L, R, A)) := by
  obtain ⟨⟨xO, hsa, c4, F1, F2⟩, ⟨hst, hnp, hns⟩, hpt, hsd, ht, hlt, hg⟩ := id gX
  have hn8 := hP.1.1
  have hn4 := hP.1.2
  have i := hP.2.2.2.2.2 _ hs
  have k := hsd _ hs
  have q := hpt _ i.1
  have ipa := i.1
  obtain ⟨cp, cq, cr, cs, h4⟩ := c4
  have h31 : sNx (wsd W s) < 2 ^ 30 := Nat.lt_of_le_of_lt (Nat.le_trans i.2.1.2.2.2 (hP.2.2.2.2.1 _ i.1).1) (by decide)
  exact ok_X10_about xO hsa (wns W) hns hn4 (s) hs (300 + 20 * s) (200 + 10 * sPa (wsd W (s))) k.2.1 (sHa (wsd W (s))) k.2.2.1.2.1 i.2.1.1 (by omega) q.2.1 (pKn (sPt W (s))) (pMs (sPt W (s))) (pSz (sPt W (s))) (pTk (sPt W (s))) (hsW W (sPa (wsd W (s)))) q.2.2 (by omega) (by omega) hst cp cq cr cs h4 k.1 (sSg (wsd W (s))) k.2.2.2.2 i.2.1.2.1 (sNx (wsd W (s))) i.2.1.2.2.1 h31 (sPa (wsd W s)) k.2.2.1.1 w
theorem xhs {l : Launch} {a0 : Nat} {D : va_G} {sa : Nat → Nat} {W : wW} {T : Nat → Option hKd} {I : Nat → Nat → Int32} {L : Nat → Nat → Int64} {R : Nat → Nat → Option Nat} {A : Nat → Nat} (gX : XR a0 sa W T I R A) (hP : PI W) (s : Nat) (hs : s < wns W) (k : Nat) (hk : k < 32) : hM l a0 D sa yX10_hash cX10_hash 4 (some .int) { frames := 1, cells := 0, slots := 0, locals := 21 } [.ref (A 100), .int (nI s), .int (nI k)] (T, I, L, R, A) (fun r G' => r = some (.int (sSg (wsd W s) 1 k)) ∧ G' = (T, I, L, R, A)) := by
  obtain ⟨⟨xO, hsa, c4, F1, F2⟩, ⟨hst, hnp, hns⟩, hpt, hsd, ht, hlt, hg⟩ := id gX
  have e := (hsd _ hs).2.2.2.2.1 1 (by decide) k hk
  rw [← e]
  exact ok_X10_hash xO hsa (wns W) hns hP.1.2 s hs (300 + 20 * s) _ (hsd _ hs).2.1 (hsd _ hs).1 k hk
set_option maxHeartbeats 1000000 in
theorem xw_pattern {l : Launch} {a0 : Nat} {D : va_G} {sa : Nat → Nat} {W : wW} {T : Nat → Option hKd} {I : Nat → Nat → Int32} {L : Nat → Nat → Int64} {R : Nat → Nat → Option Nat} {A : Nat → Nat} (gX : XR a0 sa W T I R A) (gM : MR a0 W T I R A) (hP : PI W) (u v : Int32) (hu : u = 0 ∨ u = 1) (hv : v = 0 ∨ v = 1) : hM l a0 D sa yX10_pattern cX10_pattern 3 (some .int) { frames := 2, cells := 9, slots := 48, locals := 50 } [.ref (A 100), .int u, .int v] (T, I, L, R, A) (RP a0 sa (sPat W u v).1 W (.int (sPat W u v).2) A) := by
  obtain ⟨⟨xO, hsa, c4, F1, F2⟩, ⟨hst, hnp, hns⟩, hpt, hsd, ht, hlt, hg⟩ := id gX
  have hn8 := hP.1.1
  have hn4 := hP.1.2
  by_cases h8 : wnp W = 8
  · rw [show sPat W u v = (W, -4) from if_pos h8]
    exact hM.wk (fl_X10_pattern xO hsa (by rw [hnp, h8]) u v) (by decide) (fun r G' h => by obtain ⟨rfl, rfl⟩ := h; exact ⟨rfl, gX, gM, rfl, rfl⟩)
  · rw [show sPat W u v = _ from if_neg h8]
    refine hM.wk (ok_X10_pattern (G := (T, I, L, R, A)) xO (wnp W) (200 + 10 * wnp W) rfl (by omega) hnp F1 u v hu hv) (by decide) (fun r G' h => ?_)
    obtain ⟨rfl, Gm, a, ha, b, rfl⟩ := h
    have n := nwP_of (c := wnp W) hu hv (by omega) b ha
    generalize (gI (gR (gI (gI Gm (200 + 10 * wnp W) 0 u) (200 + 10 * wnp W) 1 v) 101 (wnp W) (some (200 + 10 * wnp W))) 100 7 (nI (wnp W + 1))) = G9 at n ⊢
    have nk := fun q (hq : q < 64) => n.1 q (by omega)
    exact ⟨rfl, XR.newP gX hP (by omega) n, gM.kept (fun q hq => ⟨(nk q hq).1, (nk q hq).2.2.1 (by omega), (nk q hq).2.1, (nk q hq).2.2.2 (by omega)⟩), (n.1 100 (by omega)).2.1, (n.1 63 (by omega)).2.1⟩
set_option maxHeartbeats 1000000 in
theorem xw_side {l : Launch} {a0 : Nat} {D : va_G} {sa : Nat → Nat} {W : wW} {T : Nat → Option hKd} {I : Nat → Nat → Int32} {L : Nat → Nat → Int64} {R : Nat → Nat → Option Nat} {A : Nat → Nat} (gX : XR a0 sa W T I R A) (gM : MR a0 W T I R A) (hP : PI W) (p hv sv ov ev : Int32) : hM l a0 D sa yX10_side cX10_side 8 (some .int) { frames := 7, cells := 12, slots := 343, locals := 230 } [.ref (A 100), .int p, .int hv, .int sv, .int ov, .int ev] (T, I, L, R, A) (RP a0 sa (sSid W p hv sv ov ev).1 W (.int (sSid W p hv sv ov ev).2) A) := by
  obtain ⟨⟨xO, hsa, c4, F1, F2⟩, ⟨hst, hnp, hns⟩, hpt, hsd, ht, hlt, hg⟩ := id gX
  have hn8 := hP.1.1
  have hn4 := hP.1.2
  by_cases hb : p < 0 ∨ nI (wnp W) ≤ p
  · rw [show sSid W p hv sv ov ev = (W, -2) from if_pos hb]
    exact hM.wk (bd_X10_side xO hsa (wnp W) hnp hn8 p hb hv sv ov ev) (by decide) (fun r G' h => by obtain ⟨rfl, rfl⟩ := h; exact ⟨rfl, gX, gM, rfl, rfl⟩)
  · obtain ⟨hk, hpk⟩ := ix_ok (v := p) (n := wnp W) (by omega) hb
    have hcv : Value.int p = Value.int (nI (ixI p)) := by rw [← hpk]
    rw [hcv]
    have es : sSid W p hv sv ov ev = if (hv < 0 ∨ nI 1 < hv) ∨ sv < -1 ∨ ov < -1 then (W, -2) else sSidK W (ixI p) (ixI hv) sv ov ev := if_neg hb
    rw [es]
    by_cases hbad : (hv < 0 ∨ nI 1 < hv) ∨ sv < -1 ∨ ov < -1
    · rw [if_pos hbad]
      exact hM.wk (bn_X10_side xO hsa (wnp W) hnp hn8 (ixI p) hk (200 + 10 * ixI p) (hpt _ hk).2.1 (pKn (wpt W (ixI p))) (pMs (wpt W (ixI p))) (pSz (wpt W (ixI p))) (pTk (wpt W (ixI p))) (hsW W (ixI p)) (hpt _ hk).2.2 (hpt _ hk).1 hv sv ov ev hbad) (by decide) (fun r G' h => by obtain ⟨rfl, rfl⟩ := h; exact ⟨rfl, gX, gM, rfl, rfl⟩)
    · rw [if_neg hbad]
      have hv2 := ix_le (v := hv) (n := 1) (by decide) (fun e => hbad (Or.inl e))
      have hcw : Value.int hv = Value.int (nI (ixI hv)) := by rw [← hv2.2]
      rw [hcw]
      obtain ⟨cp, cq, cr, cs, h4⟩ := c4
      refine hM.wk (ok_X10_side xO hsa (wnp W) hnp hn8 (ixI p) hk (200 + 10 * ixI p) (hpt _ hk).2.1 (pKn (wpt W (ixI p))) (pMs (wpt W (ixI p))) (pSz (wpt W (ixI p))) (pTk (wpt W (ixI p))) (hsW W (ixI p)) (hpt _ hk).2.2 (hpt _ hk).1 (ixI hv) (by omega) sv ov ev (Int32.not_lt.mp (fun e => hbad (Or.inr (Or.inl e)))) (Int32.not_lt.mp (fun e => hbad (Or.inr (Or.inr e)))) (by omega) (by omega) hst cp cq cr cs h4 (wns W) hns hn4 (fun _ => F2)) (by decide) (fun r G' h => ?_)
      obtain ⟨f, hF, h⟩ := h
      have hno := noB_iff (hd := ixI hv) (sv := sv) (ov := ov) hF
      rcases h with ⟨h1, rfl, rfl⟩ | ⟨h1, h2, rfl, rfl⟩ | ⟨h1, h2, rfl, T1, I1, R1, A1, n, I', L', R', rfl, m⟩
      · rw [show sSidK W (ixI p) (ixI hv) sv ov ev = (W, -3) from if_pos (hno.mpr h1)]; exact ⟨rfl, gX, gM, rfl, rfl⟩
      · rw [show sSidK W (ixI p) (ixI hv) sv ov ev = (W, -4) from (if_neg (fun e => h1 (hno.mp e))).trans (if_pos h2)]; exact ⟨rfl, gX, gM, rfl, rfl⟩
      · rw [show sSidK W (ixI p) (ixI hv) sv ov ev = _ from (if_neg (fun e => h1 (hno.mp e))).trans (if_neg (by omega))]
        have n1 := n.1
        have m8 := m.2.2.2.2.2.2.2.1
        exact ⟨rfl, XR.mkS gX hP h2 hk n m, gM.kept (fun q hq => ⟨(n1 q (by omega)).1, (m.2.2.2.2.2.2.2.2.1 q (by omega) (by omega)).trans (n1 q (by omega)).2.1, (n1 q (by omega)).2.2.1, (m8 q (by simp; omega)).trans (n1 q (by omega)).2.2.2⟩), (n1 100 (by omega)).2.2.1, (n1 63 (by omega)).2.2.1⟩
set_option maxHeartbeats 1000000 in
theorem xw_feed {l : Launch} {a0 : Nat} {D : va_G} {sa : Nat → Nat} {W : wW} {T : Nat → Option hKd} {I : Nat → Nat → Int32} {L : Nat → Nat → Int64} {R : Nat → Nat → Option Nat} {A : Nat → Nat} (gX : XR a0 sa W T I R A) (gM : MR a0 W T I R A) (hP : PI W) (w : Int64) (n : Int32) : hM l a0 D sa yX10_feed cX10_feed 5 (some .int) { frames := 1, cells := 0, slots := 0, locals := 21 } [.ref (A 100), .long w, .int n] (T, I, L, R, A) (RP a0 sa (sFed W w n).1 W (.int (sFed W w n).2) A) := by
  obtain ⟨⟨xO, hsa, c4, F1, F2⟩, ⟨hst, hnp, hns⟩, hpt, hsd, ht, hlt, hg⟩ := id gX
  have hn8 := hP.1.1
  have hn4 := hP.1.2
  refine hM.wk (ok_X10_feed xO hsa (wtp W).1 hP.2.1.1 ht.1 w n) (by decide) (fun r G' h => ?_)
  rcases h with ⟨h1, rfl, rfl⟩ | ⟨k, k1, k8, rfl, h⟩
  · rw [show sFed W w n = (W, -2) from if_pos h1]; exact ⟨rfl, gX, gM, rfl, rfl⟩
  · have h5 : ¬ (nI k < nI 1 ∨ nI 8 < nI k) := by
      rintro (e | e)
      · have := (nI_ltI (by omega) (by decide)).mp e; omega
      · have := (nI_ltI (by decide) (by omega)).mp e; omega
    have es : sFed W w (nI k) = if 64 < (wtp W).1 + k then (W, -4) else (setR W (fedF W w k) (wlt W) (wgt W), nI ((wtp W).1 + k)) := by
      unfold sFed; rw [if_neg h5, ixI_n (by omega)]
    rw [es]
    rcases h with ⟨h1, rfl, rfl⟩ | ⟨h1, rfl, I', rfl, h2, h3, h4⟩
    · rw [if_pos h1]; exact ⟨rfl, gX, gM, rfl, rfl⟩
    · rw [if_neg (by omega)]
      refine ⟨rfl, XR.rows gX (fun q a => h4 q (by simp; omega)) fr121.rf c4 ⟨h2, fun j hj => ?_⟩ (hlt.fx h4 (by simp) (by simp)) (hg.fx h4 (by simp) (by simp)), gM.fx h4 (by simp) fr121.rf, rfl, rfl⟩
      show I' 104 j = _
      rw [h3 j]
      show _ = if (wtp W).1 ≤ j ∧ j < (wtp W).1 + k then _ else _
      have hj : j < (wtp W).1 + k := hj
      split
      · rfl
      · exact ht.2 j (by omega)
set_option maxHeartbeats 1000000 in
theorem xw_alter {l : Launch} {a0 : Nat} {D : va_G} {sa : Nat → Nat} {W : wW} {T : Nat → Option hKd} {I : Nat → Nat → Int32} {L : Nat → Nat → Int64} {R : Nat → Nat → Option Nat} {A : Nat → Nat} (gX : XR a0 sa W T I R A) (gM : MR a0 W T I R A) (hP : PI W) (i x : Int32) : hM l a0 D sa yX10_alter cX10_alter 4 (some .int) { frames := 0, cells := 0, slots := 0, locals := 0 } [.ref (A 100), .int i, .int x] (T, I, L, R, A) (RP a0 sa (sAlt W i x).1 W (.int (sAlt W i x).2) A) := by
  obtain ⟨⟨xO, hsa, c4, F1, F2⟩, ⟨hst, hnp, hns⟩, hpt, hsd, ht, hlt, hg⟩ := id gX
  have hn8 := hP.1.1
  have hn4 := hP.1.2
  by_cases hb : (i < 0 ∨ nI (wlt W).1 ≤ i) ∨ (x < 0 ∨ nI 255 < x)
  · rw [show sAlt W i x = (W, -2) from if_pos hb]
    exact hM.wk (bd_X10_alter xO hsa (wlt W).1 hlt.1 hP.2.2.1.1 i x hb) (by decide) (fun r G' h => by obtain ⟨rfl, rfl⟩ := h; exact ⟨rfl, gX, gM, rfl, rfl⟩)
  · have hl := hP.2.2.1.1
    have hi := ix_ok (v := i) (n := (wlt W).1) (by omega) (fun e => hb (Or.inl e))
    have hx := ix_le (v := x) (n := 255) (by decide) (fun e => hb (Or.inr e))
    rw [show sAlt W i x = _ from if_neg hb]
    have hci : Value.int i = Value.int (nI (ixI i)) := by rw [← hi.2]
    have hcx : Value.int x = Value.int (nI (ixI x)) := by rw [← hx.2]
    rw [hci, hcx]
    refine hM.wk (ok_X10_alter xO hsa (wlt W).1 hlt.1 hP.2.2.1.1 (ixI i) (ixI x) hi.1 (by omega)) (by decide) (fun r G' h => ?_)
    obtain ⟨rfl, I', rfl, h1⟩ := h
    have h4 : fx [106] I I' := by rw [h1]; exact fx.rf.up (by simp)
    rw [← hx.2] at h1
    have e6 := hlt.2 _ hi.1
    rw [e6] at h1 ⊢
    refine ⟨rfl, XR.rows gX (fun q a => h4 q (by simp; omega)) fr121.rf c4 (ht.fx h4 (by simp) (by simp)) ⟨(congrFun (h4 105 (by simp)) 1).trans hlt.1, fun j hj => ?_⟩ (hg.fx h4 (by simp) (by simp)), gM.fx h4 (by simp) fr121.rf, rfl, rfl⟩
    show I' 106 j = _
    rw [h1, va_up_same]
    exact upd_cg (hlt.2 j hj)
set_option maxHeartbeats 1000000 in
theorem xw_cut {l : Launch} {a0 : Nat} {D : va_G} {sa : Nat → Nat} {W : wW} {T : Nat → Option hKd} {I : Nat → Nat → Int32} {L : Nat → Nat → Int64} {R : Nat → Nat → Option Nat} {A : Nat → Nat} (gX : XR a0 sa W T I R A) (gM : MR a0 W T I R A) (hP : PI W) (n : Int32) : hM l a0 D sa yX10_cut cX10_cut 3 (some .int) { frames := 0, cells := 0, slots := 0, locals := 0 } [.ref (A 100), .int n] (T, I, L, R, A) (RP a0 sa (sCut W n).1 W (.int (sCut W n).2) A) := by
  obtain ⟨⟨xO, hsa, c4, F1, F2⟩, ⟨hst, hnp, hns⟩, hpt, hsd, ht, hlt, hg⟩ := id gX
  have hn8 := hP.1.1
  have hn4 := hP.1.2
  by_cases hb : n < 0 ∨ nI (wlt W).1 < n
  · rw [show sCut W n = (W, -2) from if_pos hb]
    exact hM.wk (bd_X10_cut xO hsa (wlt W).1 hlt.1 hP.2.2.1.1 n hb) (by decide) (fun r G' h => by obtain ⟨rfl, rfl⟩ := h; exact ⟨rfl, gX, gM, rfl, rfl⟩)
  · have hl := hP.2.2.1.1
    have hi := ix_le (v := n) (n := (wlt W).1) (by omega) hb
    rw [show sCut W n = _ from if_neg hb]
    have hci : Value.int n = Value.int (nI (ixI n)) := by rw [← hi.2]
    rw [hci]
    refine hM.wk (ok_X10_cut xO hsa (wlt W).1 hlt.1 hP.2.2.1.1 (ixI n) hi.1) (by decide) (fun r G' h => ?_)
    obtain ⟨rfl, I', rfl, h1⟩ := h
    have h4 : fx [105] I I' := by rw [h1]; exact fx.rf.up (by simp)
    refine ⟨rfl, XR.rows gX (fun q a => h4 q (by simp; omega)) fr121.rf c4 (ht.fx h4 (by simp) (by simp)) ⟨by show I' 105 1 = _; rw [h1, va_up_same]; simp [upd], fun j hj => ?_⟩ (hg.fx h4 (by simp) (by simp)), gM.fx h4 (by simp) fr121.rf, rfl, rfl⟩
    have hj : j < ixI n := hj
    show I' 106 j = _
    rw [h4 106 (by simp)]; exact hlt.2 j (by omega)
theorem rowA_k {r : wR} {k : Nat} (h : r.1 < 2 ^ 31) (hk : k < r.1) : rowA r (nI k) = r.2 k := by
  unfold rowA
  rw [if_neg, ixI_n (by omega)]
  rintro (e | e)
  · exact nI_lt0 (by omega) e
  · have := (nI_leI (by omega) (by omega)).mp e; omega
set_option maxHeartbeats 1000000 in
theorem xw_byteOf {l : Launch} {a0 : Nat} {D : va_G} {sa : Nat → Nat} {W : wW} {T : Nat → Option hKd} {I : Nat → Nat → Int32} {L : Nat → Nat → Int64} {R : Nat → Nat → Option Nat} {A : Nat → Nat} (gX : XR a0 sa W T I R A) (gM : MR a0 W T I R A) (hP : PI W) (w i : Int32) : hM l a0 D sa yX10_byteOf cX10_byteOf 3 (some .int) { frames := 1, cells := 0, slots := 0, locals := 21 } [.ref (A 100), .int w, .int i] (T, I, L, R, A) (RP a0 sa (sByt W w i).1 W (.int (sByt W w i).2) A) := by
  obtain ⟨⟨xO, hsa, c4, F1, F2⟩, ⟨hst, hnp, hns⟩, hpt, hsd, ht, hlt, hg⟩ := id gX
  have hn8 := hP.1.1
  have hn4 := hP.1.2
  by_cases hb : w < 0 ∨ nI 2 < w
  · rw [show sByt W w i = (W, -2) from if_pos hb]
    exact hM.wk (bd_X10_byteOf xO hsa w i hb) (by decide) (fun r G' h => by obtain ⟨rfl, rfl⟩ := h; exact ⟨rfl, gX, gM, rfl, rfl⟩)
  · have hi := ix_le (v := w) (n := 2) (by decide) hb
    rw [show sByt W w i = _ from if_neg hb]
    have hci : Value.int w = Value.int (nI (ixI w)) := by rw [← hi.2]
    rw [hci]
    rcases (show ixI w = 0 ∨ ixI w = 1 ∨ ixI w = 2 by omega) with e | e | e
    · rw [e]
      rw [if_pos rfl]
      refine hM.wk (ok0_X10_byteOf xO hsa (wlt W).1 hlt.1 hP.2.2.1.1 i) (by decide) (fun r G' h => ?_)
      obtain ⟨⟨k, hk, rfl, rfl⟩ | ⟨h1, rfl⟩, rfl⟩ := h
      · rw [hlt.2 k hk, show rowA (wlt W) (nI k) = (wlt W).2 k from rowA_k (by have := hP.2.2.1.1; omega) hk]; exact ⟨rfl, gX, gM, rfl, rfl⟩
      · rw [show rowA (wlt W) i = -1 from if_pos h1]; exact ⟨rfl, gX, gM, rfl, rfl⟩
    · rw [e]
      rw [if_neg (by decide), if_pos rfl]
      refine hM.wk (ok1_X10_byteOf xO hsa (wgt W).1 hg.1 hP.2.2.2.1 i) (by decide) (fun r G' h => ?_)
      obtain ⟨⟨k, hk, rfl, rfl⟩ | ⟨h1, rfl⟩, rfl⟩ := h
      · rw [hg.2 k hk, show rowA (wgt W) (nI k) = (wgt W).2 k from rowA_k (by have := hP.2.2.2.1; omega) hk]; exact ⟨rfl, gX, gM, rfl, rfl⟩
      · rw [show rowA (wgt W) i = -1 from if_pos h1]; exact ⟨rfl, gX, gM, rfl, rfl⟩
    · rw [e]
      rw [if_neg (by decide), if_neg (by decide)]
      refine hM.wk (ok2_X10_byteOf xO hsa (wtp W).1 ht.1 hP.2.1.1 i) (by decide) (fun r G' h => ?_)
      obtain ⟨⟨k, hk, rfl, rfl⟩ | ⟨h1, rfl⟩, rfl⟩ := h
      · rw [ht.2 k hk, show rowA (wtp W) (nI k) = (wtp W).2 k from rowA_k (by have := hP.2.1.1; omega) hk]; exact ⟨rfl, gX, gM, rfl, rfl⟩
      · rw [show rowA (wtp W) i = -1 from if_pos h1]; exact ⟨rfl, gX, gM, rfl, rfl⟩
set_option maxHeartbeats 1000000 in
theorem xw_hash {l : Launch} {a0 : Nat} {D : va_G} {sa : Nat → Nat} {W : wW} {T : Nat → Option hKd} {I : Nat → Nat → Int32} {L : Nat → Nat → Int64} {R : Nat → Nat → Option Nat} {A : Nat → Nat} (gX : XR a0 sa W T I R A) (gM : MR a0 W T I R A) (hP : PI W) (s i : Int32) : hM l a0 D sa yX10_hash cX10_hash 4 (some .int) { frames := 1, cells := 0, slots := 0, locals := 21 } [.ref (A 100), .int s, .int i] (T, I, L, R, A) (RP a0 sa (sHsh W s i).1 W (.int (sHsh W s i).2) A) := by
  obtain ⟨⟨xO, hsa, c4, F1, F2⟩, ⟨hst, hnp, hns⟩, hpt, hsd, ht, hlt, hg⟩ := id gX
  have hn8 := hP.1.1
  have hn4 := hP.1.2
  by_cases hb : s < 0 ∨ nI (wns W) ≤ s
  · rw [show sHsh W s i = (W, -2) from if_pos hb]
    exact hM.wk (bd_X10_hash xO hsa (wns W) hns hn4 s hb i) (by decide) (fun r G' h => by obtain ⟨rfl, rfl⟩ := h; exact ⟨rfl, gX, gM, rfl, rfl⟩)
  · obtain ⟨hs, hsk⟩ := ix_ok (v := s) (n := wns W) (by omega) hb
    have hcv : Value.int s = Value.int (nI (ixI s)) := by rw [← hsk]
    rw [hcv]
    have es : sHsh W s i = if i < 0 ∨ nI 31 < i then (W, -2) else (W, sSg (wsd W (ixI s)) 1 (ixI i)) := if_neg hb
    rw [es]
    by_cases hbi : i < 0 ∨ nI 31 < i
    · rw [if_pos hbi]
      exact hM.wk (bi_X10_hash xO hsa (wns W) hns hn4 (ixI s) hs _ _ (hsd _ hs).2.1 (hsd _ hs).1 i hbi) (by decide) (fun r G' h => by obtain ⟨rfl, rfl⟩ := h; exact ⟨rfl, gX, gM, rfl, rfl⟩)
    · rw [if_neg hbi]
      have hi := ix_le (v := i) (n := 31) (by decide) hbi
      have hci : Value.int i = Value.int (nI (ixI i)) := by rw [← hi.2]
      rw [hci]
      exact hM.wk (xhs gX hP (ixI s) hs (ixI i) (by omega)) (by decide) (fun r G' h => by obtain ⟨rfl, rfl⟩ := h; exact ⟨rfl, gX, gM, rfl, rfl⟩)
set_option maxHeartbeats 1000000 in
theorem xw_about {l : Launch} {a0 : Nat} {D : va_G} {sa : Nat → Nat} {W : wW} {T : Nat → Option hKd} {I : Nat → Nat → Int32} {L : Nat → Nat → Int64} {R : Nat → Nat → Option Nat} {A : Nat → Nat} (gX : XR a0 sa W T I R A) (gM : MR a0 W T I R A) (hP : PI W) (s w : Int32) : hM l a0 D sa yX10_about cX10_about 4 (some .int) { frames := 2, cells := 0, slots := 0, locals := 41 } [.ref (A 100), .int s, .int w] (T, I, L, R, A) (RP a0 sa (sAbo W s w).1 W (.int (sAbo W s w).2) A) := by
  obtain ⟨⟨xO, hsa, c4, F1, F2⟩, ⟨hst, hnp, hns⟩, hpt, hsd, ht, hlt, hg⟩ := id gX
  have hn8 := hP.1.1
  have hn4 := hP.1.2
  by_cases hb : s < 0 ∨ nI (wns W) ≤ s
  · rw [show sAbo W s w = (W, -2) from if_pos hb]
    exact hM.wk (bd_X10_about xO hsa (wns W) hns hn4 s hb w) (by decide) (fun r G' h => by obtain ⟨rfl, rfl⟩ := h; exact ⟨rfl, gX, gM, rfl, rfl⟩)
  · obtain ⟨hs, hsk⟩ := ix_ok (v := s) (n := wns W) (by omega) hb
    have hcv : Value.int s = Value.int (nI (ixI s)) := by rw [← hsk]
    rw [hcv]
    rw [show sAbo W s w = _ from if_neg hb]
    exact hM.wk (xab gX hP (ixI s) hs w) (by decide) (fun r G' h => by obtain ⟨rfl, rfl⟩ := h; exact ⟨rfl, gX, gM, rfl, rfl⟩)
set_option maxHeartbeats 1000000 in
theorem xw_same {l : Launch} {a0 : Nat} {D : va_G} {sa : Nat → Nat} {W : wW} {T : Nat → Option hKd} {I : Nat → Nat → Int32} {L : Nat → Nat → Int64} {R : Nat → Nat → Option Nat} {A : Nat → Nat} (gX : XR a0 sa W T I R A) (gM : MR a0 W T I R A) (hP : PI W) (s t : Int32) : hM l a0 D sa yX10_same cX10_same 5 (some .int) { frames := 2, cells := 0, slots := 0, locals := 43 } [.ref (A 100), .int s, .int t] (T, I, L, R, A) (RP a0 sa (sSam W s t).1 W (.int (sSam W s t).2) A) := by
  obtain ⟨⟨xO, hsa, c4, F1, F2⟩, ⟨hst, hnp, hns⟩, hpt, hsd, ht, hlt, hg⟩ := id gX
  have hn8 := hP.1.1
  have hn4 := hP.1.2
  by_cases hb : s < 0 ∨ nI (wns W) ≤ s
  · rw [show sSam W s t = (W, -2) from if_pos hb]
    by_cases hc : t < 0 ∨ nI (wns W) ≤ t
    · exact hM.wk (bd_X10_same xO hsa (wns W) hns hn4 s hb t hc) (by decide) (fun r G' h => by obtain ⟨rfl, rfl⟩ := h; exact ⟨rfl, gX, gM, rfl, rfl⟩)
    · obtain ⟨ht2, htk⟩ := ix_ok (v := t) (n := wns W) (by omega) hc
      have hct : Value.int t = Value.int (nI (ixI t)) := by rw [← htk]
      rw [hct]
      exact hM.wk (b1_X10_same xO hsa (wns W) hns hn4 s hb (ixI t) _ ht2 (hsd _ ht2).1) (by decide) (fun r G' h => by obtain ⟨rfl, rfl⟩ := h; exact ⟨rfl, gX, gM, rfl, rfl⟩)
  · obtain ⟨hs, hsk⟩ := ix_ok (v := s) (n := wns W) (by omega) hb
    have hcv : Value.int s = Value.int (nI (ixI s)) := by rw [← hsk]
    rw [hcv]
    have es : sSam W s t = if t < 0 ∨ nI (wns W) ≤ t then (W, -2) else sSamK W (ixI s) (ixI t) := if_neg hb
    rw [es]
    by_cases hc : t < 0 ∨ nI (wns W) ≤ t
    · rw [if_pos hc]
      exact hM.wk (b2_X10_same xO hsa (wns W) hns hn4 t hc (ixI s) _ hs (hsd _ hs).1) (by decide) (fun r G' h => by obtain ⟨rfl, rfl⟩ := h; exact ⟨rfl, gX, gM, rfl, rfl⟩)
    · rw [if_neg hc]
      obtain ⟨ht2, htk⟩ := ix_ok (v := t) (n := wns W) (by omega) hc
      have hct : Value.int t = Value.int (nI (ixI t)) := by rw [← htk]
      rw [hct]
      have is := hP.2.2.2.2.2 _ hs
      have ks := hsd _ hs
      have it := hP.2.2.2.2.2 _ ht2
      have kt := hsd _ ht2
      by_cases hd : sNx (wsd W (ixI s)) < pMs (sPt W (ixI s)) ∨ sNx (wsd W (ixI t)) < pMs (sPt W (ixI t))
      · rw [show sSamK W (ixI s) (ixI t) = (W, -3) from if_pos hd]
        exact hM.wk (no_X10_same xO hsa (wns W) hns hn4 (ixI s) (ixI t) hs ht2 (300 + 20 * ixI s) (200 + 10 * sPa (wsd W (ixI s))) ks.2.1 ks.1 (hpt _ is.1).2.1.1.1 (sHa (wsd W (ixI s))) (pMs (sPt W (ixI s))) (sNx (wsd W (ixI s))) ks.2.2.1.2.1 is.2.1.1 (hpt _ is.1).2.2.1.2.2.1 ((ks.2.2.2.2.2 13 (by decide) (by decide)).trans is.2.1.2.2.1) ⟨Nat.lt_of_le_of_lt (hP.2.2.2.2.1 _ is.1).1 (by decide), Nat.lt_of_le_of_lt (Nat.le_trans is.2.1.2.2.2 (hP.2.2.2.2.1 _ is.1).1) (by decide), is.2.1.1⟩ (300 + 20 * ixI t) (200 + 10 * sPa (wsd W (ixI t))) kt.2.1 kt.1 (hpt _ it.1).2.1.1.1 (sHa (wsd W (ixI t))) (pMs (sPt W (ixI t))) (sNx (wsd W (ixI t))) kt.2.2.1.2.1 it.2.1.1 (hpt _ it.1).2.2.1.2.2.1 ((kt.2.2.2.2.2 13 (by decide) (by decide)).trans it.2.1.2.2.1) ⟨Nat.lt_of_le_of_lt (hP.2.2.2.2.1 _ it.1).1 (by decide), Nat.lt_of_le_of_lt (Nat.le_trans it.2.1.2.2.2 (hP.2.2.2.2.1 _ it.1).1) (by decide), it.2.1.1⟩ hd) (by decide) (fun r G' h => by obtain ⟨rfl, rfl⟩ := h; exact ⟨rfl, gX, gM, rfl, rfl⟩)
      · rw [show sSamK W (ixI s) (ixI t) = _ from if_neg hd]
        refine hM.wk (ok_X10_same xO hsa (wns W) hns hn4 (ixI s) (ixI t) hs ht2 (300 + 20 * ixI s) (200 + 10 * sPa (wsd W (ixI s))) ks.2.1 ks.1 (hpt _ is.1).2.1.1.1 (sHa (wsd W (ixI s))) (pMs (sPt W (ixI s))) (sNx (wsd W (ixI s))) ks.2.2.1.2.1 is.2.1.1 (hpt _ is.1).2.2.1.2.2.1 ((ks.2.2.2.2.2 13 (by decide) (by decide)).trans is.2.1.2.2.1) ⟨Nat.lt_of_le_of_lt (hP.2.2.2.2.1 _ is.1).1 (by decide), Nat.lt_of_le_of_lt (Nat.le_trans is.2.1.2.2.2 (hP.2.2.2.2.1 _ is.1).1) (by decide), is.2.1.1⟩ (300 + 20 * ixI t) (200 + 10 * sPa (wsd W (ixI t))) kt.2.1 kt.1 (hpt _ it.1).2.1.1.1 (sHa (wsd W (ixI t))) (pMs (sPt W (ixI t))) (sNx (wsd W (ixI t))) kt.2.2.1.2.1 it.2.1.1 (hpt _ it.1).2.2.1.2.2.1 ((kt.2.2.2.2.2 13 (by decide) (by decide)).trans it.2.1.2.2.1) ⟨Nat.lt_of_le_of_lt (hP.2.2.2.2.1 _ it.1).1 (by decide), Nat.lt_of_le_of_lt (Nat.le_trans it.2.1.2.2.2 (hP.2.2.2.2.1 _ it.1).1) (by decide), it.2.1.1⟩ (Nat.not_lt.mp (fun e => hd (Or.inl e))) (Nat.not_lt.mp (fun e => hd (Or.inr e)))) (by decide) (fun r G' h => ?_)
        obtain ⟨⟨q, rfl, hq⟩, rfl⟩ := h
        have : q = samB W (ixI s) (ixI t) := by
          apply Bool.eq_iff_iff.mpr
          rw [hq, samB_iff]
          have a := ks.2.2.2.2.1
          have b := kt.2.2.2.2.1
          constructor
          · rintro ⟨h1, h2, h3, h4⟩
            exact ⟨h1, fun u hu => by rw [← a 1 (by decide) u hu, ← b 1 (by decide) u hu]; exact h2 u hu, fun u hu => by rw [← a 2 (by decide) u hu, ← b 3 (by decide) u hu]; exact h3 u hu, fun u hu => by rw [← a 3 (by decide) u hu, ← b 2 (by decide) u hu]; exact h4 u hu⟩
          · rintro ⟨h1, h2, h3, h4⟩
            exact ⟨h1, fun u hu => by rw [a 1 (by decide) u hu, b 1 (by decide) u hu]; exact h2 u hu, fun u hu => by rw [a 2 (by decide) u hu, b 3 (by decide) u hu]; exact h3 u hu, fun u hu => by rw [a 3 (by decide) u hu, b 2 (by decide) u hu]; exact h4 u hu⟩
        rw [this]
        exact ⟨rfl, gX, gM, rfl, rfl⟩
set_option maxHeartbeats 1000000 in
theorem xw_key {l : Launch} {a0 : Nat} {D : va_G} {sa : Nat → Nat} {W : wW} {T : Nat → Option hKd} {I : Nat → Nat → Int32} {L : Nat → Nat → Int64} {R : Nat → Nat → Option Nat} {A : Nat → Nat} (gX : XR a0 sa W T I R A) (gM : MR a0 W T I R A) (hP : PI W) (v j i : Int32) : hM l a0 D sa yX10_key cX10_key 4 (some .int) { frames := 6, cells := 0, slots := 0, locals := 207 } [.ref (A 100), .int v, .int j, .int i] (T, I, L, R, A) (RP a0 sa (sKey W v j i).1 W (.int (sKey W v j i).2) A) := by
  obtain ⟨⟨xO, hsa, c4, F1, F2⟩, ⟨hst, hnp, hns⟩, hpt, hsd, ht, hlt, hg⟩ := id gX
  have hn8 := hP.1.1
  have hn4 := hP.1.2
  obtain ⟨cp, cq, cr, cs, h4⟩ := id c4
  refine hM.wk (ok_X10_key xO hsa cp cq cr cs h4 hst v j i) (by decide) (fun r G' h => ?_)
  rcases h with ⟨h1, rfl, rfl⟩ | ⟨k, hk, rfl, rfl, I', L', R', rfl, h2, h3, h5⟩
  · rw [show sKey W v j i = (W, -2) from if_pos h1]; exact ⟨rfl, gX, gM, rfl, rfl⟩
  · have h6 : ¬ (nI k < 0 ∨ nI 32 ≤ nI k) := by
      rintro (e | e)
      · exact nI_lt0 (by omega) e
      · have := (nI_leI (by decide) (by omega)).mp e; omega
    rw [show sKey W v j (nI k) = (W, pubF (secF v j) k) by unfold sKey; rw [if_neg h6, ixI_n (by omega)]]
    exact ⟨rfl, XR.rows gX (fun q a => h2 q (by simp; omega)) h3 h5 (ht.fx h2 (by simp) (by simp)) (hlt.fx h2 (by simp) (by simp)) (hg.fx h2 (by simp) (by simp)), gM.fx h2 (by simp) h3, rfl, rfl⟩
set_option maxHeartbeats 1000000 in
theorem xw_count {l : Launch} {a0 : Nat} {D : va_G} {sa : Nat → Nat} {W : wW} {T : Nat → Option hKd} {I : Nat → Nat → Int32} {L : Nat → Nat → Int64} {R : Nat → Nat → Option Nat} {A : Nat → Nat} (gX : XR a0 sa W T I R A) (gM : MR a0 W T I R A) (hP : PI W) (w : Int32) : hM l a0 D sa yX10_count cX10_count 2 (some .int) { frames := 0, cells := 0, slots := 0, locals := 0 } [.ref (A 100), .int w] (T, I, L, R, A) (RP a0 sa (sCnt W w).1 W (.int (sCnt W w).2) A) := by
  obtain ⟨⟨xO, hsa, c4, F1, F2⟩, ⟨hst, hnp, hns⟩, hpt, hsd, ht, hlt, hg⟩ := id gX
  have hn8 := hP.1.1
  have hn4 := hP.1.2
  exact hM.wk (ok_X10_count xO hsa (wnp W) (wns W) (wtp W).1 (wlt W).1 (wgt W).1 hnp hns ht.1 hlt.1 hg.1 w) (by decide) (fun r G' h => by obtain ⟨rfl, rfl⟩ := h; exact ⟨rfl, gX, gM, rfl, rfl⟩)
set_option maxHeartbeats 4000000 in
set_option maxRecDepth 100000 in
theorem xw_digest {l : Launch} {a0 : Nat} {D : va_G} {sa : Nat → Nat} {T : Nat → Option hKd} {I : Nat → Nat → Int32} {L : Nat → Nat → Int64} {R : Nat → Nat → Option Nat} {A : Nat → Nat} {W : wW} (gX : XR a0 sa W T I R A) (gM : MR a0 W T I R A) (hP : PI W) : hM l a0 D sa yX10_digest cX10_digest 5 (some .long) { frames := 3, cells := 0, slots := 0, locals := 64 } [.ref (A 100)] (T, I, L, R, A) (RP a0 sa W W (.long (dgW W)) A) := by
  refine hM.of (by decide +kernel) (Nat.le_of_ble_eq_true rfl) ?_
  intro z hl h0 hD hS hN C E
  subst hl; subst h0; subst hD; subst hS
  have C : hC z RX10 cX10_digest := C
  have hZ := E.2.2.2.1
  show hX z 0 0 (T, I, L, R, A) [(0, .ref (A 100))] 0 []
  have xO := gX.1.1
  have hsa := gX.1.2.1
  have hn4 := hP.1.2
  refine x_ldc2 C dX10_digest_0 kc_X10_163 ?_
  refine x_lstore_n (lv' := [(1, .long 67), (0, .ref (A 100))]) C dX10_digest_3 rfl (Nat.lt_of_lt_of_eq (by decide) hN.symm) rfl ?_
  refine x_iconst (v := nI 0) C dX10_digest_4 (by decide +kernel) ?_
  refine x_istore_n (lv' := [(3, .int (nI 0)), (1, .long 67), (0, .ref (A 100))]) C dX10_digest_5 rfl (Nat.lt_of_lt_of_eq (by decide) hN.symm) rfl ?_
  have L6 : ∀ (fuel_ : Nat) (x : Int64) (s : Nat), wns W - s < fuel_ → (s ≤ wns W) → (x = dgS (fun s w => abW W s (nI w)) (fun s => sSg (wsd W s) 1) s) → hX z 0 0 (T, I, L, R, A) [(3, .int (nI s)), (1, .long x), (0, .ref (A 100))] 6 [] := by
    intro fuel_
    induction fuel_ with
    | zero => intro x s hmz; exact absurd hmz (Nat.not_lt_zero _)
    | succ fuel_ ih6 =>
      intro x s hmz hs hx
      refine x_iload_n C dX10_digest_6 0 rfl rfl ?_
      refine x_aload_n C dX10_digest_7 2 rfl rfl ?_
      refine x_getiN C fl_X10_51 (xO.1 100 _ rfl).1 rfl dX10_digest_8 ?_
      refine x_eqi (y := nI (wns W)) gX.2.1.2.2 ?_
      refine x_icmp_geN (tgt := 82) C (by omega) (by omega) dX10_digest_11 (by decide) (fun c11 => ?_) (fun c11 => ?_)
      · refine x_aload_n C dX10_digest_82 2 rfl rfl ?_
        refine x_getrN C fl_X10_33 (xO.1 100 _ rfl).1 rfl (xO.2.1 100 4 _ rfl) dX10_digest_83 ?_
        refine x_aload_n C dX10_digest_86 2 rfl rfl ?_
        refine x_getrN C fl_X10_30 (xO.1 100 _ rfl).1 rfl (xO.2.1 100 3 _ rfl) dX10_digest_87 ?_
        refine x_lload_n C dX10_digest_90 1 rfl rfl ?_
        refine x_callV C (ok_X4_addTo 105 106 160 (wlt W).1 (xO.1 105 _ rfl).1 (xO.2.1 105 0 _ rfl) (xO.1 106 _ rfl).1 (by decide) gX.2.2.2.2.2.1.1 hP.2.2.1.1 x) mv_X4_addTo ml_X10_174 (xO.1 105 _ rfl).1 rfl rfl rfl (Nat.le_of_ble_eq_true rfl) (hrm (rm := { frames := 0, cells := 0, slots := 0, locals := 0 }) hZ ⟨Nat.le_of_ble_eq_true rfl, Nat.le_of_ble_eq_true rfl⟩) (hcs hZ ⟨Nat.le_of_ble_eq_true rfl, Nat.le_of_ble_eq_true rfl⟩) dX10_digest_91 (fun v G' hp => ?_)
        obtain ⟨rfl, rfl⟩ := hp
        show hX z 0 0 (T, I, L, R, A) [(3, .int (nI s)), (1, .long x), (0, .ref (A 100))] 94 [.long (rAd (I 106) (wlt W).1 x), .ref (A 107)]
        refine x_callV C (ok_X4_addTo 107 108 160 (wgt W).1 (xO.1 107 _ rfl).1 (xO.2.1 107 0 _ rfl) (xO.1 108 _ rfl).1 (by decide) gX.2.2.2.2.2.2.1 hP.2.2.2.1 (rAd (I 106) (wlt W).1 x)) mv_X4_addTo ml_X10_174 (xO.1 107 _ rfl).1 rfl rfl rfl (Nat.le_of_ble_eq_true rfl) (hrm (rm := { frames := 0, cells := 0, slots := 0, locals := 0 }) hZ ⟨Nat.le_of_ble_eq_true rfl, Nat.le_of_ble_eq_true rfl⟩) (hcs hZ ⟨Nat.le_of_ble_eq_true rfl, Nat.le_of_ble_eq_true rfl⟩) dX10_digest_94 (fun v G' hp => ?_)
        obtain ⟨rfl, rfl⟩ := hp
        show hX z 0 0 (T, I, L, R, A) [(3, .int (nI s)), (1, .long x), (0, .ref (A 100))] 97 [.long (rAd (I 108) (wgt W).1 (rAd (I 106) (wlt W).1 x))]
        exact x_lret C E (Nat.le_of_ble_eq_true rfl) (Nat.le_of_ble_eq_true rfl) dX10_digest_97 (⟨by unfold dgW dgF; rw [hx, show s = wns W by omega, rAd_cong _ gX.2.2.2.2.2.1.2, rAd_cong _ gX.2.2.2.2.2.2.2], gX, gM, rfl, rfl⟩)
      · refine x_iconst (v := nI 2) C dX10_digest_14 (by decide +kernel) ?_
        refine x_istore (lv' := [(4, .int (nI 2)), (3, .int (nI s)), (1, .long x), (0, .ref (A 100))]) C dX10_digest_15 (Nat.lt_of_lt_of_eq (by decide) hN.symm) rfl ?_
        have L17 : ∀ (fuel_ : Nat) (y : Int64) (w : Nat), 9 - w < fuel_ → (2 ≤ w) → (w ≤ 9) → (y = rAd (fun j => (fun s w => abW W s (nI w)) s (j + 2)) (w - 2) x) → hX z 0 0 (T, I, L, R, A) [(4, .int (nI w)), (3, .int (nI s)), (1, .long y), (0, .ref (A 100))] 17 [] := by
          intro fuel_
          induction fuel_ with
          | zero => intro y w hmz; exact absurd hmz (Nat.not_lt_zero _)
          | succ fuel_ ih17 =>
            intro y w hmz hw2 hw hy
            refine x_iload C dX10_digest_17 0 rfl ?_
            refine x_bipush (v := nI 8) C dX10_digest_19 (by decide +kernel) ?_
            refine x_icmp_gtN (tgt := 45) C (by omega) (by omega) dX10_digest_21 (by decide) (fun c21 => ?_) (fun c21 => ?_)
            · refine x_iconst (v := nI 0) C dX10_digest_45 (by decide +kernel) ?_
              refine x_istore (lv' := [(4, .int (nI 0)), (3, .int (nI s)), (1, .long y), (0, .ref (A 100))]) C dX10_digest_46 (Nat.lt_of_lt_of_eq (by decide) hN.symm) rfl ?_
              have L48 : ∀ (fuel_ : Nat) (y2 : Int64) (k : Nat), 32 - k < fuel_ → (k ≤ 32) → (y2 = rAd (sSg (wsd W s) 1) k y) → hX z 0 0 (T, I, L, R, A) [(4, .int (nI k)), (3, .int (nI s)), (1, .long y2), (0, .ref (A 100))] 48 [] := by
                intro fuel_
                induction fuel_ with
                | zero => intro y2 k hmz; exact absurd hmz (Nat.not_lt_zero _)
                | succ fuel_ ih48 =>
                  intro y2 k hmz hk hy2
                  refine x_iload C dX10_digest_48 0 rfl ?_
                  refine x_bipush (v := nI 32) C dX10_digest_50 (by decide +kernel) ?_
                  refine x_icmp_geN (tgt := 76) C (by omega) (by omega) dX10_digest_52 (by decide) (fun c52 => ?_) (fun c52 => ?_)
                  · refine x_iinc (v := nI (s + 1)) (lv' := [(3, .int (nI (s + 1))), (4, .int (nI k)), (1, .long y2), (0, .ref (A 100))]) C dX10_digest_76 1 rfl (nI_inc 1) (Nat.lt_of_lt_of_eq (by decide) hN.symm) rfl ?_
                    refine x_goto (tgt := 6) C dX10_digest_79 (by decide) ?_
                    refine x_sub (lv' := _) [0, 2, 3] rfl ?_
                    exact ih6 y2 (s + 1) (by omega) (by omega) (by rw [hy2, show k = 32 by omega, hy, show w - 2 = 7 by omega, hx]; rfl)
                  · refine x_ldc2 C dX10_digest_55 kc_X10_165 ?_
                    refine x_lload_n C dX10_digest_58 2 rfl rfl ?_
                    refine x_lmul C dX10_digest_59 ?_
                    refine x_aload_n C dX10_digest_60 3 rfl rfl ?_
                    refine x_iload_n C dX10_digest_61 1 rfl rfl ?_
                    refine x_iload C dX10_digest_62 0 rfl ?_
                    refine x_callV C (xhs gX hP s c11 k (by omega)) mv_X10_hash ml_X10_171 (xO.1 100 _ rfl).1 rfl rfl rfl (Nat.le_of_ble_eq_true rfl) (hrm (rm := { frames := 0, cells := 0, slots := 0, locals := 0 }) hZ ⟨Nat.le_of_ble_eq_true rfl, Nat.le_of_ble_eq_true rfl⟩) (hcs hZ ⟨Nat.le_of_ble_eq_true rfl, Nat.le_of_ble_eq_true rfl⟩) dX10_digest_64 (fun v G' hp => ?_)
                    obtain ⟨rfl, rfl⟩ := hp
                    show hX z 0 0 (T, I, L, R, A) [(4, .int (nI k)), (3, .int (nI s)), (1, .long y2), (0, .ref (A 100))] 67 [.int (sSg (wsd W s) 1 k), .long (31 * y2)]
                    refine x_i2l C dX10_digest_67 ?_
                    refine x_ladd C dX10_digest_68 ?_
                    refine x_lstore_n (lv' := [(1, .long ((31 * y2) + (Int32.toInt64 (sSg (wsd W s) 1 k)))), (4, .int (nI k)), (3, .int (nI s)), (0, .ref (A 100))]) C dX10_digest_69 rfl (Nat.lt_of_lt_of_eq (by decide) hN.symm) rfl ?_
                    refine x_iinc (v := nI (k + 1)) (lv' := [(4, .int (nI (k + 1))), (1, .long ((31 * y2) + (Int32.toInt64 (sSg (wsd W s) 1 k)))), (3, .int (nI s)), (0, .ref (A 100))]) C dX10_digest_70 1 rfl (nI_inc 1) (Nat.lt_of_lt_of_eq (by decide) hN.symm) rfl ?_
                    refine x_goto (tgt := 48) C dX10_digest_73 (by decide) ?_
                    refine x_sub (lv' := _) [0, 2, 1, 3] rfl ?_
                    exact ih48 ((31 * y2) + (Int32.toInt64 (sSg (wsd W s) 1 k))) (k + 1) (by omega) (by omega) (rAd_s hy2 rfl)
              refine x_sub (lv' := _) [0, 1, 2, 3] rfl ?_
              exact L48 _ y 0 (Nat.lt_succ_self _) (by omega) rfl
            · refine x_ldc2 C dX10_digest_24 kc_X10_165 ?_
              refine x_lload_n C dX10_digest_27 2 rfl rfl ?_
              refine x_lmul C dX10_digest_28 ?_
              refine x_aload_n C dX10_digest_29 3 rfl rfl ?_
              refine x_iload_n C dX10_digest_30 1 rfl rfl ?_
              refine x_iload C dX10_digest_31 0 rfl ?_
              refine x_callV C (xab gX hP s c11 (nI w)) mv_X10_about ml_X10_167 (xO.1 100 _ rfl).1 rfl rfl rfl (Nat.le_of_ble_eq_true rfl) (hrm (rm := { frames := 0, cells := 0, slots := 0, locals := 0 }) hZ ⟨Nat.le_of_ble_eq_true rfl, Nat.le_of_ble_eq_true rfl⟩) (hcs hZ ⟨Nat.le_of_ble_eq_true rfl, Nat.le_of_ble_eq_true rfl⟩) dX10_digest_33 (fun v G' hp => ?_)
              obtain ⟨rfl, rfl⟩ := hp
              show hX z 0 0 (T, I, L, R, A) [(4, .int (nI w)), (3, .int (nI s)), (1, .long y), (0, .ref (A 100))] 36 [.int (abW W s (nI w)), .long (31 * y)]
              refine x_i2l C dX10_digest_36 ?_
              refine x_ladd C dX10_digest_37 ?_
              refine x_lstore_n (lv' := [(1, .long ((31 * y) + (Int32.toInt64 (abW W s (nI w))))), (4, .int (nI w)), (3, .int (nI s)), (0, .ref (A 100))]) C dX10_digest_38 rfl (Nat.lt_of_lt_of_eq (by decide) hN.symm) rfl ?_
              refine x_iinc (v := nI (w + 1)) (lv' := [(4, .int (nI (w + 1))), (1, .long ((31 * y) + (Int32.toInt64 (abW W s (nI w))))), (3, .int (nI s)), (0, .ref (A 100))]) C dX10_digest_39 1 rfl (nI_inc 1) (Nat.lt_of_lt_of_eq (by decide) hN.symm) rfl ?_
              refine x_goto (tgt := 17) C dX10_digest_42 (by decide) ?_
              refine x_sub (lv' := _) [0, 2, 1, 3] rfl ?_
              exact ih17 ((31 * y) + (Int32.toInt64 (abW W s (nI w)))) (w + 1) (by omega) (by omega) (by omega) (by rw [show w + 1 - 2 = (w - 2) + 1 by omega]; exact rAd_s hy (by show _ = abW W s (nI (w - 2 + 2)); rw [show w - 2 + 2 = w by omega]))
        refine x_sub (lv' := _) [0, 1, 2, 3] rfl ?_
        exact L17 _ x 2 (Nat.lt_succ_self _) (by omega) (by omega) rfl
  refine x_sub (lv' := _) [0, 1, 2] rfl ?_
  exact L6 _ 67 0 (Nat.lt_succ_self _) (by omega) rfl

