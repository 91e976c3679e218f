/-! ===== the calls of the class over the world ===== -/
theorem fr_n {E : List Nat} {I J : Nat → Nat → Int32} (f : fx E I J) (h : ∀ q, q ∈ E → 64 ≤ q) : ∀ q, q < 64 → J q = I q := fun q hq => f q (fun e => by have := h q e; omega)
theorem MR.fx {a0 : Nat} {W : wW} {T : Nat → Option hKd} {I J : Nat → Nat → Int32} {R R' : Nat → Nat → Option Nat} {A : Nat → Nat} {E : List Nat} (h : MR a0 W T I R A) (f : fx E I J) (hE : ∀ q, q ∈ E → 64 ≤ q) (g : fr121 R R') : MR a0 W T J R' A := h.kept (fun q hq => ⟨rfl, g.1 q (by omega), rfl, fr_n f hE q hq⟩)
theorem XRow.fx {I J : Nat → Nat → Int32} {q c : Nat} {r : wR} {E : List Nat} (h : XRow I q c r) (f : fx E I J) (h1 : q ∉ E) (h2 : c ∉ E) : XRow J q c r := ⟨by rw [f q h1]; exact h.1, fun j hj => by rw [f c h2]; exact h.2 j hj⟩
set_option maxHeartbeats 1000000 in
theorem xw_message {l : Launch} {a0 : Nat} {D : va_G} {sa : Nat → Nat} {W : wW} {T : Nat → Option hKd} {I : Nat → Nat → Int32} {L : Nat → Nat → Int64} {R : Nat → Nat → Option Nat} {A : Nat → Nat} (gX : XR a0 sa W T I R A) (gM : MR a0 W T I R A) (hP : PI W) (p : Int32) : hM l a0 D sa yX10_message cX10_message 3 (some .int) { frames := 1, cells := 0, slots := 0, locals := 21 } [.ref (A 100), .int p] (T, I, L, R, A) (RP a0 sa (sMsg W p).1 W (.int (sMsg W p).2) A) := by
  obtain ⟨⟨xO, hsa, c4, F1, F2⟩, ⟨hst, hnp, hns⟩, hpt, hsd, ht, hlt, hg⟩ := id gX
  have hn8 := hP.1.1
  have hn4 := hP.1.2
  by_cases hb : p < 0 ∨ nI (wnp W) ≤ p
  · rw [show sMsg W p = (W, -2) from if_pos hb]
    exact hM.wk (bd_X10_message xO hsa (wnp W) hnp hn8 p hb) (by decide) (fun r G' h => by obtain ⟨rfl, rfl⟩ := h; exact ⟨rfl, gX, gM, rfl, rfl⟩)
  · obtain ⟨hk, hpk⟩ := ix_ok (v := p) (n := wnp W) (by omega) hb
    have hcv : Value.int p = Value.int (nI (ixI p)) := by rw [← hpk]
    rw [hcv]
    rw [show sMsg W p = sMsgK W (ixI p) from if_neg hb]
    generalize ixI p = k at hk ⊢
    refine hM.wk (ok_X10_message xO hsa (wnp W) hnp hn8 k hk (200 + 10 * k) (hpt _ hk).2.1 (pKn (wpt W (k))) (pMs (wpt W (k))) (pSz (wpt W (k))) (pTk (wpt W (k))) (hsW W (k)) (hpt _ hk).2.2 (hpt _ hk).1) (by decide) (fun r G' h => ?_)
    rcases h with ⟨h1, rfl, rfl⟩ | ⟨h1, h2, rfl, rfl⟩ | ⟨h1, h2, rfl, I', rfl, h3, h4⟩
    · rw [show sMsgK W k = (W, -3) from if_pos h1]; exact ⟨rfl, gX, gM, rfl, rfl⟩
    · rw [show sMsgK W k = (W, -4) from (if_neg (by rw [h1]; decide)).trans (if_pos h2)]; exact ⟨rfl, gX, gM, rfl, rfl⟩
    · rw [show sMsgK W k = _ from (if_neg (by rw [h1]; decide)).trans (if_neg (by omega))]
      exact ⟨rfl, XR.pat gX hk hn8 (fun q hq => h4 q (by simp; omega)) h3, gM.fx h4 (by simp; omega) fr121.rf, rfl, rfl⟩
set_option maxHeartbeats 1000000 in
theorem xw_token {l : Launch} {a0 : Nat} {D : va_G} {sa : Nat → Nat} {W : wW} {T : Nat → Option hKd} {I : Nat → Nat → Int32} {L : Nat → Nat → Int64} {R : Nat → Nat → Option Nat} {A : Nat → Nat} (gX : XR a0 sa W T I R A) (gM : MR a0 W T I R A) (hP : PI W) (p t : Int32) : hM l a0 D sa yX10_token cX10_token 4 (some .int) { frames := 1, cells := 0, slots := 0, locals := 22 } [.ref (A 100), .int p, .int t] (T, I, L, R, A) (RP a0 sa (sTok W p t).1 W (.int (sTok W p t).2) A) := by
  obtain ⟨⟨xO, hsa, c4, F1, F2⟩, ⟨hst, hnp, hns⟩, hpt, hsd, ht, hlt, hg⟩ := id gX
  have hn8 := hP.1.1
  have hn4 := hP.1.2
  by_cases hb : p < 0 ∨ nI (wnp W) ≤ p
  · rw [show sTok W p t = (W, -2) from if_pos hb]
    exact hM.wk (bd_X10_token xO hsa (wnp W) hnp hn8 p hb t) (by decide) (fun r G' h => by obtain ⟨rfl, rfl⟩ := h; exact ⟨rfl, gX, gM, rfl, rfl⟩)
  · obtain ⟨hk, hpk⟩ := ix_ok (v := p) (n := wnp W) (by omega) hb
    have hcv : Value.int p = Value.int (nI (ixI p)) := by rw [← hpk]
    rw [hcv]
    have es : sTok W p t = if t < 0 ∨ nI 5 < t then (W, -2) else sTokK W (ixI p) (ixI t) := if_neg hb
    rw [es]
    generalize ixI p = k at hk ⊢
    refine hM.wk (ok_X10_token xO hsa (wnp W) hnp hn8 k hk (200 + 10 * k) (hpt _ hk).2.1 (pKn (wpt W (k))) (pMs (wpt W (k))) (pSz (wpt W (k))) (pTk (wpt W (k))) (hsW W (k)) (hpt _ hk).2.2 (hpt _ hk).1 t) (by decide) (fun r G' h => ?_)
    rcases h with ⟨h1, rfl, rfl⟩ | ⟨v, hv, rfl, h⟩
    · rw [if_pos h1]; exact ⟨rfl, gX, gM, rfl, rfl⟩
    · have h5 : ¬ (nI v < 0 ∨ nI 5 < nI v) := by
        rintro (e | e)
        · exact nI_lt0 (by omega) e
        · have := (nI_ltI (by decide) (by omega)).mp e; omega
      rw [if_neg h5, ixI_n (by omega)]
      rcases h with ⟨h1, rfl, rfl⟩ | ⟨h1, h2, rfl, rfl⟩ | ⟨h1, h2, h3, rfl, rfl⟩ | ⟨h1, h2, h3, rfl, I', rfl, h6, h7⟩
      · rw [show sTokK W k v = (W, -3) from if_pos h1]; exact ⟨rfl, gX, gM, rfl, rfl⟩
      · rw [show sTokK W k v = (W, -3) from (if_neg (by rw [h1]; decide)).trans (if_pos h2)]; exact ⟨rfl, gX, gM, rfl, rfl⟩
      · rw [show sTokK W k v = (W, -4) from (if_neg (by rw [h1]; decide)).trans ((if_neg (by omega)).trans (if_pos h3))]; exact ⟨rfl, gX, gM, rfl, rfl⟩
      · rw [show sTokK W k v = _ from (if_neg (by rw [h1]; decide)).trans ((if_neg (by omega)).trans (if_neg (by omega)))]
        have hms := (hP.2.2.2.2.1 k hk).1
        exact ⟨rfl, XR.pat gX hk hn8 (fun q hq => h7 q (by simp; omega)) h6, gM.fx h7 (by simp; omega) fr121.rf, rfl, rfl⟩
set_option maxHeartbeats 1000000 in
theorem xw_fault {l : Launch} {a0 : Nat} {D : va_G} {sa : Nat → Nat} {W : wW} {T : Nat → Option hKd} {I : Nat → Nat → Int32} {L : Nat → Nat → Int64} {R : Nat → Nat → Option Nat} {A : Nat → Nat} (gX : XR a0 sa W T I R A) (gM : MR a0 W T I R A) (hP : PI W) (p : Int32) : hM l a0 D sa yX10_fault cX10_fault 3 (some .int) { frames := 3, cells := 0, slots := 0, locals := 71 } [.ref (A 100), .int p] (T, I, L, R, A) (RP a0 sa (sFlt W p).1 W (.int (sFlt W p).2) A) := by
  obtain ⟨⟨xO, hsa, c4, F1, F2⟩, ⟨hst, hnp, hns⟩, hpt, hsd, ht, hlt, hg⟩ := id gX
  have hn8 := hP.1.1
  have hn4 := hP.1.2
  by_cases hb : p < 0 ∨ nI (wnp W) ≤ p
  · rw [show sFlt W p = (W, -2) from if_pos hb]
    exact hM.wk (bd_X10_fault xO hsa (wnp W) hnp hn8 p hb) (by decide) (fun r G' h => by obtain ⟨rfl, rfl⟩ := h; exact ⟨rfl, gX, gM, rfl, rfl⟩)
  · obtain ⟨hk, hpk⟩ := ix_ok (v := p) (n := wnp W) (by omega) hb
    have hcv : Value.int p = Value.int (nI (ixI p)) := by rw [← hpk]
    rw [hcv]
    rw [show sFlt W p = _ from if_neg hb]
    refine hM.wk (ok_X10_fault xO hsa (wnp W) hnp hn8 (ixI p) hk (200 + 10 * ixI p) (hpt _ hk).2.1 (pKn (wpt W (ixI p))) (pMs (wpt W (ixI p))) (pSz (wpt W (ixI p))) (pTk (wpt W (ixI p))) (hsW W (ixI p)) (hpt _ hk).2.2 (hpt _ hk).1 hst) (by decide) (fun r G' h => ?_)
    obtain ⟨⟨f, rfl, h1, _⟩, rfl⟩ := h
    rw [h1.uniq (fltN_is (wpt W (ixI p)))]
    exact ⟨rfl, gX, gM, rfl, rfl⟩
set_option maxHeartbeats 1000000 in
theorem xw_told {l : Launch} {a0 : Nat} {D : va_G} {sa : Nat → Nat} {W : wW} {T : Nat → Option hKd} {I : Nat → Nat → Int32} {L : Nat → Nat → Int64} {R : Nat → Nat → Option Nat} {A : Nat → Nat} (gX : XR a0 sa W T I R A) (gM : MR a0 W T I R A) (hP : PI W) (p t : Int32) : hM l a0 D sa yX10_told cX10_told 4 (some .int) { frames := 3, cells := 0, slots := 0, locals := 66 } [.ref (A 100), .int p, .int t] (T, I, L, R, A) (RP a0 sa (sTld W p t).1 W (.int (sTld W p t).2) A) := by
  obtain ⟨⟨xO, hsa, c4, F1, F2⟩, ⟨hst, hnp, hns⟩, hpt, hsd, ht, hlt, hg⟩ := id gX
  have hn8 := hP.1.1
  have hn4 := hP.1.2
  by_cases hb : p < 0 ∨ nI (wnp W) ≤ p
  · rw [show sTld W p t = (W, -2) from if_pos hb]
    exact hM.wk (bd_X10_told xO hsa (wnp W) hnp hn8 p hb t) (by decide) (fun r G' h => by obtain ⟨rfl, rfl⟩ := h; exact ⟨rfl, gX, gM, rfl, rfl⟩)
  · obtain ⟨hk, hpk⟩ := ix_ok (v := p) (n := wnp W) (by omega) hb
    have hcv : Value.int p = Value.int (nI (ixI p)) := by rw [← hpk]
    rw [hcv]
    have es : sTld W p t = if t < 0 ∨ nI 38 < t then (W, -2) else _ := if_neg hb
    rw [es]
    refine hM.wk (ok_X10_told xO hsa (wnp W) hnp hn8 (ixI p) hk (200 + 10 * ixI p) (hpt _ hk).2.1 (pKn (wpt W (ixI p))) (pMs (wpt W (ixI p))) (pSz (wpt W (ixI p))) (pTk (wpt W (ixI p))) (hsW W (ixI p)) (hpt _ hk).2.2 (hpt _ hk).1 t) (by decide) (fun r G' h => ?_)
    obtain ⟨⟨h1, rfl⟩ | ⟨v, hv, rfl, rfl⟩, rfl⟩ := h
    · rw [if_pos h1]; exact ⟨rfl, gX, gM, rfl, rfl⟩
    · have h5 : ¬ (nI v < 0 ∨ nI 38 < nI v) := by
        rintro (e | e)
        · exact nI_lt0 (by omega) e
        · have := (nI_ltI (by decide) (by omega)).mp e; omega
      rw [if_neg h5, ixI_n (by omega)]
      exact ⟨rfl, gX, gM, rfl, rfl⟩
set_option maxHeartbeats 1000000 in
theorem xw_again {l : Launch} {a0 : Nat} {D : va_G} {sa : Nat → Nat} {W : wW} {T : Nat → Option hKd} {I : Nat → Nat → Int32} {L : Nat → Nat → Int64} {R : Nat → Nat → Option Nat} {A : Nat → Nat} (gX : XR a0 sa W T I R A) (gM : MR a0 W T I R A) (hP : PI W) (s : Int32) : hM l a0 D sa yX10_again cX10_again 4 (some .int) { frames := 5, cells := 0, slots := 0, locals := 125 } [.ref (A 100), .int s] (T, I, L, R, A) (RP a0 sa (sAgn W s).1 W (.int (sAgn W s).2) A) := by
  obtain ⟨⟨xO, hsa, c4, F1, F2⟩, ⟨hst, hnp, hns⟩, hpt, hsd, ht, hlt, hg⟩ := id gX
  have hn8 := hP.1.1
  have hn4 := hP.1.2
  by_cases hb : s < 0 ∨ nI (wns W) ≤ s
  · rw [show sAgn W s = (W, -2) from if_pos hb]
    exact hM.wk (bd_X10_again xO hsa (wns W) hns hn4 s hb) (by decide) (fun r G' h => by obtain ⟨rfl, rfl⟩ := h; exact ⟨rfl, gX, gM, rfl, rfl⟩)
  · obtain ⟨hs, hsk⟩ := ix_ok (v := s) (n := wns W) (by omega) hb
    have hcv : Value.int s = Value.int (nI (ixI s)) := by rw [← hsk]
    rw [hcv]
    have i := hP.2.2.2.2.2 _ hs
    have k := hsd _ hs
    have q := hpt _ i.1
    have ipa := i.1
    have h31 : sNx (wsd W (ixI s)) < 2 ^ 30 := Nat.lt_of_le_of_lt (Nat.le_trans i.2.1.2.2.2 (hP.2.2.2.2.1 _ i.1).1) (by decide)
    obtain ⟨cp, cq, cr, cs, h4⟩ := c4
    rw [show sAgn W s = sAgnK W (ixI s) from if_neg hb]
    have hn := i.2.1.2.2.2
    have hm := (hP.2.2.2.2.1 _ i.1).1
    refine hM.wk (ok_X10_again xO hsa (wns W) hns hn4 (ixI s) hs (300 + 20 * ixI s) (200 + 10 * sPa (wsd W (ixI s))) k.2.1 (sHa (wsd W (ixI s))) k.2.2.1.2.1 i.2.1.1 (by omega) q.2.1 (pKn (sPt W (ixI s))) (pMs (sPt W (ixI s))) (pSz (sPt W (ixI s))) (pTk (sPt W (ixI s))) (hsW W (sPa (wsd W (ixI s)))) q.2.2 (by omega) (by omega) hst cp cq cr cs h4 k.1 (sSg (wsd W (ixI s))) k.2.2.2.2 i.2.1.2.1 (sNx (wsd W (ixI s))) i.2.1.2.2.1 h31 (pubV (sSv (wsd W (ixI s)))) (pubV (sOv (wsd W (ixI s)))) k.2.2.2.1.2.1 k.2.2.2.1.2.2 (decide (sOv (wsd W (ixI s)) ≠ -1)) k.2.2.1.2.2.2) (by decide) (fun r G' h => ?_)
    obtain ⟨rfl, I', rfl, h1, h2⟩ := h
    generalize ixI s = n at *
    exact ⟨rfl, XR.side gX hs hn4 hn8 (fun q h1 h3 => h2 q (by simp; omega)) fr121.rf ⟨cp, cq, cr, cs, h4⟩ h1 (ht.fx h2 (by simp; omega) (by simp; omega)) (hlt.fx h2 (by simp; omega) (by simp; omega)) (hg.fx h2 (by simp; omega) (by simp; omega)), gM.fx h2 (by simp; omega) fr121.rf, rfl, rfl⟩
set_option maxHeartbeats 1000000 in
theorem xw_write {l : Launch} {a0 : Nat} {D : va_G} {sa : Nat → Nat} {W : wW} {T : Nat → Option hKd} {I : Nat → Nat → Int32} {L : Nat → Nat → Int64} {R : Nat → Nat → Option Nat} {A : Nat → Nat} (gX : XR a0 sa W T I R A) (gM : MR a0 W T I R A) (hP : PI W) (s : Int32) : hM l a0 D sa yX10_write cX10_write 3 (some .int) { frames := 7, cells := 0, slots := 0, locals := 240 } [.ref (A 100), .int s] (T, I, L, R, A) (RP a0 sa (sWri W s).1 W (.int (sWri W s).2) A) := by
  obtain ⟨⟨xO, hsa, c4, F1, F2⟩, ⟨hst, hnp, hns⟩, hpt, hsd, ht, hlt, hg⟩ := id gX
  have hn8 := hP.1.1
  have hn4 := hP.1.2
  by_cases hb : s < 0 ∨ nI (wns W) ≤ s
  · rw [show sWri W s = (W, -2) from if_pos hb]
    exact hM.wk (bd_X10_write xO hsa (wns W) hns hn4 s hb) (by decide) (fun r G' h => by obtain ⟨rfl, rfl⟩ := h; exact ⟨rfl, gX, gM, rfl, rfl⟩)
  · obtain ⟨hs, hsk⟩ := ix_ok (v := s) (n := wns W) (by omega) hb
    have hcv : Value.int s = Value.int (nI (ixI s)) := by rw [← hsk]
    rw [hcv]
    have i := hP.2.2.2.2.2 _ hs
    have k := hsd _ hs
    have q := hpt _ i.1
    have ipa := i.1
    have h31 : sNx (wsd W (ixI s)) < 2 ^ 30 := Nat.lt_of_le_of_lt (Nat.le_trans i.2.1.2.2.2 (hP.2.2.2.2.1 _ i.1).1) (by decide)
    obtain ⟨cp, cq, cr, cs, h4⟩ := c4
    rw [show sWri W s = sWriK W (ixI s) from if_neg hb]
    have hn := i.2.1.2.2.2
    have hm := hP.2.2.2.2.1 _ i.1
    have hm6 := hm.1
    by_cases hd : pMs (sPt W (ixI s)) ≤ sNx (wsd W (ixI s))
    · rw [show sWriK W (ixI s) = _ from if_pos hd]
      refine hM.wk (dn_X10_write xO hsa (wns W) hns hn4 (ixI s) hs (300 + 20 * ixI s) (200 + 10 * sPa (wsd W (ixI s))) k.2.1 (sHa (wsd W (ixI s))) k.2.2.1.2.1 i.2.1.1 (by omega) q.2.1 (pKn (sPt W (ixI s))) (pMs (sPt W (ixI s))) (pSz (sPt W (ixI s))) (pTk (sPt W (ixI s))) (hsW W (sPa (wsd W (ixI s)))) q.2.2 (by omega) (by omega) hst cp cq cr cs h4 k.1 (sSg (wsd W (ixI s))) k.2.2.2.2 i.2.1.2.1 (sNx (wsd W (ixI s))) i.2.1.2.2.1 hd h31 (wtp W).1 ht.1 hP.2.1.1 (wtp W).2 ht.2 hP.2.1.2) (by decide) (fun r G' h => ?_)
      obtain ⟨rfl, I', L', rfl, h1, h2, h3, h5, h6⟩ := h
      generalize ixI s = n at *
      exact ⟨rfl, XR.side gX hs hn4 hn8 (fun q h1 h3 => h6 q (by simp; omega)) fr121.rf ⟨cp, cq, cr, cs, h4⟩ h1 ⟨h5, fun j hj => absurd hj (Nat.not_lt_zero j)⟩ ⟨h2, h3⟩ (hg.fx h6 (by simp; omega) (by simp; omega)), gM.fx h6 (by simp; omega) fr121.rf, rfl, rfl⟩
    · by_cases hh : sNx (wsd W (ixI s)) % 2 = sHa (wsd W (ixI s))
      · rw [show sWriK W (ixI s) = _ from (if_neg hd).trans (if_pos hh)]
        refine hM.wk (ok_X10_write xO hsa (wns W) hns hn4 (ixI s) hs (300 + 20 * ixI s) (200 + 10 * sPa (wsd W (ixI s))) k.2.1 (sHa (wsd W (ixI s))) k.2.2.1.2.1 i.2.1.1 (by omega) q.2.1 (pKn (sPt W (ixI s))) (pMs (sPt W (ixI s))) (pSz (sPt W (ixI s))) (pTk (sPt W (ixI s))) (hsW W (sPa (wsd W (ixI s)))) q.2.2 (by omega) (by omega) hst cp cq cr cs h4 k.1 (sSg (wsd W (ixI s))) k.2.2.2.2 i.2.1.2.1 (sNx (wsd W (ixI s))) i.2.1.2.2.1 (by omega) (sSd (wsd W (ixI s))) k.2.2.1.2.2.1 (secV (sSv (wsd W (ixI s)))) (pubV (sSv (wsd W (ixI s)))) k.2.2.2.1.1 k.2.2.2.1.2.1 (fun j _ => pubV_b _ _) (wtp W).1 ht.1 hP.2.1.1 (wtp W).2 ht.2 hP.2.1.2 (lnK_80 i.2.2.1.1 hm.2.2.1 _ (by omega)) hh) (by decide) (fun r G' h => ?_)
        obtain ⟨rfl, I', L', R', rfl, h1, h2, h3, h5, h6, h7, h8⟩ := h
        generalize ixI s = n at *
        exact ⟨rfl, XR.side gX hs hn4 hn8 (fun q h1 h3 => h6 q (by simp; omega)) h7 h8 h1 ⟨h5, fun j hj => absurd hj (Nat.not_lt_zero j)⟩ ⟨h2, h3⟩ (hg.fx h6 (by simp; omega) (by simp; omega)), gM.fx h6 (by simp; omega) h7, rfl, rfl⟩
      · rw [show sWriK W (ixI s) = (W, -3) from (if_neg hd).trans (if_neg hh)]
        exact hM.wk (no_X10_write xO hsa (wns W) hns hn4 (ixI s) hs (300 + 20 * ixI s) (200 + 10 * sPa (wsd W (ixI s))) k.2.1 (sHa (wsd W (ixI s))) k.2.2.1.2.1 i.2.1.1 (by omega) q.2.1 (pKn (sPt W (ixI s))) (pMs (sPt W (ixI s))) (pSz (sPt W (ixI s))) (pTk (sPt W (ixI s))) (hsW W (sPa (wsd W (ixI s)))) q.2.2 (by omega) (by omega) hst cp cq cr cs h4 k.1 (sSg (wsd W (ixI s))) k.2.2.2.2 i.2.1.2.1 (sNx (wsd W (ixI s))) i.2.1.2.2.1 (by omega) hh) (by decide) (fun r G' h => by obtain ⟨rfl, rfl⟩ := h; exact ⟨rfl, gX, gM, rfl, rfl⟩)
set_option maxHeartbeats 1000000 in
theorem xw_read {l : Launch} {a0 : Nat} {D : va_G} {sa : Nat → Nat} {W : wW} {T : Nat → Option hKd} {I : Nat → Nat → Int32} {L : Nat → Nat → Int64} {R : Nat → Nat → Option Nat} {A : Nat → Nat} (gX : XR a0 sa W T I R A) (gM : MR a0 W T I R A) (hP : PI W) (s : Int32) : hM l a0 D sa yX10_read cX10_read 4 (some .int) { frames := 7, cells := 0, slots := 0, locals := 241 } [.ref (A 100), .int s] (T, I, L, R, A) (fun r G' => ∃ v, RP a0 sa (sRea W s) W (.int v) A r G') := by
  obtain ⟨⟨xO, hsa, c4, F1, F2⟩, ⟨hst, hnp, hns⟩, hpt, hsd, ht, hlt, hg⟩ := id gX
  have hn8 := hP.1.1
  have hn4 := hP.1.2
  by_cases hb : s < 0 ∨ nI (wns W) ≤ s
  · rw [show sRea W s = W from if_pos hb]
    exact hM.wk (bd_X10_read xO hsa (wns W) hns hn4 s hb) (by decide) (fun r G' h => by obtain ⟨rfl, rfl⟩ := h; exact ⟨_, rfl, gX, gM, rfl, rfl⟩)
  · obtain ⟨hs, hsk⟩ := ix_ok (v := s) (n := wns W) (by omega) hb
    have hcv : Value.int s = Value.int (nI (ixI s)) := by rw [← hsk]
    rw [hcv]
    have i := hP.2.2.2.2.2 _ hs
    have k := hsd _ hs
    have q := hpt _ i.1
    have ipa := i.1
    have h31 : sNx (wsd W (ixI s)) < 2 ^ 30 := Nat.lt_of_le_of_lt (Nat.le_trans i.2.1.2.2.2 (hP.2.2.2.2.1 _ i.1).1) (by decide)
    obtain ⟨cp, cq, cr, cs, h4⟩ := c4
    rw [show sRea W s = sReaK W (ixI s) from if_neg hb]
    have hn := i.2.1.2.2.2
    have hm := hP.2.2.2.2.1 _ i.1
    have hm6 := hm.1
    by_cases hd : pMs (sPt W (ixI s)) ≤ sNx (wsd W (ixI s))
    · have hk := i.2.2.2.1 hd
      rw [show sReaK W (ixI s) = _ from if_pos hd]
      by_cases h16 : 16 ≤ (wlt W).1
      · refine hM.wk (dn_X10_read xO hsa (wns W) hns hn4 (ixI s) hs (300 + 20 * ixI s) (200 + 10 * sPa (wsd W (ixI s))) k.2.1 (sHa (wsd W (ixI s))) k.2.2.1.2.1 i.2.1.1 (by omega) q.2.1 (pKn (sPt W (ixI s))) (pMs (sPt W (ixI s))) (pSz (sPt W (ixI s))) (pTk (sPt W (ixI s))) (hsW W (sPa (wsd W (ixI s)))) q.2.2 (by omega) (by omega) hst cp cq cr cs h4 k.1 (sSg (wsd W (ixI s))) k.2.2.2.2 i.2.1.2.1 (sNx (wsd W (ixI s))) i.2.1.2.2.1 hd h31 (wlt W).1 hlt.1 hP.2.2.1.1 (wlt W).2 hlt.2 hP.2.2.1.2 hk h16) (by decide) (fun r G' h => ?_)
        obtain ⟨I', L', rfl, ⟨rfl, h1, h2⟩ | ⟨rfl, h1, h2, h3, h5, h6⟩⟩ := h
        · rw [if_neg (fun e => by rw [h1] at e; cases e.2)]
          exact ⟨_, rfl, XR.rows gX (fun q a => h2 q (by simp; omega)) fr121.rf ⟨cp, cq, cr, cs, h4⟩ (ht.fx h2 (by simp) (by simp)) (hlt.fx h2 (by simp) (by simp)) (hg.fx h2 (by simp) (by simp)), gM.fx h2 (by simp) fr121.rf, rfl, rfl⟩
        · rw [if_pos ⟨h16, h1⟩]
          generalize ixI s = n at *
          exact ⟨_, rfl, XR.side gX hs hn4 hn8 (fun q h1 h3 => h6 q (by simp; omega)) fr121.rf ⟨cp, cq, cr, cs, h4⟩ h2 (ht.fx h6 (by simp; omega) (by simp; omega)) (hlt.fx h6 (by simp; omega) (by simp; omega)) ⟨h3, h5⟩, gM.fx h6 (by simp; omega) fr121.rf, rfl, rfl⟩
      · rw [if_neg (fun e => h16 e.1)]
        exact hM.wk (sh_X10_read xO hsa (wns W) hns hn4 (ixI s) hs (300 + 20 * ixI s) (200 + 10 * sPa (wsd W (ixI s))) k.2.1 (sHa (wsd W (ixI s))) k.2.2.1.2.1 i.2.1.1 (by omega) q.2.1 (pKn (sPt W (ixI s))) (pMs (sPt W (ixI s))) (pSz (sPt W (ixI s))) (pTk (sPt W (ixI s))) (hsW W (sPa (wsd W (ixI s)))) q.2.2 (by omega) (by omega) hst cp cq cr cs h4 k.1 (sSg (wsd W (ixI s))) k.2.2.2.2 i.2.1.2.1 (sNx (wsd W (ixI s))) i.2.1.2.2.1 h31 (wlt W).1 hlt.1 hP.2.2.1.1 (wlt W).2 hlt.2 hP.2.2.1.2 (by rw [szN_d hd]; show (wlt W).1 < lsO (hkS (sSg (wsd W (ixI s))), 0); rw [hk]; show _ < 0 + 16; omega) (Or.inl hd)) (by decide) (fun r G' h => by obtain ⟨rfl, rfl⟩ := h; exact ⟨_, rfl, gX, gM, rfl, rfl⟩)
    · by_cases hh : sNx (wsd W (ixI s)) % 2 = sHa (wsd W (ixI s))
      · rw [show sReaK W (ixI s) = W from (if_neg hd).trans (if_pos hh)]
        exact hM.wk (no_X10_read xO hsa (wns W) hns hn4 (ixI s) hs (300 + 20 * ixI s) (200 + 10 * sPa (wsd W (ixI s))) k.2.1 (sHa (wsd W (ixI s))) k.2.2.1.2.1 i.2.1.1 (by omega) q.2.1 (pKn (sPt W (ixI s))) (pMs (sPt W (ixI s))) (pSz (sPt W (ixI s))) (pTk (sPt W (ixI s))) (hsW W (sPa (wsd W (ixI s)))) q.2.2 (by omega) (by omega) hst cp cq cr cs h4 k.1 (sSg (wsd W (ixI s))) k.2.2.2.2 i.2.1.2.1 (sNx (wsd W (ixI s))) i.2.1.2.2.1 (by omega) hh) (by decide) (fun r G' h => by obtain ⟨rfl, rfl⟩ := h; exact ⟨_, rfl, gX, gM, rfl, rfl⟩)
      · rw [show sReaK W (ixI s) = reaN W (ixI s) (sReaM W (ixI s)) from (if_neg hd).trans (if_neg hh)]
        by_cases hl : (wlt W).1 < lsO (lsK (hkS (sSg (wsd W (ixI s)))) (pTk (sPt W (ixI s)) (sNx (wsd W (ixI s)))) (pSz (sPt W (ixI s)) (sNx (wsd W (ixI s)))))
        · rw [show sReaM W (ixI s) = none from rdM_sh hl]
          exact hM.wk (sh_X10_read xO hsa (wns W) hns hn4 (ixI s) hs (300 + 20 * ixI s) (200 + 10 * sPa (wsd W (ixI s))) k.2.1 (sHa (wsd W (ixI s))) k.2.2.1.2.1 i.2.1.1 (by omega) q.2.1 (pKn (sPt W (ixI s))) (pMs (sPt W (ixI s))) (pSz (sPt W (ixI s))) (pTk (sPt W (ixI s))) (hsW W (sPa (wsd W (ixI s)))) q.2.2 (by omega) (by omega) hst cp cq cr cs h4 k.1 (sSg (wsd W (ixI s))) k.2.2.2.2 i.2.1.2.1 (sNx (wsd W (ixI s))) i.2.1.2.2.1 h31 (wlt W).1 hlt.1 hP.2.2.1.1 (wlt W).2 hlt.2 hP.2.2.1.2 (by rw [szN_n (by omega)]; exact hl) (Or.inr hh)) (by decide) (fun r G' h => by obtain ⟨rfl, rfl⟩ := h; exact ⟨_, rfl, gX, gM, rfl, rfl⟩)
        · refine hM.wk (ok_X10_read xO hsa (wns W) hns hn4 (ixI s) hs (300 + 20 * ixI s) (200 + 10 * sPa (wsd W (ixI s))) k.2.1 (sHa (wsd W (ixI s))) k.2.2.1.2.1 i.2.1.1 (by omega) q.2.1 (pKn (sPt W (ixI s))) (pMs (sPt W (ixI s))) (pSz (sPt W (ixI s))) (pTk (sPt W (ixI s))) (hsW W (sPa (wsd W (ixI s)))) q.2.2 (by omega) (by omega) hst cp cq cr cs h4 k.1 (sSg (wsd W (ixI s))) k.2.2.2.2 i.2.1.2.1 (sNx (wsd W (ixI s))) i.2.1.2.2.1 (by omega) (secV (sSv (wsd W (ixI s)))) k.2.2.2.1.1 (wlt W).1 hlt.1 hP.2.2.1.1 (wlt W).2 hlt.2 hP.2.2.1.2 (by omega) hh) (by decide) (fun r G' h => ?_)
          obtain ⟨I', L', R', rfl, ⟨h7, h8⟩, ⟨rfl, h1, h2⟩ | ⟨M, rfl, h1, h2, h3, h5, h6⟩⟩ := h
          · rw [show sReaM W (ixI s) = none from h1]
            exact ⟨_, rfl, XR.rows gX (fun q a => h2 q (by simp; omega)) h7 h8 (ht.fx h2 (by simp) (by simp)) (hlt.fx h2 (by simp) (by simp)) (hg.fx h2 (by simp) (by simp)), gM.fx h2 (by simp) h7, rfl, rfl⟩
          · rw [show sReaM W (ixI s) = some M from h1]
            generalize ixI s = n at *
            exact ⟨_, rfl, XR.side gX hs hn4 hn8 (fun q h1 h3 => h6 q (by simp; omega)) h7 h8 h2 (ht.fx h6 (by simp; omega) (by simp; omega)) (hlt.fx h6 (by simp; omega) (by simp; omega)) ⟨h3, h5⟩, gM.fx h6 (by simp; omega) h7, rfl, rfl⟩
