/-! ===== the calls of the model over the world ===== -/
set_option maxHeartbeats 200000 in
theorem mw_message {l : Launch} {a0 : Nat} {D : va_G} {sa : Nat → Nat} {X W : wW} {T : Nat → Option hKd} {I : Nat → Nat → Int32} {L : Nat → Nat → Int64} {R : Nat → Nat → Option Nat} {A : Nat → Nat} (gX : XR a0 sa X T I R A) (gM : MR a0 W T I R A) (hP : PI W) (p : Int32) : hM l a0 D sa yX11_message cX11_message 2 (some .int) { frames := 2, cells := 0, slots := 0, locals := 43 } [.ref (A 63), .int p] (T, I, L, R, A) (RP a0 sa X (sMsg W p).1 (.int (sMsg W p).2) A) := by
  obtain ⟨⟨mO, hc, h13⟩, ⟨m24, m33, m56, m58, m60⟩, hpt, hsd, hz, ht, hlt, hg⟩ := id gM
  have hn8 := hP.1.1
  have hn4 := hP.1.2
  by_cases hb : p < 0 ∨ nI (wnp W) ≤ p
  · rw [show sMsg W p = (W, -2) from if_pos hb]
    exact hM.wk (bd_X11_message mO (wnp W) m24 hn8 p hb) (by decide) (fun r G' h => by obtain ⟨rfl, rfl⟩ := h; exact ⟨rfl, gX, gM, rfl, rfl⟩)
  · obtain ⟨hk, hpk⟩ := ix_ok (v := p) (n := wnp W) (by omega) hb
    have hcv : Value.int p = Value.int (nI (ixI p)) := by rw [← hpk]
    rw [hcv]
    have hpa : ∀ s, s < wns W → I 34 s = nI (sPa (wsd W s)) ∧ sPa (wsd W s) < 8 := fun s hs => ⟨(hsd s hs).1.1, by have := (hP.2.2.2.2.2 s hs).1; omega⟩
    rw [show sMsg W p = sMsgK W (ixI p) from if_neg hb]
    have hpp := hP.2.2.2.2.1 _ hk
    refine hM.wk (ok_X11_message mO (wnp W) m24 hn8 (wns W) m33 hn4 (fun s => sPa (wsd W s)) hpa (ixI p) (pKn (wpt W (ixI p))) (pMs (wpt W (ixI p))) (pSz (wpt W (ixI p))) (pTk (wpt W (ixI p))) (hpt _ hk) hk) (by decide) (fun r G' h => ?_)
    generalize ixI p = k at *
    rcases h with ⟨h1, rfl, rfl⟩ | ⟨h1, h2, rfl, rfl⟩ | ⟨h1, h2, rfl, I', rfl, h3, h4, h5⟩
    · rw [show sMsgK W k = (W, -3) from if_pos (hsW_iff.mpr h1)]; exact ⟨rfl, gX, gM, rfl, rfl⟩
    · rw [show sMsgK W k = (W, -4) from (if_neg (fun e => h1 (hsW_iff.mp e))).trans (if_pos h2)]; exact ⟨rfl, gX, gM, rfl, rfl⟩
    · rw [show sMsgK W k = _ from (if_neg (fun e => h1 (hsW_iff.mp e))).trans (if_neg (by omega))]
      exact ⟨rfl, gX.kept (fun q hq => h5 q (by simp; omega)), MR.pat gM (hsW_o (fun e => h1 (hsW_iff.mp e))) (fun q hq => h5 q (by simp at hq ⊢; omega)) (fun p' hp' hne => mdPo26 (hpt p' hp') (Ne.symm hne) h2 h3 h4 h5) (mdPmsg (hpt k hk) h2 (hpp.2.2.2 _ (Nat.le_refl _)) h3 h4 h5), rfl, rfl⟩
set_option maxHeartbeats 200000 in
theorem mw_token {l : Launch} {a0 : Nat} {D : va_G} {sa : Nat → Nat} {X W : wW} {T : Nat → Option hKd} {I : Nat → Nat → Int32} {L : Nat → Nat → Int64} {R : Nat → Nat → Option Nat} {A : Nat → Nat} (gX : XR a0 sa X T I R A) (gM : MR a0 W T I R A) (hP : PI W) (p t : Int32) : hM l a0 D sa yX11_token cX11_token 4 (some .int) { frames := 2, cells := 0, slots := 0, locals := 43 } [.ref (A 63), .int p, .int t] (T, I, L, R, A) (RP a0 sa X (sTok W p t).1 (.int (sTok W p t).2) A) := by
  obtain ⟨⟨mO, hc, h13⟩, ⟨m24, m33, m56, m58, m60⟩, hpt, hsd, hz, ht, hlt, hg⟩ := id gM
  have hn8 := hP.1.1
  have hn4 := hP.1.2
  by_cases hb : p < 0 ∨ nI (wnp W) ≤ p
  · rw [show sTok W p t = (W, -2) from if_pos hb]
    exact hM.wk (bd_X11_token mO (wnp W) m24 hn8 p hb t) (by decide) (fun r G' h => by obtain ⟨rfl, rfl⟩ := h; exact ⟨rfl, gX, gM, rfl, rfl⟩)
  · obtain ⟨hk, hpk⟩ := ix_ok (v := p) (n := wnp W) (by omega) hb
    have hcv : Value.int p = Value.int (nI (ixI p)) := by rw [← hpk]
    rw [hcv]
    have hpa : ∀ s, s < wns W → I 34 s = nI (sPa (wsd W s)) ∧ sPa (wsd W s) < 8 := fun s hs => ⟨(hsd s hs).1.1, by have := (hP.2.2.2.2.2 s hs).1; omega⟩
    have es : sTok W p t = if t < 0 ∨ nI 5 < t then (W, -2) else sTokK W (ixI p) (ixI t) := if_neg hb
    rw [es]
    have hpp := hP.2.2.2.2.1 _ hk
    refine hM.wk (ok_X11_token mO (wnp W) m24 hn8 (wns W) m33 hn4 (fun s => sPa (wsd W s)) hpa (ixI p) (pKn (wpt W (ixI p))) (pMs (wpt W (ixI p))) (pSz (wpt W (ixI p))) (pTk (wpt W (ixI p))) (hpt _ hk) hk t) (by decide) (fun r G' h => ?_)
    generalize ixI p = k at *
    rcases h with ⟨h1, rfl, rfl⟩ | ⟨v, hv, rfl, h⟩
    · rw [if_pos h1]; exact ⟨rfl, gX, gM, rfl, rfl⟩
    · have h5 : ¬ (nI v < 0 ∨ nI 5 < nI v) := by
        rintro (e | e)
        · exact nI_lt0 (by omega) e
        · have := (nI_ltI (by decide) (by omega)).mp e; omega
      rw [if_neg h5, ixI_n (by omega)]
      rcases h with ⟨h1, rfl, rfl⟩ | ⟨h1, h2, h3, rfl, rfl⟩ | ⟨h1, h2, h3, rfl, I', rfl, h6, h7, h8⟩
      · by_cases hs : hsW W k = true
        · rw [show sTokK W k v = (W, -3) from if_pos hs]; exact ⟨rfl, gX, gM, rfl, rfl⟩
        · rw [show sTokK W k v = (W, -3) from (if_neg hs).trans (if_pos (h1.resolve_left (fun e => hs (hsW_iff.mpr e))))]; exact ⟨rfl, gX, gM, rfl, rfl⟩
      · rw [show sTokK W k v = (W, -4) from (if_neg (fun e => h1 (hsW_iff.mp e))).trans ((if_neg (by omega)).trans (if_pos h3))]; exact ⟨rfl, gX, gM, rfl, rfl⟩
      · rw [show sTokK W k v = _ from (if_neg (fun e => h1 (hsW_iff.mp e))).trans ((if_neg (by omega)).trans (if_neg (by omega)))]
        have h6' := hpp.1
        exact ⟨rfl, gX.kept (fun q hq => h8 q (by simp; omega)), MR.pat gM (hsW_o (fun e => h1 (hsW_iff.mp e))) (fun q hq => h8 q (by simp at hq ⊢; omega)) (fun p' hp' hne => mdPo28 (hpt p' hp') (Ne.symm hne) (by omega) h3 h6 h7 h8) (mdPtok (hpt k hk) h2 h3 hv h6 h7 h8), rfl, rfl⟩
set_option maxHeartbeats 200000 in
theorem mw_fault {l : Launch} {a0 : Nat} {D : va_G} {sa : Nat → Nat} {X W : wW} {T : Nat → Option hKd} {I : Nat → Nat → Int32} {L : Nat → Nat → Int64} {R : Nat → Nat → Option Nat} {A : Nat → Nat} (gX : XR a0 sa X T I R A) (gM : MR a0 W T I R A) (hP : PI W) (p : Int32) : hM l a0 D sa yX11_fault cX11_fault 2 (some .int) { frames := 3, cells := 0, slots := 0, locals := 70 } [.ref (A 63), .int p] (T, I, L, R, A) (RP a0 sa X (sFlt W p).1 (.int (sFlt W p).2) A) := by
  obtain ⟨⟨mO, hc, h13⟩, ⟨m24, m33, m56, m58, m60⟩, hpt, hsd, hz, ht, hlt, hg⟩ := id gM
  have hn8 := hP.1.1
  have hn4 := hP.1.2
  by_cases hb : p < 0 ∨ nI (wnp W) ≤ p
  · rw [show sFlt W p = (W, -2) from if_pos hb]
    exact hM.wk (bd_X11_fault mO (wnp W) m24 hn8 p hb) (by decide) (fun r G' h => by obtain ⟨rfl, rfl⟩ := h; exact ⟨rfl, gX, gM, rfl, rfl⟩)
  · obtain ⟨hk, hpk⟩ := ix_ok (v := p) (n := wnp W) (by omega) hb
    have hcv : Value.int p = Value.int (nI (ixI p)) := by rw [← hpk]
    rw [hcv]
    have hpa : ∀ s, s < wns W → I 34 s = nI (sPa (wsd W s)) ∧ sPa (wsd W s) < 8 := fun s hs => ⟨(hsd s hs).1.1, by have := (hP.2.2.2.2.2 s hs).1; omega⟩
    rw [show sFlt W p = _ from if_neg hb]
    refine hM.wk (ok_X11_fault mO (wnp W) m24 hn8 (wns W) m33 hn4 (fun s => sPa (wsd W s)) hpa (ixI p) (pKn (wpt W (ixI p))) (pMs (wpt W (ixI p))) (pSz (wpt W (ixI p))) (pTk (wpt W (ixI p))) (hpt _ hk) hk) (by decide) (fun r G' h => ?_)
    obtain ⟨⟨f, rfl, h1, _⟩, I', rfl, h2⟩ := h
    rw [h1.uniq (fltN_is (wpt W (ixI p)))]
    exact ⟨rfl, gX.kept (fun q hq => h2 q (by simp; omega)), MR.rows (J := I') gM (fun q hq => h2 q (by simp at hq ⊢; omega)) (h13Z.o (h2 13 (by decide))) (by rw [h2 63 (by decide)]) (by rw [h2 63 (by decide)]) (by rw [h2 63 (by decide)]; exact ⟨m56, m58, m60⟩) (by rw [h2 55 (by decide)]; exact ht) (by rw [h2 57 (by decide)]; exact hlt) (by rw [h2 59 (by decide)]; exact hg), rfl, rfl⟩
set_option maxHeartbeats 200000 in
theorem mw_told {l : Launch} {a0 : Nat} {D : va_G} {sa : Nat → Nat} {X W : wW} {T : Nat → Option hKd} {I : Nat → Nat → Int32} {L : Nat → Nat → Int64} {R : Nat → Nat → Option Nat} {A : Nat → Nat} (gX : XR a0 sa X T I R A) (gM : MR a0 W T I R A) (hP : PI W) (p t : Int32) : hM l a0 D sa yX11_told cX11_told 6 (some .int) { frames := 2, cells := 0, slots := 0, locals := 43 } [.ref (A 63), .int p, .int t] (T, I, L, R, A) (RP a0 sa X (sTld W p t).1 (.int (sTld W p t).2) A) := by
  obtain ⟨⟨mO, hc, h13⟩, ⟨m24, m33, m56, m58, m60⟩, hpt, hsd, hz, ht, hlt, hg⟩ := id gM
  have hn8 := hP.1.1
  have hn4 := hP.1.2
  by_cases hb : p < 0 ∨ nI (wnp W) ≤ p
  · rw [show sTld W p t = (W, -2) from if_pos hb]
    exact hM.wk (bd_X11_told mO (wnp W) m24 hn8 p hb t) (by decide) (fun r G' h => by obtain ⟨rfl, rfl⟩ := h; exact ⟨rfl, gX, gM, rfl, rfl⟩)
  · obtain ⟨hk, hpk⟩ := ix_ok (v := p) (n := wnp W) (by omega) hb
    have hcv : Value.int p = Value.int (nI (ixI p)) := by rw [← hpk]
    rw [hcv]
    have hpa : ∀ s, s < wns W → I 34 s = nI (sPa (wsd W s)) ∧ sPa (wsd W s) < 8 := fun s hs => ⟨(hsd s hs).1.1, by have := (hP.2.2.2.2.2 s hs).1; omega⟩
    have es : sTld W p t = if t < 0 ∨ nI 38 < t then (W, -2) else _ := if_neg hb
    rw [es]
    refine hM.wk (ok_X11_told mO (wnp W) m24 hn8 (wns W) m33 hn4 (fun s => sPa (wsd W s)) hpa (ixI p) (pKn (wpt W (ixI p))) (pMs (wpt W (ixI p))) (pSz (wpt W (ixI p))) (pTk (wpt W (ixI p))) (hpt _ hk) hk t) (by decide) (fun r G' h => ?_)
    obtain ⟨⟨h1, rfl⟩ | ⟨v, hv, rfl, rfl⟩, rfl⟩ := h
    · rw [if_pos h1]; exact ⟨rfl, gX, gM, rfl, rfl⟩
    · have h5 : ¬ (nI v < 0 ∨ nI 38 < nI v) := by
        rintro (e | e)
        · exact nI_lt0 (by omega) e
        · have := (nI_ltI (by decide) (by omega)).mp e; omega
      rw [if_neg h5, ixI_n (by omega)]
      exact ⟨rfl, gX, gM, rfl, rfl⟩
set_option maxHeartbeats 200000 in
theorem mw_pattern {l : Launch} {a0 : Nat} {D : va_G} {sa : Nat → Nat} {X W : wW} {T : Nat → Option hKd} {I : Nat → Nat → Int32} {L : Nat → Nat → Int64} {R : Nat → Nat → Option Nat} {A : Nat → Nat} (gX : XR a0 sa X T I R A) (gM : MR a0 W T I R A) (hP : PI W) (u v : Int32) (hu : u = 0 ∨ u = 1) (hv : v = 0 ∨ v = 1) : hM l a0 D sa yX11_pattern cX11_pattern 3 (some .int) { frames := 0, cells := 0, slots := 0, locals := 0 } [.ref (A 63), .int u, .int v] (T, I, L, R, A) (RP a0 sa X (sPat W u v).1 (.int (sPat W u v).2) A) := by
  obtain ⟨⟨mO, hc, h13⟩, ⟨m24, m33, m56, m58, m60⟩, hpt, hsd, hz, ht, hlt, hg⟩ := id gM
  have hn8 := hP.1.1
  have hn4 := hP.1.2
  refine hM.wk (ok_X11_pattern mO (wnp W) m24 hn8 u v hu hv) (by decide) (fun r G' h => ?_)
  rcases h with ⟨h1, rfl, rfl⟩ | ⟨h1, rfl, I', rfl, h2, h3, h4, h5⟩
  · rw [show sPat W u v = (W, -4) from if_pos h1]; exact ⟨rfl, gX, gM, rfl, rfl⟩
  · rw [show sPat W u v = _ from if_neg (by omega)]
    exact ⟨rfl, gX.kept (fun q hq => h5 q (by simp; omega)), MR_newP gM hP hu hv h2 h3 h4 h5, rfl, rfl⟩
set_option maxHeartbeats 200000 in
theorem mw_side {l : Launch} {a0 : Nat} {D : va_G} {sa : Nat → Nat} {X W : wW} {T : Nat → Option hKd} {I : Nat → Nat → Int32} {L : Nat → Nat → Int64} {R : Nat → Nat → Option Nat} {A : Nat → Nat} (gX : XR a0 sa X T I R A) (gM : MR a0 W T I R A) (hP : PI W) (p hv sv ov ev : Int32) : hM l a0 D sa yX11_side cX11_side 8 (some .int) { frames := 6, cells := 0, slots := 0, locals := 144 } [.ref (A 63), .int p, .int hv, .int sv, .int ov, .int ev] (T, I, L, R, A) (RP a0 sa X (sSid W p hv sv ov ev).1 (.int (sSid W p hv sv ov ev).2) A) := by
  obtain ⟨⟨mO, hc, h13⟩, ⟨m24, m33, m56, m58, m60⟩, hpt, hsd, hz, ht, hlt, hg⟩ := id gM
  have hn8 := hP.1.1
  have hn4 := hP.1.2
  by_cases hb : p < 0 ∨ nI (wnp W) ≤ p
  · rw [show sSid W p hv sv ov ev = (W, -2) from if_pos hb]
    exact hM.wk (bd_X11_side mO (wnp W) m24 hn8 p hb hv sv ov ev) (by decide) (fun r G' h => by obtain ⟨rfl, rfl⟩ := h; exact ⟨rfl, gX, gM, rfl, rfl⟩)
  · obtain ⟨hk, hpk⟩ := ix_ok (v := p) (n := wnp W) (by omega) hb
    have hcv : Value.int p = Value.int (nI (ixI p)) := by rw [← hpk]
    rw [hcv]
    have hpa : ∀ s, s < wns W → I 34 s = nI (sPa (wsd W s)) ∧ sPa (wsd W s) < 8 := fun s hs => ⟨(hsd s hs).1.1, by have := (hP.2.2.2.2.2 s hs).1; omega⟩
    have es : sSid W p hv sv ov ev = if (hv < 0 ∨ nI 1 < hv) ∨ sv < -1 ∨ ov < -1 then (W, -2) else sSidK W (ixI p) (ixI hv) sv ov ev := if_neg hb
    rw [es]
    by_cases hbad : (hv < 0 ∨ nI 1 < hv) ∨ sv < -1 ∨ ov < -1
    · rw [if_pos hbad]
      exact hM.wk (bn_X11_side (wns W) m33 hn4 (wnp W) m24 hn8 mO hc h13 (ixI p) hk (pKn (wpt W (ixI p))) (pMs (wpt W (ixI p))) (pSz (wpt W (ixI p))) (pTk (wpt W (ixI p))) (hpt _ hk) hv sv ov ev hbad) (by decide) (fun r G' h => by obtain ⟨rfl, rfl⟩ := h; exact ⟨rfl, gX, gM, rfl, rfl⟩)
    · rw [if_neg hbad]
      have hv2 := ix_le (v := hv) (n := 1) (by decide) (fun e => hbad (Or.inl e))
      have hcw : Value.int hv = Value.int (nI (ixI hv)) := by rw [← hv2.2]
      rw [hcw]
      by_cases hsv : sv = -1
      · refine hM.wk (ok0_X11_side (wns W) m33 hn4 (wnp W) m24 hn8 mO hc h13 (ixI p) hk (pKn (wpt W (ixI p))) (pMs (wpt W (ixI p))) (pSz (wpt W (ixI p))) (pTk (wpt W (ixI p))) (hpt _ hk) (ixI hv) (by omega) sv ov ev (Int32.not_lt.mp (fun e => hbad (Or.inr (Or.inl e)))) (Int32.not_lt.mp (fun e => hbad (Or.inr (Or.inr e)))) sg0 false (fun h4 => (hz _ (Nat.le_refl _) h4).1) rfl (pubV sv) (pubV ov) (fun h j _ => by rw [pubV, if_neg h]) (fun h j _ => by rw [pubV, if_neg h]) hsv) (by decide) (fun r G' h => ?_)
        obtain ⟨f, hF, h⟩ := h
        have hno := noB_iff (hd := ixI hv) (sv := sv) (ov := ov) hF
        rcases h with ⟨h1, rfl, I', rfl, h2⟩ | ⟨h1, h2, rfl, I', rfl, h3⟩ | ⟨h1, h2, rfl, I', L', rfl, a1, a2, a3, a4, a5, a6, a7, a8, a9, a10⟩
        · rw [show sSidK W (ixI p) (ixI hv) sv ov ev = (W, -3) from if_pos (hno.mpr h1)]
          exact ⟨rfl, gX.kept (fun q hq => h2 q (by simp; omega)), MR.rows (J := I') gM (fun q hq => h2 q (by simp at hq ⊢; omega)) (h13Z.o (h2 13 (by decide))) (by rw [h2 63 (by decide)]) (by rw [h2 63 (by decide)]) (by rw [h2 63 (by decide)]; exact ⟨m56, m58, m60⟩) (by rw [h2 55 (by decide)]; exact ht) (by rw [h2 57 (by decide)]; exact hlt) (by rw [h2 59 (by decide)]; exact hg), rfl, rfl⟩
        · rw [show sSidK W (ixI p) (ixI hv) sv ov ev = (W, -4) from (if_neg (fun e => h1 (hno.mp e))).trans (if_pos h2)]
          exact ⟨rfl, gX.kept (fun q hq => h3 q (by simp; omega)), MR.rows (J := I') gM (fun q hq => h3 q (by simp at hq ⊢; omega)) (h13Z.o (h3 13 (by decide))) (by rw [h3 63 (by decide)]) (by rw [h3 63 (by decide)]) (by rw [h3 63 (by decide)]; exact ⟨m56, m58, m60⟩) (by rw [h3 55 (by decide)]; exact ht) (by rw [h3 57 (by decide)]; exact hlt) (by rw [h3 59 (by decide)]; exact hg), rfl, rfl⟩
        · rw [show sSidK W (ixI p) (ixI hv) sv ov ev = _ from (if_neg (fun e => h1 (hno.mp e))).trans (if_neg (by omega))]
          have hf0 : f = 0 := Decidable.byContradiction (fun e => h1 (Or.inl e))
          subst hf0
          have hpp := hP.2.2.2.2.1 _ hk
          exact ⟨rfl, gX.kept (fun q hq => a8.1 q (by simp [mML]; omega) (by simp; omega) (by omega)), MR.mkS gM hP hk (isF_0 hF hpp.2.2.1).1 h2 a1 a2 a3 a4 a5 (a6.cg (fun j hj => by rw [secV, if_pos hsv]; exact (hz _ (Nat.le_refl _) h2).2 j hj)) a7 a8 a9 a10, rfl, rfl⟩
      · refine hM.wk (ok1_X11_side (wns W) m33 hn4 (wnp W) m24 hn8 mO hc h13 (ixI p) hk (pKn (wpt W (ixI p))) (pMs (wpt W (ixI p))) (pSz (wpt W (ixI p))) (pTk (wpt W (ixI p))) (hpt _ hk) (ixI hv) (by omega) sv ov ev (Int32.not_lt.mp (fun e => hbad (Or.inr (Or.inl e)))) (Int32.not_lt.mp (fun e => hbad (Or.inr (Or.inr e)))) sg0 false (fun h4 => (hz _ (Nat.le_refl _) h4).1) rfl (pubV sv) (pubV ov) (fun h j _ => by rw [pubV, if_neg h]) (fun h j _ => by rw [pubV, if_neg h]) hsv) (by decide) (fun r G' h => ?_)
        obtain ⟨f, hF, h⟩ := h
        have hno := noB_iff (hd := ixI hv) (sv := sv) (ov := ov) hF
        rcases h with ⟨h1, rfl, I', rfl, h2⟩ | ⟨h1, h2, rfl, I', rfl, h3⟩ | ⟨h1, h2, rfl, I', L', rfl, a1, a2, a3, a4, a5, a6, a7, a8, a9, a10⟩
        · rw [show sSidK W (ixI p) (ixI hv) sv ov ev = (W, -3) from if_pos (hno.mpr h1)]
          exact ⟨rfl, gX.kept (fun q hq => h2 q (by simp; omega)), MR.rows (J := I') gM (fun q hq => h2 q (by simp at hq ⊢; omega)) (h13Z.o (h2 13 (by decide))) (by rw [h2 63 (by decide)]) (by rw [h2 63 (by decide)]) (by rw [h2 63 (by decide)]; exact ⟨m56, m58, m60⟩) (by rw [h2 55 (by decide)]; exact ht) (by rw [h2 57 (by decide)]; exact hlt) (by rw [h2 59 (by decide)]; exact hg), rfl, rfl⟩
        · rw [show sSidK W (ixI p) (ixI hv) sv ov ev = (W, -4) from (if_neg (fun e => h1 (hno.mp e))).trans (if_pos h2)]
          exact ⟨rfl, gX.kept (fun q hq => h3 q (by simp; omega)), MR.rows (J := I') gM (fun q hq => h3 q (by simp at hq ⊢; omega)) (h13Z.o (h3 13 (by decide))) (by rw [h3 63 (by decide)]) (by rw [h3 63 (by decide)]) (by rw [h3 63 (by decide)]; exact ⟨m56, m58, m60⟩) (by rw [h3 55 (by decide)]; exact ht) (by rw [h3 57 (by decide)]; exact hlt) (by rw [h3 59 (by decide)]; exact hg), rfl, rfl⟩
        · rw [show sSidK W (ixI p) (ixI hv) sv ov ev = _ from (if_neg (fun e => h1 (hno.mp e))).trans (if_neg (by omega))]
          have hf0 : f = 0 := Decidable.byContradiction (fun e => h1 (Or.inl e))
          subst hf0
          have hpp := hP.2.2.2.2.1 _ hk
          exact ⟨rfl, gX.kept (fun q hq => a8.1 q (by simp [mML]; omega) (by simp; omega) (by omega)), MR.mkS gM hP hk (isF_0 hF hpp.2.2.1).1 h2 a1 a2 a3 a4 a5 (by rw [secV, if_neg hsv]; exact a6) a7 a8 a9 a10, rfl, rfl⟩
set_option maxHeartbeats 200000 in
theorem mw_again {l : Launch} {a0 : Nat} {D : va_G} {sa : Nat → Nat} {X W : wW} {T : Nat → Option hKd} {I : Nat → Nat → Int32} {L : Nat → Nat → Int64} {R : Nat → Nat → Option Nat} {A : Nat → Nat} (gX : XR a0 sa X T I R A) (gM : MR a0 W T I R A) (hP : PI W) (s : Int32) : hM l a0 D sa yX11_again cX11_again 3 (some .int) { frames := 6, cells := 0, slots := 0, locals := 144 } [.ref (A 63), .int s] (T, I, L, R, A) (RP a0 sa X (sAgn W s).1 (.int (sAgn W s).2) A) := by
  obtain ⟨⟨mO, hc, h13⟩, ⟨m24, m33, m56, m58, m60⟩, hpt, hsd, hz, ht, hlt, hg⟩ := id gM
  have hn8 := hP.1.1
  have hn4 := hP.1.2
  by_cases hb : s < 0 ∨ nI (wns W) ≤ s
  · rw [show sAgn W s = (W, -2) from if_pos hb]
    exact hM.wk (bd_X11_again mO (wns W) m33 hn4 s hb) (by decide) (fun r G' h => by obtain ⟨rfl, rfl⟩ := h; exact ⟨rfl, gX, gM, rfl, rfl⟩)
  · obtain ⟨hs, hsk⟩ := ix_ok (v := s) (n := wns W) (by omega) hb
    have hcv : Value.int s = Value.int (nI (ixI s)) := by rw [← hsk]
    rw [hcv]
    have i := hP.2.2.2.2.2 _ hs
    have k := hsd _ hs
    have q := hpt _ i.1
    have ipa := i.1
    have hm := hP.2.2.2.2.1 _ i.1
    rw [show sAgn W s = sAgnK W (ixI s) from if_neg hb]
    have hpub : pKn (sPt W (ixI s)) (sHa (wsd W (ixI s))) = true → ∀ j, j < 32 → pubV (sSv (wsd W (ixI s))) j = pubF (secV (sSv (wsd W (ixI s)))) j := fun e j _ => by
      have hn : ¬ sSv (wsd W (ixI s)) = -1 := fun h => i.2.2.1.2.1 h (Or.inl e)
      rw [pubV, secV, if_neg hn, if_neg hn]
    refine hM.wk (ok_X11_again (wns W) m33 hn4 mO hc (ixI s) hs h13 (sSg (wsd W (ixI s))) _ k.2.2 (sPa (wsd W (ixI s))) k.1.1 (by omega) (pKn (sPt W (ixI s))) q.1 (sHa (wsd W (ixI s))) k.1.2.1 i.2.1.1 (secV (sSv (wsd W (ixI s)))) (pubV (sSv (wsd W (ixI s)))) (pubV (sOv (wsd W (ixI s)))) k.2.1 (sOv (wsd W (ixI s))) k.1.2.2.1 hpub (fun e h => i.2.2.1.2.2 h e) (fun h j _ => by rw [pubV, if_neg h]) (sNx (wsd W (ixI s))) i.2.1.2.2.1) (by decide) (fun r G' h => ?_)
    obtain ⟨rfl, I', L', rfl, h1, h2, h3, h4⟩ := h
    have hms := (isF_0 i.2.2.1.1 hm.2.2.1).1
    refine ⟨rfl, gX.kept (fun q hq => h2.1 q (by simp [mML]; omega) (by omega)), MR.side (J := I') gM hs hn4 (by decide) h2 (fun q _ => rfl) (h2.2.1 24 (by decide)) (h2.2.1 33 (by decide)) ?_ ⟨(h2.2.1 56 (by decide)).trans m56, (h2.2.1 58 (by decide)).trans m58, (h2.2.1 60 (by decide)).trans m60⟩ (by show ∀ j, j < _ → I' 55 j = _; rw [h2.1 55 (by decide) (by decide)]; exact ht) (by show ∀ j, j < _ → I' 57 j = _; rw [h3]; exact hlt) (by show ∀ j, j < _ → I' 59 j = _; rw [h4]; exact hg), rfl, rfl⟩
    rw [decide_eq_false (show ¬ pMs (sPt W (ixI s)) ≤ 0 from Nat.not_le.mpr hms)]; exact h1
set_option maxHeartbeats 200000 in
theorem mw_write {l : Launch} {a0 : Nat} {D : va_G} {sa : Nat → Nat} {X W : wW} {T : Nat → Option hKd} {I : Nat → Nat → Int32} {L : Nat → Nat → Int64} {R : Nat → Nat → Option Nat} {A : Nat → Nat} (gX : XR a0 sa X T I R A) (gM : MR a0 W T I R A) (hP : PI W) (s : Int32) : hM l a0 D sa yX11_write cX11_write 5 (some .int) { frames := 7, cells := 0, slots := 0, locals := 175 } [.ref (A 63), .int s] (T, I, L, R, A) (RP a0 sa X (sWri W s).1 (.int (sWri W s).2) A) := by
  obtain ⟨⟨mO, hc, h13⟩, ⟨m24, m33, m56, m58, m60⟩, hpt, hsd, hz, ht, hlt, hg⟩ := id gM
  have hn8 := hP.1.1
  have hn4 := hP.1.2
  by_cases hb : s < 0 ∨ nI (wns W) ≤ s
  · rw [show sWri W s = (W, -2) from if_pos hb]
    exact hM.wk (bd_X11_write mO (wns W) m33 hn4 s hb) (by decide) (fun r G' h => by obtain ⟨rfl, rfl⟩ := h; exact ⟨rfl, gX, gM, rfl, rfl⟩)
  · obtain ⟨hs, hsk⟩ := ix_ok (v := s) (n := wns W) (by omega) hb
    have hcv : Value.int s = Value.int (nI (ixI s)) := by rw [← hsk]
    rw [hcv]
    have i := hP.2.2.2.2.2 _ hs
    have k := hsd _ hs
    have q := hpt _ i.1
    have ipa := i.1
    have hm := hP.2.2.2.2.1 _ i.1
    rw [show sWri W s = sWriK W (ixI s) from if_neg hb]
    by_cases hd : pMs (sPt W (ixI s)) ≤ sNx (wsd W (ixI s))
    · rw [show sWriK W (ixI s) = _ from if_pos hd]
      refine hM.wk (dn_X11_write (wns W) m33 hn4 mO hc h13 (ixI s) hs (sPa (wsd W (ixI s))) (by omega) (pKn (sPt W (ixI s))) (pMs (sPt W (ixI s))) (pSz (sPt W (ixI s))) (pTk (sPt W (ixI s))) q k.1.1 (sSg (wsd W (ixI s))) (sNx (wsd W (ixI s))) k.2.2 i.2.1.2.1 i.2.1.2.2.1 i.2.1.2.2.2 (sHa (wsd W (ixI s))) k.1.2.1 i.2.1.1 (wtp W).1 m56 hP.2.1.1 (wtp W).2 ht hP.2.1.2 hd) (by decide) (fun r G' h => ?_)
      obtain ⟨rfl, I', rfl, h1, h2, h3, h5, FW⟩ := h
      obtain ⟨K, f1, f2, f3⟩ := FW
      refine ⟨rfl, gX.kept (fun q hq => (f2 q (by omega)).trans (f1.1 q (by simp [mML]; omega) (by omega))), MR.side (J := I') gM hs hn4 (by decide) f1 (fun q hq => f2 q (by simp at hq; omega)) ((f3 24 (by decide)).trans (f1.2.1 24 (by decide))) ((f3 33 (by decide)).trans (f1.2.1 33 (by decide))) h1 ⟨h5, h3, ((f3 60 (by decide)).trans (f1.2.1 60 (by decide))).trans m60⟩ (fun j hj => absurd hj (Nat.not_lt_zero j)) h2 (by show ∀ j, j < _ → I' 59 j = _; rw [f2 59 (by decide), f1.1 59 (by decide) (by decide)]; exact hg), rfl, rfl⟩
    · by_cases hh : sNx (wsd W (ixI s)) % 2 = sHa (wsd W (ixI s))
      · rw [show sWriK W (ixI s) = _ from (if_neg hd).trans (if_pos hh)]
        have hlk := lnK_80 i.2.2.1.1 hm.2.2.1 (sNx (wsd W (ixI s))) (by omega)
        have ha2 := i.2.1.1
        have hpub : ∀ k, k < pSz (sPt W (ixI s)) (sNx (wsd W (ixI s))) → pTk (sPt W (ixI s)) (sNx (wsd W (ixI s))) k = 1 → ∀ j, j < 32 → pubV (sSv (wsd W (ixI s))) j = pubF (secV (sSv (wsd W (ixI s)))) j := fun k h1 h2 j _ => by
          have hn : ¬ sSv (wsd W (ixI s)) = -1 := fun h => i.2.2.1.2.1 h (Or.inr ⟨sNx (wsd W (ixI s)), k, by omega, hh, h1, h2⟩)
          rw [pubV, secV, if_neg hn, if_neg hn]
        have hx : ∀ k, k < pSz (sPt W (ixI s)) (sNx (wsd W (ixI s))) → 2 ≤ pTk (sPt W (ixI s)) (sNx (wsd W (ixI s))) k → xEb (pTk (sPt W (ixI s)) (sNx (wsd W (ixI s))) k) (sHa (wsd W (ixI s))) = false → sSg (wsd W (ixI s)) 7 9 = nI 1 := fun k h1 h2 h3 => by
          rcases dh_kn i.2.2.1.1 hm.2.2.1 (by omega) h1 ha2 h2 h3 with e | e | e
          · exact i.2.2.2.2 (Or.inl (fun h => i.2.2.1.2.2 h e))
          · obtain ⟨n, j, b1, b2⟩ := e
            exact i.2.2.2.2 (Or.inr ⟨n, j, b1, b2⟩)
          · omega
        refine hM.wk (ok_X11_write (wns W) m33 hn4 mO hc h13 (ixI s) hs (sPa (wsd W (ixI s))) (by omega) (pKn (sPt W (ixI s))) (pMs (sPt W (ixI s))) (pSz (sPt W (ixI s))) (pTk (sPt W (ixI s))) q k.1.1 (sSg (wsd W (ixI s))) (sNx (wsd W (ixI s))) k.2.2 i.2.1.2.1 i.2.1.2.2.1 i.2.1.2.2.2 (sHa (wsd W (ixI s))) k.1.2.1 i.2.1.1 (sSd (wsd W (ixI s))) k.1.2.2.2 (secV (sSv (wsd W (ixI s)))) (pubV (sSv (wsd W (ixI s)))) k.2.1 (wtp W).1 m56 hP.2.1.1 (wtp W).2 ht hP.2.1.2 hlk hpub (fun j _ => pubV_b _ _) hx (by omega) hh) (by decide) (fun r G' h => ?_)
        obtain ⟨rfl, I', L', rfl, h1, h2, h3, h5, FW⟩ := h
        obtain ⟨K, f1, f2, f3⟩ := FW
        refine ⟨rfl, gX.kept (fun q hq => (f2 q (by omega)).trans (f1.1 q (by simp [mML]; omega) (by omega))), MR.side (J := I') gM hs hn4 (by decide) f1 (fun q hq => f2 q (by simp at hq; omega)) ((f3 24 (by decide)).trans (f1.2.1 24 (by decide))) ((f3 33 (by decide)).trans (f1.2.1 33 (by decide))) h1 ⟨h5, h3, ((f3 60 (by decide)).trans (f1.2.1 60 (by decide))).trans m60⟩ (fun j hj => absurd hj (Nat.not_lt_zero j)) h2 (by show ∀ j, j < _ → I' 59 j = _; rw [f2 59 (by decide), f1.1 59 (by decide) (by decide)]; exact hg), rfl, rfl⟩
      · rw [show sWriK W (ixI s) = (W, -3) from (if_neg hd).trans (if_neg hh)]
        exact hM.wk (no_X11_write (wns W) m33 hn4 mO hc h13 (ixI s) hs (sPa (wsd W (ixI s))) (by omega) (pKn (sPt W (ixI s))) (pMs (sPt W (ixI s))) (pSz (sPt W (ixI s))) (pTk (sPt W (ixI s))) q k.1.1 (sSg (wsd W (ixI s))) (sNx (wsd W (ixI s))) k.2.2 i.2.1.2.1 i.2.1.2.2.1 i.2.1.2.2.2 (sHa (wsd W (ixI s))) k.1.2.1 i.2.1.1 (by omega) hh) (by decide) (fun r G' h => by obtain ⟨rfl, rfl⟩ := h; exact ⟨rfl, gX, gM, rfl, rfl⟩)
theorem upN_id {α : Type} {f : Nat → α} {k : Nat} : upN f k (f k) = f := by
  funext j
  by_cases h : j = k
  · rw [h, upN_s]
  · rw [upN_o h]
theorem sS_id {a0 s : Nat} {W : wW} {T : Nat → Option hKd} {I : Nat → Nat → Int32} {R : Nat → Nat → Option Nat} {A : Nat → Nat} (h : MR a0 (setS W s (sSet (wsd W s) (sNx (wsd W s)) (sSg (wsd W s))) (wtp W) (wlt W) (wgt W)) T I R A) : MR a0 W T I R A := by
  have e : setS W s (sSet (wsd W s) (sNx (wsd W s)) (sSg (wsd W s))) (wtp W) (wlt W) (wgt W) = W := by
    show (W.1, W.2.1, W.2.2.1, upN (wsd W) s (wsd W s), W.2.2.2.2) = W
    rw [upN_id]
  rw [e] at h; exact h
set_option maxHeartbeats 200000 in
theorem mw_read {l : Launch} {a0 : Nat} {D : va_G} {sa : Nat → Nat} {X W : wW} {T : Nat → Option hKd} {I : Nat → Nat → Int32} {L : Nat → Nat → Int64} {R : Nat → Nat → Option Nat} {A : Nat → Nat} (gX : XR a0 sa X T I R A) (gM : MR a0 W T I R A) (hP : PI W) (s : Int32) : hM l a0 D sa yX11_read cX11_read 3 (some .int) { frames := 8, cells := 0, slots := 0, locals := 200 } [.ref (A 63), .int s] (T, I, L, R, A) (fun r G' => ∃ v, RP a0 sa X (sRea W s) (.int v) A r G') := by
  obtain ⟨⟨mO, hc, h13⟩, ⟨m24, m33, m56, m58, m60⟩, hpt, hsd, hz, ht, hlt, hg⟩ := id gM
  have hn8 := hP.1.1
  have hn4 := hP.1.2
  by_cases hb : s < 0 ∨ nI (wns W) ≤ s
  · rw [show sRea W s = W from if_pos hb]
    exact hM.wk (bd_X11_read mO (wns W) m33 hn4 s hb) (by decide) (fun r G' h => by obtain ⟨rfl, rfl⟩ := h; exact ⟨_, rfl, gX, gM, rfl, rfl⟩)
  · obtain ⟨hs, hsk⟩ := ix_ok (v := s) (n := wns W) (by omega) hb
    have hcv : Value.int s = Value.int (nI (ixI s)) := by rw [← hsk]
    rw [hcv]
    have i := hP.2.2.2.2.2 _ hs
    have k := hsd _ hs
    have q := hpt _ i.1
    have ipa := i.1
    have hm := hP.2.2.2.2.1 _ i.1
    rw [show sRea W s = sReaK W (ixI s) from if_neg hb]
    by_cases hd : pMs (sPt W (ixI s)) ≤ sNx (wsd W (ixI s))
    · rw [show sReaK W (ixI s) = _ from if_pos hd]
      by_cases h16 : 16 ≤ (wlt W).1
      · refine hM.wk (dn_X11_read (wns W) m33 hn4 mO hc h13 (ixI s) hs (sPa (wsd W (ixI s))) (by omega) (pKn (sPt W (ixI s))) (pMs (sPt W (ixI s))) (pSz (sPt W (ixI s))) (pTk (sPt W (ixI s))) q k.1.1 (sSg (wsd W (ixI s))) (sNx (wsd W (ixI s))) k.2.2 i.2.1.2.1 i.2.1.2.2.1 i.2.1.2.2.2 (sHa (wsd W (ixI s))) k.1.2.1 i.2.1.1 (wlt W).1 m58 hP.2.2.1.1 (wlt W).2 hlt hP.2.2.1.2 hd h16) (by decide) (fun r G' h => ?_)
        obtain ⟨I', rfl, e57, ⟨h1, rfl, h2, h3, h4⟩ | ⟨h1, rfl, h2, h3, h4, h5⟩⟩ := h
        · rw [if_neg (fun e => by rw [h1] at e; cases e.2)]
          exact ⟨_, rfl, gX.kept (fun q hq => h3.1 q (by simp [mML]; omega) (by omega)), sS_id (MR.side (J := I') gM hs hn4 (by decide) h3 (fun q _ => rfl) (h3.2.1 24 (by decide)) (h3.2.1 33 (by decide)) (σ := sSg (wsd W (ixI s))) (nx := sNx (wsd W (ixI s))) (t := wtp W) (l := wlt W) (g := wgt W) (by rw [decide_eq_true hd]; exact h2) ⟨(h3.2.1 56 (by decide)).trans m56, (h3.2.1 58 (by decide)).trans m58, (h3.2.1 60 (by decide)).trans m60⟩ (by rw [h3.1 55 (by decide) (by decide)]; exact ht) (by rw [e57]; exact hlt) (by rw [h4]; exact hg)), rfl, rfl⟩
        · rw [if_pos ⟨h16, h1⟩]
          obtain ⟨K, f1, f2, f3⟩ := h5
          refine ⟨_, rfl, gX.kept (fun q hq => (f2 q (by omega) (by omega)).trans (f1.1 q (by simp [mML]; omega) (by omega))), MR.side (J := I') gM hs hn4 (by decide) f1 (fun q hq => f2 q (by simp at hq; omega) (by simp at hq; omega)) ((f3 24 (by decide)).trans (f1.2.1 24 (by decide))) ((f3 33 (by decide)).trans (f1.2.1 33 (by decide))) (by rw [decide_eq_true hd]; exact h2) ⟨((f3 56 (by decide)).trans (f1.2.1 56 (by decide))).trans m56, ((f3 58 (by decide)).trans (f1.2.1 58 (by decide))).trans m58, h4⟩ (by show ∀ j, j < _ → I' 55 j = _; rw [f2 55 (by decide) (by decide), f1.1 55 (by decide) (by decide)]; exact ht) (by show ∀ j, j < _ → I' 57 j = _; rw [e57]; exact hlt) h3, rfl, rfl⟩
      · rw [if_neg (fun e => h16 e.1)]
        exact hM.wk (sh_X11_read (wns W) m33 hn4 mO hc h13 (ixI s) hs (sPa (wsd W (ixI s))) (by omega) (pKn (sPt W (ixI s))) (pMs (sPt W (ixI s))) (pSz (sPt W (ixI s))) (pTk (sPt W (ixI s))) q k.1.1 (sSg (wsd W (ixI s))) (sNx (wsd W (ixI s))) k.2.2 i.2.1.2.1 i.2.1.2.2.1 i.2.1.2.2.2 (sHa (wsd W (ixI s))) k.1.2.1 i.2.1.1 (wlt W).1 m58 hP.2.2.1.1 (wlt W).2 hlt hP.2.2.1.2 hd (by omega)) (by decide) (fun r G' h => by obtain ⟨rfl, rfl⟩ := h; exact ⟨_, rfl, gX, gM, rfl, rfl⟩)
    · by_cases hh : sNx (wsd W (ixI s)) % 2 = sHa (wsd W (ixI s))
      · rw [show sReaK W (ixI s) = W from (if_neg hd).trans (if_pos hh)]
        exact hM.wk (no_X11_read (wns W) m33 hn4 mO hc h13 (ixI s) hs (sPa (wsd W (ixI s))) (by omega) (pKn (sPt W (ixI s))) (pMs (sPt W (ixI s))) (pSz (sPt W (ixI s))) (pTk (sPt W (ixI s))) q k.1.1 (sSg (wsd W (ixI s))) (sNx (wsd W (ixI s))) k.2.2 i.2.1.2.1 i.2.1.2.2.1 i.2.1.2.2.2 (sHa (wsd W (ixI s))) k.1.2.1 i.2.1.1 (by omega) hh) (by decide) (fun r G' h => by obtain ⟨rfl, rfl⟩ := h; exact ⟨_, rfl, gX, gM, rfl, rfl⟩)
      · rw [show sReaK W (ixI s) = reaN W (ixI s) (sReaM W (ixI s)) from (if_neg hd).trans (if_neg hh)]
        have ha2 := i.2.1.1
        have hx : ∀ k τ a, k < pSz (sPt W (ixI s)) (sNx (wsd W (ixI s))) → rdK (secV (sSv (wsd W (ixI s)))) (sHa (wsd W (ixI s))) (wlt W).2 (wlt W).1 (pTk (sPt W (ixI s)) (sNx (wsd W (ixI s)))) (sSg (wsd W (ixI s))) k = some (τ, a) → 2 ≤ pTk (sPt W (ixI s)) (sNx (wsd W (ixI s))) k → xEb (pTk (sPt W (ixI s)) (sNx (wsd W (ixI s))) k) (sHa (wsd W (ixI s))) = false → τ 7 9 = nI 1 := fun k τ a h1 h9 h2 h3 => by
          refine rdK_9 k (τ, a) h9 ?_
          rcases dh_kn i.2.2.1.1 hm.2.2.1 (by omega) h1 ha2 h2 h3 with e | e | e
          · exact Or.inl (i.2.2.2.2 (Or.inl (fun h => i.2.2.1.2.2 h e)))
          · obtain ⟨n, j, b1, b2⟩ := e
            exact Or.inl (i.2.2.2.2 (Or.inr ⟨n, j, b1, b2⟩))
          · exact Or.inr e.2
        refine hM.wk (ok_X11_read (wns W) m33 hn4 mO hc h13 (ixI s) hs (sPa (wsd W (ixI s))) (by omega) (pKn (sPt W (ixI s))) (pMs (sPt W (ixI s))) (pSz (sPt W (ixI s))) (pTk (sPt W (ixI s))) q k.1.1 (sSg (wsd W (ixI s))) (sNx (wsd W (ixI s))) k.2.2 i.2.1.2.1 i.2.1.2.2.1 i.2.1.2.2.2 (sHa (wsd W (ixI s))) k.1.2.1 i.2.1.1 (secV (sSv (wsd W (ixI s)))) k.2.1 (wlt W).1 m58 hP.2.2.1.1 (wlt W).2 hlt hP.2.2.1.2 (by omega) hh hx) (by decide) (fun r G' h => ?_)
        obtain ⟨I', L', rfl, ⟨h1, h0, h2, h3, h4, h5⟩ | ⟨M, h1, rfl, _, h2, h3, h4, e57, h5⟩⟩ := h
        · rw [show sReaM W (ixI s) = none from h1]
          show ∃ v, RP a0 sa X W (.int v) A r _
          rcases h0 with rfl | rfl
          · exact ⟨_, rfl, gX.kept (fun q hq => h3.1 q (by simp [mML]; omega) (by omega)), sS_id (MR.side (J := I') gM hs hn4 (by decide) h3 (fun q _ => rfl) (h3.2.1 24 (by decide)) (h3.2.1 33 (by decide)) (σ := sSg (wsd W (ixI s))) (nx := sNx (wsd W (ixI s))) (t := wtp W) (l := wlt W) (g := wgt W) (by rw [decide_eq_false hd]; exact h2) ⟨(h3.2.1 56 (by decide)).trans m56, (h3.2.1 58 (by decide)).trans m58, (h3.2.1 60 (by decide)).trans m60⟩ (by rw [h3.1 55 (by decide) (by decide)]; exact ht) (by rw [h4]; exact hlt) (by rw [h5]; exact hg)), rfl, rfl⟩
          · exact ⟨_, rfl, gX.kept (fun q hq => h3.1 q (by simp [mML]; omega) (by omega)), sS_id (MR.side (J := I') gM hs hn4 (by decide) h3 (fun q _ => rfl) (h3.2.1 24 (by decide)) (h3.2.1 33 (by decide)) (σ := sSg (wsd W (ixI s))) (nx := sNx (wsd W (ixI s))) (t := wtp W) (l := wlt W) (g := wgt W) (by rw [decide_eq_false hd]; exact h2) ⟨(h3.2.1 56 (by decide)).trans m56, (h3.2.1 58 (by decide)).trans m58, (h3.2.1 60 (by decide)).trans m60⟩ (by rw [h3.1 55 (by decide) (by decide)]; exact ht) (by rw [h4]; exact hlt) (by rw [h5]; exact hg)), rfl, rfl⟩
        · rw [show sReaM W (ixI s) = some M from h1]
          obtain ⟨K, f1, f2, f3⟩ := h5
          refine ⟨_, rfl, gX.kept (fun q hq => (f2 q (by omega) (by omega)).trans (f1.1 q (by simp [mML]; omega) (by omega))), MR.side (J := I') gM hs hn4 (by decide) f1 (fun q hq => f2 q (by simp at hq; omega) (by simp at hq; omega)) ((f3 24 (by decide)).trans (f1.2.1 24 (by decide))) ((f3 33 (by decide)).trans (f1.2.1 33 (by decide))) h2 ⟨((f3 56 (by decide)).trans (f1.2.1 56 (by decide))).trans m56, ((f3 58 (by decide)).trans (f1.2.1 58 (by decide))).trans m58, h4⟩ (by show ∀ j, j < _ → I' 55 j = _; rw [f2 55 (by decide) (by decide), f1.1 55 (by decide) (by decide)]; exact ht) (by show ∀ j, j < _ → I' 57 j = _; rw [e57]; exact hlt) h3, rfl, rfl⟩
set_option maxHeartbeats 200000 in
theorem mw_feed {l : Launch} {a0 : Nat} {D : va_G} {sa : Nat → Nat} {X W : wW} {T : Nat → Option hKd} {I : Nat → Nat → Int32} {L : Nat → Nat → Int64} {R : Nat → Nat → Option Nat} {A : Nat → Nat} (gX : XR a0 sa X T I R A) (gM : MR a0 W T I R A) (hP : PI W) (w : Int64) (n : Int32) : hM l a0 D sa yX11_feed cX11_feed 5 (some .int) { frames := 1, cells := 0, slots := 0, locals := 22 } [.ref (A 63), .long w, .int n] (T, I, L, R, A) (RP a0 sa X (sFed W w n).1 (.int (sFed W w n).2) A) := by
  obtain ⟨⟨mO, hc, h13⟩, ⟨m24, m33, m56, m58, m60⟩, hpt, hsd, hz, ht, hlt, hg⟩ := id gM
  have hn8 := hP.1.1
  have hn4 := hP.1.2
  refine hM.wk (ok_X11_feed mO (wtp W).1 hP.2.1.1 m56 w n) (by decide) (fun r G' h => ?_)
  rcases h with ⟨h1, rfl, rfl⟩ | ⟨k, k1, k8, rfl, h⟩
  · rw [show sFed W w n = (W, -2) from if_pos h1]; exact ⟨rfl, gX, gM, rfl, rfl⟩
  · have h5 : ¬ (nI k < nI 1 ∨ nI 8 < nI k) := by
      rintro (e | e)
      · have := (nI_ltI (by omega) (by decide)).mp e; omega
      · have := (nI_ltI (by decide) (by omega)).mp e; omega
    have es : sFed W w (nI k) = if 64 < (wtp W).1 + k then (W, -4) else (setR W (fedF W w k) (wlt W) (wgt W), nI ((wtp W).1 + k)) := by
      unfold sFed; rw [if_neg h5, ixI_n (by omega)]
    rw [es]
    rcases h with ⟨h1, rfl, rfl⟩ | ⟨h1, rfl, I', rfl, h2, h3, h4, h6⟩
    · rw [if_pos h1]; exact ⟨rfl, gX, gM, rfl, rfl⟩
    · rw [if_neg (by omega)]
      refine ⟨rfl, gX.kept (fun q hq => h6 q (by simp; omega)), MR.rows (J := I') gM (fun q hq => h6 q (by simp at hq ⊢; omega)) (h13Z.o (h6 13 (by decide))) (h3 24 (by decide)) (h3 33 (by decide)) ⟨h2, (h3 58 (by decide)).trans m58, (h3 60 (by decide)).trans m60⟩ (fun j hj => ?_) (by show ∀ j, j < _ → I' 57 j = _; rw [h6 57 (by decide)]; exact hlt) (by show ∀ j, j < _ → I' 59 j = _; rw [h6 59 (by decide)]; exact hg), rfl, rfl⟩
      show I' 55 j = _
      rw [h4 j]
      show _ = if (wtp W).1 ≤ j ∧ j < (wtp W).1 + k then fedC w (nI (k - (j - (wtp W).1)) - nI 1) else (wtp W).2 j
      have hj : j < (wtp W).1 + k := hj
      split
      · rename_i h9
        rw [nI_1s (by omega) (by omega)]
        exact (fed_eq w _ (by omega)).symm
      · exact ht j (by omega)
set_option maxHeartbeats 200000 in
theorem mw_alter {l : Launch} {a0 : Nat} {D : va_G} {sa : Nat → Nat} {X W : wW} {T : Nat → Option hKd} {I : Nat → Nat → Int32} {L : Nat → Nat → Int64} {R : Nat → Nat → Option Nat} {A : Nat → Nat} (gX : XR a0 sa X T I R A) (gM : MR a0 W T I R A) (hP : PI W) (i x : Int32) : hM l a0 D sa yX11_alter cX11_alter 4 (some .int) { frames := 1, cells := 0, slots := 0, locals := 22 } [.ref (A 63), .int i, .int x] (T, I, L, R, A) (RP a0 sa X (sAlt W i x).1 (.int (sAlt W i x).2) A) := by
  obtain ⟨⟨mO, hc, h13⟩, ⟨m24, m33, m56, m58, m60⟩, hpt, hsd, hz, ht, hlt, hg⟩ := id gM
  have hn8 := hP.1.1
  have hn4 := hP.1.2
  by_cases hb : (i < 0 ∨ nI (wlt W).1 ≤ i) ∨ (x < 0 ∨ nI 255 < x)
  · rw [show sAlt W i x = (W, -2) from if_pos hb]
    exact hM.wk (bd_X11_alter mO (wlt W).1 m58 hP.2.2.1.1 i x hb) (by decide) (fun r G' h => by obtain ⟨rfl, rfl⟩ := h; exact ⟨rfl, gX, gM, rfl, rfl⟩)
  · have hl := hP.2.2.1.1
    have hi := ix_ok (v := i) (n := (wlt W).1) (by omega) (fun e => hb (Or.inl e))
    have hx := ix_le (v := x) (n := 255) (by decide) (fun e => hb (Or.inr e))
    rw [show sAlt W i x = _ from if_neg hb]
    have hci : Value.int i = Value.int (nI (ixI i)) := by rw [← hi.2]
    have hcx : Value.int x = Value.int (nI (ixI x)) := by rw [← hx.2]
    rw [hci, hcx]
    refine hM.wk (ok_X11_alter mO (wlt W).1 m58 hP.2.2.1.1 (ixI i) (ixI x) hi.1 (by omega)) (by decide) (fun r G' h => ?_)
    obtain ⟨rfl, I', rfl, h1⟩ := h
    have h4 : fx [57] I I' := by rw [h1]; exact fx.rf.up (by simp)
    rw [← hx.2] at h1
    have e6 := hlt _ hi.1
    rw [e6] at h1 ⊢
    refine ⟨rfl, gX.kept (fun q hq => h4 q (by simp; omega)), MR.rows (J := I') gM (fun q hq => h4 q (by simp at hq ⊢; omega)) (h13Z.o (h4 13 (by decide))) (congrFun (h4 63 (by decide)) 24) (congrFun (h4 63 (by decide)) 33) (by show I' 63 56 = _ ∧ I' 63 58 = _ ∧ I' 63 60 = _; rw [h4 63 (by decide)]; exact ⟨m56, m58, m60⟩) (by show ∀ j, j < _ → I' 55 j = _; rw [h4 55 (by decide)]; exact ht) (fun j hj => ?_) (by show ∀ j, j < _ → I' 59 j = _; rw [h4 59 (by decide)]; exact hg), rfl, rfl⟩
    show I' 57 j = _
    rw [h1, va_up_same]
    exact upd_cg (hlt j hj)
set_option maxHeartbeats 200000 in
theorem mw_cut {l : Launch} {a0 : Nat} {D : va_G} {sa : Nat → Nat} {X W : wW} {T : Nat → Option hKd} {I : Nat → Nat → Int32} {L : Nat → Nat → Int64} {R : Nat → Nat → Option Nat} {A : Nat → Nat} (gX : XR a0 sa X T I R A) (gM : MR a0 W T I R A) (hP : PI W) (n : Int32) : hM l a0 D sa yX11_cut cX11_cut 3 (some .int) { frames := 1, cells := 0, slots := 0, locals := 22 } [.ref (A 63), .int n] (T, I, L, R, A) (RP a0 sa X (sCut W n).1 (.int (sCut W n).2) A) := by
  obtain ⟨⟨mO, hc, h13⟩, ⟨m24, m33, m56, m58, m60⟩, hpt, hsd, hz, ht, hlt, hg⟩ := id gM
  have hn8 := hP.1.1
  have hn4 := hP.1.2
  by_cases hb : n < 0 ∨ nI (wlt W).1 < n
  · rw [show sCut W n = (W, -2) from if_pos hb]
    exact hM.wk (bd_X11_cut mO (wlt W).1 m58 hP.2.2.1.1 n hb) (by decide) (fun r G' h => by obtain ⟨rfl, rfl⟩ := h; exact ⟨rfl, gX, gM, rfl, rfl⟩)
  · have hl := hP.2.2.1.1
    have hi := ix_le (v := n) (n := (wlt W).1) (by omega) hb
    rw [show sCut W n = _ from if_neg hb]
    have hci : Value.int n = Value.int (nI (ixI n)) := by rw [← hi.2]
    rw [hci]
    refine hM.wk (ok_X11_cut mO (wlt W).1 m58 hP.2.2.1.1 (ixI n) hi.1) (by decide) (fun r G' h => ?_)
    obtain ⟨rfl, I', rfl, h1⟩ := h
    have h4 : fx [63] I I' := by rw [h1]; exact fx.rf.up (by simp)
    have h5 : ∀ j, j ≠ 58 → I' 63 j = I 63 j := fun j hj => by rw [h1, va_up_same, upd_o hj]
    refine ⟨rfl, gX.kept (fun q hq => h4 q (by simp; omega)), MR.rows (J := I') gM (fun q hq => h4 q (by simp at hq ⊢; omega)) (h13Z.o (h4 13 (by decide))) (h5 24 (by decide)) (h5 33 (by decide)) ⟨(h5 56 (by decide)).trans m56, by show I' 63 58 = _; rw [h1, va_up_same, upd_s], (h5 60 (by decide)).trans m60⟩ (by show ∀ j, j < _ → I' 55 j = _; rw [h4 55 (by decide)]; exact ht) (fun j hj => ?_) (by show ∀ j, j < _ → I' 59 j = _; rw [h4 59 (by decide)]; exact hg), rfl, rfl⟩
    have hj : j < ixI n := hj
    show I' 57 j = _
    rw [h4 57 (by decide)]; exact hlt j (by omega)
set_option maxHeartbeats 200000 in
theorem mw_byteOf {l : Launch} {a0 : Nat} {D : va_G} {sa : Nat → Nat} {X W : wW} {T : Nat → Option hKd} {I : Nat → Nat → Int32} {L : Nat → Nat → Int64} {R : Nat → Nat → Option Nat} {A : Nat → Nat} (gX : XR a0 sa X T I R A) (gM : MR a0 W T I R A) (hP : PI W) (w i : Int32) : hM l a0 D sa yX11_byteOf cX11_byteOf 4 (some .int) { frames := 1, cells := 0, slots := 0, locals := 22 } [.ref (A 63), .int w, .int i] (T, I, L, R, A) (RP a0 sa X (sByt W w i).1 (.int (sByt W w i).2) A) := by
  obtain ⟨⟨mO, hc, h13⟩, ⟨m24, m33, m56, m58, m60⟩, hpt, hsd, hz, ht, hlt, hg⟩ := id gM
  have hn8 := hP.1.1
  have hn4 := hP.1.2
  by_cases hb : w < 0 ∨ nI 2 < w
  · rw [show sByt W w i = (W, -2) from if_pos hb]
    exact hM.wk (bd_X11_byteOf mO w i hb) (by decide) (fun r G' h => by obtain ⟨rfl, rfl⟩ := h; exact ⟨rfl, gX, gM, rfl, rfl⟩)
  · have hi := ix_le (v := w) (n := 2) (by decide) hb
    rw [show sByt W w i = _ from if_neg hb]
    have hci : Value.int w = Value.int (nI (ixI w)) := by rw [← hi.2]
    rw [hci]
    rcases (show ixI w = 0 ∨ ixI w = 1 ∨ ixI w = 2 by omega) with e | e | e
    · rw [e]
      rw [if_pos rfl]
      by_cases hbi : i < 0 ∨ nI (wlt W).1 ≤ i
      · rw [show rowA (wlt W) i = -1 from if_pos hbi]
        exact hM.wk (bd0_X11_byteOf mO (wlt W).1 m58 hP.2.2.1.1 i hbi) (by decide) (fun r G' h => by obtain ⟨rfl, rfl⟩ := h; exact ⟨rfl, gX, gM, rfl, rfl⟩)
      · have hi2 := ix_ok (v := i) (n := (wlt W).1) (by have := hP.2.2.1.1; omega) hbi
        have hcj : Value.int i = Value.int (nI (ixI i)) := by rw [← hi2.2]
        rw [show rowA (wlt W) i = (wlt W).2 (ixI i) from if_neg hbi, hcj, ← hlt _ hi2.1]
        exact hM.wk (ok0_X11_byteOf mO (wlt W).1 m58 hP.2.2.1.1 (ixI i) hi2.1) (by decide) (fun r G' h => by obtain ⟨rfl, rfl⟩ := h; exact ⟨rfl, gX, gM, rfl, rfl⟩)
    · rw [e]
      rw [if_neg (by decide), if_pos rfl]
      by_cases hbi : i < 0 ∨ nI (wgt W).1 ≤ i
      · rw [show rowA (wgt W) i = -1 from if_pos hbi]
        exact hM.wk (bd1_X11_byteOf mO (wgt W).1 m60 hP.2.2.2.1 i hbi) (by decide) (fun r G' h => by obtain ⟨rfl, rfl⟩ := h; exact ⟨rfl, gX, gM, rfl, rfl⟩)
      · have hi2 := ix_ok (v := i) (n := (wgt W).1) (by have := hP.2.2.2.1; omega) hbi
        have hcj : Value.int i = Value.int (nI (ixI i)) := by rw [← hi2.2]
        rw [show rowA (wgt W) i = (wgt W).2 (ixI i) from if_neg hbi, hcj, ← hg _ hi2.1]
        exact hM.wk (ok1_X11_byteOf mO (wgt W).1 m60 hP.2.2.2.1 (ixI i) hi2.1) (by decide) (fun r G' h => by obtain ⟨rfl, rfl⟩ := h; exact ⟨rfl, gX, gM, rfl, rfl⟩)
    · rw [e]
      rw [if_neg (by decide), if_neg (by decide)]
      by_cases hbi : i < 0 ∨ nI (wtp W).1 ≤ i
      · rw [show rowA (wtp W) i = -1 from if_pos hbi]
        exact hM.wk (bd2_X11_byteOf mO (wtp W).1 m56 hP.2.1.1 i hbi) (by decide) (fun r G' h => by obtain ⟨rfl, rfl⟩ := h; exact ⟨rfl, gX, gM, rfl, rfl⟩)
      · have hi2 := ix_ok (v := i) (n := (wtp W).1) (by have := hP.2.1.1; omega) hbi
        have hcj : Value.int i = Value.int (nI (ixI i)) := by rw [← hi2.2]
        rw [show rowA (wtp W) i = (wtp W).2 (ixI i) from if_neg hbi, hcj, ← ht _ hi2.1]
        exact hM.wk (ok2_X11_byteOf mO (wtp W).1 m56 hP.2.1.1 (ixI i) hi2.1) (by decide) (fun r G' h => by obtain ⟨rfl, rfl⟩ := h; exact ⟨rfl, gX, gM, rfl, rfl⟩)
set_option maxHeartbeats 200000 in
theorem mw_hash {l : Launch} {a0 : Nat} {D : va_G} {sa : Nat → Nat} {X W : wW} {T : Nat → Option hKd} {I : Nat → Nat → Int32} {L : Nat → Nat → Int64} {R : Nat → Nat → Option Nat} {A : Nat → Nat} (gX : XR a0 sa X T I R A) (gM : MR a0 W T I R A) (hP : PI W) (s i : Int32) : hM l a0 D sa yX11_hash cX11_hash 3 (some .int) { frames := 2, cells := 0, slots := 0, locals := 43 } [.ref (A 63), .int s, .int i] (T, I, L, R, A) (RP a0 sa X (sHsh W s i).1 (.int (sHsh W s i).2) A) := by
  obtain ⟨⟨mO, hc, h13⟩, ⟨m24, m33, m56, m58, m60⟩, hpt, hsd, hz, ht, hlt, hg⟩ := id gM
  have hn8 := hP.1.1
  have hn4 := hP.1.2
  by_cases hb : s < 0 ∨ nI (wns W) ≤ s
  · rw [show sHsh W s i = (W, -2) from if_pos hb]
    exact hM.wk (bd_X11_hash mO (wns W) m33 hn4 s hb i) (by decide) (fun r G' h => by obtain ⟨rfl, rfl⟩ := h; exact ⟨rfl, gX, gM, rfl, rfl⟩)
  · obtain ⟨hs, hsk⟩ := ix_ok (v := s) (n := wns W) (by omega) hb
    have hcv : Value.int s = Value.int (nI (ixI s)) := by rw [← hsk]
    rw [hcv]
    have es : sHsh W s i = if i < 0 ∨ nI 31 < i then (W, -2) else (W, sSg (wsd W (ixI s)) 1 (ixI i)) := if_neg hb
    rw [es]
    by_cases hbi : i < 0 ∨ nI 31 < i
    · rw [if_pos hbi]
      exact hM.wk (bi_X11_hash mO (wns W) m33 hn4 (ixI s) hs i hbi) (by decide) (fun r G' h => by obtain ⟨rfl, rfl⟩ := h; exact ⟨rfl, gX, gM, rfl, rfl⟩)
    · rw [if_neg hbi]
      have hi := ix_le (v := i) (n := 31) (by decide) hbi
      have hci : Value.int i = Value.int (nI (ixI i)) := by rw [← hi.2]
      rw [hci, ← (hsd _ hs).2.2.2.1 (ixI i) (by omega)]
      exact hM.wk (ok_X11_hash mO (wns W) m33 hn4 (ixI s) hs (ixI i) (by omega)) (by decide) (fun r G' h => by obtain ⟨rfl, rfl⟩ := h; exact ⟨rfl, gX, gM, rfl, rfl⟩)
theorem abF_o {p ha nx : Nat} {dn : Bool} {σ : sgT} {w : Int32} (h : w < 0 ∨ nI 8 < w) : abF p ha nx dn σ w = -2 := by
  have hn : ∀ k, k ≤ 8 → ¬ w = nI k := by
    rintro k hk rfl
    rcases h with e | e
    · exact nI_lt0 (by omega) e
    · have := (nI_ltI (by decide) (by omega)).mp e; omega
  unfold abF
  rw [if_neg (hn 0 (by decide)), if_neg (hn 1 (by decide)), if_neg (hn 2 (by decide)), if_neg (hn 3 (by decide)), if_neg (hn 4 (by decide)), if_neg (hn 5 (by decide)), if_neg (hn 6 (by decide)), if_neg (hn 7 (by decide)), if_neg (hn 8 (by decide))]
set_option maxHeartbeats 200000 in
theorem mw_about {l : Launch} {a0 : Nat} {D : va_G} {sa : Nat → Nat} {X W : wW} {T : Nat → Option hKd} {I : Nat → Nat → Int32} {L : Nat → Nat → Int64} {R : Nat → Nat → Option Nat} {A : Nat → Nat} (gX : XR a0 sa X T I R A) (gM : MR a0 W T I R A) (hP : PI W) (s w : Int32) : hM l a0 D sa yX11_about cX11_about 3 (some .int) { frames := 2, cells := 0, slots := 0, locals := 43 } [.ref (A 63), .int s, .int w] (T, I, L, R, A) (RP a0 sa X (sAbo W s w).1 (.int (sAbo W s w).2) A) := by
  obtain ⟨⟨mO, hc, h13⟩, ⟨m24, m33, m56, m58, m60⟩, hpt, hsd, hz, ht, hlt, hg⟩ := id gM
  have hn8 := hP.1.1
  have hn4 := hP.1.2
  by_cases hb : s < 0 ∨ nI (wns W) ≤ s
  · rw [show sAbo W s w = (W, -2) from if_pos hb]
    exact hM.wk (bd_X11_about mO (wns W) m33 hn4 s hb w) (by decide) (fun r G' h => by obtain ⟨rfl, rfl⟩ := h; exact ⟨rfl, gX, gM, rfl, rfl⟩)
  · obtain ⟨hs, hsk⟩ := ix_ok (v := s) (n := wns W) (by omega) hb
    have hcv : Value.int s = Value.int (nI (ixI s)) := by rw [← hsk]
    rw [hcv]
    have i := hP.2.2.2.2.2 _ hs
    have k := hsd _ hs
    rw [show sAbo W s w = (W, abW W (ixI s) w) from if_neg hb]
    by_cases hbi : w < 0 ∨ nI 8 < w
    · rw [show abW W (ixI s) w = -2 from abF_o hbi]
      exact hM.wk (bi_X11_about mO (wns W) m33 hn4 (ixI s) hs w hbi) (by decide) (fun r G' h => by obtain ⟨rfl, rfl⟩ := h; exact ⟨rfl, gX, gM, rfl, rfl⟩)
    · have hi := ix_le (v := w) (n := 8) (by decide) hbi
      have hci : Value.int w = Value.int (nI (ixI w)) := by rw [← hi.2]
      rw [hci, show abW W (ixI s) w = abW W (ixI s) (nI (ixI w)) by rw [← hi.2]]
      exact hM.wk (ok_X11_about mO (wns W) m33 hn4 (ixI s) hs (sPa (wsd W (ixI s))) k.1.1 (sHa (wsd W (ixI s))) k.1.2.1 i.2.1.1 (sSg (wsd W (ixI s))) (sNx (wsd W (ixI s))) _ k.2.2 i.2.1.2.1 i.2.1.2.2.1 (ixI w) hi.1) (by decide) (fun r G' h => by obtain ⟨rfl, rfl⟩ := h; exact ⟨rfl, gX, gM, rfl, rfl⟩)
set_option maxHeartbeats 200000 in
theorem mw_same {l : Launch} {a0 : Nat} {D : va_G} {sa : Nat → Nat} {X W : wW} {T : Nat → Option hKd} {I : Nat → Nat → Int32} {L : Nat → Nat → Int64} {R : Nat → Nat → Option Nat} {A : Nat → Nat} (gX : XR a0 sa X T I R A) (gM : MR a0 W T I R A) (hP : PI W) (s t : Int32) : hM l a0 D sa yX11_same cX11_same 7 (some .int) { frames := 2, cells := 0, slots := 0, locals := 43 } [.ref (A 63), .int s, .int t] (T, I, L, R, A) (RP a0 sa X (sSam W s t).1 (.int (sSam W s t).2) A) := by
  obtain ⟨⟨mO, hc, h13⟩, ⟨m24, m33, m56, m58, m60⟩, hpt, hsd, hz, ht, hlt, hg⟩ := id gM
  have hn8 := hP.1.1
  have hn4 := hP.1.2
  by_cases hb : s < 0 ∨ nI (wns W) ≤ s
  · rw [show sSam W s t = (W, -2) from if_pos hb]
    exact hM.wk (bd_X11_same mO (wns W) m33 hn4 s hb t) (by decide) (fun r G' h => by obtain ⟨rfl, rfl⟩ := h; exact ⟨rfl, gX, gM, rfl, rfl⟩)
  · obtain ⟨hs, hsk⟩ := ix_ok (v := s) (n := wns W) (by omega) hb
    have hcv : Value.int s = Value.int (nI (ixI s)) := by rw [← hsk]
    rw [hcv]
    have es : sSam W s t = if t < 0 ∨ nI (wns W) ≤ t then (W, -2) else sSamK W (ixI s) (ixI t) := if_neg hb
    rw [es]
    by_cases hc2 : t < 0 ∨ nI (wns W) ≤ t
    · rw [if_pos hc2]
      exact hM.wk (b2_X11_same mO (wns W) m33 hn4 (ixI s) hs t hc2) (by decide) (fun r G' h => by obtain ⟨rfl, rfl⟩ := h; exact ⟨rfl, gX, gM, rfl, rfl⟩)
    · rw [if_neg hc2]
      obtain ⟨ht2, htk⟩ := ix_ok (v := t) (n := wns W) (by omega) hc2
      have hct : Value.int t = Value.int (nI (ixI t)) := by rw [← htk]
      rw [hct]
      have is := hP.2.2.2.2.2 _ hs
      have ks := hsd _ hs
      have it := hP.2.2.2.2.2 _ ht2
      have kt := hsd _ ht2
      by_cases hd : sNx (wsd W (ixI s)) < pMs (sPt W (ixI s)) ∨ sNx (wsd W (ixI t)) < pMs (sPt W (ixI t))
      · rw [show sSamK W (ixI s) (ixI t) = (W, -3) from if_pos hd]
        exact hM.wk (no_X11_same mO (wns W) m33 hn4 (ixI s) hs (ixI t) ht2 _ _ ks.1.2.1 kt.1.2.1 is.2.1.1 it.2.1.1 _ _ _ _ ks.2.2 kt.2.2 (hd.imp (fun e => decide_eq_false (Nat.not_le.mpr e)) (fun e => decide_eq_false (Nat.not_le.mpr e)))) (by decide) (fun r G' h => by obtain ⟨rfl, rfl⟩ := h; exact ⟨rfl, gX, gM, rfl, rfl⟩)
      · rw [show sSamK W (ixI s) (ixI t) = _ from if_neg hd]
        refine hM.wk (ok_X11_same mO (wns W) m33 hn4 (ixI s) hs (ixI t) ht2 _ _ ks.1.2.1 kt.1.2.1 is.2.1.1 it.2.1.1 _ _ _ _ ks.2.2 kt.2.2 (decide_eq_true (Nat.not_lt.mp (fun e => hd (Or.inl e)))) (decide_eq_true (Nat.not_lt.mp (fun e => hd (Or.inr e))))) (by decide) (fun r G' h => ?_)
        obtain ⟨⟨q, rfl, hq⟩, rfl⟩ := h
        have : q = samB W (ixI s) (ixI t) := Bool.eq_iff_iff.mpr (hq.trans samB_iff.symm)
        rw [this]
        exact ⟨rfl, gX, gM, rfl, rfl⟩
set_option maxHeartbeats 200000 in
theorem mw_key {l : Launch} {a0 : Nat} {D : va_G} {sa : Nat → Nat} {X W : wW} {T : Nat → Option hKd} {I : Nat → Nat → Int32} {L : Nat → Nat → Int64} {R : Nat → Nat → Option Nat} {A : Nat → Nat} (gX : XR a0 sa X T I R A) (gM : MR a0 W T I R A) (hP : PI W) (v j i : Int32) : hM l a0 D sa yX11_key cX11_key 4 (some .int) { frames := 5, cells := 0, slots := 0, locals := 122 } [.ref (A 63), .int v, .int j, .int i] (T, I, L, R, A) (RP a0 sa X (sKey W v j i).1 (.int (sKey W v j i).2) A) := by
  obtain ⟨⟨mO, hc, h13⟩, ⟨m24, m33, m56, m58, m60⟩, hpt, hsd, hz, ht, hlt, hg⟩ := id gM
  have hn8 := hP.1.1
  have hn4 := hP.1.2
  refine hM.wk (ok_X11_key mO hc.1 hc.2 h13 v j i) (by decide) (fun r G' h => ?_)
  rcases h with ⟨h1, rfl, rfl⟩ | ⟨k, hk, rfl, rfl, I', L', rfl, h2, h3, h5⟩
  · rw [show sKey W v j i = (W, -2) from if_pos h1]; exact ⟨rfl, gX, gM, rfl, rfl⟩
  · have h6 : ¬ (nI k < 0 ∨ nI 32 ≤ nI k) := by
      rintro (e | e)
      · exact nI_lt0 (by omega) e
      · have := (nI_leI (by decide) (by omega)).mp e; omega
    rw [show sKey W v j (nI k) = (W, pubF (secF v j) k) by unfold sKey; rw [if_neg h6, ixI_n (by omega)]]
    exact ⟨rfl, gX.kept (fun q hq => h3 q (by simp; omega) (by omega)), MR.rows (J := I') gM (fun q hq => h3 q (by simp at hq ⊢; omega) (by simp at hq; omega)) (fun _ => h2) (h5 24 (by decide)) (h5 33 (by decide)) ⟨(h5 56 (by decide)).trans m56, (h5 58 (by decide)).trans m58, (h5 60 (by decide)).trans m60⟩ (by show ∀ j, j < _ → I' 55 j = _; rw [h3 55 (by decide) (by decide)]; exact ht) (by show ∀ j, j < _ → I' 57 j = _; rw [h3 57 (by decide) (by decide)]; exact hlt) (by show ∀ j, j < _ → I' 59 j = _; rw [h3 59 (by decide) (by decide)]; exact hg), rfl, rfl⟩
set_option maxHeartbeats 200000 in
theorem mw_count {l : Launch} {a0 : Nat} {D : va_G} {sa : Nat → Nat} {X W : wW} {T : Nat → Option hKd} {I : Nat → Nat → Int32} {L : Nat → Nat → Int64} {R : Nat → Nat → Option Nat} {A : Nat → Nat} (gX : XR a0 sa X T I R A) (gM : MR a0 W T I R A) (hP : PI W) (w : Int32) : hM l a0 D sa yX11_count cX11_count 2 (some .int) { frames := 0, cells := 0, slots := 0, locals := 0 } [.ref (A 63), .int w] (T, I, L, R, A) (RP a0 sa X (sCnt W w).1 (.int (sCnt W w).2) A) := by
  obtain ⟨⟨mO, hc, h13⟩, ⟨m24, m33, m56, m58, m60⟩, hpt, hsd, hz, ht, hlt, hg⟩ := id gM
  have hn8 := hP.1.1
  have hn4 := hP.1.2
  exact hM.wk (ok_X11_count mO (wnp W) (wns W) (wtp W).1 (wlt W).1 (wgt W).1 m24 m33 m56 m58 m60 w) (by decide) (fun r G' h => by obtain ⟨rfl, rfl⟩ := h; exact ⟨rfl, gX, gM, rfl, rfl⟩)
set_option maxHeartbeats 200000 in
theorem mw_digest {l : Launch} {a0 : Nat} {D : va_G} {sa : Nat → Nat} {X W : wW} {T : Nat → Option hKd} {I : Nat → Nat → Int32} {L : Nat → Nat → Int64} {R : Nat → Nat → Option Nat} {A : Nat → Nat} (gX : XR a0 sa X T I R A) (gM : MR a0 W T I R A) (hP : PI W) : hM l a0 D sa yX11_digest cX11_digest 5 (some .long) { frames := 1, cells := 0, slots := 0, locals := 22 } [.ref (A 63)] (T, I, L, R, A) (RP a0 sa X W (.long (dgW W)) A) := by
  obtain ⟨⟨mO, hc, h13⟩, ⟨m24, m33, m56, m58, m60⟩, hpt, hsd, hz, ht, hlt, hg⟩ := id gM
  have hn8 := hP.1.1
  have hn4 := hP.1.2
  exact hM.wk (ok_X11_digest mO (wns W) m33 hn4 (fun s => sPa (wsd W s)) (fun s => sHa (wsd W s)) (fun s => sNx (wsd W s)) (fun s => decide (pMs (sPt W s) ≤ sNx (wsd W s))) (fun s => sSg (wsd W s)) (fun s hs => ⟨(hsd s hs).1.1, (hsd s hs).1.2.1, (hP.2.2.2.2.2 s hs).2.1.1, (hsd s hs).2.2, (hP.2.2.2.2.2 s hs).2.1.2.1, (hP.2.2.2.2.2 s hs).2.1.2.2.1⟩) (wlt W).1 m58 hP.2.2.1.1 (wlt W).2 hlt (wgt W).1 m60 hP.2.2.2.1 (wgt W).2 hg) (by decide) (fun r G' h => by obtain ⟨rfl, rfl⟩ := h; exact ⟨rfl, gX, gM, rfl, rfl⟩)
