/-! ===== the calls, pure ===== -/
def sMsgK (W : wW) (k : Nat) : wW × Int32 := if hsW W k then (W, -3) else if 6 ≤ pMs (wpt W k) then (W, -4) else (setP W k (pKn (wpt W k), pMs (wpt W k) + 1, pSz (wpt W k), pTk (wpt W k)), nI (pMs (wpt W k) + 1))
def sMsg (W : wW) (p : Int32) : wW × Int32 := if p < 0 ∨ nI (wnp W) ≤ p then (W, -2) else sMsgK W (ixI p)
def sTokK (W : wW) (k v : Nat) : wW × Int32 := if hsW W k then (W, -3) else if pMs (wpt W k) = 0 then (W, -3) else if 5 ≤ pSz (wpt W k) (pMs (wpt W k) - 1) then (W, -4) else (setP W k (pKn (wpt W k), pMs (wpt W k), upN (pSz (wpt W k)) (pMs (wpt W k) - 1) (pSz (wpt W k) (pMs (wpt W k) - 1) + 1), upN (pTk (wpt W k)) (pMs (wpt W k) - 1) (upN (pTk (wpt W k) (pMs (wpt W k) - 1)) (pSz (wpt W k) (pMs (wpt W k) - 1)) v)), nI (pSz (wpt W k) (pMs (wpt W k) - 1) + 1))
def sTok (W : wW) (p t : Int32) : wW × Int32 := if p < 0 ∨ nI (wnp W) ≤ p then (W, -2) else if t < 0 ∨ nI 5 < t then (W, -2) else sTokK W (ixI p) (ixI t)
def fltN (w : wP) : Nat := if pMs w = 0 ∨ (List.range (pMs w)).any (fun m => decide (pSz w m = 0)) = true then 1 else lowF (mgS (pKn w) (pSz w) (pTk w) (pMs w)).1
theorem fltN_is (w : wP) : isF (pKn w) (pMs w) (pSz w) (pTk w) (fltN w) := by
  unfold isF fltN
  have h : (pMs w = 0 ∨ ∃ m, m < pMs w ∧ pSz w m = 0) ↔ (pMs w = 0 ∨ (List.range (pMs w)).any (fun m => decide (pSz w m = 0)) = true) := by
    rw [List.any_eq_true]
    constructor
    · rintro (h | ⟨m, h1, h2⟩)
      · exact Or.inl h
      · exact Or.inr ⟨m, List.mem_range.mpr h1, decide_eq_true h2⟩
    · rintro (h | ⟨m, h1, h2⟩)
      · exact Or.inl h
      · exact Or.inr ⟨m, List.mem_range.mp h1, of_decide_eq_true h2⟩
  rw [h]
  split
  · rename_i h1; exact Or.inl ⟨h1, rfl⟩
  · rename_i h1; exact Or.inr ⟨h1, rfl⟩
def sFlt (W : wW) (p : Int32) : wW × Int32 := if p < 0 ∨ nI (wnp W) ≤ p then (W, -2) else (W, nI (fltN (wpt W (ixI p))))
def sTld (W : wW) (p t : Int32) : wW × Int32 := if p < 0 ∨ nI (wnp W) ≤ p then (W, -2) else if t < 0 ∨ nI 38 < t then (W, -2) else (W, telF (pKn (wpt W (ixI p))) (pMs (wpt W (ixI p))) (pSz (wpt W (ixI p))) (pTk (wpt W (ixI p))) (ixI t))
def knw (u v : Int32) : Nat → Bool := fun h => if h = 0 then decide (u = 1) else decide (v = 1)
def sPat (W : wW) (u v : Int32) : wW × Int32 := if wnp W = 8 then (W, -4) else ((wnp W + 1, upN (wpt W) (wnp W) (knw u v, 0, fun _ => 0, fun _ _ => 0), W.2.2), nI (wnp W))
def sndB (w : wP) (hd : Nat) : Bool := (List.range (pMs w)).any (fun m => decide (m % 2 = hd) && (List.range (pSz w m)).any (fun k => decide (pTk w m k = 1)))
theorem sndB_iff {w : wP} {hd : Nat} : sndB w hd = true ↔ sndS (pMs w) (pSz w) (pTk w) hd := by
  unfold sndB sndS
  simp only [List.any_eq_true, Bool.and_eq_true, decide_eq_true_eq, List.mem_range]
  constructor
  · rintro ⟨m, h1, h2, k, h3, h4⟩; exact ⟨m, k, h1, h2, h3, h4⟩
  · rintro ⟨m, k, h1, h2, h3, h4⟩; exact ⟨m, h1, h2, k, h3, h4⟩
def noB (w : wP) (hd : Nat) (sv ov : Int32) : Bool := decide (fltN w ≠ 0) || ((decide (sv = -1) && (pKn w hd || sndB w hd)) || (decide (ov = -1) && pKn w (1 - hd)))
theorem noB_iff {w : wP} {hd : Nat} {sv ov : Int32} {f : Nat} (hf : isF (pKn w) (pMs w) (pSz w) (pTk w) f) : noB w hd sv ov = true ↔ noC (pKn w) (pMs w) (pSz w) (pTk w) hd sv ov f := by
  have := hf.uniq (fltN_is w)
  subst this
  unfold noB noC
  simp only [Bool.or_eq_true, Bool.and_eq_true, decide_eq_true_eq, sndB_iff]
def newS (W : wW) (p hd : Nat) (sv ov ev : Int32) : wS := (p, hd, ev, sv, ov, 0, opB (pKn (wpt W p)) hd (pubV sv) (pubV ov) (decide (ov ≠ -1)) sg0)
def addS (W : wW) (w : wS) : wW := (W.1, W.2.1, wns W + 1, upN (wsd W) (wns W) w, W.2.2.2.2)
def sSidK (W : wW) (p hd : Nat) (sv ov ev : Int32) : wW × Int32 := if noB (wpt W p) hd sv ov then (W, -3) else if wns W = 4 then (W, -4) else (addS W (newS W p hd sv ov ev), nI (wns W))
def sSid (W : wW) (p hv sv ov ev : Int32) : wW × Int32 := if p < 0 ∨ nI (wnp W) ≤ p then (W, -2) else if (hv < 0 ∨ nI 1 < hv) ∨ sv < -1 ∨ ov < -1 then (W, -2) else sSidK W (ixI p) (ixI hv) sv ov ev
def sAgnK (W : wW) (s : Nat) : wW × Int32 := (setS W s (sSet (wsd W s) 0 (opB (pKn (sPt W s)) (sHa (wsd W s)) (pubV (sSv (wsd W s))) (pubV (sOv (wsd W s))) (decide (sOv (wsd W s) ≠ -1)) (sSg (wsd W s)))) (wtp W) (wlt W) (wgt W), nI (sNx (wsd W s)))
def sAgn (W : wW) (s : Int32) : wW × Int32 := if s < 0 ∨ nI (wns W) ≤ s then (W, -2) else sAgnK W (ixI s)
def fedF (W : wW) (w : Int64) (k : Nat) : wR := ((wtp W).1 + k, fun j => if (wtp W).1 ≤ j ∧ j < (wtp W).1 + k then fedC w (nI (k - (j - (wtp W).1)) - nI 1) else (wtp W).2 j)
def sFed (W : wW) (w : Int64) (n : Int32) : wW × Int32 := if n < nI 1 ∨ nI 8 < n then (W, -2) else if 64 < (wtp W).1 + ixI n then (W, -4) else (setR W (fedF W w (ixI n)) (wlt W) (wgt W), nI ((wtp W).1 + ixI n))
def sWriM (W : wW) (s : Nat) : sdP := sdM (sSd (wsd W s)) (secV (sSv (wsd W s))) (pubV (sSv (wsd W s))) (sHa (wsd W s)) (pMs (sPt W s)) (sNx (wsd W s)) (pTk (sPt W s) (sNx (wsd W s))) (pSz (sPt W s) (sNx (wsd W s))) (wtp W).2 (wtp W).1 (sSg (wsd W s))
def sWriK (W : wW) (s : Nat) : wW × Int32 := if pMs (sPt W s) ≤ sNx (wsd W s) then (setS W s (sSet (wsd W s) (sNx (wsd W s)) (sFl (sSg (wsd W s)) 10 (sSg (wsd W s) 7 10 + 1))) (0, (wtp W).2) ((wtp W).1 + 16, dnF (sSg (wsd W s)) (wtp W).2 (wtp W).1) (wgt W), nI ((wtp W).1 + 16)) else if sNx (wsd W s) % 2 = sHa (wsd W s) then (setS W s (sSet (wsd W s) (sNx (wsd W s) + 1) (sWriM W s).1) (0, (wtp W).2) ((sWriM W s).2.2, (sWriM W s).2.1) (wgt W), nI (sWriM W s).2.2) else (W, -3)
def sWri (W : wW) (s : Int32) : wW × Int32 := if s < 0 ∨ nI (wns W) ≤ s then (W, -2) else sWriK W (ixI s)
def sReaM (W : wW) (s : Nat) : Option sdP := rdM (secV (sSv (wsd W s))) (sHa (wsd W s)) (pMs (sPt W s)) (sNx (wsd W s)) (pTk (sPt W s) (sNx (wsd W s))) (pSz (sPt W s) (sNx (wsd W s))) (wlt W).2 (wlt W).1 (sSg (wsd W s))
def reaN (W : wW) (s : Nat) : Option sdP → wW
  | none => W
  | some M => setS W s (sSet (wsd W s) (sNx (wsd W s) + 1) M.1) (wtp W) (wlt W) (M.2.2, M.2.1)
def sReaK (W : wW) (s : Nat) : wW := if pMs (sPt W s) ≤ sNx (wsd W s) then (if 16 ≤ (wlt W).1 ∧ dnO (sSg (wsd W s)) (wlt W).2 (wlt W).1 = true then setS W s (sSet (wsd W s) (sNx (wsd W s)) (sFl (sSg (wsd W s)) 11 (sSg (wsd W s) 7 11 + 1))) (wtp W) (wlt W) ((wlt W).1 - 16, dnG (sSg (wsd W s)) (wlt W).2) else W) else if sNx (wsd W s) % 2 = sHa (wsd W s) then W else reaN W s (sReaM W s)
def sRea (W : wW) (s : Int32) : wW := if s < 0 ∨ nI (wns W) ≤ s then W else sReaK W (ixI s)
def sAlt (W : wW) (i x : Int32) : wW × Int32 := if (i < 0 ∨ nI (wlt W).1 ≤ i) ∨ (x < 0 ∨ nI 255 < x) then (W, -2) else (setR W (wtp W) ((wlt W).1, upd (wlt W).2 (ixI i) ((wlt W).2 (ixI i) ^^^ x)) (wgt W), (wlt W).2 (ixI i))
def sCut (W : wW) (n : Int32) : wW × Int32 := if n < 0 ∨ nI (wlt W).1 < n then (W, -2) else (setR W (wtp W) (ixI n, (wlt W).2) (wgt W), nI ((wlt W).1 - ixI n))
def rowA (r : wR) (i : Int32) : Int32 := if i < 0 ∨ nI r.1 ≤ i then -1 else r.2 (ixI i)
def sByt (W : wW) (w i : Int32) : wW × Int32 := if w < 0 ∨ nI 2 < w then (W, -2) else (W, if ixI w = 0 then rowA (wlt W) i else if ixI w = 1 then rowA (wgt W) i else rowA (wtp W) i)
def sHsh (W : wW) (s i : Int32) : wW × Int32 := if s < 0 ∨ nI (wns W) ≤ s then (W, -2) else if i < 0 ∨ nI 31 < i then (W, -2) else (W, sSg (wsd W (ixI s)) 1 (ixI i))
def abW (W : wW) (s : Nat) (w : Int32) : Int32 := abF (sPa (wsd W s)) (sHa (wsd W s)) (sNx (wsd W s)) (decide (pMs (sPt W s) ≤ sNx (wsd W s))) (sSg (wsd W s)) w
def sAbo (W : wW) (s w : Int32) : wW × Int32 := if s < 0 ∨ nI (wns W) ≤ s then (W, -2) else (W, abW W (ixI s) w)
def samB (W : wW) (s t : Nat) : Bool := decide (sHa (wsd W s) ≠ sHa (wsd W t)) && ((List.range 32).all (fun u => decide (sSg (wsd W s) 1 u = sSg (wsd W t) 1 u)) && ((List.range 32).all (fun u => decide (sSg (wsd W s) 2 u = sSg (wsd W t) 3 u)) && (List.range 32).all (fun u => decide (sSg (wsd W s) 3 u = sSg (wsd W t) 2 u))))
theorem samB_iff {W : wW} {s t : Nat} : samB W s t = true ↔ (sHa (wsd W s) ≠ sHa (wsd W t) ∧ (∀ u, u < 32 → sSg (wsd W s) 1 u = sSg (wsd W t) 1 u) ∧ (∀ u, u < 32 → sSg (wsd W s) 2 u = sSg (wsd W t) 3 u) ∧ ∀ u, u < 32 → sSg (wsd W s) 3 u = sSg (wsd W t) 2 u) := by
  unfold samB
  simp only [Bool.and_eq_true, decide_eq_true_eq, List.all_eq_true, List.mem_range]
def sSamK (W : wW) (s t : Nat) : wW × Int32 := if sNx (wsd W s) < pMs (sPt W s) ∨ sNx (wsd W t) < pMs (sPt W t) then (W, -3) else (W, bI (samB W s t))
def sSam (W : wW) (s t : Int32) : wW × Int32 := if s < 0 ∨ nI (wns W) ≤ s then (W, -2) else if t < 0 ∨ nI (wns W) ≤ t then (W, -2) else sSamK W (ixI s) (ixI t)
def sKey (W : wW) (v j i : Int32) : wW × Int32 := if i < 0 ∨ nI 32 ≤ i then (W, -2) else (W, pubF (secF v j) (ixI i))
def sCnt (W : wW) (w : Int32) : wW × Int32 := (W, cntF (wnp W) (wns W) (wtp W).1 (wlt W).1 (wgt W).1 w)
def dgW (W : wW) : Int64 := dgF (fun s w => abW W s (nI w)) (fun s => sSg (wsd W s) 1) (wns W) (wlt W).2 (wlt W).1 (wgt W).2 (wgt W).1
/-- after a call: the class shows X, the model M -/
def RP (a0 : Nat) (sa : Nat → Nat) (X M : wW) (v : Value) (A : Nat → Nat) (r : Option Value) (G : hG) : Prop := r = some v ∧ XR a0 sa X G.1 G.2.1 G.2.2.2.1 G.2.2.2.2 ∧ MR a0 M G.1 G.2.1 G.2.2.2.1 G.2.2.2.2 ∧ G.2.2.2.2 100 = A 100 ∧ G.2.2.2.2 63 = A 63
theorem hsW_o {W : wW} {p : Nat} (h : ¬ hsW W p = true) : hsW W p = false := Bool.eq_false_iff.mpr h
theorem rw_id {W : wW} : setR W (wtp W) (wlt W) (wgt W) = W := rfl
theorem setR_t {W : wW} {t : wR} : setR W t (wlt W) (wgt W) = setR W t (wlt W) (wgt W) := rfl
/-! what the steps keep -/
theorem pi_Msg {W : wW} (h : PI W) (p : Int32) : PI (sMsg W p).1 := by
  unfold sMsg
  split
  · exact h
  · rename_i hb
    have hk := (ix_ok (by have := h.1.1; omega) hb).1
    unfold sMsgK
    split
    · exact h
    · rename_i hs
      split
      · exact h
      · rename_i h6
        have k := h.2.2.2.2.1 _ hk
        exact h.pat (hsW_o hs) ⟨by show pMs _ + 1 ≤ 6; omega, k.2.1, k.2.2.1, fun m hm => k.2.2.2 m (by have : pMs _ + 1 ≤ m := hm; omega)⟩
theorem pi_Tok {W : wW} (h : PI W) (p t : Int32) : PI (sTok W p t).1 := by
  unfold sTok
  split
  · exact h
  · rename_i hb
    have hk := (ix_ok (by have := h.1.1; omega) hb).1
    split
    · exact h
    · rename_i ht
      have hv := (ix_le (by decide) ht).1
      unfold sTokK
      split
      · exact h
      · rename_i hs
        split
        · exact h
        · split
          · exact h
          · rename_i h0 h5
            have k := h.2.2.2.2.1 _ hk
            refine h.pat (hsW_o hs) ⟨k.1, fun m => ?_, fun m j => ?_, fun m hm => ?_⟩
            · show upN _ _ _ m ≤ 5
              by_cases e : m = pMs (wpt W (ixI p)) - 1
              · rw [e, upN_s]; omega
              · rw [upN_o e]; exact k.2.1 m
            · show (upN (pTk (wpt W (ixI p))) (pMs (wpt W (ixI p)) - 1) _ m) j ≤ 5
              by_cases e : m = pMs (wpt W (ixI p)) - 1
              · rw [e, upN_s]
                by_cases e2 : j = pSz (wpt W (ixI p)) (pMs (wpt W (ixI p)) - 1)
                · rw [e2, upN_s]; exact hv
                · rw [upN_o e2]; exact k.2.2.1 _ j
              · rw [upN_o e]; exact k.2.2.1 m j
            · have hm : pMs (wpt W (ixI p)) ≤ m := hm
              show upN _ _ _ m = 0
              rw [upN_o (by omega)]; exact k.2.2.2 m hm
theorem pi_Pat {W : wW} (h : PI W) (u v : Int32) : PI (sPat W u v).1 := by
  unfold sPat
  split
  · exact h
  · rename_i h8
    have h18 := h.1.1
    refine ⟨⟨by show wnp W + 1 ≤ 8; omega, h.1.2⟩, h.2.1, h.2.2.1, h.2.2.2.1, fun p hp => ?_, fun s hs => ?_⟩
    · have hp : p < wnp W + 1 := hp
      show PPat (upN (wpt W) (wnp W) _ p)
      by_cases e : p = wnp W
      · rw [e, upN_s]; exact ⟨Nat.zero_le _, fun _ => Nat.zero_le _, fun _ _ => Nat.zero_le _, fun _ _ => rfl⟩
      · rw [upN_o e]; exact h.2.2.2.2.1 p (by omega)
    · have k := h.2.2.2.2.2 s hs
      refine ⟨Nat.lt_succ_of_lt k.1, ?_⟩
      show PSid (upN (wpt W) (wnp W) _ (sPa (wsd W s))) (wsd W s)
      have := k.1
      rw [upN_o (by omega)]; exact k.2
theorem opB_9 {kn : Nat → Bool} {ha : Nat} {pub told : Nat → Int32} {wt : Bool} {σ : sgT} : opB kn ha pub told wt σ 7 9 = bI wt := by
  show upd (upd (upd (upd (upd (σ 7) 9 (bI wt)) 8 (nI 0)) 7 (nI 0)) 10 (nI 0)) 13 (nI 0) 9 = _
  simp [upd]
theorem opB_13 {kn : Nat → Bool} {ha : Nat} {pub told : Nat → Int32} {wt : Bool} {σ : sgT} : opB kn ha pub told wt σ 7 13 = nI 0 := by
  show upd (upd (upd (upd (upd (σ 7) 9 (bI wt)) 8 (nI 0)) 7 (nI 0)) 10 (nI 0)) 13 (nI 0) 13 = _
  simp [upd]
theorem pi_Sid {W : wW} (h : PI W) (p hv sv ov ev : Int32) : PI (sSid W p hv sv ov ev).1 := by
  unfold sSid
  split
  · exact h
  · rename_i hb
    have hk := (ix_ok (by have := h.1.1; omega) hb).1
    split
    · exact h
    · rename_i hbad
      have hv2 := (ix_le (v := hv) (n := 1) (by decide) (fun e => hbad (Or.inl e))).1
      unfold sSidK
      split
      · exact h
      · rename_i hno
        split
        · exact h
        · rename_i h4
          have h14 := h.1.2
          have hno : ¬ noC _ _ _ _ (ixI hv) sv ov _ := fun e => hno ((noB_iff (fltN_is (wpt W (ixI p)))).mpr e)
          have hpp := h.2.2.2.2.1 _ hk
          have h0 : fltN (wpt W (ixI p)) = 0 := Decidable.byContradiction (fun e => hno (Or.inl e))
          have hF := fltN_is (wpt W (ixI p))
          rw [h0] at hF
          refine ⟨⟨h.1.1, by show wns W + 1 ≤ 4; omega⟩, h.2.1, h.2.2.1, h.2.2.2.1, h.2.2.2.2.1, fun s hs => ?_⟩
          have hs : s < wns W + 1 := hs
          show sPa (upN (wsd W) (wns W) _ s) < wnp W ∧ PSid (wpt W (sPa (upN (wsd W) (wns W) _ s))) (upN (wsd W) (wns W) _ s)
          by_cases e : s = wns W
          · rw [e, upN_s]
            refine ⟨hk, ⟨by show ixI hv < 2; omega, bS_0.b (fun j _ => pubV_b _ _), (opB_13 : opB (pKn (wpt W (ixI p))) (ixI hv) (pubV sv) (pubV ov) (decide (ov ≠ -1)) sg0 7 13 = nI 0), Nat.zero_le _⟩, ⟨hF, ?_, ?_⟩, fun e => ?_, ?_⟩
            · intro e1 e2; exact hno (Or.inr (Or.inl ⟨e1, e2⟩))
            · intro e1 e2; exact hno (Or.inr (Or.inr ⟨e1, e2⟩))
            · have := (isF_0 hF hpp.2.2.1).1
              have e : pMs (wpt W (ixI p)) ≤ 0 := e
              omega
            · rintro (e1 | ⟨n, i, hn, _⟩)
              · have e1 : ov ≠ -1 := e1
                show opB (pKn (wpt W (ixI p))) (ixI hv) (pubV sv) (pubV ov) (decide (ov ≠ -1)) sg0 7 9 = _
                rw [opB_9, decide_eq_true e1]; rfl
              · exact absurd hn (Nat.not_lt_zero n)
          · rw [upN_o e]; exact h.2.2.2.2.2 s (by omega)
theorem pi_Agn {W : wW} (h : PI W) (s : Int32) : PI (sAgn W s).1 := by
  unfold sAgn
  split
  · exact h
  · rename_i hb
    have hs := (ix_ok (by have := h.1.2; omega) hb).1
    have k := h.2.2.2.2.2 _ hs
    have hpp := h.2.2.2.2.1 _ k.1
    refine h.side h.2.1 h.2.2.1 h.2.2.2.1 (k.2.1.2.1.b (fun j _ => pubV_b _ _)) opB_13 (Nat.zero_le _) (fun e => ?_) ?_
    · have := (isF_0 k.2.2.1.1 hpp.2.2.1).1
      have e : pMs (sPt W (ixI s)) ≤ 0 := e
      omega
    · rintro (e1 | ⟨n, i, hn, _⟩)
      · rw [opB_9, decide_eq_true e1]; rfl
      · exact absurd hn (Nat.not_lt_zero n)
theorem fedF_k {W : wW} (h : PI W) (w : Int64) {k : Nat} (hk : (wtp W).1 + k ≤ 64) : (fedF W w k).1 ≤ 64 ∧ ∀ j, j < (fedF W w k).1 → byt ((fedF W w k).2 j) < 256 := by
  refine ⟨hk, fun j hj => ?_⟩
  have hj : j < (wtp W).1 + k := hj
  show byt (if (wtp W).1 ≤ j ∧ j < (wtp W).1 + k then fedC w (nI (k - (j - (wtp W).1)) - nI 1) else (wtp W).2 j) < 256
  split
  · exact byt_255 _
  · exact h.2.1.2 j (by omega)
theorem pi_Fed {W : wW} (h : PI W) (w : Int64) (n : Int32) : PI (sFed W w n).1 := by
  unfold sFed
  split
  · exact h
  · split
    · exact h
    · exact h.rows (fedF_k h w (by omega)) h.2.2.1 h.2.2.2.1
theorem pi_Wri {W : wW} (h : PI W) (s : Int32) : PI (sWri W s).1 := by
  unfold sWri
  split
  · exact h
  · rename_i hb
    have hs := (ix_ok (by have := h.1.2; omega) hb).1
    have k := h.2.2.2.2.2 _ hs
    have hpp := h.2.2.2.2.1 _ k.1
    unfold sWriK
    split
    · rename_i hd
      exact h.side ⟨Nat.zero_le _, fun j hj => absurd hj (Nat.not_lt_zero j)⟩ ⟨by have := h.2.1.1; show (wtp W).1 + 16 ≤ 160; omega, fun j _ => dnF_b h.2.1.2 j⟩ h.2.2.2.1 (k.2.1.2.1.f (by decide) _) k.2.1.2.2.1 k.2.1.2.2.2 (fun _ => k.2.2.2.1 hd) k.2.2.2.2
    · rename_i hd
      split
      · rename_i hh
        have m := sdM_k (sd := sSd (wsd W (ixI s))) (sec := secV (sSv (wsd W (ixI s)))) (ha := sHa (wsd W (ixI s))) (ms := pMs (sPt W (ixI s))) (nx := sNx (wsd W (ixI s))) k.2.1.2.1 (fun j _ => pubV_b (sSv (wsd W (ixI s))) j) h.2.1.2 (lnK_80 k.2.2.1.1 hpp.2.2.1 (sNx (wsd W (ixI s))) (by omega)) h.2.1.1
        refine h.side ⟨Nat.zero_le _, fun j hj => absurd hj (Nat.not_lt_zero j)⟩ ⟨m.2.2.2.2.1, m.2.2.2.2.2⟩ h.2.2.2.1 m.1 m.2.1 (by omega) m.2.2.1 (fun hg => m.2.2.2.1.trans (k.2.2.2.2 (hg.imp id ?_)))
        rintro ⟨n, i, a, b, c⟩
        have h2 := k.2.1.1
        exact ⟨n, i, (by have : n ≠ sNx (wsd W (ixI s)) := fun e => by subst e; omega
                         omega), b, c⟩
      · exact h
theorem pi_Rea {W : wW} (h : PI W) (s : Int32) : PI (sRea W s) := by
  unfold sRea
  split
  · exact h
  · rename_i hb
    have hs := (ix_ok (by have := h.1.2; omega) hb).1
    have k := h.2.2.2.2.2 _ hs
    have hpp := h.2.2.2.2.1 _ k.1
    unfold sReaK
    split
    · rename_i hd
      split
      · exact h.side h.2.1 h.2.2.1 (by have := h.2.2.1.1; show (wlt W).1 - 16 ≤ 160; omega) (k.2.1.2.1.f (by decide) _) k.2.1.2.2.1 k.2.1.2.2.2 (fun _ => k.2.2.2.1 hd) k.2.2.2.2
      · exact h
    · rename_i hd
      split
      · exact h
      · rename_i hh
        cases hm : sReaM W (ixI s) with
        | none => exact h
        | some M =>
          have m := rdM_k hm k.2.1.2.1 h.2.2.1.2
          refine h.side h.2.1 h.2.2.1 (Nat.le_trans m.2.2.2.2 h.2.2.1.1) m.1 m.2.1 (by omega) m.2.2.1 (fun hg => m.2.2.2.1 ?_)
          rcases hg with hg | ⟨n, i, a, b, c, d⟩
          · exact Or.inl (k.2.2.2.2 (Or.inl hg))
          · by_cases e : n = sNx (wsd W (ixI s))
            · subst e; exact Or.inr ⟨i, c, d⟩
            · exact Or.inl (k.2.2.2.2 (Or.inr ⟨n, i, by omega, b, c, d⟩))
theorem pi_Alt {W : wW} (h : PI W) (i x : Int32) : PI (sAlt W i x).1 := by
  unfold sAlt
  split
  · exact h
  · rename_i hb
    have hi := (ix_ok (v := i) (n := (wlt W).1) (by have := h.2.2.1.1; omega) (fun e => hb (Or.inl e))).1
    have hx := ix_le (v := x) (n := 255) (by decide) (fun e => hb (Or.inr e))
    refine h.rows h.2.1 ⟨h.2.2.1.1, fun j hj => ?_⟩ h.2.2.2.1
    have hj : j < (wlt W).1 := hj
    show byt (upd (wlt W).2 (ixI i) ((wlt W).2 (ixI i) ^^^ x) j) < 256
    unfold upd
    split
    · rw [hx.2]; exact byt_xor (h.2.2.1.2 _ hi) (byt_n (by omega))
    · exact h.2.2.1.2 j hj
theorem pi_Cut {W : wW} (h : PI W) (n : Int32) : PI (sCut W n).1 := by
  unfold sCut
  split
  · exact h
  · rename_i hb
    have hi := (ix_le (v := n) (n := (wlt W).1) (by have := h.2.2.1.1; omega) hb).1
    exact h.rows h.2.1 ⟨Nat.le_trans hi h.2.2.1.1, fun j hj => h.2.2.1.2 j (Nat.lt_of_lt_of_le hj hi)⟩ h.2.2.2.1
