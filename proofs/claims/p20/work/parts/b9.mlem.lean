/-! ===== the calls of the model over the world ===== -/
theorem bvk (x : BitVec 64) (k : Nat) (he : k ≤ 56) : (x.sshiftRight k).setWidth 32 &&& 255#32 = (x >>> k).setWidth 32 &&& 255#32 := by
  ext i hi
  simp only [BitVec.getElem_and, BitVec.getElem_setWidth, BitVec.getLsbD_sshiftRight, BitVec.getLsbD_ushiftRight]
  by_cases h8 : i < 8
  · have h1 : decide (64 ≤ i) = false := decide_eq_false (by omega)
    have h2 : k + i < 64 := by omega
    rw [h1]
    simp [h2]
  · have : (255#32)[i] = false := by
      have : ∀ i (h : i < 32), ¬ i < 8 → (255#32)[i] = false := by decide
      exact this i hi h8
    rw [this]; simp
theorem fed_0 (w : Int64) (y : Int32) (k : Nat) (hk : k ≤ 56) (h1 : (y.toInt64 &&& 63).toBitVec.smod 64 = BitVec.ofNat 64 k) (h2 : (y.toInt64.toUInt64 &&& Int64.toUInt64 63).toBitVec % 64#64 = BitVec.ofNat 64 k) : Int64.toInt32 (lusr w y) &&& nI 255 = Int64.toInt32 (lsr w y) &&& nI 255 := by
  apply Int32.toBitVec_inj.mp
  unfold lusr lsr
  rw [Int32.toBitVec_and, Int32.toBitVec_and, Int64.toBitVec_toInt32, Int64.toBitVec_toInt32, Int64.toBitVec_shiftRight, UInt64.toBitVec_toInt64, UInt64.toBitVec_shiftRight, h1]
  have e2 : ((y.toInt64.toUInt64 &&& Int64.toUInt64 63).toBitVec % 64#64) = BitVec.ofNat 64 k := h2
  show BitVec.signExtend 32 (w.toUInt64.toBitVec >>> ((y.toInt64.toUInt64 &&& Int64.toUInt64 63).toBitVec % 64#64)) &&& _ = _
  rw [e2, BitVec.signExtend_eq_setWidth_of_le _ (by decide), BitVec.signExtend_eq_setWidth_of_le _ (by decide)]
  have ek : (BitVec.ofNat 64 k).toNat = k := by rw [BitVec.toNat_ofNat]; omega
  rw [BitVec.sshiftRight_eq', BitVec.ushiftRight_eq', ek]
  exact (bvk w.toBitVec k hk).symm
theorem fed_eq (w : Int64) : ∀ e, e < 8 → fedC w (nI e) = fedM w (nI e)
  | 0, _ => fed_0 w _ 0 (by decide) (by decide +kernel) (by decide +kernel)
  | 1, _ => fed_0 w _ 8 (by decide) (by decide +kernel) (by decide +kernel)
  | 2, _ => fed_0 w _ 16 (by decide) (by decide +kernel) (by decide +kernel)
  | 3, _ => fed_0 w _ 24 (by decide) (by decide +kernel) (by decide +kernel)
  | 4, _ => fed_0 w _ 32 (by decide) (by decide +kernel) (by decide +kernel)
  | 5, _ => fed_0 w _ 40 (by decide) (by decide +kernel) (by decide +kernel)
  | 6, _ => fed_0 w _ 48 (by decide) (by decide +kernel) (by decide +kernel)
  | 7, _ => fed_0 w _ 56 (by decide) (by decide +kernel) (by decide +kernel)
theorem nI_1s {k : Nat} (h : 1 ≤ k) (h2 : k < 2 ^ 31) : nI k - nI 1 = nI (k - 1) := by
  obtain ⟨j, rfl⟩ : ∃ j, k = j + 1 := ⟨k - 1, by omega⟩
  apply Int32.toBitVec_inj.mp
  rw [Int32.toBitVec_sub]
  show BitVec.ofNat 32 (j + 1) - BitVec.ofNat 32 1 = BitVec.ofNat 32 (j + 1 - 1)
  rw [Nat.add_sub_cancel]
  apply BitVec.eq_of_toNat_eq
  simp [BitVec.toNat_sub, BitVec.toNat_ofNat]
  omega
theorem mdE.otS {s t : Nat} {σ : sgT} {I J : Nat → Nat → Int32} {dn : Bool} (h : mdE σ I t dn) (f : ∀ q, 39 ≤ q → q ≤ 54 → q ≠ 51 → sdO 5 s I J q) (ht : t < 5) (hts : t ≠ s) : mdE σ J t dn := by
  have r : ∀ q, 47 ≤ q → q ≤ 54 → q ≠ 51 → ∀ g, mR I q t g → mR J q t g := fun q a b c g m j hj => by rw [(f q (by omega) b c).2 (by omega) (32 * t + j) (by omega) (by omega)]; exact m j hj
  have g : ∀ q, 39 ≤ q → q ≤ 46 → J q t = I q t := fun q a b => (f q a (by omega) (by omega)).1 (by omega) t ht hts
  obtain ⟨h1, h2, h3, h4, h5, h6, h7, ⟨g1, g2, g3, g4, g5, g6⟩, h9, h10⟩ := h
  exact ⟨r _ (by decide) (by decide) (by decide) _ h1, r _ (by decide) (by decide) (by decide) _ h2, r _ (by decide) (by decide) (by decide) _ h3, r _ (by decide) (by decide) (by decide) _ h4, r _ (by decide) (by decide) (by decide) _ h5, r _ (by decide) (by decide) (by decide) _ h6, fun e => r _ (by decide) (by decide) (by decide) _ (h7 e), ⟨by rw [g 42 (by decide) (by decide)]; exact g1, by rw [g 45 (by decide) (by decide)]; exact g2, by rw [g 46 (by decide) (by decide)]; exact g3, by rw [g 43 (by decide) (by decide)]; exact g4, by rw [g 39 (by decide) (by decide)]; exact g5, by rw [g 40 (by decide) (by decide)]; exact g6⟩, fun e => by rw [g 44 (by decide) (by decide)]; exact h9 e, by rw [g 41 (by decide) (by decide)]; exact h10⟩
theorem upd_o {f : Nat → Int32} {i j : Nat} {v : Int32} (h : j ≠ i) : upd f i v j = f j := if_neg h
theorem upd_s {f : Nat → Int32} {i : Nat} {v : Int32} : upd f i v i = v := if_pos rfl
theorem mdPmsg {I J : Nat → Nat → Int32} {p ms : Nat} {kn : Nat → Bool} {sz : Nat → Nat} {tk : Nat → Nat → Nat} (h : mdP I p kn ms sz tk) (hm : ms < 6) (h0 : sz ms = 0) (e27 : J 27 = upd (I 27) (6 * p + ms) (nI 0)) (e26 : J 26 = upd (I 26) p (nI (ms + 1))) (f : fx [26, 27] I J) : mdP J p kn (ms + 1) sz tk := by
  refine ⟨by rw [f 25 (by decide)]; exact h.1, by rw [e26, upd_s], fun m hm' => ?_, fun m hm' k hk => ?_, by omega, h.2.2.2.2.2⟩
  · rw [e27]
    by_cases e : m = ms
    · rw [e, upd_s, h0]
    · rw [upd_o (by omega)]; exact h.2.2.1 m (by omega)
  · rw [f 28 (by decide)]
    by_cases e : m = ms
    · rw [e, h0] at hk; omega
    · exact h.2.2.2.1 m (by omega) k hk
theorem mdPtok {I J : Nat → Nat → Int32} {p ms v : Nat} {kn : Nat → Bool} {sz : Nat → Nat} {tk : Nat → Nat → Nat} (h : mdP I p kn ms sz tk) (h0 : 0 < ms) (h5 : sz (ms - 1) < 5) (hv : v ≤ 5) (e28 : J 28 = upd (I 28) (5 * (6 * p + (ms - 1)) + sz (ms - 1)) (nI v)) (e27 : J 27 = upd (I 27) (6 * p + (ms - 1)) (nI (sz (ms - 1) + 1))) (f : fx [27, 28] I J) : mdP J p kn ms (upN sz (ms - 1) (sz (ms - 1) + 1)) (upN tk (ms - 1) (upN (tk (ms - 1)) (sz (ms - 1)) v)) := by
  refine ⟨by rw [f 25 (by decide)]; exact h.1, by rw [f 26 (by decide)]; exact h.2.1, fun m hm' => ?_, fun m hm' k hk => ?_, h.2.2.2.2.1, fun m => ?_, fun m k => ?_⟩
  · rw [e27]
    by_cases e : m = ms - 1
    · rw [e, upd_s, upN_s]
    · rw [upd_o (by omega), upN_o e]; exact h.2.2.1 m hm'
  · rw [e28]
    by_cases e : m = ms - 1
    · rw [e, upN_s] at hk ⊢
      by_cases e2 : k = sz (ms - 1)
      · rw [e2, upd_s, upN_s]
      · rw [upd_o (by omega), upN_o e2]; exact h.2.2.2.1 _ (by omega) k (by omega)
    · rw [upN_o e] at hk ⊢
      have := h.2.2.2.2.2.1 m
      rw [upd_o (by omega)]; exact h.2.2.2.1 m hm' k hk
  · by_cases e : m = ms - 1
    · rw [e, upN_s]; omega
    · rw [upN_o e]; exact h.2.2.2.2.2.1 m
  · by_cases e : m = ms - 1
    · rw [e, upN_s]
      by_cases e2 : k = sz (ms - 1)
      · rw [e2, upN_s]; exact hv
      · rw [upN_o e2]; exact h.2.2.2.2.2.2 _ k
    · rw [upN_o e]; exact h.2.2.2.2.2.2 m k
theorem mdPo26 {I J : Nat → Nat → Int32} {p n v : Nat} {ms : Nat} {kn : Nat → Bool} {sz : Nat → Nat} {tk : Nat → Nat → Nat} {x y : Int32} (h : mdP I p kn ms sz tk) (hn : n ≠ p) (hv : v < 6) (e27 : J 27 = upd (I 27) (6 * n + v) x) (e26 : J 26 = upd (I 26) n y) (f : fx [26, 27] I J) : mdP J p kn ms sz tk := by
  refine ⟨by rw [f 25 (by decide)]; exact h.1, by rw [e26, upd_o (Ne.symm hn)]; exact h.2.1, fun m hm => ?_, fun m hm k hk => ?_, h.2.2.2.2⟩
  · have := h.2.2.2.2.1
    rw [e27, upd_o (by omega)]; exact h.2.2.1 m hm
  · rw [f 28 (by decide)]; exact h.2.2.2.1 m hm k hk
theorem mdPo28 {I J : Nat → Nat → Int32} {p n v w : Nat} {ms : Nat} {kn : Nat → Bool} {sz : Nat → Nat} {tk : Nat → Nat → Nat} {x y : Int32} (h : mdP I p kn ms sz tk) (hn : n ≠ p) (hv : v < 6) (hw : w < 5) (e28 : J 28 = upd (I 28) (5 * (6 * n + v) + w) x) (e27 : J 27 = upd (I 27) (6 * n + v) y) (f : fx [27, 28] I J) : mdP J p kn ms sz tk := by
  have h6 := h.2.2.2.2.1
  refine ⟨by rw [f 25 (by decide)]; exact h.1, by rw [f 26 (by decide)]; exact h.2.1, fun m hm => ?_, fun m hm k hk => ?_, h.2.2.2.2⟩
  · rw [e27, upd_o (by omega)]; exact h.2.2.1 m hm
  · have := h.2.2.2.2.2.1 m
    rw [e28, upd_o (by omega)]; exact h.2.2.2.1 m hm k hk
theorem mdPnew {I J : Nat → Nat → Int32} {n : Nat} {u v : Int32} (hu : u = 0 ∨ u = 1) (hv : v = 0 ∨ v = 1) (e25 : J 25 = upd (upd (I 25) (2 * n) u) (2 * n + 1) v) (e26 : J 26 = upd (I 26) n (nI 0)) : mdP J n (knw u v) 0 (fun _ => 0) (fun _ _ => 0) := by
  refine ⟨fun h hh => ?_, by rw [e26, upd_s], fun m hm => absurd hm (Nat.not_lt_zero m), fun m hm => absurd hm (Nat.not_lt_zero m), Nat.zero_le _, fun _ => Nat.zero_le _, fun _ _ => Nat.zero_le _⟩
  rcases (show h = 0 ∨ h = 1 by omega) with rfl | rfl
  · rw [e25, upd_o (by omega), show 2 * n + 0 = 2 * n from rfl, upd_s]; exact knw_0 hu
  · rw [e25, upd_s]; exact knw_0 hv
theorem mdPo25 {I J : Nat → Nat → Int32} {p n : Nat} {ms : Nat} {kn : Nat → Bool} {sz : Nat → Nat} {tk : Nat → Nat → Nat} {u v x : Int32} (h : mdP I p kn ms sz tk) (hn : n ≠ p) (e25 : J 25 = upd (upd (I 25) (2 * n) u) (2 * n + 1) v) (e26 : J 26 = upd (I 26) n x) (f : fx [25, 26, 63] I J) : mdP J p kn ms sz tk := by
  refine ⟨fun h2 hh => ?_, by rw [e26, upd_o (Ne.symm hn)]; exact h.2.1, by rw [f 27 (by decide)]; exact h.2.2.1, by rw [f 28 (by decide)]; exact h.2.2.2.1, h.2.2.2.2⟩
  rw [e25, upd_o (by omega), upd_o (by omega)]; exact h.1 h2 hh
theorem MR_newP {a0 : Nat} {W : wW} {T : Nat → Option hKd} {I J : Nat → Nat → Int32} {R : Nat → Nat → Option Nat} {A : Nat → Nat} {u v : Int32} (h : MR a0 W T I R A) (hP : PI W) (hu : u = 0 ∨ u = 1) (hv : v = 0 ∨ v = 1) (e25 : J 25 = upd (upd (I 25) (2 * wnp W) u) (2 * wnp W + 1) v) (e26 : J 26 = upd (I 26) (wnp W) (nI 0)) (e63 : J 63 = upd (I 63) 24 (nI (wnp W + 1))) (f : fx [25, 26, 63] I J) : MR a0 (wnp W + 1, upN (wpt W) (wnp W) (knw u v, 0, fun _ => 0, fun _ _ => 0), W.2.2) T J R A := by
  obtain ⟨⟨h1, h2, h3⟩, h4, h5, h6, h7, h8, h9, h10⟩ := h
  have o : ∀ j, j ≠ 24 → J 63 j = I 63 j := fun j hj => by rw [e63, upd_o hj]
  refine ⟨⟨h1, by unfold shC; rw [f 4 (by decide), f 5 (by decide)]; exact h2, h13Z.o (f 13 (by decide)) h3⟩, ⟨by rw [e63, upd_s], (o 33 (by decide)).trans h4.2.1, (o 56 (by decide)).trans h4.2.2.1, (o 58 (by decide)).trans h4.2.2.2.1, (o 60 (by decide)).trans h4.2.2.2.2⟩, fun p hp => ?_, fun s hs => ?_, fun s a b => ?_, by rw [f 55 (by decide)]; exact h8, by rw [f 57 (by decide)]; exact h9, by rw [f 59 (by decide)]; exact h10⟩
  · have hp : p < wnp W + 1 := hp
    show mdP J p (pKn (upN (wpt W) (wnp W) _ p)) (pMs (upN (wpt W) (wnp W) _ p)) (pSz (upN (wpt W) (wnp W) _ p)) (pTk (upN (wpt W) (wnp W) _ p))
    by_cases e : p = wnp W
    · rw [e, upN_s]; exact mdPnew hu hv e25 e26
    · rw [upN_o e]; exact mdPo25 (h5 p (by omega)) (Ne.symm e) e25 e26 f
  · have k := h6 s hs
    have hpa := (hP.2.2.2.2.2 s hs).1
    show MSid J s (wsd W s) (pMs (upN (wpt W) (wnp W) _ (sPa (wsd W s))))
    rw [upN_o (by omega)]
    exact ⟨by rw [f 34 (by decide), f 35 (by decide), f 37 (by decide), f 38 (by decide)]; exact k.1, k.2.1.o (f 51 (by decide)), k.2.2.sm (fun q a b => f q (by simp; omega))⟩
  · have k := h7 s a b
    exact ⟨k.1.sm (fun q a b => f q (by simp; omega)), k.2.o (f 51 (by decide))⟩
theorem mR.cg {I : Nat → Nat → Int32} {c s : Nat} {f g : Nat → Int32} (h : mR I c s f) (e : ∀ j, j < 32 → f j = g j) : mR I c s g := fun j hj => (h j hj).trans (e j hj)
theorem MR.mkS {a0 p hd : Nat} {W : wW} {T : Nat → Option hKd} {I J : Nat → Nat → Int32} {R : Nat → Nat → Option Nat} {A : Nat → Nat} {sv ov ev : Int32} (h : MR a0 W T I R A) (hP : PI W) (hp : p < wnp W) (hms : 0 < pMs (wpt W p)) (h4n : wns W < 4) (hE : mdE (opB (pKn (wpt W p)) hd (pubV sv) (pubV ov) (decide (ov ≠ -1)) sg0) J (wns W) false) (e34 : J 34 (wns W) = nI p) (e35 : J 35 (wns W) = nI hd) (e37 : J 37 (wns W) = ov) (e38 : J 38 (wns W) = ev) (e51 : mR J 51 (wns W) (secV sv)) (e33 : J 63 33 = nI (wns W + 1)) (F : mFs (wns W) I J) (e57 : J 57 = I 57) (e59 : J 59 = I 59) : MR a0 (addS W (newS W p hd sv ov ev)) T J R A := by
  obtain ⟨⟨h1, h2, h3⟩, h4, h5, h6, h7, h8, h9, h10⟩ := h
  obtain ⟨f1, f2, f3, f4, f5, f6⟩ := F
  have o : ∀ q, q ∉ mML → q ∉ [29, 30, 31, 32, 34, 35, 36, 37, 38, 51] → q ≠ 63 → J q = I q := f1
  refine ⟨⟨h1, by unfold shC; rw [o 4 (by decide) (by decide) (by decide), o 5 (by decide) (by decide) (by decide)]; exact h2, f3 h3⟩, ⟨(f2 24 (by decide) (by decide)).trans h4.1, e33, (f2 56 (by decide) (by decide)).trans h4.2.2.1, (f2 58 (by decide) (by decide)).trans h4.2.2.2.1, (f2 60 (by decide) (by decide)).trans h4.2.2.2.2⟩, fun p' hp' => (h5 p' hp').o (fun q a b => o q (by simp [mML]; omega) (by simp; omega) (by omega)), fun s hs => ?_, fun s a b => ?_, by rw [o 55 (by decide) (by decide) (by decide)]; exact h8, by rw [e57]; exact h9, by rw [e59]; exact h10⟩
  · have hs : s < wns W + 1 := hs
    show MSid J s (upN (wsd W) (wns W) _ s) (pMs (wpt W (sPa (upN (wsd W) (wns W) _ s))))
    by_cases e : s = wns W
    · rw [e, upN_s]
      refine ⟨⟨e34, e35, e37, e38⟩, e51, ?_⟩
      show mdE _ J (wns W) (decide (pMs (wpt W p) ≤ 0))
      rw [decide_eq_false (by omega)]; exact hE
    · rw [upN_o e]
      have k := h6 s (by omega)
      refine ⟨⟨by rw [f5 34 (by decide) (by decide) s e]; exact k.1.1, by rw [f5 35 (by decide) (by decide) s e]; exact k.1.2.1, by rw [f5 37 (by decide) (by decide) s e]; exact k.1.2.2.1, by rw [f5 38 (by decide) (by decide) s e]; exact k.1.2.2.2⟩, fun j hj => ?_, k.2.2.otS f4 (by omega) e⟩
      rw [f6 (32 * s + j) (by omega)]; exact k.2.1 j hj
  · have a : wns W + 1 ≤ s := a
    have k := h7 s (by omega) b
    refine ⟨k.1.otS f4 (by omega) (by omega), fun j hj => ?_⟩
    rw [f6 (32 * s + j) (by omega)]; exact k.2 j hj
