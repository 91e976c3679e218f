/-! ===== SHA-256 of a message told byte after byte ===== -/
def wrd (m : Nat → Int32) (i : Nat) : Int32 := isl (m i) (nI 24) ||| isl (m (i + 1)) (nI 16) ||| isl (m (i + 2)) (nI 8) ||| m (i + 3)
def pk4 (u : Int32) (m : Nat → Int32) (b : Nat) : Nat → Int32
  | 0 => u
  | r + 1 => isl (pk4 u m b r) (nI 8) ||| m (b + r)
theorem isl_bv (x : Int32) {k : Nat} (hk : k < 32) : (isl x (nI k)).toBitVec = x.toBitVec <<< k := by
  have e : ∀ k, k < 32 → ((nI k &&& 31).toBitVec.smod 32).toNat = k := by decide +kernel
  apply BitVec.eq_of_toNat_eq
  show (x <<< (nI k &&& 31)).toBitVec.toNat = _
  rw [pk_shl _ _ k (e k hk), BitVec.toNat_shiftLeft, Nat.shiftLeft_eq]
theorem pk4_4 (u : Int32) (m : Nat → Int32) (b : Nat) : pk4 u m b 4 = wrd m b := by
  apply Int32.toBitVec_inj.mp
  simp only [pk4, wrd, Int32.toBitVec_or, isl_bv _ (show 8 < 32 by decide), isl_bv _ (show 16 < 32 by decide), isl_bv _ (show 24 < 32 by decide)]
  apply BitVec.eq_of_getLsbD_eq
  intro i hi
  simp only [BitVec.getLsbD_or, BitVec.getLsbD_shiftLeft, Nat.add_zero]
  by_cases h8 : i < 8
  · simp [h8, show i < 16 by omega, show i < 24 by omega]
  · by_cases h16 : i < 16
    · simp [h8, h16, hi, show i < 24 by omega, show i - 8 < 8 by omega, show i - 8 < 32 by omega]
    · by_cases h24 : i < 24
      · simp [h8, h16, h24, hi, show i - 16 < 8 by omega, show ¬ i - 8 < 8 by omega, show i - 8 - 8 < 8 by omega, show i - 8 < 32 by omega, show i - 8 - 8 < 32 by omega, show i - 8 - 8 = i - 16 by omega]
      · simp [h8, h16, h24, hi, show ¬ i - 8 < 8 by omega, show ¬ i - 8 - 8 < 8 by omega, show i - 8 - 8 - 8 < 8 by omega, show i - 8 < 32 by omega, show i - 8 - 8 < 32 by omega, show i - 8 - 8 - 8 < 32 by omega, show i - 8 - 8 = i - 16 by omega, show i - 8 - 8 - 8 = i - 24 by omega, show i - 16 - 8 = i - 24 by omega, show i - 24 < 8 by omega, show i - 16 < 32 by omega, show ¬ i - 16 < 8 by omega]
theorem sW_congr {w w' : Nat → Int32} (h : ∀ t, t < 16 → w t = w' t) : ∀ n t, t < 16 + n → sW w n t = sW w' n t
  | 0, t, ht => h t ht
  | n + 1, t, ht => by
    have ih := sW_congr h n
    simp only [sW, upd]
    by_cases e : t = 16 + n
    · rw [if_pos e, if_pos e, ih n (by omega), ih (n + 1) (by omega), ih (n + 9) (by omega), ih (n + 14) (by omega)]
    · rw [if_neg e, if_neg e, ih t (by omega)]
theorem sR_congr {w w' : Nat → Int32} (s : sT) : ∀ n, (∀ t, t < n → w t = w' t) → sR w s n = sR w' s n
  | 0, _ => rfl
  | n + 1, h => by simp only [sR]; rw [sR_congr s n (fun t ht => h t (by omega)), h n (by omega)]
theorem shaB_congr {f f' w w' : Nat → Int32} (hf : ∀ j, j < 8 → f j = f' j) (hw : ∀ t, t < 16 → w t = w' t) : ∀ j, j < 8 → shaB f w j = shaB f' w' j := by
  intro j hj
  have e1 : sI f = sI f' := by simp only [sI]; rw [hf 0 (by omega), hf 1 (by omega), hf 2 (by omega), hf 3 (by omega), hf 4 (by omega), hf 5 (by omega), hf 6 (by omega), hf 7 (by omega)]
  unfold shaB
  rw [e1, sR_congr _ 64 (fun t ht => sW_congr hw 48 t (by omega))]
  generalize sR (sW w' 48) (sI f') 64 = s
  obtain ⟨a, b, c, d, e, g, h, i⟩ := s
  simp only [sAdd, upd]
  rw [hf 0 (by omega), hf 1 (by omega), hf 2 (by omega), hf 3 (by omega), hf 4 (by omega), hf 5 (by omega), hf 6 (by omega), hf 7 (by omega), hf j hj]
def shaS (m : Nat → Int32) : Nat → Nat → Int32
  | 0 => fSha
  | n + 1 => shaB (shaS m n) (fun t => wrd m (64 * n + 4 * t))
theorem wrd_congr {m m' : Nat → Int32} {i : Nat} (h : ∀ j, j < i + 4 → m j = m' j) : wrd m i = wrd m' i := by
  unfold wrd; rw [h i (by omega), h (i + 1) (by omega), h (i + 2) (by omega), h (i + 3) (by omega)]
theorem shaS_congr {m m' : Nat → Int32} : ∀ n, (∀ j, j < 64 * n → m j = m' j) → ∀ i, i < 8 → shaS m n i = shaS m' n i
  | 0, _, _, _ => rfl
  | n + 1, h, i, hi => shaB_congr (shaS_congr n (fun j hj => h j (by omega))) (fun t ht => wrd_congr (fun j hj => h j (by omega))) i hi
theorem pk4_congr {m m' : Nat → Int32} {u : Int32} {b : Nat} : ∀ r, (∀ j, j < b + r → m j = m' j) → pk4 u m b r = pk4 u m' b r
  | 0, _ => rfl
  | r + 1, h => by simp only [pk4]; rw [pk4_congr r (fun j hj => h j (by omega)), h (b + r) (by omega)]
/-- the cells h, s, w of a Sha hold k bytes of the message m -/
def shaAt (I : Nat → Nat → Int32) (h s w : Nat) (m : Nat → Int32) (k : Nat) : Prop :=
  (∀ j, j < 8 → I s j = shaS m (k / 64) j) ∧ I h 2 = nI (k % 64) ∧ I h 3 = nI k ∧ (∀ t, t < k % 64 / 4 → I w t = wrd m (64 * (k / 64) + 4 * t)) ∧ ∃ u, I w (k % 64 / 4) = pk4 u m (64 * (k / 64) + 4 * (k % 64 / 4)) (k % 4)
theorem shaAt.congr {I : Nat → Nat → Int32} {h s w : Nat} {m m' : Nat → Int32} {k : Nat} (H : shaAt I h s w m k) (e : ∀ i, i < k → m i = m' i) : shaAt I h s w m' k := by
  obtain ⟨h1, h2, h3, h4, u, h5⟩ := H
  refine ⟨fun j hj => ?_, h2, h3, fun t ht => ?_, u, ?_⟩
  · rw [h1 j hj]; exact shaS_congr _ (fun i hi => e i (by omega)) j hj
  · rw [h4 t ht]; exact wrd_congr (fun i hi => e i (by omega))
  · rw [h5]; exact pk4_congr _ (fun i hi => e i (by omega))
theorem shaAt.frame {I J : Nat → Nat → Int32} {h s w : Nat} {m : Nat → Int32} {k : Nat} (H : shaAt I h s w m k) (eh : J h = I h) (es : J s = I s) (ew : J w = I w) : shaAt J h s w m k := by
  unfold shaAt; rw [eh, es, ew]; exact H
/-- a byte comes, and the block isn't full -/
theorem shaAt.byte {I J : Nat → Nat → Int32} {h s w : Nat} {m : Nat → Int32} {k : Nat} (H : shaAt I h s w m k) (hk : ¬ k % 64 = 63) (es : J s = I s) (e2 : J h 2 = nI (k % 64 + 1)) (e3 : J h 3 = nI (k + 1)) (ew : J w = upd (I w) (k % 64 / 4) (isl (I w (k % 64 / 4)) (nI 8) ||| m k)) : shaAt J h s w m (k + 1) := by
  obtain ⟨h1, h2, h3, h4, u, h5⟩ := H
  have hd : (k + 1) / 64 = k / 64 := by omega
  have hm : (k + 1) % 64 = k % 64 + 1 := by omega
  have hb : isl (I w (k % 64 / 4)) (nI 8) ||| m k = pk4 u m (64 * (k / 64) + 4 * (k % 64 / 4)) (k % 4 + 1) := by
    rw [h5]; simp only [pk4]; rw [show 64 * (k / 64) + 4 * (k % 64 / 4) + k % 4 = k by omega]
  refine ⟨fun j hj => by rw [es, hd]; exact h1 j hj, by rw [hm]; exact e2, e3, fun t ht => ?_, ?_⟩
  · rw [ew, hd]
    unfold upd
    by_cases et : t = k % 64 / 4
    · rw [if_pos et, hb, show k % 4 + 1 = 4 by omega, pk4_4, et]
    · rw [if_neg et]; exact h4 t (by omega)
  · by_cases h4' : k % 4 = 3
    · exact ⟨J w ((k + 1) % 64 / 4), by rw [show (k + 1) % 4 = 0 by omega]; rfl⟩
    · refine ⟨u, ?_⟩
      rw [ew, hd, show (k + 1) % 64 / 4 = k % 64 / 4 by omega, show (k + 1) % 4 = k % 4 + 1 by omega]
      unfold upd
      rw [if_pos rfl, hb]
/-- a byte comes, and the block is full -/
theorem shaAt.full {I J : Nat → Nat → Int32} {h s w : Nat} {m : Nat → Int32} {k : Nat} (H : shaAt I h s w m k) (hk : k % 64 = 63) (es : J s = shaB (I s) (upd (I w) (k % 64 / 4) (isl (I w (k % 64 / 4)) (nI 8) ||| m k))) (e2 : J h 2 = nI 0) (e3 : J h 3 = nI (k + 1)) : shaAt J h s w m (k + 1) := by
  obtain ⟨h1, h2, h3, h4, u, h5⟩ := H
  have hd : (k + 1) / 64 = k / 64 + 1 := by omega
  have hm : (k + 1) % 64 = 0 := by omega
  have hb : isl (I w (k % 64 / 4)) (nI 8) ||| m k = pk4 u m (64 * (k / 64) + 4 * (k % 64 / 4)) (k % 4 + 1) := by
    rw [h5]; simp only [pk4]; rw [show 64 * (k / 64) + 4 * (k % 64 / 4) + k % 4 = k by omega]
  refine ⟨fun j hj => ?_, by rw [hm]; exact e2, e3, fun t ht => by omega, J w ((k + 1) % 64 / 4), by rw [show (k + 1) % 4 = 0 by omega]; rfl⟩
  rw [es, hd]
  refine shaB_congr h1 (fun t ht => ?_) j hj
  unfold upd
  by_cases et : t = k % 64 / 4
  · rw [if_pos et, hb, show k % 4 + 1 = 4 by omega, pk4_4, et]
  · rw [if_neg et]; exact h4 t (by omega)
def pall (n : Nat) : Nat := (n + 8) / 64 * 64 + 64
/-- the message with its padding -/
def padF (m : Nat → Int32) (n i : Nat) : Int32 := if i < n then m i else if i = n then nI 128 else if i < pall n - 4 then nI 0 else iusr (nI (8 * n)) (nI (8 * (pall n - 1 - i))) &&& nI 255
/-- the hash of the first n bytes of m -/
def shaH (m : Nat → Int32) (n j : Nat) : Int32 := iusr (shaS (padF m n) (pall n / 64) (j / 4)) (nI (24 - 8 * (j % 4))) &&& nI 255
theorem padF_congr {m m' : Nat → Int32} {n : Nat} (h : ∀ i, i < n → m i = m' i) : padF m n = padF m' n := by
  funext i; unfold padF; by_cases hi : i < n
  · rw [if_pos hi, if_pos hi, h i hi]
  · rw [if_neg hi, if_neg hi]
theorem shaH_congr {m m' : Nat → Int32} {n : Nat} (h : ∀ i, i < n → m i = m' i) : shaH m n = shaH m' n := by
  funext j; unfold shaH; rw [padF_congr h]
theorem dn_lt : ∀ q, q < 5 → (nI 24 - nI (8 * q) < 0 ↔ q = 4) := by decide +kernel
theorem dn_s : ∀ q, q < 5 → nI 24 - nI (8 * q) + (-8) = nI 24 - nI (8 * (q + 1)) := by decide +kernel
theorem fil_z : ∀ f, f < 64 → (nI 56 - nI f) &&& nI 63 = nI ((120 - f) % 64) := by decide +kernel
