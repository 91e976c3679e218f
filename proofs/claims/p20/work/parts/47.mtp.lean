/-! ===== numbers modulo 2^130 - 5 ===== -/
def Q5 : Int := 1361129467683753853853498429727072845819
def twt (i : Nat) : Int := 67108864 ^ i
theorem twt_s (n : Nat) : twt (n + 1) = twt n * 67108864 := by unfold twt; rw [Int.pow_succ]
theorem twt_a (a b : Nat) : twt (a + b) = twt a * twt b := by unfold twt; rw [Int.pow_add]
theorem twt_5 : twt 5 = Q5 + 5 := by decide +kernel
theorem twt_pos (n : Nat) : 0 < twt n := by unfold twt; exact Int.pow_pos (by decide)
theorem mod_q {a b k : Int} (h : a = b + k * Q5) : a % Q5 = b % Q5 := by rw [h, Int.add_mul_emod_self_right]
theorem mod_q' {a b : Int} (h : ∃ k, a = b + k * Q5) : a % Q5 = b % Q5 := by obtain ⟨k, h⟩ := h; exact mod_q h
/-! bytes -/
theorem bN_cg {a b : Nat → Nat} : ∀ n, (∀ j, j < n → a j = b j) → bN a n = bN b n
  | 0, _ => rfl
  | n + 1, h => by simp only [bN]; rw [bN_cg n (fun i hi => h i (by omega)), h n (by omega)]
theorem bN_add (a b : Nat → Nat) : ∀ n, bN (fun i => a i + b i) n = bN a n + bN b n
  | 0 => rfl
  | n + 1 => by simp only [bN]; rw [bN_add a b n, Nat.add_mul]; omega
theorem bN_bitsG (b : Nat → Nat) (N : Nat) (hb : ∀ j, j < N → b j < 256) {k r w : Nat} (hk : k + 4 ≤ N) (hrw : r + w ≤ 32) : bN b N / 2 ^ (8 * k + r) % 2 ^ w = by4 b k / 2 ^ r % 2 ^ w := by
  obtain ⟨m, hm⟩ : ∃ m, N = k + (4 + m) := ⟨N - 4 - k, by omega⟩
  have h1 : bN b N / 256 ^ k = bN (fun t => b (k + t)) (4 + m) := by
    have := bN_div b k (4 + m) (fun j hj => hb j (by omega)); rw [← hm] at this; exact this
  rw [Nat.pow_add, ← Nat.div_div_eq_div_mul, Nat.pow_mul, show (2 : Nat) ^ 8 = 256 from rfl, h1, bN_app]
  rw [show bN (fun t => b (k + t)) 4 = by4 b k by simp only [bN, by4]; rw [Nat.add_zero]; omega]
  rw [show (256 : Nat) ^ 4 = 2 ^ r * (2 ^ w * 2 ^ (32 - r - w)) by rw [← Nat.pow_add, ← Nat.pow_add, show r + (w + (32 - r - w)) = 32 by omega]]
  rw [Nat.mul_assoc, Nat.add_mul_div_left _ _ (Nat.two_pow_pos r), Nat.mul_assoc, Nat.add_mul_mod_self_left]
def tF (b : Nat → Nat) (i : Nat) : Int := ((by4 b (26 * i / 8) / 2 ^ (26 * i % 8) % 2 ^ 26 : Nat) : Int)
theorem tF_b (b : Nat → Nat) (i : Nat) : 0 ≤ tF b i ∧ tF b i < 67108864 := by
  unfold tF; have h : by4 b (26 * i / 8) / 2 ^ (26 * i % 8) % 2 ^ 26 < 2 ^ 26 := Nat.mod_lt _ (by decide)
  generalize by4 b (26 * i / 8) / 2 ^ (26 * i % 8) % 2 ^ 26 = n at *; omega
theorem tF_sg (b : Nat → Nat) (hb : ∀ j, j < 17 → b j < 256) : ∀ n, n ≤ 5 → sg twt (tF b) n = ((bN b 17 % 2 ^ (26 * n) : Nat) : Int)
  | 0, _ => by
    show (0 : Int) = _
    rw [show 26 * 0 = 0 from rfl, Nat.pow_zero, Nat.mod_one]; rfl
  | n + 1, hn => by
    simp only [sg]
    rw [tF_sg b hb n (by omega), show 26 * (n + 1) = 26 * n + 26 by omega, Nat.pow_add, Nat.mod_mul]
    have h1 := bN_bitsG b 17 hb (k := 26 * n / 8) (r := 26 * n % 8) (w := 26) (by omega) (by
      have : n = 0 ∨ n = 1 ∨ n = 2 ∨ n = 3 ∨ n = 4 := by omega
      rcases this with h | h | h | h | h <;> subst h <;> decide)
    rw [show 8 * (26 * n / 8) + 26 * n % 8 = 26 * n by omega] at h1
    rw [show tF b n = ((by4 b (26 * n / 8) / 2 ^ (26 * n % 8) % 2 ^ 26 : Nat) : Int) from rfl, ← h1, Int.natCast_add, Int.natCast_mul]
    rw [show twt n = ((2 ^ (26 * n) : Nat) : Int) by unfold twt; rw [Nat.pow_mul, Int.natCast_pow]; rfl, Int.mul_comm ((2 ^ (26 * n) : Nat) : Int)]
theorem bN_17 (b : Nat → Nat) (hb : ∀ j, j < 16 → b j < 256) : bN b 17 = bN b 16 + b 16 * 340282366920938463463374607431768211456 ∧ bN b 16 < 340282366920938463463374607431768211456 := by
  have h := bN_lt b 16 hb
  exact ⟨rfl, h⟩
theorem tF_17 (b : Nat → Nat) (hb : ∀ j, j < 16 → b j < 256) (h16 : b 16 ≤ 1) : sg twt (tF b) 5 = ((bN b 16 + b 16 * 340282366920938463463374607431768211456 : Nat) : Int) := by
  rw [tF_sg b (fun j hj => by by_cases e : j = 16; · subst e; omega
                              · exact hb j (by omega)) 5 (Nat.le_refl _)]
  have h := bN_17 b hb
  rw [h.1, Nat.mod_eq_of_lt]
  have h2 := h.2
  rw [show (2 : Nat) ^ (26 * 5) = 1361129467683753853853498429727072845824 from rfl]
  generalize bN b 16 = n at *
  omega
/-! the class's product -/
def tRw (S f : Nat → Int) (i : Nat) (p : Nat → Int) : Nat → Nat → Int
  | 0 => p
  | j + 1 => va_up (tRw S f i p j) ((i + j) % 5) (tRw S f i p j ((i + j) % 5) + (if i + j < 5 then S i * f j else 5 * (S i * f j)))
def tAl (S f : Nat → Int) : Nat → Nat → Int
  | 0 => fun _ => 0
  | i + 1 => tRw S f i (tAl S f i) 5
theorem tRw_sg (S f : Nat → Int) (i : Nat) (hi : i < 5) (p : Nat → Int) : ∀ j, j ≤ 5 → ∃ k, sg twt (tRw S f i p j) 5 = sg twt p 5 + S i * twt i * sg twt f j + k * Q5
  | 0, _ => ⟨0, by simp [tRw, sg]⟩
  | j + 1, hj => by
    obtain ⟨k, hk⟩ := tRw_sg S f i hi p j (by omega)
    rw [show tRw S f i p (j + 1) = va_up (tRw S f i p j) ((i + j) % 5) (tRw S f i p j ((i + j) % 5) + (if i + j < 5 then S i * f j else 5 * (S i * f j))) from rfl, show sg twt f (j + 1) = sg twt f j + f j * twt j from rfl]
    rw [sg_up _ _ _ _ 5 (Nat.mod_lt _ (by decide)), hk]
    by_cases e : i + j < 5
    · rw [if_pos e, Nat.mod_eq_of_lt e, twt_a]
      exact ⟨k, by grind⟩
    · rw [if_neg e, show (i + j) % 5 = i + j - 5 by omega]
      have h : twt i * twt j = twt (i + j - 5) * (Q5 + 5) := by rw [← twt_5, ← twt_a, ← twt_a, show i + j - 5 + 5 = i + j by omega]
      refine ⟨k - S i * f j * twt (i + j - 5), ?_⟩
      have h2 : S i * twt i * (f j * twt j) = S i * f j * (twt (i + j - 5) * (Q5 + 5)) := by rw [← h]; grind
      grind
theorem tAl_sg (S f : Nat → Int) : ∀ i, i ≤ 5 → ∃ k, sg twt (tAl S f i) 5 = sg twt S i * sg twt f 5 + k * Q5
  | 0, _ => ⟨0, by
    simp only [tAl]
    rw [show sg twt S 0 = 0 from rfl, Int.zero_mul, Int.zero_mul]; decide +kernel⟩
  | i + 1, hi => by
    obtain ⟨k, hk⟩ := tAl_sg S f i (by omega)
    obtain ⟨m, hm⟩ := tRw_sg S f i (by omega) (tAl S f i) 5 (Nat.le_refl _)
    rw [show tAl S f (i + 1) = tRw S f i (tAl S f i) 5 from rfl, show sg twt S (i + 1) = sg twt S i + S i * twt i from rfl, hm, hk]
    exact ⟨k + m, by grind⟩
def tB (s : Nat → Int) : Prop := ∀ i, i < 5 → 0 ≤ s i ∧ s i ≤ 67112960
def tFb (f : Nat → Int) : Prop := ∀ i, i < 5 → 0 ≤ f i ∧ f i < 67108864
theorem tPt_b {S f : Nat → Int} (hS : ∀ i, i < 5 → 0 ≤ S i ∧ S i ≤ 134221824) (hf : tFb f) {i j : Nat} (hi : i < 5) (hj : j < 5) : 0 ≤ S i * f j ∧ S i * f j ≤ 9007474133827584 := by
  have h1 := hS i hi; have h2 := hf j hj
  refine ⟨Int.mul_nonneg h1.1 h2.1, ?_⟩
  have := Int.mul_le_mul h1.2 (show f j ≤ 67108864 by omega) h2.1 (by omega)
  omega
theorem tRw_b {S f p : Nat → Int} {c : Int} (hS : ∀ i, i < 5 → 0 ≤ S i ∧ S i ≤ 134221824) (hf : tFb f) {i : Nat} (hi : i < 5) (hp : ∀ k, 0 ≤ p k ∧ p k ≤ c) : ∀ j, j ≤ 5 → ∀ k, 0 ≤ tRw S f i p j k ∧ tRw S f i p j k ≤ c + 45037370669137920 * j
  | 0, _, k => by have := hp k; simp only [tRw]; omega
  | j + 1, hj, k => by
    have ih := tRw_b hS hf hi hp j (by omega)
    have hb := tPt_b hS hf hi (show j < 5 by omega)
    simp only [tRw, va_up]
    have h1 := ih k; have h2 := ih ((i + j) % 5)
    generalize S i * f j = pt at *
    split
    · split <;> omega
    · omega
theorem tAl_b {S f : Nat → Int} (hS : ∀ i, i < 5 → 0 ≤ S i ∧ S i ≤ 134221824) (hf : tFb f) : ∀ i, i ≤ 5 → ∀ k, 0 ≤ tAl S f i k ∧ tAl S f i k ≤ 225186853345689600 * i
  | 0, _, k => by simp [tAl]
  | i + 1, hi, k => by
    have := tRw_b hS hf (show i < 5 by omega) (tAl_b hS hf i (by omega)) 5 (Nat.le_refl _) k
    simp only [tAl]; omega
theorem tAl_b' {S f : Nat → Int} (hS : ∀ i, i < 5 → 0 ≤ S i ∧ S i ≤ 134221824) (hf : tFb f) {i : Nat} (hi : i ≤ 5) (k : Nat) : 0 ≤ tAl S f i k ∧ tAl S f i k ≤ 1125934266728448000 := by
  have := tAl_b hS hf i hi k; omega
theorem tRw_b' {S f : Nat → Int} (hS : ∀ i, i < 5 → 0 ≤ S i ∧ S i ≤ 134221824) (hf : tFb f) {i : Nat} (hi : i < 5) {j : Nat} (hj : j ≤ 5) (k : Nat) : 0 ≤ tRw S f i (tAl S f i) j k ∧ tRw S f i (tAl S f i) j k ≤ 1125934266728448000 := by
  have := tRw_b hS hf hi (tAl_b hS hf i (by omega)) j hj k; omega
/-! the class's carry -/
def tOv (p : Nat → Int) : Nat → Int
  | 0 => 0
  | i + 1 => (p i + tOv p i) / 67108864
def tG (p : Nat → Int) (i : Nat) : Int := (p i + tOv p i) % 67108864
def tCar (p : Nat → Int) (i : Nat) : Int :=
  if i = 0 then (tG p 0 + 5 * tOv p 5) % 67108864 else if i = 1 then tG p 1 + (tG p 0 + 5 * tOv p 5) / 67108864 else tG p i
theorem tOv_b {p : Nat → Int} (hp : ∀ i, i < 5 → 0 ≤ p i ∧ p i ≤ 1125934266728448000) : ∀ i, i ≤ 5 → 0 ≤ tOv p i ∧ tOv p i ≤ 17000000000
  | 0, _ => by simp [tOv]
  | i + 1, hi => by have := tOv_b hp i (by omega); have := hp i (by omega); simp only [tOv]; omega
theorem tcar_s (p : Nat → Int) : ∀ n, sg twt p n = sg twt (tG p) n + tOv p n * twt n
  | 0 => by simp [sg, tOv]
  | n + 1 => by
    simp only [sg]
    rw [tcar_s p n, twt_s]
    have : p n = tG p n + 67108864 * tOv p (n + 1) - tOv p n := by simp only [tG, tOv]; omega
    rw [this]; grind
theorem tCar_sg (p : Nat → Int) : sg twt (tCar p) 5 = sg twt p 5 - tOv p 5 * Q5 := by
  rw [tcar_s p 5, twt_5]
  have h0 : twt 0 = 1 := by decide
  have h1 : twt 1 = 67108864 := by decide
  simp only [sg, tCar, h0, h1]
  simp
  have := Int.mul_ediv_add_emod (tG p 0 + 5 * tOv p 5) 67108864
  grind
theorem tG_b (p : Nat → Int) (i : Nat) : 0 ≤ tG p i ∧ tG p i < 67108864 := by unfold tG; omega
theorem tCar_b {p : Nat → Int} (hp : ∀ i, i < 5 → 0 ≤ p i ∧ p i ≤ 1125934266728448000) : tB (tCar p) := by
  intro i hi
  have ho := tOv_b hp 5 (Nat.le_refl _)
  have h0 := tG_b p 0; have h1 := tG_b p 1; have h2 := tG_b p i
  unfold tCar; split
  · omega
  · split <;> omega
/-! blocks -/
def blk (M : Nat → Nat) (k : Nat) : Int := ((bN (fun t => M (16 * k + t)) 16 + 340282366920938463463374607431768211456 : Nat) : Int)
def pol (r v : Int) (M : Nat → Nat) : Nat → Int
  | 0 => v
  | k + 1 => (pol r v M k + blk M k) * r % Q5
theorem blk_cg {M N : Nat → Nat} {k : Nat} (h : ∀ t, t < 16 → M (16 * k + t) = N (16 * k + t)) : blk M k = blk N k := by
  unfold blk; rw [bN_cg 16 h]
theorem pol_cg {M N : Nat → Nat} (r v : Int) : ∀ k, (∀ t, t < 16 * k → M t = N t) → pol r v M k = pol r v N k
  | 0, _ => rfl
  | k + 1, h => by simp only [pol]; rw [pol_cg r v k (fun t ht => h t (by omega)), blk_cg (fun t ht => h _ (by omega))]
theorem pol_app (r v : Int) (M : Nat → Nat) (a : Nat) : ∀ n, pol r v M (a + n) = pol r (pol r v M a) (fun t => M (16 * a + t)) n
  | 0 => rfl
  | n + 1 => by
    rw [← Nat.add_assoc]; simp only [pol]; rw [pol_app r v M a n]
    unfold blk; simp only [show ∀ t, 16 * (a + n) + t = 16 * a + (16 * n + t) from fun t => by omega]
/-- a block of the class -/
theorem tBlock {s F f : Nat → Int} {b : Nat → Nat} {v : Int} (hv : sg twt s 5 % Q5 = v) (hF : ∀ i, i < 5 → F i = s i + tF b i) (hb : ∀ j, j < 16 → b j < 256) (h16 : b 16 = 1) :
    sg twt (tCar (tAl F f 5)) 5 % Q5 = (v + blk b 0) * sg twt f 5 % Q5 := by
  rw [tCar_sg]
  obtain ⟨k, hk⟩ := tAl_sg F f 5 (Nat.le_refl _)
  have h1 : sg twt F 5 = sg twt s 5 + blk b 0 := by
    rw [sg_cg (g := fun i => s i + tF b i) 5 hF, sg_add, tF_17 b hb (by omega), h16]
    unfold blk; simp only [Nat.mul_zero, Nat.zero_add, Nat.one_mul]
  rw [mod_q (b := (sg twt s 5 + blk b 0) * sg twt f 5) (k := k - tOv (tAl F f 5) 5) (by rw [hk, h1]; grind)]
  rw [← hv, Int.mul_emod (sg twt s 5 % Q5 + blk b 0), Int.emod_add_emod, ← Int.mul_emod]
/-! the class's end -/
def tQ (s : Nat → Int) : Nat → Int
  | 0 => 5
  | i + 1 => (s i + tQ s i) / 67108864
def tO2 (s : Nat → Int) : Nat → Int
  | 0 => 5 * tQ s 5
  | i + 1 => (s i + tO2 s i) / 67108864
def tE (s : Nat → Int) (i : Nat) : Nat := ((s i + tO2 s i) % 67108864).toNat
def tP (s : Nat → Int) : Nat → Nat
  | 0 => 0
  | n + 1 => tP s n + tE s n * 2 ^ (26 * n)
theorem tchain (f c : Nat → Int) (h : ∀ i, c (i + 1) = (f i + c i) / 67108864) : ∀ n, sg twt f n + c 0 = sg twt (fun i => (f i + c i) % 67108864) n + c n * twt n ∧ 0 ≤ sg twt (fun i => (f i + c i) % 67108864) n ∧ sg twt (fun i => (f i + c i) % 67108864) n < twt n
  | 0 => by simp [sg, twt]
  | n + 1 => by
    obtain ⟨h1, h2, h3⟩ := tchain f c h n
    have hp := twt_pos n
    simp only [sg]
    rw [twt_s, h n]
    have e := Int.mul_ediv_add_emod (f n + c n) 67108864
    have g0 := Int.emod_nonneg (f n + c n) (show (67108864 : Int) ≠ 0 by decide)
    have g1 := Int.emod_lt_of_pos (f n + c n) (show (0 : Int) < 67108864 by decide)
    generalize (f n + c n) / 67108864 = q at *
    generalize (f n + c n) % 67108864 = m at *
    generalize sg twt (fun i => (f i + c i) % 67108864) n = X at *
    have e2 : f n = 67108864 * q + m - c n := by omega
    refine ⟨by rw [e2]; grind, ?_, ?_⟩
    · have := Int.mul_nonneg g0 (Int.le_of_lt hp); omega
    · have h5 : (m + 1) * twt n ≤ 67108864 * twt n := Int.mul_le_mul_of_nonneg_right (by omega) (by omega)
      rw [Int.add_mul] at h5; omega
theorem tP_sg (s : Nat → Int) : ∀ n, (tP s n : Int) = sg twt (fun i => (s i + tO2 s i) % 67108864) n
  | 0 => rfl
  | n + 1 => by
    simp only [tP, sg]
    rw [Int.natCast_add, tP_sg s n, Int.natCast_mul, show ((2 ^ (26 * n) : Nat) : Int) = twt n by unfold twt; rw [Nat.pow_mul, Int.natCast_pow]; rfl]
    rw [show ((tE s n : Nat) : Int) = (s n + tO2 s n) % 67108864 by unfold tE; omega]
theorem tB_sg {s : Nat → Int} (h : tB s) : 0 ≤ sg twt s 5 ∧ sg twt s 5 ≤ 1361212564717138257036416873496066396160 := by
  have h0 := h 0 (by decide); have h1 := h 1 (by decide); have h2 := h 2 (by decide); have h3 := h 3 (by decide); have h4 := h 4 (by decide)
  simp only [sg, show twt 0 = 1 by decide +kernel, show twt 1 = 67108864 by decide +kernel, show twt 2 = 4503599627370496 by decide +kernel, show twt 3 = 302231454903657293676544 by decide +kernel, show twt 4 = 20282409603651670423947251286016 by decide +kernel]
  omega
theorem tP_v {s : Nat → Int} (h : tB s) : (tP s 5 : Int) = sg twt s 5 % Q5 := by
  have hb := tB_sg h
  obtain ⟨a1, a2, a3⟩ := tchain s (tQ s) (fun i => rfl) 5
  obtain ⟨b1, b2, b3⟩ := tchain s (tO2 s) (fun i => rfl) 5
  rw [tP_sg]
  rw [show tO2 s 0 = 5 * tQ s 5 from rfl] at b1
  rw [show tQ s 0 = 5 from rfl] at a1
  rw [show twt 5 = 1361129467683753853853498429727072845824 by decide +kernel] at *
  generalize sg twt (fun i => (s i + tO2 s i) % 67108864) 5 = X at *
  generalize sg twt (fun i => (s i + tQ s i) % 67108864) 5 = Y at *
  generalize sg twt s 5 = V at *
  generalize tQ s 5 = q at *
  generalize tO2 s 5 = o at *
  unfold Q5
  have hq : q = 0 ∨ q = 1 := by omega
  have ho : o = 0 ∨ o = 1 := by omega
  by_cases hV : V < 1361129467683753853853498429727072845819
  · rw [Int.emod_eq_of_lt hb.1 hV]; rcases hq with e | e <;> rcases ho with e2 | e2 <;> subst e <;> subst e2 <;> omega
  · rw [← Int.sub_emod_right, Int.emod_eq_of_lt (by omega) (by omega)]; rcases hq with e | e <;> rcases ho with e2 | e2 <;> subst e <;> subst e2 <;> omega
theorem tP_s (s : Nat → Int) (n : Nat) : tE s n < 67108864 ∧ tP s n < 2 ^ (26 * n) := by
  have hE : ∀ n, tE s n < 67108864 := fun n => by unfold tE; omega
  refine ⟨hE n, ?_⟩
  induction n with
  | zero => simp [tP]
  | succ n ih =>
    have h1 := hE n
    have h2 : (tE s n + 1) * 2 ^ (26 * n) ≤ 67108864 * 2 ^ (26 * n) := Nat.mul_le_mul_right _ h1
    rw [Nat.add_mul] at h2
    rw [show 26 * (n + 1) = 26 * n + 26 by omega, Nat.pow_add]
    simp only [tP]; omega
/-! bytes carried -/
def cyN (c : Nat) (a : Nat → Nat) : Nat → Nat
  | 0 => c
  | n + 1 => (cyN c a n + a n) / 256
def cyB (c : Nat) (a : Nat → Nat) (i : Nat) : Nat := (cyN c a i + a i) % 256
theorem cyN_v (c : Nat) (a : Nat → Nat) : ∀ n, bN (cyB c a) n + 256 ^ n * cyN c a n = bN a n + c
  | 0 => by simp [bN, cyN]
  | n + 1 => by
    have ih := cyN_v c a n
    simp only [bN, cyN, cyB]
    have e := Nat.div_add_mod (cyN c a n + a n) 256
    rw [Nat.pow_succ]
    generalize (cyN c a n + a n) / 256 = q at *
    generalize (cyN c a n + a n) % 256 = m at *
    have : bN (cyB c a) n + m * 256 ^ n + 256 ^ n * 256 * q = bN (cyB c a) n + 256 ^ n * (256 * q + m) := by grind
    rw [this, e, Nat.mul_add]
    have : 256 ^ n * a n = a n * 256 ^ n := Nat.mul_comm _ _
    omega
theorem cyB_lt (c : Nat) (a : Nat → Nat) (i : Nat) : cyB c a i < 256 := Nat.mod_lt _ (by decide)
theorem cyN_b {c : Nat} {a : Nat → Nat} {B : Nat} (hc : c ≤ B) : ∀ n, (∀ i, i < n → a i ≤ B) → cyN c a n ≤ B
  | 0, _ => hc
  | n + 1, h => by have := cyN_b hc n (fun i hi => h i (by omega)); have := h n (by omega); simp only [cyN]; omega
theorem cyN_cg {c : Nat} {a b : Nat → Nat} : ∀ n, (∀ i, i < n → a i = b i) → cyN c a n = cyN c b n
  | 0, _ => rfl
  | n + 1, h => by simp only [cyN]; rw [cyN_cg n (fun i hi => h i (by omega)), h n (by omega)]
theorem bN_at (b : Nat → Nat) {n j : Nat} (hb : ∀ i, i < n → b i < 256) (hj : j < n) : bN b n / 256 ^ j % 256 = b j := by
  obtain ⟨m, rfl⟩ : ∃ m, n = j + (1 + m) := ⟨n - j - 1, by omega⟩
  rw [bN_div b j (1 + m) (fun i hi => hb i (by omega)), bN_app]
  have h := hb j (by omega)
  simp only [bN, Nat.add_zero, Nat.pow_zero, Nat.mul_one, Nat.zero_add, Nat.pow_one]
  rw [Nat.add_mul_mod_self_left, Nat.mod_eq_of_lt h]
theorem bN_mod (x : Nat) : ∀ n, bN (fun i => x / 2 ^ (8 * i) % 256) n = x % 2 ^ (8 * n)
  | 0 => by simp [bN, Nat.mod_one]
  | n + 1 => by
    simp only [bN]
    rw [bN_mod x n, show 8 * (n + 1) = 8 * n + 8 by omega, Nat.pow_add, Nat.mod_mul, show (256 : Nat) ^ n = 2 ^ (8 * n) by rw [Nat.pow_mul], show (2 : Nat) ^ 8 = 256 from rfl, Nat.mul_comm (2 ^ (8 * n))]
/-- the byte of a sum of two numbers, added byte by byte -/
theorem cyB_at (c : Nat) (a : Nat → Nat) {n j : Nat} (hj : j < n) : cyB c a j = (bN a n + c) / 256 ^ j % 256 := by
  rw [← cyN_v c a n]
  have h1 : bN (cyB c a) n / 256 ^ j % 256 = cyB c a j := bN_at _ (fun i _ => cyB_lt c a i) hj
  obtain ⟨m, rfl⟩ : ∃ m, n = j + (1 + m) := ⟨n - j - 1, by omega⟩
  rw [Nat.pow_add, Nat.pow_add, Nat.mul_assoc, Nat.add_mul_div_left _ _ (Nat.pow_pos (by omega)), Nat.pow_one, Nat.mul_assoc, Nat.add_mul_mod_self_left, h1]
/-- the class's tag -/
def tgV (v : Int) (l : Nat → Nat) (j : Nat) : Nat := byN (v + bN l 16) j
theorem tgV_lt (v : Int) (l : Nat → Nat) (j : Nat) : tgV v l j < 256 := Nat.mod_lt _ (by decide)
theorem tgV_c {x : Nat} {l : Nat → Nat} {j : Nat} (hj : j < 16) : cyB 0 (fun i => x / 2 ^ (8 * i) % 256 + l i) j = tgV x l j := by
  rw [cyB_at 0 _ hj, bN_add, bN_mod, Nat.add_zero]
  unfold tgV byN
  rw [show ((x : Int) + (bN l 16 : Int)).toNat = x + bN l 16 by omega]
  generalize bN l 16 = y
  rw [Nat.pow_mul 2 8 j, show (2 : Nat) ^ 8 = 256 from rfl, show (2 : Nat) ^ (8 * 16) = 256 ^ 16 from rfl]
  have e := Nat.div_add_mod x (256 ^ 16)
  obtain ⟨m, hm⟩ : ∃ m, 16 = j + (1 + m) := ⟨15 - j, by omega⟩
  have : x + y = x % 256 ^ 16 + y + 256 ^ j * (256 * (256 ^ m * (x / 256 ^ 16))) := by
    rw [← Nat.mul_assoc 256 (256 ^ m), show 256 * 256 ^ m = 256 ^ (1 + m) by rw [Nat.pow_add, Nat.pow_one], ← Nat.mul_assoc, ← Nat.pow_add, ← hm]; omega
  rw [this, Nat.add_mul_div_left _ _ (Nat.pow_pos (by omega)), Nat.add_mul_mod_self_left]
/-! the model's numbers: seventeen bytes -/
def QN : Nat := 1361129467683753853853498429727072845819
theorem q1 : ((QN : Nat) : Int) = Q5 := by decide +kernel
theorem bN_sc (c : Nat) (a : Nat → Nat) : ∀ n, bN (fun i => c * a i) n = c * bN a n
  | 0 => rfl
  | n + 1 => by simp only [bN]; rw [bN_sc c a n, Nat.mul_add, Nat.mul_assoc]
def mlG (f : Nat → Nat) (j i : Nat) : Nat := if j ≤ i then f (i - j) else 320 * f (i + 17 - j)
def mlT (s f : Nat → Nat) (i : Nat) : Nat → Nat
  | 0 => 0
  | j + 1 => mlT s f i j + s j * mlG f j i
theorem mlG_v (f : Nat → Nat) {j : Nat} (hj : j < 17) : ∃ x, bN (mlG f j) 17 + x * QN = 256 ^ j * bN f 17 := by
  have e1 : bN (mlG f j) 17 = bN (mlG f j) j + 256 ^ j * bN (fun t => mlG f j (j + t)) (17 - j) := by
    have := bN_app (mlG f j) j (17 - j); rwa [show j + (17 - j) = 17 by omega] at this
  have e2 : bN (mlG f j) j = 320 * bN (fun t => f (17 - j + t)) j := by
    rw [← bN_sc]; exact bN_cg j (fun i hi => by unfold mlG; rw [if_neg (by omega), show i + 17 - j = 17 - j + i by omega])
  have e3 : bN (fun t => mlG f j (j + t)) (17 - j) = bN f (17 - j) := bN_cg _ (fun i hi => by unfold mlG; rw [if_pos (by omega), show j + i - j = i by omega])
  have e4 : bN f 17 = bN f (17 - j) + 256 ^ (17 - j) * bN (fun t => f (17 - j + t)) j := by
    have := bN_app f (17 - j) j; rwa [show 17 - j + j = 17 by omega] at this
  rw [e1, e2, e3, e4]
  refine ⟨64 * bN (fun t => f (17 - j + t)) j, ?_⟩
  rw [Nat.mul_add, ← Nat.mul_assoc (256 ^ j), ← Nat.pow_add, show j + (17 - j) = 17 by omega, show (256 : Nat) ^ 17 = 320 + 64 * QN from rfl]
  generalize bN (fun t => f (17 - j + t)) j = X; generalize 256 ^ j * bN f (17 - j) = Y
  rw [Nat.add_mul, show 64 * X * QN = 64 * QN * X by rw [Nat.mul_assoc, Nat.mul_comm X, Nat.mul_assoc]]
  omega
theorem mlT_v (s f : Nat → Nat) : ∀ j, j ≤ 17 → ∃ x, bN (fun i => mlT s f i j) 17 + x * QN = bN s j * bN f 17
  | 0, _ => ⟨0, by simp only [mlT, bN]; simp⟩
  | j + 1, hj => by
    obtain ⟨x, hx⟩ := mlT_v s f j (by omega)
    obtain ⟨y, hy⟩ := mlG_v f (show j < 17 by omega)
    refine ⟨x + s j * y, ?_⟩
    rw [show bN (fun i => mlT s f i (j + 1)) 17 = bN (fun i => mlT s f i j + s j * mlG f j i) 17 from rfl, bN_add, bN_sc (s j) (mlG f j)]
    rw [show bN s (j + 1) = bN s j + s j * 256 ^ j from rfl, Nat.add_mul, Nat.add_mul, ← hx, Nat.mul_assoc (s j) (256 ^ j), ← hy, Nat.mul_add, Nat.mul_assoc]
    omega
theorem mlG_b {f : Nat → Nat} (hf : ∀ j, j < 17 → f j < 256) {j i : Nat} (hj : j < 17) (hi : i < 17) : mlG f j i ≤ 81600 := by
  unfold mlG; split
  · have := hf (i - j) (by omega); omega
  · have := hf (i + 17 - j) (by omega); omega
theorem mlT_b {s f : Nat → Nat} (hs : ∀ j, j < 17 → s j < 256) (hf : ∀ j, j < 17 → f j < 256) {i : Nat} (hi : i < 17) : ∀ j, j ≤ 17 → mlT s f i j ≤ 20808000 * j
  | 0, _ => Nat.le_refl _
  | j + 1, hj => by
    have ih := mlT_b hs hf hi j (by omega)
    have h1 := hs j (by omega); have h2 := mlG_b hf (show j < 17 by omega) hi
    have := Nat.mul_le_mul (show s j ≤ 255 by omega) h2
    simp only [mlT]; omega
def mlV (s f : Nat → Nat) (i : Nat) : Nat := mlT s f i 17
def mlU (s f : Nat → Nat) : Nat := cyN 0 (mlV s f) 16 + mlV s f 16
def mlF (s f : Nat → Nat) (i : Nat) : Nat := if i < 16 then cyB (5 * (mlU s f / 4)) (cyB 0 (mlV s f)) i else mlU s f % 4 + cyN (5 * (mlU s f / 4)) (cyB 0 (mlV s f)) 16
theorem mlV_b {s f : Nat → Nat} (hs : ∀ j, j < 17 → s j < 256) (hf : ∀ j, j < 17 → f j < 256) {i : Nat} (hi : i < 17) : mlV s f i ≤ 353736000 := mlT_b hs hf hi 17 (Nat.le_refl _)
theorem mlc_b {s f : Nat → Nat} (hs : ∀ j, j < 17 → s j < 256) (hf : ∀ j, j < 17 → f j < 256) {i : Nat} (hi : i ≤ 16) : cyN 0 (mlV s f) i ≤ 353736000 := cyN_b (by omega) i (fun k hk => mlV_b hs hf (by omega))
theorem mlU_b {s f : Nat → Nat} (hs : ∀ j, j < 17 → s j < 256) (hf : ∀ j, j < 17 → f j < 256) : mlU s f ≤ 707472000 := by
  have h1 := mlc_b hs hf (Nat.le_refl 16); have h2 := mlV_b hs hf (show 16 < 17 by omega); unfold mlU; omega
theorem mlF_v (s f : Nat → Nat) : ∃ x, bN (mlF s f) 17 + x * QN = bN s 17 * bN f 17 := by
  obtain ⟨x, hx⟩ := mlT_v s f 17 (Nat.le_refl _)
  have h1 := cyN_v 0 (mlV s f) 16
  have h2 := cyN_v (5 * (mlU s f / 4)) (cyB 0 (mlV s f)) 16
  have h3 : bN (mlF s f) 17 = bN (cyB (5 * (mlU s f / 4)) (cyB 0 (mlV s f))) 16 + (mlU s f % 4 + cyN (5 * (mlU s f / 4)) (cyB 0 (mlV s f)) 16) * 256 ^ 16 := by
    show bN (mlF s f) 16 + mlF s f 16 * 256 ^ 16 = _
    rw [bN_cg (a := mlF s f) (b := cyB (5 * (mlU s f / 4)) (cyB 0 (mlV s f))) 16 (fun i hi => by unfold mlF; rw [if_pos hi])]; rfl
  have h4 : bN (fun i => mlT s f i 17) 17 = bN (mlV s f) 16 + mlV s f 16 * 256 ^ 16 := rfl
  have h5 : mlU s f = cyN 0 (mlV s f) 16 + mlV s f 16 := rfl
  have h6 := Nat.div_add_mod (mlU s f) 4
  refine ⟨x + mlU s f / 4, ?_⟩
  rw [← hx, h4, h3]
  generalize mlU s f / 4 = q at *
  generalize mlU s f % 4 = m at *
  generalize mlU s f = u at *
  generalize cyN 0 (mlV s f) 16 = c1 at *
  generalize cyN (5 * q) (cyB 0 (mlV s f)) 16 = c2 at *
  generalize bN (cyB (5 * q) (cyB 0 (mlV s f))) 16 = b2 at *
  generalize bN (cyB 0 (mlV s f)) 16 = b1 at *
  generalize bN (mlV s f) 16 = bv at *
  generalize mlV s f 16 = v16 at *
  rw [Nat.add_mul x]
  generalize x * QN = xq
  rw [show (256 : Nat) ^ 16 = 340282366920938463463374607431768211456 from rfl] at *
  unfold QN
  omega
theorem mlF_b (s f : Nat → Nat) (hs : ∀ j, j < 17 → s j < 256) (hf : ∀ j, j < 17 → f j < 256) : (∀ j, j < 17 → mlF s f j < 256) ∧ mlF s f 16 ≤ 4 := by
  have hU := mlU_b hs hf
  have h2 := cyN_v (5 * (mlU s f / 4)) (cyB 0 (mlV s f)) 16
  have hb := bN_lt (cyB 0 (mlV s f)) 16 (fun j _ => cyB_lt _ _ j)
  have h16 : mlF s f 16 ≤ 4 := by
    show mlU s f % 4 + cyN (5 * (mlU s f / 4)) (cyB 0 (mlV s f)) 16 ≤ 4
    rw [show (256 : Nat) ^ 16 = 340282366920938463463374607431768211456 from rfl] at *
    generalize mlU s f = u at *
    generalize cyN (5 * (u / 4)) (cyB 0 (mlV s f)) 16 = c2 at *
    generalize bN (cyB (5 * (u / 4)) (cyB 0 (mlV s f))) 16 = b2 at *
    generalize bN (cyB 0 (mlV s f)) 16 = b1 at *
    omega
  refine ⟨fun j hj => ?_, h16⟩
  by_cases e : j < 16
  · unfold mlF; rw [if_pos e]; exact cyB_lt _ _ _
  · rw [show j = 16 by omega]; omega
/-- the model's sum: what it says modulo 2^130 - 5 -/
def mS (s : Nat → Nat) (v : Int) : Prop := (∀ j, j < 17 → s j < 256) ∧ s 16 ≤ 4 ∧ ((bN s 17 : Nat) : Int) % Q5 = v
def adF (s p : Nat → Nat) : Nat → Nat := cyB 0 (fun i => s i + p i)
theorem adF_v (s p : Nat → Nat) : bN (adF s p) 17 = (bN s 17 + bN p 17) % 256 ^ 17 := by
  have h := cyN_v 0 (fun i => s i + p i) 17
  have hl := bN_lt (adF s p) 17 (fun j _ => cyB_lt _ _ j)
  rw [bN_add, Nat.add_zero] at h
  unfold adF at *
  rw [← h, Nat.add_mul_mod_self_left, Nat.mod_eq_of_lt hl]
theorem n17 {a : Nat} (h : a < 87112285931760246646623899502532662132736) : a % 256 ^ 17 = a := Nat.mod_eq_of_lt h
theorem bN_16 {s : Nat → Nat} (hs : ∀ j, j < 17 → s j < 256) : bN s 17 = bN s 16 + s 16 * 340282366920938463463374607431768211456 ∧ bN s 16 < 340282366920938463463374607431768211456 := bN_17 s (fun j hj => hs j (by omega))
theorem cast_x {a x S y F : Nat} (h : a + x * QN = (S + y) * F) : (a : Int) = ((S : Int) + (y : Int)) * (F : Int) + (-(x : Int)) * Q5 := by
  have e : ((a + x * QN : Nat) : Int) = (((S + y) * F : Nat) : Int) := by rw [h]
  rw [Int.natCast_add, Int.natCast_mul, Int.natCast_mul, Int.natCast_add, q1] at e
  generalize Q5 = Q at *
  grind
theorem mS_blk {s f b : Nat → Nat} {v : Int} (h : mS s v) (hb : ∀ j, j < 16 → b j < 256) (hf : ∀ j, j < 17 → f j < 256) : mS (mlF (adF s (fun j => if j < 16 then b j else 1)) f) ((v + blk b 0) * (bN f 17 : Nat) % Q5) := by
  have hB := mlF_b (adF s (fun j => if j < 16 then b j else 1)) f (fun j _ => cyB_lt _ _ j) hf
  refine ⟨hB.1, hB.2, ?_⟩
  obtain ⟨x, hx⟩ := mlF_v (adF s (fun j => if j < 16 then b j else 1)) f
  have h1 := bN_16 h.1
  have h2 := bN_17 (fun j => if j < 16 then b j else 1) (fun j hj => by rw [if_pos hj]; exact hb j hj)
  have h3 : bN (fun j => if j < 16 then b j else 1) 16 = bN (fun t => b (16 * 0 + t)) 16 := bN_cg 16 (fun j hj => by rw [if_pos hj]; simp)
  have h4 : bN (adF s (fun j => if j < 16 then b j else 1)) 17 = bN s 17 + (bN (fun t => b (16 * 0 + t)) 16 + 340282366920938463463374607431768211456) := by
    rw [adF_v, h2.1, h3, if_neg (by omega), Nat.one_mul]
    have a1 := h2.2; rw [h3] at a1
    have a2 := h.2.1
    refine n17 ?_
    rw [h1.1]; have a3 := h1.2
    clear h1 h2 hx hB h3
    generalize bN (fun t => b (16 * 0 + t)) 16 = y at *
    generalize bN s 16 = z at *
    generalize s 16 = w at *
    clear h
    omega
  rw [h4] at hx
  have hx2 := cast_x hx
  rw [mod_q hx2, ← h.2.2, show ((bN (fun t => b (16 * 0 + t)) 16 + 340282366920938463463374607431768211456 : Nat) : Int) = blk b 0 from rfl, Int.mul_emod ((bN s 17 : Nat) % Q5 + blk b 0), Int.emod_add_emod, ← Int.mul_emod]
/-- taking off 2^130 - 5 -/
def p252 (j : Nat) : Nat := if j = 0 then 5 else if j = 16 then 252 else 0
def mEnd (s : Nat → Nat) : Nat → Nat := if adF s p252 16 < 128 then adF s p252 else s
theorem mEnd_v {s : Nat → Nat} {v : Int} (h : mS s v) : ((bN (mEnd s) 17 : Nat) : Int) = v ∧ ∀ j, j < 17 → mEnd s j < 256 := by
  have h1 := bN_16 h.1
  have ha : ∀ j, j < 17 → adF s p252 j < 256 := fun j _ => cyB_lt _ _ j
  have h2 := bN_16 ha
  have h3 := adF_v s p252
  rw [show bN p252 17 = 85751156464076492792770401072805589286917 from rfl] at h3
  have h16 := h.2.1
  have hv := h.2.2
  have h5 := ha 16 (by omega)
  unfold mEnd
  by_cases c : adF s p252 16 < 128
  · rw [if_pos c]
    refine ⟨?_, ha⟩
    rw [← hv]
    unfold Q5
    generalize bN (adF s p252) 17 = X at *
    generalize bN (adF s p252) 16 = Y at *
    generalize adF s p252 16 = w at *
    generalize bN s 17 = S at *
    generalize bN s 16 = Z at *
    generalize s 16 = t at *
    rw [← Int.sub_emod_right, Int.emod_eq_of_lt (by omega) (by omega)]
    omega
  · rw [if_neg c]
    refine ⟨?_, h.1⟩
    rw [← hv]
    unfold Q5
    generalize bN (adF s p252) 17 = X at *
    generalize bN (adF s p252) 16 = Y at *
    generalize adF s p252 16 = w at *
    generalize bN s 17 = S at *
    generalize bN s 16 = Z at *
    generalize s 16 = t at *
    rw [Int.emod_eq_of_lt (by omega) (by omega)]
theorem mTag {s l : Nat → Nat} {v : Int} {j : Nat} (h : ((bN s 17 : Nat) : Int) = v) (hj : j < 16) : adF s (fun i => if i < 16 then l i else 0) j = tgV v l j := by
  unfold adF
  rw [cyB_at 0 _ (show j < 17 by omega), bN_add, Nat.add_zero]
  have : bN (fun i => if i < 16 then l i else 0) 17 = bN l 16 := by
    show bN _ 16 + _ = _
    rw [bN_cg (a := fun i => if i < 16 then l i else 0) (b := l) 16 (fun i hi => by rw [if_pos hi]), show (fun i => if i < 16 then l i else 0) 16 = 0 from rfl, Nat.zero_mul, Nat.add_zero]
  rw [this]
  unfold tgV byN
  rw [← h, show (((bN s 17 : Nat) : Int) + ((bN l 16 : Nat) : Int)).toNat = bN s 17 + bN l 16 by omega, Nat.pow_mul 2 8 j]
