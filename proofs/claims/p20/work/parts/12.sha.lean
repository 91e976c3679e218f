/-! ===== SHA-256, as a mathematical function of Int32 ===== -/
def kShaL : List Int32 := [1116352408, 1899447441, (-1245643825), (-373957723), 961987163, 1508970993, (-1841331548), (-1424204075), (-670586216), 310598401, 607225278, 1426881987, 1925078388, (-2132889090), (-1680079193), (-1046744716), (-459576895), (-272742522), 264347078, 604807628, 770255983, 1249150122, 1555081692, 1996064986, (-1740746414), (-1473132947), (-1341970488), (-1084653625), (-958395405), (-710438585), 113926993, 338241895, 666307205, 773529912, 1294757372, 1396182291, 1695183700, 1986661051, (-2117940946), (-1838011259), (-1564481375), (-1474664885), (-1035236496), (-949202525), (-778901479), (-694614492), (-200395387), 275423344, 430227734, 506948616, 659060556, 883997877, 958139571, 1322822218, 1537002063, 1747873779, 1955562222, 2024104815, (-2067236844), (-1933114872), (-1866530822), (-1538233109), (-1090935817), (-965641998)]
def kSha (t : Nat) : Int32 := kShaL.getD t 0
def fShaL : List Int32 := [1779033703, (-1150833019), 1013904242, (-1521486534), 1359893119, (-1694144372), 528734635, 1541459225]
def fSha (t : Nat) : Int32 := fShaL.getD t 0
def rot (x : Int32) (n : Nat) : Int32 := iusr x (nI n) ||| isl x (nI (32 - n))
def slo (x : Int32) : Int32 := rot x 7 ^^^ rot x 18 ^^^ iusr x (nI 3)
def shi (x : Int32) : Int32 := rot x 17 ^^^ rot x 19 ^^^ iusr x (nI 10)
def sW (w : Nat → Int32) : Nat → Nat → Int32
  | 0 => w
  | n + 1 => upd (sW w n) (16 + n) (sW w n n + slo (sW w n (n + 1)) + sW w n (n + 9) + shi (sW w n (n + 14)))
abbrev sT : Type := Int32 × Int32 × Int32 × Int32 × Int32 × Int32 × Int32 × Int32
def sOne (k w : Int32) : sT → Int32
  | (_, _, _, _, e, f, g, h) => h + (rot e 6 ^^^ rot e 11 ^^^ rot e 25) + (e &&& f ^^^ (e ^^^ (-1)) &&& g) + k + w
def sTwo : sT → Int32
  | (a, b, c, _, _, _, _, _) => (rot a 2 ^^^ rot a 13 ^^^ rot a 22) + (a &&& b ^^^ a &&& c ^^^ b &&& c)
def sStep (k w : Int32) (s : sT) : sT := match s with
  | (a, b, c, d, e, f, g, h) => (sOne k w s + sTwo s, a, b, c, d + sOne k w s, e, f, g)
def sR (w : Nat → Int32) (s : sT) : Nat → sT
  | 0 => s
  | n + 1 => sStep (kSha n) (w n) (sR w s n)
def sI (f : Nat → Int32) : sT := (f 0, f 1, f 2, f 3, f 4, f 5, f 6, f 7)
def sAdd (f : Nat → Int32) (s : sT) : Nat → Int32 := match s with
  | (a, b, c, d, e, g, h, i) => upd (upd (upd (upd (upd (upd (upd (upd f 0 (f 0 + a)) 1 (f 1 + b)) 2 (f 2 + c)) 3 (f 3 + d)) 4 (f 4 + e)) 5 (f 5 + g)) 6 (f 6 + h)) 7 (f 7 + i)
/-- a block: the sums behind it, of the sums before and the sixteen words -/
def shaB (f w : Nat → Int32) : Nat → Int32 := sAdd f (sR (sW w 48) (sI f) 64)
theorem sW_s (w : Nat → Int32) {i : Nat} (h : 16 ≤ i) : upd (sW w (i - 16)) i (sW w (i - 16) (i - 16) + slo (sW w (i - 16) (i - 15)) + sW w (i - 16) (i - 7) + shi (sW w (i - 16) (i - 2))) = sW w (i + 1 - 16) := by
  obtain ⟨n, rfl⟩ : ∃ n, i = 16 + n := ⟨i - 16, by omega⟩
  rw [show 16 + n - 16 = n by omega, show 16 + n - 15 = n + 1 by omega, show 16 + n - 7 = n + 9 by omega, show 16 + n - 2 = n + 14 by omega, show 16 + n + 1 - 16 = n + 1 by omega]
  rfl
theorem up_up {α : Type} (f : Nat → α) (k : Nat) (v w : α) : va_up (va_up f k v) k w = va_up f k w := bx_uu f k v w
theorem up_ne {α : Type} (f : Nat → α) {k j : Nat} (x : α) (h : j ≠ k) : va_up f k x j = f j := va_up_other f x h
theorem up_eq {α : Type} (f : Nat → α) (k : Nat) (x : α) : va_up f k x k = x := va_up_same f k x
