/-! The spec in numbers: powers, words, signs, files as (size, bytes). Pure rows. -/
/-- an Int32 read as an unsigned number -/
def zs_un (x : Int32) : Nat := x.toBitVec.toNat
theorem zs_un_lt (x : Int32) : zs_un x < 2 ^ 32 := x.toBitVec.isLt
theorem zs_un_nI {n : Nat} (h : n < 2 ^ 32) : zs_un (nI n) = n := pk_tn h
theorem zs_nI_un (x : Int32) : nI (zs_un x) = x := by
  have h : (nI (zs_un x)).toBitVec.toNat = x.toBitVec.toNat := pk_tn (zs_un_lt x)
  exact Int32.toBitVec_inj.mp (BitVec.eq_of_toNat_eq h)
/-- the unsigned shift as the machine's row writes it -/
def zs_u (x y : Int32) : Int32 := (x.toUInt32 >>> (y.toUInt32 &&& Int32.toUInt32 31)).toInt32
theorem zs_sl : ∀ l, l < 32 → (((nI l).toUInt32 &&& Int32.toUInt32 31).toBitVec % 32).toNat = l := by decide +kernel
theorem zs_sm : ∀ l, l < 32 → ((nI l &&& 31).toBitVec.smod 32).toNat = l := by decide +kernel
theorem zs_u_nI {n k : Nat} (hn : n < 2 ^ 32) (hk : k < 32) : zs_u (nI n) (nI k) = nI (n / 2 ^ k) := pk_ushrN hn (nI k) k (zs_sl k hk)
theorem zs_u_un (x : Int32) {k : Nat} (hk : k < 32) : zs_u x (nI k) = nI (zs_un x / 2 ^ k) := by
  have h := zs_u_nI (zs_un_lt x) hk
  rwa [zs_nI_un] at h
theorem zs_and (x : Int32) (k : Nat) (hk : k < 31) : x &&& nI (2 ^ k - 1) = nI (zs_un x % 2 ^ k) := by
  refine pk_and x k (pk_tn ?_)
  have : 2 ^ k ≤ 2 ^ 31 := Nat.pow_le_pow_right (by omega) (by omega)
  omega
def zs_m1 (x : Int32) : Int32 := (x ^^^ zs_u x (nI 16)) * nI 2146121005
def zs_m2 (x : Int32) : Int32 := (x ^^^ zs_u x (nI 15)) * nI 2073254073
def zs_mix (x : Int32) : Int32 := zs_m2 (zs_m1 x) ^^^ zs_u (zs_m2 (zs_m1 x)) (nI 16)
def zs_word (a b c : Int32) : Int32 := zs_mix (zs_mix (zs_mix a + b) + c)
/-- b to the e modulo the prime -/
def zs_pw (b e : Nat) : Nat := b ^ e % 32749
theorem zs_pw_lt (b e : Nat) : zs_pw b e < 32749 := Nat.mod_lt _ (by decide)
theorem zs_pw_0 (b : Nat) : zs_pw b 0 = 1 := by unfold zs_pw; rw [Nat.pow_zero]
theorem zs_pw_1 (b : Nat) : zs_pw b (2 ^ 0) = b % 32749 := by unfold zs_pw; rw [Nat.pow_zero, Nat.pow_one]
theorem zs_pw_add (b i j : Nat) : zs_pw b (i + j) = zs_pw b i * zs_pw b j % 32749 := by
  unfold zs_pw; rw [Nat.pow_add, Nat.mul_mod]
theorem zs_pw_sq (b k : Nat) : zs_pw b (2 ^ (k + 1)) = zs_pw b (2 ^ k) * zs_pw b (2 ^ k) % 32749 := by
  rw [Nat.pow_succ, Nat.mul_two, zs_pw_add]
theorem zs_pw_on {b e k : Nat} (h : e / 2 ^ k % 2 = 1) : zs_pw b (e % 2 ^ (k + 1)) = zs_pw b (e % 2 ^ k) * zs_pw b (2 ^ k) % 32749 := by
  rw [Nat.mod_pow_succ, h, Nat.mul_one, zs_pw_add]
theorem zs_pw_off {b e k : Nat} (h : ¬ e / 2 ^ k % 2 = 1) : zs_pw b (e % 2 ^ (k + 1)) = zs_pw b (e % 2 ^ k) := by
  have h0 : e / 2 ^ k % 2 = 0 := by omega
  rw [Nat.mod_pow_succ, h0, Nat.mul_zero, Nat.add_zero]
/-- a product of two remainders fits an int -/
theorem zs_pw_mul {a c : Nat} (ha : a < 32749) (hc : c < 32749) : nI a * nI c - nI a * nI c / nI 32749 * nI 32749 = nI (a * c % 32749) := by
  have h : a * c < 2 ^ 31 := Nat.lt_of_lt_of_le (Nat.mul_lt_mul_of_lt_of_le ha (Nat.le_of_lt hc) (by omega)) (by decide)
  rw [pk_mul, pk_rem h (by decide) (by decide)]
/-- one bit of a number below 2^31 -/
theorem zs_bit {n k : Nat} (hn : n < 2 ^ 31) (hk : k < 32) : (zs_u (nI n) (nI k) &&& 1) = nI (n / 2 ^ k % 2) := by
  rw [zs_u_nI (by omega) hk]
  have h : n / 2 ^ k ≤ n := Nat.div_le_self _ _
  exact pk_andN (m := 1) (by omega) 1 (by decide)
theorem zs_sbit {n k : Nat} (hn : n < 2 ^ 31) (hk : k < 32) : (nI n >>> (nI k &&& 31) &&& 1) = nI (n / 2 ^ k % 2) := by
  rw [pk_shrN hn (nI k &&& 31) k (zs_sm k hk)]
  have h : n / 2 ^ k ≤ n := Nat.div_le_self _ _
  exact pk_andN (m := 1) (by omega) 1 (by decide)
/-- a sign's running number over the bytes from a on -/
def zs_sgt (B : Nat → Nat) (m a : Nat) : Nat → Nat
  | 0 => 0
  | k + 1 => (zs_sgt B m a k + B (a + k) + 1) * m % 65521
def zs_fac (r : Int32) : Nat := 1 + zs_un r / 2 ^ 8 % 65520
/-- SIGN of the bytes a .. b-1 under r -/
def zs_sg (B : Nat → Nat) (a b : Nat) (r : Int32) : Nat := (zs_sgt B (zs_fac r) a (b - a) + zs_un r % 2 ^ 8) % 65521
theorem zs_sgt_lt (B : Nat → Nat) (m a k : Nat) : zs_sgt B m a k < 65521 := by
  cases k with
  | zero => exact (by decide : 0 < 65521)
  | succ k => exact Nat.mod_lt _ (by decide)
theorem zs_sg_lt (B : Nat → Nat) (a b : Nat) (r : Int32) : zs_sg B a b r < 65521 := Nat.mod_lt _ (by decide)
theorem zs_fac_le (r : Int32) : zs_fac r ≤ 65520 := by
  unfold zs_fac
  have := Nat.mod_lt (zs_un r / 2 ^ 8) (show 65520 > 0 by decide)
  omega
theorem zs_sgt_step {B : Nat → Nat} {m a k b : Nat} (hm : m ≤ 65520) (hb : b < 256) (hB : B (a + k) = b) :
    (lN (zs_sgt B m a k) + lN b + 1) * lN m - (lN (zs_sgt B m a k) + lN b + 1) * lN m / lN 65521 * lN 65521 = lN (zs_sgt B m a (k + 1)) := by
  have h1 := zs_sgt_lt B m a k
  have h2 : (zs_sgt B m a k + b + 1) * m ≤ 65777 * 65520 := Nat.mul_le_mul (by omega) hm
  rw [lN_add, lN_1, lN_mul, pk_lRem (by omega) (by decide) (by decide), zs_sgt, hB]
theorem zs_sgt_fin (B : Nat → Nat) (m a k : Nat) {x : Nat} (hx : x < 256) : lN (zs_sgt B m a k) + lN x - (lN (zs_sgt B m a k) + lN x) / lN 65521 * lN 65521 = lN ((zs_sgt B m a k + x) % 65521) := by
  have h1 := zs_sgt_lt B m a k
  rw [lN_add, pk_lRem (by omega) (by decide) (by decide)]
/-- bytes in a row: a size and what stands at each place -/
abbrev zs_F : Type := Nat × (Nat → Nat)
def zs_push (F : zs_F) (x : Nat) : zs_F := (F.1 + 1, fun j => if j = F.1 then x else F.2 j)
def zs_set (F : zs_F) (i x : Nat) : zs_F := (F.1, fun j => if j = i then x else F.2 j)
/-- the array's entries below the size, each below b -/
def zs_hold (b : Nat) (f : Nat → Int32) (F : zs_F) : Prop := ∀ j, j < F.1 → f j = nI (F.2 j) ∧ F.2 j < b
theorem zs_hold_0 {b : Nat} {f : Nat → Int32} {B : Nat → Nat} : zs_hold b f (0, B) := fun _ h => absurd h (Nat.not_lt_zero _)
theorem zs_hold_push {b x : Nat} {f : Nat → Int32} {F : zs_F} (h : zs_hold b f F) (hx : x < b) : zs_hold b (upd f F.1 (nI x)) (zs_push F x) := by
  intro j hj
  by_cases e : j = F.1
  · subst e
    refine ⟨?_, ?_⟩
    · rw [pk_us]; simp [zs_push]
    · simpa [zs_push] using hx
  · have hj' : j < F.1 := by
      have : j < F.1 + 1 := hj
      omega
    obtain ⟨h1, h2⟩ := h j hj'
    refine ⟨?_, ?_⟩
    · rw [pk_un e, h1]; simp [zs_push, e]
    · simpa [zs_push, e] using h2
theorem zs_hold_set {b i x : Nat} {f : Nat → Int32} {F : zs_F} (h : zs_hold b f F) (hx : x < b) : zs_hold b (upd f i (nI x)) (zs_set F i x) := by
  intro j hj
  by_cases e : j = i
  · subst e
    refine ⟨?_, ?_⟩
    · rw [pk_us]; simp [zs_set]
    · simpa [zs_set] using hx
  · obtain ⟨h1, h2⟩ := h j hj
    refine ⟨?_, ?_⟩
    · rw [pk_un e, h1]; simp [zs_set, e]
    · simpa [zs_set, e] using h2
theorem zs_hold_cut {b n : Nat} {f : Nat → Int32} {F : zs_F} (h : zs_hold b f F) (hn : n ≤ F.1) : zs_hold b f (n, F.2) := fun j hj => h j (Nat.lt_of_lt_of_le hj hn)
