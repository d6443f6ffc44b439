/-! The spec of the files: pure. -/
theorem zs_or (a b : Nat) : nI a ||| nI b = nI (a ||| b) := by
  apply Int32.toBitVec_inj.1
  show BitVec.ofNat 32 a ||| BitVec.ofNat 32 b = BitVec.ofNat 32 (a ||| b)
  exact BitVec.ofNat_or.symm
theorem zs_xor (a b : Nat) : nI a ^^^ nI b = nI (a ^^^ b) := by
  apply Int32.toBitVec_inj.1
  show BitVec.ofNat 32 a ^^^ BitVec.ofNat 32 b = BitVec.ofNat 32 (a ^^^ b)
  exact BitVec.ofNat_xor.symm
theorem zs_cat {a b k : Nat} (hk : k < 32) (hb : b < 2 ^ k) (h : a * 2 ^ k < 2 ^ 32) : (nI a <<< (nI k &&& 31)) ||| nI b = nI (a * 2 ^ k + b) := by
  rw [pk_shlN (nI k &&& 31) k (zs_sm k hk) h, zs_or, Nat.mul_comm, ← Nat.two_pow_add_eq_or_of_lt hb]
theorem zs_has_out {n j : Nat} (hj : n ≤ j) (h : j < 2 ^ 31) : zs_has n (nI j) = nI 0 := by
  rw [zs_has, if_neg (nI_pos h), if_pos (nI_le hj h)]
theorem zs_item_out {n j : Nat} {f : Nat → Int32} (hj : n ≤ j) (h : j < 2 ^ 31) : zs_item n f (nI j) = -1 := by
  rw [zs_item, zs_has_out hj h, if_pos (by decide)]
/-- two bytes as a number -/
def zs_two (B : Nat → Nat) (i : Nat) : Nat := B i * 256 + B (i + 1)
theorem zs_two_lt {B : Nat → Nat} {i : Nat} (h0 : B i < 256) (h1 : B (i + 1) < 256) : zs_two B i < 65536 := by
  unfold zs_two; omega
theorem zs_pair_in {n j : Nat} {f : Nat → Int32} {B : Nat → Nat} (hB : zs_hold 256 f (n, B)) (hj : j + 1 < n) (hn : n < 2 ^ 31) : (zs_item n f (nI j) <<< (nI 8 &&& 31)) ||| zs_item n f (nI j + nI 1) = nI (zs_two B j) := by
  obtain ⟨a1, a2⟩ := hB j (show j < n by omega)
  obtain ⟨b1, b2⟩ := hB (j + 1) (show j + 1 < n by omega)
  dsimp only at a1 a2 b1 b2
  rw [nI_add, zs_item_in (by omega) hn, zs_item_in hj hn, a1, b1]
  exact zs_cat (by decide) (by omega) (by omega)
/-- the exponent of an entry -/
def zs_e (f seed : Int32) (k : Nat) : Nat := 2 + zs_un (zs_word f seed (nI k)) / 2 ^ 1 % 32746
theorem zs_e_lt (f seed : Int32) (k : Nat) : zs_e f seed k < 32748 := by
  unfold zs_e
  have := Nat.mod_lt (zs_un (zs_word f seed (nI k)) / 2 ^ 1) (show 32746 > 0 by decide)
  omega
theorem zs_e_i (w : Int32) : nI 2 + (zs_u w (nI 1) - zs_u w (nI 1) / nI 32746 * nI 32746) = nI (2 + zs_un w / 2 ^ 1 % 32746) := by
  have h := zs_un_lt w
  rw [zs_u_un w (by decide), pk_rem (by omega) (by decide) (by decide), nI_add]
/-- a covered byte -/
def zs_cv (b : Nat) (f : Int32) (k j : Nat) : Nat := b ^^^ (zs_un (zs_word f (nI (16 * k + j)) (nI 4)) % 2 ^ 8)
theorem zs_cv_lt {b : Nat} (h : b < 256) (f : Int32) (k j : Nat) : zs_cv b f k j < 256 := Nat.xor_lt_two_pow (n := 8) h (Nat.mod_lt _ (by decide))
theorem zs_cv_i (b : Nat) (w : Int32) : nI b ^^^ (w &&& nI 255) = nI (b ^^^ (zs_un w % 2 ^ 8)) := by
  rw [show w &&& nI 255 = nI (zs_un w % 2 ^ 8) from zs_and w 8 (by decide), zs_xor]
/-- the third number of a piece's word -/
def zs_use (t : Nat) : Int32 := if t = 0 then nI 5 else nI 6
/-- is it a file -/
def zs_sh (n : Nat) (B : Nat → Nat) : Nat := if 2 ≤ n ∧ B 0 = 83 ∧ 1 ≤ B 1 ∧ B 1 ≤ 3 ∧ 6 + B 1 * 8 ≤ n then 1 else 0
/-- what is wrapped in the entry at a for a key with the secret s and the address ad -/
def zs_z (B : Nat → Nat) (a s : Nat) : Nat := zs_pw (zs_two B a) s
def zs_un_w (B : Nat → Nat) (a s ad : Nat) : Int32 := ((nI (zs_two B (a + 2)) <<< (nI 16 &&& 31)) ||| nI (zs_two B (a + 4))) ^^^ zs_word (nI (zs_z B a s)) (nI ad) (nI 1)
/-- is the entry at a this key's -/
def zs_own (B : Nat → Nat) (a s ad : Nat) : Prop := zs_two B (a + 6) = zs_sg B a (a + 6) (zs_word (nI (zs_z B a s)) (nI ad) (nI 2))
def zs_pair (F : zs_F) (v : Nat) : zs_F := zs_push (zs_push F (v / 256)) (v % 256)
theorem zs_hold_pair {f : Nat → Int32} {F : zs_F} {v : Nat} (h : zs_hold 256 f F) (hv : v < 65536) : zs_hold 256 (upd (upd f F.1 (nI (v / 256))) (F.1 + 1) (nI (v % 256))) (zs_pair F v) := by
  have h1 := zs_hold_push h (show v / 256 < 256 by omega)
  exact zs_hold_push h1 (show v % 256 < 256 by omega)
/-- a row's pair of bytes, the number below 65536 -/
theorem c_RW_pairN (l : Launch) (D : va_G) (cI cC cJ : ClassId) (r it cap n : Nat) (f : Nat → Int32) (hn : n ≤ cap) (hcap : cap < 2 ^ 31) (hne : r ≠ it) (v : Nat) (hv : v < 65536) (h : n + 2 ≤ cap) :
    Met l y_RW_appendPair (zw k_RW_appendPair) ({ frames := 1, cells := 0, slots := 0, locals := 21 }) (zPc [.ref r, .int (nI v)] (fun H => va_P D zcl (zRw cI r it cap n f) H) D cI cC cJ) (zQm none (fun H => va_P D zcl (zRw cI r it cap (n + 2) (upd (upd f n (nI (v / 256))) (n + 1) (nI (v % 256)))) H) (zA2 r it)) 0 0 (zA2 r it) := by
  have h1 := c_RW_appendPair l D cI cC cJ r it cap n f hn hcap hne (nI v) h
  rw [zs_u_nI (by omega) (by decide), show nI v &&& nI 255 = nI (v % 256) from pk_andN (by omega) 8 (by decide)] at h1
  exact h1
/-- an entry for a receiver -/
def zs_wrap (f : Int32) (z ad : Nat) : Int32 := f ^^^ zs_word (nI z) (nI ad) (nI 1)
def zs_ent3 (F : zs_F) (ad : Nat) (f : Int32) (e : Nat) : zs_F := zs_pair (zs_pair (zs_pair F (zs_pw 2 e)) (zs_un (zs_wrap f (zs_pw ad e) ad) / 2 ^ 16)) (zs_un (zs_wrap f (zs_pw ad e) ad) % 2 ^ 16)
def zs_entry (F : zs_F) (ad : Nat) (f : Int32) (e : Nat) : zs_F := zs_pair (zs_ent3 F ad f e) (zs_sg (zs_ent3 F ad f e).2 F.1 (F.1 + 6) (zs_word (nI (zs_pw ad e)) (nI ad) (nI 2)))
/-- a piece: its bytes covered, then its sign -/
def zs_cvs (M : Nat → Nat) (f : Int32) (k : Nat) (F : zs_F) : Nat → zs_F
  | 0 => F
  | j + 1 => zs_push (zs_cvs M f k F j) (zs_cv (M (8 * k + j)) f k j)
theorem zs_cvs_n (M : Nat → Nat) (f : Int32) (k : Nat) (F : zs_F) (j : Nat) : (zs_cvs M f k F j).1 = F.1 + j := by
  induction j with
  | zero => rfl
  | succ j ih => show (zs_cvs M f k F j).1 + 1 = _; rw [ih]; rfl
def zs_piece (M : Nat → Nat) (f : Int32) (k n t : Nat) (F : zs_F) : zs_F := zs_pair (zs_cvs M f k F n) (zs_sg (zs_cvs M f k F n).2 F.1 (F.1 + n) (zs_word f (nI k) (zs_use t)))
theorem zs_piece_n (M : Nat → Nat) (f : Int32) (k n t : Nat) (F : zs_F) : (zs_piece M f k n t F).1 = F.1 + n + 2 := by
  show (zs_cvs M f k F n).1 + 1 + 1 = _; rw [zs_cvs_n]
/-- the pieces of a message of N bytes, k of them done, the last one is L -/
def zs_pcs (N : Nat) (M : Nat → Nat) (f : Int32) (L : Nat) (F : zs_F) : Nat → zs_F
  | 0 => F
  | k + 1 => zs_piece M f k (min (N - 8 * k) 8) (if k = L then 1 else 0) (zs_pcs N M f L F k)
theorem zs_pcs_le (N : Nat) (M : Nat → Nat) (f : Int32) (L : Nat) (F : zs_F) (k : Nat) : (zs_pcs N M f L F k).1 ≤ F.1 + 10 * k := by
  induction k with
  | zero => exact Nat.le_refl _
  | succ k ih =>
    show (zs_piece M f k (min (N - 8 * k) 8) (if k = L then 1 else 0) (zs_pcs N M f L F k)).1 ≤ _
    rw [zs_piece_n]
    have := Nat.min_le_right (N - 8 * k) 8
    omega
