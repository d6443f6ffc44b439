/-! The spec of opening: pure; and a row made empty. -/
theorem c_RW_clear (l : Launch) (D : va_G) (cI cC cJ : ClassId) (r it cap n : Nat) (f : Nat → Int32) (hn : n ≤ cap) (hcap : cap < 2 ^ 31) (hne : r ≠ it) :
    Met l y_RW_shorten (zw k_RW_shorten) ({ frames := 0, cells := 0, slots := 0, locals := 0 }) (zPc [.ref r, .int (nI 0)] (fun H => va_P D zcl (zRw cI r it cap n f) H) D cI cC cJ) (zQm (some (.int (nI (if n = 0 then 0 else 1)))) (fun H => va_P D zcl (zRw cI r it cap 0 f) H) (zA2 r it)) 0 0 (zA2 r it) := by
  by_cases e : n = 0
  · subst e
    exact c_RW_shorten_no l D cI cC cJ r it cap 0 f hn hcap hne (nI 0) (Or.inr (Int32.le_refl _))
  · rw [if_neg e]
    exact c_RW_shorten l D cI cC cJ r it cap n f hn hcap hne 0 (by omega)
/-- the first entry of this key from the i-th on, n of them left -/
def zs_ent (B : Nat → Nat) (s ad : Nat) : Nat → Nat → Int32
  | _, 0 => -1
  | i, n + 1 => if zs_two B (2 + 8 * i + 6) = zs_sg B (2 + 8 * i) (2 + 8 * i + 6) (zs_word (nI (zs_z B (2 + 8 * i) s)) (nI ad) (nI 2)) then nI (2 + 8 * i) else zs_ent B s ad (i + 1) n
/-- bytes uncovered into a message of at most 40 -/
def zs_unc (B : Nat → Nat) (f : Int32) (k a : Nat) (F : zs_F) : Nat → zs_F
  | 0 => F
  | j + 1 => if (zs_unc B f k a F j).1 < 40 then zs_push (zs_unc B f k a F j) (zs_cv (B (a + j)) f k j) else zs_unc B f k a F j
theorem zs_unc_le (B : Nat → Nat) (f : Int32) (k a : Nat) {F : zs_F} (h : F.1 ≤ 40) (j : Nat) : (zs_unc B f k a F j).1 ≤ 40 := by
  induction j with
  | zero => exact h
  | succ j ih =>
    rw [zs_unc]
    split
    · rename_i h1; show (zs_unc B f k a F j).1 + 1 ≤ 40; omega
    · exact ih
/-- the pieces from the k-th on, m of them left: the answer, how many were right, the message -/
def zs_tl (n ps k : Nat) : Nat := if n ≤ ps + 10 * k + 10 then 1 else 0
def zs_te (n ps k : Nat) : Nat := if n ≤ ps + 10 * k + 10 then n - 2 else ps + 10 * k + 8
def zs_take (B : Nat → Nat) (n : Nat) (f : Int32) (ps : Nat) : Nat → Nat → zs_F → Int32 × Nat × zs_F
  | 0, k, F => (nI F.1, k, F)
  | m + 1, k, F =>
    if n < ps + 10 * k + 2 then (-4, k, F)
    else if zs_two B (zs_te n ps k) = zs_sg B (ps + 10 * k) (zs_te n ps k) (zs_word f (nI k) (zs_use (zs_tl n ps k))) then
      zs_take B n f ps m (k + 1) (zs_unc B f k (ps + 10 * k) F (zs_te n ps k - (ps + 10 * k)))
    else (if zs_two B (zs_te n ps k) = zs_sg B (ps + 10 * k) (zs_te n ps k) (zs_word f (nI k) (zs_use (1 - zs_tl n ps k))) then -5 else -4, k, F)
/-- the number of bytes that a draft of n characters makes -/
theorem zs_db {n : Nat} (h : n < 2 ^ 20) : nI n * nI 6 / nI 8 = nI (n * 6 / 8) := by
  rw [pk_mul, pk_div (by omega) (by decide) (by decide)]
