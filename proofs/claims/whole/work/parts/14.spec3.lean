/-! Receivers, printed forms: pure. -/
def zs_b1 (x : Int32) : Int32 := x - (zs_u x (nI 1) &&& nI 1431655765)
def zs_b2 (x : Int32) : Int32 := (x &&& nI 858993459) + (zs_u x (nI 2) &&& nI 858993459)
def zs_b3 (x : Int32) : Int32 := (x + zs_u x (nI 4)) &&& nI 252645135
def zs_b4 (x : Int32) : Int32 := x + zs_u x (nI 8)
def zs_b5 (x : Int32) : Int32 := x + zs_u x (nI 16)
def zs_bc (x : Int32) : Int32 := zs_b5 (zs_b4 (zs_b3 (zs_b2 (zs_b1 x)))) &&& nI 63
/-- how many of the lowest four bits are set -/
def zs_pc (w : Nat) : Nat := w % 2 + w / 2 % 2 + w / 4 % 2 + w / 8 % 2
theorem zs_bc_4 : ∀ k, k < 16 → zs_bc (nI k) = nI (zs_pc k) := by decide +kernel
theorem zs_pc_le (w : Nat) : zs_pc w ≤ 4 := by unfold zs_pc; omega
/-- one to three keys that there are -/
def zs_rc (n w : Nat) : Nat := if 1 ≤ zs_pc w ∧ zs_pc w ≤ 3 ∧ w < 2 ^ n then 1 else 0
theorem zs_two4 {n : Nat} (h : n ≤ 4) : 2 ^ n ≤ 16 := Nat.le_trans (Nat.pow_le_pow_right (by decide) h) (by decide)
/-- is the draft a printed form -/
def zs_pf (n : Nat) (E : Nat → Nat) : Nat := if n * 6 % 8 = 0 then 1 else if n * 6 % 8 < 6 ∧ E (n - 1) % 2 ^ (n * 6 % 8) = 0 then 1 else 0
/-- the i-th byte of a draft -/
def zs_ld (E : Nat → Nat) (i : Nat) : Nat := (E (i * 8 / 6) * 64 + E (i * 8 / 6 + 1)) / 2 ^ (4 - i * 8 % 6) % 256
def zs_lds (E : Nat → Nat) : Nat → zs_F
  | 0 => (0, fun _ => 0)
  | i + 1 => zs_push (zs_lds E i) (zs_ld E i)
theorem zs_lds_n (E : Nat → Nat) (i : Nat) : (zs_lds E i).1 = i := by
  induction i with
  | zero => rfl
  | succ i ih => show (zs_lds E i).1 + 1 = _; rw [ih]
theorem zs_ld_lt (E : Nat → Nat) (i : Nat) : zs_ld E i < 256 := Nat.mod_lt _ (by decide)
theorem zs_ne0 {n : Nat} (h0 : 0 < n) (h : n < 2 ^ 32) : ¬ nI n = 0 := by
  intro z
  have e1 := zs_un_nI h
  rw [z] at e1
  have e2 : zs_un 0 = 0 := by decide
  omega
