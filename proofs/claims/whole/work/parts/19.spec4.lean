/-! Sealing and opening as a whole: pure. -/
theorem zs_hold_n {b n : Nat} {f : Nat → Int32} {F : zs_F} (h : zs_hold b f F) (e : F.1 = n) : zs_hold b f (n, F.2) := by
  subst e; exact h
theorem zo_adr {n x : Nat} {f : Nat → Int32} {S : Nat → Nat} (h : ∀ j, j < n → f j = nI (zs_pw 2 (S j))) : ∀ j, j < n + 1 → upd f n (nI (zs_pw 2 x)) j = nI (zs_pw 2 ((zs_push (n, S) x).2 j)) := by
  intro j hj
  by_cases e : j = n
  · subst e; rw [pk_us]; simp [zs_push]
  · rw [pk_un e, h j (by omega)]; simp [zs_push, e]
/-- a byte altered -/
def zo_al (b : Nat) (x : Int32) : Nat := b ^^^ (zs_un x % 2 ^ 8)
theorem zo_al_lt {b : Nat} (h : b < 256) (x : Int32) : zo_al b x < 256 := Nat.xor_lt_two_pow (n := 8) h (Nat.mod_lt _ (by decide))
/-- the head of a file: its mark, its number of entries, the entries of the keys below i -/
def zs_ents (S : Nat → Nat) (x f g : Int32) : Nat → zs_F
  | 0 => zs_push (zs_push (0, fun _ => 0) 83) (zs_pc (zs_un x))
  | i + 1 => if zs_un x / 2 ^ i % 2 = 1 then zs_entry (zs_ents S x f g i) (zs_pw 2 (S i)) f (zs_e f g i) else zs_ents S x f g i
theorem zs_ents_le (S : Nat → Nat) (x f g : Int32) (i : Nat) : (zs_ents S x f g i).1 ≤ 2 + 8 * i := by
  induction i with
  | zero => exact Nat.le_refl _
  | succ i ih =>
    rw [zs_ents]
    split
    · show (zs_ents S x f g i).1 + 8 ≤ _; omega
    · omega
def zs_head (S : Nat → Nat) (x f g : Int32) (n : Nat) : zs_F := zs_pair (zs_ents S x f g n) (zs_sg (zs_ents S x f g n).2 0 (zs_ents S x f g n).1 (zs_word f (nI 0) (nI 3)))
def zs_seal (S : Nat → Nat) (n0 n2 : Nat) (M : Nat → Nat) (x f g : Int32) : zs_F := zs_pcs n2 M f ((n2 - 1) / 8) (zs_head S x f g n0) ((n2 - 1) / 8 + 1)
theorem zs_ent_is (B : Nat → Nat) (s ad : Nat) : ∀ n i, zs_ent B s ad i n = -1 ∨ ∃ j, j < i + n ∧ zs_ent B s ad i n = nI (2 + 8 * j) := by
  intro n
  induction n with
  | zero => intro i; exact Or.inl rfl
  | succ n ih =>
    intro i
    rw [zs_ent]
    split
    · exact Or.inr ⟨i, by omega, rfl⟩
    · rcases ih (i + 1) with h | ⟨j, hj, h⟩
      · exact Or.inl h
      · exact Or.inr ⟨j, by omega, h⟩
/-- what open answers, the right pieces, the message -/
def zs_open (n3 : Nat) (B : Nat → Nat) (s ad : Nat) (F : zs_F) : Int32 × Nat × zs_F :=
  if zs_sh n3 B = 0 then (-1, 0, F) else
  if zs_ent B s ad 0 (B 1) < 0 then (-2, 0, F) else
  if zs_two B (2 + B 1 * 8) = zs_sg B 0 (2 + B 1 * 8) (zs_word (zs_un_w B (zs_ent B s ad 0 (B 1)).toNatClampNeg s ad) (nI 0) (nI 3)) then
    zs_take B n3 (zs_un_w B (zs_ent B s ad 0 (B 1)).toNatClampNeg s ad) (2 + B 1 * 8 + 2) ((n3 - (2 + B 1 * 8 + 2) - 1) / 10 + 1) 0 (0, fun _ => 0)
  else (-3, 0, F)
