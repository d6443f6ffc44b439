/-! How the model counts receivers; covers: pure. -/
theorem zs_sshr1 (x : Int32) {k : Nat} (hk : k < 32) : (x >>> (nI k &&& 31)) &&& nI 1 = nI (zs_un x / 2 ^ k % 2) := by
  have h1 : (x >>> (nI k &&& 31)) &&& nI 1 = zs_u x (nI k) &&& nI 1 := by
    apply bt_ext
    intro i hi
    have hs : ((nI k &&& 31).toBitVec.smod 32).toNat = k := zs_sm k hk
    have hu : (((nI k).toUInt32 &&& Int32.toUInt32 31).toBitVec % 32).toNat = k := zs_sl k hk
    have e1 : (x >>> (nI k &&& 31)).toBitVec = x.toBitVec.sshiftRight k := by
      show x.toBitVec.sshiftRight ((nI k &&& 31).toBitVec.smod 32).toNat = _
      rw [hs]
    have e2 : (zs_u x (nI k)).toBitVec = x.toBitVec >>> k := by
      show x.toBitVec >>> (((nI k).toUInt32 &&& Int32.toUInt32 31).toBitVec % 32) = _
      rw [BitVec.ushiftRight_eq', hu]
    have e3 : (nI 1).toBitVec = 1#32 := rfl
    unfold bt_
    rw [Int32.toBitVec_and, Int32.toBitVec_and, BitVec.getLsbD_and, BitVec.getLsbD_and, e1, e2, e3]
    by_cases h0 : i = 0
    · subst h0
      rw [BitVec.getLsbD_sshiftRight, BitVec.getLsbD_ushiftRight]
      simp [hk]
    · have : (1#32).getLsbD i = false := by
        rw [show (1#32) = BitVec.ofNat 32 (2 ^ 1 - 1) from rfl, BitVec.getLsbD_ofNat, Nat.testBit_two_pow_sub_one]
        simp; omega
      rw [this, Bool.and_false, Bool.and_false]
  have h2 := zs_un_lt x
  have h3 : zs_un x / 2 ^ k ≤ zs_un x := Nat.div_le_self _ _
  rw [h1, zs_u_un x hk]
  exact pk_andN (by omega) 1 (by decide)
/-- the model's count over the first k bits -/
def zs_cnt (n w : Nat) : Nat → Nat
  | 0 => 0
  | k + 1 => if w / 2 ^ k % 2 = 0 then zs_cnt n w k else if k < n then zs_cnt n w k + 1 else 100
theorem zs_cnt_le (n w k : Nat) : zs_cnt n w k ≤ 100 + k := by
  induction k with
  | zero => exact Nat.zero_le _
  | succ k ih => rw [zs_cnt]; split; omega; split <;> omega
theorem zs_cnt_out (n w : Nat) : ∀ m, w < 2 ^ m → 2 ^ n ≤ w → zs_cnt n w m = 100 := by
  intro m
  induction m with
  | zero => intro h1 h2; have := Nat.two_pow_pos n; omega
  | succ m ih =>
    intro h1 h2
    rw [zs_cnt]
    by_cases h : w < 2 ^ m
    · rw [Nat.div_eq_of_lt h, if_pos rfl]; exact ih h h2
    · have e1 : w / 2 ^ m = 1 := by
        apply Nat.div_eq_of_lt_le
        · omega
        · rw [Nat.pow_succ] at h1; omega
      have e2 : ¬ m < n := by
        intro z
        have := Nat.pow_le_pow_right (show 0 < 2 by decide) (show m + 1 ≤ n from z)
        omega
      rw [e1, if_neg (by decide), if_neg e2]
theorem zs_cnt_in : ∀ n, n < 5 → ∀ w, w < 16 → w < 2 ^ n → zs_cnt n w 32 = zs_pc w := by decide +kernel
theorem zs_cnt_is {n w : Nat} (hn : n ≤ 4) (hw : w < 2 ^ 32) : (zs_rc n w = 1 ∧ zs_cnt n w 32 = zs_pc w ∧ 1 ≤ zs_pc w ∧ zs_pc w ≤ 3) ∨ (zs_rc n w = 0 ∧ ¬ (1 ≤ zs_cnt n w 32 ∧ zs_cnt n w 32 ≤ 3)) := by
  have h16 := zs_two4 hn
  by_cases h : w < 2 ^ n
  · have e := zs_cnt_in n (by omega) w (by omega) h
    unfold zs_rc
    rw [e]
    by_cases g : 1 ≤ zs_pc w ∧ zs_pc w ≤ 3
    · exact Or.inl ⟨if_pos ⟨g.1, g.2, h⟩, rfl, g⟩
    · exact Or.inr ⟨if_neg (fun z => g ⟨z.1, z.2.1⟩), g⟩
  · have e := zs_cnt_out n w 32 hw (by omega)
    refine Or.inr ⟨if_neg (fun z => h z.2.2), ?_⟩
    rw [e]; omega
/-- a covered byte, masked behind -/
theorem zs_cv_m {b : Nat} (hb : b < 256) (w : Int32) : (nI b ^^^ w) &&& nI 255 = nI (b ^^^ (zs_un w % 2 ^ 8)) := by
  rw [show (nI b ^^^ w) &&& nI 255 = nI (zs_un (nI b ^^^ w) % 2 ^ 8) from zs_and _ 8 (by decide)]
  have e : zs_un (nI b ^^^ w) = b ^^^ zs_un w := by
    show (nI b ^^^ w).toBitVec.toNat = _
    rw [Int32.toBitVec_xor, BitVec.toNat_xor, show (nI b).toBitVec.toNat = b from pk_tn (by omega)]
    rfl
  rw [e, Nat.xor_mod_two_pow, Nat.mod_eq_of_lt (show b < 2 ^ 8 from hb)]
