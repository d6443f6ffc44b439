/-! Printed forms, bit by bit: pure; and arrays of characters. -/
theorem zs_six_is (c : Nat) : zs_six c = -1 ∨ ∃ e, e < 64 ∧ zs_six c = nI e := by
  unfold zs_six
  split
  · exact Or.inr ⟨_, by omega, rfl⟩
  · split
    · exact Or.inr ⟨_, by omega, rfl⟩
    · split
      · exact Or.inr ⟨_, by omega, rfl⟩
      · split
        · exact Or.inr ⟨62, by decide, rfl⟩
        · split
          · exact Or.inr ⟨63, by decide, rfl⟩
          · exact Or.inl rfl
theorem zd_hold_push {e : Nat → Int32} {n c x : Nat} {E : Nat → Nat} (h : zd_hold e n E) (hc : c < 65536) (hs : zs_six c = nI x) (hx : x < 64) : zd_hold (upd e n (nI c)) (n + 1) (zs_push (n, E) x).2 := by
  intro j hj
  by_cases g : j = n
  · subst g
    refine ⟨c, pk_us, hc, ?_⟩
    simpa [zs_push] using ⟨hs, hx⟩
  · obtain ⟨c', h1, h2, h3⟩ := h j (by omega)
    refine ⟨c', by rw [pk_un g]; exact h1, h2, ?_⟩
    simpa [zs_push, g] using h3
/-- six bits of the printed form -/
def zs_p6 (n : Nat) (B : Nat → Nat) (i : Nat) : Nat := (B (i * 6 / 8) * 256 + (if i * 6 / 8 + 1 < n then B (i * 6 / 8 + 1) else 0)) / 2 ^ (10 - i * 6 % 8) % 64
def zs_pv (n : Nat) (B : Nat → Nat) (i : Nat) : Nat → Nat
  | 0 => 0
  | k + 1 => 2 * zs_pv n B i k + zs_bitv n B (6 * i + k)
theorem zs_bitv_0 {n : Nat} {B : Nat → Nat} {s u : Nat} (hs : s < n) (hu : u < 8) : zs_bitv n B (8 * s + u) = B s / 2 ^ (7 - u) % 2 := by
  rw [zs_bitv, if_pos (by omega), show (8 * s + u) / 8 = s by omega, show (8 * s + u) % 8 = u by omega]
theorem zs_bitv_1 {n : Nat} {B : Nat → Nat} {s u : Nat} (hu : u < 8) : zs_bitv n B (8 * (s + 1) + u) = (if s + 1 < n then B (s + 1) else 0) / 2 ^ (7 - u) % 2 := by
  by_cases h : s + 1 < n
  · rw [zs_bitv_0 h hu, if_pos h]
  · rw [zs_bitv, if_neg (by omega), if_neg h, Nat.zero_div]
theorem zs_pv_lt (n : Nat) (B : Nat → Nat) (i : Nat) : ∀ k, zs_pv n B i k < 2 ^ k := by
  intro k
  induction k with
  | zero => exact Nat.one_pos
  | succ k ih =>
    have h2 : zs_bitv n B (6 * i + k) < 2 := by
      unfold zs_bitv
      split
      · exact Nat.mod_lt _ (by decide)
      · decide
    rw [zs_pv, Nat.pow_succ]; omega
theorem zs_pv_6 {n : Nat} {B : Nat → Nat} {i : Nat} (hi : i * 6 < n * 8) (hB : ∀ j, j < n → B j < 256) : zs_pv n B i 6 = zs_p6 n B i := by
  have hs : i * 6 / 8 < n := by omega
  have h0 := hB _ hs
  have h1 : (if i * 6 / 8 + 1 < n then B (i * 6 / 8 + 1) else 0) < 256 := by
    split
    · rename_i g; exact hB _ g
    · decide
  have a := fun u (hu : u < 8) => zs_bitv_0 (B := B) hs hu
  have b := fun u (hu : u < 8) => zs_bitv_1 (n := n) (B := B) (s := i * 6 / 8) hu
  unfold zs_p6
  simp only [zs_pv]
  generalize hx : (if i * 6 / 8 + 1 < n then B (i * 6 / 8 + 1) else 0) = b1 at *
  generalize hy : B (i * 6 / 8) = b0 at *
  generalize hsd : i * 6 / 8 = s at *
  have hr : i * 6 % 8 = 0 ∨ i * 6 % 8 = 2 ∨ i * 6 % 8 = 4 ∨ i * 6 % 8 = 6 := by omega
  rcases hr with r | r | r | r
  · rw [r, show 6 * i + 0 = 8 * s + 0 by omega, show 6 * i + 1 = 8 * s + 1 by omega, show 6 * i + 2 = 8 * s + 2 by omega, show 6 * i + 3 = 8 * s + 3 by omega, show 6 * i + 4 = 8 * s + 4 by omega, show 6 * i + 5 = 8 * s + 5 by omega, a 0 (by decide), a 1 (by decide), a 2 (by decide), a 3 (by decide), a 4 (by decide), a 5 (by decide)]
    omega
  · rw [r, show 6 * i + 0 = 8 * s + 2 by omega, show 6 * i + 1 = 8 * s + 3 by omega, show 6 * i + 2 = 8 * s + 4 by omega, show 6 * i + 3 = 8 * s + 5 by omega, show 6 * i + 4 = 8 * s + 6 by omega, show 6 * i + 5 = 8 * s + 7 by omega, a 2 (by decide), a 3 (by decide), a 4 (by decide), a 5 (by decide), a 6 (by decide), a 7 (by decide)]
    omega
  · rw [r, show 6 * i + 0 = 8 * s + 4 by omega, show 6 * i + 1 = 8 * s + 5 by omega, show 6 * i + 2 = 8 * s + 6 by omega, show 6 * i + 3 = 8 * s + 7 by omega, show 6 * i + 4 = 8 * (s + 1) + 0 by omega, show 6 * i + 5 = 8 * (s + 1) + 1 by omega, a 4 (by decide), a 5 (by decide), a 6 (by decide), a 7 (by decide), b 0 (by decide), b 1 (by decide)]
    omega
  · rw [r, show 6 * i + 0 = 8 * s + 6 by omega, show 6 * i + 1 = 8 * s + 7 by omega, show 6 * i + 2 = 8 * (s + 1) + 0 by omega, show 6 * i + 3 = 8 * (s + 1) + 1 by omega, show 6 * i + 4 = 8 * (s + 1) + 2 by omega, show 6 * i + 5 = 8 * (s + 1) + 3 by omega, a 6 (by decide), a 7 (by decide), b 0 (by decide), b 1 (by decide), b 2 (by decide), b 3 (by decide)]
    omega
/-- the character of six bits -/
def zs_chr (v : Nat) : Nat := if v < 26 then 65 + v else if v < 52 then 97 + v - 26 else if v < 62 then 48 + v - 52 else if v = 62 then 43 else 45
/-- eight bits of a draft -/
def zs_lv (E : Nat → Nat) (b : Nat) : Nat → Nat
  | 0 => 0
  | k + 1 => 2 * zs_lv E b k + E ((8 * b + k) / 6) / 2 ^ (5 - (8 * b + k) % 6) % 2
theorem zs_lv_lt (E : Nat → Nat) (b : Nat) : ∀ k, zs_lv E b k < 2 ^ k := by
  intro k
  induction k with
  | zero => exact Nat.one_pos
  | succ k ih =>
    have h2 : E ((8 * b + k) / 6) / 2 ^ (5 - (8 * b + k) % 6) % 2 < 2 := Nat.mod_lt _ (by decide)
    rw [zs_lv, Nat.pow_succ]; omega
theorem zs_lv_8 {E : Nat → Nat} {b : Nat} (h0 : E (b * 8 / 6) < 64) (h1 : E (b * 8 / 6 + 1) < 64) : zs_lv E b 8 = zs_ld E b := by
  have a : ∀ u, u < 6 → E ((6 * (b * 8 / 6) + u) / 6) / 2 ^ (5 - (6 * (b * 8 / 6) + u) % 6) % 2 = E (b * 8 / 6) / 2 ^ (5 - u) % 2 := fun u hu => by
    rw [show (6 * (b * 8 / 6) + u) / 6 = b * 8 / 6 by omega, show (6 * (b * 8 / 6) + u) % 6 = u by omega]
  have c : ∀ u, u < 6 → E ((6 * (b * 8 / 6 + 1) + u) / 6) / 2 ^ (5 - (6 * (b * 8 / 6 + 1) + u) % 6) % 2 = E (b * 8 / 6 + 1) / 2 ^ (5 - u) % 2 := fun u hu => by
    rw [show (6 * (b * 8 / 6 + 1) + u) / 6 = b * 8 / 6 + 1 by omega, show (6 * (b * 8 / 6 + 1) + u) % 6 = u by omega]
  unfold zs_ld
  simp only [zs_lv]
  generalize hx : E (b * 8 / 6 + 1) = e1 at *
  generalize hy : E (b * 8 / 6) = e0 at *
  generalize hsd : b * 8 / 6 = s at *
  have hr : b * 8 % 6 = 0 ∨ b * 8 % 6 = 2 ∨ b * 8 % 6 = 4 := by omega
  rcases hr with r | r | r
  · rw [r, show 8 * b + 0 = 6 * s + 0 by omega, show 8 * b + 1 = 6 * s + 1 by omega, show 8 * b + 2 = 6 * s + 2 by omega, show 8 * b + 3 = 6 * s + 3 by omega, show 8 * b + 4 = 6 * s + 4 by omega, show 8 * b + 5 = 6 * s + 5 by omega, show 8 * b + 6 = 6 * (s + 1) + 0 by omega, show 8 * b + 7 = 6 * (s + 1) + 1 by omega, a 0 (by decide), a 1 (by decide), a 2 (by decide), a 3 (by decide), a 4 (by decide), a 5 (by decide), c 0 (by decide), c 1 (by decide)]
    omega
  · rw [r, show 8 * b + 0 = 6 * s + 2 by omega, show 8 * b + 1 = 6 * s + 3 by omega, show 8 * b + 2 = 6 * s + 4 by omega, show 8 * b + 3 = 6 * s + 5 by omega, show 8 * b + 4 = 6 * (s + 1) + 0 by omega, show 8 * b + 5 = 6 * (s + 1) + 1 by omega, show 8 * b + 6 = 6 * (s + 1) + 2 by omega, show 8 * b + 7 = 6 * (s + 1) + 3 by omega, a 2 (by decide), a 3 (by decide), a 4 (by decide), a 5 (by decide), c 0 (by decide), c 1 (by decide), c 2 (by decide), c 3 (by decide)]
    omega
  · rw [r, show 8 * b + 0 = 6 * s + 4 by omega, show 8 * b + 1 = 6 * s + 5 by omega, show 8 * b + 2 = 6 * (s + 1) + 0 by omega, show 8 * b + 3 = 6 * (s + 1) + 1 by omega, show 8 * b + 4 = 6 * (s + 1) + 2 by omega, show 8 * b + 5 = 6 * (s + 1) + 3 by omega, show 8 * b + 6 = 6 * (s + 1) + 4 by omega, show 8 * b + 7 = 6 * (s + 1) + 5 by omega, a 4 (by decide), a 5 (by decide), c 0 (by decide), c 1 (by decide), c 2 (by decide), c 3 (by decide), c 4 (by decide), c 5 (by decide)]
    omega
theorem zs_narc {c : Nat} (h : c < 65536) : vp_nar .char (nI c) = nI c := by
  unfold vp_nar; rw [(pk_charN h).1]
section ZChars
variable {p : Program} {l : Launch} {e : Env} {R : Room} {s : State} {m : MethodId} {args : Array Value} {below : List Frame} {meth : Method} {c : Code} {H : Heap} {locs : List Loc} {cells slots : Nat} {Q : State → Prop}
variable {D : va_G} {cc : ByteArray} {pc : Nat} {ls : Array Slot} {rest : List Value}
theorem zcald {ws : va_W} {tys : List (ClassId × FieldType)} {a : Nat} (hexec : p.tables.exec = Jvm.exec) (hb : c.code = cc) (hK : va_K D zcl tys s) (hP : va_P D zcl ws H) (q0 t0 : Nat) {cA : ClassId} {n j : Nat} {f : Nat → Int32} (ha : ws[q0]? = some (a, .inl (cA, n, .inl f))) (ht : tys[t0]? = some (cA, .char)) (hj : j < n) (hn : n < 2 ^ 31) (hdg : decode cc pc = .ok (.caload, 1))
    (kk : W p l e R s m args below meth c H locs cells slots Q (F0 m (pc + 1) ls (.int (f j) :: rest))) : W p l e R s m args below meth c H locs cells slots Q (F0 m pc ls (.int (nI j) :: .ref a :: rest)) := by
  refine va_cald hexec hb hK hP q0 t0 ha ht (vp_in_nI hj hn) hdg ?_
  rw [nI_clamp (Nat.lt_trans hj hn)]
  exact kk
theorem zcast {ws : va_W} {tys : List (ClassId × FieldType)} {a : Nat} {A : Nat → Prop} {H0 : Heap} (hexec : p.tables.exec = Jvm.exec) (hb : c.code = cc) (hK : va_K D zcl tys s) (hP : va_P D zcl ws H) (hD : va_D A ws) (hS : va_S A H0 H locs) (q0 t0 : Nat) {cA : ClassId} {n j x : Nat} {f : Nat → Int32} (ha : ws[q0]? = some (a, .inl (cA, n, .inl f))) (ht : tys[t0]? = some (cA, .char)) (hx : x < 65536) (hj : j < n) (hn : n < 2 ^ 31) (hdg : decode cc pc = .ok (.castore, 1))
    (kk : ∀ (H1 : Heap) (locs1 : List Loc), va_P D zcl (ws.set q0 (a, .inl (cA, n, .inl (upd f j (nI x))))) H1 → va_D A (ws.set q0 (a, .inl (cA, n, .inl (upd f j (nI x))))) → va_S A H0 H1 locs1 → W p l e R s m args below meth c H1 locs1 cells slots Q (F0 m (pc + 1) ls rest)) : W p l e R s m args below meth c H locs cells slots Q (F0 m pc ls (.int (nI x) :: .int (nI j) :: .ref a :: rest)) := by
  refine va_cast hexec hb hK hP hD hS q0 t0 ha ht (vp_in_nI hj hn) hdg (fun H1 locs1 h1 h2 h3 => ?_)
  rw [nI_clamp (Nat.lt_trans hj hn), zs_narc hx] at h1 h2
  exact kk H1 locs1 h1 h2 h3
end ZChars
