/-! The law's loop: its state, and what of a call's argument decides its way. -/
theorem zb_seal {S : Nat → Nat} {n0 n2 : Nat} {M : Nat → Nat} {x f g : Int32} (h0 : n0 ≤ 4) (h2 : n2 ≤ 40) : (zs_seal S n0 n2 M x f g).1 ≤ 120 := by
  have a : (zs_seal S n0 n2 M x f g).1 ≤ (zs_head S x f g n0).1 + 10 * ((n2 - 1) / 8 + 1) := zs_pcs_le _ _ _ _ _ _
  have b : (zs_head S x f g n0).1 = (zs_ents S x f g n0).1 + 2 := rfl
  have c := zs_ents_le S x f g n0
  omega
theorem zb_take (B : Nat → Nat) (n : Nat) (f : Int32) (ps : Nat) : ∀ (m k : Nat) (F : zs_F), F.1 ≤ 40 → (zs_take B n f ps m k F).2.2.1 ≤ 40 := by
  intro m
  induction m with
  | zero => intro k F h; exact h
  | succ m ih =>
    intro k F h
    rw [zs_take]
    split
    · exact h
    · split
      · exact ih _ _ (zs_unc_le _ _ _ _ h _)
      · exact h
theorem zb_open {n3 s ad : Nat} {B : Nat → Nat} {F : zs_F} (h : F.1 ≤ 40) : (zs_open n3 B s ad F).2.2.1 ≤ 40 := by
  unfold zs_open
  split
  · exact h
  · split
    · exact h
    · split
      · exact zb_take _ _ _ _ _ _ _ (Nat.zero_le _)
      · exact h
theorem zb_rc (n w : Nat) : zs_rc n w = 0 ∨ zs_rc n w = 1 := by
  unfold zs_rc
  split
  · exact Or.inr rfl
  · exact Or.inl rfl
theorem zb_pf (n : Nat) (E : Nat → Nat) : zs_pf n E = 0 ∨ zs_pf n E = 1 := by
  unfold zs_pf
  split
  · exact Or.inr rfl
  · split
    · exact Or.inr rfl
    · exact Or.inl rfl
theorem zb_no {n : Nat} {x : Int32} (h : x < 0 ∨ nI n ≤ x) : zs_has n x = 0 := by
  unfold zs_has
  split
  · rfl
  · rename_i g
    rw [if_pos (h.resolve_left g)]
    rfl
theorem zb_ix (n : Nat) (x : Int32) (hn : n < 2 ^ 31) : (x < 0 ∨ nI n ≤ x) ∨ ∃ j, j < n ∧ x = nI j := by
  rcases pk_ix x hn with h | h | h
  · exact Or.inl (Or.inl h)
  · exact Or.inl (Or.inr h)
  · exact Or.inr h
theorem zb_key (x : Int32) : (x < nI 2 ∨ ¬ x ≤ nI 32747) ∨ ∃ n, 2 ≤ n ∧ n ≤ 32747 ∧ x = nI n := by
  by_cases h : x < nI 2
  · exact Or.inl (Or.inl h)
  · by_cases h2 : x ≤ nI 32747
    · have h0 : ¬ x < 0 := fun z => h (Int32.lt_trans z (by decide))
      obtain ⟨j, hj, rfl⟩ := nI_of2 (n := 32747) (by decide) h0 h2
      exact Or.inr ⟨j, Nat.not_lt.mp fun z => h (nI_lt z (by decide)), hj, rfl⟩
    · exact Or.inl (Or.inr h2)
theorem zb_put (x : Int32) : (x < 0 ∨ nI 255 < x) ∨ ∃ n, n < 256 ∧ x = nI n := by
  rcases zb_ix 256 x (by decide) with h | h
  · rcases h with h | h
    · exact Or.inl (Or.inl h)
    · exact Or.inl (Or.inr (Int32.lt_of_lt_of_le (show nI 255 < nI 256 by decide) h))
  · exact Or.inr h
theorem zb_cmp (x : Int64) : lg_cmp x x = 0 := by simp [lg_cmp]
/-- all that the law makes lies behind its start's heap -/
def zA0 (s : State) : Nat → Prop := fun q => s.heap.size ≤ q
/-- the class's cells, the Model's, the law's own long[1]: new, and apart -/
def zSep (s : State) (h gg : Nat → Nat) (o : Nat) : Prop := zs_inj h ∧ zm_inj gg ∧ (∀ q, zAS h q → zA0 s q) ∧ (∀ q, zAM gg q → zA0 s q) ∧ zA0 s o ∧ (∀ q, zAS h q → ¬ zAM gg q) ∧ ¬ zAS h o ∧ ¬ zAM gg o
/-- what stands through the whole run -/
def zLaw (p : Program) (l : Launch) (s : State) (m : MethodId) (c : Code) (b L : Nat) (xs : Nat → Int32) (D : va_G) (cI cC cJ : ClassId) (ka va : Nat) : Prop :=
  CallFix p m c b_LW_law 7 s #[Value.ref b] zg "SealedFilesLaw" ∧ L ≤ 2048 ∧ va_X b L xs s s.heap ∧ b < s.heap.size ∧ zE D cI cC cJ s ∧ zX1 (zA0 s) ka va s ∧ zX3 (zA0 s) s ∧ l.stackTraces = false
/-- the loop's state: class and Model are one -/
def zIv (D : va_G) (cI cC cJ : ClassId) (h gg : Nat → Nat) (o : Nat) (s : State) (H : Heap) (locs : List Loc) : Prop :=
  ∃ (ft : Int32) (n0 : Nat) (S : Nat → Nat) (n2 : Nat) (M : Nat → Nat) (n3 : Nat) (B : Nat → Nat) (n4 : Nat) (E : Nat → Nat) (rt : Nat) (v : Int64), (n0 ≤ 4 ∧ n2 ≤ 40 ∧ n3 ≤ 120 ∧ n4 ≤ 160) ∧ zCl D cI h n0 S n2 M n3 B n4 E rt H ∧ zMo D cI cC gg ft n0 S n2 M n3 B n4 E rt H ∧ zOu D cJ o v H ∧ va_S (zA0 s) s.heap H locs
abbrev zLs (b o i : Nat) (h gg : Nat → Nat) : List (Nat × Value) := [(0, .ref b), (1, .ref (h 0)), (2, .ref (gg 0)), (3, .ref o), (4, .int (nI i))]
section ZLS
variable {p : Program} {l : Launch} {e : Env} {R : Room} {s : State} {m : MethodId} {args : Array Value} {below : List Frame} {meth : Method} {c : Code} {H : Heap} {locs : List Loc} {cells slots : Nat} {Q : State → Prop}
variable {cc : ByteArray} {pc : Nat} {ls : Array Slot} {rest : List Value}
/-- the script, read -/
theorem zsld {b L j : Nat} {xs : Nat → Int32} {x : Int32} (hexec : p.tables.exec = Jvm.exec) (hb : c.code = cc) (hX : va_X b L xs s s.heap) (hbl : b < s.heap.size) (hS : va_S (zA0 s) s.heap H locs) (hj : j < L) (hL : L ≤ 2048) (hdg : decode cc pc = .ok (.iaload, 1)) (hx : xs j = x)
    (kk : W p l e R s m args below meth c H locs cells slots Q (F0 m (pc + 1) ls (.int x :: rest))) : W p l e R s m args below meth c H locs cells slots Q (F0 m pc ls (.int (nI j) :: .ref b :: rest)) := by
  refine va_sld hexec hb hX hbl (Nat.not_le.mpr hbl) hS (vp_in_nI hj (by omega)) hdg ?_
  rw [nI_clamp (by omega), hx]
  exact kk
/-- the law's long[1], read -/
theorem zlald {D : va_G} {cI cC cJ : ClassId} {o : Nat} {v : Int64} (hexec : p.tables.exec = Jvm.exec) (hb : c.code = cc) (hE : zE D cI cC cJ s) (hO : zOu D cJ o v H) (hdg : decode cc pc = .ok (.laload, 1))
    (kk : W p l e R s m args below meth c H locs cells slots Q (F0 m (pc + 1) ls (.long v :: rest))) : W p l e R s m args below meth c H locs cells slots Q (F0 m pc ls (.int (nI 0) :: .ref o :: rest)) := by
  obtain ⟨f, hf, hP⟩ := hO
  refine va_lald hexec hb hE.1 hP 0 2 rfl rfl (vp_in_nI (by decide) (by decide)) hdg ?_
  rw [nI_clamp (by decide), hf]
  exact kk
end ZLS
