/-- a SealedFiles as its calls show it: keys, message, file, draft, right pieces -/
def zCl (D : va_G) (cI : ClassId) (h : Nat → Nat) (n0 : Nat) (S : Nat → Nat) (n2 : Nat) (M : Nat → Nat) (n3 : Nat) (B : Nat → Nat) (n4 : Nat) (E : Nat → Nat) (rt : Nat) (H : Heap) : Prop :=
  ∃ f0 f1 f2 f3 f4 : Nat → Int32, zs_hold 32748 f0 (n0, S) ∧ (∀ j, j < n0 → f1 j = nI (zs_pw 2 (S j))) ∧ zs_hold 256 f2 (n2, M) ∧ zs_hold 256 f3 (n3, B) ∧ zs_hold 64 f4 (n4, E) ∧ va_P D zcl (zSf cI h n0 n0 n2 n3 n4 f0 f1 f2 f3 f4 (nI rt)) H
/-- what stands at a place, or -1 -/
def zo_at (n : Nat) (B : Nat → Nat) (x : Int32) : Int32 := if zs_has n x = 0 then -1 else nI (B x.toNatClampNeg)
theorem zo_at_of {n b : Nat} {f : Nat → Int32} {B : Nat → Nat} (h : zs_hold b f (n, B)) (hn : n < 2 ^ 31) (x : Int32) : zs_item n f x = zo_at n B x := by
  unfold zs_item zo_at
  split
  · rfl
  · rename_i g
    obtain ⟨j, hj, rfl⟩ := zs_has_of hn g
    rw [nI_clamp (by omega)]
    exact (h j hj).1
/-- which number is asked -/
def zo_count (a b c : Nat) (x : Int32) : Int32 := if x = nI 0 then nI a else if x = nI 1 then nI b else if x = nI 2 then nI c else -1
set_option maxHeartbeats 4000000 in
set_option maxRecDepth 100000 in
theorem c_SF_address (l : Launch) (D : va_G) (cI cC cJ : ClassId) (h : Nat → Nat) (n0 : Nat) (S : Nat → Nat) (n2 : Nat) (M : Nat → Nat) (n3 : Nat) (B : Nat → Nat) (n4 : Nat) (E : Nat → Nat) (rt : Nat) (hh : zs_inj h) (hn0 : n0 ≤ 4) (hn2 : n2 ≤ 40) (hn3 : n3 ≤ 120) (hn4 : n4 ≤ 160) (x : Int32) : Met l y_SF_address (zw k_SF_address) ({ frames := 2, cells := 0, slots := 0, locals := 42 }) (zPc [.ref (h 0), .int x] (fun H => zCl D cI h n0 S n2 M n3 B n4 E rt H) D cI cC cJ) (QcRead (zo_at n0 (fun j => zs_pw 2 (S j)) x)) 0 0 (fun _ => False) := by
  refine zMet (by decide) (Nat.le_of_ble_eq_true rfl) ?_
  intro p e s m below meth c hx hb hr hg hown hlk hml hB0 hE ls hl
  have hl : lv_has ls 2 [(0, .ref (h 0)), (1, .int x)] := hl
  have hS9 : CallFix p m c b_SF_address 2 s [.ref (h 0), .int x].toArray zg "SealedFiles" := ⟨hx, hb, hml, hown, hg⟩
  obtain ⟨f0, f1, f2, f3, f4, hS0, hA0, hM, hB, hE9, hP⟩ := hB0
  have hP : va_P D zcl [((h 0), .inr (1, [.ref (h 1), .ref (h 3), .ref (h 5), .ref (h 7), .ref (h 9), .int (nI rt)])), ((h 1), .inr (0, [.ref (h 2), .int (nI n0)])), ((h 2), .inl (cI, 4, .inl f0)), ((h 3), .inr (0, [.ref (h 4), .int (nI n0)])), ((h 4), .inl (cI, 4, .inl f1)), ((h 5), .inr (0, [.ref (h 6), .int (nI n2)])), ((h 6), .inl (cI, 40, .inl f2)), ((h 7), .inr (0, [.ref (h 8), .int (nI n3)])), ((h 8), .inl (cI, 120, .inl f3)), ((h 9), .inr (0, [.ref (h 10), .int (nI n4)])), ((h 10), .inl (cI, 160, .inl f4))] s.heap := hP
  have hn1 : n0 ≤ 4 := hn0
  refine lv_aload_n hx hb d_SF_address_0 rfl (lv_at hl 0 rfl) ?_
  refine va_get (D := D) (ci := 1) (v := .ref (h 3)) (C := R_SF) (T := F_SF) (N := 6) hx hb hg i_SF hown hE.1 hP 0 rfl rfl 1 (by decide) (hg _ zw_41) (fun _ h9 => h9) rfl d_SF_address_1 ?_
  refine lv_iload_n hx hb d_SF_address_4 rfl (lv_at hl 1 rfl) ?_
  refine zRd (rest := []) (zrVN hS9 (c_RW_item l D cI cC cJ (h 3) (h 4) 4 n0 f1 (by omega) (by decide) x) zc_RW_item (by decide) zw_65 zp_0 (by decide) (va_recv hE.1 hP (ci := 0) (q := (R_RW, F_RW, 2)) rfl (q0 := 3) rfl) (hP.sub [3, 4] rfl) hE rfl hl.1 rfl (Nat.le_of_ble_eq_true rfl) d_SF_address_5) ?_
  exact W.iret (v := (zs_item n0 f1 x)) hx hb hr (fun t ht _ => ⟨congrArg (fun z => Outcome.returned (some (Value.int z))) (zo_at_of (b := 32749) (fun j hj => ⟨hA0 j hj, zs_pw_lt _ _⟩) (by omega) x), ht⟩) t_nil d_SF_address_8

set_option maxHeartbeats 4000000 in
set_option maxRecDepth 100000 in
theorem c_SF_at (l : Launch) (D : va_G) (cI cC cJ : ClassId) (h : Nat → Nat) (n0 : Nat) (S : Nat → Nat) (n2 : Nat) (M : Nat → Nat) (n3 : Nat) (B : Nat → Nat) (n4 : Nat) (E : Nat → Nat) (rt : Nat) (hh : zs_inj h) (hn0 : n0 ≤ 4) (hn2 : n2 ≤ 40) (hn3 : n3 ≤ 120) (hn4 : n4 ≤ 160) (x : Int32) : Met l y_SF_at (zw k_SF_at) ({ frames := 2, cells := 0, slots := 0, locals := 42 }) (zPc [.ref (h 0), .int x] (fun H => zCl D cI h n0 S n2 M n3 B n4 E rt H) D cI cC cJ) (QcRead (zo_at n3 B x)) 0 0 (fun _ => False) := by
  refine zMet (by decide) (Nat.le_of_ble_eq_true rfl) ?_
  intro p e s m below meth c hx hb hr hg hown hlk hml hB0 hE ls hl
  have hl : lv_has ls 2 [(0, .ref (h 0)), (1, .int x)] := hl
  have hS9 : CallFix p m c b_SF_at 2 s [.ref (h 0), .int x].toArray zg "SealedFiles" := ⟨hx, hb, hml, hown, hg⟩
  obtain ⟨f0, f1, f2, f3, f4, hS0, hA0, hM, hB, hE9, hP⟩ := hB0
  have hP : va_P D zcl [((h 0), .inr (1, [.ref (h 1), .ref (h 3), .ref (h 5), .ref (h 7), .ref (h 9), .int (nI rt)])), ((h 1), .inr (0, [.ref (h 2), .int (nI n0)])), ((h 2), .inl (cI, 4, .inl f0)), ((h 3), .inr (0, [.ref (h 4), .int (nI n0)])), ((h 4), .inl (cI, 4, .inl f1)), ((h 5), .inr (0, [.ref (h 6), .int (nI n2)])), ((h 6), .inl (cI, 40, .inl f2)), ((h 7), .inr (0, [.ref (h 8), .int (nI n3)])), ((h 8), .inl (cI, 120, .inl f3)), ((h 9), .inr (0, [.ref (h 10), .int (nI n4)])), ((h 10), .inl (cI, 160, .inl f4))] s.heap := hP
  have hn1 : n0 ≤ 4 := hn0
  refine lv_aload_n hx hb d_SF_at_0 rfl (lv_at hl 0 rfl) ?_
  refine va_get (D := D) (ci := 1) (v := .ref (h 7)) (C := R_SF) (T := F_SF) (N := 6) hx hb hg i_SF hown hE.1 hP 0 rfl rfl 3 (by decide) (hg _ zw_43) (fun _ h9 => h9) rfl d_SF_at_1 ?_
  refine lv_iload_n hx hb d_SF_at_4 rfl (lv_at hl 1 rfl) ?_
  refine zRd (rest := []) (zrVN hS9 (c_RW_item l D cI cC cJ (h 7) (h 8) 120 n3 f3 (by omega) (by decide) x) zc_RW_item (by decide) zw_65 zp_0 (by decide) (va_recv hE.1 hP (ci := 0) (q := (R_RW, F_RW, 2)) rfl (q0 := 7) rfl) (hP.sub [7, 8] rfl) hE rfl hl.1 rfl (Nat.le_of_ble_eq_true rfl) d_SF_at_5) ?_
  exact W.iret (v := (zs_item n3 f3 x)) hx hb hr (fun t ht _ => ⟨congrArg (fun z => Outcome.returned (some (Value.int z))) (zo_at_of hB (by omega) x), ht⟩) t_nil d_SF_at_8

set_option maxHeartbeats 4000000 in
set_option maxRecDepth 100000 in
theorem c_SF_pieces (l : Launch) (D : va_G) (cI cC cJ : ClassId) (h : Nat → Nat) (n0 : Nat) (S : Nat → Nat) (n2 : Nat) (M : Nat → Nat) (n3 : Nat) (B : Nat → Nat) (n4 : Nat) (E : Nat → Nat) (rt : Nat) (hh : zs_inj h) (hn0 : n0 ≤ 4) (hn2 : n2 ≤ 40) (hn3 : n3 ≤ 120) (hn4 : n4 ≤ 160) : Met l y_SF_pieces (zw k_SF_pieces) ({ frames := 0, cells := 0, slots := 0, locals := 0 }) (zPc [.ref (h 0)] (fun H => zCl D cI h n0 S n2 M n3 B n4 E rt H) D cI cC cJ) (QcRead (nI rt)) 0 0 (fun _ => False) := by
  refine zMet (by decide) (Nat.le_of_ble_eq_true rfl) ?_
  intro p e s m below meth c hx hb hr hg hown hlk hml hB0 hE ls hl
  have hl : lv_has ls 1 [(0, .ref (h 0))] := hl
  have hS9 : CallFix p m c b_SF_pieces 1 s [.ref (h 0)].toArray zg "SealedFiles" := ⟨hx, hb, hml, hown, hg⟩
  obtain ⟨f0, f1, f2, f3, f4, hS0, hA0, hM, hB, hE9, hP⟩ := hB0
  have hP : va_P D zcl [((h 0), .inr (1, [.ref (h 1), .ref (h 3), .ref (h 5), .ref (h 7), .ref (h 9), .int (nI rt)])), ((h 1), .inr (0, [.ref (h 2), .int (nI n0)])), ((h 2), .inl (cI, 4, .inl f0)), ((h 3), .inr (0, [.ref (h 4), .int (nI n0)])), ((h 4), .inl (cI, 4, .inl f1)), ((h 5), .inr (0, [.ref (h 6), .int (nI n2)])), ((h 6), .inl (cI, 40, .inl f2)), ((h 7), .inr (0, [.ref (h 8), .int (nI n3)])), ((h 8), .inl (cI, 120, .inl f3)), ((h 9), .inr (0, [.ref (h 10), .int (nI n4)])), ((h 10), .inl (cI, 160, .inl f4))] s.heap := hP
  have hn1 : n0 ≤ 4 := hn0
  refine lv_aload_n hx hb d_SF_pieces_0 rfl (lv_at hl 0 rfl) ?_
  refine va_get (D := D) (ci := 1) (v := .int (nI rt)) (C := R_SF) (T := F_SF) (N := 6) hx hb hg i_SF hown hE.1 hP 0 rfl rfl 5 (by decide) (hg _ zw_45) (fun _ h9 => h9) rfl d_SF_pieces_1 ?_
  exact W.iret (v := (nI rt)) hx hb hr (fun t ht _ => ⟨congrArg (fun z => Outcome.returned (some (Value.int z))) (rfl), ht⟩) t_nil d_SF_pieces_4

theorem zs_out3 {x : Int32} (h0 : ¬ x = nI 0) (h1 : ¬ x = nI 1) (h2 : ¬ x = nI 2) : x.toInt < 0 ∨ 2 < x.toInt := by
  have e : ∀ k : Nat, k < 2 ^ 31 → x.toInt = k → x = nI k := fun k hk e => Int32.toInt_inj.mp (by rw [e, nI_toInt hk])
  rcases Int.lt_or_le x.toInt 0 with h | h
  · exact Or.inl h
  · refine Or.inr ?_
    have a0 : ¬ x.toInt = 0 := fun z => h0 (e 0 (by decide) z)
    have a1 : ¬ x.toInt = 1 := fun z => h1 (e 1 (by decide) z)
    have a2 : ¬ x.toInt = 2 := fun z => h2 (e 2 (by decide) z)
    omega
set_option maxHeartbeats 4000000 in
set_option maxRecDepth 100000 in
theorem c_SF_count (l : Launch) (D : va_G) (cI cC cJ : ClassId) (h : Nat → Nat) (n0 : Nat) (S : Nat → Nat) (n2 : Nat) (M : Nat → Nat) (n3 : Nat) (B : Nat → Nat) (n4 : Nat) (E : Nat → Nat) (rt : Nat) (hh : zs_inj h) (hn0 : n0 ≤ 4) (hn2 : n2 ≤ 40) (hn3 : n3 ≤ 120) (hn4 : n4 ≤ 160) (x : Int32) : Met l y_SF_count (zw k_SF_count) ({ frames := 1, cells := 0, slots := 0, locals := 20 }) (zPc [.ref (h 0), .int x] (fun H => zCl D cI h n0 S n2 M n3 B n4 E rt H) D cI cC cJ) (QcRead (zo_count n2 n3 n0 x)) 0 0 (fun _ => False) := by
  refine zMet (by decide) (Nat.le_of_ble_eq_true rfl) ?_
  intro p e s m below meth c hx hb hr hg hown hlk hml hB0 hE ls hl
  have hl : lv_has ls 2 [(0, .ref (h 0)), (1, .int x)] := hl
  have hS9 : CallFix p m c b_SF_count 2 s [.ref (h 0), .int x].toArray zg "SealedFiles" := ⟨hx, hb, hml, hown, hg⟩
  obtain ⟨f0, f1, f2, f3, f4, hS0, hA0, hM, hB, hE9, hP⟩ := hB0
  have hP : va_P D zcl [((h 0), .inr (1, [.ref (h 1), .ref (h 3), .ref (h 5), .ref (h 7), .ref (h 9), .int (nI rt)])), ((h 1), .inr (0, [.ref (h 2), .int (nI n0)])), ((h 2), .inl (cI, 4, .inl f0)), ((h 3), .inr (0, [.ref (h 4), .int (nI n0)])), ((h 4), .inl (cI, 4, .inl f1)), ((h 5), .inr (0, [.ref (h 6), .int (nI n2)])), ((h 6), .inl (cI, 40, .inl f2)), ((h 7), .inr (0, [.ref (h 8), .int (nI n3)])), ((h 8), .inl (cI, 120, .inl f3)), ((h 9), .inr (0, [.ref (h 10), .int (nI n4)])), ((h 10), .inl (cI, 160, .inl f4))] s.heap := hP
  have hn1 : n0 ≤ 4 := hn0
  refine lv_iload_n hx hb d_SF_count_0 rfl (lv_at hl 1 rfl) ?_
  by_cases g0 : x = nI 0
  · refine lv_tableIn hx hb d_SF_count_1 (by rw [g0]; decide) (by rw [g0]; decide) (off := 27) (tgt := 28) (by rw [g0]; decide) (by decide) ?_
    refine lv_aload_n hx hb d_SF_count_28 rfl (lv_at hl 0 rfl) ?_
    refine va_get (D := D) (ci := 1) (v := .ref (h 5)) (C := R_SF) (T := F_SF) (N := 6) hx hb hg i_SF hown hE.1 hP 0 rfl rfl 2 (by decide) (hg _ zw_42) (fun _ h9 => h9) rfl d_SF_count_29 ?_
    refine zRd (rest := []) (zrVN hS9 (c_RW_size l D cI cC cJ (h 5) (h 6) 40 n2 f2 (by omega) (by decide)) zc_RW_size (by decide) zw_85 zp_3 (by decide) (va_recv hE.1 hP (ci := 0) (q := (R_RW, F_RW, 2)) rfl (q0 := 5) rfl) (hP.sub [5, 6] rfl) hE rfl hl.1 rfl (Nat.le_of_ble_eq_true rfl) d_SF_count_32) ?_
    exact W.iret (v := (nI n2)) hx hb hr (fun t ht _ => ⟨congrArg (fun z => Outcome.returned (some (Value.int z))) (by rw [zo_count, if_pos g0]), ht⟩) t_nil d_SF_count_35
  · by_cases g1 : x = nI 1
    · refine lv_tableIn hx hb d_SF_count_1 (by rw [g1]; decide) (by rw [g1]; decide) (off := 35) (tgt := 36) (by rw [g1]; decide) (by decide) ?_
      refine lv_aload_n hx hb d_SF_count_36 rfl (lv_at hl 0 rfl) ?_
      refine va_get (D := D) (ci := 1) (v := .ref (h 7)) (C := R_SF) (T := F_SF) (N := 6) hx hb hg i_SF hown hE.1 hP 0 rfl rfl 3 (by decide) (hg _ zw_43) (fun _ h9 => h9) rfl d_SF_count_37 ?_
      refine zRd (rest := []) (zrVN hS9 (c_RW_size l D cI cC cJ (h 7) (h 8) 120 n3 f3 (by omega) (by decide)) zc_RW_size (by decide) zw_85 zp_3 (by decide) (va_recv hE.1 hP (ci := 0) (q := (R_RW, F_RW, 2)) rfl (q0 := 7) rfl) (hP.sub [7, 8] rfl) hE rfl hl.1 rfl (Nat.le_of_ble_eq_true rfl) d_SF_count_40) ?_
      exact W.iret (v := (nI n3)) hx hb hr (fun t ht _ => ⟨congrArg (fun z => Outcome.returned (some (Value.int z))) (by rw [zo_count, if_neg g0, if_pos g1]), ht⟩) t_nil d_SF_count_43
    · by_cases g2 : x = nI 2
      · refine lv_tableIn hx hb d_SF_count_1 (by rw [g2]; decide) (by rw [g2]; decide) (off := 43) (tgt := 44) (by rw [g2]; decide) (by decide) ?_
        refine lv_aload_n hx hb d_SF_count_44 rfl (lv_at hl 0 rfl) ?_
        refine va_get (D := D) (ci := 1) (v := .ref (h 1)) (C := R_SF) (T := F_SF) (N := 6) hx hb hg i_SF hown hE.1 hP 0 rfl rfl 0 (by decide) (hg _ zw_40) (fun _ h9 => h9) rfl d_SF_count_45 ?_
        refine zRd (rest := []) (zrVN hS9 (c_RW_size l D cI cC cJ (h 1) (h 2) 4 n0 f0 (by omega) (by decide)) zc_RW_size (by decide) zw_85 zp_3 (by decide) (va_recv hE.1 hP (ci := 0) (q := (R_RW, F_RW, 2)) rfl (q0 := 1) rfl) (hP.sub [1, 2] rfl) hE rfl hl.1 rfl (Nat.le_of_ble_eq_true rfl) d_SF_count_48) ?_
        exact W.iret (v := (nI n0)) hx hb hr (fun t ht _ => ⟨congrArg (fun z => Outcome.returned (some (Value.int z))) (by rw [zo_count, if_neg g0, if_neg g1, if_pos g2]), ht⟩) t_nil d_SF_count_51
      · refine lv_tableOut hx hb d_SF_count_1 (zs_out3 g0 g1 g2) (tgt := 52) (by decide) ?_
        refine lv_iconst (v := (-1)) hx hb d_SF_count_52 (by decide) ?_
        exact W.iret (v := (-1)) hx hb hr (fun t ht _ => ⟨congrArg (fun z => Outcome.returned (some (Value.int z))) (by rw [zo_count, if_neg g0, if_neg g1, if_neg g2]), ht⟩) t_nil d_SF_count_53

set_option maxHeartbeats 4000000 in
set_option maxRecDepth 100000 in
theorem c_SF_put_ok (l : Launch) (D : va_G) (cI cC cJ : ClassId) (h : Nat → Nat) (n0 : Nat) (S : Nat → Nat) (n2 : Nat) (M : Nat → Nat) (n3 : Nat) (B : Nat → Nat) (n4 : Nat) (E : Nat → Nat) (rt : Nat) (hh : zs_inj h) (hn0 : n0 ≤ 4) (hn2 : n2 ≤ 40) (hn3 : n3 ≤ 120) (hn4 : n4 ≤ 160) (b : Nat) (hb9 : b < 256) (hr9 : n2 < 40) : Met l y_SF_put (zw k_SF_put) ({ frames := 1, cells := 0, slots := 0, locals := 21 }) (zPc [.ref (h 0), .int (nI b)] (fun H => zCl D cI h n0 S n2 M n3 B n4 E rt H) D cI cC cJ) (zQm (some (.int (nI 1))) (fun H => zCl D cI h n0 S (n2 + 1) (zs_push (n2, M) b).2 n3 B n4 E rt H) (zAS h)) 0 0 (zAS h) := by
  refine zMet (by decide) (Nat.le_of_ble_eq_true rfl) ?_
  intro p e s m below meth c hx hb hr hg hown hlk hml hB0 hE ls hl
  have hl : lv_has ls 2 [(0, .ref (h 0)), (1, .int (nI b))] := hl
  have hS9 : CallFix p m c b_SF_put 2 s [.ref (h 0), .int (nI b)].toArray zg "SealedFiles" := ⟨hx, hb, hml, hown, hg⟩
  obtain ⟨f0, f1, f2, f3, f4, hS0, hA0, hM, hB, hE9, hP⟩ := hB0
  have hP : va_P D zcl [((h 0), .inr (1, [.ref (h 1), .ref (h 3), .ref (h 5), .ref (h 7), .ref (h 9), .int (nI rt)])), ((h 1), .inr (0, [.ref (h 2), .int (nI n0)])), ((h 2), .inl (cI, 4, .inl f0)), ((h 3), .inr (0, [.ref (h 4), .int (nI n0)])), ((h 4), .inl (cI, 4, .inl f1)), ((h 5), .inr (0, [.ref (h 6), .int (nI n2)])), ((h 6), .inl (cI, 40, .inl f2)), ((h 7), .inr (0, [.ref (h 8), .int (nI n3)])), ((h 8), .inl (cI, 120, .inl f3)), ((h 9), .inr (0, [.ref (h 10), .int (nI n4)])), ((h 10), .inl (cI, 160, .inl f4))] s.heap := hP
  have hn1 : n0 ≤ 4 := hn0
  have hD : va_D (zAS h) [((h 0), .inr (1, [.ref (h 1), .ref (h 3), .ref (h 5), .ref (h 7), .ref (h 9), .int (nI rt)])), ((h 1), .inr (0, [.ref (h 2), .int (nI n0)])), ((h 2), .inl (cI, 4, .inl f0)), ((h 3), .inr (0, [.ref (h 4), .int (nI n0)])), ((h 4), .inl (cI, 4, .inl f1)), ((h 5), .inr (0, [.ref (h 6), .int (nI n2)])), ((h 6), .inl (cI, 40, .inl f2)), ((h 7), .inr (0, [.ref (h 8), .int (nI n3)])), ((h 8), .inl (cI, 120, .inl f3)), ((h 9), .inr (0, [.ref (h 10), .int (nI n4)])), ((h 10), .inl (cI, 160, .inl f4))] := zSf_D hh
  have hS : va_S (zAS h) s.heap s.heap [] := va_S.rf
  refine lv_iload_n hx hb d_SF_put_0 rfl (lv_at hl 1 rfl) ?_
  refine lv_if_lt hx hb d_SF_put_1 (tgt := 26) (by decide) (fun z9 => absurd z9 (nI_pos (by omega))) (fun _ => ?_)
  refine lv_iload_n hx hb d_SF_put_4 rfl (lv_at hl 1 rfl) ?_
  refine lv_sipush (v := (nI 255)) hx hb d_SF_put_5 (by decide) ?_
  refine lv_icmp_gt hx hb d_SF_put_8 (tgt := 26) (by decide) (fun z9 => absurd z9 (nI_nlt (by omega) (by omega))) (fun _ => ?_)
  refine lv_aload_n hx hb d_SF_put_11 rfl (lv_at hl 0 rfl) ?_
  refine va_get (D := D) (ci := 1) (v := .ref (h 5)) (C := R_SF) (T := F_SF) (N := 6) hx hb hg i_SF hown hE.1 hP 0 rfl rfl 2 (by decide) (hg _ zw_42) (fun _ h9 => h9) rfl d_SF_put_12 ?_
  refine lv_iload_n hx hb d_SF_put_15 rfl (lv_at hl 1 rfl) ?_
  refine zWr (rest := []) (zrVN hS9 (c_RW_append l D cI cC cJ (h 5) (h 6) 40 n2 f2 (by omega) (by decide) (fun z => absurd (hh 5 6 (by decide) (by decide) z) (by decide)) (nI b) (hr9)) zc_RW_append (by decide) zw_77 zp_2 (by decide) (va_recv hE.1 hP (ci := 0) (q := (R_RW, F_RW, 2)) rfl (q0 := 5) rfl) (hP.sub [5, 6] rfl) hE rfl hl.1 rfl (Nat.le_of_ble_eq_true rfl) d_SF_put_16) hS (fun q _ h => zA2_in hD 5 6 rfl rfl q h) (fun q h => zA2_in hD 5 6 rfl rfl q h) (fun H locs hB1 hz hk hS => ?_)
  obtain ⟨hP, hD⟩ := zrow hP hD 5 6 rfl rfl (by decide) hk hB1
  have hP : va_P D zcl [((h 0), .inr (1, [.ref (h 1), .ref (h 3), .ref (h 5), .ref (h 7), .ref (h 9), .int (nI rt)])), ((h 1), .inr (0, [.ref (h 2), .int (nI n0)])), ((h 2), .inl (cI, 4, .inl f0)), ((h 3), .inr (0, [.ref (h 4), .int (nI n0)])), ((h 4), .inl (cI, 4, .inl f1)), ((h 5), .inr (0, [.ref (h 6), .int (nI (n2 + 1))])), ((h 6), .inl (cI, 40, .inl (upd f2 n2 (nI b)))), ((h 7), .inr (0, [.ref (h 8), .int (nI n3)])), ((h 8), .inl (cI, 120, .inl f3)), ((h 9), .inr (0, [.ref (h 10), .int (nI n4)])), ((h 10), .inl (cI, 160, .inl f4))] H := hP
  have hD : va_D (zAS h) [((h 0), .inr (1, [.ref (h 1), .ref (h 3), .ref (h 5), .ref (h 7), .ref (h 9), .int (nI rt)])), ((h 1), .inr (0, [.ref (h 2), .int (nI n0)])), ((h 2), .inl (cI, 4, .inl f0)), ((h 3), .inr (0, [.ref (h 4), .int (nI n0)])), ((h 4), .inl (cI, 4, .inl f1)), ((h 5), .inr (0, [.ref (h 6), .int (nI (n2 + 1))])), ((h 6), .inl (cI, 40, .inl (upd f2 n2 (nI b)))), ((h 7), .inr (0, [.ref (h 8), .int (nI n3)])), ((h 8), .inl (cI, 120, .inl f3)), ((h 9), .inr (0, [.ref (h 10), .int (nI n4)])), ((h 10), .inl (cI, 160, .inl f4))] := hD
  have hM : zs_hold 256 (upd f2 n2 (nI b)) (zs_push (n2, M) b) := zs_hold_push hM (hb9)
  generalize (upd f2 n2 (nI b)) = fz at hP hD hM
  refine lv_if_eq hx hb d_SF_put_19 (tgt := 26) (by decide) (fun z9 => absurd z9 (by decide)) (fun _ => ?_)
  refine lv_iconst (v := (nI 1)) hx hb d_SF_put_22 (by decide) ?_
  refine lv_goto hx hb d_SF_put_23 (tgt := 27) (by decide) ?_
  exact W.zret (v := (nI 1)) hx hb hr (rfl) (fun t ht _ => ⟨rfl, by rw [ht]; exact ⟨f0, f1, fz, f3, f4, hS0, hA0, hM, hB, hE9, hP⟩, hS.F ht⟩) hS.2.2 d_SF_put_27

set_option maxHeartbeats 4000000 in
set_option maxRecDepth 100000 in
theorem c_SF_put_no (l : Launch) (D : va_G) (cI cC cJ : ClassId) (h : Nat → Nat) (n0 : Nat) (S : Nat → Nat) (n2 : Nat) (M : Nat → Nat) (n3 : Nat) (B : Nat → Nat) (n4 : Nat) (E : Nat → Nat) (rt : Nat) (hh : zs_inj h) (hn0 : n0 ≤ 4) (hn2 : n2 ≤ 40) (hn3 : n3 ≤ 120) (hn4 : n4 ≤ 160) (x : Int32) (hx9 : x < 0 ∨ nI 255 < x ∨ n2 = 40) : Met l y_SF_put (zw k_SF_put) ({ frames := 1, cells := 0, slots := 0, locals := 21 }) (zPc [.ref (h 0), .int x] (fun H => zCl D cI h n0 S n2 M n3 B n4 E rt H) D cI cC cJ) (zQm (some (.int (nI 0))) (fun H => zCl D cI h n0 S n2 M n3 B n4 E rt H) (zAS h)) 0 0 (zAS h) := by
  refine zMet (by decide) (Nat.le_of_ble_eq_true rfl) ?_
  intro p e s m below meth c hx hb hr hg hown hlk hml hB0 hE ls hl
  have hl : lv_has ls 2 [(0, .ref (h 0)), (1, .int x)] := hl
  have hS9 : CallFix p m c b_SF_put 2 s [.ref (h 0), .int x].toArray zg "SealedFiles" := ⟨hx, hb, hml, hown, hg⟩
  obtain ⟨f0, f1, f2, f3, f4, hS0, hA0, hM, hB, hE9, hP⟩ := hB0
  have hP : va_P D zcl [((h 0), .inr (1, [.ref (h 1), .ref (h 3), .ref (h 5), .ref (h 7), .ref (h 9), .int (nI rt)])), ((h 1), .inr (0, [.ref (h 2), .int (nI n0)])), ((h 2), .inl (cI, 4, .inl f0)), ((h 3), .inr (0, [.ref (h 4), .int (nI n0)])), ((h 4), .inl (cI, 4, .inl f1)), ((h 5), .inr (0, [.ref (h 6), .int (nI n2)])), ((h 6), .inl (cI, 40, .inl f2)), ((h 7), .inr (0, [.ref (h 8), .int (nI n3)])), ((h 8), .inl (cI, 120, .inl f3)), ((h 9), .inr (0, [.ref (h 10), .int (nI n4)])), ((h 10), .inl (cI, 160, .inl f4))] s.heap := hP
  have hn1 : n0 ≤ 4 := hn0
  have hD : va_D (zAS h) [((h 0), .inr (1, [.ref (h 1), .ref (h 3), .ref (h 5), .ref (h 7), .ref (h 9), .int (nI rt)])), ((h 1), .inr (0, [.ref (h 2), .int (nI n0)])), ((h 2), .inl (cI, 4, .inl f0)), ((h 3), .inr (0, [.ref (h 4), .int (nI n0)])), ((h 4), .inl (cI, 4, .inl f1)), ((h 5), .inr (0, [.ref (h 6), .int (nI n2)])), ((h 6), .inl (cI, 40, .inl f2)), ((h 7), .inr (0, [.ref (h 8), .int (nI n3)])), ((h 8), .inl (cI, 120, .inl f3)), ((h 9), .inr (0, [.ref (h 10), .int (nI n4)])), ((h 10), .inl (cI, 160, .inl f4))] := zSf_D hh
  have hS : va_S (zAS h) s.heap s.heap [] := va_S.rf
  refine lv_iload_n hx hb d_SF_put_0 rfl (lv_at hl 1 rfl) ?_
  refine lv_if_lt hx hb d_SF_put_1 (tgt := 26) (by decide) (fun g => ?_) (fun g => ?_)
  · refine lv_iconst (v := (nI 0)) hx hb d_SF_put_26 (by decide) ?_
    exact W.zret (v := (nI 0)) hx hb hr (rfl) (fun t ht _ => ⟨rfl, by rw [ht]; exact ⟨f0, f1, f2, f3, f4, hS0, hA0, hM, hB, hE9, hP⟩, hS.F ht⟩) hS.2.2 d_SF_put_27
  · refine lv_iload_n hx hb d_SF_put_4 rfl (lv_at hl 1 rfl) ?_
    refine lv_sipush (v := (nI 255)) hx hb d_SF_put_5 (by decide) ?_
    refine lv_icmp_gt hx hb d_SF_put_8 (tgt := 26) (by decide) (fun g2 => ?_) (fun g2 => ?_)
    · refine lv_iconst (v := (nI 0)) hx hb d_SF_put_26 (by decide) ?_
      exact W.zret (v := (nI 0)) hx hb hr (rfl) (fun t ht _ => ⟨rfl, by rw [ht]; exact ⟨f0, f1, f2, f3, f4, hS0, hA0, hM, hB, hE9, hP⟩, hS.F ht⟩) hS.2.2 d_SF_put_27
    · refine lv_aload_n hx hb d_SF_put_11 rfl (lv_at hl 0 rfl) ?_
      refine va_get (D := D) (ci := 1) (v := .ref (h 5)) (C := R_SF) (T := F_SF) (N := 6) hx hb hg i_SF hown hE.1 hP 0 rfl rfl 2 (by decide) (hg _ zw_42) (fun _ h9 => h9) rfl d_SF_put_12 ?_
      refine lv_iload_n hx hb d_SF_put_15 rfl (lv_at hl 1 rfl) ?_
      have g3 : n2 = 40 := hx9.resolve_left g |>.resolve_left g2
      refine zWr (rest := []) (zrVN hS9 (c_RW_append_full l D cI cC cJ (h 5) (h 6) 40 n2 f2 (by omega) (by decide) (fun z => absurd (hh 5 6 (by decide) (by decide) z) (by decide)) x g3) zc_RW_append (by decide) zw_77 zp_2 (by decide) (va_recv hE.1 hP (ci := 0) (q := (R_RW, F_RW, 2)) rfl (q0 := 5) rfl) (hP.sub [5, 6] rfl) hE rfl hl.1 rfl (Nat.le_of_ble_eq_true rfl) d_SF_put_16) hS (fun q _ h => zA2_in hD 5 6 rfl rfl q h) (fun q h => zA2_in hD 5 6 rfl rfl q h) (fun H locs hB1 hz hk hS => ?_)
      obtain ⟨hP, hD⟩ := zrow hP hD 5 6 rfl rfl (by decide) hk hB1
      have hP : va_P D zcl [((h 0), .inr (1, [.ref (h 1), .ref (h 3), .ref (h 5), .ref (h 7), .ref (h 9), .int (nI rt)])), ((h 1), .inr (0, [.ref (h 2), .int (nI n0)])), ((h 2), .inl (cI, 4, .inl f0)), ((h 3), .inr (0, [.ref (h 4), .int (nI n0)])), ((h 4), .inl (cI, 4, .inl f1)), ((h 5), .inr (0, [.ref (h 6), .int (nI n2)])), ((h 6), .inl (cI, 40, .inl f2)), ((h 7), .inr (0, [.ref (h 8), .int (nI n3)])), ((h 8), .inl (cI, 120, .inl f3)), ((h 9), .inr (0, [.ref (h 10), .int (nI n4)])), ((h 10), .inl (cI, 160, .inl f4))] H := hP
      have hD : va_D (zAS h) [((h 0), .inr (1, [.ref (h 1), .ref (h 3), .ref (h 5), .ref (h 7), .ref (h 9), .int (nI rt)])), ((h 1), .inr (0, [.ref (h 2), .int (nI n0)])), ((h 2), .inl (cI, 4, .inl f0)), ((h 3), .inr (0, [.ref (h 4), .int (nI n0)])), ((h 4), .inl (cI, 4, .inl f1)), ((h 5), .inr (0, [.ref (h 6), .int (nI n2)])), ((h 6), .inl (cI, 40, .inl f2)), ((h 7), .inr (0, [.ref (h 8), .int (nI n3)])), ((h 8), .inl (cI, 120, .inl f3)), ((h 9), .inr (0, [.ref (h 10), .int (nI n4)])), ((h 10), .inl (cI, 160, .inl f4))] := hD
      refine lv_if_eq hx hb d_SF_put_19 (tgt := 26) (by decide) (fun _ => ?_) (fun z9 => absurd (by decide) z9)
      refine lv_iconst (v := (nI 0)) hx hb d_SF_put_26 (by decide) ?_
      exact W.zret (v := (nI 0)) hx hb hr (rfl) (fun t ht _ => ⟨rfl, by rw [ht]; exact ⟨f0, f1, f2, f3, f4, hS0, hA0, hM, hB, hE9, hP⟩, hS.F ht⟩) hS.2.2 d_SF_put_27

set_option maxHeartbeats 4000000 in
set_option maxRecDepth 100000 in
theorem c_SF_clear (l : Launch) (D : va_G) (cI cC cJ : ClassId) (h : Nat → Nat) (n0 : Nat) (S : Nat → Nat) (n2 : Nat) (M : Nat → Nat) (n3 : Nat) (B : Nat → Nat) (n4 : Nat) (E : Nat → Nat) (rt : Nat) (hh : zs_inj h) (hn0 : n0 ≤ 4) (hn2 : n2 ≤ 40) (hn3 : n3 ≤ 120) (hn4 : n4 ≤ 160) : Met l y_SF_clear (zw k_SF_clear) ({ frames := 1, cells := 0, slots := 0, locals := 21 }) (zPc [.ref (h 0)] (fun H => zCl D cI h n0 S n2 M n3 B n4 E rt H) D cI cC cJ) (zQm (some (.int (nI n2))) (fun H => zCl D cI h n0 S 0 M n3 B n4 E rt H) (zAS h)) 0 0 (zAS h) := by
  refine zMet (by decide) (Nat.le_of_ble_eq_true rfl) ?_
  intro p e s m below meth c hx hb hr hg hown hlk hml hB0 hE ls hl
  have hl : lv_has ls 2 [(0, .ref (h 0))] := hl
  have hS9 : CallFix p m c b_SF_clear 2 s [.ref (h 0)].toArray zg "SealedFiles" := ⟨hx, hb, hml, hown, hg⟩
  obtain ⟨f0, f1, f2, f3, f4, hS0, hA0, hM, hB, hE9, hP⟩ := hB0
  have hP : va_P D zcl [((h 0), .inr (1, [.ref (h 1), .ref (h 3), .ref (h 5), .ref (h 7), .ref (h 9), .int (nI rt)])), ((h 1), .inr (0, [.ref (h 2), .int (nI n0)])), ((h 2), .inl (cI, 4, .inl f0)), ((h 3), .inr (0, [.ref (h 4), .int (nI n0)])), ((h 4), .inl (cI, 4, .inl f1)), ((h 5), .inr (0, [.ref (h 6), .int (nI n2)])), ((h 6), .inl (cI, 40, .inl f2)), ((h 7), .inr (0, [.ref (h 8), .int (nI n3)])), ((h 8), .inl (cI, 120, .inl f3)), ((h 9), .inr (0, [.ref (h 10), .int (nI n4)])), ((h 10), .inl (cI, 160, .inl f4))] s.heap := hP
  have hn1 : n0 ≤ 4 := hn0
  have hD : va_D (zAS h) [((h 0), .inr (1, [.ref (h 1), .ref (h 3), .ref (h 5), .ref (h 7), .ref (h 9), .int (nI rt)])), ((h 1), .inr (0, [.ref (h 2), .int (nI n0)])), ((h 2), .inl (cI, 4, .inl f0)), ((h 3), .inr (0, [.ref (h 4), .int (nI n0)])), ((h 4), .inl (cI, 4, .inl f1)), ((h 5), .inr (0, [.ref (h 6), .int (nI n2)])), ((h 6), .inl (cI, 40, .inl f2)), ((h 7), .inr (0, [.ref (h 8), .int (nI n3)])), ((h 8), .inl (cI, 120, .inl f3)), ((h 9), .inr (0, [.ref (h 10), .int (nI n4)])), ((h 10), .inl (cI, 160, .inl f4))] := zSf_D hh
  have hS : va_S (zAS h) s.heap s.heap [] := va_S.rf
  refine lv_aload_n hx hb d_SF_clear_0 rfl (lv_at hl 0 rfl) ?_
  refine va_get (D := D) (ci := 1) (v := .ref (h 5)) (C := R_SF) (T := F_SF) (N := 6) hx hb hg i_SF hown hE.1 hP 0 rfl rfl 2 (by decide) (hg _ zw_42) (fun _ h9 => h9) rfl d_SF_clear_1 ?_
  refine zRd (rest := []) (zrVN hS9 (c_RW_size l D cI cC cJ (h 5) (h 6) 40 n2 f2 (by omega) (by decide)) zc_RW_size (by decide) zw_85 zp_3 (by decide) (va_recv hE.1 hP (ci := 0) (q := (R_RW, F_RW, 2)) rfl (q0 := 5) rfl) (hP.sub [5, 6] rfl) hE rfl hl.1 rfl (Nat.le_of_ble_eq_true rfl) d_SF_clear_4) ?_
  refine lv_istore_n hx hb d_SF_clear_7 rfl hl (by decide) (lv' := [(1, .int (nI n2)), (0, .ref (h 0))]) rfl (fun ls hl => ?_)
  refine lv_aload_n hx hb d_SF_clear_8 rfl (lv_at hl 1 rfl) ?_
  refine va_get (D := D) (ci := 1) (v := .ref (h 5)) (C := R_SF) (T := F_SF) (N := 6) hx hb hg i_SF hown hE.1 hP 0 rfl rfl 2 (by decide) (hg _ zw_42) (fun _ h9 => h9) rfl d_SF_clear_9 ?_
  refine lv_iconst (v := (nI 0)) hx hb d_SF_clear_12 (by decide) ?_
  refine zWr (rest := []) (zrVN hS9 (c_RW_clear l D cI cC cJ (h 5) (h 6) 40 n2 f2 (by omega) (by decide) (fun z => absurd (hh 5 6 (by decide) (by decide) z) (by decide))) zc_RW_shorten (by decide) zw_89 zp_4 (by decide) (va_recv hE.1 hP (ci := 0) (q := (R_RW, F_RW, 2)) rfl (q0 := 5) rfl) (hP.sub [5, 6] rfl) hE rfl hl.1 rfl (Nat.le_of_ble_eq_true rfl) d_SF_clear_13) hS (fun q _ h => zA2_in hD 5 6 rfl rfl q h) (fun q h => zA2_in hD 5 6 rfl rfl q h) (fun H locs hB1 hz hk hS => ?_)
  obtain ⟨hP, hD⟩ := zrow hP hD 5 6 rfl rfl (by decide) hk hB1
  have hP : va_P D zcl [((h 0), .inr (1, [.ref (h 1), .ref (h 3), .ref (h 5), .ref (h 7), .ref (h 9), .int (nI rt)])), ((h 1), .inr (0, [.ref (h 2), .int (nI n0)])), ((h 2), .inl (cI, 4, .inl f0)), ((h 3), .inr (0, [.ref (h 4), .int (nI n0)])), ((h 4), .inl (cI, 4, .inl f1)), ((h 5), .inr (0, [.ref (h 6), .int (nI 0)])), ((h 6), .inl (cI, 40, .inl f2)), ((h 7), .inr (0, [.ref (h 8), .int (nI n3)])), ((h 8), .inl (cI, 120, .inl f3)), ((h 9), .inr (0, [.ref (h 10), .int (nI n4)])), ((h 10), .inl (cI, 160, .inl f4))] H := hP
  have hD : va_D (zAS h) [((h 0), .inr (1, [.ref (h 1), .ref (h 3), .ref (h 5), .ref (h 7), .ref (h 9), .int (nI rt)])), ((h 1), .inr (0, [.ref (h 2), .int (nI n0)])), ((h 2), .inl (cI, 4, .inl f0)), ((h 3), .inr (0, [.ref (h 4), .int (nI n0)])), ((h 4), .inl (cI, 4, .inl f1)), ((h 5), .inr (0, [.ref (h 6), .int (nI 0)])), ((h 6), .inl (cI, 40, .inl f2)), ((h 7), .inr (0, [.ref (h 8), .int (nI n3)])), ((h 8), .inl (cI, 120, .inl f3)), ((h 9), .inr (0, [.ref (h 10), .int (nI n4)])), ((h 10), .inl (cI, 160, .inl f4))] := hD
  refine lv_pop hx hb d_SF_clear_16 rfl ?_
  refine lv_iload_n hx hb d_SF_clear_17 rfl (lv_at hl 0 rfl) ?_
  exact W.iret (v := (nI n2)) hx hb hr (fun t ht _ => ⟨rfl, by rw [ht]; exact ⟨f0, f1, f2, f3, f4, hS0, hA0, zs_hold_0, hB, hE9, hP⟩, hS.F ht⟩) hS.2.2 d_SF_clear_18

set_option maxHeartbeats 4000000 in
set_option maxRecDepth 100000 in
theorem c_SF_cut_ok (l : Launch) (D : va_G) (cI cC cJ : ClassId) (h : Nat → Nat) (n0 : Nat) (S : Nat → Nat) (n2 : Nat) (M : Nat → Nat) (n3 : Nat) (B : Nat → Nat) (n4 : Nat) (E : Nat → Nat) (rt : Nat) (hh : zs_inj h) (hn0 : n0 ≤ 4) (hn2 : n2 ≤ 40) (hn3 : n3 ≤ 120) (hn4 : n4 ≤ 160) (j : Nat) (hj : j < n3) : Met l y_SF_cut (zw k_SF_cut) ({ frames := 1, cells := 0, slots := 0, locals := 21 }) (zPc [.ref (h 0), .int (nI j)] (fun H => zCl D cI h n0 S n2 M n3 B n4 E rt H) D cI cC cJ) (zQm (some (.int (nI 1))) (fun H => zCl D cI h n0 S n2 M j B n4 E rt H) (zAS h)) 0 0 (zAS h) := by
  refine zMet (by decide) (Nat.le_of_ble_eq_true rfl) ?_
  intro p e s m below meth c hx hb hr hg hown hlk hml hB0 hE ls hl
  have hl : lv_has ls 2 [(0, .ref (h 0)), (1, .int (nI j))] := hl
  have hS9 : CallFix p m c b_SF_cut 2 s [.ref (h 0), .int (nI j)].toArray zg "SealedFiles" := ⟨hx, hb, hml, hown, hg⟩
  obtain ⟨f0, f1, f2, f3, f4, hS0, hA0, hM, hB, hE9, hP⟩ := hB0
  have hP : va_P D zcl [((h 0), .inr (1, [.ref (h 1), .ref (h 3), .ref (h 5), .ref (h 7), .ref (h 9), .int (nI rt)])), ((h 1), .inr (0, [.ref (h 2), .int (nI n0)])), ((h 2), .inl (cI, 4, .inl f0)), ((h 3), .inr (0, [.ref (h 4), .int (nI n0)])), ((h 4), .inl (cI, 4, .inl f1)), ((h 5), .inr (0, [.ref (h 6), .int (nI n2)])), ((h 6), .inl (cI, 40, .inl f2)), ((h 7), .inr (0, [.ref (h 8), .int (nI n3)])), ((h 8), .inl (cI, 120, .inl f3)), ((h 9), .inr (0, [.ref (h 10), .int (nI n4)])), ((h 10), .inl (cI, 160, .inl f4))] s.heap := hP
  have hn1 : n0 ≤ 4 := hn0
  have hD : va_D (zAS h) [((h 0), .inr (1, [.ref (h 1), .ref (h 3), .ref (h 5), .ref (h 7), .ref (h 9), .int (nI rt)])), ((h 1), .inr (0, [.ref (h 2), .int (nI n0)])), ((h 2), .inl (cI, 4, .inl f0)), ((h 3), .inr (0, [.ref (h 4), .int (nI n0)])), ((h 4), .inl (cI, 4, .inl f1)), ((h 5), .inr (0, [.ref (h 6), .int (nI n2)])), ((h 6), .inl (cI, 40, .inl f2)), ((h 7), .inr (0, [.ref (h 8), .int (nI n3)])), ((h 8), .inl (cI, 120, .inl f3)), ((h 9), .inr (0, [.ref (h 10), .int (nI n4)])), ((h 10), .inl (cI, 160, .inl f4))] := zSf_D hh
  have hS : va_S (zAS h) s.heap s.heap [] := va_S.rf
  refine lv_aload_n hx hb d_SF_cut_0 rfl (lv_at hl 0 rfl) ?_
  refine va_get (D := D) (ci := 1) (v := .ref (h 7)) (C := R_SF) (T := F_SF) (N := 6) hx hb hg i_SF hown hE.1 hP 0 rfl rfl 3 (by decide) (hg _ zw_43) (fun _ h9 => h9) rfl d_SF_cut_1 ?_
  refine lv_iload_n hx hb d_SF_cut_4 rfl (lv_at hl 1 rfl) ?_
  refine zWr (rest := []) (zrVN hS9 (c_RW_shorten l D cI cC cJ (h 7) (h 8) 120 n3 f3 (by omega) (by decide) (fun z => absurd (hh 7 8 (by decide) (by decide) z) (by decide)) j hj) zc_RW_shorten (by decide) zw_89 zp_4 (by decide) (va_recv hE.1 hP (ci := 0) (q := (R_RW, F_RW, 2)) rfl (q0 := 7) rfl) (hP.sub [7, 8] rfl) hE rfl hl.1 rfl (Nat.le_of_ble_eq_true rfl) d_SF_cut_5) hS (fun q _ h => zA2_in hD 7 8 rfl rfl q h) (fun q h => zA2_in hD 7 8 rfl rfl q h) (fun H locs hB1 hz hk hS => ?_)
  obtain ⟨hP, hD⟩ := zrow hP hD 7 8 rfl rfl (by decide) hk hB1
  have hP : va_P D zcl [((h 0), .inr (1, [.ref (h 1), .ref (h 3), .ref (h 5), .ref (h 7), .ref (h 9), .int (nI rt)])), ((h 1), .inr (0, [.ref (h 2), .int (nI n0)])), ((h 2), .inl (cI, 4, .inl f0)), ((h 3), .inr (0, [.ref (h 4), .int (nI n0)])), ((h 4), .inl (cI, 4, .inl f1)), ((h 5), .inr (0, [.ref (h 6), .int (nI n2)])), ((h 6), .inl (cI, 40, .inl f2)), ((h 7), .inr (0, [.ref (h 8), .int (nI j)])), ((h 8), .inl (cI, 120, .inl f3)), ((h 9), .inr (0, [.ref (h 10), .int (nI n4)])), ((h 10), .inl (cI, 160, .inl f4))] H := hP
  have hD : va_D (zAS h) [((h 0), .inr (1, [.ref (h 1), .ref (h 3), .ref (h 5), .ref (h 7), .ref (h 9), .int (nI rt)])), ((h 1), .inr (0, [.ref (h 2), .int (nI n0)])), ((h 2), .inl (cI, 4, .inl f0)), ((h 3), .inr (0, [.ref (h 4), .int (nI n0)])), ((h 4), .inl (cI, 4, .inl f1)), ((h 5), .inr (0, [.ref (h 6), .int (nI n2)])), ((h 6), .inl (cI, 40, .inl f2)), ((h 7), .inr (0, [.ref (h 8), .int (nI j)])), ((h 8), .inl (cI, 120, .inl f3)), ((h 9), .inr (0, [.ref (h 10), .int (nI n4)])), ((h 10), .inl (cI, 160, .inl f4))] := hD
  exact W.zret (v := (nI 1)) hx hb hr (rfl) (fun t ht _ => ⟨rfl, by rw [ht]; exact ⟨f0, f1, f2, f3, f4, hS0, hA0, hM, zs_hold_cut hB (Nat.le_of_lt hj), hE9, hP⟩, hS.F ht⟩) hS.2.2 d_SF_cut_8

set_option maxHeartbeats 4000000 in
set_option maxRecDepth 100000 in
theorem c_SF_cut_no (l : Launch) (D : va_G) (cI cC cJ : ClassId) (h : Nat → Nat) (n0 : Nat) (S : Nat → Nat) (n2 : Nat) (M : Nat → Nat) (n3 : Nat) (B : Nat → Nat) (n4 : Nat) (E : Nat → Nat) (rt : Nat) (hh : zs_inj h) (hn0 : n0 ≤ 4) (hn2 : n2 ≤ 40) (hn3 : n3 ≤ 120) (hn4 : n4 ≤ 160) (x : Int32) (hx9 : x < 0 ∨ nI n3 ≤ x) : Met l y_SF_cut (zw k_SF_cut) ({ frames := 1, cells := 0, slots := 0, locals := 21 }) (zPc [.ref (h 0), .int x] (fun H => zCl D cI h n0 S n2 M n3 B n4 E rt H) D cI cC cJ) (zQm (some (.int (nI 0))) (fun H => zCl D cI h n0 S n2 M n3 B n4 E rt H) (zAS h)) 0 0 (zAS h) := by
  refine zMet (by decide) (Nat.le_of_ble_eq_true rfl) ?_
  intro p e s m below meth c hx hb hr hg hown hlk hml hB0 hE ls hl
  have hl : lv_has ls 2 [(0, .ref (h 0)), (1, .int x)] := hl
  have hS9 : CallFix p m c b_SF_cut 2 s [.ref (h 0), .int x].toArray zg "SealedFiles" := ⟨hx, hb, hml, hown, hg⟩
  obtain ⟨f0, f1, f2, f3, f4, hS0, hA0, hM, hB, hE9, hP⟩ := hB0
  have hP : va_P D zcl [((h 0), .inr (1, [.ref (h 1), .ref (h 3), .ref (h 5), .ref (h 7), .ref (h 9), .int (nI rt)])), ((h 1), .inr (0, [.ref (h 2), .int (nI n0)])), ((h 2), .inl (cI, 4, .inl f0)), ((h 3), .inr (0, [.ref (h 4), .int (nI n0)])), ((h 4), .inl (cI, 4, .inl f1)), ((h 5), .inr (0, [.ref (h 6), .int (nI n2)])), ((h 6), .inl (cI, 40, .inl f2)), ((h 7), .inr (0, [.ref (h 8), .int (nI n3)])), ((h 8), .inl (cI, 120, .inl f3)), ((h 9), .inr (0, [.ref (h 10), .int (nI n4)])), ((h 10), .inl (cI, 160, .inl f4))] s.heap := hP
  have hn1 : n0 ≤ 4 := hn0
  have hD : va_D (zAS h) [((h 0), .inr (1, [.ref (h 1), .ref (h 3), .ref (h 5), .ref (h 7), .ref (h 9), .int (nI rt)])), ((h 1), .inr (0, [.ref (h 2), .int (nI n0)])), ((h 2), .inl (cI, 4, .inl f0)), ((h 3), .inr (0, [.ref (h 4), .int (nI n0)])), ((h 4), .inl (cI, 4, .inl f1)), ((h 5), .inr (0, [.ref (h 6), .int (nI n2)])), ((h 6), .inl (cI, 40, .inl f2)), ((h 7), .inr (0, [.ref (h 8), .int (nI n3)])), ((h 8), .inl (cI, 120, .inl f3)), ((h 9), .inr (0, [.ref (h 10), .int (nI n4)])), ((h 10), .inl (cI, 160, .inl f4))] := zSf_D hh
  have hS : va_S (zAS h) s.heap s.heap [] := va_S.rf
  refine lv_aload_n hx hb d_SF_cut_0 rfl (lv_at hl 0 rfl) ?_
  refine va_get (D := D) (ci := 1) (v := .ref (h 7)) (C := R_SF) (T := F_SF) (N := 6) hx hb hg i_SF hown hE.1 hP 0 rfl rfl 3 (by decide) (hg _ zw_43) (fun _ h9 => h9) rfl d_SF_cut_1 ?_
  refine lv_iload_n hx hb d_SF_cut_4 rfl (lv_at hl 1 rfl) ?_
  refine zWr (rest := []) (zrVN hS9 (c_RW_shorten_no l D cI cC cJ (h 7) (h 8) 120 n3 f3 (by omega) (by decide) (fun z => absurd (hh 7 8 (by decide) (by decide) z) (by decide)) x hx9) zc_RW_shorten (by decide) zw_89 zp_4 (by decide) (va_recv hE.1 hP (ci := 0) (q := (R_RW, F_RW, 2)) rfl (q0 := 7) rfl) (hP.sub [7, 8] rfl) hE rfl hl.1 rfl (Nat.le_of_ble_eq_true rfl) d_SF_cut_5) hS (fun q _ h => zA2_in hD 7 8 rfl rfl q h) (fun q h => zA2_in hD 7 8 rfl rfl q h) (fun H locs hB1 hz hk hS => ?_)
  obtain ⟨hP, hD⟩ := zrow hP hD 7 8 rfl rfl (by decide) hk hB1
  have hP : va_P D zcl [((h 0), .inr (1, [.ref (h 1), .ref (h 3), .ref (h 5), .ref (h 7), .ref (h 9), .int (nI rt)])), ((h 1), .inr (0, [.ref (h 2), .int (nI n0)])), ((h 2), .inl (cI, 4, .inl f0)), ((h 3), .inr (0, [.ref (h 4), .int (nI n0)])), ((h 4), .inl (cI, 4, .inl f1)), ((h 5), .inr (0, [.ref (h 6), .int (nI n2)])), ((h 6), .inl (cI, 40, .inl f2)), ((h 7), .inr (0, [.ref (h 8), .int (nI n3)])), ((h 8), .inl (cI, 120, .inl f3)), ((h 9), .inr (0, [.ref (h 10), .int (nI n4)])), ((h 10), .inl (cI, 160, .inl f4))] H := hP
  have hD : va_D (zAS h) [((h 0), .inr (1, [.ref (h 1), .ref (h 3), .ref (h 5), .ref (h 7), .ref (h 9), .int (nI rt)])), ((h 1), .inr (0, [.ref (h 2), .int (nI n0)])), ((h 2), .inl (cI, 4, .inl f0)), ((h 3), .inr (0, [.ref (h 4), .int (nI n0)])), ((h 4), .inl (cI, 4, .inl f1)), ((h 5), .inr (0, [.ref (h 6), .int (nI n2)])), ((h 6), .inl (cI, 40, .inl f2)), ((h 7), .inr (0, [.ref (h 8), .int (nI n3)])), ((h 8), .inl (cI, 120, .inl f3)), ((h 9), .inr (0, [.ref (h 10), .int (nI n4)])), ((h 10), .inl (cI, 160, .inl f4))] := hD
  exact W.zret (v := (nI 0)) hx hb hr (rfl) (fun t ht _ => ⟨rfl, by rw [ht]; exact ⟨f0, f1, f2, f3, f4, hS0, hA0, hM, hB, hE9, hP⟩, hS.F ht⟩) hS.2.2 d_SF_cut_8

