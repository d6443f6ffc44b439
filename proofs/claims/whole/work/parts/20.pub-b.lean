set_option maxHeartbeats 4000000 in
set_option maxRecDepth 100000 in
theorem c_SF_key_ok (l : Launch) (D : va_G) (cI cC cJ : ClassId) (h : Nat → Nat) (n0 : Nat) (S : Nat → Nat) (n2 : Nat) (M : Nat → Nat) (n3 : Nat) (B : Nat → Nat) (n4 : Nat) (E : Nat → Nat) (rt : Nat) (hh : zs_inj h) (hn0 : n0 ≤ 4) (hn2 : n2 ≤ 40) (hn3 : n3 ≤ 120) (hn4 : n4 ≤ 160) (x : Nat) (hx1 : 2 ≤ x) (hx2 : x ≤ 32747) (hr9 : n0 < 4) : Met l y_SF_key (zw k_SF_key) ({ frames := 5, cells := 0, slots := 0, locals := 90 }) (zPc [.ref (h 0), .int (nI x)] (fun H => zCl D cI h n0 S n2 M n3 B n4 E rt H) D cI cC cJ) (zQm (some (.int (nI n0))) (fun H => zCl D cI h (n0 + 1) (zs_push (n0, S) x).2 n2 M n3 B n4 E rt H) (zAS h)) 0 0 (zAS h) := by
  refine zMet (by decide) (Nat.le_of_ble_eq_true rfl) ?_
  intro p e s m below meth c hx hb hr hg hown hlk hml hB0 hE ls hl
  have hl : lv_has ls 2 [(0, .ref (h 0)), (1, .int (nI x))] := hl
  have hS9 : CallFix p m c b_SF_key 2 s [.ref (h 0), .int (nI x)].toArray zg "SealedFiles" := ⟨hx, hb, hml, hown, hg⟩
  obtain ⟨f0, f1, f2, f3, f4, hS0, hA0, hM, hB, hE9, hP⟩ := hB0
  have hP : va_P D zcl [((h 0), .inr (1, [.ref (h 1), .ref (h 3), .ref (h 5), .ref (h 7), .ref (h 9), .int (nI rt)])), ((h 1), .inr (0, [.ref (h 2), .int (nI n0)])), ((h 2), .inl (cI, 4, .inl f0)), ((h 3), .inr (0, [.ref (h 4), .int (nI n0)])), ((h 4), .inl (cI, 4, .inl f1)), ((h 5), .inr (0, [.ref (h 6), .int (nI n2)])), ((h 6), .inl (cI, 40, .inl f2)), ((h 7), .inr (0, [.ref (h 8), .int (nI n3)])), ((h 8), .inl (cI, 120, .inl f3)), ((h 9), .inr (0, [.ref (h 10), .int (nI n4)])), ((h 10), .inl (cI, 160, .inl f4))] s.heap := hP
  have hn1 : n0 ≤ 4 := hn0
  have hD : va_D (zAS h) [((h 0), .inr (1, [.ref (h 1), .ref (h 3), .ref (h 5), .ref (h 7), .ref (h 9), .int (nI rt)])), ((h 1), .inr (0, [.ref (h 2), .int (nI n0)])), ((h 2), .inl (cI, 4, .inl f0)), ((h 3), .inr (0, [.ref (h 4), .int (nI n0)])), ((h 4), .inl (cI, 4, .inl f1)), ((h 5), .inr (0, [.ref (h 6), .int (nI n2)])), ((h 6), .inl (cI, 40, .inl f2)), ((h 7), .inr (0, [.ref (h 8), .int (nI n3)])), ((h 8), .inl (cI, 120, .inl f3)), ((h 9), .inr (0, [.ref (h 10), .int (nI n4)])), ((h 10), .inl (cI, 160, .inl f4))] := zSf_D hh
  have hS : va_S (zAS h) s.heap s.heap [] := va_S.rf
  refine lv_iload_n hx hb d_SF_key_0 rfl (lv_at hl 1 rfl) ?_
  refine lv_iconst (v := (nI 2)) hx hb d_SF_key_1 (by decide) ?_
  refine lv_icmp_lt hx hb d_SF_key_2 (tgt := 12) (by decide) (fun z9 => absurd z9 (nI_nlt (by omega) (by omega))) (fun _ => ?_)
  refine lv_iload_n hx hb d_SF_key_5 rfl (lv_at hl 1 rfl) ?_
  refine lv_sipush (v := (nI 32747)) hx hb d_SF_key_6 (by decide) ?_
  refine lv_icmp_le hx hb d_SF_key_9 (tgt := 22) (by decide) (fun _ => ?_) (fun z9 => absurd (nI_le (by omega) (by omega)) z9)
  refine lv_aload_n hx hb d_SF_key_22 rfl (lv_at hl 0 rfl) ?_
  refine va_get (D := D) (ci := 1) (v := .ref (h 1)) (C := R_SF) (T := F_SF) (N := 6) hx hb hg i_SF hown hE.1 hP 0 rfl rfl 0 (by decide) (hg _ zw_40) (fun _ h9 => h9) rfl d_SF_key_23 ?_
  refine lv_iload_n hx hb d_SF_key_26 rfl (lv_at hl 1 rfl) ?_
  refine zWr (rest := []) (zrVN hS9 (c_RW_append l D cI cC cJ (h 1) (h 2) 4 n0 f0 (by omega) (by decide) (fun z => absurd (hh 1 2 (by decide) (by decide) z) (by decide)) (nI x) (hr9)) zc_RW_append (by decide) zw_77 zp_2 (by decide) (va_recv hE.1 hP (ci := 0) (q := (R_RW, F_RW, 2)) rfl (q0 := 1) rfl) (hP.sub [1, 2] rfl) hE rfl hl.1 rfl (Nat.le_of_ble_eq_true rfl) d_SF_key_27) hS (fun q _ h => zA2_in hD 1 2 rfl rfl q h) (fun q h => zA2_in hD 1 2 rfl rfl q h) (fun H locs hB1 hz hk hS => ?_)
  obtain ⟨hP, hD⟩ := zrow hP hD 1 2 rfl rfl (by decide) hk hB1
  have hP : va_P D zcl [((h 0), .inr (1, [.ref (h 1), .ref (h 3), .ref (h 5), .ref (h 7), .ref (h 9), .int (nI rt)])), ((h 1), .inr (0, [.ref (h 2), .int (nI (n0 + 1))])), ((h 2), .inl (cI, 4, .inl (upd f0 n0 (nI x)))), ((h 3), .inr (0, [.ref (h 4), .int (nI n0)])), ((h 4), .inl (cI, 4, .inl f1)), ((h 5), .inr (0, [.ref (h 6), .int (nI n2)])), ((h 6), .inl (cI, 40, .inl f2)), ((h 7), .inr (0, [.ref (h 8), .int (nI n3)])), ((h 8), .inl (cI, 120, .inl f3)), ((h 9), .inr (0, [.ref (h 10), .int (nI n4)])), ((h 10), .inl (cI, 160, .inl f4))] H := hP
  have hD : va_D (zAS h) [((h 0), .inr (1, [.ref (h 1), .ref (h 3), .ref (h 5), .ref (h 7), .ref (h 9), .int (nI rt)])), ((h 1), .inr (0, [.ref (h 2), .int (nI (n0 + 1))])), ((h 2), .inl (cI, 4, .inl (upd f0 n0 (nI x)))), ((h 3), .inr (0, [.ref (h 4), .int (nI n0)])), ((h 4), .inl (cI, 4, .inl f1)), ((h 5), .inr (0, [.ref (h 6), .int (nI n2)])), ((h 6), .inl (cI, 40, .inl f2)), ((h 7), .inr (0, [.ref (h 8), .int (nI n3)])), ((h 8), .inl (cI, 120, .inl f3)), ((h 9), .inr (0, [.ref (h 10), .int (nI n4)])), ((h 10), .inl (cI, 160, .inl f4))] := hD
  have hS0 : zs_hold 32748 (upd f0 n0 (nI x)) (zs_push (n0, S) x) := zs_hold_push hS0 (by omega)
  generalize (upd f0 n0 (nI x)) = f0z at hP hD hS0
  refine lv_if_ne hx hb d_SF_key_30 (tgt := 43) (by decide) (fun _ => ?_) (fun z9 => absurd z9 (by decide))
  refine lv_aload_n hx hb d_SF_key_43 rfl (lv_at hl 0 rfl) ?_
  refine va_get (D := D) (ci := 1) (v := .ref (h 3)) (C := R_SF) (T := F_SF) (N := 6) hx hb hg i_SF hown hE.1 hP 0 rfl rfl 1 (by decide) (hg _ zw_41) (fun _ h9 => h9) rfl d_SF_key_44 ?_
  refine lv_iconst (v := (nI 2)) hx hb d_SF_key_47 (by decide) ?_
  refine lv_iload_n hx hb d_SF_key_48 rfl (lv_at hl 1 rfl) ?_
  refine zRd (rest := [.ref (h 3)]) (zrSN hS9 (c_NU_power l D cI cC cJ 2 x (by decide) (by omega)) zc_NU_power (by decide) zw_317 (by decide) (trivial) hE rfl hl.1 rfl (Nat.le_of_ble_eq_true rfl) d_SF_key_49) ?_
  refine zWr (rest := []) (zrVN hS9 (c_RW_append l D cI cC cJ (h 3) (h 4) 4 n0 f1 (by omega) (by decide) (fun z => absurd (hh 3 4 (by decide) (by decide) z) (by decide)) (nI (zs_pw 2 x)) hr9) zc_RW_append (by decide) zw_77 zp_2 (by decide) (va_recv hE.1 hP (ci := 0) (q := (R_RW, F_RW, 2)) rfl (q0 := 3) rfl) (hP.sub [3, 4] rfl) hE rfl hl.1 rfl (Nat.le_of_ble_eq_true rfl) d_SF_key_52) hS (fun q _ h => zA2_in hD 3 4 rfl rfl q h) (fun q h => zA2_in hD 3 4 rfl rfl q h) (fun H locs hB1 hz hk hS => ?_)
  obtain ⟨hP, hD⟩ := zrow hP hD 3 4 rfl rfl (by decide) hk hB1
  have hP : va_P D zcl [((h 0), .inr (1, [.ref (h 1), .ref (h 3), .ref (h 5), .ref (h 7), .ref (h 9), .int (nI rt)])), ((h 1), .inr (0, [.ref (h 2), .int (nI (n0 + 1))])), ((h 2), .inl (cI, 4, .inl f0z)), ((h 3), .inr (0, [.ref (h 4), .int (nI (n0 + 1))])), ((h 4), .inl (cI, 4, .inl (upd f1 n0 (nI (zs_pw 2 x))))), ((h 5), .inr (0, [.ref (h 6), .int (nI n2)])), ((h 6), .inl (cI, 40, .inl f2)), ((h 7), .inr (0, [.ref (h 8), .int (nI n3)])), ((h 8), .inl (cI, 120, .inl f3)), ((h 9), .inr (0, [.ref (h 10), .int (nI n4)])), ((h 10), .inl (cI, 160, .inl f4))] H := hP
  have hD : va_D (zAS h) [((h 0), .inr (1, [.ref (h 1), .ref (h 3), .ref (h 5), .ref (h 7), .ref (h 9), .int (nI rt)])), ((h 1), .inr (0, [.ref (h 2), .int (nI (n0 + 1))])), ((h 2), .inl (cI, 4, .inl f0z)), ((h 3), .inr (0, [.ref (h 4), .int (nI (n0 + 1))])), ((h 4), .inl (cI, 4, .inl (upd f1 n0 (nI (zs_pw 2 x))))), ((h 5), .inr (0, [.ref (h 6), .int (nI n2)])), ((h 6), .inl (cI, 40, .inl f2)), ((h 7), .inr (0, [.ref (h 8), .int (nI n3)])), ((h 8), .inl (cI, 120, .inl f3)), ((h 9), .inr (0, [.ref (h 10), .int (nI n4)])), ((h 10), .inl (cI, 160, .inl f4))] := hD
  have hA0 := zo_adr (x := x) hA0
  refine lv_pop hx hb d_SF_key_55 rfl ?_
  refine lv_aload_n hx hb d_SF_key_56 rfl (lv_at hl 0 rfl) ?_
  refine va_get (D := D) (ci := 1) (v := .ref (h 1)) (C := R_SF) (T := F_SF) (N := 6) hx hb hg i_SF hown hE.1 hP 0 rfl rfl 0 (by decide) (hg _ zw_40) (fun _ h9 => h9) rfl d_SF_key_57 ?_
  refine zRd (rest := []) (zrVN hS9 (c_RW_size l D cI cC cJ (h 1) (h 2) 4 (n0 + 1) f0z (by omega) (by decide)) zc_RW_size (by decide) zw_85 zp_3 (by decide) (va_recv hE.1 hP (ci := 0) (q := (R_RW, F_RW, 2)) rfl (q0 := 1) rfl) (hP.sub [1, 2] rfl) hE rfl hl.1 rfl (Nat.le_of_ble_eq_true rfl) d_SF_key_60) ?_
  refine lv_iconst (v := (nI 1)) hx hb d_SF_key_63 (by decide) ?_
  refine lv_isub hx hb d_SF_key_64 ?_
  exact W.iret (v := ((nI (n0 + 1)) - (nI 1))) hx hb hr (fun t ht _ => ⟨congrArg (fun z => Outcome.returned (some (Value.int z))) (pk_sub (by omega)), by rw [ht]; exact ⟨f0z, (upd f1 n0 (nI (zs_pw 2 x))), f2, f3, f4, hS0, hA0, hM, hB, hE9, hP⟩, hS.F ht⟩) hS.2.2 d_SF_key_65

set_option maxHeartbeats 4000000 in
set_option maxRecDepth 100000 in
theorem c_SF_read_ok (l : Launch) (D : va_G) (cI cC cJ : ClassId) (h : Nat → Nat) (n0 : Nat) (S : Nat → Nat) (n2 : Nat) (M : Nat → Nat) (n3 : Nat) (B : Nat → Nat) (n4 : Nat) (E : Nat → Nat) (rt : Nat) (hh : zs_inj h) (hn0 : n0 ≤ 4) (hn2 : n2 ≤ 40) (hn3 : n3 ≤ 120) (hn4 : n4 ≤ 160) (j : Nat) (hj : j < n2) : Met l y_SF_read (zw k_SF_read) ({ frames := 5, cells := 0, slots := 0, locals := 90 }) (zPc [.ref (h 0), .int (nI j)] (fun H => zCl D cI h n0 S n2 M n3 B n4 E rt H) D cI cC cJ) (QcRead (nI (M j))) 0 0 (fun _ => False) := by
  refine zMet (by decide) (Nat.le_of_ble_eq_true rfl) ?_
  intro p e s m below meth c hx hb hr hg hown hlk hml hB0 hE ls hl
  have hl : lv_has ls 2 [(0, .ref (h 0)), (1, .int (nI j))] := hl
  have hS9 : CallFix p m c b_SF_read 2 s [.ref (h 0), .int (nI j)].toArray zg "SealedFiles" := ⟨hx, hb, hml, hown, hg⟩
  obtain ⟨f0, f1, f2, f3, f4, hS0, hA0, hM, hB, hE9, hP⟩ := hB0
  have hP : va_P D zcl [((h 0), .inr (1, [.ref (h 1), .ref (h 3), .ref (h 5), .ref (h 7), .ref (h 9), .int (nI rt)])), ((h 1), .inr (0, [.ref (h 2), .int (nI n0)])), ((h 2), .inl (cI, 4, .inl f0)), ((h 3), .inr (0, [.ref (h 4), .int (nI n0)])), ((h 4), .inl (cI, 4, .inl f1)), ((h 5), .inr (0, [.ref (h 6), .int (nI n2)])), ((h 6), .inl (cI, 40, .inl f2)), ((h 7), .inr (0, [.ref (h 8), .int (nI n3)])), ((h 8), .inl (cI, 120, .inl f3)), ((h 9), .inr (0, [.ref (h 10), .int (nI n4)])), ((h 10), .inl (cI, 160, .inl f4))] s.heap := hP
  have hn1 : n0 ≤ 4 := hn0
  refine lv_aload_n hx hb d_SF_read_0 rfl (lv_at hl 0 rfl) ?_
  refine va_get (D := D) (ci := 1) (v := .ref (h 5)) (C := R_SF) (T := F_SF) (N := 6) hx hb hg i_SF hown hE.1 hP 0 rfl rfl 2 (by decide) (hg _ zw_42) (fun _ h9 => h9) rfl d_SF_read_1 ?_
  refine lv_iload_n hx hb d_SF_read_4 rfl (lv_at hl 1 rfl) ?_
  refine zRd (rest := []) (zrVN hS9 (c_RW_has l D cI cC cJ (h 5) (h 6) 40 n2 f2 (by omega) (by decide) (nI j)) zc_RW_has (by decide) zw_69 zp_1 (by decide) (va_recv hE.1 hP (ci := 0) (q := (R_RW, F_RW, 2)) rfl (q0 := 5) rfl) (hP.sub [5, 6] rfl) hE rfl hl.1 rfl (Nat.le_of_ble_eq_true rfl) d_SF_read_5) ?_
  refine lv_if_ne hx hb d_SF_read_8 (tgt := 21) (by decide) (fun _ => ?_) (fun z9 => absurd z9 (by rw [zs_has_in hj (by omega)]; decide))
  refine lv_aload_n hx hb d_SF_read_21 rfl (lv_at hl 0 rfl) ?_
  refine va_get (D := D) (ci := 1) (v := .ref (h 5)) (C := R_SF) (T := F_SF) (N := 6) hx hb hg i_SF hown hE.1 hP 0 rfl rfl 2 (by decide) (hg _ zw_42) (fun _ h9 => h9) rfl d_SF_read_22 ?_
  refine lv_iload_n hx hb d_SF_read_25 rfl (lv_at hl 1 rfl) ?_
  refine zRd (rest := []) (zrVN hS9 (c_RW_item l D cI cC cJ (h 5) (h 6) 40 n2 f2 (by omega) (by decide) (nI j)) zc_RW_item (by decide) zw_65 zp_0 (by decide) (va_recv hE.1 hP (ci := 0) (q := (R_RW, F_RW, 2)) rfl (q0 := 5) rfl) (hP.sub [5, 6] rfl) hE rfl hl.1 rfl (Nat.le_of_ble_eq_true rfl) d_SF_read_26) ?_
  exact W.iret (v := (zs_item n2 f2 (nI j))) hx hb hr (fun t ht _ => ⟨congrArg (fun z => Outcome.returned (some (Value.int z))) ((zs_item_in hj (by omega)).trans (hM j hj).1), ht⟩) t_nil d_SF_read_29

set_option maxHeartbeats 4000000 in
set_option maxRecDepth 100000 in
theorem c_SF_alter_ok (l : Launch) (D : va_G) (cI cC cJ : ClassId) (h : Nat → Nat) (n0 : Nat) (S : Nat → Nat) (n2 : Nat) (M : Nat → Nat) (n3 : Nat) (B : Nat → Nat) (n4 : Nat) (E : Nat → Nat) (rt : Nat) (hh : zs_inj h) (hn0 : n0 ≤ 4) (hn2 : n2 ≤ 40) (hn3 : n3 ≤ 120) (hn4 : n4 ≤ 160) (j : Nat) (x : Int32) (hj : j < n3) : Met l y_SF_alter (zw k_SF_alter) ({ frames := 5, cells := 0, slots := 0, locals := 90 }) (zPc [.ref (h 0), .int (nI j), .int x] (fun H => zCl D cI h n0 S n2 M n3 B n4 E rt H) D cI cC cJ) (zQm (some (.int (nI (zo_al (B j) x)))) (fun H => zCl D cI h n0 S n2 M n3 (zs_set (n3, B) j (zo_al (B j) x)).2 n4 E rt H) (zAS h)) 0 0 (zAS h) := by
  refine zMet (by decide) (Nat.le_of_ble_eq_true rfl) ?_
  intro p e s m below meth c hx hb hr hg hown hlk hml hB0 hE ls hl
  have hl : lv_has ls 3 [(0, .ref (h 0)), (1, .int (nI j)), (2, .int x)] := hl
  have hS9 : CallFix p m c b_SF_alter 3 s [.ref (h 0), .int (nI j), .int x].toArray zg "SealedFiles" := ⟨hx, hb, hml, hown, hg⟩
  obtain ⟨f0, f1, f2, f3, f4, hS0, hA0, hM, hB, hE9, hP⟩ := hB0
  have hP : va_P D zcl [((h 0), .inr (1, [.ref (h 1), .ref (h 3), .ref (h 5), .ref (h 7), .ref (h 9), .int (nI rt)])), ((h 1), .inr (0, [.ref (h 2), .int (nI n0)])), ((h 2), .inl (cI, 4, .inl f0)), ((h 3), .inr (0, [.ref (h 4), .int (nI n0)])), ((h 4), .inl (cI, 4, .inl f1)), ((h 5), .inr (0, [.ref (h 6), .int (nI n2)])), ((h 6), .inl (cI, 40, .inl f2)), ((h 7), .inr (0, [.ref (h 8), .int (nI n3)])), ((h 8), .inl (cI, 120, .inl f3)), ((h 9), .inr (0, [.ref (h 10), .int (nI n4)])), ((h 10), .inl (cI, 160, .inl f4))] s.heap := hP
  have hn1 : n0 ≤ 4 := hn0
  have hD : va_D (zAS h) [((h 0), .inr (1, [.ref (h 1), .ref (h 3), .ref (h 5), .ref (h 7), .ref (h 9), .int (nI rt)])), ((h 1), .inr (0, [.ref (h 2), .int (nI n0)])), ((h 2), .inl (cI, 4, .inl f0)), ((h 3), .inr (0, [.ref (h 4), .int (nI n0)])), ((h 4), .inl (cI, 4, .inl f1)), ((h 5), .inr (0, [.ref (h 6), .int (nI n2)])), ((h 6), .inl (cI, 40, .inl f2)), ((h 7), .inr (0, [.ref (h 8), .int (nI n3)])), ((h 8), .inl (cI, 120, .inl f3)), ((h 9), .inr (0, [.ref (h 10), .int (nI n4)])), ((h 10), .inl (cI, 160, .inl f4))] := zSf_D hh
  have hS : va_S (zAS h) s.heap s.heap [] := va_S.rf
  have hbj : B j < 256 := (hB j hj).2
  refine lv_aload_n hx hb d_SF_alter_0 rfl (lv_at hl 0 rfl) ?_
  refine va_get (D := D) (ci := 1) (v := .ref (h 7)) (C := R_SF) (T := F_SF) (N := 6) hx hb hg i_SF hown hE.1 hP 0 rfl rfl 3 (by decide) (hg _ zw_43) (fun _ h9 => h9) rfl d_SF_alter_1 ?_
  refine lv_iload_n hx hb d_SF_alter_4 rfl (lv_at hl 1 rfl) ?_
  refine zRd (rest := []) (zrVN hS9 (c_RW_has l D cI cC cJ (h 7) (h 8) 120 n3 f3 (by omega) (by decide) (nI j)) zc_RW_has (by decide) zw_69 zp_1 (by decide) (va_recv hE.1 hP (ci := 0) (q := (R_RW, F_RW, 2)) rfl (q0 := 7) rfl) (hP.sub [7, 8] rfl) hE rfl hl.1 rfl (Nat.le_of_ble_eq_true rfl) d_SF_alter_5) ?_
  refine lv_if_ne hx hb d_SF_alter_8 (tgt := 21) (by decide) (fun _ => ?_) (fun z9 => absurd z9 (by rw [zs_has_in hj (by omega)]; decide))
  refine lv_aload_n hx hb d_SF_alter_21 rfl (lv_at hl 0 rfl) ?_
  refine va_get (D := D) (ci := 1) (v := .ref (h 7)) (C := R_SF) (T := F_SF) (N := 6) hx hb hg i_SF hown hE.1 hP 0 rfl rfl 3 (by decide) (hg _ zw_43) (fun _ h9 => h9) rfl d_SF_alter_22 ?_
  refine lv_iload_n hx hb d_SF_alter_25 rfl (lv_at hl 1 rfl) ?_
  refine lv_aload_n hx hb d_SF_alter_26 rfl (lv_at hl 0 rfl) ?_
  refine va_get (D := D) (ci := 1) (v := .ref (h 7)) (C := R_SF) (T := F_SF) (N := 6) hx hb hg i_SF hown hE.1 hP 0 rfl rfl 3 (by decide) (hg _ zw_43) (fun _ h9 => h9) rfl d_SF_alter_27 ?_
  refine lv_iload_n hx hb d_SF_alter_30 rfl (lv_at hl 1 rfl) ?_
  refine zRd (rest := [.int (nI j), .ref (h 7)]) (zrVN hS9 (c_RW_item l D cI cC cJ (h 7) (h 8) 120 n3 f3 (by omega) (by decide) (nI j)) zc_RW_item (by decide) zw_65 zp_0 (by decide) (va_recv hE.1 hP (ci := 0) (q := (R_RW, F_RW, 2)) rfl (q0 := 7) rfl) (hP.sub [7, 8] rfl) hE rfl hl.1 rfl (Nat.le_of_ble_eq_true rfl) d_SF_alter_31) ?_
  refine ztop (y := nI (B j)) ((zs_item_in hj (by omega)).trans (hB j hj).1) ?_
  refine lv_iload_n hx hb d_SF_alter_34 rfl (lv_at hl 2 rfl) ?_
  refine lv_sipush (v := (nI 255)) hx hb d_SF_alter_35 (by decide) ?_
  refine lv_iand hx hb d_SF_alter_38 ?_
  refine lv_ixor hx hb d_SF_alter_39 ?_
  refine ztop (y := nI (zo_al (B j) x)) (zs_cv_i _ _) ?_
  refine zWr (rest := []) (zrVN hS9 (c_RW_replace l D cI cC cJ (h 7) (h 8) 120 n3 f3 (by omega) (by decide) (fun z => absurd (hh 7 8 (by decide) (by decide) z) (by decide)) j (nI (zo_al (B j) x)) hj) zc_RW_replace (by decide) zw_460 zp_22 (by decide) (va_recv hE.1 hP (ci := 0) (q := (R_RW, F_RW, 2)) rfl (q0 := 7) rfl) (hP.sub [7, 8] rfl) hE rfl hl.1 rfl (Nat.le_of_ble_eq_true rfl) d_SF_alter_40) hS (fun q _ h => zA2_in hD 7 8 rfl rfl q h) (fun q h => zA2_in hD 7 8 rfl rfl q h) (fun H locs hB1 hz hk hS => ?_)
  obtain ⟨hP, hD⟩ := zrow hP hD 7 8 rfl rfl (by decide) hk hB1
  have hP : va_P D zcl [((h 0), .inr (1, [.ref (h 1), .ref (h 3), .ref (h 5), .ref (h 7), .ref (h 9), .int (nI rt)])), ((h 1), .inr (0, [.ref (h 2), .int (nI n0)])), ((h 2), .inl (cI, 4, .inl f0)), ((h 3), .inr (0, [.ref (h 4), .int (nI n0)])), ((h 4), .inl (cI, 4, .inl f1)), ((h 5), .inr (0, [.ref (h 6), .int (nI n2)])), ((h 6), .inl (cI, 40, .inl f2)), ((h 7), .inr (0, [.ref (h 8), .int (nI n3)])), ((h 8), .inl (cI, 120, .inl (upd f3 j (nI (zo_al (B j) x))))), ((h 9), .inr (0, [.ref (h 10), .int (nI n4)])), ((h 10), .inl (cI, 160, .inl f4))] H := hP
  have hD : va_D (zAS h) [((h 0), .inr (1, [.ref (h 1), .ref (h 3), .ref (h 5), .ref (h 7), .ref (h 9), .int (nI rt)])), ((h 1), .inr (0, [.ref (h 2), .int (nI n0)])), ((h 2), .inl (cI, 4, .inl f0)), ((h 3), .inr (0, [.ref (h 4), .int (nI n0)])), ((h 4), .inl (cI, 4, .inl f1)), ((h 5), .inr (0, [.ref (h 6), .int (nI n2)])), ((h 6), .inl (cI, 40, .inl f2)), ((h 7), .inr (0, [.ref (h 8), .int (nI n3)])), ((h 8), .inl (cI, 120, .inl (upd f3 j (nI (zo_al (B j) x))))), ((h 9), .inr (0, [.ref (h 10), .int (nI n4)])), ((h 10), .inl (cI, 160, .inl f4))] := hD
  have hB : zs_hold 256 (upd f3 j (nI (zo_al (B j) x))) (zs_set (n3, B) j (zo_al (B j) x)) := zs_hold_set hB (zo_al_lt hbj x)
  refine lv_aload_n hx hb d_SF_alter_43 rfl (lv_at hl 0 rfl) ?_
  refine va_get (D := D) (ci := 1) (v := .ref (h 7)) (C := R_SF) (T := F_SF) (N := 6) hx hb hg i_SF hown hE.1 hP 0 rfl rfl 3 (by decide) (hg _ zw_43) (fun _ h9 => h9) rfl d_SF_alter_44 ?_
  refine lv_iload_n hx hb d_SF_alter_47 rfl (lv_at hl 1 rfl) ?_
  refine zRd (rest := []) (zrVN hS9 (c_RW_item l D cI cC cJ (h 7) (h 8) 120 n3 (upd f3 j (nI (zo_al (B j) x))) (by omega) (by decide) (nI j)) zc_RW_item (by decide) zw_65 zp_0 (by decide) (va_recv hE.1 hP (ci := 0) (q := (R_RW, F_RW, 2)) rfl (q0 := 7) rfl) (hP.sub [7, 8] rfl) hE rfl hl.1 rfl (Nat.le_of_ble_eq_true rfl) d_SF_alter_48) ?_
  exact W.iret (v := (zs_item n3 (upd f3 j (nI (zo_al (B j) x))) (nI j))) hx hb hr (fun t ht _ => ⟨congrArg (fun z => Outcome.returned (some (Value.int z))) ((zs_item_in hj (by omega)).trans pk_us), by rw [ht]; exact ⟨f0, f1, f2, (upd f3 j (nI (zo_al (B j) x))), f4, hS0, hA0, hM, hB, hE9, hP⟩, hS.F ht⟩) hS.2.2 d_SF_alter_51

set_option maxHeartbeats 4000000 in
set_option maxRecDepth 100000 in
theorem c_SF_load_ok (l : Launch) (D : va_G) (cI cC cJ : ClassId) (h : Nat → Nat) (n0 : Nat) (S : Nat → Nat) (n2 : Nat) (M : Nat → Nat) (n3 : Nat) (B : Nat → Nat) (n4 : Nat) (E : Nat → Nat) (rt : Nat) (hh : zs_inj h) (hn0 : n0 ≤ 4) (hn2 : n2 ≤ 40) (hn3 : n3 ≤ 120) (hn4 : n4 ≤ 160) (hpf : zs_pf n4 E = 1) : Met l y_SF_load (zw k_SF_load) ({ frames := 5, cells := 0, slots := 0, locals := 90 }) (zPc [.ref (h 0)] (fun H => zCl D cI h n0 S n2 M n3 B n4 E rt H) D cI cC cJ) (zQm (some (.int (nI (n4 * 6 / 8)))) (fun H => zCl D cI h n0 S n2 M (n4 * 6 / 8) (zs_lds E (n4 * 6 / 8)).2 0 E rt H) (zAS h)) 0 0 (zAS h) := by
  refine zMet (by decide) (Nat.le_of_ble_eq_true rfl) ?_
  intro p e s m below meth c hx hb hr hg hown hlk hml hB0 hE ls hl
  have hl : lv_has ls 2 [(0, .ref (h 0))] := hl
  have hS9 : CallFix p m c b_SF_load 2 s [.ref (h 0)].toArray zg "SealedFiles" := ⟨hx, hb, hml, hown, hg⟩
  obtain ⟨f0, f1, f2, f3, f4, hS0, hA0, hM, hB, hE9, hP⟩ := hB0
  have hP : va_P D zcl [((h 0), .inr (1, [.ref (h 1), .ref (h 3), .ref (h 5), .ref (h 7), .ref (h 9), .int (nI rt)])), ((h 1), .inr (0, [.ref (h 2), .int (nI n0)])), ((h 2), .inl (cI, 4, .inl f0)), ((h 3), .inr (0, [.ref (h 4), .int (nI n0)])), ((h 4), .inl (cI, 4, .inl f1)), ((h 5), .inr (0, [.ref (h 6), .int (nI n2)])), ((h 6), .inl (cI, 40, .inl f2)), ((h 7), .inr (0, [.ref (h 8), .int (nI n3)])), ((h 8), .inl (cI, 120, .inl f3)), ((h 9), .inr (0, [.ref (h 10), .int (nI n4)])), ((h 10), .inl (cI, 160, .inl f4))] s.heap := hP
  have hn1 : n0 ≤ 4 := hn0
  have hD : va_D (zAS h) [((h 0), .inr (1, [.ref (h 1), .ref (h 3), .ref (h 5), .ref (h 7), .ref (h 9), .int (nI rt)])), ((h 1), .inr (0, [.ref (h 2), .int (nI n0)])), ((h 2), .inl (cI, 4, .inl f0)), ((h 3), .inr (0, [.ref (h 4), .int (nI n0)])), ((h 4), .inl (cI, 4, .inl f1)), ((h 5), .inr (0, [.ref (h 6), .int (nI n2)])), ((h 6), .inl (cI, 40, .inl f2)), ((h 7), .inr (0, [.ref (h 8), .int (nI n3)])), ((h 8), .inl (cI, 120, .inl f3)), ((h 9), .inr (0, [.ref (h 10), .int (nI n4)])), ((h 10), .inl (cI, 160, .inl f4))] := zSf_D hh
  have hS : va_S (zAS h) s.heap s.heap [] := va_S.rf
  refine lv_aload_n hx hb d_SF_load_0 rfl (lv_at hl 0 rfl) ?_
  refine zRd (rest := []) (zrV hS9 (c_SF_draftIsPrintedForm l D cI cC cJ h n0 n0 n2 n3 n4 f0 f1 f2 f3 f4 (nI rt) (by omega) (by omega) (by omega) (by omega) (by omega) E hE9) zc_SF_draftIsPrintedForm zw_469 zw_471 zp_23 (by decide) (va_recv hE.1 hP (ci := 1) (q := (R_SF, F_SF, 6)) rfl (q0 := 0) rfl) (hP) hE rfl hl.1 rfl (Nat.le_of_ble_eq_true rfl) d_SF_load_1) ?_
  refine lv_istore_n hx hb d_SF_load_4 rfl hl (by decide) (lv' := [(1, .int (nI (zs_pf n4 E))), (0, .ref (h 0))]) rfl (fun ls hl => ?_)
  refine lv_iload_n hx hb d_SF_load_5 rfl (lv_at hl 0 rfl) ?_
  refine lv_if_eq hx hb d_SF_load_6 (tgt := 13) (by decide) (fun z9 => absurd z9 (by rw [hpf]; decide)) (fun _ => ?_)
  refine lv_aload_n hx hb d_SF_load_9 rfl (lv_at hl 1 rfl) ?_
  refine zWr (rest := []) (zrV hS9 (c_SF_takeDraft l D cI cC cJ h n0 n0 n2 n3 n4 f0 f1 f2 f3 f4 (nI rt) (by omega) (by omega) (by omega) (by omega) (by omega) hh E hE9) zc_SF_takeDraft zw_477 zw_479 zp_25 (by decide) (va_recv hE.1 hP (ci := 1) (q := (R_SF, F_SF, 6)) rfl (q0 := 0) rfl) (hP) hE rfl hl.1 rfl (Nat.le_of_ble_eq_true rfl) d_SF_load_10) hS (fun _ _ h => h) (fun _ h => h) (fun H locs hB1 hz hk hS => ?_)
  obtain ⟨fz, hB, hP⟩ := hB1
  have hP : va_P D zcl [((h 0), .inr (1, [.ref (h 1), .ref (h 3), .ref (h 5), .ref (h 7), .ref (h 9), .int (nI rt)])), ((h 1), .inr (0, [.ref (h 2), .int (nI n0)])), ((h 2), .inl (cI, 4, .inl f0)), ((h 3), .inr (0, [.ref (h 4), .int (nI n0)])), ((h 4), .inl (cI, 4, .inl f1)), ((h 5), .inr (0, [.ref (h 6), .int (nI n2)])), ((h 6), .inl (cI, 40, .inl f2)), ((h 7), .inr (0, [.ref (h 8), .int (nI (n4 * 6 / 8))])), ((h 8), .inl (cI, 120, .inl fz)), ((h 9), .inr (0, [.ref (h 10), .int (nI n4)])), ((h 10), .inl (cI, 160, .inl f4))] H := hP
  have hD : va_D (zAS h) [((h 0), .inr (1, [.ref (h 1), .ref (h 3), .ref (h 5), .ref (h 7), .ref (h 9), .int (nI rt)])), ((h 1), .inr (0, [.ref (h 2), .int (nI n0)])), ((h 2), .inl (cI, 4, .inl f0)), ((h 3), .inr (0, [.ref (h 4), .int (nI n0)])), ((h 4), .inl (cI, 4, .inl f1)), ((h 5), .inr (0, [.ref (h 6), .int (nI n2)])), ((h 6), .inl (cI, 40, .inl f2)), ((h 7), .inr (0, [.ref (h 8), .int (nI (n4 * 6 / 8))])), ((h 8), .inl (cI, 120, .inl fz)), ((h 9), .inr (0, [.ref (h 10), .int (nI n4)])), ((h 10), .inl (cI, 160, .inl f4))] := zSf_D hh
  have hB : zs_hold 256 fz (zs_lds E (n4 * 6 / 8)) := hB
  have hB := zs_hold_n hB (zs_lds_n E (n4 * 6 / 8))
  refine lv_aload_n hx hb d_SF_load_13 rfl (lv_at hl 1 rfl) ?_
  refine va_get (D := D) (ci := 1) (v := .ref (h 9)) (C := R_SF) (T := F_SF) (N := 6) hx hb hg i_SF hown hE.1 hP 0 rfl rfl 4 (by decide) (hg _ zw_44) (fun _ h9 => h9) rfl d_SF_load_14 ?_
  refine lv_iconst (v := (nI 0)) hx hb d_SF_load_17 (by decide) ?_
  refine zWr (rest := []) (zrVN hS9 (c_RW_clear l D cI cC cJ (h 9) (h 10) 160 n4 f4 (by omega) (by decide) (fun z => absurd (hh 9 10 (by decide) (by decide) z) (by decide))) zc_RW_shorten (by decide) zw_89 zp_4 (by decide) (va_recv hE.1 hP (ci := 0) (q := (R_RW, F_RW, 2)) rfl (q0 := 9) rfl) (hP.sub [9, 10] rfl) hE rfl hl.1 rfl (Nat.le_of_ble_eq_true rfl) d_SF_load_18) hS (fun q _ h => zA2_in hD 9 10 rfl rfl q h) (fun q h => zA2_in hD 9 10 rfl rfl q h) (fun H locs hB1 hz hk hS => ?_)
  obtain ⟨hP, hD⟩ := zrow hP hD 9 10 rfl rfl (by decide) hk hB1
  have hP : va_P D zcl [((h 0), .inr (1, [.ref (h 1), .ref (h 3), .ref (h 5), .ref (h 7), .ref (h 9), .int (nI rt)])), ((h 1), .inr (0, [.ref (h 2), .int (nI n0)])), ((h 2), .inl (cI, 4, .inl f0)), ((h 3), .inr (0, [.ref (h 4), .int (nI n0)])), ((h 4), .inl (cI, 4, .inl f1)), ((h 5), .inr (0, [.ref (h 6), .int (nI n2)])), ((h 6), .inl (cI, 40, .inl f2)), ((h 7), .inr (0, [.ref (h 8), .int (nI (n4 * 6 / 8))])), ((h 8), .inl (cI, 120, .inl fz)), ((h 9), .inr (0, [.ref (h 10), .int (nI 0)])), ((h 10), .inl (cI, 160, .inl f4))] H := hP
  have hD : va_D (zAS h) [((h 0), .inr (1, [.ref (h 1), .ref (h 3), .ref (h 5), .ref (h 7), .ref (h 9), .int (nI rt)])), ((h 1), .inr (0, [.ref (h 2), .int (nI n0)])), ((h 2), .inl (cI, 4, .inl f0)), ((h 3), .inr (0, [.ref (h 4), .int (nI n0)])), ((h 4), .inl (cI, 4, .inl f1)), ((h 5), .inr (0, [.ref (h 6), .int (nI n2)])), ((h 6), .inl (cI, 40, .inl f2)), ((h 7), .inr (0, [.ref (h 8), .int (nI (n4 * 6 / 8))])), ((h 8), .inl (cI, 120, .inl fz)), ((h 9), .inr (0, [.ref (h 10), .int (nI 0)])), ((h 10), .inl (cI, 160, .inl f4))] := hD
  refine lv_pop hx hb d_SF_load_21 rfl ?_
  refine lv_iload_n hx hb d_SF_load_22 rfl (lv_at hl 0 rfl) ?_
  refine lv_if_ne hx hb d_SF_load_23 (tgt := 36) (by decide) (fun _ => ?_) (fun z9 => absurd z9 (by rw [hpf]; decide))
  refine lv_aload_n hx hb d_SF_load_36 rfl (lv_at hl 1 rfl) ?_
  refine va_get (D := D) (ci := 1) (v := .ref (h 7)) (C := R_SF) (T := F_SF) (N := 6) hx hb hg i_SF hown hE.1 hP 0 rfl rfl 3 (by decide) (hg _ zw_43) (fun _ h9 => h9) rfl d_SF_load_37 ?_
  refine zRd (rest := []) (zrVN hS9 (c_RW_size l D cI cC cJ (h 7) (h 8) 120 (n4 * 6 / 8) fz (by omega) (by decide)) zc_RW_size (by decide) zw_85 zp_3 (by decide) (va_recv hE.1 hP (ci := 0) (q := (R_RW, F_RW, 2)) rfl (q0 := 7) rfl) (hP.sub [7, 8] rfl) hE rfl hl.1 rfl (Nat.le_of_ble_eq_true rfl) d_SF_load_40) ?_
  exact W.iret (v := (nI (n4 * 6 / 8))) hx hb hr (fun t ht _ => ⟨rfl, by rw [ht]; exact ⟨f0, f1, f2, fz, f4, hS0, hA0, hM, hB, zs_hold_0, hP⟩, hS.F ht⟩) hS.2.2 d_SF_load_43

set_option maxHeartbeats 4000000 in
set_option maxRecDepth 100000 in
theorem c_SF_seal_ok (l : Launch) (D : va_G) (cI cC cJ : ClassId) (h : Nat → Nat) (n0 : Nat) (S : Nat → Nat) (n2 : Nat) (M : Nat → Nat) (n3 : Nat) (B : Nat → Nat) (n4 : Nat) (E : Nat → Nat) (rt : Nat) (hh : zs_inj h) (hn0 : n0 ≤ 4) (hn2 : n2 ≤ 40) (hn3 : n3 ≤ 120) (hn4 : n4 ≤ 160) (x f g : Int32) (hrc : zs_rc n0 (zs_un x) = 1) : Met l y_SF_seal (zw k_SF_seal) ({ frames := 5, cells := 0, slots := 0, locals := 123 }) (zPc [.ref (h 0), .int x, .int f, .int g] (fun H => zCl D cI h n0 S n2 M n3 B n4 E rt H) D cI cC cJ) (zQm (some (.int (nI (zs_seal S n0 n2 M x f g).1))) (fun H => zCl D cI h n0 S n2 M (zs_seal S n0 n2 M x f g).1 (zs_seal S n0 n2 M x f g).2 n4 E rt H) (zAS h)) 0 0 (zAS h) := by
  refine zMet (by decide) (Nat.le_of_ble_eq_true rfl) ?_
  intro p e s m below meth c hx hb hr hg hown hlk hml hB0 hE ls hl
  have hl : lv_has ls 5 [(0, .ref (h 0)), (1, .int x), (2, .int f), (3, .int g)] := hl
  have hS9 : CallFix p m c b_SF_seal 5 s [.ref (h 0), .int x, .int f, .int g].toArray zg "SealedFiles" := ⟨hx, hb, hml, hown, hg⟩
  obtain ⟨f0, f1, f2, f3, f4, hS0, hA0, hM, hB, hE9, hP⟩ := hB0
  have hP : va_P D zcl [((h 0), .inr (1, [.ref (h 1), .ref (h 3), .ref (h 5), .ref (h 7), .ref (h 9), .int (nI rt)])), ((h 1), .inr (0, [.ref (h 2), .int (nI n0)])), ((h 2), .inl (cI, 4, .inl f0)), ((h 3), .inr (0, [.ref (h 4), .int (nI n0)])), ((h 4), .inl (cI, 4, .inl f1)), ((h 5), .inr (0, [.ref (h 6), .int (nI n2)])), ((h 6), .inl (cI, 40, .inl f2)), ((h 7), .inr (0, [.ref (h 8), .int (nI n3)])), ((h 8), .inl (cI, 120, .inl f3)), ((h 9), .inr (0, [.ref (h 10), .int (nI n4)])), ((h 10), .inl (cI, 160, .inl f4))] s.heap := hP
  have hn1 : n0 ≤ 4 := hn0
  have hD : va_D (zAS h) [((h 0), .inr (1, [.ref (h 1), .ref (h 3), .ref (h 5), .ref (h 7), .ref (h 9), .int (nI rt)])), ((h 1), .inr (0, [.ref (h 2), .int (nI n0)])), ((h 2), .inl (cI, 4, .inl f0)), ((h 3), .inr (0, [.ref (h 4), .int (nI n0)])), ((h 4), .inl (cI, 4, .inl f1)), ((h 5), .inr (0, [.ref (h 6), .int (nI n2)])), ((h 6), .inl (cI, 40, .inl f2)), ((h 7), .inr (0, [.ref (h 8), .int (nI n3)])), ((h 8), .inl (cI, 120, .inl f3)), ((h 9), .inr (0, [.ref (h 10), .int (nI n4)])), ((h 10), .inl (cI, 160, .inl f4))] := zSf_D hh
  have hS : va_S (zAS h) s.heap s.heap [] := va_S.rf
  have hrc2 : 1 ≤ zs_pc (zs_un x) ∧ zs_pc (zs_un x) ≤ 3 ∧ zs_un x < 2 ^ n0 := by unfold zs_rc at hrc; split at hrc; assumption; omega
  have h16 := zs_two4 hn0
  refine lv_aload_n hx hb d_SF_seal_0 rfl (lv_at hl 0 rfl) ?_
  refine lv_iload_n hx hb d_SF_seal_1 rfl (lv_at hl 1 rfl) ?_
  refine zRd (rest := []) (zrV hS9 (c_SF_areReceivers l D cI cC cJ h n0 n0 n2 n3 n4 f0 f1 f2 f3 f4 (nI rt) (by omega) (by omega) (by omega) (by omega) (by omega) x) zc_SF_areReceivers zw_326 zw_328 zp_6 (by decide) (va_recv hE.1 hP (ci := 1) (q := (R_SF, F_SF, 6)) rfl (q0 := 0) rfl) (hP) hE rfl hl.1 rfl (Nat.le_of_ble_eq_true rfl) d_SF_seal_2) ?_
  refine lv_if_ne hx hb d_SF_seal_5 (tgt := 18) (by decide) (fun _ => ?_) (fun z9 => absurd z9 (by rw [hrc]; decide))
  refine lv_aload_n hx hb d_SF_seal_18 rfl (lv_at hl 0 rfl) ?_
  refine va_get (D := D) (ci := 1) (v := .ref (h 7)) (C := R_SF) (T := F_SF) (N := 6) hx hb hg i_SF hown hE.1 hP 0 rfl rfl 3 (by decide) (hg _ zw_43) (fun _ h9 => h9) rfl d_SF_seal_19 ?_
  refine lv_iconst (v := (nI 0)) hx hb d_SF_seal_22 (by decide) ?_
  refine zWr (rest := []) (zrVN hS9 (c_RW_clear l D cI cC cJ (h 7) (h 8) 120 n3 f3 (by omega) (by decide) (fun z => absurd (hh 7 8 (by decide) (by decide) z) (by decide))) zc_RW_shorten (by decide) zw_89 zp_4 (by decide) (va_recv hE.1 hP (ci := 0) (q := (R_RW, F_RW, 2)) rfl (q0 := 7) rfl) (hP.sub [7, 8] rfl) hE rfl hl.1 rfl (Nat.le_of_ble_eq_true rfl) d_SF_seal_23) hS (fun q _ h => zA2_in hD 7 8 rfl rfl q h) (fun q h => zA2_in hD 7 8 rfl rfl q h) (fun H locs hB1 hz hk hS => ?_)
  obtain ⟨hP, hD⟩ := zrow hP hD 7 8 rfl rfl (by decide) hk hB1
  have hP : va_P D zcl [((h 0), .inr (1, [.ref (h 1), .ref (h 3), .ref (h 5), .ref (h 7), .ref (h 9), .int (nI rt)])), ((h 1), .inr (0, [.ref (h 2), .int (nI n0)])), ((h 2), .inl (cI, 4, .inl f0)), ((h 3), .inr (0, [.ref (h 4), .int (nI n0)])), ((h 4), .inl (cI, 4, .inl f1)), ((h 5), .inr (0, [.ref (h 6), .int (nI n2)])), ((h 6), .inl (cI, 40, .inl f2)), ((h 7), .inr (0, [.ref (h 8), .int (nI 0)])), ((h 8), .inl (cI, 120, .inl f3)), ((h 9), .inr (0, [.ref (h 10), .int (nI n4)])), ((h 10), .inl (cI, 160, .inl f4))] H := hP
  have hD : va_D (zAS h) [((h 0), .inr (1, [.ref (h 1), .ref (h 3), .ref (h 5), .ref (h 7), .ref (h 9), .int (nI rt)])), ((h 1), .inr (0, [.ref (h 2), .int (nI n0)])), ((h 2), .inl (cI, 4, .inl f0)), ((h 3), .inr (0, [.ref (h 4), .int (nI n0)])), ((h 4), .inl (cI, 4, .inl f1)), ((h 5), .inr (0, [.ref (h 6), .int (nI n2)])), ((h 6), .inl (cI, 40, .inl f2)), ((h 7), .inr (0, [.ref (h 8), .int (nI 0)])), ((h 8), .inl (cI, 120, .inl f3)), ((h 9), .inr (0, [.ref (h 10), .int (nI n4)])), ((h 10), .inl (cI, 160, .inl f4))] := hD
  have hB : zs_hold 256 f3 (0, fun _ => 0) := zs_hold_0
  refine lv_pop hx hb d_SF_seal_26 rfl ?_
  refine lv_aload_n hx hb d_SF_seal_27 rfl (lv_at hl 0 rfl) ?_
  refine va_get (D := D) (ci := 1) (v := .ref (h 7)) (C := R_SF) (T := F_SF) (N := 6) hx hb hg i_SF hown hE.1 hP 0 rfl rfl 3 (by decide) (hg _ zw_43) (fun _ h9 => h9) rfl d_SF_seal_28 ?_
  refine lv_bipush (v := (nI 83)) hx hb d_SF_seal_31 (by decide) ?_
  refine zWr (rest := []) (zrVN hS9 (c_RW_append l D cI cC cJ (h 7) (h 8) 120 0 f3 (by omega) (by decide) (fun z => absurd (hh 7 8 (by decide) (by decide) z) (by decide)) (nI 83) (by decide)) zc_RW_append (by decide) zw_77 zp_2 (by decide) (va_recv hE.1 hP (ci := 0) (q := (R_RW, F_RW, 2)) rfl (q0 := 7) rfl) (hP.sub [7, 8] rfl) hE rfl hl.1 rfl (Nat.le_of_ble_eq_true rfl) d_SF_seal_33) hS (fun q _ h => zA2_in hD 7 8 rfl rfl q h) (fun q h => zA2_in hD 7 8 rfl rfl q h) (fun H locs hB1 hz hk hS => ?_)
  obtain ⟨hP, hD⟩ := zrow hP hD 7 8 rfl rfl (by decide) hk hB1
  have hP : va_P D zcl [((h 0), .inr (1, [.ref (h 1), .ref (h 3), .ref (h 5), .ref (h 7), .ref (h 9), .int (nI rt)])), ((h 1), .inr (0, [.ref (h 2), .int (nI n0)])), ((h 2), .inl (cI, 4, .inl f0)), ((h 3), .inr (0, [.ref (h 4), .int (nI n0)])), ((h 4), .inl (cI, 4, .inl f1)), ((h 5), .inr (0, [.ref (h 6), .int (nI n2)])), ((h 6), .inl (cI, 40, .inl f2)), ((h 7), .inr (0, [.ref (h 8), .int (nI (0 + 1))])), ((h 8), .inl (cI, 120, .inl (upd f3 0 (nI 83)))), ((h 9), .inr (0, [.ref (h 10), .int (nI n4)])), ((h 10), .inl (cI, 160, .inl f4))] H := hP
  have hD : va_D (zAS h) [((h 0), .inr (1, [.ref (h 1), .ref (h 3), .ref (h 5), .ref (h 7), .ref (h 9), .int (nI rt)])), ((h 1), .inr (0, [.ref (h 2), .int (nI n0)])), ((h 2), .inl (cI, 4, .inl f0)), ((h 3), .inr (0, [.ref (h 4), .int (nI n0)])), ((h 4), .inl (cI, 4, .inl f1)), ((h 5), .inr (0, [.ref (h 6), .int (nI n2)])), ((h 6), .inl (cI, 40, .inl f2)), ((h 7), .inr (0, [.ref (h 8), .int (nI (0 + 1))])), ((h 8), .inl (cI, 120, .inl (upd f3 0 (nI 83)))), ((h 9), .inr (0, [.ref (h 10), .int (nI n4)])), ((h 10), .inl (cI, 160, .inl f4))] := hD
  have hB : zs_hold 256 (upd f3 0 (nI 83)) (zs_push (0, fun _ => 0) 83) := zs_hold_push hB (by decide)
  generalize (upd f3 0 (nI 83)) = f3a at hP hD hB
  refine lv_pop hx hb d_SF_seal_36 rfl ?_
  refine lv_aload_n hx hb d_SF_seal_37 rfl (lv_at hl 0 rfl) ?_
  refine va_get (D := D) (ci := 1) (v := .ref (h 7)) (C := R_SF) (T := F_SF) (N := 6) hx hb hg i_SF hown hE.1 hP 0 rfl rfl 3 (by decide) (hg _ zw_43) (fun _ h9 => h9) rfl d_SF_seal_38 ?_
  refine lv_iload_n hx hb d_SF_seal_41 rfl (lv_at hl 1 rfl) ?_
  refine zRd (rest := [.ref (h 7)]) (zrS hS9 (c_IN_bitCount l D cI cC cJ x) zc_IN_bitCount zw_330 zw_331 (by decide) (trivial) hE rfl hl.1 rfl (Nat.le_of_ble_eq_true rfl) d_SF_seal_42) ?_
  refine ztop (y := nI (zs_pc (zs_un x))) (by rw [← zs_bc_4 (zs_un x) (by omega), zs_nI_un]) ?_
  refine zWr (rest := []) (zrVN hS9 (c_RW_append l D cI cC cJ (h 7) (h 8) 120 (0 + 1) f3a (by omega) (by decide) (fun z => absurd (hh 7 8 (by decide) (by decide) z) (by decide)) (nI (zs_pc (zs_un x))) (by decide)) zc_RW_append (by decide) zw_77 zp_2 (by decide) (va_recv hE.1 hP (ci := 0) (q := (R_RW, F_RW, 2)) rfl (q0 := 7) rfl) (hP.sub [7, 8] rfl) hE rfl hl.1 rfl (Nat.le_of_ble_eq_true rfl) d_SF_seal_45) hS (fun q _ h => zA2_in hD 7 8 rfl rfl q h) (fun q h => zA2_in hD 7 8 rfl rfl q h) (fun H locs hB1 hz hk hS => ?_)
  obtain ⟨hP, hD⟩ := zrow hP hD 7 8 rfl rfl (by decide) hk hB1
  have hP : va_P D zcl [((h 0), .inr (1, [.ref (h 1), .ref (h 3), .ref (h 5), .ref (h 7), .ref (h 9), .int (nI rt)])), ((h 1), .inr (0, [.ref (h 2), .int (nI n0)])), ((h 2), .inl (cI, 4, .inl f0)), ((h 3), .inr (0, [.ref (h 4), .int (nI n0)])), ((h 4), .inl (cI, 4, .inl f1)), ((h 5), .inr (0, [.ref (h 6), .int (nI n2)])), ((h 6), .inl (cI, 40, .inl f2)), ((h 7), .inr (0, [.ref (h 8), .int (nI (0 + 1 + 1))])), ((h 8), .inl (cI, 120, .inl (upd f3a (0 + 1) (nI (zs_pc (zs_un x)))))), ((h 9), .inr (0, [.ref (h 10), .int (nI n4)])), ((h 10), .inl (cI, 160, .inl f4))] H := hP
  have hD : va_D (zAS h) [((h 0), .inr (1, [.ref (h 1), .ref (h 3), .ref (h 5), .ref (h 7), .ref (h 9), .int (nI rt)])), ((h 1), .inr (0, [.ref (h 2), .int (nI n0)])), ((h 2), .inl (cI, 4, .inl f0)), ((h 3), .inr (0, [.ref (h 4), .int (nI n0)])), ((h 4), .inl (cI, 4, .inl f1)), ((h 5), .inr (0, [.ref (h 6), .int (nI n2)])), ((h 6), .inl (cI, 40, .inl f2)), ((h 7), .inr (0, [.ref (h 8), .int (nI (0 + 1 + 1))])), ((h 8), .inl (cI, 120, .inl (upd f3a (0 + 1) (nI (zs_pc (zs_un x)))))), ((h 9), .inr (0, [.ref (h 10), .int (nI n4)])), ((h 10), .inl (cI, 160, .inl f4))] := hD
  have hB : zs_hold 256 (upd f3a (0 + 1) (nI (zs_pc (zs_un x)))) (zs_push (zs_push (0, fun _ => 0) 83) (zs_pc (zs_un x))) := zs_hold_push hB (by omega)
  generalize (upd f3a (0 + 1) (nI (zs_pc (zs_un x)))) = f3b at hP hD hB
  refine lv_pop hx hb d_SF_seal_48 rfl ?_
  refine lv_iconst (v := (nI 0)) hx hb d_SF_seal_49 (by decide) ?_
  refine lv_istore hx hb d_SF_seal_50 hl (by decide) (lv' := [(4, .int (nI 0)), (0, .ref (h 0)), (1, .int x), (2, .int f), (3, .int g)]) rfl (fun ls hl => ?_)
  have hl : lv_has ls 5 [(4, .int (nI 0)), (0, .ref (h 0)), (1, .int x), (2, .int f), (3, .int g)] := lv_sub hl [0, 1, 2, 3, 4] rfl
  have loop : ∀ (k : Nat) (i : Nat) (fx : Nat → Int32) (H : Heap) (locs : List Loc), i + k = n0 → zs_hold 256 fx (zs_ents S x f g i) → va_P D zcl (zSf cI h n0 n0 n2 ((zs_ents S x f g i).1) n4 f0 f1 f2 fx f4 (nI rt)) H → va_S (zAS h) s.heap H locs → ∀ ls : Array Slot, lv_has ls 5 [(4, .int (nI i)), (0, .ref (h 0)), (1, .int x), (2, .int f), (3, .int g)] → W p l e ({ frames := 5, cells := 0, slots := 0, locals := 123 }) s m [.ref (h 0), .int x, .int f, .int g].toArray below meth c H locs 0 0 (MQ below (zQm (some (.int (nI (zs_seal S n0 n2 M x f g).1))) (fun H => zCl D cI h n0 S n2 M (zs_seal S n0 n2 M x f g).1 (zs_seal S n0 n2 M x f g).2 n4 E rt H) (zAS h)) [.ref (h 0), .int x, .int f, .int g].toArray s 0 0 (zAS h)) (F0 m 52 ls []) := by
    intro k
    induction k with
    | zero =>
      intro i fx H locs hi hB hP hS ls hl
      have hP : va_P D zcl [((h 0), .inr (1, [.ref (h 1), .ref (h 3), .ref (h 5), .ref (h 7), .ref (h 9), .int (nI rt)])), ((h 1), .inr (0, [.ref (h 2), .int (nI n0)])), ((h 2), .inl (cI, 4, .inl f0)), ((h 3), .inr (0, [.ref (h 4), .int (nI n0)])), ((h 4), .inl (cI, 4, .inl f1)), ((h 5), .inr (0, [.ref (h 6), .int (nI n2)])), ((h 6), .inl (cI, 40, .inl f2)), ((h 7), .inr (0, [.ref (h 8), .int (nI ((zs_ents S x f g i).1))])), ((h 8), .inl (cI, 120, .inl fx)), ((h 9), .inr (0, [.ref (h 10), .int (nI n4)])), ((h 10), .inl (cI, 160, .inl f4))] H := hP
      have hD : va_D (zAS h) [((h 0), .inr (1, [.ref (h 1), .ref (h 3), .ref (h 5), .ref (h 7), .ref (h 9), .int (nI rt)])), ((h 1), .inr (0, [.ref (h 2), .int (nI n0)])), ((h 2), .inl (cI, 4, .inl f0)), ((h 3), .inr (0, [.ref (h 4), .int (nI n0)])), ((h 4), .inl (cI, 4, .inl f1)), ((h 5), .inr (0, [.ref (h 6), .int (nI n2)])), ((h 6), .inl (cI, 40, .inl f2)), ((h 7), .inr (0, [.ref (h 8), .int (nI ((zs_ents S x f g i).1))])), ((h 8), .inl (cI, 120, .inl fx)), ((h 9), .inr (0, [.ref (h 10), .int (nI n4)])), ((h 10), .inl (cI, 160, .inl f4))] := zSf_D hh
      have hle := zs_ents_le S x f g i
      have e9 : i = n0 := by omega
      rw [e9] at hB hP hle
      have hP : va_P D zcl [((h 0), .inr (1, [.ref (h 1), .ref (h 3), .ref (h 5), .ref (h 7), .ref (h 9), .int (nI rt)])), ((h 1), .inr (0, [.ref (h 2), .int (nI n0)])), ((h 2), .inl (cI, 4, .inl f0)), ((h 3), .inr (0, [.ref (h 4), .int (nI n0)])), ((h 4), .inl (cI, 4, .inl f1)), ((h 5), .inr (0, [.ref (h 6), .int (nI n2)])), ((h 6), .inl (cI, 40, .inl f2)), ((h 7), .inr (0, [.ref (h 8), .int (nI ((zs_ents S x f g n0).1))])), ((h 8), .inl (cI, 120, .inl fx)), ((h 9), .inr (0, [.ref (h 10), .int (nI n4)])), ((h 10), .inl (cI, 160, .inl f4))] H := hP
      have hD : va_D (zAS h) [((h 0), .inr (1, [.ref (h 1), .ref (h 3), .ref (h 5), .ref (h 7), .ref (h 9), .int (nI rt)])), ((h 1), .inr (0, [.ref (h 2), .int (nI n0)])), ((h 2), .inl (cI, 4, .inl f0)), ((h 3), .inr (0, [.ref (h 4), .int (nI n0)])), ((h 4), .inl (cI, 4, .inl f1)), ((h 5), .inr (0, [.ref (h 6), .int (nI n2)])), ((h 6), .inl (cI, 40, .inl f2)), ((h 7), .inr (0, [.ref (h 8), .int (nI ((zs_ents S x f g n0).1))])), ((h 8), .inl (cI, 120, .inl fx)), ((h 9), .inr (0, [.ref (h 10), .int (nI n4)])), ((h 10), .inl (cI, 160, .inl f4))] := zSf_D hh
      refine lv_iload hx hb d_SF_seal_52 (lv_at hl 0 rfl) ?_
      refine lv_aload_n hx hb d_SF_seal_54 rfl (lv_at hl 1 rfl) ?_
      refine va_get (D := D) (ci := 1) (v := .ref (h 1)) (C := R_SF) (T := F_SF) (N := 6) hx hb hg i_SF hown hE.1 hP 0 rfl rfl 0 (by decide) (hg _ zw_40) (fun _ h9 => h9) rfl d_SF_seal_55 ?_
      refine zRd (rest := [.int (nI i)]) (zrVN hS9 (c_RW_size l D cI cC cJ (h 1) (h 2) 4 n0 f0 (by omega) (by decide)) zc_RW_size (by decide) zw_85 zp_3 (by decide) (va_recv hE.1 hP (ci := 0) (q := (R_RW, F_RW, 2)) rfl (q0 := 1) rfl) (hP.sub [1, 2] rfl) hE rfl hl.1 rfl (Nat.le_of_ble_eq_true rfl) d_SF_seal_58) ?_
      refine lv_icmp_ge hx hb d_SF_seal_61 (tgt := 101) (by decide) (fun _ => ?_) (fun z9 => absurd (by rw [e9]; exact Int32.le_refl _) z9)
      refine lv_aload_n hx hb d_SF_seal_101 rfl (lv_at hl 1 rfl) ?_
      refine va_get (D := D) (ci := 1) (v := .ref (h 7)) (C := R_SF) (T := F_SF) (N := 6) hx hb hg i_SF hown hE.1 hP 0 rfl rfl 3 (by decide) (hg _ zw_43) (fun _ h9 => h9) rfl d_SF_seal_102 ?_
      refine lv_aload_n hx hb d_SF_seal_105 rfl (lv_at hl 1 rfl) ?_
      refine lv_iload_n hx hb d_SF_seal_106 rfl (lv_at hl 3 rfl) ?_
      refine lv_aload_n hx hb d_SF_seal_107 rfl (lv_at hl 1 rfl) ?_
      refine va_get (D := D) (ci := 1) (v := .ref (h 7)) (C := R_SF) (T := F_SF) (N := 6) hx hb hg i_SF hown hE.1 hP 0 rfl rfl 3 (by decide) (hg _ zw_43) (fun _ h9 => h9) rfl d_SF_seal_108 ?_
      refine zRd (rest := [.int f, .ref (h 0), .ref (h 7)]) (zrVN hS9 (c_RW_size l D cI cC cJ (h 7) (h 8) 120 ((zs_ents S x f g n0).1) fx (by omega) (by decide)) zc_RW_size (by decide) zw_85 zp_3 (by decide) (va_recv hE.1 hP (ci := 0) (q := (R_RW, F_RW, 2)) rfl (q0 := 7) rfl) (hP.sub [7, 8] rfl) hE rfl hl.1 rfl (Nat.le_of_ble_eq_true rfl) d_SF_seal_111) ?_
      refine zRd (rest := [.ref (h 7)]) (zrV hS9 (c_SF_headSign l D cI cC cJ h n0 n0 n2 ((zs_ents S x f g n0).1) n4 f0 f1 f2 fx f4 (nI rt) (by omega) (by omega) (by omega) (by omega) (by omega) (zs_ents S x f g n0).2 hB f (zs_ents S x f g n0).1 (by omega)) zc_SF_headSign zw_369 zw_371 zp_11 (by decide) (va_recv hE.1 hP (ci := 1) (q := (R_SF, F_SF, 6)) rfl (q0 := 0) rfl) (hP) hE rfl hl.1 rfl (Nat.le_of_ble_eq_true rfl) d_SF_seal_114) ?_
      refine zWr (rest := []) (zrVN hS9 (c_RW_pairN l D cI cC cJ (h 7) (h 8) 120 ((zs_ents S x f g n0).1) fx (by omega) (by decide) (fun z => absurd (hh 7 8 (by decide) (by decide) z) (by decide)) (zs_sg (zs_ents S x f g n0).2 0 (zs_ents S x f g n0).1 (zs_word f (nI 0) (nI 3))) (Nat.lt_trans (zs_sg_lt _ _ _ _) (by decide)) (by omega)) zc_RW_appendPair (by decide) zw_354 zp_8 (by decide) (va_recv hE.1 hP (ci := 0) (q := (R_RW, F_RW, 2)) rfl (q0 := 7) rfl) (hP.sub [7, 8] rfl) hE rfl hl.1 rfl (Nat.le_of_ble_eq_true rfl) d_SF_seal_117) hS (fun q _ h => zA2_in hD 7 8 rfl rfl q h) (fun q h => zA2_in hD 7 8 rfl rfl q h) (fun H locs hB1 hz hk hS => ?_)
      obtain ⟨hP, hD⟩ := zrow hP hD 7 8 rfl rfl (by decide) hk hB1
      have hP : va_P D zcl [((h 0), .inr (1, [.ref (h 1), .ref (h 3), .ref (h 5), .ref (h 7), .ref (h 9), .int (nI rt)])), ((h 1), .inr (0, [.ref (h 2), .int (nI n0)])), ((h 2), .inl (cI, 4, .inl f0)), ((h 3), .inr (0, [.ref (h 4), .int (nI n0)])), ((h 4), .inl (cI, 4, .inl f1)), ((h 5), .inr (0, [.ref (h 6), .int (nI n2)])), ((h 6), .inl (cI, 40, .inl f2)), ((h 7), .inr (0, [.ref (h 8), .int (nI ((zs_ents S x f g n0).1 + 2))])), ((h 8), .inl (cI, 120, .inl (upd (upd fx ((zs_ents S x f g n0).1) (nI ((zs_sg (zs_ents S x f g n0).2 0 (zs_ents S x f g n0).1 (zs_word f (nI 0) (nI 3))) / 256))) ((zs_ents S x f g n0).1 + 1) (nI ((zs_sg (zs_ents S x f g n0).2 0 (zs_ents S x f g n0).1 (zs_word f (nI 0) (nI 3))) % 256))))), ((h 9), .inr (0, [.ref (h 10), .int (nI n4)])), ((h 10), .inl (cI, 160, .inl f4))] H := hP
      have hD : va_D (zAS h) [((h 0), .inr (1, [.ref (h 1), .ref (h 3), .ref (h 5), .ref (h 7), .ref (h 9), .int (nI rt)])), ((h 1), .inr (0, [.ref (h 2), .int (nI n0)])), ((h 2), .inl (cI, 4, .inl f0)), ((h 3), .inr (0, [.ref (h 4), .int (nI n0)])), ((h 4), .inl (cI, 4, .inl f1)), ((h 5), .inr (0, [.ref (h 6), .int (nI n2)])), ((h 6), .inl (cI, 40, .inl f2)), ((h 7), .inr (0, [.ref (h 8), .int (nI ((zs_ents S x f g n0).1 + 2))])), ((h 8), .inl (cI, 120, .inl (upd (upd fx ((zs_ents S x f g n0).1) (nI ((zs_sg (zs_ents S x f g n0).2 0 (zs_ents S x f g n0).1 (zs_word f (nI 0) (nI 3))) / 256))) ((zs_ents S x f g n0).1 + 1) (nI ((zs_sg (zs_ents S x f g n0).2 0 (zs_ents S x f g n0).1 (zs_word f (nI 0) (nI 3))) % 256))))), ((h 9), .inr (0, [.ref (h 10), .int (nI n4)])), ((h 10), .inl (cI, 160, .inl f4))] := hD
      have hB := zs_hold_pair (v := zs_sg (zs_ents S x f g n0).2 0 (zs_ents S x f g n0).1 (zs_word f (nI 0) (nI 3))) hB (Nat.lt_trans (zs_sg_lt _ _ _ _) (by decide))
      have hB : zs_hold 256 (upd (upd fx ((zs_ents S x f g n0).1) (nI ((zs_sg (zs_ents S x f g n0).2 0 (zs_ents S x f g n0).1 (zs_word f (nI 0) (nI 3))) / 256))) ((zs_ents S x f g n0).1 + 1) (nI ((zs_sg (zs_ents S x f g n0).2 0 (zs_ents S x f g n0).1 (zs_word f (nI 0) (nI 3))) % 256))) (zs_pair (zs_ents S x f g n0) (zs_sg (zs_ents S x f g n0).2 0 (zs_ents S x f g n0).1 (zs_word f (nI 0) (nI 3)))) := hB
      generalize (upd (upd fx ((zs_ents S x f g n0).1) (nI ((zs_sg (zs_ents S x f g n0).2 0 (zs_ents S x f g n0).1 (zs_word f (nI 0) (nI 3))) / 256))) ((zs_ents S x f g n0).1 + 1) (nI ((zs_sg (zs_ents S x f g n0).2 0 (zs_ents S x f g n0).1 (zs_word f (nI 0) (nI 3))) % 256))) = fh at hP hD hB
      have hB : zs_hold 256 fh (zs_head S x f g n0) := hB
      have hhd : (zs_head S x f g n0).1 = (zs_ents S x f g n0).1 + 2 := rfl
      refine lv_aload_n hx hb d_SF_seal_120 rfl (lv_at hl 1 rfl) ?_
      refine lv_iload_n hx hb d_SF_seal_121 rfl (lv_at hl 3 rfl) ?_
      refine zWr (rest := []) (zrV hS9 (c_SF_appendPieces l D cI cC cJ h n0 n0 n2 ((zs_ents S x f g n0).1 + 2) n4 f0 f1 f2 fh f4 (nI rt) (by omega) (by omega) (by omega) (by omega) (by omega) hh (zs_head S x f g n0).2 hB M hM f (by omega)) zc_SF_appendPieces zw_373 zw_375 zp_12 (by decide) (va_recv hE.1 hP (ci := 1) (q := (R_SF, F_SF, 6)) rfl (q0 := 0) rfl) (hP) hE rfl hl.1 rfl (Nat.le_of_ble_eq_true rfl) d_SF_seal_122) hS (fun _ _ h => h) (fun _ h => h) (fun H locs hB1 hz hk hS => ?_)
      obtain ⟨fq, hB, hP⟩ := hB1
      have hP : va_P D zcl [((h 0), .inr (1, [.ref (h 1), .ref (h 3), .ref (h 5), .ref (h 7), .ref (h 9), .int (nI rt)])), ((h 1), .inr (0, [.ref (h 2), .int (nI n0)])), ((h 2), .inl (cI, 4, .inl f0)), ((h 3), .inr (0, [.ref (h 4), .int (nI n0)])), ((h 4), .inl (cI, 4, .inl f1)), ((h 5), .inr (0, [.ref (h 6), .int (nI n2)])), ((h 6), .inl (cI, 40, .inl f2)), ((h 7), .inr (0, [.ref (h 8), .int (nI ((zs_seal S n0 n2 M x f g).1))])), ((h 8), .inl (cI, 120, .inl fq)), ((h 9), .inr (0, [.ref (h 10), .int (nI n4)])), ((h 10), .inl (cI, 160, .inl f4))] H := hP
      have hD : va_D (zAS h) [((h 0), .inr (1, [.ref (h 1), .ref (h 3), .ref (h 5), .ref (h 7), .ref (h 9), .int (nI rt)])), ((h 1), .inr (0, [.ref (h 2), .int (nI n0)])), ((h 2), .inl (cI, 4, .inl f0)), ((h 3), .inr (0, [.ref (h 4), .int (nI n0)])), ((h 4), .inl (cI, 4, .inl f1)), ((h 5), .inr (0, [.ref (h 6), .int (nI n2)])), ((h 6), .inl (cI, 40, .inl f2)), ((h 7), .inr (0, [.ref (h 8), .int (nI ((zs_seal S n0 n2 M x f g).1))])), ((h 8), .inl (cI, 120, .inl fq)), ((h 9), .inr (0, [.ref (h 10), .int (nI n4)])), ((h 10), .inl (cI, 160, .inl f4))] := zSf_D hh
      have hB : zs_hold 256 fq (zs_seal S n0 n2 M x f g) := hB
      have hfin : (zs_seal S n0 n2 M x f g).1 ≤ (zs_head S x f g n0).1 + 10 * ((n2 - 1) / 8 + 1) := zs_pcs_le _ _ _ _ _ _
      refine lv_aload_n hx hb d_SF_seal_125 rfl (lv_at hl 1 rfl) ?_
      refine va_get (D := D) (ci := 1) (v := .ref (h 7)) (C := R_SF) (T := F_SF) (N := 6) hx hb hg i_SF hown hE.1 hP 0 rfl rfl 3 (by decide) (hg _ zw_43) (fun _ h9 => h9) rfl d_SF_seal_126 ?_
      refine zRd (rest := []) (zrVN hS9 (c_RW_size l D cI cC cJ (h 7) (h 8) 120 ((zs_seal S n0 n2 M x f g).1) fq (by omega) (by decide)) zc_RW_size (by decide) zw_85 zp_3 (by decide) (va_recv hE.1 hP (ci := 0) (q := (R_RW, F_RW, 2)) rfl (q0 := 7) rfl) (hP.sub [7, 8] rfl) hE rfl hl.1 rfl (Nat.le_of_ble_eq_true rfl) d_SF_seal_129) ?_
      exact W.iret (v := (nI (zs_seal S n0 n2 M x f g).1)) hx hb hr (fun t ht _ => ⟨rfl, by rw [ht]; exact ⟨f0, f1, f2, fq, f4, hS0, hA0, hM, hB, hE9, hP⟩, hS.F ht⟩) hS.2.2 d_SF_seal_132
    | succ k ih =>
      intro i fx H locs hi hB hP hS ls hl
      have hP : va_P D zcl [((h 0), .inr (1, [.ref (h 1), .ref (h 3), .ref (h 5), .ref (h 7), .ref (h 9), .int (nI rt)])), ((h 1), .inr (0, [.ref (h 2), .int (nI n0)])), ((h 2), .inl (cI, 4, .inl f0)), ((h 3), .inr (0, [.ref (h 4), .int (nI n0)])), ((h 4), .inl (cI, 4, .inl f1)), ((h 5), .inr (0, [.ref (h 6), .int (nI n2)])), ((h 6), .inl (cI, 40, .inl f2)), ((h 7), .inr (0, [.ref (h 8), .int (nI ((zs_ents S x f g i).1))])), ((h 8), .inl (cI, 120, .inl fx)), ((h 9), .inr (0, [.ref (h 10), .int (nI n4)])), ((h 10), .inl (cI, 160, .inl f4))] H := hP
      have hD : va_D (zAS h) [((h 0), .inr (1, [.ref (h 1), .ref (h 3), .ref (h 5), .ref (h 7), .ref (h 9), .int (nI rt)])), ((h 1), .inr (0, [.ref (h 2), .int (nI n0)])), ((h 2), .inl (cI, 4, .inl f0)), ((h 3), .inr (0, [.ref (h 4), .int (nI n0)])), ((h 4), .inl (cI, 4, .inl f1)), ((h 5), .inr (0, [.ref (h 6), .int (nI n2)])), ((h 6), .inl (cI, 40, .inl f2)), ((h 7), .inr (0, [.ref (h 8), .int (nI ((zs_ents S x f g i).1))])), ((h 8), .inl (cI, 120, .inl fx)), ((h 9), .inr (0, [.ref (h 10), .int (nI n4)])), ((h 10), .inl (cI, 160, .inl f4))] := zSf_D hh
      have hle := zs_ents_le S x f g i
      refine lv_iload hx hb d_SF_seal_52 (lv_at hl 0 rfl) ?_
      refine lv_aload_n hx hb d_SF_seal_54 rfl (lv_at hl 1 rfl) ?_
      refine va_get (D := D) (ci := 1) (v := .ref (h 1)) (C := R_SF) (T := F_SF) (N := 6) hx hb hg i_SF hown hE.1 hP 0 rfl rfl 0 (by decide) (hg _ zw_40) (fun _ h9 => h9) rfl d_SF_seal_55 ?_
      refine zRd (rest := [.int (nI i)]) (zrVN hS9 (c_RW_size l D cI cC cJ (h 1) (h 2) 4 n0 f0 (by omega) (by decide)) zc_RW_size (by decide) zw_85 zp_3 (by decide) (va_recv hE.1 hP (ci := 0) (q := (R_RW, F_RW, 2)) rfl (q0 := 1) rfl) (hP.sub [1, 2] rfl) hE rfl hl.1 rfl (Nat.le_of_ble_eq_true rfl) d_SF_seal_58) ?_
      refine lv_icmp_ge hx hb d_SF_seal_61 (tgt := 101) (by decide) (fun z9 => absurd z9 (nI_ge (by omega) (by omega))) (fun _ => ?_)
      refine lv_iload_n hx hb d_SF_seal_64 rfl (lv_at hl 2 rfl) ?_
      refine lv_iload hx hb d_SF_seal_65 (lv_at hl 0 rfl) ?_
      refine lv_iushr (v := zs_u x (nI i)) hx hb d_SF_seal_67 rfl ?_
      refine ztop (y := nI (zs_un x / 2 ^ i)) (zs_u_un x (by omega)) ?_
      refine lv_iconst (v := (nI 1)) hx hb d_SF_seal_68 (by decide) ?_
      refine lv_iand hx hb d_SF_seal_69 ?_
      have hux := zs_un_lt x
      have hdl : zs_un x / 2 ^ i ≤ zs_un x := Nat.div_le_self _ _
      refine ztop (y := nI (zs_un x / 2 ^ i % 2)) (pk_andN (by omega) 1 (by decide)) ?_
      refine lv_iconst (v := (nI 1)) hx hb d_SF_seal_70 (by decide) ?_
      by_cases gb : zs_un x / 2 ^ i % 2 = 1
      · refine lv_icmp_ne hx hb d_SF_seal_71 (tgt := 95) (by decide) (fun z9 => absurd (by rw [gb]) z9) (fun _ => ?_)
        refine lv_aload_n hx hb d_SF_seal_74 rfl (lv_at hl 1 rfl) ?_
        refine lv_aload_n hx hb d_SF_seal_75 rfl (lv_at hl 1 rfl) ?_
        refine va_get (D := D) (ci := 1) (v := .ref (h 3)) (C := R_SF) (T := F_SF) (N := 6) hx hb hg i_SF hown hE.1 hP 0 rfl rfl 1 (by decide) (hg _ zw_41) (fun _ h9 => h9) rfl d_SF_seal_76 ?_
        refine lv_iload hx hb d_SF_seal_79 (lv_at hl 0 rfl) ?_
        refine zRd (rest := [.ref (h 0)]) (zrVN hS9 (c_RW_item l D cI cC cJ (h 3) (h 4) 4 n0 f1 (by omega) (by decide) (nI i)) zc_RW_item (by decide) zw_65 zp_0 (by decide) (va_recv hE.1 hP (ci := 0) (q := (R_RW, F_RW, 2)) rfl (q0 := 3) rfl) (hP.sub [3, 4] rfl) hE rfl hl.1 rfl (Nat.le_of_ble_eq_true rfl) d_SF_seal_81) ?_
        refine ztop (y := nI (zs_pw 2 (S i))) ((zs_item_in (by omega) (by omega)).trans (hA0 i (by omega))) ?_
        refine lv_iload_n hx hb d_SF_seal_84 rfl (lv_at hl 3 rfl) ?_
        refine lv_iload_n hx hb d_SF_seal_85 rfl (lv_at hl 3 rfl) ?_
        refine lv_iload_n hx hb d_SF_seal_86 rfl (lv_at hl 4 rfl) ?_
        refine lv_iload hx hb d_SF_seal_87 (lv_at hl 0 rfl) ?_
        refine zRd (rest := [.int f, .int (nI (zs_pw 2 (S i))), .ref (h 0)]) (zrS hS9 (c_SF_exponent l D cI cC cJ f g i) zc_SF_exponent zw_337 zw_338 (by decide) (trivial) hE rfl hl.1 rfl (Nat.le_of_ble_eq_true rfl) d_SF_seal_89) ?_
        refine zWr (rest := []) (zrV hS9 (c_SF_appendEntry l D cI cC cJ h n0 n0 n2 ((zs_ents S x f g i).1) n4 f0 f1 f2 fx f4 (nI rt) (by omega) (by omega) (by omega) (by omega) (by omega) hh (zs_ents S x f g i).2 hB (zs_pw 2 (S i)) (zs_e f g i) f (zs_pw_lt _ _) (by have := zs_e_lt f g i; omega) (by omega)) zc_SF_appendEntry zw_348 zw_350 zp_7 (by decide) (va_recv hE.1 hP (ci := 1) (q := (R_SF, F_SF, 6)) rfl (q0 := 0) rfl) (hP) hE rfl hl.1 rfl (Nat.le_of_ble_eq_true rfl) d_SF_seal_92) hS (fun _ _ h => h) (fun _ h => h) (fun H locs hB1 hz hk hS => ?_)
        obtain ⟨fz, hB, hP⟩ := hB1
        have hP : va_P D zcl [((h 0), .inr (1, [.ref (h 1), .ref (h 3), .ref (h 5), .ref (h 7), .ref (h 9), .int (nI rt)])), ((h 1), .inr (0, [.ref (h 2), .int (nI n0)])), ((h 2), .inl (cI, 4, .inl f0)), ((h 3), .inr (0, [.ref (h 4), .int (nI n0)])), ((h 4), .inl (cI, 4, .inl f1)), ((h 5), .inr (0, [.ref (h 6), .int (nI n2)])), ((h 6), .inl (cI, 40, .inl f2)), ((h 7), .inr (0, [.ref (h 8), .int (nI ((zs_ents S x f g i).1 + 8))])), ((h 8), .inl (cI, 120, .inl fz)), ((h 9), .inr (0, [.ref (h 10), .int (nI n4)])), ((h 10), .inl (cI, 160, .inl f4))] H := hP
        have hD : va_D (zAS h) [((h 0), .inr (1, [.ref (h 1), .ref (h 3), .ref (h 5), .ref (h 7), .ref (h 9), .int (nI rt)])), ((h 1), .inr (0, [.ref (h 2), .int (nI n0)])), ((h 2), .inl (cI, 4, .inl f0)), ((h 3), .inr (0, [.ref (h 4), .int (nI n0)])), ((h 4), .inl (cI, 4, .inl f1)), ((h 5), .inr (0, [.ref (h 6), .int (nI n2)])), ((h 6), .inl (cI, 40, .inl f2)), ((h 7), .inr (0, [.ref (h 8), .int (nI ((zs_ents S x f g i).1 + 8))])), ((h 8), .inl (cI, 120, .inl fz)), ((h 9), .inr (0, [.ref (h 10), .int (nI n4)])), ((h 10), .inl (cI, 160, .inl f4))] := zSf_D hh
        have hB : zs_hold 256 fz (zs_entry (zs_ents S x f g i) (zs_pw 2 (S i)) f (zs_e f g i)) := hB
        have hB : zs_hold 256 fz (zs_ents S x f g (i + 1)) := by rw [zs_ents, if_pos gb]; exact hB
        have hP : va_P D zcl (zSf cI h n0 n0 n2 ((zs_ents S x f g (i + 1)).1) n4 f0 f1 f2 fz f4 (nI rt)) H := by rw [zs_ents, if_pos gb]; exact hP
        refine lv_iinc (k := 0) (v := nI (i + 1)) hx hb d_SF_seal_95 hl rfl (nI_1 i) (by decide) (lv' := [(4, .int (nI (i + 1))), (0, .ref (h 0)), (1, .int x), (2, .int f), (3, .int g)]) rfl (fun ls hl => ?_)
        refine lv_goto hx hb d_SF_seal_98 (tgt := 52) (by decide) ?_
        have hl : lv_has ls 5 [(4, .int (nI (i + 1))), (0, .ref (h 0)), (1, .int x), (2, .int f), (3, .int g)] := lv_sub hl [0, 1, 2, 3, 4] rfl
        exact ih (i + 1) fz H locs (by omega) hB hP hS ls hl
      · refine lv_icmp_ne hx hb d_SF_seal_71 (tgt := 95) (by decide) (fun _ => ?_) (fun z9 => absurd z9 (by rw [show zs_un x / 2 ^ i % 2 = 0 by omega]; decide))
        have hB : zs_hold 256 fx (zs_ents S x f g (i + 1)) := by rw [zs_ents, if_neg gb]; exact hB
        have hP : va_P D zcl (zSf cI h n0 n0 n2 ((zs_ents S x f g (i + 1)).1) n4 f0 f1 f2 fx f4 (nI rt)) H := by rw [zs_ents, if_neg gb]; exact hP
        refine lv_iinc (k := 0) (v := nI (i + 1)) hx hb d_SF_seal_95 hl rfl (nI_1 i) (by decide) (lv' := [(4, .int (nI (i + 1))), (0, .ref (h 0)), (1, .int x), (2, .int f), (3, .int g)]) rfl (fun ls hl => ?_)
        refine lv_goto hx hb d_SF_seal_98 (tgt := 52) (by decide) ?_
        have hl : lv_has ls 5 [(4, .int (nI (i + 1))), (0, .ref (h 0)), (1, .int x), (2, .int f), (3, .int g)] := lv_sub hl [0, 1, 2, 3, 4] rfl
        exact ih (i + 1) fx H locs (by omega) hB hP hS ls hl
  exact loop n0 0 f3b H locs (by omega) hB hP hS ls hl

set_option maxHeartbeats 4000000 in
set_option maxRecDepth 100000 in
theorem c_SF_open_ok (l : Launch) (D : va_G) (cI cC cJ : ClassId) (h : Nat → Nat) (n0 : Nat) (S : Nat → Nat) (n2 : Nat) (M : Nat → Nat) (n3 : Nat) (B : Nat → Nat) (n4 : Nat) (E : Nat → Nat) (rt : Nat) (hh : zs_inj h) (hn0 : n0 ≤ 4) (hn2 : n2 ≤ 40) (hn3 : n3 ≤ 120) (hn4 : n4 ≤ 160) (k : Nat) (hk : k < n0) (R9 : Int32 × Nat × zs_F) (hRe : (zs_open n3 B (S k) (zs_pw 2 (S k)) (n2, M)) = R9) : Met l y_SF_open (zw k_SF_open) ({ frames := 5, cells := 0, slots := 0, locals := 125 }) (zPc [.ref (h 0), .int (nI k)] (fun H => zCl D cI h n0 S n2 M n3 B n4 E rt H) D cI cC cJ) (zQm (some (.int R9.1)) (fun H => zCl D cI h n0 S R9.2.2.1 R9.2.2.2 n3 B n4 E R9.2.1 H) (zAS h)) 0 0 (zAS h) := by
  refine zMet (by decide) (Nat.le_of_ble_eq_true rfl) ?_
  intro p e s m below meth c hx hb hr hg hown hlk hml hB0 hE ls hl
  have hl : lv_has ls 5 [(0, .ref (h 0)), (1, .int (nI k))] := hl
  have hS9 : CallFix p m c b_SF_open 5 s [.ref (h 0), .int (nI k)].toArray zg "SealedFiles" := ⟨hx, hb, hml, hown, hg⟩
  obtain ⟨f0, f1, f2, f3, f4, hS0, hA0, hM, hB, hE9, hP⟩ := hB0
  have hP : va_P D zcl [((h 0), .inr (1, [.ref (h 1), .ref (h 3), .ref (h 5), .ref (h 7), .ref (h 9), .int (nI rt)])), ((h 1), .inr (0, [.ref (h 2), .int (nI n0)])), ((h 2), .inl (cI, 4, .inl f0)), ((h 3), .inr (0, [.ref (h 4), .int (nI n0)])), ((h 4), .inl (cI, 4, .inl f1)), ((h 5), .inr (0, [.ref (h 6), .int (nI n2)])), ((h 6), .inl (cI, 40, .inl f2)), ((h 7), .inr (0, [.ref (h 8), .int (nI n3)])), ((h 8), .inl (cI, 120, .inl f3)), ((h 9), .inr (0, [.ref (h 10), .int (nI n4)])), ((h 10), .inl (cI, 160, .inl f4))] s.heap := hP
  have hn1 : n0 ≤ 4 := hn0
  have hD : va_D (zAS h) [((h 0), .inr (1, [.ref (h 1), .ref (h 3), .ref (h 5), .ref (h 7), .ref (h 9), .int (nI rt)])), ((h 1), .inr (0, [.ref (h 2), .int (nI n0)])), ((h 2), .inl (cI, 4, .inl f0)), ((h 3), .inr (0, [.ref (h 4), .int (nI n0)])), ((h 4), .inl (cI, 4, .inl f1)), ((h 5), .inr (0, [.ref (h 6), .int (nI n2)])), ((h 6), .inl (cI, 40, .inl f2)), ((h 7), .inr (0, [.ref (h 8), .int (nI n3)])), ((h 8), .inl (cI, 120, .inl f3)), ((h 9), .inr (0, [.ref (h 10), .int (nI n4)])), ((h 10), .inl (cI, 160, .inl f4))] := zSf_D hh
  have hS : va_S (zAS h) s.heap s.heap [] := va_S.rf
  refine lv_aload_n hx hb d_SF_open_0 rfl (lv_at hl 0 rfl) ?_
  refine va_get (D := D) (ci := 1) (v := .ref (h 1)) (C := R_SF) (T := F_SF) (N := 6) hx hb hg i_SF hown hE.1 hP 0 rfl rfl 0 (by decide) (hg _ zw_40) (fun _ h9 => h9) rfl d_SF_open_1 ?_
  refine lv_iload_n hx hb d_SF_open_4 rfl (lv_at hl 1 rfl) ?_
  refine zRd (rest := []) (zrVN hS9 (c_RW_has l D cI cC cJ (h 1) (h 2) 4 n0 f0 (by omega) (by decide) (nI k)) zc_RW_has (by decide) zw_69 zp_1 (by decide) (va_recv hE.1 hP (ci := 0) (q := (R_RW, F_RW, 2)) rfl (q0 := 1) rfl) (hP.sub [1, 2] rfl) hE rfl hl.1 rfl (Nat.le_of_ble_eq_true rfl) d_SF_open_5) ?_
  refine lv_if_ne hx hb d_SF_open_8 (tgt := 21) (by decide) (fun _ => ?_) (fun z9 => absurd z9 (by rw [zs_has_in hk (by omega)]; decide))
  refine lv_aload_n hx hb d_SF_open_21 rfl (lv_at hl 0 rfl) ?_
  refine lv_iconst (v := (nI 0)) hx hb d_SF_open_22 (by decide) ?_
  refine va_put (D := D) (ci := 1) (v := .int (nI 0)) (ty := .int) (C := R_SF) (T := F_SF) (N := 6) hx hb hg i_SF t_SF t_SF_ok n_SF hown hE.1 hP hD hS 0 rfl rfl 5 (by decide) (hg _ zw_45) (fun _ h9 => h9) rfl (by decide +kernel) rfl rfl (Nat.le_of_ble_eq_true rfl) d_SF_open_23 (fun H locs hP hD hS => ?_)
  have hP : va_P D zcl [((h 0), .inr (1, [.ref (h 1), .ref (h 3), .ref (h 5), .ref (h 7), .ref (h 9), .int (nI 0)])), ((h 1), .inr (0, [.ref (h 2), .int (nI n0)])), ((h 2), .inl (cI, 4, .inl f0)), ((h 3), .inr (0, [.ref (h 4), .int (nI n0)])), ((h 4), .inl (cI, 4, .inl f1)), ((h 5), .inr (0, [.ref (h 6), .int (nI n2)])), ((h 6), .inl (cI, 40, .inl f2)), ((h 7), .inr (0, [.ref (h 8), .int (nI n3)])), ((h 8), .inl (cI, 120, .inl f3)), ((h 9), .inr (0, [.ref (h 10), .int (nI n4)])), ((h 10), .inl (cI, 160, .inl f4))] H := hP
  have hD : va_D (zAS h) [((h 0), .inr (1, [.ref (h 1), .ref (h 3), .ref (h 5), .ref (h 7), .ref (h 9), .int (nI 0)])), ((h 1), .inr (0, [.ref (h 2), .int (nI n0)])), ((h 2), .inl (cI, 4, .inl f0)), ((h 3), .inr (0, [.ref (h 4), .int (nI n0)])), ((h 4), .inl (cI, 4, .inl f1)), ((h 5), .inr (0, [.ref (h 6), .int (nI n2)])), ((h 6), .inl (cI, 40, .inl f2)), ((h 7), .inr (0, [.ref (h 8), .int (nI n3)])), ((h 8), .inl (cI, 120, .inl f3)), ((h 9), .inr (0, [.ref (h 10), .int (nI n4)])), ((h 10), .inl (cI, 160, .inl f4))] := hD
  refine lv_aload_n hx hb d_SF_open_26 rfl (lv_at hl 0 rfl) ?_
  refine zRd (rest := []) (zrV hS9 (c_SF_hasShape l D cI cC cJ h n0 n0 n2 n3 n4 f0 f1 f2 f3 f4 (nI 0) (by omega) (by omega) (by omega) (by omega) (by omega) B hB) zc_SF_hasShape zw_394 zw_396 zp_14 (by decide) (va_recv hE.1 hP (ci := 1) (q := (R_SF, F_SF, 6)) rfl (q0 := 0) rfl) (hP) hE rfl hl.1 rfl (Nat.le_of_ble_eq_true rfl) d_SF_open_27) ?_
  by_cases g0 : zs_sh n3 B = 0
  · refine lv_if_ne hx hb d_SF_open_30 (tgt := 35) (by decide) (fun z9 => absurd (by rw [g0]; rfl) z9) (fun _ => ?_)
    refine lv_iconst (v := (-1)) hx hb d_SF_open_33 (by decide) ?_
    rw [zs_open, if_pos g0] at hRe
    subst hRe
    exact W.iret (v := (-1)) hx hb hr (fun t ht _ => ⟨rfl, by rw [ht]; exact ⟨f0, f1, f2, f3, f4, hS0, hA0, hM, hB, hE9, hP⟩, hS.F ht⟩) hS.2.2 d_SF_open_34
  · have hsh : 2 ≤ n3 ∧ B 0 = 83 ∧ 1 ≤ B 1 ∧ B 1 ≤ 3 ∧ 6 + B 1 * 8 ≤ n3 := by unfold zs_sh at g0; split at g0; assumption; exact absurd rfl g0
    have g1 : zs_sh n3 B = 1 := by rw [zs_sh, if_pos hsh]
    refine lv_if_ne hx hb d_SF_open_30 (tgt := 35) (by decide) (fun _ => ?_) (fun z9 => absurd z9 (by rw [g1]; decide))
    refine lv_aload_n hx hb d_SF_open_35 rfl (lv_at hl 0 rfl) ?_
    refine lv_iload_n hx hb d_SF_open_36 rfl (lv_at hl 1 rfl) ?_
    refine zRd (rest := []) (zrV hS9 (c_SF_entryFor l D cI cC cJ h n0 n0 n2 n3 n4 f0 f1 f2 f3 f4 (nI 0) (by omega) (by omega) (by omega) (by omega) (by omega) B hB S hS0 hA0 rfl k hk (by omega) (by omega)) zc_SF_entryFor zw_402 zw_404 zp_16 (by decide) (va_recv hE.1 hP (ci := 1) (q := (R_SF, F_SF, 6)) rfl (q0 := 0) rfl) (hP) hE rfl hl.1 rfl (Nat.le_of_ble_eq_true rfl) d_SF_open_37) ?_
    refine lv_istore_n hx hb d_SF_open_40 rfl hl (by decide) (lv' := [(2, .int (zs_ent B (S k) (zs_pw 2 (S k)) 0 (B 1))), (0, .ref (h 0)), (1, .int (nI k))]) rfl (fun ls hl => ?_)
    refine lv_iload_n hx hb d_SF_open_41 rfl (lv_at hl 0 rfl) ?_
    rcases zs_ent_is B (S k) (zs_pw 2 (S k)) (B 1) 0 with ge | ⟨j, hj, ge⟩
    · refine lv_if_ge hx hb d_SF_open_42 (tgt := 48) (by decide) (fun z9 => absurd z9 (by rw [ge]; decide)) (fun _ => ?_)
      refine lv_bipush (v := (-2)) hx hb d_SF_open_45 (by decide) ?_
      rw [zs_open, if_neg g0, if_pos (by rw [ge]; decide)] at hRe
      subst hRe
      exact W.iret (v := (-2)) hx hb hr (fun t ht _ => ⟨rfl, by rw [ht]; exact ⟨f0, f1, f2, f3, f4, hS0, hA0, hM, hB, hE9, hP⟩, hS.F ht⟩) hS.2.2 d_SF_open_47
    · refine lv_if_ge hx hb d_SF_open_42 (tgt := 48) (by decide) (fun _ => ?_) (fun z9 => absurd (by rw [ge]; exact nI_pos' (by omega)) z9)
      have gn : ¬ zs_ent B (S k) (zs_pw 2 (S k)) 0 (B 1) < 0 := by rw [ge]; exact nI_pos (by omega)
      have gc : (zs_ent B (S k) (zs_pw 2 (S k)) 0 (B 1)).toNatClampNeg = 2 + 8 * j := by rw [ge]; exact nI_clamp (by omega)
      rw [zs_open, if_neg g0, if_neg gn, gc] at hRe
      refine lv_aload_n hx hb d_SF_open_48 rfl (lv_at hl 1 rfl) ?_
      refine lv_iload_n hx hb d_SF_open_49 rfl (lv_at hl 0 rfl) ?_
      refine lv_iload_n hx hb d_SF_open_50 rfl (lv_at hl 2 rfl) ?_
      rw [ge]
      rw [ge] at hl
      refine zRd (rest := []) (zrV hS9 (c_SF_unwrapped l D cI cC cJ h n0 n0 n2 n3 n4 f0 f1 f2 f3 f4 (nI 0) (by omega) (by omega) (by omega) (by omega) (by omega) B hB S hS0 hA0 rfl (2 + 8 * j) k (by omega) hk) zc_SF_unwrapped zw_414 zw_416 zp_19 (by decide) (va_recv hE.1 hP (ci := 1) (q := (R_SF, F_SF, 6)) rfl (q0 := 0) rfl) (hP) hE rfl hl.1 rfl (Nat.le_of_ble_eq_true rfl) d_SF_open_51) ?_
      refine lv_istore_n hx hb d_SF_open_54 rfl hl (by decide) (lv' := [(3, .int (zs_un_w B (2 + 8 * j) (S k) (zs_pw 2 (S k)))), (2, .int (nI (2 + 8 * j))), (0, .ref (h 0)), (1, .int (nI k))]) rfl (fun ls hl => ?_)
      refine lv_aload_n hx hb d_SF_open_55 rfl (lv_at hl 2 rfl) ?_
      refine zRd (rest := []) (zrV hS9 (c_SF_entriesEnd l D cI cC cJ h n0 n0 n2 n3 n4 f0 f1 f2 f3 f4 (nI 0) (by omega) (by omega) (by omega) (by omega) (by omega) B hB (by omega)) zc_SF_entriesEnd zw_398 zw_400 zp_15 (by decide) (va_recv hE.1 hP (ci := 1) (q := (R_SF, F_SF, 6)) rfl (q0 := 0) rfl) (hP) hE rfl hl.1 rfl (Nat.le_of_ble_eq_true rfl) d_SF_open_56) ?_
      refine lv_istore hx hb d_SF_open_59 hl (by decide) (lv' := [(4, .int (nI (2 + B 1 * 8))), (3, .int (zs_un_w B (2 + 8 * j) (S k) (zs_pw 2 (S k)))), (2, .int (nI (2 + 8 * j))), (0, .ref (h 0)), (1, .int (nI k))]) rfl (fun ls hl => ?_)
      refine lv_aload_n hx hb d_SF_open_61 rfl (lv_at hl 3 rfl) ?_
      refine va_get (D := D) (ci := 1) (v := .ref (h 7)) (C := R_SF) (T := F_SF) (N := 6) hx hb hg i_SF hown hE.1 hP 0 rfl rfl 3 (by decide) (hg _ zw_43) (fun _ h9 => h9) rfl d_SF_open_62 ?_
      refine lv_iload hx hb d_SF_open_65 (lv_at hl 0 rfl) ?_
      refine zRd (rest := []) (zrVN hS9 (c_RW_pair l D cI cC cJ (h 7) (h 8) 120 n3 f3 (by omega) (by decide) (nI (2 + B 1 * 8))) zc_RW_pair (by decide) zw_412 zp_18 (by decide) (va_recv hE.1 hP (ci := 0) (q := (R_RW, F_RW, 2)) rfl (q0 := 7) rfl) (hP.sub [7, 8] rfl) hE rfl hl.1 rfl (Nat.le_of_ble_eq_true rfl) d_SF_open_67) ?_
      refine ztop (y := nI (zs_two B (2 + B 1 * 8))) (zs_pair_in hB (by omega) (by omega)) ?_
      refine lv_aload_n hx hb d_SF_open_70 rfl (lv_at hl 3 rfl) ?_
      refine lv_iload_n hx hb d_SF_open_71 rfl (lv_at hl 1 rfl) ?_
      refine lv_iload hx hb d_SF_open_72 (lv_at hl 0 rfl) ?_
      refine zRd (rest := [.int (nI (zs_two B (2 + B 1 * 8)))]) (zrV hS9 (c_SF_headSign l D cI cC cJ h n0 n0 n2 n3 n4 f0 f1 f2 f3 f4 (nI 0) (by omega) (by omega) (by omega) (by omega) (by omega) B hB (zs_un_w B (2 + 8 * j) (S k) (zs_pw 2 (S k))) (2 + B 1 * 8) (by omega)) zc_SF_headSign zw_369 zw_371 zp_11 (by decide) (va_recv hE.1 hP (ci := 1) (q := (R_SF, F_SF, 6)) rfl (q0 := 0) rfl) (hP) hE rfl hl.1 rfl (Nat.le_of_ble_eq_true rfl) d_SF_open_74) ?_
      have l1 : zs_two B (2 + B 1 * 8) < 65536 := zs_two_lt (hB _ (show (2 + B 1 * 8) < n3 by omega)).2 (hB _ (show (2 + B 1 * 8) + 1 < n3 by omega)).2
      have l2 := zs_sg_lt B 0 (2 + B 1 * 8) (zs_word (zs_un_w B (2 + 8 * j) (S k) (zs_pw 2 (S k))) (nI 0) (nI 3))
      by_cases g2 : zs_two B (2 + B 1 * 8) = zs_sg B 0 (2 + B 1 * 8) (zs_word (zs_un_w B (2 + 8 * j) (S k) (zs_pw 2 (S k))) (nI 0) (nI 3))
      · refine lv_icmp_eq hx hb d_SF_open_77 (tgt := 83) (by decide) (fun _ => ?_) (fun z9 => absurd (by rw [g2]) z9)
        refine lv_aload_n hx hb d_SF_open_83 rfl (lv_at hl 3 rfl) ?_
        refine lv_iload_n hx hb d_SF_open_84 rfl (lv_at hl 1 rfl) ?_
        refine lv_iload hx hb d_SF_open_85 (lv_at hl 0 rfl) ?_
        refine lv_iconst (v := (nI 2)) hx hb d_SF_open_87 (by decide) ?_
        refine lv_iadd hx hb d_SF_open_88 ?_
        refine ztop (y := nI ((2 + B 1 * 8) + 2)) (nI_add _ _) ?_
        rw [if_pos g2] at hRe
        refine zWr (rest := []) (zrV hS9 (c_SF_takePieces l D cI cC cJ h n0 n0 n2 n3 n4 f0 f1 f2 f3 f4 (nI 0) (by omega) (by omega) (by omega) (by omega) (by omega) hh B hB (zs_un_w B (2 + 8 * j) (S k) (zs_pw 2 (S k))) ((2 + B 1 * 8) + 2) (by omega) rfl) zc_SF_takePieces zw_418 zw_420 zp_20 (by decide) (va_recv hE.1 hP (ci := 1) (q := (R_SF, F_SF, 6)) rfl (q0 := 0) rfl) (hP) hE rfl hl.1 rfl (Nat.le_of_ble_eq_true rfl) d_SF_open_89) hS (fun _ _ h => h) (fun _ h => h) (fun H locs hB1 hz hk9 hS => ?_)
        obtain ⟨fq, hM, hP⟩ := hB1
        rw [hRe] at hM hP ⊢
        exact W.iret (v := R9.1) hx hb hr (fun t ht _ => ⟨rfl, by rw [ht]; exact ⟨f0, f1, fq, f3, f4, hS0, hA0, hM, hB, hE9, hP⟩, hS.F ht⟩) hS.2.2 d_SF_open_92
      · refine lv_icmp_eq hx hb d_SF_open_77 (tgt := 83) (by decide) (fun z9 => absurd z9 (fun z => g2 ((nI_eq (by omega) (by omega)).mp z))) (fun _ => ?_)
        refine lv_bipush (v := (-3)) hx hb d_SF_open_80 (by decide) ?_
        rw [if_neg g2] at hRe
        subst hRe
        exact W.iret (v := (-3)) hx hb hr (fun t ht _ => ⟨rfl, by rw [ht]; exact ⟨f0, f1, f2, f3, f4, hS0, hA0, hM, hB, hE9, hP⟩, hS.F ht⟩) hS.2.2 d_SF_open_82

