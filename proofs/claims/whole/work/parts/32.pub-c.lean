set_option maxHeartbeats 4000000 in
set_option maxRecDepth 100000 in
theorem c_SF_print_no (l : Launch) (D : va_G) (cI cC cJ : ClassId) (h : Nat → Nat) (n0 : Nat) (S : Nat → Nat) (n2 : Nat) (M : Nat → Nat) (n3 : Nat) (B : Nat → Nat) (n4 : Nat) (E : Nat → Nat) (rt : Nat) (hh : zs_inj h) (hn0 : n0 ≤ 4) (hn2 : n2 ≤ 40) (hn3 : n3 ≤ 120) (hn4 : n4 ≤ 160) (ka va : Nat) (x : Int32) (hx9 : x < 0 ∨ nI ((n3 * 8 + 5) / 6) ≤ x) : Met l y_SF_print (zw k_SF_print) ({ frames := 4, cells := 0, slots := 0, locals := 85 }) (zPcY [.ref (h 0), .int x] (fun H => zCl D cI h n0 S n2 M n3 B n4 E rt H) D cI cC cJ (zX1 (zAS h) ka va)) (QcRead (-1)) 0 0 (fun _ => False) := by
  refine zMetY (by decide) (Nat.le_of_ble_eq_true rfl) ?_
  intro p e s m below meth c hx hb hr hg hown hlk hml hB0 hE hX ls hl
  have hl : lv_has ls 7 [(0, .ref (h 0)), (1, .int x)] := hl
  have hS9 : CallFix p m c b_SF_print 7 s [.ref (h 0), .int x].toArray zg "SealedFiles" := ⟨hx, hb, hml, hown, hg⟩
  obtain ⟨f0, f1, f2, f3, f4, hS0, hA0, hM, hB, hE9, hP⟩ := hB0
  have hP : va_P D zcl [((h 0), .inr (1, [.ref (h 1), .ref (h 3), .ref (h 5), .ref (h 7), .ref (h 9), .int (nI rt)])), ((h 1), .inr (0, [.ref (h 2), .int (nI n0)])), ((h 2), .inl (cI, 4, .inl f0)), ((h 3), .inr (0, [.ref (h 4), .int (nI n0)])), ((h 4), .inl (cI, 4, .inl f1)), ((h 5), .inr (0, [.ref (h 6), .int (nI n2)])), ((h 6), .inl (cI, 40, .inl f2)), ((h 7), .inr (0, [.ref (h 8), .int (nI n3)])), ((h 8), .inl (cI, 120, .inl f3)), ((h 9), .inr (0, [.ref (h 10), .int (nI n4)])), ((h 10), .inl (cI, 160, .inl f4))] s.heap := hP
  have hn1 : n0 ≤ 4 := hn0
  refine lv_aload_n hx hb d_SF_print_0 rfl (lv_at hl 0 rfl) ?_
  refine va_get (D := D) (ci := 1) (v := .ref (h 7)) (C := R_SF) (T := F_SF) (N := 6) hx hb hg i_SF hown hE.1 hP 0 rfl rfl 3 (by decide) (hg _ zw_43) (fun _ h9 => h9) rfl d_SF_print_1 ?_
  refine zRd (rest := []) (zrVN hS9 (c_RW_size l D cI cC cJ (h 7) (h 8) 120 n3 f3 (by omega) (by decide)) zc_RW_size (by decide) zw_85 zp_3 (by decide) (va_recv hE.1 hP (ci := 0) (q := (R_RW, F_RW, 2)) rfl (q0 := 7) rfl) (hP.sub [7, 8] rfl) hE rfl hl.1 rfl (Nat.le_of_ble_eq_true rfl) d_SF_print_4) ?_
  refine lv_bipush (v := (nI 8)) hx hb d_SF_print_7 (by decide) ?_
  refine lv_imul hx hb d_SF_print_9 ?_
  refine lv_iconst (v := (nI 5)) hx hb d_SF_print_10 (by decide) ?_
  refine lv_iadd hx hb d_SF_print_11 ?_
  refine lv_bipush (v := (nI 6)) hx hb d_SF_print_12 (by decide) ?_
  refine lv_idiv hx hb d_SF_print_14 (by decide) ?_
  refine ztop (y := nI ((n3 * 8 + 5) / 6)) (by rw [pk_mul, nI_add, pk_div (by omega) (by decide) (by decide)]) ?_
  refine lv_istore_n hx hb d_SF_print_15 rfl hl (by decide) (lv' := [(2, .int (nI ((n3 * 8 + 5) / 6))), (0, .ref (h 0)), (1, .int x)]) rfl (fun ls hl => ?_)
  refine lv_iload_n hx hb d_SF_print_16 rfl (lv_at hl 2 rfl) ?_
  have rest : ∀ ls : Array Slot, lv_has ls 7 [(2, .int (nI ((n3 * 8 + 5) / 6))), (0, .ref (h 0)), (1, .int x)] → W p l e ({ frames := 4, cells := 0, slots := 0, locals := 85 }) s m [.ref (h 0), .int x].toArray below meth c s.heap [] 0 0 (MQ below (QcRead (-1)) [.ref (h 0), .int x].toArray s 0 0 (fun _ => False)) (F0 m 25 ls []) := by
    intro ls hl
    refine lv_iconst (v := (-1)) hx hb d_SF_print_25 (by decide) ?_
    exact W.iret (v := (-1)) hx hb hr (fun t ht _ => ⟨congrArg (fun z => Outcome.returned (some (Value.int z))) (rfl), ht⟩) t_nil d_SF_print_26
  refine lv_if_lt hx hb d_SF_print_17 (tgt := 25) (by decide) (fun g => ?_) (fun g => ?_)
  · exact rest ls hl
  · refine lv_iload_n hx hb d_SF_print_20 rfl (lv_at hl 2 rfl) ?_
    refine lv_iload_n hx hb d_SF_print_21 rfl (lv_at hl 0 rfl) ?_
    refine lv_icmp_lt hx hb d_SF_print_22 (tgt := 27) (by decide) (fun z9 => absurd z9 (Int32.not_lt.mpr (hx9.resolve_left g))) (fun _ => ?_)
    exact rest ls hl

set_option maxHeartbeats 4000000 in
set_option maxRecDepth 100000 in
theorem c_SF_print_ok (l : Launch) (D : va_G) (cI cC cJ : ClassId) (h : Nat → Nat) (n0 : Nat) (S : Nat → Nat) (n2 : Nat) (M : Nat → Nat) (n3 : Nat) (B : Nat → Nat) (n4 : Nat) (E : Nat → Nat) (rt : Nat) (hh : zs_inj h) (hn0 : n0 ≤ 4) (hn2 : n2 ≤ 40) (hn3 : n3 ≤ 120) (hn4 : n4 ≤ 160) (ka va : Nat) (i : Nat) (hi : i * 6 < n3 * 8) : Met l y_SF_print (zw k_SF_print) ({ frames := 4, cells := 0, slots := 0, locals := 85 }) (zPcY [.ref (h 0), .int (nI i)] (fun H => zCl D cI h n0 S n2 M n3 B n4 E rt H) D cI cC cJ (zX1 (zAS h) ka va)) (QcRead (nI (zs_chr (zs_p6 n3 B i)))) 0 0 (fun _ => False) := by
  refine zMetY (by decide) (Nat.le_of_ble_eq_true rfl) ?_
  intro p e s m below meth c hx hb hr hg hown hlk hml hB0 hE hX ls hl
  have hl : lv_has ls 7 [(0, .ref (h 0)), (1, .int (nI i))] := hl
  have hS9 : CallFix p m c b_SF_print 7 s [.ref (h 0), .int (nI i)].toArray zg "SealedFiles" := ⟨hx, hb, hml, hown, hg⟩
  obtain ⟨f0, f1, f2, f3, f4, hS0, hA0, hM, hB, hE9, hP⟩ := hB0
  have hP : va_P D zcl [((h 0), .inr (1, [.ref (h 1), .ref (h 3), .ref (h 5), .ref (h 7), .ref (h 9), .int (nI rt)])), ((h 1), .inr (0, [.ref (h 2), .int (nI n0)])), ((h 2), .inl (cI, 4, .inl f0)), ((h 3), .inr (0, [.ref (h 4), .int (nI n0)])), ((h 4), .inl (cI, 4, .inl f1)), ((h 5), .inr (0, [.ref (h 6), .int (nI n2)])), ((h 6), .inl (cI, 40, .inl f2)), ((h 7), .inr (0, [.ref (h 8), .int (nI n3)])), ((h 8), .inl (cI, 120, .inl f3)), ((h 9), .inr (0, [.ref (h 10), .int (nI n4)])), ((h 10), .inl (cI, 160, .inl f4))] s.heap := hP
  have hn1 : n0 ≤ 4 := hn0
  refine lv_aload_n hx hb d_SF_print_0 rfl (lv_at hl 0 rfl) ?_
  refine va_get (D := D) (ci := 1) (v := .ref (h 7)) (C := R_SF) (T := F_SF) (N := 6) hx hb hg i_SF hown hE.1 hP 0 rfl rfl 3 (by decide) (hg _ zw_43) (fun _ h9 => h9) rfl d_SF_print_1 ?_
  refine zRd (rest := []) (zrVN hS9 (c_RW_size l D cI cC cJ (h 7) (h 8) 120 n3 f3 (by omega) (by decide)) zc_RW_size (by decide) zw_85 zp_3 (by decide) (va_recv hE.1 hP (ci := 0) (q := (R_RW, F_RW, 2)) rfl (q0 := 7) rfl) (hP.sub [7, 8] rfl) hE rfl hl.1 rfl (Nat.le_of_ble_eq_true rfl) d_SF_print_4) ?_
  refine lv_bipush (v := (nI 8)) hx hb d_SF_print_7 (by decide) ?_
  refine lv_imul hx hb d_SF_print_9 ?_
  refine lv_iconst (v := (nI 5)) hx hb d_SF_print_10 (by decide) ?_
  refine lv_iadd hx hb d_SF_print_11 ?_
  refine lv_bipush (v := (nI 6)) hx hb d_SF_print_12 (by decide) ?_
  refine lv_idiv hx hb d_SF_print_14 (by decide) ?_
  refine ztop (y := nI ((n3 * 8 + 5) / 6)) (by rw [pk_mul, nI_add, pk_div (by omega) (by decide) (by decide)]) ?_
  refine lv_istore_n hx hb d_SF_print_15 rfl hl (by decide) (lv' := [(2, .int (nI ((n3 * 8 + 5) / 6))), (0, .ref (h 0)), (1, .int (nI i))]) rfl (fun ls hl => ?_)
  refine lv_iload_n hx hb d_SF_print_16 rfl (lv_at hl 2 rfl) ?_
  refine lv_if_lt hx hb d_SF_print_17 (tgt := 25) (by decide) (fun z9 => absurd z9 (nI_pos (by omega))) (fun _ => ?_)
  refine lv_iload_n hx hb d_SF_print_20 rfl (lv_at hl 2 rfl) ?_
  refine lv_iload_n hx hb d_SF_print_21 rfl (lv_at hl 0 rfl) ?_
  refine lv_icmp_lt hx hb d_SF_print_22 (tgt := 27) (by decide) (fun _ => ?_) (fun z9 => absurd (nI_lt (by omega) (by omega)) z9)
  refine lv_iload_n hx hb d_SF_print_27 rfl (lv_at hl 2 rfl) ?_
  refine lv_bipush (v := (nI 6)) hx hb d_SF_print_28 (by decide) ?_
  refine lv_imul hx hb d_SF_print_30 ?_
  refine ztop (y := nI (i * 6)) (pk_mul _ _) ?_
  refine lv_bipush (v := (nI 8)) hx hb d_SF_print_31 (by decide) ?_
  refine lv_idiv hx hb d_SF_print_33 (by decide) ?_
  refine ztop (y := nI (i * 6 / 8)) (pk_div (by omega) (by decide) (by decide)) ?_
  refine lv_istore_n hx hb d_SF_print_34 rfl hl (by decide) (lv' := [(3, .int (nI (i * 6 / 8))), (2, .int (nI ((n3 * 8 + 5) / 6))), (0, .ref (h 0)), (1, .int (nI i))]) rfl (fun ls hl => ?_)
  refine lv_iload_n hx hb d_SF_print_35 rfl (lv_at hl 3 rfl) ?_
  refine lv_bipush (v := (nI 6)) hx hb d_SF_print_36 (by decide) ?_
  refine lv_imul hx hb d_SF_print_38 ?_
  refine ztop (y := nI (i * 6)) (pk_mul _ _) ?_
  refine lv_bipush (v := (nI 8)) hx hb d_SF_print_39 (by decide) ?_
  refine lv_irem hx hb d_SF_print_41 (by decide) ?_
  refine ztop (y := nI (i * 6 % 8)) (pk_rem (by omega) (by decide) (by decide)) ?_
  refine lv_istore hx hb d_SF_print_42 hl (by decide) (lv' := [(4, .int (nI (i * 6 % 8))), (3, .int (nI (i * 6 / 8))), (2, .int (nI ((n3 * 8 + 5) / 6))), (0, .ref (h 0)), (1, .int (nI i))]) rfl (fun ls hl => ?_)
  refine lv_aload_n hx hb d_SF_print_44 rfl (lv_at hl 3 rfl) ?_
  refine va_get (D := D) (ci := 1) (v := .ref (h 7)) (C := R_SF) (T := F_SF) (N := 6) hx hb hg i_SF hown hE.1 hP 0 rfl rfl 3 (by decide) (hg _ zw_43) (fun _ h9 => h9) rfl d_SF_print_45 ?_
  refine lv_iload_n hx hb d_SF_print_48 rfl (lv_at hl 1 rfl) ?_
  refine lv_iconst (v := (nI 1)) hx hb d_SF_print_49 (by decide) ?_
  refine lv_iadd hx hb d_SF_print_50 ?_
  refine ztop (y := nI ((i * 6 / 8) + 1)) (nI_add _ _) ?_
  refine zRd (rest := []) (zrVN hS9 (c_RW_has l D cI cC cJ (h 7) (h 8) 120 n3 f3 (by omega) (by decide) (nI ((i * 6 / 8) + 1))) zc_RW_has (by decide) zw_69 zp_1 (by decide) (va_recv hE.1 hP (ci := 0) (q := (R_RW, F_RW, 2)) rfl (q0 := 7) rfl) (hP.sub [7, 8] rfl) hE rfl hl.1 rfl (Nat.le_of_ble_eq_true rfl) d_SF_print_51) ?_
  have hb1 : (if i * 6 / 8 + 1 < n3 then B (i * 6 / 8 + 1) else 0) < 256 := by split; rename_i g; exact (hB _ g).2; decide
  have rest : ∀ ls : Array Slot, lv_has ls 7 [(4, .int (nI (i * 6 % 8))), (3, .int (nI (i * 6 / 8))), (2, .int (nI ((n3 * 8 + 5) / 6))), (0, .ref (h 0)), (1, .int (nI i))] → W p l e ({ frames := 4, cells := 0, slots := 0, locals := 85 }) s m [.ref (h 0), .int (nI i)].toArray below meth c s.heap [] 0 0 (MQ below (QcRead (nI (zs_chr (zs_p6 n3 B i)))) [.ref (h 0), .int (nI i)].toArray s 0 0 (fun _ => False)) (F0 m 71 ls [.int (nI (if i * 6 / 8 + 1 < n3 then B (i * 6 / 8 + 1) else 0))]) := by
    intro ls hl
    have hb0 : B (i * 6 / 8) < 256 := (hB (i * 6 / 8) (show (i * 6 / 8) < n3 by omega)).2
    refine lv_istore hx hb d_SF_print_71 hl (by decide) (lv' := [(5, .int (nI (if i * 6 / 8 + 1 < n3 then B (i * 6 / 8 + 1) else 0))), (4, .int (nI (i * 6 % 8))), (3, .int (nI (i * 6 / 8))), (2, .int (nI ((n3 * 8 + 5) / 6))), (0, .ref (h 0)), (1, .int (nI i))]) rfl (fun ls hl => ?_)
    refine lv_aload_n hx hb d_SF_print_73 rfl (lv_at hl 4 rfl) ?_
    refine va_get (D := D) (ci := 1) (v := .ref (h 7)) (C := R_SF) (T := F_SF) (N := 6) hx hb hg i_SF hown hE.1 hP 0 rfl rfl 3 (by decide) (hg _ zw_43) (fun _ h9 => h9) rfl d_SF_print_74 ?_
    refine lv_iload_n hx hb d_SF_print_77 rfl (lv_at hl 2 rfl) ?_
    refine zRd (rest := []) (zrVN hS9 (c_RW_item l D cI cC cJ (h 7) (h 8) 120 n3 f3 (by omega) (by decide) (nI (i * 6 / 8))) zc_RW_item (by decide) zw_65 zp_0 (by decide) (va_recv hE.1 hP (ci := 0) (q := (R_RW, F_RW, 2)) rfl (q0 := 7) rfl) (hP.sub [7, 8] rfl) hE rfl hl.1 rfl (Nat.le_of_ble_eq_true rfl) d_SF_print_78) ?_
    refine ztop (y := nI (B (i * 6 / 8))) ((zs_item_in (by omega) (by omega)).trans (hB (i * 6 / 8) (show (i * 6 / 8) < n3 by omega)).1) ?_
    refine lv_bipush (v := (nI 8)) hx hb d_SF_print_81 (by decide) ?_
    refine lv_ishl hx hb d_SF_print_83 ?_
    refine lv_iload hx hb d_SF_print_84 (lv_at hl 0 rfl) ?_
    refine lv_ior hx hb d_SF_print_86 ?_
    refine ztop (y := nI (B (i * 6 / 8) * 256 + (if i * 6 / 8 + 1 < n3 then B (i * 6 / 8 + 1) else 0))) (zs_cat (k := 8) (by decide) hb1 (by omega)) ?_
    refine lv_istore hx hb d_SF_print_87 hl (by decide) (lv' := [(6, .int (nI (B (i * 6 / 8) * 256 + (if i * 6 / 8 + 1 < n3 then B (i * 6 / 8 + 1) else 0)))), (5, .int (nI (if i * 6 / 8 + 1 < n3 then B (i * 6 / 8 + 1) else 0))), (4, .int (nI (i * 6 % 8))), (3, .int (nI (i * 6 / 8))), (2, .int (nI ((n3 * 8 + 5) / 6))), (0, .ref (h 0)), (1, .int (nI i))]) rfl (fun ls hl => ?_)
    refine va_ldcS hx hb hown hX.1 d_SF_print_89 ?_
    refine lv_iload hx hb d_SF_print_91 (lv_at hl 0 rfl) ?_
    refine lv_bipush (v := (nI 10)) hx hb d_SF_print_93 (by decide) ?_
    refine lv_iload hx hb d_SF_print_95 (lv_at hl 2 rfl) ?_
    refine lv_isub hx hb d_SF_print_97 ?_
    refine ztop (y := nI (10 - i * 6 % 8)) (pk_sub (by omega)) ?_
    refine lv_iushr (v := zs_u (nI (B (i * 6 / 8) * 256 + (if i * 6 / 8 + 1 < n3 then B (i * 6 / 8 + 1) else 0))) (nI (10 - i * 6 % 8))) hx hb d_SF_print_98 rfl ?_
    refine ztop (y := nI ((B (i * 6 / 8) * 256 + (if i * 6 / 8 + 1 < n3 then B (i * 6 / 8 + 1) else 0)) / 2 ^ (10 - i * 6 % 8))) (zs_u_nI (by omega) (by omega)) ?_
    have hd : (B (i * 6 / 8) * 256 + (if i * 6 / 8 + 1 < n3 then B (i * 6 / 8 + 1) else 0)) / 2 ^ (10 - i * 6 % 8) ≤ (B (i * 6 / 8) * 256 + (if i * 6 / 8 + 1 < n3 then B (i * 6 / 8 + 1) else 0)) := Nat.div_le_self _ _
    refine lv_bipush (v := (nI 63)) hx hb d_SF_print_99 (by decide) ?_
    refine lv_iand hx hb d_SF_print_101 ?_
    refine ztop (y := nI (zs_p6 n3 B i)) (pk_andN (by omega) 6 (by decide)) ?_
    refine zRd (rest := []) (zrVY hS9 (c_ST_charAt l D cI cC cJ (zAS h) ka va (zs_p6 n3 B i) (Nat.mod_lt _ (by decide))) zc_ST_charAt zw_113 zw_114 zw_115 (by decide) (by obtain ⟨cell, h1, h2, h3, -⟩ := hX.2.2.2.1; exact ⟨cell, h1, h2, h3⟩) (trivial) hE zX1.bl (fun U hU hW => hX.use va_S.rf hU hW (fun _ h => h)) rfl hl.1 rfl (Nat.le_of_ble_eq_true rfl) d_SF_print_102) ?_
    exact W.iret (v := (nI (zs_chr (zs_p6 n3 B i)))) hx hb hr (fun t ht _ => ⟨congrArg (fun z => Outcome.returned (some (Value.int z))) (rfl), ht⟩) t_nil d_SF_print_105
  by_cases g : (i * 6 / 8) + 1 < n3
  · refine lv_if_eq hx hb d_SF_print_54 (tgt := 70) (by decide) (fun z9 => absurd z9 (by rw [zs_has_in g (by omega)]; decide)) (fun _ => ?_)
    refine lv_aload_n hx hb d_SF_print_57 rfl (lv_at hl 3 rfl) ?_
    refine va_get (D := D) (ci := 1) (v := .ref (h 7)) (C := R_SF) (T := F_SF) (N := 6) hx hb hg i_SF hown hE.1 hP 0 rfl rfl 3 (by decide) (hg _ zw_43) (fun _ h9 => h9) rfl d_SF_print_58 ?_
    refine lv_iload_n hx hb d_SF_print_61 rfl (lv_at hl 1 rfl) ?_
    refine lv_iconst (v := (nI 1)) hx hb d_SF_print_62 (by decide) ?_
    refine lv_iadd hx hb d_SF_print_63 ?_
    refine ztop (y := nI ((i * 6 / 8) + 1)) (nI_add _ _) ?_
    refine zRd (rest := []) (zrVN hS9 (c_RW_item l D cI cC cJ (h 7) (h 8) 120 n3 f3 (by omega) (by decide) (nI ((i * 6 / 8) + 1))) zc_RW_item (by decide) zw_65 zp_0 (by decide) (va_recv hE.1 hP (ci := 0) (q := (R_RW, F_RW, 2)) rfl (q0 := 7) rfl) (hP.sub [7, 8] rfl) hE rfl hl.1 rfl (Nat.le_of_ble_eq_true rfl) d_SF_print_64) ?_
    refine lv_goto hx hb d_SF_print_67 (tgt := 71) (by decide) ?_
    refine ztop (y := nI (if i * 6 / 8 + 1 < n3 then B (i * 6 / 8 + 1) else 0)) ((zs_item_in g (by omega)).trans ((hB _ g).1.trans (by rw [if_pos g]))) ?_
    exact rest ls hl
  · refine lv_if_eq hx hb d_SF_print_54 (tgt := 70) (by decide) (fun _ => ?_) (fun z9 => absurd (by rw [zs_has_out (by omega) (by omega)]; rfl) z9)
    refine lv_iconst (v := (nI 0)) hx hb d_SF_print_70 (by decide) ?_
    refine ztop (y := nI (if i * 6 / 8 + 1 < n3 then B (i * 6 / 8 + 1) else 0)) (by rw [if_neg g]) ?_
    exact rest ls hl

set_option maxHeartbeats 4000000 in
set_option maxRecDepth 100000 in
theorem c_SF_write_ok (l : Launch) (D : va_G) (cI cC cJ : ClassId) (h : Nat → Nat) (n0 : Nat) (S : Nat → Nat) (n2 : Nat) (M : Nat → Nat) (n3 : Nat) (B : Nat → Nat) (n4 : Nat) (E : Nat → Nat) (rt : Nat) (hh : zs_inj h) (hn0 : n0 ≤ 4) (hn2 : n2 ≤ 40) (hn3 : n3 ≤ 120) (hn4 : n4 ≤ 160) (ka va : Nat) (c9 y9 : Nat) (hc9 : c9 < 65536) (hy9 : zs_six c9 = nI y9) (hy64 : y9 < 64) (hr9 : n4 < 160) : Met l y_SF_write (zw k_SF_write) ({ frames := 4, cells := 0, slots := 0, locals := 91 }) (zPcY [.ref (h 0), .int (nI c9)] (fun H => zCl D cI h n0 S n2 M n3 B n4 E rt H) D cI cC cJ (zX1 (zAS h) ka va)) (zQm (some (.int (nI 1))) (fun H => zCl D cI h n0 S n2 M n3 B (n4 + 1) (zs_push (n4, E) y9).2 rt H) (zAS h)) 0 0 (zAS h) := by
  refine zMetY (by decide) (Nat.le_of_ble_eq_true rfl) ?_
  intro p e s m below meth c hx hb hr hg hown hlk hml hB0 hE hX ls hl
  have hl : lv_has ls 3 [(0, .ref (h 0)), (1, .int (nI c9))] := hl
  have hS9 : CallFix p m c b_SF_write 3 s [.ref (h 0), .int (nI c9)].toArray zg "SealedFiles" := ⟨hx, hb, hml, hown, hg⟩
  obtain ⟨f0, f1, f2, f3, f4, hS0, hA0, hM, hB, hE9, hP⟩ := hB0
  have hP : va_P D zcl [((h 0), .inr (1, [.ref (h 1), .ref (h 3), .ref (h 5), .ref (h 7), .ref (h 9), .int (nI rt)])), ((h 1), .inr (0, [.ref (h 2), .int (nI n0)])), ((h 2), .inl (cI, 4, .inl f0)), ((h 3), .inr (0, [.ref (h 4), .int (nI n0)])), ((h 4), .inl (cI, 4, .inl f1)), ((h 5), .inr (0, [.ref (h 6), .int (nI n2)])), ((h 6), .inl (cI, 40, .inl f2)), ((h 7), .inr (0, [.ref (h 8), .int (nI n3)])), ((h 8), .inl (cI, 120, .inl f3)), ((h 9), .inr (0, [.ref (h 10), .int (nI n4)])), ((h 10), .inl (cI, 160, .inl f4))] s.heap := hP
  have hn1 : n0 ≤ 4 := hn0
  have hD : va_D (zAS h) [((h 0), .inr (1, [.ref (h 1), .ref (h 3), .ref (h 5), .ref (h 7), .ref (h 9), .int (nI rt)])), ((h 1), .inr (0, [.ref (h 2), .int (nI n0)])), ((h 2), .inl (cI, 4, .inl f0)), ((h 3), .inr (0, [.ref (h 4), .int (nI n0)])), ((h 4), .inl (cI, 4, .inl f1)), ((h 5), .inr (0, [.ref (h 6), .int (nI n2)])), ((h 6), .inl (cI, 40, .inl f2)), ((h 7), .inr (0, [.ref (h 8), .int (nI n3)])), ((h 8), .inl (cI, 120, .inl f3)), ((h 9), .inr (0, [.ref (h 10), .int (nI n4)])), ((h 10), .inl (cI, 160, .inl f4))] := zSf_D hh
  have hS : va_S (zAS h) s.heap s.heap [] := va_S.rf
  refine va_ldcS hx hb hown hX.1 d_SF_write_0 ?_
  refine lv_iload_n hx hb d_SF_write_2 rfl (lv_at hl 1 rfl) ?_
  refine zRd (rest := []) (zrVY hS9 (c_ST_indexOf l D cI cC cJ (zAS h) ka va c9 hc9) zc_ST_indexOf zw_158 zw_159 zw_160 (by decide) (by obtain ⟨cell, h1, h2, h3, -⟩ := hX.2.2.2.1; exact ⟨cell, h1, h2, h3⟩) (trivial) hE zX1.bl (fun U hU hW => hX.use va_S.rf hU hW (fun _ h => h)) rfl hl.1 rfl (Nat.le_of_ble_eq_true rfl) d_SF_write_3) ?_
  refine ztop (y := nI y9) (hy9) ?_
  refine lv_istore_n hx hb d_SF_write_6 rfl hl (by decide) (lv' := [(2, .int (nI y9)), (0, .ref (h 0)), (1, .int (nI c9))]) rfl (fun ls hl => ?_)
  refine lv_iload_n hx hb d_SF_write_7 rfl (lv_at hl 0 rfl) ?_
  refine lv_if_lt hx hb d_SF_write_8 (tgt := 26) (by decide) (fun z9 => absurd z9 (nI_pos (by omega))) (fun _ => ?_)
  refine lv_aload_n hx hb d_SF_write_11 rfl (lv_at hl 1 rfl) ?_
  refine va_get (D := D) (ci := 1) (v := .ref (h 9)) (C := R_SF) (T := F_SF) (N := 6) hx hb hg i_SF hown hE.1 hP 0 rfl rfl 4 (by decide) (hg _ zw_44) (fun _ h9 => h9) rfl d_SF_write_12 ?_
  refine lv_iload_n hx hb d_SF_write_15 rfl (lv_at hl 0 rfl) ?_
  refine zWr (rest := []) (zrVN hS9 (c_RW_append l D cI cC cJ (h 9) (h 10) 160 n4 f4 (by omega) (by decide) (fun z => absurd (hh 9 10 (by decide) (by decide) z) (by decide)) (nI y9) (hr9)) zc_RW_append (by decide) zw_77 zp_2 (by decide) (va_recv hE.1 hP (ci := 0) (q := (R_RW, F_RW, 2)) rfl (q0 := 9) rfl) (hP.sub [9, 10] rfl) hE rfl hl.1 rfl (Nat.le_of_ble_eq_true rfl) d_SF_write_16) hS (fun q _ h => zA2_in hD 9 10 rfl rfl q h) (fun q h => zA2_in hD 9 10 rfl rfl q h) (fun H locs hB1 hz hk hS => ?_)
  obtain ⟨hP, hD⟩ := zrow hP hD 9 10 rfl rfl (by decide) hk hB1
  have hP : va_P D zcl [((h 0), .inr (1, [.ref (h 1), .ref (h 3), .ref (h 5), .ref (h 7), .ref (h 9), .int (nI rt)])), ((h 1), .inr (0, [.ref (h 2), .int (nI n0)])), ((h 2), .inl (cI, 4, .inl f0)), ((h 3), .inr (0, [.ref (h 4), .int (nI n0)])), ((h 4), .inl (cI, 4, .inl f1)), ((h 5), .inr (0, [.ref (h 6), .int (nI n2)])), ((h 6), .inl (cI, 40, .inl f2)), ((h 7), .inr (0, [.ref (h 8), .int (nI n3)])), ((h 8), .inl (cI, 120, .inl f3)), ((h 9), .inr (0, [.ref (h 10), .int (nI (n4 + 1))])), ((h 10), .inl (cI, 160, .inl (upd f4 n4 (nI y9))))] H := hP
  have hD : va_D (zAS h) [((h 0), .inr (1, [.ref (h 1), .ref (h 3), .ref (h 5), .ref (h 7), .ref (h 9), .int (nI rt)])), ((h 1), .inr (0, [.ref (h 2), .int (nI n0)])), ((h 2), .inl (cI, 4, .inl f0)), ((h 3), .inr (0, [.ref (h 4), .int (nI n0)])), ((h 4), .inl (cI, 4, .inl f1)), ((h 5), .inr (0, [.ref (h 6), .int (nI n2)])), ((h 6), .inl (cI, 40, .inl f2)), ((h 7), .inr (0, [.ref (h 8), .int (nI n3)])), ((h 8), .inl (cI, 120, .inl f3)), ((h 9), .inr (0, [.ref (h 10), .int (nI (n4 + 1))])), ((h 10), .inl (cI, 160, .inl (upd f4 n4 (nI y9))))] := hD
  have hE9 : zs_hold 64 (upd f4 n4 (nI y9)) (zs_push (n4, E) y9) := zs_hold_push hE9 (hy64)
  generalize (upd f4 n4 (nI y9)) = f4z at hP hD hE9
  refine lv_if_eq hx hb d_SF_write_19 (tgt := 26) (by decide) (fun z9 => absurd z9 (by decide)) (fun _ => ?_)
  refine lv_iconst (v := (nI 1)) hx hb d_SF_write_22 (by decide) ?_
  refine lv_goto hx hb d_SF_write_23 (tgt := 27) (by decide) ?_
  exact W.zret (v := (nI 1)) hx hb hr (rfl) (fun t ht _ => ⟨rfl, by rw [ht]; exact ⟨f0, f1, f2, f3, f4z, hS0, hA0, hM, hB, hE9, hP⟩, hS.F ht⟩) hS.2.2 d_SF_write_27

set_option maxHeartbeats 4000000 in
set_option maxRecDepth 100000 in
theorem c_SF_write_no (l : Launch) (D : va_G) (cI cC cJ : ClassId) (h : Nat → Nat) (n0 : Nat) (S : Nat → Nat) (n2 : Nat) (M : Nat → Nat) (n3 : Nat) (B : Nat → Nat) (n4 : Nat) (E : Nat → Nat) (rt : Nat) (hh : zs_inj h) (hn0 : n0 ≤ 4) (hn2 : n2 ≤ 40) (hn3 : n3 ≤ 120) (hn4 : n4 ≤ 160) (ka va : Nat) (c9 : Nat) (hc9 : c9 < 65536) (hx9 : n4 = 160 ∨ zs_six c9 = -1) : Met l y_SF_write (zw k_SF_write) ({ frames := 4, cells := 0, slots := 0, locals := 91 }) (zPcY [.ref (h 0), .int (nI c9)] (fun H => zCl D cI h n0 S n2 M n3 B n4 E rt H) D cI cC cJ (zX1 (zAS h) ka va)) (zQm (some (.int (nI 0))) (fun H => zCl D cI h n0 S n2 M n3 B n4 E rt H) (zAS h)) 0 0 (zAS h) := by
  refine zMetY (by decide) (Nat.le_of_ble_eq_true rfl) ?_
  intro p e s m below meth c hx hb hr hg hown hlk hml hB0 hE hX ls hl
  have hl : lv_has ls 3 [(0, .ref (h 0)), (1, .int (nI c9))] := hl
  have hS9 : CallFix p m c b_SF_write 3 s [.ref (h 0), .int (nI c9)].toArray zg "SealedFiles" := ⟨hx, hb, hml, hown, hg⟩
  obtain ⟨f0, f1, f2, f3, f4, hS0, hA0, hM, hB, hE9, hP⟩ := hB0
  have hP : va_P D zcl [((h 0), .inr (1, [.ref (h 1), .ref (h 3), .ref (h 5), .ref (h 7), .ref (h 9), .int (nI rt)])), ((h 1), .inr (0, [.ref (h 2), .int (nI n0)])), ((h 2), .inl (cI, 4, .inl f0)), ((h 3), .inr (0, [.ref (h 4), .int (nI n0)])), ((h 4), .inl (cI, 4, .inl f1)), ((h 5), .inr (0, [.ref (h 6), .int (nI n2)])), ((h 6), .inl (cI, 40, .inl f2)), ((h 7), .inr (0, [.ref (h 8), .int (nI n3)])), ((h 8), .inl (cI, 120, .inl f3)), ((h 9), .inr (0, [.ref (h 10), .int (nI n4)])), ((h 10), .inl (cI, 160, .inl f4))] s.heap := hP
  have hn1 : n0 ≤ 4 := hn0
  have hD : va_D (zAS h) [((h 0), .inr (1, [.ref (h 1), .ref (h 3), .ref (h 5), .ref (h 7), .ref (h 9), .int (nI rt)])), ((h 1), .inr (0, [.ref (h 2), .int (nI n0)])), ((h 2), .inl (cI, 4, .inl f0)), ((h 3), .inr (0, [.ref (h 4), .int (nI n0)])), ((h 4), .inl (cI, 4, .inl f1)), ((h 5), .inr (0, [.ref (h 6), .int (nI n2)])), ((h 6), .inl (cI, 40, .inl f2)), ((h 7), .inr (0, [.ref (h 8), .int (nI n3)])), ((h 8), .inl (cI, 120, .inl f3)), ((h 9), .inr (0, [.ref (h 10), .int (nI n4)])), ((h 10), .inl (cI, 160, .inl f4))] := zSf_D hh
  have hS : va_S (zAS h) s.heap s.heap [] := va_S.rf
  refine va_ldcS hx hb hown hX.1 d_SF_write_0 ?_
  refine lv_iload_n hx hb d_SF_write_2 rfl (lv_at hl 1 rfl) ?_
  refine zRd (rest := []) (zrVY hS9 (c_ST_indexOf l D cI cC cJ (zAS h) ka va c9 hc9) zc_ST_indexOf zw_158 zw_159 zw_160 (by decide) (by obtain ⟨cell, h1, h2, h3, -⟩ := hX.2.2.2.1; exact ⟨cell, h1, h2, h3⟩) (trivial) hE zX1.bl (fun U hU hW => hX.use va_S.rf hU hW (fun _ h => h)) rfl hl.1 rfl (Nat.le_of_ble_eq_true rfl) d_SF_write_3) ?_
  refine lv_istore_n hx hb d_SF_write_6 rfl hl (by decide) (lv' := [(2, .int (zs_six c9)), (0, .ref (h 0)), (1, .int (nI c9))]) rfl (fun ls hl => ?_)
  refine lv_iload_n hx hb d_SF_write_7 rfl (lv_at hl 0 rfl) ?_
  rcases zs_six_is c9 with g | ⟨y9, hy, g⟩
  · refine lv_if_lt hx hb d_SF_write_8 (tgt := 26) (by decide) (fun _ => ?_) (fun z9 => absurd (by rw [g]; decide) z9)
    refine lv_iconst (v := (nI 0)) hx hb d_SF_write_26 (by decide) ?_
    exact W.zret (v := (nI 0)) hx hb hr (rfl) (fun t ht _ => ⟨rfl, by rw [ht]; exact ⟨f0, f1, f2, f3, f4, hS0, hA0, hM, hB, hE9, hP⟩, hS.F ht⟩) hS.2.2 d_SF_write_27
  · have g4 : n4 = 160 := hx9.resolve_right (fun z => by rw [g] at z; exact absurd (z.symm ▸ nI_pos (n := y9) (by omega)) (by decide))
    refine lv_if_lt hx hb d_SF_write_8 (tgt := 26) (by decide) (fun z9 => absurd z9 (by rw [g]; exact nI_pos (by omega))) (fun _ => ?_)
    refine lv_aload_n hx hb d_SF_write_11 rfl (lv_at hl 1 rfl) ?_
    refine va_get (D := D) (ci := 1) (v := .ref (h 9)) (C := R_SF) (T := F_SF) (N := 6) hx hb hg i_SF hown hE.1 hP 0 rfl rfl 4 (by decide) (hg _ zw_44) (fun _ h9 => h9) rfl d_SF_write_12 ?_
    refine lv_iload_n hx hb d_SF_write_15 rfl (lv_at hl 0 rfl) ?_
    refine zWr (rest := []) (zrVN hS9 (c_RW_append_full l D cI cC cJ (h 9) (h 10) 160 n4 f4 (by omega) (by decide) (fun z => absurd (hh 9 10 (by decide) (by decide) z) (by decide)) (zs_six c9) g4) zc_RW_append (by decide) zw_77 zp_2 (by decide) (va_recv hE.1 hP (ci := 0) (q := (R_RW, F_RW, 2)) rfl (q0 := 9) rfl) (hP.sub [9, 10] rfl) hE rfl hl.1 rfl (Nat.le_of_ble_eq_true rfl) d_SF_write_16) hS (fun q _ h => zA2_in hD 9 10 rfl rfl q h) (fun q h => zA2_in hD 9 10 rfl rfl q h) (fun H locs hB1 hz hk hS => ?_)
    obtain ⟨hP, hD⟩ := zrow hP hD 9 10 rfl rfl (by decide) hk hB1
    have hP : va_P D zcl [((h 0), .inr (1, [.ref (h 1), .ref (h 3), .ref (h 5), .ref (h 7), .ref (h 9), .int (nI rt)])), ((h 1), .inr (0, [.ref (h 2), .int (nI n0)])), ((h 2), .inl (cI, 4, .inl f0)), ((h 3), .inr (0, [.ref (h 4), .int (nI n0)])), ((h 4), .inl (cI, 4, .inl f1)), ((h 5), .inr (0, [.ref (h 6), .int (nI n2)])), ((h 6), .inl (cI, 40, .inl f2)), ((h 7), .inr (0, [.ref (h 8), .int (nI n3)])), ((h 8), .inl (cI, 120, .inl f3)), ((h 9), .inr (0, [.ref (h 10), .int (nI n4)])), ((h 10), .inl (cI, 160, .inl f4))] H := hP
    have hD : va_D (zAS h) [((h 0), .inr (1, [.ref (h 1), .ref (h 3), .ref (h 5), .ref (h 7), .ref (h 9), .int (nI rt)])), ((h 1), .inr (0, [.ref (h 2), .int (nI n0)])), ((h 2), .inl (cI, 4, .inl f0)), ((h 3), .inr (0, [.ref (h 4), .int (nI n0)])), ((h 4), .inl (cI, 4, .inl f1)), ((h 5), .inr (0, [.ref (h 6), .int (nI n2)])), ((h 6), .inl (cI, 40, .inl f2)), ((h 7), .inr (0, [.ref (h 8), .int (nI n3)])), ((h 8), .inl (cI, 120, .inl f3)), ((h 9), .inr (0, [.ref (h 10), .int (nI n4)])), ((h 10), .inl (cI, 160, .inl f4))] := hD
    refine lv_if_eq hx hb d_SF_write_19 (tgt := 26) (by decide) (fun _ => ?_) (fun z9 => absurd (by decide) z9)
    refine lv_iconst (v := (nI 0)) hx hb d_SF_write_26 (by decide) ?_
    exact W.zret (v := (nI 0)) hx hb hr (rfl) (fun t ht _ => ⟨rfl, by rw [ht]; exact ⟨f0, f1, f2, f3, f4, hS0, hA0, hM, hB, hE9, hP⟩, hS.F ht⟩) hS.2.2 d_SF_write_27

