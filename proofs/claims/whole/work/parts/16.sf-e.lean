set_option maxHeartbeats 4000000 in
set_option maxRecDepth 100000 in
theorem c_IN_bitCount (l : Launch) (D : va_G) (cI cC cJ : ClassId) (x : Int32) : Met l y_IN_bitCount (zw k_IN_bitCount) ({ frames := 0, cells := 0, slots := 0, locals := 0 }) (zPc [.int x] (fun _ => True) D cI cC cJ) (QcRead (zs_bc x)) 0 0 (fun _ => False) := by
  refine zMet (by decide) (Nat.le_of_ble_eq_true rfl) ?_
  intro p e s m below meth c hx hb hr hg hown hlk hml hB hE ls hl
  have hl : lv_has ls 1 [(0, .int x)] := hl
  have hS9 : CallFix p m c b_IN_bitCount 1 s [.int x].toArray zg "java/lang/Integer" := ⟨hx, hb, hml, hown, hg⟩
  refine lv_iload_n hx hb d_IN_bitCount_0 rfl (lv_at hl 0 rfl) ?_
  refine lv_iload_n hx hb d_IN_bitCount_1 rfl (lv_at hl 0 rfl) ?_
  refine lv_iconst (v := (nI 1)) hx hb d_IN_bitCount_2 (by decide) ?_
  refine lv_iushr (v := zs_u x (nI 1)) hx hb d_IN_bitCount_3 rfl ?_
  refine lv_ldcw (v := (nI 1431655765)) hx hb hown (hg _ zw_333) d_IN_bitCount_4 ?_
  refine lv_iand hx hb d_IN_bitCount_7 ?_
  refine lv_isub hx hb d_IN_bitCount_8 ?_
  refine ztop (y := zs_b1 x) (rfl) ?_
  refine lv_istore_n hx hb d_IN_bitCount_9 rfl hl (by decide) (lv' := [(0, .int (zs_b1 x))]) rfl (fun ls hl => ?_)
  refine lv_iload_n hx hb d_IN_bitCount_10 rfl (lv_at hl 0 rfl) ?_
  refine lv_ldcw (v := (nI 858993459)) hx hb hown (hg _ zw_334) d_IN_bitCount_11 ?_
  refine lv_iand hx hb d_IN_bitCount_14 ?_
  refine lv_iload_n hx hb d_IN_bitCount_15 rfl (lv_at hl 0 rfl) ?_
  refine lv_iconst (v := (nI 2)) hx hb d_IN_bitCount_16 (by decide) ?_
  refine lv_iushr (v := zs_u (zs_b1 x) (nI 2)) hx hb d_IN_bitCount_17 rfl ?_
  refine lv_ldcw (v := (nI 858993459)) hx hb hown (hg _ zw_334) d_IN_bitCount_18 ?_
  refine lv_iand hx hb d_IN_bitCount_21 ?_
  refine lv_iadd hx hb d_IN_bitCount_22 ?_
  refine ztop (y := zs_b2 (zs_b1 x)) (rfl) ?_
  refine lv_istore_n hx hb d_IN_bitCount_23 rfl hl (by decide) (lv' := [(0, .int (zs_b2 (zs_b1 x)))]) rfl (fun ls hl => ?_)
  refine lv_iload_n hx hb d_IN_bitCount_24 rfl (lv_at hl 0 rfl) ?_
  refine lv_iload_n hx hb d_IN_bitCount_25 rfl (lv_at hl 0 rfl) ?_
  refine lv_iconst (v := (nI 4)) hx hb d_IN_bitCount_26 (by decide) ?_
  refine lv_iushr (v := zs_u (zs_b2 (zs_b1 x)) (nI 4)) hx hb d_IN_bitCount_27 rfl ?_
  refine lv_iadd hx hb d_IN_bitCount_28 ?_
  refine lv_ldcw (v := (nI 252645135)) hx hb hown (hg _ zw_335) d_IN_bitCount_29 ?_
  refine lv_iand hx hb d_IN_bitCount_32 ?_
  refine ztop (y := zs_b3 (zs_b2 (zs_b1 x))) (rfl) ?_
  refine lv_istore_n hx hb d_IN_bitCount_33 rfl hl (by decide) (lv' := [(0, .int (zs_b3 (zs_b2 (zs_b1 x))))]) rfl (fun ls hl => ?_)
  refine lv_iload_n hx hb d_IN_bitCount_34 rfl (lv_at hl 0 rfl) ?_
  refine lv_iload_n hx hb d_IN_bitCount_35 rfl (lv_at hl 0 rfl) ?_
  refine lv_bipush (v := (nI 8)) hx hb d_IN_bitCount_36 (by decide) ?_
  refine lv_iushr (v := zs_u (zs_b3 (zs_b2 (zs_b1 x))) (nI 8)) hx hb d_IN_bitCount_38 rfl ?_
  refine lv_iadd hx hb d_IN_bitCount_39 ?_
  refine ztop (y := zs_b4 (zs_b3 (zs_b2 (zs_b1 x)))) (rfl) ?_
  refine lv_istore_n hx hb d_IN_bitCount_40 rfl hl (by decide) (lv' := [(0, .int (zs_b4 (zs_b3 (zs_b2 (zs_b1 x)))))]) rfl (fun ls hl => ?_)
  refine lv_iload_n hx hb d_IN_bitCount_41 rfl (lv_at hl 0 rfl) ?_
  refine lv_iload_n hx hb d_IN_bitCount_42 rfl (lv_at hl 0 rfl) ?_
  refine lv_bipush (v := (nI 16)) hx hb d_IN_bitCount_43 (by decide) ?_
  refine lv_iushr (v := zs_u (zs_b4 (zs_b3 (zs_b2 (zs_b1 x)))) (nI 16)) hx hb d_IN_bitCount_45 rfl ?_
  refine lv_iadd hx hb d_IN_bitCount_46 ?_
  refine ztop (y := zs_b5 (zs_b4 (zs_b3 (zs_b2 (zs_b1 x))))) (rfl) ?_
  refine lv_istore_n hx hb d_IN_bitCount_47 rfl hl (by decide) (lv' := [(0, .int (zs_b5 (zs_b4 (zs_b3 (zs_b2 (zs_b1 x))))))]) rfl (fun ls hl => ?_)
  refine lv_iload_n hx hb d_IN_bitCount_48 rfl (lv_at hl 0 rfl) ?_
  refine lv_bipush (v := (nI 63)) hx hb d_IN_bitCount_49 (by decide) ?_
  refine lv_iand hx hb d_IN_bitCount_51 ?_
  exact W.iret (v := ((zs_b5 (zs_b4 (zs_b3 (zs_b2 (zs_b1 x))))) &&& (nI 63))) hx hb hr (fun t ht _ => ⟨congrArg (fun z => Outcome.returned (some (Value.int z))) (rfl), ht⟩) t_nil d_IN_bitCount_52

set_option maxHeartbeats 4000000 in
set_option maxRecDepth 100000 in
theorem c_SF_areReceivers (l : Launch) (D : va_G) (cI cC cJ : ClassId) (h : Nat → Nat) (n0 n1 n2 n3 n4 : Nat) (f0 f1 f2 f3 f4 : Nat → Int32) (rp : Int32) (hn0 : n0 ≤ 4) (hn1 : n1 ≤ 4) (hn2 : n2 ≤ 40) (hn3 : n3 ≤ 120) (hn4 : n4 ≤ 160)(x : Int32) : Met l y_SF_areReceivers (zw k_SF_areReceivers) ({ frames := 1, cells := 0, slots := 0, locals := 20 }) (zPc [.ref (h 0), .int x] (fun H => va_P D zcl (zSf cI h n0 n1 n2 n3 n4 f0 f1 f2 f3 f4 rp) H) D cI cC cJ) (QcRead (nI (zs_rc n0 (zs_un x)))) 0 0 (fun _ => False) := by
  refine zMet (by decide) (Nat.le_of_ble_eq_true rfl) ?_
  intro p e s m below meth c hx hb hr hg hown hlk hml hP hE ls hl
  have hl : lv_has ls 3 [(0, .ref (h 0)), (1, .int x)] := hl
  have hS9 : CallFix p m c b_SF_areReceivers 3 s [.ref (h 0), .int x].toArray zg "SealedFiles" := ⟨hx, hb, hml, hown, hg⟩
  have hP : va_P D zcl [((h 0), .inr (1, [.ref (h 1), .ref (h 3), .ref (h 5), .ref (h 7), .ref (h 9), .int rp])), ((h 1), .inr (0, [.ref (h 2), .int (nI n0)])), ((h 2), .inl (cI, 4, .inl f0)), ((h 3), .inr (0, [.ref (h 4), .int (nI n1)])), ((h 4), .inl (cI, 4, .inl f1)), ((h 5), .inr (0, [.ref (h 6), .int (nI n2)])), ((h 6), .inl (cI, 40, .inl f2)), ((h 7), .inr (0, [.ref (h 8), .int (nI n3)])), ((h 8), .inl (cI, 120, .inl f3)), ((h 9), .inr (0, [.ref (h 10), .int (nI n4)])), ((h 10), .inl (cI, 160, .inl f4))] s.heap := hP
  refine lv_iload_n hx hb d_SF_areReceivers_0 rfl (lv_at hl 1 rfl) ?_
  refine zRd (rest := []) (zrS hS9 (c_IN_bitCount l D cI cC cJ x) zc_IN_bitCount zw_330 zw_331 (by decide) (trivial) hE rfl hl.1 rfl (Nat.le_of_ble_eq_true rfl) d_SF_areReceivers_1) ?_
  refine lv_istore_n hx hb d_SF_areReceivers_4 rfl hl (by decide) (lv' := [(2, .int (zs_bc x)), (0, .ref (h 0)), (1, .int x)]) rfl (fun ls hl => ?_)
  refine lv_iload_n hx hb d_SF_areReceivers_5 rfl (lv_at hl 0 rfl) ?_
  refine lv_iconst (v := (nI 1)) hx hb d_SF_areReceivers_6 (by decide) ?_
  have h16 := zs_two4 hn0
  have hux : nI (zs_un x) = x := zs_nI_un x
  by_cases g : zs_un x < 2 ^ n0
  · have hbc : zs_bc x = nI (zs_pc (zs_un x)) := by rw [← zs_bc_4 (zs_un x) (by omega), hux]
    have hp4 := zs_pc_le (zs_un x)
    by_cases g1 : 1 ≤ zs_pc (zs_un x)
    · refine lv_icmp_lt hx hb d_SF_areReceivers_7 (tgt := 31) (by decide) (fun z9 => absurd z9 (by rw [hbc]; exact nI_nlt (by omega) (by omega))) (fun _ => ?_)
      refine lv_iload_n hx hb d_SF_areReceivers_10 rfl (lv_at hl 0 rfl) ?_
      refine lv_iconst (v := (nI 3)) hx hb d_SF_areReceivers_11 (by decide) ?_
      by_cases g2 : zs_pc (zs_un x) ≤ 3
      · refine lv_icmp_gt hx hb d_SF_areReceivers_12 (tgt := 31) (by decide) (fun z9 => absurd z9 (by rw [hbc]; exact nI_nlt (by omega) (by omega))) (fun _ => ?_)
        refine lv_iload_n hx hb d_SF_areReceivers_15 rfl (lv_at hl 2 rfl) ?_
        refine lv_aload_n hx hb d_SF_areReceivers_16 rfl (lv_at hl 1 rfl) ?_
        refine va_get (D := D) (ci := 1) (v := .ref (h 1)) (C := R_SF) (T := F_SF) (N := 6) hx hb hg i_SF hown hE.1 hP 0 rfl rfl 0 (by decide) (hg _ zw_40) (fun _ h9 => h9) rfl d_SF_areReceivers_17 ?_
        refine zRd (rest := [.int x]) (zrVN hS9 (c_RW_size l D cI cC cJ (h 1) (h 2) 4 n0 f0 (by omega) (by decide)) zc_RW_size (by decide) zw_85 zp_3 (by decide) (va_recv hE.1 hP (ci := 0) (q := (R_RW, F_RW, 2)) rfl (q0 := 1) rfl) (hP.sub [1, 2] rfl) hE rfl hl.1 rfl (Nat.le_of_ble_eq_true rfl) d_SF_areReceivers_20) ?_
        refine lv_iushr (v := zs_u x (nI n0)) hx hb d_SF_areReceivers_23 rfl ?_
        refine ztop (y := nI (zs_un x / 2 ^ n0)) (zs_u_un x (by omega)) ?_
        refine lv_if_ne hx hb d_SF_areReceivers_24 (tgt := 31) (by decide) (fun z9 => absurd (by rw [Nat.div_eq_of_lt g]; rfl) z9) (fun _ => ?_)
        refine lv_iconst (v := (nI 1)) hx hb d_SF_areReceivers_27 (by decide) ?_
        refine lv_goto hx hb d_SF_areReceivers_28 (tgt := 32) (by decide) ?_
        exact W.zret (v := (nI 1)) hx hb hr (rfl) (fun t ht _ => ⟨congrArg (fun z => Outcome.returned (some (Value.int z))) (by rw [zs_rc, if_pos ⟨g1, g2, g⟩]), ht⟩) t_nil d_SF_areReceivers_32
      · refine lv_icmp_gt hx hb d_SF_areReceivers_12 (tgt := 31) (by decide) (fun _ => ?_) (fun z9 => absurd (by rw [hbc]; exact nI_lt (by omega) (by omega)) z9)
        refine lv_iconst (v := (nI 0)) hx hb d_SF_areReceivers_31 (by decide) ?_
        exact W.zret (v := (nI 0)) hx hb hr (rfl) (fun t ht _ => ⟨congrArg (fun z => Outcome.returned (some (Value.int z))) (by rw [zs_rc, if_neg (by omega)]), ht⟩) t_nil d_SF_areReceivers_32
    · refine lv_icmp_lt hx hb d_SF_areReceivers_7 (tgt := 31) (by decide) (fun _ => ?_) (fun z9 => absurd (by rw [hbc]; exact nI_lt (by omega) (by omega)) z9)
      refine lv_iconst (v := (nI 0)) hx hb d_SF_areReceivers_31 (by decide) ?_
      exact W.zret (v := (nI 0)) hx hb hr (rfl) (fun t ht _ => ⟨congrArg (fun z => Outcome.returned (some (Value.int z))) (by rw [zs_rc, if_neg (by omega)]), ht⟩) t_nil d_SF_areReceivers_32
  · refine lv_icmp_lt hx hb d_SF_areReceivers_7 (tgt := 31) (by decide) (fun g1 => ?_) (fun g1 => ?_)
    · refine lv_iconst (v := (nI 0)) hx hb d_SF_areReceivers_31 (by decide) ?_
      exact W.zret (v := (nI 0)) hx hb hr (rfl) (fun t ht _ => ⟨congrArg (fun z => Outcome.returned (some (Value.int z))) (by rw [zs_rc, if_neg (fun z => g z.2.2)]), ht⟩) t_nil d_SF_areReceivers_32
    · refine lv_iload_n hx hb d_SF_areReceivers_10 rfl (lv_at hl 0 rfl) ?_
      refine lv_iconst (v := (nI 3)) hx hb d_SF_areReceivers_11 (by decide) ?_
      refine lv_icmp_gt hx hb d_SF_areReceivers_12 (tgt := 31) (by decide) (fun g2 => ?_) (fun g2 => ?_)
      · refine lv_iconst (v := (nI 0)) hx hb d_SF_areReceivers_31 (by decide) ?_
        exact W.zret (v := (nI 0)) hx hb hr (rfl) (fun t ht _ => ⟨congrArg (fun z => Outcome.returned (some (Value.int z))) (by rw [zs_rc, if_neg (fun z => g z.2.2)]), ht⟩) t_nil d_SF_areReceivers_32
      · refine lv_iload_n hx hb d_SF_areReceivers_15 rfl (lv_at hl 2 rfl) ?_
        refine lv_aload_n hx hb d_SF_areReceivers_16 rfl (lv_at hl 1 rfl) ?_
        refine va_get (D := D) (ci := 1) (v := .ref (h 1)) (C := R_SF) (T := F_SF) (N := 6) hx hb hg i_SF hown hE.1 hP 0 rfl rfl 0 (by decide) (hg _ zw_40) (fun _ h9 => h9) rfl d_SF_areReceivers_17 ?_
        refine zRd (rest := [.int x]) (zrVN hS9 (c_RW_size l D cI cC cJ (h 1) (h 2) 4 n0 f0 (by omega) (by decide)) zc_RW_size (by decide) zw_85 zp_3 (by decide) (va_recv hE.1 hP (ci := 0) (q := (R_RW, F_RW, 2)) rfl (q0 := 1) rfl) (hP.sub [1, 2] rfl) hE rfl hl.1 rfl (Nat.le_of_ble_eq_true rfl) d_SF_areReceivers_20) ?_
        refine lv_iushr (v := zs_u x (nI n0)) hx hb d_SF_areReceivers_23 rfl ?_
        refine ztop (y := nI (zs_un x / 2 ^ n0)) (zs_u_un x (by omega)) ?_
        have hpos : 0 < zs_un x / 2 ^ n0 := Nat.div_pos (by omega) (Nat.two_pow_pos n0)
        have hle : zs_un x / 2 ^ n0 < 2 ^ 32 := Nat.lt_of_le_of_lt (Nat.div_le_self _ _) (zs_un_lt x)
        refine lv_if_ne hx hb d_SF_areReceivers_24 (tgt := 31) (by decide) (fun _ => ?_) (fun z9 => absurd z9 (zs_ne0 hpos hle))
        refine lv_iconst (v := (nI 0)) hx hb d_SF_areReceivers_31 (by decide) ?_
        exact W.zret (v := (nI 0)) hx hb hr (rfl) (fun t ht _ => ⟨congrArg (fun z => Outcome.returned (some (Value.int z))) (by rw [zs_rc, if_neg (fun z => g z.2.2)]), ht⟩) t_nil d_SF_areReceivers_32

set_option maxHeartbeats 4000000 in
set_option maxRecDepth 100000 in
theorem c_SF_draftIsPrintedForm (l : Launch) (D : va_G) (cI cC cJ : ClassId) (h : Nat → Nat) (n0 n1 n2 n3 n4 : Nat) (f0 f1 f2 f3 f4 : Nat → Int32) (rp : Int32) (hn0 : n0 ≤ 4) (hn1 : n1 ≤ 4) (hn2 : n2 ≤ 40) (hn3 : n3 ≤ 120) (hn4 : n4 ≤ 160) (E : Nat → Nat) (hE9 : zs_hold 64 f4 (n4, E)) : Met l y_SF_draftIsPrintedForm (zw k_SF_draftIsPrintedForm) ({ frames := 2, cells := 0, slots := 0, locals := 42 }) (zPc [.ref (h 0)] (fun H => va_P D zcl (zSf cI h n0 n1 n2 n3 n4 f0 f1 f2 f3 f4 rp) H) D cI cC cJ) (QcRead (nI (zs_pf n4 E))) 0 0 (fun _ => False) := by
  refine zMet (by decide) (Nat.le_of_ble_eq_true rfl) ?_
  intro p e s m below meth c hx hb hr hg hown hlk hml hP hE ls hl
  have hl : lv_has ls 3 [(0, .ref (h 0))] := hl
  have hS9 : CallFix p m c b_SF_draftIsPrintedForm 3 s [.ref (h 0)].toArray zg "SealedFiles" := ⟨hx, hb, hml, hown, hg⟩
  have hP : va_P D zcl [((h 0), .inr (1, [.ref (h 1), .ref (h 3), .ref (h 5), .ref (h 7), .ref (h 9), .int rp])), ((h 1), .inr (0, [.ref (h 2), .int (nI n0)])), ((h 2), .inl (cI, 4, .inl f0)), ((h 3), .inr (0, [.ref (h 4), .int (nI n1)])), ((h 4), .inl (cI, 4, .inl f1)), ((h 5), .inr (0, [.ref (h 6), .int (nI n2)])), ((h 6), .inl (cI, 40, .inl f2)), ((h 7), .inr (0, [.ref (h 8), .int (nI n3)])), ((h 8), .inl (cI, 120, .inl f3)), ((h 9), .inr (0, [.ref (h 10), .int (nI n4)])), ((h 10), .inl (cI, 160, .inl f4))] s.heap := hP
  refine lv_aload_n hx hb d_SF_draftIsPrintedForm_0 rfl (lv_at hl 0 rfl) ?_
  refine va_get (D := D) (ci := 1) (v := .ref (h 9)) (C := R_SF) (T := F_SF) (N := 6) hx hb hg i_SF hown hE.1 hP 0 rfl rfl 4 (by decide) (hg _ zw_44) (fun _ h9 => h9) rfl d_SF_draftIsPrintedForm_1 ?_
  refine zRd (rest := []) (zrVN hS9 (c_RW_size l D cI cC cJ (h 9) (h 10) 160 n4 f4 (by omega) (by decide)) zc_RW_size (by decide) zw_85 zp_3 (by decide) (va_recv hE.1 hP (ci := 0) (q := (R_RW, F_RW, 2)) rfl (q0 := 9) rfl) (hP.sub [9, 10] rfl) hE rfl hl.1 rfl (Nat.le_of_ble_eq_true rfl) d_SF_draftIsPrintedForm_4) ?_
  refine lv_bipush (v := (nI 6)) hx hb d_SF_draftIsPrintedForm_7 (by decide) ?_
  refine lv_imul hx hb d_SF_draftIsPrintedForm_9 ?_
  refine ztop (y := nI (n4 * 6)) (pk_mul _ _) ?_
  refine lv_aload_n hx hb d_SF_draftIsPrintedForm_10 rfl (lv_at hl 0 rfl) ?_
  refine zRd (rest := [.int (nI (n4 * 6))]) (zrV hS9 (c_SF_draftBytes l D cI cC cJ h n0 n1 n2 n3 n4 f0 f1 f2 f3 f4 rp hn0 hn1 hn2 hn3 hn4) zc_SF_draftBytes zw_473 zw_475 zp_24 (by decide) (va_recv hE.1 hP (ci := 1) (q := (R_SF, F_SF, 6)) rfl (q0 := 0) rfl) (hP) hE rfl hl.1 rfl (Nat.le_of_ble_eq_true rfl) d_SF_draftIsPrintedForm_11) ?_
  refine lv_bipush (v := (nI 8)) hx hb d_SF_draftIsPrintedForm_14 (by decide) ?_
  refine lv_imul hx hb d_SF_draftIsPrintedForm_16 ?_
  refine ztop (y := nI (n4 * 6 / 8 * 8)) (pk_mul _ _) ?_
  refine lv_isub hx hb d_SF_draftIsPrintedForm_17 ?_
  refine ztop (y := nI (n4 * 6 % 8)) ((pk_sub (by omega)).trans (congrArg nI (by omega))) ?_
  refine lv_istore_n hx hb d_SF_draftIsPrintedForm_18 rfl hl (by decide) (lv' := [(1, .int (nI (n4 * 6 % 8))), (0, .ref (h 0))]) rfl (fun ls hl => ?_)
  refine lv_iload_n hx hb d_SF_draftIsPrintedForm_19 rfl (lv_at hl 0 rfl) ?_
  by_cases g : (n4 * 6 % 8) = 0
  · refine lv_if_ne hx hb d_SF_draftIsPrintedForm_20 (tgt := 25) (by decide) (fun z9 => absurd (by rw [g]; rfl) z9) (fun _ => ?_)
    refine lv_iconst (v := (nI 1)) hx hb d_SF_draftIsPrintedForm_23 (by decide) ?_
    exact W.zret (v := (nI 1)) hx hb hr (rfl) (fun t ht _ => ⟨congrArg (fun z => Outcome.returned (some (Value.int z))) (by rw [zs_pf, if_pos g]), ht⟩) t_nil d_SF_draftIsPrintedForm_24
  · have h2 : 2 ^ (n4 * 6 % 8) ≤ 2 ^ 7 := Nat.pow_le_pow_right (by decide) (by omega)
    have h1 : 0 < 2 ^ (n4 * 6 % 8) := Nat.two_pow_pos _
    refine lv_if_ne hx hb d_SF_draftIsPrintedForm_20 (tgt := 25) (by decide) (fun _ => ?_) (fun z9 => absurd z9 (nI_ne0 (by omega) (by omega)))
    refine lv_iconst (v := (nI 1)) hx hb d_SF_draftIsPrintedForm_25 (by decide) ?_
    refine lv_iload_n hx hb d_SF_draftIsPrintedForm_26 rfl (lv_at hl 0 rfl) ?_
    refine lv_ishl hx hb d_SF_draftIsPrintedForm_27 ?_
    refine ztop (y := nI (2 ^ (n4 * 6 % 8))) ((pk_shlN (nI (n4 * 6 % 8) &&& 31) (n4 * 6 % 8) (zs_sm _ (by omega)) (by omega)).trans (by rw [Nat.one_mul])) ?_
    refine lv_iconst (v := (nI 1)) hx hb d_SF_draftIsPrintedForm_28 (by decide) ?_
    refine lv_isub hx hb d_SF_draftIsPrintedForm_29 ?_
    refine ztop (y := nI (2 ^ (n4 * 6 % 8) - 1)) (pk_sub (by omega)) ?_
    refine lv_istore_n hx hb d_SF_draftIsPrintedForm_30 rfl hl (by decide) (lv' := [(2, .int (nI (2 ^ (n4 * 6 % 8) - 1))), (1, .int (nI (n4 * 6 % 8))), (0, .ref (h 0))]) rfl (fun ls hl => ?_)
    refine lv_iload_n hx hb d_SF_draftIsPrintedForm_31 rfl (lv_at hl 1 rfl) ?_
    refine lv_bipush (v := (nI 6)) hx hb d_SF_draftIsPrintedForm_32 (by decide) ?_
    by_cases g1 : (n4 * 6 % 8) < 6
    · refine lv_icmp_ge hx hb d_SF_draftIsPrintedForm_34 (tgt := 62) (by decide) (fun z9 => absurd z9 (nI_ge (by omega) (by omega))) (fun _ => ?_)
      refine lv_aload_n hx hb d_SF_draftIsPrintedForm_37 rfl (lv_at hl 2 rfl) ?_
      refine va_get (D := D) (ci := 1) (v := .ref (h 9)) (C := R_SF) (T := F_SF) (N := 6) hx hb hg i_SF hown hE.1 hP 0 rfl rfl 4 (by decide) (hg _ zw_44) (fun _ h9 => h9) rfl d_SF_draftIsPrintedForm_38 ?_
      refine lv_aload_n hx hb d_SF_draftIsPrintedForm_41 rfl (lv_at hl 2 rfl) ?_
      refine va_get (D := D) (ci := 1) (v := .ref (h 9)) (C := R_SF) (T := F_SF) (N := 6) hx hb hg i_SF hown hE.1 hP 0 rfl rfl 4 (by decide) (hg _ zw_44) (fun _ h9 => h9) rfl d_SF_draftIsPrintedForm_42 ?_
      refine zRd (rest := [.ref (h 9)]) (zrVN hS9 (c_RW_size l D cI cC cJ (h 9) (h 10) 160 n4 f4 (by omega) (by decide)) zc_RW_size (by decide) zw_85 zp_3 (by decide) (va_recv hE.1 hP (ci := 0) (q := (R_RW, F_RW, 2)) rfl (q0 := 9) rfl) (hP.sub [9, 10] rfl) hE rfl hl.1 rfl (Nat.le_of_ble_eq_true rfl) d_SF_draftIsPrintedForm_45) ?_
      refine lv_iconst (v := (nI 1)) hx hb d_SF_draftIsPrintedForm_48 (by decide) ?_
      refine lv_isub hx hb d_SF_draftIsPrintedForm_49 ?_
      refine ztop (y := nI (n4 - 1)) (pk_sub (by omega)) ?_
      refine zRd (rest := []) (zrVN hS9 (c_RW_item l D cI cC cJ (h 9) (h 10) 160 n4 f4 (by omega) (by decide) (nI (n4 - 1))) zc_RW_item (by decide) zw_65 zp_0 (by decide) (va_recv hE.1 hP (ci := 0) (q := (R_RW, F_RW, 2)) rfl (q0 := 9) rfl) (hP.sub [9, 10] rfl) hE rfl hl.1 rfl (Nat.le_of_ble_eq_true rfl) d_SF_draftIsPrintedForm_50) ?_
      refine ztop (y := nI (E (n4 - 1))) ((zs_item_in (by omega) (by omega)).trans (hE9 (n4 - 1) (show n4 - 1 < n4 by omega)).1) ?_
      have h8 : E (n4 - 1) < 64 := (hE9 (n4 - 1) (show n4 - 1 < n4 by omega)).2
      refine lv_iload_n hx hb d_SF_draftIsPrintedForm_53 rfl (lv_at hl 0 rfl) ?_
      refine lv_iand hx hb d_SF_draftIsPrintedForm_54 ?_
      refine ztop (y := nI (E (n4 - 1) % 2 ^ (n4 * 6 % 8))) (pk_andN (by omega) (n4 * 6 % 8) (pk_tn (by omega))) ?_
      have h9 : E (n4 - 1) % 2 ^ (n4 * 6 % 8) ≤ E (n4 - 1) := Nat.mod_le _ _
      by_cases g2 : E (n4 - 1) % 2 ^ (n4 * 6 % 8) = 0
      · refine lv_if_ne hx hb d_SF_draftIsPrintedForm_55 (tgt := 62) (by decide) (fun z9 => absurd (by rw [g2]; rfl) z9) (fun _ => ?_)
        refine lv_iconst (v := (nI 1)) hx hb d_SF_draftIsPrintedForm_58 (by decide) ?_
        refine lv_goto hx hb d_SF_draftIsPrintedForm_59 (tgt := 63) (by decide) ?_
        exact W.zret (v := (nI 1)) hx hb hr (rfl) (fun t ht _ => ⟨congrArg (fun z => Outcome.returned (some (Value.int z))) (by rw [zs_pf, if_neg g, if_pos ⟨g1, g2⟩]), ht⟩) t_nil d_SF_draftIsPrintedForm_63
      · refine lv_if_ne hx hb d_SF_draftIsPrintedForm_55 (tgt := 62) (by decide) (fun _ => ?_) (fun z9 => absurd z9 (nI_ne0 (by omega) (by omega)))
        refine lv_iconst (v := (nI 0)) hx hb d_SF_draftIsPrintedForm_62 (by decide) ?_
        exact W.zret (v := (nI 0)) hx hb hr (rfl) (fun t ht _ => ⟨congrArg (fun z => Outcome.returned (some (Value.int z))) (by rw [zs_pf, if_neg g, if_neg (fun z => g2 z.2)]), ht⟩) t_nil d_SF_draftIsPrintedForm_63
    · refine lv_icmp_ge hx hb d_SF_draftIsPrintedForm_34 (tgt := 62) (by decide) (fun _ => ?_) (fun z9 => absurd (nI_le (by omega) (by omega)) z9)
      refine lv_iconst (v := (nI 0)) hx hb d_SF_draftIsPrintedForm_62 (by decide) ?_
      exact W.zret (v := (nI 0)) hx hb hr (rfl) (fun t ht _ => ⟨congrArg (fun z => Outcome.returned (some (Value.int z))) (by rw [zs_pf, if_neg g, if_neg (fun z => g1 z.1)]), ht⟩) t_nil d_SF_draftIsPrintedForm_63

set_option maxHeartbeats 4000000 in
set_option maxRecDepth 100000 in
theorem c_SF_takeDraft (l : Launch) (D : va_G) (cI cC cJ : ClassId) (h : Nat → Nat) (n0 n1 n2 n3 n4 : Nat) (f0 f1 f2 f3 f4 : Nat → Int32) (rp : Int32) (hn0 : n0 ≤ 4) (hn1 : n1 ≤ 4) (hn2 : n2 ≤ 40) (hn3 : n3 ≤ 120) (hn4 : n4 ≤ 160) (hh : zs_inj h) (E : Nat → Nat) (hE9 : zs_hold 64 f4 (n4, E)) : Met l y_SF_takeDraft (zw k_SF_takeDraft) ({ frames := 2, cells := 0, slots := 0, locals := 42 }) (zPc [.ref (h 0)] (fun H => va_P D zcl (zSf cI h n0 n1 n2 n3 n4 f0 f1 f2 f3 f4 rp) H) D cI cC cJ) (zQm none (fun H => ∃ f3' : Nat → Int32, zs_hold 256 f3' (zs_lds E (n4 * 6 / 8)) ∧ va_P D zcl (zSf cI h n0 n1 n2 (n4 * 6 / 8) n4 f0 f1 f2 (f3') f4 rp) H) (zAS h)) 0 0 (zAS h) := by
  refine zMet (by decide) (Nat.le_of_ble_eq_true rfl) ?_
  intro p e s m below meth c hx hb hr hg hown hlk hml hP hE ls hl
  have hl : lv_has ls 6 [(0, .ref (h 0))] := hl
  have hS9 : CallFix p m c b_SF_takeDraft 6 s [.ref (h 0)].toArray zg "SealedFiles" := ⟨hx, hb, hml, hown, hg⟩
  have hP : va_P D zcl [((h 0), .inr (1, [.ref (h 1), .ref (h 3), .ref (h 5), .ref (h 7), .ref (h 9), .int rp])), ((h 1), .inr (0, [.ref (h 2), .int (nI n0)])), ((h 2), .inl (cI, 4, .inl f0)), ((h 3), .inr (0, [.ref (h 4), .int (nI n1)])), ((h 4), .inl (cI, 4, .inl f1)), ((h 5), .inr (0, [.ref (h 6), .int (nI n2)])), ((h 6), .inl (cI, 40, .inl f2)), ((h 7), .inr (0, [.ref (h 8), .int (nI n3)])), ((h 8), .inl (cI, 120, .inl f3)), ((h 9), .inr (0, [.ref (h 10), .int (nI n4)])), ((h 10), .inl (cI, 160, .inl f4))] s.heap := hP
  have hD : va_D (zAS h) [((h 0), .inr (1, [.ref (h 1), .ref (h 3), .ref (h 5), .ref (h 7), .ref (h 9), .int rp])), ((h 1), .inr (0, [.ref (h 2), .int (nI n0)])), ((h 2), .inl (cI, 4, .inl f0)), ((h 3), .inr (0, [.ref (h 4), .int (nI n1)])), ((h 4), .inl (cI, 4, .inl f1)), ((h 5), .inr (0, [.ref (h 6), .int (nI n2)])), ((h 6), .inl (cI, 40, .inl f2)), ((h 7), .inr (0, [.ref (h 8), .int (nI n3)])), ((h 8), .inl (cI, 120, .inl f3)), ((h 9), .inr (0, [.ref (h 10), .int (nI n4)])), ((h 10), .inl (cI, 160, .inl f4))] := zSf_D hh
  have hS : va_S (zAS h) s.heap s.heap [] := va_S.rf
  refine lv_aload_n hx hb d_SF_takeDraft_0 rfl (lv_at hl 0 rfl) ?_
  refine va_get (D := D) (ci := 1) (v := .ref (h 7)) (C := R_SF) (T := F_SF) (N := 6) hx hb hg i_SF hown hE.1 hP 0 rfl rfl 3 (by decide) (hg _ zw_43) (fun _ h9 => h9) rfl d_SF_takeDraft_1 ?_
  refine lv_iconst (v := (nI 0)) hx hb d_SF_takeDraft_4 (by decide) ?_
  refine zWr (rest := []) (zrVN hS9 (c_RW_clear l D cI cC cJ (h 7) (h 8) 120 n3 f3 (by omega) (by decide) (fun z => absurd (hh 7 8 (by decide) (by decide) z) (by decide))) zc_RW_shorten (by decide) zw_89 zp_4 (by decide) (va_recv hE.1 hP (ci := 0) (q := (R_RW, F_RW, 2)) rfl (q0 := 7) rfl) (hP.sub [7, 8] rfl) hE rfl hl.1 rfl (Nat.le_of_ble_eq_true rfl) d_SF_takeDraft_5) hS (fun q _ h => zA2_in hD 7 8 rfl rfl q h) (fun q h => zA2_in hD 7 8 rfl rfl q h) (fun H locs hB1 hz hk hS => ?_)
  obtain ⟨hP, hD⟩ := zrow hP hD 7 8 rfl rfl (by decide) hk hB1
  have hP : va_P D zcl [((h 0), .inr (1, [.ref (h 1), .ref (h 3), .ref (h 5), .ref (h 7), .ref (h 9), .int rp])), ((h 1), .inr (0, [.ref (h 2), .int (nI n0)])), ((h 2), .inl (cI, 4, .inl f0)), ((h 3), .inr (0, [.ref (h 4), .int (nI n1)])), ((h 4), .inl (cI, 4, .inl f1)), ((h 5), .inr (0, [.ref (h 6), .int (nI n2)])), ((h 6), .inl (cI, 40, .inl f2)), ((h 7), .inr (0, [.ref (h 8), .int (nI 0)])), ((h 8), .inl (cI, 120, .inl f3)), ((h 9), .inr (0, [.ref (h 10), .int (nI n4)])), ((h 10), .inl (cI, 160, .inl f4))] H := hP
  have hD : va_D (zAS h) [((h 0), .inr (1, [.ref (h 1), .ref (h 3), .ref (h 5), .ref (h 7), .ref (h 9), .int rp])), ((h 1), .inr (0, [.ref (h 2), .int (nI n0)])), ((h 2), .inl (cI, 4, .inl f0)), ((h 3), .inr (0, [.ref (h 4), .int (nI n1)])), ((h 4), .inl (cI, 4, .inl f1)), ((h 5), .inr (0, [.ref (h 6), .int (nI n2)])), ((h 6), .inl (cI, 40, .inl f2)), ((h 7), .inr (0, [.ref (h 8), .int (nI 0)])), ((h 8), .inl (cI, 120, .inl f3)), ((h 9), .inr (0, [.ref (h 10), .int (nI n4)])), ((h 10), .inl (cI, 160, .inl f4))] := hD
  refine lv_pop hx hb d_SF_takeDraft_8 rfl ?_
  refine lv_aload_n hx hb d_SF_takeDraft_9 rfl (lv_at hl 0 rfl) ?_
  refine zRd (rest := []) (zrV hS9 (c_SF_draftBytes l D cI cC cJ h n0 n1 n2 0 n4 f0 f1 f2 f3 f4 rp (by omega) (by omega) (by omega) (by omega) (by omega)) zc_SF_draftBytes zw_473 zw_475 zp_24 (by decide) (va_recv hE.1 hP (ci := 1) (q := (R_SF, F_SF, 6)) rfl (q0 := 0) rfl) (hP) hE rfl hl.1 rfl (Nat.le_of_ble_eq_true rfl) d_SF_takeDraft_10) ?_
  refine lv_istore_n hx hb d_SF_takeDraft_13 rfl hl (by decide) (lv' := [(1, .int (nI (n4 * 6 / 8))), (0, .ref (h 0))]) rfl (fun ls hl => ?_)
  refine lv_iconst (v := (nI 0)) hx hb d_SF_takeDraft_14 (by decide) ?_
  refine lv_istore_n hx hb d_SF_takeDraft_15 rfl hl (by decide) (lv' := [(2, .int (nI 0)), (1, .int (nI (n4 * 6 / 8))), (0, .ref (h 0))]) rfl (fun ls hl => ?_)
  have hl : lv_has ls 6 [(2, .int (nI 0)), (1, .int (nI (n4 * 6 / 8))), (0, .ref (h 0))] := lv_sub hl [0, 1, 2] rfl
  have loop : ∀ (k : Nat) (i : Nat) (fx : Nat → Int32) (H : Heap) (locs : List Loc), i + k = (n4 * 6 / 8) → zs_hold 256 fx (zs_lds E i) → va_P D zcl (zSf cI h n0 n1 n2 i n4 f0 f1 f2 fx f4 rp) H → va_S (zAS h) s.heap H locs → ∀ ls : Array Slot, lv_has ls 6 [(2, .int (nI i)), (1, .int (nI (n4 * 6 / 8))), (0, .ref (h 0))] → W p l e ({ frames := 2, cells := 0, slots := 0, locals := 42 }) s m [.ref (h 0)].toArray below meth c H locs 0 0 (MQ below (zQm none (fun H => ∃ f3' : Nat → Int32, zs_hold 256 f3' (zs_lds E (n4 * 6 / 8)) ∧ va_P D zcl (zSf cI h n0 n1 n2 (n4 * 6 / 8) n4 f0 f1 f2 (f3') f4 rp) H) (zAS h)) [.ref (h 0)].toArray s 0 0 (zAS h)) (F0 m 16 ls []) := by
    intro k
    induction k with
    | zero =>
      intro i fx H locs hi hB hP hS ls hl
      have hP : va_P D zcl [((h 0), .inr (1, [.ref (h 1), .ref (h 3), .ref (h 5), .ref (h 7), .ref (h 9), .int rp])), ((h 1), .inr (0, [.ref (h 2), .int (nI n0)])), ((h 2), .inl (cI, 4, .inl f0)), ((h 3), .inr (0, [.ref (h 4), .int (nI n1)])), ((h 4), .inl (cI, 4, .inl f1)), ((h 5), .inr (0, [.ref (h 6), .int (nI n2)])), ((h 6), .inl (cI, 40, .inl f2)), ((h 7), .inr (0, [.ref (h 8), .int (nI i)])), ((h 8), .inl (cI, 120, .inl fx)), ((h 9), .inr (0, [.ref (h 10), .int (nI n4)])), ((h 10), .inl (cI, 160, .inl f4))] H := hP
      have hD : va_D (zAS h) [((h 0), .inr (1, [.ref (h 1), .ref (h 3), .ref (h 5), .ref (h 7), .ref (h 9), .int rp])), ((h 1), .inr (0, [.ref (h 2), .int (nI n0)])), ((h 2), .inl (cI, 4, .inl f0)), ((h 3), .inr (0, [.ref (h 4), .int (nI n1)])), ((h 4), .inl (cI, 4, .inl f1)), ((h 5), .inr (0, [.ref (h 6), .int (nI n2)])), ((h 6), .inl (cI, 40, .inl f2)), ((h 7), .inr (0, [.ref (h 8), .int (nI i)])), ((h 8), .inl (cI, 120, .inl fx)), ((h 9), .inr (0, [.ref (h 10), .int (nI n4)])), ((h 10), .inl (cI, 160, .inl f4))] := zSf_D hh
      refine lv_iload_n hx hb d_SF_takeDraft_16 rfl (lv_at hl 0 rfl) ?_
      refine lv_iload_n hx hb d_SF_takeDraft_17 rfl (lv_at hl 1 rfl) ?_
      refine lv_icmp_ge hx hb d_SF_takeDraft_18 (tgt := 87) (by decide) (fun _ => ?_) (fun z9 => absurd (nI_le (by omega) (by omega)) z9)
      obtain rfl : i = (n4 * 6 / 8) := by omega
      exact W.vret hx hb hr (fun t ht _ => ⟨rfl, by rw [ht]; exact ⟨fx, hB, hP⟩, hS.F ht⟩) hS.2.2 d_SF_takeDraft_87
    | succ k ih =>
      intro i fx H locs hi hB hP hS ls hl
      have hP : va_P D zcl [((h 0), .inr (1, [.ref (h 1), .ref (h 3), .ref (h 5), .ref (h 7), .ref (h 9), .int rp])), ((h 1), .inr (0, [.ref (h 2), .int (nI n0)])), ((h 2), .inl (cI, 4, .inl f0)), ((h 3), .inr (0, [.ref (h 4), .int (nI n1)])), ((h 4), .inl (cI, 4, .inl f1)), ((h 5), .inr (0, [.ref (h 6), .int (nI n2)])), ((h 6), .inl (cI, 40, .inl f2)), ((h 7), .inr (0, [.ref (h 8), .int (nI i)])), ((h 8), .inl (cI, 120, .inl fx)), ((h 9), .inr (0, [.ref (h 10), .int (nI n4)])), ((h 10), .inl (cI, 160, .inl f4))] H := hP
      have hD : va_D (zAS h) [((h 0), .inr (1, [.ref (h 1), .ref (h 3), .ref (h 5), .ref (h 7), .ref (h 9), .int rp])), ((h 1), .inr (0, [.ref (h 2), .int (nI n0)])), ((h 2), .inl (cI, 4, .inl f0)), ((h 3), .inr (0, [.ref (h 4), .int (nI n1)])), ((h 4), .inl (cI, 4, .inl f1)), ((h 5), .inr (0, [.ref (h 6), .int (nI n2)])), ((h 6), .inl (cI, 40, .inl f2)), ((h 7), .inr (0, [.ref (h 8), .int (nI i)])), ((h 8), .inl (cI, 120, .inl fx)), ((h 9), .inr (0, [.ref (h 10), .int (nI n4)])), ((h 10), .inl (cI, 160, .inl f4))] := zSf_D hh
      have hcn := zs_lds_n E i
      refine lv_iload_n hx hb d_SF_takeDraft_16 rfl (lv_at hl 0 rfl) ?_
      refine lv_iload_n hx hb d_SF_takeDraft_17 rfl (lv_at hl 1 rfl) ?_
      refine lv_icmp_ge hx hb d_SF_takeDraft_18 (tgt := 87) (by decide) (fun z9 => absurd z9 (nI_ge (by omega) (by omega))) (fun _ => ?_)
      refine lv_iload_n hx hb d_SF_takeDraft_21 rfl (lv_at hl 0 rfl) ?_
      refine lv_bipush (v := (nI 8)) hx hb d_SF_takeDraft_22 (by decide) ?_
      refine lv_imul hx hb d_SF_takeDraft_24 ?_
      refine ztop (y := nI (i * 8)) (pk_mul _ _) ?_
      refine lv_bipush (v := (nI 6)) hx hb d_SF_takeDraft_25 (by decide) ?_
      refine lv_idiv hx hb d_SF_takeDraft_27 (by decide) ?_
      refine ztop (y := nI (i * 8 / 6)) (pk_div (by omega) (by decide) (by decide)) ?_
      refine lv_istore_n hx hb d_SF_takeDraft_28 rfl hl (by decide) (lv' := [(3, .int (nI (i * 8 / 6))), (2, .int (nI i)), (1, .int (nI (n4 * 6 / 8))), (0, .ref (h 0))]) rfl (fun ls hl => ?_)
      refine lv_iload_n hx hb d_SF_takeDraft_29 rfl (lv_at hl 1 rfl) ?_
      refine lv_bipush (v := (nI 8)) hx hb d_SF_takeDraft_30 (by decide) ?_
      refine lv_imul hx hb d_SF_takeDraft_32 ?_
      refine ztop (y := nI (i * 8)) (pk_mul _ _) ?_
      refine lv_bipush (v := (nI 6)) hx hb d_SF_takeDraft_33 (by decide) ?_
      refine lv_irem hx hb d_SF_takeDraft_35 (by decide) ?_
      refine ztop (y := nI (i * 8 % 6)) (pk_rem (by omega) (by decide) (by decide)) ?_
      refine lv_istore hx hb d_SF_takeDraft_36 hl (by decide) (lv' := [(4, .int (nI (i * 8 % 6))), (3, .int (nI (i * 8 / 6))), (2, .int (nI i)), (1, .int (nI (n4 * 6 / 8))), (0, .ref (h 0))]) rfl (fun ls hl => ?_)
      refine lv_aload_n hx hb d_SF_takeDraft_38 rfl (lv_at hl 4 rfl) ?_
      refine va_get (D := D) (ci := 1) (v := .ref (h 9)) (C := R_SF) (T := F_SF) (N := 6) hx hb hg i_SF hown hE.1 hP 0 rfl rfl 4 (by decide) (hg _ zw_44) (fun _ h9 => h9) rfl d_SF_takeDraft_39 ?_
      refine lv_iload_n hx hb d_SF_takeDraft_42 rfl (lv_at hl 1 rfl) ?_
      refine zRd (rest := []) (zrVN hS9 (c_RW_item l D cI cC cJ (h 9) (h 10) 160 n4 f4 (by omega) (by decide) (nI (i * 8 / 6))) zc_RW_item (by decide) zw_65 zp_0 (by decide) (va_recv hE.1 hP (ci := 0) (q := (R_RW, F_RW, 2)) rfl (q0 := 9) rfl) (hP.sub [9, 10] rfl) hE rfl hl.1 rfl (Nat.le_of_ble_eq_true rfl) d_SF_takeDraft_43) ?_
      refine ztop (y := nI (E (i * 8 / 6))) ((zs_item_in (by omega) (by omega)).trans (hE9 (i * 8 / 6) (show i * 8 / 6 < n4 by omega)).1) ?_
      refine lv_bipush (v := (nI 6)) hx hb d_SF_takeDraft_46 (by decide) ?_
      refine lv_ishl hx hb d_SF_takeDraft_48 ?_
      refine lv_aload_n hx hb d_SF_takeDraft_49 rfl (lv_at hl 4 rfl) ?_
      refine va_get (D := D) (ci := 1) (v := .ref (h 9)) (C := R_SF) (T := F_SF) (N := 6) hx hb hg i_SF hown hE.1 hP 0 rfl rfl 4 (by decide) (hg _ zw_44) (fun _ h9 => h9) rfl d_SF_takeDraft_50 ?_
      refine lv_iload_n hx hb d_SF_takeDraft_53 rfl (lv_at hl 1 rfl) ?_
      refine lv_iconst (v := (nI 1)) hx hb d_SF_takeDraft_54 (by decide) ?_
      refine lv_iadd hx hb d_SF_takeDraft_55 ?_
      refine ztop (y := nI (i * 8 / 6 + 1)) (nI_add _ _) ?_
      refine zRd (rest := [.int ((nI (E (i * 8 / 6))) <<< ((nI 6) &&& 31))]) (zrVN hS9 (c_RW_item l D cI cC cJ (h 9) (h 10) 160 n4 f4 (by omega) (by decide) (nI (i * 8 / 6 + 1))) zc_RW_item (by decide) zw_65 zp_0 (by decide) (va_recv hE.1 hP (ci := 0) (q := (R_RW, F_RW, 2)) rfl (q0 := 9) rfl) (hP.sub [9, 10] rfl) hE rfl hl.1 rfl (Nat.le_of_ble_eq_true rfl) d_SF_takeDraft_56) ?_
      refine ztop (y := nI (E (i * 8 / 6 + 1))) ((zs_item_in (by omega) (by omega)).trans (hE9 (i * 8 / 6 + 1) (show i * 8 / 6 + 1 < n4 by omega)).1) ?_
      have e1 : E (i * 8 / 6) < 64 := (hE9 _ (show i * 8 / 6 < n4 by omega)).2
      have e2 : E (i * 8 / 6 + 1) < 64 := (hE9 _ (show i * 8 / 6 + 1 < n4 by omega)).2
      refine lv_ior hx hb d_SF_takeDraft_59 ?_
      refine ztop (y := nI (E (i * 8 / 6) * 64 + E (i * 8 / 6 + 1))) (zs_cat (k := 6) (by decide) (by omega) (by omega)) ?_
      refine lv_istore hx hb d_SF_takeDraft_60 hl (by decide) (lv' := [(5, .int (nI (E (i * 8 / 6) * 64 + E (i * 8 / 6 + 1)))), (4, .int (nI (i * 8 % 6))), (3, .int (nI (i * 8 / 6))), (2, .int (nI i)), (1, .int (nI (n4 * 6 / 8))), (0, .ref (h 0))]) rfl (fun ls hl => ?_)
      refine lv_aload_n hx hb d_SF_takeDraft_62 rfl (lv_at hl 5 rfl) ?_
      refine va_get (D := D) (ci := 1) (v := .ref (h 7)) (C := R_SF) (T := F_SF) (N := 6) hx hb hg i_SF hown hE.1 hP 0 rfl rfl 3 (by decide) (hg _ zw_43) (fun _ h9 => h9) rfl d_SF_takeDraft_63 ?_
      refine lv_iload hx hb d_SF_takeDraft_66 (lv_at hl 0 rfl) ?_
      refine lv_iconst (v := (nI 4)) hx hb d_SF_takeDraft_68 (by decide) ?_
      refine lv_iload hx hb d_SF_takeDraft_69 (lv_at hl 1 rfl) ?_
      refine lv_isub hx hb d_SF_takeDraft_71 ?_
      refine ztop (y := nI (4 - i * 8 % 6)) (pk_sub (by omega)) ?_
      refine lv_iushr (v := zs_u (nI (E (i * 8 / 6) * 64 + E (i * 8 / 6 + 1))) (nI (4 - i * 8 % 6))) hx hb d_SF_takeDraft_72 rfl ?_
      refine ztop (y := nI ((E (i * 8 / 6) * 64 + E (i * 8 / 6 + 1)) / 2 ^ (4 - i * 8 % 6))) (zs_u_nI (by omega) (by omega)) ?_
      have e3 : (E (i * 8 / 6) * 64 + E (i * 8 / 6 + 1)) / 2 ^ (4 - i * 8 % 6) ≤ E (i * 8 / 6) * 64 + E (i * 8 / 6 + 1) := Nat.div_le_self _ _
      refine lv_sipush (v := (nI 255)) hx hb d_SF_takeDraft_73 (by decide) ?_
      refine lv_iand hx hb d_SF_takeDraft_76 ?_
      refine ztop (y := nI (zs_ld E i)) (pk_andN (by omega) 8 (by decide)) ?_
      have hB : zs_hold 256 fx (i, (zs_lds E i).2) := by have hq := hB; unfold zs_hold at hq; rw [hcn] at hq; exact hq
      refine zWr (rest := []) (zrVN hS9 (c_RW_append l D cI cC cJ (h 7) (h 8) 120 i fx (by omega) (by decide) (fun z => absurd (hh 7 8 (by decide) (by decide) z) (by decide)) (nI (zs_ld E i)) (by omega)) zc_RW_append (by decide) zw_77 zp_2 (by decide) (va_recv hE.1 hP (ci := 0) (q := (R_RW, F_RW, 2)) rfl (q0 := 7) rfl) (hP.sub [7, 8] rfl) hE rfl hl.1 rfl (Nat.le_of_ble_eq_true rfl) d_SF_takeDraft_77) hS (fun q _ h => zA2_in hD 7 8 rfl rfl q h) (fun q h => zA2_in hD 7 8 rfl rfl q h) (fun H locs hB1 hz hk hS => ?_)
      obtain ⟨hP, hD⟩ := zrow hP hD 7 8 rfl rfl (by decide) hk hB1
      have hP : va_P D zcl [((h 0), .inr (1, [.ref (h 1), .ref (h 3), .ref (h 5), .ref (h 7), .ref (h 9), .int rp])), ((h 1), .inr (0, [.ref (h 2), .int (nI n0)])), ((h 2), .inl (cI, 4, .inl f0)), ((h 3), .inr (0, [.ref (h 4), .int (nI n1)])), ((h 4), .inl (cI, 4, .inl f1)), ((h 5), .inr (0, [.ref (h 6), .int (nI n2)])), ((h 6), .inl (cI, 40, .inl f2)), ((h 7), .inr (0, [.ref (h 8), .int (nI (i + 1))])), ((h 8), .inl (cI, 120, .inl (upd fx i (nI (zs_ld E i))))), ((h 9), .inr (0, [.ref (h 10), .int (nI n4)])), ((h 10), .inl (cI, 160, .inl f4))] H := hP
      have hD : va_D (zAS h) [((h 0), .inr (1, [.ref (h 1), .ref (h 3), .ref (h 5), .ref (h 7), .ref (h 9), .int rp])), ((h 1), .inr (0, [.ref (h 2), .int (nI n0)])), ((h 2), .inl (cI, 4, .inl f0)), ((h 3), .inr (0, [.ref (h 4), .int (nI n1)])), ((h 4), .inl (cI, 4, .inl f1)), ((h 5), .inr (0, [.ref (h 6), .int (nI n2)])), ((h 6), .inl (cI, 40, .inl f2)), ((h 7), .inr (0, [.ref (h 8), .int (nI (i + 1))])), ((h 8), .inl (cI, 120, .inl (upd fx i (nI (zs_ld E i))))), ((h 9), .inr (0, [.ref (h 10), .int (nI n4)])), ((h 10), .inl (cI, 160, .inl f4))] := hD
      have hB : zs_hold 256 (upd fx i (nI (zs_ld E i))) (zs_push (i, (zs_lds E i).2) (zs_ld E i)) := zs_hold_push hB (zs_ld_lt E i)
      generalize (upd fx i (nI (zs_ld E i))) = fz at hP hD hB
      have hB : zs_hold 256 fz (zs_lds E (i + 1)) := by show zs_hold 256 fz (zs_push (zs_lds E i) (zs_ld E i)); have e9 : zs_lds E i = (i, (zs_lds E i).2) := Prod.ext hcn rfl; rw [e9]; exact hB
      refine lv_pop hx hb d_SF_takeDraft_80 rfl ?_
      refine lv_iinc (k := 3) (v := nI (i + 1)) hx hb d_SF_takeDraft_81 hl rfl (nI_1 i) (by decide) (lv' := [(2, .int (nI (i + 1))), (5, .int (nI (E (i * 8 / 6) * 64 + E (i * 8 / 6 + 1)))), (4, .int (nI (i * 8 % 6))), (3, .int (nI (i * 8 / 6))), (1, .int (nI (n4 * 6 / 8))), (0, .ref (h 0))]) rfl (fun ls hl => ?_)
      refine lv_goto hx hb d_SF_takeDraft_84 (tgt := 16) (by decide) ?_
      have hl : lv_has ls 6 [(2, .int (nI (i + 1))), (1, .int (nI (n4 * 6 / 8))), (0, .ref (h 0))] := lv_sub hl [0, 4, 5] rfl
      exact ih (i + 1) fz H locs (by omega) hB hP hS ls hl
  exact loop (n4 * 6 / 8) 0 f3 H locs (by omega) zs_hold_0 hP hS ls hl

