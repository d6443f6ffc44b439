theorem zc_SF_address : zCal y_SF_address b_SF_address 2 (some .int) 1 := ⟨zk_SF_address, zw_1, by decide, by decide, by decide +kernel⟩
theorem zc_SF_agreed : zCal y_SF_agreed b_SF_agreed 3 (some .int) 2 := ⟨zk_SF_agreed, zw_1, by decide, by decide, by decide +kernel⟩
theorem zc_SF_alter : zCal y_SF_alter b_SF_alter 3 (some .int) 2 := ⟨zk_SF_alter, zw_1, by decide, by decide, by decide +kernel⟩
theorem zc_SF_appendEntry : zCal y_SF_appendEntry b_SF_appendEntry 7 none 3 := ⟨zk_SF_appendEntry, zw_1, by decide, by decide, by decide +kernel⟩
theorem zc_SF_appendPieces : zCal y_SF_appendPieces b_SF_appendPieces 8 none 1 := ⟨zk_SF_appendPieces, zw_1, by decide, by decide, by decide +kernel⟩
theorem zc_SF_areReceivers : zCal y_SF_areReceivers b_SF_areReceivers 3 (some .boolean) 1 := ⟨zk_SF_areReceivers, zw_1, by decide, by decide, by decide +kernel⟩
theorem zc_SF_at : zCal y_SF_at b_SF_at 2 (some .int) 1 := ⟨zk_SF_at, zw_1, by decide, by decide, by decide +kernel⟩
theorem zc_SF_clear : zCal y_SF_clear b_SF_clear 2 (some .int) 0 := ⟨zk_SF_clear, zw_1, by decide, by decide, by decide +kernel⟩
theorem zc_SF_count : zCal y_SF_count b_SF_count 2 (some .int) 1 := ⟨zk_SF_count, zw_1, by decide, by decide, by decide +kernel⟩
theorem zc_SF_covered : zCal y_SF_covered b_SF_covered 4 (some .int) 4 := ⟨zk_SF_covered, zw_1, by decide, by decide, by decide +kernel⟩
theorem zc_SF_cut : zCal y_SF_cut b_SF_cut 2 (some .boolean) 1 := ⟨zk_SF_cut, zw_1, by decide, by decide, by decide +kernel⟩
theorem zc_SF_draftBytes : zCal y_SF_draftBytes b_SF_draftBytes 1 (some .int) 0 := ⟨zk_SF_draftBytes, zw_1, by decide, by decide, by decide +kernel⟩
theorem zc_SF_draftIsPrintedForm : zCal y_SF_draftIsPrintedForm b_SF_draftIsPrintedForm 3 (some .boolean) 0 := ⟨zk_SF_draftIsPrintedForm, zw_1, by decide, by decide, by decide +kernel⟩
theorem zc_SF_entriesEnd : zCal y_SF_entriesEnd b_SF_entriesEnd 1 (some .int) 0 := ⟨zk_SF_entriesEnd, zw_1, by decide, by decide, by decide +kernel⟩
theorem zc_SF_entryFor : zCal y_SF_entryFor b_SF_entryFor 6 (some .int) 1 := ⟨zk_SF_entryFor, zw_1, by decide, by decide, by decide +kernel⟩
theorem zc_SF_entrySign : zCal y_SF_entrySign b_SF_entrySign 4 (some .int) 3 := ⟨zk_SF_entrySign, zw_1, by decide, by decide, by decide +kernel⟩
theorem zc_SF_exponent : zCal y_SF_exponent b_SF_exponent 3 (some .int) 3 := ⟨zk_SF_exponent, zw_1, by decide, by decide, by decide +kernel⟩
theorem zc_SF_hasShape : zCal y_SF_hasShape b_SF_hasShape 1 (some .boolean) 0 := ⟨zk_SF_hasShape, zw_1, by decide, by decide, by decide +kernel⟩
theorem zc_SF_headSign : zCal y_SF_headSign b_SF_headSign 3 (some .int) 2 := ⟨zk_SF_headSign, zw_1, by decide, by decide, by decide +kernel⟩
theorem zc_SF_init : zCal y_SF_init b_SF_init 1 none 0 := ⟨zk_SF_init, zw_1, by decide, by decide, by decide +kernel⟩
theorem zc_SF_key : zCal y_SF_key b_SF_key 2 (some .int) 1 := ⟨zk_SF_key, zw_1, by decide, by decide, by decide +kernel⟩
theorem zc_SF_load : zCal y_SF_load b_SF_load 2 (some .int) 0 := ⟨zk_SF_load, zw_1, by decide, by decide, by decide +kernel⟩
theorem zc_SF_open : zCal y_SF_open b_SF_open 5 (some .int) 1 := ⟨zk_SF_open, zw_1, by decide, by decide, by decide +kernel⟩
theorem zc_SF_pieceSign : zCal y_SF_pieceSign b_SF_pieceSign 7 (some .int) 5 := ⟨zk_SF_pieceSign, zw_1, by decide, by decide, by decide +kernel⟩
theorem zc_SF_pieces : zCal y_SF_pieces b_SF_pieces 1 (some .int) 0 := ⟨zk_SF_pieces, zw_1, by decide, by decide, by decide +kernel⟩
theorem zc_SF_print : zCal y_SF_print b_SF_print 7 (some .int) 1 := ⟨zk_SF_print, zw_1, by decide, by decide, by decide +kernel⟩
theorem zc_SF_put : zCal y_SF_put b_SF_put 2 (some .boolean) 1 := ⟨zk_SF_put, zw_1, by decide, by decide, by decide +kernel⟩
theorem zc_SF_read : zCal y_SF_read b_SF_read 2 (some .int) 1 := ⟨zk_SF_read, zw_1, by decide, by decide, by decide +kernel⟩
theorem zc_SF_seal : zCal y_SF_seal b_SF_seal 5 (some .int) 3 := ⟨zk_SF_seal, zw_1, by decide, by decide, by decide +kernel⟩
theorem zc_SF_takeDraft : zCal y_SF_takeDraft b_SF_takeDraft 6 none 0 := ⟨zk_SF_takeDraft, zw_1, by decide, by decide, by decide +kernel⟩
theorem zc_SF_takePieces : zCal y_SF_takePieces b_SF_takePieces 10 (some .int) 2 := ⟨zk_SF_takePieces, zw_1, by decide, by decide, by decide +kernel⟩
theorem zc_SF_uncover : zCal y_SF_uncover b_SF_uncover 6 none 4 := ⟨zk_SF_uncover, zw_1, by decide, by decide, by decide +kernel⟩
theorem zc_SF_unwrapped : zCal y_SF_unwrapped b_SF_unwrapped 4 (some .int) 2 := ⟨zk_SF_unwrapped, zw_1, by decide, by decide, by decide +kernel⟩
theorem zc_SF_write : zCal y_SF_write b_SF_write 3 (some .boolean) 1 := ⟨zk_SF_write, zw_1, by decide, by decide, by decide +kernel⟩
/-- a SealedFiles: its object, and five rows with their items -/
abbrev zSf (cI : ClassId) (h : Nat → Nat) (n0 n1 n2 n3 n4 : Nat) (f0 f1 f2 f3 f4 : Nat → Int32) (rp : Int32) : va_W := [((h 0), .inr (1, [.ref (h 1), .ref (h 3), .ref (h 5), .ref (h 7), .ref (h 9), .int rp])), ((h 1), .inr (0, [.ref (h 2), .int (nI n0)])), ((h 2), .inl (cI, 4, .inl f0)), ((h 3), .inr (0, [.ref (h 4), .int (nI n1)])), ((h 4), .inl (cI, 4, .inl f1)), ((h 5), .inr (0, [.ref (h 6), .int (nI n2)])), ((h 6), .inl (cI, 40, .inl f2)), ((h 7), .inr (0, [.ref (h 8), .int (nI n3)])), ((h 8), .inl (cI, 120, .inl f3)), ((h 9), .inr (0, [.ref (h 10), .int (nI n4)])), ((h 10), .inl (cI, 160, .inl f4))]
set_option maxHeartbeats 4000000 in
set_option maxRecDepth 100000 in
theorem c_SF_exponent (l : Launch) (D : va_G) (cI cC cJ : ClassId) (f g : Int32) (k : Nat) : Met l y_SF_exponent (zw k_SF_exponent) ({ frames := 2, cells := 0, slots := 0, locals := 44 }) (zPc [.int f, .int g, .int (nI k)] (fun _ => True) D cI cC cJ) (QcRead (nI (zs_e f g k))) 0 0 (fun _ => False) := by
  refine zMet (by decide) (Nat.le_of_ble_eq_true rfl) ?_
  intro p e s m below meth c hx hb hr hg hown hlk hml hB hE ls hl
  have hl : lv_has ls 3 [(0, .int f), (1, .int g), (2, .int (nI k))] := hl
  have hS9 : CallFix p m c b_SF_exponent 3 s [.int f, .int g, .int (nI k)].toArray zg "SealedFiles" := ⟨hx, hb, hml, hown, hg⟩
  refine lv_iconst (v := (nI 2)) hx hb d_SF_exponent_0 (by decide) ?_
  refine lv_iload_n hx hb d_SF_exponent_1 rfl (lv_at hl 0 rfl) ?_
  refine lv_iload_n hx hb d_SF_exponent_2 rfl (lv_at hl 1 rfl) ?_
  refine lv_iload_n hx hb d_SF_exponent_3 rfl (lv_at hl 2 rfl) ?_
  refine zRd (rest := [.int (nI 2)]) (zrSN hS9 (c_NU_word l D cI cC cJ f g (nI k)) zc_NU_word (by decide) zw_341 (by decide) (trivial) hE rfl hl.1 rfl (Nat.le_of_ble_eq_true rfl) d_SF_exponent_4) ?_
  refine lv_iconst (v := (nI 1)) hx hb d_SF_exponent_7 (by decide) ?_
  refine lv_iushr (v := zs_u (zs_word f g (nI k)) (nI 1)) hx hb d_SF_exponent_8 rfl ?_
  refine lv_sipush (v := (nI 32746)) hx hb d_SF_exponent_9 (by decide) ?_
  refine lv_irem hx hb d_SF_exponent_12 (by decide) ?_
  refine lv_iadd hx hb d_SF_exponent_13 ?_
  exact W.iret (v := ((nI 2) + ((zs_u (zs_word f g (nI k)) (nI 1)) - (zs_u (zs_word f g (nI k)) (nI 1)) / (nI 32746) * (nI 32746)))) hx hb hr (fun t ht _ => ⟨congrArg (fun z => Outcome.returned (some (Value.int z))) (zs_e_i _), ht⟩) t_nil d_SF_exponent_14

set_option maxHeartbeats 4000000 in
set_option maxRecDepth 100000 in
theorem c_SF_covered (l : Launch) (D : va_G) (cI cC cJ : ClassId) (b : Nat) (f : Int32) (k j : Nat) : Met l y_SF_covered (zw k_SF_covered) ({ frames := 2, cells := 0, slots := 0, locals := 44 }) (zPc [.int (nI b), .int f, .int (nI k), .int (nI j)] (fun _ => True) D cI cC cJ) (QcRead (nI (zs_cv b f k j))) 0 0 (fun _ => False) := by
  refine zMet (by decide) (Nat.le_of_ble_eq_true rfl) ?_
  intro p e s m below meth c hx hb hr hg hown hlk hml hB hE ls hl
  have hl : lv_has ls 4 [(0, .int (nI b)), (1, .int f), (2, .int (nI k)), (3, .int (nI j))] := hl
  have hS9 : CallFix p m c b_SF_covered 4 s [.int (nI b), .int f, .int (nI k), .int (nI j)].toArray zg "SealedFiles" := ⟨hx, hb, hml, hown, hg⟩
  refine lv_iload_n hx hb d_SF_covered_0 rfl (lv_at hl 0 rfl) ?_
  refine lv_iload_n hx hb d_SF_covered_1 rfl (lv_at hl 1 rfl) ?_
  refine lv_bipush (v := (nI 16)) hx hb d_SF_covered_2 (by decide) ?_
  refine lv_iload_n hx hb d_SF_covered_4 rfl (lv_at hl 2 rfl) ?_
  refine lv_imul hx hb d_SF_covered_5 ?_
  refine lv_iload_n hx hb d_SF_covered_6 rfl (lv_at hl 3 rfl) ?_
  refine lv_iadd hx hb d_SF_covered_7 ?_
  refine ztop (y := nI (16 * k + j)) (by rw [pk_mul, nI_add]) ?_
  refine lv_iconst (v := (nI 4)) hx hb d_SF_covered_8 (by decide) ?_
  refine zRd (rest := [.int (nI b)]) (zrSN hS9 (c_NU_word l D cI cC cJ f (nI (16 * k + j)) (nI 4)) zc_NU_word (by decide) zw_341 (by decide) (trivial) hE rfl hl.1 rfl (Nat.le_of_ble_eq_true rfl) d_SF_covered_9) ?_
  refine lv_sipush (v := (nI 255)) hx hb d_SF_covered_12 (by decide) ?_
  refine lv_iand hx hb d_SF_covered_15 ?_
  refine lv_ixor hx hb d_SF_covered_16 ?_
  exact W.iret (v := ((nI b) ^^^ ((zs_word f (nI (16 * k + j)) (nI 4)) &&& (nI 255)))) hx hb hr (fun t ht _ => ⟨congrArg (fun z => Outcome.returned (some (Value.int z))) (zs_cv_i _ _), ht⟩) t_nil d_SF_covered_17

set_option maxHeartbeats 4000000 in
set_option maxRecDepth 100000 in
theorem c_SF_entrySign (l : Launch) (D : va_G) (cI cC cJ : ClassId) (h : Nat → Nat) (n0 n1 n2 n3 n4 : Nat) (f0 f1 f2 f3 f4 : Nat → Int32) (rp : Int32) (hn0 : n0 ≤ 4) (hn1 : n1 ≤ 4) (hn2 : n2 ≤ 40) (hn3 : n3 ≤ 120) (hn4 : n4 ≤ 160) (B : Nat → Nat) (hB : zs_hold 256 f3 (n3, B)) (a : Nat) (z ad : Int32) (ha : a + 6 ≤ n3) : Met l y_SF_entrySign (zw k_SF_entrySign) ({ frames := 3, cells := 0, slots := 0, locals := 70 }) (zPc [.ref (h 0), .int (nI a), .int z, .int ad] (fun H => va_P D zcl (zSf cI h n0 n1 n2 n3 n4 f0 f1 f2 f3 f4 rp) H) D cI cC cJ) (QcRead (nI (zs_sg B a (a + 6) (zs_word z ad (nI 2))))) 0 0 (fun _ => False) := by
  refine zMet (by decide) (Nat.le_of_ble_eq_true rfl) ?_
  intro p e s m below meth c hx hb hr hg hown hlk hml hP hE ls hl
  have hl : lv_has ls 4 [(0, .ref (h 0)), (1, .int (nI a)), (2, .int z), (3, .int ad)] := hl
  have hS9 : CallFix p m c b_SF_entrySign 4 s [.ref (h 0), .int (nI a), .int z, .int ad].toArray zg "SealedFiles" := ⟨hx, hb, hml, hown, hg⟩
  have hP : va_P D zcl [((h 0), .inr (1, [.ref (h 1), .ref (h 3), .ref (h 5), .ref (h 7), .ref (h 9), .int rp])), ((h 1), .inr (0, [.ref (h 2), .int (nI n0)])), ((h 2), .inl (cI, 4, .inl f0)), ((h 3), .inr (0, [.ref (h 4), .int (nI n1)])), ((h 4), .inl (cI, 4, .inl f1)), ((h 5), .inr (0, [.ref (h 6), .int (nI n2)])), ((h 6), .inl (cI, 40, .inl f2)), ((h 7), .inr (0, [.ref (h 8), .int (nI n3)])), ((h 8), .inl (cI, 120, .inl f3)), ((h 9), .inr (0, [.ref (h 10), .int (nI n4)])), ((h 10), .inl (cI, 160, .inl f4))] s.heap := hP
  refine lv_aload_n hx hb d_SF_entrySign_0 rfl (lv_at hl 0 rfl) ?_
  refine va_get (D := D) (ci := 1) (v := .ref (h 7)) (C := R_SF) (T := F_SF) (N := 6) hx hb hg i_SF hown hE.1 hP 0 rfl rfl 3 (by decide) (hg _ zw_43) (fun _ h9 => h9) rfl d_SF_entrySign_1 ?_
  refine lv_iload_n hx hb d_SF_entrySign_4 rfl (lv_at hl 1 rfl) ?_
  refine lv_iload_n hx hb d_SF_entrySign_5 rfl (lv_at hl 1 rfl) ?_
  refine lv_bipush (v := (nI 6)) hx hb d_SF_entrySign_6 (by decide) ?_
  refine lv_iadd hx hb d_SF_entrySign_8 ?_
  refine ztop (y := nI (a + 6)) (nI_add a 6) ?_
  refine lv_iload_n hx hb d_SF_entrySign_9 rfl (lv_at hl 2 rfl) ?_
  refine lv_iload_n hx hb d_SF_entrySign_10 rfl (lv_at hl 3 rfl) ?_
  refine lv_iconst (v := (nI 2)) hx hb d_SF_entrySign_11 (by decide) ?_
  refine zRd (rest := [.int (nI (a + 6)), .int (nI a), .ref (h 7)]) (zrSN hS9 (c_NU_word l D cI cC cJ z ad (nI 2)) zc_NU_word (by decide) zw_341 (by decide) (trivial) hE rfl hl.1 rfl (Nat.le_of_ble_eq_true rfl) d_SF_entrySign_12) ?_
  refine zRd (rest := []) (zrVN hS9 (c_RW_sign l D cI cC cJ (h 7) (h 8) 120 n3 f3 (by omega) (by decide) B hB a (a + 6) (by omega) (ha) (zs_word z ad (nI 2))) zc_RW_sign (by decide) zw_364 zp_10 (by decide) (va_recv hE.1 hP (ci := 0) (q := (R_RW, F_RW, 2)) rfl (q0 := 7) rfl) (hP.sub [7, 8] rfl) hE rfl hl.1 rfl (Nat.le_of_ble_eq_true rfl) d_SF_entrySign_15) ?_
  exact W.iret (v := (nI (zs_sg B a (a + 6) (zs_word z ad (nI 2))))) hx hb hr (fun t ht _ => ⟨congrArg (fun z => Outcome.returned (some (Value.int z))) (rfl), ht⟩) t_nil d_SF_entrySign_18

set_option maxHeartbeats 4000000 in
set_option maxRecDepth 100000 in
theorem c_SF_headSign (l : Launch) (D : va_G) (cI cC cJ : ClassId) (h : Nat → Nat) (n0 n1 n2 n3 n4 : Nat) (f0 f1 f2 f3 f4 : Nat → Int32) (rp : Int32) (hn0 : n0 ≤ 4) (hn1 : n1 ≤ 4) (hn2 : n2 ≤ 40) (hn3 : n3 ≤ 120) (hn4 : n4 ≤ 160) (B : Nat → Nat) (hB : zs_hold 256 f3 (n3, B)) (f : Int32) (b : Nat) (hb9 : b ≤ n3) : Met l y_SF_headSign (zw k_SF_headSign) ({ frames := 3, cells := 0, slots := 0, locals := 70 }) (zPc [.ref (h 0), .int f, .int (nI b)] (fun H => va_P D zcl (zSf cI h n0 n1 n2 n3 n4 f0 f1 f2 f3 f4 rp) H) D cI cC cJ) (QcRead (nI (zs_sg B 0 b (zs_word f (nI 0) (nI 3))))) 0 0 (fun _ => False) := by
  refine zMet (by decide) (Nat.le_of_ble_eq_true rfl) ?_
  intro p e s m below meth c hx hb hr hg hown hlk hml hP hE ls hl
  have hl : lv_has ls 3 [(0, .ref (h 0)), (1, .int f), (2, .int (nI b))] := hl
  have hS9 : CallFix p m c b_SF_headSign 3 s [.ref (h 0), .int f, .int (nI b)].toArray zg "SealedFiles" := ⟨hx, hb, hml, hown, hg⟩
  have hP : va_P D zcl [((h 0), .inr (1, [.ref (h 1), .ref (h 3), .ref (h 5), .ref (h 7), .ref (h 9), .int rp])), ((h 1), .inr (0, [.ref (h 2), .int (nI n0)])), ((h 2), .inl (cI, 4, .inl f0)), ((h 3), .inr (0, [.ref (h 4), .int (nI n1)])), ((h 4), .inl (cI, 4, .inl f1)), ((h 5), .inr (0, [.ref (h 6), .int (nI n2)])), ((h 6), .inl (cI, 40, .inl f2)), ((h 7), .inr (0, [.ref (h 8), .int (nI n3)])), ((h 8), .inl (cI, 120, .inl f3)), ((h 9), .inr (0, [.ref (h 10), .int (nI n4)])), ((h 10), .inl (cI, 160, .inl f4))] s.heap := hP
  refine lv_aload_n hx hb d_SF_headSign_0 rfl (lv_at hl 0 rfl) ?_
  refine va_get (D := D) (ci := 1) (v := .ref (h 7)) (C := R_SF) (T := F_SF) (N := 6) hx hb hg i_SF hown hE.1 hP 0 rfl rfl 3 (by decide) (hg _ zw_43) (fun _ h9 => h9) rfl d_SF_headSign_1 ?_
  refine lv_iconst (v := (nI 0)) hx hb d_SF_headSign_4 (by decide) ?_
  refine lv_iload_n hx hb d_SF_headSign_5 rfl (lv_at hl 2 rfl) ?_
  refine lv_iload_n hx hb d_SF_headSign_6 rfl (lv_at hl 1 rfl) ?_
  refine lv_iconst (v := (nI 0)) hx hb d_SF_headSign_7 (by decide) ?_
  refine lv_iconst (v := (nI 3)) hx hb d_SF_headSign_8 (by decide) ?_
  refine zRd (rest := [.int (nI b), .int (nI 0), .ref (h 7)]) (zrSN hS9 (c_NU_word l D cI cC cJ f (nI 0) (nI 3)) zc_NU_word (by decide) zw_341 (by decide) (trivial) hE rfl hl.1 rfl (Nat.le_of_ble_eq_true rfl) d_SF_headSign_9) ?_
  refine zRd (rest := []) (zrVN hS9 (c_RW_sign l D cI cC cJ (h 7) (h 8) 120 n3 f3 (by omega) (by decide) B hB 0 b (by omega) (hb9) (zs_word f (nI 0) (nI 3))) zc_RW_sign (by decide) zw_364 zp_10 (by decide) (va_recv hE.1 hP (ci := 0) (q := (R_RW, F_RW, 2)) rfl (q0 := 7) rfl) (hP.sub [7, 8] rfl) hE rfl hl.1 rfl (Nat.le_of_ble_eq_true rfl) d_SF_headSign_12) ?_
  exact W.iret (v := (nI (zs_sg B 0 b (zs_word f (nI 0) (nI 3))))) hx hb hr (fun t ht _ => ⟨congrArg (fun z => Outcome.returned (some (Value.int z))) (rfl), ht⟩) t_nil d_SF_headSign_15

set_option maxHeartbeats 4000000 in
set_option maxRecDepth 100000 in
theorem c_SF_pieceSign (l : Launch) (D : va_G) (cI cC cJ : ClassId) (h : Nat → Nat) (n0 n1 n2 n3 n4 : Nat) (f0 f1 f2 f3 f4 : Nat → Int32) (rp : Int32) (hn0 : n0 ≤ 4) (hn1 : n1 ≤ 4) (hn2 : n2 ≤ 40) (hn3 : n3 ≤ 120) (hn4 : n4 ≤ 160) (B : Nat → Nat) (hB : zs_hold 256 f3 (n3, B)) (f : Int32) (k a b t : Nat) (hab : a ≤ b) (hb9 : b ≤ n3) (ht9 : t < 2) : Met l y_SF_pieceSign (zw k_SF_pieceSign) ({ frames := 3, cells := 0, slots := 0, locals := 70 }) (zPc [.ref (h 0), .int f, .int (nI k), .int (nI a), .int (nI b), .int (nI t)] (fun H => va_P D zcl (zSf cI h n0 n1 n2 n3 n4 f0 f1 f2 f3 f4 rp) H) D cI cC cJ) (QcRead (nI (zs_sg B a b (zs_word f (nI k) (zs_use t))))) 0 0 (fun _ => False) := by
  refine zMet (by decide) (Nat.le_of_ble_eq_true rfl) ?_
  intro p e s m below meth c hx hb hr hg hown hlk hml hP hE ls hl
  have hl : lv_has ls 7 [(0, .ref (h 0)), (1, .int f), (2, .int (nI k)), (3, .int (nI a)), (4, .int (nI b)), (5, .int (nI t))] := hl
  have hS9 : CallFix p m c b_SF_pieceSign 7 s [.ref (h 0), .int f, .int (nI k), .int (nI a), .int (nI b), .int (nI t)].toArray zg "SealedFiles" := ⟨hx, hb, hml, hown, hg⟩
  have hP : va_P D zcl [((h 0), .inr (1, [.ref (h 1), .ref (h 3), .ref (h 5), .ref (h 7), .ref (h 9), .int rp])), ((h 1), .inr (0, [.ref (h 2), .int (nI n0)])), ((h 2), .inl (cI, 4, .inl f0)), ((h 3), .inr (0, [.ref (h 4), .int (nI n1)])), ((h 4), .inl (cI, 4, .inl f1)), ((h 5), .inr (0, [.ref (h 6), .int (nI n2)])), ((h 6), .inl (cI, 40, .inl f2)), ((h 7), .inr (0, [.ref (h 8), .int (nI n3)])), ((h 8), .inl (cI, 120, .inl f3)), ((h 9), .inr (0, [.ref (h 10), .int (nI n4)])), ((h 10), .inl (cI, 160, .inl f4))] s.heap := hP
  refine lv_iload hx hb d_SF_pieceSign_0 (lv_at hl 5 rfl) ?_
  by_cases h9 : t = 0
  · refine lv_if_eq hx hb d_SF_pieceSign_2 (tgt := 10) (by decide) (fun _ => ?_) (fun z9 => absurd (by rw [h9]; rfl) z9)
    refine lv_iconst (v := (nI 5)) hx hb d_SF_pieceSign_10 (by decide) ?_
    refine ztop (y := zs_use t) (by rw [zs_use, if_pos h9]) ?_
    refine lv_istore hx hb d_SF_pieceSign_11 hl (by decide) (lv' := [(6, .int (zs_use t)), (0, .ref (h 0)), (1, .int f), (2, .int (nI k)), (3, .int (nI a)), (4, .int (nI b)), (5, .int (nI t))]) rfl (fun ls hl => ?_)
    refine lv_aload_n hx hb d_SF_pieceSign_13 rfl (lv_at hl 1 rfl) ?_
    refine va_get (D := D) (ci := 1) (v := .ref (h 7)) (C := R_SF) (T := F_SF) (N := 6) hx hb hg i_SF hown hE.1 hP 0 rfl rfl 3 (by decide) (hg _ zw_43) (fun _ h9 => h9) rfl d_SF_pieceSign_14 ?_
    refine lv_iload_n hx hb d_SF_pieceSign_17 rfl (lv_at hl 4 rfl) ?_
    refine lv_iload hx hb d_SF_pieceSign_18 (lv_at hl 5 rfl) ?_
    refine lv_iload_n hx hb d_SF_pieceSign_20 rfl (lv_at hl 2 rfl) ?_
    refine lv_iload_n hx hb d_SF_pieceSign_21 rfl (lv_at hl 3 rfl) ?_
    refine lv_iload hx hb d_SF_pieceSign_22 (lv_at hl 0 rfl) ?_
    refine zRd (rest := [.int (nI b), .int (nI a), .ref (h 7)]) (zrSN hS9 (c_NU_word l D cI cC cJ f (nI k) (zs_use t)) zc_NU_word (by decide) zw_341 (by decide) (trivial) hE rfl hl.1 rfl (Nat.le_of_ble_eq_true rfl) d_SF_pieceSign_24) ?_
    refine zRd (rest := []) (zrVN hS9 (c_RW_sign l D cI cC cJ (h 7) (h 8) 120 n3 f3 (by omega) (by decide) B hB a b (hab) (hb9) (zs_word f (nI k) (zs_use t))) zc_RW_sign (by decide) zw_364 zp_10 (by decide) (va_recv hE.1 hP (ci := 0) (q := (R_RW, F_RW, 2)) rfl (q0 := 7) rfl) (hP.sub [7, 8] rfl) hE rfl hl.1 rfl (Nat.le_of_ble_eq_true rfl) d_SF_pieceSign_27) ?_
    exact W.iret (v := (nI (zs_sg B a b (zs_word f (nI k) (zs_use t))))) hx hb hr (fun t ht _ => ⟨congrArg (fun z => Outcome.returned (some (Value.int z))) (rfl), ht⟩) t_nil d_SF_pieceSign_30
  · refine lv_if_eq hx hb d_SF_pieceSign_2 (tgt := 10) (by decide) (fun z9 => absurd z9 (nI_ne0 (by omega) (by omega))) (fun _ => ?_)
    refine lv_bipush (v := (nI 6)) hx hb d_SF_pieceSign_5 (by decide) ?_
    refine lv_goto hx hb d_SF_pieceSign_7 (tgt := 11) (by decide) ?_
    refine ztop (y := zs_use t) (by rw [zs_use, if_neg h9]) ?_
    refine lv_istore hx hb d_SF_pieceSign_11 hl (by decide) (lv' := [(6, .int (zs_use t)), (0, .ref (h 0)), (1, .int f), (2, .int (nI k)), (3, .int (nI a)), (4, .int (nI b)), (5, .int (nI t))]) rfl (fun ls hl => ?_)
    refine lv_aload_n hx hb d_SF_pieceSign_13 rfl (lv_at hl 1 rfl) ?_
    refine va_get (D := D) (ci := 1) (v := .ref (h 7)) (C := R_SF) (T := F_SF) (N := 6) hx hb hg i_SF hown hE.1 hP 0 rfl rfl 3 (by decide) (hg _ zw_43) (fun _ h9 => h9) rfl d_SF_pieceSign_14 ?_
    refine lv_iload_n hx hb d_SF_pieceSign_17 rfl (lv_at hl 4 rfl) ?_
    refine lv_iload hx hb d_SF_pieceSign_18 (lv_at hl 5 rfl) ?_
    refine lv_iload_n hx hb d_SF_pieceSign_20 rfl (lv_at hl 2 rfl) ?_
    refine lv_iload_n hx hb d_SF_pieceSign_21 rfl (lv_at hl 3 rfl) ?_
    refine lv_iload hx hb d_SF_pieceSign_22 (lv_at hl 0 rfl) ?_
    refine zRd (rest := [.int (nI b), .int (nI a), .ref (h 7)]) (zrSN hS9 (c_NU_word l D cI cC cJ f (nI k) (zs_use t)) zc_NU_word (by decide) zw_341 (by decide) (trivial) hE rfl hl.1 rfl (Nat.le_of_ble_eq_true rfl) d_SF_pieceSign_24) ?_
    refine zRd (rest := []) (zrVN hS9 (c_RW_sign l D cI cC cJ (h 7) (h 8) 120 n3 f3 (by omega) (by decide) B hB a b (hab) (hb9) (zs_word f (nI k) (zs_use t))) zc_RW_sign (by decide) zw_364 zp_10 (by decide) (va_recv hE.1 hP (ci := 0) (q := (R_RW, F_RW, 2)) rfl (q0 := 7) rfl) (hP.sub [7, 8] rfl) hE rfl hl.1 rfl (Nat.le_of_ble_eq_true rfl) d_SF_pieceSign_27) ?_
    exact W.iret (v := (nI (zs_sg B a b (zs_word f (nI k) (zs_use t))))) hx hb hr (fun t ht _ => ⟨congrArg (fun z => Outcome.returned (some (Value.int z))) (rfl), ht⟩) t_nil d_SF_pieceSign_30

set_option maxHeartbeats 4000000 in
set_option maxRecDepth 100000 in
theorem c_SF_entriesEnd (l : Launch) (D : va_G) (cI cC cJ : ClassId) (h : Nat → Nat) (n0 n1 n2 n3 n4 : Nat) (f0 f1 f2 f3 f4 : Nat → Int32) (rp : Int32) (hn0 : n0 ≤ 4) (hn1 : n1 ≤ 4) (hn2 : n2 ≤ 40) (hn3 : n3 ≤ 120) (hn4 : n4 ≤ 160) (B : Nat → Nat) (hB : zs_hold 256 f3 (n3, B)) (h2 : 2 ≤ n3) : Met l y_SF_entriesEnd (zw k_SF_entriesEnd) ({ frames := 2, cells := 0, slots := 0, locals := 42 }) (zPc [.ref (h 0)] (fun H => va_P D zcl (zSf cI h n0 n1 n2 n3 n4 f0 f1 f2 f3 f4 rp) H) D cI cC cJ) (QcRead (nI (2 + B 1 * 8))) 0 0 (fun _ => False) := by
  refine zMet (by decide) (Nat.le_of_ble_eq_true rfl) ?_
  intro p e s m below meth c hx hb hr hg hown hlk hml hP hE ls hl
  have hl : lv_has ls 1 [(0, .ref (h 0))] := hl
  have hS9 : CallFix p m c b_SF_entriesEnd 1 s [.ref (h 0)].toArray zg "SealedFiles" := ⟨hx, hb, hml, hown, hg⟩
  have hP : va_P D zcl [((h 0), .inr (1, [.ref (h 1), .ref (h 3), .ref (h 5), .ref (h 7), .ref (h 9), .int rp])), ((h 1), .inr (0, [.ref (h 2), .int (nI n0)])), ((h 2), .inl (cI, 4, .inl f0)), ((h 3), .inr (0, [.ref (h 4), .int (nI n1)])), ((h 4), .inl (cI, 4, .inl f1)), ((h 5), .inr (0, [.ref (h 6), .int (nI n2)])), ((h 6), .inl (cI, 40, .inl f2)), ((h 7), .inr (0, [.ref (h 8), .int (nI n3)])), ((h 8), .inl (cI, 120, .inl f3)), ((h 9), .inr (0, [.ref (h 10), .int (nI n4)])), ((h 10), .inl (cI, 160, .inl f4))] s.heap := hP
  refine lv_iconst (v := (nI 2)) hx hb d_SF_entriesEnd_0 (by decide) ?_
  refine lv_aload_n hx hb d_SF_entriesEnd_1 rfl (lv_at hl 0 rfl) ?_
  refine va_get (D := D) (ci := 1) (v := .ref (h 7)) (C := R_SF) (T := F_SF) (N := 6) hx hb hg i_SF hown hE.1 hP 0 rfl rfl 3 (by decide) (hg _ zw_43) (fun _ h9 => h9) rfl d_SF_entriesEnd_2 ?_
  refine lv_iconst (v := (nI 1)) hx hb d_SF_entriesEnd_5 (by decide) ?_
  refine zRd (rest := [.int (nI 2)]) (zrVN hS9 (c_RW_item l D cI cC cJ (h 7) (h 8) 120 n3 f3 (by omega) (by decide) (nI 1)) zc_RW_item (by decide) zw_65 zp_0 (by decide) (va_recv hE.1 hP (ci := 0) (q := (R_RW, F_RW, 2)) rfl (q0 := 7) rfl) (hP.sub [7, 8] rfl) hE rfl hl.1 rfl (Nat.le_of_ble_eq_true rfl) d_SF_entriesEnd_6) ?_
  refine ztop (y := nI (B 1)) ((zs_item_in (by omega) (by omega)).trans (hB 1 (show 1 < n3 by omega)).1) ?_
  refine lv_bipush (v := (nI 8)) hx hb d_SF_entriesEnd_9 (by decide) ?_
  refine lv_imul hx hb d_SF_entriesEnd_11 ?_
  refine lv_iadd hx hb d_SF_entriesEnd_12 ?_
  exact W.iret (v := ((nI 2) + ((nI (B 1)) * (nI 8)))) hx hb hr (fun t ht _ => ⟨congrArg (fun z => Outcome.returned (some (Value.int z))) (by rw [pk_mul, nI_add]), ht⟩) t_nil d_SF_entriesEnd_13

set_option maxHeartbeats 4000000 in
set_option maxRecDepth 100000 in
theorem c_SF_agreed (l : Launch) (D : va_G) (cI cC cJ : ClassId) (h : Nat → Nat) (n0 n1 n2 n3 n4 : Nat) (f0 f1 f2 f3 f4 : Nat → Int32) (rp : Int32) (hn0 : n0 ≤ 4) (hn1 : n1 ≤ 4) (hn2 : n2 ≤ 40) (hn3 : n3 ≤ 120) (hn4 : n4 ≤ 160) (B : Nat → Nat) (hB : zs_hold 256 f3 (n3, B)) (S : Nat → Nat) (hS0 : zs_hold 32748 f0 (n0, S)) (hA0 : ∀ j, j < n1 → f1 j = nI (zs_pw 2 (S j))) (hn01 : n1 = n0) (a k : Nat) (ha : a + 2 ≤ n3) (hk : k < n0) : Met l y_SF_agreed (zw k_SF_agreed) ({ frames := 3, cells := 0, slots := 0, locals := 63 }) (zPc [.ref (h 0), .int (nI a), .int (nI k)] (fun H => va_P D zcl (zSf cI h n0 n1 n2 n3 n4 f0 f1 f2 f3 f4 rp) H) D cI cC cJ) (QcRead (nI (zs_z B a (S k)))) 0 0 (fun _ => False) := by
  refine zMet (by decide) (Nat.le_of_ble_eq_true rfl) ?_
  intro p e s m below meth c hx hb hr hg hown hlk hml hP hE ls hl
  have hl : lv_has ls 3 [(0, .ref (h 0)), (1, .int (nI a)), (2, .int (nI k))] := hl
  have hS9 : CallFix p m c b_SF_agreed 3 s [.ref (h 0), .int (nI a), .int (nI k)].toArray zg "SealedFiles" := ⟨hx, hb, hml, hown, hg⟩
  have hP : va_P D zcl [((h 0), .inr (1, [.ref (h 1), .ref (h 3), .ref (h 5), .ref (h 7), .ref (h 9), .int rp])), ((h 1), .inr (0, [.ref (h 2), .int (nI n0)])), ((h 2), .inl (cI, 4, .inl f0)), ((h 3), .inr (0, [.ref (h 4), .int (nI n1)])), ((h 4), .inl (cI, 4, .inl f1)), ((h 5), .inr (0, [.ref (h 6), .int (nI n2)])), ((h 6), .inl (cI, 40, .inl f2)), ((h 7), .inr (0, [.ref (h 8), .int (nI n3)])), ((h 8), .inl (cI, 120, .inl f3)), ((h 9), .inr (0, [.ref (h 10), .int (nI n4)])), ((h 10), .inl (cI, 160, .inl f4))] s.heap := hP
  have h8 : S k < 32748 := (hS0 k hk).2
  have h7 : zs_two B a < 65536 := zs_two_lt (hB a (show a < n3 by omega)).2 (hB (a + 1) (show a + 1 < n3 by omega)).2
  refine lv_aload_n hx hb d_SF_agreed_0 rfl (lv_at hl 0 rfl) ?_
  refine va_get (D := D) (ci := 1) (v := .ref (h 7)) (C := R_SF) (T := F_SF) (N := 6) hx hb hg i_SF hown hE.1 hP 0 rfl rfl 3 (by decide) (hg _ zw_43) (fun _ h9 => h9) rfl d_SF_agreed_1 ?_
  refine lv_iload_n hx hb d_SF_agreed_4 rfl (lv_at hl 1 rfl) ?_
  refine zRd (rest := []) (zrVN hS9 (c_RW_pair l D cI cC cJ (h 7) (h 8) 120 n3 f3 (by omega) (by decide) (nI a)) zc_RW_pair (by decide) zw_412 zp_18 (by decide) (va_recv hE.1 hP (ci := 0) (q := (R_RW, F_RW, 2)) rfl (q0 := 7) rfl) (hP.sub [7, 8] rfl) hE rfl hl.1 rfl (Nat.le_of_ble_eq_true rfl) d_SF_agreed_5) ?_
  refine ztop (y := nI (zs_two B a)) (zs_pair_in hB (by omega) (by omega)) ?_
  refine lv_aload_n hx hb d_SF_agreed_8 rfl (lv_at hl 0 rfl) ?_
  refine va_get (D := D) (ci := 1) (v := .ref (h 1)) (C := R_SF) (T := F_SF) (N := 6) hx hb hg i_SF hown hE.1 hP 0 rfl rfl 0 (by decide) (hg _ zw_40) (fun _ h9 => h9) rfl d_SF_agreed_9 ?_
  refine lv_iload_n hx hb d_SF_agreed_12 rfl (lv_at hl 2 rfl) ?_
  refine zRd (rest := [.int (nI (zs_two B a))]) (zrVN hS9 (c_RW_item l D cI cC cJ (h 1) (h 2) 4 n0 f0 (by omega) (by decide) (nI k)) zc_RW_item (by decide) zw_65 zp_0 (by decide) (va_recv hE.1 hP (ci := 0) (q := (R_RW, F_RW, 2)) rfl (q0 := 1) rfl) (hP.sub [1, 2] rfl) hE rfl hl.1 rfl (Nat.le_of_ble_eq_true rfl) d_SF_agreed_13) ?_
  refine ztop (y := nI (S k)) ((zs_item_in hk (by omega)).trans (hS0 k hk).1) ?_
  refine zRd (rest := []) (zrSN hS9 (c_NU_power l D cI cC cJ (zs_two B a) (S k) (by omega) (by omega)) zc_NU_power (by decide) zw_317 (by decide) (trivial) hE rfl hl.1 rfl (Nat.le_of_ble_eq_true rfl) d_SF_agreed_16) ?_
  exact W.iret (v := (nI (zs_pw (zs_two B a) (S k)))) hx hb hr (fun t ht _ => ⟨congrArg (fun z => Outcome.returned (some (Value.int z))) (rfl), ht⟩) t_nil d_SF_agreed_19

set_option maxHeartbeats 4000000 in
set_option maxRecDepth 100000 in
theorem c_SF_unwrapped (l : Launch) (D : va_G) (cI cC cJ : ClassId) (h : Nat → Nat) (n0 n1 n2 n3 n4 : Nat) (f0 f1 f2 f3 f4 : Nat → Int32) (rp : Int32) (hn0 : n0 ≤ 4) (hn1 : n1 ≤ 4) (hn2 : n2 ≤ 40) (hn3 : n3 ≤ 120) (hn4 : n4 ≤ 160) (B : Nat → Nat) (hB : zs_hold 256 f3 (n3, B)) (S : Nat → Nat) (hS0 : zs_hold 32748 f0 (n0, S)) (hA0 : ∀ j, j < n1 → f1 j = nI (zs_pw 2 (S j))) (hn01 : n1 = n0) (a k : Nat) (ha : a + 6 ≤ n3) (hk : k < n0) : Met l y_SF_unwrapped (zw k_SF_unwrapped) ({ frames := 4, cells := 0, slots := 0, locals := 85 }) (zPc [.ref (h 0), .int (nI a), .int (nI k)] (fun H => va_P D zcl (zSf cI h n0 n1 n2 n3 n4 f0 f1 f2 f3 f4 rp) H) D cI cC cJ) (QcRead (zs_un_w B a (S k) (zs_pw 2 (S k)))) 0 0 (fun _ => False) := by
  refine zMet (by decide) (Nat.le_of_ble_eq_true rfl) ?_
  intro p e s m below meth c hx hb hr hg hown hlk hml hP hE ls hl
  have hl : lv_has ls 4 [(0, .ref (h 0)), (1, .int (nI a)), (2, .int (nI k))] := hl
  have hS9 : CallFix p m c b_SF_unwrapped 4 s [.ref (h 0), .int (nI a), .int (nI k)].toArray zg "SealedFiles" := ⟨hx, hb, hml, hown, hg⟩
  have hP : va_P D zcl [((h 0), .inr (1, [.ref (h 1), .ref (h 3), .ref (h 5), .ref (h 7), .ref (h 9), .int rp])), ((h 1), .inr (0, [.ref (h 2), .int (nI n0)])), ((h 2), .inl (cI, 4, .inl f0)), ((h 3), .inr (0, [.ref (h 4), .int (nI n1)])), ((h 4), .inl (cI, 4, .inl f1)), ((h 5), .inr (0, [.ref (h 6), .int (nI n2)])), ((h 6), .inl (cI, 40, .inl f2)), ((h 7), .inr (0, [.ref (h 8), .int (nI n3)])), ((h 8), .inl (cI, 120, .inl f3)), ((h 9), .inr (0, [.ref (h 10), .int (nI n4)])), ((h 10), .inl (cI, 160, .inl f4))] s.heap := hP
  refine lv_aload_n hx hb d_SF_unwrapped_0 rfl (lv_at hl 0 rfl) ?_
  refine va_get (D := D) (ci := 1) (v := .ref (h 7)) (C := R_SF) (T := F_SF) (N := 6) hx hb hg i_SF hown hE.1 hP 0 rfl rfl 3 (by decide) (hg _ zw_43) (fun _ h9 => h9) rfl d_SF_unwrapped_1 ?_
  refine lv_iload_n hx hb d_SF_unwrapped_4 rfl (lv_at hl 1 rfl) ?_
  refine lv_iconst (v := (nI 2)) hx hb d_SF_unwrapped_5 (by decide) ?_
  refine lv_iadd hx hb d_SF_unwrapped_6 ?_
  refine ztop (y := nI (a + 2)) (nI_add a 2) ?_
  refine zRd (rest := []) (zrVN hS9 (c_RW_pair l D cI cC cJ (h 7) (h 8) 120 n3 f3 (by omega) (by decide) (nI (a + 2))) zc_RW_pair (by decide) zw_412 zp_18 (by decide) (va_recv hE.1 hP (ci := 0) (q := (R_RW, F_RW, 2)) rfl (q0 := 7) rfl) (hP.sub [7, 8] rfl) hE rfl hl.1 rfl (Nat.le_of_ble_eq_true rfl) d_SF_unwrapped_7) ?_
  refine ztop (y := nI (zs_two B (a + 2))) (zs_pair_in hB (by omega) (by omega)) ?_
  refine lv_bipush (v := (nI 16)) hx hb d_SF_unwrapped_10 (by decide) ?_
  refine lv_ishl hx hb d_SF_unwrapped_12 ?_
  refine lv_aload_n hx hb d_SF_unwrapped_13 rfl (lv_at hl 0 rfl) ?_
  refine va_get (D := D) (ci := 1) (v := .ref (h 7)) (C := R_SF) (T := F_SF) (N := 6) hx hb hg i_SF hown hE.1 hP 0 rfl rfl 3 (by decide) (hg _ zw_43) (fun _ h9 => h9) rfl d_SF_unwrapped_14 ?_
  refine lv_iload_n hx hb d_SF_unwrapped_17 rfl (lv_at hl 1 rfl) ?_
  refine lv_iconst (v := (nI 4)) hx hb d_SF_unwrapped_18 (by decide) ?_
  refine lv_iadd hx hb d_SF_unwrapped_19 ?_
  refine ztop (y := nI (a + 4)) (nI_add a 4) ?_
  refine zRd (rest := [.int ((nI (zs_two B (a + 2))) <<< ((nI 16) &&& 31))]) (zrVN hS9 (c_RW_pair l D cI cC cJ (h 7) (h 8) 120 n3 f3 (by omega) (by decide) (nI (a + 4))) zc_RW_pair (by decide) zw_412 zp_18 (by decide) (va_recv hE.1 hP (ci := 0) (q := (R_RW, F_RW, 2)) rfl (q0 := 7) rfl) (hP.sub [7, 8] rfl) hE rfl hl.1 rfl (Nat.le_of_ble_eq_true rfl) d_SF_unwrapped_20) ?_
  refine ztop (y := nI (zs_two B (a + 4))) (zs_pair_in hB (by omega) (by omega)) ?_
  refine lv_ior hx hb d_SF_unwrapped_23 ?_
  refine lv_istore_n hx hb d_SF_unwrapped_24 rfl hl (by decide) (lv' := [(3, .int (((nI (zs_two B (a + 2))) <<< ((nI 16) &&& 31)) ||| (nI (zs_two B (a + 4))))), (0, .ref (h 0)), (1, .int (nI a)), (2, .int (nI k))]) rfl (fun ls hl => ?_)
  refine lv_iload_n hx hb d_SF_unwrapped_25 rfl (lv_at hl 0 rfl) ?_
  refine lv_aload_n hx hb d_SF_unwrapped_26 rfl (lv_at hl 1 rfl) ?_
  refine lv_iload_n hx hb d_SF_unwrapped_27 rfl (lv_at hl 2 rfl) ?_
  refine lv_iload_n hx hb d_SF_unwrapped_28 rfl (lv_at hl 3 rfl) ?_
  refine zRd (rest := [.int (((nI (zs_two B (a + 2))) <<< ((nI 16) &&& 31)) ||| (nI (zs_two B (a + 4))))]) (zrV hS9 (c_SF_agreed l D cI cC cJ h n0 n1 n2 n3 n4 f0 f1 f2 f3 f4 rp hn0 hn1 hn2 hn3 hn4 B hB S hS0 hA0 hn01 a k (by omega) hk) zc_SF_agreed zw_406 zw_408 zp_17 (by decide) (va_recv hE.1 hP (ci := 1) (q := (R_SF, F_SF, 6)) rfl (q0 := 0) rfl) (hP) hE rfl hl.1 rfl (Nat.le_of_ble_eq_true rfl) d_SF_unwrapped_29) ?_
  refine lv_aload_n hx hb d_SF_unwrapped_32 rfl (lv_at hl 1 rfl) ?_
  refine va_get (D := D) (ci := 1) (v := .ref (h 3)) (C := R_SF) (T := F_SF) (N := 6) hx hb hg i_SF hown hE.1 hP 0 rfl rfl 1 (by decide) (hg _ zw_41) (fun _ h9 => h9) rfl d_SF_unwrapped_33 ?_
  refine lv_iload_n hx hb d_SF_unwrapped_36 rfl (lv_at hl 3 rfl) ?_
  refine zRd (rest := [.int (nI (zs_z B a (S k))), .int (((nI (zs_two B (a + 2))) <<< ((nI 16) &&& 31)) ||| (nI (zs_two B (a + 4))))]) (zrVN hS9 (c_RW_item l D cI cC cJ (h 3) (h 4) 4 n1 f1 (by omega) (by decide) (nI k)) zc_RW_item (by decide) zw_65 zp_0 (by decide) (va_recv hE.1 hP (ci := 0) (q := (R_RW, F_RW, 2)) rfl (q0 := 3) rfl) (hP.sub [3, 4] rfl) hE rfl hl.1 rfl (Nat.le_of_ble_eq_true rfl) d_SF_unwrapped_37) ?_
  refine ztop (y := nI (zs_pw 2 (S k))) ((zs_item_in (by omega) (by omega)).trans (hA0 k (by omega))) ?_
  refine lv_iconst (v := (nI 1)) hx hb d_SF_unwrapped_40 (by decide) ?_
  refine zRd (rest := [.int (((nI (zs_two B (a + 2))) <<< ((nI 16) &&& 31)) ||| (nI (zs_two B (a + 4))))]) (zrSN hS9 (c_NU_word l D cI cC cJ (nI (zs_z B a (S k))) (nI (zs_pw 2 (S k))) (nI 1)) zc_NU_word (by decide) zw_341 (by decide) (trivial) hE rfl hl.1 rfl (Nat.le_of_ble_eq_true rfl) d_SF_unwrapped_41) ?_
  refine lv_ixor hx hb d_SF_unwrapped_44 ?_
  exact W.iret (v := ((((nI (zs_two B (a + 2))) <<< ((nI 16) &&& 31)) ||| (nI (zs_two B (a + 4)))) ^^^ (zs_word (nI (zs_z B a (S k))) (nI (zs_pw 2 (S k))) (nI 1)))) hx hb hr (fun t ht _ => ⟨congrArg (fun z => Outcome.returned (some (Value.int z))) (rfl), ht⟩) t_nil d_SF_unwrapped_45

set_option maxHeartbeats 4000000 in
set_option maxRecDepth 100000 in
theorem c_SF_hasShape (l : Launch) (D : va_G) (cI cC cJ : ClassId) (h : Nat → Nat) (n0 n1 n2 n3 n4 : Nat) (f0 f1 f2 f3 f4 : Nat → Int32) (rp : Int32) (hn0 : n0 ≤ 4) (hn1 : n1 ≤ 4) (hn2 : n2 ≤ 40) (hn3 : n3 ≤ 120) (hn4 : n4 ≤ 160) (B : Nat → Nat) (hB : zs_hold 256 f3 (n3, B)) : Met l y_SF_hasShape (zw k_SF_hasShape) ({ frames := 3, cells := 0, slots := 0, locals := 62 }) (zPc [.ref (h 0)] (fun H => va_P D zcl (zSf cI h n0 n1 n2 n3 n4 f0 f1 f2 f3 f4 rp) H) D cI cC cJ) (QcRead (nI (zs_sh n3 B))) 0 0 (fun _ => False) := by
  refine zMet (by decide) (Nat.le_of_ble_eq_true rfl) ?_
  intro p e s m below meth c hx hb hr hg hown hlk hml hP hE ls hl
  have hl : lv_has ls 1 [(0, .ref (h 0))] := hl
  have hS9 : CallFix p m c b_SF_hasShape 1 s [.ref (h 0)].toArray zg "SealedFiles" := ⟨hx, hb, hml, hown, hg⟩
  have hP : va_P D zcl [((h 0), .inr (1, [.ref (h 1), .ref (h 3), .ref (h 5), .ref (h 7), .ref (h 9), .int rp])), ((h 1), .inr (0, [.ref (h 2), .int (nI n0)])), ((h 2), .inl (cI, 4, .inl f0)), ((h 3), .inr (0, [.ref (h 4), .int (nI n1)])), ((h 4), .inl (cI, 4, .inl f1)), ((h 5), .inr (0, [.ref (h 6), .int (nI n2)])), ((h 6), .inl (cI, 40, .inl f2)), ((h 7), .inr (0, [.ref (h 8), .int (nI n3)])), ((h 8), .inl (cI, 120, .inl f3)), ((h 9), .inr (0, [.ref (h 10), .int (nI n4)])), ((h 10), .inl (cI, 160, .inl f4))] s.heap := hP
  refine lv_aload_n hx hb d_SF_hasShape_0 rfl (lv_at hl 0 rfl) ?_
  refine va_get (D := D) (ci := 1) (v := .ref (h 7)) (C := R_SF) (T := F_SF) (N := 6) hx hb hg i_SF hown hE.1 hP 0 rfl rfl 3 (by decide) (hg _ zw_43) (fun _ h9 => h9) rfl d_SF_hasShape_1 ?_
  refine lv_iconst (v := (nI 0)) hx hb d_SF_hasShape_4 (by decide) ?_
  refine zRd (rest := []) (zrVN hS9 (c_RW_item l D cI cC cJ (h 7) (h 8) 120 n3 f3 (by omega) (by decide) (nI 0)) zc_RW_item (by decide) zw_65 zp_0 (by decide) (va_recv hE.1 hP (ci := 0) (q := (R_RW, F_RW, 2)) rfl (q0 := 7) rfl) (hP.sub [7, 8] rfl) hE rfl hl.1 rfl (Nat.le_of_ble_eq_true rfl) d_SF_hasShape_5) ?_
  refine lv_bipush (v := (nI 83)) hx hb d_SF_hasShape_8 (by decide) ?_
  by_cases g0 : n3 = 0
  · refine lv_icmp_ne hx hb d_SF_hasShape_10 (tgt := 57) (by decide) (fun _ => ?_) (fun z9 => absurd z9 (by rw [zs_item_out (by omega) (by omega)]; decide))
    refine lv_iconst (v := (nI 0)) hx hb d_SF_hasShape_57 (by decide) ?_
    exact W.zret (v := (nI 0)) hx hb hr (rfl) (fun t ht _ => ⟨congrArg (fun z => Outcome.returned (some (Value.int z))) (by rw [zs_sh, if_neg (by omega)]), ht⟩) t_nil d_SF_hasShape_58
  · have e0 : zs_item n3 f3 (nI 0) = nI (B 0) := (zs_item_in (by omega) (by omega)).trans (hB 0 (show 0 < n3 by omega)).1
    have l0 : B 0 < 256 := (hB 0 (show 0 < n3 by omega)).2
    by_cases g1 : B 0 = 83
    · refine lv_icmp_ne hx hb d_SF_hasShape_10 (tgt := 57) (by decide) (fun z9 => absurd (by rw [e0, g1]) z9) (fun _ => ?_)
      refine lv_aload_n hx hb d_SF_hasShape_13 rfl (lv_at hl 0 rfl) ?_
      refine va_get (D := D) (ci := 1) (v := .ref (h 7)) (C := R_SF) (T := F_SF) (N := 6) hx hb hg i_SF hown hE.1 hP 0 rfl rfl 3 (by decide) (hg _ zw_43) (fun _ h9 => h9) rfl d_SF_hasShape_14 ?_
      refine lv_iconst (v := (nI 1)) hx hb d_SF_hasShape_17 (by decide) ?_
      refine zRd (rest := []) (zrVN hS9 (c_RW_item l D cI cC cJ (h 7) (h 8) 120 n3 f3 (by omega) (by decide) (nI 1)) zc_RW_item (by decide) zw_65 zp_0 (by decide) (va_recv hE.1 hP (ci := 0) (q := (R_RW, F_RW, 2)) rfl (q0 := 7) rfl) (hP.sub [7, 8] rfl) hE rfl hl.1 rfl (Nat.le_of_ble_eq_true rfl) d_SF_hasShape_18) ?_
      refine lv_iconst (v := (nI 1)) hx hb d_SF_hasShape_21 (by decide) ?_
      by_cases g2 : n3 = 1
      · refine lv_icmp_lt hx hb d_SF_hasShape_22 (tgt := 57) (by decide) (fun _ => ?_) (fun z9 => absurd (by rw [zs_item_out (by omega) (by omega)]; decide) z9)
        refine lv_iconst (v := (nI 0)) hx hb d_SF_hasShape_57 (by decide) ?_
        exact W.zret (v := (nI 0)) hx hb hr (rfl) (fun t ht _ => ⟨congrArg (fun z => Outcome.returned (some (Value.int z))) (by rw [zs_sh, if_neg (by omega)]), ht⟩) t_nil d_SF_hasShape_58
      · have e1 : zs_item n3 f3 (nI 1) = nI (B 1) := (zs_item_in (by omega) (by omega)).trans (hB 1 (show 1 < n3 by omega)).1
        have l1 : B 1 < 256 := (hB 1 (show 1 < n3 by omega)).2
        by_cases g3 : 1 ≤ B 1
        · refine lv_icmp_lt hx hb d_SF_hasShape_22 (tgt := 57) (by decide) (fun z9 => absurd z9 (by rw [e1]; exact nI_nlt (by omega) (by omega))) (fun _ => ?_)
          refine lv_aload_n hx hb d_SF_hasShape_25 rfl (lv_at hl 0 rfl) ?_
          refine va_get (D := D) (ci := 1) (v := .ref (h 7)) (C := R_SF) (T := F_SF) (N := 6) hx hb hg i_SF hown hE.1 hP 0 rfl rfl 3 (by decide) (hg _ zw_43) (fun _ h9 => h9) rfl d_SF_hasShape_26 ?_
          refine lv_iconst (v := (nI 1)) hx hb d_SF_hasShape_29 (by decide) ?_
          refine zRd (rest := []) (zrVN hS9 (c_RW_item l D cI cC cJ (h 7) (h 8) 120 n3 f3 (by omega) (by decide) (nI 1)) zc_RW_item (by decide) zw_65 zp_0 (by decide) (va_recv hE.1 hP (ci := 0) (q := (R_RW, F_RW, 2)) rfl (q0 := 7) rfl) (hP.sub [7, 8] rfl) hE rfl hl.1 rfl (Nat.le_of_ble_eq_true rfl) d_SF_hasShape_30) ?_
          refine lv_iconst (v := (nI 3)) hx hb d_SF_hasShape_33 (by decide) ?_
          by_cases g4 : B 1 ≤ 3
          · refine lv_icmp_gt hx hb d_SF_hasShape_34 (tgt := 57) (by decide) (fun z9 => absurd z9 (by rw [e1]; exact nI_nlt (by omega) (by omega))) (fun _ => ?_)
            refine lv_aload_n hx hb d_SF_hasShape_37 rfl (lv_at hl 0 rfl) ?_
            refine va_get (D := D) (ci := 1) (v := .ref (h 7)) (C := R_SF) (T := F_SF) (N := 6) hx hb hg i_SF hown hE.1 hP 0 rfl rfl 3 (by decide) (hg _ zw_43) (fun _ h9 => h9) rfl d_SF_hasShape_38 ?_
            refine zRd (rest := []) (zrVN hS9 (c_RW_size l D cI cC cJ (h 7) (h 8) 120 n3 f3 (by omega) (by decide)) zc_RW_size (by decide) zw_85 zp_3 (by decide) (va_recv hE.1 hP (ci := 0) (q := (R_RW, F_RW, 2)) rfl (q0 := 7) rfl) (hP.sub [7, 8] rfl) hE rfl hl.1 rfl (Nat.le_of_ble_eq_true rfl) d_SF_hasShape_41) ?_
            refine lv_aload_n hx hb d_SF_hasShape_44 rfl (lv_at hl 0 rfl) ?_
            refine zRd (rest := [.int (nI n3)]) (zrV hS9 (c_SF_entriesEnd l D cI cC cJ h n0 n1 n2 n3 n4 f0 f1 f2 f3 f4 rp hn0 hn1 hn2 hn3 hn4 B hB (by omega)) zc_SF_entriesEnd zw_398 zw_400 zp_15 (by decide) (va_recv hE.1 hP (ci := 1) (q := (R_SF, F_SF, 6)) rfl (q0 := 0) rfl) (hP) hE rfl hl.1 rfl (Nat.le_of_ble_eq_true rfl) d_SF_hasShape_45) ?_
            refine lv_iconst (v := (nI 4)) hx hb d_SF_hasShape_48 (by decide) ?_
            refine lv_iadd hx hb d_SF_hasShape_49 ?_
            refine ztop (y := nI (2 + B 1 * 8 + 4)) (nI_add _ _) ?_
            by_cases g5 : 6 + B 1 * 8 ≤ n3
            · refine lv_icmp_lt hx hb d_SF_hasShape_50 (tgt := 57) (by decide) (fun z9 => absurd z9 (nI_nlt (by omega) (by omega))) (fun _ => ?_)
              refine lv_iconst (v := (nI 1)) hx hb d_SF_hasShape_53 (by decide) ?_
              refine lv_goto hx hb d_SF_hasShape_54 (tgt := 58) (by decide) ?_
              exact W.zret (v := (nI 1)) hx hb hr (rfl) (fun t ht _ => ⟨congrArg (fun z => Outcome.returned (some (Value.int z))) (by rw [zs_sh, if_pos (by omega)]), ht⟩) t_nil d_SF_hasShape_58
            · refine lv_icmp_lt hx hb d_SF_hasShape_50 (tgt := 57) (by decide) (fun _ => ?_) (fun z9 => absurd (nI_lt (by omega) (by omega)) z9)
              refine lv_iconst (v := (nI 0)) hx hb d_SF_hasShape_57 (by decide) ?_
              exact W.zret (v := (nI 0)) hx hb hr (rfl) (fun t ht _ => ⟨congrArg (fun z => Outcome.returned (some (Value.int z))) (by rw [zs_sh, if_neg (by omega)]), ht⟩) t_nil d_SF_hasShape_58
          · refine lv_icmp_gt hx hb d_SF_hasShape_34 (tgt := 57) (by decide) (fun _ => ?_) (fun z9 => absurd (by rw [e1]; exact nI_lt (by omega) (by omega)) z9)
            refine lv_iconst (v := (nI 0)) hx hb d_SF_hasShape_57 (by decide) ?_
            exact W.zret (v := (nI 0)) hx hb hr (rfl) (fun t ht _ => ⟨congrArg (fun z => Outcome.returned (some (Value.int z))) (by rw [zs_sh, if_neg (by omega)]), ht⟩) t_nil d_SF_hasShape_58
        · refine lv_icmp_lt hx hb d_SF_hasShape_22 (tgt := 57) (by decide) (fun _ => ?_) (fun z9 => absurd (by rw [e1]; exact nI_lt (by omega) (by omega)) z9)
          refine lv_iconst (v := (nI 0)) hx hb d_SF_hasShape_57 (by decide) ?_
          exact W.zret (v := (nI 0)) hx hb hr (rfl) (fun t ht _ => ⟨congrArg (fun z => Outcome.returned (some (Value.int z))) (by rw [zs_sh, if_neg (by omega)]), ht⟩) t_nil d_SF_hasShape_58
    · refine lv_icmp_ne hx hb d_SF_hasShape_10 (tgt := 57) (by decide) (fun _ => ?_) (fun z9 => absurd z9 (by rw [e0]; exact fun z => g1 ((nI_eq (by omega) (by omega)).mp z)))
      refine lv_iconst (v := (nI 0)) hx hb d_SF_hasShape_57 (by decide) ?_
      exact W.zret (v := (nI 0)) hx hb hr (rfl) (fun t ht _ => ⟨congrArg (fun z => Outcome.returned (some (Value.int z))) (by rw [zs_sh, if_neg (by omega)]), ht⟩) t_nil d_SF_hasShape_58

