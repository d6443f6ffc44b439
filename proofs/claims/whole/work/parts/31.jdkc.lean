theorem zs_six_big {c : Nat} (h : 256 ≤ c) : zs_six c = -1 := by
  unfold zs_six
  rw [if_neg (by omega), if_neg (by omega), if_neg (by omega), if_neg (by omega), if_neg (by omega)]
theorem zs_m255 {c : Nat} (h : c < 128) : nI c &&& nI 255 = nI c := (pk_andN (by omega) 8 (by decide)).trans (congrArg nI (Nat.mod_eq_of_lt (by omega)))
set_option maxHeartbeats 4000000 in
set_option maxRecDepth 100000 in
theorem c_PR_checkIndex_n (l : Launch) (D : va_G) (cI cC cJ : ClassId) (i n : Nat) (hi : i < n) (hn : n < 2 ^ 31) : Met l y_PR_checkIndex (zw k_PR_checkIndex) ({ frames := 0, cells := 0, slots := 0, locals := 0 }) (zPc [.int (nI i), .int (nI n), .null] (fun _ => True) D cI cC cJ) (QcRead (nI i)) 0 0 (fun _ => False) := by
  refine zMet (by decide) (Nat.le_of_ble_eq_true rfl) ?_
  intro p e s m below meth c hx hb hr hg hown hlk hml hB hE ls hl
  have hl : lv_has ls 3 [(0, .int (nI i)), (1, .int (nI n)), (2, .null)] := hl
  have hS9 : CallFix p m c b_PR_checkIndex 3 s [.int (nI i), .int (nI n), .null].toArray zg "jdk/internal/util/Preconditions" := ⟨hx, hb, hml, hown, hg⟩
  refine lv_iload_n hx hb d_PR_checkIndex_0 rfl (lv_at hl 0 rfl) ?_
  refine lv_if_lt hx hb d_PR_checkIndex_1 (tgt := 9) (by decide) (fun z9 => absurd z9 (nI_pos (by omega))) (fun _ => ?_)
  refine lv_iload_n hx hb d_PR_checkIndex_4 rfl (lv_at hl 0 rfl) ?_
  refine lv_iload_n hx hb d_PR_checkIndex_5 rfl (lv_at hl 1 rfl) ?_
  refine lv_icmp_lt hx hb d_PR_checkIndex_6 (tgt := 16) (by decide) (fun _ => ?_) (fun z9 => absurd (nI_lt hi hn) z9)
  refine lv_iload_n hx hb d_PR_checkIndex_16 rfl (lv_at hl 0 rfl) ?_
  exact W.iret (v := (nI i)) hx hb hr (fun t ht _ => ⟨congrArg (fun z => Outcome.returned (some (Value.int z))) (rfl), ht⟩) t_nil d_PR_checkIndex_17

set_option maxHeartbeats 4000000 in
set_option maxRecDepth 100000 in
theorem c_PR_checkIndex_r (l : Launch) (D : va_G) (cI cC cJ : ClassId) (t : Nat) (i n : Nat) (hi : i < n) (hn : n < 2 ^ 31) : Met l y_PR_checkIndex (zw k_PR_checkIndex) ({ frames := 0, cells := 0, slots := 0, locals := 0 }) (zPc [.int (nI i), .int (nI n), .ref t] (fun _ => True) D cI cC cJ) (QcRead (nI i)) 0 0 (fun _ => False) := by
  refine zMet (by decide) (Nat.le_of_ble_eq_true rfl) ?_
  intro p e s m below meth c hx hb hr hg hown hlk hml hB hE ls hl
  have hl : lv_has ls 3 [(0, .int (nI i)), (1, .int (nI n)), (2, .ref t)] := hl
  have hS9 : CallFix p m c b_PR_checkIndex 3 s [.int (nI i), .int (nI n), .ref t].toArray zg "jdk/internal/util/Preconditions" := ⟨hx, hb, hml, hown, hg⟩
  refine lv_iload_n hx hb d_PR_checkIndex_0 rfl (lv_at hl 0 rfl) ?_
  refine lv_if_lt hx hb d_PR_checkIndex_1 (tgt := 9) (by decide) (fun z9 => absurd z9 (nI_pos (by omega))) (fun _ => ?_)
  refine lv_iload_n hx hb d_PR_checkIndex_4 rfl (lv_at hl 0 rfl) ?_
  refine lv_iload_n hx hb d_PR_checkIndex_5 rfl (lv_at hl 1 rfl) ?_
  refine lv_icmp_lt hx hb d_PR_checkIndex_6 (tgt := 16) (by decide) (fun _ => ?_) (fun z9 => absurd (nI_lt hi hn) z9)
  refine lv_iload_n hx hb d_PR_checkIndex_16 rfl (lv_at hl 0 rfl) ?_
  exact W.iret (v := (nI i)) hx hb hr (fun t ht _ => ⟨congrArg (fun z => Outcome.returned (some (Value.int z))) (rfl), ht⟩) t_nil d_PR_checkIndex_17

set_option maxHeartbeats 4000000 in
set_option maxRecDepth 100000 in
theorem c_ST_checkIndex (l : Launch) (D : va_G) (cI cC cJ : ClassId) (A : Nat → Prop) (ka va : Nat) (i n : Nat) (hi : i < n) (hn : n < 2 ^ 31) : Met l y_ST_checkIndex (zw k_ST_checkIndex) ({ frames := 1, cells := 0, slots := 0, locals := 22 }) (zPcY [.int (nI i), .int (nI n)] (fun _ => True) D cI cC cJ (zX1 A ka va)) (va_Sv (fun _ => True)) 0 0 (fun _ => False) := by
  refine zMetY (by decide) (Nat.le_of_ble_eq_true rfl) ?_
  intro p e s m below meth c hx hb hr hg hown hlk hml hB hE hX ls hl
  have hl : lv_has ls 2 [(0, .int (nI i)), (1, .int (nI n))] := hl
  have hS9 : CallFix p m c b_ST_checkIndex 2 s [.int (nI i), .int (nI n)].toArray zg "java/lang/String" := ⟨hx, hb, hml, hown, hg⟩
  refine lv_iload_n hx hb d_ST_checkIndex_0 rfl (lv_at hl 0 rfl) ?_
  refine lv_iload_n hx hb d_ST_checkIndex_1 rfl (lv_at hl 1 rfl) ?_
  rcases hX.2.2.1 with z | ⟨t, z⟩
  · refine va_gets hx hb (z) va_S.rf hown (hg _ zw_129) (fun _ h9 => h9) d_ST_checkIndex_2 ?_
    refine zRd (rest := []) (zrS hS9 (c_PR_checkIndex_n l D cI cC cJ i n hi hn) zc_PR_checkIndex zw_131 zw_132 (by decide) (trivial) hE rfl hl.1 rfl (Nat.le_of_ble_eq_true rfl) d_ST_checkIndex_5) ?_
    refine lv_pop hx hb d_ST_checkIndex_8 rfl ?_
    exact W.vret hx hb hr (fun t ht _ => ⟨rfl, trivial, ht⟩) t_nil d_ST_checkIndex_9
  · refine va_gets hx hb (z) va_S.rf hown (hg _ zw_129) (fun _ h9 => h9) d_ST_checkIndex_2 ?_
    refine zRd (rest := []) (zrS hS9 (c_PR_checkIndex_r l D cI cC cJ t i n hi hn) zc_PR_checkIndex zw_131 zw_132 (by decide) (trivial) hE rfl hl.1 rfl (Nat.le_of_ble_eq_true rfl) d_ST_checkIndex_5) ?_
    refine lv_pop hx hb d_ST_checkIndex_8 rfl ?_
    exact W.vret hx hb hr (fun t ht _ => ⟨rfl, trivial, ht⟩) t_nil d_ST_checkIndex_9

set_option maxHeartbeats 4000000 in
set_option maxRecDepth 100000 in
theorem c_SL_charAt (l : Launch) (D : va_G) (cI cC cJ : ClassId) (A : Nat → Prop) (ka va : Nat) (i : Nat) (hi : i < 64) : Met l y_SL_charAt (zw k_SL_charAt) ({ frames := 2, cells := 0, slots := 0, locals := 43 }) (zPcY [.ref va, .int (nI i)] (fun _ => True) D cI cC cJ (zX1 A ka va)) (QcRead (nI (zs_chr i))) 0 0 (fun _ => False) := by
  refine zMetY (by decide) (Nat.le_of_ble_eq_true rfl) ?_
  intro p e s m below meth c hx hb hr hg hown hlk hml hB hE hX ls hl
  have hl : lv_has ls 2 [(0, .ref va), (1, .int (nI i))] := hl
  have hS9 : CallFix p m c b_SL_charAt 2 s [.ref va, .int (nI i)].toArray zg "java/lang/StringLatin1" := ⟨hx, hb, hml, hown, hg⟩
  have hc := zs_chr_lt i hi
  refine lv_iload_n hx hb d_SL_charAt_0 rfl (lv_at hl 1 rfl) ?_
  refine lv_aload_n hx hb d_SL_charAt_1 rfl (lv_at hl 0 rfl) ?_
  refine va_tlen (v := nI 64) hx hb hX.2.2.2.2.2.2 va_S.rf rfl d_SL_charAt_2 ?_
  refine va_csv (rest := []) (zrSY hS9 (c_ST_checkIndex l D cI cC cJ A ka va i 64 hi (by decide)) zc_ST_checkIndex zw_126 zw_127 (by decide) (trivial) hE zX1.bl (fun U hU hW => hX.use va_S.rf hU hW (fun _ h => h)) rfl hl.1 rfl (Nat.le_of_ble_eq_true rfl) d_SL_charAt_3).run (fun _ => ?_)
  refine lv_aload_n hx hb d_SL_charAt_6 rfl (lv_at hl 0 rfl) ?_
  refine lv_iload_n hx hb d_SL_charAt_7 rfl (lv_at hl 1 rfl) ?_
  refine va_tb (v := .int (nI (zs_chr i))) hx hb hX.2.2.2.2.2.2 va_S.rf (vp_in_nI (hi) (by decide)) (by rw [nI_clamp (by omega)]) d_SL_charAt_8 ?_
  refine lv_sipush (v := (nI 255)) hx hb d_SL_charAt_9 (by decide) ?_
  refine lv_iand hx hb d_SL_charAt_12 ?_
  refine ztop (y := nI (zs_chr i)) (zs_m255 hc) ?_
  refine lv_i2c (v := nI (zs_chr i)) hx hb d_SL_charAt_13 (zs_c16 (by omega)) ?_
  exact W.zret (v := (nI (zs_chr i))) hx hb hr ((pk_charN (by have := zs_chr_lt i hi; omega)).1) (fun t ht _ => ⟨congrArg (fun z => Outcome.returned (some (Value.int z))) (rfl), ht⟩) t_nil d_SL_charAt_14

set_option maxHeartbeats 4000000 in
set_option maxRecDepth 100000 in
theorem c_ST_isLatin1 (l : Launch) (D : va_G) (cI cC cJ : ClassId) (A : Nat → Prop) (ka va : Nat)  : Met l y_ST_isLatin1 (zw k_ST_isLatin1) ({ frames := 0, cells := 0, slots := 0, locals := 0 }) (zPcY [.ref ka] (fun _ => True) D cI cC cJ (zX1 A ka va)) (QcRead (nI 1)) 0 0 (fun _ => False) := by
  refine zMetY (by decide) (Nat.le_of_ble_eq_true rfl) ?_
  intro p e s m below meth c hx hb hr hg hown hlk hml hB hE hX ls hl
  have hl : lv_has ls 1 [(0, .ref ka)] := hl
  have hS9 : CallFix p m c b_ST_isLatin1 1 s [.ref ka].toArray zg "java/lang/String" := ⟨hx, hb, hml, hown, hg⟩
  refine va_gets hx hb (hX.2.1) va_S.rf hown (hg _ zw_121) (fun _ h9 => h9) d_ST_isLatin1_0 ?_
  refine lv_if_eq hx hb d_ST_isLatin1_3 (tgt := 17) (by decide) (fun z9 => absurd z9 (by decide)) (fun _ => ?_)
  refine lv_aload_n hx hb d_ST_isLatin1_6 rfl (lv_at hl 0 rfl) ?_
  refine vk_getf hx hb (hX.2.2.2.2.1) va_S.rf hown (hg _ zw_652) (fun _ h9 => h9) d_ST_isLatin1_7 ?_
  refine lv_if_ne hx hb d_ST_isLatin1_10 (tgt := 17) (by decide) (fun z9 => absurd (rfl) z9) (fun _ => ?_)
  refine lv_iconst (v := (nI 1)) hx hb d_ST_isLatin1_13 (by decide) ?_
  refine lv_goto hx hb d_ST_isLatin1_14 (tgt := 18) (by decide) ?_
  exact W.zret (v := (nI 1)) hx hb hr (rfl) (fun t ht _ => ⟨congrArg (fun z => Outcome.returned (some (Value.int z))) (rfl), ht⟩) t_nil d_ST_isLatin1_18

set_option maxHeartbeats 4000000 in
set_option maxRecDepth 100000 in
theorem c_ST_charAt (l : Launch) (D : va_G) (cI cC cJ : ClassId) (A : Nat → Prop) (ka va : Nat) (i : Nat) (hi : i < 64) : Met l y_ST_charAt (zw k_ST_charAt) ({ frames := 3, cells := 0, slots := 0, locals := 64 }) (zPcY [.ref ka, .int (nI i)] (fun _ => True) D cI cC cJ (zX1 A ka va)) (QcRead (nI (zs_chr i))) 0 0 (fun _ => False) := by
  refine zMetY (by decide) (Nat.le_of_ble_eq_true rfl) ?_
  intro p e s m below meth c hx hb hr hg hown hlk hml hB hE hX ls hl
  have hl : lv_has ls 2 [(0, .ref ka), (1, .int (nI i))] := hl
  have hS9 : CallFix p m c b_ST_charAt 2 s [.ref ka, .int (nI i)].toArray zg "java/lang/String" := ⟨hx, hb, hml, hown, hg⟩
  refine lv_aload_n hx hb d_ST_charAt_0 rfl (lv_at hl 0 rfl) ?_
  refine zRd (rest := []) (zrVY hS9 (c_ST_isLatin1 l D cI cC cJ A ka va) zc_ST_isLatin1 zw_117 zw_118 zw_119 (by decide) (by obtain ⟨cell, h1, h2, h3, -⟩ := hX.2.2.2.1; exact ⟨cell, h1, h2, h3⟩) (trivial) hE zX1.bl (fun U hU hW => hX.use va_S.rf hU hW (fun _ h => h)) rfl hl.1 rfl (Nat.le_of_ble_eq_true rfl) d_ST_charAt_1) ?_
  refine lv_if_eq hx hb d_ST_charAt_4 (tgt := 16) (by decide) (fun z9 => absurd z9 (by decide)) (fun _ => ?_)
  refine lv_aload_n hx hb d_ST_charAt_7 rfl (lv_at hl 0 rfl) ?_
  refine vk_getf hx hb (hX.2.2.2.2.2.1) va_S.rf hown (hg _ zw_653) (fun _ h9 => h9) d_ST_charAt_8 ?_
  refine lv_iload_n hx hb d_ST_charAt_11 rfl (lv_at hl 1 rfl) ?_
  refine zRd (rest := []) (zrSY hS9 (c_SL_charAt l D cI cC cJ A ka va i hi) zc_SL_charAt zw_123 zw_124 (by decide) (trivial) hE zX1.bl (fun U hU hW => hX.use va_S.rf hU hW (fun _ h => h)) rfl hl.1 rfl (Nat.le_of_ble_eq_true rfl) d_ST_charAt_12) ?_
  exact W.zret (v := (nI (zs_chr i))) hx hb hr ((pk_charN (by have := zs_chr_lt i hi; omega)).1) (fun t ht _ => ⟨congrArg (fun z => Outcome.returned (some (Value.int z))) (rfl), ht⟩) t_nil d_ST_charAt_15

set_option maxHeartbeats 4000000 in
set_option maxRecDepth 100000 in
theorem c_ST_coder (l : Launch) (D : va_G) (cI cC cJ : ClassId) (A : Nat → Prop) (ka va : Nat)  : Met l y_ST_coder (zw k_ST_coder) ({ frames := 0, cells := 0, slots := 0, locals := 0 }) (zPcY [.ref ka] (fun _ => True) D cI cC cJ (zX1 A ka va)) (QcRead 0) 0 0 (fun _ => False) := by
  refine zMetY (by decide) (Nat.le_of_ble_eq_true rfl) ?_
  intro p e s m below meth c hx hb hr hg hown hlk hml hB hE hX ls hl
  have hl : lv_has ls 1 [(0, .ref ka)] := hl
  have hS9 : CallFix p m c b_ST_coder 1 s [.ref ka].toArray zg "java/lang/String" := ⟨hx, hb, hml, hown, hg⟩
  refine va_gets hx hb (hX.2.1) va_S.rf hown (hg _ zw_121) (fun _ h9 => h9) d_ST_coder_0 ?_
  refine lv_if_eq hx hb d_ST_coder_3 (tgt := 13) (by decide) (fun z9 => absurd z9 (by decide)) (fun _ => ?_)
  refine lv_aload_n hx hb d_ST_coder_6 rfl (lv_at hl 0 rfl) ?_
  refine vk_getf hx hb (hX.2.2.2.2.1) va_S.rf hown (hg _ zw_652) (fun _ h9 => h9) d_ST_coder_7 ?_
  refine lv_goto hx hb d_ST_coder_10 (tgt := 14) (by decide) ?_
  exact W.zret (v := 0) hx hb hr (rfl) (fun t ht _ => ⟨congrArg (fun z => Outcome.returned (some (Value.int z))) (rfl), ht⟩) t_nil d_ST_coder_14

set_option maxHeartbeats 4000000 in
set_option maxRecDepth 100000 in
theorem c_ST_length (l : Launch) (D : va_G) (cI cC cJ : ClassId) (A : Nat → Prop) (ka va : Nat)  : Met l y_ST_length (zw k_ST_length) ({ frames := 1, cells := 0, slots := 0, locals := 20 }) (zPcY [.ref ka] (fun _ => True) D cI cC cJ (zX1 A ka va)) (QcRead (nI 64)) 0 0 (fun _ => False) := by
  refine zMetY (by decide) (Nat.le_of_ble_eq_true rfl) ?_
  intro p e s m below meth c hx hb hr hg hown hlk hml hB hE hX ls hl
  have hl : lv_has ls 1 [(0, .ref ka)] := hl
  have hS9 : CallFix p m c b_ST_length 1 s [.ref ka].toArray zg "java/lang/String" := ⟨hx, hb, hml, hown, hg⟩
  refine lv_aload_n hx hb d_ST_length_0 rfl (lv_at hl 0 rfl) ?_
  refine vk_getf hx hb (hX.2.2.2.2.2.1) va_S.rf hown (hg _ zw_653) (fun _ h9 => h9) d_ST_length_1 ?_
  refine va_tlen (v := nI 64) hx hb hX.2.2.2.2.2.2 va_S.rf rfl d_ST_length_4 ?_
  refine lv_aload_n hx hb d_ST_length_5 rfl (lv_at hl 0 rfl) ?_
  refine zRd (rest := [.int (nI 64)]) (zrVY hS9 (c_ST_coder l D cI cC cJ A ka va) zc_ST_coder zw_170 zw_171 zw_172 (by decide) (by obtain ⟨cell, h1, h2, h3, -⟩ := hX.2.2.2.1; exact ⟨cell, h1, h2, h3⟩) (trivial) hE zX1.bl (fun U hU hW => hX.use va_S.rf hU hW (fun _ h => h)) rfl hl.1 rfl (Nat.le_of_ble_eq_true rfl) d_ST_length_6) ?_
  refine lv_ishr hx hb d_ST_length_9 ?_
  exact W.iret (v := ((nI 64) >>> (0 &&& 31))) hx hb hr (fun t ht _ => ⟨congrArg (fun z => Outcome.returned (some (Value.int z))) (by decide), ht⟩) t_nil d_ST_length_10

set_option maxHeartbeats 4000000 in
set_option maxRecDepth 100000 in
theorem c_SL_canEncode (l : Launch) (D : va_G) (cI cC cJ : ClassId) (c9 : Nat) (hc9 : c9 < 65536) : Met l y_SL_canEncode (zw k_SL_canEncode) ({ frames := 0, cells := 0, slots := 0, locals := 0 }) (zPc [.int (nI c9)] (fun _ => True) D cI cC cJ) (QcRead (nI (if c9 < 256 then 1 else 0))) 0 0 (fun _ => False) := by
  refine zMet (by decide) (Nat.le_of_ble_eq_true rfl) ?_
  intro p e s m below meth c hx hb hr hg hown hlk hml hB hE ls hl
  have hl : lv_has ls 1 [(0, .int (nI c9))] := hl
  have hS9 : CallFix p m c b_SL_canEncode 1 s [.int (nI c9)].toArray zg "java/lang/StringLatin1" := ⟨hx, hb, hml, hown, hg⟩
  refine lv_iload_n hx hb d_SL_canEncode_0 rfl (lv_at hl 0 rfl) ?_
  refine lv_if_lt hx hb d_SL_canEncode_1 (tgt := 15) (by decide) (fun z9 => absurd z9 (nI_pos (by omega))) (fun _ => ?_)
  refine lv_iload_n hx hb d_SL_canEncode_4 rfl (lv_at hl 0 rfl) ?_
  refine lv_sipush (v := (nI 255)) hx hb d_SL_canEncode_5 (by decide) ?_
  by_cases g : c9 < 256
  · refine lv_icmp_gt hx hb d_SL_canEncode_8 (tgt := 15) (by decide) (fun z9 => absurd z9 (nI_nlt (by omega) (by omega))) (fun _ => ?_)
    refine lv_iconst (v := (nI 1)) hx hb d_SL_canEncode_11 (by decide) ?_
    refine lv_goto hx hb d_SL_canEncode_12 (tgt := 16) (by decide) ?_
    exact W.zret (v := (nI 1)) hx hb hr (rfl) (fun t ht _ => ⟨congrArg (fun z => Outcome.returned (some (Value.int z))) (by rw [if_pos g]), ht⟩) t_nil d_SL_canEncode_16
  · refine lv_icmp_gt hx hb d_SL_canEncode_8 (tgt := 15) (by decide) (fun _ => ?_) (fun z9 => absurd (nI_lt (by omega) (by omega)) z9)
    refine lv_iconst (v := (nI 0)) hx hb d_SL_canEncode_15 (by decide) ?_
    exact W.zret (v := (nI 0)) hx hb hr (rfl) (fun t ht _ => ⟨congrArg (fun z => Outcome.returned (some (Value.int z))) (by rw [if_neg g]), ht⟩) t_nil d_SL_canEncode_16

set_option maxHeartbeats 4000000 in
set_option maxRecDepth 100000 in
theorem c_SL_indexOfChar (l : Launch) (D : va_G) (cI cC cJ : ClassId) (A : Nat → Prop) (ka va : Nat) (c9 : Nat) (hc9 : c9 < 256) : Met l y_SL_indexOfChar (zw k_SL_indexOfChar) ({ frames := 0, cells := 0, slots := 0, locals := 0 }) (zPcY [.ref va, .int (nI c9), .int (nI 0), .int (nI 64)] (fun _ => True) D cI cC cJ (zX1 A ka va)) (QcRead (zs_six c9)) 0 0 (fun _ => False) := by
  refine zMetY (by decide) (Nat.le_of_ble_eq_true rfl) ?_
  intro p e s m below meth c hx hb hr hg hown hlk hml hB hE hX ls hl
  have hl : lv_has ls 6 [(0, .ref va), (1, .int (nI c9)), (2, .int (nI 0)), (3, .int (nI 64))] := hl
  have hS9 : CallFix p m c b_SL_indexOfChar 6 s [.ref va, .int (nI c9), .int (nI 0), .int (nI 64)].toArray zg "java/lang/StringLatin1" := ⟨hx, hb, hml, hown, hg⟩
  refine lv_iload_n hx hb d_SL_indexOfChar_0 rfl (lv_at hl 1 rfl) ?_
  refine lv_i2b hx hb d_SL_indexOfChar_1 rfl ?_
  refine lv_istore hx hb d_SL_indexOfChar_2 hl (by decide) (lv' := [(4, .int ((nI c9).toInt8.toInt32)), (0, .ref va), (1, .int (nI c9)), (2, .int (nI 0)), (3, .int (nI 64))]) rfl (fun ls hl => ?_)
  refine lv_iload_n hx hb d_SL_indexOfChar_4 rfl (lv_at hl 3 rfl) ?_
  refine lv_istore hx hb d_SL_indexOfChar_5 hl (by decide) (lv' := [(5, .int (nI 0)), (4, .int ((nI c9).toInt8.toInt32)), (0, .ref va), (1, .int (nI c9)), (2, .int (nI 0)), (3, .int (nI 64))]) rfl (fun ls hl => ?_)
  have hl : lv_has ls 6 [(5, .int (nI 0)), (4, .int ((nI c9).toInt8.toInt32)), (0, .ref va), (1, .int (nI c9)), (2, .int (nI 0)), (3, .int (nI 64))] := lv_sub hl [0, 1, 2, 3, 4, 5] rfl
  have loop : ∀ (k : Nat) (i : Nat), i + k = 64 → (∀ j, j < i → zs_chr j ≠ c9) → ∀ ls : Array Slot, lv_has ls 6 [(5, .int (nI i)), (4, .int ((nI c9).toInt8.toInt32)), (0, .ref va), (1, .int (nI c9)), (2, .int (nI 0)), (3, .int (nI 64))] → W p l e ({ frames := 0, cells := 0, slots := 0, locals := 0 }) s m [.ref va, .int (nI c9), .int (nI 0), .int (nI 64)].toArray below meth c s.heap [] 0 0 (MQ below (QcRead (zs_six c9)) [.ref va, .int (nI c9), .int (nI 0), .int (nI 64)].toArray s 0 0 (fun _ => False)) (F0 m 7 ls []) := by
    intro k
    induction k with
    | zero =>
      intro i hi hno ls hl
      refine lv_iload hx hb d_SL_indexOfChar_7 (lv_at hl 0 rfl) ?_
      refine lv_iload_n hx hb d_SL_indexOfChar_9 rfl (lv_at hl 5 rfl) ?_
      refine lv_icmp_ge hx hb d_SL_indexOfChar_10 (tgt := 31) (by decide) (fun _ => ?_) (fun z9 => absurd (nI_le (by omega) (by omega)) z9)
      refine lv_iconst (v := (-1)) hx hb d_SL_indexOfChar_31 (by decide) ?_
      exact W.iret (v := (-1)) hx hb hr (fun t ht _ => ⟨congrArg (fun z => Outcome.returned (some (Value.int z))) (by rcases zs_six_in (c := c9) with ⟨e, he, _, hq⟩ | hq; exact absurd hq (hno e (by omega)); exact hq.1.symm), ht⟩) t_nil d_SL_indexOfChar_32
    | succ k ih =>
      intro i hi hno ls hl
      refine lv_iload hx hb d_SL_indexOfChar_7 (lv_at hl 0 rfl) ?_
      refine lv_iload_n hx hb d_SL_indexOfChar_9 rfl (lv_at hl 5 rfl) ?_
      refine lv_icmp_ge hx hb d_SL_indexOfChar_10 (tgt := 31) (by decide) (fun z9 => absurd z9 (nI_ge (by omega) (by omega))) (fun _ => ?_)
      refine lv_aload_n hx hb d_SL_indexOfChar_13 rfl (lv_at hl 2 rfl) ?_
      refine lv_iload hx hb d_SL_indexOfChar_14 (lv_at hl 0 rfl) ?_
      refine va_tb (v := .int (nI (zs_chr i))) hx hb hX.2.2.2.2.2.2 va_S.rf (vp_in_nI (by omega) (by decide)) (by rw [nI_clamp (by omega)]) d_SL_indexOfChar_16 ?_
      refine lv_iload hx hb d_SL_indexOfChar_17 (lv_at hl 1 rfl) ?_
      by_cases g : c9 = zs_chr i
      · refine lv_icmp_ne hx hb d_SL_indexOfChar_19 (tgt := 25) (by decide) (fun z9 => absurd (((zs_b8 c9 hc9 i (by omega)).mpr g).symm) z9) (fun _ => ?_)
        refine lv_iload hx hb d_SL_indexOfChar_22 (lv_at hl 0 rfl) ?_
        exact W.iret (v := (nI i)) hx hb hr (fun t ht _ => ⟨congrArg (fun z => Outcome.returned (some (Value.int z))) (by rw [g, zs_six_chr i (by omega)]), ht⟩) t_nil d_SL_indexOfChar_24
      · refine lv_icmp_ne hx hb d_SL_indexOfChar_19 (tgt := 25) (by decide) (fun _ => ?_) (fun z9 => absurd z9 (fun z => g ((zs_b8 c9 hc9 i (by omega)).mp z.symm)))
        refine lv_iinc (k := 0) (v := nI (i + 1)) hx hb d_SL_indexOfChar_25 hl rfl (nI_1 i) (by decide) (lv' := [(5, .int (nI (i + 1))), (4, .int ((nI c9).toInt8.toInt32)), (0, .ref va), (1, .int (nI c9)), (2, .int (nI 0)), (3, .int (nI 64))]) rfl (fun ls hl => ?_)
        refine lv_goto hx hb d_SL_indexOfChar_28 (tgt := 7) (by decide) ?_
        have hl : lv_has ls 6 [(5, .int (nI (i + 1))), (4, .int ((nI c9).toInt8.toInt32)), (0, .ref va), (1, .int (nI c9)), (2, .int (nI 0)), (3, .int (nI 64))] := lv_sub hl [0, 1, 2, 3, 4, 5] rfl
        exact ih (i + 1) (by omega) (fun j hj => by by_cases e : j = i; subst e; exact fun z => g z.symm; exact hno j (by omega)) ls hl
  exact loop 64 0 (by omega) (fun _ h => absurd h (Nat.not_lt_zero _)) ls hl

set_option maxHeartbeats 4000000 in
set_option maxRecDepth 100000 in
theorem c_SL_indexOf (l : Launch) (D : va_G) (cI cC cJ : ClassId) (A : Nat → Prop) (ka va : Nat) (c9 : Nat) (hc9 : c9 < 65536) : Met l y_SL_indexOf (zw k_SL_indexOf) ({ frames := 1, cells := 0, slots := 0, locals := 25 }) (zPcY [.ref va, .int (nI c9), .int (nI 0), .int (nI 64)] (fun _ => True) D cI cC cJ (zX1 A ka va)) (QcRead (zs_six c9)) 0 0 (fun _ => False) := by
  refine zMetY (by decide) (Nat.le_of_ble_eq_true rfl) ?_
  intro p e s m below meth c hx hb hr hg hown hlk hml hB hE hX ls hl
  have hl : lv_has ls 4 [(0, .ref va), (1, .int (nI c9)), (2, .int (nI 0)), (3, .int (nI 64))] := hl
  have hS9 : CallFix p m c b_SL_indexOf 4 s [.ref va, .int (nI c9), .int (nI 0), .int (nI 64)].toArray zg "java/lang/StringLatin1" := ⟨hx, hb, hml, hown, hg⟩
  refine lv_iload_n hx hb d_SL_indexOf_0 rfl (lv_at hl 1 rfl) ?_
  refine zRd (rest := []) (zrS hS9 (c_SL_canEncode l D cI cC cJ c9 hc9) zc_SL_canEncode zw_177 zw_178 (by decide) (trivial) hE rfl hl.1 rfl (Nat.le_of_ble_eq_true rfl) d_SL_indexOf_1) ?_
  by_cases g : c9 < 256
  · refine lv_if_ne hx hb d_SL_indexOf_4 (tgt := 9) (by decide) (fun _ => ?_) (fun z9 => absurd z9 (by rw [if_pos g]; decide))
    refine lv_iload_n hx hb d_SL_indexOf_9 rfl (lv_at hl 2 rfl) ?_
    refine lv_iconst (v := (nI 0)) hx hb d_SL_indexOf_10 (by decide) ?_
    refine va_mmax (rest := []) hx hb (hml.trans hl.1.symm) hown (hg _ zw_180) (hg _ zw_181) (hg _ zw_11) (hg _ zk_MA_max) (by decide) (Nat.le_of_ble_eq_true rfl) (Nat.zero_le _) (Nat.zero_le _) d_SL_indexOf_11 ?_
    refine ztop (y := nI 0) (by decide) ?_
    refine lv_istore_n hx hb d_SL_indexOf_14 rfl hl (by decide) (lv' := [(2, .int (nI 0)), (0, .ref va), (1, .int (nI c9)), (3, .int (nI 64))]) rfl (fun ls hl => ?_)
    refine lv_iload_n hx hb d_SL_indexOf_15 rfl (lv_at hl 3 rfl) ?_
    refine lv_aload_n hx hb d_SL_indexOf_16 rfl (lv_at hl 1 rfl) ?_
    refine va_tlen (v := nI 64) hx hb hX.2.2.2.2.2.2 va_S.rf rfl d_SL_indexOf_17 ?_
    refine va_mmin (rest := []) hx hb (hml.trans hl.1.symm) hown (hg _ zw_183) (hg _ zw_184) (hg _ zw_11) (hg _ zk_MA_min) (by decide) (Nat.le_of_ble_eq_true rfl) (Nat.zero_le _) (Nat.zero_le _) d_SL_indexOf_18 ?_
    refine ztop (y := nI 64) (by decide) ?_
    refine lv_istore_n hx hb d_SL_indexOf_21 rfl hl (by decide) (lv' := [(3, .int (nI 64)), (2, .int (nI 0)), (0, .ref va), (1, .int (nI c9))]) rfl (fun ls hl => ?_)
    refine lv_iload_n hx hb d_SL_indexOf_22 rfl (lv_at hl 1 rfl) ?_
    refine lv_iload_n hx hb d_SL_indexOf_23 rfl (lv_at hl 0 rfl) ?_
    refine lv_icmp_lt hx hb d_SL_indexOf_24 (tgt := 29) (by decide) (fun _ => ?_) (fun z9 => absurd (by decide) z9)
    refine lv_aload_n hx hb d_SL_indexOf_29 rfl (lv_at hl 2 rfl) ?_
    refine lv_iload_n hx hb d_SL_indexOf_30 rfl (lv_at hl 3 rfl) ?_
    refine lv_iload_n hx hb d_SL_indexOf_31 rfl (lv_at hl 1 rfl) ?_
    refine lv_iload_n hx hb d_SL_indexOf_32 rfl (lv_at hl 0 rfl) ?_
    refine zRd (rest := []) (zrSY hS9 (c_SL_indexOfChar l D cI cC cJ A ka va c9 g) zc_SL_indexOfChar zw_186 zw_187 (by decide) (trivial) hE zX1.bl (fun U hU hW => hX.use va_S.rf hU hW (fun _ h => h)) rfl hl.1 rfl (Nat.le_of_ble_eq_true rfl) d_SL_indexOf_33) ?_
    exact W.iret (v := (zs_six c9)) hx hb hr (fun t ht _ => ⟨congrArg (fun z => Outcome.returned (some (Value.int z))) (rfl), ht⟩) t_nil d_SL_indexOf_36
  · refine lv_if_ne hx hb d_SL_indexOf_4 (tgt := 9) (by decide) (fun z9 => absurd (by rw [if_neg g]; rfl) z9) (fun _ => ?_)
    refine lv_iconst (v := (-1)) hx hb d_SL_indexOf_7 (by decide) ?_
    exact W.iret (v := (-1)) hx hb hr (fun t ht _ => ⟨congrArg (fun z => Outcome.returned (some (Value.int z))) ((zs_six_big (by omega)).symm), ht⟩) t_nil d_SL_indexOf_8

set_option maxHeartbeats 4000000 in
set_option maxRecDepth 100000 in
theorem c_ST_indexOf2 (l : Launch) (D : va_G) (cI cC cJ : ClassId) (A : Nat → Prop) (ka va : Nat) (c9 : Nat) (hc9 : c9 < 65536) : Met l y_ST_indexOf2 (zw k_ST_indexOf2) ({ frames := 2, cells := 0, slots := 0, locals := 48 }) (zPcY [.ref ka, .int (nI c9), .int (nI 0)] (fun _ => True) D cI cC cJ (zX1 A ka va)) (QcRead (zs_six c9)) 0 0 (fun _ => False) := by
  refine zMetY (by decide) (Nat.le_of_ble_eq_true rfl) ?_
  intro p e s m below meth c hx hb hr hg hown hlk hml hB hE hX ls hl
  have hl : lv_has ls 3 [(0, .ref ka), (1, .int (nI c9)), (2, .int (nI 0))] := hl
  have hS9 : CallFix p m c b_ST_indexOf2 3 s [.ref ka, .int (nI c9), .int (nI 0)].toArray zg "java/lang/String" := ⟨hx, hb, hml, hown, hg⟩
  refine lv_aload_n hx hb d_ST_indexOf2_0 rfl (lv_at hl 0 rfl) ?_
  refine zRd (rest := []) (zrVY hS9 (c_ST_isLatin1 l D cI cC cJ A ka va) zc_ST_isLatin1 zw_117 zw_118 zw_119 (by decide) (by obtain ⟨cell, h1, h2, h3, -⟩ := hX.2.2.2.1; exact ⟨cell, h1, h2, h3⟩) (trivial) hE zX1.bl (fun U hU hW => hX.use va_S.rf hU hW (fun _ h => h)) rfl hl.1 rfl (Nat.le_of_ble_eq_true rfl) d_ST_indexOf2_1) ?_
  refine lv_if_eq hx hb d_ST_indexOf2_4 (tgt := 23) (by decide) (fun z9 => absurd z9 (by decide)) (fun _ => ?_)
  refine lv_aload_n hx hb d_ST_indexOf2_7 rfl (lv_at hl 0 rfl) ?_
  refine vk_getf hx hb (hX.2.2.2.2.2.1) va_S.rf hown (hg _ zw_653) (fun _ h9 => h9) d_ST_indexOf2_8 ?_
  refine lv_iload_n hx hb d_ST_indexOf2_11 rfl (lv_at hl 1 rfl) ?_
  refine lv_iload_n hx hb d_ST_indexOf2_12 rfl (lv_at hl 2 rfl) ?_
  refine lv_aload_n hx hb d_ST_indexOf2_13 rfl (lv_at hl 0 rfl) ?_
  refine zRd (rest := [.int (nI 0), .int (nI c9), .ref va]) (zrVY hS9 (c_ST_length l D cI cC cJ A ka va) zc_ST_length zw_166 zw_167 zw_168 (by decide) (by obtain ⟨cell, h1, h2, h3, -⟩ := hX.2.2.2.1; exact ⟨cell, h1, h2, h3⟩) (trivial) hE zX1.bl (fun U hU hW => hX.use va_S.rf hU hW (fun _ h => h)) rfl hl.1 rfl (Nat.le_of_ble_eq_true rfl) d_ST_indexOf2_14) ?_
  refine zRd (rest := []) (zrSY hS9 (c_SL_indexOf l D cI cC cJ A ka va c9 hc9) zc_SL_indexOf zw_174 zw_175 (by decide) (trivial) hE zX1.bl (fun U hU hW => hX.use va_S.rf hU hW (fun _ h => h)) rfl hl.1 rfl (Nat.le_of_ble_eq_true rfl) d_ST_indexOf2_17) ?_
  refine lv_goto hx hb d_ST_indexOf2_20 (tgt := 36) (by decide) ?_
  exact W.iret (v := (zs_six c9)) hx hb hr (fun t ht _ => ⟨congrArg (fun z => Outcome.returned (some (Value.int z))) (rfl), ht⟩) t_nil d_ST_indexOf2_36

set_option maxHeartbeats 4000000 in
set_option maxRecDepth 100000 in
theorem c_ST_indexOf (l : Launch) (D : va_G) (cI cC cJ : ClassId) (A : Nat → Prop) (ka va : Nat) (c9 : Nat) (hc9 : c9 < 65536) : Met l y_ST_indexOf (zw k_ST_indexOf) ({ frames := 3, cells := 0, slots := 0, locals := 70 }) (zPcY [.ref ka, .int (nI c9)] (fun _ => True) D cI cC cJ (zX1 A ka va)) (QcRead (zs_six c9)) 0 0 (fun _ => False) := by
  refine zMetY (by decide) (Nat.le_of_ble_eq_true rfl) ?_
  intro p e s m below meth c hx hb hr hg hown hlk hml hB hE hX ls hl
  have hl : lv_has ls 2 [(0, .ref ka), (1, .int (nI c9))] := hl
  have hS9 : CallFix p m c b_ST_indexOf 2 s [.ref ka, .int (nI c9)].toArray zg "java/lang/String" := ⟨hx, hb, hml, hown, hg⟩
  refine lv_aload_n hx hb d_ST_indexOf_0 rfl (lv_at hl 0 rfl) ?_
  refine lv_iload_n hx hb d_ST_indexOf_1 rfl (lv_at hl 1 rfl) ?_
  refine lv_iconst (v := (nI 0)) hx hb d_ST_indexOf_2 (by decide) ?_
  refine zRd (rest := []) (zrVY hS9 (c_ST_indexOf2 l D cI cC cJ A ka va c9 hc9) zc_ST_indexOf2 zw_162 zw_163 zw_164 (by decide) (by obtain ⟨cell, h1, h2, h3, -⟩ := hX.2.2.2.1; exact ⟨cell, h1, h2, h3⟩) (trivial) hE zX1.bl (fun U hU hW => hX.use va_S.rf hU hW (fun _ h => h)) rfl hl.1 rfl (Nat.le_of_ble_eq_true rfl) d_ST_indexOf_3) ?_
  exact W.iret (v := (zs_six c9)) hx hb hr (fun t ht _ => ⟨congrArg (fun z => Outcome.returned (some (Value.int z))) (rfl), ht⟩) t_nil d_ST_indexOf_6

