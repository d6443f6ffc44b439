theorem zc_NU_mix : zCal y_NU_mix b_NU_mix 3 (some .int) 1 := ⟨zk_NU_mix, zw_9, by decide, by decide, by decide +kernel⟩
theorem zc_NU_word : zCal y_NU_word b_NU_word 3 (some .int) 3 := ⟨zk_NU_word, zw_9, by decide, by decide, by decide +kernel⟩
theorem zc_NU_power : zCal y_NU_power b_NU_power 5 (some .int) 2 := ⟨zk_NU_power, zw_9, by decide, by decide, by decide +kernel⟩
theorem zc_MD_mix : zCal y_MD_mix b_MD_mix 2 (some .int) 1 := ⟨zk_MD_mix, zw_3, by decide, by decide, by decide +kernel⟩
theorem zc_MD_word : zCal y_MD_word b_MD_word 4 (some .int) 3 := ⟨zk_MD_word, zw_3, by decide, by decide, by decide +kernel⟩
theorem zc_MD_power : zCal y_MD_power b_MD_power 5 (some .int) 2 := ⟨zk_MD_power, zw_3, by decide, by decide, by decide +kernel⟩
set_option maxHeartbeats 4000000 in
set_option maxRecDepth 100000 in
theorem c_NU_mix (l : Launch) (D : va_G) (cI cC cJ : ClassId) (x : Int32) : Met l y_NU_mix (zw k_NU_mix) ({ frames := 0, cells := 0, slots := 0, locals := 0 }) (zPc [.int x] (fun _ => True) D cI cC cJ) (QcRead (zs_mix x)) 0 0 (fun _ => False) := by
  refine zMet (by decide) (Nat.le_of_ble_eq_true rfl) ?_
  intro p e s m below meth c hx hb hr hg hown hlk hml hB hE ls hl
  have hl : lv_has ls 3 [(0, .int x)] := hl
  have hS9 : CallFix p m c b_NU_mix 3 s [.int x].toArray zg "SealedFiles$Numbers" := ⟨hx, hb, hml, hown, hg⟩
  refine lv_iload_n hx hb d_NU_mix_0 rfl (lv_at hl 0 rfl) ?_
  refine lv_iload_n hx hb d_NU_mix_1 rfl (lv_at hl 0 rfl) ?_
  refine lv_bipush (v := (nI 16)) hx hb d_NU_mix_2 (by decide) ?_
  refine lv_iushr (v := zs_u x (nI 16)) hx hb d_NU_mix_4 rfl ?_
  refine lv_ixor hx hb d_NU_mix_5 ?_
  refine lv_ldc (v := (nI 2146121005)) hx hb hown (hg _ zw_346) d_NU_mix_6 ?_
  refine lv_imul hx hb d_NU_mix_8 ?_
  refine lv_istore_n hx hb d_NU_mix_9 rfl hl (by decide) (lv' := [(1, .int ((x ^^^ (zs_u x (nI 16))) * (nI 2146121005))), (0, .int x)]) rfl (fun ls hl => ?_)
  refine lv_iload_n hx hb d_NU_mix_10 rfl (lv_at hl 0 rfl) ?_
  refine lv_iload_n hx hb d_NU_mix_11 rfl (lv_at hl 0 rfl) ?_
  refine lv_bipush (v := (nI 15)) hx hb d_NU_mix_12 (by decide) ?_
  refine lv_iushr (v := zs_u ((x ^^^ (zs_u x (nI 16))) * (nI 2146121005)) (nI 15)) hx hb d_NU_mix_14 rfl ?_
  refine lv_ixor hx hb d_NU_mix_15 ?_
  refine lv_ldc (v := (nI 2073254073)) hx hb hown (hg _ zw_347) d_NU_mix_16 ?_
  refine lv_imul hx hb d_NU_mix_18 ?_
  refine lv_istore_n hx hb d_NU_mix_19 rfl hl (by decide) (lv' := [(2, .int ((((x ^^^ (zs_u x (nI 16))) * (nI 2146121005)) ^^^ (zs_u ((x ^^^ (zs_u x (nI 16))) * (nI 2146121005)) (nI 15))) * (nI 2073254073))), (1, .int ((x ^^^ (zs_u x (nI 16))) * (nI 2146121005))), (0, .int x)]) rfl (fun ls hl => ?_)
  refine lv_iload_n hx hb d_NU_mix_20 rfl (lv_at hl 0 rfl) ?_
  refine lv_iload_n hx hb d_NU_mix_21 rfl (lv_at hl 0 rfl) ?_
  refine lv_bipush (v := (nI 16)) hx hb d_NU_mix_22 (by decide) ?_
  refine lv_iushr (v := zs_u ((((x ^^^ (zs_u x (nI 16))) * (nI 2146121005)) ^^^ (zs_u ((x ^^^ (zs_u x (nI 16))) * (nI 2146121005)) (nI 15))) * (nI 2073254073)) (nI 16)) hx hb d_NU_mix_24 rfl ?_
  refine lv_ixor hx hb d_NU_mix_25 ?_
  exact W.iret (v := (((((x ^^^ (zs_u x (nI 16))) * (nI 2146121005)) ^^^ (zs_u ((x ^^^ (zs_u x (nI 16))) * (nI 2146121005)) (nI 15))) * (nI 2073254073)) ^^^ (zs_u ((((x ^^^ (zs_u x (nI 16))) * (nI 2146121005)) ^^^ (zs_u ((x ^^^ (zs_u x (nI 16))) * (nI 2146121005)) (nI 15))) * (nI 2073254073)) (nI 16)))) hx hb hr (fun t ht _ => ⟨congrArg (fun z => Outcome.returned (some (Value.int z))) (rfl), ht⟩) t_nil d_NU_mix_26

set_option maxHeartbeats 4000000 in
set_option maxRecDepth 100000 in
theorem c_MD_mix (l : Launch) (D : va_G) (cI cC cJ : ClassId) (x : Int32) : Met l y_MD_mix (zw k_MD_mix) ({ frames := 0, cells := 0, slots := 0, locals := 0 }) (zPc [.int x] (fun _ => True) D cI cC cJ) (QcRead (zs_mix x)) 0 0 (fun _ => False) := by
  refine zMet (by decide) (Nat.le_of_ble_eq_true rfl) ?_
  intro p e s m below meth c hx hb hr hg hown hlk hml hB hE ls hl
  have hl : lv_has ls 2 [(0, .int x)] := hl
  have hS9 : CallFix p m c b_MD_mix 2 s [.int x].toArray zg "SealedFilesModel" := ⟨hx, hb, hml, hown, hg⟩
  refine lv_iload_n hx hb d_MD_mix_0 rfl (lv_at hl 0 rfl) ?_
  refine lv_iload_n hx hb d_MD_mix_1 rfl (lv_at hl 0 rfl) ?_
  refine lv_bipush (v := (nI 16)) hx hb d_MD_mix_2 (by decide) ?_
  refine lv_iushr (v := zs_u x (nI 16)) hx hb d_MD_mix_4 rfl ?_
  refine lv_ixor hx hb d_MD_mix_5 ?_
  refine lv_ldc (v := (nI 2146121005)) hx hb hown (hg _ zw_579) d_MD_mix_6 ?_
  refine lv_imul hx hb d_MD_mix_8 ?_
  refine lv_istore_n hx hb d_MD_mix_9 rfl hl (by decide) (lv' := [(1, .int ((x ^^^ (zs_u x (nI 16))) * (nI 2146121005))), (0, .int x)]) rfl (fun ls hl => ?_)
  refine lv_iload_n hx hb d_MD_mix_10 rfl (lv_at hl 0 rfl) ?_
  refine lv_iload_n hx hb d_MD_mix_11 rfl (lv_at hl 0 rfl) ?_
  refine lv_bipush (v := (nI 15)) hx hb d_MD_mix_12 (by decide) ?_
  refine lv_iushr (v := zs_u ((x ^^^ (zs_u x (nI 16))) * (nI 2146121005)) (nI 15)) hx hb d_MD_mix_14 rfl ?_
  refine lv_ixor hx hb d_MD_mix_15 ?_
  refine lv_ldc (v := (nI 2073254073)) hx hb hown (hg _ zw_580) d_MD_mix_16 ?_
  refine lv_imul hx hb d_MD_mix_18 ?_
  refine lv_istore_n hx hb d_MD_mix_19 rfl hl (by decide) (lv' := [(1, .int ((((x ^^^ (zs_u x (nI 16))) * (nI 2146121005)) ^^^ (zs_u ((x ^^^ (zs_u x (nI 16))) * (nI 2146121005)) (nI 15))) * (nI 2073254073))), (0, .int x)]) rfl (fun ls hl => ?_)
  refine lv_iload_n hx hb d_MD_mix_20 rfl (lv_at hl 0 rfl) ?_
  refine lv_iload_n hx hb d_MD_mix_21 rfl (lv_at hl 0 rfl) ?_
  refine lv_bipush (v := (nI 16)) hx hb d_MD_mix_22 (by decide) ?_
  refine lv_iushr (v := zs_u ((((x ^^^ (zs_u x (nI 16))) * (nI 2146121005)) ^^^ (zs_u ((x ^^^ (zs_u x (nI 16))) * (nI 2146121005)) (nI 15))) * (nI 2073254073)) (nI 16)) hx hb d_MD_mix_24 rfl ?_
  refine lv_ixor hx hb d_MD_mix_25 ?_
  exact W.iret (v := (((((x ^^^ (zs_u x (nI 16))) * (nI 2146121005)) ^^^ (zs_u ((x ^^^ (zs_u x (nI 16))) * (nI 2146121005)) (nI 15))) * (nI 2073254073)) ^^^ (zs_u ((((x ^^^ (zs_u x (nI 16))) * (nI 2146121005)) ^^^ (zs_u ((x ^^^ (zs_u x (nI 16))) * (nI 2146121005)) (nI 15))) * (nI 2073254073)) (nI 16)))) hx hb hr (fun t ht _ => ⟨congrArg (fun z => Outcome.returned (some (Value.int z))) (rfl), ht⟩) t_nil d_MD_mix_26

set_option maxHeartbeats 4000000 in
set_option maxRecDepth 100000 in
theorem c_NU_word (l : Launch) (D : va_G) (cI cC cJ : ClassId) (x y z : Int32) : Met l y_NU_word (zw k_NU_word) ({ frames := 1, cells := 0, slots := 0, locals := 22 }) (zPc [.int x, .int y, .int z] (fun _ => True) D cI cC cJ) (QcRead (zs_word x y z)) 0 0 (fun _ => False) := by
  refine zMet (by decide) (Nat.le_of_ble_eq_true rfl) ?_
  intro p e s m below meth c hx hb hr hg hown hlk hml hB hE ls hl
  have hl : lv_has ls 3 [(0, .int x), (1, .int y), (2, .int z)] := hl
  have hS9 : CallFix p m c b_NU_word 3 s [.int x, .int y, .int z].toArray zg "SealedFiles$Numbers" := ⟨hx, hb, hml, hown, hg⟩
  refine lv_iload_n hx hb d_NU_word_0 rfl (lv_at hl 0 rfl) ?_
  refine zRd (rest := []) (zrS hS9 (c_NU_mix l D cI cC cJ x) zc_NU_mix zw_343 zw_344 (by decide) (trivial) hE rfl hl.1 rfl (Nat.le_of_ble_eq_true rfl) d_NU_word_1) ?_
  refine lv_iload_n hx hb d_NU_word_4 rfl (lv_at hl 1 rfl) ?_
  refine lv_iadd hx hb d_NU_word_5 ?_
  refine zRd (rest := []) (zrS hS9 (c_NU_mix l D cI cC cJ ((zs_mix x) + y)) zc_NU_mix zw_343 zw_344 (by decide) (trivial) hE rfl hl.1 rfl (Nat.le_of_ble_eq_true rfl) d_NU_word_6) ?_
  refine lv_iload_n hx hb d_NU_word_9 rfl (lv_at hl 2 rfl) ?_
  refine lv_iadd hx hb d_NU_word_10 ?_
  refine zRd (rest := []) (zrS hS9 (c_NU_mix l D cI cC cJ ((zs_mix ((zs_mix x) + y)) + z)) zc_NU_mix zw_343 zw_344 (by decide) (trivial) hE rfl hl.1 rfl (Nat.le_of_ble_eq_true rfl) d_NU_word_11) ?_
  exact W.iret (v := (zs_mix ((zs_mix ((zs_mix x) + y)) + z))) hx hb hr (fun t ht _ => ⟨congrArg (fun z => Outcome.returned (some (Value.int z))) (rfl), ht⟩) t_nil d_NU_word_14

set_option maxHeartbeats 4000000 in
set_option maxRecDepth 100000 in
theorem c_MD_word (l : Launch) (D : va_G) (cI cC cJ : ClassId) (x y z : Int32) : Met l y_MD_word (zw k_MD_word) ({ frames := 1, cells := 0, slots := 0, locals := 21 }) (zPc [.int x, .int y, .int z] (fun _ => True) D cI cC cJ) (QcRead (zs_word x y z)) 0 0 (fun _ => False) := by
  refine zMet (by decide) (Nat.le_of_ble_eq_true rfl) ?_
  intro p e s m below meth c hx hb hr hg hown hlk hml hB hE ls hl
  have hl : lv_has ls 4 [(0, .int x), (1, .int y), (2, .int z)] := hl
  have hS9 : CallFix p m c b_MD_word 4 s [.int x, .int y, .int z].toArray zg "SealedFilesModel" := ⟨hx, hb, hml, hown, hg⟩
  refine lv_iload_n hx hb d_MD_word_0 rfl (lv_at hl 0 rfl) ?_
  refine zRd (rest := []) (zrS hS9 (c_MD_mix l D cI cC cJ x) zc_MD_mix zw_576 zw_577 (by decide) (trivial) hE rfl hl.1 rfl (Nat.le_of_ble_eq_true rfl) d_MD_word_1) ?_
  refine lv_istore_n hx hb d_MD_word_4 rfl hl (by decide) (lv' := [(3, .int (zs_mix x)), (0, .int x), (1, .int y), (2, .int z)]) rfl (fun ls hl => ?_)
  refine lv_iload_n hx hb d_MD_word_5 rfl (lv_at hl 0 rfl) ?_
  refine lv_iload_n hx hb d_MD_word_6 rfl (lv_at hl 2 rfl) ?_
  refine lv_iadd hx hb d_MD_word_7 ?_
  refine zRd (rest := []) (zrS hS9 (c_MD_mix l D cI cC cJ ((zs_mix x) + y)) zc_MD_mix zw_576 zw_577 (by decide) (trivial) hE rfl hl.1 rfl (Nat.le_of_ble_eq_true rfl) d_MD_word_8) ?_
  refine lv_istore_n hx hb d_MD_word_11 rfl hl (by decide) (lv' := [(3, .int (zs_mix ((zs_mix x) + y))), (0, .int x), (1, .int y), (2, .int z)]) rfl (fun ls hl => ?_)
  refine lv_iload_n hx hb d_MD_word_12 rfl (lv_at hl 0 rfl) ?_
  refine lv_iload_n hx hb d_MD_word_13 rfl (lv_at hl 3 rfl) ?_
  refine lv_iadd hx hb d_MD_word_14 ?_
  refine zRd (rest := []) (zrS hS9 (c_MD_mix l D cI cC cJ ((zs_mix ((zs_mix x) + y)) + z)) zc_MD_mix zw_576 zw_577 (by decide) (trivial) hE rfl hl.1 rfl (Nat.le_of_ble_eq_true rfl) d_MD_word_15) ?_
  exact W.iret (v := (zs_mix ((zs_mix ((zs_mix x) + y)) + z))) hx hb hr (fun t ht _ => ⟨congrArg (fun z => Outcome.returned (some (Value.int z))) (rfl), ht⟩) t_nil d_MD_word_18

set_option maxHeartbeats 4000000 in
set_option maxRecDepth 100000 in
theorem c_NU_power (l : Launch) (D : va_G) (cI cC cJ : ClassId) (b0 e0 : Nat) (hb0 : b0 < 2 ^ 31) (he0 : e0 < 2 ^ 15) : Met l y_NU_power (zw k_NU_power) ({ frames := 0, cells := 0, slots := 0, locals := 0 }) (zPc [.int (nI b0), .int (nI e0)] (fun _ => True) D cI cC cJ) (QcRead (nI (zs_pw b0 e0))) 0 0 (fun _ => False) := by
  refine zMet (by decide) (Nat.le_of_ble_eq_true rfl) ?_
  intro p e s m below meth c hx hb hr hg hown hlk hml hB hE ls hl
  have hl : lv_has ls 5 [(0, .int (nI b0)), (1, .int (nI e0))] := hl
  have hS9 : CallFix p m c b_NU_power 5 s [.int (nI b0), .int (nI e0)].toArray zg "SealedFiles$Numbers" := ⟨hx, hb, hml, hown, hg⟩
  refine lv_iload_n hx hb d_NU_power_0 rfl (lv_at hl 0 rfl) ?_
  refine lv_sipush (v := (nI 32749)) hx hb d_NU_power_1 (by decide) ?_
  refine lv_irem hx hb d_NU_power_4 (by decide) ?_
  refine ztop (y := nI (zs_pw b0 (2 ^ 0))) (by rw [pk_rem hb0 (by decide) (by decide), zs_pw_1]) ?_
  refine lv_istore_n hx hb d_NU_power_5 rfl hl (by decide) (lv' := [(2, .int (nI (zs_pw b0 (2 ^ 0)))), (0, .int (nI b0)), (1, .int (nI e0))]) rfl (fun ls hl => ?_)
  refine lv_iconst (v := (nI 1)) hx hb d_NU_power_6 (by decide) ?_
  refine ztop (y := nI (zs_pw b0 (e0 % 2 ^ 0))) (by rw [Nat.pow_zero, Nat.mod_one, zs_pw_0]) ?_
  refine lv_istore_n hx hb d_NU_power_7 rfl hl (by decide) (lv' := [(3, .int (nI (zs_pw b0 (e0 % 2 ^ 0)))), (2, .int (nI (zs_pw b0 (2 ^ 0)))), (0, .int (nI b0)), (1, .int (nI e0))]) rfl (fun ls hl => ?_)
  refine lv_iconst (v := (nI 0)) hx hb d_NU_power_8 (by decide) ?_
  refine lv_istore hx hb d_NU_power_9 hl (by decide) (lv' := [(4, .int (nI 0)), (3, .int (nI (zs_pw b0 (e0 % 2 ^ 0)))), (2, .int (nI (zs_pw b0 (2 ^ 0)))), (0, .int (nI b0)), (1, .int (nI e0))]) rfl (fun ls hl => ?_)
  have hl : lv_has ls 5 [(4, .int (nI 0)), (3, .int (nI (zs_pw b0 (e0 % 2 ^ 0)))), (2, .int (nI (zs_pw b0 (2 ^ 0)))), (0, .int (nI b0)), (1, .int (nI e0))] := lv_sub hl [0, 1, 2, 3, 4] rfl
  have loop : ∀ (k : Nat) (i : Nat), i + k = 15 → ∀ ls : Array Slot, lv_has ls 5 [(4, .int (nI i)), (3, .int (nI (zs_pw b0 (e0 % 2 ^ i)))), (2, .int (nI (zs_pw b0 (2 ^ i)))), (0, .int (nI b0)), (1, .int (nI e0))] → W p l e ({ frames := 0, cells := 0, slots := 0, locals := 0 }) s m [.int (nI b0), .int (nI e0)].toArray below meth c s.heap [] 0 0 (MQ below (QcRead (nI (zs_pw b0 e0))) [.int (nI b0), .int (nI e0)].toArray s 0 0 (fun _ => False)) (F0 m 11 ls []) := by
    intro k
    induction k with
    | zero =>
      intro i hi ls hl
      obtain rfl : i = 15 := by omega
      refine lv_iload hx hb d_NU_power_11 (lv_at hl 0 rfl) ?_
      refine lv_bipush (v := (nI 15)) hx hb d_NU_power_13 (by decide) ?_
      refine lv_icmp_ge hx hb d_NU_power_15 (tgt := 50) (by decide) (fun _ => ?_) (fun z9 => absurd (Int32.le_refl _) z9)
      refine lv_iload_n hx hb d_NU_power_50 rfl (lv_at hl 1 rfl) ?_
      exact W.iret (v := (nI (zs_pw b0 (e0 % 2 ^ 15)))) hx hb hr (fun t ht _ => ⟨congrArg (fun z => Outcome.returned (some (Value.int z))) (by rw [Nat.mod_eq_of_lt (show e0 < 2 ^ 15 by omega)]), ht⟩) t_nil d_NU_power_51
    | succ k ih =>
      intro i hi ls hl
      refine lv_iload hx hb d_NU_power_11 (lv_at hl 0 rfl) ?_
      refine lv_bipush (v := (nI 15)) hx hb d_NU_power_13 (by decide) ?_
      refine lv_icmp_ge hx hb d_NU_power_15 (tgt := 50) (by decide) (fun z9 => absurd z9 (nI_ge (by omega) (by omega))) (fun _ => ?_)
      refine lv_iload_n hx hb d_NU_power_18 rfl (lv_at hl 4 rfl) ?_
      refine lv_iload hx hb d_NU_power_19 (lv_at hl 0 rfl) ?_
      refine lv_iushr (v := zs_u (nI e0) (nI i)) hx hb d_NU_power_21 rfl ?_
      refine lv_iconst (v := (nI 1)) hx hb d_NU_power_22 (by decide) ?_
      refine lv_iand hx hb d_NU_power_23 ?_
      refine ztop (y := nI (e0 / 2 ^ i % 2)) (zs_bit (by omega) (by omega)) ?_
      refine lv_iconst (v := (nI 1)) hx hb d_NU_power_24 (by decide) ?_
      by_cases h : e0 / 2 ^ i % 2 = 1
      · refine lv_icmp_ne hx hb d_NU_power_25 (tgt := 36) (by decide) (fun z9 => absurd (by rw [h]) z9) (fun _ => ?_)
        refine lv_iload_n hx hb d_NU_power_28 rfl (lv_at hl 1 rfl) ?_
        refine lv_iload_n hx hb d_NU_power_29 rfl (lv_at hl 2 rfl) ?_
        refine lv_imul hx hb d_NU_power_30 ?_
        refine lv_sipush (v := (nI 32749)) hx hb d_NU_power_31 (by decide) ?_
        refine lv_irem hx hb d_NU_power_34 (by decide) ?_
        refine ztop (y := nI (zs_pw b0 (e0 % 2 ^ (i + 1)))) ((zs_pw_mul (zs_pw_lt _ _) (zs_pw_lt _ _)).trans (by rw [zs_pw_on h])) ?_
        refine lv_istore_n hx hb d_NU_power_35 rfl hl (by decide) (lv' := [(3, .int (nI (zs_pw b0 (e0 % 2 ^ (i + 1))))), (4, .int (nI i)), (2, .int (nI (zs_pw b0 (2 ^ i)))), (0, .int (nI b0)), (1, .int (nI e0))]) rfl (fun ls hl => ?_)
        refine lv_iload_n hx hb d_NU_power_36 rfl (lv_at hl 2 rfl) ?_
        refine lv_iload_n hx hb d_NU_power_37 rfl (lv_at hl 2 rfl) ?_
        refine lv_imul hx hb d_NU_power_38 ?_
        refine lv_sipush (v := (nI 32749)) hx hb d_NU_power_39 (by decide) ?_
        refine lv_irem hx hb d_NU_power_42 (by decide) ?_
        refine ztop (y := nI (zs_pw b0 (2 ^ (i + 1)))) ((zs_pw_mul (zs_pw_lt _ _) (zs_pw_lt _ _)).trans (by rw [zs_pw_sq])) ?_
        refine lv_istore_n hx hb d_NU_power_43 rfl hl (by decide) (lv' := [(2, .int (nI (zs_pw b0 (2 ^ (i + 1))))), (3, .int (nI (zs_pw b0 (e0 % 2 ^ (i + 1))))), (4, .int (nI i)), (0, .int (nI b0)), (1, .int (nI e0))]) rfl (fun ls hl => ?_)
        refine lv_iinc (k := 2) (v := nI (i + 1)) hx hb d_NU_power_44 hl rfl (nI_1 i) (by decide) (lv' := [(4, .int (nI (i + 1))), (2, .int (nI (zs_pw b0 (2 ^ (i + 1))))), (3, .int (nI (zs_pw b0 (e0 % 2 ^ (i + 1))))), (0, .int (nI b0)), (1, .int (nI e0))]) rfl (fun ls hl => ?_)
        refine lv_goto hx hb d_NU_power_47 (tgt := 11) (by decide) ?_
        have hl : lv_has ls 5 [(4, .int (nI (i + 1))), (3, .int (nI (zs_pw b0 (e0 % 2 ^ (i + 1))))), (2, .int (nI (zs_pw b0 (2 ^ (i + 1))))), (0, .int (nI b0)), (1, .int (nI e0))] := lv_sub hl [0, 2, 1, 3, 4] rfl
        exact ih (i + 1) (by omega) ls hl
      · refine lv_icmp_ne hx hb d_NU_power_25 (tgt := 36) (by decide) (fun _ => ?_) (fun z9 => absurd z9 (by rw [show e0 / 2 ^ i % 2 = 0 by omega]; decide))
        have hl : lv_has ls 5 [(4, .int (nI i)), (3, .int (nI (zs_pw b0 (e0 % 2 ^ (i + 1))))), (2, .int (nI (zs_pw b0 (2 ^ i)))), (0, .int (nI b0)), (1, .int (nI e0))] := by rw [zs_pw_off h]; exact hl
        refine lv_iload_n hx hb d_NU_power_36 rfl (lv_at hl 2 rfl) ?_
        refine lv_iload_n hx hb d_NU_power_37 rfl (lv_at hl 2 rfl) ?_
        refine lv_imul hx hb d_NU_power_38 ?_
        refine lv_sipush (v := (nI 32749)) hx hb d_NU_power_39 (by decide) ?_
        refine lv_irem hx hb d_NU_power_42 (by decide) ?_
        refine ztop (y := nI (zs_pw b0 (2 ^ (i + 1)))) ((zs_pw_mul (zs_pw_lt _ _) (zs_pw_lt _ _)).trans (by rw [zs_pw_sq])) ?_
        refine lv_istore_n hx hb d_NU_power_43 rfl hl (by decide) (lv' := [(2, .int (nI (zs_pw b0 (2 ^ (i + 1))))), (4, .int (nI i)), (3, .int (nI (zs_pw b0 (e0 % 2 ^ (i + 1))))), (0, .int (nI b0)), (1, .int (nI e0))]) rfl (fun ls hl => ?_)
        refine lv_iinc (k := 1) (v := nI (i + 1)) hx hb d_NU_power_44 hl rfl (nI_1 i) (by decide) (lv' := [(4, .int (nI (i + 1))), (2, .int (nI (zs_pw b0 (2 ^ (i + 1))))), (3, .int (nI (zs_pw b0 (e0 % 2 ^ (i + 1))))), (0, .int (nI b0)), (1, .int (nI e0))]) rfl (fun ls hl => ?_)
        refine lv_goto hx hb d_NU_power_47 (tgt := 11) (by decide) ?_
        have hl : lv_has ls 5 [(4, .int (nI (i + 1))), (3, .int (nI (zs_pw b0 (e0 % 2 ^ (i + 1))))), (2, .int (nI (zs_pw b0 (2 ^ (i + 1))))), (0, .int (nI b0)), (1, .int (nI e0))] := lv_sub hl [0, 2, 1, 3, 4] rfl
        exact ih (i + 1) (by omega) ls hl
  exact loop 15 0 rfl ls hl

set_option maxHeartbeats 4000000 in
set_option maxRecDepth 100000 in
theorem c_MD_power (l : Launch) (D : va_G) (cI cC cJ : ClassId) (b0 e0 : Nat) (hb0 : b0 < 2 ^ 31) (he0 : e0 < 2 ^ 15) : Met l y_MD_power (zw k_MD_power) ({ frames := 0, cells := 0, slots := 0, locals := 0 }) (zPc [.int (nI b0), .int (nI e0)] (fun _ => True) D cI cC cJ) (QcRead (nI (zs_pw b0 e0))) 0 0 (fun _ => False) := by
  refine zMet (by decide) (Nat.le_of_ble_eq_true rfl) ?_
  intro p e s m below meth c hx hb hr hg hown hlk hml hB hE ls hl
  have hl : lv_has ls 5 [(0, .int (nI b0)), (1, .int (nI e0))] := hl
  have hS9 : CallFix p m c b_MD_power 5 s [.int (nI b0), .int (nI e0)].toArray zg "SealedFilesModel" := ⟨hx, hb, hml, hown, hg⟩
  refine lv_iconst (v := (nI 1)) hx hb d_MD_power_0 (by decide) ?_
  refine ztop (y := nI (zs_pw b0 (e0 % 2 ^ 0))) (by rw [Nat.pow_zero, Nat.mod_one, zs_pw_0]) ?_
  refine lv_istore_n hx hb d_MD_power_1 rfl hl (by decide) (lv' := [(2, .int (nI (zs_pw b0 (e0 % 2 ^ 0)))), (0, .int (nI b0)), (1, .int (nI e0))]) rfl (fun ls hl => ?_)
  refine lv_iload_n hx hb d_MD_power_2 rfl (lv_at hl 1 rfl) ?_
  refine lv_sipush (v := (nI 32749)) hx hb d_MD_power_3 (by decide) ?_
  refine lv_irem hx hb d_MD_power_6 (by decide) ?_
  refine ztop (y := nI (zs_pw b0 (2 ^ 0))) (by rw [pk_rem hb0 (by decide) (by decide), zs_pw_1]) ?_
  refine lv_istore_n hx hb d_MD_power_7 rfl hl (by decide) (lv' := [(3, .int (nI (zs_pw b0 (2 ^ 0)))), (2, .int (nI (zs_pw b0 (e0 % 2 ^ 0)))), (0, .int (nI b0)), (1, .int (nI e0))]) rfl (fun ls hl => ?_)
  refine lv_iconst (v := (nI 0)) hx hb d_MD_power_8 (by decide) ?_
  refine lv_istore hx hb d_MD_power_9 hl (by decide) (lv' := [(4, .int (nI 0)), (3, .int (nI (zs_pw b0 (2 ^ 0)))), (2, .int (nI (zs_pw b0 (e0 % 2 ^ 0)))), (0, .int (nI b0)), (1, .int (nI e0))]) rfl (fun ls hl => ?_)
  have hl : lv_has ls 5 [(4, .int (nI 0)), (2, .int (nI (zs_pw b0 (e0 % 2 ^ 0)))), (3, .int (nI (zs_pw b0 (2 ^ 0)))), (0, .int (nI b0)), (1, .int (nI e0))] := lv_sub hl [0, 2, 1, 3, 4] rfl
  have loop : ∀ (k : Nat) (i : Nat), i + k = 16 → ∀ ls : Array Slot, lv_has ls 5 [(4, .int (nI i)), (2, .int (nI (zs_pw b0 (e0 % 2 ^ i)))), (3, .int (nI (zs_pw b0 (2 ^ i)))), (0, .int (nI b0)), (1, .int (nI e0))] → W p l e ({ frames := 0, cells := 0, slots := 0, locals := 0 }) s m [.int (nI b0), .int (nI e0)].toArray below meth c s.heap [] 0 0 (MQ below (QcRead (nI (zs_pw b0 e0))) [.int (nI b0), .int (nI e0)].toArray s 0 0 (fun _ => False)) (F0 m 11 ls []) := by
    intro k
    induction k with
    | zero =>
      intro i hi ls hl
      obtain rfl : i = 16 := by omega
      refine lv_iload hx hb d_MD_power_11 (lv_at hl 0 rfl) ?_
      refine lv_bipush (v := (nI 16)) hx hb d_MD_power_13 (by decide) ?_
      refine lv_icmp_ge hx hb d_MD_power_15 (tgt := 54) (by decide) (fun _ => ?_) (fun z9 => absurd (Int32.le_refl _) z9)
      refine lv_iload_n hx hb d_MD_power_54 rfl (lv_at hl 1 rfl) ?_
      exact W.iret (v := (nI (zs_pw b0 (e0 % 2 ^ 16)))) hx hb hr (fun t ht _ => ⟨congrArg (fun z => Outcome.returned (some (Value.int z))) (by rw [Nat.mod_eq_of_lt (show e0 < 2 ^ 16 by omega)]), ht⟩) t_nil d_MD_power_55
    | succ k ih =>
      intro i hi ls hl
      refine lv_iload hx hb d_MD_power_11 (lv_at hl 0 rfl) ?_
      refine lv_bipush (v := (nI 16)) hx hb d_MD_power_13 (by decide) ?_
      refine lv_icmp_ge hx hb d_MD_power_15 (tgt := 54) (by decide) (fun z9 => absurd z9 (nI_ge (by omega) (by omega))) (fun _ => ?_)
      refine lv_iload_n hx hb d_MD_power_18 rfl (lv_at hl 4 rfl) ?_
      refine lv_iload hx hb d_MD_power_19 (lv_at hl 0 rfl) ?_
      refine lv_ishr hx hb d_MD_power_21 ?_
      refine lv_iconst (v := (nI 1)) hx hb d_MD_power_22 (by decide) ?_
      refine lv_iand hx hb d_MD_power_23 ?_
      refine ztop (y := nI (e0 / 2 ^ i % 2)) (zs_sbit (by omega) (by omega)) ?_
      refine lv_iconst (v := (nI 1)) hx hb d_MD_power_24 (by decide) ?_
      by_cases h : e0 / 2 ^ i % 2 = 1
      · refine lv_icmp_ne hx hb d_MD_power_25 (tgt := 38) (by decide) (fun z9 => absurd (by rw [h]) z9) (fun _ => ?_)
        refine lv_iload_n hx hb d_MD_power_28 rfl (lv_at hl 1 rfl) ?_
        refine lv_iload_n hx hb d_MD_power_29 rfl (lv_at hl 2 rfl) ?_
        refine lv_imul hx hb d_MD_power_30 ?_
        refine lv_sipush (v := (nI 32749)) hx hb d_MD_power_31 (by decide) ?_
        refine lv_irem hx hb d_MD_power_34 (by decide) ?_
        refine ztop (y := nI (zs_pw b0 (e0 % 2 ^ (i + 1)))) ((zs_pw_mul (zs_pw_lt _ _) (zs_pw_lt _ _)).trans (by rw [zs_pw_on h])) ?_
        refine lv_goto hx hb d_MD_power_35 (tgt := 39) (by decide) ?_
        refine lv_istore_n hx hb d_MD_power_39 rfl hl (by decide) (lv' := [(2, .int (nI (zs_pw b0 (e0 % 2 ^ (i + 1))))), (4, .int (nI i)), (3, .int (nI (zs_pw b0 (2 ^ i)))), (0, .int (nI b0)), (1, .int (nI e0))]) rfl (fun ls hl => ?_)
        refine lv_iload_n hx hb d_MD_power_40 rfl (lv_at hl 2 rfl) ?_
        refine lv_iload_n hx hb d_MD_power_41 rfl (lv_at hl 2 rfl) ?_
        refine lv_imul hx hb d_MD_power_42 ?_
        refine lv_sipush (v := (nI 32749)) hx hb d_MD_power_43 (by decide) ?_
        refine lv_irem hx hb d_MD_power_46 (by decide) ?_
        refine ztop (y := nI (zs_pw b0 (2 ^ (i + 1)))) ((zs_pw_mul (zs_pw_lt _ _) (zs_pw_lt _ _)).trans (by rw [zs_pw_sq])) ?_
        refine lv_istore_n hx hb d_MD_power_47 rfl hl (by decide) (lv' := [(3, .int (nI (zs_pw b0 (2 ^ (i + 1))))), (2, .int (nI (zs_pw b0 (e0 % 2 ^ (i + 1))))), (4, .int (nI i)), (0, .int (nI b0)), (1, .int (nI e0))]) rfl (fun ls hl => ?_)
        refine lv_iinc (k := 2) (v := nI (i + 1)) hx hb d_MD_power_48 hl rfl (nI_1 i) (by decide) (lv' := [(4, .int (nI (i + 1))), (3, .int (nI (zs_pw b0 (2 ^ (i + 1))))), (2, .int (nI (zs_pw b0 (e0 % 2 ^ (i + 1))))), (0, .int (nI b0)), (1, .int (nI e0))]) rfl (fun ls hl => ?_)
        refine lv_goto hx hb d_MD_power_51 (tgt := 11) (by decide) ?_
        have hl : lv_has ls 5 [(4, .int (nI (i + 1))), (2, .int (nI (zs_pw b0 (e0 % 2 ^ (i + 1))))), (3, .int (nI (zs_pw b0 (2 ^ (i + 1))))), (0, .int (nI b0)), (1, .int (nI e0))] := lv_sub hl [0, 2, 1, 3, 4] rfl
        exact ih (i + 1) (by omega) ls hl
      · refine lv_icmp_ne hx hb d_MD_power_25 (tgt := 38) (by decide) (fun _ => ?_) (fun z9 => absurd z9 (by rw [show e0 / 2 ^ i % 2 = 0 by omega]; decide))
        refine lv_iload_n hx hb d_MD_power_38 rfl (lv_at hl 1 rfl) ?_
        refine ztop (y := nI (zs_pw b0 (e0 % 2 ^ (i + 1)))) (by rw [zs_pw_off h]) ?_
        refine lv_istore_n hx hb d_MD_power_39 rfl hl (by decide) (lv' := [(2, .int (nI (zs_pw b0 (e0 % 2 ^ (i + 1))))), (4, .int (nI i)), (3, .int (nI (zs_pw b0 (2 ^ i)))), (0, .int (nI b0)), (1, .int (nI e0))]) rfl (fun ls hl => ?_)
        refine lv_iload_n hx hb d_MD_power_40 rfl (lv_at hl 2 rfl) ?_
        refine lv_iload_n hx hb d_MD_power_41 rfl (lv_at hl 2 rfl) ?_
        refine lv_imul hx hb d_MD_power_42 ?_
        refine lv_sipush (v := (nI 32749)) hx hb d_MD_power_43 (by decide) ?_
        refine lv_irem hx hb d_MD_power_46 (by decide) ?_
        refine ztop (y := nI (zs_pw b0 (2 ^ (i + 1)))) ((zs_pw_mul (zs_pw_lt _ _) (zs_pw_lt _ _)).trans (by rw [zs_pw_sq])) ?_
        refine lv_istore_n hx hb d_MD_power_47 rfl hl (by decide) (lv' := [(3, .int (nI (zs_pw b0 (2 ^ (i + 1))))), (2, .int (nI (zs_pw b0 (e0 % 2 ^ (i + 1))))), (4, .int (nI i)), (0, .int (nI b0)), (1, .int (nI e0))]) rfl (fun ls hl => ?_)
        refine lv_iinc (k := 2) (v := nI (i + 1)) hx hb d_MD_power_48 hl rfl (nI_1 i) (by decide) (lv' := [(4, .int (nI (i + 1))), (3, .int (nI (zs_pw b0 (2 ^ (i + 1))))), (2, .int (nI (zs_pw b0 (e0 % 2 ^ (i + 1))))), (0, .int (nI b0)), (1, .int (nI e0))]) rfl (fun ls hl => ?_)
        refine lv_goto hx hb d_MD_power_51 (tgt := 11) (by decide) ?_
        have hl : lv_has ls 5 [(4, .int (nI (i + 1))), (2, .int (nI (zs_pw b0 (e0 % 2 ^ (i + 1))))), (3, .int (nI (zs_pw b0 (2 ^ (i + 1))))), (0, .int (nI b0)), (1, .int (nI e0))] := lv_sub hl [0, 2, 1, 3, 4] rfl
        exact ih (i + 1) (by omega) ls hl
  exact loop 16 0 rfl ls hl

