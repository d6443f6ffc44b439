theorem zc_MD_add : zCal y_MD_add b_MD_add 2 none 1 := ⟨zk_MD_add, zw_3, by decide, by decide, by decide +kernel⟩
theorem zc_MD_addTwo : zCal y_MD_addTwo b_MD_addTwo 2 none 1 := ⟨zk_MD_addTwo, zw_3, by decide, by decide, by decide +kernel⟩
theorem zc_MD_address : zCal y_MD_address b_MD_address 2 (some .int) 1 := ⟨zk_MD_address, zw_3, by decide, by decide, by decide +kernel⟩
theorem zc_MD_alter : zCal y_MD_alter b_MD_alter 3 (some .int) 2 := ⟨zk_MD_alter, zw_3, by decide, by decide, by decide +kernel⟩
theorem zc_MD_at : zCal y_MD_at b_MD_at 2 (some .int) 1 := ⟨zk_MD_at, zw_3, by decide, by decide, by decide +kernel⟩
theorem zc_MD_bit : zCal y_MD_bit b_MD_bit 2 (some .int) 1 := ⟨zk_MD_bit, zw_3, by decide, by decide, by decide +kernel⟩
theorem zc_MD_clear : zCal y_MD_clear b_MD_clear 2 (some .int) 0 := ⟨zk_MD_clear, zw_3, by decide, by decide, by decide +kernel⟩
theorem zc_MD_count : zCal y_MD_count b_MD_count 2 (some .int) 1 := ⟨zk_MD_count, zw_3, by decide, by decide, by decide +kernel⟩
theorem zc_MD_cut : zCal y_MD_cut b_MD_cut 2 (some .boolean) 1 := ⟨zk_MD_cut, zw_3, by decide, by decide, by decide +kernel⟩
theorem zc_MD_entry : zCal y_MD_entry b_MD_entry 11 none 3 := ⟨zk_MD_entry, zw_3, by decide, by decide, by decide +kernel⟩
theorem zc_MD_entryOf : zCal y_MD_entryOf b_MD_entryOf 6 (some .int) 1 := ⟨zk_MD_entryOf, zw_3, by decide, by decide, by decide +kernel⟩
theorem zc_MD_fails : zCal y_MD_fails b_MD_fails 2 (some .int) 1 := ⟨zk_MD_fails, zw_3, by decide, by decide, by decide +kernel⟩
theorem zc_MD_init : zCal y_MD_init b_MD_init 1 none 0 := ⟨zk_MD_init, zw_3, by decide, by decide, by decide +kernel⟩
theorem zc_MD_isKey : zCal y_MD_isKey b_MD_isKey 2 (some .boolean) 1 := ⟨zk_MD_isKey, zw_3, by decide, by decide, by decide +kernel⟩
theorem zc_MD_key : zCal y_MD_key b_MD_key 2 (some .int) 1 := ⟨zk_MD_key, zw_3, by decide, by decide, by decide +kernel⟩
theorem zc_MD_load : zCal y_MD_load b_MD_load 8 (some .int) 0 := ⟨zk_MD_load, zw_3, by decide, by decide, by decide +kernel⟩
theorem zc_MD_open : zCal y_MD_open b_MD_open 10 (some .int) 1 := ⟨zk_MD_open, zw_3, by decide, by decide, by decide +kernel⟩
theorem zc_MD_piece : zCal y_MD_piece b_MD_piece 7 (some .int) 5 := ⟨zk_MD_piece, zw_3, by decide, by decide, by decide +kernel⟩
theorem zc_MD_pieces : zCal y_MD_pieces b_MD_pieces 1 (some .int) 0 := ⟨zk_MD_pieces, zw_3, by decide, by decide, by decide +kernel⟩
theorem zc_MD_print : zCal y_MD_print b_MD_print 4 (some .int) 1 := ⟨zk_MD_print, zw_3, by decide, by decide, by decide +kernel⟩
theorem zc_MD_put : zCal y_MD_put b_MD_put 2 (some .boolean) 1 := ⟨zk_MD_put, zw_3, by decide, by decide, by decide +kernel⟩
theorem zc_MD_read : zCal y_MD_read b_MD_read 2 (some .int) 1 := ⟨zk_MD_read, zw_3, by decide, by decide, by decide +kernel⟩
theorem zc_MD_seal : zCal y_MD_seal b_MD_seal 10 (some .int) 3 := ⟨zk_MD_seal, zw_3, by decide, by decide, by decide +kernel⟩
theorem zc_MD_sign : zCal y_MD_sign b_MD_sign 9 (some .int) 3 := ⟨zk_MD_sign, zw_3, by decide, by decide, by decide +kernel⟩
theorem zc_MD_sixOf : zCal y_MD_sixOf b_MD_sixOf 1 (some .int) 1 := ⟨zk_MD_sixOf, zw_3, by decide, by decide, by decide +kernel⟩
theorem zc_MD_thrown : zCal y_MD_thrown b_MD_thrown 1 (some .int) 0 := ⟨zk_MD_thrown, zw_3, by decide, by decide, by decide +kernel⟩
theorem zc_MD_two : zCal y_MD_two b_MD_two 2 (some .int) 1 := ⟨zk_MD_two, zw_3, by decide, by decide, by decide +kernel⟩
theorem zc_MD_uncover : zCal y_MD_uncover b_MD_uncover 6 none 4 := ⟨zk_MD_uncover, zw_3, by decide, by decide, by decide +kernel⟩
theorem zc_MD_write : zCal y_MD_write b_MD_write 2 (some .boolean) 1 := ⟨zk_MD_write, zw_3, by decide, by decide, by decide +kernel⟩
/-- a SealedFilesModel: its object, and five arrays -/
abbrev zMd (cI cC : ClassId) (gg : Nat → Nat) (ft : Int32) (n0 n2 n3 rt rd n4 : Nat) (e0 e2 e3 e5 e4 : Nat → Int32) : va_W := [((gg 0), .inr (2, [.int ft, .int (nI n0), .ref (gg 1), .int (nI n2), .int (nI n3), .int (nI rt), .ref (gg 2), .ref (gg 3), .ref (gg 4), .int (nI rd), .int (nI n4), .ref (gg 5)])), ((gg 1), .inl (cI, 4, .inl e0)), ((gg 2), .inl (cI, 40, .inl e2)), ((gg 3), .inl (cI, 120, .inl e3)), ((gg 4), .inl (cI, 40, .inl e5)), ((gg 5), .inl (cC, 160, .inl e4))]
def zm_inj (h : Nat → Nat) : Prop := ∀ i j, i < 6 → j < 6 → h i = h j → i = j
def zAM (h : Nat → Nat) : Nat → Prop := fun q => ∃ i, i < 6 ∧ q = h i
theorem zMd_a {cI cC : ClassId} {gg : Nat → Nat} {ft : Int32} {n0 n2 n3 rt rd n4 : Nat} {e0 e2 e3 e5 e4 : Nat → Int32} : ∀ (k : Nat) (q : Nat × va_E), (zMd cI cC gg ft n0 n2 n3 rt rd n4 e0 e2 e3 e5 e4)[k]? = some q → k < 6 ∧ q.1 = gg k := by
  intro k q hk
  match k with
  | 0 | 1 | 2 | 3 | 4 | 5 => cases hk; exact ⟨by decide, rfl⟩
  | k + 6 => cases hk
theorem zMd_D {cI cC : ClassId} {gg : Nat → Nat} {ft : Int32} {n0 n2 n3 rt rd n4 : Nat} {e0 e2 e3 e5 e4 : Nat → Int32} (hh : zm_inj gg) : va_D (zAM gg) (zMd cI cC gg ft n0 n2 n3 rt rd n4 e0 e2 e3 e5 e4) := by
  refine ⟨fun i j p q hi hj e => ?_, fun k q hk => ⟨k, (zMd_a k q hk).1, (zMd_a k q hk).2⟩⟩
  obtain ⟨a1, a2⟩ := zMd_a i p hi
  obtain ⟨b1, b2⟩ := zMd_a j q hj
  exact hh i j a1 b1 (a2.symm.trans (e.trans b2))
def bt_ (x : Int32) (i : Nat) : Bool := x.toBitVec.getLsbD i
theorem bt_ext {x y : Int32} (h : ∀ i, i < 32 → bt_ x i = bt_ y i) : x = y := Int32.toBitVec_inj.1 (BitVec.eq_of_getLsbD_eq fun i hi => h i hi)
/-- the second byte, by either shift -/
theorem zs_shr8 (x : Int32) : (x >>> (nI 8 &&& 31)) &&& nI 255 = nI (zs_un x / 256 % 256) := by
  have h1 : (x >>> (nI 8 &&& 31)) &&& nI 255 = zs_u x (nI 8) &&& nI 255 := by
    apply bt_ext
    intro i hi
    have e1 : (x >>> (nI 8 &&& 31)).toBitVec = x.toBitVec.sshiftRight 8 := rfl
    have e2 : (zs_u x (nI 8)).toBitVec = x.toBitVec >>> 8 := rfl
    have e3 : (nI 255).toBitVec = 255#32 := rfl
    unfold bt_
    rw [Int32.toBitVec_and, Int32.toBitVec_and, BitVec.getLsbD_and, BitVec.getLsbD_and, e1, e2, e3]
    by_cases h8 : i < 8
    · rw [BitVec.getLsbD_sshiftRight, BitVec.getLsbD_ushiftRight]
      simp [hi, show 8 + i < 32 by omega, Nat.not_le.mpr hi]
    · have : (255#32).getLsbD i = false := by
        rw [show (255#32) = BitVec.ofNat 32 (2 ^ 8 - 1) from rfl, BitVec.getLsbD_ofNat, Nat.testBit_two_pow_sub_one]
        simp [h8]
      rw [this, Bool.and_false, Bool.and_false]
  have h2 := zs_un_lt x
  rw [h1, zs_u_un x (by decide), show nI (zs_un x / 2 ^ 8) &&& nI 255 = nI (zs_un x / 2 ^ 8 % 2 ^ 8) from pk_andN (by omega) 8 (by decide)]
/-- what a piece's sign says -/
def zs_pcode (B : Nat → Nat) (a e : Nat) (f : Int32) (k t : Nat) : Int32 := if zs_two B e = zs_sg B a e (zs_word f (nI k) (zs_use t)) then nI 0 else if zs_two B e = zs_sg B a e (zs_word f (nI k) (zs_use (1 - t))) then -5 else -4
/-- a bit of the file -/
def zs_bitv (n : Nat) (B : Nat → Nat) (i : Nat) : Nat := if i < 8 * n then B (i / 8) / 2 ^ (7 - i % 8) % 2 else 0
/-- the six bits of a character -/
def zs_six (c : Nat) : Int32 := if 65 ≤ c ∧ c ≤ 90 then nI (c - 65) else if 97 ≤ c ∧ c ≤ 122 then nI (26 + c - 97) else if 48 ≤ c ∧ c ≤ 57 then nI (52 + c - 48) else if c = 43 then nI 62 else if c = 45 then nI 63 else -1
set_option maxHeartbeats 4000000 in
set_option maxRecDepth 100000 in
theorem c_MD_fails (l : Launch) (D : va_G) (cI cC cJ : ClassId) (gg : Nat → Nat) (ft : Int32) (n0 n2 n3 rt rd n4 : Nat) (e0 e2 e3 e5 e4 : Nat → Int32) (hn0 : n0 ≤ 4) (hn2 : n2 ≤ 40) (hn3 : n3 ≤ 120) (hn4 : n4 ≤ 160) (hh : zm_inj gg) (x : Int32) : Met l y_MD_fails (zw k_MD_fails) ({ frames := 0, cells := 0, slots := 0, locals := 0 }) (zPc [.ref (gg 0), .int x] (fun H => va_P D zcl (zMd cI cC gg ft n0 n2 n3 rt rd n4 e0 e2 e3 e5 e4) H) D cI cC cJ) (zQm (some (.int (nI 0))) (fun H => va_P D zcl (zMd cI cC gg x n0 n2 n3 rt rd n4 e0 e2 e3 e5 e4) H) (zAM gg)) 0 0 (zAM gg) := by
  refine zMet (by decide) (Nat.le_of_ble_eq_true rfl) ?_
  intro p e s m below meth c hx hb hr hg hown hlk hml hP hE ls hl
  have hl : lv_has ls 2 [(0, .ref (gg 0)), (1, .int x)] := hl
  have hS9 : CallFix p m c b_MD_fails 2 s [.ref (gg 0), .int x].toArray zg "SealedFilesModel" := ⟨hx, hb, hml, hown, hg⟩
  have hP : va_P D zcl [((gg 0), .inr (2, [.int ft, .int (nI n0), .ref (gg 1), .int (nI n2), .int (nI n3), .int (nI rt), .ref (gg 2), .ref (gg 3), .ref (gg 4), .int (nI rd), .int (nI n4), .ref (gg 5)])), ((gg 1), .inl (cI, 4, .inl e0)), ((gg 2), .inl (cI, 40, .inl e2)), ((gg 3), .inl (cI, 120, .inl e3)), ((gg 4), .inl (cI, 40, .inl e5)), ((gg 5), .inl (cC, 160, .inl e4))] s.heap := hP
  have hD : va_D (zAM gg) [((gg 0), .inr (2, [.int ft, .int (nI n0), .ref (gg 1), .int (nI n2), .int (nI n3), .int (nI rt), .ref (gg 2), .ref (gg 3), .ref (gg 4), .int (nI rd), .int (nI n4), .ref (gg 5)])), ((gg 1), .inl (cI, 4, .inl e0)), ((gg 2), .inl (cI, 40, .inl e2)), ((gg 3), .inl (cI, 120, .inl e3)), ((gg 4), .inl (cI, 40, .inl e5)), ((gg 5), .inl (cC, 160, .inl e4))] := zMd_D hh
  have hS : va_S (zAM gg) s.heap s.heap [] := va_S.rf
  refine lv_aload_n hx hb d_MD_fails_0 rfl (lv_at hl 0 rfl) ?_
  refine lv_iload_n hx hb d_MD_fails_1 rfl (lv_at hl 1 rfl) ?_
  refine va_put (D := D) (ci := 2) (v := .int x) (ty := .int) (C := R_MD) (T := F_MD) (N := 12) hx hb hg i_MD t_MD t_MD_ok n_MD hown hE.1 hP hD hS 0 rfl rfl 0 (by decide) (hg _ zw_488) (fun _ h9 => h9) rfl (by decide +kernel) rfl rfl (Nat.le_of_ble_eq_true rfl) d_MD_fails_2 (fun H locs hP hD hS => ?_)
  have hP : va_P D zcl [((gg 0), .inr (2, [.int x, .int (nI n0), .ref (gg 1), .int (nI n2), .int (nI n3), .int (nI rt), .ref (gg 2), .ref (gg 3), .ref (gg 4), .int (nI rd), .int (nI n4), .ref (gg 5)])), ((gg 1), .inl (cI, 4, .inl e0)), ((gg 2), .inl (cI, 40, .inl e2)), ((gg 3), .inl (cI, 120, .inl e3)), ((gg 4), .inl (cI, 40, .inl e5)), ((gg 5), .inl (cC, 160, .inl e4))] H := hP
  have hD : va_D (zAM gg) [((gg 0), .inr (2, [.int x, .int (nI n0), .ref (gg 1), .int (nI n2), .int (nI n3), .int (nI rt), .ref (gg 2), .ref (gg 3), .ref (gg 4), .int (nI rd), .int (nI n4), .ref (gg 5)])), ((gg 1), .inl (cI, 4, .inl e0)), ((gg 2), .inl (cI, 40, .inl e2)), ((gg 3), .inl (cI, 120, .inl e3)), ((gg 4), .inl (cI, 40, .inl e5)), ((gg 5), .inl (cC, 160, .inl e4))] := hD
  refine lv_iconst (v := (nI 0)) hx hb d_MD_fails_5 (by decide) ?_
  exact W.iret (v := (nI 0)) hx hb hr (fun t ht _ => ⟨rfl, by rw [ht]; exact hP, hS.F ht⟩) hS.2.2 d_MD_fails_6

set_option maxHeartbeats 4000000 in
set_option maxRecDepth 100000 in
theorem c_MD_isKey (l : Launch) (D : va_G) (cI cC cJ : ClassId) (gg : Nat → Nat) (ft : Int32) (n0 n2 n3 rt rd n4 : Nat) (e0 e2 e3 e5 e4 : Nat → Int32) (hn0 : n0 ≤ 4) (hn2 : n2 ≤ 40) (hn3 : n3 ≤ 120) (hn4 : n4 ≤ 160) (i : Int32) : Met l y_MD_isKey (zw k_MD_isKey) ({ frames := 0, cells := 0, slots := 0, locals := 0 }) (zPc [.ref (gg 0), .int i] (fun H => va_P D zcl (zMd cI cC gg ft n0 n2 n3 rt rd n4 e0 e2 e3 e5 e4) H) D cI cC cJ) (QcRead (zs_has n0 i)) 0 0 (fun _ => False) := by
  refine zMet (by decide) (Nat.le_of_ble_eq_true rfl) ?_
  intro p e s m below meth c hx hb hr hg hown hlk hml hP hE ls hl
  have hl : lv_has ls 2 [(0, .ref (gg 0)), (1, .int i)] := hl
  have hS9 : CallFix p m c b_MD_isKey 2 s [.ref (gg 0), .int i].toArray zg "SealedFilesModel" := ⟨hx, hb, hml, hown, hg⟩
  have hP : va_P D zcl [((gg 0), .inr (2, [.int ft, .int (nI n0), .ref (gg 1), .int (nI n2), .int (nI n3), .int (nI rt), .ref (gg 2), .ref (gg 3), .ref (gg 4), .int (nI rd), .int (nI n4), .ref (gg 5)])), ((gg 1), .inl (cI, 4, .inl e0)), ((gg 2), .inl (cI, 40, .inl e2)), ((gg 3), .inl (cI, 120, .inl e3)), ((gg 4), .inl (cI, 40, .inl e5)), ((gg 5), .inl (cC, 160, .inl e4))] s.heap := hP
  refine lv_iload_n hx hb d_MD_isKey_0 rfl (lv_at hl 1 rfl) ?_
  refine lv_if_lt hx hb d_MD_isKey_1 (tgt := 16) (by decide) (fun h => ?_) (fun h => ?_)
  · refine lv_iconst (v := (nI 0)) hx hb d_MD_isKey_16 (by decide) ?_
    exact W.zret (v := (nI 0)) hx hb hr (rfl) (fun t ht _ => ⟨congrArg (fun z => Outcome.returned (some (Value.int z))) (by rw [zs_has, if_pos h]), ht⟩) t_nil d_MD_isKey_17
  · refine lv_iload_n hx hb d_MD_isKey_4 rfl (lv_at hl 1 rfl) ?_
    refine lv_aload_n hx hb d_MD_isKey_5 rfl (lv_at hl 0 rfl) ?_
    refine va_get (D := D) (ci := 2) (v := .int (nI n0)) (C := R_MD) (T := F_MD) (N := 12) hx hb hg i_MD hown hE.1 hP 0 rfl rfl 1 (by decide) (hg _ zw_489) (fun _ h9 => h9) rfl d_MD_isKey_6 ?_
    refine lv_icmp_ge hx hb d_MD_isKey_9 (tgt := 16) (by decide) (fun h2 => ?_) (fun h2 => ?_)
    · refine lv_iconst (v := (nI 0)) hx hb d_MD_isKey_16 (by decide) ?_
      exact W.zret (v := (nI 0)) hx hb hr (rfl) (fun t ht _ => ⟨congrArg (fun z => Outcome.returned (some (Value.int z))) (by rw [zs_has, if_neg h, if_pos h2]), ht⟩) t_nil d_MD_isKey_17
    · refine lv_iconst (v := (nI 1)) hx hb d_MD_isKey_12 (by decide) ?_
      refine lv_goto hx hb d_MD_isKey_13 (tgt := 17) (by decide) ?_
      exact W.zret (v := (nI 1)) hx hb hr (rfl) (fun t ht _ => ⟨congrArg (fun z => Outcome.returned (some (Value.int z))) (by rw [zs_has, if_neg h, if_neg h2]), ht⟩) t_nil d_MD_isKey_17

set_option maxHeartbeats 4000000 in
set_option maxRecDepth 100000 in
theorem c_MD_two (l : Launch) (D : va_G) (cI cC cJ : ClassId) (gg : Nat → Nat) (ft : Int32) (n0 n2 n3 rt rd n4 : Nat) (e0 e2 e3 e5 e4 : Nat → Int32) (hn0 : n0 ≤ 4) (hn2 : n2 ≤ 40) (hn3 : n3 ≤ 120) (hn4 : n4 ≤ 160) (B : Nat → Nat) (hB : zs_hold 256 e3 (n3, B)) (j : Nat) (hj : j + 1 < n3) : Met l y_MD_two (zw k_MD_two) ({ frames := 0, cells := 0, slots := 0, locals := 0 }) (zPc [.ref (gg 0), .int (nI j)] (fun H => va_P D zcl (zMd cI cC gg ft n0 n2 n3 rt rd n4 e0 e2 e3 e5 e4) H) D cI cC cJ) (QcRead (nI (zs_two B j))) 0 0 (fun _ => False) := by
  refine zMet (by decide) (Nat.le_of_ble_eq_true rfl) ?_
  intro p e s m below meth c hx hb hr hg hown hlk hml hP hE ls hl
  have hl : lv_has ls 2 [(0, .ref (gg 0)), (1, .int (nI j))] := hl
  have hS9 : CallFix p m c b_MD_two 2 s [.ref (gg 0), .int (nI j)].toArray zg "SealedFilesModel" := ⟨hx, hb, hml, hown, hg⟩
  have hP : va_P D zcl [((gg 0), .inr (2, [.int ft, .int (nI n0), .ref (gg 1), .int (nI n2), .int (nI n3), .int (nI rt), .ref (gg 2), .ref (gg 3), .ref (gg 4), .int (nI rd), .int (nI n4), .ref (gg 5)])), ((gg 1), .inl (cI, 4, .inl e0)), ((gg 2), .inl (cI, 40, .inl e2)), ((gg 3), .inl (cI, 120, .inl e3)), ((gg 4), .inl (cI, 40, .inl e5)), ((gg 5), .inl (cC, 160, .inl e4))] s.heap := hP
  refine lv_aload_n hx hb d_MD_two_0 rfl (lv_at hl 0 rfl) ?_
  refine va_get (D := D) (ci := 2) (v := .ref (gg 3)) (C := R_MD) (T := F_MD) (N := 12) hx hb hg i_MD hown hE.1 hP 0 rfl rfl 7 (by decide) (hg _ zw_495) (fun _ h9 => h9) rfl d_MD_two_1 ?_
  refine lv_iload_n hx hb d_MD_two_4 rfl (lv_at hl 1 rfl) ?_
  refine zald hx hb hE.1 hP 3 0 rfl rfl (by omega) (by decide) d_MD_two_5 ?_
  refine ztop (y := nI (B j)) ((hB j (show j < n3 by omega)).1) ?_
  refine lv_sipush (v := (nI 256)) hx hb d_MD_two_6 (by decide) ?_
  refine lv_imul hx hb d_MD_two_9 ?_
  refine lv_aload_n hx hb d_MD_two_10 rfl (lv_at hl 0 rfl) ?_
  refine va_get (D := D) (ci := 2) (v := .ref (gg 3)) (C := R_MD) (T := F_MD) (N := 12) hx hb hg i_MD hown hE.1 hP 0 rfl rfl 7 (by decide) (hg _ zw_495) (fun _ h9 => h9) rfl d_MD_two_11 ?_
  refine lv_iload_n hx hb d_MD_two_14 rfl (lv_at hl 1 rfl) ?_
  refine lv_iconst (v := (nI 1)) hx hb d_MD_two_15 (by decide) ?_
  refine lv_iadd hx hb d_MD_two_16 ?_
  refine ztop (y := nI (j + 1)) (nI_add _ _) ?_
  refine zald hx hb hE.1 hP 3 0 rfl rfl (by omega) (by decide) d_MD_two_17 ?_
  refine ztop (y := nI (B (j + 1))) ((hB (j + 1) (show j + 1 < n3 by omega)).1) ?_
  refine lv_iadd hx hb d_MD_two_18 ?_
  exact W.iret (v := (((nI (B j)) * (nI 256)) + (nI (B (j + 1))))) hx hb hr (fun t ht _ => ⟨congrArg (fun z => Outcome.returned (some (Value.int z))) (by rw [pk_mul, nI_add]; rfl), ht⟩) t_nil d_MD_two_19

set_option maxHeartbeats 4000000 in
set_option maxRecDepth 100000 in
theorem c_MD_sign (l : Launch) (D : va_G) (cI cC cJ : ClassId) (gg : Nat → Nat) (ft : Int32) (n0 n2 n3 rt rd n4 : Nat) (e0 e2 e3 e5 e4 : Nat → Int32) (hn0 : n0 ≤ 4) (hn2 : n2 ≤ 40) (hn3 : n3 ≤ 120) (hn4 : n4 ≤ 160) (B : Nat → Nat) (hB : zs_hold 256 e3 (n3, B)) (a b : Nat) (hab : a ≤ b) (hbn : b ≤ n3) (g : Int32) : Met l y_MD_sign (zw k_MD_sign) ({ frames := 0, cells := 0, slots := 0, locals := 0 }) (zPc [.ref (gg 0), .int (nI a), .int (nI b), .int g] (fun H => va_P D zcl (zMd cI cC gg ft n0 n2 n3 rt rd n4 e0 e2 e3 e5 e4) H) D cI cC cJ) (QcRead (nI (zs_sg B a b g))) 0 0 (fun _ => False) := by
  refine zMet (by decide) (Nat.le_of_ble_eq_true rfl) ?_
  intro p e s m below meth c hx hb hr hg hown hlk hml hP hE ls hl
  have hl : lv_has ls 9 [(0, .ref (gg 0)), (1, .int (nI a)), (2, .int (nI b)), (3, .int g)] := hl
  have hS9 : CallFix p m c b_MD_sign 9 s [.ref (gg 0), .int (nI a), .int (nI b), .int g].toArray zg "SealedFilesModel" := ⟨hx, hb, hml, hown, hg⟩
  have hP : va_P D zcl [((gg 0), .inr (2, [.int ft, .int (nI n0), .ref (gg 1), .int (nI n2), .int (nI n3), .int (nI rt), .ref (gg 2), .ref (gg 3), .ref (gg 4), .int (nI rd), .int (nI n4), .ref (gg 5)])), ((gg 1), .inl (cI, 4, .inl e0)), ((gg 2), .inl (cI, 40, .inl e2)), ((gg 3), .inl (cI, 120, .inl e3)), ((gg 4), .inl (cI, 40, .inl e5)), ((gg 5), .inl (cC, 160, .inl e4))] s.heap := hP
  refine lv_lconst (v := lN 1) hx hb d_MD_sign_0 (by decide) ?_
  refine lv_iload_n hx hb d_MD_sign_1 rfl (lv_at hl 3 rfl) ?_
  refine lv_bipush (v := (nI 8)) hx hb d_MD_sign_2 (by decide) ?_
  refine lv_iushr (v := zs_u g (nI 8)) hx hb d_MD_sign_4 rfl ?_
  refine lv_ldc (v := (nI 65520)) hx hb hown (hg _ zw_589) d_MD_sign_5 ?_
  refine lv_irem hx hb d_MD_sign_7 (by decide) ?_
  refine ztop (y := nI (zs_un g / 2 ^ 8 % 65520)) (zs_fac_r g) ?_
  refine lv_i2l hx hb d_MD_sign_8 rfl ?_
  refine ztopl (y := lN (zs_un g / 2 ^ 8 % 65520)) (nI_l (by omega)) ?_
  refine lv_ladd hx hb d_MD_sign_9 ?_
  refine ztopl (y := lN (zs_fac g)) (lN_add _ _) ?_
  refine lv_lstore hx hb d_MD_sign_10 hl (by decide) (lv' := [(4, .long (lN (zs_fac g))), (0, .ref (gg 0)), (1, .int (nI a)), (2, .int (nI b)), (3, .int g)]) rfl (fun ls hl => ?_)
  refine lv_lconst (v := lN 0) hx hb d_MD_sign_12 (by decide) ?_
  refine ztopl (y := lN (zs_sgt B (zs_fac g) a 0)) (rfl) ?_
  refine lv_lstore hx hb d_MD_sign_13 hl (by decide) (lv' := [(6, .long (lN (zs_sgt B (zs_fac g) a 0))), (4, .long (lN (zs_fac g))), (0, .ref (gg 0)), (1, .int (nI a)), (2, .int (nI b)), (3, .int g)]) rfl (fun ls hl => ?_)
  refine lv_iload_n hx hb d_MD_sign_15 rfl (lv_at hl 3 rfl) ?_
  refine lv_istore hx hb d_MD_sign_16 hl (by decide) (lv' := [(8, .int (nI a)), (6, .long (lN (zs_sgt B (zs_fac g) a 0))), (4, .long (lN (zs_fac g))), (0, .ref (gg 0)), (1, .int (nI a)), (2, .int (nI b)), (3, .int g)]) rfl (fun ls hl => ?_)
  have hl : lv_has ls 9 [(8, .int (nI a)), (6, .long (lN (zs_sgt B (zs_fac g) a 0))), (4, .long (lN (zs_fac g))), (0, .ref (gg 0)), (1, .int (nI a)), (2, .int (nI b)), (3, .int g)] := lv_sub hl [0, 1, 2, 3, 4, 5, 6] rfl
  have loop : ∀ (k : Nat) (i : Nat), i + k = b - a → ∀ ls : Array Slot, lv_has ls 9 [(8, .int (nI (a + i))), (6, .long (lN (zs_sgt B (zs_fac g) a i))), (4, .long (lN (zs_fac g))), (0, .ref (gg 0)), (1, .int (nI a)), (2, .int (nI b)), (3, .int g)] → W p l e ({ frames := 0, cells := 0, slots := 0, locals := 0 }) s m [.ref (gg 0), .int (nI a), .int (nI b), .int g].toArray below meth c s.heap [] 0 0 (MQ below (QcRead (nI (zs_sg B a b g))) [.ref (gg 0), .int (nI a), .int (nI b), .int g].toArray s 0 0 (fun _ => False)) (F0 m 18 ls []) := by
    intro k
    induction k with
    | zero =>
      intro i hi ls hl
      refine lv_iload hx hb d_MD_sign_18 (lv_at hl 0 rfl) ?_
      refine lv_iload_n hx hb d_MD_sign_20 rfl (lv_at hl 5 rfl) ?_
      refine lv_icmp_ge hx hb d_MD_sign_21 (tgt := 52) (by decide) (fun _ => ?_) (fun z9 => absurd (nI_le (by omega) (by omega)) z9)
      refine lv_lload hx hb d_MD_sign_52 (lv_at hl 1 rfl) ?_
      refine lv_iload_n hx hb d_MD_sign_54 rfl (lv_at hl 6 rfl) ?_
      refine lv_sipush (v := (nI 255)) hx hb d_MD_sign_55 (by decide) ?_
      refine lv_iand hx hb d_MD_sign_58 ?_
      refine ztop (y := nI (zs_un g % 2 ^ 8)) (zs_and g 8 (by decide)) ?_
      refine lv_i2l hx hb d_MD_sign_59 rfl ?_
      refine ztopl (y := lN (zs_un g % 2 ^ 8)) (nI_l (by omega)) ?_
      refine lv_ladd hx hb d_MD_sign_60 ?_
      refine lv_ldc2 (v := lN 65521) hx hb hown (hg _ zw_590) d_MD_sign_61 ?_
      refine lv_lrem hx hb d_MD_sign_64 (by decide) ?_
      refine ztopl (y := lN ((zs_sgt B (zs_fac g) a i + zs_un g % 2 ^ 8) % 65521)) (zs_sgt_fin B (zs_fac g) a i (by omega)) ?_
      refine lv_l2i hx hb d_MD_sign_65 rfl ?_
      refine ztop (y := nI ((zs_sgt B (zs_fac g) a i + zs_un g % 2 ^ 8) % 65521)) (lN_i _) ?_
      exact W.iret (v := (nI ((zs_sgt B (zs_fac g) a i + zs_un g % 2 ^ 8) % 65521))) hx hb hr (fun t ht _ => ⟨congrArg (fun z => Outcome.returned (some (Value.int z))) (by rw [zs_sg, show b - a = i by omega]), ht⟩) t_nil d_MD_sign_66
    | succ k ih =>
      intro i hi ls hl
      refine lv_iload hx hb d_MD_sign_18 (lv_at hl 0 rfl) ?_
      refine lv_iload_n hx hb d_MD_sign_20 rfl (lv_at hl 5 rfl) ?_
      refine lv_icmp_ge hx hb d_MD_sign_21 (tgt := 52) (by decide) (fun z9 => absurd z9 (nI_ge (show a + i < b by omega) (by omega))) (fun _ => ?_)
      refine lv_lload hx hb d_MD_sign_24 (lv_at hl 1 rfl) ?_
      refine lv_aload_n hx hb d_MD_sign_26 rfl (lv_at hl 3 rfl) ?_
      refine va_get (D := D) (ci := 2) (v := .ref (gg 3)) (C := R_MD) (T := F_MD) (N := 12) hx hb hg i_MD hown hE.1 hP 0 rfl rfl 7 (by decide) (hg _ zw_495) (fun _ h9 => h9) rfl d_MD_sign_27 ?_
      refine lv_iload hx hb d_MD_sign_30 (lv_at hl 0 rfl) ?_
      refine zald hx hb hE.1 hP 3 0 rfl rfl (by omega) (by decide) d_MD_sign_32 ?_
      refine ztop (y := nI (B (a + i))) ((hB (a + i) (show a + i < n3 by omega)).1) ?_
      refine lv_i2l hx hb d_MD_sign_33 rfl ?_
      refine ztopl (y := lN (B (a + i))) (nI_l (by have h8 : B (a + i) < 256 := (hB (a + i) (show a + i < n3 by omega)).2; omega)) ?_
      refine lv_ladd hx hb d_MD_sign_34 ?_
      refine lv_lconst (v := lN 1) hx hb d_MD_sign_35 (by decide) ?_
      refine lv_ladd hx hb d_MD_sign_36 ?_
      refine lv_lload hx hb d_MD_sign_37 (lv_at hl 2 rfl) ?_
      refine lv_lmul hx hb d_MD_sign_39 ?_
      refine lv_ldc2 (v := lN 65521) hx hb hown (hg _ zw_590) d_MD_sign_40 ?_
      refine lv_lrem hx hb d_MD_sign_43 (by decide) ?_
      refine ztopl (y := lN (zs_sgt B (zs_fac g) a (i + 1))) (zs_sgt_step (zs_fac_le g) ((hB (a + i) (show a + i < n3 by omega)).2) rfl) ?_
      refine lv_lstore hx hb d_MD_sign_44 hl (by decide) (lv' := [(6, .long (lN (zs_sgt B (zs_fac g) a (i + 1)))), (8, .int (nI (a + i))), (4, .long (lN (zs_fac g))), (0, .ref (gg 0)), (1, .int (nI a)), (2, .int (nI b)), (3, .int g)]) rfl (fun ls hl => ?_)
      refine lv_iinc (k := 1) (v := nI (a + (i + 1))) hx hb d_MD_sign_46 hl rfl (nI_1 (a + i)) (by decide) (lv' := [(8, .int (nI (a + (i + 1)))), (6, .long (lN (zs_sgt B (zs_fac g) a (i + 1)))), (4, .long (lN (zs_fac g))), (0, .ref (gg 0)), (1, .int (nI a)), (2, .int (nI b)), (3, .int g)]) rfl (fun ls hl => ?_)
      refine lv_goto hx hb d_MD_sign_49 (tgt := 18) (by decide) ?_
      have hl : lv_has ls 9 [(8, .int (nI (a + (i + 1)))), (6, .long (lN (zs_sgt B (zs_fac g) a (i + 1)))), (4, .long (lN (zs_fac g))), (0, .ref (gg 0)), (1, .int (nI a)), (2, .int (nI b)), (3, .int g)] := lv_sub hl [0, 1, 2, 3, 4, 5, 6] rfl
      exact ih (i + 1) (by omega) ls hl
  exact loop (b - a) 0 (by omega) ls hl

set_option maxHeartbeats 4000000 in
set_option maxRecDepth 100000 in
theorem c_MD_add (l : Launch) (D : va_G) (cI cC cJ : ClassId) (gg : Nat → Nat) (ft : Int32) (n0 n2 n3 rt rd n4 : Nat) (e0 e2 e3 e5 e4 : Nat → Int32) (hn0 : n0 ≤ 4) (hn2 : n2 ≤ 40) (hn3 : n3 ≤ 120) (hn4 : n4 ≤ 160) (hh : zm_inj gg) (x : Int32) (hr9 : n3 < 120) : Met l y_MD_add (zw k_MD_add) ({ frames := 0, cells := 0, slots := 0, locals := 0 }) (zPc [.ref (gg 0), .int x] (fun H => va_P D zcl (zMd cI cC gg ft n0 n2 n3 rt rd n4 e0 e2 e3 e5 e4) H) D cI cC cJ) (zQm none (fun H => va_P D zcl (zMd cI cC gg ft n0 n2 (n3 + 1) rt rd n4 e0 e2 (upd e3 n3 (x &&& nI 255)) e5 e4) H) (zAM gg)) 0 0 (zAM gg) := by
  refine zMet (by decide) (Nat.le_of_ble_eq_true rfl) ?_
  intro p e s m below meth c hx hb hr hg hown hlk hml hP hE ls hl
  have hl : lv_has ls 2 [(0, .ref (gg 0)), (1, .int x)] := hl
  have hS9 : CallFix p m c b_MD_add 2 s [.ref (gg 0), .int x].toArray zg "SealedFilesModel" := ⟨hx, hb, hml, hown, hg⟩
  have hP : va_P D zcl [((gg 0), .inr (2, [.int ft, .int (nI n0), .ref (gg 1), .int (nI n2), .int (nI n3), .int (nI rt), .ref (gg 2), .ref (gg 3), .ref (gg 4), .int (nI rd), .int (nI n4), .ref (gg 5)])), ((gg 1), .inl (cI, 4, .inl e0)), ((gg 2), .inl (cI, 40, .inl e2)), ((gg 3), .inl (cI, 120, .inl e3)), ((gg 4), .inl (cI, 40, .inl e5)), ((gg 5), .inl (cC, 160, .inl e4))] s.heap := hP
  have hD : va_D (zAM gg) [((gg 0), .inr (2, [.int ft, .int (nI n0), .ref (gg 1), .int (nI n2), .int (nI n3), .int (nI rt), .ref (gg 2), .ref (gg 3), .ref (gg 4), .int (nI rd), .int (nI n4), .ref (gg 5)])), ((gg 1), .inl (cI, 4, .inl e0)), ((gg 2), .inl (cI, 40, .inl e2)), ((gg 3), .inl (cI, 120, .inl e3)), ((gg 4), .inl (cI, 40, .inl e5)), ((gg 5), .inl (cC, 160, .inl e4))] := zMd_D hh
  have hS : va_S (zAM gg) s.heap s.heap [] := va_S.rf
  refine lv_aload_n hx hb d_MD_add_0 rfl (lv_at hl 0 rfl) ?_
  refine va_get (D := D) (ci := 2) (v := .ref (gg 3)) (C := R_MD) (T := F_MD) (N := 12) hx hb hg i_MD hown hE.1 hP 0 rfl rfl 7 (by decide) (hg _ zw_495) (fun _ h9 => h9) rfl d_MD_add_1 ?_
  refine lv_aload_n hx hb d_MD_add_4 rfl (lv_at hl 0 rfl) ?_
  refine va_get (D := D) (ci := 2) (v := .int (nI n3)) (C := R_MD) (T := F_MD) (N := 12) hx hb hg i_MD hown hE.1 hP 0 rfl rfl 4 (by decide) (hg _ zw_492) (fun _ h9 => h9) rfl d_MD_add_5 ?_
  refine lv_iload_n hx hb d_MD_add_8 rfl (lv_at hl 1 rfl) ?_
  refine lv_sipush (v := (nI 255)) hx hb d_MD_add_9 (by decide) ?_
  refine lv_iand hx hb d_MD_add_12 ?_
  refine zast hx hb hE.1 hP hD hS 3 0 rfl rfl (hr9) (by decide) d_MD_add_13 (fun H locs hP hD hS => ?_)
  have hP : va_P D zcl [((gg 0), .inr (2, [.int ft, .int (nI n0), .ref (gg 1), .int (nI n2), .int (nI n3), .int (nI rt), .ref (gg 2), .ref (gg 3), .ref (gg 4), .int (nI rd), .int (nI n4), .ref (gg 5)])), ((gg 1), .inl (cI, 4, .inl e0)), ((gg 2), .inl (cI, 40, .inl e2)), ((gg 3), .inl (cI, 120, .inl (upd e3 n3 (x &&& (nI 255))))), ((gg 4), .inl (cI, 40, .inl e5)), ((gg 5), .inl (cC, 160, .inl e4))] H := hP
  have hD : va_D (zAM gg) [((gg 0), .inr (2, [.int ft, .int (nI n0), .ref (gg 1), .int (nI n2), .int (nI n3), .int (nI rt), .ref (gg 2), .ref (gg 3), .ref (gg 4), .int (nI rd), .int (nI n4), .ref (gg 5)])), ((gg 1), .inl (cI, 4, .inl e0)), ((gg 2), .inl (cI, 40, .inl e2)), ((gg 3), .inl (cI, 120, .inl (upd e3 n3 (x &&& (nI 255))))), ((gg 4), .inl (cI, 40, .inl e5)), ((gg 5), .inl (cC, 160, .inl e4))] := hD
  refine lv_aload_n hx hb d_MD_add_14 rfl (lv_at hl 0 rfl) ?_
  refine lv_dup hx hb d_MD_add_15 rfl ?_
  refine va_get (D := D) (ci := 2) (v := .int (nI n3)) (C := R_MD) (T := F_MD) (N := 12) hx hb hg i_MD hown hE.1 hP 0 rfl rfl 4 (by decide) (hg _ zw_492) (fun _ h9 => h9) rfl d_MD_add_16 ?_
  refine lv_iconst (v := (nI 1)) hx hb d_MD_add_19 (by decide) ?_
  refine lv_iadd hx hb d_MD_add_20 ?_
  refine ztop (y := nI (n3 + 1)) (nI_1 _) ?_
  refine va_put (D := D) (ci := 2) (v := .int (nI (n3 + 1))) (ty := .int) (C := R_MD) (T := F_MD) (N := 12) hx hb hg i_MD t_MD t_MD_ok n_MD hown hE.1 hP hD hS 0 rfl rfl 4 (by decide) (hg _ zw_492) (fun _ h9 => h9) rfl (by decide +kernel) rfl rfl (Nat.le_of_ble_eq_true rfl) d_MD_add_21 (fun H locs hP hD hS => ?_)
  have hP : va_P D zcl [((gg 0), .inr (2, [.int ft, .int (nI n0), .ref (gg 1), .int (nI n2), .int (nI (n3 + 1)), .int (nI rt), .ref (gg 2), .ref (gg 3), .ref (gg 4), .int (nI rd), .int (nI n4), .ref (gg 5)])), ((gg 1), .inl (cI, 4, .inl e0)), ((gg 2), .inl (cI, 40, .inl e2)), ((gg 3), .inl (cI, 120, .inl (upd e3 n3 (x &&& (nI 255))))), ((gg 4), .inl (cI, 40, .inl e5)), ((gg 5), .inl (cC, 160, .inl e4))] H := hP
  have hD : va_D (zAM gg) [((gg 0), .inr (2, [.int ft, .int (nI n0), .ref (gg 1), .int (nI n2), .int (nI (n3 + 1)), .int (nI rt), .ref (gg 2), .ref (gg 3), .ref (gg 4), .int (nI rd), .int (nI n4), .ref (gg 5)])), ((gg 1), .inl (cI, 4, .inl e0)), ((gg 2), .inl (cI, 40, .inl e2)), ((gg 3), .inl (cI, 120, .inl (upd e3 n3 (x &&& (nI 255))))), ((gg 4), .inl (cI, 40, .inl e5)), ((gg 5), .inl (cC, 160, .inl e4))] := hD
  exact W.vret hx hb hr (fun t ht _ => ⟨rfl, by rw [ht]; exact hP, hS.F ht⟩) hS.2.2 d_MD_add_24

set_option maxHeartbeats 4000000 in
set_option maxRecDepth 100000 in
theorem c_MD_addTwo (l : Launch) (D : va_G) (cI cC cJ : ClassId) (gg : Nat → Nat) (ft : Int32) (n0 n2 n3 rt rd n4 : Nat) (e0 e2 e3 e5 e4 : Nat → Int32) (hn0 : n0 ≤ 4) (hn2 : n2 ≤ 40) (hn3 : n3 ≤ 120) (hn4 : n4 ≤ 160) (hh : zm_inj gg) (x : Int32) (hr9 : n3 + 2 ≤ 120) : Met l y_MD_addTwo (zw k_MD_addTwo) ({ frames := 1, cells := 0, slots := 0, locals := 21 }) (zPc [.ref (gg 0), .int x] (fun H => va_P D zcl (zMd cI cC gg ft n0 n2 n3 rt rd n4 e0 e2 e3 e5 e4) H) D cI cC cJ) (zQm none (fun H => va_P D zcl (zMd cI cC gg ft n0 n2 (n3 + 2) rt rd n4 e0 e2 (upd (upd e3 n3 (nI ((zs_un x % 65536) / 256))) (n3 + 1) (nI ((zs_un x % 65536) % 256))) e5 e4) H) (zAM gg)) 0 0 (zAM gg) := by
  refine zMet (by decide) (Nat.le_of_ble_eq_true rfl) ?_
  intro p e s m below meth c hx hb hr hg hown hlk hml hP hE ls hl
  have hl : lv_has ls 2 [(0, .ref (gg 0)), (1, .int x)] := hl
  have hS9 : CallFix p m c b_MD_addTwo 2 s [.ref (gg 0), .int x].toArray zg "SealedFilesModel" := ⟨hx, hb, hml, hown, hg⟩
  have hP : va_P D zcl [((gg 0), .inr (2, [.int ft, .int (nI n0), .ref (gg 1), .int (nI n2), .int (nI n3), .int (nI rt), .ref (gg 2), .ref (gg 3), .ref (gg 4), .int (nI rd), .int (nI n4), .ref (gg 5)])), ((gg 1), .inl (cI, 4, .inl e0)), ((gg 2), .inl (cI, 40, .inl e2)), ((gg 3), .inl (cI, 120, .inl e3)), ((gg 4), .inl (cI, 40, .inl e5)), ((gg 5), .inl (cC, 160, .inl e4))] s.heap := hP
  have hD : va_D (zAM gg) [((gg 0), .inr (2, [.int ft, .int (nI n0), .ref (gg 1), .int (nI n2), .int (nI n3), .int (nI rt), .ref (gg 2), .ref (gg 3), .ref (gg 4), .int (nI rd), .int (nI n4), .ref (gg 5)])), ((gg 1), .inl (cI, 4, .inl e0)), ((gg 2), .inl (cI, 40, .inl e2)), ((gg 3), .inl (cI, 120, .inl e3)), ((gg 4), .inl (cI, 40, .inl e5)), ((gg 5), .inl (cC, 160, .inl e4))] := zMd_D hh
  have hS : va_S (zAM gg) s.heap s.heap [] := va_S.rf
  refine lv_aload_n hx hb d_MD_addTwo_0 rfl (lv_at hl 0 rfl) ?_
  refine lv_iload_n hx hb d_MD_addTwo_1 rfl (lv_at hl 1 rfl) ?_
  refine lv_bipush (v := (nI 8)) hx hb d_MD_addTwo_2 (by decide) ?_
  refine lv_ishr hx hb d_MD_addTwo_4 ?_
  refine zWr (rest := []) (zrV hS9 (c_MD_add l D cI cC cJ gg ft n0 n2 n3 rt rd n4 e0 e2 e3 e5 e4 (by omega) (by omega) (by omega) (by omega) hh (x >>> (nI 8 &&& 31)) (by omega)) zc_MD_add zw_565 zw_567 zp_28 (by decide) (va_recv hE.1 hP (ci := 2) (q := (R_MD, F_MD, 12)) rfl (q0 := 0) rfl) (hP) hE rfl hl.1 rfl (Nat.le_of_ble_eq_true rfl) d_MD_addTwo_5) hS (fun _ _ h => h) (fun _ h => h) (fun H locs hP hz hk9 hS => ?_)
  have hP : va_P D zcl [((gg 0), .inr (2, [.int ft, .int (nI n0), .ref (gg 1), .int (nI n2), .int (nI (n3 + 1)), .int (nI rt), .ref (gg 2), .ref (gg 3), .ref (gg 4), .int (nI rd), .int (nI n4), .ref (gg 5)])), ((gg 1), .inl (cI, 4, .inl e0)), ((gg 2), .inl (cI, 40, .inl e2)), ((gg 3), .inl (cI, 120, .inl (upd e3 n3 ((x >>> (nI 8 &&& 31)) &&& nI 255)))), ((gg 4), .inl (cI, 40, .inl e5)), ((gg 5), .inl (cC, 160, .inl e4))] H := hP
  have hD : va_D (zAM gg) [((gg 0), .inr (2, [.int ft, .int (nI n0), .ref (gg 1), .int (nI n2), .int (nI (n3 + 1)), .int (nI rt), .ref (gg 2), .ref (gg 3), .ref (gg 4), .int (nI rd), .int (nI n4), .ref (gg 5)])), ((gg 1), .inl (cI, 4, .inl e0)), ((gg 2), .inl (cI, 40, .inl e2)), ((gg 3), .inl (cI, 120, .inl (upd e3 n3 ((x >>> (nI 8 &&& 31)) &&& nI 255)))), ((gg 4), .inl (cI, 40, .inl e5)), ((gg 5), .inl (cC, 160, .inl e4))] := zMd_D hh
  refine lv_aload_n hx hb d_MD_addTwo_8 rfl (lv_at hl 0 rfl) ?_
  refine lv_iload_n hx hb d_MD_addTwo_9 rfl (lv_at hl 1 rfl) ?_
  refine zWr (rest := []) (zrV hS9 (c_MD_add l D cI cC cJ gg ft n0 n2 (n3 + 1) rt rd n4 e0 e2 (upd e3 n3 ((x >>> (nI 8 &&& 31)) &&& nI 255)) e5 e4 (by omega) (by omega) (by omega) (by omega) hh x (by omega)) zc_MD_add zw_565 zw_567 zp_28 (by decide) (va_recv hE.1 hP (ci := 2) (q := (R_MD, F_MD, 12)) rfl (q0 := 0) rfl) (hP) hE rfl hl.1 rfl (Nat.le_of_ble_eq_true rfl) d_MD_addTwo_10) hS (fun _ _ h => h) (fun _ h => h) (fun H locs hP hz hk9 hS => ?_)
  have hP : va_P D zcl [((gg 0), .inr (2, [.int ft, .int (nI n0), .ref (gg 1), .int (nI n2), .int (nI (n3 + 2)), .int (nI rt), .ref (gg 2), .ref (gg 3), .ref (gg 4), .int (nI rd), .int (nI n4), .ref (gg 5)])), ((gg 1), .inl (cI, 4, .inl e0)), ((gg 2), .inl (cI, 40, .inl e2)), ((gg 3), .inl (cI, 120, .inl (upd (upd e3 n3 ((x >>> (nI 8 &&& 31)) &&& nI 255)) (n3 + 1) (x &&& nI 255)))), ((gg 4), .inl (cI, 40, .inl e5)), ((gg 5), .inl (cC, 160, .inl e4))] H := hP
  have hD : va_D (zAM gg) [((gg 0), .inr (2, [.int ft, .int (nI n0), .ref (gg 1), .int (nI n2), .int (nI (n3 + 2)), .int (nI rt), .ref (gg 2), .ref (gg 3), .ref (gg 4), .int (nI rd), .int (nI n4), .ref (gg 5)])), ((gg 1), .inl (cI, 4, .inl e0)), ((gg 2), .inl (cI, 40, .inl e2)), ((gg 3), .inl (cI, 120, .inl (upd (upd e3 n3 ((x >>> (nI 8 &&& 31)) &&& nI 255)) (n3 + 1) (x &&& nI 255)))), ((gg 4), .inl (cI, 40, .inl e5)), ((gg 5), .inl (cC, 160, .inl e4))] := zMd_D hh
  rw [zs_shr8, show x &&& nI 255 = nI (zs_un x % 256) from zs_and x 8 (by decide), show zs_un x / 256 % 256 = (zs_un x % 65536) / 256 by omega, show zs_un x % 256 = (zs_un x % 65536) % 256 by omega] at hP
  exact W.vret hx hb hr (fun t ht _ => ⟨rfl, by rw [ht]; exact hP, hS.F ht⟩) hS.2.2 d_MD_addTwo_13

set_option maxHeartbeats 4000000 in
set_option maxRecDepth 100000 in
theorem c_MD_bit (l : Launch) (D : va_G) (cI cC cJ : ClassId) (gg : Nat → Nat) (ft : Int32) (n0 n2 n3 rt rd n4 : Nat) (e0 e2 e3 e5 e4 : Nat → Int32) (hn0 : n0 ≤ 4) (hn2 : n2 ≤ 40) (hn3 : n3 ≤ 120) (hn4 : n4 ≤ 160) (B : Nat → Nat) (hB : zs_hold 256 e3 (n3, B)) (i : Nat) (hi : i < 2 ^ 20) : Met l y_MD_bit (zw k_MD_bit) ({ frames := 0, cells := 0, slots := 0, locals := 0 }) (zPc [.ref (gg 0), .int (nI i)] (fun H => va_P D zcl (zMd cI cC gg ft n0 n2 n3 rt rd n4 e0 e2 e3 e5 e4) H) D cI cC cJ) (QcRead (nI (zs_bitv n3 B i))) 0 0 (fun _ => False) := by
  refine zMet (by decide) (Nat.le_of_ble_eq_true rfl) ?_
  intro p e s m below meth c hx hb hr hg hown hlk hml hP hE ls hl
  have hl : lv_has ls 2 [(0, .ref (gg 0)), (1, .int (nI i))] := hl
  have hS9 : CallFix p m c b_MD_bit 2 s [.ref (gg 0), .int (nI i)].toArray zg "SealedFilesModel" := ⟨hx, hb, hml, hown, hg⟩
  have hP : va_P D zcl [((gg 0), .inr (2, [.int ft, .int (nI n0), .ref (gg 1), .int (nI n2), .int (nI n3), .int (nI rt), .ref (gg 2), .ref (gg 3), .ref (gg 4), .int (nI rd), .int (nI n4), .ref (gg 5)])), ((gg 1), .inl (cI, 4, .inl e0)), ((gg 2), .inl (cI, 40, .inl e2)), ((gg 3), .inl (cI, 120, .inl e3)), ((gg 4), .inl (cI, 40, .inl e5)), ((gg 5), .inl (cC, 160, .inl e4))] s.heap := hP
  refine lv_iload_n hx hb d_MD_bit_0 rfl (lv_at hl 1 rfl) ?_
  refine lv_bipush (v := (nI 8)) hx hb d_MD_bit_1 (by decide) ?_
  refine lv_aload_n hx hb d_MD_bit_3 rfl (lv_at hl 0 rfl) ?_
  refine va_get (D := D) (ci := 2) (v := .int (nI n3)) (C := R_MD) (T := F_MD) (N := 12) hx hb hg i_MD hown hE.1 hP 0 rfl rfl 4 (by decide) (hg _ zw_492) (fun _ h9 => h9) rfl d_MD_bit_4 ?_
  refine lv_imul hx hb d_MD_bit_7 ?_
  refine ztop (y := nI (8 * n3)) (pk_mul _ _) ?_
  by_cases g : i < 8 * n3
  · refine lv_icmp_ge hx hb d_MD_bit_8 (tgt := 33) (by decide) (fun z9 => absurd z9 (nI_ge (by omega) (by omega))) (fun _ => ?_)
    refine lv_aload_n hx hb d_MD_bit_11 rfl (lv_at hl 0 rfl) ?_
    refine va_get (D := D) (ci := 2) (v := .ref (gg 3)) (C := R_MD) (T := F_MD) (N := 12) hx hb hg i_MD hown hE.1 hP 0 rfl rfl 7 (by decide) (hg _ zw_495) (fun _ h9 => h9) rfl d_MD_bit_12 ?_
    refine lv_iload_n hx hb d_MD_bit_15 rfl (lv_at hl 1 rfl) ?_
    refine lv_bipush (v := (nI 8)) hx hb d_MD_bit_16 (by decide) ?_
    refine lv_idiv hx hb d_MD_bit_18 (by decide) ?_
    refine ztop (y := nI (i / 8)) (pk_div (by omega) (by decide) (by decide)) ?_
    refine zald hx hb hE.1 hP 3 0 rfl rfl (by omega) (by decide) d_MD_bit_19 ?_
    refine ztop (y := nI (B (i / 8))) ((hB (i / 8) (show i / 8 < n3 by omega)).1) ?_
    refine lv_bipush (v := (nI 7)) hx hb d_MD_bit_20 (by decide) ?_
    refine lv_iload_n hx hb d_MD_bit_22 rfl (lv_at hl 1 rfl) ?_
    refine lv_bipush (v := (nI 8)) hx hb d_MD_bit_23 (by decide) ?_
    refine lv_irem hx hb d_MD_bit_25 (by decide) ?_
    refine ztop (y := nI (i % 8)) (pk_rem (by omega) (by decide) (by decide)) ?_
    refine lv_isub hx hb d_MD_bit_26 ?_
    refine ztop (y := nI (7 - i % 8)) (pk_sub (by omega)) ?_
    refine lv_ishr hx hb d_MD_bit_27 ?_
    refine lv_iconst (v := (nI 1)) hx hb d_MD_bit_28 (by decide) ?_
    refine lv_iand hx hb d_MD_bit_29 ?_
    refine lv_goto hx hb d_MD_bit_30 (tgt := 34) (by decide) ?_
    have h8 : B (i / 8) < 256 := (hB (i / 8) (show i / 8 < n3 by omega)).2
    exact W.iret (v := (((nI (B (i / 8))) >>> ((nI (7 - i % 8)) &&& 31)) &&& (nI 1))) hx hb hr (fun t ht _ => ⟨congrArg (fun z => Outcome.returned (some (Value.int z))) ((zs_sbit (by omega) (by omega)).trans (by rw [zs_bitv, if_pos g])), ht⟩) t_nil d_MD_bit_34
  · refine lv_icmp_ge hx hb d_MD_bit_8 (tgt := 33) (by decide) (fun _ => ?_) (fun z9 => absurd (nI_le (by omega) (by omega)) z9)
    refine lv_iconst (v := (nI 0)) hx hb d_MD_bit_33 (by decide) ?_
    exact W.iret (v := (nI 0)) hx hb hr (fun t ht _ => ⟨congrArg (fun z => Outcome.returned (some (Value.int z))) (by rw [zs_bitv, if_neg g]), ht⟩) t_nil d_MD_bit_34

set_option maxHeartbeats 4000000 in
set_option maxRecDepth 100000 in
theorem c_MD_sixOf (l : Launch) (D : va_G) (cI cC cJ : ClassId) (c9 : Nat) (hc9 : c9 < 65536) : Met l y_MD_sixOf (zw k_MD_sixOf) ({ frames := 0, cells := 0, slots := 0, locals := 0 }) (zPc [.int (nI c9)] (fun _ => True) D cI cC cJ) (QcRead (zs_six c9)) 0 0 (fun _ => False) := by
  refine zMet (by decide) (Nat.le_of_ble_eq_true rfl) ?_
  intro p e s m below meth c hx hb hr hg hown hlk hml hB hE ls hl
  have hl : lv_has ls 1 [(0, .int (nI c9))] := hl
  have hS9 : CallFix p m c b_MD_sixOf 1 s [.int (nI c9)].toArray zg "SealedFilesModel" := ⟨hx, hb, hml, hown, hg⟩
  by_cases g1 : 65 ≤ c9 ∧ c9 ≤ 90
  · refine lv_iload_n hx hb d_MD_sixOf_0 rfl (lv_at hl 0 rfl) ?_
    refine lv_bipush (v := (nI 65)) hx hb d_MD_sixOf_1 (by decide) ?_
    refine lv_icmp_lt hx hb d_MD_sixOf_3 (tgt := 17) (by decide) (fun z9 => absurd z9 (nI_nlt (by omega) (by omega))) (fun _ => ?_)
    refine lv_iload_n hx hb d_MD_sixOf_6 rfl (lv_at hl 0 rfl) ?_
    refine lv_bipush (v := (nI 90)) hx hb d_MD_sixOf_7 (by decide) ?_
    refine lv_icmp_gt hx hb d_MD_sixOf_9 (tgt := 17) (by decide) (fun z9 => absurd z9 (nI_nlt (by omega) (by omega))) (fun _ => ?_)
    refine lv_iload_n hx hb d_MD_sixOf_12 rfl (lv_at hl 0 rfl) ?_
    refine lv_bipush (v := (nI 65)) hx hb d_MD_sixOf_13 (by decide) ?_
    refine lv_isub hx hb d_MD_sixOf_15 ?_
    exact W.iret (v := ((nI c9) - (nI 65))) hx hb hr (fun t ht _ => ⟨congrArg (fun z => Outcome.returned (some (Value.int z))) ((pk_sub (by omega)).trans (by rw [zs_six, if_pos g1])), ht⟩) t_nil d_MD_sixOf_16
  · have restg1 : ∀ ls : Array Slot, lv_has ls 1 [(0, .int (nI c9))] → W p l e ({ frames := 0, cells := 0, slots := 0, locals := 0 }) s m [.int (nI c9)].toArray below meth c s.heap [] 0 0 (MQ below (QcRead (zs_six c9)) [.int (nI c9)].toArray s 0 0 (fun _ => False)) (F0 m 17 ls []) := by
      intro ls hl
      by_cases g2 : 97 ≤ c9 ∧ c9 ≤ 122
      · refine lv_iload_n hx hb d_MD_sixOf_17 rfl (lv_at hl 0 rfl) ?_
        refine lv_bipush (v := (nI 97)) hx hb d_MD_sixOf_18 (by decide) ?_
        refine lv_icmp_lt hx hb d_MD_sixOf_20 (tgt := 37) (by decide) (fun z9 => absurd z9 (nI_nlt (by omega) (by omega))) (fun _ => ?_)
        refine lv_iload_n hx hb d_MD_sixOf_23 rfl (lv_at hl 0 rfl) ?_
        refine lv_bipush (v := (nI 122)) hx hb d_MD_sixOf_24 (by decide) ?_
        refine lv_icmp_gt hx hb d_MD_sixOf_26 (tgt := 37) (by decide) (fun z9 => absurd z9 (nI_nlt (by omega) (by omega))) (fun _ => ?_)
        refine lv_bipush (v := (nI 26)) hx hb d_MD_sixOf_29 (by decide) ?_
        refine lv_iload_n hx hb d_MD_sixOf_31 rfl (lv_at hl 0 rfl) ?_
        refine lv_iadd hx hb d_MD_sixOf_32 ?_
        refine lv_bipush (v := (nI 97)) hx hb d_MD_sixOf_33 (by decide) ?_
        refine lv_isub hx hb d_MD_sixOf_35 ?_
        exact W.iret (v := (((nI 26) + (nI c9)) - (nI 97))) hx hb hr (fun t ht _ => ⟨congrArg (fun z => Outcome.returned (some (Value.int z))) (by rw [nI_add, pk_sub (by omega), zs_six, if_neg g1, if_pos g2]), ht⟩) t_nil d_MD_sixOf_36
      · have restg2 : ∀ ls : Array Slot, lv_has ls 1 [(0, .int (nI c9))] → W p l e ({ frames := 0, cells := 0, slots := 0, locals := 0 }) s m [.int (nI c9)].toArray below meth c s.heap [] 0 0 (MQ below (QcRead (zs_six c9)) [.int (nI c9)].toArray s 0 0 (fun _ => False)) (F0 m 37 ls []) := by
          intro ls hl
          by_cases g3 : 48 ≤ c9 ∧ c9 ≤ 57
          · refine lv_iload_n hx hb d_MD_sixOf_37 rfl (lv_at hl 0 rfl) ?_
            refine lv_bipush (v := (nI 48)) hx hb d_MD_sixOf_38 (by decide) ?_
            refine lv_icmp_lt hx hb d_MD_sixOf_40 (tgt := 57) (by decide) (fun z9 => absurd z9 (nI_nlt (by omega) (by omega))) (fun _ => ?_)
            refine lv_iload_n hx hb d_MD_sixOf_43 rfl (lv_at hl 0 rfl) ?_
            refine lv_bipush (v := (nI 57)) hx hb d_MD_sixOf_44 (by decide) ?_
            refine lv_icmp_gt hx hb d_MD_sixOf_46 (tgt := 57) (by decide) (fun z9 => absurd z9 (nI_nlt (by omega) (by omega))) (fun _ => ?_)
            refine lv_bipush (v := (nI 52)) hx hb d_MD_sixOf_49 (by decide) ?_
            refine lv_iload_n hx hb d_MD_sixOf_51 rfl (lv_at hl 0 rfl) ?_
            refine lv_iadd hx hb d_MD_sixOf_52 ?_
            refine lv_bipush (v := (nI 48)) hx hb d_MD_sixOf_53 (by decide) ?_
            refine lv_isub hx hb d_MD_sixOf_55 ?_
            exact W.iret (v := (((nI 52) + (nI c9)) - (nI 48))) hx hb hr (fun t ht _ => ⟨congrArg (fun z => Outcome.returned (some (Value.int z))) (by rw [nI_add, pk_sub (by omega), zs_six, if_neg g1, if_neg g2, if_pos g3]), ht⟩) t_nil d_MD_sixOf_56
          · have restg3 : ∀ ls : Array Slot, lv_has ls 1 [(0, .int (nI c9))] → W p l e ({ frames := 0, cells := 0, slots := 0, locals := 0 }) s m [.int (nI c9)].toArray below meth c s.heap [] 0 0 (MQ below (QcRead (zs_six c9)) [.int (nI c9)].toArray s 0 0 (fun _ => False)) (F0 m 57 ls []) := by
              intro ls hl
              refine lv_iload_n hx hb d_MD_sixOf_57 rfl (lv_at hl 0 rfl) ?_
              refine lv_bipush (v := (nI 43)) hx hb d_MD_sixOf_58 (by decide) ?_
              by_cases g4 : c9 = 43
              · refine lv_icmp_ne hx hb d_MD_sixOf_60 (tgt := 68) (by decide) (fun z9 => absurd (by rw [g4]) z9) (fun _ => ?_)
                refine lv_bipush (v := (nI 62)) hx hb d_MD_sixOf_63 (by decide) ?_
                refine lv_goto hx hb d_MD_sixOf_65 (tgt := 80) (by decide) ?_
                exact W.iret (v := (nI 62)) hx hb hr (fun t ht _ => ⟨congrArg (fun z => Outcome.returned (some (Value.int z))) (by rw [zs_six, if_neg g1, if_neg g2, if_neg g3, if_pos g4]), ht⟩) t_nil d_MD_sixOf_80
              · refine lv_icmp_ne hx hb d_MD_sixOf_60 (tgt := 68) (by decide) (fun _ => ?_) (fun z9 => absurd z9 (fun z => g4 ((nI_eq (by omega) (by omega)).mp z)))
                refine lv_iload_n hx hb d_MD_sixOf_68 rfl (lv_at hl 0 rfl) ?_
                refine lv_bipush (v := (nI 45)) hx hb d_MD_sixOf_69 (by decide) ?_
                by_cases g5 : c9 = 45
                · refine lv_icmp_ne hx hb d_MD_sixOf_71 (tgt := 79) (by decide) (fun z9 => absurd (by rw [g5]) z9) (fun _ => ?_)
                  refine lv_bipush (v := (nI 63)) hx hb d_MD_sixOf_74 (by decide) ?_
                  refine lv_goto hx hb d_MD_sixOf_76 (tgt := 80) (by decide) ?_
                  exact W.iret (v := (nI 63)) hx hb hr (fun t ht _ => ⟨congrArg (fun z => Outcome.returned (some (Value.int z))) (by rw [zs_six, if_neg g1, if_neg g2, if_neg g3, if_neg g4, if_pos g5]), ht⟩) t_nil d_MD_sixOf_80
                · refine lv_icmp_ne hx hb d_MD_sixOf_71 (tgt := 79) (by decide) (fun _ => ?_) (fun z9 => absurd z9 (fun z => g5 ((nI_eq (by omega) (by omega)).mp z)))
                  refine lv_iconst (v := (-1)) hx hb d_MD_sixOf_79 (by decide) ?_
                  exact W.iret (v := (-1)) hx hb hr (fun t ht _ => ⟨congrArg (fun z => Outcome.returned (some (Value.int z))) (by rw [zs_six, if_neg g1, if_neg g2, if_neg g3, if_neg g4, if_neg g5]), ht⟩) t_nil d_MD_sixOf_80
            refine lv_iload_n hx hb d_MD_sixOf_37 rfl (lv_at hl 0 rfl) ?_
            refine lv_bipush (v := (nI 48)) hx hb d_MD_sixOf_38 (by decide) ?_
            by_cases qg3 : c9 < 48
            · refine lv_icmp_lt hx hb d_MD_sixOf_40 (tgt := 57) (by decide) (fun _ => ?_) (fun z9 => absurd (nI_lt (by omega) (by omega)) z9)
              exact restg3 ls hl
            · refine lv_icmp_lt hx hb d_MD_sixOf_40 (tgt := 57) (by decide) (fun z9 => absurd z9 (nI_nlt (by omega) (by omega))) (fun _ => ?_)
              refine lv_iload_n hx hb d_MD_sixOf_43 rfl (lv_at hl 0 rfl) ?_
              refine lv_bipush (v := (nI 57)) hx hb d_MD_sixOf_44 (by decide) ?_
              refine lv_icmp_gt hx hb d_MD_sixOf_46 (tgt := 57) (by decide) (fun _ => ?_) (fun z9 => absurd (nI_lt (by omega) (by omega)) z9)
              exact restg3 ls hl
        refine lv_iload_n hx hb d_MD_sixOf_17 rfl (lv_at hl 0 rfl) ?_
        refine lv_bipush (v := (nI 97)) hx hb d_MD_sixOf_18 (by decide) ?_
        by_cases qg2 : c9 < 97
        · refine lv_icmp_lt hx hb d_MD_sixOf_20 (tgt := 37) (by decide) (fun _ => ?_) (fun z9 => absurd (nI_lt (by omega) (by omega)) z9)
          exact restg2 ls hl
        · refine lv_icmp_lt hx hb d_MD_sixOf_20 (tgt := 37) (by decide) (fun z9 => absurd z9 (nI_nlt (by omega) (by omega))) (fun _ => ?_)
          refine lv_iload_n hx hb d_MD_sixOf_23 rfl (lv_at hl 0 rfl) ?_
          refine lv_bipush (v := (nI 122)) hx hb d_MD_sixOf_24 (by decide) ?_
          refine lv_icmp_gt hx hb d_MD_sixOf_26 (tgt := 37) (by decide) (fun _ => ?_) (fun z9 => absurd (nI_lt (by omega) (by omega)) z9)
          exact restg2 ls hl
    refine lv_iload_n hx hb d_MD_sixOf_0 rfl (lv_at hl 0 rfl) ?_
    refine lv_bipush (v := (nI 65)) hx hb d_MD_sixOf_1 (by decide) ?_
    by_cases qg1 : c9 < 65
    · refine lv_icmp_lt hx hb d_MD_sixOf_3 (tgt := 17) (by decide) (fun _ => ?_) (fun z9 => absurd (nI_lt (by omega) (by omega)) z9)
      exact restg1 ls hl
    · refine lv_icmp_lt hx hb d_MD_sixOf_3 (tgt := 17) (by decide) (fun z9 => absurd z9 (nI_nlt (by omega) (by omega))) (fun _ => ?_)
      refine lv_iload_n hx hb d_MD_sixOf_6 rfl (lv_at hl 0 rfl) ?_
      refine lv_bipush (v := (nI 90)) hx hb d_MD_sixOf_7 (by decide) ?_
      refine lv_icmp_gt hx hb d_MD_sixOf_9 (tgt := 17) (by decide) (fun _ => ?_) (fun z9 => absurd (nI_lt (by omega) (by omega)) z9)
      exact restg1 ls hl

