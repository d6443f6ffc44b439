set_option maxHeartbeats 4000000 in
set_option maxRecDepth 100000 in
theorem c_SF_entryFor (l : Launch) (D : va_G) (cI cC cJ : ClassId) (h : Nat → Nat) (n0 n1 n2 n3 n4 : Nat) (f0 f1 f2 f3 f4 : Nat → Int32) (rp : Int32) (hn0 : n0 ≤ 4) (hn1 : n1 ≤ 4) (hn2 : n2 ≤ 40) (hn3 : n3 ≤ 120) (hn4 : n4 ≤ 160) (B : Nat → Nat) (hB : zs_hold 256 f3 (n3, B)) (S : Nat → Nat) (hS0 : zs_hold 32748 f0 (n0, S)) (hA0 : ∀ j, j < n1 → f1 j = nI (zs_pw 2 (S j))) (hn01 : n1 = n0) (k : Nat) (hk : k < n0) (h3 : B 1 ≤ 3) (h6 : 6 + B 1 * 8 ≤ n3) : Met l y_SF_entryFor (zw k_SF_entryFor) ({ frames := 4, cells := 0, slots := 0, locals := 93 }) (zPc [.ref (h 0), .int (nI k)] (fun H => va_P D zcl (zSf cI h n0 n1 n2 n3 n4 f0 f1 f2 f3 f4 rp) H) D cI cC cJ) (QcRead (zs_ent B (S k) (zs_pw 2 (S k)) 0 (B 1))) 0 0 (fun _ => False) := by
  refine zMet (by decide) (Nat.le_of_ble_eq_true rfl) ?_
  intro p e s m below meth c hx hb hr hg hown hlk hml hP hE ls hl
  have hl : lv_has ls 6 [(0, .ref (h 0)), (1, .int (nI k))] := hl
  have hS9 : CallFix p m c b_SF_entryFor 6 s [.ref (h 0), .int (nI k)].toArray zg "SealedFiles" := ⟨hx, hb, hml, hown, hg⟩
  have hP : va_P D zcl [((h 0), .inr (1, [.ref (h 1), .ref (h 3), .ref (h 5), .ref (h 7), .ref (h 9), .int rp])), ((h 1), .inr (0, [.ref (h 2), .int (nI n0)])), ((h 2), .inl (cI, 4, .inl f0)), ((h 3), .inr (0, [.ref (h 4), .int (nI n1)])), ((h 4), .inl (cI, 4, .inl f1)), ((h 5), .inr (0, [.ref (h 6), .int (nI n2)])), ((h 6), .inl (cI, 40, .inl f2)), ((h 7), .inr (0, [.ref (h 8), .int (nI n3)])), ((h 8), .inl (cI, 120, .inl f3)), ((h 9), .inr (0, [.ref (h 10), .int (nI n4)])), ((h 10), .inl (cI, 160, .inl f4))] s.heap := hP
  refine lv_aload_n hx hb d_SF_entryFor_0 rfl (lv_at hl 0 rfl) ?_
  refine va_get (D := D) (ci := 1) (v := .ref (h 7)) (C := R_SF) (T := F_SF) (N := 6) hx hb hg i_SF hown hE.1 hP 0 rfl rfl 3 (by decide) (hg _ zw_43) (fun _ h9 => h9) rfl d_SF_entryFor_1 ?_
  refine lv_iconst (v := (nI 1)) hx hb d_SF_entryFor_4 (by decide) ?_
  refine zRd (rest := []) (zrVN hS9 (c_RW_item l D cI cC cJ (h 7) (h 8) 120 n3 f3 (by omega) (by decide) (nI 1)) zc_RW_item (by decide) zw_65 zp_0 (by decide) (va_recv hE.1 hP (ci := 0) (q := (R_RW, F_RW, 2)) rfl (q0 := 7) rfl) (hP.sub [7, 8] rfl) hE rfl hl.1 rfl (Nat.le_of_ble_eq_true rfl) d_SF_entryFor_5) ?_
  refine ztop (y := nI (B 1)) ((zs_item_in (by omega) (by omega)).trans (hB 1 (show 1 < n3 by omega)).1) ?_
  refine lv_istore_n hx hb d_SF_entryFor_8 rfl hl (by decide) (lv' := [(2, .int (nI (B 1))), (0, .ref (h 0)), (1, .int (nI k))]) rfl (fun ls hl => ?_)
  refine lv_iconst (v := (nI 0)) hx hb d_SF_entryFor_9 (by decide) ?_
  refine lv_istore_n hx hb d_SF_entryFor_10 rfl hl (by decide) (lv' := [(3, .int (nI 0)), (2, .int (nI (B 1))), (0, .ref (h 0)), (1, .int (nI k))]) rfl (fun ls hl => ?_)
  have hl : lv_has ls 6 [(3, .int (nI 0)), (2, .int (nI (B 1))), (0, .ref (h 0)), (1, .int (nI k))] := lv_sub hl [0, 1, 2, 3] rfl
  have loop : ∀ (k_ : Nat) (i : Nat), i + k_ = B 1 → zs_ent B (S k) (zs_pw 2 (S k)) i k_ = zs_ent B (S k) (zs_pw 2 (S k)) 0 (B 1) → ∀ ls : Array Slot, lv_has ls 6 [(3, .int (nI i)), (2, .int (nI (B 1))), (0, .ref (h 0)), (1, .int (nI k))] → W p l e ({ frames := 4, cells := 0, slots := 0, locals := 93 }) s m [.ref (h 0), .int (nI k)].toArray below meth c s.heap [] 0 0 (MQ below (QcRead (zs_ent B (S k) (zs_pw 2 (S k)) 0 (B 1))) [.ref (h 0), .int (nI k)].toArray s 0 0 (fun _ => False)) (F0 m 11 ls []) := by
    intro k_
    induction k_ with
    | zero =>
      intro i hi he ls hl
      refine lv_iload_n hx hb d_SF_entryFor_11 rfl (lv_at hl 0 rfl) ?_
      refine lv_iload_n hx hb d_SF_entryFor_12 rfl (lv_at hl 1 rfl) ?_
      refine lv_icmp_ge hx hb d_SF_entryFor_13 (tgt := 73) (by decide) (fun _ => ?_) (fun z9 => absurd (nI_le (by omega) (by omega)) z9)
      refine lv_iconst (v := (-1)) hx hb d_SF_entryFor_73 (by decide) ?_
      exact W.iret (v := (-1)) hx hb hr (fun t ht _ => ⟨congrArg (fun z => Outcome.returned (some (Value.int z))) (show (-1 : Int32) = _ from he), ht⟩) t_nil d_SF_entryFor_74
    | succ k_ ih =>
      intro i hi he ls hl
      refine lv_iload_n hx hb d_SF_entryFor_11 rfl (lv_at hl 0 rfl) ?_
      refine lv_iload_n hx hb d_SF_entryFor_12 rfl (lv_at hl 1 rfl) ?_
      refine lv_icmp_ge hx hb d_SF_entryFor_13 (tgt := 73) (by decide) (fun z9 => absurd z9 (nI_ge (by omega) (by omega))) (fun _ => ?_)
      refine lv_iconst (v := (nI 2)) hx hb d_SF_entryFor_16 (by decide) ?_
      refine lv_iload_n hx hb d_SF_entryFor_17 rfl (lv_at hl 0 rfl) ?_
      refine lv_bipush (v := (nI 8)) hx hb d_SF_entryFor_18 (by decide) ?_
      refine lv_imul hx hb d_SF_entryFor_20 ?_
      refine lv_iadd hx hb d_SF_entryFor_21 ?_
      refine ztop (y := nI (2 + 8 * i)) (by rw [pk_mul, nI_add, Nat.mul_comm]) ?_
      refine lv_istore hx hb d_SF_entryFor_22 hl (by decide) (lv' := [(4, .int (nI (2 + 8 * i))), (3, .int (nI i)), (2, .int (nI (B 1))), (0, .ref (h 0)), (1, .int (nI k))]) rfl (fun ls hl => ?_)
      refine lv_aload_n hx hb d_SF_entryFor_24 rfl (lv_at hl 3 rfl) ?_
      refine lv_iload hx hb d_SF_entryFor_25 (lv_at hl 0 rfl) ?_
      refine lv_aload_n hx hb d_SF_entryFor_27 rfl (lv_at hl 3 rfl) ?_
      refine lv_iload hx hb d_SF_entryFor_28 (lv_at hl 0 rfl) ?_
      refine lv_iload_n hx hb d_SF_entryFor_30 rfl (lv_at hl 4 rfl) ?_
      refine zRd (rest := [.int (nI (2 + 8 * i)), .ref (h 0)]) (zrV hS9 (c_SF_agreed l D cI cC cJ h n0 n1 n2 n3 n4 f0 f1 f2 f3 f4 rp hn0 hn1 hn2 hn3 hn4 B hB S hS0 hA0 hn01 (2 + 8 * i) k (by omega) hk) zc_SF_agreed zw_406 zw_408 zp_17 (by decide) (va_recv hE.1 hP (ci := 1) (q := (R_SF, F_SF, 6)) rfl (q0 := 0) rfl) (hP) hE rfl hl.1 rfl (Nat.le_of_ble_eq_true rfl) d_SF_entryFor_31) ?_
      refine lv_aload_n hx hb d_SF_entryFor_34 rfl (lv_at hl 3 rfl) ?_
      refine va_get (D := D) (ci := 1) (v := .ref (h 3)) (C := R_SF) (T := F_SF) (N := 6) hx hb hg i_SF hown hE.1 hP 0 rfl rfl 1 (by decide) (hg _ zw_41) (fun _ h9 => h9) rfl d_SF_entryFor_35 ?_
      refine lv_iload_n hx hb d_SF_entryFor_38 rfl (lv_at hl 4 rfl) ?_
      refine zRd (rest := [.int (nI (zs_z B (2 + 8 * i) (S k))), .int (nI (2 + 8 * i)), .ref (h 0)]) (zrVN hS9 (c_RW_item l D cI cC cJ (h 3) (h 4) 4 n1 f1 (by omega) (by decide) (nI k)) zc_RW_item (by decide) zw_65 zp_0 (by decide) (va_recv hE.1 hP (ci := 0) (q := (R_RW, F_RW, 2)) rfl (q0 := 3) rfl) (hP.sub [3, 4] rfl) hE rfl hl.1 rfl (Nat.le_of_ble_eq_true rfl) d_SF_entryFor_39) ?_
      refine ztop (y := nI (zs_pw 2 (S k))) ((zs_item_in (by omega) (by omega)).trans (hA0 k (by omega))) ?_
      refine zRd (rest := []) (zrV hS9 (c_SF_entrySign l D cI cC cJ h n0 n1 n2 n3 n4 f0 f1 f2 f3 f4 rp hn0 hn1 hn2 hn3 hn4 B hB (2 + 8 * i) (nI (zs_z B (2 + 8 * i) (S k))) (nI (zs_pw 2 (S k))) (by omega)) zc_SF_entrySign zw_358 zw_360 zp_9 (by decide) (va_recv hE.1 hP (ci := 1) (q := (R_SF, F_SF, 6)) rfl (q0 := 0) rfl) (hP) hE rfl hl.1 rfl (Nat.le_of_ble_eq_true rfl) d_SF_entryFor_42) ?_
      refine lv_istore hx hb d_SF_entryFor_45 hl (by decide) (lv' := [(5, .int (nI (zs_sg B (2 + 8 * i) (2 + 8 * i + 6) (zs_word (nI (zs_z B (2 + 8 * i) (S k))) (nI (zs_pw 2 (S k))) (nI 2))))), (4, .int (nI (2 + 8 * i))), (3, .int (nI i)), (2, .int (nI (B 1))), (0, .ref (h 0)), (1, .int (nI k))]) rfl (fun ls hl => ?_)
      refine lv_aload_n hx hb d_SF_entryFor_47 rfl (lv_at hl 4 rfl) ?_
      refine va_get (D := D) (ci := 1) (v := .ref (h 7)) (C := R_SF) (T := F_SF) (N := 6) hx hb hg i_SF hown hE.1 hP 0 rfl rfl 3 (by decide) (hg _ zw_43) (fun _ h9 => h9) rfl d_SF_entryFor_48 ?_
      refine lv_iload hx hb d_SF_entryFor_51 (lv_at hl 1 rfl) ?_
      refine lv_bipush (v := (nI 6)) hx hb d_SF_entryFor_53 (by decide) ?_
      refine lv_iadd hx hb d_SF_entryFor_55 ?_
      refine ztop (y := nI (2 + 8 * i + 6)) (nI_add _ _) ?_
      refine zRd (rest := []) (zrVN hS9 (c_RW_pair l D cI cC cJ (h 7) (h 8) 120 n3 f3 (by omega) (by decide) (nI (2 + 8 * i + 6))) zc_RW_pair (by decide) zw_412 zp_18 (by decide) (va_recv hE.1 hP (ci := 0) (q := (R_RW, F_RW, 2)) rfl (q0 := 7) rfl) (hP.sub [7, 8] rfl) hE rfl hl.1 rfl (Nat.le_of_ble_eq_true rfl) d_SF_entryFor_56) ?_
      refine ztop (y := nI (zs_two B (2 + 8 * i + 6))) (zs_pair_in hB (by omega) (by omega)) ?_
      refine lv_iload hx hb d_SF_entryFor_59 (lv_at hl 0 rfl) ?_
      have l2 := zs_sg_lt B (2 + 8 * i) (2 + 8 * i + 6) (zs_word (nI (zs_z B (2 + 8 * i) (S k))) (nI (zs_pw 2 (S k))) (nI 2))
      have l1 : zs_two B (2 + 8 * i + 6) < 65536 := zs_two_lt (hB (2 + 8 * i + 6) (show 2 + 8 * i + 6 < n3 by omega)).2 (hB (2 + 8 * i + 6 + 1) (show 2 + 8 * i + 6 + 1 < n3 by omega)).2
      by_cases g : zs_two B (2 + 8 * i + 6) = zs_sg B (2 + 8 * i) (2 + 8 * i + 6) (zs_word (nI (zs_z B (2 + 8 * i) (S k))) (nI (zs_pw 2 (S k))) (nI 2))
      · refine lv_icmp_ne hx hb d_SF_entryFor_61 (tgt := 67) (by decide) (fun z9 => absurd (by rw [g]) z9) (fun _ => ?_)
        refine lv_iload hx hb d_SF_entryFor_64 (lv_at hl 1 rfl) ?_
        exact W.iret (v := (nI (2 + 8 * i))) hx hb hr (fun t ht _ => ⟨congrArg (fun z => Outcome.returned (some (Value.int z))) (by rw [← he, zs_ent, if_pos g]), ht⟩) t_nil d_SF_entryFor_66
      · refine lv_icmp_ne hx hb d_SF_entryFor_61 (tgt := 67) (by decide) (fun _ => ?_) (fun z9 => absurd z9 (fun z => g ((nI_eq (by omega) (by omega)).mp z)))
        refine lv_iinc (k := 2) (v := nI (i + 1)) hx hb d_SF_entryFor_67 hl rfl (nI_1 i) (by decide) (lv' := [(3, .int (nI (i + 1))), (5, .int (nI (zs_sg B (2 + 8 * i) (2 + 8 * i + 6) (zs_word (nI (zs_z B (2 + 8 * i) (S k))) (nI (zs_pw 2 (S k))) (nI 2))))), (4, .int (nI (2 + 8 * i))), (2, .int (nI (B 1))), (0, .ref (h 0)), (1, .int (nI k))]) rfl (fun ls hl => ?_)
        refine lv_goto hx hb d_SF_entryFor_70 (tgt := 11) (by decide) ?_
        have hl : lv_has ls 6 [(3, .int (nI (i + 1))), (2, .int (nI (B 1))), (0, .ref (h 0)), (1, .int (nI k))] := lv_sub hl [0, 3, 4, 5] rfl
        exact ih (i + 1) (by omega) (by rw [zs_ent, if_neg g] at he; exact he) ls hl
  exact loop (B 1) 0 (by omega) rfl ls hl

set_option maxHeartbeats 4000000 in
set_option maxRecDepth 100000 in
theorem c_SF_uncover (l : Launch) (D : va_G) (cI cC cJ : ClassId) (h : Nat → Nat) (n0 n1 n2 n3 n4 : Nat) (f0 f1 f2 f3 f4 : Nat → Int32) (rp : Int32) (hn0 : n0 ≤ 4) (hn1 : n1 ≤ 4) (hn2 : n2 ≤ 40) (hn3 : n3 ≤ 120) (hn4 : n4 ≤ 160) (hh : zs_inj h) (B : Nat → Nat) (hB : zs_hold 256 f3 (n3, B)) (M : Nat → Nat) (hM : zs_hold 256 f2 (n2, M)) (f : Int32) (k a b : Nat) (hab : a ≤ b) (hb9 : b ≤ n3) : Met l y_SF_uncover (zw k_SF_uncover) ({ frames := 3, cells := 0, slots := 0, locals := 67 }) (zPc [.ref (h 0), .int f, .int (nI k), .int (nI a), .int (nI b)] (fun H => va_P D zcl (zSf cI h n0 n1 n2 n3 n4 f0 f1 f2 f3 f4 rp) H) D cI cC cJ) (zQm none (fun H => ∃ f2' : Nat → Int32, zs_hold 256 f2' (zs_unc B f k a (n2, M) (b - a)) ∧ va_P D zcl (zSf cI h n0 n1 ((zs_unc B f k a (n2, M) (b - a)).1) n3 n4 f0 f1 (f2') f3 f4 rp) H) (zAS h)) 0 0 (zAS h) := by
  refine zMet (by decide) (Nat.le_of_ble_eq_true rfl) ?_
  intro p e s m below meth c hx hb hr hg hown hlk hml hP hE ls hl
  have hl : lv_has ls 6 [(0, .ref (h 0)), (1, .int f), (2, .int (nI k)), (3, .int (nI a)), (4, .int (nI b))] := hl
  have hS9 : CallFix p m c b_SF_uncover 6 s [.ref (h 0), .int f, .int (nI k), .int (nI a), .int (nI b)].toArray zg "SealedFiles" := ⟨hx, hb, hml, hown, hg⟩
  have hP : va_P D zcl [((h 0), .inr (1, [.ref (h 1), .ref (h 3), .ref (h 5), .ref (h 7), .ref (h 9), .int rp])), ((h 1), .inr (0, [.ref (h 2), .int (nI n0)])), ((h 2), .inl (cI, 4, .inl f0)), ((h 3), .inr (0, [.ref (h 4), .int (nI n1)])), ((h 4), .inl (cI, 4, .inl f1)), ((h 5), .inr (0, [.ref (h 6), .int (nI n2)])), ((h 6), .inl (cI, 40, .inl f2)), ((h 7), .inr (0, [.ref (h 8), .int (nI n3)])), ((h 8), .inl (cI, 120, .inl f3)), ((h 9), .inr (0, [.ref (h 10), .int (nI n4)])), ((h 10), .inl (cI, 160, .inl f4))] s.heap := hP
  have hD : va_D (zAS h) [((h 0), .inr (1, [.ref (h 1), .ref (h 3), .ref (h 5), .ref (h 7), .ref (h 9), .int rp])), ((h 1), .inr (0, [.ref (h 2), .int (nI n0)])), ((h 2), .inl (cI, 4, .inl f0)), ((h 3), .inr (0, [.ref (h 4), .int (nI n1)])), ((h 4), .inl (cI, 4, .inl f1)), ((h 5), .inr (0, [.ref (h 6), .int (nI n2)])), ((h 6), .inl (cI, 40, .inl f2)), ((h 7), .inr (0, [.ref (h 8), .int (nI n3)])), ((h 8), .inl (cI, 120, .inl f3)), ((h 9), .inr (0, [.ref (h 10), .int (nI n4)])), ((h 10), .inl (cI, 160, .inl f4))] := zSf_D hh
  have hS : va_S (zAS h) s.heap s.heap [] := va_S.rf
  refine lv_iload_n hx hb d_SF_uncover_0 rfl (lv_at hl 3 rfl) ?_
  refine lv_istore hx hb d_SF_uncover_1 hl (by decide) (lv' := [(5, .int (nI a)), (0, .ref (h 0)), (1, .int f), (2, .int (nI k)), (3, .int (nI a)), (4, .int (nI b))]) rfl (fun ls hl => ?_)
  have hl : lv_has ls 6 [(5, .int (nI a)), (0, .ref (h 0)), (1, .int f), (2, .int (nI k)), (3, .int (nI a)), (4, .int (nI b))] := lv_sub hl [0, 1, 2, 3, 4, 5] rfl
  have loop : ∀ (k_ : Nat) (j : Nat) (fx : Nat → Int32) (H : Heap) (locs : List Loc), j + k_ = b - a → zs_hold 256 fx (zs_unc B f k a (n2, M) j) → va_P D zcl (zSf cI h n0 n1 ((zs_unc B f k a (n2, M) j).1) n3 n4 f0 f1 fx f3 f4 rp) H → va_S (zAS h) s.heap H locs → ∀ ls : Array Slot, lv_has ls 6 [(5, .int (nI (a + j))), (0, .ref (h 0)), (1, .int f), (2, .int (nI k)), (3, .int (nI a)), (4, .int (nI b))] → W p l e ({ frames := 3, cells := 0, slots := 0, locals := 67 }) s m [.ref (h 0), .int f, .int (nI k), .int (nI a), .int (nI b)].toArray below meth c H locs 0 0 (MQ below (zQm none (fun H => ∃ f2' : Nat → Int32, zs_hold 256 f2' (zs_unc B f k a (n2, M) (b - a)) ∧ va_P D zcl (zSf cI h n0 n1 ((zs_unc B f k a (n2, M) (b - a)).1) n3 n4 f0 f1 (f2') f3 f4 rp) H) (zAS h)) [.ref (h 0), .int f, .int (nI k), .int (nI a), .int (nI b)].toArray s 0 0 (zAS h)) (F0 m 3 ls []) := by
    intro k_
    induction k_ with
    | zero =>
      intro j fx H locs hj hM hP hS ls hl
      have hP : va_P D zcl [((h 0), .inr (1, [.ref (h 1), .ref (h 3), .ref (h 5), .ref (h 7), .ref (h 9), .int rp])), ((h 1), .inr (0, [.ref (h 2), .int (nI n0)])), ((h 2), .inl (cI, 4, .inl f0)), ((h 3), .inr (0, [.ref (h 4), .int (nI n1)])), ((h 4), .inl (cI, 4, .inl f1)), ((h 5), .inr (0, [.ref (h 6), .int (nI ((zs_unc B f k a (n2, M) j).1))])), ((h 6), .inl (cI, 40, .inl fx)), ((h 7), .inr (0, [.ref (h 8), .int (nI n3)])), ((h 8), .inl (cI, 120, .inl f3)), ((h 9), .inr (0, [.ref (h 10), .int (nI n4)])), ((h 10), .inl (cI, 160, .inl f4))] H := hP
      have hD : va_D (zAS h) [((h 0), .inr (1, [.ref (h 1), .ref (h 3), .ref (h 5), .ref (h 7), .ref (h 9), .int rp])), ((h 1), .inr (0, [.ref (h 2), .int (nI n0)])), ((h 2), .inl (cI, 4, .inl f0)), ((h 3), .inr (0, [.ref (h 4), .int (nI n1)])), ((h 4), .inl (cI, 4, .inl f1)), ((h 5), .inr (0, [.ref (h 6), .int (nI ((zs_unc B f k a (n2, M) j).1))])), ((h 6), .inl (cI, 40, .inl fx)), ((h 7), .inr (0, [.ref (h 8), .int (nI n3)])), ((h 8), .inl (cI, 120, .inl f3)), ((h 9), .inr (0, [.ref (h 10), .int (nI n4)])), ((h 10), .inl (cI, 160, .inl f4))] := zSf_D hh
      refine lv_iload hx hb d_SF_uncover_3 (lv_at hl 0 rfl) ?_
      refine lv_iload hx hb d_SF_uncover_5 (lv_at hl 5 rfl) ?_
      refine lv_icmp_ge hx hb d_SF_uncover_7 (tgt := 42) (by decide) (fun _ => ?_) (fun z9 => absurd (nI_le (by omega) (by omega)) z9)
      obtain rfl : j = b - a := by omega
      exact W.vret hx hb hr (fun t ht _ => ⟨rfl, by rw [ht]; exact ⟨fx, hM, hP⟩, hS.F ht⟩) hS.2.2 d_SF_uncover_42
    | succ k_ ih =>
      intro j fx H locs hj hM hP hS ls hl
      have hP : va_P D zcl [((h 0), .inr (1, [.ref (h 1), .ref (h 3), .ref (h 5), .ref (h 7), .ref (h 9), .int rp])), ((h 1), .inr (0, [.ref (h 2), .int (nI n0)])), ((h 2), .inl (cI, 4, .inl f0)), ((h 3), .inr (0, [.ref (h 4), .int (nI n1)])), ((h 4), .inl (cI, 4, .inl f1)), ((h 5), .inr (0, [.ref (h 6), .int (nI ((zs_unc B f k a (n2, M) j).1))])), ((h 6), .inl (cI, 40, .inl fx)), ((h 7), .inr (0, [.ref (h 8), .int (nI n3)])), ((h 8), .inl (cI, 120, .inl f3)), ((h 9), .inr (0, [.ref (h 10), .int (nI n4)])), ((h 10), .inl (cI, 160, .inl f4))] H := hP
      have hD : va_D (zAS h) [((h 0), .inr (1, [.ref (h 1), .ref (h 3), .ref (h 5), .ref (h 7), .ref (h 9), .int rp])), ((h 1), .inr (0, [.ref (h 2), .int (nI n0)])), ((h 2), .inl (cI, 4, .inl f0)), ((h 3), .inr (0, [.ref (h 4), .int (nI n1)])), ((h 4), .inl (cI, 4, .inl f1)), ((h 5), .inr (0, [.ref (h 6), .int (nI ((zs_unc B f k a (n2, M) j).1))])), ((h 6), .inl (cI, 40, .inl fx)), ((h 7), .inr (0, [.ref (h 8), .int (nI n3)])), ((h 8), .inl (cI, 120, .inl f3)), ((h 9), .inr (0, [.ref (h 10), .int (nI n4)])), ((h 10), .inl (cI, 160, .inl f4))] := zSf_D hh
      have hle := zs_unc_le B f k a (F := (n2, M)) hn2 j
      refine lv_iload hx hb d_SF_uncover_3 (lv_at hl 0 rfl) ?_
      refine lv_iload hx hb d_SF_uncover_5 (lv_at hl 5 rfl) ?_
      refine lv_icmp_ge hx hb d_SF_uncover_7 (tgt := 42) (by decide) (fun z9 => absurd z9 (nI_ge (by omega) (by omega))) (fun _ => ?_)
      refine lv_aload_n hx hb d_SF_uncover_10 rfl (lv_at hl 1 rfl) ?_
      refine va_get (D := D) (ci := 1) (v := .ref (h 5)) (C := R_SF) (T := F_SF) (N := 6) hx hb hg i_SF hown hE.1 hP 0 rfl rfl 2 (by decide) (hg _ zw_42) (fun _ h9 => h9) rfl d_SF_uncover_11 ?_
      refine lv_aload_n hx hb d_SF_uncover_14 rfl (lv_at hl 1 rfl) ?_
      refine va_get (D := D) (ci := 1) (v := .ref (h 7)) (C := R_SF) (T := F_SF) (N := 6) hx hb hg i_SF hown hE.1 hP 0 rfl rfl 3 (by decide) (hg _ zw_43) (fun _ h9 => h9) rfl d_SF_uncover_15 ?_
      refine lv_iload hx hb d_SF_uncover_18 (lv_at hl 0 rfl) ?_
      refine zRd (rest := [.ref (h 5)]) (zrVN hS9 (c_RW_item l D cI cC cJ (h 7) (h 8) 120 n3 f3 (by omega) (by decide) (nI (a + j))) zc_RW_item (by decide) zw_65 zp_0 (by decide) (va_recv hE.1 hP (ci := 0) (q := (R_RW, F_RW, 2)) rfl (q0 := 7) rfl) (hP.sub [7, 8] rfl) hE rfl hl.1 rfl (Nat.le_of_ble_eq_true rfl) d_SF_uncover_20) ?_
      refine ztop (y := nI (B (a + j))) ((zs_item_in (by omega) (by omega)).trans (hB (a + j) (show a + j < n3 by omega)).1) ?_
      refine lv_iload_n hx hb d_SF_uncover_23 rfl (lv_at hl 2 rfl) ?_
      refine lv_iload_n hx hb d_SF_uncover_24 rfl (lv_at hl 3 rfl) ?_
      refine lv_iload hx hb d_SF_uncover_25 (lv_at hl 0 rfl) ?_
      refine lv_iload_n hx hb d_SF_uncover_27 rfl (lv_at hl 4 rfl) ?_
      refine lv_isub hx hb d_SF_uncover_28 ?_
      refine ztop (y := nI j) (by rw [pk_sub (by omega), Nat.add_sub_cancel_left]) ?_
      have hm8 : B (a + j) < 256 := (hB (a + j) (show a + j < n3 by omega)).2
      refine zRd (rest := [.ref (h 5)]) (zrS hS9 (c_SF_covered l D cI cC cJ (B (a + j)) f k j) zc_SF_covered zw_379 zw_380 (by decide) (trivial) hE rfl hl.1 rfl (Nat.le_of_ble_eq_true rfl) d_SF_uncover_29) ?_
      by_cases g : (zs_unc B f k a (n2, M) j).1 < 40
      · refine zWr (rest := []) (zrVN hS9 (c_RW_append l D cI cC cJ (h 5) (h 6) 40 ((zs_unc B f k a (n2, M) j).1) fx (by omega) (by decide) (fun z => absurd (hh 5 6 (by decide) (by decide) z) (by decide)) (nI (zs_cv (B (a + j)) f k j)) (g)) zc_RW_append (by decide) zw_77 zp_2 (by decide) (va_recv hE.1 hP (ci := 0) (q := (R_RW, F_RW, 2)) rfl (q0 := 5) rfl) (hP.sub [5, 6] rfl) hE rfl hl.1 rfl (Nat.le_of_ble_eq_true rfl) d_SF_uncover_32) hS (fun q _ h => zA2_in hD 5 6 rfl rfl q h) (fun q h => zA2_in hD 5 6 rfl rfl q h) (fun H locs hB1 hz hk hS => ?_)
        obtain ⟨hP, hD⟩ := zrow hP hD 5 6 rfl rfl (by decide) hk hB1
        have hP : va_P D zcl [((h 0), .inr (1, [.ref (h 1), .ref (h 3), .ref (h 5), .ref (h 7), .ref (h 9), .int rp])), ((h 1), .inr (0, [.ref (h 2), .int (nI n0)])), ((h 2), .inl (cI, 4, .inl f0)), ((h 3), .inr (0, [.ref (h 4), .int (nI n1)])), ((h 4), .inl (cI, 4, .inl f1)), ((h 5), .inr (0, [.ref (h 6), .int (nI ((zs_unc B f k a (n2, M) j).1 + 1))])), ((h 6), .inl (cI, 40, .inl (upd fx ((zs_unc B f k a (n2, M) j).1) (nI (zs_cv (B (a + j)) f k j))))), ((h 7), .inr (0, [.ref (h 8), .int (nI n3)])), ((h 8), .inl (cI, 120, .inl f3)), ((h 9), .inr (0, [.ref (h 10), .int (nI n4)])), ((h 10), .inl (cI, 160, .inl f4))] H := hP
        have hD : va_D (zAS h) [((h 0), .inr (1, [.ref (h 1), .ref (h 3), .ref (h 5), .ref (h 7), .ref (h 9), .int rp])), ((h 1), .inr (0, [.ref (h 2), .int (nI n0)])), ((h 2), .inl (cI, 4, .inl f0)), ((h 3), .inr (0, [.ref (h 4), .int (nI n1)])), ((h 4), .inl (cI, 4, .inl f1)), ((h 5), .inr (0, [.ref (h 6), .int (nI ((zs_unc B f k a (n2, M) j).1 + 1))])), ((h 6), .inl (cI, 40, .inl (upd fx ((zs_unc B f k a (n2, M) j).1) (nI (zs_cv (B (a + j)) f k j))))), ((h 7), .inr (0, [.ref (h 8), .int (nI n3)])), ((h 8), .inl (cI, 120, .inl f3)), ((h 9), .inr (0, [.ref (h 10), .int (nI n4)])), ((h 10), .inl (cI, 160, .inl f4))] := hD
        have hM : zs_hold 256 (upd fx ((zs_unc B f k a (n2, M) j).1) (nI (zs_cv (B (a + j)) f k j))) (zs_push (zs_unc B f k a (n2, M) j) (zs_cv (B (a + j)) f k j)) := zs_hold_push hM (zs_cv_lt hm8 f k j)
        generalize (upd fx ((zs_unc B f k a (n2, M) j).1) (nI (zs_cv (B (a + j)) f k j))) = fz at hP hD hM
        have hM : zs_hold 256 fz (zs_unc B f k a (n2, M) (j + 1)) := by rw [zs_unc, if_pos g]; exact hM
        have hP : va_P D zcl (zSf cI h n0 n1 ((zs_unc B f k a (n2, M) (j + 1)).1) n3 n4 f0 f1 fz f3 f4 rp) H := by rw [zs_unc, if_pos g]; exact hP
        refine lv_pop hx hb d_SF_uncover_35 rfl ?_
        refine lv_iinc (k := 0) (v := nI (a + (j + 1))) hx hb d_SF_uncover_36 hl rfl (nI_1 (a + j)) (by decide) (lv' := [(5, .int (nI (a + (j + 1)))), (0, .ref (h 0)), (1, .int f), (2, .int (nI k)), (3, .int (nI a)), (4, .int (nI b))]) rfl (fun ls hl => ?_)
        refine lv_goto hx hb d_SF_uncover_39 (tgt := 3) (by decide) ?_
        have hl : lv_has ls 6 [(5, .int (nI (a + (j + 1)))), (0, .ref (h 0)), (1, .int f), (2, .int (nI k)), (3, .int (nI a)), (4, .int (nI b))] := lv_sub hl [0, 1, 2, 3, 4, 5] rfl
        exact ih (j + 1) fz H locs (by omega) hM hP hS ls hl
      · have g2 : (zs_unc B f k a (n2, M) j).1 = 40 := by omega
        refine zWr (rest := []) (zrVN hS9 (c_RW_append_full l D cI cC cJ (h 5) (h 6) 40 (zs_unc B f k a (n2, M) j).1 fx (by omega) (by decide) (fun z => absurd (hh 5 6 (by decide) (by decide) z) (by decide)) (nI (zs_cv (B (a + j)) f k j)) g2) zc_RW_append (by decide) zw_77 zp_2 (by decide) (va_recv hE.1 hP (ci := 0) (q := (R_RW, F_RW, 2)) rfl (q0 := 5) rfl) (hP.sub [5, 6] rfl) hE rfl hl.1 rfl (Nat.le_of_ble_eq_true rfl) d_SF_uncover_32) hS (fun q _ h => zA2_in hD 5 6 rfl rfl q h) (fun q h => zA2_in hD 5 6 rfl rfl q h) (fun H locs hB1 hz hk hS => ?_)
        obtain ⟨hP, hD⟩ := zrow hP hD 5 6 rfl rfl (by decide) hk hB1
        have hP : va_P D zcl [((h 0), .inr (1, [.ref (h 1), .ref (h 3), .ref (h 5), .ref (h 7), .ref (h 9), .int rp])), ((h 1), .inr (0, [.ref (h 2), .int (nI n0)])), ((h 2), .inl (cI, 4, .inl f0)), ((h 3), .inr (0, [.ref (h 4), .int (nI n1)])), ((h 4), .inl (cI, 4, .inl f1)), ((h 5), .inr (0, [.ref (h 6), .int (nI ((zs_unc B f k a (n2, M) j).1))])), ((h 6), .inl (cI, 40, .inl fx)), ((h 7), .inr (0, [.ref (h 8), .int (nI n3)])), ((h 8), .inl (cI, 120, .inl f3)), ((h 9), .inr (0, [.ref (h 10), .int (nI n4)])), ((h 10), .inl (cI, 160, .inl f4))] H := hP
        have hD : va_D (zAS h) [((h 0), .inr (1, [.ref (h 1), .ref (h 3), .ref (h 5), .ref (h 7), .ref (h 9), .int rp])), ((h 1), .inr (0, [.ref (h 2), .int (nI n0)])), ((h 2), .inl (cI, 4, .inl f0)), ((h 3), .inr (0, [.ref (h 4), .int (nI n1)])), ((h 4), .inl (cI, 4, .inl f1)), ((h 5), .inr (0, [.ref (h 6), .int (nI ((zs_unc B f k a (n2, M) j).1))])), ((h 6), .inl (cI, 40, .inl fx)), ((h 7), .inr (0, [.ref (h 8), .int (nI n3)])), ((h 8), .inl (cI, 120, .inl f3)), ((h 9), .inr (0, [.ref (h 10), .int (nI n4)])), ((h 10), .inl (cI, 160, .inl f4))] := hD
        have hM : zs_hold 256 fx (zs_unc B f k a (n2, M) (j + 1)) := by rw [zs_unc, if_neg g]; exact hM
        have hP : va_P D zcl (zSf cI h n0 n1 ((zs_unc B f k a (n2, M) (j + 1)).1) n3 n4 f0 f1 fx f3 f4 rp) H := by rw [zs_unc, if_neg g]; exact hP
        refine lv_pop hx hb d_SF_uncover_35 rfl ?_
        refine lv_iinc (k := 0) (v := nI (a + (j + 1))) hx hb d_SF_uncover_36 hl rfl (nI_1 (a + j)) (by decide) (lv' := [(5, .int (nI (a + (j + 1)))), (0, .ref (h 0)), (1, .int f), (2, .int (nI k)), (3, .int (nI a)), (4, .int (nI b))]) rfl (fun ls hl => ?_)
        refine lv_goto hx hb d_SF_uncover_39 (tgt := 3) (by decide) ?_
        have hl : lv_has ls 6 [(5, .int (nI (a + (j + 1)))), (0, .ref (h 0)), (1, .int f), (2, .int (nI k)), (3, .int (nI a)), (4, .int (nI b))] := lv_sub hl [0, 1, 2, 3, 4, 5] rfl
        exact ih (j + 1) fx H locs (by omega) hM hP hS ls hl
  exact loop (b - a) 0 f2 s.heap [] (by omega) hM hP hS ls hl

set_option maxHeartbeats 4000000 in
set_option maxRecDepth 100000 in
theorem c_SF_draftBytes (l : Launch) (D : va_G) (cI cC cJ : ClassId) (h : Nat → Nat) (n0 n1 n2 n3 n4 : Nat) (f0 f1 f2 f3 f4 : Nat → Int32) (rp : Int32) (hn0 : n0 ≤ 4) (hn1 : n1 ≤ 4) (hn2 : n2 ≤ 40) (hn3 : n3 ≤ 120) (hn4 : n4 ≤ 160) : Met l y_SF_draftBytes (zw k_SF_draftBytes) ({ frames := 1, cells := 0, slots := 0, locals := 20 }) (zPc [.ref (h 0)] (fun H => va_P D zcl (zSf cI h n0 n1 n2 n3 n4 f0 f1 f2 f3 f4 rp) H) D cI cC cJ) (QcRead (nI (n4 * 6 / 8))) 0 0 (fun _ => False) := by
  refine zMet (by decide) (Nat.le_of_ble_eq_true rfl) ?_
  intro p e s m below meth c hx hb hr hg hown hlk hml hP hE ls hl
  have hl : lv_has ls 1 [(0, .ref (h 0))] := hl
  have hS9 : CallFix p m c b_SF_draftBytes 1 s [.ref (h 0)].toArray zg "SealedFiles" := ⟨hx, hb, hml, hown, hg⟩
  have hP : va_P D zcl [((h 0), .inr (1, [.ref (h 1), .ref (h 3), .ref (h 5), .ref (h 7), .ref (h 9), .int rp])), ((h 1), .inr (0, [.ref (h 2), .int (nI n0)])), ((h 2), .inl (cI, 4, .inl f0)), ((h 3), .inr (0, [.ref (h 4), .int (nI n1)])), ((h 4), .inl (cI, 4, .inl f1)), ((h 5), .inr (0, [.ref (h 6), .int (nI n2)])), ((h 6), .inl (cI, 40, .inl f2)), ((h 7), .inr (0, [.ref (h 8), .int (nI n3)])), ((h 8), .inl (cI, 120, .inl f3)), ((h 9), .inr (0, [.ref (h 10), .int (nI n4)])), ((h 10), .inl (cI, 160, .inl f4))] s.heap := hP
  refine lv_aload_n hx hb d_SF_draftBytes_0 rfl (lv_at hl 0 rfl) ?_
  refine va_get (D := D) (ci := 1) (v := .ref (h 9)) (C := R_SF) (T := F_SF) (N := 6) hx hb hg i_SF hown hE.1 hP 0 rfl rfl 4 (by decide) (hg _ zw_44) (fun _ h9 => h9) rfl d_SF_draftBytes_1 ?_
  refine zRd (rest := []) (zrVN hS9 (c_RW_size l D cI cC cJ (h 9) (h 10) 160 n4 f4 (by omega) (by decide)) zc_RW_size (by decide) zw_85 zp_3 (by decide) (va_recv hE.1 hP (ci := 0) (q := (R_RW, F_RW, 2)) rfl (q0 := 9) rfl) (hP.sub [9, 10] rfl) hE rfl hl.1 rfl (Nat.le_of_ble_eq_true rfl) d_SF_draftBytes_4) ?_
  refine lv_bipush (v := (nI 6)) hx hb d_SF_draftBytes_7 (by decide) ?_
  refine lv_imul hx hb d_SF_draftBytes_9 ?_
  refine lv_bipush (v := (nI 8)) hx hb d_SF_draftBytes_10 (by decide) ?_
  refine lv_idiv hx hb d_SF_draftBytes_12 (by decide) ?_
  exact W.iret (v := (((nI n4) * (nI 6)) / (nI 8))) hx hb hr (fun t ht _ => ⟨congrArg (fun z => Outcome.returned (some (Value.int z))) (zs_db (by omega)), ht⟩) t_nil d_SF_draftBytes_13

