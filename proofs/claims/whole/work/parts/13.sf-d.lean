set_option maxHeartbeats 4000000 in
set_option maxRecDepth 100000 in
theorem c_SF_takePieces (l : Launch) (D : va_G) (cI cC cJ : ClassId) (h : Nat → Nat) (n0 n1 n2 n3 n4 : Nat) (f0 f1 f2 f3 f4 : Nat → Int32) (rp : Int32) (hn0 : n0 ≤ 4) (hn1 : n1 ≤ 4) (hn2 : n2 ≤ 40) (hn3 : n3 ≤ 120) (hn4 : n4 ≤ 160) (hh : zs_inj h) (B : Nat → Nat) (hB : zs_hold 256 f3 (n3, B)) (f : Int32) (ps : Nat) (hps : ps + 2 ≤ n3) (hrp : rp = nI 0) : Met l y_SF_takePieces (zw k_SF_takePieces) ({ frames := 4, cells := 0, slots := 0, locals := 96 }) (zPc [.ref (h 0), .int f, .int (nI ps)] (fun H => va_P D zcl (zSf cI h n0 n1 n2 n3 n4 f0 f1 f2 f3 f4 rp) H) D cI cC cJ) (zQm (some (.int (zs_take B n3 f ps ((n3 - ps - 1) / 10 + 1) 0 (0, fun _ => 0)).1)) (fun H => ∃ f2' : Nat → Int32, zs_hold 256 f2' (zs_take B n3 f ps ((n3 - ps - 1) / 10 + 1) 0 (0, fun _ => 0)).2.2 ∧ va_P D zcl (zSf cI h n0 n1 ((zs_take B n3 f ps ((n3 - ps - 1) / 10 + 1) 0 (0, fun _ => 0)).2.2.1) n3 n4 f0 f1 (f2') f3 f4 (nI (zs_take B n3 f ps ((n3 - ps - 1) / 10 + 1) 0 (0, fun _ => 0)).2.1)) H) (zAS h)) 0 0 (zAS h) := by
  refine zMet (by decide) (Nat.le_of_ble_eq_true rfl) ?_
  intro p e s m below meth c hx hb hr hg hown hlk hml hP hE ls hl
  have hl : lv_has ls 10 [(0, .ref (h 0)), (1, .int f), (2, .int (nI ps))] := hl
  have hS9 : CallFix p m c b_SF_takePieces 10 s [.ref (h 0), .int f, .int (nI ps)].toArray zg "SealedFiles" := ⟨hx, hb, hml, hown, hg⟩
  have hP : va_P D zcl [((h 0), .inr (1, [.ref (h 1), .ref (h 3), .ref (h 5), .ref (h 7), .ref (h 9), .int rp])), ((h 1), .inr (0, [.ref (h 2), .int (nI n0)])), ((h 2), .inl (cI, 4, .inl f0)), ((h 3), .inr (0, [.ref (h 4), .int (nI n1)])), ((h 4), .inl (cI, 4, .inl f1)), ((h 5), .inr (0, [.ref (h 6), .int (nI n2)])), ((h 6), .inl (cI, 40, .inl f2)), ((h 7), .inr (0, [.ref (h 8), .int (nI n3)])), ((h 8), .inl (cI, 120, .inl f3)), ((h 9), .inr (0, [.ref (h 10), .int (nI n4)])), ((h 10), .inl (cI, 160, .inl f4))] s.heap := hP
  have hD : va_D (zAS h) [((h 0), .inr (1, [.ref (h 1), .ref (h 3), .ref (h 5), .ref (h 7), .ref (h 9), .int rp])), ((h 1), .inr (0, [.ref (h 2), .int (nI n0)])), ((h 2), .inl (cI, 4, .inl f0)), ((h 3), .inr (0, [.ref (h 4), .int (nI n1)])), ((h 4), .inl (cI, 4, .inl f1)), ((h 5), .inr (0, [.ref (h 6), .int (nI n2)])), ((h 6), .inl (cI, 40, .inl f2)), ((h 7), .inr (0, [.ref (h 8), .int (nI n3)])), ((h 8), .inl (cI, 120, .inl f3)), ((h 9), .inr (0, [.ref (h 10), .int (nI n4)])), ((h 10), .inl (cI, 160, .inl f4))] := zSf_D hh
  have hS : va_S (zAS h) s.heap s.heap [] := va_S.rf
  subst hrp
  refine lv_aload_n hx hb d_SF_takePieces_0 rfl (lv_at hl 0 rfl) ?_
  refine va_get (D := D) (ci := 1) (v := .ref (h 5)) (C := R_SF) (T := F_SF) (N := 6) hx hb hg i_SF hown hE.1 hP 0 rfl rfl 2 (by decide) (hg _ zw_42) (fun _ h9 => h9) rfl d_SF_takePieces_1 ?_
  refine lv_iconst (v := (nI 0)) hx hb d_SF_takePieces_4 (by decide) ?_
  refine zWr (rest := []) (zrVN hS9 (c_RW_clear l D cI cC cJ (h 5) (h 6) 40 n2 f2 (by omega) (by decide) (fun z => absurd (hh 5 6 (by decide) (by decide) z) (by decide))) zc_RW_shorten (by decide) zw_89 zp_4 (by decide) (va_recv hE.1 hP (ci := 0) (q := (R_RW, F_RW, 2)) rfl (q0 := 5) rfl) (hP.sub [5, 6] rfl) hE rfl hl.1 rfl (Nat.le_of_ble_eq_true rfl) d_SF_takePieces_5) hS (fun q _ h => zA2_in hD 5 6 rfl rfl q h) (fun q h => zA2_in hD 5 6 rfl rfl q h) (fun H locs hB1 hz hk hS => ?_)
  obtain ⟨hP, hD⟩ := zrow hP hD 5 6 rfl rfl (by decide) hk hB1
  have hP : va_P D zcl [((h 0), .inr (1, [.ref (h 1), .ref (h 3), .ref (h 5), .ref (h 7), .ref (h 9), .int (nI 0)])), ((h 1), .inr (0, [.ref (h 2), .int (nI n0)])), ((h 2), .inl (cI, 4, .inl f0)), ((h 3), .inr (0, [.ref (h 4), .int (nI n1)])), ((h 4), .inl (cI, 4, .inl f1)), ((h 5), .inr (0, [.ref (h 6), .int (nI 0)])), ((h 6), .inl (cI, 40, .inl f2)), ((h 7), .inr (0, [.ref (h 8), .int (nI n3)])), ((h 8), .inl (cI, 120, .inl f3)), ((h 9), .inr (0, [.ref (h 10), .int (nI n4)])), ((h 10), .inl (cI, 160, .inl f4))] H := hP
  have hD : va_D (zAS h) [((h 0), .inr (1, [.ref (h 1), .ref (h 3), .ref (h 5), .ref (h 7), .ref (h 9), .int (nI 0)])), ((h 1), .inr (0, [.ref (h 2), .int (nI n0)])), ((h 2), .inl (cI, 4, .inl f0)), ((h 3), .inr (0, [.ref (h 4), .int (nI n1)])), ((h 4), .inl (cI, 4, .inl f1)), ((h 5), .inr (0, [.ref (h 6), .int (nI 0)])), ((h 6), .inl (cI, 40, .inl f2)), ((h 7), .inr (0, [.ref (h 8), .int (nI n3)])), ((h 8), .inl (cI, 120, .inl f3)), ((h 9), .inr (0, [.ref (h 10), .int (nI n4)])), ((h 10), .inl (cI, 160, .inl f4))] := hD
  refine lv_pop hx hb d_SF_takePieces_8 rfl ?_
  refine lv_bipush (v := (nI 10)) hx hb d_SF_takePieces_9 (by decide) ?_
  refine lv_istore_n hx hb d_SF_takePieces_11 rfl hl (by decide) (lv' := [(3, .int (nI 10)), (0, .ref (h 0)), (1, .int f), (2, .int (nI ps))]) rfl (fun ls hl => ?_)
  refine lv_aload_n hx hb d_SF_takePieces_12 rfl (lv_at hl 1 rfl) ?_
  refine va_get (D := D) (ci := 1) (v := .ref (h 7)) (C := R_SF) (T := F_SF) (N := 6) hx hb hg i_SF hown hE.1 hP 0 rfl rfl 3 (by decide) (hg _ zw_43) (fun _ h9 => h9) rfl d_SF_takePieces_13 ?_
  refine zRd (rest := []) (zrVN hS9 (c_RW_size l D cI cC cJ (h 7) (h 8) 120 n3 f3 (by omega) (by decide)) zc_RW_size (by decide) zw_85 zp_3 (by decide) (va_recv hE.1 hP (ci := 0) (q := (R_RW, F_RW, 2)) rfl (q0 := 7) rfl) (hP.sub [7, 8] rfl) hE rfl hl.1 rfl (Nat.le_of_ble_eq_true rfl) d_SF_takePieces_16) ?_
  refine lv_iload_n hx hb d_SF_takePieces_19 rfl (lv_at hl 3 rfl) ?_
  refine lv_isub hx hb d_SF_takePieces_20 ?_
  refine ztop (y := nI (n3 - ps)) (pk_sub (by omega)) ?_
  refine lv_iconst (v := (nI 1)) hx hb d_SF_takePieces_21 (by decide) ?_
  refine lv_isub hx hb d_SF_takePieces_22 ?_
  refine ztop (y := nI (n3 - ps - 1)) (pk_sub (by omega)) ?_
  refine lv_iload_n hx hb d_SF_takePieces_23 rfl (lv_at hl 0 rfl) ?_
  refine lv_idiv hx hb d_SF_takePieces_24 (by decide) ?_
  refine ztop (y := nI ((n3 - ps - 1) / 10)) (pk_div (by omega) (by decide) (by decide)) ?_
  refine lv_istore hx hb d_SF_takePieces_25 hl (by decide) (lv' := [(4, .int (nI ((n3 - ps - 1) / 10))), (3, .int (nI 10)), (0, .ref (h 0)), (1, .int f), (2, .int (nI ps))]) rfl (fun ls hl => ?_)
  refine lv_iconst (v := (nI 0)) hx hb d_SF_takePieces_27 (by decide) ?_
  refine lv_istore hx hb d_SF_takePieces_28 hl (by decide) (lv' := [(5, .int (nI 0)), (4, .int (nI ((n3 - ps - 1) / 10))), (3, .int (nI 10)), (0, .ref (h 0)), (1, .int f), (2, .int (nI ps))]) rfl (fun ls hl => ?_)
  have hl : lv_has ls 10 [(5, .int (nI 0)), (4, .int (nI ((n3 - ps - 1) / 10))), (3, .int (nI 10)), (0, .ref (h 0)), (1, .int f), (2, .int (nI ps))] := lv_sub hl [0, 1, 2, 3, 4, 5] rfl
  have loop : ∀ (k : Nat) (i : Nat) (F : zs_F) (fx : Nat → Int32) (H : Heap) (locs : List Loc), i + k = (n3 - ps - 1) / 10 + 1 → F.1 ≤ 40 → zs_take B n3 f ps k i F = (zs_take B n3 f ps ((n3 - ps - 1) / 10 + 1) 0 (0, fun _ => 0)) → zs_hold 256 fx F → va_P D zcl (zSf cI h n0 n1 F.1 n3 n4 f0 f1 fx f3 f4 (nI i)) H → va_S (zAS h) s.heap H locs → ∀ ls : Array Slot, lv_has ls 10 [(5, .int (nI i)), (4, .int (nI ((n3 - ps - 1) / 10))), (3, .int (nI 10)), (0, .ref (h 0)), (1, .int f), (2, .int (nI ps))] → W p l e ({ frames := 4, cells := 0, slots := 0, locals := 96 }) s m [.ref (h 0), .int f, .int (nI ps)].toArray below meth c H locs 0 0 (MQ below (zQm (some (.int (zs_take B n3 f ps ((n3 - ps - 1) / 10 + 1) 0 (0, fun _ => 0)).1)) (fun H => ∃ f2' : Nat → Int32, zs_hold 256 f2' (zs_take B n3 f ps ((n3 - ps - 1) / 10 + 1) 0 (0, fun _ => 0)).2.2 ∧ va_P D zcl (zSf cI h n0 n1 ((zs_take B n3 f ps ((n3 - ps - 1) / 10 + 1) 0 (0, fun _ => 0)).2.2.1) n3 n4 f0 f1 (f2') f3 f4 (nI (zs_take B n3 f ps ((n3 - ps - 1) / 10 + 1) 0 (0, fun _ => 0)).2.1)) H) (zAS h)) [.ref (h 0), .int f, .int (nI ps)].toArray s 0 0 (zAS h)) (F0 m 30 ls []) := by
    intro k
    induction k with
    | zero =>
      intro i F fx H locs hi hF he hM hP hS ls hl
      have hP : va_P D zcl [((h 0), .inr (1, [.ref (h 1), .ref (h 3), .ref (h 5), .ref (h 7), .ref (h 9), .int (nI i)])), ((h 1), .inr (0, [.ref (h 2), .int (nI n0)])), ((h 2), .inl (cI, 4, .inl f0)), ((h 3), .inr (0, [.ref (h 4), .int (nI n1)])), ((h 4), .inl (cI, 4, .inl f1)), ((h 5), .inr (0, [.ref (h 6), .int (nI F.1)])), ((h 6), .inl (cI, 40, .inl fx)), ((h 7), .inr (0, [.ref (h 8), .int (nI n3)])), ((h 8), .inl (cI, 120, .inl f3)), ((h 9), .inr (0, [.ref (h 10), .int (nI n4)])), ((h 10), .inl (cI, 160, .inl f4))] H := hP
      have hD : va_D (zAS h) [((h 0), .inr (1, [.ref (h 1), .ref (h 3), .ref (h 5), .ref (h 7), .ref (h 9), .int (nI i)])), ((h 1), .inr (0, [.ref (h 2), .int (nI n0)])), ((h 2), .inl (cI, 4, .inl f0)), ((h 3), .inr (0, [.ref (h 4), .int (nI n1)])), ((h 4), .inl (cI, 4, .inl f1)), ((h 5), .inr (0, [.ref (h 6), .int (nI F.1)])), ((h 6), .inl (cI, 40, .inl fx)), ((h 7), .inr (0, [.ref (h 8), .int (nI n3)])), ((h 8), .inl (cI, 120, .inl f3)), ((h 9), .inr (0, [.ref (h 10), .int (nI n4)])), ((h 10), .inl (cI, 160, .inl f4))] := zSf_D hh
      refine lv_iload hx hb d_SF_takePieces_30 (lv_at hl 0 rfl) ?_
      refine lv_iload hx hb d_SF_takePieces_32 (lv_at hl 1 rfl) ?_
      refine lv_icmp_gt hx hb d_SF_takePieces_34 (tgt := 183) (by decide) (fun _ => ?_) (fun z9 => absurd (nI_lt (by omega) (by omega)) z9)
      refine lv_aload_n hx hb d_SF_takePieces_183 rfl (lv_at hl 3 rfl) ?_
      refine va_get (D := D) (ci := 1) (v := .ref (h 5)) (C := R_SF) (T := F_SF) (N := 6) hx hb hg i_SF hown hE.1 hP 0 rfl rfl 2 (by decide) (hg _ zw_42) (fun _ h9 => h9) rfl d_SF_takePieces_184 ?_
      refine zRd (rest := []) (zrVN hS9 (c_RW_size l D cI cC cJ (h 5) (h 6) 40 F.1 fx (by omega) (by decide)) zc_RW_size (by decide) zw_85 zp_3 (by decide) (va_recv hE.1 hP (ci := 0) (q := (R_RW, F_RW, 2)) rfl (q0 := 5) rfl) (hP.sub [5, 6] rfl) hE rfl hl.1 rfl (Nat.le_of_ble_eq_true rfl) d_SF_takePieces_187) ?_
      exact W.iret (v := (nI F.1)) hx hb hr (fun t ht _ => ⟨congrArg (fun z => Outcome.returned (some (Value.int z))) (by rw [← he]; rfl), by rw [ht]; rw [← he]; exact ⟨fx, hM, hP⟩, hS.F ht⟩) hS.2.2 d_SF_takePieces_190
    | succ k ih =>
      intro i F fx H locs hi hF he hM hP hS ls hl
      have hP : va_P D zcl [((h 0), .inr (1, [.ref (h 1), .ref (h 3), .ref (h 5), .ref (h 7), .ref (h 9), .int (nI i)])), ((h 1), .inr (0, [.ref (h 2), .int (nI n0)])), ((h 2), .inl (cI, 4, .inl f0)), ((h 3), .inr (0, [.ref (h 4), .int (nI n1)])), ((h 4), .inl (cI, 4, .inl f1)), ((h 5), .inr (0, [.ref (h 6), .int (nI F.1)])), ((h 6), .inl (cI, 40, .inl fx)), ((h 7), .inr (0, [.ref (h 8), .int (nI n3)])), ((h 8), .inl (cI, 120, .inl f3)), ((h 9), .inr (0, [.ref (h 10), .int (nI n4)])), ((h 10), .inl (cI, 160, .inl f4))] H := hP
      have hD : va_D (zAS h) [((h 0), .inr (1, [.ref (h 1), .ref (h 3), .ref (h 5), .ref (h 7), .ref (h 9), .int (nI i)])), ((h 1), .inr (0, [.ref (h 2), .int (nI n0)])), ((h 2), .inl (cI, 4, .inl f0)), ((h 3), .inr (0, [.ref (h 4), .int (nI n1)])), ((h 4), .inl (cI, 4, .inl f1)), ((h 5), .inr (0, [.ref (h 6), .int (nI F.1)])), ((h 6), .inl (cI, 40, .inl fx)), ((h 7), .inr (0, [.ref (h 8), .int (nI n3)])), ((h 8), .inl (cI, 120, .inl f3)), ((h 9), .inr (0, [.ref (h 10), .int (nI n4)])), ((h 10), .inl (cI, 160, .inl f4))] := zSf_D hh
      refine lv_iload hx hb d_SF_takePieces_30 (lv_at hl 0 rfl) ?_
      refine lv_iload hx hb d_SF_takePieces_32 (lv_at hl 1 rfl) ?_
      refine lv_icmp_gt hx hb d_SF_takePieces_34 (tgt := 183) (by decide) (fun z9 => absurd z9 (nI_nlt (by omega) (by omega))) (fun _ => ?_)
      refine lv_iload hx hb d_SF_takePieces_37 (lv_at hl 0 rfl) ?_
      refine lv_iload hx hb d_SF_takePieces_39 (lv_at hl 1 rfl) ?_
      have rest : ∀ ls : Array Slot, lv_has ls 10 [(5, .int (nI i)), (4, .int (nI ((n3 - ps - 1) / 10))), (3, .int (nI 10)), (0, .ref (h 0)), (1, .int f), (2, .int (nI ps))] → W p l e ({ frames := 4, cells := 0, slots := 0, locals := 96 }) s m [.ref (h 0), .int f, .int (nI ps)].toArray below meth c H locs 0 0 (MQ below (zQm (some (.int (zs_take B n3 f ps ((n3 - ps - 1) / 10 + 1) 0 (0, fun _ => 0)).1)) (fun H => ∃ f2' : Nat → Int32, zs_hold 256 f2' (zs_take B n3 f ps ((n3 - ps - 1) / 10 + 1) 0 (0, fun _ => 0)).2.2 ∧ va_P D zcl (zSf cI h n0 n1 ((zs_take B n3 f ps ((n3 - ps - 1) / 10 + 1) 0 (0, fun _ => 0)).2.2.1) n3 n4 f0 f1 (f2') f3 f4 (nI (zs_take B n3 f ps ((n3 - ps - 1) / 10 + 1) 0 (0, fun _ => 0)).2.1)) H) (zAS h)) [.ref (h 0), .int f, .int (nI ps)].toArray s 0 0 (zAS h)) (F0 m 49 ls [.int (nI (zs_tl n3 ps i))]) := by
        intro ls hl
        refine lv_istore hx hb d_SF_takePieces_49 hl (by decide) (lv' := [(6, .int (nI (zs_tl n3 ps i))), (5, .int (nI i)), (4, .int (nI ((n3 - ps - 1) / 10))), (3, .int (nI 10)), (0, .ref (h 0)), (1, .int f), (2, .int (nI ps))]) rfl (fun ls hl => ?_)
        refine lv_iload_n hx hb d_SF_takePieces_51 rfl (lv_at hl 6 rfl) ?_
        refine lv_iload hx hb d_SF_takePieces_52 (lv_at hl 1 rfl) ?_
        refine lv_iload_n hx hb d_SF_takePieces_54 rfl (lv_at hl 3 rfl) ?_
        refine lv_imul hx hb d_SF_takePieces_55 ?_
        refine lv_iadd hx hb d_SF_takePieces_56 ?_
        refine ztop (y := nI (ps + 10 * i)) (by rw [pk_mul, nI_add, Nat.mul_comm]) ?_
        refine lv_istore hx hb d_SF_takePieces_57 hl (by decide) (lv' := [(7, .int (nI (ps + 10 * i))), (6, .int (nI (zs_tl n3 ps i))), (5, .int (nI i)), (4, .int (nI ((n3 - ps - 1) / 10))), (3, .int (nI 10)), (0, .ref (h 0)), (1, .int f), (2, .int (nI ps))]) rfl (fun ls hl => ?_)
        refine lv_iload hx hb d_SF_takePieces_59 (lv_at hl 1 rfl) ?_
        have rest2 : ∀ ls : Array Slot, lv_has ls 10 [(7, .int (nI (ps + 10 * i))), (6, .int (nI (zs_tl n3 ps i))), (5, .int (nI i)), (4, .int (nI ((n3 - ps - 1) / 10))), (3, .int (nI 10)), (0, .ref (h 0)), (1, .int f), (2, .int (nI ps))] → W p l e ({ frames := 4, cells := 0, slots := 0, locals := 96 }) s m [.ref (h 0), .int f, .int (nI ps)].toArray below meth c H locs 0 0 (MQ below (zQm (some (.int (zs_take B n3 f ps ((n3 - ps - 1) / 10 + 1) 0 (0, fun _ => 0)).1)) (fun H => ∃ f2' : Nat → Int32, zs_hold 256 f2' (zs_take B n3 f ps ((n3 - ps - 1) / 10 + 1) 0 (0, fun _ => 0)).2.2 ∧ va_P D zcl (zSf cI h n0 n1 ((zs_take B n3 f ps ((n3 - ps - 1) / 10 + 1) 0 (0, fun _ => 0)).2.2.1) n3 n4 f0 f1 (f2') f3 f4 (nI (zs_take B n3 f ps ((n3 - ps - 1) / 10 + 1) 0 (0, fun _ => 0)).2.1)) H) (zAS h)) [.ref (h 0), .int f, .int (nI ps)].toArray s 0 0 (zAS h)) (F0 m 81 ls [.int (nI (zs_te n3 ps i))]) := by
          intro ls hl
          refine lv_istore hx hb d_SF_takePieces_81 hl (by decide) (lv' := [(8, .int (nI (zs_te n3 ps i))), (7, .int (nI (ps + 10 * i))), (6, .int (nI (zs_tl n3 ps i))), (5, .int (nI i)), (4, .int (nI ((n3 - ps - 1) / 10))), (3, .int (nI 10)), (0, .ref (h 0)), (1, .int f), (2, .int (nI ps))]) rfl (fun ls hl => ?_)
          refine lv_iload hx hb d_SF_takePieces_83 (lv_at hl 0 rfl) ?_
          refine lv_iload hx hb d_SF_takePieces_85 (lv_at hl 1 rfl) ?_
          by_cases g1 : n3 < ps + 10 * i + 2
          · have hte : (zs_te n3 ps i) = n3 - 2 := by rw [zs_te, if_pos (by omega)]
            refine lv_icmp_ge hx hb d_SF_takePieces_87 (tgt := 93) (by decide) (fun z9 => absurd z9 (by rw [hte]; exact nI_ge (by omega) (by omega))) (fun _ => ?_)
            refine lv_bipush (v := (-4)) hx hb d_SF_takePieces_90 (by decide) ?_
            rw [zs_take, if_pos g1] at he
            exact W.iret (v := (-4)) hx hb hr (fun t ht _ => ⟨congrArg (fun z => Outcome.returned (some (Value.int z))) (by rw [← he]), by rw [ht]; rw [← he]; exact ⟨fx, hM, hP⟩, hS.F ht⟩) hS.2.2 d_SF_takePieces_92
          · have hte : ps + 10 * i ≤ (zs_te n3 ps i) ∧ (zs_te n3 ps i) + 2 ≤ n3 := by unfold zs_te; split <;> omega
            have htl : (zs_tl n3 ps i) < 2 := by unfold zs_tl; split <;> decide
            rw [zs_take, if_neg g1] at he
            have l1 : zs_two B (zs_te n3 ps i) < 65536 := zs_two_lt (hB _ (show (zs_te n3 ps i) < n3 by omega)).2 (hB _ (show (zs_te n3 ps i) + 1 < n3 by omega)).2
            refine lv_icmp_ge hx hb d_SF_takePieces_87 (tgt := 93) (by decide) (fun _ => ?_) (fun z9 => absurd (nI_le hte.1 (by omega)) z9)
            refine lv_aload_n hx hb d_SF_takePieces_93 rfl (lv_at hl 6 rfl) ?_
            refine va_get (D := D) (ci := 1) (v := .ref (h 7)) (C := R_SF) (T := F_SF) (N := 6) hx hb hg i_SF hown hE.1 hP 0 rfl rfl 3 (by decide) (hg _ zw_43) (fun _ h9 => h9) rfl d_SF_takePieces_94 ?_
            refine lv_iload hx hb d_SF_takePieces_97 (lv_at hl 0 rfl) ?_
            refine zRd (rest := []) (zrVN hS9 (c_RW_pair l D cI cC cJ (h 7) (h 8) 120 n3 f3 (by omega) (by decide) (nI (zs_te n3 ps i))) zc_RW_pair (by decide) zw_412 zp_18 (by decide) (va_recv hE.1 hP (ci := 0) (q := (R_RW, F_RW, 2)) rfl (q0 := 7) rfl) (hP.sub [7, 8] rfl) hE rfl hl.1 rfl (Nat.le_of_ble_eq_true rfl) d_SF_takePieces_99) ?_
            refine ztop (y := nI (zs_two B (zs_te n3 ps i))) (zs_pair_in hB (by omega) (by omega)) ?_
            refine lv_istore hx hb d_SF_takePieces_102 hl (by decide) (lv' := [(9, .int (nI (zs_two B (zs_te n3 ps i)))), (8, .int (nI (zs_te n3 ps i))), (7, .int (nI (ps + 10 * i))), (6, .int (nI (zs_tl n3 ps i))), (5, .int (nI i)), (4, .int (nI ((n3 - ps - 1) / 10))), (3, .int (nI 10)), (0, .ref (h 0)), (1, .int f), (2, .int (nI ps))]) rfl (fun ls hl => ?_)
            refine lv_iload hx hb d_SF_takePieces_104 (lv_at hl 0 rfl) ?_
            refine lv_aload_n hx hb d_SF_takePieces_106 rfl (lv_at hl 7 rfl) ?_
            refine lv_iload_n hx hb d_SF_takePieces_107 rfl (lv_at hl 8 rfl) ?_
            refine lv_iload hx hb d_SF_takePieces_108 (lv_at hl 4 rfl) ?_
            refine lv_iload hx hb d_SF_takePieces_110 (lv_at hl 2 rfl) ?_
            refine lv_iload hx hb d_SF_takePieces_112 (lv_at hl 1 rfl) ?_
            refine lv_iload hx hb d_SF_takePieces_114 (lv_at hl 3 rfl) ?_
            refine zRd (rest := [.int (nI (zs_two B (zs_te n3 ps i)))]) (zrV hS9 (c_SF_pieceSign l D cI cC cJ h n0 n1 F.1 n3 n4 f0 f1 fx f3 f4 (nI i) (by omega) (by omega) (by omega) (by omega) (by omega) B hB f i (ps + 10 * i) (zs_te n3 ps i) (zs_tl n3 ps i) hte.1 (by omega) (htl)) zc_SF_pieceSign zw_382 zw_384 zp_13 (by decide) (va_recv hE.1 hP (ci := 1) (q := (R_SF, F_SF, 6)) rfl (q0 := 0) rfl) (hP) hE rfl hl.1 rfl (Nat.le_of_ble_eq_true rfl) d_SF_takePieces_116) ?_
            have l2 := zs_sg_lt B (ps + 10 * i) (zs_te n3 ps i) (zs_word f (nI i) (zs_use (zs_tl n3 ps i)))
            by_cases g2 : zs_two B (zs_te n3 ps i) = zs_sg B (ps + 10 * i) (zs_te n3 ps i) (zs_word f (nI i) (zs_use (zs_tl n3 ps i)))
            · rw [if_pos g2] at he
              refine lv_icmp_eq hx hb d_SF_takePieces_119 (tgt := 156) (by decide) (fun _ => ?_) (fun z9 => absurd (by rw [g2]) z9)
              refine lv_aload_n hx hb d_SF_takePieces_156 rfl (lv_at hl 7 rfl) ?_
              refine lv_iload_n hx hb d_SF_takePieces_157 rfl (lv_at hl 8 rfl) ?_
              refine lv_iload hx hb d_SF_takePieces_158 (lv_at hl 4 rfl) ?_
              refine lv_iload hx hb d_SF_takePieces_160 (lv_at hl 2 rfl) ?_
              refine lv_iload hx hb d_SF_takePieces_162 (lv_at hl 1 rfl) ?_
              refine zWr (rest := []) (zrV hS9 (c_SF_uncover l D cI cC cJ h n0 n1 F.1 n3 n4 f0 f1 fx f3 f4 (nI i) (by omega) (by omega) (by omega) (by omega) (by omega) hh B hB F.2 hM f i (ps + 10 * i) (zs_te n3 ps i) hte.1 (by omega)) zc_SF_uncover zw_422 zw_424 zp_21 (by decide) (va_recv hE.1 hP (ci := 1) (q := (R_SF, F_SF, 6)) rfl (q0 := 0) rfl) (hP) hE rfl hl.1 rfl (Nat.le_of_ble_eq_true rfl) d_SF_takePieces_164) hS (fun _ _ h => h) (fun _ h => h) (fun H locs hB1 hz hk hS => ?_)
              obtain ⟨fz, hM, hP⟩ := hB1
              have hP : va_P D zcl [((h 0), .inr (1, [.ref (h 1), .ref (h 3), .ref (h 5), .ref (h 7), .ref (h 9), .int (nI i)])), ((h 1), .inr (0, [.ref (h 2), .int (nI n0)])), ((h 2), .inl (cI, 4, .inl f0)), ((h 3), .inr (0, [.ref (h 4), .int (nI n1)])), ((h 4), .inl (cI, 4, .inl f1)), ((h 5), .inr (0, [.ref (h 6), .int (nI ((zs_unc B f i (ps + 10 * i) F ((zs_te n3 ps i) - (ps + 10 * i))).1))])), ((h 6), .inl (cI, 40, .inl fz)), ((h 7), .inr (0, [.ref (h 8), .int (nI n3)])), ((h 8), .inl (cI, 120, .inl f3)), ((h 9), .inr (0, [.ref (h 10), .int (nI n4)])), ((h 10), .inl (cI, 160, .inl f4))] H := hP
              have hD : va_D (zAS h) [((h 0), .inr (1, [.ref (h 1), .ref (h 3), .ref (h 5), .ref (h 7), .ref (h 9), .int (nI i)])), ((h 1), .inr (0, [.ref (h 2), .int (nI n0)])), ((h 2), .inl (cI, 4, .inl f0)), ((h 3), .inr (0, [.ref (h 4), .int (nI n1)])), ((h 4), .inl (cI, 4, .inl f1)), ((h 5), .inr (0, [.ref (h 6), .int (nI ((zs_unc B f i (ps + 10 * i) F ((zs_te n3 ps i) - (ps + 10 * i))).1))])), ((h 6), .inl (cI, 40, .inl fz)), ((h 7), .inr (0, [.ref (h 8), .int (nI n3)])), ((h 8), .inl (cI, 120, .inl f3)), ((h 9), .inr (0, [.ref (h 10), .int (nI n4)])), ((h 10), .inl (cI, 160, .inl f4))] := zSf_D hh
              have hM : zs_hold 256 fz (zs_unc B f i (ps + 10 * i) F ((zs_te n3 ps i) - (ps + 10 * i))) := hM
              refine lv_aload_n hx hb d_SF_takePieces_167 rfl (lv_at hl 7 rfl) ?_
              refine lv_dup hx hb d_SF_takePieces_168 rfl ?_
              refine va_get (D := D) (ci := 1) (v := .int (nI i)) (C := R_SF) (T := F_SF) (N := 6) hx hb hg i_SF hown hE.1 hP 0 rfl rfl 5 (by decide) (hg _ zw_45) (fun _ h9 => h9) rfl d_SF_takePieces_169 ?_
              refine lv_iconst (v := (nI 1)) hx hb d_SF_takePieces_172 (by decide) ?_
              refine lv_iadd hx hb d_SF_takePieces_173 ?_
              refine ztop (y := nI (i + 1)) (nI_1 i) ?_
              refine va_put (D := D) (ci := 1) (v := .int (nI (i + 1))) (ty := .int) (C := R_SF) (T := F_SF) (N := 6) hx hb hg i_SF t_SF t_SF_ok n_SF hown hE.1 hP hD hS 0 rfl rfl 5 (by decide) (hg _ zw_45) (fun _ h9 => h9) rfl (by decide +kernel) rfl rfl (Nat.le_of_ble_eq_true rfl) d_SF_takePieces_174 (fun H locs hP hD hS => ?_)
              have hP : va_P D zcl [((h 0), .inr (1, [.ref (h 1), .ref (h 3), .ref (h 5), .ref (h 7), .ref (h 9), .int (nI (i + 1))])), ((h 1), .inr (0, [.ref (h 2), .int (nI n0)])), ((h 2), .inl (cI, 4, .inl f0)), ((h 3), .inr (0, [.ref (h 4), .int (nI n1)])), ((h 4), .inl (cI, 4, .inl f1)), ((h 5), .inr (0, [.ref (h 6), .int (nI ((zs_unc B f i (ps + 10 * i) F ((zs_te n3 ps i) - (ps + 10 * i))).1))])), ((h 6), .inl (cI, 40, .inl fz)), ((h 7), .inr (0, [.ref (h 8), .int (nI n3)])), ((h 8), .inl (cI, 120, .inl f3)), ((h 9), .inr (0, [.ref (h 10), .int (nI n4)])), ((h 10), .inl (cI, 160, .inl f4))] H := hP
              have hD : va_D (zAS h) [((h 0), .inr (1, [.ref (h 1), .ref (h 3), .ref (h 5), .ref (h 7), .ref (h 9), .int (nI (i + 1))])), ((h 1), .inr (0, [.ref (h 2), .int (nI n0)])), ((h 2), .inl (cI, 4, .inl f0)), ((h 3), .inr (0, [.ref (h 4), .int (nI n1)])), ((h 4), .inl (cI, 4, .inl f1)), ((h 5), .inr (0, [.ref (h 6), .int (nI ((zs_unc B f i (ps + 10 * i) F ((zs_te n3 ps i) - (ps + 10 * i))).1))])), ((h 6), .inl (cI, 40, .inl fz)), ((h 7), .inr (0, [.ref (h 8), .int (nI n3)])), ((h 8), .inl (cI, 120, .inl f3)), ((h 9), .inr (0, [.ref (h 10), .int (nI n4)])), ((h 10), .inl (cI, 160, .inl f4))] := hD
              refine lv_iinc (k := 4) (v := nI (i + 1)) hx hb d_SF_takePieces_177 hl rfl (nI_1 i) (by decide) (lv' := [(5, .int (nI (i + 1))), (9, .int (nI (zs_two B (zs_te n3 ps i)))), (8, .int (nI (zs_te n3 ps i))), (7, .int (nI (ps + 10 * i))), (6, .int (nI (zs_tl n3 ps i))), (4, .int (nI ((n3 - ps - 1) / 10))), (3, .int (nI 10)), (0, .ref (h 0)), (1, .int f), (2, .int (nI ps))]) rfl (fun ls hl => ?_)
              refine lv_goto hx hb d_SF_takePieces_180 (tgt := 30) (by decide) ?_
              have hl : lv_has ls 10 [(5, .int (nI (i + 1))), (4, .int (nI ((n3 - ps - 1) / 10))), (3, .int (nI 10)), (0, .ref (h 0)), (1, .int f), (2, .int (nI ps))] := lv_sub hl [0, 5, 6, 7, 8, 9] rfl
              exact ih (i + 1) (zs_unc B f i (ps + 10 * i) F ((zs_te n3 ps i) - (ps + 10 * i))) fz H locs (by omega) (zs_unc_le B f i (ps + 10 * i) hF _) he hM hP hS ls hl
            · rw [if_neg g2] at he
              refine lv_icmp_eq hx hb d_SF_takePieces_119 (tgt := 156) (by decide) (fun z9 => absurd z9 (fun z => g2 ((nI_eq (by omega) (by omega)).mp z))) (fun _ => ?_)
              refine lv_iload hx hb d_SF_takePieces_122 (lv_at hl 0 rfl) ?_
              refine lv_aload_n hx hb d_SF_takePieces_124 rfl (lv_at hl 7 rfl) ?_
              refine lv_iload_n hx hb d_SF_takePieces_125 rfl (lv_at hl 8 rfl) ?_
              refine lv_iload hx hb d_SF_takePieces_126 (lv_at hl 4 rfl) ?_
              refine lv_iload hx hb d_SF_takePieces_128 (lv_at hl 2 rfl) ?_
              refine lv_iload hx hb d_SF_takePieces_130 (lv_at hl 1 rfl) ?_
              refine lv_iload hx hb d_SF_takePieces_132 (lv_at hl 3 rfl) ?_
              by_cases g : n3 ≤ ps + 10 * i + 10
              · refine lv_if_ne hx hb d_SF_takePieces_134 (tgt := 141) (by decide) (fun _ => ?_) (fun z9 => absurd z9 (by rw [zs_tl, if_pos g]; decide))
                refine lv_iconst (v := (nI 0)) hx hb d_SF_takePieces_141 (by decide) ?_
                refine ztop (y := nI (1 - (zs_tl n3 ps i))) (by rw [zs_tl, if_pos g]) ?_
                refine zRd (rest := [.int (nI (zs_two B (zs_te n3 ps i)))]) (zrV hS9 (c_SF_pieceSign l D cI cC cJ h n0 n1 F.1 n3 n4 f0 f1 fx f3 f4 (nI i) (by omega) (by omega) (by omega) (by omega) (by omega) B hB f i (ps + 10 * i) (zs_te n3 ps i) (1 - (zs_tl n3 ps i)) hte.1 (by omega) (by omega)) zc_SF_pieceSign zw_382 zw_384 zp_13 (by decide) (va_recv hE.1 hP (ci := 1) (q := (R_SF, F_SF, 6)) rfl (q0 := 0) rfl) (hP) hE rfl hl.1 rfl (Nat.le_of_ble_eq_true rfl) d_SF_takePieces_142) ?_
                have l3 := zs_sg_lt B (ps + 10 * i) (zs_te n3 ps i) (zs_word f (nI i) (zs_use (1 - (zs_tl n3 ps i))))
                by_cases g3 : zs_two B (zs_te n3 ps i) = zs_sg B (ps + 10 * i) (zs_te n3 ps i) (zs_word f (nI i) (zs_use (1 - (zs_tl n3 ps i))))
                · rw [if_pos g3] at he
                  refine lv_icmp_ne hx hb d_SF_takePieces_145 (tgt := 153) (by decide) (fun z9 => absurd (by rw [g3]) z9) (fun _ => ?_)
                  refine lv_bipush (v := (-5)) hx hb d_SF_takePieces_148 (by decide) ?_
                  refine lv_goto hx hb d_SF_takePieces_150 (tgt := 155) (by decide) ?_
                  exact W.iret (v := (-5)) hx hb hr (fun t ht _ => ⟨congrArg (fun z => Outcome.returned (some (Value.int z))) (by rw [← he]), by rw [ht]; rw [← he]; exact ⟨fx, hM, hP⟩, hS.F ht⟩) hS.2.2 d_SF_takePieces_155
                · rw [if_neg g3] at he
                  refine lv_icmp_ne hx hb d_SF_takePieces_145 (tgt := 153) (by decide) (fun _ => ?_) (fun z9 => absurd z9 (fun z => g3 ((nI_eq (by omega) (by omega)).mp z)))
                  refine lv_bipush (v := (-4)) hx hb d_SF_takePieces_153 (by decide) ?_
                  exact W.iret (v := (-4)) hx hb hr (fun t ht _ => ⟨congrArg (fun z => Outcome.returned (some (Value.int z))) (by rw [← he]), by rw [ht]; rw [← he]; exact ⟨fx, hM, hP⟩, hS.F ht⟩) hS.2.2 d_SF_takePieces_155
              · refine lv_if_ne hx hb d_SF_takePieces_134 (tgt := 141) (by decide) (fun z9 => absurd (by rw [zs_tl, if_neg g]; rfl) z9) (fun _ => ?_)
                refine lv_iconst (v := (nI 1)) hx hb d_SF_takePieces_137 (by decide) ?_
                refine lv_goto hx hb d_SF_takePieces_138 (tgt := 142) (by decide) ?_
                refine ztop (y := nI (1 - (zs_tl n3 ps i))) (by rw [zs_tl, if_neg g]) ?_
                refine zRd (rest := [.int (nI (zs_two B (zs_te n3 ps i)))]) (zrV hS9 (c_SF_pieceSign l D cI cC cJ h n0 n1 F.1 n3 n4 f0 f1 fx f3 f4 (nI i) (by omega) (by omega) (by omega) (by omega) (by omega) B hB f i (ps + 10 * i) (zs_te n3 ps i) (1 - (zs_tl n3 ps i)) hte.1 (by omega) (by omega)) zc_SF_pieceSign zw_382 zw_384 zp_13 (by decide) (va_recv hE.1 hP (ci := 1) (q := (R_SF, F_SF, 6)) rfl (q0 := 0) rfl) (hP) hE rfl hl.1 rfl (Nat.le_of_ble_eq_true rfl) d_SF_takePieces_142) ?_
                have l3 := zs_sg_lt B (ps + 10 * i) (zs_te n3 ps i) (zs_word f (nI i) (zs_use (1 - (zs_tl n3 ps i))))
                by_cases g3 : zs_two B (zs_te n3 ps i) = zs_sg B (ps + 10 * i) (zs_te n3 ps i) (zs_word f (nI i) (zs_use (1 - (zs_tl n3 ps i))))
                · rw [if_pos g3] at he
                  refine lv_icmp_ne hx hb d_SF_takePieces_145 (tgt := 153) (by decide) (fun z9 => absurd (by rw [g3]) z9) (fun _ => ?_)
                  refine lv_bipush (v := (-5)) hx hb d_SF_takePieces_148 (by decide) ?_
                  refine lv_goto hx hb d_SF_takePieces_150 (tgt := 155) (by decide) ?_
                  exact W.iret (v := (-5)) hx hb hr (fun t ht _ => ⟨congrArg (fun z => Outcome.returned (some (Value.int z))) (by rw [← he]), by rw [ht]; rw [← he]; exact ⟨fx, hM, hP⟩, hS.F ht⟩) hS.2.2 d_SF_takePieces_155
                · rw [if_neg g3] at he
                  refine lv_icmp_ne hx hb d_SF_takePieces_145 (tgt := 153) (by decide) (fun _ => ?_) (fun z9 => absurd z9 (fun z => g3 ((nI_eq (by omega) (by omega)).mp z)))
                  refine lv_bipush (v := (-4)) hx hb d_SF_takePieces_153 (by decide) ?_
                  exact W.iret (v := (-4)) hx hb hr (fun t ht _ => ⟨congrArg (fun z => Outcome.returned (some (Value.int z))) (by rw [← he]), by rw [ht]; rw [← he]; exact ⟨fx, hM, hP⟩, hS.F ht⟩) hS.2.2 d_SF_takePieces_155
        by_cases g : n3 ≤ ps + 10 * i + 10
        · refine lv_if_eq hx hb d_SF_takePieces_61 (tgt := 76) (by decide) (fun z9 => absurd z9 (by rw [zs_tl, if_pos g]; decide)) (fun _ => ?_)
          refine lv_aload_n hx hb d_SF_takePieces_64 rfl (lv_at hl 5 rfl) ?_
          refine va_get (D := D) (ci := 1) (v := .ref (h 7)) (C := R_SF) (T := F_SF) (N := 6) hx hb hg i_SF hown hE.1 hP 0 rfl rfl 3 (by decide) (hg _ zw_43) (fun _ h9 => h9) rfl d_SF_takePieces_65 ?_
          refine zRd (rest := []) (zrVN hS9 (c_RW_size l D cI cC cJ (h 7) (h 8) 120 n3 f3 (by omega) (by decide)) zc_RW_size (by decide) zw_85 zp_3 (by decide) (va_recv hE.1 hP (ci := 0) (q := (R_RW, F_RW, 2)) rfl (q0 := 7) rfl) (hP.sub [7, 8] rfl) hE rfl hl.1 rfl (Nat.le_of_ble_eq_true rfl) d_SF_takePieces_68) ?_
          refine lv_iconst (v := (nI 2)) hx hb d_SF_takePieces_71 (by decide) ?_
          refine lv_isub hx hb d_SF_takePieces_72 ?_
          refine ztop (y := nI (zs_te n3 ps i)) ((pk_sub (by omega)).trans (by rw [zs_te, if_pos g])) ?_
          refine lv_goto hx hb d_SF_takePieces_73 (tgt := 81) (by decide) ?_
          exact rest2 ls hl
        · refine lv_if_eq hx hb d_SF_takePieces_61 (tgt := 76) (by decide) (fun _ => ?_) (fun z9 => absurd (by rw [zs_tl, if_neg g]; decide) z9)
          refine lv_iload hx hb d_SF_takePieces_76 (lv_at hl 0 rfl) ?_
          refine lv_bipush (v := (nI 8)) hx hb d_SF_takePieces_78 (by decide) ?_
          refine lv_iadd hx hb d_SF_takePieces_80 ?_
          refine ztop (y := nI (zs_te n3 ps i)) (by rw [nI_add, zs_te, if_neg g]) ?_
          exact rest2 ls hl
      by_cases g : i = ((n3 - ps - 1) / 10)
      · refine lv_icmp_ne hx hb d_SF_takePieces_41 (tgt := 48) (by decide) (fun z9 => absurd (by rw [g]) z9) (fun _ => ?_)
        refine lv_iconst (v := (nI 1)) hx hb d_SF_takePieces_44 (by decide) ?_
        refine lv_goto hx hb d_SF_takePieces_45 (tgt := 49) (by decide) ?_
        refine ztop (y := nI (zs_tl n3 ps i)) (by rw [zs_tl, if_pos (by omega)]) ?_
        exact rest ls hl
      · refine lv_icmp_ne hx hb d_SF_takePieces_41 (tgt := 48) (by decide) (fun _ => ?_) (fun z9 => absurd z9 (fun z => g ((nI_eq (by omega) (by omega)).mp z)))
        refine lv_iconst (v := (nI 0)) hx hb d_SF_takePieces_48 (by decide) ?_
        refine ztop (y := nI (zs_tl n3 ps i)) (by rw [zs_tl, if_neg (by omega)]) ?_
        exact rest ls hl
  exact loop ((n3 - ps - 1) / 10 + 1) 0 (0, fun _ => 0) f2 H locs (by omega) (by omega) rfl zs_hold_0 hP hS ls hl

