set_option maxHeartbeats 4000000 in
set_option maxRecDepth 100000 in
theorem c_MD_write_ok (l : Launch) (D : va_G) (cI cC cJ : ClassId) (gg : Nat → Nat) (ft : Int32) (n0 : Nat) (S : Nat → Nat) (n2 : Nat) (M : Nat → Nat) (n3 : Nat) (B : Nat → Nat) (n4 : Nat) (E : Nat → Nat) (rt : Nat) (hh : zm_inj gg) (hn0 : n0 ≤ 4) (hn2 : n2 ≤ 40) (hn3 : n3 ≤ 120) (hn4 : n4 ≤ 160) (c9 y9 : Nat) (hc9 : c9 < 65536) (hy9 : zs_six c9 = nI y9) (hy64 : y9 < 64) (hr9 : n4 < 160) : Met l y_MD_write (zw k_MD_write) ({ frames := 1, cells := 0, slots := 0, locals := 20 }) (zPc [.ref (gg 0), .int (nI c9)] (fun H => zMo D cI cC gg ft n0 S n2 M n3 B n4 E rt H) D cI cC cJ) (zQm (some (.int (nI 1))) (fun H => zMo D cI cC gg (nI 0) n0 S n2 M n3 B (n4 + 1) (zs_push (n4, E) y9).2 rt H) (zAM gg)) 0 0 (zAM gg) := by
  refine zMet (by decide) (Nat.le_of_ble_eq_true rfl) ?_
  intro p e s m below meth c hx hb hr hg hown hlk hml hB0 hE ls hl
  have hl : lv_has ls 2 [(0, .ref (gg 0)), (1, .int (nI c9))] := hl
  have hS9 : CallFix p m c b_MD_write 2 s [.ref (gg 0), .int (nI c9)].toArray zg "SealedFilesModel" := ⟨hx, hb, hml, hown, hg⟩
  obtain ⟨rd, e0, e2, e3, e5, e4, hS0, hM, hB, hE9, hP⟩ := hB0
  have hP : va_P D zcl [((gg 0), .inr (2, [.int ft, .int (nI n0), .ref (gg 1), .int (nI n2), .int (nI n3), .int (nI rt), .ref (gg 2), .ref (gg 3), .ref (gg 4), .int (nI rd), .int (nI n4), .ref (gg 5)])), ((gg 1), .inl (cI, 4, .inl e0)), ((gg 2), .inl (cI, 40, .inl e2)), ((gg 3), .inl (cI, 120, .inl e3)), ((gg 4), .inl (cI, 40, .inl e5)), ((gg 5), .inl (cC, 160, .inl e4))] s.heap := hP
  have hD : va_D (zAM gg) [((gg 0), .inr (2, [.int ft, .int (nI n0), .ref (gg 1), .int (nI n2), .int (nI n3), .int (nI rt), .ref (gg 2), .ref (gg 3), .ref (gg 4), .int (nI rd), .int (nI n4), .ref (gg 5)])), ((gg 1), .inl (cI, 4, .inl e0)), ((gg 2), .inl (cI, 40, .inl e2)), ((gg 3), .inl (cI, 120, .inl e3)), ((gg 4), .inl (cI, 40, .inl e5)), ((gg 5), .inl (cC, 160, .inl e4))] := zMd_D hh
  have hS : va_S (zAM gg) s.heap s.heap [] := va_S.rf
  refine lv_aload_n hx hb d_MD_write_0 rfl (lv_at hl 0 rfl) ?_
  refine lv_iconst (v := (nI 0)) hx hb d_MD_write_1 (by decide) ?_
  refine va_put (D := D) (ci := 2) (v := .int (nI 0)) (ty := .int) (C := R_MD) (T := F_MD) (N := 12) hx hb hg i_MD t_MD t_MD_ok n_MD hown hE.1 hP hD hS 0 rfl rfl 0 (by decide) (hg _ zw_488) (fun _ h9 => h9) rfl (by decide +kernel) rfl rfl (Nat.le_of_ble_eq_true rfl) d_MD_write_2 (fun H locs hP hD hS => ?_)
  have hP : va_P D zcl [((gg 0), .inr (2, [.int (nI 0), .int (nI n0), .ref (gg 1), .int (nI n2), .int (nI n3), .int (nI rt), .ref (gg 2), .ref (gg 3), .ref (gg 4), .int (nI rd), .int (nI n4), .ref (gg 5)])), ((gg 1), .inl (cI, 4, .inl e0)), ((gg 2), .inl (cI, 40, .inl e2)), ((gg 3), .inl (cI, 120, .inl e3)), ((gg 4), .inl (cI, 40, .inl e5)), ((gg 5), .inl (cC, 160, .inl e4))] H := hP
  have hD : va_D (zAM gg) [((gg 0), .inr (2, [.int (nI 0), .int (nI n0), .ref (gg 1), .int (nI n2), .int (nI n3), .int (nI rt), .ref (gg 2), .ref (gg 3), .ref (gg 4), .int (nI rd), .int (nI n4), .ref (gg 5)])), ((gg 1), .inl (cI, 4, .inl e0)), ((gg 2), .inl (cI, 40, .inl e2)), ((gg 3), .inl (cI, 120, .inl e3)), ((gg 4), .inl (cI, 40, .inl e5)), ((gg 5), .inl (cC, 160, .inl e4))] := hD
  refine lv_aload_n hx hb d_MD_write_5 rfl (lv_at hl 0 rfl) ?_
  refine va_get (D := D) (ci := 2) (v := .int (nI n4)) (C := R_MD) (T := F_MD) (N := 12) hx hb hg i_MD hown hE.1 hP 0 rfl rfl 10 (by decide) (hg _ zw_498) (fun _ h9 => h9) rfl d_MD_write_6 ?_
  refine lv_sipush (v := (nI 160)) hx hb d_MD_write_9 (by decide) ?_
  refine lv_icmp_eq hx hb d_MD_write_12 (tgt := 22) (by decide) (fun z9 => absurd z9 (fun z => absurd ((nI_eq (by omega) (by omega)).mp z) (by omega))) (fun _ => ?_)
  refine lv_iload_n hx hb d_MD_write_15 rfl (lv_at hl 1 rfl) ?_
  refine zRd (rest := []) (zrS hS9 (c_MD_sixOf l D cI cC cJ c9 (hc9)) zc_MD_sixOf zw_643 zw_644 (by decide) (trivial) hE rfl hl.1 rfl (Nat.le_of_ble_eq_true rfl) d_MD_write_16) ?_
  refine lv_if_ge hx hb d_MD_write_19 (tgt := 24) (by decide) (fun _ => ?_) (fun z9 => absurd (by rw [hy9]; exact nI_pos' (by omega)) z9)
  refine lv_aload_n hx hb d_MD_write_24 rfl (lv_at hl 0 rfl) ?_
  refine va_get (D := D) (ci := 2) (v := .ref (gg 5)) (C := R_MD) (T := F_MD) (N := 12) hx hb hg i_MD hown hE.1 hP 0 rfl rfl 11 (by decide) (hg _ zw_499) (fun _ h9 => h9) rfl d_MD_write_25 ?_
  refine lv_aload_n hx hb d_MD_write_28 rfl (lv_at hl 0 rfl) ?_
  refine va_get (D := D) (ci := 2) (v := .int (nI n4)) (C := R_MD) (T := F_MD) (N := 12) hx hb hg i_MD hown hE.1 hP 0 rfl rfl 10 (by decide) (hg _ zw_498) (fun _ h9 => h9) rfl d_MD_write_29 ?_
  refine lv_iload_n hx hb d_MD_write_32 rfl (lv_at hl 1 rfl) ?_
  refine zcast hx hb hE.1 hP hD hS 5 1 rfl rfl hc9 (hr9) (by decide) d_MD_write_33 (fun H locs hP hD hS => ?_)
  have hP : va_P D zcl [((gg 0), .inr (2, [.int (nI 0), .int (nI n0), .ref (gg 1), .int (nI n2), .int (nI n3), .int (nI rt), .ref (gg 2), .ref (gg 3), .ref (gg 4), .int (nI rd), .int (nI n4), .ref (gg 5)])), ((gg 1), .inl (cI, 4, .inl e0)), ((gg 2), .inl (cI, 40, .inl e2)), ((gg 3), .inl (cI, 120, .inl e3)), ((gg 4), .inl (cI, 40, .inl e5)), ((gg 5), .inl (cC, 160, .inl (upd e4 n4 (nI c9))))] H := hP
  have hD : va_D (zAM gg) [((gg 0), .inr (2, [.int (nI 0), .int (nI n0), .ref (gg 1), .int (nI n2), .int (nI n3), .int (nI rt), .ref (gg 2), .ref (gg 3), .ref (gg 4), .int (nI rd), .int (nI n4), .ref (gg 5)])), ((gg 1), .inl (cI, 4, .inl e0)), ((gg 2), .inl (cI, 40, .inl e2)), ((gg 3), .inl (cI, 120, .inl e3)), ((gg 4), .inl (cI, 40, .inl e5)), ((gg 5), .inl (cC, 160, .inl (upd e4 n4 (nI c9))))] := hD
  refine lv_aload_n hx hb d_MD_write_34 rfl (lv_at hl 0 rfl) ?_
  refine lv_dup hx hb d_MD_write_35 rfl ?_
  refine va_get (D := D) (ci := 2) (v := .int (nI n4)) (C := R_MD) (T := F_MD) (N := 12) hx hb hg i_MD hown hE.1 hP 0 rfl rfl 10 (by decide) (hg _ zw_498) (fun _ h9 => h9) rfl d_MD_write_36 ?_
  refine lv_iconst (v := (nI 1)) hx hb d_MD_write_39 (by decide) ?_
  refine lv_iadd hx hb d_MD_write_40 ?_
  refine ztop (y := nI (n4 + 1)) (nI_1 _) ?_
  refine va_put (D := D) (ci := 2) (v := .int (nI (n4 + 1))) (ty := .int) (C := R_MD) (T := F_MD) (N := 12) hx hb hg i_MD t_MD t_MD_ok n_MD hown hE.1 hP hD hS 0 rfl rfl 10 (by decide) (hg _ zw_498) (fun _ h9 => h9) rfl (by decide +kernel) rfl rfl (Nat.le_of_ble_eq_true rfl) d_MD_write_41 (fun H locs hP hD hS => ?_)
  have hP : va_P D zcl [((gg 0), .inr (2, [.int (nI 0), .int (nI n0), .ref (gg 1), .int (nI n2), .int (nI n3), .int (nI rt), .ref (gg 2), .ref (gg 3), .ref (gg 4), .int (nI rd), .int (nI (n4 + 1)), .ref (gg 5)])), ((gg 1), .inl (cI, 4, .inl e0)), ((gg 2), .inl (cI, 40, .inl e2)), ((gg 3), .inl (cI, 120, .inl e3)), ((gg 4), .inl (cI, 40, .inl e5)), ((gg 5), .inl (cC, 160, .inl (upd e4 n4 (nI c9))))] H := hP
  have hD : va_D (zAM gg) [((gg 0), .inr (2, [.int (nI 0), .int (nI n0), .ref (gg 1), .int (nI n2), .int (nI n3), .int (nI rt), .ref (gg 2), .ref (gg 3), .ref (gg 4), .int (nI rd), .int (nI (n4 + 1)), .ref (gg 5)])), ((gg 1), .inl (cI, 4, .inl e0)), ((gg 2), .inl (cI, 40, .inl e2)), ((gg 3), .inl (cI, 120, .inl e3)), ((gg 4), .inl (cI, 40, .inl e5)), ((gg 5), .inl (cC, 160, .inl (upd e4 n4 (nI c9))))] := hD
  have hE9 := zd_hold_push hE9 hc9 hy9 hy64
  refine lv_iconst (v := (nI 1)) hx hb d_MD_write_44 (by decide) ?_
  exact W.zret (v := (nI 1)) hx hb hr (rfl) (fun t ht _ => ⟨rfl, by rw [ht]; exact ⟨rd, e0, e2, e3, e5, (upd e4 n4 (nI c9)), hS0, hM, hB, hE9, hP⟩, hS.F ht⟩) hS.2.2 d_MD_write_45

set_option maxHeartbeats 4000000 in
set_option maxRecDepth 100000 in
theorem c_MD_write_no (l : Launch) (D : va_G) (cI cC cJ : ClassId) (gg : Nat → Nat) (ft : Int32) (n0 : Nat) (S : Nat → Nat) (n2 : Nat) (M : Nat → Nat) (n3 : Nat) (B : Nat → Nat) (n4 : Nat) (E : Nat → Nat) (rt : Nat) (hh : zm_inj gg) (hn0 : n0 ≤ 4) (hn2 : n2 ≤ 40) (hn3 : n3 ≤ 120) (hn4 : n4 ≤ 160) (c9 : Nat) (hc9 : c9 < 65536) (hx9 : n4 = 160 ∨ zs_six c9 = -1) : Met l y_MD_write (zw k_MD_write) ({ frames := 1, cells := 0, slots := 0, locals := 20 }) (zPc [.ref (gg 0), .int (nI c9)] (fun H => zMo D cI cC gg ft n0 S n2 M n3 B n4 E rt H) D cI cC cJ) (zQm (some (.int (nI 0))) (fun H => zMo D cI cC gg (nI 0) n0 S n2 M n3 B n4 E rt H) (zAM gg)) 0 0 (zAM gg) := by
  refine zMet (by decide) (Nat.le_of_ble_eq_true rfl) ?_
  intro p e s m below meth c hx hb hr hg hown hlk hml hB0 hE ls hl
  have hl : lv_has ls 2 [(0, .ref (gg 0)), (1, .int (nI c9))] := hl
  have hS9 : CallFix p m c b_MD_write 2 s [.ref (gg 0), .int (nI c9)].toArray zg "SealedFilesModel" := ⟨hx, hb, hml, hown, hg⟩
  obtain ⟨rd, e0, e2, e3, e5, e4, hS0, hM, hB, hE9, hP⟩ := hB0
  have hP : va_P D zcl [((gg 0), .inr (2, [.int ft, .int (nI n0), .ref (gg 1), .int (nI n2), .int (nI n3), .int (nI rt), .ref (gg 2), .ref (gg 3), .ref (gg 4), .int (nI rd), .int (nI n4), .ref (gg 5)])), ((gg 1), .inl (cI, 4, .inl e0)), ((gg 2), .inl (cI, 40, .inl e2)), ((gg 3), .inl (cI, 120, .inl e3)), ((gg 4), .inl (cI, 40, .inl e5)), ((gg 5), .inl (cC, 160, .inl e4))] s.heap := hP
  have hD : va_D (zAM gg) [((gg 0), .inr (2, [.int ft, .int (nI n0), .ref (gg 1), .int (nI n2), .int (nI n3), .int (nI rt), .ref (gg 2), .ref (gg 3), .ref (gg 4), .int (nI rd), .int (nI n4), .ref (gg 5)])), ((gg 1), .inl (cI, 4, .inl e0)), ((gg 2), .inl (cI, 40, .inl e2)), ((gg 3), .inl (cI, 120, .inl e3)), ((gg 4), .inl (cI, 40, .inl e5)), ((gg 5), .inl (cC, 160, .inl e4))] := zMd_D hh
  have hS : va_S (zAM gg) s.heap s.heap [] := va_S.rf
  refine lv_aload_n hx hb d_MD_write_0 rfl (lv_at hl 0 rfl) ?_
  refine lv_iconst (v := (nI 0)) hx hb d_MD_write_1 (by decide) ?_
  refine va_put (D := D) (ci := 2) (v := .int (nI 0)) (ty := .int) (C := R_MD) (T := F_MD) (N := 12) hx hb hg i_MD t_MD t_MD_ok n_MD hown hE.1 hP hD hS 0 rfl rfl 0 (by decide) (hg _ zw_488) (fun _ h9 => h9) rfl (by decide +kernel) rfl rfl (Nat.le_of_ble_eq_true rfl) d_MD_write_2 (fun H locs hP hD hS => ?_)
  have hP : va_P D zcl [((gg 0), .inr (2, [.int (nI 0), .int (nI n0), .ref (gg 1), .int (nI n2), .int (nI n3), .int (nI rt), .ref (gg 2), .ref (gg 3), .ref (gg 4), .int (nI rd), .int (nI n4), .ref (gg 5)])), ((gg 1), .inl (cI, 4, .inl e0)), ((gg 2), .inl (cI, 40, .inl e2)), ((gg 3), .inl (cI, 120, .inl e3)), ((gg 4), .inl (cI, 40, .inl e5)), ((gg 5), .inl (cC, 160, .inl e4))] H := hP
  have hD : va_D (zAM gg) [((gg 0), .inr (2, [.int (nI 0), .int (nI n0), .ref (gg 1), .int (nI n2), .int (nI n3), .int (nI rt), .ref (gg 2), .ref (gg 3), .ref (gg 4), .int (nI rd), .int (nI n4), .ref (gg 5)])), ((gg 1), .inl (cI, 4, .inl e0)), ((gg 2), .inl (cI, 40, .inl e2)), ((gg 3), .inl (cI, 120, .inl e3)), ((gg 4), .inl (cI, 40, .inl e5)), ((gg 5), .inl (cC, 160, .inl e4))] := hD
  refine lv_aload_n hx hb d_MD_write_5 rfl (lv_at hl 0 rfl) ?_
  refine va_get (D := D) (ci := 2) (v := .int (nI n4)) (C := R_MD) (T := F_MD) (N := 12) hx hb hg i_MD hown hE.1 hP 0 rfl rfl 10 (by decide) (hg _ zw_498) (fun _ h9 => h9) rfl d_MD_write_6 ?_
  refine lv_sipush (v := (nI 160)) hx hb d_MD_write_9 (by decide) ?_
  have rest : ∀ ls : Array Slot, lv_has ls 2 [(0, .ref (gg 0)), (1, .int (nI c9))] → W p l e ({ frames := 1, cells := 0, slots := 0, locals := 20 }) s m [.ref (gg 0), .int (nI c9)].toArray below meth c H locs 0 0 (MQ below (zQm (some (.int (nI 0))) (fun H => zMo D cI cC gg (nI 0) n0 S n2 M n3 B n4 E rt H) (zAM gg)) [.ref (gg 0), .int (nI c9)].toArray s 0 0 (zAM gg)) (F0 m 22 ls []) := by
    intro ls hl
    refine lv_iconst (v := (nI 0)) hx hb d_MD_write_22 (by decide) ?_
    exact W.zret (v := (nI 0)) hx hb hr (rfl) (fun t ht _ => ⟨rfl, by rw [ht]; exact ⟨rd, e0, e2, e3, e5, e4, hS0, hM, hB, hE9, hP⟩, hS.F ht⟩) hS.2.2 d_MD_write_23
  by_cases g : n4 = 160
  · refine lv_icmp_eq hx hb d_MD_write_12 (tgt := 22) (by decide) (fun _ => ?_) (fun z9 => absurd (by rw [g]) z9)
    exact rest ls hl
  · refine lv_icmp_eq hx hb d_MD_write_12 (tgt := 22) (by decide) (fun z9 => absurd z9 (fun z => g ((nI_eq (by omega) (by omega)).mp z))) (fun _ => ?_)
    refine lv_iload_n hx hb d_MD_write_15 rfl (lv_at hl 1 rfl) ?_
    refine zRd (rest := []) (zrS hS9 (c_MD_sixOf l D cI cC cJ c9 (hc9)) zc_MD_sixOf zw_643 zw_644 (by decide) (trivial) hE rfl hl.1 rfl (Nat.le_of_ble_eq_true rfl) d_MD_write_16) ?_
    refine lv_if_ge hx hb d_MD_write_19 (tgt := 24) (by decide) (fun z9 => absurd z9 (by rw [hx9.resolve_left g]; decide)) (fun _ => ?_)
    exact rest ls hl

set_option maxHeartbeats 4000000 in
set_option maxRecDepth 100000 in
theorem c_MD_print_no (l : Launch) (D : va_G) (cI cC cJ : ClassId) (gg : Nat → Nat) (ft : Int32) (n0 : Nat) (S : Nat → Nat) (n2 : Nat) (M : Nat → Nat) (n3 : Nat) (B : Nat → Nat) (n4 : Nat) (E : Nat → Nat) (rt : Nat) (hh : zm_inj gg) (hn0 : n0 ≤ 4) (hn2 : n2 ≤ 40) (hn3 : n3 ≤ 120) (hn4 : n4 ≤ 160) (x : Int32) (hx9 : x < 0 ∨ nI ((n3 * 8 + 5) / 6) ≤ x) : Met l y_MD_print (zw k_MD_print) ({ frames := 1, cells := 0, slots := 0, locals := 21 }) (zPc [.ref (gg 0), .int x] (fun H => zMo D cI cC gg ft n0 S n2 M n3 B n4 E rt H) D cI cC cJ) (zQm (some (.int (-1))) (fun H => zMo D cI cC gg (nI 0) n0 S n2 M n3 B n4 E rt H) (zAM gg)) 0 0 (zAM gg) := by
  refine zMet (by decide) (Nat.le_of_ble_eq_true rfl) ?_
  intro p e s m below meth c hx hb hr hg hown hlk hml hB0 hE ls hl
  have hl : lv_has ls 4 [(0, .ref (gg 0)), (1, .int x)] := hl
  have hS9 : CallFix p m c b_MD_print 4 s [.ref (gg 0), .int x].toArray zg "SealedFilesModel" := ⟨hx, hb, hml, hown, hg⟩
  obtain ⟨rd, e0, e2, e3, e5, e4, hS0, hM, hB, hE9, hP⟩ := hB0
  have hP : va_P D zcl [((gg 0), .inr (2, [.int ft, .int (nI n0), .ref (gg 1), .int (nI n2), .int (nI n3), .int (nI rt), .ref (gg 2), .ref (gg 3), .ref (gg 4), .int (nI rd), .int (nI n4), .ref (gg 5)])), ((gg 1), .inl (cI, 4, .inl e0)), ((gg 2), .inl (cI, 40, .inl e2)), ((gg 3), .inl (cI, 120, .inl e3)), ((gg 4), .inl (cI, 40, .inl e5)), ((gg 5), .inl (cC, 160, .inl e4))] s.heap := hP
  have hD : va_D (zAM gg) [((gg 0), .inr (2, [.int ft, .int (nI n0), .ref (gg 1), .int (nI n2), .int (nI n3), .int (nI rt), .ref (gg 2), .ref (gg 3), .ref (gg 4), .int (nI rd), .int (nI n4), .ref (gg 5)])), ((gg 1), .inl (cI, 4, .inl e0)), ((gg 2), .inl (cI, 40, .inl e2)), ((gg 3), .inl (cI, 120, .inl e3)), ((gg 4), .inl (cI, 40, .inl e5)), ((gg 5), .inl (cC, 160, .inl e4))] := zMd_D hh
  have hS : va_S (zAM gg) s.heap s.heap [] := va_S.rf
  refine lv_aload_n hx hb d_MD_print_0 rfl (lv_at hl 0 rfl) ?_
  refine lv_iconst (v := (nI 0)) hx hb d_MD_print_1 (by decide) ?_
  refine va_put (D := D) (ci := 2) (v := .int (nI 0)) (ty := .int) (C := R_MD) (T := F_MD) (N := 12) hx hb hg i_MD t_MD t_MD_ok n_MD hown hE.1 hP hD hS 0 rfl rfl 0 (by decide) (hg _ zw_488) (fun _ h9 => h9) rfl (by decide +kernel) rfl rfl (Nat.le_of_ble_eq_true rfl) d_MD_print_2 (fun H locs hP hD hS => ?_)
  have hP : va_P D zcl [((gg 0), .inr (2, [.int (nI 0), .int (nI n0), .ref (gg 1), .int (nI n2), .int (nI n3), .int (nI rt), .ref (gg 2), .ref (gg 3), .ref (gg 4), .int (nI rd), .int (nI n4), .ref (gg 5)])), ((gg 1), .inl (cI, 4, .inl e0)), ((gg 2), .inl (cI, 40, .inl e2)), ((gg 3), .inl (cI, 120, .inl e3)), ((gg 4), .inl (cI, 40, .inl e5)), ((gg 5), .inl (cC, 160, .inl e4))] H := hP
  have hD : va_D (zAM gg) [((gg 0), .inr (2, [.int (nI 0), .int (nI n0), .ref (gg 1), .int (nI n2), .int (nI n3), .int (nI rt), .ref (gg 2), .ref (gg 3), .ref (gg 4), .int (nI rd), .int (nI n4), .ref (gg 5)])), ((gg 1), .inl (cI, 4, .inl e0)), ((gg 2), .inl (cI, 40, .inl e2)), ((gg 3), .inl (cI, 120, .inl e3)), ((gg 4), .inl (cI, 40, .inl e5)), ((gg 5), .inl (cC, 160, .inl e4))] := hD
  refine lv_iload_n hx hb d_MD_print_5 rfl (lv_at hl 1 rfl) ?_
  have rest : ∀ ls : Array Slot, lv_has ls 4 [(0, .ref (gg 0)), (1, .int x)] → W p l e ({ frames := 1, cells := 0, slots := 0, locals := 21 }) s m [.ref (gg 0), .int x].toArray below meth c H locs 0 0 (MQ below (zQm (some (.int (-1))) (fun H => zMo D cI cC gg (nI 0) n0 S n2 M n3 B n4 E rt H) (zAM gg)) [.ref (gg 0), .int x].toArray s 0 0 (zAM gg)) (F0 m 30 ls []) := by
    intro ls hl
    refine lv_iconst (v := (-1)) hx hb d_MD_print_30 (by decide) ?_
    exact W.iret (v := (-1)) hx hb hr (fun t ht _ => ⟨rfl, by rw [ht]; exact ⟨rd, e0, e2, e3, e5, e4, hS0, hM, hB, hE9, hP⟩, hS.F ht⟩) hS.2.2 d_MD_print_31
  refine lv_if_lt hx hb d_MD_print_6 (tgt := 30) (by decide) (fun g => ?_) (fun g => ?_)
  · exact rest ls hl
  · obtain ⟨i, hi, rfl⟩ := nI_of g
    have hge : (n3 * 8 + 5) / 6 ≤ i := (nI_leI (by omega) (by omega)).mp (hx9.resolve_left g)
    refine lv_iload_n hx hb d_MD_print_9 rfl (lv_at hl 1 rfl) ?_
    refine lv_sipush (v := (nI 160)) hx hb d_MD_print_10 (by decide) ?_
    by_cases g2 : 160 ≤ i
    · refine lv_icmp_ge hx hb d_MD_print_13 (tgt := 30) (by decide) (fun _ => ?_) (fun z9 => absurd (nI_le g2 (by omega)) z9)
      exact rest ls hl
    · refine lv_icmp_ge hx hb d_MD_print_13 (tgt := 30) (by decide) (fun z9 => absurd z9 (nI_ge (by omega) (by omega))) (fun _ => ?_)
      refine lv_bipush (v := (nI 6)) hx hb d_MD_print_16 (by decide) ?_
      refine lv_iload_n hx hb d_MD_print_18 rfl (lv_at hl 1 rfl) ?_
      refine lv_imul hx hb d_MD_print_19 ?_
      refine ztop (y := nI (6 * i)) (pk_mul _ _) ?_
      refine lv_bipush (v := (nI 8)) hx hb d_MD_print_20 (by decide) ?_
      refine lv_aload_n hx hb d_MD_print_22 rfl (lv_at hl 0 rfl) ?_
      refine va_get (D := D) (ci := 2) (v := .int (nI n3)) (C := R_MD) (T := F_MD) (N := 12) hx hb hg i_MD hown hE.1 hP 0 rfl rfl 4 (by decide) (hg _ zw_492) (fun _ h9 => h9) rfl d_MD_print_23 ?_
      refine lv_imul hx hb d_MD_print_26 ?_
      refine ztop (y := nI (8 * n3)) (pk_mul _ _) ?_
      refine lv_icmp_lt hx hb d_MD_print_27 (tgt := 32) (by decide) (fun z9 => absurd z9 (nI_nlt (by omega) (by omega))) (fun _ => ?_)
      exact rest ls hl

set_option maxHeartbeats 4000000 in
set_option maxRecDepth 100000 in
theorem c_MD_print_ok (l : Launch) (D : va_G) (cI cC cJ : ClassId) (gg : Nat → Nat) (ft : Int32) (n0 : Nat) (S : Nat → Nat) (n2 : Nat) (M : Nat → Nat) (n3 : Nat) (B : Nat → Nat) (n4 : Nat) (E : Nat → Nat) (rt : Nat) (hh : zm_inj gg) (hn0 : n0 ≤ 4) (hn2 : n2 ≤ 40) (hn3 : n3 ≤ 120) (hn4 : n4 ≤ 160) (i : Nat) (hi : i * 6 < n3 * 8) : Met l y_MD_print (zw k_MD_print) ({ frames := 1, cells := 0, slots := 0, locals := 21 }) (zPc [.ref (gg 0), .int (nI i)] (fun H => zMo D cI cC gg ft n0 S n2 M n3 B n4 E rt H) D cI cC cJ) (zQm (some (.int (nI (zs_chr (zs_p6 n3 B i))))) (fun H => zMo D cI cC gg (nI 0) n0 S n2 M n3 B n4 E rt H) (zAM gg)) 0 0 (zAM gg) := by
  refine zMet (by decide) (Nat.le_of_ble_eq_true rfl) ?_
  intro p e s m below meth c hx hb hr hg hown hlk hml hB0 hE ls hl
  have hl : lv_has ls 4 [(0, .ref (gg 0)), (1, .int (nI i))] := hl
  have hS9 : CallFix p m c b_MD_print 4 s [.ref (gg 0), .int (nI i)].toArray zg "SealedFilesModel" := ⟨hx, hb, hml, hown, hg⟩
  obtain ⟨rd, e0, e2, e3, e5, e4, hS0, hM, hB, hE9, hP⟩ := hB0
  have hP : va_P D zcl [((gg 0), .inr (2, [.int ft, .int (nI n0), .ref (gg 1), .int (nI n2), .int (nI n3), .int (nI rt), .ref (gg 2), .ref (gg 3), .ref (gg 4), .int (nI rd), .int (nI n4), .ref (gg 5)])), ((gg 1), .inl (cI, 4, .inl e0)), ((gg 2), .inl (cI, 40, .inl e2)), ((gg 3), .inl (cI, 120, .inl e3)), ((gg 4), .inl (cI, 40, .inl e5)), ((gg 5), .inl (cC, 160, .inl e4))] s.heap := hP
  have hD : va_D (zAM gg) [((gg 0), .inr (2, [.int ft, .int (nI n0), .ref (gg 1), .int (nI n2), .int (nI n3), .int (nI rt), .ref (gg 2), .ref (gg 3), .ref (gg 4), .int (nI rd), .int (nI n4), .ref (gg 5)])), ((gg 1), .inl (cI, 4, .inl e0)), ((gg 2), .inl (cI, 40, .inl e2)), ((gg 3), .inl (cI, 120, .inl e3)), ((gg 4), .inl (cI, 40, .inl e5)), ((gg 5), .inl (cC, 160, .inl e4))] := zMd_D hh
  have hS : va_S (zAM gg) s.heap s.heap [] := va_S.rf
  refine lv_aload_n hx hb d_MD_print_0 rfl (lv_at hl 0 rfl) ?_
  refine lv_iconst (v := (nI 0)) hx hb d_MD_print_1 (by decide) ?_
  refine va_put (D := D) (ci := 2) (v := .int (nI 0)) (ty := .int) (C := R_MD) (T := F_MD) (N := 12) hx hb hg i_MD t_MD t_MD_ok n_MD hown hE.1 hP hD hS 0 rfl rfl 0 (by decide) (hg _ zw_488) (fun _ h9 => h9) rfl (by decide +kernel) rfl rfl (Nat.le_of_ble_eq_true rfl) d_MD_print_2 (fun H locs hP hD hS => ?_)
  have hP : va_P D zcl [((gg 0), .inr (2, [.int (nI 0), .int (nI n0), .ref (gg 1), .int (nI n2), .int (nI n3), .int (nI rt), .ref (gg 2), .ref (gg 3), .ref (gg 4), .int (nI rd), .int (nI n4), .ref (gg 5)])), ((gg 1), .inl (cI, 4, .inl e0)), ((gg 2), .inl (cI, 40, .inl e2)), ((gg 3), .inl (cI, 120, .inl e3)), ((gg 4), .inl (cI, 40, .inl e5)), ((gg 5), .inl (cC, 160, .inl e4))] H := hP
  have hD : va_D (zAM gg) [((gg 0), .inr (2, [.int (nI 0), .int (nI n0), .ref (gg 1), .int (nI n2), .int (nI n3), .int (nI rt), .ref (gg 2), .ref (gg 3), .ref (gg 4), .int (nI rd), .int (nI n4), .ref (gg 5)])), ((gg 1), .inl (cI, 4, .inl e0)), ((gg 2), .inl (cI, 40, .inl e2)), ((gg 3), .inl (cI, 120, .inl e3)), ((gg 4), .inl (cI, 40, .inl e5)), ((gg 5), .inl (cC, 160, .inl e4))] := hD
  refine lv_iload_n hx hb d_MD_print_5 rfl (lv_at hl 1 rfl) ?_
  refine lv_if_lt hx hb d_MD_print_6 (tgt := 30) (by decide) (fun z9 => absurd z9 (nI_pos (by omega))) (fun _ => ?_)
  refine lv_iload_n hx hb d_MD_print_9 rfl (lv_at hl 1 rfl) ?_
  refine lv_sipush (v := (nI 160)) hx hb d_MD_print_10 (by decide) ?_
  refine lv_icmp_ge hx hb d_MD_print_13 (tgt := 30) (by decide) (fun z9 => absurd z9 (nI_ge (by omega) (by omega))) (fun _ => ?_)
  refine lv_bipush (v := (nI 6)) hx hb d_MD_print_16 (by decide) ?_
  refine lv_iload_n hx hb d_MD_print_18 rfl (lv_at hl 1 rfl) ?_
  refine lv_imul hx hb d_MD_print_19 ?_
  refine ztop (y := nI (6 * i)) (pk_mul _ _) ?_
  refine lv_bipush (v := (nI 8)) hx hb d_MD_print_20 (by decide) ?_
  refine lv_aload_n hx hb d_MD_print_22 rfl (lv_at hl 0 rfl) ?_
  refine va_get (D := D) (ci := 2) (v := .int (nI n3)) (C := R_MD) (T := F_MD) (N := 12) hx hb hg i_MD hown hE.1 hP 0 rfl rfl 4 (by decide) (hg _ zw_492) (fun _ h9 => h9) rfl d_MD_print_23 ?_
  refine lv_imul hx hb d_MD_print_26 ?_
  refine ztop (y := nI (8 * n3)) (pk_mul _ _) ?_
  refine lv_icmp_lt hx hb d_MD_print_27 (tgt := 32) (by decide) (fun _ => ?_) (fun z9 => absurd (nI_lt (by omega) (by omega)) z9)
  refine lv_iconst (v := (nI 0)) hx hb d_MD_print_32 (by decide) ?_
  refine lv_istore_n hx hb d_MD_print_33 rfl hl (by decide) (lv' := [(2, .int (nI 0)), (0, .ref (gg 0)), (1, .int (nI i))]) rfl (fun ls hl => ?_)
  refine lv_iconst (v := (nI 0)) hx hb d_MD_print_34 (by decide) ?_
  refine lv_istore_n hx hb d_MD_print_35 rfl hl (by decide) (lv' := [(3, .int (nI 0)), (2, .int (nI 0)), (0, .ref (gg 0)), (1, .int (nI i))]) rfl (fun ls hl => ?_)
  have hl : lv_has ls 4 [(3, .int (nI 0)), (2, .int (nI 0)), (0, .ref (gg 0)), (1, .int (nI i))] := lv_sub hl [0, 1, 2, 3] rfl
  have loop : ∀ (k : Nat) (j : Nat), j + k = 6 → ∀ ls : Array Slot, lv_has ls 4 [(3, .int (nI j)), (2, .int (nI (zs_pv n3 B i j))), (0, .ref (gg 0)), (1, .int (nI i))] → W p l e ({ frames := 1, cells := 0, slots := 0, locals := 21 }) s m [.ref (gg 0), .int (nI i)].toArray below meth c H locs 0 0 (MQ below (zQm (some (.int (nI (zs_chr (zs_p6 n3 B i))))) (fun H => zMo D cI cC gg (nI 0) n0 S n2 M n3 B n4 E rt H) (zAM gg)) [.ref (gg 0), .int (nI i)].toArray s 0 0 (zAM gg)) (F0 m 36 ls []) := by
    intro k
    induction k with
    | zero =>
      intro j hj ls hl
      obtain rfl : j = 6 := by omega
      refine lv_iload_n hx hb d_MD_print_36 rfl (lv_at hl 0 rfl) ?_
      refine lv_bipush (v := (nI 6)) hx hb d_MD_print_37 (by decide) ?_
      refine lv_icmp_ge hx hb d_MD_print_39 (tgt := 63) (by decide) (fun _ => ?_) (fun z9 => absurd (Int32.le_refl _) z9)
      have hv6 := zs_pv_6 hi (fun j hj => (hB j hj).2)
      have hlt : zs_p6 n3 B i < 64 := Nat.mod_lt _ (by decide)
      rw [hv6] at hl
      generalize zs_p6 n3 B i = v9 at hl hlt ⊢
      refine lv_iload_n hx hb d_MD_print_63 rfl (lv_at hl 1 rfl) ?_
      refine lv_bipush (v := (nI 26)) hx hb d_MD_print_64 (by decide) ?_
      by_cases c1 : v9 < 26
      · refine lv_icmp_ge hx hb d_MD_print_66 (tgt := 76) (by decide) (fun z9 => absurd z9 (nI_ge c1 (by omega))) (fun _ => ?_)
        refine lv_bipush (v := (nI 65)) hx hb d_MD_print_69 (by decide) ?_
        refine lv_iload_n hx hb d_MD_print_71 rfl (lv_at hl 1 rfl) ?_
        refine lv_iadd hx hb d_MD_print_72 ?_
        refine lv_goto hx hb d_MD_print_73 (tgt := 121) (by decide) ?_
        exact W.iret (v := ((nI 65) + (nI (v9)))) hx hb hr (fun t ht _ => ⟨congrArg (fun z => Outcome.returned (some (Value.int z))) (by rw [nI_add, zs_chr, if_pos c1]), by rw [ht]; exact ⟨rd, e0, e2, e3, e5, e4, hS0, hM, hB, hE9, hP⟩, hS.F ht⟩) hS.2.2 d_MD_print_121
      · refine lv_icmp_ge hx hb d_MD_print_66 (tgt := 76) (by decide) (fun _ => ?_) (fun z9 => absurd (nI_le (by omega) (by omega)) z9)
        refine lv_iload_n hx hb d_MD_print_76 rfl (lv_at hl 1 rfl) ?_
        refine lv_bipush (v := (nI 52)) hx hb d_MD_print_77 (by decide) ?_
        by_cases c2 : v9 < 52
        · refine lv_icmp_ge hx hb d_MD_print_79 (tgt := 92) (by decide) (fun z9 => absurd z9 (nI_ge c2 (by omega))) (fun _ => ?_)
          refine lv_bipush (v := (nI 97)) hx hb d_MD_print_82 (by decide) ?_
          refine lv_iload_n hx hb d_MD_print_84 rfl (lv_at hl 1 rfl) ?_
          refine lv_iadd hx hb d_MD_print_85 ?_
          refine lv_bipush (v := (nI 26)) hx hb d_MD_print_86 (by decide) ?_
          refine lv_isub hx hb d_MD_print_88 ?_
          refine lv_goto hx hb d_MD_print_89 (tgt := 121) (by decide) ?_
          exact W.iret (v := (((nI 97) + (nI (v9))) - (nI 26))) hx hb hr (fun t ht _ => ⟨congrArg (fun z => Outcome.returned (some (Value.int z))) (by rw [nI_add, pk_sub (by omega), zs_chr, if_neg c1, if_pos c2]), by rw [ht]; exact ⟨rd, e0, e2, e3, e5, e4, hS0, hM, hB, hE9, hP⟩, hS.F ht⟩) hS.2.2 d_MD_print_121
        · refine lv_icmp_ge hx hb d_MD_print_79 (tgt := 92) (by decide) (fun _ => ?_) (fun z9 => absurd (nI_le (by omega) (by omega)) z9)
          refine lv_iload_n hx hb d_MD_print_92 rfl (lv_at hl 1 rfl) ?_
          refine lv_bipush (v := (nI 62)) hx hb d_MD_print_93 (by decide) ?_
          by_cases c3 : v9 < 62
          · refine lv_icmp_ge hx hb d_MD_print_95 (tgt := 108) (by decide) (fun z9 => absurd z9 (nI_ge c3 (by omega))) (fun _ => ?_)
            refine lv_bipush (v := (nI 48)) hx hb d_MD_print_98 (by decide) ?_
            refine lv_iload_n hx hb d_MD_print_100 rfl (lv_at hl 1 rfl) ?_
            refine lv_iadd hx hb d_MD_print_101 ?_
            refine lv_bipush (v := (nI 52)) hx hb d_MD_print_102 (by decide) ?_
            refine lv_isub hx hb d_MD_print_104 ?_
            refine lv_goto hx hb d_MD_print_105 (tgt := 121) (by decide) ?_
            exact W.iret (v := (((nI 48) + (nI (v9))) - (nI 52))) hx hb hr (fun t ht _ => ⟨congrArg (fun z => Outcome.returned (some (Value.int z))) (by rw [nI_add, pk_sub (by omega), zs_chr, if_neg c1, if_neg c2, if_pos c3]), by rw [ht]; exact ⟨rd, e0, e2, e3, e5, e4, hS0, hM, hB, hE9, hP⟩, hS.F ht⟩) hS.2.2 d_MD_print_121
          · refine lv_icmp_ge hx hb d_MD_print_95 (tgt := 108) (by decide) (fun _ => ?_) (fun z9 => absurd (nI_le (by omega) (by omega)) z9)
            refine lv_iload_n hx hb d_MD_print_108 rfl (lv_at hl 1 rfl) ?_
            refine lv_bipush (v := (nI 62)) hx hb d_MD_print_109 (by decide) ?_
            by_cases c4 : v9 = 62
            · refine lv_icmp_ne hx hb d_MD_print_111 (tgt := 119) (by decide) (fun z9 => absurd (by rw [c4]) z9) (fun _ => ?_)
              refine lv_bipush (v := (nI 43)) hx hb d_MD_print_114 (by decide) ?_
              refine lv_goto hx hb d_MD_print_116 (tgt := 121) (by decide) ?_
              exact W.iret (v := (nI 43)) hx hb hr (fun t ht _ => ⟨congrArg (fun z => Outcome.returned (some (Value.int z))) (by rw [zs_chr, if_neg c1, if_neg c2, if_neg c3, if_pos c4]), by rw [ht]; exact ⟨rd, e0, e2, e3, e5, e4, hS0, hM, hB, hE9, hP⟩, hS.F ht⟩) hS.2.2 d_MD_print_121
            · refine lv_icmp_ne hx hb d_MD_print_111 (tgt := 119) (by decide) (fun _ => ?_) (fun z9 => absurd z9 (fun z => c4 ((nI_eq (by omega) (by omega)).mp z)))
              refine lv_bipush (v := (nI 45)) hx hb d_MD_print_119 (by decide) ?_
              exact W.iret (v := (nI 45)) hx hb hr (fun t ht _ => ⟨congrArg (fun z => Outcome.returned (some (Value.int z))) (by rw [zs_chr, if_neg c1, if_neg c2, if_neg c3, if_neg c4]), by rw [ht]; exact ⟨rd, e0, e2, e3, e5, e4, hS0, hM, hB, hE9, hP⟩, hS.F ht⟩) hS.2.2 d_MD_print_121
    | succ k ih =>
      intro j hj ls hl
      refine lv_iload_n hx hb d_MD_print_36 rfl (lv_at hl 0 rfl) ?_
      refine lv_bipush (v := (nI 6)) hx hb d_MD_print_37 (by decide) ?_
      refine lv_icmp_ge hx hb d_MD_print_39 (tgt := 63) (by decide) (fun z9 => absurd z9 (nI_ge (by omega) (by omega))) (fun _ => ?_)
      refine lv_iconst (v := (nI 2)) hx hb d_MD_print_42 (by decide) ?_
      refine lv_iload_n hx hb d_MD_print_43 rfl (lv_at hl 1 rfl) ?_
      refine lv_imul hx hb d_MD_print_44 ?_
      refine lv_aload_n hx hb d_MD_print_45 rfl (lv_at hl 2 rfl) ?_
      refine lv_bipush (v := (nI 6)) hx hb d_MD_print_46 (by decide) ?_
      refine lv_iload_n hx hb d_MD_print_48 rfl (lv_at hl 3 rfl) ?_
      refine lv_imul hx hb d_MD_print_49 ?_
      refine lv_iload_n hx hb d_MD_print_50 rfl (lv_at hl 0 rfl) ?_
      refine lv_iadd hx hb d_MD_print_51 ?_
      refine ztop (y := nI (6 * i + j)) (by rw [pk_mul, nI_add]) ?_
      refine zRd (rest := [.int ((nI 2) * (nI (zs_pv n3 B i j)))]) (zrV hS9 (c_MD_bit l D cI cC cJ gg (nI 0) n0 n2 n3 rt rd n4 e0 e2 e3 e5 e4 (by omega) (by omega) (by omega) (by omega) B hB (6 * i + j) (by omega)) zc_MD_bit zw_635 zw_637 zp_36 (by decide) (va_recv hE.1 hP (ci := 2) (q := (R_MD, F_MD, 12)) rfl (q0 := 0) rfl) (hP) hE rfl hl.1 rfl (Nat.le_of_ble_eq_true rfl) d_MD_print_52) ?_
      refine lv_iadd hx hb d_MD_print_55 ?_
      refine ztop (y := nI (zs_pv n3 B i (j + 1))) (by rw [pk_mul, nI_add]; rfl) ?_
      refine lv_istore_n hx hb d_MD_print_56 rfl hl (by decide) (lv' := [(2, .int (nI (zs_pv n3 B i (j + 1)))), (3, .int (nI j)), (0, .ref (gg 0)), (1, .int (nI i))]) rfl (fun ls hl => ?_)
      refine lv_iinc (k := 1) (v := nI (j + 1)) hx hb d_MD_print_57 hl rfl (nI_1 j) (by decide) (lv' := [(3, .int (nI (j + 1))), (2, .int (nI (zs_pv n3 B i (j + 1)))), (0, .ref (gg 0)), (1, .int (nI i))]) rfl (fun ls hl => ?_)
      refine lv_goto hx hb d_MD_print_60 (tgt := 36) (by decide) ?_
      have hl : lv_has ls 4 [(3, .int (nI (j + 1))), (2, .int (nI (zs_pv n3 B i (j + 1)))), (0, .ref (gg 0)), (1, .int (nI i))] := lv_sub hl [0, 1, 2, 3] rfl
      exact ih (j + 1) (by omega) ls hl
  exact loop 6 0 (by omega) ls hl

set_option maxHeartbeats 4000000 in
set_option maxRecDepth 100000 in
theorem c_MD_load_e (l : Launch) (D : va_G) (cI cC cJ : ClassId) (gg : Nat → Nat) (ft : Int32) (n0 : Nat) (S : Nat → Nat) (n2 : Nat) (M : Nat → Nat) (n3 : Nat) (B : Nat → Nat) (n4 : Nat) (E : Nat → Nat) (rt : Nat) (hh : zm_inj gg) (hn0 : n0 ≤ 4) (hn2 : n2 ≤ 40) (hn3 : n3 ≤ 120) (hn4 : n4 ≤ 160) (hpf : zs_pf n4 E = 0) : Met l y_MD_load (zw k_MD_load) ({ frames := 1, cells := 0, slots := 0, locals := 21 }) (zPc [.ref (gg 0)] (fun H => zMo D cI cC gg ft n0 S n2 M n3 B n4 E rt H) D cI cC cJ) (zQm (some (.int (nI 0))) (fun H => zMo D cI cC gg (nI 1) n0 S n2 M n3 B 0 E rt H) (zAM gg)) 0 0 (zAM gg) := by
  refine zMet (by decide) (Nat.le_of_ble_eq_true rfl) ?_
  intro p e s m below meth c hx hb hr hg hown hlk hml hB0 hE ls hl
  have hl : lv_has ls 8 [(0, .ref (gg 0))] := hl
  have hS9 : CallFix p m c b_MD_load 8 s [.ref (gg 0)].toArray zg "SealedFilesModel" := ⟨hx, hb, hml, hown, hg⟩
  obtain ⟨rd, e0, e2, e3, e5, e4, hS0, hM, hB, hE9, hP⟩ := hB0
  have hP : va_P D zcl [((gg 0), .inr (2, [.int ft, .int (nI n0), .ref (gg 1), .int (nI n2), .int (nI n3), .int (nI rt), .ref (gg 2), .ref (gg 3), .ref (gg 4), .int (nI rd), .int (nI n4), .ref (gg 5)])), ((gg 1), .inl (cI, 4, .inl e0)), ((gg 2), .inl (cI, 40, .inl e2)), ((gg 3), .inl (cI, 120, .inl e3)), ((gg 4), .inl (cI, 40, .inl e5)), ((gg 5), .inl (cC, 160, .inl e4))] s.heap := hP
  have hD : va_D (zAM gg) [((gg 0), .inr (2, [.int ft, .int (nI n0), .ref (gg 1), .int (nI n2), .int (nI n3), .int (nI rt), .ref (gg 2), .ref (gg 3), .ref (gg 4), .int (nI rd), .int (nI n4), .ref (gg 5)])), ((gg 1), .inl (cI, 4, .inl e0)), ((gg 2), .inl (cI, 40, .inl e2)), ((gg 3), .inl (cI, 120, .inl e3)), ((gg 4), .inl (cI, 40, .inl e5)), ((gg 5), .inl (cC, 160, .inl e4))] := zMd_D hh
  have hS : va_S (zAM gg) s.heap s.heap [] := va_S.rf
  refine lv_aload_n hx hb d_MD_load_0 rfl (lv_at hl 0 rfl) ?_
  refine lv_iconst (v := (nI 0)) hx hb d_MD_load_1 (by decide) ?_
  refine va_put (D := D) (ci := 2) (v := .int (nI 0)) (ty := .int) (C := R_MD) (T := F_MD) (N := 12) hx hb hg i_MD t_MD t_MD_ok n_MD hown hE.1 hP hD hS 0 rfl rfl 0 (by decide) (hg _ zw_488) (fun _ h9 => h9) rfl (by decide +kernel) rfl rfl (Nat.le_of_ble_eq_true rfl) d_MD_load_2 (fun H locs hP hD hS => ?_)
  have hP : va_P D zcl [((gg 0), .inr (2, [.int (nI 0), .int (nI n0), .ref (gg 1), .int (nI n2), .int (nI n3), .int (nI rt), .ref (gg 2), .ref (gg 3), .ref (gg 4), .int (nI rd), .int (nI n4), .ref (gg 5)])), ((gg 1), .inl (cI, 4, .inl e0)), ((gg 2), .inl (cI, 40, .inl e2)), ((gg 3), .inl (cI, 120, .inl e3)), ((gg 4), .inl (cI, 40, .inl e5)), ((gg 5), .inl (cC, 160, .inl e4))] H := hP
  have hD : va_D (zAM gg) [((gg 0), .inr (2, [.int (nI 0), .int (nI n0), .ref (gg 1), .int (nI n2), .int (nI n3), .int (nI rt), .ref (gg 2), .ref (gg 3), .ref (gg 4), .int (nI rd), .int (nI n4), .ref (gg 5)])), ((gg 1), .inl (cI, 4, .inl e0)), ((gg 2), .inl (cI, 40, .inl e2)), ((gg 3), .inl (cI, 120, .inl e3)), ((gg 4), .inl (cI, 40, .inl e5)), ((gg 5), .inl (cC, 160, .inl e4))] := hD
  refine lv_aload_n hx hb d_MD_load_5 rfl (lv_at hl 0 rfl) ?_
  refine va_get (D := D) (ci := 2) (v := .int (nI n4)) (C := R_MD) (T := F_MD) (N := 12) hx hb hg i_MD hown hE.1 hP 0 rfl rfl 10 (by decide) (hg _ zw_498) (fun _ h9 => h9) rfl d_MD_load_6 ?_
  refine lv_istore_n hx hb d_MD_load_9 rfl hl (by decide) (lv' := [(1, .int (nI n4)), (0, .ref (gg 0))]) rfl (fun ls hl => ?_)
  refine lv_aload_n hx hb d_MD_load_10 rfl (lv_at hl 1 rfl) ?_
  refine lv_iconst (v := (nI 0)) hx hb d_MD_load_11 (by decide) ?_
  refine va_put (D := D) (ci := 2) (v := .int (nI 0)) (ty := .int) (C := R_MD) (T := F_MD) (N := 12) hx hb hg i_MD t_MD t_MD_ok n_MD hown hE.1 hP hD hS 0 rfl rfl 10 (by decide) (hg _ zw_498) (fun _ h9 => h9) rfl (by decide +kernel) rfl rfl (Nat.le_of_ble_eq_true rfl) d_MD_load_12 (fun H locs hP hD hS => ?_)
  have hP : va_P D zcl [((gg 0), .inr (2, [.int (nI 0), .int (nI n0), .ref (gg 1), .int (nI n2), .int (nI n3), .int (nI rt), .ref (gg 2), .ref (gg 3), .ref (gg 4), .int (nI rd), .int (nI 0), .ref (gg 5)])), ((gg 1), .inl (cI, 4, .inl e0)), ((gg 2), .inl (cI, 40, .inl e2)), ((gg 3), .inl (cI, 120, .inl e3)), ((gg 4), .inl (cI, 40, .inl e5)), ((gg 5), .inl (cC, 160, .inl e4))] H := hP
  have hD : va_D (zAM gg) [((gg 0), .inr (2, [.int (nI 0), .int (nI n0), .ref (gg 1), .int (nI n2), .int (nI n3), .int (nI rt), .ref (gg 2), .ref (gg 3), .ref (gg 4), .int (nI rd), .int (nI 0), .ref (gg 5)])), ((gg 1), .inl (cI, 4, .inl e0)), ((gg 2), .inl (cI, 40, .inl e2)), ((gg 3), .inl (cI, 120, .inl e3)), ((gg 4), .inl (cI, 40, .inl e5)), ((gg 5), .inl (cC, 160, .inl e4))] := hD
  refine lv_bipush (v := (nI 6)) hx hb d_MD_load_15 (by decide) ?_
  refine lv_iload_n hx hb d_MD_load_17 rfl (lv_at hl 0 rfl) ?_
  refine lv_imul hx hb d_MD_load_18 ?_
  refine ztop (y := nI (n4 * 6)) (by rw [pk_mul, Nat.mul_comm]) ?_
  refine lv_bipush (v := (nI 8)) hx hb d_MD_load_19 (by decide) ?_
  refine lv_idiv hx hb d_MD_load_21 (by decide) ?_
  refine ztop (y := nI (n4 * 6 / 8)) (pk_div (by omega) (by decide) (by decide)) ?_
  refine lv_istore_n hx hb d_MD_load_22 rfl hl (by decide) (lv' := [(2, .int (nI (n4 * 6 / 8))), (1, .int (nI n4)), (0, .ref (gg 0))]) rfl (fun ls hl => ?_)
  refine lv_bipush (v := (nI 6)) hx hb d_MD_load_23 (by decide) ?_
  refine lv_iload_n hx hb d_MD_load_25 rfl (lv_at hl 1 rfl) ?_
  refine lv_imul hx hb d_MD_load_26 ?_
  refine ztop (y := nI (n4 * 6)) (by rw [pk_mul, Nat.mul_comm]) ?_
  refine lv_bipush (v := (nI 8)) hx hb d_MD_load_27 (by decide) ?_
  refine lv_iload_n hx hb d_MD_load_29 rfl (lv_at hl 0 rfl) ?_
  refine lv_imul hx hb d_MD_load_30 ?_
  refine ztop (y := nI ((n4 * 6 / 8) * 8)) (by rw [pk_mul, Nat.mul_comm]) ?_
  refine lv_isub hx hb d_MD_load_31 ?_
  refine ztop (y := nI (n4 * 6 % 8)) ((pk_sub (by omega)).trans (congrArg nI (by omega))) ?_
  refine lv_istore_n hx hb d_MD_load_32 rfl hl (by decide) (lv' := [(3, .int (nI (n4 * 6 % 8))), (2, .int (nI (n4 * 6 / 8))), (1, .int (nI n4)), (0, .ref (gg 0))]) rfl (fun ls hl => ?_)
  refine lv_iload_n hx hb d_MD_load_33 rfl (lv_at hl 0 rfl) ?_
  refine lv_bipush (v := (nI 6)) hx hb d_MD_load_34 (by decide) ?_
  have rest : ∀ ls : Array Slot, lv_has ls 8 [(4, .int (nI (zs_pf n4 E))), (2, .int (nI (n4 * 6 / 8))), (0, .ref (gg 0))] → W p l e ({ frames := 1, cells := 0, slots := 0, locals := 21 }) s m [.ref (gg 0)].toArray below meth c H locs 0 0 (MQ below (zQm (some (.int (nI 0))) (fun H => zMo D cI cC gg (nI 1) n0 S n2 M n3 B 0 E rt H) (zAM gg)) [.ref (gg 0)].toArray s 0 0 (zAM gg)) (F0 m 82 ls []) := by
    intro ls hl
    refine lv_iload hx hb d_MD_load_82 (lv_at hl 0 rfl) ?_
    refine lv_if_ne hx hb d_MD_load_84 (tgt := 93) (by decide) (fun z9 => absurd (by rw [hpf]; rfl) z9) (fun _ => ?_)
    refine lv_aload_n hx hb d_MD_load_87 rfl (lv_at hl 2 rfl) ?_
    refine lv_iconst (v := (nI 1)) hx hb d_MD_load_88 (by decide) ?_
    refine zWr (rest := []) (zrV hS9 (c_MD_fails l D cI cC cJ gg (nI 0) n0 n2 n3 rt rd 0 e0 e2 e3 e5 e4 (by omega) (by omega) (by omega) (by omega) hh (nI 1)) zc_MD_fails zw_534 zw_536 zp_26 (by decide) (va_recv hE.1 hP (ci := 2) (q := (R_MD, F_MD, 12)) rfl (q0 := 0) rfl) (hP) hE rfl hl.1 rfl (Nat.le_of_ble_eq_true rfl) d_MD_load_89) hS (fun _ _ h => h) (fun _ h => h) (fun H locs hP hz hk9 hS => ?_)
    have hP : va_P D zcl [((gg 0), .inr (2, [.int (nI 1), .int (nI n0), .ref (gg 1), .int (nI n2), .int (nI n3), .int (nI rt), .ref (gg 2), .ref (gg 3), .ref (gg 4), .int (nI rd), .int (nI 0), .ref (gg 5)])), ((gg 1), .inl (cI, 4, .inl e0)), ((gg 2), .inl (cI, 40, .inl e2)), ((gg 3), .inl (cI, 120, .inl e3)), ((gg 4), .inl (cI, 40, .inl e5)), ((gg 5), .inl (cC, 160, .inl e4))] H := hP
    have hD : va_D (zAM gg) [((gg 0), .inr (2, [.int (nI 1), .int (nI n0), .ref (gg 1), .int (nI n2), .int (nI n3), .int (nI rt), .ref (gg 2), .ref (gg 3), .ref (gg 4), .int (nI rd), .int (nI 0), .ref (gg 5)])), ((gg 1), .inl (cI, 4, .inl e0)), ((gg 2), .inl (cI, 40, .inl e2)), ((gg 3), .inl (cI, 120, .inl e3)), ((gg 4), .inl (cI, 40, .inl e5)), ((gg 5), .inl (cC, 160, .inl e4))] := zMd_D hh
    exact W.iret (v := (nI 0)) hx hb hr (fun t ht _ => ⟨rfl, by rw [ht]; exact ⟨rd, e0, e2, e3, e5, e4, hS0, hM, hB, zd_hold_0, hP⟩, hS.F ht⟩) hS.2.2 d_MD_load_92
  by_cases g6 : (n4 * 6 % 8) < 6
  · refine lv_icmp_ge hx hb d_MD_load_36 (tgt := 43) (by decide) (fun z9 => absurd z9 (nI_ge g6 (by omega))) (fun _ => ?_)
    refine lv_iconst (v := (nI 1)) hx hb d_MD_load_39 (by decide) ?_
    refine lv_goto hx hb d_MD_load_40 (tgt := 44) (by decide) ?_
    refine lv_istore hx hb d_MD_load_44 hl (by decide) (lv' := [(4, .int (nI 1)), (3, .int (nI (n4 * 6 % 8))), (2, .int (nI (n4 * 6 / 8))), (1, .int (nI n4)), (0, .ref (gg 0))]) rfl (fun ls hl => ?_)
    refine lv_iload_n hx hb d_MD_load_46 rfl (lv_at hl 3 rfl) ?_
    by_cases g0 : n4 = 0
    · refine lv_if_le hx hb d_MD_load_47 (tgt := 82) (by decide) (fun _ => ?_) (fun z9 => absurd (by rw [g0]; decide) z9)
      have hp1 : (zs_pf n4 E) = 1 := by rw [zs_pf, if_pos (by omega)]
      have hl : lv_has ls 8 [(4, .int (nI 1)), (2, .int (nI (n4 * 6 / 8))), (0, .ref (gg 0))] := lv_sub hl [0, 2, 4] rfl
      exact rest ls (by rw [hp1]; exact hl)
    · refine lv_if_le hx hb d_MD_load_47 (tgt := 82) (by decide) (fun z9 => absurd z9 (nI_nle (by omega) (by omega))) (fun _ => ?_)
      refine lv_iload hx hb d_MD_load_50 (lv_at hl 0 rfl) ?_
      refine lv_if_eq hx hb d_MD_load_52 (tgt := 82) (by decide) (fun z9 => absurd z9 (by decide)) (fun _ => ?_)
      refine lv_aload_n hx hb d_MD_load_55 rfl (lv_at hl 4 rfl) ?_
      refine va_get (D := D) (ci := 2) (v := .ref (gg 5)) (C := R_MD) (T := F_MD) (N := 12) hx hb hg i_MD hown hE.1 hP 0 rfl rfl 11 (by decide) (hg _ zw_499) (fun _ h9 => h9) rfl d_MD_load_56 ?_
      refine lv_iload_n hx hb d_MD_load_59 rfl (lv_at hl 3 rfl) ?_
      refine lv_iconst (v := (nI 1)) hx hb d_MD_load_60 (by decide) ?_
      refine lv_isub hx hb d_MD_load_61 ?_
      refine ztop (y := nI (n4 - 1)) (pk_sub (by omega)) ?_
      refine zcald hx hb hE.1 hP 5 1 rfl rfl (by omega) (by decide) d_MD_load_62 ?_
      obtain ⟨c9, hc1, hc2, hc3, hc4⟩ := hE9 (n4 - 1) (by omega)
      refine ztop (y := nI c9) (hc1) ?_
      refine zRd (rest := []) (zrS hS9 (c_MD_sixOf l D cI cC cJ c9 (hc2)) zc_MD_sixOf zw_643 zw_644 (by decide) (trivial) hE rfl hl.1 rfl (Nat.le_of_ble_eq_true rfl) d_MD_load_63) ?_
      refine ztop (y := nI (E (n4 - 1))) (hc3) ?_
      have h2 : 2 ^ (n4 * 6 % 8) ≤ 2 ^ 6 := Nat.pow_le_pow_right (by decide) (by omega)
      have h1 : 0 < 2 ^ (n4 * 6 % 8) := Nat.two_pow_pos _
      refine lv_iconst (v := (nI 1)) hx hb d_MD_load_66 (by decide) ?_
      refine lv_iload_n hx hb d_MD_load_67 rfl (lv_at hl 1 rfl) ?_
      refine lv_ishl hx hb d_MD_load_68 ?_
      refine ztop (y := nI (2 ^ (n4 * 6 % 8))) ((pk_shlN (nI (n4 * 6 % 8) &&& 31) (n4 * 6 % 8) (zs_sm _ (by omega)) (by omega)).trans (by rw [Nat.one_mul])) ?_
      refine lv_iconst (v := (nI 1)) hx hb d_MD_load_69 (by decide) ?_
      refine lv_isub hx hb d_MD_load_70 ?_
      refine ztop (y := nI (2 ^ (n4 * 6 % 8) - 1)) (pk_sub (by omega)) ?_
      refine lv_iand hx hb d_MD_load_71 ?_
      refine ztop (y := nI (E (n4 - 1) % 2 ^ (n4 * 6 % 8))) (pk_andN (by omega) (n4 * 6 % 8) (pk_tn (by omega))) ?_
      have h9 : E (n4 - 1) % 2 ^ (n4 * 6 % 8) ≤ E (n4 - 1) := Nat.mod_le _ _
      by_cases g2 : E (n4 - 1) % 2 ^ (n4 * 6 % 8) = 0
      · refine lv_if_ne hx hb d_MD_load_72 (tgt := 79) (by decide) (fun z9 => absurd (by rw [g2]; rfl) z9) (fun _ => ?_)
        refine lv_iconst (v := (nI 1)) hx hb d_MD_load_75 (by decide) ?_
        refine lv_goto hx hb d_MD_load_76 (tgt := 80) (by decide) ?_
        have hp1 : (zs_pf n4 E) = 1 := by unfold zs_pf; split; rfl; rw [if_pos ⟨g6, g2⟩]
        refine lv_istore hx hb d_MD_load_80 hl (by decide) (lv' := [(4, .int (nI 1)), (3, .int (nI (n4 * 6 % 8))), (2, .int (nI (n4 * 6 / 8))), (1, .int (nI n4)), (0, .ref (gg 0))]) rfl (fun ls hl => ?_)
        have hl : lv_has ls 8 [(4, .int (nI 1)), (2, .int (nI (n4 * 6 / 8))), (0, .ref (gg 0))] := lv_sub hl [0, 2, 4] rfl
        exact rest ls (by rw [hp1]; exact hl)
      · refine lv_if_ne hx hb d_MD_load_72 (tgt := 79) (by decide) (fun _ => ?_) (fun z9 => absurd z9 (nI_ne0 (by omega) (by omega)))
        refine lv_iconst (v := (nI 0)) hx hb d_MD_load_79 (by decide) ?_
        have hp1 : (zs_pf n4 E) = 0 := by rw [zs_pf, if_neg (fun z => g2 (by rw [z, Nat.pow_zero, Nat.mod_one])), if_neg (fun z => g2 z.2)]
        refine lv_istore hx hb d_MD_load_80 hl (by decide) (lv' := [(4, .int (nI 0)), (3, .int (nI (n4 * 6 % 8))), (2, .int (nI (n4 * 6 / 8))), (1, .int (nI n4)), (0, .ref (gg 0))]) rfl (fun ls hl => ?_)
        have hl : lv_has ls 8 [(4, .int (nI 0)), (2, .int (nI (n4 * 6 / 8))), (0, .ref (gg 0))] := lv_sub hl [0, 2, 4] rfl
        exact rest ls (by rw [hp1]; exact hl)
  · refine lv_icmp_ge hx hb d_MD_load_36 (tgt := 43) (by decide) (fun _ => ?_) (fun z9 => absurd (nI_le (by omega) (by omega)) z9)
    refine lv_iconst (v := (nI 0)) hx hb d_MD_load_43 (by decide) ?_
    refine ztop (y := nI (zs_pf n4 E)) (by rw [zs_pf, if_neg (by omega), if_neg (fun z => g6 z.1)]) ?_
    refine lv_istore hx hb d_MD_load_44 hl (by decide) (lv' := [(4, .int (nI (zs_pf n4 E))), (3, .int (nI (n4 * 6 % 8))), (2, .int (nI (n4 * 6 / 8))), (1, .int (nI n4)), (0, .ref (gg 0))]) rfl (fun ls hl => ?_)
    refine lv_iload_n hx hb d_MD_load_46 rfl (lv_at hl 3 rfl) ?_
    have hp0 : (zs_pf n4 E) = 0 := by rw [zs_pf, if_neg (by omega), if_neg (fun z => g6 z.1)]
    refine lv_if_le hx hb d_MD_load_47 (tgt := 82) (by decide) (fun z9 => absurd z9 (nI_nle (by omega) (by omega))) (fun _ => ?_)
    refine lv_iload hx hb d_MD_load_50 (lv_at hl 0 rfl) ?_
    refine lv_if_eq hx hb d_MD_load_52 (tgt := 82) (by decide) (fun _ => ?_) (fun z9 => absurd (by rw [hp0]; rfl) z9)
    have hl : lv_has ls 8 [(4, .int (nI (zs_pf n4 E))), (2, .int (nI (n4 * 6 / 8))), (0, .ref (gg 0))] := lv_sub hl [0, 2, 4] rfl
    exact rest ls hl

set_option maxHeartbeats 4000000 in
set_option maxRecDepth 100000 in
theorem c_MD_load_ok (l : Launch) (D : va_G) (cI cC cJ : ClassId) (gg : Nat → Nat) (ft : Int32) (n0 : Nat) (S : Nat → Nat) (n2 : Nat) (M : Nat → Nat) (n3 : Nat) (B : Nat → Nat) (n4 : Nat) (E : Nat → Nat) (rt : Nat) (hh : zm_inj gg) (hn0 : n0 ≤ 4) (hn2 : n2 ≤ 40) (hn3 : n3 ≤ 120) (hn4 : n4 ≤ 160) (hpf : zs_pf n4 E = 1) : Met l y_MD_load (zw k_MD_load) ({ frames := 1, cells := 0, slots := 0, locals := 21 }) (zPc [.ref (gg 0)] (fun H => zMo D cI cC gg ft n0 S n2 M n3 B n4 E rt H) D cI cC cJ) (zQm (some (.int (nI (n4 * 6 / 8)))) (fun H => zMo D cI cC gg (nI 0) n0 S n2 M (n4 * 6 / 8) (zs_lds E (n4 * 6 / 8)).2 0 E rt H) (zAM gg)) 0 0 (zAM gg) := by
  refine zMet (by decide) (Nat.le_of_ble_eq_true rfl) ?_
  intro p e s m below meth c hx hb hr hg hown hlk hml hB0 hE ls hl
  have hl : lv_has ls 8 [(0, .ref (gg 0))] := hl
  have hS9 : CallFix p m c b_MD_load 8 s [.ref (gg 0)].toArray zg "SealedFilesModel" := ⟨hx, hb, hml, hown, hg⟩
  obtain ⟨rd, e0, e2, e3, e5, e4, hS0, hM, hB, hE9, hP⟩ := hB0
  have hP : va_P D zcl [((gg 0), .inr (2, [.int ft, .int (nI n0), .ref (gg 1), .int (nI n2), .int (nI n3), .int (nI rt), .ref (gg 2), .ref (gg 3), .ref (gg 4), .int (nI rd), .int (nI n4), .ref (gg 5)])), ((gg 1), .inl (cI, 4, .inl e0)), ((gg 2), .inl (cI, 40, .inl e2)), ((gg 3), .inl (cI, 120, .inl e3)), ((gg 4), .inl (cI, 40, .inl e5)), ((gg 5), .inl (cC, 160, .inl e4))] s.heap := hP
  have hD : va_D (zAM gg) [((gg 0), .inr (2, [.int ft, .int (nI n0), .ref (gg 1), .int (nI n2), .int (nI n3), .int (nI rt), .ref (gg 2), .ref (gg 3), .ref (gg 4), .int (nI rd), .int (nI n4), .ref (gg 5)])), ((gg 1), .inl (cI, 4, .inl e0)), ((gg 2), .inl (cI, 40, .inl e2)), ((gg 3), .inl (cI, 120, .inl e3)), ((gg 4), .inl (cI, 40, .inl e5)), ((gg 5), .inl (cC, 160, .inl e4))] := zMd_D hh
  have hS : va_S (zAM gg) s.heap s.heap [] := va_S.rf
  refine lv_aload_n hx hb d_MD_load_0 rfl (lv_at hl 0 rfl) ?_
  refine lv_iconst (v := (nI 0)) hx hb d_MD_load_1 (by decide) ?_
  refine va_put (D := D) (ci := 2) (v := .int (nI 0)) (ty := .int) (C := R_MD) (T := F_MD) (N := 12) hx hb hg i_MD t_MD t_MD_ok n_MD hown hE.1 hP hD hS 0 rfl rfl 0 (by decide) (hg _ zw_488) (fun _ h9 => h9) rfl (by decide +kernel) rfl rfl (Nat.le_of_ble_eq_true rfl) d_MD_load_2 (fun H locs hP hD hS => ?_)
  have hP : va_P D zcl [((gg 0), .inr (2, [.int (nI 0), .int (nI n0), .ref (gg 1), .int (nI n2), .int (nI n3), .int (nI rt), .ref (gg 2), .ref (gg 3), .ref (gg 4), .int (nI rd), .int (nI n4), .ref (gg 5)])), ((gg 1), .inl (cI, 4, .inl e0)), ((gg 2), .inl (cI, 40, .inl e2)), ((gg 3), .inl (cI, 120, .inl e3)), ((gg 4), .inl (cI, 40, .inl e5)), ((gg 5), .inl (cC, 160, .inl e4))] H := hP
  have hD : va_D (zAM gg) [((gg 0), .inr (2, [.int (nI 0), .int (nI n0), .ref (gg 1), .int (nI n2), .int (nI n3), .int (nI rt), .ref (gg 2), .ref (gg 3), .ref (gg 4), .int (nI rd), .int (nI n4), .ref (gg 5)])), ((gg 1), .inl (cI, 4, .inl e0)), ((gg 2), .inl (cI, 40, .inl e2)), ((gg 3), .inl (cI, 120, .inl e3)), ((gg 4), .inl (cI, 40, .inl e5)), ((gg 5), .inl (cC, 160, .inl e4))] := hD
  refine lv_aload_n hx hb d_MD_load_5 rfl (lv_at hl 0 rfl) ?_
  refine va_get (D := D) (ci := 2) (v := .int (nI n4)) (C := R_MD) (T := F_MD) (N := 12) hx hb hg i_MD hown hE.1 hP 0 rfl rfl 10 (by decide) (hg _ zw_498) (fun _ h9 => h9) rfl d_MD_load_6 ?_
  refine lv_istore_n hx hb d_MD_load_9 rfl hl (by decide) (lv' := [(1, .int (nI n4)), (0, .ref (gg 0))]) rfl (fun ls hl => ?_)
  refine lv_aload_n hx hb d_MD_load_10 rfl (lv_at hl 1 rfl) ?_
  refine lv_iconst (v := (nI 0)) hx hb d_MD_load_11 (by decide) ?_
  refine va_put (D := D) (ci := 2) (v := .int (nI 0)) (ty := .int) (C := R_MD) (T := F_MD) (N := 12) hx hb hg i_MD t_MD t_MD_ok n_MD hown hE.1 hP hD hS 0 rfl rfl 10 (by decide) (hg _ zw_498) (fun _ h9 => h9) rfl (by decide +kernel) rfl rfl (Nat.le_of_ble_eq_true rfl) d_MD_load_12 (fun H locs hP hD hS => ?_)
  have hP : va_P D zcl [((gg 0), .inr (2, [.int (nI 0), .int (nI n0), .ref (gg 1), .int (nI n2), .int (nI n3), .int (nI rt), .ref (gg 2), .ref (gg 3), .ref (gg 4), .int (nI rd), .int (nI 0), .ref (gg 5)])), ((gg 1), .inl (cI, 4, .inl e0)), ((gg 2), .inl (cI, 40, .inl e2)), ((gg 3), .inl (cI, 120, .inl e3)), ((gg 4), .inl (cI, 40, .inl e5)), ((gg 5), .inl (cC, 160, .inl e4))] H := hP
  have hD : va_D (zAM gg) [((gg 0), .inr (2, [.int (nI 0), .int (nI n0), .ref (gg 1), .int (nI n2), .int (nI n3), .int (nI rt), .ref (gg 2), .ref (gg 3), .ref (gg 4), .int (nI rd), .int (nI 0), .ref (gg 5)])), ((gg 1), .inl (cI, 4, .inl e0)), ((gg 2), .inl (cI, 40, .inl e2)), ((gg 3), .inl (cI, 120, .inl e3)), ((gg 4), .inl (cI, 40, .inl e5)), ((gg 5), .inl (cC, 160, .inl e4))] := hD
  refine lv_bipush (v := (nI 6)) hx hb d_MD_load_15 (by decide) ?_
  refine lv_iload_n hx hb d_MD_load_17 rfl (lv_at hl 0 rfl) ?_
  refine lv_imul hx hb d_MD_load_18 ?_
  refine ztop (y := nI (n4 * 6)) (by rw [pk_mul, Nat.mul_comm]) ?_
  refine lv_bipush (v := (nI 8)) hx hb d_MD_load_19 (by decide) ?_
  refine lv_idiv hx hb d_MD_load_21 (by decide) ?_
  refine ztop (y := nI (n4 * 6 / 8)) (pk_div (by omega) (by decide) (by decide)) ?_
  refine lv_istore_n hx hb d_MD_load_22 rfl hl (by decide) (lv' := [(2, .int (nI (n4 * 6 / 8))), (1, .int (nI n4)), (0, .ref (gg 0))]) rfl (fun ls hl => ?_)
  refine lv_bipush (v := (nI 6)) hx hb d_MD_load_23 (by decide) ?_
  refine lv_iload_n hx hb d_MD_load_25 rfl (lv_at hl 1 rfl) ?_
  refine lv_imul hx hb d_MD_load_26 ?_
  refine ztop (y := nI (n4 * 6)) (by rw [pk_mul, Nat.mul_comm]) ?_
  refine lv_bipush (v := (nI 8)) hx hb d_MD_load_27 (by decide) ?_
  refine lv_iload_n hx hb d_MD_load_29 rfl (lv_at hl 0 rfl) ?_
  refine lv_imul hx hb d_MD_load_30 ?_
  refine ztop (y := nI ((n4 * 6 / 8) * 8)) (by rw [pk_mul, Nat.mul_comm]) ?_
  refine lv_isub hx hb d_MD_load_31 ?_
  refine ztop (y := nI (n4 * 6 % 8)) ((pk_sub (by omega)).trans (congrArg nI (by omega))) ?_
  refine lv_istore_n hx hb d_MD_load_32 rfl hl (by decide) (lv' := [(3, .int (nI (n4 * 6 % 8))), (2, .int (nI (n4 * 6 / 8))), (1, .int (nI n4)), (0, .ref (gg 0))]) rfl (fun ls hl => ?_)
  refine lv_iload_n hx hb d_MD_load_33 rfl (lv_at hl 0 rfl) ?_
  refine lv_bipush (v := (nI 6)) hx hb d_MD_load_34 (by decide) ?_
  have rest : ∀ ls : Array Slot, lv_has ls 8 [(4, .int (nI (zs_pf n4 E))), (2, .int (nI (n4 * 6 / 8))), (0, .ref (gg 0))] → W p l e ({ frames := 1, cells := 0, slots := 0, locals := 21 }) s m [.ref (gg 0)].toArray below meth c H locs 0 0 (MQ below (zQm (some (.int (nI (n4 * 6 / 8)))) (fun H => zMo D cI cC gg (nI 0) n0 S n2 M (n4 * 6 / 8) (zs_lds E (n4 * 6 / 8)).2 0 E rt H) (zAM gg)) [.ref (gg 0)].toArray s 0 0 (zAM gg)) (F0 m 82 ls []) := by
    intro ls hl
    refine lv_iload hx hb d_MD_load_82 (lv_at hl 0 rfl) ?_
    refine lv_if_ne hx hb d_MD_load_84 (tgt := 93) (by decide) (fun _ => ?_) (fun z9 => absurd z9 (by rw [hpf]; decide))
    refine lv_iconst (v := (nI 0)) hx hb d_MD_load_93 (by decide) ?_
    refine lv_istore hx hb d_MD_load_94 hl (by decide) (lv' := [(5, .int (nI 0)), (4, .int (nI (zs_pf n4 E))), (2, .int (nI (n4 * 6 / 8))), (0, .ref (gg 0))]) rfl (fun ls hl => ?_)
    have hl : lv_has ls 8 [(5, .int (nI 0)), (2, .int (nI (n4 * 6 / 8))), (0, .ref (gg 0))] := lv_sub hl [0, 2, 3] rfl
    have loop : ∀ (k : Nat) (b : Nat) (ex : Nat → Int32) (H : Heap) (locs : List Loc), b + k = (n4 * 6 / 8) → zs_hold 256 ex (zs_lds E b) → va_P D zcl (zMd cI cC gg (nI 0) n0 n2 n3 rt rd 0 e0 e2 ex e5 e4) H → va_S (zAM gg) s.heap H locs → ∀ ls : Array Slot, lv_has ls 8 [(5, .int (nI b)), (2, .int (nI (n4 * 6 / 8))), (0, .ref (gg 0))] → W p l e ({ frames := 1, cells := 0, slots := 0, locals := 21 }) s m [.ref (gg 0)].toArray below meth c H locs 0 0 (MQ below (zQm (some (.int (nI (n4 * 6 / 8)))) (fun H => zMo D cI cC gg (nI 0) n0 S n2 M (n4 * 6 / 8) (zs_lds E (n4 * 6 / 8)).2 0 E rt H) (zAM gg)) [.ref (gg 0)].toArray s 0 0 (zAM gg)) (F0 m 96 ls []) := by
      intro k
      induction k with
      | zero =>
        intro b ex H locs hb9 hX hP hS ls hl
        have hP : va_P D zcl [((gg 0), .inr (2, [.int (nI 0), .int (nI n0), .ref (gg 1), .int (nI n2), .int (nI n3), .int (nI rt), .ref (gg 2), .ref (gg 3), .ref (gg 4), .int (nI rd), .int (nI 0), .ref (gg 5)])), ((gg 1), .inl (cI, 4, .inl e0)), ((gg 2), .inl (cI, 40, .inl e2)), ((gg 3), .inl (cI, 120, .inl ex)), ((gg 4), .inl (cI, 40, .inl e5)), ((gg 5), .inl (cC, 160, .inl e4))] H := hP
        have hD : va_D (zAM gg) [((gg 0), .inr (2, [.int (nI 0), .int (nI n0), .ref (gg 1), .int (nI n2), .int (nI n3), .int (nI rt), .ref (gg 2), .ref (gg 3), .ref (gg 4), .int (nI rd), .int (nI 0), .ref (gg 5)])), ((gg 1), .inl (cI, 4, .inl e0)), ((gg 2), .inl (cI, 40, .inl e2)), ((gg 3), .inl (cI, 120, .inl ex)), ((gg 4), .inl (cI, 40, .inl e5)), ((gg 5), .inl (cC, 160, .inl e4))] := zMd_D hh
        refine lv_iload hx hb d_MD_load_96 (lv_at hl 0 rfl) ?_
        refine lv_iload_n hx hb d_MD_load_98 rfl (lv_at hl 1 rfl) ?_
        refine lv_icmp_ge hx hb d_MD_load_99 (tgt := 176) (by decide) (fun _ => ?_) (fun z9 => absurd (nI_le (by omega) (by omega)) z9)
        refine lv_aload_n hx hb d_MD_load_176 rfl (lv_at hl 2 rfl) ?_
        refine lv_iload_n hx hb d_MD_load_177 rfl (lv_at hl 1 rfl) ?_
        refine va_put (D := D) (ci := 2) (v := .int (nI (n4 * 6 / 8))) (ty := .int) (C := R_MD) (T := F_MD) (N := 12) hx hb hg i_MD t_MD t_MD_ok n_MD hown hE.1 hP hD hS 0 rfl rfl 4 (by decide) (hg _ zw_492) (fun _ h9 => h9) rfl (by decide +kernel) rfl rfl (Nat.le_of_ble_eq_true rfl) d_MD_load_178 (fun H locs hP hD hS => ?_)
        have hP : va_P D zcl [((gg 0), .inr (2, [.int (nI 0), .int (nI n0), .ref (gg 1), .int (nI n2), .int (nI (n4 * 6 / 8)), .int (nI rt), .ref (gg 2), .ref (gg 3), .ref (gg 4), .int (nI rd), .int (nI 0), .ref (gg 5)])), ((gg 1), .inl (cI, 4, .inl e0)), ((gg 2), .inl (cI, 40, .inl e2)), ((gg 3), .inl (cI, 120, .inl ex)), ((gg 4), .inl (cI, 40, .inl e5)), ((gg 5), .inl (cC, 160, .inl e4))] H := hP
        have hD : va_D (zAM gg) [((gg 0), .inr (2, [.int (nI 0), .int (nI n0), .ref (gg 1), .int (nI n2), .int (nI (n4 * 6 / 8)), .int (nI rt), .ref (gg 2), .ref (gg 3), .ref (gg 4), .int (nI rd), .int (nI 0), .ref (gg 5)])), ((gg 1), .inl (cI, 4, .inl e0)), ((gg 2), .inl (cI, 40, .inl e2)), ((gg 3), .inl (cI, 120, .inl ex)), ((gg 4), .inl (cI, 40, .inl e5)), ((gg 5), .inl (cC, 160, .inl e4))] := hD
        obtain rfl : b = (n4 * 6 / 8) := by omega
        have hX := zs_hold_n hX (zs_lds_n E (n4 * 6 / 8))
        refine lv_aload_n hx hb d_MD_load_181 rfl (lv_at hl 2 rfl) ?_
        refine va_get (D := D) (ci := 2) (v := .int (nI (n4 * 6 / 8))) (C := R_MD) (T := F_MD) (N := 12) hx hb hg i_MD hown hE.1 hP 0 rfl rfl 4 (by decide) (hg _ zw_492) (fun _ h9 => h9) rfl d_MD_load_182 ?_
        exact W.iret (v := (nI (n4 * 6 / 8))) hx hb hr (fun t ht _ => ⟨rfl, by rw [ht]; exact ⟨rd, e0, e2, ex, e5, e4, hS0, hM, hX, zd_hold_0, hP⟩, hS.F ht⟩) hS.2.2 d_MD_load_185
      | succ k iho =>
        intro b ex H locs hb9 hX hP hS ls hl
        have hP : va_P D zcl [((gg 0), .inr (2, [.int (nI 0), .int (nI n0), .ref (gg 1), .int (nI n2), .int (nI n3), .int (nI rt), .ref (gg 2), .ref (gg 3), .ref (gg 4), .int (nI rd), .int (nI 0), .ref (gg 5)])), ((gg 1), .inl (cI, 4, .inl e0)), ((gg 2), .inl (cI, 40, .inl e2)), ((gg 3), .inl (cI, 120, .inl ex)), ((gg 4), .inl (cI, 40, .inl e5)), ((gg 5), .inl (cC, 160, .inl e4))] H := hP
        have hD : va_D (zAM gg) [((gg 0), .inr (2, [.int (nI 0), .int (nI n0), .ref (gg 1), .int (nI n2), .int (nI n3), .int (nI rt), .ref (gg 2), .ref (gg 3), .ref (gg 4), .int (nI rd), .int (nI 0), .ref (gg 5)])), ((gg 1), .inl (cI, 4, .inl e0)), ((gg 2), .inl (cI, 40, .inl e2)), ((gg 3), .inl (cI, 120, .inl ex)), ((gg 4), .inl (cI, 40, .inl e5)), ((gg 5), .inl (cC, 160, .inl e4))] := zMd_D hh
        refine lv_iload hx hb d_MD_load_96 (lv_at hl 0 rfl) ?_
        refine lv_iload_n hx hb d_MD_load_98 rfl (lv_at hl 1 rfl) ?_
        refine lv_icmp_ge hx hb d_MD_load_99 (tgt := 176) (by decide) (fun z9 => absurd z9 (nI_ge (by omega) (by omega))) (fun _ => ?_)
        refine lv_iconst (v := (nI 0)) hx hb d_MD_load_102 (by decide) ?_
        refine lv_istore hx hb d_MD_load_103 hl (by decide) (lv' := [(6, .int (nI 0)), (5, .int (nI b)), (2, .int (nI (n4 * 6 / 8))), (0, .ref (gg 0))]) rfl (fun ls hl => ?_)
        refine lv_bipush (v := (nI 8)) hx hb d_MD_load_105 (by decide) ?_
        refine lv_iload hx hb d_MD_load_107 (lv_at hl 1 rfl) ?_
        refine lv_imul hx hb d_MD_load_109 ?_
        refine ztop (y := nI (8 * b)) (pk_mul _ _) ?_
        refine lv_istore hx hb d_MD_load_110 hl (by decide) (lv' := [(7, .int (nI (8 * b))), (6, .int (nI 0)), (5, .int (nI b)), (2, .int (nI (n4 * 6 / 8))), (0, .ref (gg 0))]) rfl (fun ls hl => ?_)
        have hl : lv_has ls 8 [(7, .int (nI (8 * b))), (6, .int (nI 0)), (5, .int (nI b)), (2, .int (nI (n4 * 6 / 8))), (0, .ref (gg 0))] := lv_sub hl [0, 1, 2, 3, 4] rfl
        have inner : ∀ (k : Nat) (j : Nat), j + k = 8 → ∀ ls : Array Slot, lv_has ls 8 [(7, .int (nI (8 * b + j))), (6, .int (nI (zs_lv E b j))), (5, .int (nI b)), (2, .int (nI (n4 * 6 / 8))), (0, .ref (gg 0))] → W p l e ({ frames := 1, cells := 0, slots := 0, locals := 21 }) s m [.ref (gg 0)].toArray below meth c H locs 0 0 (MQ below (zQm (some (.int (nI (n4 * 6 / 8)))) (fun H => zMo D cI cC gg (nI 0) n0 S n2 M (n4 * 6 / 8) (zs_lds E (n4 * 6 / 8)).2 0 E rt H) (zAM gg)) [.ref (gg 0)].toArray s 0 0 (zAM gg)) (F0 m 112 ls []) := by
          intro k
          induction k with
          | zero =>
            intro j hj ls hl
            obtain rfl : j = 8 := by omega
            refine lv_iload hx hb d_MD_load_112 (lv_at hl 0 rfl) ?_
            refine lv_bipush (v := (nI 8)) hx hb d_MD_load_114 (by decide) ?_
            refine lv_iload hx hb d_MD_load_116 (lv_at hl 2 rfl) ?_
            refine lv_imul hx hb d_MD_load_118 ?_
            refine lv_bipush (v := (nI 8)) hx hb d_MD_load_119 (by decide) ?_
            refine lv_iadd hx hb d_MD_load_121 ?_
            refine ztop (y := nI (8 * b + 8)) (by rw [pk_mul, nI_add]) ?_
            refine lv_icmp_ge hx hb d_MD_load_122 (tgt := 161) (by decide) (fun _ => ?_) (fun z9 => absurd (Int32.le_refl _) z9)
            refine lv_aload_n hx hb d_MD_load_161 rfl (lv_at hl 4 rfl) ?_
            refine va_get (D := D) (ci := 2) (v := .ref (gg 3)) (C := R_MD) (T := F_MD) (N := 12) hx hb hg i_MD hown hE.1 hP 0 rfl rfl 7 (by decide) (hg _ zw_495) (fun _ h9 => h9) rfl d_MD_load_162 ?_
            refine lv_iload hx hb d_MD_load_165 (lv_at hl 2 rfl) ?_
            refine lv_iload hx hb d_MD_load_167 (lv_at hl 1 rfl) ?_
            have hE8 : ∀ t, t < n4 → E t < 64 := fun t ht => by obtain ⟨_, _, _, _, q9⟩ := hE9 t ht; exact q9
            have hl8 := zs_lv_8 (E := E) (b := b) (hE8 _ (by omega)) (hE8 _ (by omega))
            refine ztop (y := nI (zs_ld E b)) (by rw [hl8]) ?_
            refine zast hx hb hE.1 hP hD hS 3 0 rfl rfl (by omega) (by decide) d_MD_load_169 (fun H locs hP hD hS => ?_)
            have hP : va_P D zcl [((gg 0), .inr (2, [.int (nI 0), .int (nI n0), .ref (gg 1), .int (nI n2), .int (nI n3), .int (nI rt), .ref (gg 2), .ref (gg 3), .ref (gg 4), .int (nI rd), .int (nI 0), .ref (gg 5)])), ((gg 1), .inl (cI, 4, .inl e0)), ((gg 2), .inl (cI, 40, .inl e2)), ((gg 3), .inl (cI, 120, .inl (upd ex b (nI (zs_ld E b))))), ((gg 4), .inl (cI, 40, .inl e5)), ((gg 5), .inl (cC, 160, .inl e4))] H := hP
            have hD : va_D (zAM gg) [((gg 0), .inr (2, [.int (nI 0), .int (nI n0), .ref (gg 1), .int (nI n2), .int (nI n3), .int (nI rt), .ref (gg 2), .ref (gg 3), .ref (gg 4), .int (nI rd), .int (nI 0), .ref (gg 5)])), ((gg 1), .inl (cI, 4, .inl e0)), ((gg 2), .inl (cI, 40, .inl e2)), ((gg 3), .inl (cI, 120, .inl (upd ex b (nI (zs_ld E b))))), ((gg 4), .inl (cI, 40, .inl e5)), ((gg 5), .inl (cC, 160, .inl e4))] := hD
            have hX : zs_hold 256 (upd ex b (nI (zs_ld E b))) (zs_lds E (b + 1)) := by have q9 := zs_hold_push hX (zs_ld_lt E b); rw [zs_lds_n] at q9; exact q9
            refine lv_iinc (k := 2) (v := nI (b + 1)) hx hb d_MD_load_170 hl rfl (nI_1 b) (by decide) (lv' := [(5, .int (nI (b + 1))), (7, .int (nI (8 * b + 8))), (6, .int (nI (zs_lv E b 8))), (2, .int (nI (n4 * 6 / 8))), (0, .ref (gg 0))]) rfl (fun ls hl => ?_)
            refine lv_goto hx hb d_MD_load_173 (tgt := 96) (by decide) ?_
            have hl : lv_has ls 8 [(5, .int (nI (b + 1))), (2, .int (nI (n4 * 6 / 8))), (0, .ref (gg 0))] := lv_sub hl [0, 3, 4] rfl
            exact iho (b + 1) _ H locs (by omega) hX hP hS ls hl
          | succ k ih2 =>
            intro j hj ls hl
            refine lv_iload hx hb d_MD_load_112 (lv_at hl 0 rfl) ?_
            refine lv_bipush (v := (nI 8)) hx hb d_MD_load_114 (by decide) ?_
            refine lv_iload hx hb d_MD_load_116 (lv_at hl 2 rfl) ?_
            refine lv_imul hx hb d_MD_load_118 ?_
            refine lv_bipush (v := (nI 8)) hx hb d_MD_load_119 (by decide) ?_
            refine lv_iadd hx hb d_MD_load_121 ?_
            refine ztop (y := nI (8 * b + 8)) (by rw [pk_mul, nI_add]) ?_
            refine lv_icmp_ge hx hb d_MD_load_122 (tgt := 161) (by decide) (fun z9 => absurd z9 (nI_ge (by omega) (by omega))) (fun _ => ?_)
            refine lv_iconst (v := (nI 2)) hx hb d_MD_load_125 (by decide) ?_
            refine lv_iload hx hb d_MD_load_126 (lv_at hl 1 rfl) ?_
            refine lv_imul hx hb d_MD_load_128 ?_
            refine lv_aload_n hx hb d_MD_load_129 rfl (lv_at hl 4 rfl) ?_
            refine va_get (D := D) (ci := 2) (v := .ref (gg 5)) (C := R_MD) (T := F_MD) (N := 12) hx hb hg i_MD hown hE.1 hP 0 rfl rfl 11 (by decide) (hg _ zw_499) (fun _ h9 => h9) rfl d_MD_load_130 ?_
            refine lv_iload hx hb d_MD_load_133 (lv_at hl 0 rfl) ?_
            refine lv_bipush (v := (nI 6)) hx hb d_MD_load_135 (by decide) ?_
            refine lv_idiv hx hb d_MD_load_137 (by decide) ?_
            refine ztop (y := nI ((8 * b + j) / 6)) (pk_div (by omega) (by decide) (by decide)) ?_
            refine zcald hx hb hE.1 hP 5 1 rfl rfl (by omega) (by decide) d_MD_load_138 ?_
            obtain ⟨c9, hc1, hc2, hc3, hc4⟩ := hE9 ((8 * b + j) / 6) (by omega)
            refine ztop (y := nI c9) (hc1) ?_
            refine zRd (rest := [.int ((nI 2) * (nI (zs_lv E b j)))]) (zrS hS9 (c_MD_sixOf l D cI cC cJ c9 (hc2)) zc_MD_sixOf zw_643 zw_644 (by decide) (trivial) hE rfl hl.1 rfl (Nat.le_of_ble_eq_true rfl) d_MD_load_139) ?_
            refine ztop (y := nI (E ((8 * b + j) / 6))) (hc3) ?_
            refine lv_iconst (v := (nI 5)) hx hb d_MD_load_142 (by decide) ?_
            refine lv_iload hx hb d_MD_load_143 (lv_at hl 0 rfl) ?_
            refine lv_bipush (v := (nI 6)) hx hb d_MD_load_145 (by decide) ?_
            refine lv_irem hx hb d_MD_load_147 (by decide) ?_
            refine ztop (y := nI ((8 * b + j) % 6)) (pk_rem (by omega) (by decide) (by decide)) ?_
            refine lv_isub hx hb d_MD_load_148 ?_
            refine ztop (y := nI (5 - (8 * b + j) % 6)) (pk_sub (by omega)) ?_
            refine lv_ishr hx hb d_MD_load_149 ?_
            refine lv_iconst (v := (nI 1)) hx hb d_MD_load_150 (by decide) ?_
            refine lv_iand hx hb d_MD_load_151 ?_
            refine ztop (y := nI (E ((8 * b + j) / 6) / 2 ^ (5 - (8 * b + j) % 6) % 2)) (zs_sbit (by omega) (by omega)) ?_
            refine lv_iadd hx hb d_MD_load_152 ?_
            refine ztop (y := nI (zs_lv E b (j + 1))) (by rw [pk_mul, nI_add]; rfl) ?_
            refine lv_istore hx hb d_MD_load_153 hl (by decide) (lv' := [(6, .int (nI (zs_lv E b (j + 1)))), (7, .int (nI (8 * b + j))), (5, .int (nI b)), (2, .int (nI (n4 * 6 / 8))), (0, .ref (gg 0))]) rfl (fun ls hl => ?_)
            refine lv_iinc (k := 1) (v := nI (8 * b + (j + 1))) hx hb d_MD_load_155 hl rfl (nI_1 _) (by decide) (lv' := [(7, .int (nI (8 * b + (j + 1)))), (6, .int (nI (zs_lv E b (j + 1)))), (5, .int (nI b)), (2, .int (nI (n4 * 6 / 8))), (0, .ref (gg 0))]) rfl (fun ls hl => ?_)
            refine lv_goto hx hb d_MD_load_158 (tgt := 112) (by decide) ?_
            have hl : lv_has ls 8 [(7, .int (nI (8 * b + (j + 1)))), (6, .int (nI (zs_lv E b (j + 1)))), (5, .int (nI b)), (2, .int (nI (n4 * 6 / 8))), (0, .ref (gg 0))] := lv_sub hl [0, 1, 2, 3, 4] rfl
            exact ih2 (j + 1) (by omega) ls hl
        exact inner 8 0 (by omega) ls hl
    exact loop (n4 * 6 / 8) 0 e3 H locs (by omega) zs_hold_0 hP hS ls hl
  by_cases g6 : (n4 * 6 % 8) < 6
  · refine lv_icmp_ge hx hb d_MD_load_36 (tgt := 43) (by decide) (fun z9 => absurd z9 (nI_ge g6 (by omega))) (fun _ => ?_)
    refine lv_iconst (v := (nI 1)) hx hb d_MD_load_39 (by decide) ?_
    refine lv_goto hx hb d_MD_load_40 (tgt := 44) (by decide) ?_
    refine lv_istore hx hb d_MD_load_44 hl (by decide) (lv' := [(4, .int (nI 1)), (3, .int (nI (n4 * 6 % 8))), (2, .int (nI (n4 * 6 / 8))), (1, .int (nI n4)), (0, .ref (gg 0))]) rfl (fun ls hl => ?_)
    refine lv_iload_n hx hb d_MD_load_46 rfl (lv_at hl 3 rfl) ?_
    by_cases g0 : n4 = 0
    · refine lv_if_le hx hb d_MD_load_47 (tgt := 82) (by decide) (fun _ => ?_) (fun z9 => absurd (by rw [g0]; decide) z9)
      have hp1 : (zs_pf n4 E) = 1 := by rw [zs_pf, if_pos (by omega)]
      have hl : lv_has ls 8 [(4, .int (nI 1)), (2, .int (nI (n4 * 6 / 8))), (0, .ref (gg 0))] := lv_sub hl [0, 2, 4] rfl
      exact rest ls (by rw [hp1]; exact hl)
    · refine lv_if_le hx hb d_MD_load_47 (tgt := 82) (by decide) (fun z9 => absurd z9 (nI_nle (by omega) (by omega))) (fun _ => ?_)
      refine lv_iload hx hb d_MD_load_50 (lv_at hl 0 rfl) ?_
      refine lv_if_eq hx hb d_MD_load_52 (tgt := 82) (by decide) (fun z9 => absurd z9 (by decide)) (fun _ => ?_)
      refine lv_aload_n hx hb d_MD_load_55 rfl (lv_at hl 4 rfl) ?_
      refine va_get (D := D) (ci := 2) (v := .ref (gg 5)) (C := R_MD) (T := F_MD) (N := 12) hx hb hg i_MD hown hE.1 hP 0 rfl rfl 11 (by decide) (hg _ zw_499) (fun _ h9 => h9) rfl d_MD_load_56 ?_
      refine lv_iload_n hx hb d_MD_load_59 rfl (lv_at hl 3 rfl) ?_
      refine lv_iconst (v := (nI 1)) hx hb d_MD_load_60 (by decide) ?_
      refine lv_isub hx hb d_MD_load_61 ?_
      refine ztop (y := nI (n4 - 1)) (pk_sub (by omega)) ?_
      refine zcald hx hb hE.1 hP 5 1 rfl rfl (by omega) (by decide) d_MD_load_62 ?_
      obtain ⟨c9, hc1, hc2, hc3, hc4⟩ := hE9 (n4 - 1) (by omega)
      refine ztop (y := nI c9) (hc1) ?_
      refine zRd (rest := []) (zrS hS9 (c_MD_sixOf l D cI cC cJ c9 (hc2)) zc_MD_sixOf zw_643 zw_644 (by decide) (trivial) hE rfl hl.1 rfl (Nat.le_of_ble_eq_true rfl) d_MD_load_63) ?_
      refine ztop (y := nI (E (n4 - 1))) (hc3) ?_
      have h2 : 2 ^ (n4 * 6 % 8) ≤ 2 ^ 6 := Nat.pow_le_pow_right (by decide) (by omega)
      have h1 : 0 < 2 ^ (n4 * 6 % 8) := Nat.two_pow_pos _
      refine lv_iconst (v := (nI 1)) hx hb d_MD_load_66 (by decide) ?_
      refine lv_iload_n hx hb d_MD_load_67 rfl (lv_at hl 1 rfl) ?_
      refine lv_ishl hx hb d_MD_load_68 ?_
      refine ztop (y := nI (2 ^ (n4 * 6 % 8))) ((pk_shlN (nI (n4 * 6 % 8) &&& 31) (n4 * 6 % 8) (zs_sm _ (by omega)) (by omega)).trans (by rw [Nat.one_mul])) ?_
      refine lv_iconst (v := (nI 1)) hx hb d_MD_load_69 (by decide) ?_
      refine lv_isub hx hb d_MD_load_70 ?_
      refine ztop (y := nI (2 ^ (n4 * 6 % 8) - 1)) (pk_sub (by omega)) ?_
      refine lv_iand hx hb d_MD_load_71 ?_
      refine ztop (y := nI (E (n4 - 1) % 2 ^ (n4 * 6 % 8))) (pk_andN (by omega) (n4 * 6 % 8) (pk_tn (by omega))) ?_
      have h9 : E (n4 - 1) % 2 ^ (n4 * 6 % 8) ≤ E (n4 - 1) := Nat.mod_le _ _
      by_cases g2 : E (n4 - 1) % 2 ^ (n4 * 6 % 8) = 0
      · refine lv_if_ne hx hb d_MD_load_72 (tgt := 79) (by decide) (fun z9 => absurd (by rw [g2]; rfl) z9) (fun _ => ?_)
        refine lv_iconst (v := (nI 1)) hx hb d_MD_load_75 (by decide) ?_
        refine lv_goto hx hb d_MD_load_76 (tgt := 80) (by decide) ?_
        have hp1 : (zs_pf n4 E) = 1 := by unfold zs_pf; split; rfl; rw [if_pos ⟨g6, g2⟩]
        refine lv_istore hx hb d_MD_load_80 hl (by decide) (lv' := [(4, .int (nI 1)), (3, .int (nI (n4 * 6 % 8))), (2, .int (nI (n4 * 6 / 8))), (1, .int (nI n4)), (0, .ref (gg 0))]) rfl (fun ls hl => ?_)
        have hl : lv_has ls 8 [(4, .int (nI 1)), (2, .int (nI (n4 * 6 / 8))), (0, .ref (gg 0))] := lv_sub hl [0, 2, 4] rfl
        exact rest ls (by rw [hp1]; exact hl)
      · refine lv_if_ne hx hb d_MD_load_72 (tgt := 79) (by decide) (fun _ => ?_) (fun z9 => absurd z9 (nI_ne0 (by omega) (by omega)))
        refine lv_iconst (v := (nI 0)) hx hb d_MD_load_79 (by decide) ?_
        have hp1 : (zs_pf n4 E) = 0 := by rw [zs_pf, if_neg (fun z => g2 (by rw [z, Nat.pow_zero, Nat.mod_one])), if_neg (fun z => g2 z.2)]
        refine lv_istore hx hb d_MD_load_80 hl (by decide) (lv' := [(4, .int (nI 0)), (3, .int (nI (n4 * 6 % 8))), (2, .int (nI (n4 * 6 / 8))), (1, .int (nI n4)), (0, .ref (gg 0))]) rfl (fun ls hl => ?_)
        have hl : lv_has ls 8 [(4, .int (nI 0)), (2, .int (nI (n4 * 6 / 8))), (0, .ref (gg 0))] := lv_sub hl [0, 2, 4] rfl
        exact rest ls (by rw [hp1]; exact hl)
  · refine lv_icmp_ge hx hb d_MD_load_36 (tgt := 43) (by decide) (fun _ => ?_) (fun z9 => absurd (nI_le (by omega) (by omega)) z9)
    refine lv_iconst (v := (nI 0)) hx hb d_MD_load_43 (by decide) ?_
    refine ztop (y := nI (zs_pf n4 E)) (by rw [zs_pf, if_neg (by omega), if_neg (fun z => g6 z.1)]) ?_
    refine lv_istore hx hb d_MD_load_44 hl (by decide) (lv' := [(4, .int (nI (zs_pf n4 E))), (3, .int (nI (n4 * 6 % 8))), (2, .int (nI (n4 * 6 / 8))), (1, .int (nI n4)), (0, .ref (gg 0))]) rfl (fun ls hl => ?_)
    refine lv_iload_n hx hb d_MD_load_46 rfl (lv_at hl 3 rfl) ?_
    have hp0 : (zs_pf n4 E) = 0 := by rw [zs_pf, if_neg (by omega), if_neg (fun z => g6 z.1)]
    refine lv_if_le hx hb d_MD_load_47 (tgt := 82) (by decide) (fun z9 => absurd z9 (nI_nle (by omega) (by omega))) (fun _ => ?_)
    refine lv_iload hx hb d_MD_load_50 (lv_at hl 0 rfl) ?_
    refine lv_if_eq hx hb d_MD_load_52 (tgt := 82) (by decide) (fun _ => ?_) (fun z9 => absurd (by rw [hp0]; rfl) z9)
    have hl : lv_has ls 8 [(4, .int (nI (zs_pf n4 E))), (2, .int (nI (n4 * 6 / 8))), (0, .ref (gg 0))] := lv_sub hl [0, 2, 4] rfl
    exact rest ls hl

