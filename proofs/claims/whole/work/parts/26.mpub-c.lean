set_option maxHeartbeats 4000000 in
set_option maxRecDepth 100000 in
theorem c_MD_open_e (l : Launch) (D : va_G) (cI cC cJ : ClassId) (gg : Nat → Nat) (ft : Int32) (n0 : Nat) (S : Nat → Nat) (n2 : Nat) (M : Nat → Nat) (n3 : Nat) (B : Nat → Nat) (n4 : Nat) (E : Nat → Nat) (rt : Nat) (hh : zm_inj gg) (hn0 : n0 ≤ 4) (hn2 : n2 ≤ 40) (hn3 : n3 ≤ 120) (hn4 : n4 ≤ 160) (x : Int32) (hx9 : zs_has n0 x = 0) : Met l y_MD_open (zw k_MD_open) ({ frames := 3, cells := 0, slots := 0, locals := 70 }) (zPc [.ref (gg 0), .int x] (fun H => zMo D cI cC gg ft n0 S n2 M n3 B n4 E rt H) D cI cC cJ) (zQm (some (.int (nI 0))) (fun H => zMo D cI cC gg (nI 1) n0 S n2 M n3 B n4 E rt H) (zAM gg)) 0 0 (zAM gg) := by
  refine zMet (by decide) (Nat.le_of_ble_eq_true rfl) ?_
  intro p e s m below meth c hx hb hr hg hown hlk hml hB0 hE ls hl
  have hl : lv_has ls 10 [(0, .ref (gg 0)), (1, .int x)] := hl
  have hS9 : CallFix p m c b_MD_open 10 s [.ref (gg 0), .int x].toArray zg "SealedFilesModel" := ⟨hx, hb, hml, hown, hg⟩
  obtain ⟨rd, e0, e2, e3, e5, e4, hS0, hM, hB, hE9, hP⟩ := hB0
  have hP : va_P D zcl [((gg 0), .inr (2, [.int ft, .int (nI n0), .ref (gg 1), .int (nI n2), .int (nI n3), .int (nI rt), .ref (gg 2), .ref (gg 3), .ref (gg 4), .int (nI rd), .int (nI n4), .ref (gg 5)])), ((gg 1), .inl (cI, 4, .inl e0)), ((gg 2), .inl (cI, 40, .inl e2)), ((gg 3), .inl (cI, 120, .inl e3)), ((gg 4), .inl (cI, 40, .inl e5)), ((gg 5), .inl (cC, 160, .inl e4))] s.heap := hP
  have hD : va_D (zAM gg) [((gg 0), .inr (2, [.int ft, .int (nI n0), .ref (gg 1), .int (nI n2), .int (nI n3), .int (nI rt), .ref (gg 2), .ref (gg 3), .ref (gg 4), .int (nI rd), .int (nI n4), .ref (gg 5)])), ((gg 1), .inl (cI, 4, .inl e0)), ((gg 2), .inl (cI, 40, .inl e2)), ((gg 3), .inl (cI, 120, .inl e3)), ((gg 4), .inl (cI, 40, .inl e5)), ((gg 5), .inl (cC, 160, .inl e4))] := zMd_D hh
  have hS : va_S (zAM gg) s.heap s.heap [] := va_S.rf
  refine lv_aload_n hx hb d_MD_open_0 rfl (lv_at hl 0 rfl) ?_
  refine lv_iconst (v := (nI 0)) hx hb d_MD_open_1 (by decide) ?_
  refine va_put (D := D) (ci := 2) (v := .int (nI 0)) (ty := .int) (C := R_MD) (T := F_MD) (N := 12) hx hb hg i_MD t_MD t_MD_ok n_MD hown hE.1 hP hD hS 0 rfl rfl 0 (by decide) (hg _ zw_488) (fun _ h9 => h9) rfl (by decide +kernel) rfl rfl (Nat.le_of_ble_eq_true rfl) d_MD_open_2 (fun H locs hP hD hS => ?_)
  have hP : va_P D zcl [((gg 0), .inr (2, [.int (nI 0), .int (nI n0), .ref (gg 1), .int (nI n2), .int (nI n3), .int (nI rt), .ref (gg 2), .ref (gg 3), .ref (gg 4), .int (nI rd), .int (nI n4), .ref (gg 5)])), ((gg 1), .inl (cI, 4, .inl e0)), ((gg 2), .inl (cI, 40, .inl e2)), ((gg 3), .inl (cI, 120, .inl e3)), ((gg 4), .inl (cI, 40, .inl e5)), ((gg 5), .inl (cC, 160, .inl e4))] H := hP
  have hD : va_D (zAM gg) [((gg 0), .inr (2, [.int (nI 0), .int (nI n0), .ref (gg 1), .int (nI n2), .int (nI n3), .int (nI rt), .ref (gg 2), .ref (gg 3), .ref (gg 4), .int (nI rd), .int (nI n4), .ref (gg 5)])), ((gg 1), .inl (cI, 4, .inl e0)), ((gg 2), .inl (cI, 40, .inl e2)), ((gg 3), .inl (cI, 120, .inl e3)), ((gg 4), .inl (cI, 40, .inl e5)), ((gg 5), .inl (cC, 160, .inl e4))] := hD
  refine lv_aload_n hx hb d_MD_open_5 rfl (lv_at hl 0 rfl) ?_
  refine lv_iload_n hx hb d_MD_open_6 rfl (lv_at hl 1 rfl) ?_
  refine zRd (rest := []) (zrV hS9 (c_MD_isKey l D cI cC cJ gg (nI 0) n0 n2 n3 rt rd n4 e0 e2 e3 e5 e4 (by omega) (by omega) (by omega) (by omega) x) zc_MD_isKey zw_542 zw_544 zp_27 (by decide) (va_recv hE.1 hP (ci := 2) (q := (R_MD, F_MD, 12)) rfl (q0 := 0) rfl) (hP) hE rfl hl.1 rfl (Nat.le_of_ble_eq_true rfl) d_MD_open_7) ?_
  refine lv_if_ne hx hb d_MD_open_10 (tgt := 19) (by decide) (fun z9 => absurd (hx9) z9) (fun _ => ?_)
  refine lv_aload_n hx hb d_MD_open_13 rfl (lv_at hl 0 rfl) ?_
  refine lv_iconst (v := (nI 1)) hx hb d_MD_open_14 (by decide) ?_
  refine zWr (rest := []) (zrV hS9 (c_MD_fails l D cI cC cJ gg (nI 0) n0 n2 n3 rt rd n4 e0 e2 e3 e5 e4 (by omega) (by omega) (by omega) (by omega) hh (nI 1)) zc_MD_fails zw_534 zw_536 zp_26 (by decide) (va_recv hE.1 hP (ci := 2) (q := (R_MD, F_MD, 12)) rfl (q0 := 0) rfl) (hP) hE rfl hl.1 rfl (Nat.le_of_ble_eq_true rfl) d_MD_open_15) hS (fun _ _ h => h) (fun _ h => h) (fun H locs hP hz hk9 hS => ?_)
  have hP : va_P D zcl [((gg 0), .inr (2, [.int (nI 1), .int (nI n0), .ref (gg 1), .int (nI n2), .int (nI n3), .int (nI rt), .ref (gg 2), .ref (gg 3), .ref (gg 4), .int (nI rd), .int (nI n4), .ref (gg 5)])), ((gg 1), .inl (cI, 4, .inl e0)), ((gg 2), .inl (cI, 40, .inl e2)), ((gg 3), .inl (cI, 120, .inl e3)), ((gg 4), .inl (cI, 40, .inl e5)), ((gg 5), .inl (cC, 160, .inl e4))] H := hP
  have hD : va_D (zAM gg) [((gg 0), .inr (2, [.int (nI 1), .int (nI n0), .ref (gg 1), .int (nI n2), .int (nI n3), .int (nI rt), .ref (gg 2), .ref (gg 3), .ref (gg 4), .int (nI rd), .int (nI n4), .ref (gg 5)])), ((gg 1), .inl (cI, 4, .inl e0)), ((gg 2), .inl (cI, 40, .inl e2)), ((gg 3), .inl (cI, 120, .inl e3)), ((gg 4), .inl (cI, 40, .inl e5)), ((gg 5), .inl (cC, 160, .inl e4))] := zMd_D hh
  exact W.iret (v := (nI 0)) hx hb hr (fun t ht _ => ⟨rfl, by rw [ht]; exact ⟨rd, e0, e2, e3, e5, e4, hS0, hM, hB, hE9, hP⟩, hS.F ht⟩) hS.2.2 d_MD_open_18

set_option maxHeartbeats 4000000 in
set_option maxRecDepth 100000 in
theorem c_MD_open_ok (l : Launch) (D : va_G) (cI cC cJ : ClassId) (gg : Nat → Nat) (ft : Int32) (n0 : Nat) (S : Nat → Nat) (n2 : Nat) (M : Nat → Nat) (n3 : Nat) (B : Nat → Nat) (n4 : Nat) (E : Nat → Nat) (rt : Nat) (hh : zm_inj gg) (hn0 : n0 ≤ 4) (hn2 : n2 ≤ 40) (hn3 : n3 ≤ 120) (hn4 : n4 ≤ 160) (k : Nat) (hk : k < n0) (R9 : Int32 × Nat × zs_F) (hRe : zs_open n3 B (S k) (zs_pw 2 (S k)) (n2, M) = R9) : Met l y_MD_open (zw k_MD_open) ({ frames := 3, cells := 0, slots := 0, locals := 70 }) (zPc [.ref (gg 0), .int (nI k)] (fun H => zMo D cI cC gg ft n0 S n2 M n3 B n4 E rt H) D cI cC cJ) (zQm (some (.int R9.1)) (fun H => zMo D cI cC gg (nI 0) n0 S R9.2.2.1 R9.2.2.2 n3 B n4 E R9.2.1 H) (zAM gg)) 0 0 (zAM gg) := by
  refine zMet (by decide) (Nat.le_of_ble_eq_true rfl) ?_
  intro p e s m below meth c hx hb hr hg hown hlk hml hB0 hE ls hl
  have hl : lv_has ls 10 [(0, .ref (gg 0)), (1, .int (nI k))] := hl
  have hS9 : CallFix p m c b_MD_open 10 s [.ref (gg 0), .int (nI k)].toArray zg "SealedFilesModel" := ⟨hx, hb, hml, hown, hg⟩
  obtain ⟨rd, e0, e2, e3, e5, e4, hS0, hM, hB, hE9, hP⟩ := hB0
  have hP : va_P D zcl [((gg 0), .inr (2, [.int ft, .int (nI n0), .ref (gg 1), .int (nI n2), .int (nI n3), .int (nI rt), .ref (gg 2), .ref (gg 3), .ref (gg 4), .int (nI rd), .int (nI n4), .ref (gg 5)])), ((gg 1), .inl (cI, 4, .inl e0)), ((gg 2), .inl (cI, 40, .inl e2)), ((gg 3), .inl (cI, 120, .inl e3)), ((gg 4), .inl (cI, 40, .inl e5)), ((gg 5), .inl (cC, 160, .inl e4))] s.heap := hP
  have hD : va_D (zAM gg) [((gg 0), .inr (2, [.int ft, .int (nI n0), .ref (gg 1), .int (nI n2), .int (nI n3), .int (nI rt), .ref (gg 2), .ref (gg 3), .ref (gg 4), .int (nI rd), .int (nI n4), .ref (gg 5)])), ((gg 1), .inl (cI, 4, .inl e0)), ((gg 2), .inl (cI, 40, .inl e2)), ((gg 3), .inl (cI, 120, .inl e3)), ((gg 4), .inl (cI, 40, .inl e5)), ((gg 5), .inl (cC, 160, .inl e4))] := zMd_D hh
  have hS : va_S (zAM gg) s.heap s.heap [] := va_S.rf
  refine lv_aload_n hx hb d_MD_open_0 rfl (lv_at hl 0 rfl) ?_
  refine lv_iconst (v := (nI 0)) hx hb d_MD_open_1 (by decide) ?_
  refine va_put (D := D) (ci := 2) (v := .int (nI 0)) (ty := .int) (C := R_MD) (T := F_MD) (N := 12) hx hb hg i_MD t_MD t_MD_ok n_MD hown hE.1 hP hD hS 0 rfl rfl 0 (by decide) (hg _ zw_488) (fun _ h9 => h9) rfl (by decide +kernel) rfl rfl (Nat.le_of_ble_eq_true rfl) d_MD_open_2 (fun H locs hP hD hS => ?_)
  have hP : va_P D zcl [((gg 0), .inr (2, [.int (nI 0), .int (nI n0), .ref (gg 1), .int (nI n2), .int (nI n3), .int (nI rt), .ref (gg 2), .ref (gg 3), .ref (gg 4), .int (nI rd), .int (nI n4), .ref (gg 5)])), ((gg 1), .inl (cI, 4, .inl e0)), ((gg 2), .inl (cI, 40, .inl e2)), ((gg 3), .inl (cI, 120, .inl e3)), ((gg 4), .inl (cI, 40, .inl e5)), ((gg 5), .inl (cC, 160, .inl e4))] H := hP
  have hD : va_D (zAM gg) [((gg 0), .inr (2, [.int (nI 0), .int (nI n0), .ref (gg 1), .int (nI n2), .int (nI n3), .int (nI rt), .ref (gg 2), .ref (gg 3), .ref (gg 4), .int (nI rd), .int (nI n4), .ref (gg 5)])), ((gg 1), .inl (cI, 4, .inl e0)), ((gg 2), .inl (cI, 40, .inl e2)), ((gg 3), .inl (cI, 120, .inl e3)), ((gg 4), .inl (cI, 40, .inl e5)), ((gg 5), .inl (cC, 160, .inl e4))] := hD
  have h8 : S k < 32748 := (hS0 k hk).2
  refine lv_aload_n hx hb d_MD_open_5 rfl (lv_at hl 0 rfl) ?_
  refine lv_iload_n hx hb d_MD_open_6 rfl (lv_at hl 1 rfl) ?_
  refine zRd (rest := []) (zrV hS9 (c_MD_isKey l D cI cC cJ gg (nI 0) n0 n2 n3 rt rd n4 e0 e2 e3 e5 e4 (by omega) (by omega) (by omega) (by omega) (nI k)) zc_MD_isKey zw_542 zw_544 zp_27 (by decide) (va_recv hE.1 hP (ci := 2) (q := (R_MD, F_MD, 12)) rfl (q0 := 0) rfl) (hP) hE rfl hl.1 rfl (Nat.le_of_ble_eq_true rfl) d_MD_open_7) ?_
  refine lv_if_ne hx hb d_MD_open_10 (tgt := 19) (by decide) (fun _ => ?_) (fun z9 => absurd z9 (by rw [zs_has_in hk (by omega)]; decide))
  refine lv_aload_n hx hb d_MD_open_19 rfl (lv_at hl 0 rfl) ?_
  refine lv_iconst (v := (nI 0)) hx hb d_MD_open_20 (by decide) ?_
  refine va_put (D := D) (ci := 2) (v := .int (nI 0)) (ty := .int) (C := R_MD) (T := F_MD) (N := 12) hx hb hg i_MD t_MD t_MD_ok n_MD hown hE.1 hP hD hS 0 rfl rfl 5 (by decide) (hg _ zw_493) (fun _ h9 => h9) rfl (by decide +kernel) rfl rfl (Nat.le_of_ble_eq_true rfl) d_MD_open_21 (fun H locs hP hD hS => ?_)
  have hP : va_P D zcl [((gg 0), .inr (2, [.int (nI 0), .int (nI n0), .ref (gg 1), .int (nI n2), .int (nI n3), .int (nI 0), .ref (gg 2), .ref (gg 3), .ref (gg 4), .int (nI rd), .int (nI n4), .ref (gg 5)])), ((gg 1), .inl (cI, 4, .inl e0)), ((gg 2), .inl (cI, 40, .inl e2)), ((gg 3), .inl (cI, 120, .inl e3)), ((gg 4), .inl (cI, 40, .inl e5)), ((gg 5), .inl (cC, 160, .inl e4))] H := hP
  have hD : va_D (zAM gg) [((gg 0), .inr (2, [.int (nI 0), .int (nI n0), .ref (gg 1), .int (nI n2), .int (nI n3), .int (nI 0), .ref (gg 2), .ref (gg 3), .ref (gg 4), .int (nI rd), .int (nI n4), .ref (gg 5)])), ((gg 1), .inl (cI, 4, .inl e0)), ((gg 2), .inl (cI, 40, .inl e2)), ((gg 3), .inl (cI, 120, .inl e3)), ((gg 4), .inl (cI, 40, .inl e5)), ((gg 5), .inl (cC, 160, .inl e4))] := hD
  refine lv_aload_n hx hb d_MD_open_24 rfl (lv_at hl 0 rfl) ?_
  refine va_get (D := D) (ci := 2) (v := .int (nI n3)) (C := R_MD) (T := F_MD) (N := 12) hx hb hg i_MD hown hE.1 hP 0 rfl rfl 4 (by decide) (hg _ zw_492) (fun _ h9 => h9) rfl d_MD_open_25 ?_
  refine lv_iconst (v := (nI 2)) hx hb d_MD_open_28 (by decide) ?_
  by_cases g0 : zs_sh n3 B = 0
  · have hno : ¬ (2 ≤ n3 ∧ B 0 = 83 ∧ 1 ≤ B 1 ∧ B 1 ≤ 3 ∧ 6 + B 1 * 8 ≤ n3) := fun z => by rw [zs_sh, if_pos z] at g0; exact absurd g0 (by decide)
    have rest : ∀ ls : Array Slot, lv_has ls 10 [(0, .ref (gg 0)), (1, .int (nI k))] → W p l e ({ frames := 3, cells := 0, slots := 0, locals := 70 }) s m [.ref (gg 0), .int (nI k)].toArray below meth c H locs 0 0 (MQ below (zQm (some (.int R9.1)) (fun H => zMo D cI cC gg (nI 0) n0 S R9.2.2.1 R9.2.2.2 n3 B n4 E R9.2.1 H) (zAM gg)) [.ref (gg 0), .int (nI k)].toArray s 0 0 (zAM gg)) (F0 m 82 ls []) := by
      intro ls hl
      refine lv_iconst (v := (-1)) hx hb d_MD_open_82 (by decide) ?_
      rw [zs_open, if_pos g0] at hRe
      subst hRe
      exact W.iret (v := (-1)) hx hb hr (fun t ht _ => ⟨rfl, by rw [ht]; exact ⟨rd, e0, e2, e3, e5, e4, hS0, hM, hB, hE9, hP⟩, hS.F ht⟩) hS.2.2 d_MD_open_83
    by_cases c1 : n3 < 2
    · refine lv_icmp_lt hx hb d_MD_open_29 (tgt := 82) (by decide) (fun _ => ?_) (fun z9 => absurd (nI_lt c1 (by omega)) z9)
      exact rest ls hl
    · refine lv_icmp_lt hx hb d_MD_open_29 (tgt := 82) (by decide) (fun z9 => absurd z9 (nI_nlt (by omega) (by omega))) (fun _ => ?_)
      refine lv_aload_n hx hb d_MD_open_32 rfl (lv_at hl 0 rfl) ?_
      refine va_get (D := D) (ci := 2) (v := .ref (gg 3)) (C := R_MD) (T := F_MD) (N := 12) hx hb hg i_MD hown hE.1 hP 0 rfl rfl 7 (by decide) (hg _ zw_495) (fun _ h9 => h9) rfl d_MD_open_33 ?_
      refine lv_iconst (v := (nI 0)) hx hb d_MD_open_36 (by decide) ?_
      refine zald hx hb hE.1 hP 3 0 rfl rfl (by decide) (by decide) d_MD_open_37 ?_
      refine ztop (y := nI (B 0)) ((hB 0 (show 0 < n3 by omega)).1) ?_
      have l0 : B 0 < 256 := (hB 0 (show 0 < n3 by omega)).2
      have l1 : B 1 < 256 := (hB 1 (show 1 < n3 by omega)).2
      refine lv_bipush (v := (nI 83)) hx hb d_MD_open_38 (by decide) ?_
      by_cases c2 : B 0 = 83
      · refine lv_icmp_ne hx hb d_MD_open_40 (tgt := 82) (by decide) (fun z9 => absurd (by rw [c2]) z9) (fun _ => ?_)
        refine lv_aload_n hx hb d_MD_open_43 rfl (lv_at hl 0 rfl) ?_
        refine va_get (D := D) (ci := 2) (v := .ref (gg 3)) (C := R_MD) (T := F_MD) (N := 12) hx hb hg i_MD hown hE.1 hP 0 rfl rfl 7 (by decide) (hg _ zw_495) (fun _ h9 => h9) rfl d_MD_open_44 ?_
        refine lv_iconst (v := (nI 1)) hx hb d_MD_open_47 (by decide) ?_
        refine zald hx hb hE.1 hP 3 0 rfl rfl (by decide) (by decide) d_MD_open_48 ?_
        refine ztop (y := nI (B 1)) ((hB 1 (show 1 < n3 by omega)).1) ?_
        refine lv_iconst (v := (nI 1)) hx hb d_MD_open_49 (by decide) ?_
        by_cases c3 : 1 ≤ B 1
        · refine lv_icmp_lt hx hb d_MD_open_50 (tgt := 82) (by decide) (fun z9 => absurd z9 (nI_nlt (by omega) (by omega))) (fun _ => ?_)
          refine lv_aload_n hx hb d_MD_open_53 rfl (lv_at hl 0 rfl) ?_
          refine va_get (D := D) (ci := 2) (v := .ref (gg 3)) (C := R_MD) (T := F_MD) (N := 12) hx hb hg i_MD hown hE.1 hP 0 rfl rfl 7 (by decide) (hg _ zw_495) (fun _ h9 => h9) rfl d_MD_open_54 ?_
          refine lv_iconst (v := (nI 1)) hx hb d_MD_open_57 (by decide) ?_
          refine zald hx hb hE.1 hP 3 0 rfl rfl (by decide) (by decide) d_MD_open_58 ?_
          refine ztop (y := nI (B 1)) ((hB 1 (show 1 < n3 by omega)).1) ?_
          refine lv_iconst (v := (nI 3)) hx hb d_MD_open_59 (by decide) ?_
          by_cases c4 : B 1 ≤ 3
          · refine lv_icmp_gt hx hb d_MD_open_60 (tgt := 82) (by decide) (fun z9 => absurd z9 (nI_nlt (by omega) (by omega))) (fun _ => ?_)
            refine lv_aload_n hx hb d_MD_open_63 rfl (lv_at hl 0 rfl) ?_
            refine va_get (D := D) (ci := 2) (v := .int (nI n3)) (C := R_MD) (T := F_MD) (N := 12) hx hb hg i_MD hown hE.1 hP 0 rfl rfl 4 (by decide) (hg _ zw_492) (fun _ h9 => h9) rfl d_MD_open_64 ?_
            refine lv_bipush (v := (nI 6)) hx hb d_MD_open_67 (by decide) ?_
            refine lv_bipush (v := (nI 8)) hx hb d_MD_open_69 (by decide) ?_
            refine lv_aload_n hx hb d_MD_open_71 rfl (lv_at hl 0 rfl) ?_
            refine va_get (D := D) (ci := 2) (v := .ref (gg 3)) (C := R_MD) (T := F_MD) (N := 12) hx hb hg i_MD hown hE.1 hP 0 rfl rfl 7 (by decide) (hg _ zw_495) (fun _ h9 => h9) rfl d_MD_open_72 ?_
            refine lv_iconst (v := (nI 1)) hx hb d_MD_open_75 (by decide) ?_
            refine zald hx hb hE.1 hP 3 0 rfl rfl (by decide) (by decide) d_MD_open_76 ?_
            refine ztop (y := nI (B 1)) ((hB 1 (show 1 < n3 by omega)).1) ?_
            refine lv_imul hx hb d_MD_open_77 ?_
            refine lv_iadd hx hb d_MD_open_78 ?_
            refine ztop (y := nI (6 + B 1 * 8)) (by rw [pk_mul, nI_add, Nat.mul_comm]) ?_
            refine lv_icmp_ge hx hb d_MD_open_79 (tgt := 84) (by decide) (fun z9 => absurd z9 (nI_ge (by omega) (by omega))) (fun _ => ?_)
            exact rest ls hl
          · refine lv_icmp_gt hx hb d_MD_open_60 (tgt := 82) (by decide) (fun _ => ?_) (fun z9 => absurd (nI_lt (by omega) (by omega)) z9)
            exact rest ls hl
        · refine lv_icmp_lt hx hb d_MD_open_50 (tgt := 82) (by decide) (fun _ => ?_) (fun z9 => absurd (nI_lt (by omega) (by omega)) z9)
          exact rest ls hl
      · refine lv_icmp_ne hx hb d_MD_open_40 (tgt := 82) (by decide) (fun _ => ?_) (fun z9 => absurd z9 (fun z => c2 ((nI_eq (by omega) (by omega)).mp z)))
        exact rest ls hl
  · have hsh : 2 ≤ n3 ∧ B 0 = 83 ∧ 1 ≤ B 1 ∧ B 1 ≤ 3 ∧ 6 + B 1 * 8 ≤ n3 := by unfold zs_sh at g0; split at g0; assumption; exact absurd rfl g0
    refine lv_icmp_lt hx hb d_MD_open_29 (tgt := 82) (by decide) (fun z9 => absurd z9 (nI_nlt (by omega) (by omega))) (fun _ => ?_)
    refine lv_aload_n hx hb d_MD_open_32 rfl (lv_at hl 0 rfl) ?_
    refine va_get (D := D) (ci := 2) (v := .ref (gg 3)) (C := R_MD) (T := F_MD) (N := 12) hx hb hg i_MD hown hE.1 hP 0 rfl rfl 7 (by decide) (hg _ zw_495) (fun _ h9 => h9) rfl d_MD_open_33 ?_
    refine lv_iconst (v := (nI 0)) hx hb d_MD_open_36 (by decide) ?_
    refine zald hx hb hE.1 hP 3 0 rfl rfl (by decide) (by decide) d_MD_open_37 ?_
    refine ztop (y := nI (B 0)) ((hB 0 (show 0 < n3 by omega)).1) ?_
    refine lv_bipush (v := (nI 83)) hx hb d_MD_open_38 (by decide) ?_
    refine lv_icmp_ne hx hb d_MD_open_40 (tgt := 82) (by decide) (fun z9 => absurd (by rw [hsh.2.1]) z9) (fun _ => ?_)
    refine lv_aload_n hx hb d_MD_open_43 rfl (lv_at hl 0 rfl) ?_
    refine va_get (D := D) (ci := 2) (v := .ref (gg 3)) (C := R_MD) (T := F_MD) (N := 12) hx hb hg i_MD hown hE.1 hP 0 rfl rfl 7 (by decide) (hg _ zw_495) (fun _ h9 => h9) rfl d_MD_open_44 ?_
    refine lv_iconst (v := (nI 1)) hx hb d_MD_open_47 (by decide) ?_
    refine zald hx hb hE.1 hP 3 0 rfl rfl (by decide) (by decide) d_MD_open_48 ?_
    refine ztop (y := nI (B 1)) ((hB 1 (show 1 < n3 by omega)).1) ?_
    refine lv_iconst (v := (nI 1)) hx hb d_MD_open_49 (by decide) ?_
    refine lv_icmp_lt hx hb d_MD_open_50 (tgt := 82) (by decide) (fun z9 => absurd z9 (nI_nlt (by omega) (by omega))) (fun _ => ?_)
    refine lv_aload_n hx hb d_MD_open_53 rfl (lv_at hl 0 rfl) ?_
    refine va_get (D := D) (ci := 2) (v := .ref (gg 3)) (C := R_MD) (T := F_MD) (N := 12) hx hb hg i_MD hown hE.1 hP 0 rfl rfl 7 (by decide) (hg _ zw_495) (fun _ h9 => h9) rfl d_MD_open_54 ?_
    refine lv_iconst (v := (nI 1)) hx hb d_MD_open_57 (by decide) ?_
    refine zald hx hb hE.1 hP 3 0 rfl rfl (by decide) (by decide) d_MD_open_58 ?_
    refine ztop (y := nI (B 1)) ((hB 1 (show 1 < n3 by omega)).1) ?_
    refine lv_iconst (v := (nI 3)) hx hb d_MD_open_59 (by decide) ?_
    refine lv_icmp_gt hx hb d_MD_open_60 (tgt := 82) (by decide) (fun z9 => absurd z9 (nI_nlt (by omega) (by omega))) (fun _ => ?_)
    refine lv_aload_n hx hb d_MD_open_63 rfl (lv_at hl 0 rfl) ?_
    refine va_get (D := D) (ci := 2) (v := .int (nI n3)) (C := R_MD) (T := F_MD) (N := 12) hx hb hg i_MD hown hE.1 hP 0 rfl rfl 4 (by decide) (hg _ zw_492) (fun _ h9 => h9) rfl d_MD_open_64 ?_
    refine lv_bipush (v := (nI 6)) hx hb d_MD_open_67 (by decide) ?_
    refine lv_bipush (v := (nI 8)) hx hb d_MD_open_69 (by decide) ?_
    refine lv_aload_n hx hb d_MD_open_71 rfl (lv_at hl 0 rfl) ?_
    refine va_get (D := D) (ci := 2) (v := .ref (gg 3)) (C := R_MD) (T := F_MD) (N := 12) hx hb hg i_MD hown hE.1 hP 0 rfl rfl 7 (by decide) (hg _ zw_495) (fun _ h9 => h9) rfl d_MD_open_72 ?_
    refine lv_iconst (v := (nI 1)) hx hb d_MD_open_75 (by decide) ?_
    refine zald hx hb hE.1 hP 3 0 rfl rfl (by decide) (by decide) d_MD_open_76 ?_
    refine ztop (y := nI (B 1)) ((hB 1 (show 1 < n3 by omega)).1) ?_
    refine lv_imul hx hb d_MD_open_77 ?_
    refine lv_iadd hx hb d_MD_open_78 ?_
    refine ztop (y := nI (6 + B 1 * 8)) (by rw [pk_mul, nI_add, Nat.mul_comm]) ?_
    refine lv_icmp_ge hx hb d_MD_open_79 (tgt := 84) (by decide) (fun _ => ?_) (fun z9 => absurd (nI_le (by omega) (by omega)) z9)
    refine lv_aload_n hx hb d_MD_open_84 rfl (lv_at hl 0 rfl) ?_
    refine lv_iload_n hx hb d_MD_open_85 rfl (lv_at hl 1 rfl) ?_
    refine zRd (rest := []) (zrV hS9 (c_MD_entryOf l D cI cC cJ gg (nI 0) n0 n2 n3 0 rd n4 e0 e2 e3 e5 e4 (by omega) (by omega) (by omega) (by omega) B hB S hS0 k hk (by omega) (by omega)) zc_MD_entryOf zw_595 zw_597 zp_32 (by decide) (va_recv hE.1 hP (ci := 2) (q := (R_MD, F_MD, 12)) rfl (q0 := 0) rfl) (hP) hE rfl hl.1 rfl (Nat.le_of_ble_eq_true rfl) d_MD_open_86) ?_
    refine lv_istore_n hx hb d_MD_open_89 rfl hl (by decide) (lv' := [(2, .int (zs_ent B (S k) (zs_pw 2 (S k)) 0 (B 1))), (0, .ref (gg 0)), (1, .int (nI k))]) rfl (fun ls hl => ?_)
    refine lv_iload_n hx hb d_MD_open_90 rfl (lv_at hl 0 rfl) ?_
    rcases zs_ent_is B (S k) (zs_pw 2 (S k)) (B 1) 0 with ge | ⟨j, hj, ge⟩
    · refine lv_if_ge hx hb d_MD_open_91 (tgt := 97) (by decide) (fun z9 => absurd z9 (by rw [ge]; decide)) (fun _ => ?_)
      refine lv_bipush (v := (-2)) hx hb d_MD_open_94 (by decide) ?_
      rw [zs_open, if_neg g0, if_pos (by rw [ge]; decide)] at hRe
      subst hRe
      exact W.iret (v := (-2)) hx hb hr (fun t ht _ => ⟨rfl, by rw [ht]; exact ⟨rd, e0, e2, e3, e5, e4, hS0, hM, hB, hE9, hP⟩, hS.F ht⟩) hS.2.2 d_MD_open_96
    · refine lv_if_ge hx hb d_MD_open_91 (tgt := 97) (by decide) (fun _ => ?_) (fun z9 => absurd (by rw [ge]; exact nI_pos' (by omega)) z9)
      have gn : ¬ zs_ent B (S k) (zs_pw 2 (S k)) 0 (B 1) < 0 := by rw [ge]; exact nI_pos (by omega)
      have gc : (zs_ent B (S k) (zs_pw 2 (S k)) 0 (B 1)).toNatClampNeg = 2 + 8 * j := by rw [ge]; exact nI_clamp (by omega)
      rw [zs_open, if_neg g0, if_neg gn, gc] at hRe
      rw [ge] at hl
      refine lv_iconst (v := (nI 2)) hx hb d_MD_open_97 (by decide) ?_
      refine lv_aload_n hx hb d_MD_open_98 rfl (lv_at hl 1 rfl) ?_
      refine va_get (D := D) (ci := 2) (v := .ref (gg 1)) (C := R_MD) (T := F_MD) (N := 12) hx hb hg i_MD hown hE.1 hP 0 rfl rfl 2 (by decide) (hg _ zw_490) (fun _ h9 => h9) rfl d_MD_open_99 ?_
      refine lv_iload_n hx hb d_MD_open_102 rfl (lv_at hl 2 rfl) ?_
      refine zald hx hb hE.1 hP 1 0 rfl rfl (by omega) (by decide) d_MD_open_103 ?_
      refine ztop (y := nI (S k)) ((hS0 k hk).1) ?_
      refine zRd (rest := []) (zrS hS9 (c_MD_power l D cI cC cJ 2 (S k) (by decide) (by omega)) zc_MD_power zw_546 zw_547 (by decide) (trivial) hE rfl hl.1 rfl (Nat.le_of_ble_eq_true rfl) d_MD_open_104) ?_
      refine lv_istore_n hx hb d_MD_open_107 rfl hl (by decide) (lv' := [(3, .int (nI (zs_pw 2 (S k)))), (2, .int (nI (2 + 8 * j))), (0, .ref (gg 0)), (1, .int (nI k))]) rfl (fun ls hl => ?_)
      refine lv_aload_n hx hb d_MD_open_108 rfl (lv_at hl 2 rfl) ?_
      refine lv_iload_n hx hb d_MD_open_109 rfl (lv_at hl 1 rfl) ?_
      refine zRd (rest := []) (zrV hS9 (c_MD_two l D cI cC cJ gg (nI 0) n0 n2 n3 0 rd n4 e0 e2 e3 e5 e4 (by omega) (by omega) (by omega) (by omega) B hB (2 + 8 * j) (by omega)) zc_MD_two zw_599 zw_601 zp_33 (by decide) (va_recv hE.1 hP (ci := 2) (q := (R_MD, F_MD, 12)) rfl (q0 := 0) rfl) (hP) hE rfl hl.1 rfl (Nat.le_of_ble_eq_true rfl) d_MD_open_110) ?_
      refine lv_aload_n hx hb d_MD_open_113 rfl (lv_at hl 2 rfl) ?_
      refine va_get (D := D) (ci := 2) (v := .ref (gg 1)) (C := R_MD) (T := F_MD) (N := 12) hx hb hg i_MD hown hE.1 hP 0 rfl rfl 2 (by decide) (hg _ zw_490) (fun _ h9 => h9) rfl d_MD_open_114 ?_
      refine lv_iload_n hx hb d_MD_open_117 rfl (lv_at hl 3 rfl) ?_
      refine zald hx hb hE.1 hP 1 0 rfl rfl (by omega) (by decide) d_MD_open_118 ?_
      refine ztop (y := nI (S k)) ((hS0 k hk).1) ?_
      have h7 : zs_two B (2 + 8 * j) < 65536 := zs_two_lt ((hB (2 + 8 * j) (show 2 + 8 * j < n3 by omega)).2) ((hB (2 + 8 * j + 1) (show 2 + 8 * j + 1 < n3 by omega)).2)
      refine zRd (rest := []) (zrS hS9 (c_MD_power l D cI cC cJ (zs_two B (2 + 8 * j)) (S k) (by omega) (by omega)) zc_MD_power zw_546 zw_547 (by decide) (trivial) hE rfl hl.1 rfl (Nat.le_of_ble_eq_true rfl) d_MD_open_119) ?_
      refine ztop (y := nI (zs_z B (2 + 8 * j) (S k))) (rfl) ?_
      refine lv_istore hx hb d_MD_open_122 hl (by decide) (lv' := [(4, .int (nI (zs_z B (2 + 8 * j) (S k)))), (3, .int (nI (zs_pw 2 (S k)))), (2, .int (nI (2 + 8 * j))), (0, .ref (gg 0)), (1, .int (nI k))]) rfl (fun ls hl => ?_)
      refine lv_aload_n hx hb d_MD_open_124 rfl (lv_at hl 3 rfl) ?_
      refine lv_iload_n hx hb d_MD_open_125 rfl (lv_at hl 2 rfl) ?_
      refine lv_iconst (v := (nI 2)) hx hb d_MD_open_126 (by decide) ?_
      refine lv_iadd hx hb d_MD_open_127 ?_
      refine ztop (y := nI (2 + 8 * j + 2)) (nI_add _ _) ?_
      refine zRd (rest := []) (zrV hS9 (c_MD_two l D cI cC cJ gg (nI 0) n0 n2 n3 0 rd n4 e0 e2 e3 e5 e4 (by omega) (by omega) (by omega) (by omega) B hB (2 + 8 * j + 2) (by omega)) zc_MD_two zw_599 zw_601 zp_33 (by decide) (va_recv hE.1 hP (ci := 2) (q := (R_MD, F_MD, 12)) rfl (q0 := 0) rfl) (hP) hE rfl hl.1 rfl (Nat.le_of_ble_eq_true rfl) d_MD_open_128) ?_
      refine lv_bipush (v := (nI 16)) hx hb d_MD_open_131 (by decide) ?_
      refine lv_ishl hx hb d_MD_open_133 ?_
      refine lv_aload_n hx hb d_MD_open_134 rfl (lv_at hl 3 rfl) ?_
      refine lv_iload_n hx hb d_MD_open_135 rfl (lv_at hl 2 rfl) ?_
      refine lv_iconst (v := (nI 4)) hx hb d_MD_open_136 (by decide) ?_
      refine lv_iadd hx hb d_MD_open_137 ?_
      refine ztop (y := nI (2 + 8 * j + 4)) (nI_add _ _) ?_
      refine zRd (rest := [.int ((nI (zs_two B (2 + 8 * j + 2))) <<< ((nI 16) &&& 31))]) (zrV hS9 (c_MD_two l D cI cC cJ gg (nI 0) n0 n2 n3 0 rd n4 e0 e2 e3 e5 e4 (by omega) (by omega) (by omega) (by omega) B hB (2 + 8 * j + 4) (by omega)) zc_MD_two zw_599 zw_601 zp_33 (by decide) (va_recv hE.1 hP (ci := 2) (q := (R_MD, F_MD, 12)) rfl (q0 := 0) rfl) (hP) hE rfl hl.1 rfl (Nat.le_of_ble_eq_true rfl) d_MD_open_138) ?_
      refine lv_ior hx hb d_MD_open_141 ?_
      refine lv_iload hx hb d_MD_open_142 (lv_at hl 0 rfl) ?_
      refine lv_iload_n hx hb d_MD_open_144 rfl (lv_at hl 1 rfl) ?_
      refine lv_iconst (v := (nI 1)) hx hb d_MD_open_145 (by decide) ?_
      refine zRd (rest := [.int (((nI (zs_two B (2 + 8 * j + 2))) <<< ((nI 16) &&& 31)) ||| (nI (zs_two B (2 + 8 * j + 4))))]) (zrS hS9 (c_MD_word l D cI cC cJ (nI (zs_z B (2 + 8 * j) (S k))) (nI (zs_pw 2 (S k))) (nI 1)) zc_MD_word zw_573 zw_574 (by decide) (trivial) hE rfl hl.1 rfl (Nat.le_of_ble_eq_true rfl) d_MD_open_146) ?_
      refine lv_ixor hx hb d_MD_open_149 ?_
      refine ztop (y := (zs_un_w B (2 + 8 * j) (S k) (zs_pw 2 (S k)))) (rfl) ?_
      refine lv_istore hx hb d_MD_open_150 hl (by decide) (lv' := [(5, .int (zs_un_w B (2 + 8 * j) (S k) (zs_pw 2 (S k)))), (4, .int (nI (zs_z B (2 + 8 * j) (S k)))), (3, .int (nI (zs_pw 2 (S k)))), (2, .int (nI (2 + 8 * j))), (0, .ref (gg 0)), (1, .int (nI k))]) rfl (fun ls hl => ?_)
      refine lv_iconst (v := (nI 2)) hx hb d_MD_open_152 (by decide) ?_
      refine lv_bipush (v := (nI 8)) hx hb d_MD_open_153 (by decide) ?_
      refine lv_aload_n hx hb d_MD_open_155 rfl (lv_at hl 4 rfl) ?_
      refine va_get (D := D) (ci := 2) (v := .ref (gg 3)) (C := R_MD) (T := F_MD) (N := 12) hx hb hg i_MD hown hE.1 hP 0 rfl rfl 7 (by decide) (hg _ zw_495) (fun _ h9 => h9) rfl d_MD_open_156 ?_
      refine lv_iconst (v := (nI 1)) hx hb d_MD_open_159 (by decide) ?_
      refine zald hx hb hE.1 hP 3 0 rfl rfl (by decide) (by decide) d_MD_open_160 ?_
      refine ztop (y := nI (B 1)) ((hB 1 (show 1 < n3 by omega)).1) ?_
      refine lv_imul hx hb d_MD_open_161 ?_
      refine lv_iadd hx hb d_MD_open_162 ?_
      refine ztop (y := nI (2 + B 1 * 8)) (by rw [pk_mul, nI_add, Nat.mul_comm]) ?_
      refine lv_istore hx hb d_MD_open_163 hl (by decide) (lv' := [(6, .int (nI (2 + B 1 * 8))), (5, .int (zs_un_w B (2 + 8 * j) (S k) (zs_pw 2 (S k)))), (4, .int (nI (zs_z B (2 + 8 * j) (S k)))), (3, .int (nI (zs_pw 2 (S k)))), (2, .int (nI (2 + 8 * j))), (0, .ref (gg 0)), (1, .int (nI k))]) rfl (fun ls hl => ?_)
      refine lv_aload_n hx hb d_MD_open_165 rfl (lv_at hl 5 rfl) ?_
      refine lv_iload hx hb d_MD_open_166 (lv_at hl 0 rfl) ?_
      refine zRd (rest := []) (zrV hS9 (c_MD_two l D cI cC cJ gg (nI 0) n0 n2 n3 0 rd n4 e0 e2 e3 e5 e4 (by omega) (by omega) (by omega) (by omega) B hB (2 + B 1 * 8) (by omega)) zc_MD_two zw_599 zw_601 zp_33 (by decide) (va_recv hE.1 hP (ci := 2) (q := (R_MD, F_MD, 12)) rfl (q0 := 0) rfl) (hP) hE rfl hl.1 rfl (Nat.le_of_ble_eq_true rfl) d_MD_open_168) ?_
      refine lv_aload_n hx hb d_MD_open_171 rfl (lv_at hl 5 rfl) ?_
      refine lv_iconst (v := (nI 0)) hx hb d_MD_open_172 (by decide) ?_
      refine lv_iload hx hb d_MD_open_173 (lv_at hl 0 rfl) ?_
      refine lv_iload hx hb d_MD_open_175 (lv_at hl 1 rfl) ?_
      refine lv_iconst (v := (nI 0)) hx hb d_MD_open_177 (by decide) ?_
      refine lv_iconst (v := (nI 3)) hx hb d_MD_open_178 (by decide) ?_
      refine zRd (rest := [.int (nI (2 + B 1 * 8)), .int (nI 0), .ref (gg 0), .int (nI (zs_two B (2 + B 1 * 8)))]) (zrS hS9 (c_MD_word l D cI cC cJ (zs_un_w B (2 + 8 * j) (S k) (zs_pw 2 (S k))) (nI 0) (nI 3)) zc_MD_word zw_573 zw_574 (by decide) (trivial) hE rfl hl.1 rfl (Nat.le_of_ble_eq_true rfl) d_MD_open_179) ?_
      refine zRd (rest := [.int (nI (zs_two B (2 + B 1 * 8)))]) (zrV hS9 (c_MD_sign l D cI cC cJ gg (nI 0) n0 n2 n3 0 rd n4 e0 e2 e3 e5 e4 (by omega) (by omega) (by omega) (by omega) B hB 0 (2 + B 1 * 8) (by omega) (by omega) (zs_word (zs_un_w B (2 + 8 * j) (S k) (zs_pw 2 (S k))) (nI 0) (nI 3))) zc_MD_sign zw_585 zw_587 zp_31 (by decide) (va_recv hE.1 hP (ci := 2) (q := (R_MD, F_MD, 12)) rfl (q0 := 0) rfl) (hP) hE rfl hl.1 rfl (Nat.le_of_ble_eq_true rfl) d_MD_open_182) ?_
      have l1 : zs_two B (2 + B 1 * 8) < 65536 := zs_two_lt ((hB (2 + B 1 * 8) (show 2 + B 1 * 8 < n3 by omega)).2) ((hB (2 + B 1 * 8 + 1) (show 2 + B 1 * 8 + 1 < n3 by omega)).2)
      have l2 := zs_sg_lt B 0 (2 + B 1 * 8) (zs_word (zs_un_w B (2 + 8 * j) (S k) (zs_pw 2 (S k))) (nI 0) (nI 3))
      by_cases g2 : zs_two B (2 + B 1 * 8) = zs_sg B 0 (2 + B 1 * 8) (zs_word (zs_un_w B (2 + 8 * j) (S k) (zs_pw 2 (S k))) (nI 0) (nI 3))
      · refine lv_icmp_eq hx hb d_MD_open_185 (tgt := 191) (by decide) (fun _ => ?_) (fun z9 => absurd (by rw [g2]) z9)
        rw [if_pos g2] at hRe
        refine lv_iload hx hb d_MD_open_191 (lv_at hl 0 rfl) ?_
        refine lv_iconst (v := (nI 2)) hx hb d_MD_open_193 (by decide) ?_
        refine lv_iadd hx hb d_MD_open_194 ?_
        obtain ⟨ps, hps⟩ : ∃ ps, ps = (2 + B 1 * 8) + 2 := ⟨_, rfl⟩
        refine ztop (y := nI ps) ((nI_add _ _).trans (by rw [hps])) ?_
        rw [← hps] at hRe
        have hps2 : ps + 2 ≤ n3 := by omega
        generalize (zs_un_w B (2 + 8 * j) (S k) (zs_pw 2 (S k))) = fw at hRe hl
        refine lv_istore hx hb d_MD_open_195 hl (by decide) (lv' := [(6, .int (nI ps)), (5, .int fw), (4, .int (nI (zs_z B (2 + 8 * j) (S k)))), (3, .int (nI (zs_pw 2 (S k)))), (2, .int (nI (2 + 8 * j))), (0, .ref (gg 0)), (1, .int (nI k))]) rfl (fun ls hl => ?_)
        refine lv_aload_n hx hb d_MD_open_197 rfl (lv_at hl 5 rfl) ?_
        refine lv_iconst (v := (nI 0)) hx hb d_MD_open_198 (by decide) ?_
        refine va_put (D := D) (ci := 2) (v := .int (nI 0)) (ty := .int) (C := R_MD) (T := F_MD) (N := 12) hx hb hg i_MD t_MD t_MD_ok n_MD hown hE.1 hP hD hS 0 rfl rfl 9 (by decide) (hg _ zw_497) (fun _ h9 => h9) rfl (by decide +kernel) rfl rfl (Nat.le_of_ble_eq_true rfl) d_MD_open_199 (fun H locs hP hD hS => ?_)
        have hP : va_P D zcl [((gg 0), .inr (2, [.int (nI 0), .int (nI n0), .ref (gg 1), .int (nI n2), .int (nI n3), .int (nI 0), .ref (gg 2), .ref (gg 3), .ref (gg 4), .int (nI 0), .int (nI n4), .ref (gg 5)])), ((gg 1), .inl (cI, 4, .inl e0)), ((gg 2), .inl (cI, 40, .inl e2)), ((gg 3), .inl (cI, 120, .inl e3)), ((gg 4), .inl (cI, 40, .inl e5)), ((gg 5), .inl (cC, 160, .inl e4))] H := hP
        have hD : va_D (zAM gg) [((gg 0), .inr (2, [.int (nI 0), .int (nI n0), .ref (gg 1), .int (nI n2), .int (nI n3), .int (nI 0), .ref (gg 2), .ref (gg 3), .ref (gg 4), .int (nI 0), .int (nI n4), .ref (gg 5)])), ((gg 1), .inl (cI, 4, .inl e0)), ((gg 2), .inl (cI, 40, .inl e2)), ((gg 3), .inl (cI, 120, .inl e3)), ((gg 4), .inl (cI, 40, .inl e5)), ((gg 5), .inl (cC, 160, .inl e4))] := hD
        refine lv_iconst (v := (nI 0)) hx hb d_MD_open_202 (by decide) ?_
        refine lv_istore hx hb d_MD_open_203 hl (by decide) (lv' := [(7, .int (nI 0)), (6, .int (nI ps)), (5, .int fw), (4, .int (nI (zs_z B (2 + 8 * j) (S k)))), (3, .int (nI (zs_pw 2 (S k)))), (2, .int (nI (2 + 8 * j))), (0, .ref (gg 0)), (1, .int (nI k))]) rfl (fun ls hl => ?_)
        have fin : ∀ (c7 : Int32) (i : Nat) (F : zs_F) (ex : Nat → Int32) (H : Heap) (locs : List Loc), F.1 ≤ 40 → (if c7 < 0 then c7 else nI F.1, i, F) = R9 → zs_hold 256 ex F → va_P D zcl (zMd cI cC gg (nI 0) n0 n2 n3 i F.1 n4 e0 e2 e3 ex e4) H → va_S (zAM gg) s.heap H locs → ∀ ls : Array Slot, lv_has ls 10 [(7, .int c7), (0, .ref (gg 0))] → W p l e ({ frames := 3, cells := 0, slots := 0, locals := 70 }) s m [.ref (gg 0), .int (nI k)].toArray below meth c H locs 0 0 (MQ below (zQm (some (.int R9.1)) (fun H => zMo D cI cC gg (nI 0) n0 S R9.2.2.1 R9.2.2.2 n3 B n4 E R9.2.1 H) (zAM gg)) [.ref (gg 0), .int (nI k)].toArray s 0 0 (zAM gg)) (F0 m 326 ls []) := by
          intro c7 i F ex H locs hF he hO hP hS ls hl
          have hP : va_P D zcl [((gg 0), .inr (2, [.int (nI 0), .int (nI n0), .ref (gg 1), .int (nI n2), .int (nI n3), .int (nI i), .ref (gg 2), .ref (gg 3), .ref (gg 4), .int (nI F.1), .int (nI n4), .ref (gg 5)])), ((gg 1), .inl (cI, 4, .inl e0)), ((gg 2), .inl (cI, 40, .inl e2)), ((gg 3), .inl (cI, 120, .inl e3)), ((gg 4), .inl (cI, 40, .inl ex)), ((gg 5), .inl (cC, 160, .inl e4))] H := hP
          have hD : va_D (zAM gg) [((gg 0), .inr (2, [.int (nI 0), .int (nI n0), .ref (gg 1), .int (nI n2), .int (nI n3), .int (nI i), .ref (gg 2), .ref (gg 3), .ref (gg 4), .int (nI F.1), .int (nI n4), .ref (gg 5)])), ((gg 1), .inl (cI, 4, .inl e0)), ((gg 2), .inl (cI, 40, .inl e2)), ((gg 3), .inl (cI, 120, .inl e3)), ((gg 4), .inl (cI, 40, .inl ex)), ((gg 5), .inl (cC, 160, .inl e4))] := zMd_D hh
          refine lv_aload_n hx hb d_MD_open_326 rfl (lv_at hl 1 rfl) ?_
          refine lv_aload_n hx hb d_MD_open_327 rfl (lv_at hl 1 rfl) ?_
          refine va_get (D := D) (ci := 2) (v := .int (nI F.1)) (C := R_MD) (T := F_MD) (N := 12) hx hb hg i_MD hown hE.1 hP 0 rfl rfl 9 (by decide) (hg _ zw_497) (fun _ h9 => h9) rfl d_MD_open_328 ?_
          refine va_put (D := D) (ci := 2) (v := .int (nI F.1)) (ty := .int) (C := R_MD) (T := F_MD) (N := 12) hx hb hg i_MD t_MD t_MD_ok n_MD hown hE.1 hP hD hS 0 rfl rfl 3 (by decide) (hg _ zw_491) (fun _ h9 => h9) rfl (by decide +kernel) rfl rfl (Nat.le_of_ble_eq_true rfl) d_MD_open_331 (fun H locs hP hD hS => ?_)
          have hP : va_P D zcl [((gg 0), .inr (2, [.int (nI 0), .int (nI n0), .ref (gg 1), .int (nI F.1), .int (nI n3), .int (nI i), .ref (gg 2), .ref (gg 3), .ref (gg 4), .int (nI F.1), .int (nI n4), .ref (gg 5)])), ((gg 1), .inl (cI, 4, .inl e0)), ((gg 2), .inl (cI, 40, .inl e2)), ((gg 3), .inl (cI, 120, .inl e3)), ((gg 4), .inl (cI, 40, .inl ex)), ((gg 5), .inl (cC, 160, .inl e4))] H := hP
          have hD : va_D (zAM gg) [((gg 0), .inr (2, [.int (nI 0), .int (nI n0), .ref (gg 1), .int (nI F.1), .int (nI n3), .int (nI i), .ref (gg 2), .ref (gg 3), .ref (gg 4), .int (nI F.1), .int (nI n4), .ref (gg 5)])), ((gg 1), .inl (cI, 4, .inl e0)), ((gg 2), .inl (cI, 40, .inl e2)), ((gg 3), .inl (cI, 120, .inl e3)), ((gg 4), .inl (cI, 40, .inl ex)), ((gg 5), .inl (cC, 160, .inl e4))] := hD
          refine lv_iconst (v := (nI 0)) hx hb d_MD_open_334 (by decide) ?_
          refine lv_istore hx hb d_MD_open_335 hl (by decide) (lv' := [(8, .int (nI 0)), (7, .int c7), (0, .ref (gg 0))]) rfl (fun ls hl => ?_)
          have hl : lv_has ls 10 [(8, .int (nI 0)), (7, .int c7), (0, .ref (gg 0))] := lv_sub hl [0, 1, 2] rfl
          have copy : ∀ (k_ : Nat) (j9 : Nat) (ey : Nat → Int32) (H : Heap) (locs : List Loc), j9 + k_ = F.1 → (∀ t, t < j9 → ey t = ex t) → va_P D zcl (zMd cI cC gg (nI 0) n0 F.1 n3 i F.1 n4 e0 ey e3 ex e4) H → va_S (zAM gg) s.heap H locs → ∀ ls : Array Slot, lv_has ls 10 [(8, .int (nI j9)), (7, .int c7), (0, .ref (gg 0))] → W p l e ({ frames := 3, cells := 0, slots := 0, locals := 70 }) s m [.ref (gg 0), .int (nI k)].toArray below meth c H locs 0 0 (MQ below (zQm (some (.int R9.1)) (fun H => zMo D cI cC gg (nI 0) n0 S R9.2.2.1 R9.2.2.2 n3 B n4 E R9.2.1 H) (zAM gg)) [.ref (gg 0), .int (nI k)].toArray s 0 0 (zAM gg)) (F0 m 337 ls []) := by
            intro k_
            induction k_ with
            | zero =>
              intro j9 ey H locs hj9 hc9 hP hS ls hl
              have hP : va_P D zcl [((gg 0), .inr (2, [.int (nI 0), .int (nI n0), .ref (gg 1), .int (nI F.1), .int (nI n3), .int (nI i), .ref (gg 2), .ref (gg 3), .ref (gg 4), .int (nI F.1), .int (nI n4), .ref (gg 5)])), ((gg 1), .inl (cI, 4, .inl e0)), ((gg 2), .inl (cI, 40, .inl ey)), ((gg 3), .inl (cI, 120, .inl e3)), ((gg 4), .inl (cI, 40, .inl ex)), ((gg 5), .inl (cC, 160, .inl e4))] H := hP
              have hD : va_D (zAM gg) [((gg 0), .inr (2, [.int (nI 0), .int (nI n0), .ref (gg 1), .int (nI F.1), .int (nI n3), .int (nI i), .ref (gg 2), .ref (gg 3), .ref (gg 4), .int (nI F.1), .int (nI n4), .ref (gg 5)])), ((gg 1), .inl (cI, 4, .inl e0)), ((gg 2), .inl (cI, 40, .inl ey)), ((gg 3), .inl (cI, 120, .inl e3)), ((gg 4), .inl (cI, 40, .inl ex)), ((gg 5), .inl (cC, 160, .inl e4))] := zMd_D hh
              refine lv_iload hx hb d_MD_open_337 (lv_at hl 0 rfl) ?_
              refine lv_aload_n hx hb d_MD_open_339 rfl (lv_at hl 2 rfl) ?_
              refine va_get (D := D) (ci := 2) (v := .int (nI F.1)) (C := R_MD) (T := F_MD) (N := 12) hx hb hg i_MD hown hE.1 hP 0 rfl rfl 9 (by decide) (hg _ zw_497) (fun _ h9 => h9) rfl d_MD_open_340 ?_
              refine lv_icmp_ge hx hb d_MD_open_343 (tgt := 366) (by decide) (fun _ => ?_) (fun z9 => absurd (nI_le (by omega) (by omega)) z9)
              refine lv_iload hx hb d_MD_open_366 (lv_at hl 1 rfl) ?_
              have hMy : zs_hold 256 ey F := fun t ht => by rw [hc9 t (by omega)]; exact hO t ht
              by_cases g7 : c7 < 0
              · refine lv_if_ge hx hb d_MD_open_368 (tgt := 376) (by decide) (fun z9 => absurd z9 (Int32.not_le.mpr g7)) (fun _ => ?_)
                refine lv_iload hx hb d_MD_open_371 (lv_at hl 1 rfl) ?_
                refine lv_goto hx hb d_MD_open_373 (tgt := 380) (by decide) ?_
                exact W.iret (v := c7) hx hb hr (fun t ht _ => ⟨congrArg (fun z => Outcome.returned (some (Value.int z))) (by rw [← he]; exact (if_pos g7).symm), by rw [ht]; rw [← he]; exact ⟨F.1, e0, ey, e3, ex, e4, hS0, hMy, hB, hE9, hP⟩, hS.F ht⟩) hS.2.2 d_MD_open_380
              · refine lv_if_ge hx hb d_MD_open_368 (tgt := 376) (by decide) (fun _ => ?_) (fun z9 => absurd (Int32.not_lt.mp g7) z9)
                refine lv_aload_n hx hb d_MD_open_376 rfl (lv_at hl 2 rfl) ?_
                refine va_get (D := D) (ci := 2) (v := .int (nI F.1)) (C := R_MD) (T := F_MD) (N := 12) hx hb hg i_MD hown hE.1 hP 0 rfl rfl 3 (by decide) (hg _ zw_491) (fun _ h9 => h9) rfl d_MD_open_377 ?_
                exact W.iret (v := (nI F.1)) hx hb hr (fun t ht _ => ⟨congrArg (fun z => Outcome.returned (some (Value.int z))) (by rw [← he]; exact (if_neg g7).symm), by rw [ht]; rw [← he]; exact ⟨F.1, e0, ey, e3, ex, e4, hS0, hMy, hB, hE9, hP⟩, hS.F ht⟩) hS.2.2 d_MD_open_380
            | succ k_ ih =>
              intro j9 ey H locs hj9 hc9 hP hS ls hl
              have hP : va_P D zcl [((gg 0), .inr (2, [.int (nI 0), .int (nI n0), .ref (gg 1), .int (nI F.1), .int (nI n3), .int (nI i), .ref (gg 2), .ref (gg 3), .ref (gg 4), .int (nI F.1), .int (nI n4), .ref (gg 5)])), ((gg 1), .inl (cI, 4, .inl e0)), ((gg 2), .inl (cI, 40, .inl ey)), ((gg 3), .inl (cI, 120, .inl e3)), ((gg 4), .inl (cI, 40, .inl ex)), ((gg 5), .inl (cC, 160, .inl e4))] H := hP
              have hD : va_D (zAM gg) [((gg 0), .inr (2, [.int (nI 0), .int (nI n0), .ref (gg 1), .int (nI F.1), .int (nI n3), .int (nI i), .ref (gg 2), .ref (gg 3), .ref (gg 4), .int (nI F.1), .int (nI n4), .ref (gg 5)])), ((gg 1), .inl (cI, 4, .inl e0)), ((gg 2), .inl (cI, 40, .inl ey)), ((gg 3), .inl (cI, 120, .inl e3)), ((gg 4), .inl (cI, 40, .inl ex)), ((gg 5), .inl (cC, 160, .inl e4))] := zMd_D hh
              refine lv_iload hx hb d_MD_open_337 (lv_at hl 0 rfl) ?_
              refine lv_aload_n hx hb d_MD_open_339 rfl (lv_at hl 2 rfl) ?_
              refine va_get (D := D) (ci := 2) (v := .int (nI F.1)) (C := R_MD) (T := F_MD) (N := 12) hx hb hg i_MD hown hE.1 hP 0 rfl rfl 9 (by decide) (hg _ zw_497) (fun _ h9 => h9) rfl d_MD_open_340 ?_
              refine lv_icmp_ge hx hb d_MD_open_343 (tgt := 366) (by decide) (fun z9 => absurd z9 (nI_ge (by omega) (by omega))) (fun _ => ?_)
              refine lv_aload_n hx hb d_MD_open_346 rfl (lv_at hl 2 rfl) ?_
              refine va_get (D := D) (ci := 2) (v := .ref (gg 2)) (C := R_MD) (T := F_MD) (N := 12) hx hb hg i_MD hown hE.1 hP 0 rfl rfl 6 (by decide) (hg _ zw_494) (fun _ h9 => h9) rfl d_MD_open_347 ?_
              refine lv_iload hx hb d_MD_open_350 (lv_at hl 0 rfl) ?_
              refine lv_aload_n hx hb d_MD_open_352 rfl (lv_at hl 2 rfl) ?_
              refine va_get (D := D) (ci := 2) (v := .ref (gg 4)) (C := R_MD) (T := F_MD) (N := 12) hx hb hg i_MD hown hE.1 hP 0 rfl rfl 8 (by decide) (hg _ zw_496) (fun _ h9 => h9) rfl d_MD_open_353 ?_
              refine lv_iload hx hb d_MD_open_356 (lv_at hl 0 rfl) ?_
              refine zald hx hb hE.1 hP 4 0 rfl rfl (by omega) (by decide) d_MD_open_358 ?_
              refine zast hx hb hE.1 hP hD hS 2 0 rfl rfl (by omega) (by decide) d_MD_open_359 (fun H locs hP hD hS => ?_)
              have hP : va_P D zcl [((gg 0), .inr (2, [.int (nI 0), .int (nI n0), .ref (gg 1), .int (nI F.1), .int (nI n3), .int (nI i), .ref (gg 2), .ref (gg 3), .ref (gg 4), .int (nI F.1), .int (nI n4), .ref (gg 5)])), ((gg 1), .inl (cI, 4, .inl e0)), ((gg 2), .inl (cI, 40, .inl (upd ey j9 (ex j9)))), ((gg 3), .inl (cI, 120, .inl e3)), ((gg 4), .inl (cI, 40, .inl ex)), ((gg 5), .inl (cC, 160, .inl e4))] H := hP
              have hD : va_D (zAM gg) [((gg 0), .inr (2, [.int (nI 0), .int (nI n0), .ref (gg 1), .int (nI F.1), .int (nI n3), .int (nI i), .ref (gg 2), .ref (gg 3), .ref (gg 4), .int (nI F.1), .int (nI n4), .ref (gg 5)])), ((gg 1), .inl (cI, 4, .inl e0)), ((gg 2), .inl (cI, 40, .inl (upd ey j9 (ex j9)))), ((gg 3), .inl (cI, 120, .inl e3)), ((gg 4), .inl (cI, 40, .inl ex)), ((gg 5), .inl (cC, 160, .inl e4))] := hD
              refine lv_iinc (k := 0) (v := nI (j9 + 1)) hx hb d_MD_open_360 hl rfl (nI_1 j9) (by decide) (lv' := [(8, .int (nI (j9 + 1))), (7, .int c7), (0, .ref (gg 0))]) rfl (fun ls hl => ?_)
              refine lv_goto hx hb d_MD_open_363 (tgt := 337) (by decide) ?_
              have hl : lv_has ls 10 [(8, .int (nI (j9 + 1))), (7, .int c7), (0, .ref (gg 0))] := lv_sub hl [0, 1, 2] rfl
              exact ih (j9 + 1) _ H locs (by omega) (fun t ht => by by_cases e : t = j9; subst e; exact pk_us; rw [pk_un e]; exact hc9 t (by omega)) hP hS ls hl
          exact copy F.1 0 e2 H locs (by omega) (fun _ h => absurd h (Nat.not_lt_zero _)) hP hS ls hl
        have hl : lv_has ls 10 [(6, .int (nI ps)), (7, .int (nI 0)), (5, .int fw), (0, .ref (gg 0))] := lv_sub hl [1, 0, 2, 6] rfl
        have loop : ∀ (k_ : Nat) (i : Nat) (F : zs_F) (ex : Nat → Int32) (H : Heap) (locs : List Loc), i + k_ = ((n3 - ps - 1) / 10) + 1 → F.1 ≤ 40 → zs_take B n3 fw ps k_ i F = R9 → zs_hold 256 ex F → va_P D zcl (zMd cI cC gg (nI 0) n0 n2 n3 i F.1 n4 e0 e2 e3 ex e4) H → va_S (zAM gg) s.heap H locs → ∀ ls : Array Slot, lv_has ls 10 [(6, .int (nI (min (ps + 10 * i) n3))), (7, .int (nI 0)), (5, .int fw), (0, .ref (gg 0))] → W p l e ({ frames := 3, cells := 0, slots := 0, locals := 70 }) s m [.ref (gg 0), .int (nI k)].toArray below meth c H locs 0 0 (MQ below (zQm (some (.int R9.1)) (fun H => zMo D cI cC gg (nI 0) n0 S R9.2.2.1 R9.2.2.2 n3 B n4 E R9.2.1 H) (zAM gg)) [.ref (gg 0), .int (nI k)].toArray s 0 0 (zAM gg)) (F0 m 205 ls []) := by
          intro k_
          induction k_ with
          | zero =>
            intro i F ex H locs hi hF he hO hP hS ls hl
            have hP : va_P D zcl [((gg 0), .inr (2, [.int (nI 0), .int (nI n0), .ref (gg 1), .int (nI n2), .int (nI n3), .int (nI i), .ref (gg 2), .ref (gg 3), .ref (gg 4), .int (nI F.1), .int (nI n4), .ref (gg 5)])), ((gg 1), .inl (cI, 4, .inl e0)), ((gg 2), .inl (cI, 40, .inl e2)), ((gg 3), .inl (cI, 120, .inl e3)), ((gg 4), .inl (cI, 40, .inl ex)), ((gg 5), .inl (cC, 160, .inl e4))] H := hP
            have hD : va_D (zAM gg) [((gg 0), .inr (2, [.int (nI 0), .int (nI n0), .ref (gg 1), .int (nI n2), .int (nI n3), .int (nI i), .ref (gg 2), .ref (gg 3), .ref (gg 4), .int (nI F.1), .int (nI n4), .ref (gg 5)])), ((gg 1), .inl (cI, 4, .inl e0)), ((gg 2), .inl (cI, 40, .inl e2)), ((gg 3), .inl (cI, 120, .inl e3)), ((gg 4), .inl (cI, 40, .inl ex)), ((gg 5), .inl (cC, 160, .inl e4))] := zMd_D hh
            refine lv_iload hx hb d_MD_open_205 (lv_at hl 0 rfl) ?_
            refine lv_aload_n hx hb d_MD_open_207 rfl (lv_at hl 3 rfl) ?_
            refine va_get (D := D) (ci := 2) (v := .int (nI n3)) (C := R_MD) (T := F_MD) (N := 12) hx hb hg i_MD hown hE.1 hP 0 rfl rfl 4 (by decide) (hg _ zw_492) (fun _ h9 => h9) rfl d_MD_open_208 ?_
            refine lv_icmp_ge hx hb d_MD_open_211 (tgt := 326) (by decide) (fun _ => ?_) (fun z9 => absurd (nI_le (by omega) (by omega)) z9)
            have hl : lv_has ls 10 [(7, .int (nI 0)), (0, .ref (gg 0))] := lv_sub hl [1, 3] rfl
            exact fin (nI 0) i F ex H locs hF (by rw [if_neg (by decide)]; exact he) hO hP hS ls hl
          | succ k_ ih =>
            intro i F ex H locs hi hF he hO hP hS ls hl
            have hP : va_P D zcl [((gg 0), .inr (2, [.int (nI 0), .int (nI n0), .ref (gg 1), .int (nI n2), .int (nI n3), .int (nI i), .ref (gg 2), .ref (gg 3), .ref (gg 4), .int (nI F.1), .int (nI n4), .ref (gg 5)])), ((gg 1), .inl (cI, 4, .inl e0)), ((gg 2), .inl (cI, 40, .inl e2)), ((gg 3), .inl (cI, 120, .inl e3)), ((gg 4), .inl (cI, 40, .inl ex)), ((gg 5), .inl (cC, 160, .inl e4))] H := hP
            have hD : va_D (zAM gg) [((gg 0), .inr (2, [.int (nI 0), .int (nI n0), .ref (gg 1), .int (nI n2), .int (nI n3), .int (nI i), .ref (gg 2), .ref (gg 3), .ref (gg 4), .int (nI F.1), .int (nI n4), .ref (gg 5)])), ((gg 1), .inl (cI, 4, .inl e0)), ((gg 2), .inl (cI, 40, .inl e2)), ((gg 3), .inl (cI, 120, .inl e3)), ((gg 4), .inl (cI, 40, .inl ex)), ((gg 5), .inl (cC, 160, .inl e4))] := zMd_D hh
            have hmi : (min (ps + 10 * i) n3) = ps + 10 * i := Nat.min_eq_left (by omega)
            rw [hmi] at hl
            refine lv_iload hx hb d_MD_open_205 (lv_at hl 0 rfl) ?_
            refine lv_aload_n hx hb d_MD_open_207 rfl (lv_at hl 3 rfl) ?_
            refine va_get (D := D) (ci := 2) (v := .int (nI n3)) (C := R_MD) (T := F_MD) (N := 12) hx hb hg i_MD hown hE.1 hP 0 rfl rfl 4 (by decide) (hg _ zw_492) (fun _ h9 => h9) rfl d_MD_open_208 ?_
            refine lv_icmp_ge hx hb d_MD_open_211 (tgt := 326) (by decide) (fun z9 => absurd z9 (nI_ge (by omega) (by omega))) (fun _ => ?_)
            refine lv_iload hx hb d_MD_open_214 (lv_at hl 1 rfl) ?_
            refine lv_if_ne hx hb d_MD_open_216 (tgt := 326) (by decide) (fun z9 => absurd (rfl) z9) (fun _ => ?_)
            refine lv_aload_n hx hb d_MD_open_219 rfl (lv_at hl 3 rfl) ?_
            refine va_get (D := D) (ci := 2) (v := .int (nI n3)) (C := R_MD) (T := F_MD) (N := 12) hx hb hg i_MD hown hE.1 hP 0 rfl rfl 4 (by decide) (hg _ zw_492) (fun _ h9 => h9) rfl d_MD_open_220 ?_
            refine lv_iload hx hb d_MD_open_223 (lv_at hl 0 rfl) ?_
            refine lv_isub hx hb d_MD_open_225 ?_
            refine ztop (y := nI (n3 - (ps + 10 * i))) (pk_sub (by omega)) ?_
            refine lv_istore hx hb d_MD_open_226 hl (by decide) (lv' := [(8, .int (nI (n3 - (ps + 10 * i)))), (6, .int (nI (ps + 10 * i))), (7, .int (nI 0)), (5, .int fw), (0, .ref (gg 0))]) rfl (fun ls hl => ?_)
            refine lv_iload hx hb d_MD_open_228 (lv_at hl 0 rfl) ?_
            refine lv_bipush (v := (nI 10)) hx hb d_MD_open_230 (by decide) ?_
            by_cases g1 : n3 < ps + 10 * i + 2
            · refine lv_icmp_le hx hb d_MD_open_232 (tgt := 240) (by decide) (fun _ => ?_) (fun z9 => absurd (nI_le (by omega) (by omega)) z9)
              refine lv_iload hx hb d_MD_open_240 (lv_at hl 0 rfl) ?_
              refine lv_iconst (v := (nI 2)) hx hb d_MD_open_242 (by decide) ?_
              refine lv_isub hx hb d_MD_open_243 ?_
              refine lv_istore hx hb d_MD_open_244 hl (by decide) (lv' := [(9, .int ((nI (n3 - (ps + 10 * i))) - (nI 2))), (8, .int (nI (n3 - (ps + 10 * i)))), (6, .int (nI (ps + 10 * i))), (7, .int (nI 0)), (5, .int fw), (0, .ref (gg 0))]) rfl (fun ls hl => ?_)
              refine lv_iload hx hb d_MD_open_246 (lv_at hl 1 rfl) ?_
              refine lv_iconst (v := (nI 1)) hx hb d_MD_open_248 (by decide) ?_
              refine lv_icmp_ne hx hb d_MD_open_249 (tgt := 257) (by decide) (fun z9 => absurd (by rw [show n3 - (ps + 10 * i) = 1 by omega]) z9) (fun _ => ?_)
              refine lv_bipush (v := (-4)) hx hb d_MD_open_252 (by decide) ?_
              refine lv_goto hx hb d_MD_open_254 (tgt := 283) (by decide) ?_
              refine lv_istore hx hb d_MD_open_283 hl (by decide) (lv' := [(7, .int (-4)), (9, .int ((nI (n3 - (ps + 10 * i))) - (nI 2))), (8, .int (nI (n3 - (ps + 10 * i)))), (6, .int (nI (ps + 10 * i))), (5, .int fw), (0, .ref (gg 0))]) rfl (fun ls hl => ?_)
              refine lv_iload hx hb d_MD_open_285 (lv_at hl 0 rfl) ?_
              refine lv_if_ne hx hb d_MD_open_287 (tgt := 323) (by decide) (fun _ => ?_) (fun z9 => absurd z9 (by decide))
              refine lv_goto hx hb d_MD_open_323 (tgt := 205) (by decide) ?_
              refine lv_iload hx hb d_MD_open_205 (lv_at hl 3 rfl) ?_
              refine lv_aload_n hx hb d_MD_open_207 rfl (lv_at hl 5 rfl) ?_
              refine va_get (D := D) (ci := 2) (v := .int (nI n3)) (C := R_MD) (T := F_MD) (N := 12) hx hb hg i_MD hown hE.1 hP 0 rfl rfl 4 (by decide) (hg _ zw_492) (fun _ h9 => h9) rfl d_MD_open_208 ?_
              refine lv_icmp_ge hx hb d_MD_open_211 (tgt := 326) (by decide) (fun z9 => absurd z9 (nI_ge (by omega) (by omega))) (fun _ => ?_)
              refine lv_iload hx hb d_MD_open_214 (lv_at hl 0 rfl) ?_
              refine lv_if_ne hx hb d_MD_open_216 (tgt := 326) (by decide) (fun _ => ?_) (fun z9 => absurd z9 (by decide))
              have hl : lv_has ls 10 [(7, .int (-4)), (0, .ref (gg 0))] := lv_sub hl [0, 5] rfl
              rw [zs_take, if_pos g1] at he
              exact fin (-4) i F ex H locs hF (by rw [if_pos (by decide)]; exact he) hO hP hS ls hl
            · have hte : ps + 10 * i ≤ (zs_te n3 ps i) ∧ (zs_te n3 ps i) + 2 ≤ n3 := by unfold zs_te; split <;> omega
              have htl : (zs_tl n3 ps i) < 2 := by unfold zs_tl; split <;> decide
              rw [zs_take, if_neg g1] at he
              have rest : ∀ ls : Array Slot, lv_has ls 10 [(8, .int (nI (n3 - (ps + 10 * i)))), (6, .int (nI (ps + 10 * i))), (7, .int (nI 0)), (5, .int fw), (0, .ref (gg 0))] → W p l e ({ frames := 3, cells := 0, slots := 0, locals := 70 }) s m [.ref (gg 0), .int (nI k)].toArray below meth c H locs 0 0 (MQ below (zQm (some (.int R9.1)) (fun H => zMo D cI cC gg (nI 0) n0 S R9.2.2.1 R9.2.2.2 n3 B n4 E R9.2.1 H) (zAM gg)) [.ref (gg 0), .int (nI k)].toArray s 0 0 (zAM gg)) (F0 m 244 ls [.int (nI ((zs_te n3 ps i) - (ps + 10 * i)))]) := by
                intro ls hl
                refine lv_istore hx hb d_MD_open_244 hl (by decide) (lv' := [(9, .int (nI ((zs_te n3 ps i) - (ps + 10 * i)))), (8, .int (nI (n3 - (ps + 10 * i)))), (6, .int (nI (ps + 10 * i))), (7, .int (nI 0)), (5, .int fw), (0, .ref (gg 0))]) rfl (fun ls hl => ?_)
                refine lv_iload hx hb d_MD_open_246 (lv_at hl 1 rfl) ?_
                refine lv_iconst (v := (nI 1)) hx hb d_MD_open_248 (by decide) ?_
                refine lv_icmp_ne hx hb d_MD_open_249 (tgt := 257) (by decide) (fun _ => ?_) (fun z9 => absurd z9 (fun z => absurd ((nI_eq (by omega) (by omega)).mp z) (by omega)))
                refine lv_aload_n hx hb d_MD_open_257 rfl (lv_at hl 5 rfl) ?_
                refine lv_iload hx hb d_MD_open_258 (lv_at hl 2 rfl) ?_
                refine lv_iload hx hb d_MD_open_260 (lv_at hl 0 rfl) ?_
                refine lv_aload_n hx hb d_MD_open_262 rfl (lv_at hl 5 rfl) ?_
                refine va_get (D := D) (ci := 2) (v := .int (nI i)) (C := R_MD) (T := F_MD) (N := 12) hx hb hg i_MD hown hE.1 hP 0 rfl rfl 5 (by decide) (hg _ zw_493) (fun _ h9 => h9) rfl d_MD_open_263 ?_
                refine lv_iload hx hb d_MD_open_266 (lv_at hl 4 rfl) ?_
                refine lv_iload hx hb d_MD_open_268 (lv_at hl 1 rfl) ?_
                refine lv_bipush (v := (nI 10)) hx hb d_MD_open_270 (by decide) ?_
                have rest2 : ∀ ls : Array Slot, lv_has ls 10 [(9, .int (nI ((zs_te n3 ps i) - (ps + 10 * i)))), (8, .int (nI (n3 - (ps + 10 * i)))), (6, .int (nI (ps + 10 * i))), (7, .int (nI 0)), (5, .int fw), (0, .ref (gg 0))] → W p l e ({ frames := 3, cells := 0, slots := 0, locals := 70 }) s m [.ref (gg 0), .int (nI k)].toArray below meth c H locs 0 0 (MQ below (zQm (some (.int R9.1)) (fun H => zMo D cI cC gg (nI 0) n0 S R9.2.2.1 R9.2.2.2 n3 B n4 E R9.2.1 H) (zAM gg)) [.ref (gg 0), .int (nI k)].toArray s 0 0 (zAM gg)) (F0 m 280 ls [.int (nI (zs_tl n3 ps i)), .int fw, .int (nI i), .int (nI ((zs_te n3 ps i) - (ps + 10 * i))), .int (nI (ps + 10 * i)), .ref (gg 0)]) := by
                  intro ls hl
                  refine zRd (rest := []) (zrV hS9 (c_MD_piece l D cI cC cJ gg (nI 0) n0 n2 n3 i F.1 n4 e0 e2 e3 ex e4 (by omega) (by omega) (by omega) (by omega) B hB (ps + 10 * i) ((zs_te n3 ps i) - (ps + 10 * i)) i (zs_tl n3 ps i) fw (by omega) htl) zc_MD_piece zw_603 zw_605 zp_34 (by decide) (va_recv hE.1 hP (ci := 2) (q := (R_MD, F_MD, 12)) rfl (q0 := 0) rfl) (hP) hE rfl hl.1 rfl (Nat.le_of_ble_eq_true rfl) d_MD_open_280) ?_
                  have hat : (ps + 10 * i) + ((zs_te n3 ps i) - (ps + 10 * i)) = (zs_te n3 ps i) := by omega
                  rw [hat]
                  refine lv_istore hx hb d_MD_open_283 hl (by decide) (lv' := [(7, .int (zs_pcode B (ps + 10 * i) (zs_te n3 ps i) fw i (zs_tl n3 ps i))), (9, .int (nI ((zs_te n3 ps i) - (ps + 10 * i)))), (8, .int (nI (n3 - (ps + 10 * i)))), (6, .int (nI (ps + 10 * i))), (5, .int fw), (0, .ref (gg 0))]) rfl (fun ls hl => ?_)
                  refine lv_iload hx hb d_MD_open_285 (lv_at hl 0 rfl) ?_
                  by_cases g3 : zs_two B (zs_te n3 ps i) = zs_sg B (ps + 10 * i) (zs_te n3 ps i) (zs_word fw (nI i) (zs_use (zs_tl n3 ps i)))
                  · have hpc : (zs_pcode B (ps + 10 * i) (zs_te n3 ps i) fw i (zs_tl n3 ps i)) = nI 0 := if_pos g3
                    rw [if_pos g3] at he
                    refine lv_if_ne hx hb d_MD_open_287 (tgt := 323) (by decide) (fun z9 => absurd (hpc) z9) (fun _ => ?_)
                    rw [hpc] at hl
                    refine lv_aload_n hx hb d_MD_open_290 rfl (lv_at hl 5 rfl) ?_
                    refine lv_iload hx hb d_MD_open_291 (lv_at hl 3 rfl) ?_
                    refine lv_iload hx hb d_MD_open_293 (lv_at hl 1 rfl) ?_
                    refine lv_aload_n hx hb d_MD_open_295 rfl (lv_at hl 5 rfl) ?_
                    refine va_get (D := D) (ci := 2) (v := .int (nI i)) (C := R_MD) (T := F_MD) (N := 12) hx hb hg i_MD hown hE.1 hP 0 rfl rfl 5 (by decide) (hg _ zw_493) (fun _ h9 => h9) rfl d_MD_open_296 ?_
                    refine lv_iload hx hb d_MD_open_299 (lv_at hl 4 rfl) ?_
                    refine zWr (rest := []) (zrV hS9 (c_MD_uncover l D cI cC cJ gg (nI 0) n0 n2 n3 i F.1 n4 e0 e2 e3 ex e4 (by omega) (by omega) (by omega) (by omega) hh B hB F.2 hO hF fw (ps + 10 * i) ((zs_te n3 ps i) - (ps + 10 * i)) i (by omega)) zc_MD_uncover zw_607 zw_609 zp_35 (by decide) (va_recv hE.1 hP (ci := 2) (q := (R_MD, F_MD, 12)) rfl (q0 := 0) rfl) (hP) hE rfl hl.1 rfl (Nat.le_of_ble_eq_true rfl) d_MD_open_301) hS (fun _ _ h => h) (fun _ h => h) (fun H locs hP hz hk9 hS => ?_)
                    obtain ⟨ez, hO, hP⟩ := hP
                    have hP : va_P D zcl [((gg 0), .inr (2, [.int (nI 0), .int (nI n0), .ref (gg 1), .int (nI n2), .int (nI n3), .int (nI i), .ref (gg 2), .ref (gg 3), .ref (gg 4), .int (nI ((zs_unc B fw i (ps + 10 * i) F ((zs_te n3 ps i) - (ps + 10 * i))).1)), .int (nI n4), .ref (gg 5)])), ((gg 1), .inl (cI, 4, .inl e0)), ((gg 2), .inl (cI, 40, .inl e2)), ((gg 3), .inl (cI, 120, .inl e3)), ((gg 4), .inl (cI, 40, .inl ez)), ((gg 5), .inl (cC, 160, .inl e4))] H := hP
                    have hD : va_D (zAM gg) [((gg 0), .inr (2, [.int (nI 0), .int (nI n0), .ref (gg 1), .int (nI n2), .int (nI n3), .int (nI i), .ref (gg 2), .ref (gg 3), .ref (gg 4), .int (nI ((zs_unc B fw i (ps + 10 * i) F ((zs_te n3 ps i) - (ps + 10 * i))).1)), .int (nI n4), .ref (gg 5)])), ((gg 1), .inl (cI, 4, .inl e0)), ((gg 2), .inl (cI, 40, .inl e2)), ((gg 3), .inl (cI, 120, .inl e3)), ((gg 4), .inl (cI, 40, .inl ez)), ((gg 5), .inl (cC, 160, .inl e4))] := zMd_D hh
                    have hO : zs_hold 256 ez (zs_unc B fw i (ps + 10 * i) F ((zs_te n3 ps i) - (ps + 10 * i))) := hO
                    refine lv_aload_n hx hb d_MD_open_304 rfl (lv_at hl 5 rfl) ?_
                    refine lv_dup hx hb d_MD_open_305 rfl ?_
                    refine va_get (D := D) (ci := 2) (v := .int (nI i)) (C := R_MD) (T := F_MD) (N := 12) hx hb hg i_MD hown hE.1 hP 0 rfl rfl 5 (by decide) (hg _ zw_493) (fun _ h9 => h9) rfl d_MD_open_306 ?_
                    refine lv_iconst (v := (nI 1)) hx hb d_MD_open_309 (by decide) ?_
                    refine lv_iadd hx hb d_MD_open_310 ?_
                    refine ztop (y := nI (i + 1)) (nI_1 i) ?_
                    refine va_put (D := D) (ci := 2) (v := .int (nI (i + 1))) (ty := .int) (C := R_MD) (T := F_MD) (N := 12) hx hb hg i_MD t_MD t_MD_ok n_MD hown hE.1 hP hD hS 0 rfl rfl 5 (by decide) (hg _ zw_493) (fun _ h9 => h9) rfl (by decide +kernel) rfl rfl (Nat.le_of_ble_eq_true rfl) d_MD_open_311 (fun H locs hP hD hS => ?_)
                    have hP : va_P D zcl [((gg 0), .inr (2, [.int (nI 0), .int (nI n0), .ref (gg 1), .int (nI n2), .int (nI n3), .int (nI (i + 1)), .ref (gg 2), .ref (gg 3), .ref (gg 4), .int (nI ((zs_unc B fw i (ps + 10 * i) F ((zs_te n3 ps i) - (ps + 10 * i))).1)), .int (nI n4), .ref (gg 5)])), ((gg 1), .inl (cI, 4, .inl e0)), ((gg 2), .inl (cI, 40, .inl e2)), ((gg 3), .inl (cI, 120, .inl e3)), ((gg 4), .inl (cI, 40, .inl ez)), ((gg 5), .inl (cC, 160, .inl e4))] H := hP
                    have hD : va_D (zAM gg) [((gg 0), .inr (2, [.int (nI 0), .int (nI n0), .ref (gg 1), .int (nI n2), .int (nI n3), .int (nI (i + 1)), .ref (gg 2), .ref (gg 3), .ref (gg 4), .int (nI ((zs_unc B fw i (ps + 10 * i) F ((zs_te n3 ps i) - (ps + 10 * i))).1)), .int (nI n4), .ref (gg 5)])), ((gg 1), .inl (cI, 4, .inl e0)), ((gg 2), .inl (cI, 40, .inl e2)), ((gg 3), .inl (cI, 120, .inl e3)), ((gg 4), .inl (cI, 40, .inl ez)), ((gg 5), .inl (cC, 160, .inl e4))] := hD
                    refine lv_iload hx hb d_MD_open_314 (lv_at hl 3 rfl) ?_
                    refine lv_iload hx hb d_MD_open_316 (lv_at hl 1 rfl) ?_
                    refine lv_iadd hx hb d_MD_open_318 ?_
                    refine lv_iconst (v := (nI 2)) hx hb d_MD_open_319 (by decide) ?_
                    refine lv_iadd hx hb d_MD_open_320 ?_
                    refine ztop (y := nI (min (ps + 10 * (i + 1)) n3)) (by rw [nI_add, nI_add, show ps + 10 * i + ((zs_te n3 ps i) - (ps + 10 * i)) + 2 = (min (ps + 10 * (i + 1)) n3) by unfold zs_te; split <;> omega]) ?_
                    refine lv_istore hx hb d_MD_open_321 hl (by decide) (lv' := [(6, .int (nI (min (ps + 10 * (i + 1)) n3))), (7, .int (nI 0)), (9, .int (nI ((zs_te n3 ps i) - (ps + 10 * i)))), (8, .int (nI (n3 - (ps + 10 * i)))), (5, .int fw), (0, .ref (gg 0))]) rfl (fun ls hl => ?_)
                    refine lv_goto hx hb d_MD_open_323 (tgt := 205) (by decide) ?_
                    have hl : lv_has ls 10 [(6, .int (nI (min (ps + 10 * (i + 1)) n3))), (7, .int (nI 0)), (5, .int fw), (0, .ref (gg 0))] := lv_sub hl [0, 1, 4, 5] rfl
                    exact ih (i + 1) (zs_unc B fw i (ps + 10 * i) F ((zs_te n3 ps i) - (ps + 10 * i))) ez H locs (by omega) (zs_unc_le B fw i (ps + 10 * i) hF _) he hO hP hS ls hl
                  · rw [if_neg g3] at he
                    by_cases g4 : zs_two B (zs_te n3 ps i) = zs_sg B (ps + 10 * i) (zs_te n3 ps i) (zs_word fw (nI i) (zs_use (1 - (zs_tl n3 ps i))))
                    · have hpc : (zs_pcode B (ps + 10 * i) (zs_te n3 ps i) fw i (zs_tl n3 ps i)) = -5 := (if_neg g3).trans (if_pos g4)
                      rw [if_pos g4] at he
                      refine lv_if_ne hx hb d_MD_open_287 (tgt := 323) (by decide) (fun _ => ?_) (fun z9 => absurd z9 (by rw [hpc]; decide))
                      refine lv_goto hx hb d_MD_open_323 (tgt := 205) (by decide) ?_
                      refine lv_iload hx hb d_MD_open_205 (lv_at hl 3 rfl) ?_
                      refine lv_aload_n hx hb d_MD_open_207 rfl (lv_at hl 5 rfl) ?_
                      refine va_get (D := D) (ci := 2) (v := .int (nI n3)) (C := R_MD) (T := F_MD) (N := 12) hx hb hg i_MD hown hE.1 hP 0 rfl rfl 4 (by decide) (hg _ zw_492) (fun _ h9 => h9) rfl d_MD_open_208 ?_
                      refine lv_icmp_ge hx hb d_MD_open_211 (tgt := 326) (by decide) (fun z9 => absurd z9 (nI_ge (by omega) (by omega))) (fun _ => ?_)
                      refine lv_iload hx hb d_MD_open_214 (lv_at hl 0 rfl) ?_
                      refine lv_if_ne hx hb d_MD_open_216 (tgt := 326) (by decide) (fun _ => ?_) (fun z9 => absurd z9 (by rw [hpc]; decide))
                      have hl : lv_has ls 10 [(7, .int (zs_pcode B (ps + 10 * i) (zs_te n3 ps i) fw i (zs_tl n3 ps i))), (0, .ref (gg 0))] := lv_sub hl [0, 5] rfl
                      rw [hpc] at hl
                      exact fin (-5) i F ex H locs hF (by rw [if_pos (by decide)]; exact he) hO hP hS ls hl
                    · have hpc : (zs_pcode B (ps + 10 * i) (zs_te n3 ps i) fw i (zs_tl n3 ps i)) = -4 := (if_neg g3).trans (if_neg g4)
                      rw [if_neg g4] at he
                      refine lv_if_ne hx hb d_MD_open_287 (tgt := 323) (by decide) (fun _ => ?_) (fun z9 => absurd z9 (by rw [hpc]; decide))
                      refine lv_goto hx hb d_MD_open_323 (tgt := 205) (by decide) ?_
                      refine lv_iload hx hb d_MD_open_205 (lv_at hl 3 rfl) ?_
                      refine lv_aload_n hx hb d_MD_open_207 rfl (lv_at hl 5 rfl) ?_
                      refine va_get (D := D) (ci := 2) (v := .int (nI n3)) (C := R_MD) (T := F_MD) (N := 12) hx hb hg i_MD hown hE.1 hP 0 rfl rfl 4 (by decide) (hg _ zw_492) (fun _ h9 => h9) rfl d_MD_open_208 ?_
                      refine lv_icmp_ge hx hb d_MD_open_211 (tgt := 326) (by decide) (fun z9 => absurd z9 (nI_ge (by omega) (by omega))) (fun _ => ?_)
                      refine lv_iload hx hb d_MD_open_214 (lv_at hl 0 rfl) ?_
                      refine lv_if_ne hx hb d_MD_open_216 (tgt := 326) (by decide) (fun _ => ?_) (fun z9 => absurd z9 (by rw [hpc]; decide))
                      have hl : lv_has ls 10 [(7, .int (zs_pcode B (ps + 10 * i) (zs_te n3 ps i) fw i (zs_tl n3 ps i))), (0, .ref (gg 0))] := lv_sub hl [0, 5] rfl
                      rw [hpc] at hl
                      exact fin (-4) i F ex H locs hF (by rw [if_pos (by decide)]; exact he) hO hP hS ls hl
                by_cases gl : n3 ≤ ps + 10 * i + 10
                · refine lv_icmp_gt hx hb d_MD_open_272 (tgt := 279) (by decide) (fun z9 => absurd z9 (nI_nlt (by omega) (by omega))) (fun _ => ?_)
                  refine lv_iconst (v := (nI 1)) hx hb d_MD_open_275 (by decide) ?_
                  refine lv_goto hx hb d_MD_open_276 (tgt := 280) (by decide) ?_
                  refine ztop (y := nI (zs_tl n3 ps i)) (by rw [zs_tl, if_pos gl]) ?_
                  exact rest2 ls hl
                · refine lv_icmp_gt hx hb d_MD_open_272 (tgt := 279) (by decide) (fun _ => ?_) (fun z9 => absurd (nI_lt (by omega) (by omega)) z9)
                  refine lv_iconst (v := (nI 0)) hx hb d_MD_open_279 (by decide) ?_
                  refine ztop (y := nI (zs_tl n3 ps i)) (by rw [zs_tl, if_neg gl]) ?_
                  exact rest2 ls hl
              by_cases gl : n3 ≤ ps + 10 * i + 10
              · refine lv_icmp_le hx hb d_MD_open_232 (tgt := 240) (by decide) (fun _ => ?_) (fun z9 => absurd (nI_le (by omega) (by omega)) z9)
                refine lv_iload hx hb d_MD_open_240 (lv_at hl 0 rfl) ?_
                refine lv_iconst (v := (nI 2)) hx hb d_MD_open_242 (by decide) ?_
                refine lv_isub hx hb d_MD_open_243 ?_
                refine ztop (y := nI ((zs_te n3 ps i) - (ps + 10 * i))) ((pk_sub (by omega)).trans (by rw [zs_te, if_pos gl, show n3 - (ps + 10 * i) - 2 = n3 - 2 - (ps + 10 * i) by omega])) ?_
                exact rest ls hl
              · refine lv_icmp_le hx hb d_MD_open_232 (tgt := 240) (by decide) (fun z9 => absurd z9 (nI_ge (by omega) (by omega))) (fun _ => ?_)
                refine lv_bipush (v := (nI 8)) hx hb d_MD_open_235 (by decide) ?_
                refine lv_goto hx hb d_MD_open_237 (tgt := 244) (by decide) ?_
                refine ztop (y := nI ((zs_te n3 ps i) - (ps + 10 * i))) (by rw [zs_te, if_neg gl, Nat.add_sub_cancel_left]) ?_
                exact rest ls hl
        refine loop (((n3 - ps - 1) / 10) + 1) 0 (0, fun _ => 0) e5 H locs (by omega) (by omega) hRe zs_hold_0 hP hS ls ?_
        rw [Nat.mul_zero, Nat.add_zero, Nat.min_eq_left (by omega)]
        exact hl
      · refine lv_icmp_eq hx hb d_MD_open_185 (tgt := 191) (by decide) (fun z9 => absurd z9 (fun z => g2 ((nI_eq (by omega) (by omega)).mp z))) (fun _ => ?_)
        refine lv_bipush (v := (-3)) hx hb d_MD_open_188 (by decide) ?_
        rw [if_neg g2] at hRe
        subst hRe
        exact W.iret (v := (-3)) hx hb hr (fun t ht _ => ⟨rfl, by rw [ht]; exact ⟨rd, e0, e2, e3, e5, e4, hS0, hM, hB, hE9, hP⟩, hS.F ht⟩) hS.2.2 d_MD_open_190

